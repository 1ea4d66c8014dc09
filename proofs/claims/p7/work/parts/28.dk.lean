/-- the rows that the document's readers look at are alike -/
def DK0 (sg : Nat → Int32) (gm : Nat → Nat → Int32) (lg : Nat → Nat → Int64) (sg2 : Nat → Int32) (gm2 : Nat → Nat → Int32) (lg2 : Nat → Nat → Int64) : Prop := sg2 24 = sg 24 ∧ gm2 26 = gm 26 ∧ gm2 28 = gm 28 ∧ gm2 29 = gm 29 ∧ gm2 30 = gm 30 ∧ gm2 36 = gm 36 ∧ gm2 37 = gm 37 ∧ gm2 38 = gm 38 ∧ lg2 35 = lg 35
def DK (sg : Nat → Int32) (gm : Nat → Nat → Int32) (lg : Nat → Nat → Int64) (sg2 : Nat → Int32) (gm2 : Nat → Nat → Int32) (lg2 : Nat → Nat → Int64) : Prop := DK0 sg gm lg sg2 gm2 lg2 ∧ sg2 41 = sg 41 ∧ gm2 42 = gm 42 ∧ gm2 43 = gm 43
theorem KS_n {α : Type} {L : List Nat} {f g : Nat → α} (h : KS L f g) (k : Nat) (q : L.contains k = false) : g k = f k := h k q
theorem DK0_of {sg sg2 : Nat → Int32} {gm gm2 : Nat → Nat → Int32} {lg lg2 : Nat → Nat → Int64} {Ls Lg Ll : List Nat} (h1 : KS Ls sg sg2) (h2 : KS Lg gm gm2) (h3 : KS Ll lg lg2) (q1 : Ls.contains 24 = false) (q2 : ([26, 28, 29, 30, 36, 37, 38].all fun k => !Lg.contains k) = true) (q3 : Ll.contains 35 = false) : DK0 sg gm lg sg2 gm2 lg2 := by
  have g : ∀ k ∈ [26, 28, 29, 30, 36, 37, 38], gm2 k = gm k := fun k hk => h2 k (by have := List.all_eq_true.mp q2 k hk; simpa using this)
  exact ⟨h1 24 q1, g 26 (by decide), g 28 (by decide), g 29 (by decide), g 30 (by decide), g 36 (by decide), g 37 (by decide), g 38 (by decide), h3 35 q3⟩
theorem DK_of {sg sg2 : Nat → Int32} {gm gm2 : Nat → Nat → Int32} {lg lg2 : Nat → Nat → Int64} {Ls Lg Ll : List Nat} (h1 : KS Ls sg sg2) (h2 : KS Lg gm gm2) (h3 : KS Ll lg lg2) (q1 : (Ls.contains 24 || Ls.contains 41) = false) (q2 : ([26, 28, 29, 30, 36, 37, 38, 42, 43].all fun k => !Lg.contains k) = true) (q3 : Ll.contains 35 = false) : DK sg gm lg sg2 gm2 lg2 := by
  have g : ∀ k ∈ [26, 28, 29, 30, 36, 37, 38, 42, 43], gm2 k = gm k := fun k hk => h2 k (by have := List.all_eq_true.mp q2 k hk; simpa using this)
  have q4 := Bool.or_eq_false_iff.mp q1
  exact ⟨⟨h1 24 q4.1, g 26 (by decide), g 28 (by decide), g 29 (by decide), g 30 (by decide), g 36 (by decide), g 37 (by decide), g 38 (by decide), h3 35 q3⟩, h1 41 q4.2, g 42 (by decide), g 43 (by decide)⟩
section DKL
variable {sg sg2 : Nat → Int32} {gm gm2 : Nat → Nat → Int32} {lg lg2 : Nat → Nat → Int64}
theorem mFind_k (h : DK0 sg gm lg sg2 gm2 lg2) (e : Nat) (nn : Int64) : mFind gm2 lg2 e nn = mFind gm lg e nn := by
  obtain ⟨h24, h26, h28, h29, h30, h36, h37, h38, h35⟩ := h
  unfold mFind; rw [h30, h35]
theorem mHas_k (h : DK0 sg gm lg sg2 gm2 lg2) (e : Nat) (nn : Int64) : mHas gm2 lg2 e nn = mHas gm lg e nn := by
  unfold mHas; rw [mFind_k h]
theorem mWord_k (h : DK0 sg gm lg sg2 gm2 lg2) (e : Nat) (nn : Int64) : mWord gm2 lg2 e nn = mWord gm lg e nn := by
  have f := mFind_k h e nn
  obtain ⟨h24, h26, h28, h29, h30, h36, h37, h38, h35⟩ := h
  unfold mWord; rw [f, h36, h37, h38]
theorem ahN_k (h : DK0 sg gm lg sg2 gm2 lg2) (e : Nat) : ∀ k, ahN gm2 e k = ahN gm e k := by
  obtain ⟨h24, h26, h28, h29, h30, h36, h37, h38, h35⟩ := h
  intro k
  induction k with
  | zero => rfl
  | succ k ih => show ahN gm2 e k + _ = ahN gm e k + _; rw [ih, h28, h26]
theorem GOOD_k (h : DK0 sg gm lg sg2 gm2 lg2) {e : Nat} (q : GOOD gm lg e) : GOOD gm2 lg2 e := by
  have f1 := mHas_k h e
  have f2 := mWord_k h e
  have f3 := ahN_k h e e
  obtain ⟨h24, h26, h28, h29, h30, h36, h37, h38, h35⟩ := h
  unfold GOOD HOLD OL at *
  rw [h26, h29, f1, f1, f1, f2, f2, f3]
  exact q
theorem STR_k (h : DK0 sg gm lg sg2 gm2 lg2) (q : STR sg gm lg) : STR sg2 gm2 lg2 := by
  have f := @GOOD_k _ _ _ _ _ _ h
  obtain ⟨h24, h26, h28, h29, h30, h36, h37, h38, h35⟩ := h
  refine ⟨fun k hk => f (q.1 k (by rw [← h24]; exact hk)), ?_⟩
  rw [h24, h26]; exact q.2
theorem TRE_k (h : DK0 sg gm lg sg2 gm2 lg2) (q : TRE sg gm) : TRE sg2 gm2 := by
  obtain ⟨h24, h26, h28, h29, h30, h36, h37, h38, h35⟩ := h
  exact TRE_keep q h24 h28 h29
theorem qWid_k (h : DK sg gm lg sg2 gm2 lg2) (w : Int64) : qWid gm2 lg2 w = qWid gm lg w := by
  funext j
  have f := mWord_k h.1
  obtain ⟨⟨h24, h26, h28, h29, h30, h36, h37, h38, h35⟩, h41, h42, h43⟩ := h
  unfold qWid; rw [h42, h28, f]
theorem mWid_k (h : DK sg gm lg sg2 gm2 lg2) (w : Int64) : mWid sg2 gm2 lg2 w = mWid sg gm lg w := by
  unfold mWid; rw [qWid_k h, h.2.1]
theorem mPar_k (h : DK sg gm lg sg2 gm2 lg2) : mPar sg2 gm2 lg2 = mPar sg gm lg := by
  funext b
  unfold mPar; rw [mHas_k h.1, mWord_k h.1, mWid_k h, h.2.2.1]
theorem BEL_k (h : DK sg gm lg sg2 gm2 lg2) (q : BEL sg gm) : BEL sg2 gm2 := by
  obtain ⟨⟨h24, h26, h28, h29, h30, h36, h37, h38, h35⟩, h41, h42, h43⟩ := h
  unfold BEL at *; rw [h41, h42, h24, h26, h43]; exact q
theorem ACY_k (h : DK sg gm lg sg2 gm2 lg2) (q : ACY sg gm lg) : ACY sg2 gm2 lg2 := by
  unfold ACY; rw [mPar_k h, h.2.1]; exact q
theorem dP_k (h : DK sg gm lg sg2 gm2 lg2) : dP sg2 gm2 lg2 = dP sg gm lg := by
  funext b; unfold dP; rw [mPar_k h]
theorem qInn_k (h : DK0 sg gm lg sg2 gm2 lg2) (a kd : Int32) : qInn gm2 a kd = qInn gm a kd := by
  funext j
  obtain ⟨h24, h26, h28, h29, h30, h36, h37, h38, h35⟩ := h
  unfold qInn; rw [h28, h26]
theorem mInn_k (h : DK0 sg gm lg sg2 gm2 lg2) (a kd bh : Int32) : mInn sg2 gm2 a kd bh = mInn sg gm a kd bh := by
  unfold mInn; rw [qInn_k h, h.1]
theorem telF_k (h : DK sg gm lg sg2 gm2 lg2) (nn : Int64) : ∀ n b, telF sg2 gm2 lg2 nn n b = telF sg gm lg nn n b := by
  intro n
  induction n with
  | zero => intro b; rfl
  | succ n ih => intro b; show (if _ then _ else _) = (if _ then _ else _); rw [mHas_k h.1, ih, mPar_k h, h.2.2.1]
theorem mTel_k (h : DK sg gm lg sg2 gm2 lg2) (b : Int32) (nn : Int64) : mTel sg2 gm2 lg2 b nn = mTel sg gm lg b nn := by
  unfold mTel; rw [telF_k h, dP_k h]
theorem aoF_k (h : DK sg gm lg sg2 gm2 lg2) : ∀ n b, aoF sg2 gm2 lg2 n b = aoF sg gm lg n b := by
  intro n
  induction n with
  | zero => intro b; rfl
  | succ n ih => intro b; show (if _ then _ else _) = (if _ then _ else _); rw [mInn_k h.1, ih, mPar_k h, h.2.2.1]
theorem mAO_k (h : DK sg gm lg sg2 gm2 lg2) (b : Int32) : mAO sg2 gm2 lg2 b = mAO sg gm lg b := by
  unfold mAO; rw [aoF_k h, dP_k h]
theorem argF_k (h : DK0 sg gm lg sg2 gm2 lg2) (a : Int32) : ∀ n, argF sg2 gm2 a n = argF sg gm a n := by
  intro n
  induction n with
  | zero => exact mInn_k h a 4 0
  | succ n ih => show (if _ then _ else _) = (if _ then _ else _); rw [ih, mInn_k h]
theorem mArg_k (h : DK sg gm lg sg2 gm2 lg2) (b : Int32) (n : Nat) : mArg sg2 gm2 lg2 b n = mArg sg gm lg b n := by
  unfold mArg; rw [argF_k h.1, mAO_k h, h.2.2.1]
end DKL
def mWn (gm : Nat → Nat → Int32) (lg : Nat → Nat → Int64) (e : Nat) : Int64 := mWord gm lg e 1851878757
theorem mWn_k {sg sg2 : Nat → Int32} {gm gm2 : Nat → Nat → Int32} {lg lg2 : Nat → Nat → Int64} (h : DK0 sg gm lg sg2 gm2 lg2) : mWn gm2 lg2 = mWn gm lg := by
  funext e; exact mWord_k h e _
def LW (W : Nat → Int64) (e : Nat) : Prop := 97 ≤ (W e).toInt ∧ (W e).toInt ≤ 122
/-- a row of elements whose names are letters, no two alike -/
def ROWL (W : Nat → Int64) (f : Nat → Int32) (B n : Nat) : Prop := ∀ k, k < n → LW W (f (B + k)).toNatClampNeg ∧ ∀ i, i < k → ¬ W (f (B + i)).toNatClampNeg = W (f (B + k)).toNatClampNeg
theorem row_room {W : Nat → Int64} {f : Nat → Int32} {B n : Nat} {x : Int32} (h : ROWL W f B n) (hx : LW W x.toNatClampNeg) (hn : n ≤ 26) (hne : ∀ k, 0 ≤ k → k < n → ¬ W (f (B + k)).toNatClampNeg = W x.toNatClampNeg) : n ≤ 25 := by
  by_cases h25 : n ≤ 25
  · exact h25
  exfalso
  have e26 : n = 26 := by omega
  subst e26
  obtain ⟨i, j, h1, h2, h3⟩ := pigeon 26 (fun k => if k < 26 then ((W (f (B + k)).toNatClampNeg).toInt - 97).toNat else ((W x.toNatClampNeg).toInt - 97).toNat) (fun k hk => by
    show (if k < 26 then _ else _) < 26
    by_cases q : k < 26
    · rw [if_pos q]; have := (h k q).1; unfold LW at this; omega
    · rw [if_neg q]; unfold LW at hx; omega)
  have h3 : (if i < 26 then ((W (f (B + i)).toNatClampNeg).toInt - 97).toNat else ((W x.toNatClampNeg).toInt - 97).toNat) = (if j < 26 then ((W (f (B + j)).toNatClampNeg).toInt - 97).toNat else ((W x.toNatClampNeg).toInt - 97).toNat) := h3
  rw [if_pos (show i < 26 by omega)] at h3
  have gi := (h i (by omega)).1
  unfold LW at gi hx
  by_cases q : j < 26
  · rw [if_pos q] at h3
    have gj := h j q
    have gj1 := gj.1
    unfold LW at gj1
    exact gj.2 i h1 (Int64.toInt_inj.mp (by omega))
  · rw [if_neg q] at h3
    exact hne i (Nat.zero_le _) (by omega) (Int64.toInt_inj.mp (by omega))
def RWF (f f2 : Nat → Int32) (B : Nat) : Prop := ∀ j, j < B ∨ B + 26 ≤ j → f2 j = f j
def RWK (f f2 : Nat → Int32) (B n n2 : Nat) (x : Int32) : Prop := ∀ k, k < n2 → f2 (B + k) = x ∨ (k < n ∧ f2 (B + k) = f (B + k))
theorem row_rep {W : Nat → Int64} {f f2 : Nat → Int32} {B n k j : Nat} {x : Int32} (h : ROWL W f B n) (h2 : f2 = upd f j x) (hj : j = B + k) (hk : k < n) (hn : n ≤ 26) (hw : W (f (B + k)).toNatClampNeg = W x.toNatClampNeg) : ROWL W f2 B n ∧ RWF f f2 B ∧ RWK f f2 B n n x := by
  subst hj
  have o : ∀ i, i ≠ k → f2 (B + i) = f (B + i) := fun i hi => by rw [h2, upd_ne (by omega)]
  have a : f2 (B + k) = x := by rw [h2, upd_at]
  have w : ∀ i, W (f2 (B + i)).toNatClampNeg = W (f (B + i)).toNatClampNeg := fun i => by
    by_cases q : i = k
    · subst q; rw [a]; exact hw.symm
    · rw [o i q]
  refine ⟨fun i hi => ⟨?_, fun i2 h3 => ?_⟩, fun i hi => ?_, fun i hi => ?_⟩
  · have := (h i hi).1; unfold LW at *; rw [w]; exact this
  · rw [w, w]; exact (h i hi).2 i2 h3
  · rw [h2, upd_ne (by omega)]
  · by_cases q : i = k
    · subst q; exact Or.inl a
    · exact Or.inr ⟨hi, o i q⟩
theorem row_app {W : Nat → Int64} {f f2 : Nat → Int32} {B n j : Nat} {x : Int32} (h : ROWL W f B n) (hx : LW W x.toNatClampNeg) (hn : n ≤ 25) (hne : ∀ k, 0 ≤ k → k < n → ¬ W (f (B + k)).toNatClampNeg = W x.toNatClampNeg) (h2 : f2 = upd f j x) (hj : j = B + n) : ROWL W f2 B (n + 1) ∧ RWF f f2 B ∧ RWK f f2 B n (n + 1) x := by
  subst hj
  have o : ∀ i, i ≠ n → f2 (B + i) = f (B + i) := fun i hi => by rw [h2, upd_ne (by omega)]
  have a : f2 (B + n) = x := by rw [h2, upd_at]
  refine ⟨fun i hi => ?_, fun i hi => ?_, fun i hi => ?_⟩
  · by_cases q : i = n
    · subst q
      rw [a]
      exact ⟨hx, fun i2 h3 => by rw [o i2 (by omega)]; exact hne i2 (Nat.zero_le _) h3⟩
    · rw [o i q]
      exact ⟨(h i (by omega)).1, fun i2 h3 => by rw [o i2 (by omega)]; exact (h i (by omega)).2 i2 h3⟩
  · rw [h2, upd_ne (by omega)]
  · by_cases q : i = n
    · subst q; exact Or.inl a
    · exact Or.inr ⟨by omega, o i q⟩
theorem cl_add {x y z : Int32} {a b c d : Int} (hx : iv a b x) (hy : iv c d y) (ha : 0 ≤ a) (hc : 0 ≤ c) (h : z.toInt = x.toInt + y.toInt) : z.toNatClampNeg = x.toNatClampNeg + y.toNatClampNeg := by
  have k1 := iv_cl hx ha
  have k2 := iv_cl hy hc
  have k3 := iv_cl (a := 0) (b := z.toInt) (x := z) ⟨by have := hx.1; have := hy.1; omega, Int.le_refl _⟩ (by decide)
  omega
/-- the rows of bean b while they are put together -/
def MBS (W : Nat → Int64) (K : Int32 → Prop) (gm gm2 : Nat → Nat → Int32) (b : Nat) : Prop := ROWL W (gm2 45) (26 * b) (gm2 44 b).toNatClampNeg ∧ (∀ k, k < (gm2 44 b).toNatClampNeg → K (gm2 45 (26 * b + k))) ∧ (∀ j, j ≠ b → gm2 44 j = gm 44 j) ∧ RWF (gm 45) (gm2 45) (26 * b) ∧ ROWL W (gm2 47) (26 * b) (gm2 46 b).toNatClampNeg
theorem MBS_0 {W : Nat → Int64} {K : Int32 → Prop} {gm gm2 : Nat → Nat → Int32} {b : Nat} (h44 : gm2 44 = upd (gm 44) b 0) (h46 : gm2 46 = upd (gm 46) b 0) (h45 : gm2 45 = gm 45) : MBS W K gm gm2 b := by
  have e1 : (gm2 44 b).toNatClampNeg = 0 := by rw [h44, upd_at]; rfl
  have e2 : (gm2 46 b).toNatClampNeg = 0 := by rw [h46, upd_at]; rfl
  unfold MBS
  rw [e1, e2]
  exact ⟨fun k hk => by omega, fun k hk => by omega, fun j hj => by rw [h44, upd_ne hj], fun j _ => by rw [h45], fun k hk => by omega⟩
theorem MBS_s {W : Nat → Int64} {K : Int32 → Prop} {gm gm2 gm3 gm4 : Nat → Nat → Int32} {b : Nat} {x r : Int32} (h : MBS W K gm gm2 b) (h1 : ROWL W (gm3 45) (26 * b) r.toNatClampNeg) (h2 : RWF (gm2 45) (gm3 45) (26 * b)) (h3 : RWK (gm2 45) (gm3 45) (26 * b) (gm2 44 b).toNatClampNeg r.toNatClampNeg x) (hx : K x) (e44 : gm4 44 = upd (gm2 44) b r) (e45 : gm4 45 = gm3 45) (e46 : gm4 46 = gm2 46) (e47 : gm4 47 = gm2 47) : MBS W K gm gm4 b := by
  obtain ⟨a1, a2, a3, a4, a5⟩ := h
  have e1 : gm4 44 b = r := by rw [e44, upd_at]
  unfold MBS
  rw [e1, e45, e46, e47]
  refine ⟨h1, fun k hk => ?_, fun j hj => by rw [e44, upd_ne hj]; exact a3 j hj, fun j hj => (h2 j hj).trans (a4 j hj), a5⟩
  rcases h3 k hk with q | ⟨q1, q2⟩
  · rw [q]; exact hx
  · rw [q2]; exact a2 k q1
theorem MBS_l {W : Nat → Int64} {K : Int32 → Prop} {gm gm2 gm4 : Nat → Nat → Int32} {b : Nat} {r : Int32} (h : MBS W K gm gm2 b) (h1 : ROWL W (gm4 47) (26 * b) r.toNatClampNeg) (e46 : gm4 46 = upd (gm2 46) b r) (e45 : gm4 45 = gm2 45) (e44 : gm4 44 = gm2 44) : MBS W K gm gm4 b := by
  obtain ⟨a1, a2, a3, a4, a5⟩ := h
  have e1 : gm4 46 b = r := by rw [e46, upd_at]
  unfold MBS
  rw [e1, e45, e44]
  exact ⟨a1, a2, a3, a4, h1⟩
/-- an element of this kind, of those there are -/
def SEK (sg : Nat → Int32) (gm : Nat → Nat → Int32) (kd : Int32) (x : Int32) : Prop := iv 0 79 x ∧ gm 26 x.toNatClampNeg = kd ∧ x.toNatClampNeg < (sg 24).toNatClampNeg
theorem SEK_of {sg : Nat → Int32} {gm : Nat → Nat → Int32} {a kd bh r : Int32} (hn : iv 0 80 (sg 24)) (hk : ¬ kd = 0) (hr : r = mInn sg gm a kd bh) : r = -1 ∨ (SEK sg gm kd r ∧ bh.toNatClampNeg < r.toNatClampNeg) := by
  rcases mInn_or (gm := gm) (a := a) (kd := kd) (bh := bh) hn with q | ⟨q1, q2, q3, q4, q5, _⟩
  · exact Or.inl (hr.trans q.1)
  · rw [← hr] at q1 q2 q3 q4 q5
    exact Or.inr ⟨⟨iv_w q1 (by decide), q5.resolve_left hk, q3⟩, q2⟩
def mE (x : Int32) : Nat := if x = -1 then 0 else (81 - x.toInt).toNat
theorem mE_lt {x r : Int32} (hx : iv 0 79 x) (hr : iv (-1) 79 r) (h : r = -1 ∨ x.toNatClampNeg < r.toNatClampNeg) : mE r < mE x := by
  have k1 := iv_cl hx (by decide)
  have k2 := hx.2
  have hm : ¬ x = -1 := fun q => by have := hx.1; rw [q] at this; exact absurd this (by decide)
  unfold mE
  rw [if_neg hm]
  rcases h with h | h
  · rw [if_pos h]; omega
  · by_cases q : r = -1
    · rw [if_pos q]; omega
    · rw [if_neg q]
      have q5 : r.toInt ≠ -1 := fun z => q (Int32.toInt_inj.mp z)
      have k3 := iv_cl (show iv 0 79 r from ⟨by have := hr.1; omega, hr.2⟩) (by decide)
      omega
theorem dpF_le (f : Int32 → Int32) : ∀ n b, dpF f n b ≤ n := by
  intro n
  induction n with
  | zero => intro b; exact Nat.le_refl 0
  | succ n ih =>
    intro b
    have h1 := ih (f b)
    rw [dpF_s]
    by_cases h : b = -1
    · rw [if_pos h]; omega
    · rw [if_neg h]; omega
theorem dP_le {sg : Nat → Int32} {gm : Nat → Nat → Int32} {lg : Nat → Nat → Int64} (b : Int32) : dP sg gm lg b ≤ 81 := dpF_le _ 81 b
theorem cl26 {b z : Int32} (hb : iv 0 79 b) (h : z.toInt = 26 * b.toInt) : z.toNatClampNeg = 26 * b.toNatClampNeg := by
  have k1 := iv_cl hb (by decide)
  have k3 := iv_cl (a := 0) (b := z.toInt) (x := z) ⟨by have := hb.1; omega, Int.le_refl _⟩ (by decide)
  omega
theorem SEK_ol {sg : Nat → Int32} {gm : Nat → Nat → Int32} {lg : Nat → Nat → Int64} {kd x : Int32} (h : STR sg gm lg) (hx : SEK sg gm kd x) (hk : kd = 5 ∨ kd = 10) : LW (mWn gm lg) x.toNatClampNeg := by
  obtain ⟨h1, h2, h3⟩ := hx
  refine (h.1 _ h3).2.2.1 ?_
  rw [h2]
  rcases hk with rfl | rfl
  · exact Or.inl rfl
  · exact Or.inr rfl
def DOC1 (sg : Nat → Int32) (gm : Nat → Nat → Int32) (lg : Nat → Nat → Int64) : Prop := TRE sg gm ∧ STR sg gm lg ∧ BEL sg gm ∧ ACY sg gm lg
theorem DOC1_k {sg sg2 : Nat → Int32} {gm gm2 : Nat → Nat → Int32} {lg lg2 : Nat → Nat → Int64} (h : DK sg gm lg sg2 gm2 lg2) (q : DOC1 sg gm lg) : DOC1 sg2 gm2 lg2 := ⟨TRE_k h.1 q.1, STR_k h.1 q.2.1, BEL_k h q.2.2.1, ACY_k h q.2.2.2⟩
def SETn (sg : Nat → Int32) (gm : Nat → Nat → Int32) (n : Nat) : Prop := ∀ b, b < n → ∀ k, k < (gm 44 b).toNatClampNeg → SEK sg gm 5 (gm 45 (26 * b + k))
def DOC (sg : Nat → Int32) (gm : Nat → Nat → Int32) (lg : Nat → Nat → Int64) : Prop := DOC1 sg gm lg ∧ SETn sg gm (sg 41).toNatClampNeg
theorem SETn_k {sg sg2 : Nat → Int32} {gm gm2 : Nat → Nat → Int32} {n : Nat} (h24 : sg2 24 = sg 24) (h26 : gm2 26 = gm 26) (h44 : gm2 44 = gm 44) (h45 : gm2 45 = gm 45) (q : SETn sg gm n) : SETn sg2 gm2 n := by
  unfold SETn SEK at *; rw [h24, h26, h44, h45]; exact q
theorem DOC_k {sg sg2 : Nat → Int32} {gm gm2 : Nat → Nat → Int32} {lg lg2 : Nat → Nat → Int64} (h : DK sg gm lg sg2 gm2 lg2) (h44 : gm2 44 = gm 44) (h45 : gm2 45 = gm 45) (q : DOC sg gm lg) : DOC sg2 gm2 lg2 := ⟨DOC1_k h q.1, by rw [h.2.1]; exact SETn_k h.1.1 h.1.2.1 h44 h45 q.2⟩
theorem DOC_of {sg sg2 : Nat → Int32} {gm gm2 : Nat → Nat → Int32} {lg lg2 : Nat → Nat → Int64} {Ls Lg Ll : List Nat} (q : DOC sg gm lg) (h1 : KS Ls sg sg2) (h2 : KS Lg gm gm2) (h3 : KS Ll lg lg2) (q1 : (Ls.contains 24 || Ls.contains 41) = false) (q2 : ([26, 28, 29, 30, 36, 37, 38, 42, 43].all fun k => !Lg.contains k) = true) (q3 : Ll.contains 35 = false) (q4 : (Lg.contains 44 || Lg.contains 45) = false) : DOC sg2 gm2 lg2 := by
  have q5 := Bool.or_eq_false_iff.mp q4
  exact DOC_k (DK_of h1 h2 h3 q1 q2 q3) (h2 44 q5.1) (h2 45 q5.2) q
theorem SETn_s {W : Nat → Int64} {sg sg2 : Nat → Int32} {gm gm2 : Nat → Nat → Int32} {n : Nat} (hI : MI sg gm) (hn : n < 80) (h : SETn sg gm n) (hb : MBS W (SEK sg gm 5) gm gm2 n) (h24 : sg2 24 = sg 24) (h26 : gm2 26 = gm 26) : SETn sg2 gm2 (n + 1) := by
  obtain ⟨a1, a2, a3, a4, a5⟩ := hb
  have tr : ∀ x, SEK sg gm 5 x → SEK sg2 gm2 5 x := fun x hx => by unfold SEK at *; rw [h24, h26]; exact hx
  intro b h1 k h2
  by_cases q : b = n
  · subst q; exact tr _ (a2 k h2)
  · rw [a3 b q] at h2
    have r1 : iv 0 26 (gm 44 b) := hI.2 44 b (show b < 80 by omega)
    have r2 := iv_cl r1 (by decide)
    have r3 := r1.2
    rw [a4 (26 * b + k) (by omega)]
    exact tr _ (h b (by omega) k h2)
def BELn (sg : Nat → Int32) (gm : Nat → Nat → Int32) (n : Nat) : Prop := (∀ x : Nat, x < n → (gm 26 x).toInt = 3 → (gm 43 x).toInt < (sg 41).toInt) ∧ ∀ b, b < (sg 41).toNatClampNeg → 1 ≤ (gm 42 b).toNatClampNeg ∧ (gm 42 b).toNatClampNeg < n ∧ (gm 26 (gm 42 b).toNatClampNeg).toInt = 3 ∧ gm 43 (gm 42 b).toNatClampNeg = nI b
theorem BELn_0 {sg : Nat → Int32} {gm : Nat → Nat → Int32} (h : (sg 41).toInt = 0) : BELn sg gm 0 := ⟨fun x hx => absurd hx (Nat.not_lt_zero _), fun b hb => by
  have := iv_cl (a := 0) (b := 0) (x := sg 41) ⟨by omega, by omega⟩ (by decide)
  omega⟩
theorem BELn_w {sg : Nat → Int32} {gm : Nat → Nat → Int32} {n : Nat} (h : BELn sg gm n) (hk : (gm 26 n).toInt ≠ 3) : BELn sg gm (n + 1) := ⟨fun x hx h3 => by
  by_cases q : x = n
  · subst q; exact absurd h3 hk
  · exact h.1 x (by omega) h3, fun b hb => by
  obtain ⟨h1, h2, h3, h4⟩ := h.2 b hb
  exact ⟨h1, by omega, h3, h4⟩⟩
theorem BELn_e {sg : Nat → Int32} {gm : Nat → Nat → Int32} {x : Int32} (hx : iv 0 80 x) (hn : iv 0 80 (sg 24)) (hl : (sg 24).toInt ≤ x.toInt) (h2 : x.toInt ≤ (sg 24).toInt) (h : BELn sg gm x.toNatClampNeg) : BEL sg gm := by
  have k1 := iv_cl hx (by decide)
  have k2 := iv_cl hn (by decide)
  have e1 : x.toNatClampNeg = (sg 24).toNatClampNeg := by omega
  rw [e1] at h
  exact h
theorem BELn_s {sg sg2 : Nat → Int32} {gm gm2 : Nat → Nat → Int32} {x : Int32} (hx : iv 0 79 x) (hb : iv 0 79 (sg 41)) (h : BELn sg gm x.toNatClampNeg) (h1 : (sg2 41).toInt = (sg 41).toInt + 1) (h43 : gm2 43 = upd (gm 43) x.toNatClampNeg (sg 41)) (h42 : gm2 42 = upd (gm 42) (sg 41).toNatClampNeg x) (h26 : gm2 26 = gm 26) (hk : (gm 26 x.toNatClampNeg).toInt = 3) (h0 : (gm 26 0).toInt ≠ 3) : BELn sg2 gm2 (x.toNatClampNeg + 1) := by
  have k1 := s_cl hb (by decide) h1
  refine ⟨fun y hy h3 => ?_, ?_⟩
  · rw [h26] at h3
    rw [h43]
    by_cases q : y = x.toNatClampNeg
    · subst q; rw [upd_at]; omega
    · rw [upd_ne q]; have := h.1 y (by omega) h3; omega
  intro b hlt
  have x0 : x.toNatClampNeg ≠ 0 := fun q => by rw [q] at hk; exact h0 hk
  rw [h26]
  by_cases q : b = (sg 41).toNatClampNeg
  · subst q
    have e1 : gm2 42 (sg 41).toNatClampNeg = x := by rw [h42, upd_at]
    rw [e1]
    refine ⟨by omega, by omega, hk, ?_⟩
    rw [h43, upd_at, iv_nI hb (by decide)]
  · obtain ⟨a1, a2, a3, a4⟩ := h.2 b (by omega)
    have e1 : gm2 42 b = gm 42 b := by rw [h42, upd_ne q]
    rw [e1]
    refine ⟨a1, by omega, a3, ?_⟩
    rw [h43, upd_ne (by omega)]
    exact a4
/-- nothing is made, nothing is being made -/
def CLn (gm : Nat → Nat → Int32) (n : Nat) : Prop := ∀ j, 0 ≤ j → j < n → gm 60 j = -1 ∧ gm 61 j = 0 ∧ gm 62 j = 0
def CLR (sg : Nat → Int32) (gm : Nat → Nat → Int32) : Prop := (sg 50).toInt = 0 ∧ CLn gm 80
theorem CLR_k {sg sg2 : Nat → Int32} {gm gm2 : Nat → Nat → Int32} (h50 : sg2 50 = sg 50) (h60 : gm2 60 = gm 60) (h61 : gm2 61 = gm 61) (h62 : gm2 62 = gm 62) (h : CLR sg gm) : CLR sg2 gm2 := by
  unfold CLR CLn at *; rw [h50, h60, h61, h62]; exact h
theorem CLn_s {gm gm2 : Nat → Nat → Int32} {n j1 j2 j3 : Nat} (h : CLn gm n) (h61 : gm2 61 = upd (gm 61) j1 0) (h62 : gm2 62 = upd (gm 62) j2 0) (h60 : gm2 60 = upd (gm 60) j3 (-1)) (q1 : j1 = n) (q2 : j2 = n) (q3 : j3 = n) : CLn gm2 (n + 1) := by
  subst q1 q2 q3
  intro j h1 h2
  by_cases q : j = j3
  · subst q; rw [h60, h61, h62, upd_at, upd_at, upd_at]; exact ⟨rfl, rfl, rfl⟩
  · rw [h60, h61, h62, upd_ne q, upd_ne q, upd_ne q]; exact h j h1 (by omega)
