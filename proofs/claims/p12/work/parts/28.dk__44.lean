section
/-- the rows that the document's readers look at are alike -/
def DK0 (sg : Nat → Int32) (gm : Nat → Nat → Int32) (lg : Nat → Nat → Int64) (sg2 : Nat → Int32) (gm2 : Nat → Nat → Int32) (lg2 : Nat → Nat → Int64) : Prop := sg2 24 = sg 24 ∧ gm2 26 = gm 26 ∧ gm2 28 = gm 28 ∧ gm2 29 = gm 29 ∧ gm2 30 = gm 30 ∧ gm2 36 = gm 36 ∧ gm2 37 = gm 37 ∧ gm2 38 = gm 38 ∧ lg2 35 = lg 35
def DK (sg : Nat → Int32) (gm : Nat → Nat → Int32) (lg : Nat → Nat → Int64) (sg2 : Nat → Int32) (gm2 : Nat → Nat → Int32) (lg2 : Nat → Nat → Int64) : Prop := DK0 sg gm lg sg2 gm2 lg2 ∧ sg2 41 = sg 41 ∧ gm2 42 = gm 42 ∧ gm2 43 = gm 43
theorem DK0_of {sg sg2 : Nat → Int32} {gm gm2 : Nat → Nat → Int32} {lg lg2 : Nat → Nat → Int64} {Ls Lg Ll : List Nat} (h1 : KS Ls sg sg2) (h2 : KS Lg gm gm2) (h3 : KS Ll lg lg2) (q1 : Ls.contains 24 = false) (q2 : ([26, 28, 29, 30, 36, 37, 38].all fun k => !Lg.contains k) = true) (q3 : Ll.contains 35 = false) : DK0 sg gm lg sg2 gm2 lg2 := by
  have g : ∀ k ∈ [26, 28, 29, 30, 36, 37, 38], gm2 k = gm k := fun k hk => h2 k (by have := List.all_eq_true.mp q2 k hk; simpa using this)
  exact ⟨h1 24 q1, g 26 (by decide), g 28 (by decide), g 29 (by decide), g 30 (by decide), g 36 (by decide), g 37 (by decide), g 38 (by decide), h3 35 q3⟩
theorem DK_of {sg sg2 : Nat → Int32} {gm gm2 : Nat → Nat → Int32} {lg lg2 : Nat → Nat → Int64} {Ls Lg Ll : List Nat} (h1 : KS Ls sg sg2) (h2 : KS Lg gm gm2) (h3 : KS Ll lg lg2) (q1 : (Ls.contains 24 || Ls.contains 41) = false) (q2 : ([26, 28, 29, 30, 36, 37, 38, 42, 43].all fun k => !Lg.contains k) = true) (q3 : Ll.contains 35 = false) : DK sg gm lg sg2 gm2 lg2 := by
  have g : ∀ k ∈ [26, 28, 29, 30, 36, 37, 38, 42, 43], gm2 k = gm k := fun k hk => h2 k (by have := List.all_eq_true.mp q2 k hk; simpa using this)
  have q4 := Bool.or_eq_false_iff.mp q1
  exact ⟨⟨h1 24 q4.1, g 26 (by decide), g 28 (by decide), g 29 (by decide), g 30 (by decide), g 36 (by decide), g 37 (by decide), g 38 (by decide), h3 35 q3⟩, h1 41 q4.2, g 42 (by decide), g 43 (by decide)⟩
section DKL
variable {sg sg2 : Nat → Int32} {gm gm2 : Nat → Nat → Int32} {lg lg2 : Nat → Nat → Int64}
theorem mFind_k (h : DK0 sg gm lg sg2 gm2 lg2) (e : Nat) (nn : Int64) : mFind gm2 lg2 e nn = mFind gm lg e nn := by
  obtain ⟨h24, h26, h28, h29, h30, h36, h37, h38, h35⟩ := h
  unfold mFind; rw [h30, h35]
theorem mHas_k (h : DK0 sg gm lg sg2 gm2 lg2) (e : Nat) (nn : Int64) : mHas gm2 lg2 e nn = mHas gm lg e nn := by
  unfold mHas; rw [mFind_k h]
theorem mWord_k (h : DK0 sg gm lg sg2 gm2 lg2) (e : Nat) (nn : Int64) : mWord gm2 lg2 e nn = mWord gm lg e nn := by
  have f := mFind_k h e nn
  obtain ⟨h24, h26, h28, h29, h30, h36, h37, h38, h35⟩ := h
  unfold mWord; rw [f, h36, h37, h38]
theorem ahN_k (h : DK0 sg gm lg sg2 gm2 lg2) (e : Nat) : ∀ k, ahN gm2 e k = ahN gm e k := by
  obtain ⟨h24, h26, h28, h29, h30, h36, h37, h38, h35⟩ := h
  intro k
  induction k with
  | zero => rfl
  | succ k ih => show ahN gm2 e k + _ = ahN gm e k + _; rw [ih, h28, h26]
theorem GOOD_k (h : DK0 sg gm lg sg2 gm2 lg2) {e : Nat} (q : GOOD gm lg e) : GOOD gm2 lg2 e := by
  have f1 := mHas_k h e
  have f2 := mWord_k h e
  have f3 := ahN_k h e e
  obtain ⟨h24, h26, h28, h29, h30, h36, h37, h38, h35⟩ := h
  unfold GOOD HOLD OL at *
  rw [h26, h29, f1, f1, f1, f2, f2, f3]
  exact q
theorem STR_k (h : DK0 sg gm lg sg2 gm2 lg2) (q : STR sg gm lg) : STR sg2 gm2 lg2 := by
  have f := @GOOD_k _ _ _ _ _ _ h
  obtain ⟨h24, h26, h28, h29, h30, h36, h37, h38, h35⟩ := h
  refine ⟨fun k hk => f (q.1 k (by rw [← h24]; exact hk)), ?_⟩
  rw [h24, h26]; exact q.2
theorem TRE_k (h : DK0 sg gm lg sg2 gm2 lg2) (q : TRE sg gm) : TRE sg2 gm2 := by
  obtain ⟨h24, h26, h28, h29, h30, h36, h37, h38, h35⟩ := h
  exact TRE_keep q h24 h28 h29
theorem qWid_k (h : DK sg gm lg sg2 gm2 lg2) (w : Int64) : qWid gm2 lg2 w = qWid gm lg w := by
  funext j
  have f := mWord_k h.1
  obtain ⟨⟨h24, h26, h28, h29, h30, h36, h37, h38, h35⟩, h41, h42, h43⟩ := h
  unfold qWid; rw [h42, h28, f]
theorem mWid_k (h : DK sg gm lg sg2 gm2 lg2) (w : Int64) : mWid sg2 gm2 lg2 w = mWid sg gm lg w := by
  unfold mWid; rw [qWid_k h, h.2.1]
theorem mPar_k (h : DK sg gm lg sg2 gm2 lg2) : mPar sg2 gm2 lg2 = mPar sg gm lg := by
  funext b
  unfold mPar; rw [mHas_k h.1, mWord_k h.1, mWid_k h, h.2.2.1]
theorem BEL_k (h : DK sg gm lg sg2 gm2 lg2) (q : BEL sg gm) : BEL sg2 gm2 := by
  obtain ⟨⟨h24, h26, h28, h29, h30, h36, h37, h38, h35⟩, h41, h42, h43⟩ := h
  unfold BEL at *; rw [h41, h42, h24, h26, h43]; exact q
theorem ACY_k (h : DK sg gm lg sg2 gm2 lg2) (q : ACY sg gm lg) : ACY sg2 gm2 lg2 := by
  unfold ACY; rw [mPar_k h, h.2.1]; exact q
theorem dP_k (h : DK sg gm lg sg2 gm2 lg2) : dP sg2 gm2 lg2 = dP sg gm lg := by
  funext b; unfold dP; rw [mPar_k h]
theorem qInn_k (h : DK0 sg gm lg sg2 gm2 lg2) (a kd : Int32) : qInn gm2 a kd = qInn gm a kd := by
  funext j
  obtain ⟨h24, h26, h28, h29, h30, h36, h37, h38, h35⟩ := h
  unfold qInn; rw [h28, h26]
theorem mInn_k (h : DK0 sg gm lg sg2 gm2 lg2) (a kd bh : Int32) : mInn sg2 gm2 a kd bh = mInn sg gm a kd bh := by
  unfold mInn; rw [qInn_k h, h.1]
theorem telF_k (h : DK sg gm lg sg2 gm2 lg2) (nn : Int64) : ∀ n b, telF sg2 gm2 lg2 nn n b = telF sg gm lg nn n b := by
  intro n
  induction n with
  | zero => intro b; rfl
  | succ n ih => intro b; show (if _ then _ else _) = (if _ then _ else _); rw [mHas_k h.1, ih, mPar_k h, h.2.2.1]
theorem mTel_k (h : DK sg gm lg sg2 gm2 lg2) (b : Int32) (nn : Int64) : mTel sg2 gm2 lg2 b nn = mTel sg gm lg b nn := by
  unfold mTel; rw [telF_k h, dP_k h]
theorem aoF_k (h : DK sg gm lg sg2 gm2 lg2) : ∀ n b, aoF sg2 gm2 lg2 n b = aoF sg gm lg n b := by
  intro n
  induction n with
  | zero => intro b; rfl
  | succ n ih => intro b; show (if _ then _ else _) = (if _ then _ else _); rw [mInn_k h.1, ih, mPar_k h, h.2.2.1]
theorem mAO_k (h : DK sg gm lg sg2 gm2 lg2) (b : Int32) : mAO sg2 gm2 lg2 b = mAO sg gm lg b := by
  unfold mAO; rw [aoF_k h, dP_k h]
theorem argF_k (h : DK0 sg gm lg sg2 gm2 lg2) (a : Int32) : ∀ n, argF sg2 gm2 a n = argF sg gm a n := by
  intro n
  induction n with
  | zero => exact mInn_k h a 4 0
  | succ n ih => show (if _ then _ else _) = (if _ then _ else _); rw [ih, mInn_k h]
theorem mArg_k (h : DK sg gm lg sg2 gm2 lg2) (b : Int32) (n : Nat) : mArg sg2 gm2 lg2 b n = mArg sg gm lg b n := by
  unfold mArg; rw [argF_k h.1, mAO_k h, h.2.2.1]
end DKL
def mWn (gm : Nat → Nat → Int32) (lg : Nat → Nat → Int64) (e : Nat) : Int64 := mWord gm lg e 1851878757
theorem mWn_k {sg sg2 : Nat → Int32} {gm gm2 : Nat → Nat → Int32} {lg lg2 : Nat → Nat → Int64} (h : DK0 sg gm lg sg2 gm2 lg2) : mWn gm2 lg2 = mWn gm lg := by
  funext e; exact mWord_k h e _
def LW (W : Nat → Int64) (e : Nat) : Prop := 97 ≤ (W e).toInt ∧ (W e).toInt ≤ 122
/-- a row of elements whose names are letters, no two alike -/
def ROWL (W : Nat → Int64) (f : Nat → Int32) (B n : Nat) : Prop := ∀ k, k < n → LW W (f (B + k)).toNatClampNeg ∧ ∀ i, i < k → ¬ W (f (B + i)).toNatClampNeg = W (f (B + k)).toNatClampNeg
theorem row_room {W : Nat → Int64} {f : Nat → Int32} {B n : Nat} {x : Int32} (h : ROWL W f B n) (hx : LW W x.toNatClampNeg) (hn : n ≤ 26) (hne : ∀ k, 0 ≤ k → k < n → ¬ W (f (B + k)).toNatClampNeg = W x.toNatClampNeg) : n ≤ 25 := by
  by_cases h25 : n ≤ 25
  · exact h25
  exfalso
  have e26 : n = 26 := by omega
  subst e26
  obtain ⟨i, j, h1, h2, h3⟩ := pigeon 26 (fun k => if k < 26 then ((W (f (B + k)).toNatClampNeg).toInt - 97).toNat else ((W x.toNatClampNeg).toInt - 97).toNat) (fun k hk => by
    show (if k < 26 then _ else _) < 26
    by_cases q : k < 26
    · rw [if_pos q]; have := (h k q).1; unfold LW at this; omega
    · rw [if_neg q]; unfold LW at hx; omega)
  have h3 : (if i < 26 then ((W (f (B + i)).toNatClampNeg).toInt - 97).toNat else ((W x.toNatClampNeg).toInt - 97).toNat) = (if j < 26 then ((W (f (B + j)).toNatClampNeg).toInt - 97).toNat else ((W x.toNatClampNeg).toInt - 97).toNat) := h3
  rw [if_pos (show i < 26 by omega)] at h3
  have gi := (h i (by omega)).1
  unfold LW at gi hx
  by_cases q : j < 26
  · rw [if_pos q] at h3
    have gj := h j q
    have gj1 := gj.1
    unfold LW at gj1
    exact gj.2 i h1 (Int64.toInt_inj.mp (by omega))
  · rw [if_neg q] at h3
    exact hne i (Nat.zero_le _) (by omega) (Int64.toInt_inj.mp (by omega))
def RWF (f f2 : Nat → Int32) (B : Nat) : Prop := ∀ j, j < B ∨ B + 26 ≤ j → f2 j = f j
def RWK (f f2 : Nat → Int32) (B n n2 : Nat) (x : Int32) : Prop := ∀ k, k < n2 → f2 (B + k) = x ∨ (k < n ∧ f2 (B + k) = f (B + k))
theorem row_rep {W : Nat → Int64} {f f2 : Nat → Int32} {B n k j : Nat} {x : Int32} (h : ROWL W f B n) (h2 : f2 = upd f j x) (hj : j = B + k) (hk : k < n) (hn : n ≤ 26) (hw : W (f (B + k)).toNatClampNeg = W x.toNatClampNeg) : ROWL W f2 B n ∧ RWF f f2 B ∧ RWK f f2 B n n x := by
  subst hj
  have o : ∀ i, i ≠ k → f2 (B + i) = f (B + i) := fun i hi => by rw [h2, upd_ne (by omega)]
  have a : f2 (B + k) = x := by rw [h2, upd_at]
  have w : ∀ i, W (f2 (B + i)).toNatClampNeg = W (f (B + i)).toNatClampNeg := fun i => by
    by_cases q : i = k
    · subst q; rw [a]; exact hw.symm
    · rw [o i q]
  refine ⟨fun i hi => ⟨?_, fun i2 h3 => ?_⟩, fun i hi => ?_, fun i hi => ?_⟩
  · have := (h i hi).1; unfold LW at *; rw [w]; exact this
  · rw [w, w]; exact (h i hi).2 i2 h3
  · rw [h2, upd_ne (by omega)]
  · by_cases q : i = k
    · subst q; exact Or.inl a
    · exact Or.inr ⟨hi, o i q⟩
theorem row_app {W : Nat → Int64} {f f2 : Nat → Int32} {B n j : Nat} {x : Int32} (h : ROWL W f B n) (hx : LW W x.toNatClampNeg) (hn : n ≤ 25) (hne : ∀ k, 0 ≤ k → k < n → ¬ W (f (B + k)).toNatClampNeg = W x.toNatClampNeg) (h2 : f2 = upd f j x) (hj : j = B + n) : ROWL W f2 B (n + 1) ∧ RWF f f2 B ∧ RWK f f2 B n (n + 1) x := by
  subst hj
  have o : ∀ i, i ≠ n → f2 (B + i) = f (B + i) := fun i hi => by rw [h2, upd_ne (by omega)]
  have a : f2 (B + n) = x := by rw [h2, upd_at]
  refine ⟨fun i hi => ?_, fun i hi => ?_, fun i hi => ?_⟩
  · by_cases q : i = n
    · subst q
      rw [a]
      exact ⟨hx, fun i2 h3 => by rw [o i2 (by omega)]; exact hne i2 (Nat.zero_le _) h3⟩
    · rw [o i q]
      exact ⟨(h i (by omega)).1, fun i2 h3 => by rw [o i2 (by omega)]; exact (h i (by omega)).2 i2 h3⟩
  · rw [h2, upd_ne (by omega)]
  · by_cases q : i = n
    · subst q; exact Or.inl a
    · exact Or.inr ⟨by omega, o i q⟩
theorem cl_add {x y z : Int32} {a b c d : Int} (hx : iv a b x) (hy : iv c d y) (ha : 0 ≤ a) (hc : 0 ≤ c) (h : z.toInt = x.toInt + y.toInt) : z.toNatClampNeg = x.toNatClampNeg + y.toNatClampNeg := by
  have k1 := iv_cl hx ha
  have k2 := iv_cl hy hc
  have k3 := iv_cl (a := 0) (b := z.toInt) (x := z) ⟨by have := hx.1; have := hy.1; omega, Int.le_refl _⟩ (by decide)
  omega
/-- the rows of bean b while they are put together -/
def MBS (W : Nat → Int64) (K : Int32 → Prop) (gm gm2 : Nat → Nat → Int32) (b : Nat) : Prop := ROWL W (gm2 45) (26 * b) (gm2 44 b).toNatClampNeg ∧ (∀ k, k < (gm2 44 b).toNatClampNeg → K (gm2 45 (26 * b + k))) ∧ (∀ j, j ≠ b → gm2 44 j = gm 44 j) ∧ RWF (gm 45) (gm2 45) (26 * b) ∧ ROWL W (gm2 47) (26 * b) (gm2 46 b).toNatClampNeg
theorem MBS_0 {W : Nat → Int64} {K : Int32 → Prop} {gm gm2 : Nat → Nat → Int32} {b : Nat} (h44 : gm2 44 = upd (gm 44) b 0) (h46 : gm2 46 = upd (gm 46) b 0) (h45 : gm2 45 = gm 45) : MBS W K gm gm2 b := by
  have e1 : (gm2 44 b).toNatClampNeg = 0 := by rw [h44, upd_at]; rfl
  have e2 : (gm2 46 b).toNatClampNeg = 0 := by rw [h46, upd_at]; rfl
  unfold MBS
  rw [e1, e2]
  exact ⟨fun k hk => by omega, fun k hk => by omega, fun j hj => by rw [h44, upd_ne hj], fun j _ => by rw [h45], fun k hk => by omega⟩
theorem MBS_s {W : Nat → Int64} {K : Int32 → Prop} {gm gm2 gm3 gm4 : Nat → Nat → Int32} {b : Nat} {x r : Int32} (h : MBS W K gm gm2 b) (h1 : ROWL W (gm3 45) (26 * b) r.toNatClampNeg) (h2 : RWF (gm2 45) (gm3 45) (26 * b)) (h3 : RWK (gm2 45) (gm3 45) (26 * b) (gm2 44 b).toNatClampNeg r.toNatClampNeg x) (hx : K x) (e44 : gm4 44 = upd (gm2 44) b r) (e45 : gm4 45 = gm3 45) (e46 : gm4 46 = gm2 46) (e47 : gm4 47 = gm2 47) : MBS W K gm gm4 b := by
  obtain ⟨a1, a2, a3, a4, a5⟩ := h
  have e1 : gm4 44 b = r := by rw [e44, upd_at]
  unfold MBS
  rw [e1, e45, e46, e47]
  refine ⟨h1, fun k hk => ?_, fun j hj => by rw [e44, upd_ne hj]; exact a3 j hj, fun j hj => (h2 j hj).trans (a4 j hj), a5⟩
  rcases h3 k hk with q | ⟨q1, q2⟩
  · rw [q]; exact hx
  · rw [q2]; exact a2 k q1
theorem MBS_l {W : Nat → Int64} {K : Int32 → Prop} {gm gm2 gm4 : Nat → Nat → Int32} {b : Nat} {r : Int32} (h : MBS W K gm gm2 b) (h1 : ROWL W (gm4 47) (26 * b) r.toNatClampNeg) (e46 : gm4 46 = upd (gm2 46) b r) (e45 : gm4 45 = gm2 45) (e44 : gm4 44 = gm2 44) : MBS W K gm gm4 b := by
  obtain ⟨a1, a2, a3, a4, a5⟩ := h
  have e1 : gm4 46 b = r := by rw [e46, upd_at]
  unfold MBS
  rw [e1, e45, e44]
  exact ⟨a1, a2, a3, a4, h1⟩
/-- an element of this kind, of those there are -/
def SEK (sg : Nat → Int32) (gm : Nat → Nat → Int32) (kd : Int32) (x : Int32) : Prop := iv 0 79 x ∧ gm 26 x.toNatClampNeg = kd ∧ x.toNatClampNeg < (sg 24).toNatClampNeg
theorem SEK_of {sg : Nat → Int32} {gm : Nat → Nat → Int32} {a kd bh r : Int32} (hn : iv 0 80 (sg 24)) (hk : ¬ kd = 0) (hr : r = mInn sg gm a kd bh) : r = -1 ∨ (SEK sg gm kd r ∧ bh.toNatClampNeg < r.toNatClampNeg) := by
  rcases mInn_or (gm := gm) (a := a) (kd := kd) (bh := bh) hn with q | ⟨q1, q2, q3, q4, q5, _⟩
  · exact Or.inl (hr.trans q.1)
  · rw [← hr] at q1 q2 q3 q4 q5
    exact Or.inr ⟨⟨iv_w q1 (by decide), q5.resolve_left hk, q3⟩, q2⟩
def mE (x : Int32) : Nat := if x = -1 then 0 else (81 - x.toInt).toNat
theorem mE_lt {x r : Int32} (hx : iv 0 79 x) (hr : iv (-1) 79 r) (h : r = -1 ∨ x.toNatClampNeg < r.toNatClampNeg) : mE r < mE x := by
  have k1 := iv_cl hx (by decide)
  have k2 := hx.2
  have hm : ¬ x = -1 := fun q => by have := hx.1; rw [q] at this; exact absurd this (by decide)
  unfold mE
  rw [if_neg hm]
  rcases h with h | h
  · rw [if_pos h]; omega
  · by_cases q : r = -1
    · rw [if_pos q]; omega
    · rw [if_neg q]
      have q5 : r.toInt ≠ -1 := fun z => q (Int32.toInt_inj.mp z)
      have k3 := iv_cl (show iv 0 79 r from ⟨by have := hr.1; omega, hr.2⟩) (by decide)
      omega
theorem dpF_le (f : Int32 → Int32) : ∀ n b, dpF f n b ≤ n := by
  intro n
  induction n with
  | zero => intro b; exact Nat.le_refl 0
  | succ n ih =>
    intro b
    have h1 := ih (f b)
    rw [dpF_s]
    by_cases h : b = -1
    · rw [if_pos h]; omega
    · rw [if_neg h]; omega
theorem dP_le {sg : Nat → Int32} {gm : Nat → Nat → Int32} {lg : Nat → Nat → Int64} (b : Int32) : dP sg gm lg b ≤ 81 := dpF_le _ 81 b
theorem cl26 {b z : Int32} (hb : iv 0 79 b) (h : z.toInt = 26 * b.toInt) : z.toNatClampNeg = 26 * b.toNatClampNeg := by
  have k1 := iv_cl hb (by decide)
  have k3 := iv_cl (a := 0) (b := z.toInt) (x := z) ⟨by have := hb.1; omega, Int.le_refl _⟩ (by decide)
  omega
theorem SEK_ol {sg : Nat → Int32} {gm : Nat → Nat → Int32} {lg : Nat → Nat → Int64} {kd x : Int32} (h : STR sg gm lg) (hx : SEK sg gm kd x) (hk : kd = 5 ∨ kd = 10) : LW (mWn gm lg) x.toNatClampNeg := by
  obtain ⟨h1, h2, h3⟩ := hx
  refine (h.1 _ h3).2.2.1 ?_
  rw [h2]
  rcases hk with rfl | rfl
  · exact Or.inl rfl
  · exact Or.inr rfl
def DOC1 (sg : Nat → Int32) (gm : Nat → Nat → Int32) (lg : Nat → Nat → Int64) : Prop := TRE sg gm ∧ STR sg gm lg ∧ BEL sg gm ∧ ACY sg gm lg
theorem DOC1_k {sg sg2 : Nat → Int32} {gm gm2 : Nat → Nat → Int32} {lg lg2 : Nat → Nat → Int64} (h : DK sg gm lg sg2 gm2 lg2) (q : DOC1 sg gm lg) : DOC1 sg2 gm2 lg2 := ⟨TRE_k h.1 q.1, STR_k h.1 q.2.1, BEL_k h q.2.2.1, ACY_k h q.2.2.2⟩
def SETn (sg : Nat → Int32) (gm : Nat → Nat → Int32) (n : Nat) : Prop := ∀ b, b < n → ∀ k, k < (gm 44 b).toNatClampNeg → SEK sg gm 5 (gm 45 (26 * b + k))
def DOC (sg : Nat → Int32) (gm : Nat → Nat → Int32) (lg : Nat → Nat → Int64) : Prop := DOC1 sg gm lg ∧ SETn sg gm (sg 41).toNatClampNeg
theorem SETn_k {sg sg2 : Nat → Int32} {gm gm2 : Nat → Nat → Int32} {n : Nat} (h24 : sg2 24 = sg 24) (h26 : gm2 26 = gm 26) (h44 : gm2 44 = gm 44) (h45 : gm2 45 = gm 45) (q : SETn sg gm n) : SETn sg2 gm2 n := by
  unfold SETn SEK at *; rw [h24, h26, h44, h45]; exact q
theorem DOC_k {sg sg2 : Nat → Int32} {gm gm2 : Nat → Nat → Int32} {lg lg2 : Nat → Nat → Int64} (h : DK sg gm lg sg2 gm2 lg2) (h44 : gm2 44 = gm 44) (h45 : gm2 45 = gm 45) (q : DOC sg gm lg) : DOC sg2 gm2 lg2 := ⟨DOC1_k h q.1, by rw [h.2.1]; exact SETn_k h.1.1 h.1.2.1 h44 h45 q.2⟩
theorem DOC_of {sg sg2 : Nat → Int32} {gm gm2 : Nat → Nat → Int32} {lg lg2 : Nat → Nat → Int64} {Ls Lg Ll : List Nat} (q : DOC sg gm lg) (h1 : KS Ls sg sg2) (h2 : KS Lg gm gm2) (h3 : KS Ll lg lg2) (q1 : (Ls.contains 24 || Ls.contains 41) = false) (q2 : ([26, 28, 29, 30, 36, 37, 38, 42, 43].all fun k => !Lg.contains k) = true) (q3 : Ll.contains 35 = false) (q4 : (Lg.contains 44 || Lg.contains 45) = false) : DOC sg2 gm2 lg2 := by
  have q5 := Bool.or_eq_false_iff.mp q4
  exact DOC_k (DK_of h1 h2 h3 q1 q2 q3) (h2 44 q5.1) (h2 45 q5.2) q
theorem SETn_s {W : Nat → Int64} {sg sg2 : Nat → Int32} {gm gm2 : Nat → Nat → Int32} {n : Nat} (hI : MI sg gm) (hn : n < 80) (h : SETn sg gm n) (hb : MBS W (SEK sg gm 5) gm gm2 n) (h24 : sg2 24 = sg 24) (h26 : gm2 26 = gm 26) : SETn sg2 gm2 (n + 1) := by
  obtain ⟨a1, a2, a3, a4, a5⟩ := hb
  have tr : ∀ x, SEK sg gm 5 x → SEK sg2 gm2 5 x := fun x hx => by unfold SEK at *; rw [h24, h26]; exact hx
  intro b h1 k h2
  by_cases q : b = n
  · subst q; exact tr _ (a2 k h2)
  · rw [a3 b q] at h2
    have r1 : iv 0 26 (gm 44 b) := hI.2 44 b (show b < 80 by omega)
    have r2 := iv_cl r1 (by decide)
    have r3 := r1.2
    rw [a4 (26 * b + k) (by omega)]
    exact tr _ (h b (by omega) k h2)
def BELn (sg : Nat → Int32) (gm : Nat → Nat → Int32) (n : Nat) : Prop := (∀ x : Nat, x < n → (gm 26 x).toInt = 3 → (gm 43 x).toInt < (sg 41).toInt) ∧ ∀ b, b < (sg 41).toNatClampNeg → 1 ≤ (gm 42 b).toNatClampNeg ∧ (gm 42 b).toNatClampNeg < n ∧ (gm 26 (gm 42 b).toNatClampNeg).toInt = 3 ∧ gm 43 (gm 42 b).toNatClampNeg = nI b
theorem BELn_0 {sg : Nat → Int32} {gm : Nat → Nat → Int32} (h : (sg 41).toInt = 0) : BELn sg gm 0 := ⟨fun x hx => absurd hx (Nat.not_lt_zero _), fun b hb => by
  have := iv_cl (a := 0) (b := 0) (x := sg 41) ⟨by omega, by omega⟩ (by decide)
  omega⟩
theorem BELn_w {sg : Nat → Int32} {gm : Nat → Nat → Int32} {n : Nat} (h : BELn sg gm n) (hk : (gm 26 n).toInt ≠ 3) : BELn sg gm (n + 1) := ⟨fun x hx h3 => by
  by_cases q : x = n
  · subst q; exact absurd h3 hk
  · exact h.1 x (by omega) h3, fun b hb => by
  obtain ⟨h1, h2, h3, h4⟩ := h.2 b hb
  exact ⟨h1, by omega, h3, h4⟩⟩
theorem BELn_e {sg : Nat → Int32} {gm : Nat → Nat → Int32} {x : Int32} (hx : iv 0 80 x) (hn : iv 0 80 (sg 24)) (hl : (sg 24).toInt ≤ x.toInt) (h2 : x.toInt ≤ (sg 24).toInt) (h : BELn sg gm x.toNatClampNeg) : BEL sg gm := by
  have k1 := iv_cl hx (by decide)
  have k2 := iv_cl hn (by decide)
  have e1 : x.toNatClampNeg = (sg 24).toNatClampNeg := by omega
  rw [e1] at h
  exact h
theorem BELn_s {sg sg2 : Nat → Int32} {gm gm2 : Nat → Nat → Int32} {x : Int32} (hx : iv 0 79 x) (hb : iv 0 79 (sg 41)) (h : BELn sg gm x.toNatClampNeg) (h1 : (sg2 41).toInt = (sg 41).toInt + 1) (h43 : gm2 43 = upd (gm 43) x.toNatClampNeg (sg 41)) (h42 : gm2 42 = upd (gm 42) (sg 41).toNatClampNeg x) (h26 : gm2 26 = gm 26) (hk : (gm 26 x.toNatClampNeg).toInt = 3) (h0 : (gm 26 0).toInt ≠ 3) : BELn sg2 gm2 (x.toNatClampNeg + 1) := by
  have k1 := s_cl hb (by decide) h1
  refine ⟨fun y hy h3 => ?_, ?_⟩
  · rw [h26] at h3
    rw [h43]
    by_cases q : y = x.toNatClampNeg
    · subst q; rw [upd_at]; omega
    · rw [upd_ne q]; have := h.1 y (by omega) h3; omega
  intro b hlt
  have x0 : x.toNatClampNeg ≠ 0 := fun q => by rw [q] at hk; exact h0 hk
  rw [h26]
  by_cases q : b = (sg 41).toNatClampNeg
  · subst q
    have e1 : gm2 42 (sg 41).toNatClampNeg = x := by rw [h42, upd_at]
    rw [e1]
    refine ⟨by omega, by omega, hk, ?_⟩
    rw [h43, upd_at, iv_nI hb (by decide)]
  · obtain ⟨a1, a2, a3, a4⟩ := h.2 b (by omega)
    have e1 : gm2 42 b = gm 42 b := by rw [h42, upd_ne q]
    rw [e1]
    refine ⟨a1, by omega, a3, ?_⟩
    rw [h43, upd_ne (by omega)]
    exact a4
/-- nothing is made, nothing is being made -/
def CLn (gm : Nat → Nat → Int32) (n : Nat) : Prop := ∀ j, 0 ≤ j → j < n → gm 60 j = -1 ∧ gm 61 j = 0 ∧ gm 62 j = 0
def CLR (sg : Nat → Int32) (gm : Nat → Nat → Int32) : Prop := (sg 50).toInt = 0 ∧ CLn gm 80
theorem CLR_k {sg sg2 : Nat → Int32} {gm gm2 : Nat → Nat → Int32} (h50 : sg2 50 = sg 50) (h60 : gm2 60 = gm 60) (h61 : gm2 61 = gm 61) (h62 : gm2 62 = gm 62) (h : CLR sg gm) : CLR sg2 gm2 := by
  unfold CLR CLn at *; rw [h50, h60, h61, h62]; exact h
theorem CLn_s {gm gm2 : Nat → Nat → Int32} {n j1 j2 j3 : Nat} (h : CLn gm n) (h61 : gm2 61 = upd (gm 61) j1 0) (h62 : gm2 62 = upd (gm 62) j2 0) (h60 : gm2 60 = upd (gm 60) j3 (-1)) (q1 : j1 = n) (q2 : j2 = n) (q3 : j3 = n) : CLn gm2 (n + 1) := by
  subst q1 q2 q3
  intro j h1 h2
  by_cases q : j = j3
  · subst q; rw [h60, h61, h62, upd_at, upd_at, upd_at]; exact ⟨rfl, rfl, rfl⟩
  · rw [h60, h61, h62, upd_ne q, upd_ne q, upd_ne q]; exact h j h1 (by omega)
end
section
def vok (kd v : Int32) : Prop := (kd.toInt = 1 → v.toInt ≤ 59) ∧ (kd.toInt = 0 → v.toInt ≤ 959 ∨ 1000 ≤ v.toInt) ∧ (kd.toInt = 3 → v.toInt ≤ 6)
/-- every value that is kept is one of its kind -/
def VAL (gm : Nat → Nat → Int32) : Prop := (∀ j, j < 405 → vok (gm 70 j) (gm 71 j)) ∧ ∀ j, j < 2430 → vok (gm 72 j) (gm 73 j)
theorem VAL_k {gm gm2 : Nat → Nat → Int32} (h70 : gm2 70 = gm 70) (h71 : gm2 71 = gm 71) (h72 : gm2 72 = gm 72) (h73 : gm2 73 = gm 73) (h : VAL gm) : VAL gm2 := by
  unfold VAL at *; rw [h70, h71, h72, h73]; exact h
theorem upd2 {f g f2 g2 : Nat → Int32} {n i i2 : Nat} {a b : Int32} {P : Int32 → Int32 → Prop} (h : ∀ j, j < n → P (f j) (g j)) (h1 : f2 = upd f i a) (h2 : g2 = upd g i2 b) (hi : i2 = i) (hp : P a b) : ∀ j, j < n → P (f2 j) (g2 j) := by
  subst hi
  intro j hj
  by_cases q : j = i2
  · subst q; rw [h1, h2, upd_at, upd_at]; exact hp
  · rw [h1, h2, upd_ne q, upd_ne q]; exact h j hj
theorem VAL_v {gm gm2 : Nat → Nat → Int32} {i i2 : Nat} {a b : Int32} (h : VAL gm) (h70 : gm2 70 = upd (gm 70) i a) (h71 : gm2 71 = upd (gm 71) i2 b) (h72 : gm2 72 = gm 72) (h73 : gm2 73 = gm 73) (hi : i2 = i) (hp : vok a b) : VAL gm2 := ⟨upd2 h.1 h70 h71 hi hp, by rw [h72, h73]; exact h.2⟩
theorem VAL_i {gm gm2 : Nat → Nat → Int32} {i i2 : Nat} {a b : Int32} (h : VAL gm) (h72 : gm2 72 = upd (gm 72) i a) (h73 : gm2 73 = upd (gm 73) i2 b) (h70 : gm2 70 = gm 70) (h71 : gm2 71 = gm 71) (hi : i2 = i) (hp : vok a b) : VAL gm2 := ⟨by rw [h70, h71]; exact h.1, upd2 h.2 h72 h73 hi hp⟩
theorem VAL_at {gm : Nat → Nat → Int32} {x z1 z2 : Int32} (h : VAL gm) (hx : iv 0 404 x) (e1 : z1 = gm 70 x.toNatClampNeg) (e2 : z2 = gm 71 x.toNatClampNeg) : vok z1 z2 := by
  have k1 := iv_cl hx (by decide)
  have k2 := hx.2
  rw [e1, e2]; exact h.1 _ (by omega)
theorem VAL_it {gm : Nat → Nat → Int32} {x z1 z2 : Int32} (h : VAL gm) (hx : iv 0 2429 x) (e1 : z1 = gm 72 x.toNatClampNeg) (e2 : z2 = gm 73 x.toNatClampNeg) : vok z1 z2 := by
  have k1 := iv_cl hx (by decide)
  have k2 := hx.2
  rw [e1, e2]; exact h.2 _ (by omega)
/-- a bean that is made anew whenever it is asked for -/
def mMny (gm : Nat → Nat → Int32) (lg : Nat → Nat → Int64) (b : Nat) : Prop := ¬ gm 28 (gm 42 b).toNatClampNeg = 0 ∨ mWord gm lg (gm 42 b).toNatClampNeg 495589486693 = lg 1 3

set_option maxHeartbeats 4000000 in
set_option maxRecDepth 100000 in
theorem f_fails (l : Launch) (dC : Nat → ClassId) (dI : Nat → Nat → Nat) (h0 : Nat) (ad : Nat → Nat) (cid : Nat → ClassId) (sg : Nat → Int32) (gm : Nat → Nat → Int32) (lg : Nat → Nat → Int64) (x : Int32) (hI : MI sg gm) (hvx : iv 1 8 x) : MMv l dC dI yX13_fails wm_X13_fails ({ frames := 0, cells := 0, slots := 0, locals := 0 }) h0 ad cid [.int x] sg gm lg (fun v => ∃ (sg2 : Nat → Int32) (gm2 : Nat → Nat → Int32) (lg2 : Nat → Nat → Int64), v = (sg2, gm2, lg2) ∧ MI sg2 gm2 ∧ KS [51, 52] sg sg2 ∧ KS [] gm gm2 ∧ KS [] lg lg2 ∧ (1 ≤ (sg2 51).toInt)) := by
  intro sz
  refine Met.ofW (cc := cX13_fails) (maxL := 2) (ret := none) (by decide) rfl ?_
  intro p e s m args below meth c s₁ B hml hv
  obtain ⟨rfl, hsz, hP, hK, hD0⟩ := hv
  have hx := B.exec
  have hb := B.bytes
  have hr := B.returns
  have hts := atoms_spec (ws := wm_X13_fails) B.pre
  have htb := fun (w : Cond) (h : w ∈ tb) => hts w (List.mem_cons_of_mem _ h)
  have hown : s.vm.findClass RX13 = some m.cls := findClass_of_methodNamed B.named
  have hlocks := B.notSynchronized
  subst hsz
  have hD := hD0.self (sz := s.heap.size)
  generalize hAe : va_A (mW h0 ad cid sg gm lg) s.heap.size = A at hD ⊢
  have hA : ∀ q : Nat, s.heap.size ≤ q → A q := fun q h => by rw [← hAe]; exact Or.inr h
  have hS : va_S A s.heap s.heap [] := va_S.rf
  have hl := lv_entry ([.ref h0, .int x]) (n := 2) (Nat.le_of_ble_eq_true rfl)
  rw [lg_entry_eq]
  generalize (lg_sl ([.ref h0, .int x]) ++ List.replicate (2 - (lg_sl ([.ref h0, .int x])).length) Slot.unset).toArray = ls at hl ⊢
  have hl : lv_has ls 2 [(0, .ref h0), (1, .int x)] := hl
  have hj36 : ∀ (sg_j36 : Nat → Int32) (y0_36 : Int32) (_ : iv 1 8 x) (_ : iv (-1) 79 y0_36) (_ : KS [51] sg sg_j36) (_ : MI sg_j36 gm) (_ : 1 ≤ (sg_j36 51).toInt) (H : Heap) (locs : List Loc) (ls : Array Slot), va_P (dC, dI) vwCl (mW h0 ad cid sg_j36 gm lg) H → va_D A (mW h0 ad cid sg_j36 gm lg) → va_S A s.heap H locs → lv_has ls 2 [(0, .ref h0), (1, .int x)] → W p l e (headSpec wm_X13_fails ({ frames := 0, cells := 0, slots := 0, locals := 0 })).room s m ([.ref h0, .int x] : List Value).toArray below meth c H locs 0 0 (MQ below (va_Qv (fun v => ∃ (sg2 : Nat → Int32) (gm2 : Nat → Nat → Int32) (lg2 : Nat → Nat → Int64), v = (sg2, gm2, lg2) ∧ MI sg2 gm2 ∧ KS [51, 52] sg sg2 ∧ KS [] gm gm2 ∧ KS [] lg lg2 ∧ (1 ≤ (sg2 51).toInt)) (MB dC dI h0 ad cid A) A) ([.ref h0, .int x] : List Value).toArray s 0 0 A) (F0 m 36 ls [.int y0_36, .ref h0]) := by
    intro sg_j36 y0_36 hsx1_36 hy0_36 hks_j36 hI_j36 h51 H locs ls hP hD hS hl
    refine ma_put (x := y0_36) hx hb htb inX13 hown hK hP hD hS 52 (by decide) (by decide) (htb _ kw_202) rfl rfl rfl dX13_fails_36 (fun sg_1 H locs esg_1 hP hD hS => ?_)
    have hI_sg_1 := MI_put hI_j36 esg_1 hy0_36 (by decide)
    exact W.vret hx hb hr (fun t ht hW => ⟨⟨(sg_1, gm, lg), rfl, ⟨sg_1, gm, lg, rfl, hI_sg_1, (KS_up (KS_tr (L := [51, 52]) KS_rf hks_j36 (by decide)) esg_1 (by decide)), KS_rf, KS_rf, (by have := i32_0; have := i32_1; have := i32_2; have := i32_m1; have := congrArg Int32.toInt (show sg_1 51 = sg_j36 51 from up_ne esg_1 (by decide)); have := (show iv 0 8 (sg_j36 51) from MI_s hI_j36 51).1; have := (show iv 0 8 (sg_j36 51) from MI_s hI_j36 51).2; have := (show iv 0 8 (sg 51) from MI_s hI 51).1; have := (show iv 0 8 (sg 51) from MI_s hI 51).2; have := (hsx1_36).1; have := (hsx1_36).2; have := (hy0_36).1; have := (hy0_36).2; omega)⟩, by rw [ht]; exact hP, va_K.moved hW.alike hK, hD⟩, hS.F ht⟩) hS.2.2 dX13_fails_39
  refine lv_aload_n hx hb dX13_fails_0 rfl (lv_at hl 0 rfl) ?_
  refine mr_get (v := .int (sg 51)) hx hb htb inX13 hown hK hP 51 (by decide) (htb _ kw_980) rfl dX13_fails_1 ?_
  refine lv_if_eq (tgt := 8) hx hb dX13_fails_4 (by decide) (fun c_2 => ?_) (fun c_2 => ?_)
  · have h_3 : iv 0 0 (sg 51) := iv_eq c_2 (show iv 0 8 (sg 51) from MI_s hI 51) (iv_k (by decide) : iv 0 0 0) (by decide)
    refine lv_aload_n hx hb dX13_fails_8 rfl (lv_at hl 0 rfl) ?_
    refine lv_iload_n hx hb dX13_fails_9 rfl (lv_at hl 1 rfl) ?_
    refine ma_put (x := x) hx hb htb inX13 hown hK hP hD hS 51 (by decide) (by decide) (htb _ kw_980) rfl rfl rfl dX13_fails_10 (fun sg_4 H locs esg_4 hP hD hS => ?_)
    have hI_sg_4 := MI_put hI esg_4 hvx (by decide)
    refine lv_aload_n hx hb dX13_fails_13 rfl (lv_at hl 0 rfl) ?_
    refine lv_aload_n hx hb dX13_fails_14 rfl (lv_at hl 0 rfl) ?_
    refine mr_get (v := .int (sg_4 63)) hx hb htb inX13 hown hK hP 63 (by decide) (htb _ kw_1157) rfl dX13_fails_15 ?_
    refine lv_topi (fun z_5 ez_5 => ?_)
    obtain rfl : (sg 63) = z_5 := (ez_5.trans (up_ne esg_4 (by decide))).symm
    refine lv_if_ne (tgt := 25) hx hb dX13_fails_18 (by decide) (fun c_6 => ?_) (fun c_6 => ?_)
    · have h_7 : iv 1 80 (sg 63) := iv_neL c_6 (show iv 0 80 (sg 63) from MI_s hI 63) (by decide)
      refine lv_aload_n hx hb dX13_fails_25 rfl (lv_at hl 0 rfl) ?_
      refine mr_get (v := .ref (ad 64)) hx hb htb inX13 hown hK hP 64 (by decide) (htb _ kw_213) rfl dX13_fails_26 ?_
      refine lv_aload_n hx hb dX13_fails_29 rfl (lv_at hl 0 rfl) ?_
      refine mr_get (v := .int (sg_4 63)) hx hb htb inX13 hown hK hP 63 (by decide) (htb _ kw_1157) rfl dX13_fails_30 ?_
      refine lv_topi (fun z_8 ez_8 => ?_)
      obtain rfl : (sg 63) = z_8 := (ez_8.trans (up_ne esg_4 (by decide))).symm
      refine lv_iconst (v := 1) hx hb dX13_fails_33 (by decide) ?_
      refine lv_isub hx hb dX13_fails_34 ?_
      refine lv_topi (fun z_9 ez_9 => ?_)
      have hz_9 : iv 0 79 z_9 := iv_of ez_9 (iv_sub h_7 (iv_k (by decide) : iv 1 1 1) (by decide))
      have tz_9 : z_9.toInt = ((sg 63) : Int32).toInt - 1 := by rw [ez_9]; exact iv_subE h_7 (iv_k (by decide) : iv 1 1 1) (by decide)
      refine mr_iald hx hb hK hP 49 (k := 64) rfl rfl rfl (show vp_in z_9 81 from (iv_in hz_9 (by decide))) dX13_fails_35 ?_
      refine lv_topi (fun z_10 ez_10 => ?_)
      have hz_10 : iv 0 79 z_10 := iv_of ez_10 (MI_a hI_sg_4 64 hz_9 (by decide))
      exact hj36 sg_4 z_10 hvx (iv_w hz_10 (by decide)) (KS_up KS_rf esg_4 (by decide)) hI_sg_4 (by have := i32_0; have := i32_1; have := i32_2; have := i32_m1; have := congrArg Int32.toInt (show sg_4 51 = x from up_at esg_4); have := (hvx).1; have := (hvx).2; have := (h_3).1; have := (h_3).2; have := (h_7).1; have := (h_7).2; have := (hz_9).1; have := (hz_9).2; have := (hz_10).1; have := (hz_10).2; omega) _ _ _ hP hD hS (lv_sub hl [0, 1] rfl)
    · have h_11 : iv 0 0 (sg 63) := iv_eq c_6 (show iv 0 80 (sg 63) from MI_s hI 63) (iv_k (by decide) : iv 0 0 0) (by decide)
      refine lv_iconst (v := (-1)) hx hb dX13_fails_21 (by decide) ?_
      refine lv_goto (tgt := 36) hx hb dX13_fails_22 (by decide) ?_
      exact hj36 sg_4 (-1) hvx (iv_w (iv_k (by decide) : iv (-1) (-1) (-1)) (by decide)) (KS_up KS_rf esg_4 (by decide)) hI_sg_4 (by have := i32_0; have := i32_1; have := i32_2; have := i32_m1; have := congrArg Int32.toInt (show sg_4 51 = x from up_at esg_4); have := (hvx).1; have := (hvx).2; have := (h_3).1; have := (h_3).2; have := (h_11).1; have := (h_11).2; omega) _ _ _ hP hD hS (lv_sub hl [0, 1] rfl)
  · have h_12 : iv 1 8 (sg 51) := iv_neL c_2 (show iv 0 8 (sg 51) from MI_s hI 51) (by decide)
    exact W.vret hx hb hr (fun t ht hW => ⟨⟨(sg, gm, lg), rfl, ⟨sg, gm, lg, rfl, hI, KS_rf, KS_rf, KS_rf, (by have := i32_0; have := i32_1; have := i32_2; have := i32_m1; have := (show iv 0 8 (sg 51) from MI_s hI 51).1; have := (show iv 0 8 (sg 51) from MI_s hI 51).2; have := (hvx).1; have := (hvx).2; have := (h_12).1; have := (h_12).2; omega)⟩, by rw [ht]; exact hP, va_K.moved hW.alike hK, hD⟩, hS.F ht⟩) hS.2.2 dX13_fails_7

set_option maxHeartbeats 4000000 in
set_option maxRecDepth 100000 in
theorem f_isMany (l : Launch) (dC : Nat → ClassId) (dI : Nat → Nat → Nat) (h0 : Nat) (ad : Nat → Nat) (cid : Nat → ClassId) (sg : Nat → Int32) (gm : Nat → Nat → Int32) (lg : Nat → Nat → Int64) (b : Int32) (hI : MI sg gm) (hvb : iv 0 79 b) : MMi l dC dI yX13_isMany wm_X13_isMany ({ frames := 2, cells := 0, slots := 0, locals := 51 }) h0 ad cid [.int b] sg gm lg (fun r v => (iv 0 1 r) ∧ ((r.toInt = 0 ∧ ¬ mMny gm lg b.toNatClampNeg) ∨ (r.toInt = 1 ∧ mMny gm lg b.toNatClampNeg)) ∧ v = (sg, gm, lg)) := by
  intro sz
  refine Met.ofW (cc := cX13_isMany) (maxL := 2) (ret := (some .boolean)) (by decide) rfl ?_
  intro p e s m args below meth c s₁ B hml hv
  obtain ⟨rfl, hsz, hP, hK, hD0⟩ := hv
  have hx := B.exec
  have hb := B.bytes
  have hr := B.returns
  have hts := atoms_spec (ws := wm_X13_isMany) B.pre
  have htb := fun (w : Cond) (h : w ∈ tb) => hts w (List.mem_cons_of_mem _ h)
  have hown : s.vm.findClass RX13 = some m.cls := findClass_of_methodNamed B.named
  have hlocks := B.notSynchronized
  subst hsz
  have hD := hD0.self (sz := s.heap.size)
  generalize hAe : va_A (mW h0 ad cid sg gm lg) s.heap.size = A at hD ⊢
  have hA : ∀ q : Nat, s.heap.size ≤ q → A q := fun q h => by rw [← hAe]; exact Or.inr h
  have hS : va_S A s.heap s.heap [] := va_S.rf
  have hl := lv_entry ([.ref h0, .int b]) (n := 2) (Nat.le_of_ble_eq_true rfl)
  rw [lg_entry_eq]
  generalize (lg_sl ([.ref h0, .int b]) ++ List.replicate (2 - (lg_sl ([.ref h0, .int b])).length) Slot.unset).toArray = ls at hl ⊢
  have hl : lv_has ls 2 [(0, .ref h0), (1, .int b)] := hl
  have hj42 : ∀ (y0_42 : Int32) (_ : iv 0 79 b) (_ : iv 0 1 y0_42) (_ : (y0_42.toInt = 0 ∧ ¬ mMny gm lg b.toNatClampNeg) ∨ (y0_42.toInt = 1 ∧ mMny gm lg b.toNatClampNeg)) (H : Heap) (locs : List Loc) (ls : Array Slot), va_P (dC, dI) vwCl (mW h0 ad cid sg gm lg) H → va_D A (mW h0 ad cid sg gm lg) → va_S A s.heap H locs → lv_has ls 2 [(0, .ref h0), (1, .int b)] → W p l e (headSpec wm_X13_isMany ({ frames := 2, cells := 0, slots := 0, locals := 51 })).room s m ([.ref h0, .int b] : List Value).toArray below meth c H locs 0 0 (MQ below (va_Qi (fun r v => (iv 0 1 r) ∧ ((r.toInt = 0 ∧ ¬ mMny gm lg b.toNatClampNeg) ∨ (r.toInt = 1 ∧ mMny gm lg b.toNatClampNeg)) ∧ v = (sg, gm, lg)) (MB dC dI h0 ad cid A) A) ([.ref h0, .int b] : List Value).toArray s 0 0 A) (F0 m 42 ls [.int y0_42]) := by
    intro y0_42 hsx1_42 hy0_42 hm2 H locs ls hP hD hS hl
    exact W.zret (v := y0_42) hx hb hr (iv_nb hy0_42) (fun t ht hW => ⟨⟨y0_42, (sg, gm, lg), rfl, ⟨hy0_42, (hm2), rfl⟩, by rw [ht]; exact hP, va_K.moved hW.alike hK, hD⟩, hS.F ht⟩) hS.2.2 dX13_isMany_42
  have hj37 : ∀ (_ : iv 0 79 b) (_ : mMny gm lg b.toNatClampNeg) (H : Heap) (locs : List Loc) (ls : Array Slot), va_P (dC, dI) vwCl (mW h0 ad cid sg gm lg) H → va_D A (mW h0 ad cid sg gm lg) → va_S A s.heap H locs → lv_has ls 2 [(0, .ref h0), (1, .int b)] → W p l e (headSpec wm_X13_isMany ({ frames := 2, cells := 0, slots := 0, locals := 51 })).room s m ([.ref h0, .int b] : List Value).toArray below meth c H locs 0 0 (MQ below (va_Qi (fun r v => (iv 0 1 r) ∧ ((r.toInt = 0 ∧ ¬ mMny gm lg b.toNatClampNeg) ∨ (r.toInt = 1 ∧ mMny gm lg b.toNatClampNeg)) ∧ v = (sg, gm, lg)) (MB dC dI h0 ad cid A) A) ([.ref h0, .int b] : List Value).toArray s 0 0 A) (F0 m 37 ls []) := by
    intro  hsx1_37 hmy H locs ls hP hD hS hl
    refine lv_iconst (v := 1) hx hb dX13_isMany_37 (by decide) ?_
    refine lv_goto (tgt := 42) hx hb dX13_isMany_38 (by decide) ?_
    exact hj42 1 hsx1_37 (iv_w (iv_k (by decide) : iv 1 1 1) (by decide)) (Or.inr ⟨rfl, hmy⟩) _ _ _ hP hD hS (lv_sub hl [0, 1] rfl)
  refine lv_aload_n hx hb dX13_isMany_0 rfl (lv_at hl 0 rfl) ?_
  refine mr_get (v := .ref (ad 28)) hx hb htb inX13 hown hK hP 28 (by decide) (htb _ kw_184) rfl dX13_isMany_1 ?_
  refine lv_aload_n hx hb dX13_isMany_4 rfl (lv_at hl 0 rfl) ?_
  refine mr_get (v := .ref (ad 42)) hx hb htb inX13 hown hK hP 42 (by decide) (htb _ kw_196) rfl dX13_isMany_5 ?_
  refine lv_iload_n hx hb dX13_isMany_8 rfl (lv_at hl 1 rfl) ?_
  refine mr_iald hx hb hK hP 33 (k := 42) rfl rfl rfl (show vp_in b 80 from (iv_in hvb (by decide))) dX13_isMany_9 ?_
  refine lv_topi (fun z_1 ez_1 => ?_)
  have hz_1 : iv 0 79 z_1 := iv_of ez_1 (MI_a hI 42 hvb (by decide))
  refine mr_iald hx hb hK hP 21 (k := 28) rfl rfl rfl (show vp_in z_1 80 from (iv_in hz_1 (by decide))) dX13_isMany_10 ?_
  refine lv_topi (fun z_2 ez_2 => ?_)
  have hz_2 : iv (-1) 79 z_2 := iv_of ez_2 (MI_a hI 28 hz_1 (by decide))
  refine lv_if_ne (tgt := 37) hx hb dX13_isMany_11 (by decide) (fun c_3 => ?_) (fun c_3 => ?_)
  · have d_4 : ¬ (z_2 : Int32).toInt = 0 := lv_neT c_3 rfl
    exact hj37 hvb (Or.inl (by rw [← ez_1, ← ez_2]; exact c_3)) _ _ _ hP hD hS (lv_sub hl [0, 1] rfl)
  · have h_5 : iv 0 0 z_2 := iv_eq c_3 hz_2 (iv_k (by decide) : iv 0 0 0) (by decide)
    refine lv_aload_n hx hb dX13_isMany_14 rfl (lv_at hl 0 rfl) ?_
    refine lv_aload_n hx hb dX13_isMany_15 rfl (lv_at hl 0 rfl) ?_
    refine mr_get (v := .ref (ad 42)) hx hb htb inX13 hown hK hP 42 (by decide) (htb _ kw_196) rfl dX13_isMany_16 ?_
    refine lv_iload_n hx hb dX13_isMany_19 rfl (lv_at hl 1 rfl) ?_
    refine mr_iald hx hb hK hP 33 (k := 42) rfl rfl rfl (show vp_in b 80 from (iv_in hvb (by decide))) dX13_isMany_20 ?_
    refine lv_topi (fun z_6 ez_6 => ?_)
    obtain rfl : z_1 = z_6 := ez_1.trans ez_6.symm
    refine lv_ldc2 (own := RX13) (v := 495589486693) hx hb hown (htb _ kw_903) dX13_isMany_21 ?_
    refine mr_calll (rest := []) ⟨hx, hb, hml, hown, htb⟩ (f_word l dC dI h0 ad cid sg gm lg z_1 495589486693 hI hz_1) (cwV 2 htb (gd_V kw_923 kw_924 kw_925 kw_5 kw_1545) rfl rfl rfl (by decide +kernel) ⟨Nat.le_of_ble_eq_true rfl, Nat.le_of_ble_eq_true rfl⟩) rfl hl.1 rfl (Nat.le_of_ble_eq_true rfl) dX13_isMany_24 ⟨Nat.zero_le _, Nat.zero_le _⟩ hK hP hD hS hA (fun r_7 u_8 H locs hw hP hD hS => ?_)
    obtain ⟨fW_r_7, rfl⟩ := hw
    have hP : va_P (dC, dI) vwCl (mW h0 ad cid sg gm lg) H := hP
    have hD : va_D A (mW h0 ad cid sg gm lg) := hD
    refine lv_aload_n hx hb dX13_isMany_27 rfl (lv_at hl 0 rfl) ?_
    refine mr_get (v := .ref (ad 1)) hx hb htb inX13 hown hK hP 1 (by decide) (htb _ kw_156) rfl dX13_isMany_28 ?_
    refine lv_iconst (v := 3) hx hb dX13_isMany_31 (by decide) ?_
    refine mr_lald hx hb hK hP 1 (k := 1) rfl rfl rfl (show vp_in 3 11 from (iv_in (iv_k (by decide) : iv 3 3 3) (by decide))) dX13_isMany_32 ?_
    refine lv_topl (fun z_9 ez_9 => ?_)
    refine W.lcmp hx hb dX13_isMany_33 ?_
    refine lv_topi (fun z_10 ez_10 => ?_)
    have hz_10 : iv (-1) 1 z_10 := iv_of ez_10 (iv_cmp _ _)
    refine lv_if_ne (tgt := 41) hx hb dX13_isMany_34 (by decide) (fun c_11 => ?_) (fun c_11 => ?_)
    · have d_12 : ¬ (z_10 : Int32).toInt = 0 := lv_neT c_11 rfl
      refine lv_iconst (v := 0) hx hb dX13_isMany_41 (by decide) ?_
      exact hj42 0 hvb (iv_w (iv_k (by decide) : iv 0 0 0) (by decide)) (Or.inl ⟨rfl, fun q9 => q9.elim (fun q8 => q8 (by rw [← ez_1, ← ez_2]; exact c_3)) (fun q8 => c_11 (ez_10.trans ((lg_cmp_eq _ _).mpr (by rw [fW_r_7, ez_1, ez_9]; exact q8))))⟩) _ _ _ hP hD hS (lv_sub hl [0, 1] rfl)
    · have h_13 : iv 0 0 z_10 := iv_eq c_11 hz_10 (iv_k (by decide) : iv 0 0 0) (by decide)
      exact hj37 hvb (Or.inr (by rw [← ez_1, ← fW_r_7]; exact ((lg_cmp_eq _ _).mp (ez_10.symm.trans c_11)).trans ez_9)) _ _ _ hP hD hS (lv_sub hl [0, 1] rfl)

set_option maxHeartbeats 4000000 in
set_option maxRecDepth 100000 in
theorem a_isAbstract (l : Launch) (dC : Nat → ClassId) (dI : Nat → Nat → Nat) (h0 : Nat) (ad : Nat → Nat) (cid : Nat → ClassId) (sg : Nat → Int32) (gm : Nat → Nat → Int32) (lg : Nat → Nat → Int64) (b : Int32) (hI : MI sg gm) (hvb : iv 0 79 b) : MMi l dC dI yX13_isAbstract wm_X13_isAbstract ({ frames := 2, cells := 0, slots := 0, locals := 51 }) h0 ad cid [.int b] sg gm lg (fun r v => (iv 0 1 r) ∧ v = (sg, gm, lg)) := by
  intro sz
  refine Met.ofW (cc := cX13_isAbstract) (maxL := 2) (ret := (some .boolean)) (by decide) rfl ?_
  intro p e s m args below meth c s₁ B hml hv
  obtain ⟨rfl, hsz, hP, hK, hD0⟩ := hv
  have hx := B.exec
  have hb := B.bytes
  have hr := B.returns
  have hts := atoms_spec (ws := wm_X13_isAbstract) B.pre
  have htb := fun (w : Cond) (h : w ∈ tb) => hts w (List.mem_cons_of_mem _ h)
  have hown : s.vm.findClass RX13 = some m.cls := findClass_of_methodNamed B.named
  have hlocks := B.notSynchronized
  subst hsz
  have hD := hD0.self (sz := s.heap.size)
  generalize hAe : va_A (mW h0 ad cid sg gm lg) s.heap.size = A at hD ⊢
  have hA : ∀ q : Nat, s.heap.size ≤ q → A q := fun q h => by rw [← hAe]; exact Or.inr h
  have hS : va_S A s.heap s.heap [] := va_S.rf
  have hl := lv_entry ([.ref h0, .int b]) (n := 2) (Nat.le_of_ble_eq_true rfl)
  rw [lg_entry_eq]
  generalize (lg_sl ([.ref h0, .int b]) ++ List.replicate (2 - (lg_sl ([.ref h0, .int b])).length) Slot.unset).toArray = ls at hl ⊢
  have hl : lv_has ls 2 [(0, .ref h0), (1, .int b)] := hl
  have hj28 : ∀ (y0_28 : Int32) (_ : iv 0 79 b) (_ : iv 0 1 y0_28) (H : Heap) (locs : List Loc) (ls : Array Slot), va_P (dC, dI) vwCl (mW h0 ad cid sg gm lg) H → va_D A (mW h0 ad cid sg gm lg) → va_S A s.heap H locs → lv_has ls 2 [(0, .ref h0), (1, .int b)] → W p l e (headSpec wm_X13_isAbstract ({ frames := 2, cells := 0, slots := 0, locals := 51 })).room s m ([.ref h0, .int b] : List Value).toArray below meth c H locs 0 0 (MQ below (va_Qi (fun r v => (iv 0 1 r) ∧ v = (sg, gm, lg)) (MB dC dI h0 ad cid A) A) ([.ref h0, .int b] : List Value).toArray s 0 0 A) (F0 m 28 ls [.int y0_28]) := by
    intro y0_28 hsx1_28 hy0_28 H locs ls hP hD hS hl
    exact W.zret (v := y0_28) hx hb hr (iv_nb hy0_28) (fun t ht hW => ⟨⟨y0_28, (sg, gm, lg), rfl, ⟨hy0_28, rfl⟩, by rw [ht]; exact hP, va_K.moved hW.alike hK, hD⟩, hS.F ht⟩) hS.2.2 dX13_isAbstract_28
  refine lv_aload_n hx hb dX13_isAbstract_0 rfl (lv_at hl 0 rfl) ?_
  refine lv_aload_n hx hb dX13_isAbstract_1 rfl (lv_at hl 0 rfl) ?_
  refine mr_get (v := .ref (ad 42)) hx hb htb inX13 hown hK hP 42 (by decide) (htb _ kw_196) rfl dX13_isAbstract_2 ?_
  refine lv_iload_n hx hb dX13_isAbstract_5 rfl (lv_at hl 1 rfl) ?_
  refine mr_iald hx hb hK hP 33 (k := 42) rfl rfl rfl (show vp_in b 80 from (iv_in hvb (by decide))) dX13_isAbstract_6 ?_
  refine lv_topi (fun z_1 ez_1 => ?_)
  have hz_1 : iv 0 79 z_1 := iv_of ez_1 (MI_a hI 42 hvb (by decide))
  refine lv_ldc2 (own := RX13) (v := 7017298113369039732) hx hb hown (htb _ kw_902) dX13_isAbstract_7 ?_
  refine mr_calll (rest := []) ⟨hx, hb, hml, hown, htb⟩ (f_word l dC dI h0 ad cid sg gm lg z_1 7017298113369039732 hI hz_1) (cwV 2 htb (gd_V kw_923 kw_924 kw_925 kw_5 kw_1545) rfl rfl rfl (by decide +kernel) ⟨Nat.le_of_ble_eq_true rfl, Nat.le_of_ble_eq_true rfl⟩) rfl hl.1 rfl (Nat.le_of_ble_eq_true rfl) dX13_isAbstract_10 ⟨Nat.zero_le _, Nat.zero_le _⟩ hK hP hD hS hA (fun r_2 u_3 H locs hw hP hD hS => ?_)
  obtain ⟨fW_r_2, rfl⟩ := hw
  have hP : va_P (dC, dI) vwCl (mW h0 ad cid sg gm lg) H := hP
  have hD : va_D A (mW h0 ad cid sg gm lg) := hD
  refine lv_aload_n hx hb dX13_isAbstract_13 rfl (lv_at hl 0 rfl) ?_
  refine mr_get (v := .ref (ad 1)) hx hb htb inX13 hown hK hP 1 (by decide) (htb _ kw_156) rfl dX13_isAbstract_14 ?_
  refine lv_iconst (v := 0) hx hb dX13_isAbstract_17 (by decide) ?_
  refine mr_lald hx hb hK hP 1 (k := 1) rfl rfl rfl (show vp_in 0 11 from (iv_in (iv_k (by decide) : iv 0 0 0) (by decide))) dX13_isAbstract_18 ?_
  refine lv_topl (fun z_4 ez_4 => ?_)
  refine W.lcmp hx hb dX13_isAbstract_19 ?_
  refine lv_topi (fun z_5 ez_5 => ?_)
  have hz_5 : iv (-1) 1 z_5 := iv_of ez_5 (iv_cmp _ _)
  refine lv_if_ne (tgt := 27) hx hb dX13_isAbstract_20 (by decide) (fun c_6 => ?_) (fun c_6 => ?_)
  · have d_7 : ¬ (z_5 : Int32).toInt = 0 := lv_neT c_6 rfl
    refine lv_iconst (v := 0) hx hb dX13_isAbstract_27 (by decide) ?_
    exact hj28 0 hvb (iv_w (iv_k (by decide) : iv 0 0 0) (by decide)) _ _ _ hP hD hS (lv_sub hl [0, 1] rfl)
  · have h_8 : iv 0 0 z_5 := iv_eq c_6 hz_5 (iv_k (by decide) : iv 0 0 0) (by decide)
    refine lv_iconst (v := 1) hx hb dX13_isAbstract_23 (by decide) ?_
    refine lv_goto (tgt := 28) hx hb dX13_isAbstract_24 (by decide) ?_
    exact hj28 1 hvb (iv_w (iv_k (by decide) : iv 1 1 1) (by decide)) _ _ _ hP hD hS (lv_sub hl [0, 1] rfl)

theorem wid_lt {sg : Nat → Int32} {gm : Nat → Nat → Int32} {lg : Nat → Nat → Int64} {w : Int64} {r : Int32} (hn : iv 0 80 (sg 41)) (hr : r = mWid sg gm lg w) : r.toInt < (sg 41).toInt := by
  rcases (mWid_iv (sg := sg) (gm := gm) (lg := lg) w hn).2 with q | q
  · rw [hr]; exact q
  · rw [hr, q]; have := hn.1; show (-1 : Int) < _; omega
end
section
def ARGN (sg : Nat → Int32) (gm : Nat → Nat → Int32) (lg : Nat → Nat → Int64) (b : Int32) (m : Nat) : Prop := ∀ k, 0 ≤ k → k < m → ¬ mArg sg gm lg b k = -1
theorem ARGN_k {sg sg2 : Nat → Int32} {gm gm2 : Nat → Nat → Int32} {lg lg2 : Nat → Nat → Int64} {b : Int32} {m : Nat} (h : DK sg gm lg sg2 gm2 lg2) (q : ARGN sg gm lg b m) : ARGN sg2 gm2 lg2 b m := fun k h0 hk => by rw [mArg_k h]; exact q k h0 hk
theorem ARGN_r {sg sg2 : Nat → Int32} {gm gm2 : Nat → Nat → Int32} {lg lg2 : Nat → Nat → Int64} {b : Int32} {m : Nat} (h : DK sg gm lg sg2 gm2 lg2) (q : ARGN sg2 gm2 lg2 b m) : ARGN sg gm lg b m := fun k h0 hk => by rw [← mArg_k h]; exact q k h0 hk
def nAt (sg : Nat → Int32) (gm : Nat → Nat → Int32) (lg : Nat → Nat → Int64) (b : Int32) : Nat → Nat
  | 0 => 0
  | k + 1 => nAt sg gm lg b k + (if mHas gm lg (mArg sg gm lg b k).toNatClampNeg 24948 = 0 then 0 else 1)
theorem nAt_y {sg : Nat → Int32} {gm : Nat → Nat → Int32} {lg : Nat → Nat → Int64} {b : Int32} {k : Nat} (h : ¬ mHas gm lg (mArg sg gm lg b k).toNatClampNeg 24948 = 0) : nAt sg gm lg b (k + 1) = nAt sg gm lg b k + 1 := by
  show _ + _ = _; rw [if_neg h]
theorem nAt_n {sg : Nat → Int32} {gm : Nat → Nat → Int32} {lg : Nat → Nat → Int64} {b : Int32} {k : Nat} (h : mHas gm lg (mArg sg gm lg b k).toNatClampNeg 24948 = 0) : nAt sg gm lg b (k + 1) = nAt sg gm lg b k := by
  show _ + _ = _; rw [if_pos h]; rfl
theorem nAt_le {sg : Nat → Int32} {gm : Nat → Nat → Int32} {lg : Nat → Nat → Int64} {b : Int32} (j : Nat) : ∀ k, j ≤ k → nAt sg gm lg b k ≤ nAt sg gm lg b j + (k - j) := by
  intro k
  induction k with
  | zero => intro h; have h0 : j = 0 := by omega
            subst h0; exact Nat.le_refl _
  | succ k ih =>
    intro h
    by_cases hj : j = k + 1
    · subst hj; omega
    · have h1 := ih (by omega)
      by_cases q : mHas gm lg (mArg sg gm lg b k).toNatClampNeg 24948 = 0
      · rw [nAt_n q]; omega
      · rw [nAt_y q]; omega
def cF (f : Nat → Int32) : Nat → Nat
  | 0 => 0
  | k + 1 => cF f k + (if f k = -1 then 0 else 1)
theorem cF_s0 {f : Nat → Int32} {k : Nat} (h : f k = -1) : cF f (k + 1) = cF f k := by show _ + _ = _; rw [if_pos h]; rfl
theorem cF_s1 {f : Nat → Int32} {k : Nat} (h : ¬ f k = -1) : cF f (k + 1) = cF f k + 1 := by show _ + _ = _; rw [if_neg h]
theorem cF_le (f : Nat → Int32) : ∀ k, cF f k ≤ k := by
  intro k
  induction k with
  | zero => exact Nat.le_refl 0
  | succ k ih =>
    by_cases q : f k = -1
    · rw [cF_s0 q]; omega
    · rw [cF_s1 q]; omega
theorem cF_0 {f : Nat → Int32} : ∀ k, (∀ q, 0 ≤ q → q < k → f q = -1) → cF f k = 0 := by
  intro k
  induction k with
  | zero => intro _; rfl
  | succ k ih => intro h; rw [cF_s0 (h k (Nat.zero_le _) (by omega))]; exact ih (fun q q0 hq => h q q0 (by omega))
theorem cF_ge {f : Nat → Int32} {p9 : Nat} (h : ∀ q, 0 ≤ q → q < p9 → ¬ f q = -1) : ∀ k, p9 ≤ k → p9 ≤ cF f k := by
  have h1 : ∀ k, k ≤ p9 → cF f k = k := by
    intro k
    induction k with
    | zero => intro _; rfl
    | succ k ih => intro hk; rw [cF_s1 (h k (Nat.zero_le _) (by omega)), ih (by omega)]
  intro k
  induction k with
  | zero => intro hk; omega
  | succ k ih =>
    intro hk
    by_cases e9 : p9 = k + 1
    · rw [← e9, h1 p9 (Nat.le_refl _)]; exact Nat.le_refl _
    · have h2 := ih (by omega)
      by_cases q : f k = -1
      · rw [cF_s0 q]; exact h2
      · rw [cF_s1 q]; omega
theorem cF_ne {f f2 : Nat → Int32} : ∀ k, (∀ j, j < k → f2 j = f j) → cF f2 k = cF f k := by
  intro k
  induction k with
  | zero => intro _; rfl
  | succ k ih =>
    intro h
    by_cases q : f k = -1
    · rw [cF_s0 q, cF_s0 (by rw [h k (by omega)]; exact q)]; exact ih (fun j hj => h j (by omega))
    · rw [cF_s1 q, cF_s1 (by rw [h k (by omega)]; exact q), ih (fun j hj => h j (by omega))]
theorem cF_upd {f f2 : Nat → Int32} {i : Nat} {v : Int32} (h : f2 = upd f i v) (hv : ¬ v = -1) (hi : f i = -1) : ∀ k, i < k → cF f2 k = cF f k + 1 := by
  intro k
  induction k with
  | zero => intro q; omega
  | succ k ih =>
    intro hk
    by_cases e9 : i = k
    · subst e9
      rw [cF_s0 hi, cF_s1 (by rw [h, upd_at]; exact hv), cF_ne i (fun j hj => by rw [h, upd_ne (by omega)])]
    · have h1 := ih (by omega)
      have h2 : f2 k = f k := by rw [h, upd_ne (fun q => e9 q.symm)]
      by_cases q : f k = -1
      · rw [cF_s0 q, cF_s0 (by rw [h2]; exact q)]; exact h1
      · rw [cF_s1 q, cF_s1 (by rw [h2]; exact q), h1]
theorem cF_all {f : Nat → Int32} : ∀ k, cF f k = k → ∀ j, j < k → ¬ f j = -1 := by
  intro k
  induction k with
  | zero => intro _ j hj; omega
  | succ k ih =>
    intro h j hj
    have h1 := cF_le f k
    by_cases q : f k = -1
    · rw [cF_s0 q] at h; omega
    · rw [cF_s1 q] at h
      by_cases e9 : j = k
      · subst e9; exact q
      · exact ih (by omega) j (by omega)
/-- the spots: free, or one of the first n that holds one of the n -/
def SPo (f : Nat → Int32) (n : Nat) : Prop := ∀ q, q < 4 → f q = -1 ∨ (q < n ∧ 0 ≤ (f q).toInt ∧ (f q).toInt < (n : Int))
def SPF (f : Nat → Int32) (n : Nat) : Prop := ∀ q, q < n → 0 ≤ (f q).toInt ∧ (f q).toInt < (n : Int)
theorem SPo_0 {f : Nat → Int32} {n : Nat} {x : Int32} (hx : iv 4 4 x) (h : ∀ q, 0 ≤ q → q < x.toNatClampNeg → f q = -1) : SPo f n ∧ cF f 4 = 0 := by
  have k1 := iv_cl hx (by decide)
  have k2 := hx.1
  have h2 : ∀ q, 0 ≤ q → q < 4 → f q = -1 := fun q q0 hq => h q q0 (by omega)
  exact ⟨fun q hq => Or.inl (h2 q (Nat.zero_le _) hq), cF_0 4 h2⟩
theorem SPo_u {f f2 : Nat → Int32} {n i : Nat} {v : Int32} (h : SPo f n) (h2 : f2 = upd f i v) (hi : i < n) (v0 : 0 ≤ v.toInt) (v1 : v.toInt < (n : Int)) : SPo f2 n := by
  intro q hq
  by_cases e9 : q = i
  · subst e9; rw [h2, upd_at]; exact Or.inr ⟨hi, v0, v1⟩
  · rw [h2, upd_ne e9]; exact h q hq
theorem SPo_full {f : Nat → Int32} {n : Nat} (hn : n ≤ 4) (h : SPo f n) (hc : cF f 4 = n) : SPF f n := by
  have h1 : ∀ k, n ≤ k → k ≤ 4 → cF f k = cF f n := by
    intro k
    induction k with
    | zero => intro q _; have h0 : n = 0 := by omega
              subst h0; rfl
    | succ k ih =>
      intro q1 q2
      by_cases e9 : n = k + 1
      · rw [e9]
      · have h2 := ih (by omega) (by omega)
        rcases h k (by omega) with q | q
        · rw [cF_s0 q]; exact h2
        · omega
  have h3 := h1 4 hn (Nat.le_refl 4)
  intro q hq
  have h4 := cF_all n (h3.symm.trans hc) q hq
  rcases h q (by omega) with q5 | q5
  · exact absurd q5 h4
  · exact q5.2
theorem at_iv {w : Int64} {z z2 : Int32} (h : 48 ≤ w.toInt ∧ w.toInt ≤ 50) (e1 : z = w.toInt32) (e2 : z2 = z - 48) : iv 0 2 z2 := by
  have h1 : z.toInt = w.toInt := by rw [e1, Int64.toInt_toInt32, i32_bm ⟨by omega, by omega⟩]
  have h2 : (48 : Int32).toInt = 48 := rfl
  have h3 : z2.toInt = z.toInt - 48 := by rw [e2, Int32.toInt_sub, h2, i32_bm ⟨by omega, by omega⟩]
  exact ⟨by omega, by omega⟩
theorem arg_el {sg : Nat → Int32} {gm : Nat → Nat → Int32} {lg : Nat → Nat → Int64} {b r : Int32} {n : Nat} (hn : iv 0 80 (sg 24)) (hr : r = mArg sg gm lg b n) (h : ¬ mArg sg gm lg b n = -1) : iv 0 79 r ∧ r.toNatClampNeg < (sg 24).toNatClampNeg ∧ gm 26 r.toNatClampNeg = 4 := by
  obtain ⟨i1, i2, i3, i4, i5⟩ := argF_ok hn n h
  rw [hr]
  exact ⟨iv_w i1 (by decide), i2, i4⟩
theorem arg_at {sg : Nat → Int32} {gm : Nat → Nat → Int32} {lg : Nat → Nat → Int64} {r : Int32} (hs : STR sg gm lg) (h1 : r.toNatClampNeg < (sg 24).toNatClampNeg) (h2 : gm 26 r.toNatClampNeg = 4) (hh : ¬ mHas gm lg r.toNatClampNeg 24948 = 0) : 48 ≤ (mWord gm lg r.toNatClampNeg 24948).toInt ∧ (mWord gm lg r.toNatClampNeg 24948).toInt ≤ 50 :=
  ((hs.1 _ h1).2.1 (by rw [h2]; rfl)).2.resolve_left hh
/-- the maker or factory i can take the arguments of b -/
def CHO (sg : Nat → Int32) (gm : Nat → Nat → Int32) (lg : Nat → Nat → Int64) (b cs c i : Int32) : Prop := iv 0 31 i ∧ 0 ≤ c.toInt ∧ (¬ cs = 0 → ARGN sg gm lg b (gm 8 i.toNatClampNeg).toNatClampNeg) ∧ (cs = 0 → ARGN sg gm lg b (gm 16 i.toNatClampNeg).toNatClampNeg)
end
section
def BI (gm : Nat → Nat → Int32) (lg : Nat → Nat → Int64) (b : Nat) : Prop := ¬ gm 61 b = 0 → 0 ≤ (gm 60 b).toInt ∧ ¬ mMny gm lg b ∧ gm 62 b = 0
def cnt1 (f : Nat → Int32) : Nat → Nat
  | 0 => 0
  | k + 1 => cnt1 f k + (if f k = 0 then 0 else 1)
/-- what holds of the beans that are made, and of the values -/
def GI0 (sg : Nat → Int32) (gm : Nat → Nat → Int32) (lg : Nat → Nat → Int64) : Prop := VAL gm ∧ (∀ b, b < 80 → BI gm lg b) ∧ (sg 50).toInt ≤ (cnt1 (gm 61) 80 : Int)
theorem mMny_k {sg sg2 : Nat → Int32} {gm gm2 : Nat → Nat → Int32} {lg lg2 : Nat → Nat → Int64} (h : DK sg gm lg sg2 gm2 lg2) (h1 : lg2 1 = lg 1) (b : Nat) : mMny gm2 lg2 b = mMny gm lg b := by
  have f := mWord_k h.1
  obtain ⟨⟨h24, h26, h28, h29, h30, h36, h37, h38, h35⟩, h41, h42, h43⟩ := h
  unfold mMny; rw [h42, h28, f, h1]
theorem GI0_k {sg sg2 : Nat → Int32} {gm gm2 : Nat → Nat → Int32} {lg lg2 : Nat → Nat → Int64} (q : GI0 sg gm lg) (h : DK sg gm lg sg2 gm2 lg2) (h1 : lg2 1 = lg 1) (h60 : gm2 60 = gm 60) (h61 : gm2 61 = gm 61) (h62 : gm2 62 = gm 62) (hv : VAL gm2) (h50 : sg2 50 = sg 50) : GI0 sg2 gm2 lg2 := by
  refine ⟨hv, fun b hb => ?_, by rw [h50, h61]; exact q.2.2⟩
  have := q.2.1 b hb
  unfold BI at *
  rw [h60, h61, h62, mMny_k h h1]
  exact this
theorem GI0_of {sg sg2 : Nat → Int32} {gm gm2 : Nat → Nat → Int32} {lg lg2 : Nat → Nat → Int64} {Ls Lg Ll : List Nat} (q : GI0 sg gm lg) (h1 : KS Ls sg sg2) (h2 : KS Lg gm gm2) (h3 : KS Ll lg lg2) (q1 : (Ls.contains 24 || Ls.contains 41) = false) (q2 : ([26, 28, 29, 30, 36, 37, 38, 42, 43].all fun k => !Lg.contains k) = true) (q3 : Ll.contains 35 = false) (q4 : ([60, 61, 62, 70, 71, 72, 73].all fun k => !Lg.contains k) = true) (q5 : Ls.contains 50 = false) (q6 : Ll.contains 1 = false) : GI0 sg2 gm2 lg2 := by
  have g : ∀ k ∈ [60, 61, 62, 70, 71, 72, 73], gm2 k = gm k := fun k hk => h2 k (by have := List.all_eq_true.mp q4 k hk; simpa using this)
  exact GI0_k q (DK_of h1 h2 h3 q1 q2 q3) (h3 1 q6) (g 60 (by decide)) (g 61 (by decide)) (g 62 (by decide)) (VAL_k (g 70 (by decide)) (g 71 (by decide)) (g 72 (by decide)) (g 73 (by decide)) q.1) (h1 50 q5)
theorem GI0_push {sg sg2 : Nat → Int32} {gm gm2 : Nat → Nat → Int32} {lg lg2 : Nat → Nat → Int64} {b : Nat} {v : Int32} (q : GI0 sg gm lg) (h : DK sg gm lg sg2 gm2 lg2) (h1 : lg2 1 = lg 1) (h60 : gm2 60 = gm 60) (h61 : gm2 61 = gm 61) (h62 : gm2 62 = upd (gm 62) b v) (h70 : gm2 70 = gm 70) (h71 : gm2 71 = gm 71) (h72 : gm2 72 = gm 72) (h73 : gm2 73 = gm 73) (h50 : sg2 50 = sg 50) (hb : gm 61 b = 0) : GI0 sg2 gm2 lg2 := by
  refine ⟨VAL_k h70 h71 h72 h73 q.1, fun k hk => ?_, by rw [h50, h61]; exact q.2.2⟩
  have := q.2.1 k hk
  unfold BI at *
  rw [h60, h61, mMny_k h h1]
  intro h9
  have h8 := this h9
  refine ⟨h8.1, h8.2.1, ?_⟩
  rw [h62, upd_ne (fun e9 => h9 (by rw [e9]; exact hb))]
  exact h8.2.2
def PIL (sg : Nat → Int32) (gm : Nat → Nat → Int32) : Prop := ∀ j, j < (sg 63).toNatClampNeg → ¬ gm 62 (gm 64 j).toNatClampNeg = 0 ∧ iv 0 79 (gm 64 j) ∧ (gm 64 j).toInt < (sg 41).toInt ∧ ∀ i, i < j → ¬ gm 64 i = gm 64 j
theorem PIL_room {sg : Nat → Int32} {gm : Nat → Nat → Int32} {b : Int32} (h : PIL sg gm) (hh : iv 0 80 (sg 63)) (hb : iv 0 79 b) (hm : gm 62 b.toNatClampNeg = 0) : (sg 63).toInt ≤ 79 := by
  by_cases q : (sg 63).toInt ≤ 79
  · exact q
  exfalso
  have k1 := iv_cl hh (by decide)
  have k2 := hh.2
  have k3 := hb.1
  have k4 := hb.2
  obtain ⟨i, j, h1, h2, h3⟩ := pigeon 80 (fun k => if k < 80 then (gm 64 k).toInt.toNat else b.toInt.toNat) (fun k hk => by
    show (if k < 80 then _ else _) < 80
    by_cases q5 : k < 80
    · rw [if_pos q5]; have := (h k (by omega)).2.1.1; have := (h k (by omega)).2.1.2; omega
    · rw [if_neg q5]; omega)
  have h3 : (if i < 80 then (gm 64 i).toInt.toNat else b.toInt.toNat) = (if j < 80 then (gm 64 j).toInt.toNat else b.toInt.toNat) := h3
  rw [if_pos (show i < 80 by omega)] at h3
  have gi := h i (by omega)
  have gi1 := gi.2.1.1
  by_cases q5 : j < 80
  · rw [if_pos q5] at h3
    have gj := h j (by omega)
    have gj1 := gj.2.1.1
    exact gj.2.2.2 i h1 (Int32.toInt_inj.mp (by omega))
  · rw [if_neg q5] at h3
    have e9 : gm 64 i = b := Int32.toInt_inj.mp (by omega)
    have := gi.1
    rw [e9] at this
    exact this hm
/-- a bean is put on top of the pile -/
def PUSH (sg : Nat → Int32) (gm : Nat → Nat → Int32) (g67 : Nat → Int32) (sg2 : Nat → Int32) (gm2 : Nat → Nat → Int32) (b : Int32) : Prop :=
  (sg2 63).toInt = (sg 63).toInt + 1 ∧ (sg 63).toInt ≤ 79 ∧ gm2 64 = upd (gm 64) (sg 63).toNatClampNeg b ∧ gm2 65 = upd (gm 65) (sg 63).toNatClampNeg 0 ∧ gm2 66 = upd (gm 66) (sg 63).toNatClampNeg 0 ∧ gm2 67 = upd g67 (sg 63).toNatClampNeg 0 ∧ gm2 69 = upd (gm 69) (sg 63).toNatClampNeg (-1) ∧ gm2 62 = upd (gm 62) b.toNatClampNeg 1 ∧ gm 62 b.toNatClampNeg = 0 ∧ iv 0 79 b ∧ b.toInt < (sg 41).toInt ∧ sg2 51 = sg 51
def SAMEP (sg : Nat → Int32) (gm : Nat → Nat → Int32) (sg2 : Nat → Int32) (gm2 : Nat → Nat → Int32) : Prop := sg2 63 = sg 63 ∧ gm2 62 = gm 62 ∧ gm2 64 = gm 64 ∧ gm2 65 = gm 65 ∧ gm2 66 = gm 66 ∧ gm2 67 = gm 67 ∧ gm2 68 = gm 68 ∧ gm2 69 = gm 69 ∧ sg2 51 = sg 51
def GETS (sg : Nat → Int32) (gm : Nat → Nat → Int32) (sg2 : Nat → Int32) (gm2 : Nat → Nat → Int32) (r : Int32) : Prop := (r.toInt = 1 ∧ 0 ≤ (sg2 74).toInt ∧ SAMEP sg gm sg2 gm2) ∨ (r.toInt = 0 ∧ (1 ≤ (sg2 51).toInt ∨ ∃ b, PUSH sg gm (gm 67) sg2 gm2 b))
def WRK (sg : Nat → Int32) (gm : Nat → Nat → Int32) (sg2 : Nat → Int32) (gm2 : Nat → Nat → Int32) (r : Int32) : Prop := (r.toInt = 1 ∧ SAMEP sg gm sg2 gm2) ∨ (r.toInt = 0 ∧ (1 ≤ (sg2 51).toInt ∨ ∃ b, PUSH sg gm (gm 67) sg2 gm2 b))
theorem SAMEP_tr {sg sg1 sg2 : Nat → Int32} {gm gm1 gm2 : Nat → Nat → Int32} (h : SAMEP sg gm sg1 gm1) (h2 : SAMEP sg1 gm1 sg2 gm2) : SAMEP sg gm sg2 gm2 := by
  obtain ⟨a1, a2, a3, a4, a5, a6, a7, a8, a9⟩ := h
  obtain ⟨b1, b2, b3, b4, b5, b6, b7, b8, b9⟩ := h2
  exact ⟨b1.trans a1, b2.trans a2, b3.trans a3, b4.trans a4, b5.trans a5, b6.trans a6, b7.trans a7, b8.trans a8, b9.trans a9⟩
theorem vok_0 {v : Int32} (h : v.toInt ≤ 959 ∨ 1000 ≤ v.toInt) : vok 0 v := ⟨fun q => absurd q (by decide), fun _ => h, fun q => absurd q (by decide)⟩
theorem vok_1 {v : Int32} (h : v.toInt ≤ 59) : vok 1 v := ⟨fun _ => h, fun q => absurd q (by decide), fun q => absurd q (by decide)⟩
theorem vok_2 {v : Int32} : vok 2 v := ⟨fun q => absurd q (by decide), fun q => absurd q (by decide), fun q => absurd q (by decide)⟩
theorem vok_3 {v : Int32} (h : v.toInt ≤ 6) : vok 3 v := ⟨fun q => absurd q (by decide), fun q => absurd q (by decide), fun _ => h⟩
theorem has_find {gm : Nat → Nat → Int32} {lg : Nat → Nat → Int64} {e : Nat} {nn : Int64} (h : ¬ mHas gm lg e nn = 0) : ¬ mFind gm lg e nn = -1 := fun q => h (by unfold mHas; rw [if_pos q])
end
section
/-- the n-th element within a -/
def chF (sg : Nat → Int32) (gm : Nat → Nat → Int32) (a : Int32) : Nat → Int32
  | 0 => mInn sg gm a 0 a
  | n + 1 => if chF sg gm a n = -1 then -1 else mInn sg gm a 0 (chF sg gm a n)
theorem chF_s {sg : Nat → Int32} {gm : Nat → Nat → Int32} {a x r : Int32} {n : Nat} (hx : x = chF sg gm a n) (h : ¬ x = -1) (hr : r = mInn sg gm a 0 x) : r = chF sg gm a (n + 1) := by
  show _ = (if _ then _ else _)
  rw [← hx, if_neg h, hr]
theorem cA_gap {gm : Nat → Nat → Int32} {x : Int32} {a : Nat} (hx : 0 ≤ x.toInt) : ∀ b, a ≤ b → NHB (qInn gm x 0) a b → cntA (gm 28) x.toNatClampNeg b = cntA (gm 28) x.toNatClampNeg a := by
  have kx : ((x.toNatClampNeg : Nat) : Int) = x.toInt := iv_cl (a := 0) (b := x.toInt) ⟨hx, Int.le_refl _⟩ (by decide)
  intro b
  induction b with
  | zero => intro h _; have h0 : a = 0 := by omega
            subst h0; rfl
  | succ b ih =>
    intro h hn
    by_cases e9 : a = b + 1
    · subst e9; rfl
    · have h1 := ih (by omega) (fun k q1 q2 => hn k q1 (by omega))
      have h2 := hn b (by omega) (by omega)
      have h3 : ¬ gm 28 b = x := fun q => by rw [qI_t q (Or.inl rfl)] at h2; cases h2
      show cntA (gm 28) x.toNatClampNeg b + _ = _
      rw [if_neg (fun q => h3 (Int32.toInt_inj.mp (by omega))), h1]
      rfl
theorem cA_low {sg : Nat → Int32} {gm : Nat → Nat → Int32} {x : Int32} (ht : TRE sg gm) (hx : 0 ≤ x.toInt) (hl : x.toNatClampNeg < (sg 24).toNatClampNeg) : ∀ m, m ≤ x.toNatClampNeg + 1 → cntA (gm 28) x.toNatClampNeg m = 0 := by
  intro m
  induction m with
  | zero => intro _; rfl
  | succ m ih =>
    intro hm
    have h1 := (ht.1 m (by omega)).1
    show cntA (gm 28) x.toNatClampNeg m + _ = 0
    rw [ih (by omega), if_neg (by omega)]
theorem chF_ok {sg : Nat → Int32} {gm : Nat → Nat → Int32} {x : Int32} (ht : TRE sg gm) (hn : iv 0 80 (sg 24)) (hx : iv 0 79 x) (hl : x.toNatClampNeg < (sg 24).toNatClampNeg) : ∀ n, (chF sg gm x n = -1 ∧ cntA (gm 28) x.toNatClampNeg (sg 24).toNatClampNeg ≤ n) ∨ (iv 0 79 (chF sg gm x n) ∧ (chF sg gm x n).toNatClampNeg < (sg 24).toNatClampNeg ∧ cntA (gm 28) x.toNatClampNeg (chF sg gm x n).toNatClampNeg = n ∧ gm 28 (chF sg gm x n).toNatClampNeg = x) := by
  intro n
  induction n with
  | zero =>
    rcases mInn_or (gm := gm) (a := x) (kd := 0) (bh := x) hn with ⟨q, q9⟩ | ⟨q1, q2, q3, q4, q5, q6⟩
    · refine Or.inl ⟨q, ?_⟩
      rw [cA_gap hx.1 _ (by omega) q9, cA_low ht hx.1 hl _ (Nat.le_refl _)]
      exact Nat.le_refl 0
    · refine Or.inr ⟨iv_w q1 (by decide), q3, ?_, q4⟩
      show cntA _ _ (mInn sg gm x 0 x).toNatClampNeg = 0
      rw [cA_gap hx.1 _ (by omega) q6, cA_low ht hx.1 hl _ (Nat.le_refl _)]
  | succ n ih =>
    rcases ih with ⟨i1, i2⟩ | ⟨i1, i2, i3, i4⟩
    · refine Or.inl ⟨?_, by omega⟩
      show (if _ then _ else _) = _
      rw [if_pos i1]
    · have hm : ¬ chF sg gm x n = -1 := fun q => by have := i1.1; rw [q] at this; exact absurd this (by decide)
      have e1 : chF sg gm x (n + 1) = mInn sg gm x 0 (chF sg gm x n) := by show (if _ then _ else _) = _; rw [if_neg hm]
      have kx := iv_cl hx (by decide)
      have e2 : cntA (gm 28) x.toNatClampNeg ((chF sg gm x n).toNatClampNeg + 1) = n + 1 := by
        show _ + _ = _
        rw [i3, if_pos (by rw [i4]; omega)]
      rw [e1]
      rcases mInn_or (gm := gm) (a := x) (kd := 0) (bh := chF sg gm x n) hn with ⟨q, q9⟩ | ⟨q1, q2, q3, q4, q5, q6⟩
      · refine Or.inl ⟨q, ?_⟩
        rw [cA_gap hx.1 _ (by omega) q9, e2]
        exact Nat.le_refl _
      · refine Or.inr ⟨iv_w q1 (by decide), q3, ?_, q4⟩
        rw [cA_gap hx.1 _ (by omega) q6, e2]
theorem cA_mono {f : Nat → Int32} {a : Nat} (j : Nat) : ∀ k, j ≤ k → cntA f a j ≤ cntA f a k := by
  intro k
  induction k with
  | zero => intro h; have h0 : j = 0 := by omega
            subst h0; exact Nat.le_refl _
  | succ k ih =>
    intro h
    by_cases hj : j = k + 1
    · subst hj; exact Nat.le_refl _
    · have := ih (by omega)
      show _ ≤ cntA f a k + _
      omega
/-- within the element x there are more than n: the n-th is there -/
theorem chF_in {sg : Nat → Int32} {gm : Nat → Nat → Int32} {x r : Int32} {n : Nat} (ht : TRE sg gm) (hn : iv 0 80 (sg 24)) (hx : iv 0 79 x) (hl : x.toNatClampNeg < (sg 24).toNatClampNeg) (hr : r = chF sg gm x n) (h : (n : Int) < (gm 29 x.toNatClampNeg).toInt) : iv 0 79 r ∧ r.toNatClampNeg < (sg 24).toNatClampNeg := by
  rcases chF_ok ht hn hx hl n with ⟨q1, q2⟩ | ⟨q1, q2, _, _⟩
  · have := ht.2 _ hl; omega
  · rw [hr]; exact ⟨q1, q2⟩
theorem chF_lt {sg : Nat → Int32} {gm : Nat → Nat → Int32} {x r : Int32} {n : Nat} (ht : TRE sg gm) (hn : iv 0 80 (sg 24)) (hx : iv 0 79 x) (hl : x.toNatClampNeg < (sg 24).toNatClampNeg) (hr : r = chF sg gm x n) (h : ¬ r = -1) : (n : Int) < (gm 29 x.toNatClampNeg).toInt ∧ iv 0 79 r ∧ r.toNatClampNeg < (sg 24).toNatClampNeg := by
  rcases chF_ok ht hn hx hl n with ⟨q1, q2⟩ | ⟨q1, q2, q3, q4⟩
  · exact absurd (hr.trans q1) h
  · have h1 := ht.2 _ hl
    have kx := iv_cl hx (by decide)
    have e2 : cntA (gm 28) x.toNatClampNeg ((chF sg gm x n).toNatClampNeg + 1) = n + 1 := by
      show _ + _ = _
      rw [q3, if_pos (by rw [q4]; omega)]
    have h2 := cA_mono (f := gm 28) (a := x.toNatClampNeg) ((chF sg gm x n).toNatClampNeg + 1) (sg 24).toNatClampNeg (by omega)
    rw [hr]
    exact ⟨by omega, q1, q2⟩
/-- how many values the holder x takes -/
def LIM (sg : Nat → Int32) (gm : Nat → Nat → Int32) (x : Int32) : Int := if 0 < (gm 29 x.toNatClampNeg).toInt ∧ gm 26 (mInn sg gm x 0 x).toNatClampNeg = 6 then (gm 29 (mInn sg gm x 0 x).toNatClampNeg).toInt else 1
def WIN (sg : Nat → Int32) (gm : Nat → Nat → Int32) (x y : Int32) : Prop := iv 0 79 y ∧ y.toNatClampNeg < (sg 24).toNatClampNeg ∧ ((y = x ∧ (gm 29 x.toNatClampNeg).toInt = 0) ∨ (y = mInn sg gm x 0 x ∧ (gm 29 x.toNatClampNeg).toInt = 1))
def LST (sg : Nat → Int32) (gm : Nat → Nat → Int32) (x y : Int32) : Prop := iv 0 79 y ∧ y.toNatClampNeg < (sg 24).toNatClampNeg ∧ LIM sg gm x = (gm 29 y.toNatClampNeg).toInt ∧ (gm 29 y.toNatClampNeg).toInt ≤ 6
theorem WIN_1 {sg : Nat → Int32} {gm : Nat → Nat → Int32} {x y : Int32} (h : WIN sg gm x y) (hk : ¬ gm 26 y.toNatClampNeg = 6) : LIM sg gm x = 1 := by
  obtain ⟨h1, h2, ⟨h3, h4⟩ | ⟨h3, h4⟩⟩ := h
  · unfold LIM; rw [if_neg (fun q => by omega)]
  · unfold LIM; rw [if_neg (fun q => hk (by rw [h3]; exact q.2))]
theorem WIN_6 {sg : Nat → Int32} {gm : Nat → Nat → Int32} {lg : Nat → Nat → Int64} {x y : Int32} (hs : STR sg gm lg) (hx : (gm 26 x.toNatClampNeg).toInt = 4 ∨ (gm 26 x.toNatClampNeg).toInt = 5) (h : WIN sg gm x y) (hk : gm 26 y.toNatClampNeg = 6) : LST sg gm x y := by
  obtain ⟨h1, h2, ⟨h3, h4⟩ | ⟨h3, h4⟩⟩ := h
  · rw [h3] at hk; rw [hk] at hx; exact absurd hx (by decide)
  · refine ⟨h1, h2, ?_, (hs.1 _ h2).2.2.2 (by rw [hk]; rfl)⟩
    unfold LIM; rw [if_pos ⟨by omega, by rw [← h3]; exact hk⟩, ← h3]
theorem WIN_s {sg : Nat → Int32} {gm : Nat → Nat → Int32} {lg : Nat → Nat → Int64} {x : Int32} (hs : STR sg gm lg) (hx : iv 0 79 x) (hl : x.toNatClampNeg < (sg 24).toNatClampNeg) (hk : (gm 26 x.toNatClampNeg).toInt = 4 ∨ (gm 26 x.toNatClampNeg).toInt = 5) (hh : ¬ mHas gm lg x.toNatClampNeg 508440638821 = 0 ∨ ¬ mHas gm lg x.toNatClampNeg 7497062 = 0) : WIN sg gm x x := by
  refine ⟨hx, hl, Or.inl ⟨rfl, ?_⟩⟩
  rcases (hs.1 _ hl).1 hk with q | q
  · exact q.2
  · rcases hh with z | z
    · exact absurd q.1 z
    · exact absurd q.2.1 z
theorem WIN_i {sg : Nat → Int32} {gm : Nat → Nat → Int32} {lg : Nat → Nat → Int64} {x r : Int32} (ht : TRE sg gm) (hn : iv 0 80 (sg 24)) (hs : STR sg gm lg) (hx : iv 0 79 x) (hl : x.toNatClampNeg < (sg 24).toNatClampNeg) (hk : (gm 26 x.toNatClampNeg).toInt = 4 ∨ (gm 26 x.toNatClampNeg).toInt = 5) (h1 : mHas gm lg x.toNatClampNeg 508440638821 = 0) (h2 : mHas gm lg x.toNatClampNeg 7497062 = 0) (hr : r = mInn sg gm x 0 x) : WIN sg gm x r := by
  rcases (hs.1 _ hl).1 hk with q | q
  · rcases q.1 with z | z
    · exact absurd h1 z
    · exact absurd h2 z
  · obtain ⟨q1, q2⟩ := chF_in (n := 0) ht hn hx hl hr (by have := q.2.2; omega)
    exact ⟨q1, q2, Or.inr ⟨hr, q.2.2⟩⟩
theorem LIM_iv {sg : Nat → Int32} {gm : Nat → Nat → Int32} {lg : Nat → Nat → Int64} {x : Int32} (ht : TRE sg gm) (hn : iv 0 80 (sg 24)) (hs : STR sg gm lg) (hx : iv 0 79 x) (hl : x.toNatClampNeg < (sg 24).toNatClampNeg) : 0 ≤ LIM sg gm x ∧ LIM sg gm x ≤ 6 := by
  unfold LIM
  by_cases q : 0 < (gm 29 x.toNatClampNeg).toInt ∧ gm 26 (mInn sg gm x 0 x).toNatClampNeg = 6
  · rw [if_pos q]
    obtain ⟨q1, q2⟩ := chF_in (n := 0) ht hn hx hl rfl (by have := q.1; omega)
    have q3 := (hs.1 _ q2).2.2.2 (by show (gm 26 (mInn sg gm x 0 x).toNatClampNeg).toInt = 6; rw [q.2]; rfl)
    have q4 := ht.2 _ q2
    exact ⟨by show 0 ≤ (gm 29 (chF sg gm x 0).toNatClampNeg).toInt; omega, q3⟩
  · rw [if_neg q]; exact ⟨by decide, by decide⟩
def TOPn (sg : Nat → Int32) : Nat := (sg 63).toNatClampNeg - 1
def SAMEQ (sg : Nat → Int32) (gm : Nat → Nat → Int32) (sg2 : Nat → Int32) (gm2 : Nat → Nat → Int32) : Prop := sg2 63 = sg 63 ∧ gm2 62 = gm 62 ∧ gm2 64 = gm 64 ∧ gm2 65 = gm 65 ∧ gm2 66 = gm 66 ∧ gm2 68 = gm 68 ∧ gm2 69 = gm 69 ∧ sg2 51 = sg 51 ∧ ∀ j, j ≠ TOPn sg → gm2 67 j = gm 67 j
def WOUT (sg : Nat → Int32) (gm : Nat → Nat → Int32) (lim : Int) (sg2 : Nat → Int32) (gm2 : Nat → Nat → Int32) (r : Int32) : Prop := (r.toInt = 1 ∧ SAMEQ sg gm sg2 gm2) ∨ (r.toInt = 0 ∧ (1 ≤ (sg2 51).toInt ∨ ∃ b g67, PUSH sg gm g67 sg2 gm2 b ∧ (∀ j, j ≠ TOPn sg → g67 j = gm 67 j) ∧ (gm 67 (TOPn sg)).toInt ≤ (g67 (TOPn sg)).toInt ∧ (g67 (TOPn sg)).toInt < lim))
theorem SAMEQ_rf {sg : Nat → Int32} {gm : Nat → Nat → Int32} : SAMEQ sg gm sg gm := ⟨rfl, rfl, rfl, rfl, rfl, rfl, rfl, rfl, fun _ _ => rfl⟩
theorem SAMEQ_p {sg sg1 sg2 : Nat → Int32} {gm gm1 gm2 : Nat → Nat → Int32} (h : SAMEQ sg gm sg1 gm1) (h2 : SAMEP sg1 gm1 sg2 gm2) : SAMEQ sg gm sg2 gm2 := by
  obtain ⟨a1, a2, a3, a4, a5, a7, a8, a9, a10⟩ := h
  obtain ⟨b1, b2, b3, b4, b5, b6, b7, b8, b9⟩ := h2
  exact ⟨b1.trans a1, b2.trans a2, b3.trans a3, b4.trans a4, b5.trans a5, b7.trans a7, b8.trans a8, b9.trans a9, fun j hj => by rw [b6]; exact a10 j hj⟩
theorem SAMEQ_u {sg sg2 : Nat → Int32} {gm gm2 gm3 : Nat → Nat → Int32} {t : Nat} {v : Int32} (h : SAMEQ sg gm sg2 gm2) (h67 : gm3 67 = upd (gm2 67) t v) (ht : t = TOPn sg) (h62 : gm3 62 = gm2 62) (h64 : gm3 64 = gm2 64) (h65 : gm3 65 = gm2 65) (h66 : gm3 66 = gm2 66) (h68 : gm3 68 = gm2 68) (h69 : gm3 69 = gm2 69) : SAMEQ sg gm sg2 gm3 := by
  obtain ⟨a1, a2, a3, a4, a5, a7, a8, a9, a10⟩ := h
  exact ⟨a1, h62.trans a2, h64.trans a3, h65.trans a4, h66.trans a5, h68.trans a7, h69.trans a8, a9, fun j hj => by rw [h67, upd_ne (by rw [ht]; exact hj)]; exact a10 j hj⟩
theorem SAMEQ_v {sg sg2 : Nat → Int32} {gm gm2 gm3 : Nat → Nat → Int32} (h : SAMEQ sg gm sg2 gm2) (h62 : gm3 62 = gm2 62) (h64 : gm3 64 = gm2 64) (h65 : gm3 65 = gm2 65) (h66 : gm3 66 = gm2 66) (h67 : gm3 67 = gm2 67) (h68 : gm3 68 = gm2 68) (h69 : gm3 69 = gm2 69) : SAMEQ sg gm sg2 gm3 := by
  obtain ⟨a1, a2, a3, a4, a5, a7, a8, a9, a10⟩ := h
  exact ⟨a1, h62.trans a2, h64.trans a3, h65.trans a4, h66.trans a5, h68.trans a7, h69.trans a8, a9, fun j hj => by rw [h67]; exact a10 j hj⟩
theorem PUSH_tr {sg sg1 sg2 : Nat → Int32} {gm gm1 gm2 : Nat → Nat → Int32} {g67 : Nat → Int32} {b : Int32} (h : SAMEQ sg gm sg1 gm1) (h41 : sg1 41 = sg 41) (h2 : PUSH sg1 gm1 g67 sg2 gm2 b) : PUSH sg gm g67 sg2 gm2 b := by
  obtain ⟨a1, a2, a3, a4, a5, a7, a8, a9, a10⟩ := h
  unfold PUSH at *
  rw [a1, a2, a3, a4, a5, a8, a9, h41] at h2
  exact h2
theorem PIL_k {sg sg2 : Nat → Int32} {gm gm2 : Nat → Nat → Int32} (h63 : sg2 63 = sg 63) (h41 : sg2 41 = sg 41) (h62 : gm2 62 = gm 62) (h64 : gm2 64 = gm 64) (h : PIL sg gm) : PIL sg2 gm2 := by
  unfold PIL at *; rw [h63, h41, h62, h64]; exact h
theorem WOUT_0 {sg sg1 sg2 : Nat → Int32} {gm gm1 gm2 : Nat → Nat → Int32} {lim : Int} {r : Int32} (h : SAMEQ sg gm sg1 gm1) (h41 : sg1 41 = sg 41) (hw : WRK sg1 gm1 sg2 gm2 r) (hr : r.toInt = 0) (h1 : (gm 67 (TOPn sg)).toInt ≤ (gm1 67 (TOPn sg)).toInt) (h2 : (gm1 67 (TOPn sg)).toInt < lim) : WOUT sg gm lim sg2 gm2 r := by
  rcases hw with ⟨q, _⟩ | ⟨_, q | ⟨b, q⟩⟩
  · omega
  · exact Or.inr ⟨hr, Or.inl q⟩
  · exact Or.inr ⟨hr, Or.inr ⟨b, gm1 67, PUSH_tr h h41 q, h.2.2.2.2.2.2.2.2, h1, h2⟩⟩
theorem WRK_1 {sg sg2 : Nat → Int32} {gm gm2 : Nat → Nat → Int32} {r : Int32} (hw : WRK sg gm sg2 gm2 r) (hr : ¬ r.toInt = 0) : SAMEP sg gm sg2 gm2 := by
  rcases hw with ⟨_, q⟩ | ⟨q, _⟩
  · exact q
  · exact absurd q hr
theorem top_n {sg : Nat → Int32} {z : Int32} (h : iv 1 80 (sg 63)) (hz : z.toInt = (sg 63).toInt - 1) : z.toNatClampNeg = TOPn sg := by
  have k1 := iv_cl h (by decide)
  have k2 := h.1
  have k3 := iv_cl (a := 0) (b := z.toInt) (x := z) ⟨by omega, Int.le_refl _⟩ (by decide)
  unfold TOPn
  omega
end
section
def LM (sg : Nat → Int32) (gm : Nat → Nat → Int32) (lg : Nat → Nat → Int64) (b p9 ix : Int32) : Int := if p9.toInt = 3 then (if mArg sg gm lg b ix.toNatClampNeg = -1 then 0 else LIM sg gm (mArg sg gm lg b ix.toNatClampNeg)) else (if ix.toInt < (gm 44 b.toNatClampNeg).toInt then LIM sg gm (gm 45 (26 * b.toNatClampNeg + ix.toNatClampNeg)) else 0)
/-- what holds of a frame of the pile; w is 1 for one that waits -/
def FRv (sg : Nat → Int32) (gm : Nat → Nat → Int32) (lg : Nat → Nat → Int64) (b p9 ix it ob : Int32) (w : Int) : Prop := (p9.toInt = 3 ∨ p9.toInt = 4 → it.toInt + w ≤ LM sg gm lg b p9 ix) ∧ (p9.toInt ≤ 2 → ix.toInt = 0 ∧ it.toInt = 0) ∧ (p9.toInt = 3 → ARGN sg gm lg b ix.toNatClampNeg) ∧ (p9.toInt = 4 → ix.toInt ≤ (gm 44 b.toNatClampNeg).toInt ∧ 0 ≤ ob.toInt ∧ (¬ mMny gm lg b.toNatClampNeg → 0 ≤ (gm 60 b.toNatClampNeg).toInt))
def FR (sg : Nat → Int32) (gm : Nat → Nat → Int32) (lg : Nat → Nat → Int64) (j : Nat) (w : Int) : Prop := FRv sg gm lg (gm 64 j) (gm 65 j) (gm 66 j) (gm 67 j) (gm 69 j) w
theorem LIM_k {sg sg2 : Nat → Int32} {gm gm2 : Nat → Nat → Int32} {lg lg2 : Nat → Nat → Int64} (h : DK0 sg gm lg sg2 gm2 lg2) (x : Int32) : LIM sg2 gm2 x = LIM sg gm x := by
  unfold LIM; rw [mInn_k h, h.2.1, h.2.2.2.1]
theorem LM_k {sg sg2 : Nat → Int32} {gm gm2 : Nat → Nat → Int32} {lg lg2 : Nat → Nat → Int64} (h : DK sg gm lg sg2 gm2 lg2) (h44 : gm2 44 = gm 44) (h45 : gm2 45 = gm 45) (b p9 ix : Int32) : LM sg2 gm2 lg2 b p9 ix = LM sg gm lg b p9 ix := by
  unfold LM; rw [mArg_k h, LIM_k h.1, LIM_k h.1, h44, h45]
theorem FRv_k {sg sg2 : Nat → Int32} {gm gm2 : Nat → Nat → Int32} {lg lg2 : Nat → Nat → Int64} {b p9 ix it ob : Int32} {w : Int} (h : DK sg gm lg sg2 gm2 lg2) (h44 : gm2 44 = gm 44) (h45 : gm2 45 = gm 45) (h1 : lg2 1 = lg 1) (ho : ∀ k, 0 ≤ (gm 60 k).toInt → 0 ≤ (gm2 60 k).toInt) (q : FRv sg gm lg b p9 ix it ob w) : FRv sg2 gm2 lg2 b p9 ix it ob w := by
  obtain ⟨a1, a2, a3, a4⟩ := q
  refine ⟨fun z => by rw [LM_k h h44 h45]; exact a1 z, a2, fun z => ARGN_k h (a3 z), fun z => ?_⟩
  obtain ⟨c1, c2, c3⟩ := a4 z
  refine ⟨by rw [h44]; exact c1, c2, fun z2 => ho _ (c3 ?_)⟩
  rw [mMny_k h h1] at z2
  exact z2
/-- the one on top takes what it waited for -/
def DLV (sg : Nat → Int32) (gm gm2 : Nat → Nat → Int32) : Prop := ((gm 65 (TOPn sg)).toInt ≤ 2 ∧ gm2 67 = gm 67) ∨ (3 ≤ (gm 65 (TOPn sg)).toInt ∧ ∃ v, gm2 67 = upd (gm 67) (TOPn sg) v ∧ v.toInt = (gm 67 (TOPn sg)).toInt + 1)
/-- the element that a frame works at -/
def HEL (sg : Nat → Int32) (gm : Nat → Nat → Int32) (x : Int32) (it : Int) : Prop := iv 0 79 x ∧ x.toNatClampNeg < (sg 24).toNatClampNeg ∧ ((gm 26 x.toNatClampNeg).toInt = 4 ∨ (gm 26 x.toNatClampNeg).toInt = 5) ∧ it ≤ LIM sg gm x
theorem FR_3 {sg : Nat → Int32} {gm : Nat → Nat → Int32} {lg : Nat → Nat → Int64} {b p9 ix it ob r : Int32} (hn : iv 0 80 (sg 24)) (hs : STR sg gm lg) (h : FRv sg gm lg b p9 ix it ob 1) (hp : p9.toInt = 3) (hi : 0 ≤ it.toInt) (hr : r = mArg sg gm lg b ix.toNatClampNeg) : HEL sg gm r (it.toInt + 1) ∧ ix.toNatClampNeg ≤ 3 := by
  have h1 := h.1 (Or.inl hp)
  unfold LM at h1
  rw [if_pos hp] at h1
  by_cases q : mArg sg gm lg b ix.toNatClampNeg = -1
  · rw [if_pos q] at h1; omega
  · rw [if_neg q, ← hr] at h1
    obtain ⟨a1, a2, a3⟩ := arg_el hn hr q
    exact ⟨⟨a1, a2, Or.inl (by rw [a3]; rfl), h1⟩, arg_lt hn hs q⟩
theorem FR_4 {sg : Nat → Int32} {gm : Nat → Nat → Int32} {lg : Nat → Nat → Int64} {b p9 ix it ob : Int32} (h : FRv sg gm lg b p9 ix it ob 1) (hp : p9.toInt = 4) (hi : 0 ≤ it.toInt) : ix.toInt < (gm 44 b.toNatClampNeg).toInt ∧ it.toInt + 1 ≤ LIM sg gm (gm 45 (26 * b.toNatClampNeg + ix.toNatClampNeg)) := by
  have h1 := h.1 (Or.inr hp)
  unfold LM at h1
  rw [if_neg (by omega)] at h1
  by_cases q : ix.toInt < (gm 44 b.toNatClampNeg).toInt
  · rw [if_pos q] at h1; exact ⟨q, h1⟩
  · rw [if_neg q] at h1; omega
theorem HEL_5 {sg : Nat → Int32} {gm : Nat → Nat → Int32} {x : Int32} {it : Int} (h : SEK sg gm 5 x) (hi : it ≤ LIM sg gm x) : HEL sg gm x it := ⟨h.1, h.2.2, Or.inr (by rw [h.2.1]; rfl), hi⟩

set_option maxHeartbeats 4000000 in
set_option maxRecDepth 100000 in
theorem f_next (l : Launch) (dC : Nat → ClassId) (dI : Nat → Nat → Nat) (h0 : Nat) (ad : Nat → Nat) (cid : Nat → ClassId) (sg : Nat → Int32) (gm : Nat → Nat → Int32) (lg : Nat → Nat → Int64) (f : Int32) (tp : Int32) (hI : MI sg gm) (hvf : iv 0 1 f) (hvtp : iv 0 79 tp) (hn25 : (gm 66 tp.toNatClampNeg).toInt ≤ 25 ∨ f.toInt = 0) : MMv l dC dI yX13_next wm_X13_next ({ frames := 0, cells := 0, slots := 0, locals := 0 }) h0 ad cid [.int f, .int tp] sg gm lg (fun v => ∃ (sg2 : Nat → Int32) (gm2 : Nat → Nat → Int32) (lg2 : Nat → Nat → Int64), v = (sg2, gm2, lg2) ∧ MI sg2 gm2 ∧ KS [] sg sg2 ∧ KS [66, 67] gm gm2 ∧ KS [] lg lg2 ∧ ((f.toInt = 0 ∧ gm2 66 = gm 66 ∧ gm2 67 = gm 67) ∨ (f.toInt = 1 ∧ gm2 67 = upd (gm 67) tp.toNatClampNeg 0 ∧ ∃ v, gm2 66 = upd (gm 66) tp.toNatClampNeg v ∧ v.toInt = (gm 66 tp.toNatClampNeg).toInt + 1))) := by
  intro sz
  refine Met.ofW (cc := cX13_next) (maxL := 3) (ret := none) (by decide) rfl ?_
  intro p e s m args below meth c s₁ B hml hv
  obtain ⟨rfl, hsz, hP, hK, hD0⟩ := hv
  have hx := B.exec
  have hb := B.bytes
  have hr := B.returns
  have hts := atoms_spec (ws := wm_X13_next) B.pre
  have htb := fun (w : Cond) (h : w ∈ tb) => hts w (List.mem_cons_of_mem _ h)
  have hown : s.vm.findClass RX13 = some m.cls := findClass_of_methodNamed B.named
  have hlocks := B.notSynchronized
  subst hsz
  have hD := hD0.self (sz := s.heap.size)
  generalize hAe : va_A (mW h0 ad cid sg gm lg) s.heap.size = A at hD ⊢
  have hA : ∀ q : Nat, s.heap.size ≤ q → A q := fun q h => by rw [← hAe]; exact Or.inr h
  have hS : va_S A s.heap s.heap [] := va_S.rf
  have hl := lv_entry ([.ref h0, .int f, .int tp]) (n := 3) (Nat.le_of_ble_eq_true rfl)
  rw [lg_entry_eq]
  generalize (lg_sl ([.ref h0, .int f, .int tp]) ++ List.replicate (3 - (lg_sl ([.ref h0, .int f, .int tp])).length) Slot.unset).toArray = ls at hl ⊢
  have hl : lv_has ls 3 [(0, .ref h0), (1, .int f), (2, .int tp)] := hl
  refine lv_iload_n hx hb dX13_next_0 rfl (lv_at hl 1 rfl) ?_
  refine lv_if_ne (tgt := 5) hx hb dX13_next_1 (by decide) (fun c_1 => ?_) (fun c_1 => ?_)
  · have h_2 : iv 1 1 f := iv_neL c_1 hvf (by decide)
    refine lv_aload_n hx hb dX13_next_5 rfl (lv_at hl 0 rfl) ?_
    refine mr_get (v := .ref (ad 66)) hx hb htb inX13 hown hK hP 66 (by decide) (htb _ kw_215) rfl dX13_next_6 ?_
    refine lv_iload_n hx hb dX13_next_9 rfl (lv_at hl 2 rfl) ?_
    refine lv_dup2_11 hx hb dX13_next_10 rfl rfl ?_
    refine mr_iald hx hb hK hP 51 (k := 66) rfl rfl rfl (show vp_in tp 81 from (iv_in hvtp (by decide))) dX13_next_11 ?_
    refine lv_topi (fun z_3 ez_3 => ?_)
    have hz_3 : iv 0 26 z_3 := iv_of ez_3 (MI_a hI 66 hvtp (by decide))
    have h_4 : iv 0 25 z_3 := ⟨(hz_3).1, by rw [ez_3]; have := (h_2).1; omega⟩
    refine lv_iconst (v := 1) hx hb dX13_next_12 (by decide) ?_
    refine lv_iadd hx hb dX13_next_13 ?_
    refine lv_topi (fun z_5 ez_5 => ?_)
    have hz_5 : iv 1 26 z_5 := iv_of ez_5 (iv_add h_4 (iv_k (by decide) : iv 1 1 1) (by decide))
    have tz_5 : z_5.toInt = (z_3 : Int32).toInt + 1 := by rw [ez_5]; exact iv_addE h_4 (iv_k (by decide) : iv 1 1 1) (by decide)
    refine ma_iast (x := z_5) hx hb hK hP hD hS 51 (k := 66) rfl rfl rfl (show vp_in tp 81 from (iv_in hvtp (by decide))) dX13_next_14 (fun gm_6 H locs egm_6 hP hD hS => ?_)
    have hI_gm_6 := MI_st hI egm_6 hz_5 (by decide)
    refine lv_aload_n hx hb dX13_next_15 rfl (lv_at hl 0 rfl) ?_
    refine mr_get (v := .ref (ad 67)) hx hb htb inX13 hown hK hP 67 (by decide) (htb _ kw_216) rfl dX13_next_16 ?_
    refine lv_iload_n hx hb dX13_next_19 rfl (lv_at hl 2 rfl) ?_
    refine lv_iconst (v := 0) hx hb dX13_next_20 (by decide) ?_
    refine ma_iast (x := 0) hx hb hK hP hD hS 52 (k := 67) rfl rfl rfl (show vp_in tp 81 from (iv_in hvtp (by decide))) dX13_next_21 (fun gm_7 H locs egm_7 hP hD hS => ?_)
    have hI_gm_7 := MI_st hI_gm_6 egm_7 (iv_k (by decide) : iv 0 0 0) (by decide)
    exact W.vret hx hb hr (fun t ht hW => ⟨⟨(sg, gm_7, lg), rfl, ⟨sg, gm_7, lg, rfl, hI_gm_7, KS_rf, (KS_up (KS_up KS_rf egm_6 (by decide)) egm_7 (by decide)), KS_rf, (Or.inr ⟨by have := i32_0; have := i32_1; have := i32_2; have := i32_m1; have := (h_2).1; have := (h_2).2; have := (hvtp).1; have := (hvtp).2; have := (h_4).1; have := (h_4).2; have := (hz_5).1; have := (hz_5).2; omega, (show gm_7 67 = upd (gm 67) (tp : Int32).toNatClampNeg 0 from ((up_at egm_7).trans (by rw [show gm_6 67 = gm 67 from ((up_ne egm_6 (by decide)).trans rfl)]))), _, (show gm_7 66 = upd (gm 66) (tp : Int32).toNatClampNeg z_5 from ((up_ne egm_7 (by decide)).trans ((up_at egm_6).trans (by rw [show gm 66 = gm 66 from rfl])))), by have := tz_5; have := congrArg Int32.toInt ez_3; omega⟩)⟩, by rw [ht]; exact hP, va_K.moved hW.alike hK, hD⟩, hS.F ht⟩) hS.2.2 dX13_next_22
  · have h_8 : iv 0 0 f := iv_eq c_1 hvf (iv_k (by decide) : iv 0 0 0) (by decide)
    exact W.vret hx hb hr (fun t ht hW => ⟨⟨(sg, gm, lg), rfl, ⟨sg, gm, lg, rfl, hI, KS_rf, KS_rf, KS_rf, (Or.inl ⟨by have := i32_0; have := i32_1; have := i32_2; have := i32_m1; have := (h_8).1; have := (h_8).2; have := (hvtp).1; have := (hvtp).2; omega, rfl, rfl⟩)⟩, by rw [ht]; exact hP, va_K.moved hW.alike hK, hD⟩, hS.F ht⟩) hS.2.2 dX13_next_4
end
section
theorem GI0_own {sg sg2 : Nat → Int32} {gm gm2 : Nat → Nat → Int32} {lg lg2 : Nat → Nat → Int64} {b : Nat} {v : Int32} (q : GI0 sg gm lg) (h : DK sg gm lg sg2 gm2 lg2) (h1 : lg2 1 = lg 1) (h60 : gm2 60 = upd (gm 60) b v) (h61 : gm2 61 = gm 61) (h62 : gm2 62 = gm 62) (h70 : gm2 70 = gm 70) (h71 : gm2 71 = gm 71) (h72 : gm2 72 = gm 72) (h73 : gm2 73 = gm 73) (h50 : sg2 50 = sg 50) (hv : 0 ≤ v.toInt) : GI0 sg2 gm2 lg2 := by
  refine ⟨VAL_k h70 h71 h72 h73 q.1, fun k hk => ?_, by rw [h50, h61]; exact q.2.2⟩
  have := q.2.1 k hk
  unfold BI at *
  rw [h61, h62, mMny_k h h1]
  intro h9
  have h8 := this h9
  refine ⟨?_, h8.2.1, h8.2.2⟩
  by_cases e9 : k = b
  · subst e9; rw [h60, upd_at]; exact hv
  · rw [h60, upd_ne e9]; exact h8.1
/-- an object is made for the bean on top -/
def MKO (sg : Nat → Int32) (gm : Nat → Nat → Int32) (lg : Nat → Nat → Int64) (b : Int32) (gm2 : Nat → Nat → Int32) : Prop := 0 ≤ (gm2 69 (TOPn sg)).toInt ∧ (¬ mMny gm lg b.toNatClampNeg → 0 ≤ (gm2 60 b.toNatClampNeg).toInt) ∧ (∀ j, j ≠ TOPn sg → gm2 69 j = gm 69 j) ∧ ∀ k, 0 ≤ (gm 60 k).toInt → 0 ≤ (gm2 60 k).toInt
theorem MKO_k {sg : Nat → Int32} {gm gm1 gm2 : Nat → Nat → Int32} {lg : Nat → Nat → Int64} {b : Int32} (h : MKO sg gm lg b gm1) (h69 : gm2 69 = gm1 69) (h60 : gm2 60 = gm1 60) : MKO sg gm lg b gm2 := by
  unfold MKO at *; rw [h69, h60]; exact h
theorem MKO_m {sg : Nat → Int32} {gm gm2 : Nat → Nat → Int32} {lg : Nat → Nat → Int64} {b v : Int32} {t : Nat} (h69 : gm2 69 = upd (gm 69) t v) (ht : t = TOPn sg) (h60 : gm2 60 = gm 60) (hv : 0 ≤ v.toInt) (hm : mMny gm lg b.toNatClampNeg) : MKO sg gm lg b gm2 := by
  subst ht
  refine ⟨by rw [h69, upd_at]; exact hv, fun q => absurd hm q, fun j hj => by rw [h69, upd_ne hj], fun k hk => by rw [h60]; exact hk⟩
theorem MKO_o {sg : Nat → Int32} {gm gm2 : Nat → Nat → Int32} {lg : Nat → Nat → Int64} {b v : Int32} {t : Nat} (h69 : gm2 69 = upd (gm 69) t v) (ht : t = TOPn sg) (h60 : gm2 60 = upd (gm 60) b.toNatClampNeg v) (hv : 0 ≤ v.toInt) : MKO sg gm lg b gm2 := by
  subst ht
  refine ⟨by rw [h69, upd_at]; exact hv, fun q => by rw [h60, upd_at]; exact hv, fun j hj => by rw [h69, upd_ne hj], fun k hk => ?_⟩
  by_cases q : k = b.toNatClampNeg
  · subst q; rw [h60, upd_at]; exact hv
  · rw [h60, upd_ne q]; exact hk
end
section
def INVo (sg : Nat → Int32) (gm : Nat → Nat → Int32) (lg : Nat → Nat → Int64) : Prop := PIL sg gm ∧ (∀ j, j + 1 < (sg 63).toNatClampNeg → FR sg gm lg j 1) ∧ ((sg 63).toInt = 0 ∨ FR sg gm lg (TOPn sg) 0)
end
section
/-- what is left to do of a frame; w is 1 for one that waits -/
def vF (p9 ix it : Int32) (w : Nat) : Nat := 2 * (1080 - (216 * p9.toNatClampNeg + 8 * ix.toNatClampNeg + it.toNatClampNeg)) - (if 3 ≤ p9.toNatClampNeg then w else 0)
def muW (gm : Nat → Nat → Int32) : Nat → Nat
  | 0 => 0
  | k + 1 => muW gm k + vF (gm 65 k) (gm 66 k) (gm 67 k) 1 * 4096 ^ (80 - k)
def mu (sg : Nat → Int32) (gm : Nat → Nat → Int32) : Nat := if (sg 63).toNatClampNeg = 0 then 0 else muW gm (TOPn sg) + vF (gm 65 (TOPn sg)) (gm 66 (TOPn sg)) (gm 67 (TOPn sg)) 0 * 4096 ^ (80 - TOPn sg)
theorem muW_k {gm gm2 : Nat → Nat → Int32} : ∀ k, (∀ j, j < k → gm2 65 j = gm 65 j ∧ gm2 66 j = gm 66 j ∧ gm2 67 j = gm 67 j) → muW gm2 k = muW gm k := by
  intro k
  induction k with
  | zero => intro _; rfl
  | succ k ih =>
    intro h
    show muW gm2 k + _ = muW gm k + _
    obtain ⟨a, b, d⟩ := h k (by omega)
    rw [ih (fun j hj => h j (by omega)), a, b, d]
theorem vF_le (p9 ix it : Int32) (w : Nat) : vF p9 ix it w ≤ 2160 := by unfold vF; omega
theorem cl_0 {x : Int32} (h : 0 ≤ x.toInt) : ((x.toNatClampNeg : Nat) : Int) = x.toInt := iv_cl (a := 0) (b := x.toInt) ⟨h, Int.le_refl _⟩ (by decide)
theorem mu_top {sg sg2 : Nat → Int32} {gm gm2 : Nat → Nat → Int32} (h1 : 1 ≤ (sg 63).toInt) (h63 : sg2 63 = sg 63) (hk : ∀ j, j < TOPn sg → gm2 65 j = gm 65 j ∧ gm2 66 j = gm 66 j ∧ gm2 67 j = gm 67 j)
    (hv : vF (gm2 65 (TOPn sg)) (gm2 66 (TOPn sg)) (gm2 67 (TOPn sg)) 0 < vF (gm 65 (TOPn sg)) (gm 66 (TOPn sg)) (gm 67 (TOPn sg)) 0) : mu sg2 gm2 < mu sg gm := by
  have e1 : TOPn sg2 = TOPn sg := by unfold TOPn; rw [h63]
  have e2 : ¬ (sg 63).toNatClampNeg = 0 := by have := cl_0 (x := sg 63) (by omega); omega
  have hp : 0 < 4096 ^ (80 - TOPn sg) := Nat.pow_pos (by decide)
  have h3 := Nat.mul_le_mul_right (4096 ^ (80 - TOPn sg)) (Nat.succ_le_of_lt hv)
  rw [Nat.succ_mul] at h3
  unfold mu
  rw [h63, e1, if_neg e2, if_neg e2, muW_k _ hk]
  omega
theorem mu_push {sg sg2 : Nat → Int32} {gm gm2 : Nat → Nat → Int32} (h1 : 1 ≤ (sg 63).toInt) (h79 : (sg 63).toInt ≤ 79) (h63 : (sg2 63).toInt = (sg 63).toInt + 1) (hk : ∀ j, j < TOPn sg → gm2 65 j = gm 65 j ∧ gm2 66 j = gm 66 j ∧ gm2 67 j = gm 67 j)
    (hv : vF (gm2 65 (TOPn sg)) (gm2 66 (TOPn sg)) (gm2 67 (TOPn sg)) 1 < vF (gm 65 (TOPn sg)) (gm 66 (TOPn sg)) (gm 67 (TOPn sg)) 0) : mu sg2 gm2 < mu sg gm := by
  have k1 := cl_0 (x := sg 63) (by omega)
  have k2 := cl_0 (x := sg2 63) (by omega)
  have e1 : TOPn sg2 = TOPn sg + 1 := by unfold TOPn; omega
  have e2 : ¬ (sg 63).toNatClampNeg = 0 := by omega
  have e3 : ¬ (sg2 63).toNatClampNeg = 0 := by omega
  have e4 : 80 - TOPn sg = (80 - (TOPn sg + 1)) + 1 := by unfold TOPn; omega
  have hp : 0 < 4096 ^ (80 - (TOPn sg + 1)) := Nat.pow_pos (by decide)
  unfold mu
  rw [if_neg e2, if_neg e3, e1]
  show muW gm2 (TOPn sg) + vF (gm2 65 (TOPn sg)) (gm2 66 (TOPn sg)) (gm2 67 (TOPn sg)) 1 * 4096 ^ (80 - TOPn sg) + _ < _
  rw [muW_k _ hk, e4, Nat.pow_succ]
  generalize 4096 ^ (80 - (TOPn sg + 1)) = P at *
  have hn := vF_le (gm2 65 (TOPn sg + 1)) (gm2 66 (TOPn sg + 1)) (gm2 67 (TOPn sg + 1)) 0
  generalize vF (gm2 65 (TOPn sg + 1)) (gm2 66 (TOPn sg + 1)) (gm2 67 (TOPn sg + 1)) 0 = vn at *
  generalize vF (gm2 65 (TOPn sg)) (gm2 66 (TOPn sg)) (gm2 67 (TOPn sg)) 1 = v1 at *
  generalize vF (gm 65 (TOPn sg)) (gm 66 (TOPn sg)) (gm 67 (TOPn sg)) 0 = v0 at *
  have h3 := Nat.mul_le_mul_right (P * 4096) (Nat.succ_le_of_lt hv)
  rw [Nat.succ_mul] at h3
  have h4 := Nat.mul_le_mul_right P hn
  omega
theorem mu_pop {sg sg2 : Nat → Int32} {gm gm2 : Nat → Nat → Int32} (h1 : 2 ≤ (sg 63).toInt) (h80 : (sg 63).toInt ≤ 80) (h63 : (sg2 63).toInt = (sg 63).toInt - 1) (hk : ∀ j, j < TOPn sg2 → gm2 65 j = gm 65 j ∧ gm2 66 j = gm 66 j ∧ gm2 67 j = gm 67 j)
    (hv : vF (gm2 65 (TOPn sg2)) (gm2 66 (TOPn sg2)) (gm2 67 (TOPn sg2)) 0 ≤ vF (gm 65 (TOPn sg2)) (gm 66 (TOPn sg2)) (gm 67 (TOPn sg2)) 1) (hq : 1 ≤ vF (gm 65 (TOPn sg)) (gm 66 (TOPn sg)) (gm 67 (TOPn sg)) 0) : mu sg2 gm2 < mu sg gm := by
  have k1 := cl_0 (x := sg 63) (by omega)
  have k2 := cl_0 (x := sg2 63) (by omega)
  have e1 : TOPn sg = TOPn sg2 + 1 := by unfold TOPn; omega
  have e2 : ¬ (sg 63).toNatClampNeg = 0 := by omega
  have e3 : ¬ (sg2 63).toNatClampNeg = 0 := by omega
  have hp : 0 < 4096 ^ (80 - TOPn sg) := Nat.pow_pos (by decide)
  have h3 := Nat.mul_le_mul_right (4096 ^ (80 - TOPn sg2)) hv
  have h4 := Nat.mul_le_mul_right (4096 ^ (80 - TOPn sg)) hq
  rw [Nat.one_mul] at h4
  unfold mu
  rw [if_neg e2, if_neg e3]
  have e5 : muW gm (TOPn sg) = muW gm (TOPn sg2) + vF (gm 65 (TOPn sg2)) (gm 66 (TOPn sg2)) (gm 67 (TOPn sg2)) 1 * 4096 ^ (80 - TOPn sg2) := by rw [e1]; rfl
  rw [e5, muW_k _ hk]
  omega
/-- the pile between two steps -/
def INVp (sg : Nat → Int32) (gm : Nat → Nat → Int32) (lg : Nat → Nat → Int64) : Prop := INVo sg gm lg ∧ ∀ j, j + 1 < (sg 63).toNatClampNeg → 1 ≤ (gm 65 j).toInt
def STEP (sg : Nat → Int32) (gm : Nat → Nat → Int32) (sg2 : Nat → Int32) (gm2 : Nat → Nat → Int32) (lg2 : Nat → Nat → Int64) : Prop := INVp sg2 gm2 lg2 ∧ mu sg2 gm2 < mu sg gm
theorem FR_mv {sg sg2 : Nat → Int32} {gm gm2 : Nat → Nat → Int32} {lg lg2 : Nat → Nat → Int64} {j : Nat} {w : Int} (q : FR sg gm lg j w) (h : DK sg gm lg sg2 gm2 lg2) (h44 : gm2 44 = gm 44) (h45 : gm2 45 = gm 45) (h1 : lg2 1 = lg 1) (ho : ∀ k, 0 ≤ (gm 60 k).toInt → 0 ≤ (gm2 60 k).toInt) (h64 : gm2 64 j = gm 64 j) (h65 : gm2 65 j = gm 65 j) (h66 : gm2 66 j = gm 66 j) (h67 : gm2 67 j = gm 67 j) (h69 : gm2 69 j = gm 69 j) : FR sg2 gm2 lg2 j w := by
  unfold FR at *
  rw [h64, h65, h66, h67, h69]
  exact FRv_k h h44 h45 h1 ho q
theorem PIL_top {sg : Nat → Int32} {gm : Nat → Nat → Int32} (h : PIL sg gm) (h1 : 1 ≤ (sg 63).toInt) : ¬ gm 62 (gm 64 (TOPn sg)).toNatClampNeg = 0 ∧ iv 0 79 (gm 64 (TOPn sg)) ∧ (gm 64 (TOPn sg)).toInt < (sg 41).toInt := by
  have k1 := cl_0 (x := sg 63) (by omega)
  obtain ⟨a, b, d, _⟩ := h (TOPn sg) (by unfold TOPn; omega)
  exact ⟨a, b, d⟩
theorem LIM_nn {sg : Nat → Int32} {gm : Nat → Nat → Int32} {lg : Nat → Nat → Int64} {x : Int32} (hI : MI sg gm) (hd : DOC sg gm lg) (hx : iv 0 79 x) (hl : x.toNatClampNeg < (sg 24).toNatClampNeg) : 0 ≤ LIM sg gm x := (LIM_iv hd.1.1 (show iv 0 80 (sg 24) from MI_s hI 24) hd.1.2.1 hx hl).1
theorem LM_nn {sg : Nat → Int32} {gm : Nat → Nat → Int32} {lg : Nat → Nat → Int64} {b p9 ix : Int32} (hI : MI sg gm) (hd : DOC sg gm lg) (hb : iv 0 79 b) (hbl : b.toInt < (sg 41).toInt) (hix : 0 ≤ ix.toInt) : 0 ≤ LM sg gm lg b p9 ix := by
  unfold LM
  by_cases q : p9.toInt = 3
  · rw [if_pos q]
    by_cases q2 : mArg sg gm lg b ix.toNatClampNeg = -1
    · rw [if_pos q2]; exact Int.le_refl _
    · rw [if_neg q2]
      obtain ⟨a1, a2, a3⟩ := arg_el (show iv 0 80 (sg 24) from MI_s hI 24) rfl q2
      exact LIM_nn hI hd a1 a2
  · rw [if_neg q]
    by_cases q2 : ix.toInt < (gm 44 b.toNatClampNeg).toInt
    · rw [if_pos q2]
      have kb := iv_cl hb (by decide)
      have k3 := hb.2
      have k4 := cl_0 hix
      have k5 := cl_0 (x := gm 44 b.toNatClampNeg) (by omega)
      have k6 := cl_0 (x := sg 41) (by have := hb.1; omega)
      have := hd.2 b.toNatClampNeg (by omega) ix.toNatClampNeg (by omega)
      exact LIM_nn hI hd this.1 this.2.2
    · rw [if_neg q2]; exact Int.le_refl _
/-- the one on top goes on -/
theorem ST_top {sg sg2 : Nat → Int32} {gm gm2 : Nat → Nat → Int32} {lg lg2 : Nat → Nat → Int64} (hi : INVp sg gm lg) (h1 : 1 ≤ (sg 63).toInt) (h : DK sg gm lg sg2 gm2 lg2) (h44 : gm2 44 = gm 44) (h45 : gm2 45 = gm 45) (hl1 : lg2 1 = lg 1) (ho : ∀ k, 0 ≤ (gm 60 k).toInt → 0 ≤ (gm2 60 k).toInt) (h63 : sg2 63 = sg 63) (h62 : gm2 62 = gm 62) (h64 : gm2 64 = gm 64)
    (h65 : ∀ j, j ≠ TOPn sg → gm2 65 j = gm 65 j) (h66 : ∀ j, j ≠ TOPn sg → gm2 66 j = gm 66 j) (h67 : ∀ j, j ≠ TOPn sg → gm2 67 j = gm 67 j) (h69 : ∀ j, j ≠ TOPn sg → gm2 69 j = gm 69 j)
    (hfr : FRv sg2 gm2 lg2 (gm 64 (TOPn sg)) (gm2 65 (TOPn sg)) (gm2 66 (TOPn sg)) (gm2 67 (TOPn sg)) (gm2 69 (TOPn sg)) 0)
    (hv : vF (gm2 65 (TOPn sg)) (gm2 66 (TOPn sg)) (gm2 67 (TOPn sg)) 0 < vF (gm 65 (TOPn sg)) (gm 66 (TOPn sg)) (gm 67 (TOPn sg)) 0) : STEP sg gm sg2 gm2 lg2 := by
  have k1 := cl_0 (x := sg 63) (by omega)
  have e1 : TOPn sg2 = TOPn sg := by unfold TOPn; rw [h63]
  have hne : ∀ j, j + 1 < (sg 63).toNatClampNeg → j ≠ TOPn sg := fun j hj => by unfold TOPn; omega
  refine ⟨⟨⟨PIL_k h63 h.2.1 h62 h64 hi.1.1, fun j hj => ?_, Or.inr ?_⟩, fun j hj => ?_⟩, mu_top h1 h63 (fun j hj => ⟨h65 j (by omega), h66 j (by omega), h67 j (by omega)⟩) hv⟩
  · rw [h63] at hj
    have q := hne j hj
    exact FR_mv (hi.1.2.1 j hj) h h44 h45 hl1 ho (by rw [h64]) (h65 j q) (h66 j q) (h67 j q) (h69 j q)
  · rw [e1]; unfold FR; rw [h64]; exact hfr
  · rw [h63] at hj
    rw [h65 j (hne j hj)]; exact hi.2 j hj
/-- the one on top waits for another, which is put on it -/
theorem ST_push {sg sg2 : Nat → Int32} {gm gm2 : Nat → Nat → Int32} {lg lg2 : Nat → Nat → Int64} {b : Int32} {g65 g67 : Nat → Int32} (hi : INVp sg gm lg) (h1 : 1 ≤ (sg 63).toInt) (h : DK sg gm lg sg2 gm2 lg2) (h44 : gm2 44 = gm 44) (h45 : gm2 45 = gm 45) (hl1 : lg2 1 = lg 1) (ho : ∀ k, 0 ≤ (gm 60 k).toInt → 0 ≤ (gm2 60 k).toInt)
    (h63 : (sg2 63).toInt = (sg 63).toInt + 1) (h79 : (sg 63).toInt ≤ 79) (h64 : gm2 64 = upd (gm 64) (sg 63).toNatClampNeg b) (h65 : gm2 65 = upd g65 (sg 63).toNatClampNeg 0) (h66 : gm2 66 = upd (gm 66) (sg 63).toNatClampNeg 0) (h67 : gm2 67 = upd g67 (sg 63).toNatClampNeg 0) (h69 : gm2 69 = upd (gm 69) (sg 63).toNatClampNeg (-1)) (h62 : gm2 62 = upd (gm 62) b.toNatClampNeg 1) (hb0 : gm 62 b.toNatClampNeg = 0) (hb : iv 0 79 b) (hbl : b.toInt < (sg 41).toInt)
    (hk65 : ∀ j, j ≠ TOPn sg → g65 j = gm 65 j) (hk67 : ∀ j, j ≠ TOPn sg → g67 j = gm 67 j) (hfr : FRv sg gm lg (gm 64 (TOPn sg)) (g65 (TOPn sg)) (gm 66 (TOPn sg)) (g67 (TOPn sg)) (gm 69 (TOPn sg)) 1) (hp1 : 1 ≤ (g65 (TOPn sg)).toInt)
    (hv : vF (g65 (TOPn sg)) (gm 66 (TOPn sg)) (g67 (TOPn sg)) 1 < vF (gm 65 (TOPn sg)) (gm 66 (TOPn sg)) (gm 67 (TOPn sg)) 0) : STEP sg gm sg2 gm2 lg2 := by
  have k1 := cl_0 (x := sg 63) (by omega)
  have k2 := cl_0 (x := sg2 63) (by omega)
  have kb := iv_cl hb (by decide)
  have e1 : TOPn sg2 = (sg 63).toNatClampNeg := by unfold TOPn; omega
  have et : TOPn sg + 1 = (sg 63).toNatClampNeg := by unfold TOPn; omega
  have f65 : ∀ j, j < (sg 63).toNatClampNeg → gm2 65 j = g65 j := fun j hj => by rw [h65, upd_ne (by omega)]
  have f66 : ∀ j, j < (sg 63).toNatClampNeg → gm2 66 j = gm 66 j := fun j hj => by rw [h66, upd_ne (by omega)]
  have f67 : ∀ j, j < (sg 63).toNatClampNeg → gm2 67 j = g67 j := fun j hj => by rw [h67, upd_ne (by omega)]
  have f64 : ∀ j, j < (sg 63).toNatClampNeg → gm2 64 j = gm 64 j := fun j hj => by rw [h64, upd_ne (by omega)]
  have f69 : ∀ j, j < (sg 63).toNatClampNeg → gm2 69 j = gm 69 j := fun j hj => by rw [h69, upd_ne (by omega)]
  refine ⟨⟨⟨fun j hj => ?_, fun j hj => ?_, Or.inr ?_⟩, fun j hj => ?_⟩, mu_push h1 h79 h63 (fun j hj => ?_) ?_⟩
  · by_cases q : j = (sg 63).toNatClampNeg
    · subst q
      rw [show gm2 64 (sg 63).toNatClampNeg = b by rw [h64, upd_at], h.2.1]
      refine ⟨by rw [h62, upd_at]; decide, hb, hbl, fun i hi9 => ?_⟩
      rw [f64 i hi9]
      intro q9
      have := (hi.1.1 i hi9).1
      rw [q9] at this
      exact this hb0
    · have hj2 : j < (sg 63).toNatClampNeg := by omega
      obtain ⟨a1, a2, a3, a4⟩ := hi.1.1 j hj2
      rw [f64 j hj2, h.2.1]
      refine ⟨?_, a2, a3, fun i hi9 => by rw [f64 i (by omega)]; exact a4 i hi9⟩
      rw [h62]
      by_cases q5 : (gm 64 j).toNatClampNeg = b.toNatClampNeg
      · rw [q5, upd_at]; decide
      · rw [upd_ne q5]; exact a1
  · have hj2 : j < (sg 63).toNatClampNeg := by omega
    by_cases q : j = TOPn sg
    · unfold FR
      rw [f64 j hj2, f65 j hj2, f66 j hj2, f67 j hj2, f69 j hj2, q]
      exact FRv_k h h44 h45 hl1 ho hfr
    · exact FR_mv (hi.1.2.1 j (by omega)) h h44 h45 hl1 ho (f64 j hj2) (by rw [f65 j hj2, hk65 j q]) (f66 j hj2) (by rw [f67 j hj2, hk67 j q]) (f69 j hj2)
  · rw [e1]
    unfold FR
    rw [show gm2 65 (sg 63).toNatClampNeg = 0 by rw [h65, upd_at], show gm2 66 (sg 63).toNatClampNeg = 0 by rw [h66, upd_at], show gm2 67 (sg 63).toNatClampNeg = 0 by rw [h67, upd_at]]
    exact ⟨fun z => absurd z (by decide), fun _ => ⟨rfl, rfl⟩, fun z => absurd z (by decide), fun z => absurd z (by decide)⟩
  · have hj2 : j < (sg 63).toNatClampNeg := by omega
    rw [f65 j hj2]
    by_cases q : j = TOPn sg
    · rw [q]; exact hp1
    · rw [hk65 j q]; exact hi.2 j (by omega)
  · exact ⟨by rw [f65 j (by omega), hk65 j (by omega)], f66 j (by omega), by rw [f67 j (by omega), hk67 j (by omega)]⟩
  · rw [f65 _ (by omega), f66 _ (by omega), f67 _ (by omega)]; exact hv
def FIN (sg : Nat → Int32) (gm : Nat → Nat → Int32) (b : Int32) (sg2 : Nat → Int32) (gm2 : Nat → Nat → Int32) : Prop := (sg2 63).toInt = (sg 63).toInt - 1 ∧ gm2 62 = upd (gm 62) b.toNatClampNeg 0 ∧ ((sg 63).toInt = 1 ∧ gm2 67 = gm 67 ∨ DLV sg2 gm gm2)
theorem vF_d3 {p9 ix it it2 : Int32} (h3 : 3 ≤ p9.toInt) (hi : 0 ≤ it.toInt) (hd : it2.toInt = it.toInt + 1) (hr : iv 0 4 p9) (h2 : iv 0 26 ix) (h6 : it.toInt ≤ 6) : vF p9 ix it2 0 ≤ vF p9 ix it 1 := by
  have k1 := cl_0 (x := p9) (by omega)
  have k2 := cl_0 hi
  have k3 := cl_0 (x := it2) (by omega)
  have k4 := iv_cl h2 (by decide)
  have k5 := h2.2
  have k6 := hr.2
  unfold vF
  rw [if_pos (by omega), if_pos (by omega)]
  omega
theorem vF_w2 {p9 ix it : Int32} (h3 : p9.toInt ≤ 2) (h0 : 0 ≤ p9.toInt) : vF p9 ix it 1 = vF p9 ix it 0 := by
  have k1 := cl_0 h0
  unfold vF
  rw [if_neg (by omega), if_neg (by omega)]
theorem vF_1 {p9 ix it : Int32} (hr : iv 0 4 p9) (h2 : iv 0 26 ix) (h6 : iv 0 6 it) : 1 ≤ vF p9 ix it 0 := by
  have k1 := iv_cl hr (by decide)
  have k4 := iv_cl h2 (by decide)
  have k2 := iv_cl h6 (by decide)
  have := h2.2
  have := hr.2
  have := h6.2
  unfold vF
  by_cases q : 3 ≤ p9.toNatClampNeg
  · rw [if_pos q]; omega
  · rw [if_neg q]; omega
theorem vF_p {p9 ix it p2 ix2 : Int32} (hr : iv 0 4 p9) (hq : p2.toInt = p9.toInt + 1) (h4 : p2.toInt ≤ 4) (h2 : iv 0 26 ix) (h6 : iv 0 6 it) (hx : ix2.toInt = 0) : vF p2 ix2 it 0 < vF p9 ix it 0 := by
  have k1 := iv_cl hr (by decide)
  have k3 := cl_0 (x := p2) (by have := hr.1; omega)
  have k4 := iv_cl h2 (by decide)
  have k2 := iv_cl h6 (by decide)
  have k5 := cl_0 (x := ix2) (by omega)
  have := h2.2
  have := hr.2
  have := h6.2
  unfold vF
  by_cases q : 3 ≤ p9.toNatClampNeg
  · rw [if_pos q, if_pos (by omega)]; omega
  · rw [if_neg q]
    by_cases q2 : 3 ≤ p2.toNatClampNeg
    · rw [if_pos q2]; omega
    · rw [if_neg q2]; omega
theorem vF_n {p9 ix it ix2 it2 : Int32} (hr : iv 0 4 p9) (h2 : iv 0 26 ix) (h3 : ix2.toInt = ix.toInt + 1) (h7 : ix2.toInt ≤ 26) (h6 : iv 0 6 it) (hx : it2.toInt = 0) : vF p9 ix2 it2 0 < vF p9 ix it 0 := by
  have k1 := iv_cl hr (by decide)
  have k3 := cl_0 (x := ix2) (by have := h2.1; omega)
  have k4 := iv_cl h2 (by decide)
  have k2 := iv_cl h6 (by decide)
  have k5 := cl_0 (x := it2) (by omega)
  have := h2.2
  have := hr.2
  have := h6.2
  unfold vF
  by_cases q : 3 ≤ p9.toNatClampNeg
  · rw [if_pos q]; omega
  · rw [if_neg q]; omega
theorem vF_i {p9 ix it it2 : Int32} (hr : iv 0 4 p9) (h3 : 3 ≤ p9.toInt) (h2 : iv 0 26 ix) (h6 : iv 0 6 it) (hx : it.toInt ≤ it2.toInt) : vF p9 ix it2 1 < vF p9 ix it 0 := by
  have k1 := iv_cl hr (by decide)
  have k4 := iv_cl h2 (by decide)
  have k2 := iv_cl h6 (by decide)
  have k5 := cl_0 (x := it2) (by have := h6.1; omega)
  have := h2.2
  have := hr.2
  have := h6.2
  unfold vF
  rw [if_pos (by omega), if_pos (by omega)]; omega
/-- the one on top is done: the one below it takes it -/
theorem ST_pop {sg sg2 : Nat → Int32} {gm gm2 : Nat → Nat → Int32} {lg lg2 : Nat → Nat → Int64} (hI : MI sg gm) (hi : INVp sg gm lg) (h1 : 1 ≤ (sg 63).toInt) (h : DK sg gm lg sg2 gm2 lg2) (h44 : gm2 44 = gm 44) (h45 : gm2 45 = gm 45) (hl1 : lg2 1 = lg 1) (ho : gm2 60 = gm 60) (hf : FIN sg gm (gm 64 (TOPn sg)) sg2 gm2) (h64 : gm2 64 = gm 64) (h65 : gm2 65 = gm 65) (h66 : gm2 66 = gm 66) (h69 : gm2 69 = gm 69) : STEP sg gm sg2 gm2 lg2 := by
  obtain ⟨h63, h62, hd⟩ := hf
  have h80 := (show iv 0 80 (sg 63) from MI_s hI 63).2
  have k1 := cl_0 (x := sg 63) (by omega)
  have k2 := cl_0 (x := sg2 63) (by omega)
  have tlt : TOPn sg < 81 := by unfold TOPn; omega
  have mb := PIL_top hi.1.1 h1
  have hpi : PIL sg2 gm2 := fun j hj => by
    have hj2 : j < (sg 63).toNatClampNeg := by omega
    obtain ⟨a1, a2, a3, a4⟩ := hi.1.1 j hj2
    rw [h64, h.2.1]
    refine ⟨?_, a2, a3, a4⟩
    rw [h62, upd_ne ?_]
    · exact a1
    · intro q9
      have e9 : gm 64 j = gm 64 (TOPn sg) := Int32.toInt_inj.mp (by have := iv_cl a2 (by decide); have := iv_cl mb.2.1 (by decide); omega)
      exact (hi.1.1 (TOPn sg) (by unfold TOPn; omega)).2.2.2 j (by unfold TOPn; omega) e9
  by_cases q1 : (sg 63).toInt = 1
  · refine ⟨⟨⟨hpi, fun j hj => by omega, Or.inl (by omega)⟩, fun j hj => by omega⟩, ?_⟩
    have e2 : ¬ (sg 63).toNatClampNeg = 0 := by omega
    have e3 : (sg2 63).toNatClampNeg = 0 := by omega
    have hp : 0 < 4096 ^ (80 - TOPn sg) := Nat.pow_pos (by decide)
    have hq := vF_1 (show iv 0 4 (gm 65 (TOPn sg)) from hI.2 65 _ tlt) (show iv 0 26 (gm 66 (TOPn sg)) from hI.2 66 _ tlt) (show iv 0 6 (gm 67 (TOPn sg)) from hI.2 67 _ tlt)
    have h4 := Nat.mul_le_mul_right (4096 ^ (80 - TOPn sg)) hq
    rw [Nat.one_mul] at h4
    unfold mu
    rw [if_pos e3, if_neg e2]
    omega
  · have e1 : TOPn sg2 + 1 = TOPn sg := by unfold TOPn; omega
    have t2 : TOPn sg2 < 81 := by omega
    have hdl : DLV sg2 gm gm2 := hd.resolve_left (fun q => q1 q.1)
    have f67 : ∀ j, j ≠ TOPn sg2 → gm2 67 j = gm 67 j := fun j hj => by
      rcases hdl with ⟨_, q⟩ | ⟨_, v, q, _⟩
      · rw [q]
      · rw [q, upd_ne hj]
    have w4 := show iv 0 4 (gm 65 (TOPn sg2)) from hI.2 65 _ t2
    have w26 := show iv 0 26 (gm 66 (TOPn sg2)) from hI.2 66 _ t2
    have w6 := show iv 0 6 (gm 67 (TOPn sg2)) from hI.2 67 _ t2
    refine ⟨⟨⟨hpi, fun j hj => ?_, Or.inr ?_⟩, fun j hj => by rw [h65]; exact hi.2 j (by omega)⟩, mu_pop (by omega) h80 h63 (fun j hj => ⟨by rw [h65], by rw [h66], f67 j (by omega)⟩) ?_ ?_⟩
    · exact FR_mv (hi.1.2.1 j (by omega)) h h44 h45 hl1 (fun k hk => by rw [ho]; exact hk) (by rw [h64]) (by rw [h65]) (by rw [h66]) (f67 j (by unfold TOPn; omega)) (by rw [h69])
    · have hfr := hi.1.2.1 (TOPn sg2) (by unfold TOPn; omega)
      unfold FR at *
      rw [h64, h65, h66, h69]
      refine FRv_k h h44 h45 hl1 (fun k hk => by rw [ho]; exact hk) ?_
      obtain ⟨a1, a2, a3, a4⟩ := hfr
      rcases hdl with ⟨q, q2⟩ | ⟨q, v, q2, q3⟩
      · rw [q2]; exact ⟨fun z => by omega, a2, a3, a4⟩
      · rw [q2, upd_at]
        exact ⟨fun z => by have := a1 z; omega, fun z => by omega, a3, a4⟩
    · rw [h65, h66]
      rcases hdl with ⟨q, q2⟩ | ⟨q, v, q2, q3⟩
      · rw [q2, vF_w2 q w4.1]; exact Nat.le_refl _
      · rw [q2, upd_at]
        exact vF_d3 q w6.1 q3 w4 w26 w6.2
    · exact vF_1 (show iv 0 4 (gm 65 (TOPn sg)) from hI.2 65 _ tlt) (show iv 0 26 (gm 66 (TOPn sg)) from hI.2 66 _ tlt) (show iv 0 6 (gm 67 (TOPn sg)) from hI.2 67 _ tlt)
theorem cnt1_k {f g : Nat → Int32} : ∀ k, (∀ j, j < k → g j = f j) → cnt1 g k = cnt1 f k := by
  intro k
  induction k with
  | zero => intro _; rfl
  | succ k ih => intro h; show cnt1 g k + _ = cnt1 f k + _; rw [ih (fun j hj => h j (by omega)), h k (by omega)]
theorem cnt1_le (f : Nat → Int32) : ∀ k, cnt1 f k ≤ k := by
  intro k
  induction k with
  | zero => exact Nat.le_refl 0
  | succ k ih =>
    show cnt1 f k + _ ≤ k + 1
    by_cases q : f k = 0
    · rw [if_pos q]; omega
    · rw [if_neg q]; omega
theorem cnt1_up {f : Nat → Int32} {b : Nat} (h : f b = 0) : ∀ k, b < k → cnt1 (upd f b 1) k = cnt1 f k + 1 ∧ cnt1 f k + 1 ≤ k := by
  intro k
  induction k with
  | zero => intro hb; omega
  | succ k ih =>
    intro hb
    show cnt1 (upd f b 1) k + _ = cnt1 f k + _ + 1 ∧ cnt1 f k + _ + 1 ≤ k + 1
    by_cases q : b = k
    · subst q
      have h1 := cnt1_k (f := f) (g := upd f b 1) b (fun j hj => upd_ne (by omega))
      have h2 := cnt1_le f b
      rw [h1, upd_at, h, if_pos rfl, if_neg (by decide)]
      omega
    · obtain ⟨h1, h2⟩ := ih (by omega)
      rw [h1, upd_ne (Ne.symm q)]
      by_cases q2 : f k = 0
      · rw [if_pos q2]; omega
      · rw [if_neg q2]; omega
end
section
/-- every bean in the row of those made is one of the document's -/
def MO (sg : Nat → Int32) (gm : Nat → Nat → Int32) : Prop := ∀ k, k < (sg 50).toNatClampNeg → (gm 59 k).toInt < (sg 41).toInt
theorem MO_k {sg sg2 : Nat → Int32} {gm gm2 : Nat → Nat → Int32} (h50 : sg2 50 = sg 50) (h41 : sg2 41 = sg 41) (h59 : gm2 59 = gm 59) (h : MO sg gm) : MO sg2 gm2 := by
  unfold MO at *; rw [h50, h41, h59]; exact h
theorem MO_of {sg sg2 : Nat → Int32} {gm gm2 : Nat → Nat → Int32} {Ls Lg : List Nat} (h : MO sg gm) (h1 : KS Ls sg sg2) (h2 : KS Lg gm gm2) (q1 : (Ls.contains 50 || Ls.contains 41) = false) (q2 : Lg.contains 59 = false) : MO sg2 gm2 := MO_k (h1 50 (Bool.or_eq_false_iff.mp q1).1) (h1 41 (Bool.or_eq_false_iff.mp q1).2) (h2 59 q2) h
theorem MO_s {sg sg2 : Nat → Int32} {gm gm2 : Nat → Nat → Int32} {b : Int32} (h : MO sg gm) (hb : b.toInt < (sg 41).toInt) (h0 : 0 ≤ (sg 50).toInt) (h50 : (sg2 50).toInt = (sg 50).toInt + 1) (h41 : sg2 41 = sg 41) (h59 : gm2 59 = upd (gm 59) (sg 50).toNatClampNeg b) : MO sg2 gm2 := by
  intro k hk
  have k1 := cl_0 h0
  have k2 := cl_0 (x := sg2 50) (by omega)
  rw [h59, h41]
  by_cases q : k = (sg 50).toNatClampNeg
  · rw [q, upd_at]; exact hb
  · rw [upd_ne q]; exact h k (by omega)
theorem DLV_k {sg sg2 : Nat → Int32} {gm gm1 gm2 : Nat → Nat → Int32} (h : DLV sg gm1 gm2) (h63 : sg2 63 = sg 63) (h65 : gm1 65 = gm 65) (h67 : gm1 67 = gm 67) : DLV sg2 gm gm2 := by
  have e1 : TOPn sg2 = TOPn sg := by unfold TOPn; rw [h63]
  unfold DLV at *; rw [e1, ← h65, ← h67]; exact h
theorem GI0_un {sg sg2 : Nat → Int32} {gm gm2 : Nat → Nat → Int32} {lg lg2 : Nat → Nat → Int64} {b : Nat} (q : GI0 sg gm lg) (h : DK sg gm lg sg2 gm2 lg2) (h1 : lg2 1 = lg 1) (h60 : gm2 60 = gm 60) (h61 : gm2 61 = gm 61) (h62 : gm2 62 = upd (gm 62) b 0) (h70 : gm2 70 = gm 70) (h71 : gm2 71 = gm 71) (h72 : gm2 72 = gm 72) (h73 : gm2 73 = gm 73) (h50 : sg2 50 = sg 50) : GI0 sg2 gm2 lg2 := by
  refine ⟨VAL_k h70 h71 h72 h73 q.1, fun k hk => ?_, by rw [h50, h61]; exact q.2.2⟩
  have := q.2.1 k hk
  unfold BI at *
  rw [h60, h61, mMny_k h h1]
  intro h9
  have h8 := this h9
  refine ⟨h8.1, h8.2.1, ?_⟩
  rw [h62]
  by_cases e9 : k = b
  · rw [e9, upd_at]
  · rw [upd_ne e9]; exact h8.2.2
theorem GI0_fin {sg sg2 : Nat → Int32} {gm gm2 : Nat → Nat → Int32} {lg lg2 : Nat → Nat → Int64} {b : Nat} (q : GI0 sg gm lg) (h : DK sg gm lg sg2 gm2 lg2) (h1 : lg2 1 = lg 1) (h60 : gm2 60 = gm 60) (h61 : gm2 61 = upd (gm 61) b 1) (h62 : gm2 62 = upd (gm 62) b 0) (h70 : gm2 70 = gm 70) (h71 : gm2 71 = gm 71) (h72 : gm2 72 = gm 72) (h73 : gm2 73 = gm 73) (h50 : (sg2 50).toInt = (sg 50).toInt + 1) (hb : b < 80) (h0 : gm 61 b = 0) (hm : ¬ mMny gm lg b) (ho : 0 ≤ (gm 60 b).toInt) : GI0 sg2 gm2 lg2 := by
  have hc := cnt1_up h0 80 hb
  refine ⟨VAL_k h70 h71 h72 h73 q.1, fun k hk => ?_, by rw [h50, h61, hc.1]; have := q.2.2; omega⟩
  have := q.2.1 k hk
  unfold BI at *
  rw [h60, mMny_k h h1]
  intro h9
  by_cases e9 : k = b
  · rw [e9]; exact ⟨ho, hm, by rw [h62, upd_at]⟩
  · rw [h61, upd_ne e9] at h9
    have h8 := this h9
    refine ⟨h8.1, h8.2.1, ?_⟩
    rw [h62, upd_ne e9]; exact h8.2.2
theorem GI0_m0 {sg : Nat → Int32} {gm : Nat → Nat → Int32} {lg : Nat → Nat → Int64} {b : Nat} (q : GI0 sg gm lg) (hb : b < 80) (h : ¬ gm 62 b = 0) : gm 61 b = 0 := Decidable.byContradiction (fun h9 => h (q.2.1 b hb h9).2.2)
end
section
theorem DLV_2 {sg : Nat → Int32} {gm gm2 : Nat → Nat → Int32} (h : DLV sg gm gm2) (hp : (gm 65 (TOPn sg)).toInt ≤ 2) : gm2 67 = gm 67 := by
  rcases h with ⟨_, q⟩ | ⟨q, _⟩
  · exact q
  · omega
theorem FRv_p {sg : Nat → Int32} {gm : Nat → Nat → Int32} {lg : Nat → Nat → Int64} {b p9 p2 ix it ob : Int32} {w w2 : Int} (h : FRv sg gm lg b p9 ix it ob w) (hp : p9.toInt ≤ 2) (hq : p2.toInt ≤ 2) : FRv sg gm lg b p2 ix it ob w2 := ⟨fun z => by omega, fun _ => h.2.1 hp, fun z => by omega, fun z => by omega⟩
theorem tlt81 {sg : Nat → Int32} {gm : Nat → Nat → Int32} (hI : MI sg gm) : TOPn sg < 81 := by
  have := (show iv 0 80 (sg 63) from MI_s hI 63).2
  have := (show iv 0 80 (sg 63) from MI_s hI 63).1
  have := cl_0 (x := sg 63) (by omega)
  unfold TOPn; omega
section ST
variable {sg sg1 sg2 : Nat → Int32} {gm gm1 gm2 : Nat → Nat → Int32} {lg lg2 : Nat → Nat → Int64} {p2 b : Int32} {t : Nat}
theorem ST_ph (hI : MI sg gm) (hd : DOC sg gm lg) (hi : INVp sg gm lg) (h1 : 1 ≤ (sg 63).toInt) (h : DK sg gm lg sg2 gm2 lg2) (h44 : gm2 44 = gm 44) (h45 : gm2 45 = gm 45) (hl1 : lg2 1 = lg 1) (ho : gm2 60 = gm 60) (h63 : sg2 63 = sg 63) (h62 : gm2 62 = gm 62) (h64 : gm2 64 = gm 64) (h65 : gm2 65 = upd (gm 65) t p2) (ht : t = TOPn sg) (h66 : gm2 66 = gm 66) (h67 : gm2 67 = gm 67) (h69 : gm2 69 = gm 69) (hp : (gm 65 (TOPn sg)).toInt ≤ 2) (hq : p2.toInt = (gm 65 (TOPn sg)).toInt + 1) : STEP sg gm sg2 gm2 lg2 := by
  subst ht
  have tl := tlt81 hI
  have w4 := show iv 0 4 (gm 65 (TOPn sg)) from hI.2 65 _ tl
  have w26 := show iv 0 26 (gm 66 (TOPn sg)) from hI.2 66 _ tl
  have w6 := show iv 0 6 (gm 67 (TOPn sg)) from hI.2 67 _ tl
  have e65 : gm2 65 (TOPn sg) = p2 := by rw [h65, upd_at]
  have mb := PIL_top hi.1.1 h1
  have hf := hi.1.2.2.resolve_left (by omega)
  have hf2 := hf.2.1 hp
  refine ST_top hi h1 h h44 h45 hl1 (fun k hk => by rw [ho]; exact hk) h63 h62 h64 (fun j hj => by rw [h65, upd_ne hj]) (fun j _ => by rw [h66]) (fun j _ => by rw [h67]) (fun j _ => by rw [h69]) ?_ ?_
  · rw [e65, h66, h67, h69]
    refine FRv_k h h44 h45 hl1 (fun k hk => by rw [ho]; exact hk) ?_
    by_cases q : p2.toInt ≤ 2
    · exact FRv_p hf hp q
    · have hx0 : (gm 66 (TOPn sg)).toNatClampNeg = 0 := by have := cl_0 (x := gm 66 (TOPn sg)) (by omega); omega
      refine ⟨fun _ => ?_, fun z => absurd z q, fun _ => ?_, fun z => by omega⟩
      · have := LM_nn (p9 := p2) hI hd mb.2.1 mb.2.2 (show 0 ≤ (gm 66 (TOPn sg)).toInt by omega)
        omega
      · rw [hx0]; exact fun k _ hk => absurd hk (Nat.not_lt_zero _)
  · rw [e65, h66, h67]
    exact vF_p w4 hq (by omega) w26 w6 hf2.1
theorem ST_phP (hI : MI sg gm) (hi : INVp sg gm lg) (h1 : 1 ≤ (sg 63).toInt) (h : DK sg gm lg sg2 gm2 lg2) (h44 : gm2 44 = gm 44) (h45 : gm2 45 = gm 45) (hl1 : lg2 1 = lg 1) (ho : gm2 60 = gm 60) (x63 : sg1 63 = sg 63) (x41 : sg1 41 = sg 41) (x62 : gm1 62 = gm 62) (x64 : gm1 64 = gm 64) (x65 : gm1 65 = upd (gm 65) t p2) (ht : t = TOPn sg) (x66 : gm1 66 = gm 66) (x67 : gm1 67 = gm 67) (x69 : gm1 69 = gm 69) (hp : (gm 65 (TOPn sg)).toInt ≤ 2) (hq : p2.toInt = (gm 65 (TOPn sg)).toInt + 1) (hq2 : p2.toInt ≤ 2) (hP : PUSH sg1 gm1 (gm1 67) sg2 gm2 b) : STEP sg gm sg2 gm2 lg2 := by
  subst ht
  have tl := tlt81 hI
  have w4 := show iv 0 4 (gm 65 (TOPn sg)) from hI.2 65 _ tl
  have w26 := show iv 0 26 (gm 66 (TOPn sg)) from hI.2 66 _ tl
  have w6 := show iv 0 6 (gm 67 (TOPn sg)) from hI.2 67 _ tl
  have hf := hi.1.2.2.resolve_left (by omega)
  have hf2 := hf.2.1 hp
  unfold PUSH at hP
  rw [x63, x41, x62, x64, x65, x66, x67, x69] at hP
  obtain ⟨a1, a2, a3, a4, a5, a6, a7, a8, a9, a10, a11, _⟩ := hP
  refine ST_push hi h1 h h44 h45 hl1 (fun k hk => by rw [ho]; exact hk) a1 a2 a3 a4 a5 a6 a7 a8 a9 a10 a11 (fun j hj => upd_ne hj) (fun _ _ => rfl) ?_ ?_ ?_
  · rw [upd_at]; exact FRv_p hf hp hq2
  · rw [upd_at]; have := w4.1; omega
  · rw [upd_at, vF_w2 hq2 (by have := w4.1; omega)]
    exact vF_p w4 hq (by omega) w26 w6 hf2.1
/-- a value is worked out, then the next one's turn comes, or another bean is put on top -/
theorem ST_wo {r : Int32} {lim : Int} (hI : MI sg gm) (hd : DOC sg gm lg) (hi : INVp sg gm lg) (h1 : 1 ≤ (sg 63).toInt) (h : DK sg gm lg sg2 gm2 lg2) (h44 : gm2 44 = gm 44) (h45 : gm2 45 = gm 45) (hl1 : lg2 1 = lg 1) (ho : gm2 60 = gm 60) (hw : WOUT sg gm lim sg1 gm1 r) (hlim : lim = LM sg gm lg (gm 64 (TOPn sg)) (gm 65 (TOPn sg)) (gm 66 (TOPn sg))) (hp : 3 ≤ (gm 65 (TOPn sg)).toInt) (ht : t = TOPn sg)
    (x63 : sg2 63 = sg1 63) (x62 : gm2 62 = gm1 62) (x64 : gm2 64 = gm1 64) (x65 : gm2 65 = gm1 65) (x69 : gm2 69 = gm1 69) (x51 : 1 ≤ (sg1 51).toInt → 1 ≤ (sg2 51).toInt)
    (hn : (r.toInt = 0 ∧ gm2 66 = gm1 66 ∧ gm2 67 = gm1 67) ∨ (r.toInt = 1 ∧ gm2 67 = upd (gm1 67) t 0 ∧ ∃ v, gm2 66 = upd (gm1 66) t v ∧ v.toInt = (gm1 66 t).toInt + 1)) (h25 : (gm 66 (TOPn sg)).toInt ≤ 25)
    (h3 : (gm 65 (TOPn sg)).toInt = 3 → ¬ mArg sg gm lg (gm 64 (TOPn sg)) (gm 66 (TOPn sg)).toNatClampNeg = -1) (h4 : (gm 65 (TOPn sg)).toInt = 4 → (gm 66 (TOPn sg)).toInt < (gm 44 (gm 64 (TOPn sg)).toNatClampNeg).toInt) : 1 ≤ (sg2 51).toInt ∨ STEP sg gm sg2 gm2 lg2 := by
  subst ht
  have tl := tlt81 hI
  have w4 := show iv 0 4 (gm 65 (TOPn sg)) from hI.2 65 _ tl
  have w26 := show iv 0 26 (gm 66 (TOPn sg)) from hI.2 66 _ tl
  have w6 := show iv 0 6 (gm 67 (TOPn sg)) from hI.2 67 _ tl
  have hf := hi.1.2.2.resolve_left (by omega)
  have mb := PIL_top hi.1.1 h1
  rcases hw with ⟨hr, hs⟩ | ⟨hr, hw⟩
  · obtain ⟨s63, s62, s64, s65, s66, s68, s69, s51, s67⟩ := hs
    obtain ⟨q1, q2, v, q3, q4⟩ := hn.resolve_left (fun q => by omega)
    rw [s66] at q3 q4
    have e66 : gm2 66 (TOPn sg) = v := by rw [q3, upd_at]
    have e67 : gm2 67 (TOPn sg) = 0 := by rw [q2, upd_at]
    have kv := cl_0 (x := v) (by have := w26.1; omega)
    have kx := iv_cl w26 (by decide)
    refine Or.inr (ST_top hi h1 h h44 h45 hl1 (fun k hk => by rw [ho]; exact hk) (x63.trans s63) (x62.trans s62) (x64.trans s64) (fun j _ => by rw [x65, s65]) (fun j hj => by rw [q3, upd_ne hj]) (fun j hj => by rw [q2, upd_ne hj, s67 j hj]) (fun j _ => by rw [x69, s69]) ?_ ?_)
    · rw [e66, e67, x65, s65, x69, s69]
      refine FRv_k h h44 h45 hl1 (fun k hk => by rw [ho]; exact hk) ⟨fun _ => ?_, fun z => by omega, fun z => ?_, fun z => ?_⟩
      · exact LM_nn hI hd mb.2.1 mb.2.2 (by have := w26.1; omega)
      · intro k k0 hk
        by_cases q : k = (gm 66 (TOPn sg)).toNatClampNeg
        · rw [q]; exact h3 z
        · exact hf.2.2.1 z k k0 (by omega)
      · have := hf.2.2.2 z
        exact ⟨by have := h4 z; omega, this.2.1, this.2.2⟩
    · rw [e66, e67, x65, s65]
      exact vF_n w4 w26 q4 (by omega) w6 rfl
  · obtain ⟨q1, q2, q3⟩ := hn.resolve_right (fun q => by omega)
    rcases hw with hw | ⟨b, g67, hP, g1, g2, g3⟩
    · exact Or.inl (x51 hw)
    · obtain ⟨a1, a2, a3, a4, a5, a6, a7, a8, a9, a10, a11, _⟩ := hP
      refine Or.inr (ST_push hi h1 h h44 h45 hl1 (fun k hk => by rw [ho]; exact hk) (by rw [x63]; exact a1) a2 (x64.trans a3) (x65.trans a4) (q2.trans a5) (q3.trans a6) (x69.trans a7) (x62.trans a8) a9 a10 a11 (fun _ _ => rfl) g1 ?_ (by omega) ?_)
      · exact ⟨fun _ => by rw [← hlim]; omega, fun z => by omega, hf.2.2.1, hf.2.2.2⟩
      · exact vF_i w4 hp w26 w6 g2
/-- the object is made: now the setters' turn comes -/
theorem ST_mk {v4 v0 : Int32} (hI : MI sg gm) (hd : DOC sg gm lg) (hi : INVp sg gm lg) (h1 : 1 ≤ (sg 63).toInt) (h : DK sg gm lg sg2 gm2 lg2) (h44 : gm2 44 = gm 44) (h45 : gm2 45 = gm 45) (hl1 : lg2 1 = lg 1) (hM : MKO sg gm lg (gm 64 (TOPn sg)) gm2) (h63 : sg2 63 = sg 63) (h62 : gm2 62 = gm 62) (h64 : gm2 64 = gm 64) (h65 : gm2 65 = upd (gm 65) t v4) (h66 : gm2 66 = upd (gm 66) t v0) (e4 : v4.toInt = 4) (e0 : v0.toInt = 0) (ht : t = TOPn sg) (h67 : gm2 67 = gm 67) (hp : (gm 65 (TOPn sg)).toInt = 3) (ha : mArg sg gm lg (gm 64 (TOPn sg)) (gm 66 (TOPn sg)).toNatClampNeg = -1) : STEP sg gm sg2 gm2 lg2 := by
  subst ht
  have tl := tlt81 hI
  have w4 := show iv 0 4 (gm 65 (TOPn sg)) from hI.2 65 _ tl
  have w26 := show iv 0 26 (gm 66 (TOPn sg)) from hI.2 66 _ tl
  have w6 := show iv 0 6 (gm 67 (TOPn sg)) from hI.2 67 _ tl
  have hf := hi.1.2.2.resolve_left (by omega)
  have mb := PIL_top hi.1.1 h1
  have e65 : gm2 65 (TOPn sg) = v4 := by rw [h65, upd_at]
  have e66 : gm2 66 (TOPn sg) = v0 := by rw [h66, upd_at]
  have hit := hf.1 (Or.inl hp)
  unfold LM at hit
  rw [if_pos hp, if_pos ha] at hit
  have kb := iv_cl mb.2.1 (by decide)
  have hb2 := mb.2.1.2
  refine ST_top hi h1 h h44 h45 hl1 hM.2.2.2 h63 h62 h64 (fun j hj => by rw [h65, upd_ne hj]) (fun j hj => by rw [h66, upd_ne hj]) (fun j _ => by rw [h67]) hM.2.2.1 ?_ ?_
  · rw [e65, e66, h67]
    refine ⟨fun _ => ?_, fun z => by omega, fun z => by omega, fun _ => ⟨?_, hM.1, fun z => hM.2.1 ?_⟩⟩
    · rw [LM_k h h44 h45]
      have := LM_nn (p9 := v4) (ix := v0) hI hd mb.2.1 mb.2.2 (by omega)
      omega
    · rw [h44]; have := (show iv 0 26 (gm 44 (gm 64 (TOPn sg)).toNatClampNeg) from hI.2 44 _ (show _ < 80 by omega)).1; omega
    · rw [mMny_k h hl1] at z; exact z
  · rw [e65, e66, h67]
    exact vF_p w4 (by omega) (by omega) w26 w6 e0
end ST
/-- the first one on an empty pile -/
theorem INVp_0 {sg : Nat → Int32} {gm : Nat → Nat → Int32} {lg : Nat → Nat → Int64} (h : (sg 63).toInt = 0) : INVp sg gm lg := by
  have k1 := cl_0 (x := sg 63) (by omega)
  exact ⟨⟨fun j hj => by omega, fun j hj => by omega, Or.inl h⟩, fun j hj => by omega⟩
theorem INVp_1 {sg sg2 : Nat → Int32} {gm gm2 : Nat → Nat → Int32} {lg2 : Nat → Nat → Int64} {g67 : Nat → Int32} {b : Int32} (h : (sg 63).toInt = 0) (h41 : sg2 41 = sg 41) (hP : PUSH sg gm g67 sg2 gm2 b) : INVp sg2 gm2 lg2 := by
  obtain ⟨a1, a2, a3, a4, a5, a6, a7, a8, a9, a10, a11, _⟩ := hP
  have k1 := cl_0 (x := sg 63) (by omega)
  have k2 := cl_0 (x := sg2 63) (by omega)
  have z0 : (sg 63).toNatClampNeg = 0 := by omega
  rw [z0] at a3 a4 a5 a6 a7
  have e1 : TOPn sg2 = 0 := by unfold TOPn; omega
  refine ⟨⟨fun j hj => ?_, fun j hj => by omega, Or.inr ?_⟩, fun j hj => by omega⟩
  · have : j = 0 := by omega
    subst this
    rw [show gm2 64 0 = b by rw [a3, upd_at], h41]
    exact ⟨by rw [a8, upd_at]; decide, a10, a11, fun i hi => absurd hi (Nat.not_lt_zero _)⟩
  · rw [e1]
    unfold FR
    rw [show gm2 65 0 = 0 by rw [a4, upd_at], show gm2 66 0 = 0 by rw [a5, upd_at], show gm2 67 0 = 0 by rw [a6, upd_at]]
    exact ⟨fun z => absurd z (by decide), fun _ => ⟨rfl, rfl⟩, fun z => absurd z (by decide), fun z => absurd z (by decide)⟩
def muR (sg : Nat → Int32) (gm : Nat → Nat → Int32) : Nat := if 1 ≤ (sg 51).toInt then 0 else mu sg gm + 1
theorem muR_lt {sg sg2 : Nat → Int32} {gm gm2 : Nat → Nat → Int32} {lg2 : Nat → Nat → Int64} (h0 : (sg 51).toInt = 0) (h : 1 ≤ (sg2 51).toInt ∨ STEP sg gm sg2 gm2 lg2) : muR sg2 gm2 < muR sg gm := by
  unfold muR
  rw [if_neg (show ¬ 1 ≤ (sg 51).toInt by omega)]
  by_cases q : 1 ≤ (sg2 51).toInt
  · rw [if_pos q]; omega
  · rw [if_neg q]
    have := (h.resolve_left q).2
    omega
theorem FR_30 {sg : Nat → Int32} {gm : Nat → Nat → Int32} {lg : Nat → Nat → Int64} {b p9 ix it ob r : Int32} (h : FRv sg gm lg b p9 ix it ob 0) (hp : p9.toInt = 3) (hr : r = mArg sg gm lg b ix.toNatClampNeg) (hne : ¬ r = -1) : it.toInt ≤ LIM sg gm r ∧ LM sg gm lg b p9 ix = LIM sg gm r := by
  have e : LM sg gm lg b p9 ix = LIM sg gm r := by unfold LM; rw [if_pos hp, if_neg (by rw [← hr]; exact hne), ← hr]
  have := h.1 (Or.inl hp)
  rw [e] at this
  exact ⟨by omega, e⟩
theorem FR_40 {sg : Nat → Int32} {gm : Nat → Nat → Int32} {lg : Nat → Nat → Int64} {b p9 ix it ob r : Int32} (h : FRv sg gm lg b p9 ix it ob 0) (hp : p9.toInt = 4) (hx : ix.toInt < (gm 44 b.toNatClampNeg).toInt) (hr : r = gm 45 (26 * b.toNatClampNeg + ix.toNatClampNeg)) : it.toInt ≤ LIM sg gm r ∧ LM sg gm lg b p9 ix = LIM sg gm r := by
  have e : LM sg gm lg b p9 ix = LIM sg gm r := by unfold LM; rw [if_neg (by omega), if_pos hx, ← hr]
  have := h.1 (Or.inr hp)
  rw [e] at this
  exact ⟨by omega, e⟩
/-- behind workedOut, and what happened since that leaves the pile alone -/
def WOX (sg : Nat → Int32) (gm : Nat → Nat → Int32) (lim : Int) (sg3 : Nat → Int32) (gm3 : Nat → Nat → Int32) (r : Int32) : Prop := ∃ sg1 gm1, WOUT sg gm lim sg1 gm1 r ∧ sg3 63 = sg1 63 ∧ gm3 62 = gm1 62 ∧ gm3 64 = gm1 64 ∧ gm3 65 = gm1 65 ∧ gm3 66 = gm1 66 ∧ gm3 67 = gm1 67 ∧ gm3 69 = gm1 69 ∧ (1 ≤ (sg1 51).toInt → 1 ≤ (sg3 51).toInt)
theorem WOX_0 {sg sg1 : Nat → Int32} {gm gm1 : Nat → Nat → Int32} {lim : Int} {r : Int32} (h : WOUT sg gm lim sg1 gm1 r) : WOX sg gm lim sg1 gm1 r := ⟨sg1, gm1, h, rfl, rfl, rfl, rfl, rfl, rfl, rfl, id⟩
theorem WOX_s {sg sg1 sg3 : Nat → Int32} {gm gm1 gm3 : Nat → Nat → Int32} {lim : Int} {r : Int32} (h0 : (sg 51).toInt = 0) (h : WOUT sg gm lim sg1 gm1 r) (hr : ¬ r = 0) (a1 : sg3 63 = sg1 63) (a2 : gm3 62 = gm1 62) (a3 : gm3 64 = gm1 64) (a4 : gm3 65 = gm1 65) (a5 : gm3 66 = gm1 66) (a6 : gm3 67 = gm1 67) (a7 : gm3 69 = gm1 69) : WOX sg gm lim sg3 gm3 r := by
  refine ⟨sg1, gm1, h, a1, a2, a3, a4, a5, a6, a7, fun q => ?_⟩
  rcases h with ⟨_, hs⟩ | ⟨q2, _⟩
  · rw [hs.2.2.2.2.2.2.2.1, h0] at q; exact absurd q (by decide)
  · exact absurd (Int32.toInt_inj.mp q2) hr
theorem WOUT_1 {sg sg1 : Nat → Int32} {gm gm1 : Nat → Nat → Int32} {lim : Int} {r : Int32} (h : WOUT sg gm lim sg1 gm1 r) (hr : ¬ r = 0) : SAMEQ sg gm sg1 gm1 := by
  rcases h with ⟨_, hs⟩ | ⟨q2, _⟩
  · exact hs
  · exact absurd (Int32.toInt_inj.mp q2) hr
theorem ST_wox {sg sg3 sg2 : Nat → Int32} {gm gm3 gm2 : Nat → Nat → Int32} {lg lg2 : Nat → Nat → Int64} {t : Nat} {r : Int32} {lim : Int} (hI : MI sg gm) (hd : DOC sg gm lg) (hi : INVp sg gm lg) (h1 : 1 ≤ (sg 63).toInt) (h : DK sg gm lg sg2 gm2 lg2) (h44 : gm2 44 = gm 44) (h45 : gm2 45 = gm 45) (hl1 : lg2 1 = lg 1) (ho : gm2 60 = gm 60) (hw : WOX sg gm lim sg3 gm3 r) (hlim : LM sg gm lg (gm 64 (TOPn sg)) (gm 65 (TOPn sg)) (gm 66 (TOPn sg)) = lim) (hp : 3 ≤ (gm 65 (TOPn sg)).toInt) (ht : t = TOPn sg)
    (x63 : sg2 63 = sg3 63) (x62 : gm2 62 = gm3 62) (x64 : gm2 64 = gm3 64) (x65 : gm2 65 = gm3 65) (x69 : gm2 69 = gm3 69) (x51 : sg2 51 = sg3 51)
    (hn : (r.toInt = 0 ∧ gm2 66 = gm3 66 ∧ gm2 67 = gm3 67) ∨ (r.toInt = 1 ∧ gm2 67 = upd (gm3 67) t 0 ∧ ∃ v, gm2 66 = upd (gm3 66) t v ∧ v.toInt = (gm3 66 t).toInt + 1)) (h25 : (gm 66 (TOPn sg)).toInt ≤ 25)
    (h3 : (gm 65 (TOPn sg)).toInt = 3 → ¬ mArg sg gm lg (gm 64 (TOPn sg)) (gm 66 (TOPn sg)).toNatClampNeg = -1) (h4 : (gm 65 (TOPn sg)).toInt = 4 → (gm 66 (TOPn sg)).toInt < (gm 44 (gm 64 (TOPn sg)).toNatClampNeg).toInt) : 1 ≤ (sg2 51).toInt ∨ STEP sg gm sg2 gm2 lg2 := by
  obtain ⟨sg1, gm1, a0, a1, a2, a3, a4, a5, a6, a7, a8⟩ := hw
  rw [a5, a6] at hn
  exact ST_wo hI hd hi h1 h h44 h45 hl1 ho a0 hlim.symm hp ht (x63.trans a1) (x62.trans a2) (x64.trans a3) (x65.trans a4) (x69.trans a7) (fun q => by rw [x51]; exact a8 q) hn h25 h3 h4
end
section
theorem GI0_off {sg sg2 : Nat → Int32} {gm gm2 : Nat → Nat → Int32} {lg lg2 : Nat → Nat → Int64} {b : Nat} {v : Int32} (q : GI0 sg gm lg) (h : DK sg gm lg sg2 gm2 lg2) (h1 : lg2 1 = lg 1) (h60 : gm2 60 = upd (gm 60) b v) (h61 : gm2 61 = gm 61) (h62 : gm2 62 = upd (gm 62) b 0) (h70 : gm2 70 = gm 70) (h71 : gm2 71 = gm 71) (h72 : gm2 72 = gm 72) (h73 : gm2 73 = gm 73) (h50 : sg2 50 = sg 50) (h0 : ¬ gm 62 b = 0) : GI0 sg2 gm2 lg2 := by
  refine ⟨VAL_k h70 h71 h72 h73 q.1, fun k hk => ?_, by rw [h50, h61]; exact q.2.2⟩
  have := q.2.1 k hk
  unfold BI at *
  rw [h61, mMny_k h h1]
  intro h9
  have h8 := this h9
  have e9 : k ≠ b := fun e9 => h0 (by rw [← e9]; exact h8.2.2)
  refine ⟨?_, h8.2.1, ?_⟩
  · rw [h60, upd_ne e9]; exact h8.1
  · rw [h62, upd_ne e9]; exact h8.2.2
def VB (gm : Nat → Nat → Int32) (lg : Nat → Nat → Int64) : Prop := VAL gm ∧ ∀ b, b < 80 → BI gm lg b
theorem VB_k {sg sg2 : Nat → Int32} {gm gm2 : Nat → Nat → Int32} {lg lg2 : Nat → Nat → Int64} (q : VB gm lg) (h : DK sg gm lg sg2 gm2 lg2) (h1 : lg2 1 = lg 1) (h60 : gm2 60 = gm 60) (h61 : gm2 61 = gm 61) (h62 : gm2 62 = gm 62) (h70 : gm2 70 = gm 70) (h71 : gm2 71 = gm 71) (h72 : gm2 72 = gm 72) (h73 : gm2 73 = gm 73) : VB gm2 lg2 := by
  refine ⟨VAL_k h70 h71 h72 h73 q.1, fun b hb => ?_⟩
  have := q.2 b hb
  unfold BI at *
  rw [h60, h61, h62, mMny_k h h1]
  exact this
theorem VB_of {sg sg2 : Nat → Int32} {gm gm2 : Nat → Nat → Int32} {lg lg2 : Nat → Nat → Int64} {Ls Lg Ll : List Nat} (q : VB gm lg) (h1 : KS Ls sg sg2) (h2 : KS Lg gm gm2) (h3 : KS Ll lg lg2) (q1 : (Ls.contains 24 || Ls.contains 41) = false) (q2 : ([26, 28, 29, 30, 36, 37, 38, 42, 43].all fun k => !Lg.contains k) = true) (q3 : Ll.contains 35 = false) (q4 : ([60, 61, 62, 70, 71, 72, 73].all fun k => !Lg.contains k) = true) (q6 : Ll.contains 1 = false) : VB gm2 lg2 := by
  have g : ∀ k ∈ [60, 61, 62, 70, 71, 72, 73], gm2 k = gm k := fun k hk => h2 k (by have := List.all_eq_true.mp q4 k hk; simpa using this)
  exact VB_k q (DK_of h1 h2 h3 q1 q2 q3) (h3 1 q6) (g 60 (by decide)) (g 61 (by decide)) (g 62 (by decide)) (g 70 (by decide)) (g 71 (by decide)) (g 72 (by decide)) (g 73 (by decide))
theorem VB_sh {sg sg2 : Nat → Int32} {gm gm2 : Nat → Nat → Int32} {lg lg2 : Nat → Nat → Int64} {b b2 : Nat} {v : Int32} (q : VB gm lg) (h : DK sg gm lg sg2 gm2 lg2) (h1 : lg2 1 = lg 1) (h60 : gm2 60 = upd (gm 60) b v) (h61 : gm2 61 = upd (gm 61) b2 0) (hb : b2 = b) (h62 : gm2 62 = gm 62) (h70 : gm2 70 = gm 70) (h71 : gm2 71 = gm 71) (h72 : gm2 72 = gm 72) (h73 : gm2 73 = gm 73) : VB gm2 lg2 := by
  subst hb
  refine ⟨VAL_k h70 h71 h72 h73 q.1, fun k hk => ?_⟩
  have := q.2 k hk
  unfold BI at *
  rw [h61, h62, mMny_k h h1]
  by_cases e9 : k = b2
  · rw [e9, upd_at]; intro z; exact absurd rfl z
  · rw [upd_ne e9, h60, upd_ne e9]; exact this
theorem GI0_vb {sg : Nat → Int32} {gm : Nat → Nat → Int32} {lg : Nat → Nat → Int64} (q : VB gm lg) (h : (sg 50).toInt = 0) : GI0 sg gm lg := ⟨q.1, q.2, by omega⟩
theorem MO_0 {sg : Nat → Int32} {gm : Nat → Nat → Int32} (h : (sg 50).toInt = 0) : MO sg gm := fun k hk => by have := cl_0 (x := sg 50) (by omega); omega
theorem GI0_clr {sg : Nat → Int32} {gm : Nat → Nat → Int32} {lg : Nat → Nat → Int64} (hv : VAL gm) (h : CLR sg gm) : GI0 sg gm lg := ⟨hv, fun b hb q => absurd (h.2 b (Nat.zero_le _) hb).2.1 q, by have := h.1; omega⟩
end
section
set_option maxHeartbeats 4000000 in
set_option maxRecDepth 100000 in
theorem f_bean (l : Launch) (dC : Nat → ClassId) (dI : Nat → Nat → Nat) (h0 : Nat) (ad : Nat → Nat) (cid : Nat → ClassId) (sg : Nat → Int32) (gm : Nat → Nat → Int32) (lg : Nat → Nat → Int64) (k : Int32) (w : Int32) (hI : MI sg gm) (hgi : GI0 sg gm lg) (hPR : PR gm) (hmo : MO sg gm) (hdd : (sg 40).toInt = 0 ∨ DOC sg gm lg) : MMi l dC dI yX13_bean wm_X13_bean ({ frames := 7, cells := 0, slots := 0, locals := 164 }) h0 ad cid [.int k, .int w] sg gm lg (fun r v => ∃ (sg2 : Nat → Int32) (gm2 : Nat → Nat → Int32) (lg2 : Nat → Nat → Int64), v = (sg2, gm2, lg2) ∧ MI sg2 gm2 ∧ KS [5] sg sg2 ∧ KS [] gm gm2 ∧ KS [] lg lg2 ∧ (GI0 sg2 gm2 lg2) ∧ (MO sg2 gm2)) := by
  intro sz
  refine Met.ofW (cc := cX13_bean) (maxL := 4) (ret := (some .int)) (by decide) rfl ?_
  intro p e s m args below meth c s₁ B hml hv
  obtain ⟨rfl, hsz, hP, hK, hD0⟩ := hv
  have hx := B.exec
  have hb := B.bytes
  have hr := B.returns
  have hts := atoms_spec (ws := wm_X13_bean) B.pre
  have htb := fun (w : Cond) (h : w ∈ tb) => hts w (List.mem_cons_of_mem _ h)
  have hown : s.vm.findClass RX13 = some m.cls := findClass_of_methodNamed B.named
  have hlocks := B.notSynchronized
  subst hsz
  have hD := hD0.self (sz := s.heap.size)
  generalize hAe : va_A (mW h0 ad cid sg gm lg) s.heap.size = A at hD ⊢
  have hA : ∀ q : Nat, s.heap.size ≤ q → A q := fun q h => by rw [← hAe]; exact Or.inr h
  have hS : va_S A s.heap s.heap [] := va_S.rf
  have hl := lv_entry ([.ref h0, .int k, .int w]) (n := 4) (Nat.le_of_ble_eq_true rfl)
  rw [lg_entry_eq]
  generalize (lg_sl ([.ref h0, .int k, .int w]) ++ List.replicate (4 - (lg_sl ([.ref h0, .int k, .int w])).length) Slot.unset).toArray = ls at hl ⊢
  have hl : lv_has ls 4 [(0, .ref h0), (1, .int k), (2, .int w)] := hl
  have hj24 : ∀ (sg_j24 : Nat → Int32) (_ : KS [5] sg sg_j24) (_ : MI sg_j24 gm) (H : Heap) (locs : List Loc) (ls : Array Slot), va_P (dC, dI) vwCl (mW h0 ad cid sg_j24 gm lg) H → va_D A (mW h0 ad cid sg_j24 gm lg) → va_S A s.heap H locs → lv_has ls 4 [(0, .ref h0), (1, .int k), (2, .int w)] → W p l e (headSpec wm_X13_bean ({ frames := 7, cells := 0, slots := 0, locals := 164 })).room s m ([.ref h0, .int k, .int w] : List Value).toArray below meth c H locs 0 0 (MQ below (va_Qi (fun r v => ∃ (sg2 : Nat → Int32) (gm2 : Nat → Nat → Int32) (lg2 : Nat → Nat → Int64), v = (sg2, gm2, lg2) ∧ MI sg2 gm2 ∧ KS [5] sg sg2 ∧ KS [] gm gm2 ∧ KS [] lg lg2 ∧ (GI0 sg2 gm2 lg2) ∧ (MO sg2 gm2)) (MB dC dI h0 ad cid A) A) ([.ref h0, .int k, .int w] : List Value).toArray s 0 0 A) (F0 m 24 ls []) := by
    intro sg_j24 hks_j24 hI_j24 H locs ls hP hD hS hl
    refine lv_iconst (v := (-1)) hx hb dX13_bean_24 (by decide) ?_
    exact W.iret (v := (-1)) hx hb hr (fun t ht hW => ⟨⟨(-1), (sg_j24, gm, lg), rfl, ⟨sg_j24, gm, lg, rfl, hI_j24, (KS_tr (L := [5]) KS_rf hks_j24 (by decide)), KS_rf, KS_rf, ((GI0_of hgi (show KS [5] sg sg_j24 from (KS_tr (L := [5]) KS_rf hks_j24 (by decide))) (show KS [] gm gm from KS_rf) (show KS [] lg lg from KS_rf) (by decide) (by decide) (by decide) (by decide) (by decide) (by decide))), ((MO_of hmo (show KS [5] sg sg_j24 from (KS_tr (L := [5]) KS_rf hks_j24 (by decide))) (show KS [] gm gm from KS_rf) (by decide) (by decide)))⟩, by rw [ht]; exact hP, va_K.moved hW.alike hK, hD⟩, hS.F ht⟩) hS.2.2 dX13_bean_25
  have hj162 : ∀ (sg_j162 : Nat → Int32) (x3_162 : Int32) (y0_162 : Int32) (_ : iv 0 79 x3_162) (_ : iv 0 79 k) (_ : iv 7 7 w) (_ : iv 0 1 y0_162) (_ : KS [5] sg sg_j162) (_ : MI sg_j162 gm) (H : Heap) (locs : List Loc) (ls : Array Slot), va_P (dC, dI) vwCl (mW h0 ad cid sg_j162 gm lg) H → va_D A (mW h0 ad cid sg_j162 gm lg) → va_S A s.heap H locs → lv_has ls 4 [(3, .int x3_162), (0, .ref h0), (1, .int k), (2, .int w)] → W p l e (headSpec wm_X13_bean ({ frames := 7, cells := 0, slots := 0, locals := 164 })).room s m ([.ref h0, .int k, .int w] : List Value).toArray below meth c H locs 0 0 (MQ below (va_Qi (fun r v => ∃ (sg2 : Nat → Int32) (gm2 : Nat → Nat → Int32) (lg2 : Nat → Nat → Int64), v = (sg2, gm2, lg2) ∧ MI sg2 gm2 ∧ KS [5] sg sg2 ∧ KS [] gm gm2 ∧ KS [] lg lg2 ∧ (GI0 sg2 gm2 lg2) ∧ (MO sg2 gm2)) (MB dC dI h0 ad cid A) A) ([.ref h0, .int k, .int w] : List Value).toArray s 0 0 A) (F0 m 162 ls [.int y0_162]) := by
    intro sg_j162 x3_162 y0_162 hx3_162 hsx1_162 hsx2_162 hy0_162 hks_j162 hI_j162 H locs ls hP hD hS hl
    exact W.iret (v := y0_162) hx hb hr (fun t ht hW => ⟨⟨y0_162, (sg_j162, gm, lg), rfl, ⟨sg_j162, gm, lg, rfl, hI_j162, (KS_tr (L := [5]) KS_rf hks_j162 (by decide)), KS_rf, KS_rf, ((GI0_of hgi (show KS [5] sg sg_j162 from (KS_tr (L := [5]) KS_rf hks_j162 (by decide))) (show KS [] gm gm from KS_rf) (show KS [] lg lg from KS_rf) (by decide) (by decide) (by decide) (by decide) (by decide) (by decide))), ((MO_of hmo (show KS [5] sg sg_j162 from (KS_tr (L := [5]) KS_rf hks_j162 (by decide))) (show KS [] gm gm from KS_rf) (by decide) (by decide)))⟩, by rw [ht]; exact hP, va_K.moved hW.alike hK, hD⟩, hS.F ht⟩) hS.2.2 dX13_bean_162
  have hj186 : ∀ (sg_j186 : Nat → Int32) (x3_186 : Int32) (y0_186 : Int32) (_ : iv 0 79 x3_186) (_ : iv 0 79 k) (_ : iv 8 8 w) (_ : iv 0 1 y0_186) (_ : KS [5] sg sg_j186) (_ : MI sg_j186 gm) (H : Heap) (locs : List Loc) (ls : Array Slot), va_P (dC, dI) vwCl (mW h0 ad cid sg_j186 gm lg) H → va_D A (mW h0 ad cid sg_j186 gm lg) → va_S A s.heap H locs → lv_has ls 4 [(3, .int x3_186), (0, .ref h0), (1, .int k), (2, .int w)] → W p l e (headSpec wm_X13_bean ({ frames := 7, cells := 0, slots := 0, locals := 164 })).room s m ([.ref h0, .int k, .int w] : List Value).toArray below meth c H locs 0 0 (MQ below (va_Qi (fun r v => ∃ (sg2 : Nat → Int32) (gm2 : Nat → Nat → Int32) (lg2 : Nat → Nat → Int64), v = (sg2, gm2, lg2) ∧ MI sg2 gm2 ∧ KS [5] sg sg2 ∧ KS [] gm gm2 ∧ KS [] lg lg2 ∧ (GI0 sg2 gm2 lg2) ∧ (MO sg2 gm2)) (MB dC dI h0 ad cid A) A) ([.ref h0, .int k, .int w] : List Value).toArray s 0 0 A) (F0 m 186 ls [.int y0_186]) := by
    intro sg_j186 x3_186 y0_186 hx3_186 hsx1_186 hsx2_186 hy0_186 hks_j186 hI_j186 H locs ls hP hD hS hl
    exact W.iret (v := y0_186) hx hb hr (fun t ht hW => ⟨⟨y0_186, (sg_j186, gm, lg), rfl, ⟨sg_j186, gm, lg, rfl, hI_j186, (KS_tr (L := [5]) KS_rf hks_j186 (by decide)), KS_rf, KS_rf, ((GI0_of hgi (show KS [5] sg sg_j186 from (KS_tr (L := [5]) KS_rf hks_j186 (by decide))) (show KS [] gm gm from KS_rf) (show KS [] lg lg from KS_rf) (by decide) (by decide) (by decide) (by decide) (by decide) (by decide))), ((MO_of hmo (show KS [5] sg sg_j186 from (KS_tr (L := [5]) KS_rf hks_j186 (by decide))) (show KS [] gm gm from KS_rf) (by decide) (by decide)))⟩, by rw [ht]; exact hP, va_K.moved hW.alike hK, hD⟩, hS.F ht⟩) hS.2.2 dX13_bean_186
  have hj210 : ∀ (sg_j210 : Nat → Int32) (x3_210 : Int32) (y0_210 : Int32) (_ : iv 0 79 x3_210) (_ : iv 0 79 k) (_ : iv 9 9 w) (_ : iv 0 1 y0_210) (_ : KS [5] sg sg_j210) (_ : MI sg_j210 gm) (H : Heap) (locs : List Loc) (ls : Array Slot), va_P (dC, dI) vwCl (mW h0 ad cid sg_j210 gm lg) H → va_D A (mW h0 ad cid sg_j210 gm lg) → va_S A s.heap H locs → lv_has ls 4 [(3, .int x3_210), (0, .ref h0), (1, .int k), (2, .int w)] → W p l e (headSpec wm_X13_bean ({ frames := 7, cells := 0, slots := 0, locals := 164 })).room s m ([.ref h0, .int k, .int w] : List Value).toArray below meth c H locs 0 0 (MQ below (va_Qi (fun r v => ∃ (sg2 : Nat → Int32) (gm2 : Nat → Nat → Int32) (lg2 : Nat → Nat → Int64), v = (sg2, gm2, lg2) ∧ MI sg2 gm2 ∧ KS [5] sg sg2 ∧ KS [] gm gm2 ∧ KS [] lg lg2 ∧ (GI0 sg2 gm2 lg2) ∧ (MO sg2 gm2)) (MB dC dI h0 ad cid A) A) ([.ref h0, .int k, .int w] : List Value).toArray s 0 0 A) (F0 m 210 ls [.int y0_210]) := by
    intro sg_j210 x3_210 y0_210 hx3_210 hsx1_210 hsx2_210 hy0_210 hks_j210 hI_j210 H locs ls hP hD hS hl
    exact W.iret (v := y0_210) hx hb hr (fun t ht hW => ⟨⟨y0_210, (sg_j210, gm, lg), rfl, ⟨sg_j210, gm, lg, rfl, hI_j210, (KS_tr (L := [5]) KS_rf hks_j210 (by decide)), KS_rf, KS_rf, ((GI0_of hgi (show KS [5] sg sg_j210 from (KS_tr (L := [5]) KS_rf hks_j210 (by decide))) (show KS [] gm gm from KS_rf) (show KS [] lg lg from KS_rf) (by decide) (by decide) (by decide) (by decide) (by decide) (by decide))), ((MO_of hmo (show KS [5] sg sg_j210 from (KS_tr (L := [5]) KS_rf hks_j210 (by decide))) (show KS [] gm gm from KS_rf) (by decide) (by decide)))⟩, by rw [ht]; exact hP, va_K.moved hW.alike hK, hD⟩, hS.F ht⟩) hS.2.2 dX13_bean_210
  have hj225 : ∀ (sg_j225 : Nat → Int32) (x3_225 : Int32) (y0_225 : Int32) (_ : iv 0 79 x3_225) (_ : iv 0 79 k) (_ : iv 10 10 w) (_ : iv 0 1 y0_225) (_ : KS [5] sg sg_j225) (_ : MI sg_j225 gm) (H : Heap) (locs : List Loc) (ls : Array Slot), va_P (dC, dI) vwCl (mW h0 ad cid sg_j225 gm lg) H → va_D A (mW h0 ad cid sg_j225 gm lg) → va_S A s.heap H locs → lv_has ls 4 [(3, .int x3_225), (0, .ref h0), (1, .int k), (2, .int w)] → W p l e (headSpec wm_X13_bean ({ frames := 7, cells := 0, slots := 0, locals := 164 })).room s m ([.ref h0, .int k, .int w] : List Value).toArray below meth c H locs 0 0 (MQ below (va_Qi (fun r v => ∃ (sg2 : Nat → Int32) (gm2 : Nat → Nat → Int32) (lg2 : Nat → Nat → Int64), v = (sg2, gm2, lg2) ∧ MI sg2 gm2 ∧ KS [5] sg sg2 ∧ KS [] gm gm2 ∧ KS [] lg lg2 ∧ (GI0 sg2 gm2 lg2) ∧ (MO sg2 gm2)) (MB dC dI h0 ad cid A) A) ([.ref h0, .int k, .int w] : List Value).toArray s 0 0 A) (F0 m 225 ls [.int y0_225]) := by
    intro sg_j225 x3_225 y0_225 hx3_225 hsx1_225 hsx2_225 hy0_225 hks_j225 hI_j225 H locs ls hP hD hS hl
    exact W.iret (v := y0_225) hx hb hr (fun t ht hW => ⟨⟨y0_225, (sg_j225, gm, lg), rfl, ⟨sg_j225, gm, lg, rfl, hI_j225, (KS_tr (L := [5]) KS_rf hks_j225 (by decide)), KS_rf, KS_rf, ((GI0_of hgi (show KS [5] sg sg_j225 from (KS_tr (L := [5]) KS_rf hks_j225 (by decide))) (show KS [] gm gm from KS_rf) (show KS [] lg lg from KS_rf) (by decide) (by decide) (by decide) (by decide) (by decide) (by decide))), ((MO_of hmo (show KS [5] sg sg_j225 from (KS_tr (L := [5]) KS_rf hks_j225 (by decide))) (show KS [] gm gm from KS_rf) (by decide) (by decide)))⟩, by rw [ht]; exact hP, va_K.moved hW.alike hK, hD⟩, hS.F ht⟩) hS.2.2 dX13_bean_225
  refine lv_aload_n hx hb dX13_bean_0 rfl (lv_at hl 0 rfl) ?_
  refine lv_iconst (v := 0) hx hb dX13_bean_1 (by decide) ?_
  refine ma_put (x := 0) hx hb htb inX13 hown hK hP hD hS 5 (by decide) (by decide) (htb _ kw_239) rfl rfl rfl dX13_bean_2 (fun sg_1 H locs esg_1 hP hD hS => ?_)
  have hI_sg_1 := MI_put hI esg_1 (iv_k (by decide) : iv 0 0 0) (by decide)
  refine lv_iload_n hx hb dX13_bean_5 rfl (lv_at hl 1 rfl) ?_
  refine lv_if_lt (tgt := 24) hx hb dX13_bean_6 (by decide) (fun c_2 => ?_) (fun c_2 => ?_)
  · have h_3 : iv (-2147483648) (-1) k := iv_ltL c_2 (iv_all k) (iv_k (by decide) : iv 0 0 0) (by decide)
    exact hj24 sg_1 (KS_up KS_rf esg_1 (by decide)) hI_sg_1 _ _ _ hP hD hS (lv_sub hl [0, 1, 2] rfl)
  · have h_4 : iv 0 2147483647 k := iv_leR (i32_ge c_2) (iv_k (by decide) : iv 0 0 0) (iv_all k) (by decide)
    refine lv_iload_n hx hb dX13_bean_9 rfl (lv_at hl 1 rfl) ?_
    refine lv_aload_n hx hb dX13_bean_10 rfl (lv_at hl 0 rfl) ?_
    refine mr_get (v := .int (sg_1 41)) hx hb htb inX13 hown hK hP 41 (by decide) (htb _ kw_817) rfl dX13_bean_11 ?_
    refine lv_topi (fun z_5 ez_5 => ?_)
    obtain rfl : (sg 41) = z_5 := (ez_5.trans (up_ne esg_1 (by decide))).symm
    refine lv_icmp_ge (tgt := 24) hx hb dX13_bean_14 (by decide) (fun c_6 => ?_) (fun c_6 => ?_)
    · have d_7 : ((sg 41) : Int32).toInt ≤ (k : Int32).toInt := Int32.le_iff_toInt_le.mp c_6
      exact hj24 sg_1 (KS_up KS_rf esg_1 (by decide)) hI_sg_1 _ _ _ hP hD hS (lv_sub hl [0, 1, 2] rfl)
    · have d_8 : (k : Int32).toInt < ((sg 41) : Int32).toInt := Int32.lt_iff_toInt_lt.mp (i32_lt c_6)
      have h_9 : iv 0 79 k := iv_ltL (i32_lt c_6) h_4 (show iv 0 80 (sg 41) from MI_s hI 41) (by decide)
      have h_10 : iv 1 80 (sg 41) := iv_ltR (i32_lt c_6) h_4 (show iv 0 80 (sg 41) from MI_s hI 41) (by decide)
      refine lv_aload_n hx hb dX13_bean_17 rfl (lv_at hl 0 rfl) ?_
      refine mr_get (v := .int (sg_1 40)) hx hb htb inX13 hown hK hP 40 (by decide) (htb _ kw_818) rfl dX13_bean_18 ?_
      refine lv_topi (fun z_11 ez_11 => ?_)
      obtain rfl : (sg 40) = z_11 := (ez_11.trans (up_ne esg_1 (by decide))).symm
      refine lv_if_ne (tgt := 26) hx hb dX13_bean_21 (by decide) (fun c_12 => ?_) (fun c_12 => ?_)
      · have h_13 : iv 1 1 (sg 40) := iv_neL c_12 (show iv 0 1 (sg 40) from MI_s hI 40) (by decide)
        have hdoc := hdd.resolve_left (by have := i32_0; have := i32_1; have := i32_2; have := i32_m1; have := congrArg Int32.toInt (show sg_1 40 = sg 40 from up_ne esg_1 (by decide)); have := (show iv 0 1 (sg 40) from MI_s hI 40).1; have := (show iv 0 1 (sg 40) from MI_s hI 40).2; have := (h_9).1; have := (h_9).2; have := (h_10).1; have := (h_10).2; have := (h_13).1; have := (h_13).2; omega)
        refine lv_aload_n hx hb dX13_bean_26 rfl (lv_at hl 0 rfl) ?_
        refine mr_get (v := .ref (ad 42)) hx hb htb inX13 hown hK hP 42 (by decide) (htb _ kw_196) rfl dX13_bean_27 ?_
        refine lv_iload_n hx hb dX13_bean_30 rfl (lv_at hl 1 rfl) ?_
        refine mr_iald hx hb hK hP 33 (k := 42) rfl rfl rfl (show vp_in k 80 from (iv_in h_9 (by decide))) dX13_bean_31 ?_
        refine lv_topi (fun z_14 ez_14 => ?_)
        have hz_14 : iv 0 79 z_14 := iv_of ez_14 (MI_a hI_sg_1 42 h_9 (by decide))
        refine lv_istore_n (lv' := [(3, .int z_14), (0, .ref h0), (1, .int k), (2, .int w)]) hx hb dX13_bean_32 rfl hl (by decide) rfl (fun ls hl => ?_)
        refine lv_iload_n hx hb dX13_bean_33 rfl (lv_at hl 3 rfl) ?_
        by_cases c_15 : (w : Int32).toInt = 0
        · refine lv_tableIn (tgt := 96) hx hb dX13_bean_34 (by rw [c_15]; decide) (by rw [c_15]; decide) (by rw [c_15]; rfl) (by decide) ?_
          have h_16 : iv 0 0 w := iv_at c_15
          refine lv_aload_n hx hb dX13_bean_96 rfl (lv_at hl 1 rfl) ?_
          refine lv_iload_n hx hb dX13_bean_97 rfl (lv_at hl 2 rfl) ?_
          refine mr_calli (rest := []) ⟨hx, hb, hml, hown, htb⟩ (a_classOf l dC dI h0 ad cid sg_1 gm lg k hI_sg_1 (iv_w h_9 (by decide)) (by have := i32_0; have := i32_1; have := i32_2; have := i32_m1; have := congrArg Int32.toInt (show sg_1 41 = sg 41 from up_ne esg_1 (by decide)); have := (show iv 0 80 (sg 41) from MI_s hI 41).1; have := (show iv 0 80 (sg 41) from MI_s hI 41).2; have := (h_9).1; have := (h_9).2; have := (h_10).1; have := (h_10).2; have := (h_13).1; have := (h_13).2; have := (hz_14).1; have := (hz_14).2; have := (h_16).1; have := (h_16).2; omega) ((DOC_of hdoc (show KS [5] sg sg_1 from (KS_up KS_rf esg_1 (by decide))) (show KS [] gm gm from KS_rf) (show KS [] lg lg from KS_rf) (by decide) (by decide) (by decide) (by decide)).1.2.2.2)) (cwV 1 htb (gd_V kw_1204 kw_1205 kw_1206 kw_5 kw_1618) rfl rfl rfl (by decide +kernel) ⟨Nat.le_of_ble_eq_true rfl, Nat.le_of_ble_eq_true rfl⟩) rfl hl.1 rfl (Nat.le_of_ble_eq_true rfl) dX13_bean_98 ⟨Nat.zero_le _, Nat.zero_le _⟩ hK hP hD hS hA (fun r_17 u_18 H locs hw hP hD hS => ?_)
          obtain ⟨hr_17, rfl⟩ := hw
          have hP : va_P (dC, dI) vwCl (mW h0 ad cid sg_1 gm lg) H := hP
          have hD : va_D A (mW h0 ad cid sg_1 gm lg) := hD
          exact W.iret (v := r_17) hx hb hr (fun t ht hW => ⟨⟨r_17, (sg_1, gm, lg), rfl, ⟨sg_1, gm, lg, rfl, hI_sg_1, (KS_up KS_rf esg_1 (by decide)), KS_rf, KS_rf, ((GI0_of hgi (show KS [5] sg sg_1 from (KS_up KS_rf esg_1 (by decide))) (show KS [] gm gm from KS_rf) (show KS [] lg lg from KS_rf) (by decide) (by decide) (by decide) (by decide) (by decide) (by decide))), ((MO_of hmo (show KS [5] sg sg_1 from (KS_up KS_rf esg_1 (by decide))) (show KS [] gm gm from KS_rf) (by decide) (by decide)))⟩, by rw [ht]; exact hP, va_K.moved hW.alike hK, hD⟩, hS.F ht⟩) hS.2.2 dX13_bean_101
        by_cases c_19 : (w : Int32).toInt = 1
        · refine lv_tableIn (tgt := 102) hx hb dX13_bean_34 (by rw [c_19]; decide) (by rw [c_19]; decide) (by rw [c_19]; rfl) (by decide) ?_
          have h_20 : iv 1 1 w := iv_at c_19
          refine lv_aload_n hx hb dX13_bean_102 rfl (lv_at hl 1 rfl) ?_
          refine lv_iload_n hx hb dX13_bean_103 rfl (lv_at hl 2 rfl) ?_
          refine mr_calli (rest := []) ⟨hx, hb, hml, hown, htb⟩ (f_args l dC dI h0 ad cid sg_1 gm lg k hI_sg_1 h_9 (by have := i32_0; have := i32_1; have := i32_2; have := i32_m1; have := congrArg Int32.toInt (show sg_1 41 = sg 41 from up_ne esg_1 (by decide)); have := (show iv 0 80 (sg 41) from MI_s hI 41).1; have := (show iv 0 80 (sg 41) from MI_s hI 41).2; have := (h_9).1; have := (h_9).2; have := (h_10).1; have := (h_10).2; have := (h_13).1; have := (h_13).2; have := (hz_14).1; have := (hz_14).2; have := (h_20).1; have := (h_20).2; omega) ((DOC_of hdoc (show KS [5] sg sg_1 from (KS_up KS_rf esg_1 (by decide))) (show KS [] gm gm from KS_rf) (show KS [] lg lg from KS_rf) (by decide) (by decide) (by decide) (by decide)).1.2.2.2) ((DOC_of hdoc (show KS [5] sg sg_1 from (KS_up KS_rf esg_1 (by decide))) (show KS [] gm gm from KS_rf) (show KS [] lg lg from KS_rf) (by decide) (by decide) (by decide) (by decide)).1.2.1)) (cwV 1 htb (gd_V kw_1186 kw_1187 kw_1188 kw_5 kw_1612) rfl rfl rfl (by decide +kernel) ⟨Nat.le_of_ble_eq_true rfl, Nat.le_of_ble_eq_true rfl⟩) rfl hl.1 rfl (Nat.le_of_ble_eq_true rfl) dX13_bean_104 ⟨Nat.zero_le _, Nat.zero_le _⟩ hK hP hD hS hA (fun r_21 u_22 H locs hw hP hD hS => ?_)
          obtain ⟨hr_21, fAa_r_21, fAz_r_21, rfl⟩ := hw
          have hP : va_P (dC, dI) vwCl (mW h0 ad cid sg_1 gm lg) H := hP
          have hD : va_D A (mW h0 ad cid sg_1 gm lg) := hD
          exact W.iret (v := r_21) hx hb hr (fun t ht hW => ⟨⟨r_21, (sg_1, gm, lg), rfl, ⟨sg_1, gm, lg, rfl, hI_sg_1, (KS_up KS_rf esg_1 (by decide)), KS_rf, KS_rf, ((GI0_of hgi (show KS [5] sg sg_1 from (KS_up KS_rf esg_1 (by decide))) (show KS [] gm gm from KS_rf) (show KS [] lg lg from KS_rf) (by decide) (by decide) (by decide) (by decide) (by decide) (by decide))), ((MO_of hmo (show KS [5] sg sg_1 from (KS_up KS_rf esg_1 (by decide))) (show KS [] gm gm from KS_rf) (by decide) (by decide)))⟩, by rw [ht]; exact hP, va_K.moved hW.alike hK, hD⟩, hS.F ht⟩) hS.2.2 dX13_bean_107
        by_cases c_23 : (w : Int32).toInt = 2
        · refine lv_tableIn (tgt := 108) hx hb dX13_bean_34 (by rw [c_23]; decide) (by rw [c_23]; decide) (by rw [c_23]; rfl) (by decide) ?_
          have h_24 : iv 2 2 w := iv_at c_23
          refine lv_aload_n hx hb dX13_bean_108 rfl (lv_at hl 1 rfl) ?_
          refine mr_get (v := .ref (ad 44)) hx hb htb inX13 hown hK hP 44 (by decide) (htb _ kw_198) rfl dX13_bean_109 ?_
          refine lv_iload_n hx hb dX13_bean_112 rfl (lv_at hl 2 rfl) ?_
          refine mr_iald hx hb hK hP 35 (k := 44) rfl rfl rfl (show vp_in k 80 from (iv_in h_9 (by decide))) dX13_bean_113 ?_
          refine lv_topi (fun z_25 ez_25 => ?_)
          have hz_25 : iv 0 26 z_25 := iv_of ez_25 (MI_a hI_sg_1 44 h_9 (by decide))
          exact W.iret (v := z_25) hx hb hr (fun t ht hW => ⟨⟨z_25, (sg_1, gm, lg), rfl, ⟨sg_1, gm, lg, rfl, hI_sg_1, (KS_up KS_rf esg_1 (by decide)), KS_rf, KS_rf, ((GI0_of hgi (show KS [5] sg sg_1 from (KS_up KS_rf esg_1 (by decide))) (show KS [] gm gm from KS_rf) (show KS [] lg lg from KS_rf) (by decide) (by decide) (by decide) (by decide) (by decide) (by decide))), ((MO_of hmo (show KS [5] sg sg_1 from (KS_up KS_rf esg_1 (by decide))) (show KS [] gm gm from KS_rf) (by decide) (by decide)))⟩, by rw [ht]; exact hP, va_K.moved hW.alike hK, hD⟩, hS.F ht⟩) hS.2.2 dX13_bean_114
        by_cases c_26 : (w : Int32).toInt = 3
        · refine lv_tableIn (tgt := 115) hx hb dX13_bean_34 (by rw [c_26]; decide) (by rw [c_26]; decide) (by rw [c_26]; rfl) (by decide) ?_
          have h_27 : iv 3 3 w := iv_at c_26
          refine lv_aload_n hx hb dX13_bean_115 rfl (lv_at hl 1 rfl) ?_
          refine mr_get (v := .ref (ad 46)) hx hb htb inX13 hown hK hP 46 (by decide) (htb _ kw_200) rfl dX13_bean_116 ?_
          refine lv_iload_n hx hb dX13_bean_119 rfl (lv_at hl 2 rfl) ?_
          refine mr_iald hx hb hK hP 37 (k := 46) rfl rfl rfl (show vp_in k 80 from (iv_in h_9 (by decide))) dX13_bean_120 ?_
          refine lv_topi (fun z_28 ez_28 => ?_)
          have hz_28 : iv 0 26 z_28 := iv_of ez_28 (MI_a hI_sg_1 46 h_9 (by decide))
          exact W.iret (v := z_28) hx hb hr (fun t ht hW => ⟨⟨z_28, (sg_1, gm, lg), rfl, ⟨sg_1, gm, lg, rfl, hI_sg_1, (KS_up KS_rf esg_1 (by decide)), KS_rf, KS_rf, ((GI0_of hgi (show KS [5] sg sg_1 from (KS_up KS_rf esg_1 (by decide))) (show KS [] gm gm from KS_rf) (show KS [] lg lg from KS_rf) (by decide) (by decide) (by decide) (by decide) (by decide) (by decide))), ((MO_of hmo (show KS [5] sg sg_1 from (KS_up KS_rf esg_1 (by decide))) (show KS [] gm gm from KS_rf) (by decide) (by decide)))⟩, by rw [ht]; exact hP, va_K.moved hW.alike hK, hD⟩, hS.F ht⟩) hS.2.2 dX13_bean_121
        by_cases c_29 : (w : Int32).toInt = 4
        · refine lv_tableIn (tgt := 122) hx hb dX13_bean_34 (by rw [c_29]; decide) (by rw [c_29]; decide) (by rw [c_29]; rfl) (by decide) ?_
          have h_30 : iv 4 4 w := iv_at c_29
          refine lv_aload_n hx hb dX13_bean_122 rfl (lv_at hl 1 rfl) ?_
          refine lv_iload_n hx hb dX13_bean_123 rfl (lv_at hl 2 rfl) ?_
          refine lv_ldc2 (own := RX13) (v := 120282512125796) hx hb hown (htb _ kw_906) dX13_bean_124 ?_
          refine mr_calli (rest := []) ⟨hx, hb, hml, hown, htb⟩ (a_letter l dC dI h0 ad cid sg_1 gm lg k 120282512125796 hI_sg_1 (iv_w h_9 (by decide)) (by have := i32_0; have := i32_1; have := i32_2; have := i32_m1; have := congrArg Int32.toInt (show sg_1 41 = sg 41 from up_ne esg_1 (by decide)); have := (show iv 0 80 (sg 41) from MI_s hI 41).1; have := (show iv 0 80 (sg 41) from MI_s hI 41).2; have := (h_9).1; have := (h_9).2; have := (h_10).1; have := (h_10).2; have := (h_13).1; have := (h_13).2; have := (hz_14).1; have := (hz_14).2; have := (h_30).1; have := (h_30).2; omega) ((DOC_of hdoc (show KS [5] sg sg_1 from (KS_up KS_rf esg_1 (by decide))) (show KS [] gm gm from KS_rf) (show KS [] lg lg from KS_rf) (by decide) (by decide) (by decide) (by decide)).1.2.2.2)) (cwV 2 htb (gd_V kw_1201 kw_1202 kw_1203 kw_5 kw_1617) rfl rfl rfl (by decide +kernel) ⟨Nat.le_of_ble_eq_true rfl, Nat.le_of_ble_eq_true rfl⟩) rfl hl.1 rfl (Nat.le_of_ble_eq_true rfl) dX13_bean_127 ⟨Nat.zero_le _, Nat.zero_le _⟩ hK hP hD hS hA (fun r_31 u_32 H locs hw hP hD hS => ?_)
          obtain rfl := hw
          have hP : va_P (dC, dI) vwCl (mW h0 ad cid sg_1 gm lg) H := hP
          have hD : va_D A (mW h0 ad cid sg_1 gm lg) := hD
          exact W.iret (v := r_31) hx hb hr (fun t ht hW => ⟨⟨r_31, (sg_1, gm, lg), rfl, ⟨sg_1, gm, lg, rfl, hI_sg_1, (KS_up KS_rf esg_1 (by decide)), KS_rf, KS_rf, ((GI0_of hgi (show KS [5] sg sg_1 from (KS_up KS_rf esg_1 (by decide))) (show KS [] gm gm from KS_rf) (show KS [] lg lg from KS_rf) (by decide) (by decide) (by decide) (by decide) (by decide) (by decide))), ((MO_of hmo (show KS [5] sg sg_1 from (KS_up KS_rf esg_1 (by decide))) (show KS [] gm gm from KS_rf) (by decide) (by decide)))⟩, by rw [ht]; exact hP, va_K.moved hW.alike hK, hD⟩, hS.F ht⟩) hS.2.2 dX13_bean_130
        by_cases c_33 : (w : Int32).toInt = 5
        · refine lv_tableIn (tgt := 131) hx hb dX13_bean_34 (by rw [c_33]; decide) (by rw [c_33]; decide) (by rw [c_33]; rfl) (by decide) ?_
          have h_34 : iv 5 5 w := iv_at c_33
          refine lv_aload_n hx hb dX13_bean_131 rfl (lv_at hl 1 rfl) ?_
          refine lv_iload_n hx hb dX13_bean_132 rfl (lv_at hl 2 rfl) ?_
          refine lv_ldc2 (own := RX13) (v := 1768843636) hx hb hown (htb _ kw_907) dX13_bean_133 ?_
          refine mr_calli (rest := []) ⟨hx, hb, hml, hown, htb⟩ (a_letter l dC dI h0 ad cid sg_1 gm lg k 1768843636 hI_sg_1 (iv_w h_9 (by decide)) (by have := i32_0; have := i32_1; have := i32_2; have := i32_m1; have := congrArg Int32.toInt (show sg_1 41 = sg 41 from up_ne esg_1 (by decide)); have := (show iv 0 80 (sg 41) from MI_s hI 41).1; have := (show iv 0 80 (sg 41) from MI_s hI 41).2; have := (h_9).1; have := (h_9).2; have := (h_10).1; have := (h_10).2; have := (h_13).1; have := (h_13).2; have := (hz_14).1; have := (hz_14).2; have := (h_34).1; have := (h_34).2; omega) ((DOC_of hdoc (show KS [5] sg sg_1 from (KS_up KS_rf esg_1 (by decide))) (show KS [] gm gm from KS_rf) (show KS [] lg lg from KS_rf) (by decide) (by decide) (by decide) (by decide)).1.2.2.2)) (cwV 2 htb (gd_V kw_1201 kw_1202 kw_1203 kw_5 kw_1617) rfl rfl rfl (by decide +kernel) ⟨Nat.le_of_ble_eq_true rfl, Nat.le_of_ble_eq_true rfl⟩) rfl hl.1 rfl (Nat.le_of_ble_eq_true rfl) dX13_bean_136 ⟨Nat.zero_le _, Nat.zero_le _⟩ hK hP hD hS hA (fun r_35 u_36 H locs hw hP hD hS => ?_)
          obtain rfl := hw
          have hP : va_P (dC, dI) vwCl (mW h0 ad cid sg_1 gm lg) H := hP
          have hD : va_D A (mW h0 ad cid sg_1 gm lg) := hD
          exact W.iret (v := r_35) hx hb hr (fun t ht hW => ⟨⟨r_35, (sg_1, gm, lg), rfl, ⟨sg_1, gm, lg, rfl, hI_sg_1, (KS_up KS_rf esg_1 (by decide)), KS_rf, KS_rf, ((GI0_of hgi (show KS [5] sg sg_1 from (KS_up KS_rf esg_1 (by decide))) (show KS [] gm gm from KS_rf) (show KS [] lg lg from KS_rf) (by decide) (by decide) (by decide) (by decide) (by decide) (by decide))), ((MO_of hmo (show KS [5] sg sg_1 from (KS_up KS_rf esg_1 (by decide))) (show KS [] gm gm from KS_rf) (by decide) (by decide)))⟩, by rw [ht]; exact hP, va_K.moved hW.alike hK, hD⟩, hS.F ht⟩) hS.2.2 dX13_bean_139
        by_cases c_37 : (w : Int32).toInt = 6
        · refine lv_tableIn (tgt := 140) hx hb dX13_bean_34 (by rw [c_37]; decide) (by rw [c_37]; decide) (by rw [c_37]; rfl) (by decide) ?_
          have h_38 : iv 6 6 w := iv_at c_37
          refine lv_aload_n hx hb dX13_bean_140 rfl (lv_at hl 1 rfl) ?_
          refine lv_iload_n hx hb dX13_bean_141 rfl (lv_at hl 2 rfl) ?_
          refine lv_ldc2 (own := RX13) (v := 28259044220366713) hx hb hown (htb _ kw_908) dX13_bean_142 ?_
          refine mr_calli (rest := []) ⟨hx, hb, hml, hown, htb⟩ (a_letter l dC dI h0 ad cid sg_1 gm lg k 28259044220366713 hI_sg_1 (iv_w h_9 (by decide)) (by have := i32_0; have := i32_1; have := i32_2; have := i32_m1; have := congrArg Int32.toInt (show sg_1 41 = sg 41 from up_ne esg_1 (by decide)); have := (show iv 0 80 (sg 41) from MI_s hI 41).1; have := (show iv 0 80 (sg 41) from MI_s hI 41).2; have := (h_9).1; have := (h_9).2; have := (h_10).1; have := (h_10).2; have := (h_13).1; have := (h_13).2; have := (hz_14).1; have := (hz_14).2; have := (h_38).1; have := (h_38).2; omega) ((DOC_of hdoc (show KS [5] sg sg_1 from (KS_up KS_rf esg_1 (by decide))) (show KS [] gm gm from KS_rf) (show KS [] lg lg from KS_rf) (by decide) (by decide) (by decide) (by decide)).1.2.2.2)) (cwV 2 htb (gd_V kw_1201 kw_1202 kw_1203 kw_5 kw_1617) rfl rfl rfl (by decide +kernel) ⟨Nat.le_of_ble_eq_true rfl, Nat.le_of_ble_eq_true rfl⟩) rfl hl.1 rfl (Nat.le_of_ble_eq_true rfl) dX13_bean_145 ⟨Nat.zero_le _, Nat.zero_le _⟩ hK hP hD hS hA (fun r_39 u_40 H locs hw hP hD hS => ?_)
          obtain rfl := hw
          have hP : va_P (dC, dI) vwCl (mW h0 ad cid sg_1 gm lg) H := hP
          have hD : va_D A (mW h0 ad cid sg_1 gm lg) := hD
          exact W.iret (v := r_39) hx hb hr (fun t ht hW => ⟨⟨r_39, (sg_1, gm, lg), rfl, ⟨sg_1, gm, lg, rfl, hI_sg_1, (KS_up KS_rf esg_1 (by decide)), KS_rf, KS_rf, ((GI0_of hgi (show KS [5] sg sg_1 from (KS_up KS_rf esg_1 (by decide))) (show KS [] gm gm from KS_rf) (show KS [] lg lg from KS_rf) (by decide) (by decide) (by decide) (by decide) (by decide) (by decide))), ((MO_of hmo (show KS [5] sg sg_1 from (KS_up KS_rf esg_1 (by decide))) (show KS [] gm gm from KS_rf) (by decide) (by decide)))⟩, by rw [ht]; exact hP, va_K.moved hW.alike hK, hD⟩, hS.F ht⟩) hS.2.2 dX13_bean_148
        by_cases c_41 : (w : Int32).toInt = 7
        · refine lv_tableIn (tgt := 149) hx hb dX13_bean_34 (by rw [c_41]; decide) (by rw [c_41]; decide) (by rw [c_41]; rfl) (by decide) ?_
          have h_42 : iv 7 7 w := iv_at c_41
          refine lv_aload_n hx hb dX13_bean_149 rfl (lv_at hl 1 rfl) ?_
          refine lv_iload_n hx hb dX13_bean_150 rfl (lv_at hl 2 rfl) ?_
          refine mr_calli (rest := []) ⟨hx, hb, hml, hown, htb⟩ (a_isAbstract l dC dI h0 ad cid sg_1 gm lg k hI_sg_1 h_9) (cwV 1 htb (gd_V kw_1148 kw_1149 kw_1150 kw_5 kw_1600) rfl rfl rfl (by decide +kernel) ⟨Nat.le_of_ble_eq_true rfl, Nat.le_of_ble_eq_true rfl⟩) rfl hl.1 rfl (Nat.le_of_ble_eq_true rfl) dX13_bean_151 ⟨Nat.zero_le _, Nat.zero_le _⟩ hK hP hD hS hA (fun r_43 u_44 H locs hw hP hD hS => ?_)
          obtain ⟨hr_43, rfl⟩ := hw
          have hP : va_P (dC, dI) vwCl (mW h0 ad cid sg_1 gm lg) H := hP
          have hD : va_D A (mW h0 ad cid sg_1 gm lg) := hD
          refine lv_if_eq (tgt := 161) hx hb dX13_bean_154 (by decide) (fun c_45 => ?_) (fun c_45 => ?_)
          · have h_46 : iv 0 0 r_43 := iv_eq c_45 hr_43 (iv_k (by decide) : iv 0 0 0) (by decide)
            refine lv_iconst (v := 0) hx hb dX13_bean_161 (by decide) ?_
            exact hj162 sg_1 z_14 0 hz_14 h_9 h_42 (iv_w (iv_k (by decide) : iv 0 0 0) (by decide)) (KS_up KS_rf esg_1 (by decide)) hI_sg_1 _ _ _ hP hD hS (lv_sub hl [0, 1, 2, 3] rfl)
          · have h_47 : iv 1 1 r_43 := iv_neL c_45 hr_43 (by decide)
            refine lv_iconst (v := 1) hx hb dX13_bean_157 (by decide) ?_
            refine lv_goto (tgt := 162) hx hb dX13_bean_158 (by decide) ?_
            exact hj162 sg_1 z_14 1 hz_14 h_9 h_42 (iv_w (iv_k (by decide) : iv 1 1 1) (by decide)) (KS_up KS_rf esg_1 (by decide)) hI_sg_1 _ _ _ hP hD hS (lv_sub hl [0, 1, 2, 3] rfl)
        by_cases c_48 : (w : Int32).toInt = 8
        · refine lv_tableIn (tgt := 163) hx hb dX13_bean_34 (by rw [c_48]; decide) (by rw [c_48]; decide) (by rw [c_48]; rfl) (by decide) ?_
          have h_49 : iv 8 8 w := iv_at c_48
          refine lv_aload_n hx hb dX13_bean_163 rfl (lv_at hl 1 rfl) ?_
          refine lv_iload_n hx hb dX13_bean_164 rfl (lv_at hl 0 rfl) ?_
          refine lv_ldc2 (own := RX13) (v := 495589486693) hx hb hown (htb _ kw_903) dX13_bean_165 ?_
          refine mr_calll (rest := []) ⟨hx, hb, hml, hown, htb⟩ (f_word l dC dI h0 ad cid sg_1 gm lg z_14 495589486693 hI_sg_1 hz_14) (cwV 2 htb (gd_V kw_923 kw_924 kw_925 kw_5 kw_1545) rfl rfl rfl (by decide +kernel) ⟨Nat.le_of_ble_eq_true rfl, Nat.le_of_ble_eq_true rfl⟩) rfl hl.1 rfl (Nat.le_of_ble_eq_true rfl) dX13_bean_168 ⟨Nat.zero_le _, Nat.zero_le _⟩ hK hP hD hS hA (fun r_50 u_51 H locs hw hP hD hS => ?_)
          obtain ⟨fW_r_50, rfl⟩ := hw
          have hP : va_P (dC, dI) vwCl (mW h0 ad cid sg_1 gm lg) H := hP
          have hD : va_D A (mW h0 ad cid sg_1 gm lg) := hD
          refine lv_aload_n hx hb dX13_bean_171 rfl (lv_at hl 1 rfl) ?_
          refine mr_get (v := .ref (ad 1)) hx hb htb inX13 hown hK hP 1 (by decide) (htb _ kw_156) rfl dX13_bean_172 ?_
          refine lv_iconst (v := 3) hx hb dX13_bean_175 (by decide) ?_
          refine mr_lald hx hb hK hP 1 (k := 1) rfl rfl rfl (show vp_in 3 11 from (iv_in (iv_k (by decide) : iv 3 3 3) (by decide))) dX13_bean_176 ?_
          refine lv_topl (fun z_52 ez_52 => ?_)
          refine W.lcmp hx hb dX13_bean_177 ?_
          refine lv_topi (fun z_53 ez_53 => ?_)
          have hz_53 : iv (-1) 1 z_53 := iv_of ez_53 (iv_cmp _ _)
          refine lv_if_ne (tgt := 185) hx hb dX13_bean_178 (by decide) (fun c_54 => ?_) (fun c_54 => ?_)
          · have d_55 : ¬ (z_53 : Int32).toInt = 0 := lv_neT c_54 rfl
            refine lv_iconst (v := 0) hx hb dX13_bean_185 (by decide) ?_
            exact hj186 sg_1 z_14 0 hz_14 h_9 h_49 (iv_w (iv_k (by decide) : iv 0 0 0) (by decide)) (KS_up KS_rf esg_1 (by decide)) hI_sg_1 _ _ _ hP hD hS (lv_sub hl [0, 1, 2, 3] rfl)
          · have h_56 : iv 0 0 z_53 := iv_eq c_54 hz_53 (iv_k (by decide) : iv 0 0 0) (by decide)
            refine lv_iconst (v := 1) hx hb dX13_bean_181 (by decide) ?_
            refine lv_goto (tgt := 186) hx hb dX13_bean_182 (by decide) ?_
            exact hj186 sg_1 z_14 1 hz_14 h_9 h_49 (iv_w (iv_k (by decide) : iv 1 1 1) (by decide)) (KS_up KS_rf esg_1 (by decide)) hI_sg_1 _ _ _ hP hD hS (lv_sub hl [0, 1, 2, 3] rfl)
        by_cases c_57 : (w : Int32).toInt = 9
        · refine lv_tableIn (tgt := 187) hx hb dX13_bean_34 (by rw [c_57]; decide) (by rw [c_57]; decide) (by rw [c_57]; rfl) (by decide) ?_
          have h_58 : iv 9 9 w := iv_at c_57
          refine lv_aload_n hx hb dX13_bean_187 rfl (lv_at hl 1 rfl) ?_
          refine lv_iload_n hx hb dX13_bean_188 rfl (lv_at hl 0 rfl) ?_
          refine lv_ldc2 (own := RX13) (v := 1818327673) hx hb hown (htb _ kw_904) dX13_bean_189 ?_
          refine mr_calll (rest := []) ⟨hx, hb, hml, hown, htb⟩ (f_word l dC dI h0 ad cid sg_1 gm lg z_14 1818327673 hI_sg_1 hz_14) (cwV 2 htb (gd_V kw_923 kw_924 kw_925 kw_5 kw_1545) rfl rfl rfl (by decide +kernel) ⟨Nat.le_of_ble_eq_true rfl, Nat.le_of_ble_eq_true rfl⟩) rfl hl.1 rfl (Nat.le_of_ble_eq_true rfl) dX13_bean_192 ⟨Nat.zero_le _, Nat.zero_le _⟩ hK hP hD hS hA (fun r_59 u_60 H locs hw hP hD hS => ?_)
          obtain ⟨fW_r_59, rfl⟩ := hw
          have hP : va_P (dC, dI) vwCl (mW h0 ad cid sg_1 gm lg) H := hP
          have hD : va_D A (mW h0 ad cid sg_1 gm lg) := hD
          refine lv_aload_n hx hb dX13_bean_195 rfl (lv_at hl 1 rfl) ?_
          refine mr_get (v := .ref (ad 1)) hx hb htb inX13 hown hK hP 1 (by decide) (htb _ kw_156) rfl dX13_bean_196 ?_
          refine lv_iconst (v := 0) hx hb dX13_bean_199 (by decide) ?_
          refine mr_lald hx hb hK hP 1 (k := 1) rfl rfl rfl (show vp_in 0 11 from (iv_in (iv_k (by decide) : iv 0 0 0) (by decide))) dX13_bean_200 ?_
          refine lv_topl (fun z_61 ez_61 => ?_)
          refine W.lcmp hx hb dX13_bean_201 ?_
          refine lv_topi (fun z_62 ez_62 => ?_)
          have hz_62 : iv (-1) 1 z_62 := iv_of ez_62 (iv_cmp _ _)
          refine lv_if_ne (tgt := 209) hx hb dX13_bean_202 (by decide) (fun c_63 => ?_) (fun c_63 => ?_)
          · have d_64 : ¬ (z_62 : Int32).toInt = 0 := lv_neT c_63 rfl
            refine lv_iconst (v := 0) hx hb dX13_bean_209 (by decide) ?_
            exact hj210 sg_1 z_14 0 hz_14 h_9 h_58 (iv_w (iv_k (by decide) : iv 0 0 0) (by decide)) (KS_up KS_rf esg_1 (by decide)) hI_sg_1 _ _ _ hP hD hS (lv_sub hl [0, 1, 2, 3] rfl)
          · have h_65 : iv 0 0 z_62 := iv_eq c_63 hz_62 (iv_k (by decide) : iv 0 0 0) (by decide)
            refine lv_iconst (v := 1) hx hb dX13_bean_205 (by decide) ?_
            refine lv_goto (tgt := 210) hx hb dX13_bean_206 (by decide) ?_
            exact hj210 sg_1 z_14 1 hz_14 h_9 h_58 (iv_w (iv_k (by decide) : iv 1 1 1) (by decide)) (KS_up KS_rf esg_1 (by decide)) hI_sg_1 _ _ _ hP hD hS (lv_sub hl [0, 1, 2, 3] rfl)
        by_cases c_66 : (w : Int32).toInt = 10
        · refine lv_tableIn (tgt := 211) hx hb dX13_bean_34 (by rw [c_66]; decide) (by rw [c_66]; decide) (by rw [c_66]; rfl) (by decide) ?_
          have h_67 : iv 10 10 w := iv_at c_66
          refine lv_aload_n hx hb dX13_bean_211 rfl (lv_at hl 1 rfl) ?_
          refine mr_get (v := .ref (ad 61)) hx hb htb inX13 hown hK hP 61 (by decide) (htb _ kw_211) rfl dX13_bean_212 ?_
          refine lv_iload_n hx hb dX13_bean_215 rfl (lv_at hl 2 rfl) ?_
          refine mr_zald hx hb hK hP 47 (k := 61) rfl rfl rfl (show vp_in k 80 from (iv_in h_9 (by decide))) dX13_bean_216 ?_
          refine lv_topi (fun z_68 ez_68 => ?_)
          have hz_68 : iv 0 1 z_68 := iv_of ez_68 (MI_a hI_sg_1 61 h_9 (by decide))
          refine lv_if_eq (tgt := 224) hx hb dX13_bean_217 (by decide) (fun c_69 => ?_) (fun c_69 => ?_)
          · have h_70 : iv 0 0 z_68 := iv_eq c_69 hz_68 (iv_k (by decide) : iv 0 0 0) (by decide)
            refine lv_iconst (v := 0) hx hb dX13_bean_224 (by decide) ?_
            exact hj225 sg_1 z_14 0 hz_14 h_9 h_67 (iv_w (iv_k (by decide) : iv 0 0 0) (by decide)) (KS_up KS_rf esg_1 (by decide)) hI_sg_1 _ _ _ hP hD hS (lv_sub hl [0, 1, 2, 3] rfl)
          · have h_71 : iv 1 1 z_68 := iv_neL c_69 hz_68 (by decide)
            refine lv_iconst (v := 1) hx hb dX13_bean_220 (by decide) ?_
            refine lv_goto (tgt := 225) hx hb dX13_bean_221 (by decide) ?_
            exact hj225 sg_1 z_14 1 hz_14 h_9 h_67 (iv_w (iv_k (by decide) : iv 1 1 1) (by decide)) (KS_up KS_rf esg_1 (by decide)) hI_sg_1 _ _ _ hP hD hS (lv_sub hl [0, 1, 2, 3] rfl)
        by_cases c_72 : (w : Int32).toInt = 11
        · refine lv_tableIn (tgt := 226) hx hb dX13_bean_34 (by rw [c_72]; decide) (by rw [c_72]; decide) (by rw [c_72]; rfl) (by decide) ?_
          have h_73 : iv 11 11 w := iv_at c_72
          refine lv_aload_n hx hb dX13_bean_226 rfl (lv_at hl 1 rfl) ?_
          refine mr_get (v := .ref (ad 27)) hx hb htb inX13 hown hK hP 27 (by decide) (htb _ kw_183) rfl dX13_bean_227 ?_
          refine lv_iload_n hx hb dX13_bean_230 rfl (lv_at hl 0 rfl) ?_
          refine mr_iald hx hb hK hP 20 (k := 27) rfl rfl rfl (show vp_in z_14 80 from (iv_in hz_14 (by decide))) dX13_bean_231 ?_
          refine lv_topi (fun z_74 ez_74 => ?_)
          have hz_74 : iv 0 1201 z_74 := iv_of ez_74 (MI_a hI_sg_1 27 hz_14 (by decide))
          exact W.iret (v := z_74) hx hb hr (fun t ht hW => ⟨⟨z_74, (sg_1, gm, lg), rfl, ⟨sg_1, gm, lg, rfl, hI_sg_1, (KS_up KS_rf esg_1 (by decide)), KS_rf, KS_rf, ((GI0_of hgi (show KS [5] sg sg_1 from (KS_up KS_rf esg_1 (by decide))) (show KS [] gm gm from KS_rf) (show KS [] lg lg from KS_rf) (by decide) (by decide) (by decide) (by decide) (by decide) (by decide))), ((MO_of hmo (show KS [5] sg sg_1 from (KS_up KS_rf esg_1 (by decide))) (show KS [] gm gm from KS_rf) (by decide) (by decide)))⟩, by rw [ht]; exact hP, va_K.moved hW.alike hK, hD⟩, hS.F ht⟩) hS.2.2 dX13_bean_232
        refine lv_tableOut (tgt := 233) hx hb dX13_bean_34 (by have q1 := ((iv_all w)).1; have q2 := ((iv_all w)).2; omega) (by decide) ?_
        refine lv_iconst (v := (-1)) hx hb dX13_bean_233 (by decide) ?_
        exact W.iret (v := (-1)) hx hb hr (fun t ht hW => ⟨⟨(-1), (sg_1, gm, lg), rfl, ⟨sg_1, gm, lg, rfl, hI_sg_1, (KS_up KS_rf esg_1 (by decide)), KS_rf, KS_rf, ((GI0_of hgi (show KS [5] sg sg_1 from (KS_up KS_rf esg_1 (by decide))) (show KS [] gm gm from KS_rf) (show KS [] lg lg from KS_rf) (by decide) (by decide) (by decide) (by decide) (by decide) (by decide))), ((MO_of hmo (show KS [5] sg sg_1 from (KS_up KS_rf esg_1 (by decide))) (show KS [] gm gm from KS_rf) (by decide) (by decide)))⟩, by rw [ht]; exact hP, va_K.moved hW.alike hK, hD⟩, hS.F ht⟩) hS.2.2 dX13_bean_234
      · have h_75 : iv 0 0 (sg 40) := iv_eq c_12 (show iv 0 1 (sg 40) from MI_s hI 40) (iv_k (by decide) : iv 0 0 0) (by decide)
        exact hj24 sg_1 (KS_up KS_rf esg_1 (by decide)) hI_sg_1 _ _ _ hP hD hS (lv_sub hl [0, 1, 2] rfl)
end
