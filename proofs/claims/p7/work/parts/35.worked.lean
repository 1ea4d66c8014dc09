/-- the n-th element within a -/
def chF (sg : Nat → Int32) (gm : Nat → Nat → Int32) (a : Int32) : Nat → Int32
  | 0 => mInn sg gm a 0 a
  | n + 1 => if chF sg gm a n = -1 then -1 else mInn sg gm a 0 (chF sg gm a n)
theorem chF_s {sg : Nat → Int32} {gm : Nat → Nat → Int32} {a x r : Int32} {n : Nat} (hx : x = chF sg gm a n) (h : ¬ x = -1) (hr : r = mInn sg gm a 0 x) : r = chF sg gm a (n + 1) := by
  show _ = (if _ then _ else _)
  rw [← hx, if_neg h, hr]
theorem cA_gap {gm : Nat → Nat → Int32} {x : Int32} {a : Nat} (hx : 0 ≤ x.toInt) : ∀ b, a ≤ b → NHB (qInn gm x 0) a b → cntA (gm 28) x.toNatClampNeg b = cntA (gm 28) x.toNatClampNeg a := by
  have kx : ((x.toNatClampNeg : Nat) : Int) = x.toInt := iv_cl (a := 0) (b := x.toInt) ⟨hx, Int.le_refl _⟩ (by decide)
  intro b
  induction b with
  | zero => intro h _; have h0 : a = 0 := by omega
            subst h0; rfl
  | succ b ih =>
    intro h hn
    by_cases e9 : a = b + 1
    · subst e9; rfl
    · have h1 := ih (by omega) (fun k q1 q2 => hn k q1 (by omega))
      have h2 := hn b (by omega) (by omega)
      have h3 : ¬ gm 28 b = x := fun q => by rw [qI_t q (Or.inl rfl)] at h2; cases h2
      show cntA (gm 28) x.toNatClampNeg b + _ = _
      rw [if_neg (fun q => h3 (Int32.toInt_inj.mp (by omega))), h1]
      rfl
theorem cA_low {sg : Nat → Int32} {gm : Nat → Nat → Int32} {x : Int32} (ht : TRE sg gm) (hx : 0 ≤ x.toInt) (hl : x.toNatClampNeg < (sg 24).toNatClampNeg) : ∀ m, m ≤ x.toNatClampNeg + 1 → cntA (gm 28) x.toNatClampNeg m = 0 := by
  intro m
  induction m with
  | zero => intro _; rfl
  | succ m ih =>
    intro hm
    have h1 := (ht.1 m (by omega)).1
    show cntA (gm 28) x.toNatClampNeg m + _ = 0
    rw [ih (by omega), if_neg (by omega)]
theorem chF_ok {sg : Nat → Int32} {gm : Nat → Nat → Int32} {x : Int32} (ht : TRE sg gm) (hn : iv 0 80 (sg 24)) (hx : iv 0 79 x) (hl : x.toNatClampNeg < (sg 24).toNatClampNeg) : ∀ n, (chF sg gm x n = -1 ∧ cntA (gm 28) x.toNatClampNeg (sg 24).toNatClampNeg ≤ n) ∨ (iv 0 79 (chF sg gm x n) ∧ (chF sg gm x n).toNatClampNeg < (sg 24).toNatClampNeg ∧ cntA (gm 28) x.toNatClampNeg (chF sg gm x n).toNatClampNeg = n ∧ gm 28 (chF sg gm x n).toNatClampNeg = x) := by
  intro n
  induction n with
  | zero =>
    rcases mInn_or (gm := gm) (a := x) (kd := 0) (bh := x) hn with ⟨q, q9⟩ | ⟨q1, q2, q3, q4, q5, q6⟩
    · refine Or.inl ⟨q, ?_⟩
      rw [cA_gap hx.1 _ (by omega) q9, cA_low ht hx.1 hl _ (Nat.le_refl _)]
      exact Nat.le_refl 0
    · refine Or.inr ⟨iv_w q1 (by decide), q3, ?_, q4⟩
      show cntA _ _ (mInn sg gm x 0 x).toNatClampNeg = 0
      rw [cA_gap hx.1 _ (by omega) q6, cA_low ht hx.1 hl _ (Nat.le_refl _)]
  | succ n ih =>
    rcases ih with ⟨i1, i2⟩ | ⟨i1, i2, i3, i4⟩
    · refine Or.inl ⟨?_, by omega⟩
      show (if _ then _ else _) = _
      rw [if_pos i1]
    · have hm : ¬ chF sg gm x n = -1 := fun q => by have := i1.1; rw [q] at this; exact absurd this (by decide)
      have e1 : chF sg gm x (n + 1) = mInn sg gm x 0 (chF sg gm x n) := by show (if _ then _ else _) = _; rw [if_neg hm]
      have kx := iv_cl hx (by decide)
      have e2 : cntA (gm 28) x.toNatClampNeg ((chF sg gm x n).toNatClampNeg + 1) = n + 1 := by
        show _ + _ = _
        rw [i3, if_pos (by rw [i4]; omega)]
      rw [e1]
      rcases mInn_or (gm := gm) (a := x) (kd := 0) (bh := chF sg gm x n) hn with ⟨q, q9⟩ | ⟨q1, q2, q3, q4, q5, q6⟩
      · refine Or.inl ⟨q, ?_⟩
        rw [cA_gap hx.1 _ (by omega) q9, e2]
        exact Nat.le_refl _
      · refine Or.inr ⟨iv_w q1 (by decide), q3, ?_, q4⟩
        rw [cA_gap hx.1 _ (by omega) q6, e2]
theorem cA_mono {f : Nat → Int32} {a : Nat} (j : Nat) : ∀ k, j ≤ k → cntA f a j ≤ cntA f a k := by
  intro k
  induction k with
  | zero => intro h; have h0 : j = 0 := by omega
            subst h0; exact Nat.le_refl _
  | succ k ih =>
    intro h
    by_cases hj : j = k + 1
    · subst hj; exact Nat.le_refl _
    · have := ih (by omega)
      show _ ≤ cntA f a k + _
      omega
/-- within the element x there are more than n: the n-th is there -/
theorem chF_in {sg : Nat → Int32} {gm : Nat → Nat → Int32} {x r : Int32} {n : Nat} (ht : TRE sg gm) (hn : iv 0 80 (sg 24)) (hx : iv 0 79 x) (hl : x.toNatClampNeg < (sg 24).toNatClampNeg) (hr : r = chF sg gm x n) (h : (n : Int) < (gm 29 x.toNatClampNeg).toInt) : iv 0 79 r ∧ r.toNatClampNeg < (sg 24).toNatClampNeg := by
  rcases chF_ok ht hn hx hl n with ⟨q1, q2⟩ | ⟨q1, q2, _, _⟩
  · have := ht.2 _ hl; omega
  · rw [hr]; exact ⟨q1, q2⟩
theorem chF_lt {sg : Nat → Int32} {gm : Nat → Nat → Int32} {x r : Int32} {n : Nat} (ht : TRE sg gm) (hn : iv 0 80 (sg 24)) (hx : iv 0 79 x) (hl : x.toNatClampNeg < (sg 24).toNatClampNeg) (hr : r = chF sg gm x n) (h : ¬ r = -1) : (n : Int) < (gm 29 x.toNatClampNeg).toInt ∧ iv 0 79 r ∧ r.toNatClampNeg < (sg 24).toNatClampNeg := by
  rcases chF_ok ht hn hx hl n with ⟨q1, q2⟩ | ⟨q1, q2, q3, q4⟩
  · exact absurd (hr.trans q1) h
  · have h1 := ht.2 _ hl
    have kx := iv_cl hx (by decide)
    have e2 : cntA (gm 28) x.toNatClampNeg ((chF sg gm x n).toNatClampNeg + 1) = n + 1 := by
      show _ + _ = _
      rw [q3, if_pos (by rw [q4]; omega)]
    have h2 := cA_mono (f := gm 28) (a := x.toNatClampNeg) ((chF sg gm x n).toNatClampNeg + 1) (sg 24).toNatClampNeg (by omega)
    rw [hr]
    exact ⟨by omega, q1, q2⟩
/-- how many values the holder x takes -/
def LIM (sg : Nat → Int32) (gm : Nat → Nat → Int32) (x : Int32) : Int := if 0 < (gm 29 x.toNatClampNeg).toInt ∧ gm 26 (mInn sg gm x 0 x).toNatClampNeg = 6 then (gm 29 (mInn sg gm x 0 x).toNatClampNeg).toInt else 1
def WIN (sg : Nat → Int32) (gm : Nat → Nat → Int32) (x y : Int32) : Prop := iv 0 79 y ∧ y.toNatClampNeg < (sg 24).toNatClampNeg ∧ ((y = x ∧ (gm 29 x.toNatClampNeg).toInt = 0) ∨ (y = mInn sg gm x 0 x ∧ (gm 29 x.toNatClampNeg).toInt = 1))
def LST (sg : Nat → Int32) (gm : Nat → Nat → Int32) (x y : Int32) : Prop := iv 0 79 y ∧ y.toNatClampNeg < (sg 24).toNatClampNeg ∧ LIM sg gm x = (gm 29 y.toNatClampNeg).toInt ∧ (gm 29 y.toNatClampNeg).toInt ≤ 6
theorem WIN_1 {sg : Nat → Int32} {gm : Nat → Nat → Int32} {x y : Int32} (h : WIN sg gm x y) (hk : ¬ gm 26 y.toNatClampNeg = 6) : LIM sg gm x = 1 := by
  obtain ⟨h1, h2, ⟨h3, h4⟩ | ⟨h3, h4⟩⟩ := h
  · unfold LIM; rw [if_neg (fun q => by omega)]
  · unfold LIM; rw [if_neg (fun q => hk (by rw [h3]; exact q.2))]
theorem WIN_6 {sg : Nat → Int32} {gm : Nat → Nat → Int32} {lg : Nat → Nat → Int64} {x y : Int32} (hs : STR sg gm lg) (hx : (gm 26 x.toNatClampNeg).toInt = 4 ∨ (gm 26 x.toNatClampNeg).toInt = 5) (h : WIN sg gm x y) (hk : gm 26 y.toNatClampNeg = 6) : LST sg gm x y := by
  obtain ⟨h1, h2, ⟨h3, h4⟩ | ⟨h3, h4⟩⟩ := h
  · rw [h3] at hk; rw [hk] at hx; exact absurd hx (by decide)
  · refine ⟨h1, h2, ?_, (hs.1 _ h2).2.2.2 (by rw [hk]; rfl)⟩
    unfold LIM; rw [if_pos ⟨by omega, by rw [← h3]; exact hk⟩, ← h3]
theorem WIN_s {sg : Nat → Int32} {gm : Nat → Nat → Int32} {lg : Nat → Nat → Int64} {x : Int32} (hs : STR sg gm lg) (hx : iv 0 79 x) (hl : x.toNatClampNeg < (sg 24).toNatClampNeg) (hk : (gm 26 x.toNatClampNeg).toInt = 4 ∨ (gm 26 x.toNatClampNeg).toInt = 5) (hh : ¬ mHas gm lg x.toNatClampNeg 508440638821 = 0 ∨ ¬ mHas gm lg x.toNatClampNeg 7497062 = 0) : WIN sg gm x x := by
  refine ⟨hx, hl, Or.inl ⟨rfl, ?_⟩⟩
  rcases (hs.1 _ hl).1 hk with q | q
  · exact q.2
  · rcases hh with z | z
    · exact absurd q.1 z
    · exact absurd q.2.1 z
theorem WIN_i {sg : Nat → Int32} {gm : Nat → Nat → Int32} {lg : Nat → Nat → Int64} {x r : Int32} (ht : TRE sg gm) (hn : iv 0 80 (sg 24)) (hs : STR sg gm lg) (hx : iv 0 79 x) (hl : x.toNatClampNeg < (sg 24).toNatClampNeg) (hk : (gm 26 x.toNatClampNeg).toInt = 4 ∨ (gm 26 x.toNatClampNeg).toInt = 5) (h1 : mHas gm lg x.toNatClampNeg 508440638821 = 0) (h2 : mHas gm lg x.toNatClampNeg 7497062 = 0) (hr : r = mInn sg gm x 0 x) : WIN sg gm x r := by
  rcases (hs.1 _ hl).1 hk with q | q
  · rcases q.1 with z | z
    · exact absurd h1 z
    · exact absurd h2 z
  · obtain ⟨q1, q2⟩ := chF_in (n := 0) ht hn hx hl hr (by have := q.2.2; omega)
    exact ⟨q1, q2, Or.inr ⟨hr, q.2.2⟩⟩
theorem LIM_iv {sg : Nat → Int32} {gm : Nat → Nat → Int32} {lg : Nat → Nat → Int64} {x : Int32} (ht : TRE sg gm) (hn : iv 0 80 (sg 24)) (hs : STR sg gm lg) (hx : iv 0 79 x) (hl : x.toNatClampNeg < (sg 24).toNatClampNeg) : 0 ≤ LIM sg gm x ∧ LIM sg gm x ≤ 6 := by
  unfold LIM
  by_cases q : 0 < (gm 29 x.toNatClampNeg).toInt ∧ gm 26 (mInn sg gm x 0 x).toNatClampNeg = 6
  · rw [if_pos q]
    obtain ⟨q1, q2⟩ := chF_in (n := 0) ht hn hx hl rfl (by have := q.1; omega)
    have q3 := (hs.1 _ q2).2.2.2 (by show (gm 26 (mInn sg gm x 0 x).toNatClampNeg).toInt = 6; rw [q.2]; rfl)
    have q4 := ht.2 _ q2
    exact ⟨by show 0 ≤ (gm 29 (chF sg gm x 0).toNatClampNeg).toInt; omega, q3⟩
  · rw [if_neg q]; exact ⟨by decide, by decide⟩
def TOPn (sg : Nat → Int32) : Nat := (sg 63).toNatClampNeg - 1
def SAMEQ (sg : Nat → Int32) (gm : Nat → Nat → Int32) (sg2 : Nat → Int32) (gm2 : Nat → Nat → Int32) : Prop := sg2 63 = sg 63 ∧ gm2 62 = gm 62 ∧ gm2 64 = gm 64 ∧ gm2 65 = gm 65 ∧ gm2 66 = gm 66 ∧ gm2 68 = gm 68 ∧ gm2 69 = gm 69 ∧ sg2 51 = sg 51 ∧ ∀ j, j ≠ TOPn sg → gm2 67 j = gm 67 j
def WOUT (sg : Nat → Int32) (gm : Nat → Nat → Int32) (lim : Int) (sg2 : Nat → Int32) (gm2 : Nat → Nat → Int32) (r : Int32) : Prop := (r.toInt = 1 ∧ SAMEQ sg gm sg2 gm2) ∨ (r.toInt = 0 ∧ (1 ≤ (sg2 51).toInt ∨ ∃ b g67, PUSH sg gm g67 sg2 gm2 b ∧ (∀ j, j ≠ TOPn sg → g67 j = gm 67 j) ∧ (gm 67 (TOPn sg)).toInt ≤ (g67 (TOPn sg)).toInt ∧ (g67 (TOPn sg)).toInt < lim))
theorem SAMEQ_rf {sg : Nat → Int32} {gm : Nat → Nat → Int32} : SAMEQ sg gm sg gm := ⟨rfl, rfl, rfl, rfl, rfl, rfl, rfl, rfl, fun _ _ => rfl⟩
theorem SAMEQ_p {sg sg1 sg2 : Nat → Int32} {gm gm1 gm2 : Nat → Nat → Int32} (h : SAMEQ sg gm sg1 gm1) (h2 : SAMEP sg1 gm1 sg2 gm2) : SAMEQ sg gm sg2 gm2 := by
  obtain ⟨a1, a2, a3, a4, a5, a7, a8, a9, a10⟩ := h
  obtain ⟨b1, b2, b3, b4, b5, b6, b7, b8, b9⟩ := h2
  exact ⟨b1.trans a1, b2.trans a2, b3.trans a3, b4.trans a4, b5.trans a5, b7.trans a7, b8.trans a8, b9.trans a9, fun j hj => by rw [b6]; exact a10 j hj⟩
theorem SAMEQ_u {sg sg2 : Nat → Int32} {gm gm2 gm3 : Nat → Nat → Int32} {t : Nat} {v : Int32} (h : SAMEQ sg gm sg2 gm2) (h67 : gm3 67 = upd (gm2 67) t v) (ht : t = TOPn sg) (h62 : gm3 62 = gm2 62) (h64 : gm3 64 = gm2 64) (h65 : gm3 65 = gm2 65) (h66 : gm3 66 = gm2 66) (h68 : gm3 68 = gm2 68) (h69 : gm3 69 = gm2 69) : SAMEQ sg gm sg2 gm3 := by
  obtain ⟨a1, a2, a3, a4, a5, a7, a8, a9, a10⟩ := h
  exact ⟨a1, h62.trans a2, h64.trans a3, h65.trans a4, h66.trans a5, h68.trans a7, h69.trans a8, a9, fun j hj => by rw [h67, upd_ne (by rw [ht]; exact hj)]; exact a10 j hj⟩
theorem SAMEQ_v {sg sg2 : Nat → Int32} {gm gm2 gm3 : Nat → Nat → Int32} (h : SAMEQ sg gm sg2 gm2) (h62 : gm3 62 = gm2 62) (h64 : gm3 64 = gm2 64) (h65 : gm3 65 = gm2 65) (h66 : gm3 66 = gm2 66) (h67 : gm3 67 = gm2 67) (h68 : gm3 68 = gm2 68) (h69 : gm3 69 = gm2 69) : SAMEQ sg gm sg2 gm3 := by
  obtain ⟨a1, a2, a3, a4, a5, a7, a8, a9, a10⟩ := h
  exact ⟨a1, h62.trans a2, h64.trans a3, h65.trans a4, h66.trans a5, h68.trans a7, h69.trans a8, a9, fun j hj => by rw [h67]; exact a10 j hj⟩
theorem PUSH_tr {sg sg1 sg2 : Nat → Int32} {gm gm1 gm2 : Nat → Nat → Int32} {g67 : Nat → Int32} {b : Int32} (h : SAMEQ sg gm sg1 gm1) (h41 : sg1 41 = sg 41) (h2 : PUSH sg1 gm1 g67 sg2 gm2 b) : PUSH sg gm g67 sg2 gm2 b := by
  obtain ⟨a1, a2, a3, a4, a5, a7, a8, a9, a10⟩ := h
  unfold PUSH at *
  rw [a1, a2, a3, a4, a5, a8, a9, h41] at h2
  exact h2
theorem PIL_k {sg sg2 : Nat → Int32} {gm gm2 : Nat → Nat → Int32} (h63 : sg2 63 = sg 63) (h41 : sg2 41 = sg 41) (h62 : gm2 62 = gm 62) (h64 : gm2 64 = gm 64) (h : PIL sg gm) : PIL sg2 gm2 := by
  unfold PIL at *; rw [h63, h41, h62, h64]; exact h
theorem WOUT_0 {sg sg1 sg2 : Nat → Int32} {gm gm1 gm2 : Nat → Nat → Int32} {lim : Int} {r : Int32} (h : SAMEQ sg gm sg1 gm1) (h41 : sg1 41 = sg 41) (hw : WRK sg1 gm1 sg2 gm2 r) (hr : r.toInt = 0) (h1 : (gm 67 (TOPn sg)).toInt ≤ (gm1 67 (TOPn sg)).toInt) (h2 : (gm1 67 (TOPn sg)).toInt < lim) : WOUT sg gm lim sg2 gm2 r := by
  rcases hw with ⟨q, _⟩ | ⟨_, q | ⟨b, q⟩⟩
  · omega
  · exact Or.inr ⟨hr, Or.inl q⟩
  · exact Or.inr ⟨hr, Or.inr ⟨b, gm1 67, PUSH_tr h h41 q, h.2.2.2.2.2.2.2.2, h1, h2⟩⟩
theorem WRK_1 {sg sg2 : Nat → Int32} {gm gm2 : Nat → Nat → Int32} {r : Int32} (hw : WRK sg gm sg2 gm2 r) (hr : ¬ r.toInt = 0) : SAMEP sg gm sg2 gm2 := by
  rcases hw with ⟨_, q⟩ | ⟨q, _⟩
  · exact q
  · exact absurd q hr
theorem top_n {sg : Nat → Int32} {z : Int32} (h : iv 1 80 (sg 63)) (hz : z.toInt = (sg 63).toInt - 1) : z.toNatClampNeg = TOPn sg := by
  have k1 := iv_cl h (by decide)
  have k2 := h.1
  have k3 := iv_cl (a := 0) (b := z.toInt) (x := z) ⟨by omega, Int.le_refl _⟩ (by decide)
  unfold TOPn
  omega

set_option maxHeartbeats 4000000 in
set_option maxRecDepth 100000 in
theorem f_worked (l : Launch) (dC : Nat → ClassId) (dI : Nat → Nat → Nat) (h0 : Nat) (ad : Nat → Nat) (cid : Nat → ClassId) (sg : Nat → Int32) (gm : Nat → Nat → Int32) (lg : Nat → Nat → Int64) (x : Int32) (sl : Int32) (it : Int32) (hI : MI sg gm) (hvx : iv 0 79 x) (hvsl : iv 0 404 sl) (hvit : iv (-1) 5 it) (hdoc : DOC sg gm lg) (hxe : x.toNatClampNeg < (sg 24).toNatClampNeg) (hgi : GI0 sg gm lg) (hpi : PIL sg gm) : MMi l dC dI yX13_worked wm_X13_worked ({ frames := 4, cells := 0, slots := 0, locals := 103 }) h0 ad cid [.int x, .int sl, .int it] sg gm lg (fun r v => ∃ (sg2 : Nat → Int32) (gm2 : Nat → Nat → Int32) (lg2 : Nat → Nat → Int64), v = (sg2, gm2, lg2) ∧ MI sg2 gm2 ∧ KS [51, 52, 63, 74] sg sg2 ∧ KS [62, 64, 65, 66, 67, 68, 69, 70, 71, 72, 73] gm gm2 ∧ KS [] lg lg2 ∧ (iv 0 1 r) ∧ (GI0 sg2 gm2 lg2) ∧ (WRK sg gm sg2 gm2 r)) := by
  intro sz
  refine Met.ofW (cc := cX13_worked) (maxL := 6) (ret := (some .boolean)) (by decide) rfl ?_
  intro p e s m args below meth c s₁ B hml hv
  obtain ⟨rfl, hsz, hP, hK, hD0⟩ := hv
  have hx := B.exec
  have hb := B.bytes
  have hr := B.returns
  have hts := atoms_spec (ws := wm_X13_worked) B.pre
  have htb := fun (w : Cond) (h : w ∈ tb) => hts w (List.mem_cons_of_mem _ h)
  have hown : s.vm.findClass RX13 = some m.cls := findClass_of_methodNamed B.named
  have hlocks := B.notSynchronized
  subst hsz
  have hD := hD0.self (sz := s.heap.size)
  generalize hAe : va_A (mW h0 ad cid sg gm lg) s.heap.size = A at hD ⊢
  have hA : ∀ q : Nat, s.heap.size ≤ q → A q := fun q h => by rw [← hAe]; exact Or.inr h
  have hS : va_S A s.heap s.heap [] := va_S.rf
  have hl := lv_entry ([.ref h0, .int x, .int sl, .int it]) (n := 6) (Nat.le_of_ble_eq_true rfl)
  rw [lg_entry_eq]
  generalize (lg_sl ([.ref h0, .int x, .int sl, .int it]) ++ List.replicate (6 - (lg_sl ([.ref h0, .int x, .int sl, .int it])).length) Slot.unset).toArray = ls at hl ⊢
  have hl : lv_has ls 6 [(0, .ref h0), (1, .int x), (2, .int sl), (3, .int it)] := hl
  have hj175 : ∀ (sg_j175 : Nat → Int32) (gm_j175 : Nat → Nat → Int32) (x4_175 : Int32) (_ : iv 0 1 x4_175) (_ : iv 0 79 x) (_ : iv 0 404 sl) (_ : iv (-1) 5 it) (_ : KS [51, 52, 63, 74] sg sg_j175) (_ : KS [62, 64, 65, 66, 67, 68, 69, 70, 71, 72, 73] gm gm_j175) (_ : MI sg_j175 gm_j175) (_ : SAMEP sg gm sg_j175 gm_j175) (_ : GI0 sg_j175 gm_j175 lg) (H : Heap) (locs : List Loc) (ls : Array Slot), va_P (dC, dI) vwCl (mW h0 ad cid sg_j175 gm_j175 lg) H → va_D A (mW h0 ad cid sg_j175 gm_j175 lg) → va_S A s.heap H locs → lv_has ls 6 [(4, .int x4_175), (0, .ref h0), (1, .int x), (2, .int sl), (3, .int it)] → W p l e (headSpec wm_X13_worked ({ frames := 4, cells := 0, slots := 0, locals := 103 })).room s m ([.ref h0, .int x, .int sl, .int it] : List Value).toArray below meth c H locs 0 0 (MQ below (va_Qi (fun r v => ∃ (sg2 : Nat → Int32) (gm2 : Nat → Nat → Int32) (lg2 : Nat → Nat → Int64), v = (sg2, gm2, lg2) ∧ MI sg2 gm2 ∧ KS [51, 52, 63, 74] sg sg2 ∧ KS [62, 64, 65, 66, 67, 68, 69, 70, 71, 72, 73] gm gm2 ∧ KS [] lg lg2 ∧ (iv 0 1 r) ∧ (GI0 sg2 gm2 lg2) ∧ (WRK sg gm sg2 gm2 r)) (MB dC dI h0 ad cid A) A) ([.ref h0, .int x, .int sl, .int it] : List Value).toArray s 0 0 A) (F0 m 175 ls []) := by
    intro sg_j175 gm_j175 x4_175 hx4_175 hsx1_175 hsx2_175 hsx3_175 hks_j175 hkg_j175 hI_j175 hsp hgi H locs ls hP hD hS hl
    refine lv_iconst (v := 1) hx hb dX13_worked_175 (by decide) ?_
    exact W.zret (v := 1) hx hb hr (iv_nb (iv_w (iv_k (by decide) : iv 1 1 1) (by decide))) (fun t ht hW => ⟨⟨1, (sg_j175, gm_j175, lg), rfl, ⟨sg_j175, gm_j175, lg, rfl, hI_j175, (KS_tr (L := [51, 52, 63, 74]) KS_rf hks_j175 (by decide)), (KS_tr (L := [62, 64, 65, 66, 67, 68, 69, 70, 71, 72, 73]) KS_rf hkg_j175 (by decide)), KS_rf, (iv_w (iv_k (by decide) : iv 1 1 1) (by decide)), (hgi), (Or.inl ⟨rfl, hsp⟩)⟩, by rw [ht]; exact hP, va_K.moved hW.alike hK, hD⟩, hS.F ht⟩) hS.2.2 dX13_worked_176
  have hj151 : ∀ (x4_151 : Int32) (y0_151 : Int32) (_ : iv 0 1 x4_151) (_ : iv 0 79 x) (_ : iv 0 404 sl) (_ : iv (-1) 5 it) (_ : iv (-1) 79 y0_151) (_ : y0_151.toInt < (sg 41).toInt) (H : Heap) (locs : List Loc) (ls : Array Slot), va_P (dC, dI) vwCl (mW h0 ad cid sg gm lg) H → va_D A (mW h0 ad cid sg gm lg) → va_S A s.heap H locs → lv_has ls 6 [(4, .int x4_151), (0, .ref h0), (1, .int x), (2, .int sl), (3, .int it)] → W p l e (headSpec wm_X13_worked ({ frames := 4, cells := 0, slots := 0, locals := 103 })).room s m ([.ref h0, .int x, .int sl, .int it] : List Value).toArray below meth c H locs 0 0 (MQ below (va_Qi (fun r v => ∃ (sg2 : Nat → Int32) (gm2 : Nat → Nat → Int32) (lg2 : Nat → Nat → Int64), v = (sg2, gm2, lg2) ∧ MI sg2 gm2 ∧ KS [51, 52, 63, 74] sg sg2 ∧ KS [62, 64, 65, 66, 67, 68, 69, 70, 71, 72, 73] gm gm2 ∧ KS [] lg lg2 ∧ (iv 0 1 r) ∧ (GI0 sg2 gm2 lg2) ∧ (WRK sg gm sg2 gm2 r)) (MB dC dI h0 ad cid A) A) ([.ref h0, .int x, .int sl, .int it] : List Value).toArray s 0 0 A) (F0 m 151 ls [.int y0_151]) := by
    intro x4_151 y0_151 hx4_151 hsx1_151 hsx2_151 hsx3_151 hy0_151 hb9 H locs ls hP hD hS hl
    refine lv_istore (lv' := [(5, .int y0_151), (4, .int x4_151), (0, .ref h0), (1, .int x), (2, .int sl), (3, .int it)]) hx hb dX13_worked_151 hl (by decide) rfl (fun ls hl => ?_)
    refine lv_aload_n hx hb dX13_worked_153 rfl (lv_at hl 2 rfl) ?_
    refine lv_iload hx hb dX13_worked_154 (lv_at hl 0 rfl) ?_
    refine mr_calli (rest := []) ⟨hx, hb, hml, hown, htb⟩ (f_gets l dC dI h0 ad cid sg gm lg y0_151 hI hy0_151 hb9 hgi hpi) (cwV 1 htb (gd_V kw_1161 kw_1162 kw_1163 kw_5 kw_1604) rfl rfl rfl (by decide +kernel) ⟨Nat.le_of_ble_eq_true rfl, Nat.le_of_ble_eq_true rfl⟩) rfl hl.1 rfl (Nat.le_of_ble_eq_true rfl) dX13_worked_156 ⟨Nat.zero_le _, Nat.zero_le _⟩ hK hP hD hS hA (fun r_1 u_2 H locs hw hP hD hS => ?_)
    obtain ⟨sgv_3, gmv_3, lgv_3, rfl, hIv_3, ksv_3, kgv_3, klv_3, hr_1, fGI_r_1, fGt_r_1⟩ := hw
    obtain rfl := KS_nil klv_3
    have hP : va_P (dC, dI) vwCl (mW h0 ad cid sgv_3 gmv_3 lg) H := hP
    have hD : va_D A (mW h0 ad cid sgv_3 gmv_3 lg) := hD
    refine lv_if_ne (tgt := 164) hx hb dX13_worked_159 (by decide) (fun c_4 => ?_) (fun c_4 => ?_)
    · have h_5 : iv 1 1 r_1 := iv_neL c_4 hr_1 (by decide)
      refine lv_aload_n hx hb dX13_worked_164 rfl (lv_at hl 2 rfl) ?_
      obtain ⟨hg0, hg1⟩ : 0 ≤ (sgv_3 74).toInt ∧ SAMEP sg gm sgv_3 gmv_3 := by { rcases fGt_r_1 with ⟨_, q9, q8⟩ | ⟨q9, _⟩; exact ⟨q9, q8⟩; exact absurd (Int32.toInt_inj.mp q9) c_4 }
      have h165 : iv 0 59 (sgv_3 74) := ⟨hg0, (show iv (-1) 59 (sgv_3 74) from MI_s hIv_3 74).2⟩
      refine lv_iload_n hx hb dX13_worked_165 rfl (lv_at hl 4 rfl) ?_
      refine lv_iload_n hx hb dX13_worked_166 rfl (lv_at hl 5 rfl) ?_
      refine lv_iconst (v := 1) hx hb dX13_worked_167 (by decide) ?_
      refine lv_aload_n hx hb dX13_worked_168 rfl (lv_at hl 2 rfl) ?_
      refine mr_get (v := .int (sgv_3 74)) hx hb htb inX13 hown hK hP 74 (by decide) (htb _ kw_1164) rfl dX13_worked_169 ?_
      refine mr_callv (rest := []) ⟨hx, hb, hml, hown, htb⟩ (f_keep l dC dI h0 ad cid sgv_3 gmv_3 lg sl it 1 (sgv_3 74) hIv_3 hsx2_151 hsx3_151 (iv_w (iv_k (by decide) : iv 1 1 1) (by decide)) (iv_w h165 (by decide)) (fGI_r_1.1) (vok_1 (h165).2)) (cwV 4 htb (gd_V kw_1183 kw_1184 kw_1185 kw_5 kw_1611) rfl rfl rfl (by decide +kernel) ⟨Nat.le_of_ble_eq_true rfl, Nat.le_of_ble_eq_true rfl⟩) rfl hl.1 rfl (Nat.le_of_ble_eq_true rfl) dX13_worked_172 ⟨Nat.zero_le _, Nat.zero_le _⟩ hK hP hD hS hA (fun u_7 H locs hw hP hD hS => ?_)
      obtain ⟨sgv_8, gmv_8, lgv_8, rfl, hIv_8, ksv_8, kgv_8, klv_8, fV_r_6⟩ := hw
      obtain rfl := KS_nil ksv_8
      obtain rfl := KS_nil klv_8
      have hP : va_P (dC, dI) vwCl (mW h0 ad cid sgv_3 gmv_8 lg) H := hP
      have hD : va_D A (mW h0 ad cid sgv_3 gmv_8 lg) := hD
      exact hj175 sgv_3 gmv_8 x4_151 hx4_151 hsx1_151 hsx2_151 hsx3_151 (KS_tr (L := [51, 52, 63, 74]) KS_rf ksv_3 (by decide)) (KS_tr (L := [62, 64, 65, 66, 67, 68, 69, 70, 71, 72, 73]) (KS_tr (L := [62, 64, 65, 66, 67, 68, 69, 70, 71, 72, 73]) KS_rf kgv_3 (by decide)) kgv_8 (by decide)) hIv_8 (SAMEP_tr hg1 ⟨((show KS [] sgv_3 sgv_3 from KS_rf) 63 (by decide)), ((show KS [70, 71, 72, 73] gmv_3 gmv_8 from (KS_tr (L := [70, 71, 72, 73]) KS_rf kgv_8 (by decide))) 62 (by decide)), ((show KS [70, 71, 72, 73] gmv_3 gmv_8 from (KS_tr (L := [70, 71, 72, 73]) KS_rf kgv_8 (by decide))) 64 (by decide)), ((show KS [70, 71, 72, 73] gmv_3 gmv_8 from (KS_tr (L := [70, 71, 72, 73]) KS_rf kgv_8 (by decide))) 65 (by decide)), ((show KS [70, 71, 72, 73] gmv_3 gmv_8 from (KS_tr (L := [70, 71, 72, 73]) KS_rf kgv_8 (by decide))) 66 (by decide)), ((show KS [70, 71, 72, 73] gmv_3 gmv_8 from (KS_tr (L := [70, 71, 72, 73]) KS_rf kgv_8 (by decide))) 67 (by decide)), ((show KS [70, 71, 72, 73] gmv_3 gmv_8 from (KS_tr (L := [70, 71, 72, 73]) KS_rf kgv_8 (by decide))) 68 (by decide)), ((show KS [70, 71, 72, 73] gmv_3 gmv_8 from (KS_tr (L := [70, 71, 72, 73]) KS_rf kgv_8 (by decide))) 69 (by decide)), ((show KS [] sgv_3 sgv_3 from KS_rf) 51 (by decide))⟩) (GI0_k fGI_r_1 (DK_of (show KS [] sgv_3 sgv_3 from KS_rf) (show KS [70, 71, 72, 73] gmv_3 gmv_8 from (KS_tr (L := [70, 71, 72, 73]) KS_rf kgv_8 (by decide))) (show KS [] lg lg from KS_rf) (by decide) (by decide) (by decide)) ((show KS [] lg lg from KS_rf) 1 (by decide)) ((show KS [70, 71, 72, 73] gmv_3 gmv_8 from (KS_tr (L := [70, 71, 72, 73]) KS_rf kgv_8 (by decide))) 60 (by decide)) ((show KS [70, 71, 72, 73] gmv_3 gmv_8 from (KS_tr (L := [70, 71, 72, 73]) KS_rf kgv_8 (by decide))) 61 (by decide)) ((show KS [70, 71, 72, 73] gmv_3 gmv_8 from (KS_tr (L := [70, 71, 72, 73]) KS_rf kgv_8 (by decide))) 62 (by decide)) (fV_r_6) ((show KS [] sgv_3 sgv_3 from KS_rf) 50 (by decide))) _ _ _ hP hD hS (lv_sub hl [1, 2, 3, 4, 5] rfl)
    · have h_9 : iv 0 0 r_1 := iv_eq c_4 hr_1 (iv_k (by decide) : iv 0 0 0) (by decide)
      refine lv_iconst (v := 0) hx hb dX13_worked_162 (by decide) ?_
      exact W.zret (v := 0) hx hb hr (iv_nb (iv_w (iv_k (by decide) : iv 0 0 0) (by decide))) (fun t ht hW => ⟨⟨0, (sgv_3, gmv_3, lg), rfl, ⟨sgv_3, gmv_3, lg, rfl, hIv_3, (KS_tr (L := [51, 52, 63, 74]) KS_rf ksv_3 (by decide)), (KS_tr (L := [62, 64, 65, 66, 67, 68, 69, 70, 71, 72, 73]) KS_rf kgv_3 (by decide)), KS_rf, (iv_w (iv_k (by decide) : iv 0 0 0) (by decide)), (fGI_r_1), (Or.inr ⟨rfl, by { rcases fGt_r_1 with ⟨q9, _⟩ | ⟨_, q9⟩; exact absurd (congrArg Int32.toInt c_4) (by rw [q9]; decide); exact q9 }⟩)⟩, by rw [ht]; exact hP, va_K.moved hW.alike hK, hD⟩, hS.F ht⟩) hS.2.2 dX13_worked_163
  have hj145 : ∀ (x4_145 : Int32) (y0_145 : Int64) (_ : iv 0 1 x4_145) (_ : iv 0 79 x) (_ : iv 0 404 sl) (_ : iv (-1) 5 it) (_ : iv 0 79 x) (H : Heap) (locs : List Loc) (ls : Array Slot), va_P (dC, dI) vwCl (mW h0 ad cid sg gm lg) H → va_D A (mW h0 ad cid sg gm lg) → va_S A s.heap H locs → lv_has ls 6 [(4, .int x4_145), (0, .ref h0), (1, .int x), (2, .int sl), (3, .int it)] → W p l e (headSpec wm_X13_worked ({ frames := 4, cells := 0, slots := 0, locals := 103 })).room s m ([.ref h0, .int x, .int sl, .int it] : List Value).toArray below meth c H locs 0 0 (MQ below (va_Qi (fun r v => ∃ (sg2 : Nat → Int32) (gm2 : Nat → Nat → Int32) (lg2 : Nat → Nat → Int64), v = (sg2, gm2, lg2) ∧ MI sg2 gm2 ∧ KS [51, 52, 63, 74] sg sg2 ∧ KS [62, 64, 65, 66, 67, 68, 69, 70, 71, 72, 73] gm gm2 ∧ KS [] lg lg2 ∧ (iv 0 1 r) ∧ (GI0 sg2 gm2 lg2) ∧ (WRK sg gm sg2 gm2 r)) (MB dC dI h0 ad cid A) A) ([.ref h0, .int x, .int sl, .int it] : List Value).toArray s 0 0 A) (F0 m 145 ls [.long y0_145, .int x, .ref h0, .ref h0]) := by
    intro x4_145 y0_145 hx4_145 hsx1_145 hsx2_145 hsx3_145 hsy1_145 H locs ls hP hD hS hl
    refine mr_calll (rest := [.ref h0]) ⟨hx, hb, hml, hown, htb⟩ (f_word l dC dI h0 ad cid sg gm lg x y0_145 hI hsy1_145) (cwV 2 htb (gd_V kw_923 kw_924 kw_925 kw_5 kw_1545) rfl rfl rfl (by decide +kernel) ⟨Nat.le_of_ble_eq_true rfl, Nat.le_of_ble_eq_true rfl⟩) rfl hl.1 rfl (Nat.le_of_ble_eq_true rfl) dX13_worked_145 ⟨Nat.zero_le _, Nat.zero_le _⟩ hK hP hD hS hA (fun r_10 u_11 H locs hw hP hD hS => ?_)
    obtain ⟨fW_r_10, rfl⟩ := hw
    have hP : va_P (dC, dI) vwCl (mW h0 ad cid sg gm lg) H := hP
    have hD : va_D A (mW h0 ad cid sg gm lg) := hD
    refine mr_calli (rest := []) ⟨hx, hb, hml, hown, htb⟩ (f_called l dC dI h0 ad cid sg gm lg r_10 hI) (cwV 1 htb (gd_V kw_1171 kw_1172 kw_1173 kw_5 kw_1607) rfl rfl rfl (by decide +kernel) ⟨Nat.le_of_ble_eq_true rfl, Nat.le_of_ble_eq_true rfl⟩) rfl hl.1 rfl (Nat.le_of_ble_eq_true rfl) dX13_worked_148 ⟨Nat.zero_le _, Nat.zero_le _⟩ hK hP hD hS hA (fun r_12 u_13 H locs hw hP hD hS => ?_)
    obtain ⟨hr_12, fLt_r_12, rfl⟩ := hw
    have hP : va_P (dC, dI) vwCl (mW h0 ad cid sg gm lg) H := hP
    have hD : va_D A (mW h0 ad cid sg gm lg) := hD
    exact hj151 x4_145 r_12 hx4_145 hsy1_145 hsx2_145 hsx3_145 hr_12 (fLt_r_12) _ _ _ hP hD hS (lv_sub hl [0, 1, 2, 3, 4] rfl)
  have hj61 : ∀ (x4_61 : Int32) (_ : iv 0 1 x4_61) (_ : iv 0 79 x) (_ : iv 0 404 sl) (_ : iv (-1) 5 it) (H : Heap) (locs : List Loc) (ls : Array Slot), va_P (dC, dI) vwCl (mW h0 ad cid sg gm lg) H → va_D A (mW h0 ad cid sg gm lg) → va_S A s.heap H locs → lv_has ls 6 [(4, .int x4_61), (0, .ref h0), (1, .int x), (2, .int sl), (3, .int it)] → W p l e (headSpec wm_X13_worked ({ frames := 4, cells := 0, slots := 0, locals := 103 })).room s m ([.ref h0, .int x, .int sl, .int it] : List Value).toArray below meth c H locs 0 0 (MQ below (va_Qi (fun r v => ∃ (sg2 : Nat → Int32) (gm2 : Nat → Nat → Int32) (lg2 : Nat → Nat → Int64), v = (sg2, gm2, lg2) ∧ MI sg2 gm2 ∧ KS [51, 52, 63, 74] sg sg2 ∧ KS [62, 64, 65, 66, 67, 68, 69, 70, 71, 72, 73] gm gm2 ∧ KS [] lg lg2 ∧ (iv 0 1 r) ∧ (GI0 sg2 gm2 lg2) ∧ (WRK sg gm sg2 gm2 r)) (MB dC dI h0 ad cid A) A) ([.ref h0, .int x, .int sl, .int it] : List Value).toArray s 0 0 A) (F0 m 61 ls []) := by
    intro x4_61 hx4_61 hsx1_61 hsx2_61 hsx3_61 H locs ls hP hD hS hl
    refine lv_aload_n hx hb dX13_worked_61 rfl (lv_at hl 1 rfl) ?_
    refine mr_get (v := .ref (ad 26)) hx hb htb inX13 hown hK hP 26 (by decide) (htb _ kw_182) rfl dX13_worked_62 ?_
    refine lv_iload_n hx hb dX13_worked_65 rfl (lv_at hl 2 rfl) ?_
    refine mr_iald hx hb hK hP 19 (k := 26) rfl rfl rfl (show vp_in x 80 from (iv_in hsx1_61 (by decide))) dX13_worked_66 ?_
    refine lv_topi (fun z_14 ez_14 => ?_)
    have hz_14 : iv 0 10 z_14 := iv_of ez_14 (MI_a hI 26 hsx1_61 (by decide))
    refine lv_bipush (v := 7) hx hb dX13_worked_67 (by decide) ?_
    refine lv_icmp_ne (tgt := 87) hx hb dX13_worked_69 (by decide) (fun c_15 => ?_) (fun c_15 => ?_)
    · have d_16 : ¬ (z_14 : Int32).toInt = 7 := lv_neT c_15 rfl
      refine lv_aload_n hx hb dX13_worked_87 rfl (lv_at hl 1 rfl) ?_
      refine mr_get (v := .ref (ad 26)) hx hb htb inX13 hown hK hP 26 (by decide) (htb _ kw_182) rfl dX13_worked_88 ?_
      refine lv_iload_n hx hb dX13_worked_91 rfl (lv_at hl 2 rfl) ?_
      refine mr_iald hx hb hK hP 19 (k := 26) rfl rfl rfl (show vp_in x 80 from (iv_in hsx1_61 (by decide))) dX13_worked_92 ?_
      refine lv_topi (fun z_17 ez_17 => ?_)
      obtain rfl : z_14 = z_17 := ez_14.trans ez_17.symm
      refine lv_bipush (v := 9) hx hb dX13_worked_93 (by decide) ?_
      refine lv_icmp_ne (tgt := 109) hx hb dX13_worked_95 (by decide) (fun c_18 => ?_) (fun c_18 => ?_)
      · have d_19 : ¬ (z_14 : Int32).toInt = 9 := lv_neT c_18 rfl
        refine lv_aload_n hx hb dX13_worked_109 rfl (lv_at hl 1 rfl) ?_
        refine mr_get (v := .ref (ad 26)) hx hb htb inX13 hown hK hP 26 (by decide) (htb _ kw_182) rfl dX13_worked_110 ?_
        refine lv_iload_n hx hb dX13_worked_113 rfl (lv_at hl 2 rfl) ?_
        refine mr_iald hx hb hK hP 19 (k := 26) rfl rfl rfl (show vp_in x 80 from (iv_in hsx1_61 (by decide))) dX13_worked_114 ?_
        refine lv_topi (fun z_20 ez_20 => ?_)
        obtain rfl : z_14 = z_20 := ez_14.trans ez_20.symm
        refine lv_iconst (v := 3) hx hb dX13_worked_115 (by decide) ?_
        refine lv_icmp_ne (tgt := 128) hx hb dX13_worked_116 (by decide) (fun c_21 => ?_) (fun c_21 => ?_)
        · have d_22 : ¬ (z_14 : Int32).toInt = 3 := lv_neT c_21 rfl
          refine lv_aload_n hx hb dX13_worked_128 rfl (lv_at hl 1 rfl) ?_
          refine lv_aload_n hx hb dX13_worked_129 rfl (lv_at hl 1 rfl) ?_
          refine lv_iload_n hx hb dX13_worked_130 rfl (lv_at hl 2 rfl) ?_
          refine lv_iload hx hb dX13_worked_131 (lv_at hl 0 rfl) ?_
          refine lv_if_eq (tgt := 142) hx hb dX13_worked_133 (by decide) (fun c_23 => ?_) (fun c_23 => ?_)
          · have h_24 : iv 0 0 x4_61 := iv_eq c_23 hx4_61 (iv_k (by decide) : iv 0 0 0) (by decide)
            refine lv_ldc2 (own := RX13) (v := 1650811246) hx hb hown (htb _ kw_136) dX13_worked_142 ?_
            exact hj145 x4_61 1650811246 (iv_w h_24 (by decide)) hsx1_61 hsx2_61 hsx3_61 hsx1_61 _ _ _ hP hD hS (lv_sub hl [0, 1, 2, 3, 4] rfl)
          · have h_25 : iv 1 1 x4_61 := iv_neL c_23 hx4_61 (by decide)
            refine lv_ldc2 (own := RX13) (v := 7497062) hx hb hown (htb _ kw_141) dX13_worked_136 ?_
            refine lv_goto (tgt := 145) hx hb dX13_worked_139 (by decide) ?_
            exact hj145 x4_61 7497062 (iv_w h_25 (by decide)) hsx1_61 hsx2_61 hsx3_61 hsx1_61 _ _ _ hP hD hS (lv_sub hl [0, 1, 2, 3, 4] rfl)
        · have h_26 : iv 3 3 z_14 := iv_eq c_21 hz_14 (iv_k (by decide) : iv 3 3 3) (by decide)
          refine lv_aload_n hx hb dX13_worked_119 rfl (lv_at hl 1 rfl) ?_
          refine mr_get (v := .ref (ad 43)) hx hb htb inX13 hown hK hP 43 (by decide) (htb _ kw_197) rfl dX13_worked_120 ?_
          refine lv_iload_n hx hb dX13_worked_123 rfl (lv_at hl 2 rfl) ?_
          refine mr_iald hx hb hK hP 34 (k := 43) rfl rfl rfl (show vp_in x 80 from (iv_in hsx1_61 (by decide))) dX13_worked_124 ?_
          refine lv_topi (fun z_27 ez_27 => ?_)
          have hz_27 : iv 0 79 z_27 := iv_of ez_27 (MI_a hI 43 hsx1_61 (by decide))
          refine lv_goto (tgt := 151) hx hb dX13_worked_125 (by decide) ?_
          exact hj151 x4_61 z_27 hx4_61 hsx1_61 hsx2_61 hsx3_61 (iv_w hz_27 (by decide)) (by rw [ez_27]; exact hdoc.1.2.2.1.1 _ hxe (by rw [← ez_14]; exact congrArg Int32.toInt c_21)) _ _ _ hP hD hS (lv_sub hl [0, 1, 2, 3, 4] rfl)
      · have h_28 : iv 9 9 z_14 := iv_eq c_18 hz_14 (iv_k (by decide) : iv 9 9 9) (by decide)
        refine lv_aload_n hx hb dX13_worked_98 rfl (lv_at hl 1 rfl) ?_
        refine lv_iload_n hx hb dX13_worked_99 rfl (lv_at hl 3 rfl) ?_
        refine lv_iload_n hx hb dX13_worked_100 rfl (lv_at hl 4 rfl) ?_
        refine lv_iconst (v := 2) hx hb dX13_worked_101 (by decide) ?_
        refine lv_iconst (v := 0) hx hb dX13_worked_102 (by decide) ?_
        refine mr_callv (rest := []) ⟨hx, hb, hml, hown, htb⟩ (f_keep l dC dI h0 ad cid sg gm lg sl it 2 0 hI hsx2_61 hsx3_61 (iv_w (iv_k (by decide) : iv 2 2 2) (by decide)) (iv_w (iv_k (by decide) : iv 0 0 0) (by decide)) hgi.1 vok_2) (cwV 4 htb (gd_V kw_1183 kw_1184 kw_1185 kw_5 kw_1611) rfl rfl rfl (by decide +kernel) ⟨Nat.le_of_ble_eq_true rfl, Nat.le_of_ble_eq_true rfl⟩) rfl hl.1 rfl (Nat.le_of_ble_eq_true rfl) dX13_worked_103 ⟨Nat.zero_le _, Nat.zero_le _⟩ hK hP hD hS hA (fun u_30 H locs hw hP hD hS => ?_)
        obtain ⟨sgv_31, gmv_31, lgv_31, rfl, hIv_31, ksv_31, kgv_31, klv_31, fV_r_29⟩ := hw
        obtain rfl := KS_nil ksv_31
        obtain rfl := KS_nil klv_31
        have hP : va_P (dC, dI) vwCl (mW h0 ad cid sg gmv_31 lg) H := hP
        have hD : va_D A (mW h0 ad cid sg gmv_31 lg) := hD
        refine lv_goto (tgt := 175) hx hb dX13_worked_106 (by decide) ?_
        exact hj175 sg gmv_31 x4_61 hx4_61 hsx1_61 hsx2_61 hsx3_61 KS_rf (KS_tr (L := [62, 64, 65, 66, 67, 68, 69, 70, 71, 72, 73]) KS_rf kgv_31 (by decide)) hIv_31 (⟨((show KS [] sg sg from KS_rf) 63 (by decide)), ((show KS [70, 71, 72, 73] gm gmv_31 from (KS_tr (L := [70, 71, 72, 73]) KS_rf kgv_31 (by decide))) 62 (by decide)), ((show KS [70, 71, 72, 73] gm gmv_31 from (KS_tr (L := [70, 71, 72, 73]) KS_rf kgv_31 (by decide))) 64 (by decide)), ((show KS [70, 71, 72, 73] gm gmv_31 from (KS_tr (L := [70, 71, 72, 73]) KS_rf kgv_31 (by decide))) 65 (by decide)), ((show KS [70, 71, 72, 73] gm gmv_31 from (KS_tr (L := [70, 71, 72, 73]) KS_rf kgv_31 (by decide))) 66 (by decide)), ((show KS [70, 71, 72, 73] gm gmv_31 from (KS_tr (L := [70, 71, 72, 73]) KS_rf kgv_31 (by decide))) 67 (by decide)), ((show KS [70, 71, 72, 73] gm gmv_31 from (KS_tr (L := [70, 71, 72, 73]) KS_rf kgv_31 (by decide))) 68 (by decide)), ((show KS [70, 71, 72, 73] gm gmv_31 from (KS_tr (L := [70, 71, 72, 73]) KS_rf kgv_31 (by decide))) 69 (by decide)), ((show KS [] sg sg from KS_rf) 51 (by decide))⟩) (GI0_k hgi (DK_of (show KS [] sg sg from KS_rf) (show KS [70, 71, 72, 73] gm gmv_31 from (KS_tr (L := [70, 71, 72, 73]) KS_rf kgv_31 (by decide))) (show KS [] lg lg from KS_rf) (by decide) (by decide) (by decide)) ((show KS [] lg lg from KS_rf) 1 (by decide)) ((show KS [70, 71, 72, 73] gm gmv_31 from (KS_tr (L := [70, 71, 72, 73]) KS_rf kgv_31 (by decide))) 60 (by decide)) ((show KS [70, 71, 72, 73] gm gmv_31 from (KS_tr (L := [70, 71, 72, 73]) KS_rf kgv_31 (by decide))) 61 (by decide)) ((show KS [70, 71, 72, 73] gm gmv_31 from (KS_tr (L := [70, 71, 72, 73]) KS_rf kgv_31 (by decide))) 62 (by decide)) (fV_r_29) ((show KS [] sg sg from KS_rf) 50 (by decide))) _ _ _ hP hD hS (lv_sub hl [0, 1, 2, 3, 4] rfl)
    · have h_32 : iv 7 7 z_14 := iv_eq c_15 hz_14 (iv_k (by decide) : iv 7 7 7) (by decide)
      refine lv_aload_n hx hb dX13_worked_72 rfl (lv_at hl 1 rfl) ?_
      refine lv_iload_n hx hb dX13_worked_73 rfl (lv_at hl 3 rfl) ?_
      refine lv_iload_n hx hb dX13_worked_74 rfl (lv_at hl 4 rfl) ?_
      refine lv_iconst (v := 0) hx hb dX13_worked_75 (by decide) ?_
      refine lv_sipush (v := 1000) hx hb dX13_worked_76 (by decide) ?_
      refine lv_iload_n hx hb dX13_worked_79 rfl (lv_at hl 2 rfl) ?_
      refine lv_iadd hx hb dX13_worked_80 ?_
      refine lv_topi (fun z_33 ez_33 => ?_)
      have hz_33 : iv 1000 1079 z_33 := iv_of ez_33 (iv_add (iv_k (by decide) : iv 1000 1000 1000) hsx1_61 (by decide))
      have tz_33 : z_33.toInt = 1000 + (x : Int32).toInt := by rw [ez_33]; exact iv_addE (iv_k (by decide) : iv 1000 1000 1000) hsx1_61 (by decide)
      refine mr_callv (rest := []) ⟨hx, hb, hml, hown, htb⟩ (f_keep l dC dI h0 ad cid sg gm lg sl it 0 z_33 hI hsx2_61 hsx3_61 (iv_w (iv_k (by decide) : iv 0 0 0) (by decide)) (iv_w hz_33 (by decide)) hgi.1 (vok_0 (Or.inr (by have := (hz_33).1; omega)))) (cwV 4 htb (gd_V kw_1183 kw_1184 kw_1185 kw_5 kw_1611) rfl rfl rfl (by decide +kernel) ⟨Nat.le_of_ble_eq_true rfl, Nat.le_of_ble_eq_true rfl⟩) rfl hl.1 rfl (Nat.le_of_ble_eq_true rfl) dX13_worked_81 ⟨Nat.zero_le _, Nat.zero_le _⟩ hK hP hD hS hA (fun u_35 H locs hw hP hD hS => ?_)
      obtain ⟨sgv_36, gmv_36, lgv_36, rfl, hIv_36, ksv_36, kgv_36, klv_36, fV_r_34⟩ := hw
      obtain rfl := KS_nil ksv_36
      obtain rfl := KS_nil klv_36
      have hP : va_P (dC, dI) vwCl (mW h0 ad cid sg gmv_36 lg) H := hP
      have hD : va_D A (mW h0 ad cid sg gmv_36 lg) := hD
      refine lv_goto (tgt := 175) hx hb dX13_worked_84 (by decide) ?_
      exact hj175 sg gmv_36 x4_61 hx4_61 hsx1_61 hsx2_61 hsx3_61 KS_rf (KS_tr (L := [62, 64, 65, 66, 67, 68, 69, 70, 71, 72, 73]) KS_rf kgv_36 (by decide)) hIv_36 (⟨((show KS [] sg sg from KS_rf) 63 (by decide)), ((show KS [70, 71, 72, 73] gm gmv_36 from (KS_tr (L := [70, 71, 72, 73]) KS_rf kgv_36 (by decide))) 62 (by decide)), ((show KS [70, 71, 72, 73] gm gmv_36 from (KS_tr (L := [70, 71, 72, 73]) KS_rf kgv_36 (by decide))) 64 (by decide)), ((show KS [70, 71, 72, 73] gm gmv_36 from (KS_tr (L := [70, 71, 72, 73]) KS_rf kgv_36 (by decide))) 65 (by decide)), ((show KS [70, 71, 72, 73] gm gmv_36 from (KS_tr (L := [70, 71, 72, 73]) KS_rf kgv_36 (by decide))) 66 (by decide)), ((show KS [70, 71, 72, 73] gm gmv_36 from (KS_tr (L := [70, 71, 72, 73]) KS_rf kgv_36 (by decide))) 67 (by decide)), ((show KS [70, 71, 72, 73] gm gmv_36 from (KS_tr (L := [70, 71, 72, 73]) KS_rf kgv_36 (by decide))) 68 (by decide)), ((show KS [70, 71, 72, 73] gm gmv_36 from (KS_tr (L := [70, 71, 72, 73]) KS_rf kgv_36 (by decide))) 69 (by decide)), ((show KS [] sg sg from KS_rf) 51 (by decide))⟩) (GI0_k hgi (DK_of (show KS [] sg sg from KS_rf) (show KS [70, 71, 72, 73] gm gmv_36 from (KS_tr (L := [70, 71, 72, 73]) KS_rf kgv_36 (by decide))) (show KS [] lg lg from KS_rf) (by decide) (by decide) (by decide)) ((show KS [] lg lg from KS_rf) 1 (by decide)) ((show KS [70, 71, 72, 73] gm gmv_36 from (KS_tr (L := [70, 71, 72, 73]) KS_rf kgv_36 (by decide))) 60 (by decide)) ((show KS [70, 71, 72, 73] gm gmv_36 from (KS_tr (L := [70, 71, 72, 73]) KS_rf kgv_36 (by decide))) 61 (by decide)) ((show KS [70, 71, 72, 73] gm gmv_36 from (KS_tr (L := [70, 71, 72, 73]) KS_rf kgv_36 (by decide))) 62 (by decide)) (fV_r_34) ((show KS [] sg sg from KS_rf) 50 (by decide))) _ _ _ hP hD hS (lv_sub hl [0, 1, 2, 3, 4] rfl)
  have hj25 : ∀ (y0_25 : Int32) (_ : iv 0 79 x) (_ : iv 0 404 sl) (_ : iv (-1) 5 it) (_ : iv 0 1 y0_25) (H : Heap) (locs : List Loc) (ls : Array Slot), va_P (dC, dI) vwCl (mW h0 ad cid sg gm lg) H → va_D A (mW h0 ad cid sg gm lg) → va_S A s.heap H locs → lv_has ls 6 [(0, .ref h0), (1, .int x), (2, .int sl), (3, .int it)] → W p l e (headSpec wm_X13_worked ({ frames := 4, cells := 0, slots := 0, locals := 103 })).room s m ([.ref h0, .int x, .int sl, .int it] : List Value).toArray below meth c H locs 0 0 (MQ below (va_Qi (fun r v => ∃ (sg2 : Nat → Int32) (gm2 : Nat → Nat → Int32) (lg2 : Nat → Nat → Int64), v = (sg2, gm2, lg2) ∧ MI sg2 gm2 ∧ KS [51, 52, 63, 74] sg sg2 ∧ KS [62, 64, 65, 66, 67, 68, 69, 70, 71, 72, 73] gm gm2 ∧ KS [] lg lg2 ∧ (iv 0 1 r) ∧ (GI0 sg2 gm2 lg2) ∧ (WRK sg gm sg2 gm2 r)) (MB dC dI h0 ad cid A) A) ([.ref h0, .int x, .int sl, .int it] : List Value).toArray s 0 0 A) (F0 m 25 ls [.int y0_25]) := by
    intro y0_25 hsx1_25 hsx2_25 hsx3_25 hy0_25 H locs ls hP hD hS hl
    refine lv_istore (lv' := [(4, .int y0_25), (0, .ref h0), (1, .int x), (2, .int sl), (3, .int it)]) hx hb dX13_worked_25 hl (by decide) rfl (fun ls hl => ?_)
    refine lv_iload hx hb dX13_worked_27 (lv_at hl 0 rfl) ?_
    refine lv_if_eq (tgt := 61) hx hb dX13_worked_29 (by decide) (fun c_37 => ?_) (fun c_37 => ?_)
    · have h_38 : iv 0 0 y0_25 := iv_eq c_37 hy0_25 (iv_k (by decide) : iv 0 0 0) (by decide)
      exact hj61 y0_25 (iv_w h_38 (by decide)) hsx1_25 hsx2_25 hsx3_25 _ _ _ hP hD hS (lv_sub hl [0, 1, 2, 3, 4] rfl)
    · have h_39 : iv 1 1 y0_25 := iv_neL c_37 hy0_25 (by decide)
      refine lv_aload_n hx hb dX13_worked_32 rfl (lv_at hl 1 rfl) ?_
      refine lv_iload_n hx hb dX13_worked_33 rfl (lv_at hl 2 rfl) ?_
      refine lv_ldc2 (own := RX13) (v := 508440638821) hx hb hown (htb _ kw_140) dX13_worked_34 ?_
      refine mr_calli (rest := []) ⟨hx, hb, hml, hown, htb⟩ (f_has l dC dI h0 ad cid sg gm lg x 508440638821 hI hsx1_25) (cwV 2 htb (gd_V kw_916 kw_917 kw_918 kw_5 kw_1543) rfl rfl rfl (by decide +kernel) ⟨Nat.le_of_ble_eq_true rfl, Nat.le_of_ble_eq_true rfl⟩) rfl hl.1 rfl (Nat.le_of_ble_eq_true rfl) dX13_worked_37 ⟨Nat.zero_le _, Nat.zero_le _⟩ hK hP hD hS hA (fun r_40 u_41 H locs hw hP hD hS => ?_)
      obtain ⟨hr_40, fH_r_40, rfl⟩ := hw
      have hP : va_P (dC, dI) vwCl (mW h0 ad cid sg gm lg) H := hP
      have hD : va_D A (mW h0 ad cid sg gm lg) := hD
      refine lv_if_eq (tgt := 61) hx hb dX13_worked_40 (by decide) (fun c_42 => ?_) (fun c_42 => ?_)
      · have h_43 : iv 0 0 r_40 := iv_eq c_42 hr_40 (iv_k (by decide) : iv 0 0 0) (by decide)
        exact hj61 y0_25 (iv_w h_39 (by decide)) hsx1_25 hsx2_25 hsx3_25 _ _ _ hP hD hS (lv_sub hl [0, 1, 2, 3, 4] rfl)
      · have h_44 : iv 1 1 r_40 := iv_neL c_42 hr_40 (by decide)
        refine lv_aload_n hx hb dX13_worked_43 rfl (lv_at hl 1 rfl) ?_
        refine lv_iload_n hx hb dX13_worked_44 rfl (lv_at hl 3 rfl) ?_
        refine lv_iload_n hx hb dX13_worked_45 rfl (lv_at hl 4 rfl) ?_
        refine lv_iconst (v := 0) hx hb dX13_worked_46 (by decide) ?_
        refine lv_aload_n hx hb dX13_worked_47 rfl (lv_at hl 1 rfl) ?_
        refine lv_iload_n hx hb dX13_worked_48 rfl (lv_at hl 2 rfl) ?_
        refine lv_ldc2 (own := RX13) (v := 508440638821) hx hb hown (htb _ kw_140) dX13_worked_49 ?_
        refine mr_calli (rest := [.int 0, .int it, .int sl, .ref h0]) ⟨hx, hb, hml, hown, htb⟩ (f_find l dC dI h0 ad cid sg gm lg x 508440638821 hI hsx1_25) (cwV 2 htb (gd_V kw_862 kw_863 kw_864 kw_5 kw_1531) rfl rfl rfl (by decide +kernel) ⟨Nat.le_of_ble_eq_true rfl, Nat.le_of_ble_eq_true rfl⟩) rfl hl.1 rfl (Nat.le_of_ble_eq_true rfl) dX13_worked_52 ⟨Nat.zero_le _, Nat.zero_le _⟩ hK hP hD hS hA (fun r_45 u_46 H locs hw hP hD hS => ?_)
        obtain ⟨hr_45, fF_r_45, rfl⟩ := hw
        have hP : va_P (dC, dI) vwCl (mW h0 ad cid sg gm lg) H := hP
        have hD : va_D A (mW h0 ad cid sg gm lg) := hD
        have h55 : iv 0 959 r_45 := iv_neL (b := 959) (by rw [fF_r_45]; exact has_find (by rw [← fH_r_40]; exact c_42)) hr_45 (by decide)
        refine mr_callv (rest := []) ⟨hx, hb, hml, hown, htb⟩ (f_keep l dC dI h0 ad cid sg gm lg sl it 0 r_45 hI hsx2_25 hsx3_25 (iv_w (iv_k (by decide) : iv 0 0 0) (by decide)) (iv_w h55 (by decide)) hgi.1 (vok_0 (Or.inl (h55).2))) (cwV 4 htb (gd_V kw_1183 kw_1184 kw_1185 kw_5 kw_1611) rfl rfl rfl (by decide +kernel) ⟨Nat.le_of_ble_eq_true rfl, Nat.le_of_ble_eq_true rfl⟩) rfl hl.1 rfl (Nat.le_of_ble_eq_true rfl) dX13_worked_55 ⟨Nat.zero_le _, Nat.zero_le _⟩ hK hP hD hS hA (fun u_48 H locs hw hP hD hS => ?_)
        obtain ⟨sgv_49, gmv_49, lgv_49, rfl, hIv_49, ksv_49, kgv_49, klv_49, fV_r_47⟩ := hw
        obtain rfl := KS_nil ksv_49
        obtain rfl := KS_nil klv_49
        have hP : va_P (dC, dI) vwCl (mW h0 ad cid sg gmv_49 lg) H := hP
        have hD : va_D A (mW h0 ad cid sg gmv_49 lg) := hD
        refine lv_goto (tgt := 175) hx hb dX13_worked_58 (by decide) ?_
        exact hj175 sg gmv_49 y0_25 (iv_w h_39 (by decide)) hsx1_25 hsx2_25 hsx3_25 KS_rf (KS_tr (L := [62, 64, 65, 66, 67, 68, 69, 70, 71, 72, 73]) KS_rf kgv_49 (by decide)) hIv_49 (⟨((show KS [] sg sg from KS_rf) 63 (by decide)), ((show KS [70, 71, 72, 73] gm gmv_49 from (KS_tr (L := [70, 71, 72, 73]) KS_rf kgv_49 (by decide))) 62 (by decide)), ((show KS [70, 71, 72, 73] gm gmv_49 from (KS_tr (L := [70, 71, 72, 73]) KS_rf kgv_49 (by decide))) 64 (by decide)), ((show KS [70, 71, 72, 73] gm gmv_49 from (KS_tr (L := [70, 71, 72, 73]) KS_rf kgv_49 (by decide))) 65 (by decide)), ((show KS [70, 71, 72, 73] gm gmv_49 from (KS_tr (L := [70, 71, 72, 73]) KS_rf kgv_49 (by decide))) 66 (by decide)), ((show KS [70, 71, 72, 73] gm gmv_49 from (KS_tr (L := [70, 71, 72, 73]) KS_rf kgv_49 (by decide))) 67 (by decide)), ((show KS [70, 71, 72, 73] gm gmv_49 from (KS_tr (L := [70, 71, 72, 73]) KS_rf kgv_49 (by decide))) 68 (by decide)), ((show KS [70, 71, 72, 73] gm gmv_49 from (KS_tr (L := [70, 71, 72, 73]) KS_rf kgv_49 (by decide))) 69 (by decide)), ((show KS [] sg sg from KS_rf) 51 (by decide))⟩) (GI0_k hgi (DK_of (show KS [] sg sg from KS_rf) (show KS [70, 71, 72, 73] gm gmv_49 from (KS_tr (L := [70, 71, 72, 73]) KS_rf kgv_49 (by decide))) (show KS [] lg lg from KS_rf) (by decide) (by decide) (by decide)) ((show KS [] lg lg from KS_rf) 1 (by decide)) ((show KS [70, 71, 72, 73] gm gmv_49 from (KS_tr (L := [70, 71, 72, 73]) KS_rf kgv_49 (by decide))) 60 (by decide)) ((show KS [70, 71, 72, 73] gm gmv_49 from (KS_tr (L := [70, 71, 72, 73]) KS_rf kgv_49 (by decide))) 61 (by decide)) ((show KS [70, 71, 72, 73] gm gmv_49 from (KS_tr (L := [70, 71, 72, 73]) KS_rf kgv_49 (by decide))) 62 (by decide)) (fV_r_47) ((show KS [] sg sg from KS_rf) 50 (by decide))) _ _ _ hP hD hS (lv_sub hl [0, 1, 2, 3, 4] rfl)
  have hj20 : ∀ (_ : iv 0 79 x) (_ : iv 0 404 sl) (_ : iv (-1) 5 it) (H : Heap) (locs : List Loc) (ls : Array Slot), va_P (dC, dI) vwCl (mW h0 ad cid sg gm lg) H → va_D A (mW h0 ad cid sg gm lg) → va_S A s.heap H locs → lv_has ls 6 [(0, .ref h0), (1, .int x), (2, .int sl), (3, .int it)] → W p l e (headSpec wm_X13_worked ({ frames := 4, cells := 0, slots := 0, locals := 103 })).room s m ([.ref h0, .int x, .int sl, .int it] : List Value).toArray below meth c H locs 0 0 (MQ below (va_Qi (fun r v => ∃ (sg2 : Nat → Int32) (gm2 : Nat → Nat → Int32) (lg2 : Nat → Nat → Int64), v = (sg2, gm2, lg2) ∧ MI sg2 gm2 ∧ KS [51, 52, 63, 74] sg sg2 ∧ KS [62, 64, 65, 66, 67, 68, 69, 70, 71, 72, 73] gm gm2 ∧ KS [] lg lg2 ∧ (iv 0 1 r) ∧ (GI0 sg2 gm2 lg2) ∧ (WRK sg gm sg2 gm2 r)) (MB dC dI h0 ad cid A) A) ([.ref h0, .int x, .int sl, .int it] : List Value).toArray s 0 0 A) (F0 m 20 ls []) := by
    intro  hsx1_20 hsx2_20 hsx3_20 H locs ls hP hD hS hl
    refine lv_iconst (v := 1) hx hb dX13_worked_20 (by decide) ?_
    refine lv_goto (tgt := 25) hx hb dX13_worked_21 (by decide) ?_
    exact hj25 1 hsx1_20 hsx2_20 hsx3_20 (iv_w (iv_k (by decide) : iv 1 1 1) (by decide)) _ _ _ hP hD hS (lv_sub hl [0, 1, 2, 3] rfl)
  refine lv_aload_n hx hb dX13_worked_0 rfl (lv_at hl 0 rfl) ?_
  refine mr_get (v := .ref (ad 26)) hx hb htb inX13 hown hK hP 26 (by decide) (htb _ kw_182) rfl dX13_worked_1 ?_
  refine lv_iload_n hx hb dX13_worked_4 rfl (lv_at hl 1 rfl) ?_
  refine mr_iald hx hb hK hP 19 (k := 26) rfl rfl rfl (show vp_in x 80 from (iv_in hvx (by decide))) dX13_worked_5 ?_
  refine lv_topi (fun z_50 ez_50 => ?_)
  have hz_50 : iv 0 10 z_50 := iv_of ez_50 (MI_a hI 26 hvx (by decide))
  refine lv_iconst (v := 4) hx hb dX13_worked_6 (by decide) ?_
  refine lv_icmp_eq (tgt := 20) hx hb dX13_worked_7 (by decide) (fun c_51 => ?_) (fun c_51 => ?_)
  · have h_52 : iv 4 4 z_50 := iv_eq c_51 hz_50 (iv_k (by decide) : iv 4 4 4) (by decide)
    exact hj20 hvx hvsl hvit _ _ _ hP hD hS (lv_sub hl [0, 1, 2, 3] rfl)
  · have d_53 : ¬ (z_50 : Int32).toInt = 4 := lv_neT c_51 rfl
    refine lv_aload_n hx hb dX13_worked_10 rfl (lv_at hl 0 rfl) ?_
    refine mr_get (v := .ref (ad 26)) hx hb htb inX13 hown hK hP 26 (by decide) (htb _ kw_182) rfl dX13_worked_11 ?_
    refine lv_iload_n hx hb dX13_worked_14 rfl (lv_at hl 1 rfl) ?_
    refine mr_iald hx hb hK hP 19 (k := 26) rfl rfl rfl (show vp_in x 80 from (iv_in hvx (by decide))) dX13_worked_15 ?_
    refine lv_topi (fun z_54 ez_54 => ?_)
    obtain rfl : z_50 = z_54 := ez_50.trans ez_54.symm
    refine lv_iconst (v := 5) hx hb dX13_worked_16 (by decide) ?_
    refine lv_icmp_ne (tgt := 24) hx hb dX13_worked_17 (by decide) (fun c_55 => ?_) (fun c_55 => ?_)
    · have d_56 : ¬ (z_50 : Int32).toInt = 5 := lv_neT c_55 rfl
      refine lv_iconst (v := 0) hx hb dX13_worked_24 (by decide) ?_
      exact hj25 0 hvx hvsl hvit (iv_w (iv_k (by decide) : iv 0 0 0) (by decide)) _ _ _ hP hD hS (lv_sub hl [0, 1, 2, 3] rfl)
    · have h_57 : iv 5 5 z_50 := iv_eq c_55 hz_50 (iv_k (by decide) : iv 5 5 5) (by decide)
      exact hj20 hvx hvsl hvit _ _ _ hP hD hS (lv_sub hl [0, 1, 2, 3] rfl)
