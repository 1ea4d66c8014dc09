def qInn (gm : Nat → Nat → Int32) (a kd : Int32) (j : Nat) : Bool := decide (gm 28 j = a) && (decide (kd = 0) || decide (gm 26 j = kd))
theorem qI_t {gm : Nat → Nat → Int32} {a kd : Int32} {j : Nat} (h1 : gm 28 j = a) (h2 : kd = 0 ∨ gm 26 j = kd) : qInn gm a kd j = true := by
  unfold qInn
  rw [decide_eq_true h1]
  rcases h2 with h2 | h2
  · rw [decide_eq_true h2]; rfl
  · rw [decide_eq_true h2, Bool.or_true]; rfl
theorem qI_of {gm : Nat → Nat → Int32} {a kd : Int32} {j : Nat} (h : qInn gm a kd j = true) : gm 28 j = a ∧ (kd = 0 ∨ gm 26 j = kd) := by
  unfold qInn at h
  have h1 := Bool.and_eq_true_iff.mp h
  have h2 := Bool.or_eq_true_iff.mp h1.2
  exact ⟨of_decide_eq_true h1.1, h2.imp of_decide_eq_true of_decide_eq_true⟩
theorem qI_1 {gm : Nat → Nat → Int32} {a kd : Int32} {j : Nat} (h1 : ¬ gm 28 j = a) : qInn gm a kd j = false := by
  unfold qInn; rw [decide_eq_false h1]; rfl
theorem qI_2 {gm : Nat → Nat → Int32} {a kd : Int32} {j : Nat} (h1 : ¬ kd = 0) (h2 : ¬ gm 26 j = kd) : qInn gm a kd j = false := by
  unfold qInn; rw [decide_eq_false h1, decide_eq_false h2, Bool.false_or, Bool.and_false]
/-- the next element within a behind bh -/
def mInn (sg : Nat → Int32) (gm : Nat → Nat → Int32) (a kd bh : Int32) : Int32 := fstB (qInn gm a kd) ((sg 24).toNatClampNeg - (bh.toNatClampNeg + 1)) (bh.toNatClampNeg + 1)
theorem inn_no {sg : Nat → Int32} {gm : Nat → Nat → Int32} {a kd bh x : Int32} (hn : iv 0 80 (sg 24)) (hx : iv 1 80 x) (hl : (sg 24).toInt ≤ x.toInt) (h : NHB (qInn gm a kd) (bh.toNatClampNeg + 1) x.toNatClampNeg) : (-1 : Int32) = mInn sg gm a kd bh := by
  have k1 := iv_cl hn (by decide)
  have k2 := iv_cl hx (by decide)
  exact (fst_no _ _ (fun k q1 q2 => h k q1 (by omega))).symm
theorem inn_hit {sg : Nat → Int32} {gm : Nat → Nat → Int32} {a kd bh x : Int32} (hn : iv 0 80 (sg 24)) (hx : iv 1 79 x) (hg : bh.toNatClampNeg + 1 ≤ x.toNatClampNeg) (hl : x.toInt < (sg 24).toInt) (h : NHB (qInn gm a kd) (bh.toNatClampNeg + 1) x.toNatClampNeg) (hq : qInn gm a kd x.toNatClampNeg = true) : x = mInn sg gm a kd bh := by
  have k1 := iv_cl hn (by decide)
  have k2 := iv_cl hx (by decide)
  have e1 : bh.toNatClampNeg + 1 + (x.toNatClampNeg - (bh.toNatClampNeg + 1)) = x.toNatClampNeg := by omega
  have k3 := fst_hit (q := qInn gm a kd) (x.toNatClampNeg - (bh.toNatClampNeg + 1)) ((sg 24).toNatClampNeg - (bh.toNatClampNeg + 1)) (bh.toNatClampNeg + 1) (by omega) (by rw [e1]; exact h) (by rw [e1]; exact hq)
  rw [e1, iv_nI hx (by decide)] at k3
  exact k3.symm
theorem mInn_or {sg : Nat → Int32} {gm : Nat → Nat → Int32} {a kd bh : Int32} (hn : iv 0 80 (sg 24)) : (mInn sg gm a kd bh = -1 ∧ NHB (qInn gm a kd) (bh.toNatClampNeg + 1) (sg 24).toNatClampNeg) ∨ (iv 1 79 (mInn sg gm a kd bh) ∧ bh.toNatClampNeg < (mInn sg gm a kd bh).toNatClampNeg ∧ (mInn sg gm a kd bh).toNatClampNeg < (sg 24).toNatClampNeg ∧ gm 28 (mInn sg gm a kd bh).toNatClampNeg = a ∧ (kd = 0 ∨ gm 26 (mInn sg gm a kd bh).toNatClampNeg = kd) ∧ NHB (qInn gm a kd) (bh.toNatClampNeg + 1) (mInn sg gm a kd bh).toNatClampNeg) := by
  have k1 := iv_cl hn (by decide)
  have k2 := hn.2
  rcases fst_or (qInn gm a kd) ((sg 24).toNatClampNeg - (bh.toNatClampNeg + 1)) (bh.toNatClampNeg + 1) with ⟨h, h9⟩ | ⟨i, h1, h2, h3, h4⟩
  · refine Or.inl ⟨h, fun k q1 q2 => h9 k q1 (by omega)⟩
  · have h5 : mInn sg gm a kd bh = nI (bh.toNatClampNeg + 1 + i) := h2
    have h6 : (nI (bh.toNatClampNeg + 1 + i)).toNatClampNeg = bh.toNatClampNeg + 1 + i := nI_clamp (by omega)
    have h7 : (nI (bh.toNatClampNeg + 1 + i)).toInt = (bh.toNatClampNeg + 1 + i : Nat) := nI_toInt (by omega)
    obtain ⟨q1, q2⟩ := qI_of h3
    rw [h5, h6]
    exact Or.inr ⟨⟨by omega, by omega⟩, by omega, by omega, q1, q2, h4⟩
/-- how far a bean is from the end of its parents -/
def dpF (f : Int32 → Int32) : Nat → Int32 → Nat
  | 0, _ => 0
  | n + 1, b => if b = -1 then 0 else dpF f n (f b) + 1
theorem dpF_st {f : Int32 → Int32} : ∀ (n : Nat) (b : Int32), itF f n b = -1 → dpF f (n + 1) b = dpF f n b := by
  intro n
  induction n with
  | zero =>
    intro b h
    have h : b = -1 := h
    show (if _ then _ else _) = _
    rw [if_pos h]
    rfl
  | succ n ih =>
    intro b h
    by_cases hb : b = -1
    · show (if _ then _ else _) = (if _ then _ else _)
      rw [if_pos hb, if_pos hb]
    · have h : (if b = -1 then -1 else itF f n (f b)) = -1 := h
      rw [if_neg hb] at h
      show (if _ then _ else _) = (if _ then _ else _)
      rw [if_neg hb, if_neg hb, ih _ h]
def dP (sg : Nat → Int32) (gm : Nat → Nat → Int32) (lg : Nat → Nat → Int64) (b : Int32) : Nat := dpF (mPar sg gm lg) 81 b
theorem dpF_s (f : Int32 → Int32) (n : Nat) (b : Int32) : dpF f (n + 1) b = if b = -1 then 0 else dpF f n (f b) + 1 := rfl
theorem dP_m1 {sg : Nat → Int32} {gm : Nat → Nat → Int32} {lg : Nat → Nat → Int64} : dP sg gm lg (-1) = 0 := by
  show dpF (mPar sg gm lg) (80 + 1) (-1) = 0
  rw [dpF_s, if_pos rfl]
theorem dP_s {sg : Nat → Int32} {gm : Nat → Nat → Int32} {lg : Nat → Nat → Int64} {b : Int32} (hn : iv 0 80 (sg 41)) (h : ACY sg gm lg) (h0 : 0 ≤ b.toInt) : dP sg gm lg b = dP sg gm lg (mPar sg gm lg b) + 1 := by
  have hb : ¬ b = -1 := fun q => by rw [q] at h0; exact absurd h0 (by decide)
  show dpF (mPar sg gm lg) (80 + 1) b = _
  rw [dpF_s, if_neg hb]
  have h2 : itF (mPar sg gm lg) 80 (mPar sg gm lg b) = -1 := by
    obtain ⟨q1, q2⟩ := mPar_iv (sg := sg) (gm := gm) (lg := lg) b hn
    by_cases q3 : mPar sg gm lg b = -1
    · rw [q3, itF_m1]
    · have q5 : (mPar sg gm lg b).toInt ≠ -1 := fun q => q3 (Int32.toInt_inj.mp q)
      have q6 := q1.1
      exact h _ (by omega) (q2.resolve_right q3)
  show _ = dpF _ 81 _ + 1
  rw [dpF_st 80 _ h2]
theorem dP_lt {sg : Nat → Int32} {gm : Nat → Nat → Int32} {lg : Nat → Nat → Int64} {b r : Int32} (hn : iv 0 80 (sg 41)) (h : ACY sg gm lg) (h0 : 0 ≤ b.toInt) (hr : r = mPar sg gm lg b) : dP sg gm lg r < dP sg gm lg b := by
  rw [dP_s hn h h0, hr]; omega
theorem par_lt {sg : Nat → Int32} {gm : Nat → Nat → Int32} {lg : Nat → Nat → Int64} {b r : Int32} (hn : iv 0 80 (sg 41)) (hr : r = mPar sg gm lg b) : r.toInt < (sg 41).toInt := by
  rcases (mPar_iv (sg := sg) (gm := gm) (lg := lg) b hn).2 with q | q
  · rw [hr]; exact q
  · rw [hr, q]; have := hn.1; show (-1 : Int) < _; omega
def telF (sg : Nat → Int32) (gm : Nat → Nat → Int32) (lg : Nat → Nat → Int64) (nn : Int64) : Nat → Int32 → Int32
  | 0, _ => -1
  | n + 1, b => if mHas gm lg (gm 42 b.toNatClampNeg).toNatClampNeg nn = 0 then telF sg gm lg nn n (mPar sg gm lg b) else gm 42 b.toNatClampNeg
def mTel (sg : Nat → Int32) (gm : Nat → Nat → Int32) (lg : Nat → Nat → Int64) (b : Int32) (nn : Int64) : Int32 := telF sg gm lg nn (dP sg gm lg b) b
theorem tel_no {sg : Nat → Int32} {gm : Nat → Nat → Int32} {lg : Nat → Nat → Int64} {nn : Int64} : mTel sg gm lg (-1) nn = -1 := by
  unfold mTel; rw [dP_m1]; rfl
theorem tel_y {sg : Nat → Int32} {gm : Nat → Nat → Int32} {lg : Nat → Nat → Int64} {b : Int32} {nn : Int64} (hn : iv 0 80 (sg 41)) (h : ACY sg gm lg) (h0 : 0 ≤ b.toInt) (hh : ¬ mHas gm lg (gm 42 b.toNatClampNeg).toNatClampNeg nn = 0) : mTel sg gm lg b nn = gm 42 b.toNatClampNeg := by
  unfold mTel; rw [dP_s hn h h0]
  show (if _ then _ else _) = _
  rw [if_neg hh]
theorem tel_n {sg : Nat → Int32} {gm : Nat → Nat → Int32} {lg : Nat → Nat → Int64} {b : Int32} {nn : Int64} (hn : iv 0 80 (sg 41)) (h : ACY sg gm lg) (h0 : 0 ≤ b.toInt) (hh : mHas gm lg (gm 42 b.toNatClampNeg).toNatClampNeg nn = 0) : mTel sg gm lg b nn = mTel sg gm lg (mPar sg gm lg b) nn := by
  unfold mTel; rw [dP_s hn h h0]
  show (if _ then _ else _) = _
  rw [if_pos hh]
def aoF (sg : Nat → Int32) (gm : Nat → Nat → Int32) (lg : Nat → Nat → Int64) : Nat → Int32 → Int32
  | 0, b => b
  | n + 1, b => if mInn sg gm (gm 42 b.toNatClampNeg) 4 0 = -1 ∧ ¬ mPar sg gm lg b = -1 then aoF sg gm lg n (mPar sg gm lg b) else b
def mAO (sg : Nat → Int32) (gm : Nat → Nat → Int32) (lg : Nat → Nat → Int64) (b : Int32) : Int32 := aoF sg gm lg (dP sg gm lg b) b
theorem ao_y {sg : Nat → Int32} {gm : Nat → Nat → Int32} {lg : Nat → Nat → Int64} {b : Int32} (hn : iv 0 80 (sg 41)) (h : ACY sg gm lg) (h0 : 0 ≤ b.toInt) (hh : ¬ (mInn sg gm (gm 42 b.toNatClampNeg) 4 0 = -1 ∧ ¬ mPar sg gm lg b = -1)) : mAO sg gm lg b = b := by
  unfold mAO; rw [dP_s hn h h0]
  show (if _ then _ else _) = _
  rw [if_neg hh]
theorem ao_n {sg : Nat → Int32} {gm : Nat → Nat → Int32} {lg : Nat → Nat → Int64} {b : Int32} (hn : iv 0 80 (sg 41)) (h : ACY sg gm lg) (h0 : 0 ≤ b.toInt) (hh : mInn sg gm (gm 42 b.toNatClampNeg) 4 0 = -1 ∧ ¬ mPar sg gm lg b = -1) : mAO sg gm lg b = mAO sg gm lg (mPar sg gm lg b) := by
  unfold mAO; rw [dP_s hn h h0]
  show (if _ then _ else _) = _
  rw [if_pos hh]
def argF (sg : Nat → Int32) (gm : Nat → Nat → Int32) (a : Int32) : Nat → Int32
  | 0 => mInn sg gm a 4 0
  | n + 1 => if argF sg gm a n = -1 then -1 else mInn sg gm a 4 (argF sg gm a n)
def mArg (sg : Nat → Int32) (gm : Nat → Nat → Int32) (lg : Nat → Nat → Int64) (b : Int32) (n : Nat) : Int32 := argF sg gm (gm 42 (mAO sg gm lg b).toNatClampNeg) n
theorem argF_s {sg : Nat → Int32} {gm : Nat → Nat → Int32} {a x r : Int32} {n : Nat} (hx : x = argF sg gm a n) (h : ¬ x = -1) (hr : r = mInn sg gm a 4 x) : r = argF sg gm a (n + 1) := by
  show _ = (if _ then _ else _)
  rw [← hx, if_neg h, hr]
theorem argF_no {sg : Nat → Int32} {gm : Nat → Nat → Int32} {a : Int32} {n : Nat} (h : argF sg gm a n = -1) : ∀ k, n ≤ k → argF sg gm a k = -1 := by
  intro k
  induction k with
  | zero => intro hk; have h0 : n = 0 := by omega
            subst h0; exact h
  | succ k ih =>
    intro hk
    by_cases e9 : n = k + 1
    · subst e9; exact h
    · show (if _ then _ else _) = _
      rw [if_pos (ih (by omega))]
/-- how many of the first n stand within a and are of kind kd -/
def cQ (gm : Nat → Nat → Int32) (a kd : Int32) : Nat → Nat
  | 0 => 0
  | k + 1 => cQ gm a kd k + (if gm 28 k = a ∧ gm 26 k = kd then 1 else 0)
theorem cQ_ah {gm : Nat → Nat → Int32} {e : Nat} : ∀ k, ahN gm e k = cQ gm (gm 28 e) (gm 26 e) k := by
  intro k
  induction k with
  | zero => rfl
  | succ k ih => show ahN gm e k + _ = cQ gm _ _ k + _; rw [ih]
theorem cQ_mono {gm : Nat → Nat → Int32} {a kd : Int32} (j : Nat) : ∀ k, j ≤ k → cQ gm a kd j ≤ cQ gm a kd k := by
  intro k
  induction k with
  | zero => intro h; have h0 : j = 0 := by omega
            subst h0; exact Nat.le_refl _
  | succ k ih =>
    intro h
    by_cases hj : j = k + 1
    · subst hj; exact Nat.le_refl _
    · have := ih (by omega)
      show _ ≤ cQ gm a kd k + _
      omega
theorem argF_ok {sg : Nat → Int32} {gm : Nat → Nat → Int32} {a : Int32} (hn : iv 0 80 (sg 24)) : ∀ n, ¬ argF sg gm a n = -1 → iv 1 79 (argF sg gm a n) ∧ (argF sg gm a n).toNatClampNeg < (sg 24).toNatClampNeg ∧ gm 28 (argF sg gm a n).toNatClampNeg = a ∧ gm 26 (argF sg gm a n).toNatClampNeg = 4 ∧ n ≤ cQ gm a 4 (argF sg gm a n).toNatClampNeg := by
  intro n
  induction n with
  | zero =>
    intro h
    have h : ¬ mInn sg gm a 4 0 = -1 := h
    rcases mInn_or (gm := gm) (a := a) (kd := 4) (bh := 0) hn with q | ⟨q1, q2, q3, q4, q5, _⟩
    · exact absurd q.1 h
    · exact ⟨q1, q3, q4, q5.resolve_left (by decide), Nat.zero_le _⟩
  | succ n ih =>
    intro h
    have h : ¬ (if argF sg gm a n = -1 then -1 else mInn sg gm a 4 (argF sg gm a n)) = -1 := h
    have h1 : ¬ argF sg gm a n = -1 := fun q => by rw [if_pos q] at h; exact h rfl
    obtain ⟨i1, i2, i3, i4, i5⟩ := ih h1
    have e1 : argF sg gm a (n + 1) = mInn sg gm a 4 (argF sg gm a n) := by show (if _ then _ else _) = _; rw [if_neg h1]
    rw [if_neg h1] at h
    rw [e1]
    rcases mInn_or (gm := gm) (a := a) (kd := 4) (bh := argF sg gm a n) hn with q | ⟨q1, q2, q3, q4, q5, _⟩
    · exact absurd q.1 h
    · refine ⟨q1, q3, q4, q5.resolve_left (by decide), ?_⟩
      have m1 := cQ_mono (gm := gm) (a := a) (kd := 4) ((argF sg gm a n).toNatClampNeg + 1) _ q2
      have m2 : cQ gm a 4 ((argF sg gm a n).toNatClampNeg + 1) = cQ gm a 4 (argF sg gm a n).toNatClampNeg + 1 := by
        show _ + _ = _
        rw [if_pos ⟨i3, i4⟩]
      omega
theorem arg_lt {sg : Nat → Int32} {gm : Nat → Nat → Int32} {lg : Nat → Nat → Int64} {b : Int32} {n : Nat} (hn : iv 0 80 (sg 24)) (hs : STR sg gm lg) (h : ¬ mArg sg gm lg b n = -1) : n ≤ 3 := by
  obtain ⟨i1, i2, i3, i4, i5⟩ := argF_ok hn n h
  have g1 := (hs.1 _ i2).2.1 (by rw [i4]; rfl)
  have g2 := g1.1
  rw [cQ_ah, i3, i4] at g2
  omega

set_option maxHeartbeats 4000000 in
set_option maxRecDepth 100000 in
theorem f_inner (l : Launch) (dC : Nat → ClassId) (dI : Nat → Nat → Nat) (h0 : Nat) (ad : Nat → Nat) (cid : Nat → ClassId) (sg : Nat → Int32) (gm : Nat → Nat → Int32) (lg : Nat → Nat → Int64) (x : Int32) (kd : Int32) (bh : Int32) (hI : MI sg gm) (hvx : iv (-1) 79 x) (hvkd : iv 0 10 kd) (hvbh : iv 0 79 bh) : MMi l dC dI yX13_inner wm_X13_inner ({ frames := 0, cells := 0, slots := 0, locals := 0 }) h0 ad cid [.int x, .int kd, .int bh] sg gm lg (fun r v => (iv (-1) 79 r) ∧ (r = mInn sg gm x kd bh) ∧ v = (sg, gm, lg)) := by
  intro sz
  refine Met.ofW (cc := cX13_inner) (maxL := 5) (ret := (some .int)) (by decide) rfl ?_
  intro p e s m args below meth c s₁ B hml hv
  obtain ⟨rfl, hsz, hP, hK, hD0⟩ := hv
  have hx := B.exec
  have hb := B.bytes
  have hr := B.returns
  have hts := atoms_spec (ws := wm_X13_inner) B.pre
  have htb := fun (w : Cond) (h : w ∈ tb) => hts w (List.mem_cons_of_mem _ h)
  have hown : s.vm.findClass RX13 = some m.cls := findClass_of_methodNamed B.named
  have hlocks := B.notSynchronized
  subst hsz
  have hD := hD0.self (sz := s.heap.size)
  generalize hAe : va_A (mW h0 ad cid sg gm lg) s.heap.size = A at hD ⊢
  have hA : ∀ q : Nat, s.heap.size ≤ q → A q := fun q h => by rw [← hAe]; exact Or.inr h
  have hS : va_S A s.heap s.heap [] := va_S.rf
  have hl := lv_entry ([.ref h0, .int x, .int kd, .int bh]) (n := 5) (Nat.le_of_ble_eq_true rfl)
  rw [lg_entry_eq]
  generalize (lg_sl ([.ref h0, .int x, .int kd, .int bh]) ++ List.replicate (5 - (lg_sl ([.ref h0, .int x, .int kd, .int bh])).length) Slot.unset).toArray = ls at hl ⊢
  have hl : lv_has ls 5 [(0, .ref h0), (1, .int x), (2, .int kd), (3, .int bh)] := hl
  have hj40 : ∀ (x4_40 : Int32) (_ : iv 1 79 x4_40) (_ : iv (-1) 79 x) (_ : iv 0 10 kd) (_ : iv 0 79 bh) (_ : NHB (qInn gm x kd) (bh.toNatClampNeg + 1) x4_40.toNatClampNeg) (_ : bh.toNatClampNeg + 1 ≤ x4_40.toNatClampNeg) (_ : qInn gm x kd x4_40.toNatClampNeg = true) (_ : x4_40.toInt < (sg 24).toInt) (H : Heap) (locs : List Loc) (ls : Array Slot), va_P (dC, dI) vwCl (mW h0 ad cid sg gm lg) H → va_D A (mW h0 ad cid sg gm lg) → va_S A s.heap H locs → lv_has ls 5 [(4, .int x4_40), (0, .ref h0), (1, .int x), (2, .int kd), (3, .int bh)] → W p l e (headSpec wm_X13_inner ({ frames := 0, cells := 0, slots := 0, locals := 0 })).room s m ([.ref h0, .int x, .int kd, .int bh] : List Value).toArray below meth c H locs 0 0 (MQ below (va_Qi (fun r v => (iv (-1) 79 r) ∧ (r = mInn sg gm x kd bh) ∧ v = (sg, gm, lg)) (MB dC dI h0 ad cid A) A) ([.ref h0, .int x, .int kd, .int bh] : List Value).toArray s 0 0 A) (F0 m 40 ls []) := by
    intro x4_40 hx4_40 hsx1_40 hsx2_40 hsx3_40 hnb hge hqt hlt9 H locs ls hP hD hS hl
    refine lv_iload hx hb dX13_inner_40 (lv_at hl 0 rfl) ?_
    exact W.iret (v := x4_40) hx hb hr (fun t ht hW => ⟨⟨x4_40, (sg, gm, lg), rfl, ⟨(iv_w hx4_40 (by decide)), (inn_hit (show iv 0 80 (sg 24) from MI_s hI 24) hx4_40 hge hlt9 hnb hqt), rfl⟩, by rw [ht]; exact hP, va_K.moved hW.alike hK, hD⟩, hS.F ht⟩) hS.2.2 dX13_inner_42
  have hj5 : ∀ (n : Nat) (x4_5 : Int32) (_ : (80 - x4_5.toInt).toNat = n) (_ : iv 1 80 x4_5) (_ : iv (-1) 79 x) (_ : iv 0 10 kd) (_ : iv 0 79 bh) (_ : NHB (qInn gm x kd) (bh.toNatClampNeg + 1) x4_5.toNatClampNeg) (_ : bh.toNatClampNeg + 1 ≤ x4_5.toNatClampNeg) (H : Heap) (locs : List Loc) (ls : Array Slot), va_P (dC, dI) vwCl (mW h0 ad cid sg gm lg) H → va_D A (mW h0 ad cid sg gm lg) → va_S A s.heap H locs → lv_has ls 5 [(4, .int x4_5), (0, .ref h0), (1, .int x), (2, .int kd), (3, .int bh)] → W p l e (headSpec wm_X13_inner ({ frames := 0, cells := 0, slots := 0, locals := 0 })).room s m ([.ref h0, .int x, .int kd, .int bh] : List Value).toArray below meth c H locs 0 0 (MQ below (va_Qi (fun r v => (iv (-1) 79 r) ∧ (r = mInn sg gm x kd bh) ∧ v = (sg, gm, lg)) (MB dC dI h0 ad cid A) A) ([.ref h0, .int x, .int kd, .int bh] : List Value).toArray s 0 0 A) (F0 m 5 ls []) := by
    intro n
    induction n using Nat.strongRecOn with
    | ind n ih5 =>
      intro x4_5 hn5 hx4_5 hsx1_5 hsx2_5 hsx3_5 hnb hge H locs ls hP hD hS hl
      have hj43 : ∀ (_ : iv 1 79 x4_5) (_ : iv (-1) 79 x) (_ : iv 0 10 kd) (_ : iv 0 79 bh) (_ : qInn gm x kd x4_5.toNatClampNeg = false) (H : Heap) (locs : List Loc) (ls : Array Slot), va_P (dC, dI) vwCl (mW h0 ad cid sg gm lg) H → va_D A (mW h0 ad cid sg gm lg) → va_S A s.heap H locs → lv_has ls 5 [(4, .int x4_5), (0, .ref h0), (1, .int x), (2, .int kd), (3, .int bh)] → W p l e (headSpec wm_X13_inner ({ frames := 0, cells := 0, slots := 0, locals := 0 })).room s m ([.ref h0, .int x, .int kd, .int bh] : List Value).toArray below meth c H locs 0 0 (MQ below (va_Qi (fun r v => (iv (-1) 79 r) ∧ (r = mInn sg gm x kd bh) ∧ v = (sg, gm, lg)) (MB dC dI h0 ad cid A) A) ([.ref h0, .int x, .int kd, .int bh] : List Value).toArray s 0 0 A) (F0 m 43 ls []) := by
        intro  hsx4_43 hsx1_43 hsx2_43 hsx3_43 hnq H locs ls hP hD hS hl
        obtain ⟨z_1, ez_1⟩ : ∃ z : Int32, z = x4_5 + 1 := ⟨_, rfl⟩
        have hz_1 : iv 2 80 z_1 := iv_of ez_1 (iv_add hsx4_43 (iv_k (by decide) : iv 1 1 1) (by decide))
        have tz_1 : z_1.toInt = x4_5.toInt + 1 := by rw [ez_1]; exact iv_addE hsx4_43 (iv_k (by decide) : iv 1 1 1) (by decide)
        refine lv_iinc (v := z_1) (lv' := [(4, .int z_1), (0, .ref h0), (1, .int x), (2, .int kd), (3, .int bh)]) hx hb dX13_inner_43 hl (k := 0) rfl ez_1.symm (by decide) rfl (fun ls hl => ?_)
        refine lv_goto (tgt := 5) hx hb dX13_inner_46 (by decide) ?_
        exact ih5 _ (by rw [← hn5]; exact (iv_meas tz_1 hsx4_43 (by decide))) z_1 rfl (iv_w hz_1 (by decide)) hsx1_43 hsx2_43 hsx3_43 (by rw [s_cl hsx4_43 (by decide) tz_1]; exact NHB_s hnb hnq) (by rw [s_cl hsx4_43 (by decide) tz_1]; omega) _ _ _ hP hD hS (lv_sub hl [0, 1, 2, 3, 4] rfl)
      refine lv_iload hx hb dX13_inner_5 (lv_at hl 0 rfl) ?_
      refine lv_aload_n hx hb dX13_inner_7 rfl (lv_at hl 1 rfl) ?_
      refine mr_get (v := .int (sg 24)) hx hb htb inX13 hown hK hP 24 (by decide) (htb _ kw_815) rfl dX13_inner_8 ?_
      refine lv_icmp_ge (tgt := 49) hx hb dX13_inner_11 (by decide) (fun c_2 => ?_) (fun c_2 => ?_)
      · have d_3 : ((sg 24) : Int32).toInt ≤ (x4_5 : Int32).toInt := Int32.le_iff_toInt_le.mp c_2
        refine lv_iconst (v := (-1)) hx hb dX13_inner_49 (by decide) ?_
        exact W.iret (v := (-1)) hx hb hr (fun t ht hW => ⟨⟨(-1), (sg, gm, lg), rfl, ⟨(iv_w (iv_k (by decide) : iv (-1) (-1) (-1)) (by decide)), (inn_no (show iv 0 80 (sg 24) from MI_s hI 24) hx4_5 (by have := i32_0; have := i32_1; have := i32_2; have := i32_m1; have := (show iv 0 80 (sg 24) from MI_s hI 24).1; have := (show iv 0 80 (sg 24) from MI_s hI 24).2; have := (hsx1_5).1; have := (hsx1_5).2; have := (hsx2_5).1; have := (hsx2_5).2; have := (hsx3_5).1; have := (hsx3_5).2; have := (hx4_5).1; have := (hx4_5).2; have := ((show iv 0 80 (sg 24) from MI_s hI 24)).1; have := ((show iv 0 80 (sg 24) from MI_s hI 24)).2; omega) hnb), rfl⟩, by rw [ht]; exact hP, va_K.moved hW.alike hK, hD⟩, hS.F ht⟩) hS.2.2 dX13_inner_50
      · have d_4 : (x4_5 : Int32).toInt < ((sg 24) : Int32).toInt := Int32.lt_iff_toInt_lt.mp (i32_lt c_2)
        have h_5 : iv 1 79 x4_5 := iv_ltL (i32_lt c_2) hx4_5 (show iv 0 80 (sg 24) from MI_s hI 24) (by decide)
        have h_6 : iv 2 80 (sg 24) := iv_ltR (i32_lt c_2) hx4_5 (show iv 0 80 (sg 24) from MI_s hI 24) (by decide)
        refine lv_aload_n hx hb dX13_inner_14 rfl (lv_at hl 1 rfl) ?_
        refine mr_get (v := .ref (ad 28)) hx hb htb inX13 hown hK hP 28 (by decide) (htb _ kw_184) rfl dX13_inner_15 ?_
        refine lv_iload hx hb dX13_inner_18 (lv_at hl 0 rfl) ?_
        refine mr_iald hx hb hK hP 21 (k := 28) rfl rfl rfl (show vp_in x4_5 80 from (iv_in h_5 (by decide))) dX13_inner_20 ?_
        refine lv_topi (fun z_7 ez_7 => ?_)
        have hz_7 : iv (-1) 79 z_7 := iv_of ez_7 (MI_a hI 28 h_5 (by decide))
        refine lv_iload_n hx hb dX13_inner_21 rfl (lv_at hl 2 rfl) ?_
        refine lv_icmp_ne (tgt := 43) hx hb dX13_inner_22 (by decide) (fun c_8 => ?_) (fun c_8 => ?_)
        · exact hj43 h_5 hsx1_5 hsx2_5 hsx3_5 (qI_1 (by rw [← ez_7]; exact c_8)) _ _ _ hP hD hS (lv_sub hl [0, 1, 2, 3, 4] rfl)
        · have d_9 : (z_7 : Int32).toInt = (x : Int32).toInt := congrArg Int32.toInt c_8
          refine lv_iload_n hx hb dX13_inner_25 rfl (lv_at hl 3 rfl) ?_
          refine lv_if_eq (tgt := 40) hx hb dX13_inner_26 (by decide) (fun c_10 => ?_) (fun c_10 => ?_)
          · have h_11 : iv 0 0 kd := iv_eq c_10 hsx2_5 (iv_k (by decide) : iv 0 0 0) (by decide)
            exact hj40 x4_5 h_5 hsx1_5 (iv_w h_11 (by decide)) hsx3_5 (hnb) (hge) (qI_t (by rw [← ez_7]; exact c_8) (Or.inl c_10)) (by have := i32_0; have := i32_1; have := i32_2; have := i32_m1; have := (show iv 0 80 (sg 24) from MI_s hI 24).1; have := (show iv 0 80 (sg 24) from MI_s hI 24).2; have := (hsx1_5).1; have := (hsx1_5).2; have := (h_11).1; have := (h_11).2; have := (hsx3_5).1; have := (hsx3_5).2; have := (h_5).1; have := (h_5).2; have := (h_6).1; have := (h_6).2; have := (hz_7).1; have := (hz_7).2; omega) _ _ _ hP hD hS (lv_sub hl [0, 1, 2, 3, 4] rfl)
          · have h_12 : iv 1 10 kd := iv_neL c_10 hsx2_5 (by decide)
            refine lv_aload_n hx hb dX13_inner_29 rfl (lv_at hl 1 rfl) ?_
            refine mr_get (v := .ref (ad 26)) hx hb htb inX13 hown hK hP 26 (by decide) (htb _ kw_182) rfl dX13_inner_30 ?_
            refine lv_iload hx hb dX13_inner_33 (lv_at hl 0 rfl) ?_
            refine mr_iald hx hb hK hP 19 (k := 26) rfl rfl rfl (show vp_in x4_5 80 from (iv_in h_5 (by decide))) dX13_inner_35 ?_
            refine lv_topi (fun z_13 ez_13 => ?_)
            have hz_13 : iv 0 10 z_13 := iv_of ez_13 (MI_a hI 26 h_5 (by decide))
            refine lv_iload_n hx hb dX13_inner_36 rfl (lv_at hl 3 rfl) ?_
            refine lv_icmp_ne (tgt := 43) hx hb dX13_inner_37 (by decide) (fun c_14 => ?_) (fun c_14 => ?_)
            · exact hj43 h_5 hsx1_5 (iv_w h_12 (by decide)) hsx3_5 (qI_2 c_10 (by rw [← ez_13]; exact c_14)) _ _ _ hP hD hS (lv_sub hl [0, 1, 2, 3, 4] rfl)
            · have d_15 : (z_13 : Int32).toInt = (kd : Int32).toInt := congrArg Int32.toInt c_14
              have h_16 : iv 1 10 z_13 := iv_eq c_14 hz_13 h_12 (by decide)
              exact hj40 x4_5 h_5 hsx1_5 (iv_w h_12 (by decide)) hsx3_5 (hnb) (hge) (qI_t (by rw [← ez_7]; exact c_8) (Or.inr (by rw [← ez_13]; exact c_14))) (by have := i32_0; have := i32_1; have := i32_2; have := i32_m1; have := (show iv 0 80 (sg 24) from MI_s hI 24).1; have := (show iv 0 80 (sg 24) from MI_s hI 24).2; have := (hsx1_5).1; have := (hsx1_5).2; have := (h_12).1; have := (h_12).2; have := (hsx3_5).1; have := (hsx3_5).2; have := (h_5).1; have := (h_5).2; have := (h_6).1; have := (h_6).2; have := (hz_7).1; have := (hz_7).2; have := (h_16).1; have := (h_16).2; omega) _ _ _ hP hD hS (lv_sub hl [0, 1, 2, 3, 4] rfl)
  refine lv_iload_n hx hb dX13_inner_0 rfl (lv_at hl 3 rfl) ?_
  refine lv_iconst (v := 1) hx hb dX13_inner_1 (by decide) ?_
  refine lv_iadd hx hb dX13_inner_2 ?_
  refine lv_topi (fun z_17 ez_17 => ?_)
  have hz_17 : iv 1 80 z_17 := iv_of ez_17 (iv_add hvbh (iv_k (by decide) : iv 1 1 1) (by decide))
  have tz_17 : z_17.toInt = (bh : Int32).toInt + 1 := by rw [ez_17]; exact iv_addE hvbh (iv_k (by decide) : iv 1 1 1) (by decide)
  refine lv_istore (lv' := [(4, .int z_17), (0, .ref h0), (1, .int x), (2, .int kd), (3, .int bh)]) hx hb dX13_inner_3 hl (by decide) rfl (fun ls hl => ?_)
  exact hj5 _ z_17 rfl hz_17 hvx hvkd hvbh (by rw [s_cl hvbh (by decide) tz_17]; exact NHB_0) (Nat.le_of_eq (s_cl hvbh (by decide) tz_17).symm) _ _ _ hP hD hS (lv_sub hl [0, 1, 2, 3, 4] rfl)

set_option maxHeartbeats 4000000 in
set_option maxRecDepth 100000 in
theorem f_tells (l : Launch) (dC : Nat → ClassId) (dI : Nat → Nat → Nat) (h0 : Nat) (ad : Nat → Nat) (cid : Nat → ClassId) (sg : Nat → Int32) (gm : Nat → Nat → Int32) (lg : Nat → Nat → Int64) (b : Int32) (nn : Int64) (hI : MI sg gm) (hvb : iv (-1) 79 b) (hbl : b.toInt < (sg 41).toInt) (hac : ACY sg gm lg) : MMi l dC dI yX13_tells wm_X13_tells ({ frames := 4, cells := 0, slots := 0, locals := 95 }) h0 ad cid [.int b, .long nn] sg gm lg (fun r v => (iv (-1) 79 r) ∧ (r = mTel sg gm lg b nn) ∧ v = (sg, gm, lg)) := by
  intro sz
  refine Met.ofW (cc := cX13_tells) (maxL := 5) (ret := (some .int)) (by decide) rfl ?_
  intro p e s m args below meth c s₁ B hml hv
  obtain ⟨rfl, hsz, hP, hK, hD0⟩ := hv
  have hx := B.exec
  have hb := B.bytes
  have hr := B.returns
  have hts := atoms_spec (ws := wm_X13_tells) B.pre
  have htb := fun (w : Cond) (h : w ∈ tb) => hts w (List.mem_cons_of_mem _ h)
  have hown : s.vm.findClass RX13 = some m.cls := findClass_of_methodNamed B.named
  have hlocks := B.notSynchronized
  subst hsz
  have hD := hD0.self (sz := s.heap.size)
  generalize hAe : va_A (mW h0 ad cid sg gm lg) s.heap.size = A at hD ⊢
  have hA : ∀ q : Nat, s.heap.size ≤ q → A q := fun q h => by rw [← hAe]; exact Or.inr h
  have hS : va_S A s.heap s.heap [] := va_S.rf
  have hl := lv_entry ([.ref h0, .int b, .long nn]) (n := 5) (Nat.le_of_ble_eq_true rfl)
  rw [lg_entry_eq]
  generalize (lg_sl ([.ref h0, .int b, .long nn]) ++ List.replicate (5 - (lg_sl ([.ref h0, .int b, .long nn])).length) Slot.unset).toArray = ls at hl ⊢
  have hl : lv_has ls 5 [(0, .ref h0), (1, .int b), (2, .long nn)] := hl
  have hj3 : ∀ (n : Nat) (x4_3 : Int32) (_ : dP sg gm lg x4_3 = n) (_ : iv (-1) 79 x4_3) (_ : iv (-1) 79 b) (_ : mTel sg gm lg b nn = mTel sg gm lg x4_3 nn) (_ : x4_3.toInt < (sg 41).toInt) (H : Heap) (locs : List Loc) (ls : Array Slot), va_P (dC, dI) vwCl (mW h0 ad cid sg gm lg) H → va_D A (mW h0 ad cid sg gm lg) → va_S A s.heap H locs → lv_has ls 5 [(4, .int x4_3), (0, .ref h0), (1, .int b), (2, .long nn)] → W p l e (headSpec wm_X13_tells ({ frames := 4, cells := 0, slots := 0, locals := 95 })).room s m ([.ref h0, .int b, .long nn] : List Value).toArray below meth c H locs 0 0 (MQ below (va_Qi (fun r v => (iv (-1) 79 r) ∧ (r = mTel sg gm lg b nn) ∧ v = (sg, gm, lg)) (MB dC dI h0 ad cid A) A) ([.ref h0, .int b, .long nn] : List Value).toArray s 0 0 A) (F0 m 3 ls []) := by
    intro n
    induction n using Nat.strongRecOn with
    | ind n ih3 =>
      intro x4_3 hn3 hx4_3 hsx1_3 htl hlb H locs ls hP hD hS hl
      refine lv_iload hx hb dX13_tells_3 (lv_at hl 0 rfl) ?_
      refine lv_iconst (v := (-1)) hx hb dX13_tells_5 (by decide) ?_
      refine lv_icmp_eq (tgt := 43) hx hb dX13_tells_6 (by decide) (fun c_1 => ?_) (fun c_1 => ?_)
      · have h_2 : iv (-1) (-1) x4_3 := iv_eq c_1 hx4_3 (iv_k (by decide) : iv (-1) (-1) (-1)) (by decide)
        refine lv_iconst (v := (-1)) hx hb dX13_tells_43 (by decide) ?_
        exact W.iret (v := (-1)) hx hb hr (fun t ht hW => ⟨⟨(-1), (sg, gm, lg), rfl, ⟨(iv_w (iv_k (by decide) : iv (-1) (-1) (-1)) (by decide)), (by rw [htl, c_1, tel_no]), rfl⟩, by rw [ht]; exact hP, va_K.moved hW.alike hK, hD⟩, hS.F ht⟩) hS.2.2 dX13_tells_44
      · have h_3 : iv 0 79 x4_3 := iv_neL c_1 hx4_3 (by decide)
        refine lv_aload_n hx hb dX13_tells_9 rfl (lv_at hl 1 rfl) ?_
        refine lv_aload_n hx hb dX13_tells_10 rfl (lv_at hl 1 rfl) ?_
        refine mr_get (v := .ref (ad 42)) hx hb htb inX13 hown hK hP 42 (by decide) (htb _ kw_196) rfl dX13_tells_11 ?_
        refine lv_iload hx hb dX13_tells_14 (lv_at hl 0 rfl) ?_
        refine mr_iald hx hb hK hP 33 (k := 42) rfl rfl rfl (show vp_in x4_3 80 from (iv_in h_3 (by decide))) dX13_tells_16 ?_
        refine lv_topi (fun z_4 ez_4 => ?_)
        have hz_4 : iv 0 79 z_4 := iv_of ez_4 (MI_a hI 42 h_3 (by decide))
        refine lv_lload_n hx hb dX13_tells_17 rfl (lv_at hl 3 rfl) ?_
        refine mr_calli (rest := []) ⟨hx, hb, hml, hown, htb⟩ (f_has l dC dI h0 ad cid sg gm lg z_4 nn hI hz_4) (cwV 2 htb (gd_V kw_916 kw_917 kw_918 kw_5 kw_1543) rfl rfl rfl (by decide +kernel) ⟨Nat.le_of_ble_eq_true rfl, Nat.le_of_ble_eq_true rfl⟩) rfl hl.1 rfl (Nat.le_of_ble_eq_true rfl) dX13_tells_18 ⟨Nat.zero_le _, Nat.zero_le _⟩ hK hP hD hS hA (fun r_5 u_6 H locs hw hP hD hS => ?_)
        obtain ⟨hr_5, fH_r_5, rfl⟩ := hw
        have hP : va_P (dC, dI) vwCl (mW h0 ad cid sg gm lg) H := hP
        have hD : va_D A (mW h0 ad cid sg gm lg) := hD
        refine lv_if_eq (tgt := 32) hx hb dX13_tells_21 (by decide) (fun c_7 => ?_) (fun c_7 => ?_)
        · have h_8 : iv 0 0 r_5 := iv_eq c_7 hr_5 (iv_k (by decide) : iv 0 0 0) (by decide)
          refine lv_aload_n hx hb dX13_tells_32 rfl (lv_at hl 1 rfl) ?_
          refine lv_iload hx hb dX13_tells_33 (lv_at hl 0 rfl) ?_
          refine mr_calli (rest := []) ⟨hx, hb, hml, hown, htb⟩ (f_parentOf l dC dI h0 ad cid sg gm lg x4_3 hI h_3) (cwV 1 htb (gd_V kw_949 kw_950 kw_951 kw_5 kw_1553) rfl rfl rfl (by decide +kernel) ⟨Nat.le_of_ble_eq_true rfl, Nat.le_of_ble_eq_true rfl⟩) rfl hl.1 rfl (Nat.le_of_ble_eq_true rfl) dX13_tells_35 ⟨Nat.zero_le _, Nat.zero_le _⟩ hK hP hD hS hA (fun r_9 u_10 H locs hw hP hD hS => ?_)
          obtain ⟨hr_9, fP_r_9, rfl⟩ := hw
          have hP : va_P (dC, dI) vwCl (mW h0 ad cid sg gm lg) H := hP
          have hD : va_D A (mW h0 ad cid sg gm lg) := hD
          refine lv_istore (lv' := [(4, .int r_9), (0, .ref h0), (1, .int b), (2, .long nn)]) hx hb dX13_tells_38 hl (by decide) rfl (fun ls hl => ?_)
          refine lv_goto (tgt := 3) hx hb dX13_tells_40 (by decide) ?_
          exact ih3 _ (by rw [← hn3]; exact (dP_lt (show iv 0 80 (sg 41) from MI_s hI 41) hac (h_3).1 fP_r_9)) r_9 rfl hr_9 hsx1_3 (htl.trans (by rw [tel_n (show iv 0 80 (sg 41) from MI_s hI 41) hac (h_3).1 (by rw [← ez_4, ← fH_r_5]; exact c_7), ← fP_r_9])) (par_lt (show iv 0 80 (sg 41) from MI_s hI 41) fP_r_9) _ _ _ hP hD hS (lv_sub hl [0, 1, 2, 3] rfl)
        · have h_11 : iv 1 1 r_5 := iv_neL c_7 hr_5 (by decide)
          refine lv_aload_n hx hb dX13_tells_24 rfl (lv_at hl 1 rfl) ?_
          refine mr_get (v := .ref (ad 42)) hx hb htb inX13 hown hK hP 42 (by decide) (htb _ kw_196) rfl dX13_tells_25 ?_
          refine lv_iload hx hb dX13_tells_28 (lv_at hl 0 rfl) ?_
          refine mr_iald hx hb hK hP 33 (k := 42) rfl rfl rfl (show vp_in x4_3 80 from (iv_in h_3 (by decide))) dX13_tells_30 ?_
          refine lv_topi (fun z_12 ez_12 => ?_)
          obtain rfl : z_4 = z_12 := ez_4.trans ez_12.symm
          exact W.iret (v := z_4) hx hb hr (fun t ht hW => ⟨⟨z_4, (sg, gm, lg), rfl, ⟨(iv_w hz_4 (by decide)), (by rw [htl, tel_y (show iv 0 80 (sg 41) from MI_s hI 41) hac (h_3).1 (by rw [← ez_4, ← fH_r_5]; exact c_7)]; exact ez_4), rfl⟩, by rw [ht]; exact hP, va_K.moved hW.alike hK, hD⟩, hS.F ht⟩) hS.2.2 dX13_tells_31
  refine lv_iload_n hx hb dX13_tells_0 rfl (lv_at hl 1 rfl) ?_
  refine lv_istore (lv' := [(4, .int b), (0, .ref h0), (1, .int b), (2, .long nn)]) hx hb dX13_tells_1 hl (by decide) rfl (fun ls hl => ?_)
  exact hj3 _ b rfl hvb hvb (rfl) (hbl) _ _ _ hP hD hS (lv_sub hl [0, 1, 2, 3] rfl)

set_option maxHeartbeats 4000000 in
set_option maxRecDepth 100000 in
theorem a_letter (l : Launch) (dC : Nat → ClassId) (dI : Nat → Nat → Nat) (h0 : Nat) (ad : Nat → Nat) (cid : Nat → ClassId) (sg : Nat → Int32) (gm : Nat → Nat → Int32) (lg : Nat → Nat → Int64) (b : Int32) (nn : Int64) (hI : MI sg gm) (hvb : iv (-1) 79 b) (hbl : b.toInt < (sg 41).toInt) (hac : ACY sg gm lg) : MMi l dC dI yX13_letter wm_X13_letter ({ frames := 5, cells := 0, slots := 0, locals := 119 }) h0 ad cid [.int b, .long nn] sg gm lg (fun r v => v = (sg, gm, lg)) := by
  intro sz
  refine Met.ofW (cc := cX13_letter) (maxL := 5) (ret := (some .int)) (by decide) rfl ?_
  intro p e s m args below meth c s₁ B hml hv
  obtain ⟨rfl, hsz, hP, hK, hD0⟩ := hv
  have hx := B.exec
  have hb := B.bytes
  have hr := B.returns
  have hts := atoms_spec (ws := wm_X13_letter) B.pre
  have htb := fun (w : Cond) (h : w ∈ tb) => hts w (List.mem_cons_of_mem _ h)
  have hown : s.vm.findClass RX13 = some m.cls := findClass_of_methodNamed B.named
  have hlocks := B.notSynchronized
  subst hsz
  have hD := hD0.self (sz := s.heap.size)
  generalize hAe : va_A (mW h0 ad cid sg gm lg) s.heap.size = A at hD ⊢
  have hA : ∀ q : Nat, s.heap.size ≤ q → A q := fun q h => by rw [← hAe]; exact Or.inr h
  have hS : va_S A s.heap s.heap [] := va_S.rf
  have hl := lv_entry ([.ref h0, .int b, .long nn]) (n := 5) (Nat.le_of_ble_eq_true rfl)
  rw [lg_entry_eq]
  generalize (lg_sl ([.ref h0, .int b, .long nn]) ++ List.replicate (5 - (lg_sl ([.ref h0, .int b, .long nn])).length) Slot.unset).toArray = ls at hl ⊢
  have hl : lv_has ls 5 [(0, .ref h0), (1, .int b), (2, .long nn)] := hl
  have hj29 : ∀ (x4_29 : Int32) (y0_29 : Int32) (_ : iv (-1) 79 x4_29) (_ : iv (-1) 79 b) (H : Heap) (locs : List Loc) (ls : Array Slot), va_P (dC, dI) vwCl (mW h0 ad cid sg gm lg) H → va_D A (mW h0 ad cid sg gm lg) → va_S A s.heap H locs → lv_has ls 5 [(4, .int x4_29), (0, .ref h0), (1, .int b), (2, .long nn)] → W p l e (headSpec wm_X13_letter ({ frames := 5, cells := 0, slots := 0, locals := 119 })).room s m ([.ref h0, .int b, .long nn] : List Value).toArray below meth c H locs 0 0 (MQ below (va_Qi (fun r v => v = (sg, gm, lg)) (MB dC dI h0 ad cid A) A) ([.ref h0, .int b, .long nn] : List Value).toArray s 0 0 A) (F0 m 29 ls [.int y0_29]) := by
    intro x4_29 y0_29 hx4_29 hsx1_29 H locs ls hP hD hS hl
    exact W.iret (v := y0_29) hx hb hr (fun t ht hW => ⟨⟨y0_29, (sg, gm, lg), rfl, rfl, by rw [ht]; exact hP, va_K.moved hW.alike hK, hD⟩, hS.F ht⟩) hS.2.2 dX13_letter_29
  refine lv_aload_n hx hb dX13_letter_0 rfl (lv_at hl 0 rfl) ?_
  refine lv_iload_n hx hb dX13_letter_1 rfl (lv_at hl 1 rfl) ?_
  refine lv_lload_n hx hb dX13_letter_2 rfl (lv_at hl 2 rfl) ?_
  refine mr_calli (rest := []) ⟨hx, hb, hml, hown, htb⟩ (f_tells l dC dI h0 ad cid sg gm lg b nn hI hvb (by have := i32_0; have := i32_1; have := i32_2; have := i32_m1; have := (show iv 0 80 (sg 41) from MI_s hI 41).1; have := (show iv 0 80 (sg 41) from MI_s hI 41).2; have := (hvb).1; have := (hvb).2; omega) hac) (cwV 2 htb (gd_V kw_1186 kw_1187 kw_1188 kw_5 kw_1612) rfl rfl rfl (by decide +kernel) ⟨Nat.le_of_ble_eq_true rfl, Nat.le_of_ble_eq_true rfl⟩) rfl hl.1 rfl (Nat.le_of_ble_eq_true rfl) dX13_letter_3 ⟨Nat.zero_le _, Nat.zero_le _⟩ hK hP hD hS hA (fun r_1 u_2 H locs hw hP hD hS => ?_)
  obtain ⟨hr_1, fL_r_1, rfl⟩ := hw
  have hP : va_P (dC, dI) vwCl (mW h0 ad cid sg gm lg) H := hP
  have hD : va_D A (mW h0 ad cid sg gm lg) := hD
  refine lv_istore (lv' := [(4, .int r_1), (0, .ref h0), (1, .int b), (2, .long nn)]) hx hb dX13_letter_6 hl (by decide) rfl (fun ls hl => ?_)
  refine lv_iload hx hb dX13_letter_8 (lv_at hl 0 rfl) ?_
  refine lv_iconst (v := (-1)) hx hb dX13_letter_10 (by decide) ?_
  refine lv_icmp_ne (tgt := 18) hx hb dX13_letter_11 (by decide) (fun c_3 => ?_) (fun c_3 => ?_)
  · have h_4 : iv 0 79 r_1 := iv_neL c_3 hr_1 (by decide)
    refine lv_aload_n hx hb dX13_letter_18 rfl (lv_at hl 1 rfl) ?_
    refine lv_iload hx hb dX13_letter_19 (lv_at hl 0 rfl) ?_
    refine lv_lload_n hx hb dX13_letter_21 rfl (lv_at hl 3 rfl) ?_
    refine mr_calll (rest := []) ⟨hx, hb, hml, hown, htb⟩ (f_word l dC dI h0 ad cid sg gm lg r_1 nn hI h_4) (cwV 2 htb (gd_V kw_923 kw_924 kw_925 kw_5 kw_1545) rfl rfl rfl (by decide +kernel) ⟨Nat.le_of_ble_eq_true rfl, Nat.le_of_ble_eq_true rfl⟩) rfl hl.1 rfl (Nat.le_of_ble_eq_true rfl) dX13_letter_22 ⟨Nat.zero_le _, Nat.zero_le _⟩ hK hP hD hS hA (fun r_5 u_6 H locs hw hP hD hS => ?_)
    obtain ⟨fW_r_5, rfl⟩ := hw
    have hP : va_P (dC, dI) vwCl (mW h0 ad cid sg gm lg) H := hP
    have hD : va_D A (mW h0 ad cid sg gm lg) := hD
    refine lv_l2i (v := (r_5).toInt32) hx hb dX13_letter_25 rfl ?_
    refine lv_topi (fun z_7 ez_7 => ?_)
    refine lv_bipush (v := 97) hx hb dX13_letter_26 (by decide) ?_
    refine lv_isub hx hb dX13_letter_28 ?_
    refine lv_topi (fun z_8 ez_8 => ?_)
    exact hj29 r_1 z_8 (iv_w h_4 (by decide)) hvb _ _ _ hP hD hS (lv_sub hl [0, 1, 2, 3] rfl)
  · have h_9 : iv (-1) (-1) r_1 := iv_eq c_3 hr_1 (iv_k (by decide) : iv (-1) (-1) (-1)) (by decide)
    refine lv_iconst (v := (-1)) hx hb dX13_letter_14 (by decide) ?_
    refine lv_goto (tgt := 29) hx hb dX13_letter_15 (by decide) ?_
    exact hj29 r_1 (-1) (iv_w h_9 (by decide)) hvb _ _ _ hP hD hS (lv_sub hl [0, 1, 2, 3] rfl)

set_option maxHeartbeats 4000000 in
set_option maxRecDepth 100000 in
theorem a_classOf (l : Launch) (dC : Nat → ClassId) (dI : Nat → Nat → Nat) (h0 : Nat) (ad : Nat → Nat) (cid : Nat → ClassId) (sg : Nat → Int32) (gm : Nat → Nat → Int32) (lg : Nat → Nat → Int64) (b : Int32) (hI : MI sg gm) (hvb : iv (-1) 79 b) (hbl : b.toInt < (sg 41).toInt) (hac : ACY sg gm lg) : MMi l dC dI yX13_classOf wm_X13_classOf ({ frames := 5, cells := 0, slots := 0, locals := 119 }) h0 ad cid [.int b] sg gm lg (fun r v => (iv (-1) 7 r) ∧ v = (sg, gm, lg)) := by
  intro sz
  refine Met.ofW (cc := cX13_classOf) (maxL := 3) (ret := (some .int)) (by decide) rfl ?_
  intro p e s m args below meth c s₁ B hml hv
  obtain ⟨rfl, hsz, hP, hK, hD0⟩ := hv
  have hx := B.exec
  have hb := B.bytes
  have hr := B.returns
  have hts := atoms_spec (ws := wm_X13_classOf) B.pre
  have htb := fun (w : Cond) (h : w ∈ tb) => hts w (List.mem_cons_of_mem _ h)
  have hown : s.vm.findClass RX13 = some m.cls := findClass_of_methodNamed B.named
  have hlocks := B.notSynchronized
  subst hsz
  have hD := hD0.self (sz := s.heap.size)
  generalize hAe : va_A (mW h0 ad cid sg gm lg) s.heap.size = A at hD ⊢
  have hA : ∀ q : Nat, s.heap.size ≤ q → A q := fun q h => by rw [← hAe]; exact Or.inr h
  have hS : va_S A s.heap s.heap [] := va_S.rf
  have hl := lv_entry ([.ref h0, .int b]) (n := 3) (Nat.le_of_ble_eq_true rfl)
  rw [lg_entry_eq]
  generalize (lg_sl ([.ref h0, .int b]) ++ List.replicate (3 - (lg_sl ([.ref h0, .int b])).length) Slot.unset).toArray = ls at hl ⊢
  have hl : lv_has ls 3 [(0, .ref h0), (1, .int b)] := hl
  have hj29 : ∀ (x2_29 : Int32) (y0_29 : Int32) (_ : iv (-1) 79 x2_29) (_ : iv (-1) 79 b) (_ : iv (-1) 7 y0_29) (H : Heap) (locs : List Loc) (ls : Array Slot), va_P (dC, dI) vwCl (mW h0 ad cid sg gm lg) H → va_D A (mW h0 ad cid sg gm lg) → va_S A s.heap H locs → lv_has ls 3 [(2, .int x2_29), (0, .ref h0), (1, .int b)] → W p l e (headSpec wm_X13_classOf ({ frames := 5, cells := 0, slots := 0, locals := 119 })).room s m ([.ref h0, .int b] : List Value).toArray below meth c H locs 0 0 (MQ below (va_Qi (fun r v => (iv (-1) 7 r) ∧ v = (sg, gm, lg)) (MB dC dI h0 ad cid A) A) ([.ref h0, .int b] : List Value).toArray s 0 0 A) (F0 m 29 ls [.int y0_29]) := by
    intro x2_29 y0_29 hx2_29 hsx1_29 hy0_29 H locs ls hP hD hS hl
    exact W.iret (v := y0_29) hx hb hr (fun t ht hW => ⟨⟨y0_29, (sg, gm, lg), rfl, ⟨hy0_29, rfl⟩, by rw [ht]; exact hP, va_K.moved hW.alike hK, hD⟩, hS.F ht⟩) hS.2.2 dX13_classOf_29
  refine lv_aload_n hx hb dX13_classOf_0 rfl (lv_at hl 0 rfl) ?_
  refine lv_iload_n hx hb dX13_classOf_1 rfl (lv_at hl 1 rfl) ?_
  refine lv_ldc2 (own := RX13) (v := 427020088179) hx hb hown (htb _ kw_900) dX13_classOf_2 ?_
  refine mr_calli (rest := []) ⟨hx, hb, hml, hown, htb⟩ (f_tells l dC dI h0 ad cid sg gm lg b 427020088179 hI hvb (by have := i32_0; have := i32_1; have := i32_2; have := i32_m1; have := (show iv 0 80 (sg 41) from MI_s hI 41).1; have := (show iv 0 80 (sg 41) from MI_s hI 41).2; have := (hvb).1; have := (hvb).2; omega) hac) (cwV 2 htb (gd_V kw_1186 kw_1187 kw_1188 kw_5 kw_1612) rfl rfl rfl (by decide +kernel) ⟨Nat.le_of_ble_eq_true rfl, Nat.le_of_ble_eq_true rfl⟩) rfl hl.1 rfl (Nat.le_of_ble_eq_true rfl) dX13_classOf_5 ⟨Nat.zero_le _, Nat.zero_le _⟩ hK hP hD hS hA (fun r_1 u_2 H locs hw hP hD hS => ?_)
  obtain ⟨hr_1, fL_r_1, rfl⟩ := hw
  have hP : va_P (dC, dI) vwCl (mW h0 ad cid sg gm lg) H := hP
  have hD : va_D A (mW h0 ad cid sg gm lg) := hD
  refine lv_istore_n (lv' := [(2, .int r_1), (0, .ref h0), (1, .int b)]) hx hb dX13_classOf_8 rfl hl (by decide) rfl (fun ls hl => ?_)
  refine lv_iload_n hx hb dX13_classOf_9 rfl (lv_at hl 0 rfl) ?_
  refine lv_iconst (v := (-1)) hx hb dX13_classOf_10 (by decide) ?_
  refine lv_icmp_ne (tgt := 18) hx hb dX13_classOf_11 (by decide) (fun c_3 => ?_) (fun c_3 => ?_)
  · have h_4 : iv 0 79 r_1 := iv_neL c_3 hr_1 (by decide)
    refine lv_aload_n hx hb dX13_classOf_18 rfl (lv_at hl 1 rfl) ?_
    refine lv_iload_n hx hb dX13_classOf_19 rfl (lv_at hl 0 rfl) ?_
    refine lv_ldc2 (own := RX13) (v := 427020088179) hx hb hown (htb _ kw_900) dX13_classOf_20 ?_
    refine mr_calll (rest := []) ⟨hx, hb, hml, hown, htb⟩ (f_word l dC dI h0 ad cid sg gm lg r_1 427020088179 hI h_4) (cwV 2 htb (gd_V kw_923 kw_924 kw_925 kw_5 kw_1545) rfl rfl rfl (by decide +kernel) ⟨Nat.le_of_ble_eq_true rfl, Nat.le_of_ble_eq_true rfl⟩) rfl hl.1 rfl (Nat.le_of_ble_eq_true rfl) dX13_classOf_23 ⟨Nat.zero_le _, Nat.zero_le _⟩ hK hP hD hS hA (fun r_5 u_6 H locs hw hP hD hS => ?_)
    obtain ⟨fW_r_5, rfl⟩ := hw
    have hP : va_P (dC, dI) vwCl (mW h0 ad cid sg gm lg) H := hP
    have hD : va_D A (mW h0 ad cid sg gm lg) := hD
    have hPc := hP.sub (ws' := []) [] rfl
    have hDc := hD.sub (ws' := []) [] (by decide) rfl
    have hKc := hK.sub (tys' := []) [] rfl
    have hFc := va_free (wc := []) hD hS hA [] rfl
    refine va_calli (va_runS (As := [.long r_5]) (rest := []) ⟨hx, hb, hml, hown, htb⟩ (a_classIn l dC dI H.size r_5) (va_cwS 1 htb (gd_S kw_927 kw_928 kw_5 kw_1546) rfl rfl rfl (by decide +kernel) ⟨Nat.le_of_ble_eq_true rfl, Nat.le_of_ble_eq_true rfl⟩) ⟨fun a U g mk q => by obtain ⟨q0, q1, qP, qK, qD⟩ := q; exact ⟨q0, q1, qP, va_K.moved (u := U) (U := U.calling g mk a) (Vm.Alike.refl U.vm) qK, qD⟩, fun U hU hW => ⟨rfl, by rw [hU], by rw [hU]; exact hPc, va_K.moved hW.alike hKc, hDc.weaken (fun _ _ _ _ => trivial)⟩⟩ rfl rfl hl.1 rfl (lv_room (Nat.le_of_ble_eq_true rfl)) dX13_classOf_26 ⟨Nat.zero_le _, Nat.zero_le _⟩) hS (fun q _ h => hFc q h) hFc (fun r_7 u9 t H1 locs ht hvm hw hB hz1 hk1 hS => ?_)
    have hP := ms_kept hP hz1 hk1
    generalize H1 = H at hP hS ⊢
    have hr_7 := hw
    exact hj29 r_1 r_7 (iv_w h_4 (by decide)) hvb hr_7 _ _ _ hP hD hS (lv_sub hl [0, 1, 2] rfl)
  · have h_8 : iv (-1) (-1) r_1 := iv_eq c_3 hr_1 (iv_k (by decide) : iv (-1) (-1) (-1)) (by decide)
    refine lv_iconst (v := (-1)) hx hb dX13_classOf_14 (by decide) ?_
    refine lv_goto (tgt := 29) hx hb dX13_classOf_15 (by decide) ?_
    exact hj29 r_1 (-1) (iv_w h_8 (by decide)) hvb (iv_w (iv_k (by decide) : iv (-1) (-1) (-1)) (by decide)) _ _ _ hP hD hS (lv_sub hl [0, 1, 2] rfl)

set_option maxHeartbeats 4000000 in
set_option maxRecDepth 100000 in
theorem f_argsOf (l : Launch) (dC : Nat → ClassId) (dI : Nat → Nat → Nat) (h0 : Nat) (ad : Nat → Nat) (cid : Nat → ClassId) (sg : Nat → Int32) (gm : Nat → Nat → Int32) (lg : Nat → Nat → Int64) (b : Int32) (hI : MI sg gm) (hvb : iv 0 79 b) (hbl : b.toInt < (sg 41).toInt) (hac : ACY sg gm lg) : MMi l dC dI yX13_argsOf wm_X13_argsOf ({ frames := 4, cells := 0, slots := 0, locals := 95 }) h0 ad cid [.int b] sg gm lg (fun r v => (iv 0 79 r) ∧ (r = mAO sg gm lg b) ∧ (r.toInt < (sg 41).toInt) ∧ v = (sg, gm, lg)) := by
  intro sz
  refine Met.ofW (cc := cX13_argsOf) (maxL := 3) (ret := (some .int)) (by decide) rfl ?_
  intro p e s m args below meth c s₁ B hml hv
  obtain ⟨rfl, hsz, hP, hK, hD0⟩ := hv
  have hx := B.exec
  have hb := B.bytes
  have hr := B.returns
  have hts := atoms_spec (ws := wm_X13_argsOf) B.pre
  have htb := fun (w : Cond) (h : w ∈ tb) => hts w (List.mem_cons_of_mem _ h)
  have hown : s.vm.findClass RX13 = some m.cls := findClass_of_methodNamed B.named
  have hlocks := B.notSynchronized
  subst hsz
  have hD := hD0.self (sz := s.heap.size)
  generalize hAe : va_A (mW h0 ad cid sg gm lg) s.heap.size = A at hD ⊢
  have hA : ∀ q : Nat, s.heap.size ≤ q → A q := fun q h => by rw [← hAe]; exact Or.inr h
  have hS : va_S A s.heap s.heap [] := va_S.rf
  have hl := lv_entry ([.ref h0, .int b]) (n := 3) (Nat.le_of_ble_eq_true rfl)
  rw [lg_entry_eq]
  generalize (lg_sl ([.ref h0, .int b]) ++ List.replicate (3 - (lg_sl ([.ref h0, .int b])).length) Slot.unset).toArray = ls at hl ⊢
  have hl : lv_has ls 3 [(0, .ref h0), (1, .int b)] := hl
  have hj36 : ∀ (x2_36 : Int32) (_ : iv 0 79 x2_36) (_ : iv 0 79 b) (_ : x2_36 = mAO sg gm lg b) (_ : x2_36.toInt < (sg 41).toInt) (H : Heap) (locs : List Loc) (ls : Array Slot), va_P (dC, dI) vwCl (mW h0 ad cid sg gm lg) H → va_D A (mW h0 ad cid sg gm lg) → va_S A s.heap H locs → lv_has ls 3 [(2, .int x2_36), (0, .ref h0), (1, .int b)] → W p l e (headSpec wm_X13_argsOf ({ frames := 4, cells := 0, slots := 0, locals := 95 })).room s m ([.ref h0, .int b] : List Value).toArray below meth c H locs 0 0 (MQ below (va_Qi (fun r v => (iv 0 79 r) ∧ (r = mAO sg gm lg b) ∧ (r.toInt < (sg 41).toInt) ∧ v = (sg, gm, lg)) (MB dC dI h0 ad cid A) A) ([.ref h0, .int b] : List Value).toArray s 0 0 A) (F0 m 36 ls []) := by
    intro x2_36 hx2_36 hsx1_36 hao hlb H locs ls hP hD hS hl
    refine lv_iload_n hx hb dX13_argsOf_36 rfl (lv_at hl 0 rfl) ?_
    exact W.iret (v := x2_36) hx hb hr (fun t ht hW => ⟨⟨x2_36, (sg, gm, lg), rfl, ⟨hx2_36, (hao), (hlb), rfl⟩, by rw [ht]; exact hP, va_K.moved hW.alike hK, hD⟩, hS.F ht⟩) hS.2.2 dX13_argsOf_37
  have hj2 : ∀ (n : Nat) (x2_2 : Int32) (_ : dP sg gm lg x2_2 = n) (_ : iv 0 79 x2_2) (_ : iv 0 79 b) (_ : mAO sg gm lg b = mAO sg gm lg x2_2) (_ : x2_2.toInt < (sg 41).toInt) (H : Heap) (locs : List Loc) (ls : Array Slot), va_P (dC, dI) vwCl (mW h0 ad cid sg gm lg) H → va_D A (mW h0 ad cid sg gm lg) → va_S A s.heap H locs → lv_has ls 3 [(2, .int x2_2), (0, .ref h0), (1, .int b)] → W p l e (headSpec wm_X13_argsOf ({ frames := 4, cells := 0, slots := 0, locals := 95 })).room s m ([.ref h0, .int b] : List Value).toArray below meth c H locs 0 0 (MQ below (va_Qi (fun r v => (iv 0 79 r) ∧ (r = mAO sg gm lg b) ∧ (r.toInt < (sg 41).toInt) ∧ v = (sg, gm, lg)) (MB dC dI h0 ad cid A) A) ([.ref h0, .int b] : List Value).toArray s 0 0 A) (F0 m 2 ls []) := by
    intro n
    induction n using Nat.strongRecOn with
    | ind n ih2 =>
      intro x2_2 hn2 hx2_2 hsx1_2 hao hlb H locs ls hP hD hS hl
      refine lv_aload_n hx hb dX13_argsOf_2 rfl (lv_at hl 1 rfl) ?_
      refine lv_aload_n hx hb dX13_argsOf_3 rfl (lv_at hl 1 rfl) ?_
      refine mr_get (v := .ref (ad 42)) hx hb htb inX13 hown hK hP 42 (by decide) (htb _ kw_196) rfl dX13_argsOf_4 ?_
      refine lv_iload_n hx hb dX13_argsOf_7 rfl (lv_at hl 0 rfl) ?_
      refine mr_iald hx hb hK hP 33 (k := 42) rfl rfl rfl (show vp_in x2_2 80 from (iv_in hx2_2 (by decide))) dX13_argsOf_8 ?_
      refine lv_topi (fun z_1 ez_1 => ?_)
      have hz_1 : iv 0 79 z_1 := iv_of ez_1 (MI_a hI 42 hx2_2 (by decide))
      refine lv_iconst (v := 4) hx hb dX13_argsOf_9 (by decide) ?_
      refine lv_iconst (v := 0) hx hb dX13_argsOf_10 (by decide) ?_
      refine mr_calli (rest := []) ⟨hx, hb, hml, hown, htb⟩ (f_inner l dC dI h0 ad cid sg gm lg z_1 4 0 hI (iv_w hz_1 (by decide)) (iv_w (iv_k (by decide) : iv 4 4 4) (by decide)) (iv_w (iv_k (by decide) : iv 0 0 0) (by decide))) (cwV 3 htb (gd_V kw_961 kw_962 kw_963 kw_5 kw_1557) rfl rfl rfl (by decide +kernel) ⟨Nat.le_of_ble_eq_true rfl, Nat.le_of_ble_eq_true rfl⟩) rfl hl.1 rfl (Nat.le_of_ble_eq_true rfl) dX13_argsOf_11 ⟨Nat.zero_le _, Nat.zero_le _⟩ hK hP hD hS hA (fun r_2 u_3 H locs hw hP hD hS => ?_)
      obtain ⟨hr_2, fN_r_2, rfl⟩ := hw
      have hP : va_P (dC, dI) vwCl (mW h0 ad cid sg gm lg) H := hP
      have hD : va_D A (mW h0 ad cid sg gm lg) := hD
      refine lv_iconst (v := (-1)) hx hb dX13_argsOf_14 (by decide) ?_
      refine lv_icmp_ne (tgt := 36) hx hb dX13_argsOf_15 (by decide) (fun c_4 => ?_) (fun c_4 => ?_)
      · have h_5 : iv 0 79 r_2 := iv_neL c_4 hr_2 (by decide)
        exact hj36 x2_2 hx2_2 hsx1_2 ((hao.trans (ao_y (show iv 0 80 (sg 41) from MI_s hI 41) hac (hx2_2).1 (fun q9 => c_4 (by rw [fN_r_2, ez_1]; exact q9.1)))).symm) (hlb) _ _ _ hP hD hS (lv_sub hl [0, 1, 2] rfl)
      · have h_6 : iv (-1) (-1) r_2 := iv_eq c_4 hr_2 (iv_k (by decide) : iv (-1) (-1) (-1)) (by decide)
        refine lv_aload_n hx hb dX13_argsOf_18 rfl (lv_at hl 1 rfl) ?_
        refine lv_iload_n hx hb dX13_argsOf_19 rfl (lv_at hl 0 rfl) ?_
        refine mr_calli (rest := []) ⟨hx, hb, hml, hown, htb⟩ (f_parentOf l dC dI h0 ad cid sg gm lg x2_2 hI hx2_2) (cwV 1 htb (gd_V kw_949 kw_950 kw_951 kw_5 kw_1553) rfl rfl rfl (by decide +kernel) ⟨Nat.le_of_ble_eq_true rfl, Nat.le_of_ble_eq_true rfl⟩) rfl hl.1 rfl (Nat.le_of_ble_eq_true rfl) dX13_argsOf_20 ⟨Nat.zero_le _, Nat.zero_le _⟩ hK hP hD hS hA (fun r_7 u_8 H locs hw hP hD hS => ?_)
        obtain ⟨hr_7, fP_r_7, rfl⟩ := hw
        have hP : va_P (dC, dI) vwCl (mW h0 ad cid sg gm lg) H := hP
        have hD : va_D A (mW h0 ad cid sg gm lg) := hD
        refine lv_iconst (v := (-1)) hx hb dX13_argsOf_23 (by decide) ?_
        refine lv_icmp_eq (tgt := 36) hx hb dX13_argsOf_24 (by decide) (fun c_9 => ?_) (fun c_9 => ?_)
        · have h_10 : iv (-1) (-1) r_7 := iv_eq c_9 hr_7 (iv_k (by decide) : iv (-1) (-1) (-1)) (by decide)
          exact hj36 x2_2 hx2_2 hsx1_2 ((hao.trans (ao_y (show iv 0 80 (sg 41) from MI_s hI 41) hac (hx2_2).1 (fun q9 => q9.2 (by rw [← fP_r_7]; exact c_9)))).symm) (hlb) _ _ _ hP hD hS (lv_sub hl [0, 1, 2] rfl)
        · have h_11 : iv 0 79 r_7 := iv_neL c_9 hr_7 (by decide)
          refine lv_aload_n hx hb dX13_argsOf_27 rfl (lv_at hl 1 rfl) ?_
          refine lv_iload_n hx hb dX13_argsOf_28 rfl (lv_at hl 0 rfl) ?_
          refine mr_calli (rest := []) ⟨hx, hb, hml, hown, htb⟩ (f_parentOf l dC dI h0 ad cid sg gm lg x2_2 hI hx2_2) (cwV 1 htb (gd_V kw_949 kw_950 kw_951 kw_5 kw_1553) rfl rfl rfl (by decide +kernel) ⟨Nat.le_of_ble_eq_true rfl, Nat.le_of_ble_eq_true rfl⟩) rfl hl.1 rfl (Nat.le_of_ble_eq_true rfl) dX13_argsOf_29 ⟨Nat.zero_le _, Nat.zero_le _⟩ hK hP hD hS hA (fun r_12 u_13 H locs hw hP hD hS => ?_)
          obtain ⟨hr_12, fP_r_12, rfl⟩ := hw
          have hP : va_P (dC, dI) vwCl (mW h0 ad cid sg gm lg) H := hP
          have hD : va_D A (mW h0 ad cid sg gm lg) := hD
          obtain rfl : r_7 = r_12 := fP_r_7.trans fP_r_12.symm
          refine lv_istore_n (lv' := [(2, .int r_7), (0, .ref h0), (1, .int b)]) hx hb dX13_argsOf_32 rfl hl (by decide) rfl (fun ls hl => ?_)
          refine lv_goto (tgt := 2) hx hb dX13_argsOf_33 (by decide) ?_
          exact ih2 _ (by rw [← hn2]; exact (dP_lt (show iv 0 80 (sg 41) from MI_s hI 41) hac (hx2_2).1 fP_r_7)) r_7 rfl h_11 hsx1_2 (hao.trans (by rw [ao_n (show iv 0 80 (sg 41) from MI_s hI 41) hac (hx2_2).1 ⟨by rw [← ez_1, ← fN_r_2]; exact c_4, by rw [← fP_r_7]; exact c_9⟩, ← fP_r_7])) (par_lt (show iv 0 80 (sg 41) from MI_s hI 41) fP_r_7) _ _ _ hP hD hS (lv_sub hl [0, 1, 2] rfl)
  refine lv_iload_n hx hb dX13_argsOf_0 rfl (lv_at hl 1 rfl) ?_
  refine lv_istore_n (lv' := [(2, .int b), (0, .ref h0), (1, .int b)]) hx hb dX13_argsOf_1 rfl hl (by decide) rfl (fun ls hl => ?_)
  exact hj2 _ b rfl hvb hvb (rfl) (hbl) _ _ _ hP hD hS (lv_sub hl [0, 1, 2] rfl)

set_option maxHeartbeats 4000000 in
set_option maxRecDepth 100000 in
theorem f_arg (l : Launch) (dC : Nat → ClassId) (dI : Nat → Nat → Nat) (h0 : Nat) (ad : Nat → Nat) (cid : Nat → ClassId) (sg : Nat → Int32) (gm : Nat → Nat → Int32) (lg : Nat → Nat → Int64) (b : Int32) (nx : Int32) (hI : MI sg gm) (hvb : iv 0 79 b) (hvnx : iv 0 80 nx) (hbl : b.toInt < (sg 41).toInt) (hac : ACY sg gm lg) : MMi l dC dI yX13_arg wm_X13_arg ({ frames := 5, cells := 0, slots := 0, locals := 117 }) h0 ad cid [.int b, .int nx] sg gm lg (fun r v => (iv (-1) 79 r) ∧ (r = mArg sg gm lg b nx.toNatClampNeg) ∧ v = (sg, gm, lg)) := by
  intro sz
  refine Met.ofW (cc := cX13_arg) (maxL := 6) (ret := (some .int)) (by decide) rfl ?_
  intro p e s m args below meth c s₁ B hml hv
  obtain ⟨rfl, hsz, hP, hK, hD0⟩ := hv
  have hx := B.exec
  have hb := B.bytes
  have hr := B.returns
  have hts := atoms_spec (ws := wm_X13_arg) B.pre
  have htb := fun (w : Cond) (h : w ∈ tb) => hts w (List.mem_cons_of_mem _ h)
  have hown : s.vm.findClass RX13 = some m.cls := findClass_of_methodNamed B.named
  have hlocks := B.notSynchronized
  subst hsz
  have hD := hD0.self (sz := s.heap.size)
  generalize hAe : va_A (mW h0 ad cid sg gm lg) s.heap.size = A at hD ⊢
  have hA : ∀ q : Nat, s.heap.size ≤ q → A q := fun q h => by rw [← hAe]; exact Or.inr h
  have hS : va_S A s.heap s.heap [] := va_S.rf
  have hl := lv_entry ([.ref h0, .int b, .int nx]) (n := 6) (Nat.le_of_ble_eq_true rfl)
  rw [lg_entry_eq]
  generalize (lg_sl ([.ref h0, .int b, .int nx]) ++ List.replicate (6 - (lg_sl ([.ref h0, .int b, .int nx])).length) Slot.unset).toArray = ls at hl ⊢
  have hl : lv_has ls 6 [(0, .ref h0), (1, .int b), (2, .int nx)] := hl
  have hj51 : ∀ (x5_51 : Int32) (x4_51 : Int32) (x3_51 : Int32) (_ : iv 0 80 x5_51) (_ : iv (-1) 79 x4_51) (_ : iv 0 79 x3_51) (_ : iv 0 79 b) (_ : iv 0 80 nx) (_ : x4_51 = mArg sg gm lg b nx.toNatClampNeg) (H : Heap) (locs : List Loc) (ls : Array Slot), va_P (dC, dI) vwCl (mW h0 ad cid sg gm lg) H → va_D A (mW h0 ad cid sg gm lg) → va_S A s.heap H locs → lv_has ls 6 [(5, .int x5_51), (4, .int x4_51), (3, .int x3_51), (0, .ref h0), (1, .int b), (2, .int nx)] → W p l e (headSpec wm_X13_arg ({ frames := 5, cells := 0, slots := 0, locals := 117 })).room s m ([.ref h0, .int b, .int nx] : List Value).toArray below meth c H locs 0 0 (MQ below (va_Qi (fun r v => (iv (-1) 79 r) ∧ (r = mArg sg gm lg b nx.toNatClampNeg) ∧ v = (sg, gm, lg)) (MB dC dI h0 ad cid A) A) ([.ref h0, .int b, .int nx] : List Value).toArray s 0 0 A) (F0 m 51 ls []) := by
    intro x5_51 x4_51 x3_51 hx5_51 hx4_51 hx3_51 hsx1_51 hsx2_51 hr9 H locs ls hP hD hS hl
    refine lv_iload hx hb dX13_arg_51 (lv_at hl 1 rfl) ?_
    exact W.iret (v := x4_51) hx hb hr (fun t ht hW => ⟨⟨x4_51, (sg, gm, lg), rfl, ⟨hx4_51, (hr9), rfl⟩, by rw [ht]; exact hP, va_K.moved hW.alike hK, hD⟩, hS.F ht⟩) hS.2.2 dX13_arg_53
  have hj23 : ∀ (n : Nat) (x5_23 : Int32) (x4_23 : Int32) (x3_23 : Int32) (_ : (80 - x5_23.toInt).toNat = n) (_ : iv 0 80 x5_23) (_ : iv (-1) 79 x4_23) (_ : iv 0 79 x3_23) (_ : iv 0 79 b) (_ : iv 0 80 nx) (_ : x4_23 = argF sg gm x3_23 x5_23.toNatClampNeg) (_ : x5_23.toInt ≤ nx.toInt) (_ : x3_23 = gm 42 (mAO sg gm lg b).toNatClampNeg) (H : Heap) (locs : List Loc) (ls : Array Slot), va_P (dC, dI) vwCl (mW h0 ad cid sg gm lg) H → va_D A (mW h0 ad cid sg gm lg) → va_S A s.heap H locs → lv_has ls 6 [(5, .int x5_23), (4, .int x4_23), (3, .int x3_23), (0, .ref h0), (1, .int b), (2, .int nx)] → W p l e (headSpec wm_X13_arg ({ frames := 5, cells := 0, slots := 0, locals := 117 })).room s m ([.ref h0, .int b, .int nx] : List Value).toArray below meth c H locs 0 0 (MQ below (va_Qi (fun r v => (iv (-1) 79 r) ∧ (r = mArg sg gm lg b nx.toNatClampNeg) ∧ v = (sg, gm, lg)) (MB dC dI h0 ad cid A) A) ([.ref h0, .int b, .int nx] : List Value).toArray s 0 0 A) (F0 m 23 ls []) := by
    intro n
    induction n using Nat.strongRecOn with
    | ind n ih23 =>
      intro x5_23 x4_23 x3_23 hn23 hx5_23 hx4_23 hx3_23 hsx1_23 hsx2_23 hag hln he9 H locs ls hP hD hS hl
      refine lv_iload hx hb dX13_arg_23 (lv_at hl 0 rfl) ?_
      refine lv_iload_n hx hb dX13_arg_25 rfl (lv_at hl 5 rfl) ?_
      refine lv_icmp_ge (tgt := 51) hx hb dX13_arg_26 (by decide) (fun c_1 => ?_) (fun c_1 => ?_)
      · have d_2 : (nx : Int32).toInt ≤ (x5_23 : Int32).toInt := Int32.le_iff_toInt_le.mp c_1
        exact hj51 x5_23 x4_23 x3_23 hx5_23 hx4_23 hx3_23 hsx1_23 hsx2_23 (by have q9 : x5_23.toNatClampNeg = nx.toNatClampNeg := (by have := le_cl hx5_23 hvnx (by decide) (by decide) hln; have := le_cl hvnx hx5_23 (by decide) (by decide) (by have := i32_0; have := i32_1; have := i32_2; have := i32_m1; have := (hsx1_23).1; have := (hsx1_23).2; have := (hsx2_23).1; have := (hsx2_23).2; have := (hx5_23).1; have := (hx5_23).2; have := (hx4_23).1; have := (hx4_23).2; have := (hx3_23).1; have := (hx3_23).2; omega); omega); unfold mArg; rw [← he9, ← q9]; exact hag) _ _ _ hP hD hS (lv_sub hl [0, 1, 2, 3, 4, 5] rfl)
      · have d_3 : (x5_23 : Int32).toInt < (nx : Int32).toInt := Int32.lt_iff_toInt_lt.mp (i32_lt c_1)
        have h_4 : iv 0 79 x5_23 := iv_ltL (i32_lt c_1) hx5_23 hsx2_23 (by decide)
        have h_5 : iv 1 80 nx := iv_ltR (i32_lt c_1) hx5_23 hsx2_23 (by decide)
        refine lv_iload hx hb dX13_arg_29 (lv_at hl 1 rfl) ?_
        refine lv_iconst (v := (-1)) hx hb dX13_arg_31 (by decide) ?_
        refine lv_icmp_eq (tgt := 51) hx hb dX13_arg_32 (by decide) (fun c_6 => ?_) (fun c_6 => ?_)
        · have h_7 : iv (-1) (-1) x4_23 := iv_eq c_6 hx4_23 (iv_k (by decide) : iv (-1) (-1) (-1)) (by decide)
          exact hj51 x5_23 x4_23 x3_23 (iv_w h_4 (by decide)) (iv_w h_7 (by decide)) hx3_23 hsx1_23 (iv_w h_5 (by decide)) (by unfold mArg; rw [← he9, argF_no (hag.symm.trans c_6) _ (le_cl (show iv 0 80 x5_23 from (iv_w h_4 (by decide))) hvnx (by decide) (by decide) hln)]; exact c_6) _ _ _ hP hD hS (lv_sub hl [0, 1, 2, 3, 4, 5] rfl)
        · have h_8 : iv 0 79 x4_23 := iv_neL c_6 hx4_23 (by decide)
          refine lv_aload_n hx hb dX13_arg_35 rfl (lv_at hl 3 rfl) ?_
          refine lv_iload_n hx hb dX13_arg_36 rfl (lv_at hl 2 rfl) ?_
          refine lv_iconst (v := 4) hx hb dX13_arg_37 (by decide) ?_
          refine lv_iload hx hb dX13_arg_38 (lv_at hl 1 rfl) ?_
          refine mr_calli (rest := []) ⟨hx, hb, hml, hown, htb⟩ (f_inner l dC dI h0 ad cid sg gm lg x3_23 4 x4_23 hI (iv_w hx3_23 (by decide)) (iv_w (iv_k (by decide) : iv 4 4 4) (by decide)) h_8) (cwV 3 htb (gd_V kw_961 kw_962 kw_963 kw_5 kw_1557) rfl rfl rfl (by decide +kernel) ⟨Nat.le_of_ble_eq_true rfl, Nat.le_of_ble_eq_true rfl⟩) rfl hl.1 rfl (Nat.le_of_ble_eq_true rfl) dX13_arg_40 ⟨Nat.zero_le _, Nat.zero_le _⟩ hK hP hD hS hA (fun r_9 u_10 H locs hw hP hD hS => ?_)
          obtain ⟨hr_9, fN_r_9, rfl⟩ := hw
          have hP : va_P (dC, dI) vwCl (mW h0 ad cid sg gm lg) H := hP
          have hD : va_D A (mW h0 ad cid sg gm lg) := hD
          refine lv_istore (lv' := [(4, .int r_9), (5, .int x5_23), (3, .int x3_23), (0, .ref h0), (1, .int b), (2, .int nx)]) hx hb dX13_arg_43 hl (by decide) rfl (fun ls hl => ?_)
          obtain ⟨z_11, ez_11⟩ : ∃ z : Int32, z = x5_23 + 1 := ⟨_, rfl⟩
          have hz_11 : iv 1 80 z_11 := iv_of ez_11 (iv_add h_4 (iv_k (by decide) : iv 1 1 1) (by decide))
          have tz_11 : z_11.toInt = x5_23.toInt + 1 := by rw [ez_11]; exact iv_addE h_4 (iv_k (by decide) : iv 1 1 1) (by decide)
          refine lv_iinc (v := z_11) (lv' := [(5, .int z_11), (4, .int r_9), (3, .int x3_23), (0, .ref h0), (1, .int b), (2, .int nx)]) hx hb dX13_arg_45 hl (k := 1) rfl ez_11.symm (by decide) rfl (fun ls hl => ?_)
          refine lv_goto (tgt := 23) hx hb dX13_arg_48 (by decide) ?_
          exact ih23 _ (by rw [← hn23]; exact (iv_meas tz_11 h_4 (by decide))) z_11 r_9 x3_23 rfl (iv_w hz_11 (by decide)) hr_9 hx3_23 hsx1_23 (iv_w h_5 (by decide)) (by rw [s_cl h_4 (by decide) tz_11]; exact argF_s hag c_6 fN_r_9) (by have := i32_0; have := i32_1; have := i32_2; have := i32_m1; have := (show iv 0 1200 (sg 20) from MI_s hI 20).1; have := (show iv 0 1200 (sg 20) from MI_s hI 20).2; have := (show iv 0 1201 (sg 21) from MI_s hI 21).1; have := (show iv 0 1201 (sg 21) from MI_s hI 21).2; have := (show iv 0 3 (sg 22) from MI_s hI 22).1; have := (show iv 0 3 (sg 22) from MI_s hI 22).2; have := (show iv 0 80 (sg 24) from MI_s hI 24).1; have := (show iv 0 80 (sg 24) from MI_s hI 24).2; have := (show iv 0 1201 (sg 25) from MI_s hI 25).1; have := (show iv 0 1201 (sg 25) from MI_s hI 25).2; have := (hsx1_23).1; have := (hsx1_23).2; have := (h_5).1; have := (h_5).2; have := (h_4).1; have := (h_4).2; have := (h_8).1; have := (h_8).2; have := (hx3_23).1; have := (hx3_23).2; have := (hr_9).1; have := (hr_9).2; have := (hz_11).1; have := (hz_11).2; omega) (he9) _ _ _ hP hD hS (lv_sub hl [0, 1, 2, 3, 4, 5] rfl)
  refine lv_aload_n hx hb dX13_arg_0 rfl (lv_at hl 0 rfl) ?_
  refine mr_get (v := .ref (ad 42)) hx hb htb inX13 hown hK hP 42 (by decide) (htb _ kw_196) rfl dX13_arg_1 ?_
  refine lv_aload_n hx hb dX13_arg_4 rfl (lv_at hl 0 rfl) ?_
  refine lv_iload_n hx hb dX13_arg_5 rfl (lv_at hl 1 rfl) ?_
  refine mr_calli (rest := [.ref (ad 42)]) ⟨hx, hb, hml, hown, htb⟩ (f_argsOf l dC dI h0 ad cid sg gm lg b hI hvb (by have := i32_0; have := i32_1; have := i32_2; have := i32_m1; have := (show iv 0 80 (sg 41) from MI_s hI 41).1; have := (show iv 0 80 (sg 41) from MI_s hI 41).2; have := (hvb).1; have := (hvb).2; have := (hvnx).1; have := (hvnx).2; omega) hac) (cwV 1 htb (gd_V kw_1180 kw_1181 kw_1182 kw_5 kw_1610) rfl rfl rfl (by decide +kernel) ⟨Nat.le_of_ble_eq_true rfl, Nat.le_of_ble_eq_true rfl⟩) rfl hl.1 rfl (Nat.le_of_ble_eq_true rfl) dX13_arg_6 ⟨Nat.zero_le _, Nat.zero_le _⟩ hK hP hD hS hA (fun r_12 u_13 H locs hw hP hD hS => ?_)
  obtain ⟨hr_12, fAO_r_12, fab_r_12, rfl⟩ := hw
  have hP : va_P (dC, dI) vwCl (mW h0 ad cid sg gm lg) H := hP
  have hD : va_D A (mW h0 ad cid sg gm lg) := hD
  refine mr_iald hx hb hK hP 33 (k := 42) rfl rfl rfl (show vp_in r_12 80 from (iv_in hr_12 (by decide))) dX13_arg_9 ?_
  refine lv_topi (fun z_14 ez_14 => ?_)
  have hz_14 : iv 0 79 z_14 := iv_of ez_14 (MI_a hI 42 hr_12 (by decide))
  refine lv_istore_n (lv' := [(3, .int z_14), (0, .ref h0), (1, .int b), (2, .int nx)]) hx hb dX13_arg_10 rfl hl (by decide) rfl (fun ls hl => ?_)
  refine lv_aload_n hx hb dX13_arg_11 rfl (lv_at hl 1 rfl) ?_
  refine lv_iload_n hx hb dX13_arg_12 rfl (lv_at hl 0 rfl) ?_
  refine lv_iconst (v := 4) hx hb dX13_arg_13 (by decide) ?_
  refine lv_iconst (v := 0) hx hb dX13_arg_14 (by decide) ?_
  refine mr_calli (rest := []) ⟨hx, hb, hml, hown, htb⟩ (f_inner l dC dI h0 ad cid sg gm lg z_14 4 0 hI (iv_w hz_14 (by decide)) (iv_w (iv_k (by decide) : iv 4 4 4) (by decide)) (iv_w (iv_k (by decide) : iv 0 0 0) (by decide))) (cwV 3 htb (gd_V kw_961 kw_962 kw_963 kw_5 kw_1557) rfl rfl rfl (by decide +kernel) ⟨Nat.le_of_ble_eq_true rfl, Nat.le_of_ble_eq_true rfl⟩) rfl hl.1 rfl (Nat.le_of_ble_eq_true rfl) dX13_arg_15 ⟨Nat.zero_le _, Nat.zero_le _⟩ hK hP hD hS hA (fun r_15 u_16 H locs hw hP hD hS => ?_)
  obtain ⟨hr_15, fN_r_15, rfl⟩ := hw
  have hP : va_P (dC, dI) vwCl (mW h0 ad cid sg gm lg) H := hP
  have hD : va_D A (mW h0 ad cid sg gm lg) := hD
  refine lv_istore (lv' := [(4, .int r_15), (3, .int z_14), (0, .ref h0), (1, .int b), (2, .int nx)]) hx hb dX13_arg_18 hl (by decide) rfl (fun ls hl => ?_)
  refine lv_iconst (v := 0) hx hb dX13_arg_20 (by decide) ?_
  refine lv_istore (lv' := [(5, .int 0), (4, .int r_15), (3, .int z_14), (0, .ref h0), (1, .int b), (2, .int nx)]) hx hb dX13_arg_21 hl (by decide) rfl (fun ls hl => ?_)
  exact hj23 _ 0 r_15 z_14 rfl (iv_w (iv_k (by decide) : iv 0 0 0) (by decide)) hr_15 hz_14 hvb hvnx (fN_r_15) (by have := i32_0; have := i32_1; have := i32_2; have := i32_m1; have := (show iv 0 1200 (sg 20) from MI_s hI 20).1; have := (show iv 0 1200 (sg 20) from MI_s hI 20).2; have := (show iv 0 1201 (sg 21) from MI_s hI 21).1; have := (show iv 0 1201 (sg 21) from MI_s hI 21).2; have := (show iv 0 3 (sg 22) from MI_s hI 22).1; have := (show iv 0 3 (sg 22) from MI_s hI 22).2; have := (show iv 0 80 (sg 24) from MI_s hI 24).1; have := (show iv 0 80 (sg 24) from MI_s hI 24).2; have := (show iv 0 1201 (sg 25) from MI_s hI 25).1; have := (show iv 0 1201 (sg 25) from MI_s hI 25).2; have := (hvb).1; have := (hvb).2; have := (hvnx).1; have := (hvnx).2; have := (hr_12).1; have := (hr_12).2; have := (hz_14).1; have := (hz_14).2; have := (hr_15).1; have := (hr_15).2; omega) (by rw [← fAO_r_12]; exact ez_14) _ _ _ hP hD hS (lv_sub hl [0, 1, 2, 3, 4, 5] rfl)

set_option maxHeartbeats 4000000 in
set_option maxRecDepth 100000 in
theorem f_args (l : Launch) (dC : Nat → ClassId) (dI : Nat → Nat → Nat) (h0 : Nat) (ad : Nat → Nat) (cid : Nat → ClassId) (sg : Nat → Int32) (gm : Nat → Nat → Int32) (lg : Nat → Nat → Int64) (b : Int32) (hI : MI sg gm) (hvb : iv 0 79 b) (hbl : b.toInt < (sg 41).toInt) (hac : ACY sg gm lg) (hst : STR sg gm lg) : MMi l dC dI yX13_args wm_X13_args ({ frames := 6, cells := 0, slots := 0, locals := 142 }) h0 ad cid [.int b] sg gm lg (fun r v => (iv 0 4 r) ∧ (∀ k9, 0 ≤ k9 → k9 < r.toNatClampNeg → ¬ mArg sg gm lg b k9 = -1) ∧ (mArg sg gm lg b r.toNatClampNeg = -1) ∧ v = (sg, gm, lg)) := by
  intro sz
  refine Met.ofW (cc := cX13_args) (maxL := 3) (ret := (some .int)) (by decide) rfl ?_
  intro p e s m args below meth c s₁ B hml hv
  obtain ⟨rfl, hsz, hP, hK, hD0⟩ := hv
  have hx := B.exec
  have hb := B.bytes
  have hr := B.returns
  have hts := atoms_spec (ws := wm_X13_args) B.pre
  have htb := fun (w : Cond) (h : w ∈ tb) => hts w (List.mem_cons_of_mem _ h)
  have hown : s.vm.findClass RX13 = some m.cls := findClass_of_methodNamed B.named
  have hlocks := B.notSynchronized
  subst hsz
  have hD := hD0.self (sz := s.heap.size)
  generalize hAe : va_A (mW h0 ad cid sg gm lg) s.heap.size = A at hD ⊢
  have hA : ∀ q : Nat, s.heap.size ≤ q → A q := fun q h => by rw [← hAe]; exact Or.inr h
  have hS : va_S A s.heap s.heap [] := va_S.rf
  have hl := lv_entry ([.ref h0, .int b]) (n := 3) (Nat.le_of_ble_eq_true rfl)
  rw [lg_entry_eq]
  generalize (lg_sl ([.ref h0, .int b]) ++ List.replicate (3 - (lg_sl ([.ref h0, .int b])).length) Slot.unset).toArray = ls at hl ⊢
  have hl : lv_has ls 3 [(0, .ref h0), (1, .int b)] := hl
  have hj2 : ∀ (n : Nat) (x2_2 : Int32) (_ : (4 - x2_2.toInt).toNat = n) (_ : iv 0 4 x2_2) (_ : iv 0 79 b) (_ : ∀ k9, 0 ≤ k9 → k9 < x2_2.toNatClampNeg → ¬ mArg sg gm lg b k9 = -1) (H : Heap) (locs : List Loc) (ls : Array Slot), va_P (dC, dI) vwCl (mW h0 ad cid sg gm lg) H → va_D A (mW h0 ad cid sg gm lg) → va_S A s.heap H locs → lv_has ls 3 [(2, .int x2_2), (0, .ref h0), (1, .int b)] → W p l e (headSpec wm_X13_args ({ frames := 6, cells := 0, slots := 0, locals := 142 })).room s m ([.ref h0, .int b] : List Value).toArray below meth c H locs 0 0 (MQ below (va_Qi (fun r v => (iv 0 4 r) ∧ (∀ k9, 0 ≤ k9 → k9 < r.toNatClampNeg → ¬ mArg sg gm lg b k9 = -1) ∧ (mArg sg gm lg b r.toNatClampNeg = -1) ∧ v = (sg, gm, lg)) (MB dC dI h0 ad cid A) A) ([.ref h0, .int b] : List Value).toArray s 0 0 A) (F0 m 2 ls []) := by
    intro n
    induction n using Nat.strongRecOn with
    | ind n ih2 =>
      intro x2_2 hn2 hx2_2 hsx1_2 hal H locs ls hP hD hS hl
      refine lv_aload_n hx hb dX13_args_2 rfl (lv_at hl 1 rfl) ?_
      refine lv_iload_n hx hb dX13_args_3 rfl (lv_at hl 2 rfl) ?_
      refine lv_iload_n hx hb dX13_args_4 rfl (lv_at hl 0 rfl) ?_
      refine mr_calli (rest := []) ⟨hx, hb, hml, hown, htb⟩ (f_arg l dC dI h0 ad cid sg gm lg b x2_2 hI hsx1_2 (iv_w hx2_2 (by decide)) (by have := i32_0; have := i32_1; have := i32_2; have := i32_m1; have := (show iv 0 80 (sg 41) from MI_s hI 41).1; have := (show iv 0 80 (sg 41) from MI_s hI 41).2; have := (hsx1_2).1; have := (hsx1_2).2; have := (hx2_2).1; have := (hx2_2).2; omega) hac) (cwV 2 htb (gd_V kw_1177 kw_1178 kw_1179 kw_5 kw_1609) rfl rfl rfl (by decide +kernel) ⟨Nat.le_of_ble_eq_true rfl, Nat.le_of_ble_eq_true rfl⟩) rfl hl.1 rfl (Nat.le_of_ble_eq_true rfl) dX13_args_5 ⟨Nat.zero_le _, Nat.zero_le _⟩ hK hP hD hS hA (fun r_1 u_2 H locs hw hP hD hS => ?_)
      obtain ⟨hr_1, fR_r_1, rfl⟩ := hw
      have hP : va_P (dC, dI) vwCl (mW h0 ad cid sg gm lg) H := hP
      have hD : va_D A (mW h0 ad cid sg gm lg) := hD
      refine lv_iconst (v := (-1)) hx hb dX13_args_8 (by decide) ?_
      refine lv_icmp_eq (tgt := 18) hx hb dX13_args_9 (by decide) (fun c_3 => ?_) (fun c_3 => ?_)
      · have h_4 : iv (-1) (-1) r_1 := iv_eq c_3 hr_1 (iv_k (by decide) : iv (-1) (-1) (-1)) (by decide)
        refine lv_iload_n hx hb dX13_args_18 rfl (lv_at hl 0 rfl) ?_
        exact W.iret (v := x2_2) hx hb hr (fun t ht hW => ⟨⟨x2_2, (sg, gm, lg), rfl, ⟨hx2_2, (hal), (by rw [← fR_r_1]; exact c_3), rfl⟩, by rw [ht]; exact hP, va_K.moved hW.alike hK, hD⟩, hS.F ht⟩) hS.2.2 dX13_args_19
      · have h_5 : iv 0 79 r_1 := iv_neL c_3 hr_1 (by decide)
        have hA9 : ¬ mArg sg gm lg b x2_2.toNatClampNeg = -1 := by rw [← fR_r_1]; exact c_3
        have h12 : iv 0 3 x2_2 := ⟨(hx2_2).1, by have q8 := arg_lt (show iv 0 80 (sg 24) from MI_s hI 24) hst hA9; have q9 := iv_cl hx2_2 (by decide); omega⟩
        obtain ⟨z_6, ez_6⟩ : ∃ z : Int32, z = x2_2 + 1 := ⟨_, rfl⟩
        have hz_6 : iv 1 4 z_6 := iv_of ez_6 (iv_add h12 (iv_k (by decide) : iv 1 1 1) (by decide))
        have tz_6 : z_6.toInt = x2_2.toInt + 1 := by rw [ez_6]; exact iv_addE h12 (iv_k (by decide) : iv 1 1 1) (by decide)
        refine lv_iinc (v := z_6) (lv' := [(2, .int z_6), (0, .ref h0), (1, .int b)]) hx hb dX13_args_12 hl (k := 0) rfl ez_6.symm (by decide) rfl (fun ls hl => ?_)
        refine lv_goto (tgt := 2) hx hb dX13_args_15 (by decide) ?_
        exact ih2 _ (by rw [← hn2]; exact (iv_meas tz_6 h12 (by decide))) z_6 rfl (iv_w hz_6 (by decide)) hsx1_2 (all_s h12 (by decide) tz_6 hal hA9) _ _ _ hP hD hS (lv_sub hl [0, 1, 2] rfl)
  refine lv_iconst (v := 0) hx hb dX13_args_0 (by decide) ?_
  refine lv_istore_n (lv' := [(2, .int 0), (0, .ref h0), (1, .int b)]) hx hb dX13_args_1 rfl hl (by decide) rfl (fun ls hl => ?_)
  exact hj2 _ 0 rfl (iv_w (iv_k (by decide) : iv 0 0 0) (by decide)) hvb (fun k9 _ h9 => absurd h9 (Nat.not_lt_zero _)) _ _ _ hP hD hS (lv_sub hl [0, 1, 2] rfl)
