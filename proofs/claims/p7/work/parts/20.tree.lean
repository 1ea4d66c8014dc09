/-- how many of the first n stand within k -/
def cntA (f : Nat → Int32) (k : Nat) : Nat → Nat
  | 0 => 0
  | n + 1 => cntA f k n + (if (f n).toInt = (k : Int) then 1 else 0)
theorem cntA_congr {f g : Nat → Int32} {k : Nat} : ∀ {n : Nat}, (∀ j, j < n → g j = f j) → cntA g k n = cntA f k n := by
  intro n
  induction n with
  | zero => intro _; rfl
  | succ n ih =>
    intro h
    show cntA g k n + _ = cntA f k n + _
    rw [ih (fun j hj => h j (by omega)), h n (by omega)]
theorem cntA_le (f : Nat → Int32) (k : Nat) : ∀ n, cntA f k n ≤ n := by
  intro n
  induction n with
  | zero => exact Nat.le_refl 0
  | succ n ih =>
    show cntA f k n + _ ≤ n + 1
    split <;> omega
def TA (f : Nat → Int32) (n : Nat) : Prop := ∀ k, k < n → (f k).toInt < (k : Int) ∧ (k = 0 ∨ 0 ≤ (f k).toInt)
def TB (f w : Nat → Int32) (n : Nat) : Prop := ∀ k, k < n → (w k).toInt = (cntA f k n : Int)
theorem cntA_0 {f : Nat → Int32} {n k : Nat} (h : TA f n) (hk : n ≤ k) : ∀ m, m ≤ n → cntA f k m = 0 := by
  intro m
  induction m with
  | zero => intro _; rfl
  | succ m ih =>
    intro hm
    show cntA f k m + _ = 0
    have h1 := (h m (by omega)).1
    rw [ih (by omega), if_neg (by omega)]
/-- the level of an element: d steps up and out -/
def LV (f : Nat → Int32) : Nat → Int → Prop
  | 0, x => x = -1
  | d + 1, x => 0 ≤ x ∧ LV f d (f x.toNat).toInt
theorem LV_le {f : Nat → Int32} {n : Nat} (h : TA f n) : ∀ (d : Nat) (x : Int), x < (n : Int) → LV f d x → (d : Int) ≤ x + 1 := by
  intro d
  induction d with
  | zero => intro x _ hx; have hx : x = -1 := hx; omega
  | succ d ih =>
    intro x hn hx
    obtain ⟨h0, h1⟩ := hx
    have h2 := (h x.toNat (by omega)).1
    have h3 := ih _ (by omega) h1
    omega
theorem LV_congr {f g : Nat → Int32} {n : Nat} (h : TA f n) (hg : ∀ j, j < n → g j = f j) : ∀ (d : Nat) (x : Int), x < (n : Int) → LV f d x → LV g d x := by
  intro d
  induction d with
  | zero => intro x _ hx; exact hx
  | succ d ih =>
    intro x hn hx
    obtain ⟨h0, h1⟩ := hx
    have h2 := (h x.toNat (by omega)).1
    refine ⟨h0, ?_⟩
    rw [hg x.toNat (by omega)]
    exact ih _ (by omega) h1
/-- the tree of the elements read so far; T bounds the whites that wait -/
def TR (sg : Nat → Int32) (gm : Nat → Nat → Int32) (lg : Nat → Nat → Int64) (T : Int) : Prop := (TA (gm 28) (sg 24).toNatClampNeg ∧ TB (gm 28) (gm 29) (sg 24).toNatClampNeg) ∧ (∀ k, k < (sg 24).toNatClampNeg → (gm 32 k).toInt ≤ T) ∧ ∀ k, k < (sg 24).toNatClampNeg → 0 ≤ (lg 34 k).toInt
def RD (sg : Nat → Int32) (gm : Nat → Nat → Int32) (lg : Nat → Nat → Int64) (x d : Int32) (T : Int) : Prop := TR sg gm lg T ∧ (d.toInt = 0 ∨ (LV (gm 28) d.toInt.toNat x.toInt ∧ x.toInt < (sg 24).toInt ∧ 1 ≤ d.toInt))
theorem RD_keep {sg sg2 : Nat → Int32} {gm gm2 : Nat → Nat → Int32} {lg lg2 : Nat → Nat → Int64} {x d : Int32} {T T2 : Int} (h : RD sg gm lg x d T) (h24 : sg2 24 = sg 24) (h28 : gm2 28 = gm 28) (h29 : gm2 29 = gm 29) (h34 : lg2 34 = lg 34) (h32 : ∀ k, (gm2 32 k).toInt ≤ (gm 32 k).toInt + (T2 - T)) : RD sg2 gm2 lg2 x d T2 := by
  obtain ⟨⟨⟨a1, a2⟩, a3, a4⟩, a5⟩ := h
  unfold RD TR
  rw [h24, h28, h29, h34]
  exact ⟨⟨⟨a1, a2⟩, fun k hk => by have := a3 k hk; have := h32 k; omega, a4⟩, a5⟩
theorem RD_e {sg : Nat → Int32} {gm : Nat → Nat → Int32} {lg : Nat → Nat → Int64} {x d : Int32} {T : Int} (h : RD sg gm lg x d T) (hn : iv 0 80 (sg 24)) (hd : 1 ≤ d.toInt) : iv 0 79 x ∧ d.toInt ≤ x.toInt + 1 ∧ x.toInt < (sg 24).toInt ∧ x.toNatClampNeg < (sg 24).toNatClampNeg := by
  have k1 := iv_cl hn (by decide)
  have k2 := hn.2
  rcases h.2 with h0 | ⟨h1, h2, h3⟩
  · omega
  · obtain ⟨j, hj⟩ : ∃ j : Nat, d.toInt.toNat = j + 1 := ⟨d.toInt.toNat - 1, by omega⟩
    have h4 := LV_le h.1.1.1 d.toInt.toNat x.toInt (by omega) h1
    rw [hj] at h1
    have h5 : 0 ≤ x.toInt := h1.1
    have h6 : iv 0 79 x := ⟨h5, by omega⟩
    have k3 := iv_cl h6 (by decide)
    exact ⟨h6, by omega, h2, by omega⟩
theorem RD_out {sg : Nat → Int32} {gm : Nat → Nat → Int32} {lg : Nat → Nat → Int64} {x d x2 d2 : Int32} {T : Int} (h : RD sg gm lg x d T) (hn : iv 0 80 (sg 24)) (hd : 1 ≤ d.toInt) (hx : x2 = gm 28 x.toNatClampNeg) (h2 : d2.toInt = d.toInt - 1) : RD sg gm lg x2 d2 T := by
  obtain ⟨k1, k2, k3, k4⟩ := RD_e h hn hd
  have k5 := iv_cl k1 (by decide)
  refine ⟨h.1, ?_⟩
  by_cases h0 : d2.toInt = 0
  · exact Or.inl h0
  · rcases h.2 with q0 | ⟨q1, q2, q3⟩
    · omega
    · have hj : d.toInt.toNat = d2.toInt.toNat + 1 := by omega
      rw [hj] at q1
      have q4 := q1.2
      have hx3 : x.toInt.toNat = x.toNatClampNeg := rfl
      rw [hx3, ← hx] at q4
      have q5 := (h.1.1.1 x.toNatClampNeg k4).1
      rw [← hx] at q5
      exact Or.inr ⟨q4, by omega, by omega⟩
theorem updL_ne {f : Nat → Int64} {k j : Nat} {v : Int64} (h : j ≠ k) : vp_updL f k v j = f j := by
  show (if j = k then v else f j) = _
  rw [if_neg h]
theorem updL_at {f : Nat → Int64} {k : Nat} {v : Int64} : vp_updL f k v k = v := by
  show (if k = k then v else f k) = _
  rw [if_pos rfl]
theorem upd_ne {f : Nat → Int32} {k j : Nat} {v : Int32} (h : j ≠ k) : upd f k v j = f j := by
  show (if j = k then v else f j) = _
  rw [if_neg h]
theorem upd_at {f : Nat → Int32} {k : Nat} {v : Int32} : upd f k v k = v := by
  show (if k = k then v else f k) = _
  rw [if_pos rfl]
/-- begin makes the tree larger by one -/
theorem BG_TR {sg sg2 : Nat → Int32} {gm gm2 : Nat → Nat → Int32} {lg lg2 : Nat → Nat → Int64} {a r : Int32} {T T2 : Int} (hb : BG sg gm lg a sg2 gm2 lg2 r) (h : TR sg gm lg T) (hT : T ≤ T2) (h0 : 0 ≤ T2) (hn : iv 0 80 (sg 24)) (hn2 : iv 0 80 (sg2 24)) (ha : iv (-1) 79 a) (hlt : a.toInt < (sg 24).toInt) (hz : (sg 24).toInt = 0 ∨ 0 ≤ a.toInt) : TR sg2 gm2 lg2 T2 ∧ (sg2 24).toNatClampNeg = (sg 24).toNatClampNeg + 1 := by
  obtain ⟨b1, b2, b3, b4, b5, b6, nm, b7, b8⟩ := hb
  obtain ⟨⟨a1, a2⟩, a3, a4⟩ := h
  have k1 := iv_cl hn (by decide)
  have k2 := iv_cl hn2 (by decide)
  have k3 : (sg2 24).toNatClampNeg = (sg 24).toNatClampNeg + 1 := by omega
  have q1 := ha.1
  refine ⟨?_, k3⟩
  generalize hE : (sg 24).toNatClampNeg = E at *
  have fo : ∀ j, j < E → gm2 28 j = gm 28 j := fun j hj => by rw [b4, upd_ne (by omega)]
  have fE : gm2 28 E = a := by rw [b4, upd_at]
  have wk : ∀ k, k < E → (gm2 29 k).toInt = (gm 29 k).toInt + (if a.toInt = (k : Int) then 1 else 0) := by
    intro k hk
    rw [b5]
    unfold wth
    by_cases hm : a = -1
    · rw [if_pos hm, upd_ne (by omega), if_neg (by rw [hm]; show ¬ (-1 : Int) = k; omega)]
      omega
    · rw [if_neg hm]
      have hm2 : a.toInt ≠ -1 := fun q => hm (Int32.toInt_inj.mp q)
      have hav : iv 0 79 a := ⟨by omega, ha.2⟩
      have k5 := iv_cl hav (by decide)
      by_cases hk2 : k = a.toNatClampNeg
      · subst hk2
        rw [upd_at, upd_ne (by omega), if_pos (by omega)]
        have c1 := a2 a.toNatClampNeg hk
        have c2 := cntA_le (gm 28) a.toNatClampNeg E
        exact iv_addE (a := 0) (b := 79) (c := 1) (d := 1) ⟨by omega, by omega⟩ (iv_k (by decide)) (by decide)
      · rw [upd_ne hk2, upd_ne (by omega), if_neg (by omega)]
        omega
  have wE : (gm2 29 E).toInt = 0 := by
    rw [b5]
    unfold wth
    by_cases hm : a = -1
    · rw [if_pos hm, upd_at]; rfl
    · rw [if_neg hm]
      have hm2 : a.toInt ≠ -1 := fun q => hm (Int32.toInt_inj.mp q)
      have hav : iv 0 79 a := ⟨by omega, ha.2⟩
      have k5 := iv_cl hav (by decide)
      rw [upd_ne (by omega), upd_at]; rfl
  have cc : ∀ k, cntA (gm2 28) k (E + 1) = cntA (gm 28) k E + (if a.toInt = (k : Int) then 1 else 0) := by
    intro k
    show cntA (gm2 28) k E + _ = _
    rw [cntA_congr fo, fE]
  unfold TR
  rw [k3]
  refine ⟨⟨?_, ?_⟩, ?_, ?_⟩
  · intro k hk
    by_cases hk2 : k = E
    · subst hk2; rw [fE]; exact ⟨by omega, by omega⟩
    · rw [fo k (by omega)]; exact a1 k (by omega)
  · intro k hk
    rw [cc k]
    by_cases hk2 : k = E
    · subst hk2
      rw [wE, cntA_0 a1 (Nat.le_refl _) _ (Nat.le_refl _), if_neg (by omega)]
      rfl
    · rw [wk k (by omega), a2 k (by omega)]
      split <;> simp
  · intro k hk
    rw [b6]
    by_cases hk2 : k = E
    · subst hk2; rw [upd_at]; exact h0
    · rw [upd_ne hk2]; exact Int.le_trans (a3 k (by omega)) hT
  · intro k hk
    rw [b8]
    by_cases hk2 : k = E
    · subst hk2; rw [updL_at]; exact b7
    · rw [updL_ne hk2]; exact a4 k (by omega)
theorem RD_in {sg sg2 : Nat → Int32} {gm gm2 : Nat → Nat → Int32} {lg lg2 : Nat → Nat → Int64} {a d d2 r : Int32} {T T2 : Int} (hb : BG sg gm lg a sg2 gm2 lg2 r) (h : RD sg gm lg a d T) (hT : T ≤ T2) (h0 : 0 ≤ T2) (hn : iv 0 80 (sg 24)) (hn2 : iv 0 80 (sg2 24)) (hd : 1 ≤ d.toInt) (h2 : d2.toInt = d.toInt + 1) : RD sg2 gm2 lg2 r d2 T2 := by
  obtain ⟨k1, k2, k3, k4⟩ := RD_e h hn hd
  obtain ⟨t1, t2⟩ := BG_TR hb h.1 hT h0 hn hn2 (iv_w k1 (by decide)) k3 (Or.inr k1.1)
  refine ⟨t1, Or.inr ?_⟩
  obtain ⟨b1, b2, b3, b4, _⟩ := hb
  have q1 := iv_cl hn (by decide)
  rcases h.2 with q0 | ⟨l1, l2, l3⟩
  · omega
  have hj : d2.toInt.toNat = d.toInt.toNat + 1 := by omega
  rw [hj, b1]
  refine ⟨⟨hn.1, ?_⟩, by omega, by omega⟩
  have e9 : (sg 24).toInt.toNat = (sg 24).toNatClampNeg := rfl
  rw [e9]
  have f1 : gm2 28 (sg 24).toNatClampNeg = a := by rw [b4, upd_at]
  rw [f1]
  exact LV_congr h.1.1.1 (fun j hj9 => by rw [b4, upd_ne (by omega)]) _ _ (by omega) l1
theorem RD_by {sg sg2 : Nat → Int32} {gm gm2 : Nat → Nat → Int32} {lg lg2 : Nat → Nat → Int64} {a d r : Int32} {T T2 : Int} (hb : BG sg gm lg a sg2 gm2 lg2 r) (h : RD sg gm lg a d T) (hT : T ≤ T2) (h0 : 0 ≤ T2) (hn : iv 0 80 (sg 24)) (hn2 : iv 0 80 (sg2 24)) (hd : 1 ≤ d.toInt) : RD sg2 gm2 lg2 a d T2 := by
  obtain ⟨k1, k2, k3, k4⟩ := RD_e h hn hd
  obtain ⟨t1, t2⟩ := BG_TR hb h.1 hT h0 hn hn2 (iv_w k1 (by decide)) k3 (Or.inr k1.1)
  refine ⟨t1, Or.inr ?_⟩
  obtain ⟨b1, b2, b3, b4, _⟩ := hb
  have q1 := iv_cl hn (by decide)
  rcases h.2 with q0 | ⟨l1, l2, l3⟩
  · omega
  exact ⟨LV_congr h.1.1.1 (fun j hj9 => by rw [b4, upd_ne (by omega)]) _ _ (by omega) l1, by omega, l3⟩
theorem RD_1 {sg sg2 : Nat → Int32} {gm gm2 : Nat → Nat → Int32} {lg lg2 : Nat → Nat → Int64} {r : Int32} {T2 : Int} (hb : BG sg gm lg (-1) sg2 gm2 lg2 r) (h : (sg 24).toInt = 0) (h0 : 0 ≤ T2) (hn2 : iv 0 80 (sg2 24)) : RD sg2 gm2 lg2 r 1 T2 := by
  have hn : iv 0 80 (sg 24) := ⟨by omega, by omega⟩
  have q1 := iv_cl hn (by decide)
  have e0 : (sg 24).toNatClampNeg = 0 := by omega
  obtain ⟨t1, t2⟩ := BG_TR (T := 0) hb ⟨⟨fun k hk => by omega, fun k hk => by omega⟩, fun k hk => by omega, fun k hk => by omega⟩ h0 h0 hn hn2 (iv_k (by decide)) (by rw [h]; decide) (Or.inl h)
  obtain ⟨b1, b2, b3, b4, _⟩ := hb
  refine ⟨t1, Or.inr ⟨?_, by rw [b1]; omega, by decide⟩⟩
  rw [b1, h]
  refine ⟨by decide, ?_⟩
  show (gm2 28 0).toInt = -1
  rw [b4, e0, upd_at]
  rfl
theorem RD_0 {sg : Nat → Int32} {gm : Nat → Nat → Int32} {lg : Nat → Nat → Int64} {x d : Int32} {T : Int} (h : RD sg gm lg x d T) : RD sg gm lg x 0 T := ⟨h.1, Or.inl rfl⟩
theorem RD_w {sg : Nat → Int32} {gm : Nat → Nat → Int32} {lg : Nat → Nat → Int64} {x d : Int32} {T T2 : Int} (h : RD sg gm lg x d T) (hT : T ≤ T2) : RD sg gm lg x d T2 := RD_keep h rfl rfl rfl rfl (fun k => by omega)
theorem RD_wi {sg : Nat → Int32} {gm : Nat → Nat → Int32} {lg : Nat → Nat → Int64} {x d : Int32} {T : Int} (h : RD sg gm lg x d T) (hn : iv 0 80 (sg 24)) (hd : 1 ≤ d.toInt) : (gm 29 x.toNatClampNeg).toInt ≤ (sg 24).toInt := by
  obtain ⟨k1, k2, k3, k4⟩ := RD_e h hn hd
  have k5 := iv_cl hn (by decide)
  have k6 := h.1.1.2 x.toNatClampNeg k4
  have k7 := cntA_le (gm 28) x.toNatClampNeg (sg 24).toNatClampNeg
  omega
/-- the tree when all is read -/
def TRE (sg : Nat → Int32) (gm : Nat → Nat → Int32) : Prop := TA (gm 28) (sg 24).toNatClampNeg ∧ TB (gm 28) (gm 29) (sg 24).toNatClampNeg
theorem TRE_keep {sg sg2 : Nat → Int32} {gm gm2 : Nat → Nat → Int32} (h : TRE sg gm) (h24 : sg2 24 = sg 24) (h28 : gm2 28 = gm 28) (h29 : gm2 29 = gm 29) : TRE sg2 gm2 := by
  unfold TRE at *
  rw [h24, h28, h29]
  exact h
