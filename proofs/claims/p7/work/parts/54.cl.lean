theorem cat_i (a : Int32) : (Value.int a).category = 1 := rfl
theorem cat_l (a : Int64) : (Value.long a).category = 2 := rfl
theorem vin_lt {y : Int32} {n : Nat} (h : vp_in y n) : y.toNatClampNeg < n := by
  have := vp_in_iff.mp h
  have := iv_cl (a := 0) (b := y.toInt) (x := y) ⟨this.1, Int.le_refl _⟩ (by decide)
  omega
theorem vin_w {y x : Int32} {n N : Nat} {h : Int} (hy : vp_in y n) (hx : iv 0 h x) (hq : (n : Int) * (h + 1) ≤ (N : Int)) : n * x.toNatClampNeg + y.toNatClampNeg < N := by
  have h1 := vin_lt hy
  have h2 := iv_cl hx (by decide)
  have h3 := hx.2
  have h4 : n * x.toNatClampNeg + n ≤ N := by
    have : (n : Int) * ((x.toNatClampNeg : Int) + 1) ≤ (n : Int) * (h + 1) := Int.mul_le_mul_of_nonneg_left (by omega) (by omega)
    have e : (n : Int) * ((x.toNatClampNeg : Int) + 1) = ((n * x.toNatClampNeg + n : Nat) : Int) := by
      rw [Int.mul_add, Int.mul_one]; simp
    omega
  omega
theorem iv_ch {n : Nat} (h : n < 65536) : iv 0 65535 (nI n) := ⟨by rw [nI_toInt (by omega)]; omega, by rw [nI_toInt (by omega)]; omega⟩
theorem iv_i2c (x : Int32) : iv 0 65535 ((x : Int32).toUInt32 % 65536).toInt32 := by rw [pk_char]; exact iv_ch (Nat.mod_lt _ (by decide))
theorem iv_nIx {a b : Int} {x : Int32} (h : iv a b x) (ha : 0 ≤ a) : nI x.toNatClampNeg = x := Int32.toInt_inj.mp (by
  have h1 := iv_cl h ha
  have h2 := h.2
  rw [nI_toInt (by have := x.toInt_lt; omega), h1])
theorem iv_ncr {v : Int32} (h : iv 0 65535 v) : narrow .char (.int v) = .int v := by
  have h1 := iv_cl h (by decide)
  have h2 := h.2
  rw [← iv_nIx h (by decide)]; exact (pk_charN (by omega)).1
theorem vnc {v : Int32} (h : iv 0 65535 v) : vp_nar .char v = v := by
  unfold vp_nar; rw [iv_ncr h]
theorem sw_all : wSw.all (fun v => decide (0 ≤ v.toInt) && decide (v.toInt ≤ 29)) = true := by decide
theorem sw_iv (y : Int32) : iv 0 29 (wSw.getD y.toNatClampNeg 0) := by
  rw [List.getD_eq_getElem?_getD]
  cases h : wSw[y.toNatClampNeg]? with
  | none => exact ⟨by decide, by decide⟩
  | some v =>
    have := List.all_eq_true.mp sw_all v (List.mem_of_getElem? h)
    simp at this
    exact ⟨this.1, this.2⟩
theorem we_inj {ad : Nat → Nat → Nat} {A : Nat → Prop} {s : State} (hG : CE ad A s) {i j : Nat} (hi : i < 34) (hj : j < 34) (h : ad 33 i = ad 33 j) : i = j := by
  obtain ⟨c1, k1, i1, f1, x1, a1, -, a3, -, a5, -⟩ := (hG.2.2.1.1 i hi).2.2.1
  obtain ⟨c2, k2, i2, f2, x2, b1, -, b3, -, b5, -⟩ := (hG.2.2.1.1 j hj).2.2.1
  rw [a1] at b1
  rw [h, b3] at a3
  cases b1; cases a3
  rw [b5] at a5
  have q := Value.int.inj (Option.some.inj a5)
  have q2 := congrArg Int32.toInt q
  rw [nI_toInt (by omega), nI_toInt (by omega)] at q2
  omega
theorem er_wd {ad : Nat → Nat → Nat} {A : Nat → Prop} {s : State} (hG : CE ad A s) {x y : Int32} (hx : iv (-1) 33 x) (hy : iv (-1) 33 y) (h : er (ad 33) x = er (ad 33) y) : x.toInt = y.toInt := by
  have x1 := hx.1; have x2 := hx.2; have y1 := hy.1; have y2 := hy.2
  by_cases a : x.toInt < 0
  · rw [er_none a] at h
    by_cases b : y.toInt < 0
    · omega
    · rw [er_some (by omega)] at h; cases h
  · rw [er_some (by omega)] at h
    by_cases b : y.toInt < 0
    · rw [er_none b] at h; cases h
    · rw [er_some (by omega)] at h
      have q1 := cl_0 (x := x) (by omega)
      have q2 := cl_0 (x := y) (by omega)
      have q := we_inj hG (i := x.toNatClampNeg) (j := y.toNatClampNeg) (by omega) (by omega) (Option.some.inj h)
      omega
theorem sw10a : ∀ n, n < 34 → 6 ≤ (wSw.getD n 0).toInt → (wSw.getD n 0).toInt ≤ 15 → (n : Int) = (wSw.getD n 0).toInt - 6 := by decide
theorem sw10 {y z : Int32} (hy : iv 0 33 y) (e : z = wSw.getD y.toNatClampNeg 0) (h6 : 6 ≤ z.toInt) (h15 : z.toInt ≤ 15) : y.toInt = z.toInt - 6 := by
  have q1 := iv_cl hy (by decide); have q2 := hy.2
  subst e
  have := sw10a y.toNatClampNeg (by omega) h6 h15
  omega
theorem sw27 {y z : Int32} (hy : iv 0 33 y) (e : z = wSw.getD y.toNatClampNeg 0) (h : ¬ z.toInt = 27) : ¬ y.toInt = 21 := fun q => by
  have q1 := iv_cl hy (by decide)
  rw [show y.toNatClampNeg = 21 by omega] at e
  rw [e] at h
  exact h (by decide)
theorem swx {y z : Int32} (n : Nat) (v : Int) (hn : (wSw.getD n 0).toInt = v) (hy : iv 0 33 y) (e : z = wSw.getD y.toNatClampNeg 0) (h : ¬ z.toInt = v) : ¬ y.toInt = (n : Int) := fun q => by
  have q1 := iv_cl hy (by decide)
  rw [show y.toNatClampNeg = n by omega] at e
  rw [e] at h
  exact h hn
theorem wky10 : ∀ n, n < 34 → wKy.getD n 0 = wKy.getD 10 0 → n = 10 := by decide
theorem wky21 : ∀ n, n < 34 → wKy.getD n 0 = wKy.getD 21 0 → n = 21 := by decide
/-- an element stands in one with this word -/
def ISI (gm : Nat → Nat → Int32) (j : Nat) (a : Int32) : Prop := 0 ≤ (gm 15 j).toInt ∧ gm 14 (gm 15 j).toNatClampNeg = a
/-- an element bears an attribute with this key -/
def HSK (gm : Nat → Nat → Int32) (lg : Nat → Nat → Int64) (j : Nat) (k : Int64) : Prop := ∃ i, i < (gm 20 j).toNatClampNeg ∧ lg 0 ((gm 19 j).toNatClampNeg + i) = k
