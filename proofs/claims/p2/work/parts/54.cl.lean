theorem cat_i (a : Int32) : (Value.int a).category = 1 := rfl
theorem cat_l (a : Int64) : (Value.long a).category = 2 := rfl
theorem vin_lt {y : Int32} {n : Nat} (h : vp_in y n) : y.toNatClampNeg < n := by
  have := vp_in_iff.mp h
  have := iv_cl (a := 0) (b := y.toInt) (x := y) ⟨this.1, Int.le_refl _⟩ (by decide)
  omega
theorem vin_w {y x : Int32} {n N : Nat} {h : Int} (hy : vp_in y n) (hx : iv 0 h x) (hq : (n : Int) * (h + 1) ≤ (N : Int)) : n * x.toNatClampNeg + y.toNatClampNeg < N := by
  have h1 := vin_lt hy
  have h2 := iv_cl hx (by decide)
  have h3 := hx.2
  have h4 : n * x.toNatClampNeg + n ≤ N := by
    have : (n : Int) * ((x.toNatClampNeg : Int) + 1) ≤ (n : Int) * (h + 1) := Int.mul_le_mul_of_nonneg_left (by omega) (by omega)
    have e : (n : Int) * ((x.toNatClampNeg : Int) + 1) = ((n * x.toNatClampNeg + n : Nat) : Int) := by
      rw [Int.mul_add, Int.mul_one]; simp
    omega
  omega
theorem iv_ch {n : Nat} (h : n < 65536) : iv 0 65535 (nI n) := ⟨by rw [nI_toInt (by omega)]; omega, by rw [nI_toInt (by omega)]; omega⟩
theorem iv_i2c (x : Int32) : iv 0 65535 ((x : Int32).toUInt32 % 65536).toInt32 := by rw [pk_char]; exact iv_ch (Nat.mod_lt _ (by decide))
theorem iv_nIx {a b : Int} {x : Int32} (h : iv a b x) (ha : 0 ≤ a) : nI x.toNatClampNeg = x := Int32.toInt_inj.mp (by
  have h1 := iv_cl h ha
  have h2 := h.2
  rw [nI_toInt (by have := x.toInt_lt; omega), h1])
theorem iv_ncr {v : Int32} (h : iv 0 65535 v) : narrow .char (.int v) = .int v := by
  have h1 := iv_cl h (by decide)
  have h2 := h.2
  rw [← iv_nIx h (by decide)]; exact (pk_charN (by omega)).1
theorem vnc {v : Int32} (h : iv 0 65535 v) : vp_nar .char v = v := by
  unfold vp_nar; rw [iv_ncr h]
theorem sw_all : wSw.all (fun v => decide (0 ≤ v.toInt) && decide (v.toInt ≤ 29)) = true := by decide
theorem sw_iv (y : Int32) : iv 0 29 (wSw.getD y.toNatClampNeg 0) := by
  rw [List.getD_eq_getElem?_getD]
  cases h : wSw[y.toNatClampNeg]? with
  | none => exact ⟨by decide, by decide⟩
  | some v =>
    have := List.all_eq_true.mp sw_all v (List.mem_of_getElem? h)
    simp at this
    exact ⟨this.1, this.2⟩
