/-- v holds n letters -/
def NB (v : Int64) (n : Int32) : Prop := (0 ≤ v.toInt ∧ 2 * v.toInt < (256 : Int) ^ n.toInt.toNat) ∧ 0 ≤ n.toInt ∧ n.toInt ≤ 8
theorem NB_0 : NB 0 0 := ⟨⟨by decide, by decide⟩, by decide, by decide⟩
theorem l_nat {v : Int64} (h : 0 ≤ v.toInt) : (v.toBitVec.toNat : Int) = v.toInt := by
  have h1 : v.toBitVec.toInt = v.toInt := rfl
  rw [← h1] at h ⊢
  have h2 := BitVec.toInt_eq_toNat_cond v.toBitVec
  have h3 := v.toBitVec.isLt
  split at h2 <;> omega
theorem l_int {v : Int64} (h : v.toBitVec.toNat < 2 ^ 63) : v.toInt = (v.toBitVec.toNat : Int) := by
  have h1 : v.toBitVec.toInt = v.toInt := rfl
  rw [← h1]
  have h2 := BitVec.toInt_eq_toNat_cond v.toBitVec
  split at h2 <;> omega
theorem sh8 : ((8 : Int32).toInt64 &&& 63) = 8 := by decide
theorem lor8 {v : Int64} {x : Int32} (h0 : 0 ≤ v.toInt) (h1 : v.toInt < 2 ^ 55) (c0 : 0 ≤ x.toInt) (c1 : x.toInt ≤ 126) : ((v <<< ((8 : Int32).toInt64 &&& 63)) ||| x.toInt64).toInt = 256 * v.toInt + x.toInt := by
  rw [sh8]
  have k1 := l_nat h0
  have q0 : x.toInt64.toInt = x.toInt := Int32.toInt_toInt64 x
  have k2 := l_nat (v := x.toInt64) (by rw [q0]; exact c0)
  have k3 : ((v <<< (8 : Int64)) ||| x.toInt64).toBitVec.toNat = 256 * v.toBitVec.toNat + x.toInt64.toBitVec.toNat := by
    show ((v <<< (8 : Int64)).toBitVec ||| x.toInt64.toBitVec).toNat = _
    rw [BitVec.toNat_or]
    have k4 : (v <<< (8 : Int64)).toBitVec.toNat = v.toBitVec.toNat <<< 8 := by
      rw [Int64.toBitVec_shiftLeft]
      show (v.toBitVec <<< 8).toNat = _
      rw [BitVec.toNat_shiftLeft, Nat.shiftLeft_eq]
      have : v.toBitVec.toNat < 2 ^ 55 := by omega
      omega
    rw [k4, ← Nat.shiftLeft_add_eq_or_of_lt (show x.toInt64.toBitVec.toNat < 2 ^ 8 by omega), Nat.shiftLeft_eq]
    omega
  rw [l_int (by omega), k3]
  omega
theorem NB_s {v v1 w1 w2 : Int64} {n n1 x : Int32} (h : NB v n) (h7 : n.toInt ≤ 7) (tn : n1.toInt = n.toInt + 1) (c0 : 0 ≤ x.toInt) (c1 : x.toInt ≤ 126) (e1 : w1 = v <<< ((8 : Int32).toInt64 &&& 63)) (e2 : w2 = x.toInt64) (e3 : v1 = w1 ||| w2) : NB v1 n1 := by
  subst e1 e2 e3
  obtain ⟨⟨h0, h1⟩, h2, h3⟩ := h
  obtain ⟨j, hj⟩ : ∃ j : Nat, n.toInt = j := ⟨n.toInt.toNat, by omega⟩
  have hj2 : n.toInt.toNat = j := by omega
  have hj3 : n1.toInt.toNat = j + 1 := by omega
  rw [hj2] at h1
  have hp : (256 : Int) ^ j ≤ 256 ^ 7 := by
    rcases (show j = 0 ∨ j = 1 ∨ j = 2 ∨ j = 3 ∨ j = 4 ∨ j = 5 ∨ j = 6 ∨ j = 7 by omega) with h9 | h9 | h9 | h9 | h9 | h9 | h9 | h9 <;> rw [h9] <;> decide
  have hv : v.toInt < 2 ^ 55 := by
    have : (256 : Int) ^ 7 = 2 ^ 56 := by decide
    omega
  refine ⟨⟨?_, ?_⟩, by omega, by omega⟩
  · rw [lor8 h0 hv c0 c1]; omega
  · rw [lor8 h0 hv c0 c1, hj3, Int.pow_succ]
    omega
theorem shr8 {v w : Int64} (h0 : 0 ≤ v.toInt) (hz : ¬ v = 0) (h : w = v >>> ((8 : Int32).toInt64 &&& 63)) : 0 ≤ w.toInt ∧ w.toInt.toNat < v.toInt.toNat := by
  subst h
  rw [sh8]
  have k1 := l_nat h0
  have k4 : (v >>> (8 : Int64)).toBitVec.toNat = v.toBitVec.toNat / 256 := by
    rw [Int64.toBitVec_shiftRight]
    show (v.toBitVec.sshiftRight 8).toNat = _
    have hm : v.toBitVec.msb = false := by
      rw [BitVec.msb_eq_decide]
      have := v.toBitVec.isLt
      have h5 := Int64.toInt_lt v
      exact decide_eq_false (by omega)
    rw [BitVec.sshiftRight_eq_of_msb_false hm, BitVec.toNat_ushiftRight, Nat.shiftRight_eq_div_pow]
  have h6 : v.toInt ≠ 0 := fun k => hz (Int64.toInt_inj.mp k)
  have h7 := Int64.toInt_lt v
  have k5 : (v >>> (8 : Int64)).toInt = ((v >>> (8 : Int64)).toBitVec.toNat : Int) := l_int (by omega)
  rw [k5, k4]
  omega
