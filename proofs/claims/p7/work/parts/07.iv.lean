/-- x lies between a and b -/
def iv (a b : Int) (x : Int32) : Prop := a ≤ x.toInt ∧ x.toInt ≤ b
theorem iv_w {a b c d : Int} {x : Int32} (h : iv a b x) (hc : c ≤ a ∧ b ≤ d) : iv c d x := ⟨Int.le_trans hc.1 h.1, Int.le_trans h.2 hc.2⟩
theorem iv_k {a b : Int} {x : Int32} (h : a ≤ x.toInt ∧ x.toInt ≤ b) : iv a b x := h
theorem iv_of {a b : Int} {x y : Int32} (q : y = x) (h : iv a b x) : iv a b y := by rw [q]; exact h
theorem iv_all (x : Int32) : iv (-2147483648) 2147483647 x := ⟨Int32.le_toInt x, by have := Int32.toInt_lt x; omega⟩
theorem iv_no {a b : Int} {x : Int32} (h : iv a b x) (hc : b < a) : False := by
  have h1 := h.1
  have h2 := h.2
  omega
theorem i32_bm {z : Int} (h : -2147483648 ≤ z ∧ z ≤ 2147483647) : z.bmod (2 ^ 32) = z := by
  rw [Int.bmod_def]
  have : ((2 ^ 32 : Nat) : Int) = 4294967296 := by decide
  rw [this]
  split <;> omega
theorem iv_addE {a b c d : Int} {x y : Int32} (h1 : iv a b x) (h2 : iv c d y) (h : -2147483648 ≤ a + c ∧ b + d ≤ 2147483647) : (x + y).toInt = x.toInt + y.toInt := by
  have q1 := h1.1
  have q2 := h1.2
  have q3 := h2.1
  have q4 := h2.2
  rw [Int32.toInt_add, i32_bm]
  omega
theorem iv_add {a b c d lo hi : Int} {x y : Int32} (h1 : iv a b x) (h2 : iv c d y) (h : (-2147483648 ≤ a + c ∧ b + d ≤ 2147483647) ∧ lo ≤ a + c ∧ b + d ≤ hi) : iv lo hi (x + y) := by
  have q1 := h1.1
  have q2 := h1.2
  have q3 := h2.1
  have q4 := h2.2
  refine ⟨?_, ?_⟩ <;> rw [iv_addE h1 h2 h.1] <;> omega
theorem iv_subE {a b c d : Int} {x y : Int32} (h1 : iv a b x) (h2 : iv c d y) (h : -2147483648 ≤ a - d ∧ b - c ≤ 2147483647) : (x - y).toInt = x.toInt - y.toInt := by
  have q1 := h1.1
  have q2 := h1.2
  have q3 := h2.1
  have q4 := h2.2
  rw [Int32.toInt_sub, i32_bm]
  omega
theorem iv_sub {a b c d lo hi : Int} {x y : Int32} (h1 : iv a b x) (h2 : iv c d y) (h : (-2147483648 ≤ a - d ∧ b - c ≤ 2147483647) ∧ lo ≤ a - d ∧ b - c ≤ hi) : iv lo hi (x - y) := by
  have q1 := h1.1
  have q2 := h1.2
  have q3 := h2.1
  have q4 := h2.2
  refine ⟨?_, ?_⟩ <;> rw [iv_subE h1 h2 h.1] <;> omega
theorem iv_mulE {a b c d : Int} {x y : Int32} (h1 : iv a b x) (h2 : iv c d y) (h : (0 ≤ a ∧ 0 ≤ c) ∧ b * d ≤ 2147483647) : (x * y).toInt = x.toInt * y.toInt := by
  have q1 := h1.1
  have q2 := h1.2
  have q3 := h2.1
  have q4 := h2.2
  have k1 : 0 ≤ x.toInt * y.toInt := Int.mul_nonneg (by omega) (by omega)
  have k2 : x.toInt * y.toInt ≤ b * d := Int.mul_le_mul q2 q4 (by omega) (by omega)
  rw [Int32.toInt_mul, i32_bm]
  omega
theorem iv_mul {a b c d lo hi : Int} {x y : Int32} (h1 : iv a b x) (h2 : iv c d y) (h : ((0 ≤ a ∧ 0 ≤ c) ∧ b * d ≤ 2147483647) ∧ lo ≤ a * c ∧ b * d ≤ hi) : iv lo hi (x * y) := by
  have q1 := h1.1
  have q2 := h1.2
  have q3 := h2.1
  have q4 := h2.2
  have k1 : a * c ≤ x.toInt * y.toInt := Int.mul_le_mul q1 q3 (by omega) (by omega)
  have k2 : x.toInt * y.toInt ≤ b * d := Int.mul_le_mul q2 q4 (by omega) (by omega)
  refine ⟨?_, ?_⟩ <;> rw [iv_mulE h1 h2 h.1] <;> omega
theorem iv_ltL {a b c d hi : Int} {x y : Int32} (h : x < y) (h1 : iv a b x) (h2 : iv c d y) (q : d - 1 ≤ hi ∨ b ≤ hi) : iv a hi x := by
  have h := Int32.lt_iff_toInt_lt.mp h
  have q2 := h1.2
  have q4 := h2.2
  exact ⟨h1.1, by omega⟩
theorem iv_ltR {a b c d lo : Int} {x y : Int32} (h : x < y) (h1 : iv a b x) (h2 : iv c d y) (q : lo ≤ a + 1 ∨ lo ≤ c) : iv lo d y := by
  have h := Int32.lt_iff_toInt_lt.mp h
  have q2 := h1.1
  have q4 := h2.1
  exact ⟨by omega, h2.2⟩
theorem iv_leL {a b c d hi : Int} {x y : Int32} (h : x ≤ y) (h1 : iv a b x) (h2 : iv c d y) (q : d ≤ hi ∨ b ≤ hi) : iv a hi x := by
  have h := Int32.le_iff_toInt_le.mp h
  have q2 := h1.2
  have q4 := h2.2
  exact ⟨h1.1, by omega⟩
theorem iv_leR {a b c d lo : Int} {x y : Int32} (h : x ≤ y) (h1 : iv a b x) (h2 : iv c d y) (q : lo ≤ a ∨ lo ≤ c) : iv lo d y := by
  have h := Int32.le_iff_toInt_le.mp h
  have q2 := h1.1
  have q4 := h2.1
  exact ⟨by omega, h2.2⟩
theorem iv_eq {a b c d lo hi : Int} {x y : Int32} (h : x = y) (h1 : iv a b x) (h2 : iv c d y) (q : (lo ≤ a ∨ lo ≤ c) ∧ (b ≤ hi ∨ d ≤ hi)) : iv lo hi x := by
  subst h
  have q1 := h1.1
  have q2 := h1.2
  have q3 := h2.1
  have q4 := h2.2
  exact ⟨by omega, by omega⟩
theorem iv_neL {a b lo : Int} {x y : Int32} (h : ¬ x = y) (h1 : iv a b x) (q : y.toInt = a ∧ lo = a + 1) : iv lo b x := by
  have q1 := h1.1
  have q3 : x.toInt ≠ y.toInt := fun k => h (Int32.toInt_inj.mp k)
  exact ⟨by omega, h1.2⟩
theorem iv_neH {a b hi : Int} {x y : Int32} (h : ¬ x = y) (h1 : iv a b x) (q : y.toInt = b ∧ hi = b - 1) : iv a hi x := by
  have q1 := h1.2
  have q3 : x.toInt ≠ y.toInt := fun k => h (Int32.toInt_inj.mp k)
  exact ⟨h1.1, by omega⟩
theorem iv_at {x : Int32} {k : Int} (h : x.toInt = k) : iv k k x := ⟨by omega, by omega⟩
theorem iv_in {a b : Int} {x : Int32} {n : Nat} (h : iv a b x) (q : 0 ≤ a ∧ b < (n : Int)) : vp_in x n := vp_in_iff.mpr ⟨Int.le_trans q.1 h.1, Int.lt_of_le_of_lt h.2 q.2⟩
theorem iv_cl {a b : Int} {x : Int32} (h : iv a b x) (q : 0 ≤ a) : ((x.toNatClampNeg : Nat) : Int) = x.toInt := by
  have h1 := h.1
  show ((x.toInt.toNat : Nat) : Int) = x.toInt
  omega
theorem iv_nI {a b : Int} {x : Int32} (h : iv a b x) (q : 0 ≤ a) : nI x.toNatClampNeg = x := by
  have h1 := h.1
  have h2 := Int32.toInt_lt x
  have h3 := iv_cl h q
  apply Int32.toInt_inj.mp
  rw [nI_toInt (by omega)]
  exact h3
theorem iv_meas {a b M : Int} {x z : Int32} (h : z.toInt = x.toInt + 1) (h1 : iv a b x) (q : b < M) : (M - z.toInt).toNat < (M - x.toInt).toNat := by
  have h2 := h1.2
  omega
theorem iv_measD {a b M : Int} {x z : Int32} (h : z.toInt = x.toInt - 1) (h1 : iv a b x) (q : M < a) : (z.toInt - M).toNat < (x.toInt - M).toNat := by
  have h2 := h1.1
  omega
theorem iv_bool {x : Int32} (h : iv 0 1 x) : x = 0 ∨ x = 1 := by
  have h1 := h.1
  have h2 := h.2
  by_cases k : x.toInt = 0
  · exact Or.inl (Int32.toInt_inj.mp k)
  · exact Or.inr (Int32.toInt_inj.mp (by show x.toInt = 1; omega))
theorem iv_nb {x : Int32} (h : iv 0 1 x) : narrow .boolean (.int x) = .int x := by
  rcases iv_bool h with rfl | rfl <;> rfl
theorem iv_fb {x : Int32} (h : iv 0 1 x) : fits .boolean (.int x) = true := by
  rcases iv_bool h with rfl | rfl <;> rfl
theorem iv_vb {x : Int32} (h : iv 0 1 x) : vp_nar .boolean x = x := by
  rcases iv_bool h with rfl | rfl <;> rfl
theorem iv_cmp (x y : Int64) : iv (-1) 1 (lg_cmp x y) := by
  unfold lg_cmp
  split
  · exact iv_k (by decide)
  · split <;> exact iv_k (by decide)
theorem iv_byte (x : Int32) : iv (-128) 127 (x.toInt8.toInt32) := by
  have h1 := Int8.le_toInt x.toInt8
  have h2 := Int8.toInt_lt x.toInt8
  refine ⟨?_, ?_⟩ <;> rw [Int8.toInt_toInt32] <;> omega
theorem iv_vby (x : Int32) : iv (-128) 127 (vp_nar .byte x) := by rw [vp_nar_byte]; exact iv_byte x
theorem iv_vbz {a b : Int} {x : Int32} (h : iv a b x) (q : 0 ≤ a ∧ b ≤ 127) : vp_nar .byte x = x := by
  rw [vp_nar_byte]
  apply Int32.toInt_inj.mp
  have h1 := h.1
  have h2 := h.2
  rw [Int8.toInt_toInt32, Int32.toInt_toInt8, Int.bmod_def]
  have : ((2 ^ 8 : Nat) : Int) = 256 := by decide
  rw [this]
  split <;> omega
theorem i32_ge {x y : Int32} (h : ¬ x < y) : y ≤ x := Int32.not_lt.mp h
theorem i32_lt {x y : Int32} (h : ¬ y ≤ x) : x < y := Int32.not_le.mp h
/-- the two rows of numbers are alike but at the places L -/
def KS {α : Type} (L : List Nat) (f g : Nat → α) : Prop := ∀ k, L.contains k = false → g k = f k
theorem KS_rf {α : Type} {L : List Nat} {f : Nat → α} : KS L f f := fun _ _ => rfl
theorem KS_up {α : Type} {L : List Nat} {f g g1 : Nat → α} {k : Nat} {x : α} (h : KS L f g) (q : g1 = va_up g k x) (hk : L.contains k = true) : KS L f g1 := fun j hj => by
  rw [q, va_up_ne g x (fun e => by rw [e, hk] at hj; cases hj)]
  exact h j hj
theorem KS_tr {α : Type} {L M : List Nat} {f g g1 : Nat → α} (h : KS L f g) (q : KS M g g1) (hk : M.all (fun k => L.contains k) = true) : KS L f g1 := fun j hj => by
  have hm : M.contains j = false := by
    cases hc : M.contains j with
    | false => rfl
    | true =>
      have h1 := List.all_eq_true.mp hk j (List.contains_iff_mem.mp hc)
      rw [h1] at hj
      cases hj
  exact (q j hm).trans (h j hj)
theorem up_ne {α : Type} {g g1 : Nat → α} {k j : Nat} {x : α} (q : g1 = va_up g k x) (h : j ≠ k) : g1 j = g j := by rw [q, va_up_ne g x h]
theorem up_at {α : Type} {g g1 : Nat → α} {k : Nat} {x : α} (q : g1 = va_up g k x) : g1 k = x := by rw [q, va_up_self]
