theorem bN_lt (fo : Int32) {k : Nat} : ∀ n, k < n → ¬ bS fo k = 0 → bN fo k < bN fo n := by
  intro n
  induction n with
  | zero => intro h; exact absurd h (Nat.not_lt_zero k)
  | succ n ih =>
    intro h hz
    show _ < bN fo n + (if bS fo n = 0 then 0 else 1)
    by_cases e : k = n
    · subst e; rw [if_neg hz]; omega
    · have := ih (by omega) hz; omega
def TBX (fo : Int32) (s0 : Int) (f f0 : Nat → Int32) (n : Nat) : Prop := (∀ i : Nat, (i : Int) < s0 → f i = f0 i) ∧ ∀ k, k < n → ¬ bS fo k = 0 → f (s0.toNat + bN fo k) = bS fo k
theorem TBX_0 {fo : Int32} {s0 : Int} {f : Nat → Int32} : TBX fo s0 f f 0 := ⟨fun _ _ => rfl, fun k hk => absurd hk (Nat.not_lt_zero k)⟩
theorem TBX_z {fo x : Int32} {s0 : Int} {f f0 : Nat → Int32} (hi : iv 0 24 x) (hd : x.toInt % 8 = 0) (h : TBX fo s0 f f0 ((24 - x.toInt) / 8).toNat) (hx : byC fo x = 0) : TBX fo s0 f f0 (((24 - x.toInt) / 8).toNat + 1) := by
  refine ⟨h.1, fun k hk hz => ?_⟩
  by_cases e : k = ((24 - x.toInt) / 8).toNat
  · rw [e, ← by_i hi hd] at hz; exact absurd hx hz
  · exact h.2 k (by omega) hz
theorem TBX_p {fo x z v : Int32} {s0 : Int} {f f0 g : Nat → Int32} (hi : iv 0 24 x) (hd : x.toInt % 8 = 0) (h0 : 0 ≤ s0) (h : TBX fo s0 f f0 ((24 - x.toInt) / 8).toNat) (hv : v = byC fo x) (hz : z.toInt = s0 + (bN fo ((24 - x.toInt) / 8).toNat : Int)) (hg : g = upd f z.toNatClampNeg v) : TBX fo s0 g f0 (((24 - x.toInt) / 8).toNat + 1) := by
  have q : z.toNatClampNeg = s0.toNat + bN fo ((24 - x.toInt) / 8).toNat := by show z.toInt.toNat = _; omega
  rw [hg, q]
  refine ⟨fun j hj => by rw [upd_ne (by omega)]; exact h.1 j hj, fun k hk hz => ?_⟩
  by_cases e : k = ((24 - x.toInt) / 8).toNat
  · rw [e, upd_at, ← by_i hi hd]; exact hv
  · have := bN_lt fo ((24 - x.toInt) / 8).toNat (show k < ((24 - x.toInt) / 8).toNat by omega) hz
    rw [upd_ne (by omega)]
    exact h.2 k (by omega) hz
theorem tyN_0 (p1 p2 p3 p4 p5 : Int32) : tyN p1 p2 p3 p4 p5 0 = bN p1 0 := rfl
theorem tyN_1 (p1 p2 p3 p4 p5 : Int32) : tyN p1 p2 p3 p4 p5 1 = bN p1 1 := by
  simp only [tyN, bN, tyS_0]
  try omega
theorem tyN_2 (p1 p2 p3 p4 p5 : Int32) : tyN p1 p2 p3 p4 p5 2 = bN p1 2 := by
  simp only [tyN, bN, tyS_0, tyS_1]
  try omega
theorem tyN_3 (p1 p2 p3 p4 p5 : Int32) : tyN p1 p2 p3 p4 p5 3 = bN p1 3 := by
  simp only [tyN, bN, tyS_0, tyS_1, tyS_2]
  try omega
theorem tyN_4 (p1 p2 p3 p4 p5 : Int32) : tyN p1 p2 p3 p4 p5 4 = bN p1 4 + bN p2 0 := by
  simp only [tyN, bN, tyS_0, tyS_1, tyS_2, tyS_3]
  try omega
theorem tyN_5 (p1 p2 p3 p4 p5 : Int32) : tyN p1 p2 p3 p4 p5 5 = bN p1 4 + bN p2 1 := by
  simp only [tyN, bN, tyS_0, tyS_1, tyS_2, tyS_3, tyS_4]
  try omega
theorem tyN_6 (p1 p2 p3 p4 p5 : Int32) : tyN p1 p2 p3 p4 p5 6 = bN p1 4 + bN p2 2 := by
  simp only [tyN, bN, tyS_0, tyS_1, tyS_2, tyS_3, tyS_4, tyS_5]
  try omega
theorem tyN_7 (p1 p2 p3 p4 p5 : Int32) : tyN p1 p2 p3 p4 p5 7 = bN p1 4 + bN p2 3 := by
  simp only [tyN, bN, tyS_0, tyS_1, tyS_2, tyS_3, tyS_4, tyS_5, tyS_6]
  try omega
theorem tyN_8 (p1 p2 p3 p4 p5 : Int32) : tyN p1 p2 p3 p4 p5 8 = bN p1 4 + bN p2 4 + bN p3 0 := by
  simp only [tyN, bN, tyS_0, tyS_1, tyS_2, tyS_3, tyS_4, tyS_5, tyS_6, tyS_7]
  try omega
theorem tyN_9 (p1 p2 p3 p4 p5 : Int32) : tyN p1 p2 p3 p4 p5 9 = bN p1 4 + bN p2 4 + bN p3 1 := by
  simp only [tyN, bN, tyS_0, tyS_1, tyS_2, tyS_3, tyS_4, tyS_5, tyS_6, tyS_7, tyS_8]
  try omega
theorem tyN_10 (p1 p2 p3 p4 p5 : Int32) : tyN p1 p2 p3 p4 p5 10 = bN p1 4 + bN p2 4 + bN p3 2 := by
  simp only [tyN, bN, tyS_0, tyS_1, tyS_2, tyS_3, tyS_4, tyS_5, tyS_6, tyS_7, tyS_8, tyS_9]
  try omega
theorem tyN_11 (p1 p2 p3 p4 p5 : Int32) : tyN p1 p2 p3 p4 p5 11 = bN p1 4 + bN p2 4 + bN p3 3 := by
  simp only [tyN, bN, tyS_0, tyS_1, tyS_2, tyS_3, tyS_4, tyS_5, tyS_6, tyS_7, tyS_8, tyS_9, tyS_10]
  try omega
theorem tyN_12 (p1 p2 p3 p4 p5 : Int32) : tyN p1 p2 p3 p4 p5 12 = bN p1 4 + bN p2 4 + bN p3 4 + bN p4 0 := by
  simp only [tyN, bN, tyS_0, tyS_1, tyS_2, tyS_3, tyS_4, tyS_5, tyS_6, tyS_7, tyS_8, tyS_9, tyS_10, tyS_11]
  try omega
theorem tyN_13 (p1 p2 p3 p4 p5 : Int32) : tyN p1 p2 p3 p4 p5 13 = bN p1 4 + bN p2 4 + bN p3 4 + bN p4 1 := by
  simp only [tyN, bN, tyS_0, tyS_1, tyS_2, tyS_3, tyS_4, tyS_5, tyS_6, tyS_7, tyS_8, tyS_9, tyS_10, tyS_11, tyS_12]
  try omega
theorem tyN_14 (p1 p2 p3 p4 p5 : Int32) : tyN p1 p2 p3 p4 p5 14 = bN p1 4 + bN p2 4 + bN p3 4 + bN p4 2 := by
  simp only [tyN, bN, tyS_0, tyS_1, tyS_2, tyS_3, tyS_4, tyS_5, tyS_6, tyS_7, tyS_8, tyS_9, tyS_10, tyS_11, tyS_12, tyS_13]
  try omega
theorem tyN_15 (p1 p2 p3 p4 p5 : Int32) : tyN p1 p2 p3 p4 p5 15 = bN p1 4 + bN p2 4 + bN p3 4 + bN p4 3 := by
  simp only [tyN, bN, tyS_0, tyS_1, tyS_2, tyS_3, tyS_4, tyS_5, tyS_6, tyS_7, tyS_8, tyS_9, tyS_10, tyS_11, tyS_12, tyS_13, tyS_14]
  try omega
theorem tyN_16 (p1 p2 p3 p4 p5 : Int32) : tyN p1 p2 p3 p4 p5 16 = bN p1 4 + bN p2 4 + bN p3 4 + bN p4 4 + bN p5 0 := by
  simp only [tyN, bN, tyS_0, tyS_1, tyS_2, tyS_3, tyS_4, tyS_5, tyS_6, tyS_7, tyS_8, tyS_9, tyS_10, tyS_11, tyS_12, tyS_13, tyS_14, tyS_15]
  try omega
theorem tyN_17 (p1 p2 p3 p4 p5 : Int32) : tyN p1 p2 p3 p4 p5 17 = bN p1 4 + bN p2 4 + bN p3 4 + bN p4 4 + bN p5 1 := by
  simp only [tyN, bN, tyS_0, tyS_1, tyS_2, tyS_3, tyS_4, tyS_5, tyS_6, tyS_7, tyS_8, tyS_9, tyS_10, tyS_11, tyS_12, tyS_13, tyS_14, tyS_15, tyS_16]
  try omega
theorem tyN_18 (p1 p2 p3 p4 p5 : Int32) : tyN p1 p2 p3 p4 p5 18 = bN p1 4 + bN p2 4 + bN p3 4 + bN p4 4 + bN p5 2 := by
  simp only [tyN, bN, tyS_0, tyS_1, tyS_2, tyS_3, tyS_4, tyS_5, tyS_6, tyS_7, tyS_8, tyS_9, tyS_10, tyS_11, tyS_12, tyS_13, tyS_14, tyS_15, tyS_16, tyS_17]
  try omega
theorem tyN_19 (p1 p2 p3 p4 p5 : Int32) : tyN p1 p2 p3 p4 p5 19 = bN p1 4 + bN p2 4 + bN p3 4 + bN p4 4 + bN p5 3 := by
  simp only [tyN, bN, tyS_0, tyS_1, tyS_2, tyS_3, tyS_4, tyS_5, tyS_6, tyS_7, tyS_8, tyS_9, tyS_10, tyS_11, tyS_12, tyS_13, tyS_14, tyS_15, tyS_16, tyS_17, tyS_18]
  try omega
/-- the five words together -/
theorem TYX_of {p1 p2 p3 p4 p5 s0 r1 r2 r3 r4 r5 : Int32} {f0 f1 f2 f3 f4 f5 : Nat → Int32} (h0 : 0 ≤ s0.toInt) (t1 : TBH s0 p1 r1) (t2 : TBH r1 p2 r2) (t3 : TBH r2 p3 r3) (t4 : TBH r3 p4 r4) (t5 : TBH r4 p5 r5) (x1 : r1.toInt = -1 ∨ TBX p1 s0.toInt f1 f0 4) (x2 : r2.toInt = -1 ∨ TBX p2 r1.toInt f2 f1 4) (x3 : r3.toInt = -1 ∨ TBX p3 r2.toInt f3 f2 4) (x4 : r4.toInt = -1 ∨ TBX p4 r3.toInt f4 f3 4) (x5 : r5.toInt = -1 ∨ TBX p5 r4.toInt f5 f4 4) (hr : ¬ r5.toInt = -1) : TYX p1 p2 p3 p4 p5 s0.toInt f5 f0 20 := by
  have q5 : 0 ≤ r4.toInt ∧ r5.toInt = r4.toInt + (bN p5 4 : Int) := by
    rcases t5 with a | ⟨a, b | b⟩
    · exact absurd a.2 hr
    · exact absurd b.1 hr
    · exact ⟨a, b.1⟩
  have q4 : 0 ≤ r3.toInt ∧ r4.toInt = r3.toInt + (bN p4 4 : Int) := by
    rcases t4 with a | ⟨a, b | b⟩
    · have := a.2; omega
    · have := b.1; omega
    · exact ⟨a, b.1⟩
  have q3 : 0 ≤ r2.toInt ∧ r3.toInt = r2.toInt + (bN p3 4 : Int) := by
    rcases t3 with a | ⟨a, b | b⟩
    · have := a.2; omega
    · have := b.1; omega
    · exact ⟨a, b.1⟩
  have q2 : 0 ≤ r1.toInt ∧ r2.toInt = r1.toInt + (bN p2 4 : Int) := by
    rcases t2 with a | ⟨a, b | b⟩
    · have := a.2; omega
    · have := b.1; omega
    · exact ⟨a, b.1⟩
  have q1 : r1.toInt = s0.toInt + (bN p1 4 : Int) := by
    rcases t1 with a | ⟨a, b | b⟩
    · have := a.2; omega
    · have := b.1; omega
    · exact b.1
  have x1 := x1.resolve_left (by omega)
  have x2 := x2.resolve_left (by omega)
  have x3 := x3.resolve_left (by omega)
  have x4 := x4.resolve_left (by omega)
  have x5 := x5.resolve_left (by omega)
  have g4 : ∀ i : Nat, (i : Int) < r4.toInt → f5 i = f4 i := x5.1
  have g3 : ∀ i : Nat, (i : Int) < r3.toInt → f5 i = f3 i := fun i hi => (g4 i (by omega)).trans (x4.1 i hi)
  have g2 : ∀ i : Nat, (i : Int) < r2.toInt → f5 i = f2 i := fun i hi => (g3 i (by omega)).trans (x3.1 i hi)
  have g1 : ∀ i : Nat, (i : Int) < r1.toInt → f5 i = f1 i := fun i hi => (g2 i (by omega)).trans (x2.1 i hi)
  refine ⟨fun i hi => (g1 i (by omega)).trans (x1.1 i hi), fun k hk hz => ?_⟩
  rcases (show k = 0 ∨ k = 1 ∨ k = 2 ∨ k = 3 ∨ k = 4 ∨ k = 5 ∨ k = 6 ∨ k = 7 ∨ k = 8 ∨ k = 9 ∨ k = 10 ∨ k = 11 ∨ k = 12 ∨ k = 13 ∨ k = 14 ∨ k = 15 ∨ k = 16 ∨ k = 17 ∨ k = 18 ∨ k = 19 by omega) with rfl | rfl | rfl | rfl | rfl | rfl | rfl | rfl | rfl | rfl | rfl | rfl | rfl | rfl | rfl | rfl | rfl | rfl | rfl | rfl
  · rw [tyS_0] at hz ⊢
    have b9 := bN_lt p1 (k := 0) 4 (by decide) hz
    have e9 : s0.toInt.toNat + tyN p1 p2 p3 p4 p5 0 = s0.toInt.toNat + bN p1 0 := by rw [tyN_0]; try omega
    rw [e9]
    rw [g1 _ (by omega)]
    exact x1.2 0 (by decide) hz
  · rw [tyS_1] at hz ⊢
    have b9 := bN_lt p1 (k := 1) 4 (by decide) hz
    have e9 : s0.toInt.toNat + tyN p1 p2 p3 p4 p5 1 = s0.toInt.toNat + bN p1 1 := by rw [tyN_1]; try omega
    rw [e9]
    rw [g1 _ (by omega)]
    exact x1.2 1 (by decide) hz
  · rw [tyS_2] at hz ⊢
    have b9 := bN_lt p1 (k := 2) 4 (by decide) hz
    have e9 : s0.toInt.toNat + tyN p1 p2 p3 p4 p5 2 = s0.toInt.toNat + bN p1 2 := by rw [tyN_2]; try omega
    rw [e9]
    rw [g1 _ (by omega)]
    exact x1.2 2 (by decide) hz
  · rw [tyS_3] at hz ⊢
    have b9 := bN_lt p1 (k := 3) 4 (by decide) hz
    have e9 : s0.toInt.toNat + tyN p1 p2 p3 p4 p5 3 = s0.toInt.toNat + bN p1 3 := by rw [tyN_3]; try omega
    rw [e9]
    rw [g1 _ (by omega)]
    exact x1.2 3 (by decide) hz
  · rw [tyS_4] at hz ⊢
    have b9 := bN_lt p2 (k := 0) 4 (by decide) hz
    have e9 : s0.toInt.toNat + tyN p1 p2 p3 p4 p5 4 = r1.toInt.toNat + bN p2 0 := by rw [tyN_4]; try omega
    rw [e9]
    rw [g2 _ (by omega)]
    exact x2.2 0 (by decide) hz
  · rw [tyS_5] at hz ⊢
    have b9 := bN_lt p2 (k := 1) 4 (by decide) hz
    have e9 : s0.toInt.toNat + tyN p1 p2 p3 p4 p5 5 = r1.toInt.toNat + bN p2 1 := by rw [tyN_5]; try omega
    rw [e9]
    rw [g2 _ (by omega)]
    exact x2.2 1 (by decide) hz
  · rw [tyS_6] at hz ⊢
    have b9 := bN_lt p2 (k := 2) 4 (by decide) hz
    have e9 : s0.toInt.toNat + tyN p1 p2 p3 p4 p5 6 = r1.toInt.toNat + bN p2 2 := by rw [tyN_6]; try omega
    rw [e9]
    rw [g2 _ (by omega)]
    exact x2.2 2 (by decide) hz
  · rw [tyS_7] at hz ⊢
    have b9 := bN_lt p2 (k := 3) 4 (by decide) hz
    have e9 : s0.toInt.toNat + tyN p1 p2 p3 p4 p5 7 = r1.toInt.toNat + bN p2 3 := by rw [tyN_7]; try omega
    rw [e9]
    rw [g2 _ (by omega)]
    exact x2.2 3 (by decide) hz
  · rw [tyS_8] at hz ⊢
    have b9 := bN_lt p3 (k := 0) 4 (by decide) hz
    have e9 : s0.toInt.toNat + tyN p1 p2 p3 p4 p5 8 = r2.toInt.toNat + bN p3 0 := by rw [tyN_8]; try omega
    rw [e9]
    rw [g3 _ (by omega)]
    exact x3.2 0 (by decide) hz
  · rw [tyS_9] at hz ⊢
    have b9 := bN_lt p3 (k := 1) 4 (by decide) hz
    have e9 : s0.toInt.toNat + tyN p1 p2 p3 p4 p5 9 = r2.toInt.toNat + bN p3 1 := by rw [tyN_9]; try omega
    rw [e9]
    rw [g3 _ (by omega)]
    exact x3.2 1 (by decide) hz
  · rw [tyS_10] at hz ⊢
    have b9 := bN_lt p3 (k := 2) 4 (by decide) hz
    have e9 : s0.toInt.toNat + tyN p1 p2 p3 p4 p5 10 = r2.toInt.toNat + bN p3 2 := by rw [tyN_10]; try omega
    rw [e9]
    rw [g3 _ (by omega)]
    exact x3.2 2 (by decide) hz
  · rw [tyS_11] at hz ⊢
    have b9 := bN_lt p3 (k := 3) 4 (by decide) hz
    have e9 : s0.toInt.toNat + tyN p1 p2 p3 p4 p5 11 = r2.toInt.toNat + bN p3 3 := by rw [tyN_11]; try omega
    rw [e9]
    rw [g3 _ (by omega)]
    exact x3.2 3 (by decide) hz
  · rw [tyS_12] at hz ⊢
    have b9 := bN_lt p4 (k := 0) 4 (by decide) hz
    have e9 : s0.toInt.toNat + tyN p1 p2 p3 p4 p5 12 = r3.toInt.toNat + bN p4 0 := by rw [tyN_12]; try omega
    rw [e9]
    rw [g4 _ (by omega)]
    exact x4.2 0 (by decide) hz
  · rw [tyS_13] at hz ⊢
    have b9 := bN_lt p4 (k := 1) 4 (by decide) hz
    have e9 : s0.toInt.toNat + tyN p1 p2 p3 p4 p5 13 = r3.toInt.toNat + bN p4 1 := by rw [tyN_13]; try omega
    rw [e9]
    rw [g4 _ (by omega)]
    exact x4.2 1 (by decide) hz
  · rw [tyS_14] at hz ⊢
    have b9 := bN_lt p4 (k := 2) 4 (by decide) hz
    have e9 : s0.toInt.toNat + tyN p1 p2 p3 p4 p5 14 = r3.toInt.toNat + bN p4 2 := by rw [tyN_14]; try omega
    rw [e9]
    rw [g4 _ (by omega)]
    exact x4.2 2 (by decide) hz
  · rw [tyS_15] at hz ⊢
    have b9 := bN_lt p4 (k := 3) 4 (by decide) hz
    have e9 : s0.toInt.toNat + tyN p1 p2 p3 p4 p5 15 = r3.toInt.toNat + bN p4 3 := by rw [tyN_15]; try omega
    rw [e9]
    rw [g4 _ (by omega)]
    exact x4.2 3 (by decide) hz
  · rw [tyS_16] at hz ⊢
    have b9 := bN_lt p5 (k := 0) 4 (by decide) hz
    have e9 : s0.toInt.toNat + tyN p1 p2 p3 p4 p5 16 = r4.toInt.toNat + bN p5 0 := by rw [tyN_16]; try omega
    rw [e9]
    exact x5.2 0 (by decide) hz
  · rw [tyS_17] at hz ⊢
    have b9 := bN_lt p5 (k := 1) 4 (by decide) hz
    have e9 : s0.toInt.toNat + tyN p1 p2 p3 p4 p5 17 = r4.toInt.toNat + bN p5 1 := by rw [tyN_17]; try omega
    rw [e9]
    exact x5.2 1 (by decide) hz
  · rw [tyS_18] at hz ⊢
    have b9 := bN_lt p5 (k := 2) 4 (by decide) hz
    have e9 : s0.toInt.toNat + tyN p1 p2 p3 p4 p5 18 = r4.toInt.toNat + bN p5 2 := by rw [tyN_18]; try omega
    rw [e9]
    exact x5.2 2 (by decide) hz
  · rw [tyS_19] at hz ⊢
    have b9 := bN_lt p5 (k := 3) 4 (by decide) hz
    have e9 : s0.toInt.toNat + tyN p1 p2 p3 p4 p5 19 = r4.toInt.toNat + bN p5 3 := by rw [tyN_19]; try omega
    rw [e9]
    exact x5.2 3 (by decide) hz

set_option maxHeartbeats 4000000 in
set_option maxRecDepth 100000 in
theorem d_typedBehind3 (l : Launch) (dC : Nat → ClassId) (dI : Nat → Nat → Nat) (ad : Nat → Nat → Nat) (cid : Nat → ClassId) (a2 : Nat → Nat) (lx : List Nat) (sg : Nat → Int32) (gm : Nat → Nat → Int32) (lg : Nat → Nat → Int64) (x : Int32) (st : Int32) (fo : Int32) (hI : CI sg gm) (hvx : iv 0 0 x) (hvst : iv (-1) 1200 st) : CMt dC dI ad cid a2 lx l yX12_typedBehind wm_X12_typedBehind ({ frames := 0, cells := 1, slots := 6, locals := 0 }) [eV (ad 0) x, .int st, .int fo] sg gm lg (fun v u => ∃ r : Int32, v = some (.int r) ∧ ∃ (sg2 : Nat → Int32) (gm2 : Nat → Nat → Int32) (lg2 : Nat → Nat → Int64), u = (sg2, gm2, lg2) ∧ CI sg2 gm2 ∧ KS [] sg sg2 ∧ KS [43] gm gm2 ∧ KS [] lg lg2 ∧ (iv (-1) 1200 r) ∧ (st.toInt = -1 → gm2 43 = gm 43) ∧ (r.toInt = -1 ∨ TBX fo st.toInt (gm2 43) (gm 43) 4) ∧ (0 ≤ st.toInt → ∀ i : Nat, (i : Int) < st.toInt → gm2 43 i = gm 43 i) ∧ (TBH st fo r)) (fun _ _ => False) := by
  intro sz
  refine vx_ofW (cc := cX12_typedBehind) (maxL := 6) (ret := (some .int)) (by decide) rfl ?_
  intro p e s m args below meth c s₁ B hml hxt hv
  obtain ⟨rfl, hsz, hP, hK, hD0, hG⟩ := hv
  have hx := B.exec
  have hb := B.bytes
  have hr := B.returns
  have hts := atoms_spec (ws := wm_X12_typedBehind) B.pre
  have htb := fun (w : Cond) (h : w ∈ tb) => hts w (List.mem_cons_of_mem _ h)
  have hown : s.vm.findClass RX12 = some m.cls := findClass_of_methodNamed B.named
  have hlocks := B.notSynchronized
  subst hsz
  have hD := hD0.self (sz := s.heap.size)
  generalize hAe : va_A (cW ad cid a2 lx sg gm lg) s.heap.size = A at hD hG ⊢
  have hA : ∀ q : Nat, s.heap.size ≤ q → A q := fun q h => by rw [← hAe]; exact Or.inr h
  have hS : va_S A s.heap s.heap [] := va_S.rf
  have hl := lv_entry ([eV (ad 0) x, .int st, .int fo]) (n := 6) (by rw [show (lg_sl ([eV (ad 0) x, .int st, .int fo])).length = 3 from by simp [lg_sl, eV_cat, cat_i, cat_l]]; exact Nat.le_of_ble_eq_true rfl)
  rw [lg_entry_eq]
  generalize (lg_sl ([eV (ad 0) x, .int st, .int fo]) ++ List.replicate (6 - (lg_sl ([eV (ad 0) x, .int st, .int fo])).length) Slot.unset).toArray = ls at hl ⊢
  have hl : lv_has ls 6 [(0, eV (ad 0) x), (1, .int st), (2, .int fo)] := by simp [lv_args, eV_cat, cat_i, cat_l] at hl; exact hl
  have hj66 : ∀ (gm_j66 : Nat → Nat → Int32) (x5_66 : Int32) (x4_66 : Int32) (x3_66 : Int32) (_ : iv 1 255 x5_66) (_ : iv 0 24 x4_66) (_ : iv 0 1200 x3_66) (_ : iv 0 0 x) (_ : iv 0 1200 st) (_ : KS [43] gm gm_j66) (_ : CI sg gm_j66) (_ : ∀ i : Nat, (i : Int) < st.toInt → gm_j66 43 i = gm 43 i) (_ : ¬ BK fo 4 ∨ 1200 < st.toInt + (bN fo 4 : Int)) (H : Heap) (locs : List Loc) (ls : Array Slot), va_P (dC, dI) vwCl (cW ad cid a2 lx sg gm_j66 lg) H → va_D A (cW ad cid a2 lx sg gm_j66 lg) → va_S A s.heap H locs → lv_has ls 6 [(5, .int x5_66), (4, .int x4_66), (3, .int x3_66), (0, eV (ad 0) x), (1, .int st), (2, .int fo)] → W p l e (headSpec wm_X12_typedBehind ({ frames := 0, cells := 1, slots := 6, locals := 0 })).room s m ([eV (ad 0) x, .int st, .int fo] : List Value).toArray below meth c H locs 0 0 (vx_MQ below (cQx dC dI ad cid a2 lx (fun v u => ∃ r : Int32, v = some (.int r) ∧ ∃ (sg2 : Nat → Int32) (gm2 : Nat → Nat → Int32) (lg2 : Nat → Nat → Int64), u = (sg2, gm2, lg2) ∧ CI sg2 gm2 ∧ KS [] sg sg2 ∧ KS [43] gm gm2 ∧ KS [] lg lg2 ∧ (iv (-1) 1200 r) ∧ (st.toInt = -1 → gm2 43 = gm 43) ∧ (r.toInt = -1 ∨ TBX fo st.toInt (gm2 43) (gm 43) 4) ∧ (0 ≤ st.toInt → ∀ i : Nat, (i : Int) < st.toInt → gm2 43 i = gm 43 i) ∧ (TBH st fo r)) A) (cX dC dI ad cid a2 lx (fun _ _ => False) A) ([eV (ad 0) x, .int st, .int fo] : List Value).toArray s 1 6 A) (F0 m 66 ls []) := by
    intro gm_j66 x5_66 x4_66 x3_66 hx5_66 hx4_66 hx3_66 hsx0_66 hsx1_66 hkg_j66 hI_j66 hX hbad H locs ls hP hD hS hl
    refine lv_iconst (v := (-1)) hx hb dX12_typedBehind_66 (by decide) ?_
    exact W.nb (fun hN => W.widen (k := 1) (n := 6) (by decide) (by decide) (vx_ret (W.iret (v := (-1)) hx hb hr (fun t ht hW => ⟨⟨some (.int (-1)), (sg, gm_j66, lg), rfl, ⟨(-1), rfl, sg, gm_j66, lg, rfl, hI_j66, KS_rf, (KS_tr (L := [43]) KS_rf hkg_j66 (by decide)), KS_rf, (iv_w (iv_k (by decide) : iv (-1) (-1) (-1)) (by decide)), (fun q9 => absurd q9 (by have := i32_0; have := i32_1; have := i32_2; have := i32_m1; have := (hsx0_66).1; have := (hsx0_66).2; have := (hsx1_66).1; have := (hsx1_66).2; have := (hx5_66).1; have := (hx5_66).2; have := (hx4_66).1; have := (hx4_66).2; have := (hx3_66).1; have := (hx3_66).2; omega)), (Or.inl rfl), (fun _ => hX), (Or.inr ⟨by have := i32_0; have := i32_1; have := i32_2; have := i32_m1; have := (hsx0_66).1; have := (hsx0_66).2; have := (hsx1_66).1; have := (hsx1_66).2; have := (hx5_66).1; have := (hx5_66).2; have := (hx4_66).1; have := (hx4_66).2; have := (hx3_66).1; have := (hx3_66).2; omega, Or.inl ⟨rfl, hbad⟩⟩)⟩, by rw [ht]; exact hP, va_K.moved hW.alike hK, hD⟩, hS.F ht, by rw [ht]; exact hN⟩) hS.2.2 dX12_typedBehind_67)))
  have hj13 : ∀ (n : Nat) (gm_j13 : Nat → Nat → Int32) (x4_13 : Int32) (x3_13 : Int32) (_ : (x4_13.toInt + 8).toNat = n) (_ : iv (-8) 24 x4_13) (_ : iv 0 1200 x3_13) (_ : iv 0 0 x) (_ : iv 0 1200 st) (_ : KS [43] gm gm_j13) (_ : CI sg gm_j13) (_ : TBX fo st.toInt (gm_j13 43) (gm 43) (((24 - x4_13.toInt) / 8).toNat)) (_ : x4_13.toInt % 8 = 0) (_ : x3_13.toInt = st.toInt + (bN fo ((24 - x4_13.toInt) / 8).toNat : Int)) (_ : BK fo ((24 - x4_13.toInt) / 8).toNat) (H : Heap) (locs : List Loc) (ls : Array Slot), va_P (dC, dI) vwCl (cW ad cid a2 lx sg gm_j13 lg) H → va_D A (cW ad cid a2 lx sg gm_j13 lg) → va_S A s.heap H locs → lv_has ls 6 [(4, .int x4_13), (3, .int x3_13), (0, eV (ad 0) x), (1, .int st), (2, .int fo)] → W p l e (headSpec wm_X12_typedBehind ({ frames := 0, cells := 1, slots := 6, locals := 0 })).room s m ([eV (ad 0) x, .int st, .int fo] : List Value).toArray below meth c H locs 0 0 (vx_MQ below (cQx dC dI ad cid a2 lx (fun v u => ∃ r : Int32, v = some (.int r) ∧ ∃ (sg2 : Nat → Int32) (gm2 : Nat → Nat → Int32) (lg2 : Nat → Nat → Int64), u = (sg2, gm2, lg2) ∧ CI sg2 gm2 ∧ KS [] sg sg2 ∧ KS [43] gm gm2 ∧ KS [] lg lg2 ∧ (iv (-1) 1200 r) ∧ (st.toInt = -1 → gm2 43 = gm 43) ∧ (r.toInt = -1 ∨ TBX fo st.toInt (gm2 43) (gm 43) 4) ∧ (0 ≤ st.toInt → ∀ i : Nat, (i : Int) < st.toInt → gm2 43 i = gm 43 i) ∧ (TBH st fo r)) A) (cX dC dI ad cid a2 lx (fun _ _ => False) A) ([eV (ad 0) x, .int st, .int fo] : List Value).toArray s 1 6 A) (F0 m 13 ls []) := by
    intro n
    induction n using Nat.strongRecOn with
    | ind n ih13 =>
      intro gm_j13 x4_13 x3_13 hn13 hx4_13 hx3_13 hsx0_13 hsx1_13 hkg_j13 hI_j13 hX hd hc hkb H locs ls hP hD hS hl
      have hj80 : ∀ (gm_j80 : Nat → Nat → Int32) (x5_80 : Int32) (x3_80 : Int32) (_ : iv 0 126 x5_80) (_ : iv 0 24 x4_13) (_ : iv 0 1200 x3_80) (_ : iv 0 0 x) (_ : iv 0 1200 st) (_ : KS [43] gm gm_j80) (_ : CI sg gm_j80) (_ : TBX fo st.toInt (gm_j80 43) (gm 43) (((24 - x4_13.toInt) / 8).toNat + 1)) (_ : x5_80 = byC fo x4_13) (_ : (x5_80.toInt = 0 ∨ x5_80.toInt = 10 ∨ 32 ≤ x5_80.toInt ∧ x5_80.toInt ≤ 126)) (_ : x3_80.toInt = st.toInt + (bN fo (((24 - x4_13.toInt) / 8).toNat + 1) : Int)) (H : Heap) (locs : List Loc) (ls : Array Slot), va_P (dC, dI) vwCl (cW ad cid a2 lx sg gm_j80 lg) H → va_D A (cW ad cid a2 lx sg gm_j80 lg) → va_S A s.heap H locs → lv_has ls 6 [(5, .int x5_80), (4, .int x4_13), (3, .int x3_80), (0, eV (ad 0) x), (1, .int st), (2, .int fo)] → W p l e (headSpec wm_X12_typedBehind ({ frames := 0, cells := 1, slots := 6, locals := 0 })).room s m ([eV (ad 0) x, .int st, .int fo] : List Value).toArray below meth c H locs 0 0 (vx_MQ below (cQx dC dI ad cid a2 lx (fun v u => ∃ r : Int32, v = some (.int r) ∧ ∃ (sg2 : Nat → Int32) (gm2 : Nat → Nat → Int32) (lg2 : Nat → Nat → Int64), u = (sg2, gm2, lg2) ∧ CI sg2 gm2 ∧ KS [] sg sg2 ∧ KS [43] gm gm2 ∧ KS [] lg lg2 ∧ (iv (-1) 1200 r) ∧ (st.toInt = -1 → gm2 43 = gm 43) ∧ (r.toInt = -1 ∨ TBX fo st.toInt (gm2 43) (gm 43) 4) ∧ (0 ≤ st.toInt → ∀ i : Nat, (i : Int) < st.toInt → gm2 43 i = gm 43 i) ∧ (TBH st fo r)) A) (cX dC dI ad cid a2 lx (fun _ _ => False) A) ([eV (ad 0) x, .int st, .int fo] : List Value).toArray s 1 6 A) (F0 m 80 ls []) := by
        intro gm_j80 x5_80 x3_80 hx5_80 hsx4_80 hx3_80 hsx0_80 hsx1_80 hkg_j80 hI_j80 hX h5 hk8 hc8 H locs ls hP hD hS hl
        obtain ⟨z_1, ez_1⟩ : ∃ z : Int32, z = x4_13 + (-8) := ⟨_, rfl⟩
        have hz_1 : iv (-8) 16 z_1 := iv_of ez_1 (iv_add hsx4_80 (iv_k (by decide) : iv (-8) (-8) (-8)) (by decide))
        have tz_1 : z_1.toInt = x4_13.toInt - 8 := by rw [ez_1]; exact iv_addE hsx4_80 (iv_k (by decide) : iv (-8) (-8) (-8)) (by decide)
        refine lv_iinc (v := z_1) (lv' := [(4, .int z_1), (5, .int x5_80), (3, .int x3_80), (0, eV (ad 0) x), (1, .int st), (2, .int fo)]) hx hb dX12_typedBehind_80 hl (k := 1) rfl ez_1.symm (by decide) rfl (fun ls hl => ?_)
        refine lv_goto (tgt := 13) hx hb dX12_typedBehind_83 (by decide) ?_
        exact ih13 _ (by rw [← hn13]; exact (by have := i32_0; have := i32_1; have := i32_2; have := i32_m1; have := (hsx0_80).1; have := (hsx0_80).2; have := (hsx1_80).1; have := (hsx1_80).2; have := (hsx4_80).1; have := (hsx4_80).2; have := (hx3_13).1; have := (hx3_13).2; have := (hx5_80).1; have := (hx5_80).2; have := (hx3_80).1; have := (hx3_80).2; have := (hz_1).1; have := (hz_1).2; omega)) gm_j80 z_1 x3_80 rfl (iv_w hz_1 (by decide)) hx3_80 hsx0_80 hsx1_80 (KS_tr (L := [43]) KS_rf hkg_j80 (by decide)) hI_j80 ((by { rw [show ((24 - z_1.toInt) / 8).toNat = ((24 - x4_13.toInt) / 8).toNat + 1 from (by { have q1 := tz_1; have := i32_0; have := i32_1; have := i32_2; have := i32_m1; have := (hsx0_80).1; have := (hsx0_80).2; have := (hsx1_80).1; have := (hsx1_80).2; have := (hsx4_80).1; have := (hsx4_80).2; have := (hx3_13).1; have := (hx3_13).2; have := (hx5_80).1; have := (hx5_80).2; have := (hx3_80).1; have := (hx3_80).2; have := (hz_1).1; have := (hz_1).2; omega })]; exact hX })) ((by { have q1 := tz_1; have := i32_0; have := i32_1; have := i32_2; have := i32_m1; have := (hsx0_80).1; have := (hsx0_80).2; have := (hsx1_80).1; have := (hsx1_80).2; have := (hsx4_80).1; have := (hsx4_80).2; have := (hx3_13).1; have := (hx3_13).2; have := (hx5_80).1; have := (hx5_80).2; have := (hx3_80).1; have := (hx3_80).2; have := (hz_1).1; have := (hz_1).2; omega })) ((by { rw [show ((24 - z_1.toInt) / 8).toNat = ((24 - x4_13.toInt) / 8).toNat + 1 from (by { have q1 := tz_1; have := i32_0; have := i32_1; have := i32_2; have := i32_m1; have := (hsx0_80).1; have := (hsx0_80).2; have := (hsx1_80).1; have := (hsx1_80).2; have := (hsx4_80).1; have := (hsx4_80).2; have := (hx3_13).1; have := (hx3_13).2; have := (hx5_80).1; have := (hx5_80).2; have := (hx3_80).1; have := (hx3_80).2; have := (hz_1).1; have := (hz_1).2; omega })]; exact hc8 })) ((by { rw [show ((24 - z_1.toInt) / 8).toNat = ((24 - x4_13.toInt) / 8).toNat + 1 from (by { have q1 := tz_1; have := i32_0; have := i32_1; have := i32_2; have := i32_m1; have := (hsx0_80).1; have := (hsx0_80).2; have := (hsx1_80).1; have := (hsx1_80).2; have := (hsx4_80).1; have := (hsx4_80).2; have := (hx3_13).1; have := (hx3_13).2; have := (hx5_80).1; have := (hx5_80).2; have := (hx3_80).1; have := (hx3_80).2; have := (hz_1).1; have := (hz_1).2; omega })]; exact by_k hsx4_80 hd hkb (by rw [← h5]; exact hk8) })) _ _ _ hP hD hS (lv_sub hl [0, 2, 3, 4, 5] rfl)
      have hj57 : ∀ (gm_j57 : Nat → Nat → Int32) (x5_57 : Int32) (_ : iv 10 126 x5_57) (_ : iv 0 24 x4_13) (_ : iv 0 1200 x3_13) (_ : iv 0 0 x) (_ : iv 0 1200 st) (_ : KS [43] gm gm_j57) (_ : CI sg gm_j57) (_ : TBX fo st.toInt (gm_j57 43) (gm 43) (((24 - x4_13.toInt) / 8).toNat)) (_ : x5_57 = byC fo x4_13) (_ : (x5_57.toInt = 0 ∨ x5_57.toInt = 10 ∨ 32 ≤ x5_57.toInt ∧ x5_57.toInt ≤ 126)) (_ : ¬ x5_57 = 0) (H : Heap) (locs : List Loc) (ls : Array Slot), va_P (dC, dI) vwCl (cW ad cid a2 lx sg gm_j57 lg) H → va_D A (cW ad cid a2 lx sg gm_j57 lg) → va_S A s.heap H locs → lv_has ls 6 [(5, .int x5_57), (4, .int x4_13), (3, .int x3_13), (0, eV (ad 0) x), (1, .int st), (2, .int fo)] → W p l e (headSpec wm_X12_typedBehind ({ frames := 0, cells := 1, slots := 6, locals := 0 })).room s m ([eV (ad 0) x, .int st, .int fo] : List Value).toArray below meth c H locs 0 0 (vx_MQ below (cQx dC dI ad cid a2 lx (fun v u => ∃ r : Int32, v = some (.int r) ∧ ∃ (sg2 : Nat → Int32) (gm2 : Nat → Nat → Int32) (lg2 : Nat → Nat → Int64), u = (sg2, gm2, lg2) ∧ CI sg2 gm2 ∧ KS [] sg sg2 ∧ KS [43] gm gm2 ∧ KS [] lg lg2 ∧ (iv (-1) 1200 r) ∧ (st.toInt = -1 → gm2 43 = gm 43) ∧ (r.toInt = -1 ∨ TBX fo st.toInt (gm2 43) (gm 43) 4) ∧ (0 ≤ st.toInt → ∀ i : Nat, (i : Int) < st.toInt → gm2 43 i = gm 43 i) ∧ (TBH st fo r)) A) (cX dC dI ad cid a2 lx (fun _ _ => False) A) ([eV (ad 0) x, .int st, .int fo] : List Value).toArray s 1 6 A) (F0 m 57 ls []) := by
        intro gm_j57 x5_57 hx5_57 hsx4_57 hsx3_57 hsx0_57 hsx1_57 hkg_j57 hI_j57 hX h5 hk8 hnz H locs ls hP hD hS hl
        refine lv_iload_n hx hb dX12_typedBehind_57 rfl (lv_at hl 2 rfl) ?_
        refine ec_aload_n hx hb dX12_typedBehind_58 rfl (lv_at hl 3 rfl) ?_
        refine cr_get (t := 0) (j := 1) (C := RX12) (T := TX12) (N := 12) (v := eV (ad 13) 0) hx hb htb inX12 hown hK hP hsx0_57 (by decide) (by decide) (by decide) rfl (by decide) (htb _ kw_17) (cV_c rfl (by decide) (by rw [show cMu 0 1 = 0 from rfl, Nat.zero_mul]; rfl)) dX12_typedBehind_59 ?_
        refine cr_alen (t := 13) (z := 1200) hx hb hK hP (iv_k (by decide) : iv 0 0 0) (by decide) (by decide) (by decide) rfl dX12_typedBehind_62 ?_
        refine lv_icmp_lt (tgt := 68) hx hb dX12_typedBehind_63 (by decide) (fun c_2 => ?_) (fun c_2 => ?_)
        · have h_3 : iv 0 1199 x3_13 := iv_ltL c_2 hsx3_57 (iv_k (by decide) : iv 1200 1200 1200) (by decide)
          refine ec_aload_n hx hb dX12_typedBehind_68 rfl (lv_at hl 3 rfl) ?_
          refine cr_get (t := 0) (j := 1) (C := RX12) (T := TX12) (N := 12) (v := eV (ad 13) 0) hx hb htb inX12 hown hK hP hsx0_57 (by decide) (by decide) (by decide) rfl (by decide) (htb _ kw_17) (cV_c rfl (by decide) (by rw [show cMu 0 1 = 0 from rfl, Nat.zero_mul]; rfl)) dX12_typedBehind_69 ?_
          refine lv_iload_n hx hb dX12_typedBehind_72 rfl (lv_at hl 2 rfl) ?_
          refine lv_iload hx hb dX12_typedBehind_73 (lv_at hl 0 rfl) ?_
          refine lv_i2c (v := ((x5_57 : Int32).toUInt32 % 65536).toInt32) hx hb dX12_typedBehind_75 rfl ?_
          refine lv_topi (fun z_4 ez_4 => ?_)
          have hz_4 : iv 0 65535 z_4 := iv_of ez_4 (iv_i2c x5_57)
          refine cr_cast (t := 13) (k := 43) (n9 := (x3_13 : Int32).toNatClampNeg) (z := z_4) hx hb hK hP hD hS (iv_k (by decide) : iv 0 0 0) (by decide) (by decide) (by decide) rfl rfl rfl (show vp_in x3_13 (cLen 13) from (show vp_in x3_13 1200 from (iv_in h_3 (by decide)))) (Or.inl rfl) (by rw [show cAw 13 = 0 from rfl, Nat.zero_mul, Nat.zero_add]) dX12_typedBehind_76 (fun gm_5 H locs egm_5 hP hD hS => ?_)
          rw [vnc hz_4] at egm_5
          have hI_gm_5 := CI_st hI_j57 egm_5 hz_4 (by decide)
          obtain ⟨z_6, ez_6⟩ : ∃ z : Int32, z = x3_13 + 1 := ⟨_, rfl⟩
          have hz_6 : iv 1 1200 z_6 := iv_of ez_6 (iv_add h_3 (iv_k (by decide) : iv 1 1 1) (by decide))
          have tz_6 : z_6.toInt = x3_13.toInt + 1 := by rw [ez_6]; exact iv_addE h_3 (iv_k (by decide) : iv 1 1 1) (by decide)
          refine lv_iinc (v := z_6) (lv' := [(3, .int z_6), (5, .int x5_57), (4, .int x4_13), (0, eV (ad 0) x), (1, .int st), (2, .int fo)]) hx hb dX12_typedBehind_77 hl (k := 2) rfl ez_6.symm (by decide) rfl (fun ls hl => ?_)
          exact hj80 gm_5 x5_57 z_6 (iv_w hx5_57 (by decide)) hsx4_57 (iv_w hz_6 (by decide)) hsx0_57 hsx1_57 (KS_up (KS_tr (L := [43]) KS_rf hkg_j57 (by decide)) egm_5 (by decide)) hI_gm_5 ((TBX_p (z := x3_13) (v := z_4) hsx4_57 hd (by have := i32_0; have := i32_1; have := i32_2; have := i32_m1; have := (hsx0_57).1; have := (hsx0_57).2; have := (hsx1_57).1; have := (hsx1_57).2; have := (hsx4_57).1; have := (hsx4_57).2; have := (h_3).1; have := (h_3).2; have := (hx5_57).1; have := (hx5_57).2; have := (hz_4).1; have := (hz_4).2; have := (hz_6).1; have := (hz_6).2; omega) hX (by rw [i2c_e (show iv 0 65535 x5_57 from (iv_w hx5_57 (by decide))) ez_4]; exact h5) hc (show gm_5 43 = upd (gm_j57 43) (x3_13 : Int32).toNatClampNeg z_4 from ((up_at egm_5).trans (by rw [show gm_j57 43 = gm_j57 43 from rfl]))))) (h5) (hk8) ((by { obtain ⟨q1, q2⟩ := by_s (fo := fo) hsx4_57 hd; rw [← h5] at q2; rw [if_neg hnz] at q2; have := tz_6; have := i32_0; have := i32_1; have := i32_2; have := i32_m1; have := (hsx0_57).1; have := (hsx0_57).2; have := (hsx1_57).1; have := (hsx1_57).2; have := (hsx4_57).1; have := (hsx4_57).2; have := (h_3).1; have := (h_3).2; have := (hx5_57).1; have := (hx5_57).2; have := (hz_4).1; have := (hz_4).2; have := (hz_6).1; have := (hz_6).2; omega })) _ _ _ hP hD hS (lv_sub hl [1, 2, 0, 3, 4, 5] rfl)
        · have h_7 : iv 1200 1200 x3_13 := iv_leR (i32_ge c_2) (iv_k (by decide) : iv 1200 1200 1200) hsx3_57 (by decide)
          exact hj66 gm_j57 x5_57 x4_13 x3_13 (iv_w hx5_57 (by decide)) hsx4_57 (iv_w h_7 (by decide)) hsx0_57 hsx1_57 (KS_tr (L := [43]) KS_rf hkg_j57 (by decide)) hI_j57 (hX.1) ((Or.inr (by { obtain ⟨q1, q2⟩ := by_s (fo := fo) hsx4_57 hd; rw [← h5, if_neg hnz] at q2; have q3 := bN_mono fo _ 4 (show ((24 - x4_13.toInt) / 8).toNat + 1 ≤ 4 from q1); have := i32_0; have := i32_1; have := i32_2; have := i32_m1; have := (hsx0_57).1; have := (hsx0_57).2; have := (hsx1_57).1; have := (hsx1_57).2; have := (hsx4_57).1; have := (hsx4_57).2; have := (h_7).1; have := (h_7).2; have := (hx5_57).1; have := (hx5_57).2; omega }))) _ _ _ hP hD hS (lv_sub hl [0, 1, 2, 3, 4, 5] rfl)
      refine lv_iload hx hb dX12_typedBehind_13 (lv_at hl 0 rfl) ?_
      refine lv_if_lt (tgt := 86) hx hb dX12_typedBehind_15 (by decide) (fun c_8 => ?_) (fun c_8 => ?_)
      · have h_9 : iv (-8) (-1) x4_13 := iv_ltL c_8 hx4_13 (iv_k (by decide) : iv 0 0 0) (by decide)
        refine lv_iload_n hx hb dX12_typedBehind_86 rfl (lv_at hl 1 rfl) ?_
        exact W.nb (fun hN => W.widen (k := 1) (n := 6) (by decide) (by decide) (vx_ret (W.iret (v := x3_13) hx hb hr (fun t ht hW => ⟨⟨some (.int x3_13), (sg, gm_j13, lg), rfl, ⟨x3_13, rfl, sg, gm_j13, lg, rfl, hI_j13, KS_rf, (KS_tr (L := [43]) KS_rf hkg_j13 (by decide)), KS_rf, (iv_w hx3_13 (by decide)), (fun q9 => absurd q9 (by have := i32_0; have := i32_1; have := i32_2; have := i32_m1; have := (hsx0_13).1; have := (hsx0_13).2; have := (hsx1_13).1; have := (hsx1_13).2; have := (h_9).1; have := (h_9).2; have := (hx3_13).1; have := (hx3_13).2; omega)), (Or.inr (by { rw [show ((24 - x4_13.toInt) / 8).toNat = 4 from (by { have := i32_0; have := i32_1; have := i32_2; have := i32_m1; have := (hsx0_13).1; have := (hsx0_13).2; have := (hsx1_13).1; have := (hsx1_13).2; have := (h_9).1; have := (h_9).2; have := (hx3_13).1; have := (hx3_13).2; omega })] at hX; exact hX })), (fun _ => hX.1), (Or.inr ⟨by have := i32_0; have := i32_1; have := i32_2; have := i32_m1; have := (hsx0_13).1; have := (hsx0_13).2; have := (hsx1_13).1; have := (hsx1_13).2; have := (h_9).1; have := (h_9).2; have := (hx3_13).1; have := (hx3_13).2; omega, Or.inr (by { rw [show ((24 - x4_13.toInt) / 8).toNat = 4 from (by { have := i32_0; have := i32_1; have := i32_2; have := i32_m1; have := (hsx0_13).1; have := (hsx0_13).2; have := (hsx1_13).1; have := (hsx1_13).2; have := (h_9).1; have := (h_9).2; have := (hx3_13).1; have := (hx3_13).2; omega })] at hc hkb; exact ⟨hc, hkb, (by { have := i32_0; have := i32_1; have := i32_2; have := i32_m1; have := (hsx0_13).1; have := (hsx0_13).2; have := (hsx1_13).1; have := (hsx1_13).2; have := (h_9).1; have := (h_9).2; have := (hx3_13).1; have := (hx3_13).2; omega })⟩ })⟩)⟩, by rw [ht]; exact hP, va_K.moved hW.alike hK, hD⟩, hS.F ht, by rw [ht]; exact hN⟩) hS.2.2 dX12_typedBehind_87)))
      · have h_10 : iv 0 24 x4_13 := iv_leR (i32_ge c_8) (iv_k (by decide) : iv 0 0 0) hx4_13 (by decide)
        refine lv_iload_n hx hb dX12_typedBehind_18 rfl (lv_at hl 4 rfl) ?_
        refine lv_iload hx hb dX12_typedBehind_19 (lv_at hl 0 rfl) ?_
        refine lv_iushr (v := ((fo).toUInt32 >>> ((x4_13 : Int32).toUInt32 &&& Int32.toUInt32 31)).toInt32) hx hb dX12_typedBehind_21 rfl ?_
        refine lv_topi (fun z_11 ez_11 => ?_)
        refine lv_sipush (v := 255) hx hb dX12_typedBehind_22 (by decide) ?_
        refine lv_iand hx hb dX12_typedBehind_25 ?_
        refine lv_topi (fun z_12 ez_12 => ?_)
        have hz_12 : iv 0 255 z_12 := iv_of ez_12 (iv_255 _)
        have h5 : z_12 = byC fo x4_13 := by unfold byC; rw [ez_12, ez_11]
        refine lv_istore (i := 5) (lv' := [(5, .int z_12), (4, .int x4_13), (3, .int x3_13), (0, eV (ad 0) x), (1, .int st), (2, .int fo)]) hx hb dX12_typedBehind_26 hl (by decide) rfl (fun ls hl => ?_)
        refine lv_iload hx hb dX12_typedBehind_28 (lv_at hl 0 rfl) ?_
        refine lv_if_ne (tgt := 36) hx hb dX12_typedBehind_30 (by decide) (fun c_13 => ?_) (fun c_13 => ?_)
        · have h_14 : iv 1 255 z_12 := iv_neL c_13 hz_12 (by decide)
          refine lv_iload hx hb dX12_typedBehind_36 (lv_at hl 0 rfl) ?_
          refine lv_bipush (v := 10) hx hb dX12_typedBehind_38 (by decide) ?_
          refine lv_icmp_eq (tgt := 57) hx hb dX12_typedBehind_40 (by decide) (fun c_15 => ?_) (fun c_15 => ?_)
          · have h_16 : iv 10 10 z_12 := iv_eq c_15 h_14 (iv_k (by decide) : iv 10 10 10) (by decide)
            exact hj57 gm_j13 z_12 (iv_w h_16 (by decide)) h_10 hx3_13 hsx0_13 hsx1_13 (KS_tr (L := [43]) KS_rf hkg_j13 (by decide)) hI_j13 (hX) (h5) (by have := i32_0; have := i32_1; have := i32_2; have := i32_m1; have := (hsx0_13).1; have := (hsx0_13).2; have := (hsx1_13).1; have := (hsx1_13).2; have := (h_10).1; have := (h_10).2; have := (hx3_13).1; have := (hx3_13).2; have := (h_16).1; have := (h_16).2; omega) (c_13) _ _ _ hP hD hS (lv_sub hl [0, 1, 2, 3, 4, 5] rfl)
          · have d_17 : ¬ (z_12 : Int32).toInt = 10 := lv_neT c_15 rfl
            refine lv_iload hx hb dX12_typedBehind_43 (lv_at hl 0 rfl) ?_
            refine lv_bipush (v := 32) hx hb dX12_typedBehind_45 (by decide) ?_
            refine lv_icmp_lt (tgt := 66) hx hb dX12_typedBehind_47 (by decide) (fun c_18 => ?_) (fun c_18 => ?_)
            · have h_19 : iv 1 31 z_12 := iv_ltL c_18 h_14 (iv_k (by decide) : iv 32 32 32) (by decide)
              exact hj66 gm_j13 z_12 x4_13 x3_13 (iv_w h_19 (by decide)) h_10 hx3_13 hsx0_13 hsx1_13 (KS_tr (L := [43]) KS_rf hkg_j13 (by decide)) hI_j13 (hX.1) ((Or.inl (by_bad h_10 hd (by { rw [← h5]; have n10 : ¬ z_12.toInt = 10 := fun q => c_15 (Int32.toInt_inj.mp q); have := i32_0; have := i32_1; have := i32_2; have := i32_m1; have := (hsx0_13).1; have := (hsx0_13).2; have := (hsx1_13).1; have := (hsx1_13).2; have := (h_10).1; have := (h_10).2; have := (hx3_13).1; have := (hx3_13).2; have := (h_19).1; have := (h_19).2; omega })))) _ _ _ hP hD hS (lv_sub hl [0, 1, 2, 3, 4, 5] rfl)
            · have h_20 : iv 32 255 z_12 := iv_leR (i32_ge c_18) (iv_k (by decide) : iv 32 32 32) h_14 (by decide)
              refine lv_iload hx hb dX12_typedBehind_50 (lv_at hl 0 rfl) ?_
              refine lv_bipush (v := 126) hx hb dX12_typedBehind_52 (by decide) ?_
              refine lv_icmp_gt (tgt := 66) hx hb dX12_typedBehind_54 (by decide) (fun c_21 => ?_) (fun c_21 => ?_)
              · have h_22 : iv 127 255 z_12 := iv_ltR c_21 (iv_k (by decide) : iv 126 126 126) h_20 (by decide)
                exact hj66 gm_j13 z_12 x4_13 x3_13 (iv_w h_22 (by decide)) h_10 hx3_13 hsx0_13 hsx1_13 (KS_tr (L := [43]) KS_rf hkg_j13 (by decide)) hI_j13 (hX.1) ((Or.inl (by_bad h_10 hd (by { rw [← h5]; have n10 : ¬ z_12.toInt = 10 := fun q => c_15 (Int32.toInt_inj.mp q); have := i32_0; have := i32_1; have := i32_2; have := i32_m1; have := (hsx0_13).1; have := (hsx0_13).2; have := (hsx1_13).1; have := (hsx1_13).2; have := (h_10).1; have := (h_10).2; have := (hx3_13).1; have := (hx3_13).2; have := (h_22).1; have := (h_22).2; omega })))) _ _ _ hP hD hS (lv_sub hl [0, 1, 2, 3, 4, 5] rfl)
              · have h_23 : iv 32 126 z_12 := iv_leL (i32_ge c_21) h_20 (iv_k (by decide) : iv 126 126 126) (by decide)
                exact hj57 gm_j13 z_12 (iv_w h_23 (by decide)) h_10 hx3_13 hsx0_13 hsx1_13 (KS_tr (L := [43]) KS_rf hkg_j13 (by decide)) hI_j13 (hX) (h5) (by have := i32_0; have := i32_1; have := i32_2; have := i32_m1; have := (hsx0_13).1; have := (hsx0_13).2; have := (hsx1_13).1; have := (hsx1_13).2; have := (h_10).1; have := (h_10).2; have := (hx3_13).1; have := (hx3_13).2; have := (h_23).1; have := (h_23).2; omega) (c_13) _ _ _ hP hD hS (lv_sub hl [0, 1, 2, 3, 4, 5] rfl)
        · have h_24 : iv 0 0 z_12 := iv_eq c_13 hz_12 (iv_k (by decide) : iv 0 0 0) (by decide)
          have hzz : z_12 = 0 := c_13
          refine lv_goto (tgt := 80) hx hb dX12_typedBehind_33 (by decide) ?_
          exact hj80 gm_j13 z_12 x3_13 (iv_w h_24 (by decide)) h_10 hx3_13 hsx0_13 hsx1_13 (KS_tr (L := [43]) KS_rf hkg_j13 (by decide)) hI_j13 ((TBX_z h_10 hd hX (by rw [← h5]; exact hzz))) (h5) (by have := i32_0; have := i32_1; have := i32_2; have := i32_m1; have := (hsx0_13).1; have := (hsx0_13).2; have := (hsx1_13).1; have := (hsx1_13).2; have := (h_10).1; have := (h_10).2; have := (hx3_13).1; have := (hx3_13).2; have := (h_24).1; have := (h_24).2; omega) ((by { obtain ⟨q1, q2⟩ := by_s (fo := fo) h_10 hd; rw [← h5] at q2; rw [if_pos (by exact hzz)] at q2; have := i32_0; have := i32_1; have := i32_2; have := i32_m1; have := (hsx0_13).1; have := (hsx0_13).2; have := (hsx1_13).1; have := (hsx1_13).2; have := (h_10).1; have := (h_10).2; have := (hx3_13).1; have := (hx3_13).2; have := (h_24).1; have := (h_24).2; omega })) _ _ _ hP hD hS (lv_sub hl [0, 1, 2, 3, 4, 5] rfl)
  refine lv_iload_n hx hb dX12_typedBehind_0 rfl (lv_at hl 1 rfl) ?_
  refine lv_iconst (v := (-1)) hx hb dX12_typedBehind_1 (by decide) ?_
  refine lv_icmp_ne (tgt := 7) hx hb dX12_typedBehind_2 (by decide) (fun c_25 => ?_) (fun c_25 => ?_)
  · have h_26 : iv 0 1200 st := iv_neL c_25 hvst (by decide)
    refine lv_iload_n hx hb dX12_typedBehind_7 rfl (lv_at hl 1 rfl) ?_
    refine lv_istore_n (i := 3) (lv' := [(3, .int st), (0, eV (ad 0) x), (1, .int st), (2, .int fo)]) hx hb dX12_typedBehind_8 rfl hl (by decide) rfl (fun ls hl => ?_)
    refine lv_bipush (v := 24) hx hb dX12_typedBehind_9 (by decide) ?_
    refine lv_istore (i := 4) (lv' := [(4, .int 24), (3, .int st), (0, eV (ad 0) x), (1, .int st), (2, .int fo)]) hx hb dX12_typedBehind_11 hl (by decide) rfl (fun ls hl => ?_)
    exact hj13 _ gm 24 st rfl (iv_w (iv_k (by decide) : iv 24 24 24) (by decide)) h_26 hvx h_26 KS_rf hI (TBX_0) ((by decide)) ((by { show _ = _ + ((0 : Nat) : Int); omega })) ((fun j hj => absurd hj (Nat.not_lt_zero j))) _ _ _ hP hD hS (lv_sub hl [0, 1, 2, 3, 4] rfl)
  · have h_27 : iv (-1) (-1) st := iv_eq c_25 hvst (iv_k (by decide) : iv (-1) (-1) (-1)) (by decide)
    refine lv_iconst (v := (-1)) hx hb dX12_typedBehind_5 (by decide) ?_
    exact W.nb (fun hN => W.widen (k := 1) (n := 6) (by decide) (by decide) (vx_ret (W.iret (v := (-1)) hx hb hr (fun t ht hW => ⟨⟨some (.int (-1)), (sg, gm, lg), rfl, ⟨(-1), rfl, sg, gm, lg, rfl, hI, KS_rf, KS_rf, KS_rf, (iv_w (iv_k (by decide) : iv (-1) (-1) (-1)) (by decide)), (fun _ => rfl), (Or.inl rfl), (fun q9 => absurd q9 (by have := i32_0; have := i32_1; have := i32_2; have := i32_m1; have := (hvx).1; have := (hvx).2; have := (h_27).1; have := (h_27).2; omega)), (Or.inl ⟨by have := i32_0; have := i32_1; have := i32_2; have := i32_m1; have := (hvx).1; have := (hvx).2; have := (h_27).1; have := (h_27).2; omega, rfl⟩)⟩, by rw [ht]; exact hP, va_K.moved hW.alike hK, hD⟩, hS.F ht, by rw [ht]; exact hN⟩) hS.2.2 dX12_typedBehind_6)))

theorem KP5 {p1 p2 p3 p4 s0 r1 r2 r3 r4 : Int32} {f0 f1 f2 f3 f4 f5 : Nat → Int32} (h0 : 0 ≤ s0.toInt) (t1 : TBH s0 p1 r1) (t2 : TBH r1 p2 r2) (t3 : TBH r2 p3 r3) (t4 : TBH r3 p4 r4) (e1 : ∀ i : Nat, (i : Int) < s0.toInt → f1 i = f0 i) (e2 : (r1.toInt = -1 → f2 = f1) ∧ (0 ≤ r1.toInt → ∀ i : Nat, (i : Int) < r1.toInt → f2 i = f1 i)) (e3 : (r2.toInt = -1 → f3 = f2) ∧ (0 ≤ r2.toInt → ∀ i : Nat, (i : Int) < r2.toInt → f3 i = f2 i)) (e4 : (r3.toInt = -1 → f4 = f3) ∧ (0 ≤ r3.toInt → ∀ i : Nat, (i : Int) < r3.toInt → f4 i = f3 i)) (e5 : (r4.toInt = -1 → f5 = f4) ∧ (0 ≤ r4.toInt → ∀ i : Nat, (i : Int) < r4.toInt → f5 i = f4 i)) : ∀ i : Nat, (i : Int) < s0.toInt → f5 i = f0 i := by
  have k : ∀ {a b fo : Int32}, TBH a fo b → (s0.toInt ≤ a.toInt ∨ a.toInt = -1) → (s0.toInt ≤ b.toInt ∨ b.toInt = -1) := by
    intro a b fo t h
    rcases t with c | ⟨c, d | d⟩
    · exact Or.inr c.2
    · exact Or.inr d.1
    · have := d.1; omega
  have k1 := k t1 (Or.inl (Int.le_refl _))
  have k2 := k t2 k1
  have k3 := k t3 k2
  have k4 := k t4 k3
  have st : ∀ {a : Int32} {f g : Nat → Int32}, (s0.toInt ≤ a.toInt ∨ a.toInt = -1) → ((a.toInt = -1 → g = f) ∧ (0 ≤ a.toInt → ∀ i : Nat, (i : Int) < a.toInt → g i = f i)) → ∀ i : Nat, (i : Int) < s0.toInt → g i = f i := by
    intro a f g h e i hi
    rcases h with h | h
    · exact e.2 (by omega) i (by omega)
    · rw [e.1 h]
  intro i hi
  exact (st k4 e5 i hi).trans ((st k3 e4 i hi).trans ((st k2 e3 i hi).trans ((st k1 e2 i hi).trans (e1 i hi))))

set_option maxHeartbeats 4000000 in
set_option maxRecDepth 100000 in
theorem d_type3 (l : Launch) (dC : Nat → ClassId) (dI : Nat → Nat → Nat) (ad : Nat → Nat → Nat) (cid : Nat → ClassId) (a2 : Nat → Nat) (lx : List Nat) (sg : Nat → Int32) (gm : Nat → Nat → Int32) (lg : Nat → Nat → Int64) (x : Int32) (fa : Int32) (fb : Int32) (fc9 : Int32) (fd9 : Int32) (fe9 : Int32) (hI : CI sg gm) (hvx : iv 0 0 x) : CMt dC dI ad cid a2 lx l yX12_type wm_X12_type ({ frames := 1, cells := 1, slots := 6, locals := 25 }) [eV (ad 0) x, .int fa, .int fb, .int fc9, .int fd9, .int fe9] sg gm lg (fun v u => ∃ r : Int32, v = some (.int r) ∧ ∃ (sg2 : Nat → Int32) (gm2 : Nat → Nat → Int32) (lg2 : Nat → Nat → Int64), u = (sg2, gm2, lg2) ∧ CI sg2 gm2 ∧ KS [0] sg sg2 ∧ KS [43] gm gm2 ∧ KS [] lg lg2 ∧ (iv (-1) 1200 r) ∧ (r.toInt = -1 ∨ TYX fa fb fc9 fd9 fe9 (sg 0).toInt (gm2 43) (gm 43) 20) ∧ (∀ i : Nat, (i : Int) < (sg 0).toInt → gm2 43 i = gm 43 i) ∧ (TYR fa fb fc9 fd9 fe9 r (sg 0) (sg2 0))) (fun _ _ => False) := by
  intro sz
  refine vx_ofW (cc := cX12_type) (maxL := 7) (ret := (some .int)) (by decide) rfl ?_
  intro p e s m args below meth c s₁ B hml hxt hv
  obtain ⟨rfl, hsz, hP, hK, hD0, hG⟩ := hv
  have hx := B.exec
  have hb := B.bytes
  have hr := B.returns
  have hts := atoms_spec (ws := wm_X12_type) B.pre
  have htb := fun (w : Cond) (h : w ∈ tb) => hts w (List.mem_cons_of_mem _ h)
  have hown : s.vm.findClass RX12 = some m.cls := findClass_of_methodNamed B.named
  have hlocks := B.notSynchronized
  subst hsz
  have hD := hD0.self (sz := s.heap.size)
  generalize hAe : va_A (cW ad cid a2 lx sg gm lg) s.heap.size = A at hD hG ⊢
  have hA : ∀ q : Nat, s.heap.size ≤ q → A q := fun q h => by rw [← hAe]; exact Or.inr h
  have hS : va_S A s.heap s.heap [] := va_S.rf
  have hl := lv_entry ([eV (ad 0) x, .int fa, .int fb, .int fc9, .int fd9, .int fe9]) (n := 7) (by rw [show (lg_sl ([eV (ad 0) x, .int fa, .int fb, .int fc9, .int fd9, .int fe9])).length = 6 from by simp [lg_sl, eV_cat, cat_i, cat_l]]; exact Nat.le_of_ble_eq_true rfl)
  rw [lg_entry_eq]
  generalize (lg_sl ([eV (ad 0) x, .int fa, .int fb, .int fc9, .int fd9, .int fe9]) ++ List.replicate (7 - (lg_sl ([eV (ad 0) x, .int fa, .int fb, .int fc9, .int fd9, .int fe9])).length) Slot.unset).toArray = ls at hl ⊢
  have hl : lv_has ls 7 [(0, eV (ad 0) x), (1, .int fa), (2, .int fb), (3, .int fc9), (4, .int fd9), (5, .int fe9)] := by simp [lv_args, eV_cat, cat_i, cat_l] at hl; exact hl
  have hj61 : ∀ (sg_j61 : Nat → Int32) (gm_j61 : Nat → Nat → Int32) (x6_61 : Int32) (_ : iv (-1) 1200 x6_61) (_ : iv 0 0 x) (_ : KS [0] sg sg_j61) (_ : KS [43] gm gm_j61) (_ : CI sg_j61 gm_j61) (_ : x6_61.toInt = -1 ∨ TYX fa fb fc9 fd9 fe9 (sg 0).toInt (gm_j61 43) (gm 43) 20) (_ : ∀ i : Nat, (i : Int) < (sg 0).toInt → gm_j61 43 i = gm 43 i) (_ : TYR fa fb fc9 fd9 fe9 x6_61 (sg 0) (sg_j61 0)) (H : Heap) (locs : List Loc) (ls : Array Slot), va_P (dC, dI) vwCl (cW ad cid a2 lx sg_j61 gm_j61 lg) H → va_D A (cW ad cid a2 lx sg_j61 gm_j61 lg) → va_S A s.heap H locs → lv_has ls 7 [(6, .int x6_61), (0, eV (ad 0) x), (1, .int fa), (2, .int fb), (3, .int fc9), (4, .int fd9), (5, .int fe9)] → W p l e (headSpec wm_X12_type ({ frames := 1, cells := 1, slots := 6, locals := 25 })).room s m ([eV (ad 0) x, .int fa, .int fb, .int fc9, .int fd9, .int fe9] : List Value).toArray below meth c H locs 0 0 (vx_MQ below (cQx dC dI ad cid a2 lx (fun v u => ∃ r : Int32, v = some (.int r) ∧ ∃ (sg2 : Nat → Int32) (gm2 : Nat → Nat → Int32) (lg2 : Nat → Nat → Int64), u = (sg2, gm2, lg2) ∧ CI sg2 gm2 ∧ KS [0] sg sg2 ∧ KS [43] gm gm2 ∧ KS [] lg lg2 ∧ (iv (-1) 1200 r) ∧ (r.toInt = -1 ∨ TYX fa fb fc9 fd9 fe9 (sg 0).toInt (gm2 43) (gm 43) 20) ∧ (∀ i : Nat, (i : Int) < (sg 0).toInt → gm2 43 i = gm 43 i) ∧ (TYR fa fb fc9 fd9 fe9 r (sg 0) (sg2 0))) A) (cX dC dI ad cid a2 lx (fun _ _ => False) A) ([eV (ad 0) x, .int fa, .int fb, .int fc9, .int fd9, .int fe9] : List Value).toArray s 1 6 A) (F0 m 61 ls []) := by
    intro sg_j61 gm_j61 x6_61 hx6_61 hsx0_61 hks_j61 hkg_j61 hI_j61 hX hKp hT H locs ls hP hD hS hl
    refine lv_iload hx hb dX12_type_61 (lv_at hl 0 rfl) ?_
    exact W.nb (fun hN => W.widen (k := 1) (n := 6) (by decide) (by decide) (vx_ret (W.iret (v := x6_61) hx hb hr (fun t ht hW => ⟨⟨some (.int x6_61), (sg_j61, gm_j61, lg), rfl, ⟨x6_61, rfl, sg_j61, gm_j61, lg, rfl, hI_j61, (KS_tr (L := [0]) KS_rf hks_j61 (by decide)), (KS_tr (L := [43]) KS_rf hkg_j61 (by decide)), KS_rf, hx6_61, (hX), (hKp), (hT)⟩, by rw [ht]; exact hP, va_K.moved hW.alike hK, hD⟩, hS.F ht, by rw [ht]; exact hN⟩) hS.2.2 dX12_type_63)))
  refine ec_aload_n hx hb dX12_type_0 rfl (lv_at hl 0 rfl) ?_
  refine ec_aload_n hx hb dX12_type_1 rfl (lv_at hl 0 rfl) ?_
  refine cr_get (t := 0) (j := 8) (C := RX12) (T := TX12) (N := 12) (v := .int (sg 0)) hx hb htb inX12 hown hK hP hvx (by decide) (by decide) (by decide) rfl (by decide) (htb _ kw_294) rfl dX12_type_2 ?_
  refine lv_iload_n hx hb dX12_type_5 rfl (lv_at hl 1 rfl) ?_
  refine cm_callV (t := 0) (C := RX12) (T := TX12) (N := 12) (rest := []) (as := [.int (sg 0), .int fa]) ⟨hx, hb, hml, hown, htb⟩ (d_typedBehind3 l dC dI ad cid a2 lx sg gm lg x (sg 0) fa hI hvx (iv_w (show iv 0 1200 (sg 0) from CI_s hI 0) (by decide))) (cwV 2 htb (gd_V kw_295 kw_296 kw_297 kw_2 kw_1407) rfl rfl rfl (by decide +kernel) ⟨Nat.le_of_ble_eq_true rfl, Nat.le_of_ble_eq_true rfl⟩) hvx (by decide) (by decide) rfl rfl hl.1 rfl (Nat.le_trans cs_n (by decide)) dX12_type_6 ⟨Nat.le_of_ble_eq_true rfl, Nat.le_of_ble_eq_true rfl⟩ hK hP hD hS hA hG (fun E ce q9 u_2 H locs hw hP hD hS hce hcv hcl => ?_) (fun v9 u_2 H locs hw hP hD hS => ?_)
  · exact hw.elim
  obtain ⟨r_1, rfl, sgv_3, gmv_3, lgv_3, rfl, hIv_3, ksv_3, kgv_3, klv_3, hr_1, f1_r_1, fX_r_1, fK_r_1, fB_r_1⟩ := hw
  obtain rfl := KS_nil ksv_3
  obtain rfl := KS_nil klv_3
  have hP : va_P (dC, dI) vwCl (cW ad cid a2 lx sg gmv_3 lg) H := hP
  have hD : va_D A (cW ad cid a2 lx sg gmv_3 lg) := hD
  refine W.eq (g2 := F0 m 9 ls [.int r_1]) rfl ?_
  refine lv_istore (i := 6) (lv' := [(6, .int r_1), (0, eV (ad 0) x), (1, .int fa), (2, .int fb), (3, .int fc9), (4, .int fd9), (5, .int fe9)]) hx hb dX12_type_9 hl (by decide) rfl (fun ls hl => ?_)
  refine ec_aload_n hx hb dX12_type_11 rfl (lv_at hl 1 rfl) ?_
  refine lv_iload hx hb dX12_type_12 (lv_at hl 0 rfl) ?_
  refine lv_iload_n hx hb dX12_type_14 rfl (lv_at hl 3 rfl) ?_
  refine cm_callV (t := 0) (C := RX12) (T := TX12) (N := 12) (rest := []) (as := [.int r_1, .int fb]) ⟨hx, hb, hml, hown, htb⟩ (d_typedBehind3 l dC dI ad cid a2 lx sg gmv_3 lg x r_1 fb hIv_3 hvx hr_1) (cwV 2 htb (gd_V kw_295 kw_296 kw_297 kw_2 kw_1407) rfl rfl rfl (by decide +kernel) ⟨Nat.le_of_ble_eq_true rfl, Nat.le_of_ble_eq_true rfl⟩) hvx (by decide) (by decide) rfl rfl hl.1 rfl (Nat.le_trans cs_n (by decide)) dX12_type_15 ⟨Nat.le_of_ble_eq_true rfl, Nat.le_of_ble_eq_true rfl⟩ hK hP hD hS hA hG (fun E ce q9 u_5 H locs hw hP hD hS hce hcv hcl => ?_) (fun v9 u_5 H locs hw hP hD hS => ?_)
  · exact hw.elim
  obtain ⟨r_4, rfl, sgv_6, gmv_6, lgv_6, rfl, hIv_6, ksv_6, kgv_6, klv_6, hr_4, f1_r_4, fX_r_4, fK_r_4, fB_r_4⟩ := hw
  obtain rfl := KS_nil ksv_6
  obtain rfl := KS_nil klv_6
  have hP : va_P (dC, dI) vwCl (cW ad cid a2 lx sg gmv_6 lg) H := hP
  have hD : va_D A (cW ad cid a2 lx sg gmv_6 lg) := hD
  refine W.eq (g2 := F0 m 18 ls [.int r_4]) rfl ?_
  refine lv_istore (i := 6) (lv' := [(6, .int r_4), (0, eV (ad 0) x), (1, .int fa), (2, .int fb), (3, .int fc9), (4, .int fd9), (5, .int fe9)]) hx hb dX12_type_18 hl (by decide) rfl (fun ls hl => ?_)
  refine ec_aload_n hx hb dX12_type_20 rfl (lv_at hl 1 rfl) ?_
  refine lv_iload hx hb dX12_type_21 (lv_at hl 0 rfl) ?_
  refine lv_iload_n hx hb dX12_type_23 rfl (lv_at hl 4 rfl) ?_
  refine cm_callV (t := 0) (C := RX12) (T := TX12) (N := 12) (rest := []) (as := [.int r_4, .int fc9]) ⟨hx, hb, hml, hown, htb⟩ (d_typedBehind3 l dC dI ad cid a2 lx sg gmv_6 lg x r_4 fc9 hIv_6 hvx hr_4) (cwV 2 htb (gd_V kw_295 kw_296 kw_297 kw_2 kw_1407) rfl rfl rfl (by decide +kernel) ⟨Nat.le_of_ble_eq_true rfl, Nat.le_of_ble_eq_true rfl⟩) hvx (by decide) (by decide) rfl rfl hl.1 rfl (Nat.le_trans cs_n (by decide)) dX12_type_24 ⟨Nat.le_of_ble_eq_true rfl, Nat.le_of_ble_eq_true rfl⟩ hK hP hD hS hA hG (fun E ce q9 u_8 H locs hw hP hD hS hce hcv hcl => ?_) (fun v9 u_8 H locs hw hP hD hS => ?_)
  · exact hw.elim
  obtain ⟨r_7, rfl, sgv_9, gmv_9, lgv_9, rfl, hIv_9, ksv_9, kgv_9, klv_9, hr_7, f1_r_7, fX_r_7, fK_r_7, fB_r_7⟩ := hw
  obtain rfl := KS_nil ksv_9
  obtain rfl := KS_nil klv_9
  have hP : va_P (dC, dI) vwCl (cW ad cid a2 lx sg gmv_9 lg) H := hP
  have hD : va_D A (cW ad cid a2 lx sg gmv_9 lg) := hD
  refine W.eq (g2 := F0 m 27 ls [.int r_7]) rfl ?_
  refine lv_istore (i := 6) (lv' := [(6, .int r_7), (0, eV (ad 0) x), (1, .int fa), (2, .int fb), (3, .int fc9), (4, .int fd9), (5, .int fe9)]) hx hb dX12_type_27 hl (by decide) rfl (fun ls hl => ?_)
  refine ec_aload_n hx hb dX12_type_29 rfl (lv_at hl 1 rfl) ?_
  refine lv_iload hx hb dX12_type_30 (lv_at hl 0 rfl) ?_
  refine lv_iload hx hb dX12_type_32 (lv_at hl 5 rfl) ?_
  refine cm_callV (t := 0) (C := RX12) (T := TX12) (N := 12) (rest := []) (as := [.int r_7, .int fd9]) ⟨hx, hb, hml, hown, htb⟩ (d_typedBehind3 l dC dI ad cid a2 lx sg gmv_9 lg x r_7 fd9 hIv_9 hvx hr_7) (cwV 2 htb (gd_V kw_295 kw_296 kw_297 kw_2 kw_1407) rfl rfl rfl (by decide +kernel) ⟨Nat.le_of_ble_eq_true rfl, Nat.le_of_ble_eq_true rfl⟩) hvx (by decide) (by decide) rfl rfl hl.1 rfl (Nat.le_trans cs_n (by decide)) dX12_type_34 ⟨Nat.le_of_ble_eq_true rfl, Nat.le_of_ble_eq_true rfl⟩ hK hP hD hS hA hG (fun E ce q9 u_11 H locs hw hP hD hS hce hcv hcl => ?_) (fun v9 u_11 H locs hw hP hD hS => ?_)
  · exact hw.elim
  obtain ⟨r_10, rfl, sgv_12, gmv_12, lgv_12, rfl, hIv_12, ksv_12, kgv_12, klv_12, hr_10, f1_r_10, fX_r_10, fK_r_10, fB_r_10⟩ := hw
  obtain rfl := KS_nil ksv_12
  obtain rfl := KS_nil klv_12
  have hP : va_P (dC, dI) vwCl (cW ad cid a2 lx sg gmv_12 lg) H := hP
  have hD : va_D A (cW ad cid a2 lx sg gmv_12 lg) := hD
  refine W.eq (g2 := F0 m 37 ls [.int r_10]) rfl ?_
  refine lv_istore (i := 6) (lv' := [(6, .int r_10), (0, eV (ad 0) x), (1, .int fa), (2, .int fb), (3, .int fc9), (4, .int fd9), (5, .int fe9)]) hx hb dX12_type_37 hl (by decide) rfl (fun ls hl => ?_)
  refine ec_aload_n hx hb dX12_type_39 rfl (lv_at hl 1 rfl) ?_
  refine lv_iload hx hb dX12_type_40 (lv_at hl 0 rfl) ?_
  refine lv_iload hx hb dX12_type_42 (lv_at hl 6 rfl) ?_
  refine cm_callV (t := 0) (C := RX12) (T := TX12) (N := 12) (rest := []) (as := [.int r_10, .int fe9]) ⟨hx, hb, hml, hown, htb⟩ (d_typedBehind3 l dC dI ad cid a2 lx sg gmv_12 lg x r_10 fe9 hIv_12 hvx hr_10) (cwV 2 htb (gd_V kw_295 kw_296 kw_297 kw_2 kw_1407) rfl rfl rfl (by decide +kernel) ⟨Nat.le_of_ble_eq_true rfl, Nat.le_of_ble_eq_true rfl⟩) hvx (by decide) (by decide) rfl rfl hl.1 rfl (Nat.le_trans cs_n (by decide)) dX12_type_44 ⟨Nat.le_of_ble_eq_true rfl, Nat.le_of_ble_eq_true rfl⟩ hK hP hD hS hA hG (fun E ce q9 u_14 H locs hw hP hD hS hce hcv hcl => ?_) (fun v9 u_14 H locs hw hP hD hS => ?_)
  · exact hw.elim
  obtain ⟨r_13, rfl, sgv_15, gmv_15, lgv_15, rfl, hIv_15, ksv_15, kgv_15, klv_15, hr_13, f1_r_13, fX_r_13, fK_r_13, fB_r_13⟩ := hw
  obtain rfl := KS_nil ksv_15
  obtain rfl := KS_nil klv_15
  have hP : va_P (dC, dI) vwCl (cW ad cid a2 lx sg gmv_15 lg) H := hP
  have hD : va_D A (cW ad cid a2 lx sg gmv_15 lg) := hD
  refine W.eq (g2 := F0 m 47 ls [.int r_13]) rfl ?_
  refine lv_istore (i := 6) (lv' := [(6, .int r_13), (0, eV (ad 0) x), (1, .int fa), (2, .int fb), (3, .int fc9), (4, .int fd9), (5, .int fe9)]) hx hb dX12_type_47 hl (by decide) rfl (fun ls hl => ?_)
  refine lv_iload hx hb dX12_type_49 (lv_at hl 0 rfl) ?_
  refine lv_iconst (v := (-1)) hx hb dX12_type_51 (by decide) ?_
  refine lv_icmp_eq (tgt := 61) hx hb dX12_type_52 (by decide) (fun c_16 => ?_) (fun c_16 => ?_)
  · have h_17 : iv (-1) (-1) r_13 := iv_eq c_16 hr_13 (iv_k (by decide) : iv (-1) (-1) (-1)) (by decide)
    exact hj61 sg gmv_15 r_13 (iv_w h_17 (by decide)) hvx KS_rf (KS_tr (L := [43]) (KS_tr (L := [43]) (KS_tr (L := [43]) (KS_tr (L := [43]) (KS_tr (L := [43]) KS_rf kgv_3 (by decide)) kgv_6 (by decide)) kgv_9 (by decide)) kgv_12 (by decide)) kgv_15 (by decide)) hIv_15 (Or.inl (by have := i32_0; have := i32_1; have := i32_2; have := i32_m1; have := (hvx).1; have := (hvx).2; have := ((show iv 0 1200 (sg 0) from CI_s hI 0)).1; have := ((show iv 0 1200 (sg 0) from CI_s hI 0)).2; have := (hr_1).1; have := (hr_1).2; have := (hr_4).1; have := (hr_4).2; have := (hr_7).1; have := (hr_7).2; have := (hr_10).1; have := (hr_10).2; have := (h_17).1; have := (h_17).2; omega)) ((KP5 (show iv 0 1200 (sg 0) from CI_s hI 0).1 fB_r_1 fB_r_4 fB_r_7 fB_r_10 (fK_r_1 (show iv 0 1200 (sg 0) from CI_s hI 0).1) ⟨f1_r_4, fK_r_4⟩ ⟨f1_r_7, fK_r_7⟩ ⟨f1_r_10, fK_r_10⟩ ⟨f1_r_13, fK_r_13⟩)) ((TYR_of (show iv 0 1200 (sg 0) from CI_s hI 0).1 fB_r_1 fB_r_4 fB_r_7 fB_r_10 fB_r_13 (Or.inl ⟨(by have := i32_0; have := i32_1; have := i32_2; have := i32_m1; have := (hvx).1; have := (hvx).2; have := ((show iv 0 1200 (sg 0) from CI_s hI 0)).1; have := ((show iv 0 1200 (sg 0) from CI_s hI 0)).2; have := (hr_1).1; have := (hr_1).2; have := (hr_4).1; have := (hr_4).2; have := (hr_7).1; have := (hr_7).2; have := (hr_10).1; have := (hr_10).2; have := (h_17).1; have := (h_17).2; omega), rfl⟩))) _ _ _ hP hD hS (lv_sub hl [0, 1, 2, 3, 4, 5, 6] rfl)
  · have h_18 : iv 0 1200 r_13 := iv_neL c_16 hr_13 (by decide)
    refine ec_aload_n hx hb dX12_type_55 rfl (lv_at hl 1 rfl) ?_
    refine lv_iload hx hb dX12_type_56 (lv_at hl 0 rfl) ?_
    refine cr_puts (t := 0) (j := 8) (C := RX12) (T := TX12) (N := 12) (ty0 := tyX12) (k := 0) (y := r_13) hx hb htb inX12 tyX12_ok nmX12 hown hK hP hD hS hvx (by decide) (by decide) (by decide) (by decide) rfl rfl rfl (by decide) (htb _ kw_294) rfl (by show Value.int r_13 = Value.int (va_up sg 0 r_13 0); rw [va_up_self]) rfl rfl dX12_type_58 (fun sg_19 H locs esg_19 hP hD hS => ?_)
    have hI_sg_19 := CI_put hIv_15 esg_19 h_18 (by decide)
    exact hj61 sg_19 gmv_15 r_13 (iv_w h_18 (by decide)) hvx (KS_up KS_rf esg_19 (by decide)) (KS_tr (L := [43]) (KS_tr (L := [43]) (KS_tr (L := [43]) (KS_tr (L := [43]) (KS_tr (L := [43]) KS_rf kgv_3 (by decide)) kgv_6 (by decide)) kgv_9 (by decide)) kgv_12 (by decide)) kgv_15 (by decide)) hI_sg_19 (Or.inr (TYX_of (show iv 0 1200 (sg 0) from CI_s hI 0).1 fB_r_1 fB_r_4 fB_r_7 fB_r_10 fB_r_13 fX_r_1 fX_r_4 fX_r_7 fX_r_10 fX_r_13 (by have := i32_0; have := i32_1; have := i32_2; have := i32_m1; have := (hvx).1; have := (hvx).2; have := ((show iv 0 1200 (sg 0) from CI_s hI 0)).1; have := ((show iv 0 1200 (sg 0) from CI_s hI 0)).2; have := (hr_1).1; have := (hr_1).2; have := (hr_4).1; have := (hr_4).2; have := (hr_7).1; have := (hr_7).2; have := (hr_10).1; have := (hr_10).2; have := (h_18).1; have := (h_18).2; omega))) ((KP5 (show iv 0 1200 (sg 0) from CI_s hI 0).1 fB_r_1 fB_r_4 fB_r_7 fB_r_10 (fK_r_1 (show iv 0 1200 (sg 0) from CI_s hI 0).1) ⟨f1_r_4, fK_r_4⟩ ⟨f1_r_7, fK_r_7⟩ ⟨f1_r_10, fK_r_10⟩ ⟨f1_r_13, fK_r_13⟩)) ((TYR_of (show iv 0 1200 (sg 0) from CI_s hI 0).1 fB_r_1 fB_r_4 fB_r_7 fB_r_10 fB_r_13 (Or.inr ⟨(by have := i32_0; have := i32_1; have := i32_2; have := i32_m1; have := (hvx).1; have := (hvx).2; have := ((show iv 0 1200 (sg 0) from CI_s hI 0)).1; have := ((show iv 0 1200 (sg 0) from CI_s hI 0)).2; have := (hr_1).1; have := (hr_1).2; have := (hr_4).1; have := (hr_4).2; have := (hr_7).1; have := (hr_7).2; have := (hr_10).1; have := (hr_10).2; have := (h_18).1; have := (h_18).2; omega), (up_at esg_19)⟩))) _ _ _ hP hD hS (lv_sub hl [0, 1, 2, 3, 4, 5, 6] rfl)
