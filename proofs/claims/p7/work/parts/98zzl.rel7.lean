/-- the same text typed, and only such as may be -/
def TXR (sg : Nat → Int32) (gm : Nat → Nat → Int32) (sm : Nat → Int32) (gn : Nat → Nat → Int32) : Prop := sg 0 = sm 20 ∧ ∀ i : Nat, (i : Int) < (sg 0).toInt → gm 43 i = gn 19 i ∧ 1 ≤ (gn 19 i).toInt ∧ (gn 19 i).toInt ≤ 126
theorem TXR_k {sg sg2 sm sm2 : Nat → Int32} {gm gm2 gn gn2 : Nat → Nat → Int32} (h : TXR sg gm sm gn) (e0 : sg2 0 = sg 0) (e43 : gm2 43 = gm 43) (e20 : sm2 20 = sm 20) (e19 : gn2 19 = gn 19) : TXR sg2 gm2 sm2 gn2 := by unfold TXR; rw [e0, e43, e20, e19]; exact h
theorem TXR_0 {sg sm : Nat → Int32} {gm gn : Nat → Nat → Int32} (e0 : (sg 0).toInt = 0) (e20 : (sm 20).toInt = 0) : TXR sg gm sm gn := ⟨Int32.toInt_inj.mp (e0.trans e20.symm), fun i hi => by omega⟩
theorem tyN_ex (p1 p2 p3 p4 p5 : Int32) : ∀ n j, j < tyN p1 p2 p3 p4 p5 n → ∃ k, k < n ∧ ¬ tyS p1 p2 p3 p4 p5 (nI k) = 0 ∧ tyN p1 p2 p3 p4 p5 k = j := by
  intro n
  induction n with
  | zero => intro j h; exact absurd h (Nat.not_lt_zero j)
  | succ n ih =>
    intro j h
    have h : j < tyN p1 p2 p3 p4 p5 n + (if tyS p1 p2 p3 p4 p5 (nI n) = 0 then 0 else 1) := h
    by_cases q : j < tyN p1 p2 p3 p4 p5 n
    · obtain ⟨k, a, b⟩ := ih j q; exact ⟨k, by omega, b⟩
    · by_cases z : tyS p1 p2 p3 p4 p5 (nI n) = 0
      · rw [if_pos z] at h; omega
      · rw [if_neg z] at h; exact ⟨n, by omega, z, by omega⟩
theorem TXR_t {p1 p2 p3 p4 p5 r r' : Int32} {sg sg2 sm sm2 : Nat → Int32} {gm gm2 gn gn2 : Nat → Nat → Int32} (h : TXR sg gm sm gn) (h0 : 0 ≤ (sg 0).toInt) (fT : TYR p1 p2 p3 p4 p5 r (sg 0) (sg2 0)) (gT : TYR p1 p2 p3 p4 p5 r' (sm 20) (sm2 20)) (fX : r.toInt = -1 ∨ TYX p1 p2 p3 p4 p5 (sg 0).toInt (gm2 43) (gm 43) 20) (fK : ∀ i : Nat, (i : Int) < (sg 0).toInt → gm2 43 i = gm 43 i) (gX : r'.toInt = -1 ∧ gn2 19 = gn 19 ∨ TYX p1 p2 p3 p4 p5 (sm 20).toInt (gn2 19) (gn 19) 20) : TXR sg2 gm2 sm2 gn2 := by
  obtain ⟨e1, e2⟩ := TYR_e h.1 fT gT
  subst e1
  refine ⟨e2, ?_⟩
  rcases fT with ⟨a1, a2, a3⟩ | ⟨a1, a2, a3, a4⟩
  · rw [a3]
    have g19 : ∀ i : Nat, (i : Int) < (sg 0).toInt → gn2 19 i = gn 19 i := fun i hi => by
      rcases gX with q | q
      · rw [q.2]
      · exact q.1 i (by rw [← h.1]; exact hi)
    intro i hi
    rw [fK i hi, g19 i hi]
    exact h.2 i hi
  · have hr : ¬ r.toInt = -1 := by omega
    have fX := fX.resolve_left hr
    have gX := gX.resolve_left (fun q => hr q.1)
    rw [← h.1] at gX
    intro i hi
    rw [a4, a1] at hi
    by_cases q : (i : Int) < (sg 0).toInt
    · rw [fX.1 i q, gX.1 i q]; exact h.2 i q
    · obtain ⟨k, k1, k2, k3⟩ := tyN_ex p1 p2 p3 p4 p5 20 (i - (sg 0).toInt.toNat) (by omega)
      have ei : i = (sg 0).toInt.toNat + tyN p1 p2 p3 p4 p5 k := by omega
      have b1 := fX.2 k k1 k2
      have b2 := gX.2 k k1 k2
      rw [← ei] at b1 b2
      rw [b1, b2]
      have b3 := a2 k k1
      have b4 : ¬ (tyS p1 p2 p3 p4 p5 (nI k)).toInt = 0 := fun w => k2 (Int32.toInt_inj.mp w)
      exact ⟨rfl, by omega, by omega⟩
/-- the text as both read it -/
def chT (sm : Nat → Int32) (gn : Nat → Nat → Int32) (i : Nat) : Int := if (i : Int) < (sm 20).toInt then (gn 19 i).toInt else -1
theorem chT_r {sm : Nat → Int32} {gn : Nat → Nat → Int32} (h0 : 0 ≤ (sm 20).toInt) : CHR (chT sm gn) (sm 20).toInt.toNat (sm 20) (gn 19) := ⟨by omega, fun _ => rfl⟩
theorem chT_c {sg sm : Nat → Int32} {gm gn : Nat → Nat → Int32} (h : TXR sg gm sm gn) (h0 : 0 ≤ (sm 20).toInt) : CHR (chT sm gn) (sm 20).toInt.toNat (sg 0) (gm 43) := by
  refine ⟨by rw [h.1]; omega, fun i => ?_⟩
  unfold chT
  rw [h.1]
  by_cases q : (i : Int) < (sm 20).toInt
  · rw [if_pos q, if_pos q, (h.2 i (by rw [h.1]; exact q)).1]
  · rw [if_neg q, if_neg q]
theorem chT_p {sg sm : Nat → Int32} {gm gn : Nat → Nat → Int32} (h : TXR sg gm sm gn) : PC7 (chT sm gn) := by
  intro i
  unfold chT
  by_cases q : (i : Int) < (sm 20).toInt
  · rw [if_pos q]; exact Or.inr (h.2 i (by rw [h.1]; exact q)).2
  · rw [if_neg q]; exact Or.inl rfl
theorem ACPQ {ch : Nat → Int} {n : Nat} (hx : XX7 ch n) (hp : PC7 ch) : ACP ch n ↔ ACQ ch n := by
  constructor
  · rintro ⟨a, b⟩; exact ⟨a, (AC_e (sDoc_pv hp a) (hx _ a).1 (hx _ a).2).mp b⟩
  · rintro ⟨a, b⟩; exact ⟨a, (AC_e (sDoc_pv hp a) (hx _ a).1 (hx _ a).2).mpr b⟩
/-- what class and reference have in common -/
def REL (sg : Nat → Int32) (gm : Nat → Nat → Int32) (sm : Nat → Int32) (gn : Nat → Nat → Int32) (ln : Nat → Nat → Int64) : Prop := TXR sg gm sm gn ∧ ENT (gn 3) (gn 4) (ln 2) ∧ WRD7 (ln 0) (ln 1)
