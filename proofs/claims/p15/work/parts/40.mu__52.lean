section
/-- what is left to do of a frame; w is 1 for one that waits -/
def vF (p9 ix it : Int32) (w : Nat) : Nat := 2 * (1080 - (216 * p9.toNatClampNeg + 8 * ix.toNatClampNeg + it.toNatClampNeg)) - (if 3 ≤ p9.toNatClampNeg then w else 0)
def muW (gm : Nat → Nat → Int32) : Nat → Nat
  | 0 => 0
  | k + 1 => muW gm k + vF (gm 65 k) (gm 66 k) (gm 67 k) 1 * 4096 ^ (80 - k)
def mu (sg : Nat → Int32) (gm : Nat → Nat → Int32) : Nat := if (sg 63).toNatClampNeg = 0 then 0 else muW gm (TOPn sg) + vF (gm 65 (TOPn sg)) (gm 66 (TOPn sg)) (gm 67 (TOPn sg)) 0 * 4096 ^ (80 - TOPn sg)
theorem muW_k {gm gm2 : Nat → Nat → Int32} : ∀ k, (∀ j, j < k → gm2 65 j = gm 65 j ∧ gm2 66 j = gm 66 j ∧ gm2 67 j = gm 67 j) → muW gm2 k = muW gm k := by
  intro k
  induction k with
  | zero => intro _; rfl
  | succ k ih =>
    intro h
    show muW gm2 k + _ = muW gm k + _
    obtain ⟨a, b, d⟩ := h k (by omega)
    rw [ih (fun j hj => h j (by omega)), a, b, d]
theorem vF_le (p9 ix it : Int32) (w : Nat) : vF p9 ix it w ≤ 2160 := by unfold vF; omega
theorem cl_0 {x : Int32} (h : 0 ≤ x.toInt) : ((x.toNatClampNeg : Nat) : Int) = x.toInt := iv_cl (a := 0) (b := x.toInt) ⟨h, Int.le_refl _⟩ (by decide)
theorem mu_top {sg sg2 : Nat → Int32} {gm gm2 : Nat → Nat → Int32} (h1 : 1 ≤ (sg 63).toInt) (h63 : sg2 63 = sg 63) (hk : ∀ j, j < TOPn sg → gm2 65 j = gm 65 j ∧ gm2 66 j = gm 66 j ∧ gm2 67 j = gm 67 j)
    (hv : vF (gm2 65 (TOPn sg)) (gm2 66 (TOPn sg)) (gm2 67 (TOPn sg)) 0 < vF (gm 65 (TOPn sg)) (gm 66 (TOPn sg)) (gm 67 (TOPn sg)) 0) : mu sg2 gm2 < mu sg gm := by
  have e1 : TOPn sg2 = TOPn sg := by unfold TOPn; rw [h63]
  have e2 : ¬ (sg 63).toNatClampNeg = 0 := by have := cl_0 (x := sg 63) (by omega); omega
  have hp : 0 < 4096 ^ (80 - TOPn sg) := Nat.pow_pos (by decide)
  have h3 := Nat.mul_le_mul_right (4096 ^ (80 - TOPn sg)) (Nat.succ_le_of_lt hv)
  rw [Nat.succ_mul] at h3
  unfold mu
  rw [h63, e1, if_neg e2, if_neg e2, muW_k _ hk]
  omega
theorem mu_push {sg sg2 : Nat → Int32} {gm gm2 : Nat → Nat → Int32} (h1 : 1 ≤ (sg 63).toInt) (h79 : (sg 63).toInt ≤ 79) (h63 : (sg2 63).toInt = (sg 63).toInt + 1) (hk : ∀ j, j < TOPn sg → gm2 65 j = gm 65 j ∧ gm2 66 j = gm 66 j ∧ gm2 67 j = gm 67 j)
    (hv : vF (gm2 65 (TOPn sg)) (gm2 66 (TOPn sg)) (gm2 67 (TOPn sg)) 1 < vF (gm 65 (TOPn sg)) (gm 66 (TOPn sg)) (gm 67 (TOPn sg)) 0) : mu sg2 gm2 < mu sg gm := by
  have k1 := cl_0 (x := sg 63) (by omega)
  have k2 := cl_0 (x := sg2 63) (by omega)
  have e1 : TOPn sg2 = TOPn sg + 1 := by unfold TOPn; omega
  have e2 : ¬ (sg 63).toNatClampNeg = 0 := by omega
  have e3 : ¬ (sg2 63).toNatClampNeg = 0 := by omega
  have e4 : 80 - TOPn sg = (80 - (TOPn sg + 1)) + 1 := by unfold TOPn; omega
  have hp : 0 < 4096 ^ (80 - (TOPn sg + 1)) := Nat.pow_pos (by decide)
  unfold mu
  rw [if_neg e2, if_neg e3, e1]
  show muW gm2 (TOPn sg) + vF (gm2 65 (TOPn sg)) (gm2 66 (TOPn sg)) (gm2 67 (TOPn sg)) 1 * 4096 ^ (80 - TOPn sg) + _ < _
  rw [muW_k _ hk, e4, Nat.pow_succ]
  generalize 4096 ^ (80 - (TOPn sg + 1)) = P at *
  have hn := vF_le (gm2 65 (TOPn sg + 1)) (gm2 66 (TOPn sg + 1)) (gm2 67 (TOPn sg + 1)) 0
  generalize vF (gm2 65 (TOPn sg + 1)) (gm2 66 (TOPn sg + 1)) (gm2 67 (TOPn sg + 1)) 0 = vn at *
  generalize vF (gm2 65 (TOPn sg)) (gm2 66 (TOPn sg)) (gm2 67 (TOPn sg)) 1 = v1 at *
  generalize vF (gm 65 (TOPn sg)) (gm 66 (TOPn sg)) (gm 67 (TOPn sg)) 0 = v0 at *
  have h3 := Nat.mul_le_mul_right (P * 4096) (Nat.succ_le_of_lt hv)
  rw [Nat.succ_mul] at h3
  have h4 := Nat.mul_le_mul_right P hn
  omega
theorem mu_pop {sg sg2 : Nat → Int32} {gm gm2 : Nat → Nat → Int32} (h1 : 2 ≤ (sg 63).toInt) (h80 : (sg 63).toInt ≤ 80) (h63 : (sg2 63).toInt = (sg 63).toInt - 1) (hk : ∀ j, j < TOPn sg2 → gm2 65 j = gm 65 j ∧ gm2 66 j = gm 66 j ∧ gm2 67 j = gm 67 j)
    (hv : vF (gm2 65 (TOPn sg2)) (gm2 66 (TOPn sg2)) (gm2 67 (TOPn sg2)) 0 ≤ vF (gm 65 (TOPn sg2)) (gm 66 (TOPn sg2)) (gm 67 (TOPn sg2)) 1) (hq : 1 ≤ vF (gm 65 (TOPn sg)) (gm 66 (TOPn sg)) (gm 67 (TOPn sg)) 0) : mu sg2 gm2 < mu sg gm := by
  have k1 := cl_0 (x := sg 63) (by omega)
  have k2 := cl_0 (x := sg2 63) (by omega)
  have e1 : TOPn sg = TOPn sg2 + 1 := by unfold TOPn; omega
  have e2 : ¬ (sg 63).toNatClampNeg = 0 := by omega
  have e3 : ¬ (sg2 63).toNatClampNeg = 0 := by omega
  have hp : 0 < 4096 ^ (80 - TOPn sg) := Nat.pow_pos (by decide)
  have h3 := Nat.mul_le_mul_right (4096 ^ (80 - TOPn sg2)) hv
  have h4 := Nat.mul_le_mul_right (4096 ^ (80 - TOPn sg)) hq
  rw [Nat.one_mul] at h4
  unfold mu
  rw [if_neg e2, if_neg e3]
  have e5 : muW gm (TOPn sg) = muW gm (TOPn sg2) + vF (gm 65 (TOPn sg2)) (gm 66 (TOPn sg2)) (gm 67 (TOPn sg2)) 1 * 4096 ^ (80 - TOPn sg2) := by rw [e1]; rfl
  rw [e5, muW_k _ hk]
  omega
/-- the pile between two steps -/
def INVp (sg : Nat → Int32) (gm : Nat → Nat → Int32) (lg : Nat → Nat → Int64) : Prop := INVo sg gm lg ∧ ∀ j, j + 1 < (sg 63).toNatClampNeg → 1 ≤ (gm 65 j).toInt
def STEP (sg : Nat → Int32) (gm : Nat → Nat → Int32) (sg2 : Nat → Int32) (gm2 : Nat → Nat → Int32) (lg2 : Nat → Nat → Int64) : Prop := INVp sg2 gm2 lg2 ∧ mu sg2 gm2 < mu sg gm
theorem FR_mv {sg sg2 : Nat → Int32} {gm gm2 : Nat → Nat → Int32} {lg lg2 : Nat → Nat → Int64} {j : Nat} {w : Int} (q : FR sg gm lg j w) (h : DK sg gm lg sg2 gm2 lg2) (h44 : gm2 44 = gm 44) (h45 : gm2 45 = gm 45) (h1 : lg2 1 = lg 1) (ho : ∀ k, 0 ≤ (gm 60 k).toInt → 0 ≤ (gm2 60 k).toInt) (h64 : gm2 64 j = gm 64 j) (h65 : gm2 65 j = gm 65 j) (h66 : gm2 66 j = gm 66 j) (h67 : gm2 67 j = gm 67 j) (h69 : gm2 69 j = gm 69 j) : FR sg2 gm2 lg2 j w := by
  unfold FR at *
  rw [h64, h65, h66, h67, h69]
  exact FRv_k h h44 h45 h1 ho q
theorem PIL_top {sg : Nat → Int32} {gm : Nat → Nat → Int32} (h : PIL sg gm) (h1 : 1 ≤ (sg 63).toInt) : ¬ gm 62 (gm 64 (TOPn sg)).toNatClampNeg = 0 ∧ iv 0 79 (gm 64 (TOPn sg)) ∧ (gm 64 (TOPn sg)).toInt < (sg 41).toInt := by
  have k1 := cl_0 (x := sg 63) (by omega)
  obtain ⟨a, b, d, _⟩ := h (TOPn sg) (by unfold TOPn; omega)
  exact ⟨a, b, d⟩
theorem LIM_nn {sg : Nat → Int32} {gm : Nat → Nat → Int32} {lg : Nat → Nat → Int64} {x : Int32} (hI : MI sg gm) (hd : DOC sg gm lg) (hx : iv 0 79 x) (hl : x.toNatClampNeg < (sg 24).toNatClampNeg) : 0 ≤ LIM sg gm x := (LIM_iv hd.1.1 (show iv 0 80 (sg 24) from MI_s hI 24) hd.1.2.1 hx hl).1
theorem LM_nn {sg : Nat → Int32} {gm : Nat → Nat → Int32} {lg : Nat → Nat → Int64} {b p9 ix : Int32} (hI : MI sg gm) (hd : DOC sg gm lg) (hb : iv 0 79 b) (hbl : b.toInt < (sg 41).toInt) (hix : 0 ≤ ix.toInt) : 0 ≤ LM sg gm lg b p9 ix := by
  unfold LM
  by_cases q : p9.toInt = 3
  · rw [if_pos q]
    by_cases q2 : mArg sg gm lg b ix.toNatClampNeg = -1
    · rw [if_pos q2]; exact Int.le_refl _
    · rw [if_neg q2]
      obtain ⟨a1, a2, a3⟩ := arg_el (show iv 0 80 (sg 24) from MI_s hI 24) rfl q2
      exact LIM_nn hI hd a1 a2
  · rw [if_neg q]
    by_cases q2 : ix.toInt < (gm 44 b.toNatClampNeg).toInt
    · rw [if_pos q2]
      have kb := iv_cl hb (by decide)
      have k3 := hb.2
      have k4 := cl_0 hix
      have k5 := cl_0 (x := gm 44 b.toNatClampNeg) (by omega)
      have k6 := cl_0 (x := sg 41) (by have := hb.1; omega)
      have := hd.2 b.toNatClampNeg (by omega) ix.toNatClampNeg (by omega)
      exact LIM_nn hI hd this.1 this.2.2
    · rw [if_neg q2]; exact Int.le_refl _
/-- the one on top goes on -/
theorem ST_top {sg sg2 : Nat → Int32} {gm gm2 : Nat → Nat → Int32} {lg lg2 : Nat → Nat → Int64} (hi : INVp sg gm lg) (h1 : 1 ≤ (sg 63).toInt) (h : DK sg gm lg sg2 gm2 lg2) (h44 : gm2 44 = gm 44) (h45 : gm2 45 = gm 45) (hl1 : lg2 1 = lg 1) (ho : ∀ k, 0 ≤ (gm 60 k).toInt → 0 ≤ (gm2 60 k).toInt) (h63 : sg2 63 = sg 63) (h62 : gm2 62 = gm 62) (h64 : gm2 64 = gm 64)
    (h65 : ∀ j, j ≠ TOPn sg → gm2 65 j = gm 65 j) (h66 : ∀ j, j ≠ TOPn sg → gm2 66 j = gm 66 j) (h67 : ∀ j, j ≠ TOPn sg → gm2 67 j = gm 67 j) (h69 : ∀ j, j ≠ TOPn sg → gm2 69 j = gm 69 j)
    (hfr : FRv sg2 gm2 lg2 (gm 64 (TOPn sg)) (gm2 65 (TOPn sg)) (gm2 66 (TOPn sg)) (gm2 67 (TOPn sg)) (gm2 69 (TOPn sg)) 0)
    (hv : vF (gm2 65 (TOPn sg)) (gm2 66 (TOPn sg)) (gm2 67 (TOPn sg)) 0 < vF (gm 65 (TOPn sg)) (gm 66 (TOPn sg)) (gm 67 (TOPn sg)) 0) : STEP sg gm sg2 gm2 lg2 := by
  have k1 := cl_0 (x := sg 63) (by omega)
  have e1 : TOPn sg2 = TOPn sg := by unfold TOPn; rw [h63]
  have hne : ∀ j, j + 1 < (sg 63).toNatClampNeg → j ≠ TOPn sg := fun j hj => by unfold TOPn; omega
  refine ⟨⟨⟨PIL_k h63 h.2.1 h62 h64 hi.1.1, fun j hj => ?_, Or.inr ?_⟩, fun j hj => ?_⟩, mu_top h1 h63 (fun j hj => ⟨h65 j (by omega), h66 j (by omega), h67 j (by omega)⟩) hv⟩
  · rw [h63] at hj
    have q := hne j hj
    exact FR_mv (hi.1.2.1 j hj) h h44 h45 hl1 ho (by rw [h64]) (h65 j q) (h66 j q) (h67 j q) (h69 j q)
  · rw [e1]; unfold FR; rw [h64]; exact hfr
  · rw [h63] at hj
    rw [h65 j (hne j hj)]; exact hi.2 j hj
/-- the one on top waits for another, which is put on it -/
theorem ST_push {sg sg2 : Nat → Int32} {gm gm2 : Nat → Nat → Int32} {lg lg2 : Nat → Nat → Int64} {b : Int32} {g65 g67 : Nat → Int32} (hi : INVp sg gm lg) (h1 : 1 ≤ (sg 63).toInt) (h : DK sg gm lg sg2 gm2 lg2) (h44 : gm2 44 = gm 44) (h45 : gm2 45 = gm 45) (hl1 : lg2 1 = lg 1) (ho : ∀ k, 0 ≤ (gm 60 k).toInt → 0 ≤ (gm2 60 k).toInt)
    (h63 : (sg2 63).toInt = (sg 63).toInt + 1) (h79 : (sg 63).toInt ≤ 79) (h64 : gm2 64 = upd (gm 64) (sg 63).toNatClampNeg b) (h65 : gm2 65 = upd g65 (sg 63).toNatClampNeg 0) (h66 : gm2 66 = upd (gm 66) (sg 63).toNatClampNeg 0) (h67 : gm2 67 = upd g67 (sg 63).toNatClampNeg 0) (h69 : gm2 69 = upd (gm 69) (sg 63).toNatClampNeg (-1)) (h62 : gm2 62 = upd (gm 62) b.toNatClampNeg 1) (hb0 : gm 62 b.toNatClampNeg = 0) (hb : iv 0 79 b) (hbl : b.toInt < (sg 41).toInt)
    (hk65 : ∀ j, j ≠ TOPn sg → g65 j = gm 65 j) (hk67 : ∀ j, j ≠ TOPn sg → g67 j = gm 67 j) (hfr : FRv sg gm lg (gm 64 (TOPn sg)) (g65 (TOPn sg)) (gm 66 (TOPn sg)) (g67 (TOPn sg)) (gm 69 (TOPn sg)) 1) (hp1 : 1 ≤ (g65 (TOPn sg)).toInt)
    (hv : vF (g65 (TOPn sg)) (gm 66 (TOPn sg)) (g67 (TOPn sg)) 1 < vF (gm 65 (TOPn sg)) (gm 66 (TOPn sg)) (gm 67 (TOPn sg)) 0) : STEP sg gm sg2 gm2 lg2 := by
  have k1 := cl_0 (x := sg 63) (by omega)
  have k2 := cl_0 (x := sg2 63) (by omega)
  have kb := iv_cl hb (by decide)
  have e1 : TOPn sg2 = (sg 63).toNatClampNeg := by unfold TOPn; omega
  have et : TOPn sg + 1 = (sg 63).toNatClampNeg := by unfold TOPn; omega
  have f65 : ∀ j, j < (sg 63).toNatClampNeg → gm2 65 j = g65 j := fun j hj => by rw [h65, upd_ne (by omega)]
  have f66 : ∀ j, j < (sg 63).toNatClampNeg → gm2 66 j = gm 66 j := fun j hj => by rw [h66, upd_ne (by omega)]
  have f67 : ∀ j, j < (sg 63).toNatClampNeg → gm2 67 j = g67 j := fun j hj => by rw [h67, upd_ne (by omega)]
  have f64 : ∀ j, j < (sg 63).toNatClampNeg → gm2 64 j = gm 64 j := fun j hj => by rw [h64, upd_ne (by omega)]
  have f69 : ∀ j, j < (sg 63).toNatClampNeg → gm2 69 j = gm 69 j := fun j hj => by rw [h69, upd_ne (by omega)]
  refine ⟨⟨⟨fun j hj => ?_, fun j hj => ?_, Or.inr ?_⟩, fun j hj => ?_⟩, mu_push h1 h79 h63 (fun j hj => ?_) ?_⟩
  · by_cases q : j = (sg 63).toNatClampNeg
    · subst q
      rw [show gm2 64 (sg 63).toNatClampNeg = b by rw [h64, upd_at], h.2.1]
      refine ⟨by rw [h62, upd_at]; decide, hb, hbl, fun i hi9 => ?_⟩
      rw [f64 i hi9]
      intro q9
      have := (hi.1.1 i hi9).1
      rw [q9] at this
      exact this hb0
    · have hj2 : j < (sg 63).toNatClampNeg := by omega
      obtain ⟨a1, a2, a3, a4⟩ := hi.1.1 j hj2
      rw [f64 j hj2, h.2.1]
      refine ⟨?_, a2, a3, fun i hi9 => by rw [f64 i (by omega)]; exact a4 i hi9⟩
      rw [h62]
      by_cases q5 : (gm 64 j).toNatClampNeg = b.toNatClampNeg
      · rw [q5, upd_at]; decide
      · rw [upd_ne q5]; exact a1
  · have hj2 : j < (sg 63).toNatClampNeg := by omega
    by_cases q : j = TOPn sg
    · unfold FR
      rw [f64 j hj2, f65 j hj2, f66 j hj2, f67 j hj2, f69 j hj2, q]
      exact FRv_k h h44 h45 hl1 ho hfr
    · exact FR_mv (hi.1.2.1 j (by omega)) h h44 h45 hl1 ho (f64 j hj2) (by rw [f65 j hj2, hk65 j q]) (f66 j hj2) (by rw [f67 j hj2, hk67 j q]) (f69 j hj2)
  · rw [e1]
    unfold FR
    rw [show gm2 65 (sg 63).toNatClampNeg = 0 by rw [h65, upd_at], show gm2 66 (sg 63).toNatClampNeg = 0 by rw [h66, upd_at], show gm2 67 (sg 63).toNatClampNeg = 0 by rw [h67, upd_at]]
    exact ⟨fun z => absurd z (by decide), fun _ => ⟨rfl, rfl⟩, fun z => absurd z (by decide), fun z => absurd z (by decide)⟩
  · have hj2 : j < (sg 63).toNatClampNeg := by omega
    rw [f65 j hj2]
    by_cases q : j = TOPn sg
    · rw [q]; exact hp1
    · rw [hk65 j q]; exact hi.2 j (by omega)
  · exact ⟨by rw [f65 j (by omega), hk65 j (by omega)], f66 j (by omega), by rw [f67 j (by omega), hk67 j (by omega)]⟩
  · rw [f65 _ (by omega), f66 _ (by omega), f67 _ (by omega)]; exact hv
def FIN (sg : Nat → Int32) (gm : Nat → Nat → Int32) (b : Int32) (sg2 : Nat → Int32) (gm2 : Nat → Nat → Int32) : Prop := (sg2 63).toInt = (sg 63).toInt - 1 ∧ gm2 62 = upd (gm 62) b.toNatClampNeg 0 ∧ ((sg 63).toInt = 1 ∧ gm2 67 = gm 67 ∨ DLV sg2 gm gm2)
theorem vF_d3 {p9 ix it it2 : Int32} (h3 : 3 ≤ p9.toInt) (hi : 0 ≤ it.toInt) (hd : it2.toInt = it.toInt + 1) (hr : iv 0 4 p9) (h2 : iv 0 26 ix) (h6 : it.toInt ≤ 6) : vF p9 ix it2 0 ≤ vF p9 ix it 1 := by
  have k1 := cl_0 (x := p9) (by omega)
  have k2 := cl_0 hi
  have k3 := cl_0 (x := it2) (by omega)
  have k4 := iv_cl h2 (by decide)
  have k5 := h2.2
  have k6 := hr.2
  unfold vF
  rw [if_pos (by omega), if_pos (by omega)]
  omega
theorem vF_w2 {p9 ix it : Int32} (h3 : p9.toInt ≤ 2) (h0 : 0 ≤ p9.toInt) : vF p9 ix it 1 = vF p9 ix it 0 := by
  have k1 := cl_0 h0
  unfold vF
  rw [if_neg (by omega), if_neg (by omega)]
theorem vF_1 {p9 ix it : Int32} (hr : iv 0 4 p9) (h2 : iv 0 26 ix) (h6 : iv 0 6 it) : 1 ≤ vF p9 ix it 0 := by
  have k1 := iv_cl hr (by decide)
  have k4 := iv_cl h2 (by decide)
  have k2 := iv_cl h6 (by decide)
  have := h2.2
  have := hr.2
  have := h6.2
  unfold vF
  by_cases q : 3 ≤ p9.toNatClampNeg
  · rw [if_pos q]; omega
  · rw [if_neg q]; omega
theorem vF_p {p9 ix it p2 ix2 : Int32} (hr : iv 0 4 p9) (hq : p2.toInt = p9.toInt + 1) (h4 : p2.toInt ≤ 4) (h2 : iv 0 26 ix) (h6 : iv 0 6 it) (hx : ix2.toInt = 0) : vF p2 ix2 it 0 < vF p9 ix it 0 := by
  have k1 := iv_cl hr (by decide)
  have k3 := cl_0 (x := p2) (by have := hr.1; omega)
  have k4 := iv_cl h2 (by decide)
  have k2 := iv_cl h6 (by decide)
  have k5 := cl_0 (x := ix2) (by omega)
  have := h2.2
  have := hr.2
  have := h6.2
  unfold vF
  by_cases q : 3 ≤ p9.toNatClampNeg
  · rw [if_pos q, if_pos (by omega)]; omega
  · rw [if_neg q]
    by_cases q2 : 3 ≤ p2.toNatClampNeg
    · rw [if_pos q2]; omega
    · rw [if_neg q2]; omega
theorem vF_n {p9 ix it ix2 it2 : Int32} (hr : iv 0 4 p9) (h2 : iv 0 26 ix) (h3 : ix2.toInt = ix.toInt + 1) (h7 : ix2.toInt ≤ 26) (h6 : iv 0 6 it) (hx : it2.toInt = 0) : vF p9 ix2 it2 0 < vF p9 ix it 0 := by
  have k1 := iv_cl hr (by decide)
  have k3 := cl_0 (x := ix2) (by have := h2.1; omega)
  have k4 := iv_cl h2 (by decide)
  have k2 := iv_cl h6 (by decide)
  have k5 := cl_0 (x := it2) (by omega)
  have := h2.2
  have := hr.2
  have := h6.2
  unfold vF
  by_cases q : 3 ≤ p9.toNatClampNeg
  · rw [if_pos q]; omega
  · rw [if_neg q]; omega
theorem vF_i {p9 ix it it2 : Int32} (hr : iv 0 4 p9) (h3 : 3 ≤ p9.toInt) (h2 : iv 0 26 ix) (h6 : iv 0 6 it) (hx : it.toInt ≤ it2.toInt) : vF p9 ix it2 1 < vF p9 ix it 0 := by
  have k1 := iv_cl hr (by decide)
  have k4 := iv_cl h2 (by decide)
  have k2 := iv_cl h6 (by decide)
  have k5 := cl_0 (x := it2) (by have := h6.1; omega)
  have := h2.2
  have := hr.2
  have := h6.2
  unfold vF
  rw [if_pos (by omega), if_pos (by omega)]; omega
/-- the one on top is done: the one below it takes it -/
theorem ST_pop {sg sg2 : Nat → Int32} {gm gm2 : Nat → Nat → Int32} {lg lg2 : Nat → Nat → Int64} (hI : MI sg gm) (hi : INVp sg gm lg) (h1 : 1 ≤ (sg 63).toInt) (h : DK sg gm lg sg2 gm2 lg2) (h44 : gm2 44 = gm 44) (h45 : gm2 45 = gm 45) (hl1 : lg2 1 = lg 1) (ho : gm2 60 = gm 60) (hf : FIN sg gm (gm 64 (TOPn sg)) sg2 gm2) (h64 : gm2 64 = gm 64) (h65 : gm2 65 = gm 65) (h66 : gm2 66 = gm 66) (h69 : gm2 69 = gm 69) : STEP sg gm sg2 gm2 lg2 := by
  obtain ⟨h63, h62, hd⟩ := hf
  have h80 := (show iv 0 80 (sg 63) from MI_s hI 63).2
  have k1 := cl_0 (x := sg 63) (by omega)
  have k2 := cl_0 (x := sg2 63) (by omega)
  have tlt : TOPn sg < 81 := by unfold TOPn; omega
  have mb := PIL_top hi.1.1 h1
  have hpi : PIL sg2 gm2 := fun j hj => by
    have hj2 : j < (sg 63).toNatClampNeg := by omega
    obtain ⟨a1, a2, a3, a4⟩ := hi.1.1 j hj2
    rw [h64, h.2.1]
    refine ⟨?_, a2, a3, a4⟩
    rw [h62, upd_ne ?_]
    · exact a1
    · intro q9
      have e9 : gm 64 j = gm 64 (TOPn sg) := Int32.toInt_inj.mp (by have := iv_cl a2 (by decide); have := iv_cl mb.2.1 (by decide); omega)
      exact (hi.1.1 (TOPn sg) (by unfold TOPn; omega)).2.2.2 j (by unfold TOPn; omega) e9
  by_cases q1 : (sg 63).toInt = 1
  · refine ⟨⟨⟨hpi, fun j hj => by omega, Or.inl (by omega)⟩, fun j hj => by omega⟩, ?_⟩
    have e2 : ¬ (sg 63).toNatClampNeg = 0 := by omega
    have e3 : (sg2 63).toNatClampNeg = 0 := by omega
    have hp : 0 < 4096 ^ (80 - TOPn sg) := Nat.pow_pos (by decide)
    have hq := vF_1 (show iv 0 4 (gm 65 (TOPn sg)) from hI.2 65 _ tlt) (show iv 0 26 (gm 66 (TOPn sg)) from hI.2 66 _ tlt) (show iv 0 6 (gm 67 (TOPn sg)) from hI.2 67 _ tlt)
    have h4 := Nat.mul_le_mul_right (4096 ^ (80 - TOPn sg)) hq
    rw [Nat.one_mul] at h4
    unfold mu
    rw [if_pos e3, if_neg e2]
    omega
  · have e1 : TOPn sg2 + 1 = TOPn sg := by unfold TOPn; omega
    have t2 : TOPn sg2 < 81 := by omega
    have hdl : DLV sg2 gm gm2 := hd.resolve_left (fun q => q1 q.1)
    have f67 : ∀ j, j ≠ TOPn sg2 → gm2 67 j = gm 67 j := fun j hj => by
      rcases hdl with ⟨_, q⟩ | ⟨_, v, q, _⟩
      · rw [q]
      · rw [q, upd_ne hj]
    have w4 := show iv 0 4 (gm 65 (TOPn sg2)) from hI.2 65 _ t2
    have w26 := show iv 0 26 (gm 66 (TOPn sg2)) from hI.2 66 _ t2
    have w6 := show iv 0 6 (gm 67 (TOPn sg2)) from hI.2 67 _ t2
    refine ⟨⟨⟨hpi, fun j hj => ?_, Or.inr ?_⟩, fun j hj => by rw [h65]; exact hi.2 j (by omega)⟩, mu_pop (by omega) h80 h63 (fun j hj => ⟨by rw [h65], by rw [h66], f67 j (by omega)⟩) ?_ ?_⟩
    · exact FR_mv (hi.1.2.1 j (by omega)) h h44 h45 hl1 (fun k hk => by rw [ho]; exact hk) (by rw [h64]) (by rw [h65]) (by rw [h66]) (f67 j (by unfold TOPn; omega)) (by rw [h69])
    · have hfr := hi.1.2.1 (TOPn sg2) (by unfold TOPn; omega)
      unfold FR at *
      rw [h64, h65, h66, h69]
      refine FRv_k h h44 h45 hl1 (fun k hk => by rw [ho]; exact hk) ?_
      obtain ⟨a1, a2, a3, a4⟩ := hfr
      rcases hdl with ⟨q, q2⟩ | ⟨q, v, q2, q3⟩
      · rw [q2]; exact ⟨fun z => by omega, a2, a3, a4⟩
      · rw [q2, upd_at]
        exact ⟨fun z => by have := a1 z; omega, fun z => by omega, a3, a4⟩
    · rw [h65, h66]
      rcases hdl with ⟨q, q2⟩ | ⟨q, v, q2, q3⟩
      · rw [q2, vF_w2 q w4.1]; exact Nat.le_refl _
      · rw [q2, upd_at]
        exact vF_d3 q w6.1 q3 w4 w26 w6.2
    · exact vF_1 (show iv 0 4 (gm 65 (TOPn sg)) from hI.2 65 _ tlt) (show iv 0 26 (gm 66 (TOPn sg)) from hI.2 66 _ tlt) (show iv 0 6 (gm 67 (TOPn sg)) from hI.2 67 _ tlt)
theorem cnt1_k {f g : Nat → Int32} : ∀ k, (∀ j, j < k → g j = f j) → cnt1 g k = cnt1 f k := by
  intro k
  induction k with
  | zero => intro _; rfl
  | succ k ih => intro h; show cnt1 g k + _ = cnt1 f k + _; rw [ih (fun j hj => h j (by omega)), h k (by omega)]
theorem cnt1_le (f : Nat → Int32) : ∀ k, cnt1 f k ≤ k := by
  intro k
  induction k with
  | zero => exact Nat.le_refl 0
  | succ k ih =>
    show cnt1 f k + _ ≤ k + 1
    by_cases q : f k = 0
    · rw [if_pos q]; omega
    · rw [if_neg q]; omega
theorem cnt1_up {f : Nat → Int32} {b : Nat} (h : f b = 0) : ∀ k, b < k → cnt1 (upd f b 1) k = cnt1 f k + 1 ∧ cnt1 f k + 1 ≤ k := by
  intro k
  induction k with
  | zero => intro hb; omega
  | succ k ih =>
    intro hb
    show cnt1 (upd f b 1) k + _ = cnt1 f k + _ + 1 ∧ cnt1 f k + _ + 1 ≤ k + 1
    by_cases q : b = k
    · subst q
      have h1 := cnt1_k (f := f) (g := upd f b 1) b (fun j hj => upd_ne (by omega))
      have h2 := cnt1_le f b
      rw [h1, upd_at, h, if_pos rfl, if_neg (by decide)]
      omega
    · obtain ⟨h1, h2⟩ := ih (by omega)
      rw [h1, upd_ne (Ne.symm q)]
      by_cases q2 : f k = 0
      · rw [if_pos q2]; omega
      · rw [if_neg q2]; omega
end
section
/-- every bean in the row of those made is one of the document's -/
def MO (sg : Nat → Int32) (gm : Nat → Nat → Int32) : Prop := ∀ k, k < (sg 50).toNatClampNeg → (gm 59 k).toInt < (sg 41).toInt
theorem MO_k {sg sg2 : Nat → Int32} {gm gm2 : Nat → Nat → Int32} (h50 : sg2 50 = sg 50) (h41 : sg2 41 = sg 41) (h59 : gm2 59 = gm 59) (h : MO sg gm) : MO sg2 gm2 := by
  unfold MO at *; rw [h50, h41, h59]; exact h
theorem MO_of {sg sg2 : Nat → Int32} {gm gm2 : Nat → Nat → Int32} {Ls Lg : List Nat} (h : MO sg gm) (h1 : KS Ls sg sg2) (h2 : KS Lg gm gm2) (q1 : (Ls.contains 50 || Ls.contains 41) = false) (q2 : Lg.contains 59 = false) : MO sg2 gm2 := MO_k (h1 50 (Bool.or_eq_false_iff.mp q1).1) (h1 41 (Bool.or_eq_false_iff.mp q1).2) (h2 59 q2) h
theorem MO_s {sg sg2 : Nat → Int32} {gm gm2 : Nat → Nat → Int32} {b : Int32} (h : MO sg gm) (hb : b.toInt < (sg 41).toInt) (h0 : 0 ≤ (sg 50).toInt) (h50 : (sg2 50).toInt = (sg 50).toInt + 1) (h41 : sg2 41 = sg 41) (h59 : gm2 59 = upd (gm 59) (sg 50).toNatClampNeg b) : MO sg2 gm2 := by
  intro k hk
  have k1 := cl_0 h0
  have k2 := cl_0 (x := sg2 50) (by omega)
  rw [h59, h41]
  by_cases q : k = (sg 50).toNatClampNeg
  · rw [q, upd_at]; exact hb
  · rw [upd_ne q]; exact h k (by omega)
theorem DLV_k {sg sg2 : Nat → Int32} {gm gm1 gm2 : Nat → Nat → Int32} (h : DLV sg gm1 gm2) (h63 : sg2 63 = sg 63) (h65 : gm1 65 = gm 65) (h67 : gm1 67 = gm 67) : DLV sg2 gm gm2 := by
  have e1 : TOPn sg2 = TOPn sg := by unfold TOPn; rw [h63]
  unfold DLV at *; rw [e1, ← h65, ← h67]; exact h
theorem GI0_un {sg sg2 : Nat → Int32} {gm gm2 : Nat → Nat → Int32} {lg lg2 : Nat → Nat → Int64} {b : Nat} (q : GI0 sg gm lg) (h : DK sg gm lg sg2 gm2 lg2) (h1 : lg2 1 = lg 1) (h60 : gm2 60 = gm 60) (h61 : gm2 61 = gm 61) (h62 : gm2 62 = upd (gm 62) b 0) (h70 : gm2 70 = gm 70) (h71 : gm2 71 = gm 71) (h72 : gm2 72 = gm 72) (h73 : gm2 73 = gm 73) (h50 : sg2 50 = sg 50) : GI0 sg2 gm2 lg2 := by
  refine ⟨VAL_k h70 h71 h72 h73 q.1, fun k hk => ?_, by rw [h50, h61]; exact q.2.2⟩
  have := q.2.1 k hk
  unfold BI at *
  rw [h60, h61, mMny_k h h1]
  intro h9
  have h8 := this h9
  refine ⟨h8.1, h8.2.1, ?_⟩
  rw [h62]
  by_cases e9 : k = b
  · rw [e9, upd_at]
  · rw [upd_ne e9]; exact h8.2.2
theorem GI0_fin {sg sg2 : Nat → Int32} {gm gm2 : Nat → Nat → Int32} {lg lg2 : Nat → Nat → Int64} {b : Nat} (q : GI0 sg gm lg) (h : DK sg gm lg sg2 gm2 lg2) (h1 : lg2 1 = lg 1) (h60 : gm2 60 = gm 60) (h61 : gm2 61 = upd (gm 61) b 1) (h62 : gm2 62 = upd (gm 62) b 0) (h70 : gm2 70 = gm 70) (h71 : gm2 71 = gm 71) (h72 : gm2 72 = gm 72) (h73 : gm2 73 = gm 73) (h50 : (sg2 50).toInt = (sg 50).toInt + 1) (hb : b < 80) (h0 : gm 61 b = 0) (hm : ¬ mMny gm lg b) (ho : 0 ≤ (gm 60 b).toInt) : GI0 sg2 gm2 lg2 := by
  have hc := cnt1_up h0 80 hb
  refine ⟨VAL_k h70 h71 h72 h73 q.1, fun k hk => ?_, by rw [h50, h61, hc.1]; have := q.2.2; omega⟩
  have := q.2.1 k hk
  unfold BI at *
  rw [h60, mMny_k h h1]
  intro h9
  by_cases e9 : k = b
  · rw [e9]; exact ⟨ho, hm, by rw [h62, upd_at]⟩
  · rw [h61, upd_ne e9] at h9
    have h8 := this h9
    refine ⟨h8.1, h8.2.1, ?_⟩
    rw [h62, upd_ne e9]; exact h8.2.2
theorem GI0_m0 {sg : Nat → Int32} {gm : Nat → Nat → Int32} {lg : Nat → Nat → Int64} {b : Nat} (q : GI0 sg gm lg) (hb : b < 80) (h : ¬ gm 62 b = 0) : gm 61 b = 0 := Decidable.byContradiction (fun h9 => h (q.2.1 b hb h9).2.2)
end
section
theorem DLV_2 {sg : Nat → Int32} {gm gm2 : Nat → Nat → Int32} (h : DLV sg gm gm2) (hp : (gm 65 (TOPn sg)).toInt ≤ 2) : gm2 67 = gm 67 := by
  rcases h with ⟨_, q⟩ | ⟨q, _⟩
  · exact q
  · omega
theorem FRv_p {sg : Nat → Int32} {gm : Nat → Nat → Int32} {lg : Nat → Nat → Int64} {b p9 p2 ix it ob : Int32} {w w2 : Int} (h : FRv sg gm lg b p9 ix it ob w) (hp : p9.toInt ≤ 2) (hq : p2.toInt ≤ 2) : FRv sg gm lg b p2 ix it ob w2 := ⟨fun z => by omega, fun _ => h.2.1 hp, fun z => by omega, fun z => by omega⟩
theorem tlt81 {sg : Nat → Int32} {gm : Nat → Nat → Int32} (hI : MI sg gm) : TOPn sg < 81 := by
  have := (show iv 0 80 (sg 63) from MI_s hI 63).2
  have := (show iv 0 80 (sg 63) from MI_s hI 63).1
  have := cl_0 (x := sg 63) (by omega)
  unfold TOPn; omega
section ST
variable {sg sg1 sg2 : Nat → Int32} {gm gm1 gm2 : Nat → Nat → Int32} {lg lg2 : Nat → Nat → Int64} {p2 b : Int32} {t : Nat}
theorem ST_ph (hI : MI sg gm) (hd : DOC sg gm lg) (hi : INVp sg gm lg) (h1 : 1 ≤ (sg 63).toInt) (h : DK sg gm lg sg2 gm2 lg2) (h44 : gm2 44 = gm 44) (h45 : gm2 45 = gm 45) (hl1 : lg2 1 = lg 1) (ho : gm2 60 = gm 60) (h63 : sg2 63 = sg 63) (h62 : gm2 62 = gm 62) (h64 : gm2 64 = gm 64) (h65 : gm2 65 = upd (gm 65) t p2) (ht : t = TOPn sg) (h66 : gm2 66 = gm 66) (h67 : gm2 67 = gm 67) (h69 : gm2 69 = gm 69) (hp : (gm 65 (TOPn sg)).toInt ≤ 2) (hq : p2.toInt = (gm 65 (TOPn sg)).toInt + 1) : STEP sg gm sg2 gm2 lg2 := by
  subst ht
  have tl := tlt81 hI
  have w4 := show iv 0 4 (gm 65 (TOPn sg)) from hI.2 65 _ tl
  have w26 := show iv 0 26 (gm 66 (TOPn sg)) from hI.2 66 _ tl
  have w6 := show iv 0 6 (gm 67 (TOPn sg)) from hI.2 67 _ tl
  have e65 : gm2 65 (TOPn sg) = p2 := by rw [h65, upd_at]
  have mb := PIL_top hi.1.1 h1
  have hf := hi.1.2.2.resolve_left (by omega)
  have hf2 := hf.2.1 hp
  refine ST_top hi h1 h h44 h45 hl1 (fun k hk => by rw [ho]; exact hk) h63 h62 h64 (fun j hj => by rw [h65, upd_ne hj]) (fun j _ => by rw [h66]) (fun j _ => by rw [h67]) (fun j _ => by rw [h69]) ?_ ?_
  · rw [e65, h66, h67, h69]
    refine FRv_k h h44 h45 hl1 (fun k hk => by rw [ho]; exact hk) ?_
    by_cases q : p2.toInt ≤ 2
    · exact FRv_p hf hp q
    · have hx0 : (gm 66 (TOPn sg)).toNatClampNeg = 0 := by have := cl_0 (x := gm 66 (TOPn sg)) (by omega); omega
      refine ⟨fun _ => ?_, fun z => absurd z q, fun _ => ?_, fun z => by omega⟩
      · have := LM_nn (p9 := p2) hI hd mb.2.1 mb.2.2 (show 0 ≤ (gm 66 (TOPn sg)).toInt by omega)
        omega
      · rw [hx0]; exact fun k _ hk => absurd hk (Nat.not_lt_zero _)
  · rw [e65, h66, h67]
    exact vF_p w4 hq (by omega) w26 w6 hf2.1
theorem ST_phP (hI : MI sg gm) (hi : INVp sg gm lg) (h1 : 1 ≤ (sg 63).toInt) (h : DK sg gm lg sg2 gm2 lg2) (h44 : gm2 44 = gm 44) (h45 : gm2 45 = gm 45) (hl1 : lg2 1 = lg 1) (ho : gm2 60 = gm 60) (x63 : sg1 63 = sg 63) (x41 : sg1 41 = sg 41) (x62 : gm1 62 = gm 62) (x64 : gm1 64 = gm 64) (x65 : gm1 65 = upd (gm 65) t p2) (ht : t = TOPn sg) (x66 : gm1 66 = gm 66) (x67 : gm1 67 = gm 67) (x69 : gm1 69 = gm 69) (hp : (gm 65 (TOPn sg)).toInt ≤ 2) (hq : p2.toInt = (gm 65 (TOPn sg)).toInt + 1) (hq2 : p2.toInt ≤ 2) (hP : PUSH sg1 gm1 (gm1 67) sg2 gm2 b) : STEP sg gm sg2 gm2 lg2 := by
  subst ht
  have tl := tlt81 hI
  have w4 := show iv 0 4 (gm 65 (TOPn sg)) from hI.2 65 _ tl
  have w26 := show iv 0 26 (gm 66 (TOPn sg)) from hI.2 66 _ tl
  have w6 := show iv 0 6 (gm 67 (TOPn sg)) from hI.2 67 _ tl
  have hf := hi.1.2.2.resolve_left (by omega)
  have hf2 := hf.2.1 hp
  unfold PUSH at hP
  rw [x63, x41, x62, x64, x65, x66, x67, x69] at hP
  obtain ⟨a1, a2, a3, a4, a5, a6, a7, a8, a9, a10, a11, _⟩ := hP
  refine ST_push hi h1 h h44 h45 hl1 (fun k hk => by rw [ho]; exact hk) a1 a2 a3 a4 a5 a6 a7 a8 a9 a10 a11 (fun j hj => upd_ne hj) (fun _ _ => rfl) ?_ ?_ ?_
  · rw [upd_at]; exact FRv_p hf hp hq2
  · rw [upd_at]; have := w4.1; omega
  · rw [upd_at, vF_w2 hq2 (by have := w4.1; omega)]
    exact vF_p w4 hq (by omega) w26 w6 hf2.1
/-- a value is worked out, then the next one's turn comes, or another bean is put on top -/
theorem ST_wo {r : Int32} {lim : Int} (hI : MI sg gm) (hd : DOC sg gm lg) (hi : INVp sg gm lg) (h1 : 1 ≤ (sg 63).toInt) (h : DK sg gm lg sg2 gm2 lg2) (h44 : gm2 44 = gm 44) (h45 : gm2 45 = gm 45) (hl1 : lg2 1 = lg 1) (ho : gm2 60 = gm 60) (hw : WOUT sg gm lim sg1 gm1 r) (hlim : lim = LM sg gm lg (gm 64 (TOPn sg)) (gm 65 (TOPn sg)) (gm 66 (TOPn sg))) (hp : 3 ≤ (gm 65 (TOPn sg)).toInt) (ht : t = TOPn sg)
    (x63 : sg2 63 = sg1 63) (x62 : gm2 62 = gm1 62) (x64 : gm2 64 = gm1 64) (x65 : gm2 65 = gm1 65) (x69 : gm2 69 = gm1 69) (x51 : 1 ≤ (sg1 51).toInt → 1 ≤ (sg2 51).toInt)
    (hn : (r.toInt = 0 ∧ gm2 66 = gm1 66 ∧ gm2 67 = gm1 67) ∨ (r.toInt = 1 ∧ gm2 67 = upd (gm1 67) t 0 ∧ ∃ v, gm2 66 = upd (gm1 66) t v ∧ v.toInt = (gm1 66 t).toInt + 1)) (h25 : (gm 66 (TOPn sg)).toInt ≤ 25)
    (h3 : (gm 65 (TOPn sg)).toInt = 3 → ¬ mArg sg gm lg (gm 64 (TOPn sg)) (gm 66 (TOPn sg)).toNatClampNeg = -1) (h4 : (gm 65 (TOPn sg)).toInt = 4 → (gm 66 (TOPn sg)).toInt < (gm 44 (gm 64 (TOPn sg)).toNatClampNeg).toInt) : 1 ≤ (sg2 51).toInt ∨ STEP sg gm sg2 gm2 lg2 := by
  subst ht
  have tl := tlt81 hI
  have w4 := show iv 0 4 (gm 65 (TOPn sg)) from hI.2 65 _ tl
  have w26 := show iv 0 26 (gm 66 (TOPn sg)) from hI.2 66 _ tl
  have w6 := show iv 0 6 (gm 67 (TOPn sg)) from hI.2 67 _ tl
  have hf := hi.1.2.2.resolve_left (by omega)
  have mb := PIL_top hi.1.1 h1
  rcases hw with ⟨hr, hs⟩ | ⟨hr, hw⟩
  · obtain ⟨s63, s62, s64, s65, s66, s68, s69, s51, s67⟩ := hs
    obtain ⟨q1, q2, v, q3, q4⟩ := hn.resolve_left (fun q => by omega)
    rw [s66] at q3 q4
    have e66 : gm2 66 (TOPn sg) = v := by rw [q3, upd_at]
    have e67 : gm2 67 (TOPn sg) = 0 := by rw [q2, upd_at]
    have kv := cl_0 (x := v) (by have := w26.1; omega)
    have kx := iv_cl w26 (by decide)
    refine Or.inr (ST_top hi h1 h h44 h45 hl1 (fun k hk => by rw [ho]; exact hk) (x63.trans s63) (x62.trans s62) (x64.trans s64) (fun j _ => by rw [x65, s65]) (fun j hj => by rw [q3, upd_ne hj]) (fun j hj => by rw [q2, upd_ne hj, s67 j hj]) (fun j _ => by rw [x69, s69]) ?_ ?_)
    · rw [e66, e67, x65, s65, x69, s69]
      refine FRv_k h h44 h45 hl1 (fun k hk => by rw [ho]; exact hk) ⟨fun _ => ?_, fun z => by omega, fun z => ?_, fun z => ?_⟩
      · exact LM_nn hI hd mb.2.1 mb.2.2 (by have := w26.1; omega)
      · intro k k0 hk
        by_cases q : k = (gm 66 (TOPn sg)).toNatClampNeg
        · rw [q]; exact h3 z
        · exact hf.2.2.1 z k k0 (by omega)
      · have := hf.2.2.2 z
        exact ⟨by have := h4 z; omega, this.2.1, this.2.2⟩
    · rw [e66, e67, x65, s65]
      exact vF_n w4 w26 q4 (by omega) w6 rfl
  · obtain ⟨q1, q2, q3⟩ := hn.resolve_right (fun q => by omega)
    rcases hw with hw | ⟨b, g67, hP, g1, g2, g3⟩
    · exact Or.inl (x51 hw)
    · obtain ⟨a1, a2, a3, a4, a5, a6, a7, a8, a9, a10, a11, _⟩ := hP
      refine Or.inr (ST_push hi h1 h h44 h45 hl1 (fun k hk => by rw [ho]; exact hk) (by rw [x63]; exact a1) a2 (x64.trans a3) (x65.trans a4) (q2.trans a5) (q3.trans a6) (x69.trans a7) (x62.trans a8) a9 a10 a11 (fun _ _ => rfl) g1 ?_ (by omega) ?_)
      · exact ⟨fun _ => by rw [← hlim]; omega, fun z => by omega, hf.2.2.1, hf.2.2.2⟩
      · exact vF_i w4 hp w26 w6 g2
/-- the object is made: now the setters' turn comes -/
theorem ST_mk {v4 v0 : Int32} (hI : MI sg gm) (hd : DOC sg gm lg) (hi : INVp sg gm lg) (h1 : 1 ≤ (sg 63).toInt) (h : DK sg gm lg sg2 gm2 lg2) (h44 : gm2 44 = gm 44) (h45 : gm2 45 = gm 45) (hl1 : lg2 1 = lg 1) (hM : MKO sg gm lg (gm 64 (TOPn sg)) gm2) (h63 : sg2 63 = sg 63) (h62 : gm2 62 = gm 62) (h64 : gm2 64 = gm 64) (h65 : gm2 65 = upd (gm 65) t v4) (h66 : gm2 66 = upd (gm 66) t v0) (e4 : v4.toInt = 4) (e0 : v0.toInt = 0) (ht : t = TOPn sg) (h67 : gm2 67 = gm 67) (hp : (gm 65 (TOPn sg)).toInt = 3) (ha : mArg sg gm lg (gm 64 (TOPn sg)) (gm 66 (TOPn sg)).toNatClampNeg = -1) : STEP sg gm sg2 gm2 lg2 := by
  subst ht
  have tl := tlt81 hI
  have w4 := show iv 0 4 (gm 65 (TOPn sg)) from hI.2 65 _ tl
  have w26 := show iv 0 26 (gm 66 (TOPn sg)) from hI.2 66 _ tl
  have w6 := show iv 0 6 (gm 67 (TOPn sg)) from hI.2 67 _ tl
  have hf := hi.1.2.2.resolve_left (by omega)
  have mb := PIL_top hi.1.1 h1
  have e65 : gm2 65 (TOPn sg) = v4 := by rw [h65, upd_at]
  have e66 : gm2 66 (TOPn sg) = v0 := by rw [h66, upd_at]
  have hit := hf.1 (Or.inl hp)
  unfold LM at hit
  rw [if_pos hp, if_pos ha] at hit
  have kb := iv_cl mb.2.1 (by decide)
  have hb2 := mb.2.1.2
  refine ST_top hi h1 h h44 h45 hl1 hM.2.2.2 h63 h62 h64 (fun j hj => by rw [h65, upd_ne hj]) (fun j hj => by rw [h66, upd_ne hj]) (fun j _ => by rw [h67]) hM.2.2.1 ?_ ?_
  · rw [e65, e66, h67]
    refine ⟨fun _ => ?_, fun z => by omega, fun z => by omega, fun _ => ⟨?_, hM.1, fun z => hM.2.1 ?_⟩⟩
    · rw [LM_k h h44 h45]
      have := LM_nn (p9 := v4) (ix := v0) hI hd mb.2.1 mb.2.2 (by omega)
      omega
    · rw [h44]; have := (show iv 0 26 (gm 44 (gm 64 (TOPn sg)).toNatClampNeg) from hI.2 44 _ (show _ < 80 by omega)).1; omega
    · rw [mMny_k h hl1] at z; exact z
  · rw [e65, e66, h67]
    exact vF_p w4 (by omega) (by omega) w26 w6 e0
end ST
/-- the first one on an empty pile -/
theorem INVp_0 {sg : Nat → Int32} {gm : Nat → Nat → Int32} {lg : Nat → Nat → Int64} (h : (sg 63).toInt = 0) : INVp sg gm lg := by
  have k1 := cl_0 (x := sg 63) (by omega)
  exact ⟨⟨fun j hj => by omega, fun j hj => by omega, Or.inl h⟩, fun j hj => by omega⟩
theorem INVp_1 {sg sg2 : Nat → Int32} {gm gm2 : Nat → Nat → Int32} {lg2 : Nat → Nat → Int64} {g67 : Nat → Int32} {b : Int32} (h : (sg 63).toInt = 0) (h41 : sg2 41 = sg 41) (hP : PUSH sg gm g67 sg2 gm2 b) : INVp sg2 gm2 lg2 := by
  obtain ⟨a1, a2, a3, a4, a5, a6, a7, a8, a9, a10, a11, _⟩ := hP
  have k1 := cl_0 (x := sg 63) (by omega)
  have k2 := cl_0 (x := sg2 63) (by omega)
  have z0 : (sg 63).toNatClampNeg = 0 := by omega
  rw [z0] at a3 a4 a5 a6 a7
  have e1 : TOPn sg2 = 0 := by unfold TOPn; omega
  refine ⟨⟨fun j hj => ?_, fun j hj => by omega, Or.inr ?_⟩, fun j hj => by omega⟩
  · have : j = 0 := by omega
    subst this
    rw [show gm2 64 0 = b by rw [a3, upd_at], h41]
    exact ⟨by rw [a8, upd_at]; decide, a10, a11, fun i hi => absurd hi (Nat.not_lt_zero _)⟩
  · rw [e1]
    unfold FR
    rw [show gm2 65 0 = 0 by rw [a4, upd_at], show gm2 66 0 = 0 by rw [a5, upd_at], show gm2 67 0 = 0 by rw [a6, upd_at]]
    exact ⟨fun z => absurd z (by decide), fun _ => ⟨rfl, rfl⟩, fun z => absurd z (by decide), fun z => absurd z (by decide)⟩
def muR (sg : Nat → Int32) (gm : Nat → Nat → Int32) : Nat := if 1 ≤ (sg 51).toInt then 0 else mu sg gm + 1
theorem muR_lt {sg sg2 : Nat → Int32} {gm gm2 : Nat → Nat → Int32} {lg2 : Nat → Nat → Int64} (h0 : (sg 51).toInt = 0) (h : 1 ≤ (sg2 51).toInt ∨ STEP sg gm sg2 gm2 lg2) : muR sg2 gm2 < muR sg gm := by
  unfold muR
  rw [if_neg (show ¬ 1 ≤ (sg 51).toInt by omega)]
  by_cases q : 1 ≤ (sg2 51).toInt
  · rw [if_pos q]; omega
  · rw [if_neg q]
    have := (h.resolve_left q).2
    omega
theorem FR_30 {sg : Nat → Int32} {gm : Nat → Nat → Int32} {lg : Nat → Nat → Int64} {b p9 ix it ob r : Int32} (h : FRv sg gm lg b p9 ix it ob 0) (hp : p9.toInt = 3) (hr : r = mArg sg gm lg b ix.toNatClampNeg) (hne : ¬ r = -1) : it.toInt ≤ LIM sg gm r ∧ LM sg gm lg b p9 ix = LIM sg gm r := by
  have e : LM sg gm lg b p9 ix = LIM sg gm r := by unfold LM; rw [if_pos hp, if_neg (by rw [← hr]; exact hne), ← hr]
  have := h.1 (Or.inl hp)
  rw [e] at this
  exact ⟨by omega, e⟩
theorem FR_40 {sg : Nat → Int32} {gm : Nat → Nat → Int32} {lg : Nat → Nat → Int64} {b p9 ix it ob r : Int32} (h : FRv sg gm lg b p9 ix it ob 0) (hp : p9.toInt = 4) (hx : ix.toInt < (gm 44 b.toNatClampNeg).toInt) (hr : r = gm 45 (26 * b.toNatClampNeg + ix.toNatClampNeg)) : it.toInt ≤ LIM sg gm r ∧ LM sg gm lg b p9 ix = LIM sg gm r := by
  have e : LM sg gm lg b p9 ix = LIM sg gm r := by unfold LM; rw [if_neg (by omega), if_pos hx, ← hr]
  have := h.1 (Or.inr hp)
  rw [e] at this
  exact ⟨by omega, e⟩
/-- behind workedOut, and what happened since that leaves the pile alone -/
def WOX (sg : Nat → Int32) (gm : Nat → Nat → Int32) (lim : Int) (sg3 : Nat → Int32) (gm3 : Nat → Nat → Int32) (r : Int32) : Prop := ∃ sg1 gm1, WOUT sg gm lim sg1 gm1 r ∧ sg3 63 = sg1 63 ∧ gm3 62 = gm1 62 ∧ gm3 64 = gm1 64 ∧ gm3 65 = gm1 65 ∧ gm3 66 = gm1 66 ∧ gm3 67 = gm1 67 ∧ gm3 69 = gm1 69 ∧ (1 ≤ (sg1 51).toInt → 1 ≤ (sg3 51).toInt)
theorem WOX_0 {sg sg1 : Nat → Int32} {gm gm1 : Nat → Nat → Int32} {lim : Int} {r : Int32} (h : WOUT sg gm lim sg1 gm1 r) : WOX sg gm lim sg1 gm1 r := ⟨sg1, gm1, h, rfl, rfl, rfl, rfl, rfl, rfl, rfl, id⟩
theorem WOX_s {sg sg1 sg3 : Nat → Int32} {gm gm1 gm3 : Nat → Nat → Int32} {lim : Int} {r : Int32} (h0 : (sg 51).toInt = 0) (h : WOUT sg gm lim sg1 gm1 r) (hr : ¬ r = 0) (a1 : sg3 63 = sg1 63) (a2 : gm3 62 = gm1 62) (a3 : gm3 64 = gm1 64) (a4 : gm3 65 = gm1 65) (a5 : gm3 66 = gm1 66) (a6 : gm3 67 = gm1 67) (a7 : gm3 69 = gm1 69) : WOX sg gm lim sg3 gm3 r := by
  refine ⟨sg1, gm1, h, a1, a2, a3, a4, a5, a6, a7, fun q => ?_⟩
  rcases h with ⟨_, hs⟩ | ⟨q2, _⟩
  · rw [hs.2.2.2.2.2.2.2.1, h0] at q; exact absurd q (by decide)
  · exact absurd (Int32.toInt_inj.mp q2) hr
theorem WOUT_1 {sg sg1 : Nat → Int32} {gm gm1 : Nat → Nat → Int32} {lim : Int} {r : Int32} (h : WOUT sg gm lim sg1 gm1 r) (hr : ¬ r = 0) : SAMEQ sg gm sg1 gm1 := by
  rcases h with ⟨_, hs⟩ | ⟨q2, _⟩
  · exact hs
  · exact absurd (Int32.toInt_inj.mp q2) hr
theorem ST_wox {sg sg3 sg2 : Nat → Int32} {gm gm3 gm2 : Nat → Nat → Int32} {lg lg2 : Nat → Nat → Int64} {t : Nat} {r : Int32} {lim : Int} (hI : MI sg gm) (hd : DOC sg gm lg) (hi : INVp sg gm lg) (h1 : 1 ≤ (sg 63).toInt) (h : DK sg gm lg sg2 gm2 lg2) (h44 : gm2 44 = gm 44) (h45 : gm2 45 = gm 45) (hl1 : lg2 1 = lg 1) (ho : gm2 60 = gm 60) (hw : WOX sg gm lim sg3 gm3 r) (hlim : LM sg gm lg (gm 64 (TOPn sg)) (gm 65 (TOPn sg)) (gm 66 (TOPn sg)) = lim) (hp : 3 ≤ (gm 65 (TOPn sg)).toInt) (ht : t = TOPn sg)
    (x63 : sg2 63 = sg3 63) (x62 : gm2 62 = gm3 62) (x64 : gm2 64 = gm3 64) (x65 : gm2 65 = gm3 65) (x69 : gm2 69 = gm3 69) (x51 : sg2 51 = sg3 51)
    (hn : (r.toInt = 0 ∧ gm2 66 = gm3 66 ∧ gm2 67 = gm3 67) ∨ (r.toInt = 1 ∧ gm2 67 = upd (gm3 67) t 0 ∧ ∃ v, gm2 66 = upd (gm3 66) t v ∧ v.toInt = (gm3 66 t).toInt + 1)) (h25 : (gm 66 (TOPn sg)).toInt ≤ 25)
    (h3 : (gm 65 (TOPn sg)).toInt = 3 → ¬ mArg sg gm lg (gm 64 (TOPn sg)) (gm 66 (TOPn sg)).toNatClampNeg = -1) (h4 : (gm 65 (TOPn sg)).toInt = 4 → (gm 66 (TOPn sg)).toInt < (gm 44 (gm 64 (TOPn sg)).toNatClampNeg).toInt) : 1 ≤ (sg2 51).toInt ∨ STEP sg gm sg2 gm2 lg2 := by
  obtain ⟨sg1, gm1, a0, a1, a2, a3, a4, a5, a6, a7, a8⟩ := hw
  rw [a5, a6] at hn
  exact ST_wo hI hd hi h1 h h44 h45 hl1 ho a0 hlim.symm hp ht (x63.trans a1) (x62.trans a2) (x64.trans a3) (x65.trans a4) (x69.trans a7) (fun q => by rw [x51]; exact a8 q) hn h25 h3 h4
end
section
theorem GI0_off {sg sg2 : Nat → Int32} {gm gm2 : Nat → Nat → Int32} {lg lg2 : Nat → Nat → Int64} {b : Nat} {v : Int32} (q : GI0 sg gm lg) (h : DK sg gm lg sg2 gm2 lg2) (h1 : lg2 1 = lg 1) (h60 : gm2 60 = upd (gm 60) b v) (h61 : gm2 61 = gm 61) (h62 : gm2 62 = upd (gm 62) b 0) (h70 : gm2 70 = gm 70) (h71 : gm2 71 = gm 71) (h72 : gm2 72 = gm 72) (h73 : gm2 73 = gm 73) (h50 : sg2 50 = sg 50) (h0 : ¬ gm 62 b = 0) : GI0 sg2 gm2 lg2 := by
  refine ⟨VAL_k h70 h71 h72 h73 q.1, fun k hk => ?_, by rw [h50, h61]; exact q.2.2⟩
  have := q.2.1 k hk
  unfold BI at *
  rw [h61, mMny_k h h1]
  intro h9
  have h8 := this h9
  have e9 : k ≠ b := fun e9 => h0 (by rw [← e9]; exact h8.2.2)
  refine ⟨?_, h8.2.1, ?_⟩
  · rw [h60, upd_ne e9]; exact h8.1
  · rw [h62, upd_ne e9]; exact h8.2.2
def VB (gm : Nat → Nat → Int32) (lg : Nat → Nat → Int64) : Prop := VAL gm ∧ ∀ b, b < 80 → BI gm lg b
theorem VB_k {sg sg2 : Nat → Int32} {gm gm2 : Nat → Nat → Int32} {lg lg2 : Nat → Nat → Int64} (q : VB gm lg) (h : DK sg gm lg sg2 gm2 lg2) (h1 : lg2 1 = lg 1) (h60 : gm2 60 = gm 60) (h61 : gm2 61 = gm 61) (h62 : gm2 62 = gm 62) (h70 : gm2 70 = gm 70) (h71 : gm2 71 = gm 71) (h72 : gm2 72 = gm 72) (h73 : gm2 73 = gm 73) : VB gm2 lg2 := by
  refine ⟨VAL_k h70 h71 h72 h73 q.1, fun b hb => ?_⟩
  have := q.2 b hb
  unfold BI at *
  rw [h60, h61, h62, mMny_k h h1]
  exact this
theorem VB_of {sg sg2 : Nat → Int32} {gm gm2 : Nat → Nat → Int32} {lg lg2 : Nat → Nat → Int64} {Ls Lg Ll : List Nat} (q : VB gm lg) (h1 : KS Ls sg sg2) (h2 : KS Lg gm gm2) (h3 : KS Ll lg lg2) (q1 : (Ls.contains 24 || Ls.contains 41) = false) (q2 : ([26, 28, 29, 30, 36, 37, 38, 42, 43].all fun k => !Lg.contains k) = true) (q3 : Ll.contains 35 = false) (q4 : ([60, 61, 62, 70, 71, 72, 73].all fun k => !Lg.contains k) = true) (q6 : Ll.contains 1 = false) : VB gm2 lg2 := by
  have g : ∀ k ∈ [60, 61, 62, 70, 71, 72, 73], gm2 k = gm k := fun k hk => h2 k (by have := List.all_eq_true.mp q4 k hk; simpa using this)
  exact VB_k q (DK_of h1 h2 h3 q1 q2 q3) (h3 1 q6) (g 60 (by decide)) (g 61 (by decide)) (g 62 (by decide)) (g 70 (by decide)) (g 71 (by decide)) (g 72 (by decide)) (g 73 (by decide))
theorem VB_sh {sg sg2 : Nat → Int32} {gm gm2 : Nat → Nat → Int32} {lg lg2 : Nat → Nat → Int64} {b b2 : Nat} {v : Int32} (q : VB gm lg) (h : DK sg gm lg sg2 gm2 lg2) (h1 : lg2 1 = lg 1) (h60 : gm2 60 = upd (gm 60) b v) (h61 : gm2 61 = upd (gm 61) b2 0) (hb : b2 = b) (h62 : gm2 62 = gm 62) (h70 : gm2 70 = gm 70) (h71 : gm2 71 = gm 71) (h72 : gm2 72 = gm 72) (h73 : gm2 73 = gm 73) : VB gm2 lg2 := by
  subst hb
  refine ⟨VAL_k h70 h71 h72 h73 q.1, fun k hk => ?_⟩
  have := q.2 k hk
  unfold BI at *
  rw [h61, h62, mMny_k h h1]
  by_cases e9 : k = b2
  · rw [e9, upd_at]; intro z; exact absurd rfl z
  · rw [upd_ne e9, h60, upd_ne e9]; exact this
theorem GI0_vb {sg : Nat → Int32} {gm : Nat → Nat → Int32} {lg : Nat → Nat → Int64} (q : VB gm lg) (h : (sg 50).toInt = 0) : GI0 sg gm lg := ⟨q.1, q.2, by omega⟩
theorem MO_0 {sg : Nat → Int32} {gm : Nat → Nat → Int32} (h : (sg 50).toInt = 0) : MO sg gm := fun k hk => by have := cl_0 (x := sg 50) (by omega); omega
theorem GI0_clr {sg : Nat → Int32} {gm : Nat → Nat → Int32} {lg : Nat → Nat → Int64} (hv : VAL gm) (h : CLR sg gm) : GI0 sg gm lg := ⟨hv, fun b hb q => absurd (h.2 b (Nat.zero_le _) hb).2.1 q, by have := h.1; omega⟩
end
section
set_option maxHeartbeats 4000000 in
set_option maxRecDepth 100000 in
theorem f_bean (l : Launch) (dC : Nat → ClassId) (dI : Nat → Nat → Nat) (h0 : Nat) (ad : Nat → Nat) (cid : Nat → ClassId) (sg : Nat → Int32) (gm : Nat → Nat → Int32) (lg : Nat → Nat → Int64) (k : Int32) (w : Int32) (hI : MI sg gm) (hgi : GI0 sg gm lg) (hPR : PR gm) (hmo : MO sg gm) (hdd : (sg 40).toInt = 0 ∨ DOC sg gm lg) : MMi l dC dI yX13_bean wm_X13_bean ({ frames := 7, cells := 0, slots := 0, locals := 164 }) h0 ad cid [.int k, .int w] sg gm lg (fun r v => ∃ (sg2 : Nat → Int32) (gm2 : Nat → Nat → Int32) (lg2 : Nat → Nat → Int64), v = (sg2, gm2, lg2) ∧ MI sg2 gm2 ∧ KS [5] sg sg2 ∧ KS [] gm gm2 ∧ KS [] lg lg2 ∧ (GI0 sg2 gm2 lg2) ∧ (MO sg2 gm2)) := by
  intro sz
  refine Met.ofW (cc := cX13_bean) (maxL := 4) (ret := (some .int)) (by decide) rfl ?_
  intro p e s m args below meth c s₁ B hml hv
  obtain ⟨rfl, hsz, hP, hK, hD0⟩ := hv
  have hx := B.exec
  have hb := B.bytes
  have hr := B.returns
  have hts := atoms_spec (ws := wm_X13_bean) B.pre
  have htb := fun (w : Cond) (h : w ∈ tb) => hts w (List.mem_cons_of_mem _ h)
  have hown : s.vm.findClass RX13 = some m.cls := findClass_of_methodNamed B.named
  have hlocks := B.notSynchronized
  subst hsz
  have hD := hD0.self (sz := s.heap.size)
  generalize hAe : va_A (mW h0 ad cid sg gm lg) s.heap.size = A at hD ⊢
  have hA : ∀ q : Nat, s.heap.size ≤ q → A q := fun q h => by rw [← hAe]; exact Or.inr h
  have hS : va_S A s.heap s.heap [] := va_S.rf
  have hl := lv_entry ([.ref h0, .int k, .int w]) (n := 4) (Nat.le_of_ble_eq_true rfl)
  rw [lg_entry_eq]
  generalize (lg_sl ([.ref h0, .int k, .int w]) ++ List.replicate (4 - (lg_sl ([.ref h0, .int k, .int w])).length) Slot.unset).toArray = ls at hl ⊢
  have hl : lv_has ls 4 [(0, .ref h0), (1, .int k), (2, .int w)] := hl
  have hj24 : ∀ (sg_j24 : Nat → Int32) (_ : KS [5] sg sg_j24) (_ : MI sg_j24 gm) (H : Heap) (locs : List Loc) (ls : Array Slot), va_P (dC, dI) vwCl (mW h0 ad cid sg_j24 gm lg) H → va_D A (mW h0 ad cid sg_j24 gm lg) → va_S A s.heap H locs → lv_has ls 4 [(0, .ref h0), (1, .int k), (2, .int w)] → W p l e (headSpec wm_X13_bean ({ frames := 7, cells := 0, slots := 0, locals := 164 })).room s m ([.ref h0, .int k, .int w] : List Value).toArray below meth c H locs 0 0 (MQ below (va_Qi (fun r v => ∃ (sg2 : Nat → Int32) (gm2 : Nat → Nat → Int32) (lg2 : Nat → Nat → Int64), v = (sg2, gm2, lg2) ∧ MI sg2 gm2 ∧ KS [5] sg sg2 ∧ KS [] gm gm2 ∧ KS [] lg lg2 ∧ (GI0 sg2 gm2 lg2) ∧ (MO sg2 gm2)) (MB dC dI h0 ad cid A) A) ([.ref h0, .int k, .int w] : List Value).toArray s 0 0 A) (F0 m 24 ls []) := by
    intro sg_j24 hks_j24 hI_j24 H locs ls hP hD hS hl
    refine lv_iconst (v := (-1)) hx hb dX13_bean_24 (by decide) ?_
    exact W.iret (v := (-1)) hx hb hr (fun t ht hW => ⟨⟨(-1), (sg_j24, gm, lg), rfl, ⟨sg_j24, gm, lg, rfl, hI_j24, (KS_tr (L := [5]) KS_rf hks_j24 (by decide)), KS_rf, KS_rf, ((GI0_of hgi (show KS [5] sg sg_j24 from (KS_tr (L := [5]) KS_rf hks_j24 (by decide))) (show KS [] gm gm from KS_rf) (show KS [] lg lg from KS_rf) (by decide) (by decide) (by decide) (by decide) (by decide) (by decide))), ((MO_of hmo (show KS [5] sg sg_j24 from (KS_tr (L := [5]) KS_rf hks_j24 (by decide))) (show KS [] gm gm from KS_rf) (by decide) (by decide)))⟩, by rw [ht]; exact hP, va_K.moved hW.alike hK, hD⟩, hS.F ht⟩) hS.2.2 dX13_bean_25
  have hj162 : ∀ (sg_j162 : Nat → Int32) (x3_162 : Int32) (y0_162 : Int32) (_ : iv 0 79 x3_162) (_ : iv 0 79 k) (_ : iv 7 7 w) (_ : iv 0 1 y0_162) (_ : KS [5] sg sg_j162) (_ : MI sg_j162 gm) (H : Heap) (locs : List Loc) (ls : Array Slot), va_P (dC, dI) vwCl (mW h0 ad cid sg_j162 gm lg) H → va_D A (mW h0 ad cid sg_j162 gm lg) → va_S A s.heap H locs → lv_has ls 4 [(3, .int x3_162), (0, .ref h0), (1, .int k), (2, .int w)] → W p l e (headSpec wm_X13_bean ({ frames := 7, cells := 0, slots := 0, locals := 164 })).room s m ([.ref h0, .int k, .int w] : List Value).toArray below meth c H locs 0 0 (MQ below (va_Qi (fun r v => ∃ (sg2 : Nat → Int32) (gm2 : Nat → Nat → Int32) (lg2 : Nat → Nat → Int64), v = (sg2, gm2, lg2) ∧ MI sg2 gm2 ∧ KS [5] sg sg2 ∧ KS [] gm gm2 ∧ KS [] lg lg2 ∧ (GI0 sg2 gm2 lg2) ∧ (MO sg2 gm2)) (MB dC dI h0 ad cid A) A) ([.ref h0, .int k, .int w] : List Value).toArray s 0 0 A) (F0 m 162 ls [.int y0_162]) := by
    intro sg_j162 x3_162 y0_162 hx3_162 hsx1_162 hsx2_162 hy0_162 hks_j162 hI_j162 H locs ls hP hD hS hl
    exact W.iret (v := y0_162) hx hb hr (fun t ht hW => ⟨⟨y0_162, (sg_j162, gm, lg), rfl, ⟨sg_j162, gm, lg, rfl, hI_j162, (KS_tr (L := [5]) KS_rf hks_j162 (by decide)), KS_rf, KS_rf, ((GI0_of hgi (show KS [5] sg sg_j162 from (KS_tr (L := [5]) KS_rf hks_j162 (by decide))) (show KS [] gm gm from KS_rf) (show KS [] lg lg from KS_rf) (by decide) (by decide) (by decide) (by decide) (by decide) (by decide))), ((MO_of hmo (show KS [5] sg sg_j162 from (KS_tr (L := [5]) KS_rf hks_j162 (by decide))) (show KS [] gm gm from KS_rf) (by decide) (by decide)))⟩, by rw [ht]; exact hP, va_K.moved hW.alike hK, hD⟩, hS.F ht⟩) hS.2.2 dX13_bean_162
  have hj186 : ∀ (sg_j186 : Nat → Int32) (x3_186 : Int32) (y0_186 : Int32) (_ : iv 0 79 x3_186) (_ : iv 0 79 k) (_ : iv 8 8 w) (_ : iv 0 1 y0_186) (_ : KS [5] sg sg_j186) (_ : MI sg_j186 gm) (H : Heap) (locs : List Loc) (ls : Array Slot), va_P (dC, dI) vwCl (mW h0 ad cid sg_j186 gm lg) H → va_D A (mW h0 ad cid sg_j186 gm lg) → va_S A s.heap H locs → lv_has ls 4 [(3, .int x3_186), (0, .ref h0), (1, .int k), (2, .int w)] → W p l e (headSpec wm_X13_bean ({ frames := 7, cells := 0, slots := 0, locals := 164 })).room s m ([.ref h0, .int k, .int w] : List Value).toArray below meth c H locs 0 0 (MQ below (va_Qi (fun r v => ∃ (sg2 : Nat → Int32) (gm2 : Nat → Nat → Int32) (lg2 : Nat → Nat → Int64), v = (sg2, gm2, lg2) ∧ MI sg2 gm2 ∧ KS [5] sg sg2 ∧ KS [] gm gm2 ∧ KS [] lg lg2 ∧ (GI0 sg2 gm2 lg2) ∧ (MO sg2 gm2)) (MB dC dI h0 ad cid A) A) ([.ref h0, .int k, .int w] : List Value).toArray s 0 0 A) (F0 m 186 ls [.int y0_186]) := by
    intro sg_j186 x3_186 y0_186 hx3_186 hsx1_186 hsx2_186 hy0_186 hks_j186 hI_j186 H locs ls hP hD hS hl
    exact W.iret (v := y0_186) hx hb hr (fun t ht hW => ⟨⟨y0_186, (sg_j186, gm, lg), rfl, ⟨sg_j186, gm, lg, rfl, hI_j186, (KS_tr (L := [5]) KS_rf hks_j186 (by decide)), KS_rf, KS_rf, ((GI0_of hgi (show KS [5] sg sg_j186 from (KS_tr (L := [5]) KS_rf hks_j186 (by decide))) (show KS [] gm gm from KS_rf) (show KS [] lg lg from KS_rf) (by decide) (by decide) (by decide) (by decide) (by decide) (by decide))), ((MO_of hmo (show KS [5] sg sg_j186 from (KS_tr (L := [5]) KS_rf hks_j186 (by decide))) (show KS [] gm gm from KS_rf) (by decide) (by decide)))⟩, by rw [ht]; exact hP, va_K.moved hW.alike hK, hD⟩, hS.F ht⟩) hS.2.2 dX13_bean_186
  have hj210 : ∀ (sg_j210 : Nat → Int32) (x3_210 : Int32) (y0_210 : Int32) (_ : iv 0 79 x3_210) (_ : iv 0 79 k) (_ : iv 9 9 w) (_ : iv 0 1 y0_210) (_ : KS [5] sg sg_j210) (_ : MI sg_j210 gm) (H : Heap) (locs : List Loc) (ls : Array Slot), va_P (dC, dI) vwCl (mW h0 ad cid sg_j210 gm lg) H → va_D A (mW h0 ad cid sg_j210 gm lg) → va_S A s.heap H locs → lv_has ls 4 [(3, .int x3_210), (0, .ref h0), (1, .int k), (2, .int w)] → W p l e (headSpec wm_X13_bean ({ frames := 7, cells := 0, slots := 0, locals := 164 })).room s m ([.ref h0, .int k, .int w] : List Value).toArray below meth c H locs 0 0 (MQ below (va_Qi (fun r v => ∃ (sg2 : Nat → Int32) (gm2 : Nat → Nat → Int32) (lg2 : Nat → Nat → Int64), v = (sg2, gm2, lg2) ∧ MI sg2 gm2 ∧ KS [5] sg sg2 ∧ KS [] gm gm2 ∧ KS [] lg lg2 ∧ (GI0 sg2 gm2 lg2) ∧ (MO sg2 gm2)) (MB dC dI h0 ad cid A) A) ([.ref h0, .int k, .int w] : List Value).toArray s 0 0 A) (F0 m 210 ls [.int y0_210]) := by
    intro sg_j210 x3_210 y0_210 hx3_210 hsx1_210 hsx2_210 hy0_210 hks_j210 hI_j210 H locs ls hP hD hS hl
    exact W.iret (v := y0_210) hx hb hr (fun t ht hW => ⟨⟨y0_210, (sg_j210, gm, lg), rfl, ⟨sg_j210, gm, lg, rfl, hI_j210, (KS_tr (L := [5]) KS_rf hks_j210 (by decide)), KS_rf, KS_rf, ((GI0_of hgi (show KS [5] sg sg_j210 from (KS_tr (L := [5]) KS_rf hks_j210 (by decide))) (show KS [] gm gm from KS_rf) (show KS [] lg lg from KS_rf) (by decide) (by decide) (by decide) (by decide) (by decide) (by decide))), ((MO_of hmo (show KS [5] sg sg_j210 from (KS_tr (L := [5]) KS_rf hks_j210 (by decide))) (show KS [] gm gm from KS_rf) (by decide) (by decide)))⟩, by rw [ht]; exact hP, va_K.moved hW.alike hK, hD⟩, hS.F ht⟩) hS.2.2 dX13_bean_210
  have hj225 : ∀ (sg_j225 : Nat → Int32) (x3_225 : Int32) (y0_225 : Int32) (_ : iv 0 79 x3_225) (_ : iv 0 79 k) (_ : iv 10 10 w) (_ : iv 0 1 y0_225) (_ : KS [5] sg sg_j225) (_ : MI sg_j225 gm) (H : Heap) (locs : List Loc) (ls : Array Slot), va_P (dC, dI) vwCl (mW h0 ad cid sg_j225 gm lg) H → va_D A (mW h0 ad cid sg_j225 gm lg) → va_S A s.heap H locs → lv_has ls 4 [(3, .int x3_225), (0, .ref h0), (1, .int k), (2, .int w)] → W p l e (headSpec wm_X13_bean ({ frames := 7, cells := 0, slots := 0, locals := 164 })).room s m ([.ref h0, .int k, .int w] : List Value).toArray below meth c H locs 0 0 (MQ below (va_Qi (fun r v => ∃ (sg2 : Nat → Int32) (gm2 : Nat → Nat → Int32) (lg2 : Nat → Nat → Int64), v = (sg2, gm2, lg2) ∧ MI sg2 gm2 ∧ KS [5] sg sg2 ∧ KS [] gm gm2 ∧ KS [] lg lg2 ∧ (GI0 sg2 gm2 lg2) ∧ (MO sg2 gm2)) (MB dC dI h0 ad cid A) A) ([.ref h0, .int k, .int w] : List Value).toArray s 0 0 A) (F0 m 225 ls [.int y0_225]) := by
    intro sg_j225 x3_225 y0_225 hx3_225 hsx1_225 hsx2_225 hy0_225 hks_j225 hI_j225 H locs ls hP hD hS hl
    exact W.iret (v := y0_225) hx hb hr (fun t ht hW => ⟨⟨y0_225, (sg_j225, gm, lg), rfl, ⟨sg_j225, gm, lg, rfl, hI_j225, (KS_tr (L := [5]) KS_rf hks_j225 (by decide)), KS_rf, KS_rf, ((GI0_of hgi (show KS [5] sg sg_j225 from (KS_tr (L := [5]) KS_rf hks_j225 (by decide))) (show KS [] gm gm from KS_rf) (show KS [] lg lg from KS_rf) (by decide) (by decide) (by decide) (by decide) (by decide) (by decide))), ((MO_of hmo (show KS [5] sg sg_j225 from (KS_tr (L := [5]) KS_rf hks_j225 (by decide))) (show KS [] gm gm from KS_rf) (by decide) (by decide)))⟩, by rw [ht]; exact hP, va_K.moved hW.alike hK, hD⟩, hS.F ht⟩) hS.2.2 dX13_bean_225
  refine lv_aload_n hx hb dX13_bean_0 rfl (lv_at hl 0 rfl) ?_
  refine lv_iconst (v := 0) hx hb dX13_bean_1 (by decide) ?_
  refine ma_put (x := 0) hx hb htb inX13 hown hK hP hD hS 5 (by decide) (by decide) (htb _ kw_1032) rfl rfl rfl dX13_bean_2 (fun sg_1 H locs esg_1 hP hD hS => ?_)
  have hI_sg_1 := MI_put hI esg_1 (iv_k (by decide) : iv 0 0 0) (by decide)
  refine lv_iload_n hx hb dX13_bean_5 rfl (lv_at hl 1 rfl) ?_
  refine lv_if_lt (tgt := 24) hx hb dX13_bean_6 (by decide) (fun c_2 => ?_) (fun c_2 => ?_)
  · have h_3 : iv (-2147483648) (-1) k := iv_ltL c_2 (iv_all k) (iv_k (by decide) : iv 0 0 0) (by decide)
    exact hj24 sg_1 (KS_up KS_rf esg_1 (by decide)) hI_sg_1 _ _ _ hP hD hS (lv_sub hl [0, 1, 2] rfl)
  · have h_4 : iv 0 2147483647 k := iv_leR (i32_ge c_2) (iv_k (by decide) : iv 0 0 0) (iv_all k) (by decide)
    refine lv_iload_n hx hb dX13_bean_9 rfl (lv_at hl 1 rfl) ?_
    refine lv_aload_n hx hb dX13_bean_10 rfl (lv_at hl 0 rfl) ?_
    refine mr_get (v := .int (sg_1 41)) hx hb htb inX13 hown hK hP 41 (by decide) (htb _ kw_1068) rfl dX13_bean_11 ?_
    refine lv_topi (fun z_5 ez_5 => ?_)
    obtain rfl : (sg 41) = z_5 := (ez_5.trans (up_ne esg_1 (by decide))).symm
    refine lv_icmp_ge (tgt := 24) hx hb dX13_bean_14 (by decide) (fun c_6 => ?_) (fun c_6 => ?_)
    · have d_7 : ((sg 41) : Int32).toInt ≤ (k : Int32).toInt := Int32.le_iff_toInt_le.mp c_6
      exact hj24 sg_1 (KS_up KS_rf esg_1 (by decide)) hI_sg_1 _ _ _ hP hD hS (lv_sub hl [0, 1, 2] rfl)
    · have d_8 : (k : Int32).toInt < ((sg 41) : Int32).toInt := Int32.lt_iff_toInt_lt.mp (i32_lt c_6)
      have h_9 : iv 0 79 k := iv_ltL (i32_lt c_6) h_4 (show iv 0 80 (sg 41) from MI_s hI 41) (by decide)
      have h_10 : iv 1 80 (sg 41) := iv_ltR (i32_lt c_6) h_4 (show iv 0 80 (sg 41) from MI_s hI 41) (by decide)
      refine lv_aload_n hx hb dX13_bean_17 rfl (lv_at hl 0 rfl) ?_
      refine mr_get (v := .int (sg_1 40)) hx hb htb inX13 hown hK hP 40 (by decide) (htb _ kw_1067) rfl dX13_bean_18 ?_
      refine lv_topi (fun z_11 ez_11 => ?_)
      obtain rfl : (sg 40) = z_11 := (ez_11.trans (up_ne esg_1 (by decide))).symm
      refine lv_if_ne (tgt := 26) hx hb dX13_bean_21 (by decide) (fun c_12 => ?_) (fun c_12 => ?_)
      · have h_13 : iv 1 1 (sg 40) := iv_neL c_12 (show iv 0 1 (sg 40) from MI_s hI 40) (by decide)
        have hdoc := hdd.resolve_left (by have := i32_0; have := i32_1; have := i32_2; have := i32_m1; have := congrArg Int32.toInt (show sg_1 40 = sg 40 from up_ne esg_1 (by decide)); have := (show iv 0 1 (sg 40) from MI_s hI 40).1; have := (show iv 0 1 (sg 40) from MI_s hI 40).2; have := (h_9).1; have := (h_9).2; have := (h_10).1; have := (h_10).2; have := (h_13).1; have := (h_13).2; omega)
        refine lv_aload_n hx hb dX13_bean_26 rfl (lv_at hl 0 rfl) ?_
        refine mr_get (v := .ref (ad 42)) hx hb htb inX13 hown hK hP 42 (by decide) (htb _ kw_1069) rfl dX13_bean_27 ?_
        refine lv_iload_n hx hb dX13_bean_30 rfl (lv_at hl 1 rfl) ?_
        refine mr_iald hx hb hK hP 33 (k := 42) rfl rfl rfl (show vp_in k 80 from (iv_in h_9 (by decide))) dX13_bean_31 ?_
        refine lv_topi (fun z_14 ez_14 => ?_)
        have hz_14 : iv 0 79 z_14 := iv_of ez_14 (MI_a hI_sg_1 42 h_9 (by decide))
        refine lv_istore_n (lv' := [(3, .int z_14), (0, .ref h0), (1, .int k), (2, .int w)]) hx hb dX13_bean_32 rfl hl (by decide) rfl (fun ls hl => ?_)
        refine lv_iload_n hx hb dX13_bean_33 rfl (lv_at hl 3 rfl) ?_
        by_cases c_15 : (w : Int32).toInt = 0
        · refine lv_tableIn (tgt := 96) hx hb dX13_bean_34 (by rw [c_15]; decide) (by rw [c_15]; decide) (by rw [c_15]; rfl) (by decide) ?_
          have h_16 : iv 0 0 w := iv_at c_15
          refine lv_aload_n hx hb dX13_bean_96 rfl (lv_at hl 1 rfl) ?_
          refine lv_iload_n hx hb dX13_bean_97 rfl (lv_at hl 2 rfl) ?_
          refine mr_calli (rest := []) ⟨hx, hb, hml, hown, htb⟩ (a_classOf l dC dI h0 ad cid sg_1 gm lg k hI_sg_1 (iv_w h_9 (by decide)) (by have := i32_0; have := i32_1; have := i32_2; have := i32_m1; have := congrArg Int32.toInt (show sg_1 41 = sg 41 from up_ne esg_1 (by decide)); have := (show iv 0 80 (sg 41) from MI_s hI 41).1; have := (show iv 0 80 (sg 41) from MI_s hI 41).2; have := (h_9).1; have := (h_9).2; have := (h_10).1; have := (h_10).2; have := (h_13).1; have := (h_13).2; have := (hz_14).1; have := (hz_14).2; have := (h_16).1; have := (h_16).2; omega) ((DOC_of hdoc (show KS [5] sg sg_1 from (KS_up KS_rf esg_1 (by decide))) (show KS [] gm gm from KS_rf) (show KS [] lg lg from KS_rf) (by decide) (by decide) (by decide) (by decide)).1.2.2.2)) (cwV 1 htb (gd_V kw_1277 kw_1278 kw_127 kw_160 kw_1637) rfl rfl rfl (by decide +kernel) ⟨Nat.le_of_ble_eq_true rfl, Nat.le_of_ble_eq_true rfl⟩) rfl hl.1 rfl (Nat.le_of_ble_eq_true rfl) dX13_bean_98 ⟨Nat.zero_le _, Nat.zero_le _⟩ hK hP hD hS hA (fun r_17 u_18 H locs hw hP hD hS => ?_)
          obtain ⟨hr_17, rfl⟩ := hw
          have hP : va_P (dC, dI) vwCl (mW h0 ad cid sg_1 gm lg) H := hP
          have hD : va_D A (mW h0 ad cid sg_1 gm lg) := hD
          exact W.iret (v := r_17) hx hb hr (fun t ht hW => ⟨⟨r_17, (sg_1, gm, lg), rfl, ⟨sg_1, gm, lg, rfl, hI_sg_1, (KS_up KS_rf esg_1 (by decide)), KS_rf, KS_rf, ((GI0_of hgi (show KS [5] sg sg_1 from (KS_up KS_rf esg_1 (by decide))) (show KS [] gm gm from KS_rf) (show KS [] lg lg from KS_rf) (by decide) (by decide) (by decide) (by decide) (by decide) (by decide))), ((MO_of hmo (show KS [5] sg sg_1 from (KS_up KS_rf esg_1 (by decide))) (show KS [] gm gm from KS_rf) (by decide) (by decide)))⟩, by rw [ht]; exact hP, va_K.moved hW.alike hK, hD⟩, hS.F ht⟩) hS.2.2 dX13_bean_101
        by_cases c_19 : (w : Int32).toInt = 1
        · refine lv_tableIn (tgt := 102) hx hb dX13_bean_34 (by rw [c_19]; decide) (by rw [c_19]; decide) (by rw [c_19]; rfl) (by decide) ?_
          have h_20 : iv 1 1 w := iv_at c_19
          refine lv_aload_n hx hb dX13_bean_102 rfl (lv_at hl 1 rfl) ?_
          refine lv_iload_n hx hb dX13_bean_103 rfl (lv_at hl 2 rfl) ?_
          refine mr_calli (rest := []) ⟨hx, hb, hml, hown, htb⟩ (f_args l dC dI h0 ad cid sg_1 gm lg k hI_sg_1 h_9 (by have := i32_0; have := i32_1; have := i32_2; have := i32_m1; have := congrArg Int32.toInt (show sg_1 41 = sg 41 from up_ne esg_1 (by decide)); have := (show iv 0 80 (sg 41) from MI_s hI 41).1; have := (show iv 0 80 (sg 41) from MI_s hI 41).2; have := (h_9).1; have := (h_9).2; have := (h_10).1; have := (h_10).2; have := (h_13).1; have := (h_13).2; have := (hz_14).1; have := (hz_14).2; have := (h_20).1; have := (h_20).2; omega) ((DOC_of hdoc (show KS [5] sg sg_1 from (KS_up KS_rf esg_1 (by decide))) (show KS [] gm gm from KS_rf) (show KS [] lg lg from KS_rf) (by decide) (by decide) (by decide) (by decide)).1.2.2.2) ((DOC_of hdoc (show KS [5] sg sg_1 from (KS_up KS_rf esg_1 (by decide))) (show KS [] gm gm from KS_rf) (show KS [] lg lg from KS_rf) (by decide) (by decide) (by decide) (by decide)).1.2.1)) (cwV 1 htb (gd_V kw_1265 kw_1266 kw_121 kw_160 kw_1631) rfl rfl rfl (by decide +kernel) ⟨Nat.le_of_ble_eq_true rfl, Nat.le_of_ble_eq_true rfl⟩) rfl hl.1 rfl (Nat.le_of_ble_eq_true rfl) dX13_bean_104 ⟨Nat.zero_le _, Nat.zero_le _⟩ hK hP hD hS hA (fun r_21 u_22 H locs hw hP hD hS => ?_)
          obtain ⟨hr_21, fAa_r_21, fAz_r_21, rfl⟩ := hw
          have hP : va_P (dC, dI) vwCl (mW h0 ad cid sg_1 gm lg) H := hP
          have hD : va_D A (mW h0 ad cid sg_1 gm lg) := hD
          exact W.iret (v := r_21) hx hb hr (fun t ht hW => ⟨⟨r_21, (sg_1, gm, lg), rfl, ⟨sg_1, gm, lg, rfl, hI_sg_1, (KS_up KS_rf esg_1 (by decide)), KS_rf, KS_rf, ((GI0_of hgi (show KS [5] sg sg_1 from (KS_up KS_rf esg_1 (by decide))) (show KS [] gm gm from KS_rf) (show KS [] lg lg from KS_rf) (by decide) (by decide) (by decide) (by decide) (by decide) (by decide))), ((MO_of hmo (show KS [5] sg sg_1 from (KS_up KS_rf esg_1 (by decide))) (show KS [] gm gm from KS_rf) (by decide) (by decide)))⟩, by rw [ht]; exact hP, va_K.moved hW.alike hK, hD⟩, hS.F ht⟩) hS.2.2 dX13_bean_107
        by_cases c_23 : (w : Int32).toInt = 2
        · refine lv_tableIn (tgt := 108) hx hb dX13_bean_34 (by rw [c_23]; decide) (by rw [c_23]; decide) (by rw [c_23]; rfl) (by decide) ?_
          have h_24 : iv 2 2 w := iv_at c_23
          refine lv_aload_n hx hb dX13_bean_108 rfl (lv_at hl 1 rfl) ?_
          refine mr_get (v := .ref (ad 44)) hx hb htb inX13 hown hK hP 44 (by decide) (htb _ kw_1071) rfl dX13_bean_109 ?_
          refine lv_iload_n hx hb dX13_bean_112 rfl (lv_at hl 2 rfl) ?_
          refine mr_iald hx hb hK hP 35 (k := 44) rfl rfl rfl (show vp_in k 80 from (iv_in h_9 (by decide))) dX13_bean_113 ?_
          refine lv_topi (fun z_25 ez_25 => ?_)
          have hz_25 : iv 0 26 z_25 := iv_of ez_25 (MI_a hI_sg_1 44 h_9 (by decide))
          exact W.iret (v := z_25) hx hb hr (fun t ht hW => ⟨⟨z_25, (sg_1, gm, lg), rfl, ⟨sg_1, gm, lg, rfl, hI_sg_1, (KS_up KS_rf esg_1 (by decide)), KS_rf, KS_rf, ((GI0_of hgi (show KS [5] sg sg_1 from (KS_up KS_rf esg_1 (by decide))) (show KS [] gm gm from KS_rf) (show KS [] lg lg from KS_rf) (by decide) (by decide) (by decide) (by decide) (by decide) (by decide))), ((MO_of hmo (show KS [5] sg sg_1 from (KS_up KS_rf esg_1 (by decide))) (show KS [] gm gm from KS_rf) (by decide) (by decide)))⟩, by rw [ht]; exact hP, va_K.moved hW.alike hK, hD⟩, hS.F ht⟩) hS.2.2 dX13_bean_114
        by_cases c_26 : (w : Int32).toInt = 3
        · refine lv_tableIn (tgt := 115) hx hb dX13_bean_34 (by rw [c_26]; decide) (by rw [c_26]; decide) (by rw [c_26]; rfl) (by decide) ?_
          have h_27 : iv 3 3 w := iv_at c_26
          refine lv_aload_n hx hb dX13_bean_115 rfl (lv_at hl 1 rfl) ?_
          refine mr_get (v := .ref (ad 46)) hx hb htb inX13 hown hK hP 46 (by decide) (htb _ kw_1073) rfl dX13_bean_116 ?_
          refine lv_iload_n hx hb dX13_bean_119 rfl (lv_at hl 2 rfl) ?_
          refine mr_iald hx hb hK hP 37 (k := 46) rfl rfl rfl (show vp_in k 80 from (iv_in h_9 (by decide))) dX13_bean_120 ?_
          refine lv_topi (fun z_28 ez_28 => ?_)
          have hz_28 : iv 0 26 z_28 := iv_of ez_28 (MI_a hI_sg_1 46 h_9 (by decide))
          exact W.iret (v := z_28) hx hb hr (fun t ht hW => ⟨⟨z_28, (sg_1, gm, lg), rfl, ⟨sg_1, gm, lg, rfl, hI_sg_1, (KS_up KS_rf esg_1 (by decide)), KS_rf, KS_rf, ((GI0_of hgi (show KS [5] sg sg_1 from (KS_up KS_rf esg_1 (by decide))) (show KS [] gm gm from KS_rf) (show KS [] lg lg from KS_rf) (by decide) (by decide) (by decide) (by decide) (by decide) (by decide))), ((MO_of hmo (show KS [5] sg sg_1 from (KS_up KS_rf esg_1 (by decide))) (show KS [] gm gm from KS_rf) (by decide) (by decide)))⟩, by rw [ht]; exact hP, va_K.moved hW.alike hK, hD⟩, hS.F ht⟩) hS.2.2 dX13_bean_121
        by_cases c_29 : (w : Int32).toInt = 4
        · refine lv_tableIn (tgt := 122) hx hb dX13_bean_34 (by rw [c_29]; decide) (by rw [c_29]; decide) (by rw [c_29]; rfl) (by decide) ?_
          have h_30 : iv 4 4 w := iv_at c_29
          refine lv_aload_n hx hb dX13_bean_122 rfl (lv_at hl 1 rfl) ?_
          refine lv_iload_n hx hb dX13_bean_123 rfl (lv_at hl 2 rfl) ?_
          refine lv_ldc2 (own := RX13) (v := 120282512125796) hx hb hown (htb _ kw_1187) dX13_bean_124 ?_
          refine mr_calli (rest := []) ⟨hx, hb, hml, hown, htb⟩ (a_letter l dC dI h0 ad cid sg_1 gm lg k 120282512125796 hI_sg_1 (iv_w h_9 (by decide)) (by have := i32_0; have := i32_1; have := i32_2; have := i32_m1; have := congrArg Int32.toInt (show sg_1 41 = sg 41 from up_ne esg_1 (by decide)); have := (show iv 0 80 (sg 41) from MI_s hI 41).1; have := (show iv 0 80 (sg 41) from MI_s hI 41).2; have := (h_9).1; have := (h_9).2; have := (h_10).1; have := (h_10).2; have := (h_13).1; have := (h_13).2; have := (hz_14).1; have := (hz_14).2; have := (h_30).1; have := (h_30).2; omega) ((DOC_of hdoc (show KS [5] sg sg_1 from (KS_up KS_rf esg_1 (by decide))) (show KS [] gm gm from KS_rf) (show KS [] lg lg from KS_rf) (by decide) (by decide) (by decide) (by decide)).1.2.2.2)) (cwV 2 htb (gd_V kw_1275 kw_1276 kw_126 kw_160 kw_1636) rfl rfl rfl (by decide +kernel) ⟨Nat.le_of_ble_eq_true rfl, Nat.le_of_ble_eq_true rfl⟩) rfl hl.1 rfl (Nat.le_of_ble_eq_true rfl) dX13_bean_127 ⟨Nat.zero_le _, Nat.zero_le _⟩ hK hP hD hS hA (fun r_31 u_32 H locs hw hP hD hS => ?_)
          obtain rfl := hw
          have hP : va_P (dC, dI) vwCl (mW h0 ad cid sg_1 gm lg) H := hP
          have hD : va_D A (mW h0 ad cid sg_1 gm lg) := hD
          exact W.iret (v := r_31) hx hb hr (fun t ht hW => ⟨⟨r_31, (sg_1, gm, lg), rfl, ⟨sg_1, gm, lg, rfl, hI_sg_1, (KS_up KS_rf esg_1 (by decide)), KS_rf, KS_rf, ((GI0_of hgi (show KS [5] sg sg_1 from (KS_up KS_rf esg_1 (by decide))) (show KS [] gm gm from KS_rf) (show KS [] lg lg from KS_rf) (by decide) (by decide) (by decide) (by decide) (by decide) (by decide))), ((MO_of hmo (show KS [5] sg sg_1 from (KS_up KS_rf esg_1 (by decide))) (show KS [] gm gm from KS_rf) (by decide) (by decide)))⟩, by rw [ht]; exact hP, va_K.moved hW.alike hK, hD⟩, hS.F ht⟩) hS.2.2 dX13_bean_130
        by_cases c_33 : (w : Int32).toInt = 5
        · refine lv_tableIn (tgt := 131) hx hb dX13_bean_34 (by rw [c_33]; decide) (by rw [c_33]; decide) (by rw [c_33]; rfl) (by decide) ?_
          have h_34 : iv 5 5 w := iv_at c_33
          refine lv_aload_n hx hb dX13_bean_131 rfl (lv_at hl 1 rfl) ?_
          refine lv_iload_n hx hb dX13_bean_132 rfl (lv_at hl 2 rfl) ?_
          refine lv_ldc2 (own := RX13) (v := 1768843636) hx hb hown (htb _ kw_1188) dX13_bean_133 ?_
          refine mr_calli (rest := []) ⟨hx, hb, hml, hown, htb⟩ (a_letter l dC dI h0 ad cid sg_1 gm lg k 1768843636 hI_sg_1 (iv_w h_9 (by decide)) (by have := i32_0; have := i32_1; have := i32_2; have := i32_m1; have := congrArg Int32.toInt (show sg_1 41 = sg 41 from up_ne esg_1 (by decide)); have := (show iv 0 80 (sg 41) from MI_s hI 41).1; have := (show iv 0 80 (sg 41) from MI_s hI 41).2; have := (h_9).1; have := (h_9).2; have := (h_10).1; have := (h_10).2; have := (h_13).1; have := (h_13).2; have := (hz_14).1; have := (hz_14).2; have := (h_34).1; have := (h_34).2; omega) ((DOC_of hdoc (show KS [5] sg sg_1 from (KS_up KS_rf esg_1 (by decide))) (show KS [] gm gm from KS_rf) (show KS [] lg lg from KS_rf) (by decide) (by decide) (by decide) (by decide)).1.2.2.2)) (cwV 2 htb (gd_V kw_1275 kw_1276 kw_126 kw_160 kw_1636) rfl rfl rfl (by decide +kernel) ⟨Nat.le_of_ble_eq_true rfl, Nat.le_of_ble_eq_true rfl⟩) rfl hl.1 rfl (Nat.le_of_ble_eq_true rfl) dX13_bean_136 ⟨Nat.zero_le _, Nat.zero_le _⟩ hK hP hD hS hA (fun r_35 u_36 H locs hw hP hD hS => ?_)
          obtain rfl := hw
          have hP : va_P (dC, dI) vwCl (mW h0 ad cid sg_1 gm lg) H := hP
          have hD : va_D A (mW h0 ad cid sg_1 gm lg) := hD
          exact W.iret (v := r_35) hx hb hr (fun t ht hW => ⟨⟨r_35, (sg_1, gm, lg), rfl, ⟨sg_1, gm, lg, rfl, hI_sg_1, (KS_up KS_rf esg_1 (by decide)), KS_rf, KS_rf, ((GI0_of hgi (show KS [5] sg sg_1 from (KS_up KS_rf esg_1 (by decide))) (show KS [] gm gm from KS_rf) (show KS [] lg lg from KS_rf) (by decide) (by decide) (by decide) (by decide) (by decide) (by decide))), ((MO_of hmo (show KS [5] sg sg_1 from (KS_up KS_rf esg_1 (by decide))) (show KS [] gm gm from KS_rf) (by decide) (by decide)))⟩, by rw [ht]; exact hP, va_K.moved hW.alike hK, hD⟩, hS.F ht⟩) hS.2.2 dX13_bean_139
        by_cases c_37 : (w : Int32).toInt = 6
        · refine lv_tableIn (tgt := 140) hx hb dX13_bean_34 (by rw [c_37]; decide) (by rw [c_37]; decide) (by rw [c_37]; rfl) (by decide) ?_
          have h_38 : iv 6 6 w := iv_at c_37
          refine lv_aload_n hx hb dX13_bean_140 rfl (lv_at hl 1 rfl) ?_
          refine lv_iload_n hx hb dX13_bean_141 rfl (lv_at hl 2 rfl) ?_
          refine lv_ldc2 (own := RX13) (v := 28259044220366713) hx hb hown (htb _ kw_1189) dX13_bean_142 ?_
          refine mr_calli (rest := []) ⟨hx, hb, hml, hown, htb⟩ (a_letter l dC dI h0 ad cid sg_1 gm lg k 28259044220366713 hI_sg_1 (iv_w h_9 (by decide)) (by have := i32_0; have := i32_1; have := i32_2; have := i32_m1; have := congrArg Int32.toInt (show sg_1 41 = sg 41 from up_ne esg_1 (by decide)); have := (show iv 0 80 (sg 41) from MI_s hI 41).1; have := (show iv 0 80 (sg 41) from MI_s hI 41).2; have := (h_9).1; have := (h_9).2; have := (h_10).1; have := (h_10).2; have := (h_13).1; have := (h_13).2; have := (hz_14).1; have := (hz_14).2; have := (h_38).1; have := (h_38).2; omega) ((DOC_of hdoc (show KS [5] sg sg_1 from (KS_up KS_rf esg_1 (by decide))) (show KS [] gm gm from KS_rf) (show KS [] lg lg from KS_rf) (by decide) (by decide) (by decide) (by decide)).1.2.2.2)) (cwV 2 htb (gd_V kw_1275 kw_1276 kw_126 kw_160 kw_1636) rfl rfl rfl (by decide +kernel) ⟨Nat.le_of_ble_eq_true rfl, Nat.le_of_ble_eq_true rfl⟩) rfl hl.1 rfl (Nat.le_of_ble_eq_true rfl) dX13_bean_145 ⟨Nat.zero_le _, Nat.zero_le _⟩ hK hP hD hS hA (fun r_39 u_40 H locs hw hP hD hS => ?_)
          obtain rfl := hw
          have hP : va_P (dC, dI) vwCl (mW h0 ad cid sg_1 gm lg) H := hP
          have hD : va_D A (mW h0 ad cid sg_1 gm lg) := hD
          exact W.iret (v := r_39) hx hb hr (fun t ht hW => ⟨⟨r_39, (sg_1, gm, lg), rfl, ⟨sg_1, gm, lg, rfl, hI_sg_1, (KS_up KS_rf esg_1 (by decide)), KS_rf, KS_rf, ((GI0_of hgi (show KS [5] sg sg_1 from (KS_up KS_rf esg_1 (by decide))) (show KS [] gm gm from KS_rf) (show KS [] lg lg from KS_rf) (by decide) (by decide) (by decide) (by decide) (by decide) (by decide))), ((MO_of hmo (show KS [5] sg sg_1 from (KS_up KS_rf esg_1 (by decide))) (show KS [] gm gm from KS_rf) (by decide) (by decide)))⟩, by rw [ht]; exact hP, va_K.moved hW.alike hK, hD⟩, hS.F ht⟩) hS.2.2 dX13_bean_148
        by_cases c_41 : (w : Int32).toInt = 7
        · refine lv_tableIn (tgt := 149) hx hb dX13_bean_34 (by rw [c_41]; decide) (by rw [c_41]; decide) (by rw [c_41]; rfl) (by decide) ?_
          have h_42 : iv 7 7 w := iv_at c_41
          refine lv_aload_n hx hb dX13_bean_149 rfl (lv_at hl 1 rfl) ?_
          refine lv_iload_n hx hb dX13_bean_150 rfl (lv_at hl 2 rfl) ?_
          refine mr_calli (rest := []) ⟨hx, hb, hml, hown, htb⟩ (a_isAbstract l dC dI h0 ad cid sg_1 gm lg k hI_sg_1 h_9) (cwV 1 htb (gd_V kw_1241 kw_1242 kw_109 kw_160 kw_1619) rfl rfl rfl (by decide +kernel) ⟨Nat.le_of_ble_eq_true rfl, Nat.le_of_ble_eq_true rfl⟩) rfl hl.1 rfl (Nat.le_of_ble_eq_true rfl) dX13_bean_151 ⟨Nat.zero_le _, Nat.zero_le _⟩ hK hP hD hS hA (fun r_43 u_44 H locs hw hP hD hS => ?_)
          obtain ⟨hr_43, rfl⟩ := hw
          have hP : va_P (dC, dI) vwCl (mW h0 ad cid sg_1 gm lg) H := hP
          have hD : va_D A (mW h0 ad cid sg_1 gm lg) := hD
          refine lv_if_eq (tgt := 161) hx hb dX13_bean_154 (by decide) (fun c_45 => ?_) (fun c_45 => ?_)
          · have h_46 : iv 0 0 r_43 := iv_eq c_45 hr_43 (iv_k (by decide) : iv 0 0 0) (by decide)
            refine lv_iconst (v := 0) hx hb dX13_bean_161 (by decide) ?_
            exact hj162 sg_1 z_14 0 hz_14 h_9 h_42 (iv_w (iv_k (by decide) : iv 0 0 0) (by decide)) (KS_up KS_rf esg_1 (by decide)) hI_sg_1 _ _ _ hP hD hS (lv_sub hl [0, 1, 2, 3] rfl)
          · have h_47 : iv 1 1 r_43 := iv_neL c_45 hr_43 (by decide)
            refine lv_iconst (v := 1) hx hb dX13_bean_157 (by decide) ?_
            refine lv_goto (tgt := 162) hx hb dX13_bean_158 (by decide) ?_
            exact hj162 sg_1 z_14 1 hz_14 h_9 h_42 (iv_w (iv_k (by decide) : iv 1 1 1) (by decide)) (KS_up KS_rf esg_1 (by decide)) hI_sg_1 _ _ _ hP hD hS (lv_sub hl [0, 1, 2, 3] rfl)
        by_cases c_48 : (w : Int32).toInt = 8
        · refine lv_tableIn (tgt := 163) hx hb dX13_bean_34 (by rw [c_48]; decide) (by rw [c_48]; decide) (by rw [c_48]; rfl) (by decide) ?_
          have h_49 : iv 8 8 w := iv_at c_48
          refine lv_aload_n hx hb dX13_bean_163 rfl (lv_at hl 1 rfl) ?_
          refine lv_iload_n hx hb dX13_bean_164 rfl (lv_at hl 0 rfl) ?_
          refine lv_ldc2 (own := RX13) (v := 495589486693) hx hb hown (htb _ kw_1184) dX13_bean_165 ?_
          refine mr_calll (rest := []) ⟨hx, hb, hml, hown, htb⟩ (f_word l dC dI h0 ad cid sg_1 gm lg z_14 495589486693 hI_sg_1 hz_14) (cwV 2 htb (gd_V kw_1201 kw_1202 kw_96 kw_160 kw_1603) rfl rfl rfl (by decide +kernel) ⟨Nat.le_of_ble_eq_true rfl, Nat.le_of_ble_eq_true rfl⟩) rfl hl.1 rfl (Nat.le_of_ble_eq_true rfl) dX13_bean_168 ⟨Nat.zero_le _, Nat.zero_le _⟩ hK hP hD hS hA (fun r_50 u_51 H locs hw hP hD hS => ?_)
          obtain ⟨fW_r_50, rfl⟩ := hw
          have hP : va_P (dC, dI) vwCl (mW h0 ad cid sg_1 gm lg) H := hP
          have hD : va_D A (mW h0 ad cid sg_1 gm lg) := hD
          refine lv_aload_n hx hb dX13_bean_171 rfl (lv_at hl 1 rfl) ?_
          refine mr_get (v := .ref (ad 1)) hx hb htb inX13 hown hK hP 1 (by decide) (htb _ kw_1028) rfl dX13_bean_172 ?_
          refine lv_iconst (v := 3) hx hb dX13_bean_175 (by decide) ?_
          refine mr_lald hx hb hK hP 1 (k := 1) rfl rfl rfl (show vp_in 3 11 from (iv_in (iv_k (by decide) : iv 3 3 3) (by decide))) dX13_bean_176 ?_
          refine lv_topl (fun z_52 ez_52 => ?_)
          refine W.lcmp hx hb dX13_bean_177 ?_
          refine lv_topi (fun z_53 ez_53 => ?_)
          have hz_53 : iv (-1) 1 z_53 := iv_of ez_53 (iv_cmp _ _)
          refine lv_if_ne (tgt := 185) hx hb dX13_bean_178 (by decide) (fun c_54 => ?_) (fun c_54 => ?_)
          · have d_55 : ¬ (z_53 : Int32).toInt = 0 := lv_neT c_54 rfl
            refine lv_iconst (v := 0) hx hb dX13_bean_185 (by decide) ?_
            exact hj186 sg_1 z_14 0 hz_14 h_9 h_49 (iv_w (iv_k (by decide) : iv 0 0 0) (by decide)) (KS_up KS_rf esg_1 (by decide)) hI_sg_1 _ _ _ hP hD hS (lv_sub hl [0, 1, 2, 3] rfl)
          · have h_56 : iv 0 0 z_53 := iv_eq c_54 hz_53 (iv_k (by decide) : iv 0 0 0) (by decide)
            refine lv_iconst (v := 1) hx hb dX13_bean_181 (by decide) ?_
            refine lv_goto (tgt := 186) hx hb dX13_bean_182 (by decide) ?_
            exact hj186 sg_1 z_14 1 hz_14 h_9 h_49 (iv_w (iv_k (by decide) : iv 1 1 1) (by decide)) (KS_up KS_rf esg_1 (by decide)) hI_sg_1 _ _ _ hP hD hS (lv_sub hl [0, 1, 2, 3] rfl)
        by_cases c_57 : (w : Int32).toInt = 9
        · refine lv_tableIn (tgt := 187) hx hb dX13_bean_34 (by rw [c_57]; decide) (by rw [c_57]; decide) (by rw [c_57]; rfl) (by decide) ?_
          have h_58 : iv 9 9 w := iv_at c_57
          refine lv_aload_n hx hb dX13_bean_187 rfl (lv_at hl 1 rfl) ?_
          refine lv_iload_n hx hb dX13_bean_188 rfl (lv_at hl 0 rfl) ?_
          refine lv_ldc2 (own := RX13) (v := 1818327673) hx hb hown (htb _ kw_1185) dX13_bean_189 ?_
          refine mr_calll (rest := []) ⟨hx, hb, hml, hown, htb⟩ (f_word l dC dI h0 ad cid sg_1 gm lg z_14 1818327673 hI_sg_1 hz_14) (cwV 2 htb (gd_V kw_1201 kw_1202 kw_96 kw_160 kw_1603) rfl rfl rfl (by decide +kernel) ⟨Nat.le_of_ble_eq_true rfl, Nat.le_of_ble_eq_true rfl⟩) rfl hl.1 rfl (Nat.le_of_ble_eq_true rfl) dX13_bean_192 ⟨Nat.zero_le _, Nat.zero_le _⟩ hK hP hD hS hA (fun r_59 u_60 H locs hw hP hD hS => ?_)
          obtain ⟨fW_r_59, rfl⟩ := hw
          have hP : va_P (dC, dI) vwCl (mW h0 ad cid sg_1 gm lg) H := hP
          have hD : va_D A (mW h0 ad cid sg_1 gm lg) := hD
          refine lv_aload_n hx hb dX13_bean_195 rfl (lv_at hl 1 rfl) ?_
          refine mr_get (v := .ref (ad 1)) hx hb htb inX13 hown hK hP 1 (by decide) (htb _ kw_1028) rfl dX13_bean_196 ?_
          refine lv_iconst (v := 0) hx hb dX13_bean_199 (by decide) ?_
          refine mr_lald hx hb hK hP 1 (k := 1) rfl rfl rfl (show vp_in 0 11 from (iv_in (iv_k (by decide) : iv 0 0 0) (by decide))) dX13_bean_200 ?_
          refine lv_topl (fun z_61 ez_61 => ?_)
          refine W.lcmp hx hb dX13_bean_201 ?_
          refine lv_topi (fun z_62 ez_62 => ?_)
          have hz_62 : iv (-1) 1 z_62 := iv_of ez_62 (iv_cmp _ _)
          refine lv_if_ne (tgt := 209) hx hb dX13_bean_202 (by decide) (fun c_63 => ?_) (fun c_63 => ?_)
          · have d_64 : ¬ (z_62 : Int32).toInt = 0 := lv_neT c_63 rfl
            refine lv_iconst (v := 0) hx hb dX13_bean_209 (by decide) ?_
            exact hj210 sg_1 z_14 0 hz_14 h_9 h_58 (iv_w (iv_k (by decide) : iv 0 0 0) (by decide)) (KS_up KS_rf esg_1 (by decide)) hI_sg_1 _ _ _ hP hD hS (lv_sub hl [0, 1, 2, 3] rfl)
          · have h_65 : iv 0 0 z_62 := iv_eq c_63 hz_62 (iv_k (by decide) : iv 0 0 0) (by decide)
            refine lv_iconst (v := 1) hx hb dX13_bean_205 (by decide) ?_
            refine lv_goto (tgt := 210) hx hb dX13_bean_206 (by decide) ?_
            exact hj210 sg_1 z_14 1 hz_14 h_9 h_58 (iv_w (iv_k (by decide) : iv 1 1 1) (by decide)) (KS_up KS_rf esg_1 (by decide)) hI_sg_1 _ _ _ hP hD hS (lv_sub hl [0, 1, 2, 3] rfl)
        by_cases c_66 : (w : Int32).toInt = 10
        · refine lv_tableIn (tgt := 211) hx hb dX13_bean_34 (by rw [c_66]; decide) (by rw [c_66]; decide) (by rw [c_66]; rfl) (by decide) ?_
          have h_67 : iv 10 10 w := iv_at c_66
          refine lv_aload_n hx hb dX13_bean_211 rfl (lv_at hl 1 rfl) ?_
          refine mr_get (v := .ref (ad 61)) hx hb htb inX13 hown hK hP 61 (by decide) (htb _ kw_1088) rfl dX13_bean_212 ?_
          refine lv_iload_n hx hb dX13_bean_215 rfl (lv_at hl 2 rfl) ?_
          refine mr_zald hx hb hK hP 47 (k := 61) rfl rfl rfl (show vp_in k 80 from (iv_in h_9 (by decide))) dX13_bean_216 ?_
          refine lv_topi (fun z_68 ez_68 => ?_)
          have hz_68 : iv 0 1 z_68 := iv_of ez_68 (MI_a hI_sg_1 61 h_9 (by decide))
          refine lv_if_eq (tgt := 224) hx hb dX13_bean_217 (by decide) (fun c_69 => ?_) (fun c_69 => ?_)
          · have h_70 : iv 0 0 z_68 := iv_eq c_69 hz_68 (iv_k (by decide) : iv 0 0 0) (by decide)
            refine lv_iconst (v := 0) hx hb dX13_bean_224 (by decide) ?_
            exact hj225 sg_1 z_14 0 hz_14 h_9 h_67 (iv_w (iv_k (by decide) : iv 0 0 0) (by decide)) (KS_up KS_rf esg_1 (by decide)) hI_sg_1 _ _ _ hP hD hS (lv_sub hl [0, 1, 2, 3] rfl)
          · have h_71 : iv 1 1 z_68 := iv_neL c_69 hz_68 (by decide)
            refine lv_iconst (v := 1) hx hb dX13_bean_220 (by decide) ?_
            refine lv_goto (tgt := 225) hx hb dX13_bean_221 (by decide) ?_
            exact hj225 sg_1 z_14 1 hz_14 h_9 h_67 (iv_w (iv_k (by decide) : iv 1 1 1) (by decide)) (KS_up KS_rf esg_1 (by decide)) hI_sg_1 _ _ _ hP hD hS (lv_sub hl [0, 1, 2, 3] rfl)
        by_cases c_72 : (w : Int32).toInt = 11
        · refine lv_tableIn (tgt := 226) hx hb dX13_bean_34 (by rw [c_72]; decide) (by rw [c_72]; decide) (by rw [c_72]; rfl) (by decide) ?_
          have h_73 : iv 11 11 w := iv_at c_72
          refine lv_aload_n hx hb dX13_bean_226 rfl (lv_at hl 1 rfl) ?_
          refine mr_get (v := .ref (ad 27)) hx hb htb inX13 hown hK hP 27 (by decide) (htb _ kw_1054) rfl dX13_bean_227 ?_
          refine lv_iload_n hx hb dX13_bean_230 rfl (lv_at hl 0 rfl) ?_
          refine mr_iald hx hb hK hP 20 (k := 27) rfl rfl rfl (show vp_in z_14 80 from (iv_in hz_14 (by decide))) dX13_bean_231 ?_
          refine lv_topi (fun z_74 ez_74 => ?_)
          have hz_74 : iv 0 1201 z_74 := iv_of ez_74 (MI_a hI_sg_1 27 hz_14 (by decide))
          exact W.iret (v := z_74) hx hb hr (fun t ht hW => ⟨⟨z_74, (sg_1, gm, lg), rfl, ⟨sg_1, gm, lg, rfl, hI_sg_1, (KS_up KS_rf esg_1 (by decide)), KS_rf, KS_rf, ((GI0_of hgi (show KS [5] sg sg_1 from (KS_up KS_rf esg_1 (by decide))) (show KS [] gm gm from KS_rf) (show KS [] lg lg from KS_rf) (by decide) (by decide) (by decide) (by decide) (by decide) (by decide))), ((MO_of hmo (show KS [5] sg sg_1 from (KS_up KS_rf esg_1 (by decide))) (show KS [] gm gm from KS_rf) (by decide) (by decide)))⟩, by rw [ht]; exact hP, va_K.moved hW.alike hK, hD⟩, hS.F ht⟩) hS.2.2 dX13_bean_232
        refine lv_tableOut (tgt := 233) hx hb dX13_bean_34 (by have q1 := ((iv_all w)).1; have q2 := ((iv_all w)).2; omega) (by decide) ?_
        refine lv_iconst (v := (-1)) hx hb dX13_bean_233 (by decide) ?_
        exact W.iret (v := (-1)) hx hb hr (fun t ht hW => ⟨⟨(-1), (sg_1, gm, lg), rfl, ⟨sg_1, gm, lg, rfl, hI_sg_1, (KS_up KS_rf esg_1 (by decide)), KS_rf, KS_rf, ((GI0_of hgi (show KS [5] sg sg_1 from (KS_up KS_rf esg_1 (by decide))) (show KS [] gm gm from KS_rf) (show KS [] lg lg from KS_rf) (by decide) (by decide) (by decide) (by decide) (by decide) (by decide))), ((MO_of hmo (show KS [5] sg sg_1 from (KS_up KS_rf esg_1 (by decide))) (show KS [] gm gm from KS_rf) (by decide) (by decide)))⟩, by rw [ht]; exact hP, va_K.moved hW.alike hK, hD⟩, hS.F ht⟩) hS.2.2 dX13_bean_234
      · have h_75 : iv 0 0 (sg 40) := iv_eq c_12 (show iv 0 1 (sg 40) from MI_s hI 40) (iv_k (by decide) : iv 0 0 0) (by decide)
        exact hj24 sg_1 (KS_up KS_rf esg_1 (by decide)) hI_sg_1 _ _ _ hP hD hS (lv_sub hl [0, 1, 2] rfl)
end
section
def cNum (t : Nat) : Nat := match t with
  | 7 => 8
  | 8 => 64
  | 9 => 80
  | 10 => 80
  | 11 => 240
  | 27 => 64
  | 28 => 8
  | 29 => 8
  | 30 => 8
  | 31 => 80
  | _ => 1
def cNf (t : Nat) : Nat := match t with
  | 0 => 12
  | 1 => 8
  | 2 => 6
  | 3 => 1
  | 4 => 4
  | 5 => 2
  | 6 => 13
  | 7 => 8
  | 8 => 7
  | 9 => 21
  | 10 => 19
  | 11 => 3
  | _ => 0
def cIx (t : Nat) : Nat := match t with
  | 0 => 11
  | 1 => 6
  | 2 => 7
  | 3 => 9
  | 4 => 10
  | 5 => 4
  | 6 => 5
  | 7 => 2
  | 8 => 8
  | 9 => 3
  | 10 => 1
  | 11 => 0
  | _ => 0
def cKd (t j : Nat) : Nat := match t, j with
  | 0, 0 => 5
  | 0, 1 => 5
  | 0, 2 => 5
  | 0, 3 => 5
  | 0, 4 => 5
  | 0, 5 => 5
  | 0, 6 => 5
  | 0, 7 => 5
  | 0, 8 => 0
  | 0, 9 => 0
  | 0, 10 => 0
  | 0, 11 => 0
  | 1, 0 => 5
  | 1, 1 => 5
  | 1, 2 => 5
  | 1, 3 => 5
  | 1, 4 => 5
  | 1, 5 => 0
  | 1, 6 => 0
  | 1, 7 => 0
  | 2, 0 => 5
  | 2, 1 => 3
  | 2, 2 => 0
  | 2, 3 => 0
  | 2, 4 => 0
  | 2, 5 => 3
  | 3, 0 => 5
  | 4, 0 => 5
  | 4, 1 => 5
  | 4, 2 => 5
  | 4, 3 => 0
  | 5, 0 => 5
  | 5, 1 => 0
  | 6, 0 => 5
  | 6, 1 => 5
  | 6, 2 => 5
  | 6, 3 => 5
  | 6, 4 => 5
  | 6, 5 => 0
  | 6, 6 => 5
  | 6, 7 => 0
  | 6, 8 => 5
  | 6, 9 => 5
  | 6, 10 => 3
  | 6, 11 => 0
  | 6, 12 => 0
  | 7, 0 => 5
  | 7, 1 => 5
  | 7, 2 => 1
  | 7, 3 => 1
  | 7, 4 => 1
  | 7, 5 => 5
  | 7, 6 => 1
  | 7, 7 => 4
  | 8, 0 => 1
  | 8, 1 => 1
  | 8, 2 => 5
  | 8, 3 => 1
  | 8, 4 => 1
  | 8, 5 => 1
  | 8, 6 => 1
  | 9, 0 => 5
  | 9, 1 => 1
  | 9, 2 => 1
  | 9, 3 => 1
  | 9, 4 => 4
  | 9, 5 => 4
  | 9, 6 => 4
  | 9, 7 => 4
  | 9, 8 => 1
  | 9, 9 => 1
  | 9, 10 => 1
  | 9, 11 => 2
  | 9, 12 => 2
  | 9, 13 => 2
  | 9, 14 => 1
  | 9, 15 => 1
  | 9, 16 => 1
  | 9, 17 => 1
  | 9, 18 => 4
  | 9, 19 => 4
  | 9, 20 => 4
  | 10, 0 => 1
  | 10, 1 => 5
  | 10, 2 => 5
  | 10, 3 => 5
  | 10, 4 => 4
  | 10, 5 => 2
  | 10, 6 => 2
  | 10, 7 => 2
  | 10, 8 => 2
  | 10, 9 => 1
  | 10, 10 => 1
  | 10, 11 => 1
  | 10, 12 => 1
  | 10, 13 => 1
  | 10, 14 => 1
  | 10, 15 => 1
  | 10, 16 => 1
  | 10, 17 => 1
  | 10, 18 => 1
  | 11, 0 => 1
  | 11, 1 => 6
  | 11, 2 => 1
  | _, _ => 9
def cKy (t j : Nat) : Nat := match t, j with
  | 0, 8 => 0
  | 0, 9 => 1
  | 0, 10 => 2
  | 0, 11 => 3
  | 1, 5 => 4
  | 1, 6 => 5
  | 1, 7 => 6
  | 2, 1 => 7
  | 2, 2 => 8
  | 2, 3 => 9
  | 2, 4 => 10
  | 2, 5 => 11
  | 4, 3 => 12
  | 5, 1 => 13
  | 6, 5 => 14
  | 6, 7 => 15
  | 6, 10 => 16
  | 6, 11 => 17
  | 6, 12 => 18
  | 7, 2 => 0
  | 7, 3 => 1
  | 7, 4 => 2
  | 7, 6 => 3
  | 7, 7 => 4
  | 8, 0 => 5
  | 8, 1 => 6
  | 8, 3 => 7
  | 8, 4 => 8
  | 8, 5 => 9
  | 8, 6 => 10
  | 9, 1 => 11
  | 9, 2 => 12
  | 9, 3 => 13
  | 9, 4 => 14
  | 9, 5 => 15
  | 9, 6 => 16
  | 9, 7 => 17
  | 9, 8 => 18
  | 9, 9 => 19
  | 9, 10 => 20
  | 9, 11 => 1
  | 9, 12 => 2
  | 9, 13 => 3
  | 9, 14 => 21
  | 9, 15 => 22
  | 9, 16 => 23
  | 9, 17 => 24
  | 9, 18 => 25
  | 9, 19 => 26
  | 9, 20 => 27
  | 10, 0 => 28
  | 10, 4 => 29
  | 10, 5 => 4
  | 10, 6 => 5
  | 10, 7 => 6
  | 10, 8 => 7
  | 10, 9 => 30
  | 10, 10 => 31
  | 10, 11 => 32
  | 10, 12 => 33
  | 10, 13 => 34
  | 10, 14 => 35
  | 10, 15 => 36
  | 10, 16 => 37
  | 10, 17 => 38
  | 10, 18 => 39
  | 11, 0 => 40
  | 11, 2 => 41
  | _, _ => 999
def cTg (t j : Nat) : Nat := match t, j with
  | 0, 0 => 12
  | 0, 1 => 13
  | 0, 2 => 1
  | 0, 3 => 2
  | 0, 4 => 3
  | 0, 5 => 4
  | 0, 6 => 5
  | 0, 7 => 6
  | 1, 0 => 14
  | 1, 1 => 15
  | 1, 2 => 16
  | 1, 3 => 17
  | 1, 4 => 18
  | 2, 0 => 1
  | 2, 1 => 13
  | 2, 5 => 9
  | 3, 0 => 1
  | 4, 0 => 1
  | 4, 1 => 19
  | 4, 2 => 20
  | 5, 0 => 21
  | 6, 0 => 4
  | 6, 1 => 12
  | 6, 2 => 5
  | 6, 3 => 22
  | 6, 4 => 23
  | 6, 6 => 24
  | 6, 8 => 25
  | 6, 9 => 26
  | 6, 10 => 10
  | 7, 0 => 28
  | 7, 1 => 29
  | 7, 5 => 30
  | 7, 7 => 7
  | 8, 2 => 27
  | 9, 0 => 31
  | 9, 4 => 33
  | 9, 5 => 9
  | 9, 6 => 9
  | 9, 7 => 9
  | 9, 18 => 33
  | 9, 19 => 9
  | 9, 20 => 10
  | 10, 1 => 11
  | 10, 2 => 11
  | 10, 3 => 11
  | 10, 4 => 9
  | _, _ => 0
def cMu (t j : Nat) : Nat := match t, j with
  | 7, 0 => 1
  | 7, 1 => 1
  | 7, 5 => 1
  | 8, 2 => 1
  | 9, 0 => 1
  | 10, 1 => 3
  | 10, 2 => 3
  | 10, 3 => 3
  | _, _ => 0
def cOf (t j : Nat) : Nat := match t, j with
  | 10, 2 => 1
  | 10, 3 => 2
  | _, _ => 0
def cAk (t : Nat) : Nat := match t with
  | 12 => 3
  | 13 => 0
  | 14 => 3
  | 15 => 1
  | 16 => 0
  | 17 => 0
  | 18 => 0
  | 19 => 3
  | 20 => 2
  | 21 => 0
  | 22 => 0
  | 23 => 0
  | 24 => 2
  | 25 => 0
  | 26 => 0
  | 27 => 0
  | 28 => 3
  | 29 => 3
  | 30 => 0
  | 31 => 0
  | _ => 9
def cAy (t : Nat) : Nat := match t with
  | 13 => 43
  | 15 => 0
  | 16 => 44
  | 17 => 45
  | 18 => 46
  | 20 => 47
  | 21 => 48
  | 22 => 49
  | 23 => 50
  | 24 => 51
  | 25 => 52
  | 26 => 53
  | 27 => 54
  | 30 => 55
  | 31 => 56
  | _ => 998
def cAw (t : Nat) : Nat := match t with
  | 27 => 3
  | 30 => 26
  | 31 => 24
  | _ => 0
def cAt (t : Nat) : Nat := match t with
  | 12 => 7
  | 14 => 9
  | 19 => 10
  | 20 => 10
  | 24 => 10
  | 28 => 8
  | 29 => 8
  | _ => 0
def cAm (t : Nat) : Nat := match t with
  | 28 => 8
  | 29 => 8
  | _ => 0
def cAo (t : Nat) : Nat := match t with
  | 29 => 4
  | _ => 0
def cLen (t : Nat) : Nat := match t with
  | 12 => 8
  | 13 => 1200
  | 14 => 80
  | 15 => 240
  | 16 => 240
  | 17 => 240
  | 18 => 1200
  | 19 => 80
  | 20 => 80
  | 21 => 1600
  | 22 => 60
  | 23 => 60
  | 24 => 80
  | 25 => 960
  | 26 => 3
  | 27 => 3
  | 28 => 4
  | 29 => 4
  | 30 => 26
  | 31 => 24
  | _ => 0
def cTy (t : Nat) : FieldType := match t with
  | 12 => .object RX2
  | 13 => .char
  | 14 => .object RX3
  | 15 => .long
  | 16 => .int
  | 17 => .int
  | 18 => .char
  | 19 => .object RX1
  | 20 => .object RX1
  | 21 => .int
  | 22 => .int
  | 23 => .int
  | 24 => .object RX1
  | 25 => .int
  | 26 => .int
  | 27 => .int
  | 28 => .object RX8
  | 29 => .object RX8
  | 30 => .int
  | 31 => .char
  | _ => .object "java/lang/Object"
def crLen (t : Nat) : Nat := match t with
  | 0 => 8
  | 1 => 8
  | 2 => 8
  | 3 => 8
  | 4 => 8
  | 5 => 64
  | 6 => 64
  | 7 => 64
  | 8 => 64
  | 9 => 64
  | 10 => 64
  | 11 => 80
  | 12 => 80
  | 13 => 80
  | 14 => 80
  | 15 => 80
  | 16 => 80
  | 17 => 80
  | 18 => 80
  | 19 => 80
  | 20 => 80
  | 21 => 80
  | 22 => 80
  | 23 => 80
  | 24 => 80
  | 25 => 80
  | 26 => 80
  | 27 => 80
  | 28 => 80
  | 29 => 80
  | 30 => 80
  | 31 => 80
  | 32 => 80
  | 33 => 80
  | 34 => 80
  | 35 => 80
  | 36 => 80
  | 37 => 80
  | 38 => 80
  | 39 => 80
  | 40 => 240
  | 41 => 240
  | 42 => 240
  | 43 => 1200
  | 44 => 240
  | 45 => 240
  | 46 => 1200
  | 47 => 80
  | 48 => 1600
  | 49 => 60
  | 50 => 60
  | 51 => 80
  | 52 => 960
  | 53 => 3
  | 54 => 192
  | 55 => 208
  | 56 => 1920
  | 57 => 30720
  | _ => 0
def csLo (k : Nat) : Int := match k with
  | 0 => 0
  | 1 => 0
  | 2 => 0
  | 3 => -1
  | 4 => 0
  | 5 => 0
  | 6 => 0
  | 7 => -1
  | 8 => 0
  | 9 => 0
  | 10 => -1201
  | 11 => -1
  | 12 => 0
  | 13 => 0
  | 14 => 0
  | 15 => 0
  | 16 => -1
  | 17 => 0
  | 18 => -1
  | _ => -2147483648
def csHi (k : Nat) : Int := match k with
  | 0 => 1200
  | 1 => 1
  | 2 => 3
  | 3 => 1201
  | 4 => 80
  | 5 => 240
  | 6 => 1200
  | 7 => 0
  | 8 => 1200
  | 9 => 1201
  | 10 => 6
  | 11 => 79
  | 12 => 80
  | 13 => 400
  | 14 => 60
  | 15 => 80
  | 16 => 79
  | 17 => 8
  | 18 => 79
  | _ => 2147483647
def caLo (k : Nat) : Int := match k with
  | 0 => 0
  | 1 => 0
  | 2 => 0
  | 3 => 0
  | 4 => -1
  | 5 => 0
  | 6 => 0
  | 7 => 0
  | 8 => -1
  | 9 => 0
  | 10 => 0
  | 11 => 0
  | 12 => 0
  | 13 => 0
  | 14 => -1
  | 15 => -1
  | 16 => -1
  | 17 => -1
  | 18 => 0
  | 19 => 0
  | 20 => 0
  | 21 => -1
  | 22 => -1
  | 23 => -1
  | 24 => -1
  | 25 => -1
  | 26 => -1
  | 27 => -1
  | 28 => 0
  | 29 => -1
  | 30 => -1
  | 31 => -1
  | 32 => -1
  | 33 => -1
  | 34 => 0
  | 35 => 0
  | 36 => 0
  | 37 => 0
  | 38 => 0
  | 39 => -1
  | 41 => 0
  | 42 => 0
  | 43 => 0
  | 44 => 0
  | 45 => 0
  | 46 => 0
  | 47 => -1
  | 49 => 0
  | 50 => 0
  | 51 => -1
  | 53 => -1
  | 55 => -1
  | 56 => 0
  | 57 => -1
  | _ => -2147483648
def caHi (k : Nat) : Int := match k with
  | 0 => 4
  | 1 => 4
  | 2 => 7
  | 3 => 8
  | 4 => 7
  | 5 => 7
  | 6 => 3
  | 7 => 3
  | 8 => 25
  | 9 => 1
  | 10 => 7
  | 11 => 24
  | 12 => 2000000
  | 13 => 1201
  | 14 => 33
  | 15 => 79
  | 16 => 79
  | 17 => 79
  | 18 => 2000000
  | 19 => 240
  | 20 => 12
  | 21 => 1
  | 22 => 25
  | 23 => 2
  | 24 => 15
  | 25 => 33
  | 26 => 79
  | 27 => 79
  | 28 => 79
  | 29 => 79
  | 30 => 7
  | 31 => 25
  | 32 => 25
  | 33 => 25
  | 34 => 1
  | 35 => 1
  | 36 => 1
  | 37 => 1
  | 38 => 1
  | 39 => 59
  | 41 => 80
  | 42 => 127
  | 43 => 65535
  | 44 => 1200
  | 45 => 24
  | 46 => 65535
  | 47 => 79
  | 49 => 7
  | 50 => 79
  | 51 => 79
  | 53 => 2
  | 55 => 15
  | 56 => 65535
  | 57 => 79
  | _ => 2147483647
/-- a place of a row that holds a reference: negative for null -/
def er (a : Nat → Nat) (x : Int32) : Option Nat := if x.toInt < 0 then none else some (a x.toNatClampNeg)
def eV (a : Nat → Nat) (x : Int32) : Value := va_rf (er a x)
theorem er_some {a : Nat → Nat} {x : Int32} (h : 0 ≤ x.toInt) : er a x = some (a x.toNatClampNeg) := by unfold er; rw [if_neg (by omega)]
theorem er_none {a : Nat → Nat} {x : Int32} (h : x.toInt < 0) : er a x = none := by unfold er; rw [if_pos h]
theorem eV_ref {a : Nat → Nat} {x : Int32} (h : 0 ≤ x.toInt) : eV a x = .ref (a x.toNatClampNeg) := by unfold eV; rw [er_some h]; rfl
theorem eV_null {a : Nat → Nat} {x : Int32} (h : x.toInt < 0) : eV a x = .null := by unfold eV; rw [er_none h]; rfl
theorem eV_is (a : Nat → Nat) (x : Int32) : eV a x = .null ∨ ∃ q, eV a x = .ref q := by
  by_cases h : x.toInt < 0
  · exact Or.inl (eV_null h)
  · exact Or.inr ⟨_, eV_ref (by omega)⟩
theorem eV_cat (a : Nat → Nat) (x : Int32) : (eV a x).category = 1 := by
  rcases eV_is a x with h | ⟨q, h⟩ <;> rw [h] <;> rfl
def cPL : List (Nat × Nat) := (List.range 32).flatMap (fun t => (List.range (cNum t)).map (fun i => (t, i)))
section CW
variable (ad : Nat → Nat → Nat) (cid : Nat → ClassId) (a2 : Nat → Nat) (lx : List Nat) (sg : Nat → Int32) (gm : Nat → Nat → Int32) (lg : Nat → Nat → Int64)
def cV (t j i : Nat) : Value := if cKd t j = 0 then .int (sg (cKy t j)) else if cKd t j = 1 then .int (gm (cKy t j) i) else if cKd t j = 2 then .long (lg (cKy t j) i) else if cKd t j = 3 then eV (ad (cTg t j)) (sg (cKy t j)) else if cKd t j = 4 then eV (ad (cTg t j)) (gm (cKy t j) i) else if cKd t j = 5 then .ref (ad (cTg t j) (cMu t j * i + cOf t j)) else .ref (if (gm 42 i).toInt = 0 then ad 34 0 else a2 i)
def cFs (t i : Nat) : List Value := (List.range (cNf t)).map (fun j => cV ad a2 sg gm lg t j i)
def cAi (t i j : Nat) : Int32 := if cAw t = 0 then gm (cAy t) j else if j < cAw t then gm (cAy t) (cAw t * i + j) else 0
def cAr (t i j : Nat) : Option Nat := if cAk t = 2 then er (ad (cAt t)) (gm (cAy t) j) else some (ad (cAt t) (cAm t * i + cAo t + j))
def cE (t i : Nat) : va_E := if t < 12 then .inr (cIx t, cFs ad a2 sg gm lg t i) else .inl (cid t, cLen t, if cAk t = 0 then .inl (cAi gm t i) else if cAk t = 1 then .inr (.inl (lg (cAy t))) else .inr (.inr (.inr (.inr (cAr ad gm t i)))))
def cDr (q j : Nat) : Option Nat := if j < 128 then er (ad 9) (gm 57 (128 * q + j)) else none
def cD (q : Nat) : va_E := .inl (cid 32, (gm 42 q).toNatClampNeg, .inr (.inr (.inr (.inr (cDr ad gm q)))))
def cFx : va_W := cPL.map (fun x => (ad x.1 x.2, cE ad cid a2 sg gm lg x.1 x.2))
def cW : va_W := cFx ad cid a2 sg gm lg ++ lx.map (fun q => (a2 q, cD ad cid gm q))
end CW
def cT (cid : Nat → ClassId) : List (ClassId × FieldType) := (List.range 33).map (fun t => (cid t, cTy t))
theorem cT_at {cid : Nat → ClassId} {t : Nat} (h : t < 33) : (cT cid)[t]? = some (cid t, cTy t) := by
  unfold cT; rw [List.getElem?_map, List.getElem?_range h]; rfl
theorem cPL_at {t i : Nat} (ht : t < 32) (hi : i < cNum t) : ∃ p9 : Nat, cPL[p9]? = some (t, i) := List.getElem?_of_mem (by
  unfold cPL; exact List.mem_flatMap.mpr ⟨t, List.mem_range.mpr ht, List.mem_map.mpr ⟨i, List.mem_range.mpr hi, rfl⟩⟩)
theorem cPL_in {p9 : Nat} {x : Nat × Nat} (h : cPL[p9]? = some x) : x.1 < 32 ∧ x.2 < cNum x.1 := by
  have h1 := List.mem_of_getElem? h
  unfold cPL at h1
  obtain ⟨t, ht, h2⟩ := List.mem_flatMap.mp h1
  obtain ⟨i, hi, rfl⟩ := List.mem_map.mp h2
  exact ⟨List.mem_range.mp ht, List.mem_range.mp hi⟩
def cOff (t : Nat) : Nat := ((List.range t).map cNum).sum
set_option maxRecDepth 100000 in
theorem cPL_pos : ((List.range cPL.length).all fun p9 => match cPL[p9]? with | some x => p9 == cOff x.1 + x.2 | none => true) = true := by decide +kernel
theorem cPL_inj {p9 q9 : Nat} {x : Nat × Nat} (h1 : cPL[p9]? = some x) (h2 : cPL[q9]? = some x) : p9 = q9 := by
  have key : ∀ k, cPL[k]? = some x → k = cOff x.1 + x.2 := fun k hk => by
    have := List.all_eq_true.mp cPL_pos k (List.mem_range.mpr (List.getElem?_eq_some_iff.mp hk).1)
    rw [hk] at this
    simpa using this
  rw [key _ h1, key _ h2]
section CR
variable {ad : Nat → Nat → Nat} {cid : Nat → ClassId} {a2 : Nat → Nat} {lx : List Nat} {sg sg2 : Nat → Int32} {gm gm2 : Nat → Nat → Int32} {lg lg2 : Nat → Nat → Int64}
theorem cW_at {p9 t i : Nat} (h : cPL[p9]? = some (t, i)) : (cW ad cid a2 lx sg gm lg)[p9]? = some (ad t i, cE ad cid a2 sg gm lg t i) := by
  unfold cW cFx
  rw [List.getElem?_append_left (by rw [List.length_map]; exact (List.getElem?_eq_some_iff.mp h).1), List.getElem?_map, h]
  rfl
theorem cW_setG {PL : List (Nat × Nat)} {f g : Nat × Nat → Nat × va_E} {d : va_W} {p9 : Nat} {x9 : Nat × Nat} (h : PL[p9]? = some x9) (hne : ∀ j x, PL[j]? = some x → j ≠ p9 → g x = f x) : (PL.map f ++ d).set p9 (g x9) = PL.map g ++ d := by
  have hp := (List.getElem?_eq_some_iff.mp h).1
  rw [List.set_append_left (h := by rw [List.length_map]; exact hp)]
  congr 1
  apply List.ext_getElem?
  intro j
  by_cases hj : j = p9
  · subst hj
    rw [List.getElem?_set_self (by rw [List.length_map]; exact hp), List.getElem?_map, h]
    rfl
  · rw [List.getElem?_set_ne (Ne.symm hj), List.getElem?_map, List.getElem?_map]
    cases hb : PL[j]? with
    | none => rfl
    | some x =>
      show some (f x) = some (g x)
      rw [hne j x hb hj]
theorem cW_set {p9 t i : Nat} (h : cPL[p9]? = some (t, i)) (hne : ∀ t' i', t' < 32 → i' < cNum t' → ¬ (t' = t ∧ i' = i) → cE ad cid a2 sg2 gm2 lg2 t' i' = cE ad cid a2 sg gm lg t' i') (hd : ∀ q, cD ad cid gm2 q = cD ad cid gm q) : (cW ad cid a2 lx sg gm lg).set p9 (ad t i, cE ad cid a2 sg2 gm2 lg2 t i) = cW ad cid a2 lx sg2 gm2 lg2 := by
  have e2 : (fun q => (a2 q, cD ad cid gm2 q)) = (fun q => (a2 q, cD ad cid gm q)) := funext fun q => by rw [hd q]
  unfold cW cFx
  rw [e2]
  exact cW_setG (g := fun x => (ad x.1 x.2, cE ad cid a2 sg2 gm2 lg2 x.1 x.2)) h (fun j x hb hj => by
    obtain ⟨b1, b2⟩ := cPL_in hb
    have hx : ¬ (x.1 = t ∧ x.2 = i) := fun z => hj (cPL_inj hb (by rw [h, ← z.1, ← z.2]))
    show (ad x.1 x.2, cE ad cid a2 sg2 gm2 lg2 x.1 x.2) = (ad x.1 x.2, cE ad cid a2 sg gm lg x.1 x.2)
    rw [hne x.1 x.2 b1 b2 hx])
theorem cFs_get {t j i : Nat} (hj : j < cNf t) : (cFs ad a2 sg gm lg t i)[j]? = some (cV ad a2 sg gm lg t j i) := by
  unfold cFs; rw [List.getElem?_map, List.getElem?_range hj]; rfl
theorem cFs_len {t i : Nat} : (cFs ad a2 sg gm lg t i).length = cNf t := by unfold cFs; rw [List.length_map, List.length_range]
theorem cFs_set {t j i : Nat} (hj : j < cNf t) (hne : ∀ j', j' < cNf t → j' ≠ j → cV ad a2 sg2 gm2 lg2 t j' i = cV ad a2 sg gm lg t j' i) : (cFs ad a2 sg gm lg t i).set j (cV ad a2 sg2 gm2 lg2 t j i) = cFs ad a2 sg2 gm2 lg2 t i := by
  apply List.ext_getElem?
  intro k
  by_cases hk : k = j
  · subst hk
    rw [List.getElem?_set_self (by rw [cFs_len]; exact hj), cFs_get hj]
  · rw [List.getElem?_set_ne (Ne.symm hk)]
    by_cases h7 : k < cNf t
    · rw [cFs_get h7, cFs_get h7, hne k h7 hk]
    · rw [List.getElem?_eq_none (by rw [cFs_len]; omega), List.getElem?_eq_none (by rw [cFs_len]; omega)]
theorem cE_o {t i : Nat} (ht : t < 12) : cE ad cid a2 sg gm lg t i = .inr (cIx t, cFs ad a2 sg gm lg t i) := by unfold cE; rw [if_pos ht]
theorem cE_eq {t i : Nat} (hv : ∀ j, j < cNf t → cV ad a2 sg2 gm2 lg2 t j i = cV ad a2 sg gm lg t j i) (hi : 12 ≤ t → cAk t = 0 → ∀ j, cAi gm2 t i j = cAi gm t i j) (hl : 12 ≤ t → cAk t = 1 → lg2 (cAy t) = lg (cAy t)) (hr : 12 ≤ t → ∀ j, cAr ad gm2 t i j = cAr ad gm t i j) : cE ad cid a2 sg2 gm2 lg2 t i = cE ad cid a2 sg gm lg t i := by
  unfold cE
  by_cases h : t < 12
  · rw [if_pos h, if_pos h]
    have : cFs ad a2 sg2 gm2 lg2 t i = cFs ad a2 sg gm lg t i := by
      unfold cFs
      exact List.map_congr_left (fun j hj => hv j (List.mem_range.mp hj))
    rw [this]
  · rw [if_neg h, if_neg h]
    by_cases h0 : cAk t = 0
    · rw [if_pos h0, if_pos h0, show cAi gm2 t i = cAi gm t i from funext (hi (by omega) h0)]
    · rw [if_neg h0, if_neg h0]
      by_cases h1 : cAk t = 1
      · rw [if_pos h1, if_pos h1, hl (by omega) h1]
      · rw [if_neg h1, if_neg h1, show cAr ad gm2 t i = cAr ad gm t i from funext (hr (by omega))]
theorem cNf21 : ∀ t, t < 32 → cNf t ≤ 21 := by decide +kernel
theorem cNf0 : ∀ t, t < 32 → 12 ≤ t → cNf t = 0 := by decide +kernel
theorem cAw1 : ∀ t, t < 32 → 12 ≤ t → cAw t = 0 → cAk t = 0 → cNum t = 1 := by decide +kernel
def cKc (t j : Nat) : Nat := if cKd t j = 1 then 1 else if cKd t j = 4 then 1 else if cKd t j = 0 then 2 else if cKd t j = 3 then 2 else if cKd t j = 2 then 3 else 0
set_option maxRecDepth 100000 in
theorem cUnB : ((List.range 12).all fun t => (List.range (cNf t)).all fun j => (List.range 12).all fun t' => (List.range (cNf t')).all fun j' => !(cKy t j == cKy t' j') || !(cKc t j == cKc t' j') || (cKc t j == 0) || (t == t' && j == j')) = true := by decide +kernel
/-- no key is used twice -/
theorem cUn {t j t' j' : Nat} (ht : t < 12) (hj : j < cNf t) (ht' : t' < 12) (hj' : j' < cNf t') (h : cKy t j = cKy t' j') (hc : cKc t j = cKc t' j') (h0 : ¬ cKc t j = 0) : t = t' ∧ j = j' := by
  have h1 := List.all_eq_true.mp (List.all_eq_true.mp (List.all_eq_true.mp (List.all_eq_true.mp cUnB t (List.mem_range.mpr ht)) j (List.mem_range.mpr hj)) t' (List.mem_range.mpr ht')) j' (List.mem_range.mpr hj')
  simp [h, hc] at h1
  rcases h1 with q | q
  · exact absurd (hc.trans q) h0
  · exact q
theorem cKc_1 {t j : Nat} (h : cKd t j = 1 ∨ cKd t j = 4) : cKc t j = 1 := by
  unfold cKc
  rcases h with h | h
  · rw [if_pos h]
  · rw [if_neg (by omega), if_pos h]
theorem cKc_2 {t j : Nat} (h : cKd t j = 0 ∨ cKd t j = 3) : cKc t j = 2 := by
  unfold cKc
  rcases h with h | h
  · rw [if_neg (by omega), if_neg (by omega), if_pos h]
  · rw [if_neg (by omega), if_neg (by omega), if_neg (by omega), if_pos h]
theorem cKc_3 {t j : Nat} (h : cKd t j = 2) : cKc t j = 3 := by
  unfold cKc
  rw [if_neg (by omega), if_neg (by omega), if_neg (by omega), if_neg (by omega), if_pos h]
theorem cUk : ∀ t, t < 12 → ∀ j, j < 21 → ((cKd t j = 1 ∨ cKd t j = 4) → cKy t j < 42) ∧ (cKd t j = 2 → 1 ≤ cKy t j ∧ cKy t j < 998) ∧ ((cKd t j = 0 ∨ cKd t j = 3) → cKy t j < 998) := by decide +kernel
theorem cUa : ∀ t, t < 32 → 12 ≤ t → ((cAk t = 0 ∨ cAk t = 2) → 43 ≤ cAy t ∧ cAy t < 57) ∧ (cAk t = 1 → cAy t = 0 ∧ t = 15) := by decide +kernel
theorem cUbB : ((List.range 32).all fun t => (List.range 32).all fun t' => !(decide (12 ≤ t)) || !(decide (12 ≤ t')) || !(cAk t == 0 || cAk t == 2) || !(cAk t' == 0 || cAk t' == 2) || !(cAy t == cAy t') || (t == t')) = true := by decide +kernel
theorem cUb (t : Nat) (ht : t < 32) (h12 : 12 ≤ t) (t' : Nat) (ht' : t' < 32) (h12' : 12 ≤ t') (hk : cAk t = 0 ∨ cAk t = 2) (hk' : cAk t' = 0 ∨ cAk t' = 2) (h : cAy t = cAy t') : t = t' := by
  have h1 := List.all_eq_true.mp (List.all_eq_true.mp cUbB t (List.mem_range.mpr ht)) t' (List.mem_range.mpr ht')
  simp [h, h12, h12'] at h1
  omega
/-- a field of a row is written -/
theorem cV_g {t j i : Nat} {x : Int32} (ht : t < 12) (hj : j < cNf t) (hk : cKd t j = 1 ∨ cKd t j = 4) {t' j' i' : Nat} (ht' : t' < 12) (hj' : j' < cNf t') (hne : ¬ (t' = t ∧ j' = j ∧ i' = i)) : cV ad a2 sg (va_up gm (cKy t j) (upd (gm (cKy t j)) i x)) lg t' j' i' = cV ad a2 sg gm lg t' j' i' := by
  have k42 := (cUk t ht j (by have := cNf21 t (by omega); omega)).1 hk
  have e42 : va_up gm (cKy t j) (upd (gm (cKy t j)) i x) 42 = gm 42 := va_up_ne _ _ (by omega)
  have key : (cKd t' j' = 1 ∨ cKd t' j' = 4) → va_up gm (cKy t j) (upd (gm (cKy t j)) i x) (cKy t' j') i' = gm (cKy t' j') i' := fun h => by
    by_cases q : cKy t' j' = cKy t j
    · have := cUn ht hj ht' hj' q.symm ((cKc_1 hk).trans (cKc_1 h).symm) (by rw [cKc_1 hk]; decide)
      obtain ⟨rfl, rfl⟩ := this
      rw [va_up_self]
      exact upd_ne (fun z => hne ⟨rfl, rfl, z⟩)
    · rw [va_up_ne _ _ q]
  unfold cV
  rw [e42]
  by_cases h1 : cKd t' j' = 1
  · rw [key (Or.inl h1)]
  · by_cases h4 : cKd t' j' = 4
    · rw [key (Or.inr h4)]
    · simp only [h1, h4, if_false]
theorem cAi_k {t i : Nat} {k : Nat} {f : Nat → Int32} (ht : t < 32) (h12 : 12 ≤ t) (hk : k < 43) (h0 : cAk t = 0) (j : Nat) : cAi (va_up gm k f) t i j = cAi gm t i j := by
  have := ((cUa t ht h12).1 (Or.inl h0)).1
  unfold cAi
  rw [va_up_ne gm f (by omega)]
theorem cAr_k {t i : Nat} {k : Nat} {f : Nat → Int32} (ht : t < 32) (h12 : 12 ≤ t) (hk : k < 43 ∨ k = 57) (j : Nat) : cAr ad (va_up gm k f) t i j = cAr ad gm t i j := by
  unfold cAr
  by_cases h2 : cAk t = 2
  · have := (cUa t ht h12).1 (Or.inr h2)
    rw [va_up_ne gm f (by omega)]
  · rw [if_neg h2, if_neg h2]
theorem cE_g {t j i : Nat} {x : Int32} (ht : t < 12) (hj : j < cNf t) (hk : cKd t j = 1 ∨ cKd t j = 4) {t' i' : Nat} (ht' : t' < 32) (hne : ¬ (t' = t ∧ i' = i)) : cE ad cid a2 sg (va_up gm (cKy t j) (upd (gm (cKy t j)) i x)) lg t' i' = cE ad cid a2 sg gm lg t' i' := by
  have n1 := cNf21 t (by omega)
  have k42 := (cUk t ht j (by omega)).1 hk
  refine cE_eq (fun j' hj' => ?_) (fun h h0 j' => cAi_k ht' h (by omega) h0 j') (fun _ _ => rfl) (fun h j' => cAr_k ht' h (Or.inl (by omega)) j')
  have n2 := cNf21 t' ht'
  have h12 : t' < 12 := Decidable.byContradiction (fun z => by have := cNf0 t' ht' (by omega); omega)
  exact cV_g ht (by omega) hk h12 (by omega) (fun z => hne ⟨z.1, z.2.2⟩)
theorem cD_k {k : Nat} {f : Nat → Int32} (h1 : k ≠ 42) (h2 : k ≠ 57) (q : Nat) : cD ad cid (va_up gm k f) q = cD ad cid gm q := by
  unfold cD
  have : cDr ad (va_up gm k f) q = cDr ad gm q := funext fun j => by unfold cDr; rw [va_up_ne gm f (Ne.symm h2)]
  rw [this, va_up_ne gm f (Ne.symm h1)]
theorem cW_g {p9 t j i : Nat} {x : Int32} (h : cPL[p9]? = some (t, i)) (ht : t < 12) (hj : j < cNf t) (hk : cKd t j = 1 ∨ cKd t j = 4) : (cW ad cid a2 lx sg gm lg).set p9 (ad t i, .inr (cIx t, (cFs ad a2 sg gm lg t i).set j (cV ad a2 sg (va_up gm (cKy t j) (upd (gm (cKy t j)) i x)) lg t j i))) = cW ad cid a2 lx sg (va_up gm (cKy t j) (upd (gm (cKy t j)) i x)) lg := by
  have n1 := cNf21 t (by omega)
  have k42 := (cUk t ht j (by omega)).1 hk
  rw [cFs_set hj (fun j' hj' hn => cV_g ht (by omega) hk ht (by omega) (fun z => hn z.2.1)), ← cE_o (cid := cid) ht]
  exact cW_set h (fun t' i' h1 _ hn => cE_g ht hj hk h1 hn) (cD_k (by omega) (by omega))
/-- a field of a single object is written -/
theorem cV_s {t j : Nat} {x : Int32} (ht : t < 12) (hj : j < cNf t) (hk : cKd t j = 0 ∨ cKd t j = 3) {t' j' i' : Nat} (ht' : t' < 12) (hj' : j' < cNf t') (hne : ¬ (t' = t ∧ j' = j)) : cV ad a2 (va_up sg (cKy t j) x) gm lg t' j' i' = cV ad a2 sg gm lg t' j' i' := by
  have key : (cKd t' j' = 0 ∨ cKd t' j' = 3) → va_up sg (cKy t j) x (cKy t' j') = sg (cKy t' j') := fun h => by
    by_cases q : cKy t' j' = cKy t j
    · exact absurd (cUn ht hj ht' hj' q.symm ((cKc_2 hk).trans (cKc_2 h).symm) (by rw [cKc_2 hk]; decide)) (fun z => hne ⟨z.1.symm, z.2.symm⟩)
    · rw [va_up_ne _ _ q]
  unfold cV
  by_cases h1 : cKd t' j' = 0
  · rw [key (Or.inl h1)]
  · by_cases h4 : cKd t' j' = 3
    · rw [key (Or.inr h4)]
    · simp only [h1, h4, if_false]
theorem cW_s {p9 t j i : Nat} {x : Int32} (h : cPL[p9]? = some (t, i)) (ht : t < 12) (hj : j < cNf t) (hk : cKd t j = 0 ∨ cKd t j = 3) (hn1 : cNum t = 1) : (cW ad cid a2 lx sg gm lg).set p9 (ad t i, .inr (cIx t, (cFs ad a2 sg gm lg t i).set j (cV ad a2 (va_up sg (cKy t j) x) gm lg t j i))) = cW ad cid a2 lx (va_up sg (cKy t j) x) gm lg := by
  have n1 := cNf21 t (by omega)
  have b := cPL_in h
  rw [cFs_set hj (fun j' hj' hn => cV_s ht (by omega) hk ht (by omega) (fun z => hn z.2)), ← cE_o (cid := cid) ht]
  refine cW_set h (fun t' i' h1 h2 hn => cE_eq (fun j' hj' => ?_) (fun _ _ _ => rfl) (fun _ _ => rfl) (fun _ _ => rfl)) (fun _ => rfl)
  have n2 := cNf21 t' h1
  have h12 : t' < 12 := Decidable.byContradiction (fun z => by have := cNf0 t' h1 (by omega); omega)
  refine cV_s ht (by omega) hk h12 (by omega) (fun z => hn ⟨z.1, ?_⟩)
  have b2 := b.2
  have : i < 1 := by rw [← hn1]; exact b2
  have : i' < 1 := by rw [← hn1, ← z.1]; exact h2
  omega
/-- a long field is written -/
theorem cV_l {t j i : Nat} {x : Int64} (ht : t < 12) (hj : j < cNf t) (hk : cKd t j = 2) {t' j' i' : Nat} (ht' : t' < 12) (hj' : j' < cNf t') (hne : ¬ (t' = t ∧ j' = j ∧ i' = i)) : cV ad a2 sg gm (va_up lg (cKy t j) (vp_updL (lg (cKy t j)) i x)) t' j' i' = cV ad a2 sg gm lg t' j' i' := by
  unfold cV
  by_cases h1 : cKd t' j' = 2
  · have : va_up lg (cKy t j) (vp_updL (lg (cKy t j)) i x) (cKy t' j') i' = lg (cKy t' j') i' := by
      by_cases q : cKy t' j' = cKy t j
      · obtain ⟨rfl, rfl⟩ := cUn ht hj ht' hj' q.symm ((cKc_3 hk).trans (cKc_3 h1).symm) (by rw [cKc_3 hk]; decide)
        rw [va_up_self]
        exact pk_uLn (fun z => hne ⟨rfl, rfl, z⟩)
      · rw [va_up_ne _ _ q]
    rw [this]
  · simp only [h1, if_false]
theorem cW_l {p9 t j i : Nat} {x : Int64} (h : cPL[p9]? = some (t, i)) (ht : t < 12) (hj : j < cNf t) (hk : cKd t j = 2) : (cW ad cid a2 lx sg gm lg).set p9 (ad t i, .inr (cIx t, (cFs ad a2 sg gm lg t i).set j (cV ad a2 sg gm (va_up lg (cKy t j) (vp_updL (lg (cKy t j)) i x)) t j i))) = cW ad cid a2 lx sg gm (va_up lg (cKy t j) (vp_updL (lg (cKy t j)) i x)) := by
  have n1 := cNf21 t (by omega)
  have k1 := (cUk t ht j (by omega)).2.1 hk
  rw [cFs_set hj (fun j' hj' hn => cV_l ht (by omega) hk ht (by omega) (fun z => hn z.2.1)), ← cE_o (cid := cid) ht]
  refine cW_set h (fun t' i' h1 _ hn => cE_eq (fun j' hj' => ?_) (fun _ _ _ => rfl) (fun h12 h9 => ?_) (fun _ _ => rfl)) (fun _ => rfl)
  · have n2 := cNf21 t' h1
    have h12 : t' < 12 := Decidable.byContradiction (fun z => by have := cNf0 t' h1 (by omega); omega)
    exact cV_l ht (by omega) hk h12 (by omega) (fun z => hn ⟨z.1, z.2.2⟩)
  · have := ((cUa t' h1 h12).2 h9).1
    rw [va_up_ne _ _ (by omega)]
/-- a place of an array of numbers is written -/
theorem cAi_st {t i n : Nat} {x : Int32} (ht : t < 32) (h12 : 12 ≤ t) (h0 : cAk t = 0) (hw : cAw t = 0 ∨ n < cAw t) : cAi (va_up gm (cAy t) (upd (gm (cAy t)) (cAw t * i + n) x)) t i = upd (cAi gm t i) n x := by
  funext j
  show _ = (if j = n then x else _)
  unfold cAi
  rw [va_up_self]
  by_cases h1 : cAw t = 0
  · rw [if_pos h1, if_pos h1, h1, Nat.zero_mul, Nat.zero_add]
    rfl
  · rw [if_neg h1, if_neg h1]
    have hn := hw.resolve_left h1
    by_cases h2 : j = n
    · subst h2; rw [if_pos hn, if_pos rfl, upd_at]
    · rw [if_neg h2]
      by_cases h3 : j < cAw t
      · rw [if_pos h3, if_pos h3, upd_ne (by omega)]
      · rw [if_neg h3, if_neg h3]
theorem cW_a {p9 t i n : Nat} {x : Int32} (h : cPL[p9]? = some (t, i)) (h12 : 12 ≤ t) (h0 : cAk t = 0) (hw : cAw t = 0 ∨ n < cAw t) : (cW ad cid a2 lx sg gm lg).set p9 (ad t i, .inl (cid t, cLen t, .inl (upd (cAi gm t i) n x))) = cW ad cid a2 lx sg (va_up gm (cAy t) (upd (gm (cAy t)) (cAw t * i + n) x)) lg := by
  have ht := (cPL_in h).1
  have hi9 := (cPL_in h).2
  have ka := (cUa t ht h12).1 (Or.inl h0)
  rw [← cAi_st ht h12 h0 hw]
  have e1 : (Sum.inl (cid t, cLen t, Sum.inl (cAi (va_up gm (cAy t) (upd (gm (cAy t)) (cAw t * i + n) x)) t i)) : va_E) = cE ad cid a2 sg (va_up gm (cAy t) (upd (gm (cAy t)) (cAw t * i + n) x)) lg t i := by
    unfold cE; rw [if_neg (by omega), if_pos h0]
  rw [e1]
  refine cW_set h (fun t' i' h1 h2 hn => cE_eq (fun j' hj' => ?_) (fun g12 g0 j' => ?_) (fun _ _ => rfl) (fun g12 j' => ?_)) (cD_k (by omega) (by omega))
  · have n2 := cNf21 t' h1
    have g12 : t' < 12 := Decidable.byContradiction (fun z => by have := cNf0 t' h1 (by omega); omega)
    have key : (cKd t' j' = 1 ∨ cKd t' j' = 4) → va_up gm (cAy t) (upd (gm (cAy t)) (cAw t * i + n) x) (cKy t' j') = gm (cKy t' j') := fun q => by
      have := (cUk t' g12 j' (by omega)).1 q
      exact va_up_ne _ _ (by omega)
    have e42 : va_up gm (cAy t) (upd (gm (cAy t)) (cAw t * i + n) x) 42 = gm 42 := va_up_ne _ _ (by omega)
    unfold cV
    rw [e42]
    by_cases q1 : cKd t' j' = 1
    · rw [key (Or.inl q1)]
    · by_cases q4 : cKd t' j' = 4
      · rw [key (Or.inr q4)]
      · simp only [q1, q4, if_false]
  · unfold cAi
    by_cases q : cAy t' = cAy t
    · have e := cUb t' h1 g12 t ht h12 (Or.inl g0) (Or.inl h0) q
      subst e
      rw [va_up_self]
      have hii : i' ≠ i := fun z => hn ⟨rfl, z⟩
      by_cases q2 : cAw t' = 0
      · have c1 := cAw1 t' h1 g12 q2 g0
        rw [c1] at h2
        have h3 : i < 1 := by rw [← c1]; exact hi9
        omega
      · rw [if_neg q2, if_neg q2]
        by_cases q3 : j' < cAw t'
        · rw [if_pos q3, if_pos q3, upd_ne ?_]
          have hn2 := hw.resolve_left q2
          intro z
          rcases Nat.lt_or_gt_of_ne hii with g | g
          · have := Nat.mul_le_mul_left (cAw t') (show i' + 1 ≤ i from g)
            rw [Nat.mul_add, Nat.mul_one] at this
            omega
          · have := Nat.mul_le_mul_left (cAw t') (show i + 1 ≤ i' from g)
            rw [Nat.mul_add, Nat.mul_one] at this
            omega
        · rw [if_neg q3, if_neg q3]
    · rw [va_up_ne _ _ q]
  · unfold cAr
    by_cases q2 : cAk t' = 2
    · have : cAy t' ≠ cAy t := fun q => by
        have e := cUb t' h1 g12 t ht h12 (Or.inr q2) (Or.inl h0) q
        rw [e, h0] at q2
        exact absurd q2 (by decide)
      rw [va_up_ne _ _ this]
    · rw [if_neg q2, if_neg q2]
theorem cW_al {p9 n : Nat} {x : Int64} (h : cPL[p9]? = some (15, 0)) : (cW ad cid a2 lx sg gm lg).set p9 (ad 15 0, .inl (cid 15, cLen 15, .inr (.inl (vp_updL (lg 0) n x)))) = cW ad cid a2 lx sg gm (va_up lg 0 (vp_updL (lg 0) n x)) := by
  have e1 : (Sum.inl (cid 15, cLen 15, Sum.inr (Sum.inl (vp_updL (lg 0) n x))) : va_E) = cE ad cid a2 sg gm (va_up lg 0 (vp_updL (lg 0) n x)) 15 0 := by
    unfold cE; rw [if_neg (by decide), if_neg (by decide), if_pos (by decide), show cAy 15 = 0 from rfl, va_up_self]
  rw [e1]
  refine cW_set h (fun t' i' h1 h2 hn => cE_eq (fun j' hj' => ?_) (fun _ _ _ => rfl) (fun g12 g1 => ?_) (fun _ _ => rfl)) (fun _ => rfl)
  · have n2 := cNf21 t' h1
    have g12 : t' < 12 := Decidable.byContradiction (fun z => by have := cNf0 t' h1 (by omega); omega)
    unfold cV
    by_cases q1 : cKd t' j' = 2
    · have := ((cUk t' g12 j' (by omega)).2.1 q1).1
      rw [va_up_ne lg _ (by omega)]
    · simp only [q1, if_false]
  · have e := ((cUa t' h1 g12).2 g1).2
    subst e
    have h3 : i' < 1 := h2
    exact absurd ⟨rfl, by omega⟩ hn
/-- a place of an array of references is written -/
theorem cAr_st {t i n : Nat} {x : Int32} (h2 : cAk t = 2) : cAr ad (va_up gm (cAy t) (upd (gm (cAy t)) n x)) t i = va_up (cAr ad gm t i) n (er (ad (cAt t)) x) := by
  funext j
  by_cases hj : j = n
  · subst hj
    rw [va_up_self]
    unfold cAr
    rw [if_pos h2, va_up_self, upd_at]
  · rw [va_up_ne _ _ hj]
    unfold cAr
    rw [if_pos h2, if_pos h2, va_up_self, upd_ne hj]
theorem cUr : ∀ t, t < 32 → 12 ≤ t → cAk t = 2 → cNum t = 1 := by decide +kernel
theorem cW_r {p9 t i n : Nat} {x : Int32} (h : cPL[p9]? = some (t, i)) (h12 : 12 ≤ t) (h2 : cAk t = 2) : (cW ad cid a2 lx sg gm lg).set p9 (ad t i, .inl (cid t, cLen t, .inr (.inr (.inr (.inr (va_up (cAr ad gm t i) n (er (ad (cAt t)) x))))))) = cW ad cid a2 lx sg (va_up gm (cAy t) (upd (gm (cAy t)) n x)) lg := by
  have ht := (cPL_in h).1
  have hi9 := (cPL_in h).2
  have ka := (cUa t ht h12).1 (Or.inr h2)
  rw [← cAr_st h2]
  have e1 : (Sum.inl (cid t, cLen t, Sum.inr (Sum.inr (Sum.inr (Sum.inr (cAr ad (va_up gm (cAy t) (upd (gm (cAy t)) n x)) t i))))) : va_E) = cE ad cid a2 sg (va_up gm (cAy t) (upd (gm (cAy t)) n x)) lg t i := by
    unfold cE; rw [if_neg (by omega), if_neg (by omega), if_neg (by omega)]
  rw [e1]
  refine cW_set h (fun t' i' h1 g2 hn => cE_eq (fun j' hj' => ?_) (fun g12 g0 j' => ?_) (fun _ _ => rfl) (fun g12 j' => ?_)) (cD_k (by omega) (by omega))
  · have n2 := cNf21 t' h1
    have g12 : t' < 12 := Decidable.byContradiction (fun z => by have := cNf0 t' h1 (by omega); omega)
    have key : (cKd t' j' = 1 ∨ cKd t' j' = 4) → va_up gm (cAy t) (upd (gm (cAy t)) n x) (cKy t' j') = gm (cKy t' j') := fun q => by
      have := (cUk t' g12 j' (by omega)).1 q
      exact va_up_ne _ _ (by omega)
    have e42 : va_up gm (cAy t) (upd (gm (cAy t)) n x) 42 = gm 42 := va_up_ne _ _ (by omega)
    unfold cV
    rw [e42]
    by_cases q1 : cKd t' j' = 1
    · rw [key (Or.inl q1)]
    · by_cases q4 : cKd t' j' = 4
      · rw [key (Or.inr q4)]
      · simp only [q1, q4, if_false]
  · unfold cAi
    have : cAy t' ≠ cAy t := fun q => by
      have e := cUb t' h1 g12 t ht h12 (Or.inl g0) (Or.inr h2) q
      rw [e, h2] at g0
      exact absurd g0 (by decide)
    rw [va_up_ne _ _ this]
  · unfold cAr
    by_cases q2 : cAk t' = 2
    · have : cAy t' ≠ cAy t := fun q => by
        have e := cUb t' h1 g12 t ht h12 (Or.inr q2) (Or.inr h2) q
        subst e
        have c1 := cUr t' h1 g12 q2
        rw [c1] at g2 hi9
        exact hn ⟨rfl, by omega⟩
      rw [va_up_ne _ _ this]
    · rw [if_neg q2, if_neg q2]
end CR
end
section
/-- all slots of a heap -/
def hz (H : Heap) : Nat := (H.toList.map (·.slots.size)).sum
/-- no more than k new cells and n new slots -/
def NBw (H0 H : Heap) (k n : Nat) : Prop := H.size ≤ H0.size + k ∧ hz H ≤ hz H0 + n
theorem NBw_tr {H0 H1 H2 : Heap} {k1 n1 k2 n2 : Nat} (h1 : NBw H0 H1 k1 n1) (h2 : NBw H1 H2 k2 n2) : NBw H0 H2 (k1 + k2) (n1 + n2) := ⟨by have := h1.1; have := h2.1; omega, by have := h1.2; have := h2.2; omega⟩
theorem NBw_00 {H0 H1 H2 : Heap} (h1 : NBw H0 H1 0 0) (h2 : NBw H1 H2 0 0) : NBw H0 H2 0 0 := NBw_tr h1 h2
theorem hz_new {s T : State} {locs : List Loc} {k n : Nat} (h : s.sameButNew T locs k n) : hz T.heap = hz s.heap + ((T.heap.toList.drop s.heap.size).map (·.slots.size)).sum := by
  obtain ⟨-, h1, -, -, -, h5⟩ := h
  unfold hz
  have e1 : T.heap.toList = T.heap.toList.take s.heap.size ++ T.heap.toList.drop s.heap.size := (List.take_append_drop _ _).symm
  have e2 : (T.heap.toList.take s.heap.size).map (·.slots.size) = s.heap.toList.map (·.slots.size) := by
    apply List.ext_getElem?
    intro i
    rw [List.getElem?_map, List.getElem?_map]
    by_cases hi : i < s.heap.size
    · have g1 : s.heap[i]? = some s.heap[i] := Array.getElem?_eq_getElem hi
      obtain ⟨c', g2, -, g3, -⟩ := h5 i _ g1
      rw [List.getElem?_take_of_lt hi, Array.getElem?_toList, Array.getElem?_toList, g1, g2]
      exact congrArg some g3
    · rw [List.getElem?_eq_none (by rw [List.length_take, Array.length_toList]; omega), List.getElem?_eq_none (by rw [Array.length_toList]; omega)]
  rw [e1, List.map_append, List.sum_append, e2, ← e1]
section NBW
variable {p : Program} {l : Launch} {e : Env} {R : Room} {s : State} {m : MethodId} {args : Array Value} {below : List Frame} {meth : Method} {c : Code} {H : Heap} {locs : List Loc} {cells slots : Nat} {Q : State → Prop} {g : JFrame}
theorem W.nb (kk : NBw s.heap H cells slots → W p l e R s m args below meth c H locs cells slots Q g) : W p l e R s m args below meth c H locs cells slots Q g := by
  intro T hT X
  refine kk ?_ T hT X
  have h := X.same
  have h2 := hz_new h
  obtain ⟨-, h3, h4, -, h5, -⟩ := h
  have e1 : (T.setVm s.vm).heap = H := hT
  rw [e1] at h2 h4 h5
  exact ⟨h4, by omega⟩
theorem NBw_same {s T : State} {locs : List Loc} {k n k2 n2 : Nat} (h : s.sameButNew T locs k n) (hb : NBw s.heap T.heap k2 n2) : s.sameButNew T locs k2 n2 := by
  have h2 := hz_new h
  obtain ⟨a1, a2, a3, a4, a5, a6⟩ := h
  exact ⟨a1, a2, hb.1, a4, by have := hb.2; omega, a6⟩
theorem W.narrow {k n : Nat} (hb : NBw s.heap H k n) (kk : W p l e R s m args below meth c H locs k n Q g) : W p l e R s m args below meth c H locs cells slots Q g := by
  intro T hT X
  have e1 : (T.setVm s.vm).heap = H := hT
  exact kk T hT { X with same := NBw_same X.same (by rw [e1]; exact hb) }
end NBW
section ER
variable {p : Program} {l : Launch} {e : Env} {R : Room} {s : State} {m : MethodId} {args : Array Value} {below : List Frame} {meth : Method} {c : Code} {H : Heap} {locs : List Loc} {cells slots : Nat} {Q : State → Prop} {cc : ByteArray} {pc : Nat} {ls : Array Slot} {rest : List Value}
theorem ec_aload_n {a : Nat → Nat} {x : Int32} (hexec : p.tables.exec = Jvm.exec) (hb : c.code = cc) {k : Fin 4} {i : Nat} (hdg : decode cc pc = .ok (.aload_n k, 1)) (hi : (k : Nat) = i) (hl : ls[i]? = some (.val (eV a x)))
    (kk : W p l e R s m args below meth c H locs cells slots Q (F0 m (pc + 1) ls (eV a x :: rest))) : W p l e R s m args below meth c H locs cells slots Q (F0 m pc ls rest) := by
  have hv := eV_is a x
  generalize eV a x = v at *
  rcases hv with rfl | ⟨q, rfl⟩
  · exact lv_aload_nN hexec hb hdg hi hl kk
  · exact lv_aload_n hexec hb hdg hi hl kk
theorem ec_aload {a : Nat → Nat} {x : Int32} (hexec : p.tables.exec = Jvm.exec) (hb : c.code = cc) {i : Nat} (hdg : decode cc pc = .ok (.aload i, 2)) (hl : ls[i]? = some (.val (eV a x)))
    (kk : W p l e R s m args below meth c H locs cells slots Q (F0 m (pc + 2) ls (eV a x :: rest))) : W p l e R s m args below meth c H locs cells slots Q (F0 m pc ls rest) := by
  have hv := eV_is a x
  generalize eV a x = v at *
  rcases hv with rfl | ⟨q, rfl⟩
  · exact lv_aloadN hexec hb hdg hl kk
  · exact lv_aload hexec hb hdg hl kk
theorem ec_astore_n {a : Nat → Nat} {x : Int32} (hexec : p.tables.exec = Jvm.exec) (hb : c.code = cc) {k : Fin 4} {i nL : Nat} {lv lv' : List (Nat × Value)} (hdg : decode cc pc = .ok (.astore_n k, 1)) (hi : (k : Nat) = i) (h : lv_has ls nL lv) (hn : i < nL) (hl : (i, eV a x) :: lv.filter (fun q => !(q.1 == i) && !(q.1 + 1 == i && q.2.category == 2)) = lv')
    (kk : ∀ ls' : Array Slot, lv_has ls' nL lv' → W p l e R s m args below meth c H locs cells slots Q (F0 m (pc + 1) ls' rest)) : W p l e R s m args below meth c H locs cells slots Q (F0 m pc ls (eV a x :: rest)) := by
  have hv := eV_is a x
  subst hl
  generalize eV a x = v at *
  rcases hv with rfl | ⟨q, rfl⟩
  · exact lv_astore_nN hexec hb hdg hi h hn rfl kk
  · exact lv_astore_n hexec hb hdg hi h hn rfl kk
theorem ec_astore {a : Nat → Nat} {x : Int32} (hexec : p.tables.exec = Jvm.exec) (hb : c.code = cc) {i nL : Nat} {lv lv' : List (Nat × Value)} (hdg : decode cc pc = .ok (.astore i, 2)) (h : lv_has ls nL lv) (hn : i < nL) (hl : (i, eV a x) :: lv.filter (fun q => !(q.1 == i) && !(q.1 + 1 == i && q.2.category == 2)) = lv')
    (kk : ∀ ls' : Array Slot, lv_has ls' nL lv' → W p l e R s m args below meth c H locs cells slots Q (F0 m (pc + 2) ls' rest)) : W p l e R s m args below meth c H locs cells slots Q (F0 m pc ls (eV a x :: rest)) := by
  have hv := eV_is a x
  subst hl
  generalize eV a x = v at *
  rcases hv with rfl | ⟨q, rfl⟩
  · exact lv_astoreN hexec hb hdg h hn rfl kk
  · exact lv_astore hexec hb hdg h hn rfl kk
theorem ec_null {a : Nat → Nat} (hexec : p.tables.exec = Jvm.exec) (hb : c.code = cc) (hdg : decode cc pc = .ok (.aconst_null, 1)) (kk : W p l e R s m args below meth c H locs cells slots Q (F0 m (pc + 1) ls (eV a (-1) :: rest))) : W p l e R s m args below meth c H locs cells slots Q (F0 m pc ls rest) := by
  rw [eV_null (by decide)] at kk
  exact lv_null hexec hb hdg kk
theorem ec_ifnull {a : Nat → Nat} {x : Int32} (hexec : p.tables.exec = Jvm.exec) (hb : c.code = cc) {off : Int} {tgt : Nat} (hdg : decode cc pc = .ok (.ifnull off, 3)) (ht : (pc : Int) + off = (tgt : Int)) (kt : x.toInt < 0 → W p l e R s m args below meth c H locs cells slots Q (F0 m tgt ls rest)) (kf : 0 ≤ x.toInt → W p l e R s m args below meth c H locs cells slots Q (F0 m (pc + 3) ls rest)) : W p l e R s m args below meth c H locs cells slots Q (F0 m pc ls (eV a x :: rest)) := by
  by_cases h : x.toInt < 0
  · rw [eV_null h]; exact lv_ifnullN hexec hb hdg ht (kt h)
  · rw [eV_ref (by omega)]; exact lv_ifnull hexec hb hdg (kf (by omega))
theorem ec_ifnonnull {a : Nat → Nat} {x : Int32} (hexec : p.tables.exec = Jvm.exec) (hb : c.code = cc) {off : Int} {tgt : Nat} (hdg : decode cc pc = .ok (.ifnonnull off, 3)) (ht : (pc : Int) + off = (tgt : Int)) (kt : 0 ≤ x.toInt → W p l e R s m args below meth c H locs cells slots Q (F0 m tgt ls rest)) (kf : x.toInt < 0 → W p l e R s m args below meth c H locs cells slots Q (F0 m (pc + 3) ls rest)) : W p l e R s m args below meth c H locs cells slots Q (F0 m pc ls (eV a x :: rest)) := by
  by_cases h : x.toInt < 0
  · rw [eV_null h]; exact lv_ifnonnullN hexec hb hdg (kf h)
  · rw [eV_ref (by omega)]; exact lv_ifnonnull hexec hb hdg ht (kt (by omega))
theorem ec_acmp_eq {a b : Nat → Nat} {x y : Int32} (hexec : p.tables.exec = Jvm.exec) (hb : c.code = cc) {off : Int} {tgt : Nat} (hdg : decode cc pc = .ok (.if_acmp .eq off, 3)) (ht : (pc : Int) + off = (tgt : Int))
    (kt : er a x = er b y → W p l e R s m args below meth c H locs cells slots Q (F0 m tgt ls rest)) (kf : ¬ er a x = er b y → W p l e R s m args below meth c H locs cells slots Q (F0 m (pc + 3) ls rest)) : W p l e R s m args below meth c H locs cells slots Q (F0 m pc ls (eV b y :: eV a x :: rest)) := lv_acmp_eq (rx := er a x) (ry := er b y) hexec hb hdg ht kt kf
theorem ec_acmp_ne {a b : Nat → Nat} {x y : Int32} (hexec : p.tables.exec = Jvm.exec) (hb : c.code = cc) {off : Int} {tgt : Nat} (hdg : decode cc pc = .ok (.if_acmp .ne off, 3)) (ht : (pc : Int) + off = (tgt : Int))
    (kt : ¬ er a x = er b y → W p l e R s m args below meth c H locs cells slots Q (F0 m tgt ls rest)) (kf : er a x = er b y → W p l e R s m args below meth c H locs cells slots Q (F0 m (pc + 3) ls rest)) : W p l e R s m args below meth c H locs cells slots Q (F0 m pc ls (eV b y :: eV a x :: rest)) := lv_acmp_ne (rx := er a x) (ry := er b y) hexec hb hdg ht kt kf
end ER
theorem cs_n : (([] : List Value).map fun v => v.category).sum ≤ 0 := Nat.le_refl 0
theorem cs_c {v : Value} {r : List Value} {k n : Nat} (h : v.category = k) (ht : (r.map fun v => v.category).sum ≤ n) : ((v :: r).map fun v => v.category).sum ≤ k + n := by
  rw [List.map_cons, List.sum_cons, h]; omega
theorem ev_n {a : Nat → Nat} {x : Int32} (C9 : String) : narrow (.object C9) (eV a x) = eV a x := by
  rcases eV_is a x with h | ⟨q, h⟩ <;> rw [h] <;> rfl
theorem ev_f {a : Nat → Nat} {x : Int32} (C9 : String) : fits (.object C9) (eV a x) = true := by
  rcases eV_is a x with h | ⟨q, h⟩ <;> rw [h] <;> rfl
theorem ev_na {a : Nat → Nat} {x : Int32} (t9 : FieldType) : narrow (.array t9) (eV a x) = eV a x := by
  rcases eV_is a x with h | ⟨q, h⟩ <;> rw [h] <;> rfl
theorem ev_fa {a : Nat → Nat} {x : Int32} (t9 : FieldType) : fits (.array t9) (eV a x) = true := by
  rcases eV_is a x with h | ⟨q, h⟩ <;> rw [h] <;> rfl
/-- every field and every place of the class keeps to its range -/
def CI (sg : Nat → Int32) (gm : Nat → Nat → Int32) : Prop := (∀ k, iv (csLo k) (csHi k) (sg k)) ∧ ∀ k i, i < crLen k → iv (caLo k) (caHi k) (gm k i)
theorem CI_s {sg : Nat → Int32} {gm : Nat → Nat → Int32} (h : CI sg gm) (k : Nat) : iv (csLo k) (csHi k) (sg k) := h.1 k
theorem CI_a {sg : Nat → Int32} {gm : Nat → Nat → Int32} {a b : Int} {x : Int32} (h : CI sg gm) (k : Nat) (hx : iv a b x) (q : 0 ≤ a ∧ b < (crLen k : Int)) : iv (caLo k) (caHi k) (gm k x.toNatClampNeg) := h.2 k _ (by
  have h1 := iv_cl hx q.1
  have h2 := hx.2
  have h3 := q.2
  omega)
theorem CI_n {sg : Nat → Int32} {gm : Nat → Nat → Int32} {n : Nat} (h : CI sg gm) (k : Nat) (q : n < crLen k) : iv (caLo k) (caHi k) (gm k n) := h.2 k n q
theorem CI_put {sg sg1 : Nat → Int32} {gm : Nat → Nat → Int32} {a b : Int} {x : Int32} {k : Nat} (h : CI sg gm) (q : sg1 = va_up sg k x) (hx : iv a b x) (hk : csLo k ≤ a ∧ b ≤ csHi k) : CI sg1 gm := ⟨fun j => by
  by_cases hj : j = k
  · subst hj; rw [up_at q]; exact iv_w hx hk
  · rw [up_ne q hj]; exact h.1 j, h.2⟩
theorem CI_st {sg : Nat → Int32} {gm gm1 : Nat → Nat → Int32} {a b : Int} {x : Int32} {k j : Nat} (h : CI sg gm) (q : gm1 = va_up gm k (upd (gm k) j x)) (hx : iv a b x) (hk : caLo k ≤ a ∧ b ≤ caHi k) : CI sg gm1 := ⟨h.1, fun i n hn => by
  by_cases hj : i = k
  · subst hj
    rw [up_at q]
    show iv _ _ (if n = j then x else gm i n)
    by_cases e9 : n = j
    · rw [if_pos e9]; exact iv_w hx hk
    · rw [if_neg e9]; exact h.2 i n hn
  · rw [up_ne q hj]; exact h.2 i n hn⟩
section CRR
variable {p : Program} {l : Launch} {e : Env} {R : Room} {s : State} {m : MethodId} {args : Array Value} {below : List Frame} {meth : Method} {c : Code} {H : Heap} {locs : List Loc} {cells slots : Nat} {Q : State → Prop} {cc : ByteArray} {pc : Nat} {ls : Array Slot} {rest : List Value} {A : Nat → Prop} {H0 : Heap}
variable {dC : Nat → ClassId} {dI : Nat → Nat → Nat} {ad : Nat → Nat → Nat} {cid : Nat → ClassId} {a2 : Nat → Nat} {lx : List Nat} {sg : Nat → Int32} {gm : Nat → Nat → Int32} {lg : Nat → Nat → Int64} {Ts : List Cond} {own : String} {index : Nat}
theorem cnx {t : Nat} {h : Int} {x : Int32} (hx : iv 0 h x) (hn : h < (cNum t : Int)) : x.toNatClampNeg < cNum t := by
  have h1 := iv_cl hx (by decide)
  have h2 := hx.2
  omega
theorem cr_get {t j : Nat} {h : Int} {x : Int32} {C : String} {T : u_T} {N : Nat} (hexec : p.tables.exec = Jvm.exec) (hb : c.code = cc) (hts : ∀ w ∈ Ts, w.before args s = true) (hin : ∀ w ∈ u_ws C T N, w ∈ Ts) (hown : s.vm.findClass own = some m.cls) (hK : va_K (dC, dI) vwCl (cT cid) s) (hP : va_P (dC, dI) vwCl (cW ad cid a2 lx sg gm lg) H) (hx : iv 0 h x) (hn : h < (cNum t : Int)) (ht : t < 12) (hj : j < cNf t) (hc : vwCl[cIx t]? = some (C, T, N)) (hjN : j < N) (hlink : (Cond.fieldLink own index (T j).1 (T j).2.1 (T j).2.2.1).before args s = true) {v : Value} (hv : cV ad a2 sg gm lg t j x.toNatClampNeg = v) (hdg : decode cc pc = .ok (.getfield index, 3))
    (kk : W p l e R s m args below meth c H locs cells slots Q (F0 m (pc + 3) ls (v :: rest))) : W p l e R s m args below meth c H locs cells slots Q (F0 m pc ls (eV (ad t) x :: rest)) := by
  obtain ⟨p9, hp⟩ := cPL_at (t := t) (by omega) (cnx hx hn)
  rw [eV_ref hx.1]
  exact va_get (D := (dC, dI)) (ci := cIx t) (C := C) (T := T) (N := N) hexec hb hts hin hown hK hP p9 (by rw [cW_at hp, cE_o ht]) hc j hjN hlink (fun _ h9 => h9) (by rw [cFs_get hj, hv]) hdg kk
theorem cr_putg {t j k : Nat} {h : Int} {x y : Int32} {C : String} {T : u_T} {N : Nat} {ty0 : Nat → FieldType} (hexec : p.tables.exec = Jvm.exec) (hb : c.code = cc) (hts : ∀ w ∈ Ts, w.before args s = true) (hin : ∀ w ∈ u_ws C T N, w ∈ Ts) (hty : ∀ k, k < N → parseFieldDescriptor (T k).2.2.1 = some (ty0 k)) (hnm : ∀ a, a < N → ∀ b, b < N → a ≠ b → (T a).2.1 ≠ (T b).2.1) (hown : s.vm.findClass own = some m.cls) (hK : va_K (dC, dI) vwCl (cT cid) s) (hP : va_P (dC, dI) vwCl (cW ad cid a2 lx sg gm lg) H) (hD : va_D A (cW ad cid a2 lx sg gm lg)) (hS : va_S A H0 H locs) (hx : iv 0 h x) (hn : h < (cNum t : Int)) (ht : t < 12) (hj : j < cNf t) (hk : cKd t j = 1 ∨ cKd t j = 4) (hky : cKy t j = k) (hc : vwCl[cIx t]? = some (C, T, N)) (hjN : j < N) (hlink : (Cond.fieldLink own index (T j).1 (T j).2.1 (T j).2.2.1).before args s = true) (hfin : (T j).2.2.2 = false) {v : Value} (hv : v = cV ad a2 sg (va_up gm k (upd (gm k) x.toNatClampNeg y)) lg t j x.toNatClampNeg) (hna : narrow (ty0 j) v = v) (hfit : fits (ty0 j) v = true) (hdg : decode cc pc = .ok (.putfield index, 3))
    (kk : ∀ (gm1 : Nat → Nat → Int32) (H1 : Heap) (locs1 : List Loc), gm1 = va_up gm k (upd (gm k) x.toNatClampNeg y) → va_P (dC, dI) vwCl (cW ad cid a2 lx sg gm1 lg) H1 → va_D A (cW ad cid a2 lx sg gm1 lg) → va_S A H0 H1 locs1 → W p l e R s m args below meth c H1 locs1 cells slots Q (F0 m (pc + 3) ls rest)) : W p l e R s m args below meth c H locs cells slots Q (F0 m pc ls (v :: eV (ad t) x :: rest)) := by
  subst hky
  obtain ⟨p9, hp⟩ := cPL_at (t := t) (by omega) (cnx hx hn)
  rw [eV_ref hx.1]
  refine va_put (D := (dC, dI)) (ci := cIx t) (v := v) (ty := ty0 j) (C := C) (T := T) (N := N) hexec hb hts hin ty0 hty hnm hown hK hP hD hS p9 (by rw [cW_at hp, cE_o ht]) hc j hjN hlink (fun _ h9 => h9) hfin (hty j hjN) hna hfit (by rw [cFs_len]; exact hj) hdg (fun H1 locs1 g1 g2 g3 => kk _ H1 locs1 rfl ?_ ?_ g3)
  · rw [hv, cW_g hp ht hj hk] at g1; exact g1
  · rw [hv, cW_g hp ht hj hk] at g2; exact g2
theorem cr_puts {t j k : Nat} {h : Int} {x y : Int32} {C : String} {T : u_T} {N : Nat} {ty0 : Nat → FieldType} (hexec : p.tables.exec = Jvm.exec) (hb : c.code = cc) (hts : ∀ w ∈ Ts, w.before args s = true) (hin : ∀ w ∈ u_ws C T N, w ∈ Ts) (hty : ∀ k, k < N → parseFieldDescriptor (T k).2.2.1 = some (ty0 k)) (hnm : ∀ a, a < N → ∀ b, b < N → a ≠ b → (T a).2.1 ≠ (T b).2.1) (hown : s.vm.findClass own = some m.cls) (hK : va_K (dC, dI) vwCl (cT cid) s) (hP : va_P (dC, dI) vwCl (cW ad cid a2 lx sg gm lg) H) (hD : va_D A (cW ad cid a2 lx sg gm lg)) (hS : va_S A H0 H locs) (hx : iv 0 h x) (hn : h < (cNum t : Int)) (ht : t < 12) (hj : j < cNf t) (hk : cKd t j = 0 ∨ cKd t j = 3) (hn1 : cNum t = 1) (hky : cKy t j = k) (hc : vwCl[cIx t]? = some (C, T, N)) (hjN : j < N) (hlink : (Cond.fieldLink own index (T j).1 (T j).2.1 (T j).2.2.1).before args s = true) (hfin : (T j).2.2.2 = false) {v : Value} (hv : v = cV ad a2 (va_up sg k y) gm lg t j x.toNatClampNeg) (hna : narrow (ty0 j) v = v) (hfit : fits (ty0 j) v = true) (hdg : decode cc pc = .ok (.putfield index, 3))
    (kk : ∀ (sg1 : Nat → Int32) (H1 : Heap) (locs1 : List Loc), sg1 = va_up sg k y → va_P (dC, dI) vwCl (cW ad cid a2 lx sg1 gm lg) H1 → va_D A (cW ad cid a2 lx sg1 gm lg) → va_S A H0 H1 locs1 → W p l e R s m args below meth c H1 locs1 cells slots Q (F0 m (pc + 3) ls rest)) : W p l e R s m args below meth c H locs cells slots Q (F0 m pc ls (v :: eV (ad t) x :: rest)) := by
  subst hky
  obtain ⟨p9, hp⟩ := cPL_at (t := t) (by omega) (cnx hx hn)
  rw [eV_ref hx.1]
  refine va_put (D := (dC, dI)) (ci := cIx t) (v := v) (ty := ty0 j) (C := C) (T := T) (N := N) hexec hb hts hin ty0 hty hnm hown hK hP hD hS p9 (by rw [cW_at hp, cE_o ht]) hc j hjN hlink (fun _ h9 => h9) hfin (hty j hjN) hna hfit (by rw [cFs_len]; exact hj) hdg (fun H1 locs1 g1 g2 g3 => kk _ H1 locs1 rfl ?_ ?_ g3)
  · rw [hv, cW_s hp ht hj hk hn1] at g1; exact g1
  · rw [hv, cW_s hp ht hj hk hn1] at g2; exact g2
theorem cr_putl {t j k : Nat} {h : Int} {x : Int32} {y : Int64} {C : String} {T : u_T} {N : Nat} {ty0 : Nat → FieldType} (hexec : p.tables.exec = Jvm.exec) (hb : c.code = cc) (hts : ∀ w ∈ Ts, w.before args s = true) (hin : ∀ w ∈ u_ws C T N, w ∈ Ts) (hty : ∀ k, k < N → parseFieldDescriptor (T k).2.2.1 = some (ty0 k)) (hnm : ∀ a, a < N → ∀ b, b < N → a ≠ b → (T a).2.1 ≠ (T b).2.1) (hown : s.vm.findClass own = some m.cls) (hK : va_K (dC, dI) vwCl (cT cid) s) (hP : va_P (dC, dI) vwCl (cW ad cid a2 lx sg gm lg) H) (hD : va_D A (cW ad cid a2 lx sg gm lg)) (hS : va_S A H0 H locs) (hx : iv 0 h x) (hn : h < (cNum t : Int)) (ht : t < 12) (hj : j < cNf t) (hk : cKd t j = 2) (hky : cKy t j = k) (hc : vwCl[cIx t]? = some (C, T, N)) (hjN : j < N) (hlink : (Cond.fieldLink own index (T j).1 (T j).2.1 (T j).2.2.1).before args s = true) (hfin : (T j).2.2.2 = false) (hv : Value.long y = cV ad a2 sg gm (va_up lg k (vp_updL (lg k) x.toNatClampNeg y)) t j x.toNatClampNeg) (hna : narrow (ty0 j) (.long y) = .long y) (hfit : fits (ty0 j) (.long y) = true) (hdg : decode cc pc = .ok (.putfield index, 3))
    (kk : ∀ (lg1 : Nat → Nat → Int64) (H1 : Heap) (locs1 : List Loc), lg1 = va_up lg k (vp_updL (lg k) x.toNatClampNeg y) → va_P (dC, dI) vwCl (cW ad cid a2 lx sg gm lg1) H1 → va_D A (cW ad cid a2 lx sg gm lg1) → va_S A H0 H1 locs1 → W p l e R s m args below meth c H1 locs1 cells slots Q (F0 m (pc + 3) ls rest)) : W p l e R s m args below meth c H locs cells slots Q (F0 m pc ls (.long y :: eV (ad t) x :: rest)) := by
  subst hky
  obtain ⟨p9, hp⟩ := cPL_at (t := t) (by omega) (cnx hx hn)
  rw [eV_ref hx.1]
  refine va_put (D := (dC, dI)) (ci := cIx t) (v := .long y) (ty := ty0 j) (C := C) (T := T) (N := N) hexec hb hts hin ty0 hty hnm hown hK hP hD hS p9 (by rw [cW_at hp, cE_o ht]) hc j hjN hlink (fun _ h9 => h9) hfin (hty j hjN) hna hfit (by rw [cFs_len]; exact hj) hdg (fun H1 locs1 g1 g2 g3 => kk _ H1 locs1 rfl ?_ ?_ g3)
  · rw [hv, cW_l hp ht hj hk] at g1; exact g1
  · rw [hv, cW_l hp ht hj hk] at g2; exact g2
theorem cE_ai {t i : Nat} (h12 : 12 ≤ t) (h0 : cAk t = 0) : cE ad cid a2 sg gm lg t i = .inl (cid t, cLen t, .inl (cAi gm t i)) := by unfold cE; rw [if_neg (by omega), if_pos h0]
theorem cE_ar {t i : Nat} (h12 : 12 ≤ t) (h0 : ¬ cAk t = 0) (h1 : ¬ cAk t = 1) : cE ad cid a2 sg gm lg t i = .inl (cid t, cLen t, .inr (.inr (.inr (.inr (cAr ad gm t i))))) := by unfold cE; rw [if_neg (by omega), if_neg h0, if_neg h1]
theorem cE_al : cE ad cid a2 sg gm lg 15 0 = .inl (cid 15, cLen 15, .inr (.inl (lg 0))) := rfl
theorem cr_iald {t : Nat} {h : Int} {x y z : Int32} (hexec : p.tables.exec = Jvm.exec) (hb : c.code = cc) (hK : va_K (dC, dI) vwCl (cT cid) s) (hP : va_P (dC, dI) vwCl (cW ad cid a2 lx sg gm lg) H) (hx : iv 0 h x) (hn : h < (cNum t : Int)) (h12 : 12 ≤ t) (h32 : t < 32) (h0 : cAk t = 0) (hty : cTy t = .int) (hin : vp_in y (cLen t)) (hz : cAi gm t x.toNatClampNeg y.toNatClampNeg = z) (hdg : decode cc pc = .ok (.iaload, 1))
    (kk : W p l e R s m args below meth c H locs cells slots Q (F0 m (pc + 1) ls (.int z :: rest))) : W p l e R s m args below meth c H locs cells slots Q (F0 m pc ls (.int y :: eV (ad t) x :: rest)) := by
  obtain ⟨p9, hp⟩ := cPL_at h32 (cnx hx hn)
  rw [eV_ref hx.1]
  exact va_iald (D := (dC, dI)) hexec hb hK hP p9 t (by rw [cW_at hp, cE_ai h12 h0]) (by rw [cT_at (by omega), hty]) hin hdg (by rw [hz]; exact kk)
theorem cr_cald {t : Nat} {h : Int} {x y z : Int32} (hexec : p.tables.exec = Jvm.exec) (hb : c.code = cc) (hK : va_K (dC, dI) vwCl (cT cid) s) (hP : va_P (dC, dI) vwCl (cW ad cid a2 lx sg gm lg) H) (hx : iv 0 h x) (hn : h < (cNum t : Int)) (h12 : 12 ≤ t) (h32 : t < 32) (h0 : cAk t = 0) (hty : cTy t = .char) (hin : vp_in y (cLen t)) (hz : cAi gm t x.toNatClampNeg y.toNatClampNeg = z) (hdg : decode cc pc = .ok (.caload, 1))
    (kk : W p l e R s m args below meth c H locs cells slots Q (F0 m (pc + 1) ls (.int z :: rest))) : W p l e R s m args below meth c H locs cells slots Q (F0 m pc ls (.int y :: eV (ad t) x :: rest)) := by
  obtain ⟨p9, hp⟩ := cPL_at h32 (cnx hx hn)
  rw [eV_ref hx.1]
  exact va_cald (D := (dC, dI)) hexec hb hK hP p9 t (by rw [cW_at hp, cE_ai h12 h0]) (by rw [cT_at (by omega), hty]) hin hdg (by rw [hz]; exact kk)
theorem cr_lald {x y : Int32} (hexec : p.tables.exec = Jvm.exec) (hb : c.code = cc) (hK : va_K (dC, dI) vwCl (cT cid) s) (hP : va_P (dC, dI) vwCl (cW ad cid a2 lx sg gm lg) H) (hx : iv 0 0 x) (hin : vp_in y 240) (hdg : decode cc pc = .ok (.laload, 1))
    (kk : W p l e R s m args below meth c H locs cells slots Q (F0 m (pc + 1) ls (.long (lg 0 y.toNatClampNeg) :: rest))) : W p l e R s m args below meth c H locs cells slots Q (F0 m pc ls (.int y :: eV (ad 15) x :: rest)) := by
  have e0 : x.toNatClampNeg = 0 := by have := iv_cl hx (by decide); have := hx.2; omega
  obtain ⟨p9, hp⟩ := cPL_at (t := 15) (i := 0) (by decide) (by decide)
  rw [eV_ref hx.1, e0]
  exact va_lald (D := (dC, dI)) (f := lg 0) hexec hb hK hP p9 15 (by rw [cW_at hp, cE_al]; rfl) (by rw [cT_at (by decide)]; rfl) hin hdg kk
theorem cr_aald {t : Nat} {h : Int} {x y : Int32} {v : Value} {C : String} (hexec : p.tables.exec = Jvm.exec) (hb : c.code = cc) (hK : va_K (dC, dI) vwCl (cT cid) s) (hP : va_P (dC, dI) vwCl (cW ad cid a2 lx sg gm lg) H) (hx : iv 0 h x) (hn : h < (cNum t : Int)) (h12 : 12 ≤ t) (h32 : t < 32) (h0 : ¬ cAk t = 0) (h1 : ¬ cAk t = 1) (hty : cTy t = .object C) (hin : vp_in y (cLen t)) (hz : va_rf (cAr ad gm t x.toNatClampNeg y.toNatClampNeg) = v) (hdg : decode cc pc = .ok (.aaload, 1))
    (kk : W p l e R s m args below meth c H locs cells slots Q (F0 m (pc + 1) ls (v :: rest))) : W p l e R s m args below meth c H locs cells slots Q (F0 m pc ls (.int y :: eV (ad t) x :: rest)) := by
  obtain ⟨p9, hp⟩ := cPL_at h32 (cnx hx hn)
  rw [eV_ref hx.1]
  exact va_aldq (D := (dC, dI)) hexec hb hK hP p9 t (by rw [cW_at hp, cE_ar h12 h0 h1]) (by rw [cT_at (by omega), hty]) hin hdg (by rw [hz]; exact kk)
theorem cr_alen {t : Nat} {h : Int} {x z : Int32} (hexec : p.tables.exec = Jvm.exec) (hb : c.code = cc) (hK : va_K (dC, dI) vwCl (cT cid) s) (hP : va_P (dC, dI) vwCl (cW ad cid a2 lx sg gm lg) H) (hx : iv 0 h x) (hn : h < (cNum t : Int)) (h12 : 12 ≤ t) (h32 : t < 32) (hz : Int32.ofNat (cLen t) = z) (hdg : decode cc pc = .ok (.arraylength, 1))
    (kk : W p l e R s m args below meth c H locs cells slots Q (F0 m (pc + 1) ls (.int z :: rest))) : W p l e R s m args below meth c H locs cells slots Q (F0 m pc ls (eV (ad t) x :: rest)) := by
  obtain ⟨p9, hp⟩ := cPL_at h32 (cnx hx hn)
  rw [eV_ref hx.1]
  have e1 : ∃ w9, cE ad cid a2 sg gm lg t x.toNatClampNeg = .inl (cid t, cLen t, w9) := by unfold cE; rw [if_neg (by omega)]; exact ⟨_, rfl⟩
  obtain ⟨w9, e1⟩ := e1
  exact va_alen (D := (dC, dI)) hexec hb hK hP p9 t (by rw [cW_at hp, e1]) (cT_at (by omega)) hz hdg kk
theorem cr_iast {t k n9 : Nat} {h : Int} {x y z : Int32} (hexec : p.tables.exec = Jvm.exec) (hb : c.code = cc) (hK : va_K (dC, dI) vwCl (cT cid) s) (hP : va_P (dC, dI) vwCl (cW ad cid a2 lx sg gm lg) H) (hD : va_D A (cW ad cid a2 lx sg gm lg)) (hS : va_S A H0 H locs) (hx : iv 0 h x) (hn : h < (cNum t : Int)) (h12 : 12 ≤ t) (h32 : t < 32) (h0 : cAk t = 0) (hk : cAy t = k) (hty : cTy t = .int) (hin : vp_in y (cLen t)) (hw : cAw t = 0 ∨ y.toNatClampNeg < cAw t) (hn9 : cAw t * x.toNatClampNeg + y.toNatClampNeg = n9) (hdg : decode cc pc = .ok (.iastore, 1))
    (kk : ∀ (gm1 : Nat → Nat → Int32) (H1 : Heap) (locs1 : List Loc), gm1 = va_up gm k (upd (gm k) n9 z) → va_P (dC, dI) vwCl (cW ad cid a2 lx sg gm1 lg) H1 → va_D A (cW ad cid a2 lx sg gm1 lg) → va_S A H0 H1 locs1 → W p l e R s m args below meth c H1 locs1 cells slots Q (F0 m (pc + 1) ls rest)) : W p l e R s m args below meth c H locs cells slots Q (F0 m pc ls (.int z :: .int y :: eV (ad t) x :: rest)) := by
  subst hk; subst hn9
  obtain ⟨p9, hp⟩ := cPL_at h32 (cnx hx hn)
  rw [eV_ref hx.1]
  refine va_iast (D := (dC, dI)) (f := cAi gm t x.toNatClampNeg) hexec hb hK hP hD hS p9 t (by rw [cW_at hp, cE_ai h12 h0]) (by rw [cT_at (by omega), hty]) hin hdg (fun H1 locs1 g1 g2 g3 => kk _ H1 locs1 rfl ?_ ?_ g3)
  · rw [cW_a hp h12 h0 hw] at g1; exact g1
  · rw [cW_a hp h12 h0 hw] at g2; exact g2
theorem cr_cast {t k n9 : Nat} {h : Int} {x y z : Int32} (hexec : p.tables.exec = Jvm.exec) (hb : c.code = cc) (hK : va_K (dC, dI) vwCl (cT cid) s) (hP : va_P (dC, dI) vwCl (cW ad cid a2 lx sg gm lg) H) (hD : va_D A (cW ad cid a2 lx sg gm lg)) (hS : va_S A H0 H locs) (hx : iv 0 h x) (hn : h < (cNum t : Int)) (h12 : 12 ≤ t) (h32 : t < 32) (h0 : cAk t = 0) (hk : cAy t = k) (hty : cTy t = .char) (hin : vp_in y (cLen t)) (hw : cAw t = 0 ∨ y.toNatClampNeg < cAw t) (hn9 : cAw t * x.toNatClampNeg + y.toNatClampNeg = n9) (hdg : decode cc pc = .ok (.castore, 1))
    (kk : ∀ (gm1 : Nat → Nat → Int32) (H1 : Heap) (locs1 : List Loc), gm1 = va_up gm k (upd (gm k) n9 (vp_nar .char z)) → va_P (dC, dI) vwCl (cW ad cid a2 lx sg gm1 lg) H1 → va_D A (cW ad cid a2 lx sg gm1 lg) → va_S A H0 H1 locs1 → W p l e R s m args below meth c H1 locs1 cells slots Q (F0 m (pc + 1) ls rest)) : W p l e R s m args below meth c H locs cells slots Q (F0 m pc ls (.int z :: .int y :: eV (ad t) x :: rest)) := by
  subst hk; subst hn9
  obtain ⟨p9, hp⟩ := cPL_at h32 (cnx hx hn)
  rw [eV_ref hx.1]
  refine va_cast (D := (dC, dI)) (f := cAi gm t x.toNatClampNeg) hexec hb hK hP hD hS p9 t (by rw [cW_at hp, cE_ai h12 h0]) (by rw [cT_at (by omega), hty]) hin hdg (fun H1 locs1 g1 g2 g3 => kk _ H1 locs1 rfl ?_ ?_ g3)
  · rw [cW_a hp h12 h0 hw] at g1; exact g1
  · rw [cW_a hp h12 h0 hw] at g2; exact g2
theorem cr_last {x y : Int32} {z : Int64} (hexec : p.tables.exec = Jvm.exec) (hb : c.code = cc) (hK : va_K (dC, dI) vwCl (cT cid) s) (hP : va_P (dC, dI) vwCl (cW ad cid a2 lx sg gm lg) H) (hD : va_D A (cW ad cid a2 lx sg gm lg)) (hS : va_S A H0 H locs) (hx : iv 0 0 x) (hin : vp_in y 240) (hdg : decode cc pc = .ok (.lastore, 1))
    (kk : ∀ (lg1 : Nat → Nat → Int64) (H1 : Heap) (locs1 : List Loc), lg1 = va_up lg 0 (vp_updL (lg 0) y.toNatClampNeg z) → va_P (dC, dI) vwCl (cW ad cid a2 lx sg gm lg1) H1 → va_D A (cW ad cid a2 lx sg gm lg1) → va_S A H0 H1 locs1 → W p l e R s m args below meth c H1 locs1 cells slots Q (F0 m (pc + 1) ls rest)) : W p l e R s m args below meth c H locs cells slots Q (F0 m pc ls (.long z :: .int y :: eV (ad 15) x :: rest)) := by
  have e0 : x.toNatClampNeg = 0 := by have := iv_cl hx (by decide); have := hx.2; omega
  obtain ⟨p9, hp⟩ := cPL_at (t := 15) (i := 0) (by decide) (by decide)
  rw [eV_ref hx.1, e0]
  refine va_last (D := (dC, dI)) (f := lg 0) hexec hb hK hP hD hS p9 15 (by rw [cW_at hp, cE_al]; rfl) (by rw [cT_at (by decide)]; rfl) hin hdg (fun H1 locs1 g1 g2 g3 => kk _ H1 locs1 rfl ?_ ?_ g3)
  · have g1 : va_P (dC, dI) vwCl ((cW ad cid a2 lx sg gm lg).set p9 (ad 15 0, .inl (cid 15, cLen 15, .inr (.inl (vp_updL (lg 0) y.toNatClampNeg z))))) H1 := g1
    rw [cW_al hp] at g1; exact g1
  · have g2 : va_D A ((cW ad cid a2 lx sg gm lg).set p9 (ad 15 0, .inl (cid 15, cLen 15, .inr (.inl (vp_updL (lg 0) y.toNatClampNeg z))))) := g2
    rw [cW_al hp] at g2; exact g2
/-- a bean is written into the chain or the row of those finished -/
theorem cr_aast {t k : Nat} {h hy : Int} {x y z : Int32} (hexec : p.tables.exec = Jvm.exec) (hb : c.code = cc) (hK : va_K (dC, dI) vwCl (cT cid) s) (hP : va_P (dC, dI) vwCl (cW ad cid a2 lx sg gm lg) H) (hD : va_D A (cW ad cid a2 lx sg gm lg)) (hS : va_S A H0 H locs) (hx : iv 0 h x) (hn : h < (cNum t : Int)) (h12 : 12 ≤ t) (h32 : t < 32) (h2 : cAk t = 2) (hat : cAt t = 10) (hk : cAy t = k) (hty : cTy t = .object RX1) (hin : vp_in y (cLen t)) (hz : iv 0 hy z) (hz2 : hy < 80) (hdg : decode cc pc = .ok (.aastore, 1))
    (kk : ∀ (gm1 : Nat → Nat → Int32) (H1 : Heap) (locs1 : List Loc), gm1 = va_up gm k (upd (gm k) y.toNatClampNeg z) → va_P (dC, dI) vwCl (cW ad cid a2 lx sg gm1 lg) H1 → va_D A (cW ad cid a2 lx sg gm1 lg) → va_S A H0 H1 locs1 → W p l e R s m args below meth c H1 locs1 cells slots Q (F0 m (pc + 1) ls rest)) : W p l e R s m args below meth c H locs cells slots Q (F0 m pc ls (eV (ad 10) z :: .int y :: eV (ad t) x :: rest)) := by
  subst hk
  obtain ⟨p9, hp⟩ := cPL_at h32 (cnx hx hn)
  obtain ⟨q9, hq⟩ := cPL_at (t := 10) (by decide) (cnx hz (show hy < (cNum 10 : Int) from hz2))
  rw [eV_ref hx.1, eV_ref hz.1]
  have ee : some (ad 10 z.toNatClampNeg) = er (ad (cAt t)) z := by rw [hat, er_some hz.1]
  refine va_astq (D := (dC, dI)) (r := (RX1, TX1, 19)) (f := cAr ad gm t x.toNatClampNeg) hexec hb hK hP hD hS p9 t q9 1 (by rw [cW_at hp, cE_ar h12 (by omega) (by omega)]) (by rw [cT_at (by omega), hty]) (by rw [cW_at hq, cE_o (by decide)]; rfl) rfl hin hdg (fun H1 locs1 g1 g2 g3 => kk _ H1 locs1 rfl ?_ ?_ g3)
  · rw [ee, cW_r hp h12 h2] at g1; exact g1
  · rw [ee, cW_r hp h12 h2] at g2; exact g2
theorem cV_c {t j i : Nat} {y : Int32} (h5 : cKd t j = 5) (hy : 0 ≤ y.toInt) (he : y.toNatClampNeg = cMu t j * i + cOf t j) : cV ad a2 sg gm lg t j i = eV (ad (cTg t j)) y := by
  unfold cV
  rw [if_neg (by omega), if_neg (by omega), if_neg (by omega), if_neg (by omega), if_neg (by omega), if_pos h5, eV_ref hy, he]
theorem cAr_c {t i n : Nat} {y : Int32} (h2 : ¬ cAk t = 2) (hy : 0 ≤ y.toInt) (he : y.toNatClampNeg = cAm t * i + cAo t + n) : va_rf (cAr ad gm t i n) = eV (ad (cAt t)) y := by
  unfold cAr
  rw [if_neg h2, eV_ref hy, he]
  rfl
theorem cAi_w {t i n k : Nat} {w : Nat} (hw : cAw t = w) (h0 : ¬ w = 0) (hk : cAy t = k) (hn : n < w) : cAi gm t i n = gm k (w * i + n) := by
  unfold cAi
  rw [hw, if_neg h0, if_pos hn, hk]
end CRR
theorem ix_mk (n : Nat) (h : Int) (hh : (n : Int) ≤ h) (h2 : h < 2147483648) : ∃ y : Int32, iv 0 h y ∧ y.toNatClampNeg = n ∧ y.toInt = (n : Int) := ⟨nI n, ⟨by rw [nI_toInt (by omega)]; omega, by rw [nI_toInt (by omega)]; exact hh⟩, nI_clamp (by omega), nI_toInt (by omega)⟩
end
section
def wNm : List String := ["BEANS", "ALIAS", "BEAN", "ARG", "SET", "LOOKUP", "LIST", "VALUE", "REF", "NULL", "ID", "CLASS", "PARENT", "ABSTRACT", "SCOPE", "LAZY", "FACTORY", "METHOD", "INIT", "DESTROY", "DEPENDS", "NAME", "TO", "AT", "TYPE", "YES", "NO", "ONE", "MANY", "INT", "TRUTH", "CHAR", "TEXT", "ROW"]
def wKy : List Int64 := [422607679091, 418430673267, 1650811246, 6386279, 7562612, 119225866483056, 1818850164, 508440638821, 7497062, 1853189228, 26980, 427020088179, 123563833388660, 7017298113369039732, 495589486693, 1818327673, 28817527407604345, 120282512125796, 1768843636, 28259044220366713, 28259031083541619, 1851878757, 29807, 24948, 1954115685, 7955827, 28271, 7302757, 1835101817, 6909556, 500136506472, 1667785074, 1952807028, 7499639]
def wSw : List Int32 := [6, 7, 8, 9, 10, 11, 12, 13, 14, 15, 16, 19, 20, 17, 21, 18, 22, 23, 24, 25, 26, 27, 0, 28, 29, 0, 0, 0, 0, 1, 2, 3, 4, 5]
def sTxt : List String := ["lt", "gt", "quot", "amp", "apos", "true", "false"]
def sOwn : List String := ["WiredBeans$Reader", "WiredBeans$Reader", "WiredBeans$Reader", "WiredBeans$Reader", "WiredBeans$Reader", "WiredBeans$Element", "WiredBeans$Element"]
def sEnt : List Nat := [131, 137, 139, 141, 143, 95, 101]
def sByt : List (List Int32) := [[108, 116], [103, 116], [113, 117, 111, 116], [97, 109, 112], [97, 112, 111, 115], [116, 114, 117, 101], [102, 97, 108, 115, 101]]
/-- the words of the class: constants that nobody writes -/
def WE (ad : Nat → Nat → Nat) (A : Nat → Prop) (U : State) (H : Heap) : Prop :=
  (∀ k, k < 34 → va_Z "WiredBeans$Word" (wNm.getD k "") "LWiredBeans$Word;" (.ref (ad 33 k)) A U H ∧ va_O "WiredBeans$Word" (ad 33 k) A U H ∧ va_OF "java/lang/Enum" "ordinal" "I" (.int (nI k)) (ad 33 k) A U H ∧ va_OF "WiredBeans$Word" "key" "J" (.long (wKy.getD k 0)) (ad 33 k) A U H)
  ∧ (va_Z "WiredBeans$Word" "ALL" "[LWiredBeans$Word;" (.ref (ad 35 0)) A U H ∧ va_T (.object "WiredBeans$Word") (ad 35 0) 34 (fun j => .ref (ad 33 j)) A U H)
  ∧ (va_Z "WiredBeans$1" "$SwitchMap$WiredBeans$Word" "[I" (.ref (ad 36 0)) A U H ∧ va_T .int (ad 36 0) 34 (fun j => .int (wSw.getD j 0)) A U H)
theorem WE.moved {ad : Nat → Nat → Nat} {A : Nat → Prop} {u U : State} {H : Heap} (hvm : u.vm.Alike U.vm) (h : WE ad A u H) : WE ad A U H :=
  ⟨fun k hk => ⟨va_Z.moved hvm (h.1 k hk).1, va_O.moved hvm (h.1 k hk).2.1, va_OF.moved hvm (h.1 k hk).2.2.1, va_OF.moved hvm (h.1 k hk).2.2.2⟩, ⟨va_Z.moved hvm h.2.1.1, va_T.moved hvm h.2.1.2⟩, ⟨va_Z.moved hvm h.2.2.1, va_T.moved hvm h.2.2.2⟩⟩
theorem WE.kept {ad : Nat → Nat → Nat} {A : Nat → Prop} {U : State} {H H1 : Heap} (h : WE ad A U H) (hq : ∀ a : Nat, a < H.size → ¬ A a → H1[a]? = H[a]?) : WE ad A U H1 :=
  ⟨fun k hk => ⟨(h.1 k hk).1.kept hq, (h.1 k hk).2.1.kept hq, (h.1 k hk).2.2.1.kept hq, (h.1 k hk).2.2.2.kept hq⟩, ⟨h.2.1.1.kept hq, h.2.1.2.kept hq⟩, ⟨h.2.2.1.kept hq, h.2.2.2.kept hq⟩⟩
theorem WE.narrow {ad : Nat → Nat → Nat} {A B : Nat → Prop} {U : State} {H : Heap} (h : WE ad A U H) (hAB : ∀ q, B q → A q) : WE ad B U H :=
  ⟨fun k hk => ⟨(h.1 k hk).1.narrow hAB, (h.1 k hk).2.1.narrow hAB, (h.1 k hk).2.2.1.narrow hAB, (h.1 k hk).2.2.2.narrow hAB⟩, ⟨h.2.1.1.narrow hAB, h.2.1.2.narrow hAB⟩, ⟨h.2.2.1.narrow hAB, h.2.2.2.narrow hAB⟩⟩
/-- the texts of the class: constants that nobody writes -/
def SQ (q v n : Nat) (f : Nat → Int32) (A : Nat → Prop) (U : State) (H : Heap) : Prop := va_O "java/lang/String" q A U H ∧ va_OF "java/lang/String" "coder" "B" (.int 0) q A U H ∧ va_OF "java/lang/String" "value" "[B" (.ref v) q A U H ∧ va_T .byte v n (fun j => .int (f j)) A U H ∧ va_Z "java/lang/String" "COMPACT_STRINGS" "Z" (.int 1) A U H ∧ va_Zq "jdk/internal/util/Preconditions" "SIOOBE_FORMATTER" "Ljava/util/function/BiFunction;" A U H
theorem SQ.moved {q v n : Nat} {f : Nat → Int32} {A : Nat → Prop} {u U : State} {H : Heap} (hvm : u.vm.Alike U.vm) (h : SQ q v n f A u H) : SQ q v n f A U H := ⟨va_O.moved hvm h.1, va_OF.moved hvm h.2.1, va_OF.moved hvm h.2.2.1, va_T.moved hvm h.2.2.2.1, va_Z.moved hvm h.2.2.2.2.1, va_Zq.moved hvm h.2.2.2.2.2⟩
theorem SQ.kept {q v n : Nat} {f : Nat → Int32} {A : Nat → Prop} {U : State} {H H1 : Heap} (h : SQ q v n f A U H) (hq : ∀ a : Nat, a < H.size → ¬ A a → H1[a]? = H[a]?) : SQ q v n f A U H1 := ⟨h.1.kept hq, h.2.1.kept hq, h.2.2.1.kept hq, h.2.2.2.1.kept hq, h.2.2.2.2.1.kept hq, va_Zq.kept h.2.2.2.2.2 hq⟩
theorem SQ.narrow {q v n : Nat} {f : Nat → Int32} {A B : Nat → Prop} {U : State} {H : Heap} (h : SQ q v n f A U H) (hAB : ∀ x, B x → A x) : SQ q v n f B U H := ⟨h.1.narrow hAB, h.2.1.narrow hAB, h.2.2.1.narrow hAB, h.2.2.2.1.narrow hAB, h.2.2.2.2.1.narrow hAB, va_Zq.narrow h.2.2.2.2.2 hAB⟩
def SE (ad : Nat → Nat → Nat) (A : Nat → Prop) (U : State) (H : Heap) : Prop := (∀ k, k < 7 → SQ (ad 37 k) (ad 38 k) ((sByt.getD k []).length) (fun j => (sByt.getD k []).getD j 0) A U H) ∧ ∀ k, k < 7 → vk_R (sOwn.getD k "") (sEnt.getD k 0) (sTxt.getD k "") (ad 37 k) U
theorem SE.go {ad : Nat → Nat → Nat} {A B : Nat → Prop} {s U : State} {H : Heap} {locs : List Loc} (h : SE ad A s s.heap) (hS : va_S A s.heap H locs) (hB : ∀ q, B q → A q) (hU : U.heap = H) (hW : s.WarmedH U.vm) : SE ad B U U.heap := ⟨fun k hk => by rw [hU]; exact (SQ.moved hW.alike ((h.1 k hk).kept hS.2.1)).narrow hB, fun k hk => vk_R.warm hW (h.2 k hk)⟩
/-- what the lists meet -/
def LE (ad : Nat → Nat → Nat) (A : Nat → Prop) (U : State) (H : Heap) : Prop := (va_Nw (.castable "WiredBeans$Element" "java/lang/Object") U ∧ va_Nw (.castable "WiredBeans$Element" "WiredBeans$Element") U) ∧ (va_AO "java/lang/Object" U ∧ va_Dc U ∧ va_Mi "[Ljava/lang/Object;" (ad 39 0) U) ∧ va_Z "java/util/ArrayList" "DEFAULTCAPACITY_EMPTY_ELEMENTDATA" "[Ljava/lang/Object;" (.ref (ad 34 0)) A U H ∧ va_T (.object "java/lang/Object") (ad 34 0) 0 (fun _ => .null) A U H
theorem LE.go {ad : Nat → Nat → Nat} {A B : Nat → Prop} {s U : State} {H : Heap} {locs : List Loc} (h : LE ad A s s.heap) (hS : va_S A s.heap H locs) (hB : ∀ q, B q → A q) (hU : U.heap = H) (hW : s.WarmedH U.vm) : LE ad B U U.heap :=
  ⟨⟨va_Nw.warmC hW h.1.1, va_Nw.warmC hW h.1.2⟩, ⟨va_AO.moved hW.alike h.2.1.1, va_Dc.moved hW.alike h.2.1.2.1, va_Mi.moved hW.alike h.2.1.2.2⟩, (by rw [hU]; exact (va_Z.moved hW.alike (h.2.2.1.kept hS.2.1)).narrow hB), (by rw [hU]; exact (va_T.moved hW.alike (h.2.2.2.kept hS.2.1)).narrow hB)⟩
/-- what a method of the class meets beside its own cells -/
def CE (ad : Nat → Nat → Nat) (A : Nat → Prop) (U : State) : Prop := GE A U ∧ (va_Nw (.castable "java/lang/UnsupportedOperationException" "java/lang/UnsupportedOperationException") U ∧ va_Nw (.castable "java/lang/IndexOutOfBoundsException" "java/lang/IndexOutOfBoundsException") U ∧ LE ad A U U.heap) ∧ WE ad A U U.heap ∧ SE ad A U U.heap
theorem CE.go {ad : Nat → Nat → Nat} {A B : Nat → Prop} {s U : State} {H : Heap} {locs : List Loc} (h : CE ad A s) (hS : va_S A s.heap H locs) (hB : ∀ q, B q → A q) (hU : U.heap = H) (hW : s.WarmedH U.vm) : CE ad B U :=
  ⟨h.1.go hS hB hU hW, ⟨va_Nw.warmC hW h.2.1.1, va_Nw.warmC hW h.2.1.2.1, h.2.1.2.2.go hS hB hU hW⟩, (by rw [hU]; exact (WE.moved hW.alike (h.2.2.1.kept hS.2.1)).narrow hB), h.2.2.2.go hS hB hU hW⟩
theorem CE.call {ad : Nat → Nat → Nat} {A : Nat → Prop} {U : State} (g : JFrame) (mk : MethodId) (a : Array Value) (h : CE ad A U) : CE ad A (U.calling g mk a) := CE.go (U := U.calling g mk a) h (va_S.rf (H0 := U.heap)) (fun _ h => h) rfl (State.WarmedH.refl U)
abbrev CSt : Type := (Nat → Int32) × (Nat → Nat → Int32) × (Nat → Nat → Int64)
section CM
variable (dC : Nat → ClassId) (dI : Nat → Nat → Nat) (ad : Nat → Nat → Nat) (cid : Nat → ClassId) (a2 : Nat → Nat) (lx : List Nat)
def CPre (sg : Nat → Int32) (gm : Nat → Nat → Int32) (lg : Nat → Nat → Int64) (sz : Nat) (U : State) : Prop := U.heap.size = sz ∧ va_P (dC, dI) vwCl (cW ad cid a2 lx sg gm lg) U.heap ∧ va_K (dC, dI) vwCl (cT cid) U ∧ va_D (fun _ => True) (cW ad cid a2 lx sg gm lg) ∧ CE ad (va_A (cW ad cid a2 lx sg gm lg) sz) U
def CB (A : Nat → Prop) (u : CSt) (t : State) : Prop := va_P (dC, dI) vwCl (cW ad cid a2 lx u.1 u.2.1 u.2.2) t.heap ∧ va_K (dC, dI) vwCl (cT cid) t ∧ va_D A (cW ad cid a2 lx u.1 u.2.1 u.2.2)
def cQx (post : Option Value → CSt → Prop) (A : Nat → Prop) : Array Value → State → Outcome → State → Prop := fun _ st oc t => (∃ (v : Option Value) (u : CSt), oc = .returned v ∧ post v u ∧ CB dC dI ad cid a2 lx A u t) ∧ va_F A st t ∧ NBw st.heap t.heap 0 0
def cX (xpost : String → CSt → Prop) (A : Nat → Prop) : String → State → State → Prop := fun E st t => (∃ u : CSt, xpost E u ∧ CB dC dI ad cid a2 lx A u t) ∧ va_F A st t
/-- a method of the class: it returns with post, or throws with xpost -/
def CMt (l : Launch) (y : MethodName) (ws : List Cond) (rm : Room) (as : List Value) (sg : Nat → Int32) (gm : Nat → Nat → Int32) (lg : Nat → Nat → Int64) (post : Option Value → CSt → Prop) (xpost : String → CSt → Prop) : Prop :=
  ∀ sz, vx_Met l y ws rm (va_Pc as (CPre dC dI ad cid a2 lx sg gm lg sz)) (cQx dC dI ad cid a2 lx post (va_A (cW ad cid a2 lx sg gm lg) sz)) (cX dC dI ad cid a2 lx xpost (va_A (cW ad cid a2 lx sg gm lg) sz)) 1 6 (va_A (cW ad cid a2 lx sg gm lg) sz)
end CM
section CMC
variable {p : Program} {l : Launch} {e : Env} {R : Room} {s : State} {m : MethodId} {args : Array Value} {below : List Frame} {meth : Method} {c : Code} {H : Heap} {locs : List Loc} {Q : State → Prop} {cc : ByteArray} {pc : Nat} {ls : Array Slot} {rest : List Value} {A : Nat → Prop}
variable {dC : Nat → ClassId} {dI : Nat → Nat → Nat} {ad : Nat → Nat → Nat} {cid : Nat → ClassId} {a2 : Nat → Nat} {lx : List Nat} {sg : Nat → Int32} {gm : Nat → Nat → Int32} {lg : Nat → Nat → Int64} {Ts : List Cond} {own : String} {index : Nat}
variable {y : MethodName} {ws : List Cond} {rm : Room} {bytes : ByteArray} {maxL n nL : Nat} {ret : Option FieldType} {as : List Value} {st0 : List Value} {post : Option Value → CSt → Prop} {xpost : String → CSt → Prop}
theorem CPre_blind {sz : Nat} : FrameBlind (va_Pc as (CPre dC dI ad cid a2 lx sg gm lg sz)) := fun a U g mk q => by
  obtain ⟨q0, q1, qP, qK, qD, qG⟩ := q
  exact ⟨q0, q1, qP, va_K.moved (u := U) (U := U.calling g mk a) (Vm.Alike.refl U.vm) qK, qD, CE.call g mk a qG⟩
theorem cfree (hD : va_D A (cW ad cid a2 lx sg gm lg)) (hS : va_S A s.heap H locs) (hA : ∀ q, s.heap.size ≤ q → A q) : ∀ q, va_A (cW ad cid a2 lx sg gm lg) H.size q → A q := by
  intro q h
  rcases h with ⟨k, e, h⟩ | h
  · exact hD.2 k (q, e) h
  · exact hA q (Nat.le_trans hS.1 h)
theorem cm_go {a : Array Value} (hr : vx_Run p l e R s m args below meth c H locs 0 0 1 6 (F0 m pc ls st0) rest (cQx dC dI ad cid a2 lx post (va_A (cW ad cid a2 lx sg gm lg) H.size) a) (cX dC dI ad cid a2 lx xpost (va_A (cW ad cid a2 lx sg gm lg) H.size)) (va_A (cW ad cid a2 lx sg gm lg) H.size)) (hD : va_D A (cW ad cid a2 lx sg gm lg)) (hS : va_S A s.heap H locs) (hA : ∀ q, s.heap.size ≤ q → A q)
    (kx : ∀ (E : String) (ce : Cell) (q9 : Addr) (u : CSt) (H1 : Heap) (locs1 : List Loc), xpost E u → va_P (dC, dI) vwCl (cW ad cid a2 lx u.1 u.2.1 u.2.2) H1 → va_D A (cW ad cid a2 lx u.1 u.2.1 u.2.2) → va_S A s.heap H1 locs1 → H1[q9]? = some ce → ce.vm = .none → s.vm.findClass E = some ce.cls → vx_W p l e R s m args below meth c H1 locs1 1 6 Q (F0 m pc ls rest) q9)
    (kk : ∀ (v : Option Value) (u : CSt) (H1 : Heap) (locs1 : List Loc), post v u → va_P (dC, dI) vwCl (cW ad cid a2 lx u.1 u.2.1 u.2.2) H1 → va_D A (cW ad cid a2 lx u.1 u.2.1 u.2.2) → va_S A s.heap H1 locs1 → W p l e R s m args below meth c H1 locs1 0 0 Q (F0 m (pc + 3) ls (v.toList ++ rest))) : W p l e R s m args below meth c H locs 0 0 Q (F0 m pc ls st0) := by
  have hFc := cfree hD hS hA
  refine W.nb (fun hN => ?_)
  intro T hT X
  rcases hr T hT X with ⟨v, st₀, t, T', L, h0, X', hL, e1, e2, ⟨⟨v2, u, hv, hp, hb⟩, hF, hN1⟩, st⟩ | ⟨q, st₀, t, T', L, E, ce, h0, X', hL, e1, e2, ⟨⟨u, hp, hb⟩, hF⟩, hce, hcv, hcl, st⟩
  · cases hv
    obtain ⟨k1, k2, k3⟩ := vx_keep h0 e1 hS (fun q _ h => hFc q h) hFc hL hF
    obtain ⟨b1, b2, b3⟩ := hb
    rw [h0, ← e1] at hN1
    obtain ⟨t2, a1, c1⟩ := W.narrow (NBw_00 hN hN1) (kk v u T'.heap (locs ++ L) hp (by rw [e1]; exact b1) (b3.weaken (fun _ _ _ h => hFc _ h)) k3) T' rfl X'
    exact ⟨t2, st t2 a1, c1⟩
  · obtain ⟨k1, k2, k3⟩ := vx_keep h0 e1 hS (fun q _ h => hFc q h) hFc hL hF
    obtain ⟨b1, b2, b3⟩ := hb
    obtain ⟨t2, a1, c1⟩ := kx E ce q u T'.heap (locs ++ L) hp (by rw [e1]; exact b1) (b3.weaken (fun _ _ _ h => hFc _ h)) k3 (by rw [e1]; exact hce) hcv hcl T' rfl X'
    exact ⟨t2, st.trans a1, c1⟩
theorem cm_recv {t : Nat} {h : Int} {x : Int32} {C : String} {T : u_T} {N : Nat} (hK : va_K (dC, dI) vwCl (cT cid) s) (hP : va_P (dC, dI) vwCl (cW ad cid a2 lx sg gm lg) H) (hx : iv 0 h x) (hnt : h < (cNum t : Int)) (ht : t < 12) (hc : vwCl[cIx t]? = some (C, T, N)) : ∃ cellB : Cell, H[ad t x.toNatClampNeg]? = some cellB ∧ cellB.vm.isStatics = false ∧ s.vm.findClass C = some cellB.cls := by
  obtain ⟨p9, hp⟩ := cPL_at (t := t) (by omega) (cnx hx hnt)
  exact va_recv hK hP (ci := cIx t) (q0 := p9) hc (by rw [cW_at hp, cE_o ht])
theorem cm_callV {t : Nat} {h : Int} {x : Int32} {C : String} {T : u_T} {N : Nat} (S : CallFix p m c cc nL s args Ts own) (hM : CMt dC dI ad cid a2 lx l y ws rm (eV (ad t) x :: as) sg gm lg post xpost) (cw : CallW R s args own C index y bytes maxL ret ws rm 1 6 n) (hx : iv 0 h x) (hnt : h < (cNum t : Int)) (ht : t < 12) (hc : vwCl[cIx t]? = some (C, T, N)) (hn : as.length = n) (hsize : ls.size = nL) (hst : st0 = as.reverse ++ eV (ad t) x :: rest) (hW : (rest.map fun v => v.category).sum ≤ 8) (hdg : decode cc pc = .ok (.invokevirtual index, 3)) (hf : 1 ≤ R.cells ∧ 6 ≤ R.slots)
    (hK : va_K (dC, dI) vwCl (cT cid) s) (hP : va_P (dC, dI) vwCl (cW ad cid a2 lx sg gm lg) H) (hD : va_D A (cW ad cid a2 lx sg gm lg)) (hS : va_S A s.heap H locs) (hA : ∀ q, s.heap.size ≤ q → A q) (hG : CE ad A s)
    (kx : ∀ (E : String) (ce : Cell) (q9 : Addr) (u : CSt) (H1 : Heap) (locs1 : List Loc), xpost E u → va_P (dC, dI) vwCl (cW ad cid a2 lx u.1 u.2.1 u.2.2) H1 → va_D A (cW ad cid a2 lx u.1 u.2.1 u.2.2) → va_S A s.heap H1 locs1 → H1[q9]? = some ce → ce.vm = .none → s.vm.findClass E = some ce.cls → vx_W p l e R s m args below meth c H1 locs1 1 6 Q (F0 m pc ls rest) q9)
    (kk : ∀ (v : Option Value) (u : CSt) (H1 : Heap) (locs1 : List Loc), post v u → va_P (dC, dI) vwCl (cW ad cid a2 lx u.1 u.2.1 u.2.2) H1 → va_D A (cW ad cid a2 lx u.1 u.2.1 u.2.2) → va_S A s.heap H1 locs1 → W p l e R s m args below meth c H1 locs1 0 0 Q (F0 m (pc + 3) ls (v.toList ++ rest))) : W p l e R s m args below meth c H locs 0 0 Q (F0 m pc ls st0) := by
  subst hst
  have hFc := cfree hD hS hA
  have hM9 := hM H.size
  rw [eV_ref hx.1] at hM9 ⊢
  exact cm_go (vx_runV (cells := 0) (slots := 0) (As := as) (rest := rest) S hM9 cw ⟨CPre_blind, cm_recv hK hP hx hnt ht hc, fun U hU hW => ⟨rfl, by rw [hU], by rw [hU]; exact hP, va_K.moved hW.alike hK, hD.weaken (fun _ _ _ _ => trivial), hG.go hS hFc hU hW⟩⟩ rfl hn hsize rfl (lv_room hW) hdg ⟨by omega, by omega⟩) hD hS hA kx kk
theorem cm_callS (S : CallFix p m c cc nL s args Ts own) (hM : CMt dC dI ad cid a2 lx l y ws rm as sg gm lg post xpost) (cw : CallB R s args own index y bytes maxL ret ws rm 1 6 n ∧ (Cond.static y).before args s = true) (hn : as.length = n) (hsize : ls.size = nL) (hst : st0 = as.reverse ++ rest) (hW : (rest.map fun v => v.category).sum ≤ 8) (hdg : decode cc pc = .ok (.invokestatic index, 3)) (hf : 1 ≤ R.cells ∧ 6 ≤ R.slots)
    (hK : va_K (dC, dI) vwCl (cT cid) s) (hP : va_P (dC, dI) vwCl (cW ad cid a2 lx sg gm lg) H) (hD : va_D A (cW ad cid a2 lx sg gm lg)) (hS : va_S A s.heap H locs) (hA : ∀ q, s.heap.size ≤ q → A q) (hG : CE ad A s)
    (kx : ∀ (E : String) (ce : Cell) (q9 : Addr) (u : CSt) (H1 : Heap) (locs1 : List Loc), xpost E u → va_P (dC, dI) vwCl (cW ad cid a2 lx u.1 u.2.1 u.2.2) H1 → va_D A (cW ad cid a2 lx u.1 u.2.1 u.2.2) → va_S A s.heap H1 locs1 → H1[q9]? = some ce → ce.vm = .none → s.vm.findClass E = some ce.cls → vx_W p l e R s m args below meth c H1 locs1 1 6 Q (F0 m pc ls rest) q9)
    (kk : ∀ (v : Option Value) (u : CSt) (H1 : Heap) (locs1 : List Loc), post v u → va_P (dC, dI) vwCl (cW ad cid a2 lx u.1 u.2.1 u.2.2) H1 → va_D A (cW ad cid a2 lx u.1 u.2.1 u.2.2) → va_S A s.heap H1 locs1 → W p l e R s m args below meth c H1 locs1 0 0 Q (F0 m (pc + 3) ls (v.toList ++ rest))) : W p l e R s m args below meth c H locs 0 0 Q (F0 m pc ls st0) := by
  subst hst
  have hFc := cfree hD hS hA
  exact cm_go (vx_runS (cells := 0) (slots := 0) (As := as) (rest := rest) S (hM H.size) cw ⟨CPre_blind, fun U hU hW => ⟨rfl, by rw [hU], by rw [hU]; exact hP, va_K.moved hW.alike hK, hD.weaken (fun _ _ _ _ => trivial), hG.go hS hFc hU hW⟩⟩ rfl hn hsize rfl (lv_room hW) hdg ⟨by omega, by omega⟩) hD hS hA kx kk
/-- a word as a constant -/
theorem cw_word {k : Nat} {nm : String} {kx : Int32} (hexec : p.tables.exec = Jvm.exec) (hb : c.code = cc) (hG : CE ad A s) (hS : va_S A s.heap H locs) (hk : k < 34) (hnm : wNm.getD k "" = nm) (hkx : kx.toNatClampNeg = k ∧ 0 ≤ kx.toInt) (hown : s.vm.findClass own = some m.cls) (hlink : (Cond.fieldLink own index "WiredBeans$Word" nm "LWiredBeans$Word;").before args s = true) (hdg : decode cc pc = .ok (.getstatic index, 3)) {cells slots : Nat}
    (kk : W p l e R s m args below meth c H locs cells slots Q (F0 m (pc + 3) ls (eV (ad 33) kx :: rest))) : W p l e R s m args below meth c H locs cells slots Q (F0 m pc ls rest) := by
  rw [eV_ref hkx.2, hkx.1] at kk
  have hz9 := (hG.2.2.1.1 k hk).1
  rw [hnm] at hz9
  exact va_gets hexec hb hz9 hS hown hlink (fun _ h9 => h9) hdg kk
theorem cw_all (hexec : p.tables.exec = Jvm.exec) (hb : c.code = cc) (hG : CE ad A s) (hS : va_S A s.heap H locs) (hown : s.vm.findClass own = some m.cls) (hlink : (Cond.fieldLink own index "WiredBeans$Word" "ALL" "[LWiredBeans$Word;").before args s = true) (hdg : decode cc pc = .ok (.getstatic index, 3)) {cells slots : Nat}
    (kk : W p l e R s m args below meth c H locs cells slots Q (F0 m (pc + 3) ls (eV (ad 35) 0 :: rest))) : W p l e R s m args below meth c H locs cells slots Q (F0 m pc ls rest) := by
  rw [eV_ref (by decide), show (0 : Int32).toNatClampNeg = 0 by decide] at kk
  exact va_gets hexec hb hG.2.2.1.2.1.1 hS hown hlink (fun _ h9 => h9) hdg kk
theorem cw_alln {x : Int32} (hx : iv 0 0 x) (hexec : p.tables.exec = Jvm.exec) (hb : c.code = cc) (hG : CE ad A s) (hS : va_S A s.heap H locs) (hdg : decode cc pc = .ok (.arraylength, 1)) {cells slots : Nat}
    (kk : W p l e R s m args below meth c H locs cells slots Q (F0 m (pc + 1) ls (.int 34 :: rest))) : W p l e R s m args below meth c H locs cells slots Q (F0 m pc ls (eV (ad 35) x :: rest)) := by
  rw [eV_ref hx.1, show x.toNatClampNeg = 0 by have := iv_cl hx (by decide); have := hx.2; omega]
  exact va_tlen hexec hb hG.2.2.1.2.1.2 hS rfl hdg kk
theorem cw_alld {x y : Int32} (hx : iv 0 0 x) (hexec : p.tables.exec = Jvm.exec) (hb : c.code = cc) (hG : CE ad A s) (hS : va_S A s.heap H locs) (hy : iv 0 33 y) (hdg : decode cc pc = .ok (.aaload, 1)) {cells slots : Nat}
    (kk : W p l e R s m args below meth c H locs cells slots Q (F0 m (pc + 1) ls (eV (ad 33) y :: rest))) : W p l e R s m args below meth c H locs cells slots Q (F0 m pc ls (.int y :: eV (ad 35) x :: rest)) := by
  rw [eV_ref hx.1, show x.toNatClampNeg = 0 by have := iv_cl hx (by decide); have := hx.2; omega]
  rw [eV_ref hy.1] at kk
  exact vb_tq hexec hb hG.2.2.1.2.1.2 hS (iv_in hy (by decide)) rfl hdg kk
theorem cw_sw (hexec : p.tables.exec = Jvm.exec) (hb : c.code = cc) (hG : CE ad A s) (hS : va_S A s.heap H locs) (hown : s.vm.findClass own = some m.cls) (hlink : (Cond.fieldLink own index "WiredBeans$1" "$SwitchMap$WiredBeans$Word" "[I").before args s = true) (hdg : decode cc pc = .ok (.getstatic index, 3)) {cells slots : Nat}
    (kk : W p l e R s m args below meth c H locs cells slots Q (F0 m (pc + 3) ls (eV (ad 36) 0 :: rest))) : W p l e R s m args below meth c H locs cells slots Q (F0 m pc ls rest) := by
  rw [eV_ref (by decide), show (0 : Int32).toNatClampNeg = 0 by decide] at kk
  exact va_gets hexec hb hG.2.2.1.2.2.1 hS hown hlink (fun _ h9 => h9) hdg kk
theorem cw_swld {x y : Int32} (hx : iv 0 0 x) (hexec : p.tables.exec = Jvm.exec) (hb : c.code = cc) (hG : CE ad A s) (hS : va_S A s.heap H locs) (hy : iv 0 33 y) (hdg : decode cc pc = .ok (.iaload, 1)) {cells slots : Nat}
    (kk : W p l e R s m args below meth c H locs cells slots Q (F0 m (pc + 1) ls (.int (wSw.getD y.toNatClampNeg 0) :: rest))) : W p l e R s m args below meth c H locs cells slots Q (F0 m pc ls (.int y :: eV (ad 36) x :: rest)) := by
  rw [eV_ref hx.1, show x.toNatClampNeg = 0 by have := iv_cl hx (by decide); have := hx.2; omega]
  exact va_ti hexec hb hG.2.2.1.2.2.2 hS (iv_in hy (by decide)) rfl hdg kk
theorem cw_key {x : Int32} (hexec : p.tables.exec = Jvm.exec) (hb : c.code = cc) (hG : CE ad A s) (hS : va_S A s.heap H locs) (hx : iv 0 33 x) (hown : s.vm.findClass own = some m.cls) (hlink : (Cond.fieldLink own index "WiredBeans$Word" "key" "J").before args s = true) (hdg : decode cc pc = .ok (.getfield index, 3)) {cells slots : Nat}
    (kk : W p l e R s m args below meth c H locs cells slots Q (F0 m (pc + 3) ls (.long (wKy.getD x.toNatClampNeg 0) :: rest))) : W p l e R s m args below meth c H locs cells slots Q (F0 m pc ls (eV (ad 33) x :: rest)) := by
  rw [eV_ref hx.1]
  exact vk_getf hexec hb (hG.2.2.1.1 x.toNatClampNeg (by have := iv_cl hx (by decide); have := hx.2; omega)).2.2.2 hS hown hlink (fun _ h9 => h9) hdg kk
end CMC
end
