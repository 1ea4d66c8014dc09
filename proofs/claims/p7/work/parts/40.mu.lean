/-- what is left to do of a frame; w is 1 for one that waits -/
def vF (p9 ix it : Int32) (w : Nat) : Nat := 2 * (1080 - (216 * p9.toNatClampNeg + 8 * ix.toNatClampNeg + it.toNatClampNeg)) - (if 3 ≤ p9.toNatClampNeg then w else 0)
def muW (gm : Nat → Nat → Int32) : Nat → Nat
  | 0 => 0
  | k + 1 => muW gm k + vF (gm 65 k) (gm 66 k) (gm 67 k) 1 * 4096 ^ (80 - k)
def mu (sg : Nat → Int32) (gm : Nat → Nat → Int32) : Nat := if (sg 63).toNatClampNeg = 0 then 0 else muW gm (TOPn sg) + vF (gm 65 (TOPn sg)) (gm 66 (TOPn sg)) (gm 67 (TOPn sg)) 0 * 4096 ^ (80 - TOPn sg)
theorem muW_k {gm gm2 : Nat → Nat → Int32} : ∀ k, (∀ j, j < k → gm2 65 j = gm 65 j ∧ gm2 66 j = gm 66 j ∧ gm2 67 j = gm 67 j) → muW gm2 k = muW gm k := by
  intro k
  induction k with
  | zero => intro _; rfl
  | succ k ih =>
    intro h
    show muW gm2 k + _ = muW gm k + _
    obtain ⟨a, b, d⟩ := h k (by omega)
    rw [ih (fun j hj => h j (by omega)), a, b, d]
theorem vF_le (p9 ix it : Int32) (w : Nat) : vF p9 ix it w ≤ 2160 := by unfold vF; omega
theorem cl_0 {x : Int32} (h : 0 ≤ x.toInt) : ((x.toNatClampNeg : Nat) : Int) = x.toInt := iv_cl (a := 0) (b := x.toInt) ⟨h, Int.le_refl _⟩ (by decide)
theorem mu_top {sg sg2 : Nat → Int32} {gm gm2 : Nat → Nat → Int32} (h1 : 1 ≤ (sg 63).toInt) (h63 : sg2 63 = sg 63) (hk : ∀ j, j < TOPn sg → gm2 65 j = gm 65 j ∧ gm2 66 j = gm 66 j ∧ gm2 67 j = gm 67 j)
    (hv : vF (gm2 65 (TOPn sg)) (gm2 66 (TOPn sg)) (gm2 67 (TOPn sg)) 0 < vF (gm 65 (TOPn sg)) (gm 66 (TOPn sg)) (gm 67 (TOPn sg)) 0) : mu sg2 gm2 < mu sg gm := by
  have e1 : TOPn sg2 = TOPn sg := by unfold TOPn; rw [h63]
  have e2 : ¬ (sg 63).toNatClampNeg = 0 := by have := cl_0 (x := sg 63) (by omega); omega
  have hp : 0 < 4096 ^ (80 - TOPn sg) := Nat.pow_pos (by decide)
  have h3 := Nat.mul_le_mul_right (4096 ^ (80 - TOPn sg)) (Nat.succ_le_of_lt hv)
  rw [Nat.succ_mul] at h3
  unfold mu
  rw [h63, e1, if_neg e2, if_neg e2, muW_k _ hk]
  omega
theorem mu_push {sg sg2 : Nat → Int32} {gm gm2 : Nat → Nat → Int32} (h1 : 1 ≤ (sg 63).toInt) (h79 : (sg 63).toInt ≤ 79) (h63 : (sg2 63).toInt = (sg 63).toInt + 1) (hk : ∀ j, j < TOPn sg → gm2 65 j = gm 65 j ∧ gm2 66 j = gm 66 j ∧ gm2 67 j = gm 67 j)
    (hv : vF (gm2 65 (TOPn sg)) (gm2 66 (TOPn sg)) (gm2 67 (TOPn sg)) 1 < vF (gm 65 (TOPn sg)) (gm 66 (TOPn sg)) (gm 67 (TOPn sg)) 0) : mu sg2 gm2 < mu sg gm := by
  have k1 := cl_0 (x := sg 63) (by omega)
  have k2 := cl_0 (x := sg2 63) (by omega)
  have e1 : TOPn sg2 = TOPn sg + 1 := by unfold TOPn; omega
  have e2 : ¬ (sg 63).toNatClampNeg = 0 := by omega
  have e3 : ¬ (sg2 63).toNatClampNeg = 0 := by omega
  have e4 : 80 - TOPn sg = (80 - (TOPn sg + 1)) + 1 := by unfold TOPn; omega
  have hp : 0 < 4096 ^ (80 - (TOPn sg + 1)) := Nat.pow_pos (by decide)
  unfold mu
  rw [if_neg e2, if_neg e3, e1]
  show muW gm2 (TOPn sg) + vF (gm2 65 (TOPn sg)) (gm2 66 (TOPn sg)) (gm2 67 (TOPn sg)) 1 * 4096 ^ (80 - TOPn sg) + _ < _
  rw [muW_k _ hk, e4, Nat.pow_succ]
  generalize 4096 ^ (80 - (TOPn sg + 1)) = P at *
  have hn := vF_le (gm2 65 (TOPn sg + 1)) (gm2 66 (TOPn sg + 1)) (gm2 67 (TOPn sg + 1)) 0
  generalize vF (gm2 65 (TOPn sg + 1)) (gm2 66 (TOPn sg + 1)) (gm2 67 (TOPn sg + 1)) 0 = vn at *
  generalize vF (gm2 65 (TOPn sg)) (gm2 66 (TOPn sg)) (gm2 67 (TOPn sg)) 1 = v1 at *
  generalize vF (gm 65 (TOPn sg)) (gm 66 (TOPn sg)) (gm 67 (TOPn sg)) 0 = v0 at *
  have h3 := Nat.mul_le_mul_right (P * 4096) (Nat.succ_le_of_lt hv)
  rw [Nat.succ_mul] at h3
  have h4 := Nat.mul_le_mul_right P hn
  omega
theorem mu_pop {sg sg2 : Nat → Int32} {gm gm2 : Nat → Nat → Int32} (h1 : 2 ≤ (sg 63).toInt) (h80 : (sg 63).toInt ≤ 80) (h63 : (sg2 63).toInt = (sg 63).toInt - 1) (hk : ∀ j, j < TOPn sg2 → gm2 65 j = gm 65 j ∧ gm2 66 j = gm 66 j ∧ gm2 67 j = gm 67 j)
    (hv : vF (gm2 65 (TOPn sg2)) (gm2 66 (TOPn sg2)) (gm2 67 (TOPn sg2)) 0 ≤ vF (gm 65 (TOPn sg2)) (gm 66 (TOPn sg2)) (gm 67 (TOPn sg2)) 1) (hq : 1 ≤ vF (gm 65 (TOPn sg)) (gm 66 (TOPn sg)) (gm 67 (TOPn sg)) 0) : mu sg2 gm2 < mu sg gm := by
  have k1 := cl_0 (x := sg 63) (by omega)
  have k2 := cl_0 (x := sg2 63) (by omega)
  have e1 : TOPn sg = TOPn sg2 + 1 := by unfold TOPn; omega
  have e2 : ¬ (sg 63).toNatClampNeg = 0 := by omega
  have e3 : ¬ (sg2 63).toNatClampNeg = 0 := by omega
  have hp : 0 < 4096 ^ (80 - TOPn sg) := Nat.pow_pos (by decide)
  have h3 := Nat.mul_le_mul_right (4096 ^ (80 - TOPn sg2)) hv
  have h4 := Nat.mul_le_mul_right (4096 ^ (80 - TOPn sg)) hq
  rw [Nat.one_mul] at h4
  unfold mu
  rw [if_neg e2, if_neg e3]
  have e5 : muW gm (TOPn sg) = muW gm (TOPn sg2) + vF (gm 65 (TOPn sg2)) (gm 66 (TOPn sg2)) (gm 67 (TOPn sg2)) 1 * 4096 ^ (80 - TOPn sg2) := by rw [e1]; rfl
  rw [e5, muW_k _ hk]
  omega
/-- the pile between two steps -/
def INVp (sg : Nat → Int32) (gm : Nat → Nat → Int32) (lg : Nat → Nat → Int64) : Prop := INVo sg gm lg ∧ ∀ j, j + 1 < (sg 63).toNatClampNeg → 1 ≤ (gm 65 j).toInt
def STEP (sg : Nat → Int32) (gm : Nat → Nat → Int32) (sg2 : Nat → Int32) (gm2 : Nat → Nat → Int32) (lg2 : Nat → Nat → Int64) : Prop := INVp sg2 gm2 lg2 ∧ mu sg2 gm2 < mu sg gm
theorem FR_mv {sg sg2 : Nat → Int32} {gm gm2 : Nat → Nat → Int32} {lg lg2 : Nat → Nat → Int64} {j : Nat} {w : Int} (q : FR sg gm lg j w) (h : DK sg gm lg sg2 gm2 lg2) (h44 : gm2 44 = gm 44) (h45 : gm2 45 = gm 45) (h1 : lg2 1 = lg 1) (ho : ∀ k, 0 ≤ (gm 60 k).toInt → 0 ≤ (gm2 60 k).toInt) (h64 : gm2 64 j = gm 64 j) (h65 : gm2 65 j = gm 65 j) (h66 : gm2 66 j = gm 66 j) (h67 : gm2 67 j = gm 67 j) (h69 : gm2 69 j = gm 69 j) : FR sg2 gm2 lg2 j w := by
  unfold FR at *
  rw [h64, h65, h66, h67, h69]
  exact FRv_k h h44 h45 h1 ho q
theorem PIL_top {sg : Nat → Int32} {gm : Nat → Nat → Int32} (h : PIL sg gm) (h1 : 1 ≤ (sg 63).toInt) : ¬ gm 62 (gm 64 (TOPn sg)).toNatClampNeg = 0 ∧ iv 0 79 (gm 64 (TOPn sg)) ∧ (gm 64 (TOPn sg)).toInt < (sg 41).toInt := by
  have k1 := cl_0 (x := sg 63) (by omega)
  obtain ⟨a, b, d, _⟩ := h (TOPn sg) (by unfold TOPn; omega)
  exact ⟨a, b, d⟩
theorem LIM_nn {sg : Nat → Int32} {gm : Nat → Nat → Int32} {lg : Nat → Nat → Int64} {x : Int32} (hI : MI sg gm) (hd : DOC sg gm lg) (hx : iv 0 79 x) (hl : x.toNatClampNeg < (sg 24).toNatClampNeg) : 0 ≤ LIM sg gm x := (LIM_iv hd.1.1 (show iv 0 80 (sg 24) from MI_s hI 24) hd.1.2.1 hx hl).1
theorem LM_nn {sg : Nat → Int32} {gm : Nat → Nat → Int32} {lg : Nat → Nat → Int64} {b p9 ix : Int32} (hI : MI sg gm) (hd : DOC sg gm lg) (hb : iv 0 79 b) (hbl : b.toInt < (sg 41).toInt) (hix : 0 ≤ ix.toInt) : 0 ≤ LM sg gm lg b p9 ix := by
  unfold LM
  by_cases q : p9.toInt = 3
  · rw [if_pos q]
    by_cases q2 : mArg sg gm lg b ix.toNatClampNeg = -1
    · rw [if_pos q2]; exact Int.le_refl _
    · rw [if_neg q2]
      obtain ⟨a1, a2, a3⟩ := arg_el (show iv 0 80 (sg 24) from MI_s hI 24) rfl q2
      exact LIM_nn hI hd a1 a2
  · rw [if_neg q]
    by_cases q2 : ix.toInt < (gm 44 b.toNatClampNeg).toInt
    · rw [if_pos q2]
      have kb := iv_cl hb (by decide)
      have k3 := hb.2
      have k4 := cl_0 hix
      have k5 := cl_0 (x := gm 44 b.toNatClampNeg) (by omega)
      have k6 := cl_0 (x := sg 41) (by have := hb.1; omega)
      have := hd.2 b.toNatClampNeg (by omega) ix.toNatClampNeg (by omega)
      exact LIM_nn hI hd this.1 this.2.2
    · rw [if_neg q2]; exact Int.le_refl _
/-- the one on top goes on -/
theorem ST_top {sg sg2 : Nat → Int32} {gm gm2 : Nat → Nat → Int32} {lg lg2 : Nat → Nat → Int64} (hi : INVp sg gm lg) (h1 : 1 ≤ (sg 63).toInt) (h : DK sg gm lg sg2 gm2 lg2) (h44 : gm2 44 = gm 44) (h45 : gm2 45 = gm 45) (hl1 : lg2 1 = lg 1) (ho : ∀ k, 0 ≤ (gm 60 k).toInt → 0 ≤ (gm2 60 k).toInt) (h63 : sg2 63 = sg 63) (h62 : gm2 62 = gm 62) (h64 : gm2 64 = gm 64)
    (h65 : ∀ j, j ≠ TOPn sg → gm2 65 j = gm 65 j) (h66 : ∀ j, j ≠ TOPn sg → gm2 66 j = gm 66 j) (h67 : ∀ j, j ≠ TOPn sg → gm2 67 j = gm 67 j) (h69 : ∀ j, j ≠ TOPn sg → gm2 69 j = gm 69 j)
    (hfr : FRv sg2 gm2 lg2 (gm 64 (TOPn sg)) (gm2 65 (TOPn sg)) (gm2 66 (TOPn sg)) (gm2 67 (TOPn sg)) (gm2 69 (TOPn sg)) 0)
    (hv : vF (gm2 65 (TOPn sg)) (gm2 66 (TOPn sg)) (gm2 67 (TOPn sg)) 0 < vF (gm 65 (TOPn sg)) (gm 66 (TOPn sg)) (gm 67 (TOPn sg)) 0) : STEP sg gm sg2 gm2 lg2 := by
  have k1 := cl_0 (x := sg 63) (by omega)
  have e1 : TOPn sg2 = TOPn sg := by unfold TOPn; rw [h63]
  have hne : ∀ j, j + 1 < (sg 63).toNatClampNeg → j ≠ TOPn sg := fun j hj => by unfold TOPn; omega
  refine ⟨⟨⟨PIL_k h63 h.2.1 h62 h64 hi.1.1, fun j hj => ?_, Or.inr ?_⟩, fun j hj => ?_⟩, mu_top h1 h63 (fun j hj => ⟨h65 j (by omega), h66 j (by omega), h67 j (by omega)⟩) hv⟩
  · rw [h63] at hj
    have q := hne j hj
    exact FR_mv (hi.1.2.1 j hj) h h44 h45 hl1 ho (by rw [h64]) (h65 j q) (h66 j q) (h67 j q) (h69 j q)
  · rw [e1]; unfold FR; rw [h64]; exact hfr
  · rw [h63] at hj
    rw [h65 j (hne j hj)]; exact hi.2 j hj
/-- the one on top waits for another, which is put on it -/
theorem ST_push {sg sg2 : Nat → Int32} {gm gm2 : Nat → Nat → Int32} {lg lg2 : Nat → Nat → Int64} {b : Int32} {g65 g67 : Nat → Int32} (hi : INVp sg gm lg) (h1 : 1 ≤ (sg 63).toInt) (h : DK sg gm lg sg2 gm2 lg2) (h44 : gm2 44 = gm 44) (h45 : gm2 45 = gm 45) (hl1 : lg2 1 = lg 1) (ho : ∀ k, 0 ≤ (gm 60 k).toInt → 0 ≤ (gm2 60 k).toInt)
    (h63 : (sg2 63).toInt = (sg 63).toInt + 1) (h79 : (sg 63).toInt ≤ 79) (h64 : gm2 64 = upd (gm 64) (sg 63).toNatClampNeg b) (h65 : gm2 65 = upd g65 (sg 63).toNatClampNeg 0) (h66 : gm2 66 = upd (gm 66) (sg 63).toNatClampNeg 0) (h67 : gm2 67 = upd g67 (sg 63).toNatClampNeg 0) (h69 : gm2 69 = upd (gm 69) (sg 63).toNatClampNeg (-1)) (h62 : gm2 62 = upd (gm 62) b.toNatClampNeg 1) (hb0 : gm 62 b.toNatClampNeg = 0) (hb : iv 0 79 b) (hbl : b.toInt < (sg 41).toInt)
    (hk65 : ∀ j, j ≠ TOPn sg → g65 j = gm 65 j) (hk67 : ∀ j, j ≠ TOPn sg → g67 j = gm 67 j) (hfr : FRv sg gm lg (gm 64 (TOPn sg)) (g65 (TOPn sg)) (gm 66 (TOPn sg)) (g67 (TOPn sg)) (gm 69 (TOPn sg)) 1) (hp1 : 1 ≤ (g65 (TOPn sg)).toInt)
    (hv : vF (g65 (TOPn sg)) (gm 66 (TOPn sg)) (g67 (TOPn sg)) 1 < vF (gm 65 (TOPn sg)) (gm 66 (TOPn sg)) (gm 67 (TOPn sg)) 0) : STEP sg gm sg2 gm2 lg2 := by
  have k1 := cl_0 (x := sg 63) (by omega)
  have k2 := cl_0 (x := sg2 63) (by omega)
  have kb := iv_cl hb (by decide)
  have e1 : TOPn sg2 = (sg 63).toNatClampNeg := by unfold TOPn; omega
  have et : TOPn sg + 1 = (sg 63).toNatClampNeg := by unfold TOPn; omega
  have f65 : ∀ j, j < (sg 63).toNatClampNeg → gm2 65 j = g65 j := fun j hj => by rw [h65, upd_ne (by omega)]
  have f66 : ∀ j, j < (sg 63).toNatClampNeg → gm2 66 j = gm 66 j := fun j hj => by rw [h66, upd_ne (by omega)]
  have f67 : ∀ j, j < (sg 63).toNatClampNeg → gm2 67 j = g67 j := fun j hj => by rw [h67, upd_ne (by omega)]
  have f64 : ∀ j, j < (sg 63).toNatClampNeg → gm2 64 j = gm 64 j := fun j hj => by rw [h64, upd_ne (by omega)]
  have f69 : ∀ j, j < (sg 63).toNatClampNeg → gm2 69 j = gm 69 j := fun j hj => by rw [h69, upd_ne (by omega)]
  refine ⟨⟨⟨fun j hj => ?_, fun j hj => ?_, Or.inr ?_⟩, fun j hj => ?_⟩, mu_push h1 h79 h63 (fun j hj => ?_) ?_⟩
  · by_cases q : j = (sg 63).toNatClampNeg
    · subst q
      rw [show gm2 64 (sg 63).toNatClampNeg = b by rw [h64, upd_at], h.2.1]
      refine ⟨by rw [h62, upd_at]; decide, hb, hbl, fun i hi9 => ?_⟩
      rw [f64 i hi9]
      intro q9
      have := (hi.1.1 i hi9).1
      rw [q9] at this
      exact this hb0
    · have hj2 : j < (sg 63).toNatClampNeg := by omega
      obtain ⟨a1, a2, a3, a4⟩ := hi.1.1 j hj2
      rw [f64 j hj2, h.2.1]
      refine ⟨?_, a2, a3, fun i hi9 => by rw [f64 i (by omega)]; exact a4 i hi9⟩
      rw [h62]
      by_cases q5 : (gm 64 j).toNatClampNeg = b.toNatClampNeg
      · rw [q5, upd_at]; decide
      · rw [upd_ne q5]; exact a1
  · have hj2 : j < (sg 63).toNatClampNeg := by omega
    by_cases q : j = TOPn sg
    · unfold FR
      rw [f64 j hj2, f65 j hj2, f66 j hj2, f67 j hj2, f69 j hj2, q]
      exact FRv_k h h44 h45 hl1 ho hfr
    · exact FR_mv (hi.1.2.1 j (by omega)) h h44 h45 hl1 ho (f64 j hj2) (by rw [f65 j hj2, hk65 j q]) (f66 j hj2) (by rw [f67 j hj2, hk67 j q]) (f69 j hj2)
  · rw [e1]
    unfold FR
    rw [show gm2 65 (sg 63).toNatClampNeg = 0 by rw [h65, upd_at], show gm2 66 (sg 63).toNatClampNeg = 0 by rw [h66, upd_at], show gm2 67 (sg 63).toNatClampNeg = 0 by rw [h67, upd_at]]
    exact ⟨fun z => absurd z (by decide), fun _ => ⟨rfl, rfl⟩, fun z => absurd z (by decide), fun z => absurd z (by decide)⟩
  · have hj2 : j < (sg 63).toNatClampNeg := by omega
    rw [f65 j hj2]
    by_cases q : j = TOPn sg
    · rw [q]; exact hp1
    · rw [hk65 j q]; exact hi.2 j (by omega)
  · exact ⟨by rw [f65 j (by omega), hk65 j (by omega)], f66 j (by omega), by rw [f67 j (by omega), hk67 j (by omega)]⟩
  · rw [f65 _ (by omega), f66 _ (by omega), f67 _ (by omega)]; exact hv
def FIN (sg : Nat → Int32) (gm : Nat → Nat → Int32) (b : Int32) (sg2 : Nat → Int32) (gm2 : Nat → Nat → Int32) : Prop := (sg2 63).toInt = (sg 63).toInt - 1 ∧ gm2 62 = upd (gm 62) b.toNatClampNeg 0 ∧ ((sg 63).toInt = 1 ∧ gm2 67 = gm 67 ∨ DLV sg2 gm gm2)
theorem vF_d3 {p9 ix it it2 : Int32} (h3 : 3 ≤ p9.toInt) (hi : 0 ≤ it.toInt) (hd : it2.toInt = it.toInt + 1) (hr : iv 0 4 p9) (h2 : iv 0 26 ix) (h6 : it.toInt ≤ 6) : vF p9 ix it2 0 ≤ vF p9 ix it 1 := by
  have k1 := cl_0 (x := p9) (by omega)
  have k2 := cl_0 hi
  have k3 := cl_0 (x := it2) (by omega)
  have k4 := iv_cl h2 (by decide)
  have k5 := h2.2
  have k6 := hr.2
  unfold vF
  rw [if_pos (by omega), if_pos (by omega)]
  omega
theorem vF_w2 {p9 ix it : Int32} (h3 : p9.toInt ≤ 2) (h0 : 0 ≤ p9.toInt) : vF p9 ix it 1 = vF p9 ix it 0 := by
  have k1 := cl_0 h0
  unfold vF
  rw [if_neg (by omega), if_neg (by omega)]
theorem vF_1 {p9 ix it : Int32} (hr : iv 0 4 p9) (h2 : iv 0 26 ix) (h6 : iv 0 6 it) : 1 ≤ vF p9 ix it 0 := by
  have k1 := iv_cl hr (by decide)
  have k4 := iv_cl h2 (by decide)
  have k2 := iv_cl h6 (by decide)
  have := h2.2
  have := hr.2
  have := h6.2
  unfold vF
  by_cases q : 3 ≤ p9.toNatClampNeg
  · rw [if_pos q]; omega
  · rw [if_neg q]; omega
theorem vF_p {p9 ix it p2 ix2 : Int32} (hr : iv 0 4 p9) (hq : p2.toInt = p9.toInt + 1) (h4 : p2.toInt ≤ 4) (h2 : iv 0 26 ix) (h6 : iv 0 6 it) (hx : ix2.toInt = 0) : vF p2 ix2 it 0 < vF p9 ix it 0 := by
  have k1 := iv_cl hr (by decide)
  have k3 := cl_0 (x := p2) (by have := hr.1; omega)
  have k4 := iv_cl h2 (by decide)
  have k2 := iv_cl h6 (by decide)
  have k5 := cl_0 (x := ix2) (by omega)
  have := h2.2
  have := hr.2
  have := h6.2
  unfold vF
  by_cases q : 3 ≤ p9.toNatClampNeg
  · rw [if_pos q, if_pos (by omega)]; omega
  · rw [if_neg q]
    by_cases q2 : 3 ≤ p2.toNatClampNeg
    · rw [if_pos q2]; omega
    · rw [if_neg q2]; omega
theorem vF_n {p9 ix it ix2 it2 : Int32} (hr : iv 0 4 p9) (h2 : iv 0 26 ix) (h3 : ix2.toInt = ix.toInt + 1) (h7 : ix2.toInt ≤ 26) (h6 : iv 0 6 it) (hx : it2.toInt = 0) : vF p9 ix2 it2 0 < vF p9 ix it 0 := by
  have k1 := iv_cl hr (by decide)
  have k3 := cl_0 (x := ix2) (by have := h2.1; omega)
  have k4 := iv_cl h2 (by decide)
  have k2 := iv_cl h6 (by decide)
  have k5 := cl_0 (x := it2) (by omega)
  have := h2.2
  have := hr.2
  have := h6.2
  unfold vF
  by_cases q : 3 ≤ p9.toNatClampNeg
  · rw [if_pos q]; omega
  · rw [if_neg q]; omega
theorem vF_i {p9 ix it it2 : Int32} (hr : iv 0 4 p9) (h3 : 3 ≤ p9.toInt) (h2 : iv 0 26 ix) (h6 : iv 0 6 it) (hx : it.toInt ≤ it2.toInt) : vF p9 ix it2 1 < vF p9 ix it 0 := by
  have k1 := iv_cl hr (by decide)
  have k4 := iv_cl h2 (by decide)
  have k2 := iv_cl h6 (by decide)
  have k5 := cl_0 (x := it2) (by have := h6.1; omega)
  have := h2.2
  have := hr.2
  have := h6.2
  unfold vF
  rw [if_pos (by omega), if_pos (by omega)]; omega
/-- the one on top is done: the one below it takes it -/
theorem ST_pop {sg sg2 : Nat → Int32} {gm gm2 : Nat → Nat → Int32} {lg lg2 : Nat → Nat → Int64} (hI : MI sg gm) (hi : INVp sg gm lg) (h1 : 1 ≤ (sg 63).toInt) (h : DK sg gm lg sg2 gm2 lg2) (h44 : gm2 44 = gm 44) (h45 : gm2 45 = gm 45) (hl1 : lg2 1 = lg 1) (ho : gm2 60 = gm 60) (hf : FIN sg gm (gm 64 (TOPn sg)) sg2 gm2) (h64 : gm2 64 = gm 64) (h65 : gm2 65 = gm 65) (h66 : gm2 66 = gm 66) (h69 : gm2 69 = gm 69) : STEP sg gm sg2 gm2 lg2 := by
  obtain ⟨h63, h62, hd⟩ := hf
  have h80 := (show iv 0 80 (sg 63) from MI_s hI 63).2
  have k1 := cl_0 (x := sg 63) (by omega)
  have k2 := cl_0 (x := sg2 63) (by omega)
  have tlt : TOPn sg < 81 := by unfold TOPn; omega
  have mb := PIL_top hi.1.1 h1
  have hpi : PIL sg2 gm2 := fun j hj => by
    have hj2 : j < (sg 63).toNatClampNeg := by omega
    obtain ⟨a1, a2, a3, a4⟩ := hi.1.1 j hj2
    rw [h64, h.2.1]
    refine ⟨?_, a2, a3, a4⟩
    rw [h62, upd_ne ?_]
    · exact a1
    · intro q9
      have e9 : gm 64 j = gm 64 (TOPn sg) := Int32.toInt_inj.mp (by have := iv_cl a2 (by decide); have := iv_cl mb.2.1 (by decide); omega)
      exact (hi.1.1 (TOPn sg) (by unfold TOPn; omega)).2.2.2 j (by unfold TOPn; omega) e9
  by_cases q1 : (sg 63).toInt = 1
  · refine ⟨⟨⟨hpi, fun j hj => by omega, Or.inl (by omega)⟩, fun j hj => by omega⟩, ?_⟩
    have e2 : ¬ (sg 63).toNatClampNeg = 0 := by omega
    have e3 : (sg2 63).toNatClampNeg = 0 := by omega
    have hp : 0 < 4096 ^ (80 - TOPn sg) := Nat.pow_pos (by decide)
    have hq := vF_1 (show iv 0 4 (gm 65 (TOPn sg)) from hI.2 65 _ tlt) (show iv 0 26 (gm 66 (TOPn sg)) from hI.2 66 _ tlt) (show iv 0 6 (gm 67 (TOPn sg)) from hI.2 67 _ tlt)
    have h4 := Nat.mul_le_mul_right (4096 ^ (80 - TOPn sg)) hq
    rw [Nat.one_mul] at h4
    unfold mu
    rw [if_pos e3, if_neg e2]
    omega
  · have e1 : TOPn sg2 + 1 = TOPn sg := by unfold TOPn; omega
    have t2 : TOPn sg2 < 81 := by omega
    have hdl : DLV sg2 gm gm2 := hd.resolve_left (fun q => q1 q.1)
    have f67 : ∀ j, j ≠ TOPn sg2 → gm2 67 j = gm 67 j := fun j hj => by
      rcases hdl with ⟨_, q⟩ | ⟨_, v, q, _⟩
      · rw [q]
      · rw [q, upd_ne hj]
    have w4 := show iv 0 4 (gm 65 (TOPn sg2)) from hI.2 65 _ t2
    have w26 := show iv 0 26 (gm 66 (TOPn sg2)) from hI.2 66 _ t2
    have w6 := show iv 0 6 (gm 67 (TOPn sg2)) from hI.2 67 _ t2
    refine ⟨⟨⟨hpi, fun j hj => ?_, Or.inr ?_⟩, fun j hj => by rw [h65]; exact hi.2 j (by omega)⟩, mu_pop (by omega) h80 h63 (fun j hj => ⟨by rw [h65], by rw [h66], f67 j (by omega)⟩) ?_ ?_⟩
    · exact FR_mv (hi.1.2.1 j (by omega)) h h44 h45 hl1 (fun k hk => by rw [ho]; exact hk) (by rw [h64]) (by rw [h65]) (by rw [h66]) (f67 j (by unfold TOPn; omega)) (by rw [h69])
    · have hfr := hi.1.2.1 (TOPn sg2) (by unfold TOPn; omega)
      unfold FR at *
      rw [h64, h65, h66, h69]
      refine FRv_k h h44 h45 hl1 (fun k hk => by rw [ho]; exact hk) ?_
      obtain ⟨a1, a2, a3, a4⟩ := hfr
      rcases hdl with ⟨q, q2⟩ | ⟨q, v, q2, q3⟩
      · rw [q2]; exact ⟨fun z => by omega, a2, a3, a4⟩
      · rw [q2, upd_at]
        exact ⟨fun z => by have := a1 z; omega, fun z => by omega, a3, a4⟩
    · rw [h65, h66]
      rcases hdl with ⟨q, q2⟩ | ⟨q, v, q2, q3⟩
      · rw [q2, vF_w2 q w4.1]; exact Nat.le_refl _
      · rw [q2, upd_at]
        exact vF_d3 q w6.1 q3 w4 w26 w6.2
    · exact vF_1 (show iv 0 4 (gm 65 (TOPn sg)) from hI.2 65 _ tlt) (show iv 0 26 (gm 66 (TOPn sg)) from hI.2 66 _ tlt) (show iv 0 6 (gm 67 (TOPn sg)) from hI.2 67 _ tlt)
theorem cnt1_k {f g : Nat → Int32} : ∀ k, (∀ j, j < k → g j = f j) → cnt1 g k = cnt1 f k := by
  intro k
  induction k with
  | zero => intro _; rfl
  | succ k ih => intro h; show cnt1 g k + _ = cnt1 f k + _; rw [ih (fun j hj => h j (by omega)), h k (by omega)]
theorem cnt1_le (f : Nat → Int32) : ∀ k, cnt1 f k ≤ k := by
  intro k
  induction k with
  | zero => exact Nat.le_refl 0
  | succ k ih =>
    show cnt1 f k + _ ≤ k + 1
    by_cases q : f k = 0
    · rw [if_pos q]; omega
    · rw [if_neg q]; omega
theorem cnt1_up {f : Nat → Int32} {b : Nat} (h : f b = 0) : ∀ k, b < k → cnt1 (upd f b 1) k = cnt1 f k + 1 ∧ cnt1 f k + 1 ≤ k := by
  intro k
  induction k with
  | zero => intro hb; omega
  | succ k ih =>
    intro hb
    show cnt1 (upd f b 1) k + _ = cnt1 f k + _ + 1 ∧ cnt1 f k + _ + 1 ≤ k + 1
    by_cases q : b = k
    · subst q
      have h1 := cnt1_k (f := f) (g := upd f b 1) b (fun j hj => upd_ne (by omega))
      have h2 := cnt1_le f b
      rw [h1, upd_at, h, if_pos rfl, if_neg (by decide)]
      omega
    · obtain ⟨h1, h2⟩ := ih (by omega)
      rw [h1, upd_ne (Ne.symm q)]
      by_cases q2 : f k = 0
      · rw [if_pos q2]; omega
      · rw [if_neg q2]; omega
