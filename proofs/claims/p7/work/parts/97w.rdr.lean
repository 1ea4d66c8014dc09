/-- what is read so far as the reference's rows -/
def ELR (ch : Nat → Int) (w : El7) (gm : Nat → Nat → Int32) (lg : Nat → Nat → Int64) (e : Nat) (P : Int) : Prop := (gm 27 e).toInt = (w.1 : Int) ∧ (gm 28 e).toInt = w.2.1 ∧ lg 34 e = w.2.2.1 ∧ ATR w.2.2.2.1 gm lg e P ∧ w.2.2.2.1.length ≤ 12 ∧ (gm 31 e).toInt = (w.2.2.2.2.1 : Int) ∧ (gm 31 e).toInt + (gm 32 e).toInt = (w.2.2.2.2.2 : Int) ∧ ∃ b, sNm ch (w.1 + 1) = some (w.2.2.1, b)
def RDR (ch : Nat → Int) (D : List El7) (sg : Nat → Int32) (gm : Nat → Nat → Int32) (lg : Nat → Nat → Int64) : Prop := (sg 24).toInt = (D.length : Int) ∧ ∀ e w, D[e]? = some w → ELR ch w gm lg e (sg 25).toInt
theorem RDR_k {ch : Nat → Int} {D : List El7} {sg sg2 : Nat → Int32} {gm gm2 : Nat → Nat → Int32} {lg lg2 : Nat → Nat → Int64} (h : RDR ch D sg gm lg) (e24 : sg2 24 = sg 24) (e25 : sg2 25 = sg 25) (hg : ∀ k, k = 27 ∨ k = 28 ∨ k = 30 ∨ k = 31 ∨ k = 32 ∨ k = 36 ∨ k = 37 ∨ k = 38 → gm2 k = gm k) (hl : ∀ k, k = 34 ∨ k = 35 → lg2 k = lg k) : RDR ch D sg2 gm2 lg2 := by
  refine ⟨by rw [e24]; exact h.1, fun e w hw => ?_⟩
  obtain ⟨a1, a2, a3, a4, a5, a6, a7, a8⟩ := h.2 e w hw
  unfold ELR
  rw [hg 27 (by decide), hg 28 (by decide), hg 31 (by decide), hg 32 (by decide), hl 34 (by decide), e25]
  exact ⟨a1, a2, a3, ATR_k a4 (hg 30 (by decide)) (hg 36 (by decide)) (hg 37 (by decide)) (hl 35 (by decide)) (hg 38 (by decide)) (Int.le_refl _), a5, a6, a7, a8⟩
/-- one element more, as yet without attributes -/
theorem RDR_b {ch : Nat → Int} {D : List El7} {sg sg2 : Nat → Int32} {gm gm2 : Nat → Nat → Int32} {lg lg2 : Nat → Nat → Int64} {E p b : Nat} {a : Int32} {k : Int64} (h : RDR ch D sg gm lg) (hE : E = D.length) (hD : D.length < 80) (e24 : (sg2 24).toInt = (sg 24).toInt + 1) (e25 : sg2 25 = sg 25) (e27 : ∃ x, gm2 27 = upd (gm 27) E x ∧ x.toInt = (p : Int)) (e28 : gm2 28 = upd (gm 28) E a) (e30 : gm2 30 = upd (gm 30) E 0) (e31 : gm2 31 = upd (gm 31) E 0) (e32 : gm2 32 = upd (gm 32) E 0) (e36 : gm2 36 = gm 36) (e37 : gm2 37 = gm 37) (e38 : gm2 38 = gm 38) (e34 : lg2 34 = vp_updL (lg 34) E k) (e35 : lg2 35 = lg 35) (hn : sNm ch (p + 1) = some (k, b)) : RDR ch (D ++ [(p, a.toInt, k, [], 0, 0)]) sg2 gm2 lg2 := by
  have hl : (D ++ [((p, a.toInt, k, [], 0, 0) : El7)]).length = D.length + 1 := by rw [List.length_append]; rfl
  refine ⟨by rw [hl, e24, h.1]; omega, fun e w hw => ?_⟩
  have he := gl_lt hw
  rw [hl] at he
  obtain ⟨x, e27, hx⟩ := e27
  by_cases hq : e < D.length
  · rw [List.getElem?_append_left hq] at hw
    obtain ⟨a1, a2, a3, a4, a5, a6, a7, a8⟩ := h.2 e w hw
    have hne : e ≠ E := by omega
    unfold ELR
    rw [e27, e28, e31, e32, e34, e25, upd_o hne, upd_o hne, upd_o hne, upd_o hne, vp_uLn hne]
    exact ⟨a1, a2, a3, ATR_o a4 (e2 := E) ⟨fun j hj => by rw [e30, upd_o hj], fun j _ => by rw [e36, e37, e35]; exact ⟨rfl, rfl, rfl⟩, fun j _ => by rw [e38]⟩ hne a5 (Int.le_refl _), a5, a6, a7, a8⟩
  · have hq2 : e = E := by omega
    subst hq2
    rw [List.getElem?_append_right (by omega), show e - D.length = 0 by omega] at hw
    have hw : some ((p, a.toInt, k, [], 0, 0) : El7) = some w := hw
    cases hw
    unfold ELR
    rw [e27, e28, e31, e32, e34, e25, upd_at, upd_at, upd_at, upd_at, vp_uL]
    exact ⟨hx, rfl, rfl, ⟨by rw [e30, upd_at]; rfl, fun k y hy => by cases hy⟩, Nat.zero_le 12, rfl, rfl, b, hn⟩
/-- the newest element's attributes -/
theorem RDR_a {ch : Nat → Int} {D : List El7} {sg sg2 : Nat → Int32} {gm gm2 : Nat → Nat → Int32} {lg lg2 : Nat → Nat → Int64} {E p : Nat} {a : Int} {k : Int64} {q q2 : At7} (h : RDR ch (D ++ [(p, a, k, q, 0, 0)]) sg gm lg) (hE : E = D.length) (hD : D.length < 80) (e24 : sg2 24 = sg 24) (e25 : (sg 25).toInt ≤ (sg2 25).toInt) (hg : ∀ k, k = 27 ∨ k = 28 ∨ k = 31 ∨ k = 32 → gm2 k = gm k) (e34 : lg2 34 = lg 34) (hf : AFR E gm lg gm2 lg2 (sg 25).toInt) (hA : ATR q2 gm2 lg2 E (sg2 25).toInt) (hl2 : q2.length ≤ 12) : RDR ch (D ++ [(p, a, k, q2, 0, 0)]) sg2 gm2 lg2 := by
  have hl : ∀ y : El7, (D ++ [y]).length = D.length + 1 := fun y => by rw [List.length_append]; rfl
  refine ⟨by have := h.1; rw [hl] at this; rw [hl, e24]; exact this, fun e w hw => ?_⟩
  have he := gl_lt hw
  rw [hl] at he
  by_cases hq : e < D.length
  · rw [List.getElem?_append_left hq] at hw
    obtain ⟨a1, a2, a3, a4, a5, a6, a7, a8⟩ := h.2 e w (by rw [List.getElem?_append_left hq]; exact hw)
    have hne : e ≠ E := by omega
    unfold ELR
    rw [hg 27 (by decide), hg 28 (by decide), hg 31 (by decide), hg 32 (by decide), e34]
    exact ⟨a1, a2, a3, ATR_o a4 hf hne a5 e25, a5, a6, a7, a8⟩
  · have hq2 : e = E := by omega
    subst hq2
    have hx : (D ++ [((p, a, k, q, 0, 0) : El7)])[e]? = some (p, a, k, q, 0, 0) := by rw [List.getElem?_append_right (by omega), show e - D.length = 0 by omega]; rfl
    obtain ⟨a1, a2, a3, a4, a5, a6, a7, a8⟩ := h.2 e _ hx
    rw [List.getElem?_append_right (by omega), show e - D.length = 0 by omega] at hw
    have hw : some ((p, a, k, q2, 0, 0) : El7) = some w := hw
    cases hw
    unfold ELR
    rw [hg 27 (by decide), hg 28 (by decide), hg 31 (by decide), hg 32 (by decide), e34]
    exact ⟨a1, a2, a3, hA, hl2, a6, a7, a8⟩
theorem RDR_e {ch : Nat → Int} {D : List El7} {sg : Nat → Int32} {gm : Nat → Nat → Int32} {lg : Nat → Nat → Int64} {E p : Nat} {a : Int} {k : Int64} {q : At7} (h : RDR ch (D ++ [(p, a, k, q, 0, 0)]) sg gm lg) (hE : E = D.length) : ATR q gm lg E (sg 25).toInt ∧ q.length ≤ 12 := by
  have hx : (D ++ [((p, a, k, q, 0, 0) : El7)])[E]? = some (p, a, k, q, 0, 0) := by rw [List.getElem?_append_right (by omega), show E - D.length = 0 by omega]; rfl
  obtain ⟨a1, a2, a3, a4, a5, _⟩ := h.2 E _ hx
  exact ⟨a4, a5⟩
/-- what follows the attributes -/
def opT (ch : Nat → Int) (k : Int64) (o : Option (At7 × Nat)) : Option (Int64 × At7 × Bool × Nat) := match o with
  | none => none
  | some (q, e) => if ch e = 47 then (if ch (e + 1) = 62 then some (k, q, true, e + 2) else none) else if ch e = 62 then some (k, q, false, e + 1) else none
theorem sOp_t {ch : Nat → Int} {n cnt depth a b : Nat} {k : Int64} (h0 : ch a = 60 ∧ isLc (ch (a + 1)) ∧ depth < 6 ∧ cnt < 80) (h : sNm ch (a + 1) = some (k, b)) : sOp ch n cnt depth a = opT ch k (sAs ch n [] b) := by
  unfold sOp; rw [h, if_pos h0]; rfl
theorem opT_n {ch : Nat → Int} {k : Int64} : opT ch k none = none := rfl
theorem opT_x {ch : Nat → Int} {k : Int64} {q : At7} {e : Nat} (h : ¬ ch e = 47) (h2 : ¬ ch e = 62) : opT ch k (some (q, e)) = none := by
  show (if ch e = 47 then _ else if ch e = 62 then _ else none) = none; rw [if_neg h, if_neg h2]
theorem opT_o {ch : Nat → Int} {k : Int64} {q : At7} {e : Nat} (h : ¬ ch e = 47) (h2 : ch e = 62) : opT ch k (some (q, e)) = some (k, q, false, e + 1) := by
  show (if ch e = 47 then _ else if ch e = 62 then _ else none) = _; rw [if_neg h, if_pos h2]
theorem opT_c {ch : Nat → Int} {k : Int64} {q : At7} {e : Nat} (h : ch e = 47) (h2 : ch (e + 1) = 62) : opT ch k (some (q, e)) = some (k, q, true, e + 2) := by
  show (if ch e = 47 then (if ch (e + 1) = 62 then _ else none) else _) = _; rw [if_pos h, if_pos h2]
theorem opT_y {ch : Nat → Int} {k : Int64} {q : At7} {e : Nat} (h : ch e = 47) (h2 : ¬ ch (e + 1) = 62) : opT ch k (some (q, e)) = none := by
  show (if ch e = 47 then (if ch (e + 1) = 62 then _ else none) else _) = _; rw [if_pos h, if_neg h2]
theorem sAt_le {ch : Nat → Int} {n a : Nat} {at9 : At7} {r : At7 × Nat} (h : sAt ch n at9 a = some r) : r.1.length ≤ 12 := by
  unfold sAt at h
  split at h
  · cases h
  · rename_i h12
    cases hc : sNm ch a with
    | none => rw [hc] at h; cases h
    | some q =>
      obtain ⟨k, b⟩ := q
      rw [hc] at h
      have h : (if hasK at9 k = true then none else if ch b = 61 ∧ ch (b + 1) = 34 then (match sVa ch n [] (b + 2) with | none => none | some (v, e) => some (at9 ++ [(k, v)], e)) else none) = some r := h
      split at h
      · cases h
      · split at h
        · cases hv : sVa ch n [] (b + 2) with
          | none => rw [hv] at h; cases h
          | some w =>
            obtain ⟨v, e⟩ := w
            rw [hv] at h
            cases h
            show (at9 ++ [(k, v)]).length ≤ 12
            rw [List.length_append]
            show at9.length + 1 ≤ 12
            omega
        · cases h
