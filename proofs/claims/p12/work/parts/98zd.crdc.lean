/-- the word of a key -/
def WKR (r : Int32) (k : Int64) : Prop := (0 ≤ r.toInt ∧ r.toInt ≤ 33 ∧ wKy.getD r.toNatClampNeg 0 = k) ∨ (r.toInt = -1 ∧ ∀ j, j < 34 → ¬ wKy.getD j 0 = k)
/-- the text of an element, in the class's rows -/
def TXC7 (w : El7) (gm : Nat → Nat → Int32) (e : Nat) : Prop := w.2.2.2.2.1 ≤ w.2.2.2.2.2.length ∧ w.2.2.2.2.1 ≤ 24 ∧ ∀ i x, w.2.2.2.2.2[i]? = some x → (i < 24 → (gm 56 (24 * e + i)).toInt = x ∨ (x = 32 ∧ (gm 56 (24 * e + i)).toInt = 10))
/-- what is read so far as the class's rows -/
def ELC (w : El7) (gm : Nat → Nat → Int32) (lg : Nat → Nat → Int64) (e : Nat) (P5 P6 : Int) : Prop := (gm 13 e).toInt = (w.1 : Int) ∧ (gm 15 e).toInt = w.2.1 ∧ WKR (gm 14 e) w.2.2.1 ∧ ATC w.2.2.2.1 gm lg e P5 P6 ∧ w.2.2.2.1.length ≤ 12 ∧ (gm 11 e).toInt = (w.2.2.2.2.1 : Int) ∧ (gm 12 e).toInt = (w.2.2.2.2.2.length : Int) ∧ lg 1 e = 0 ∧ TXC7 w gm e
def RDC (D : List El7) (sg : Nat → Int32) (gm : Nat → Nat → Int32) (lg : Nat → Nat → Int64) : Prop := (sg 4).toInt = (D.length : Int) ∧ LKS gm (sg 4).toNatClampNeg ∧ ∀ e w, D[e]? = some w → ELC w gm lg e (sg 5).toInt (sg 6).toInt
theorem RDC_k {D : List El7} {sg sg2 : Nat → Int32} {gm gm2 : Nat → Nat → Int32} {lg lg2 : Nat → Nat → Int64} (h : RDC D sg gm lg) (e4 : sg2 4 = sg 4) (e5 : sg2 5 = sg 5) (e6 : sg2 6 = sg 6) (hg : ∀ k, k = 11 ∨ k = 12 ∨ k = 13 ∨ k = 14 ∨ k = 15 ∨ k = 16 ∨ k = 17 ∨ k = 18 ∨ k = 19 ∨ k = 20 ∨ k = 44 ∨ k = 45 ∨ k = 46 ∨ k = 56 → gm2 k = gm k) (hl : lg2 0 = lg 0) (hl1 : lg2 1 = lg 1) : RDC D sg2 gm2 lg2 := by
  refine ⟨by rw [e4]; exact h.1, by rw [e4]; exact LKS_k h.2.1 (hg 15 (by decide)) (hg 16 (by decide)) (hg 17 (by decide)) (hg 18 (by decide)), fun e w hw => ?_⟩
  obtain ⟨a1, a2, a3, a4, a5, a6, a7⟩ := h.2.2 e w hw
  unfold ELC TXC7
  rw [hg 13 (by decide), hg 15 (by decide), hg 14 (by decide), hg 11 (by decide), hg 12 (by decide), hg 56 (by decide), e5, e6, hl1]
  exact ⟨a1, a2, a3, ATC_k a4 (hg 19 (by decide)) (hg 20 (by decide)) (hg 44 (by decide)) (hg 45 (by decide)) (hg 46 (by decide)) hl (Int.le_refl _) (Int.le_refl _), a5, a6, a7⟩
theorem RDC_0 {sg : Nat → Int32} {gm : Nat → Nat → Int32} {lg : Nat → Nat → Int64} (h : (sg 4).toInt = 0) : RDC [] sg gm lg := ⟨h, by have e : (sg 4).toNatClampNeg = 0 := (show (sg 4).toInt.toNat = 0 by omega); rw [e]; exact LKS_0, fun e w hw => by cases hw⟩
/-- one element more, as yet without attributes -/
theorem RDC_b {D : List El7} {sg sg2 : Nat → Int32} {gm gm2 : Nat → Nat → Int32} {lg lg2 : Nat → Nat → Int64} {p : Nat} {pl a wd : Int32} {k : Int64} (h : RDC D sg gm lg) (h0 : 0 ≤ (sg 4).toInt) (h5 : 0 ≤ (sg 5).toInt) (hp : pl.toInt = (p : Int)) (e4 : (sg2 4).toInt = (sg 4).toInt + 1) (e5 : sg2 5 = sg 5) (e6 : sg2 6 = sg 6) (hS : LKS gm2 ((sg 4).toNatClampNeg + 1)) (e11 : gm2 11 = upd (gm 11) (sg 4).toNatClampNeg 0) (e12 : gm2 12 = upd (gm 12) (sg 4).toNatClampNeg 0) (e13 : gm2 13 = upd (gm 13) (sg 4).toNatClampNeg pl) (e14 : ∃ g14 : Nat → Int32, gm2 14 = upd g14 (sg 4).toNatClampNeg wd ∧ ∀ j, j ≠ (sg 4).toNatClampNeg → g14 j = gm 14 j) (e15 : gm2 15 = upd (gm 15) (sg 4).toNatClampNeg a) (e19 : gm2 19 = upd (gm 19) (sg 4).toNatClampNeg (sg 5)) (e20 : gm2 20 = upd (gm 20) (sg 4).toNatClampNeg 0) (e44 : gm2 44 = gm 44) (e45 : gm2 45 = gm 45) (e46 : gm2 46 = gm 46) (e56 : gm2 56 = gm 56) (e0 : lg2 0 = lg 0) (hw : WKR wd k) (e1 : lg2 1 = vp_updL (lg 1) (sg 4).toNatClampNeg 0) : RDC (D ++ [(p, a.toInt, k, [], 0, [])]) sg2 gm2 lg2 := by
  have hl : (D ++ [((p, a.toInt, k, [], 0, []) : El7)]).length = D.length + 1 := by rw [List.length_append]; rfl
  have kE : (sg 4).toNatClampNeg = D.length := by have := h.1; show (sg 4).toInt.toNat = _; omega
  have k2 : (sg2 4).toNatClampNeg = (sg 4).toNatClampNeg + 1 := by show (sg2 4).toInt.toNat = (sg 4).toInt.toNat + 1; omega
  obtain ⟨g14, e14, f14⟩ := e14
  refine ⟨by rw [hl, e4, h.1]; omega, by rw [k2]; exact hS, fun e w hw' => ?_⟩
  have he := gl_lt hw'
  rw [hl] at he
  by_cases hq : e < D.length
  · rw [List.getElem?_append_left hq] at hw'
    obtain ⟨a1, a2, a3, a4, a5, a6, a7⟩ := h.2.2 e w hw'
    have hne : e ≠ (sg 4).toNatClampNeg := by omega
    unfold ELC TXC7
    rw [e56, e13, e15, e14, e11, e12, e5, e6, upd_ne hne, upd_ne hne, upd_ne hne, upd_ne hne, upd_ne hne, f14 e hne, e1, vp_uLn hne]
    refine ⟨a1, a2, a3, ?_, a5, a6, a7⟩
    unfold ATC
    rw [e19, e20, e44, e45, e46, e0, upd_ne hne, upd_ne hne]
    exact a4
  · have hq2 : e = (sg 4).toNatClampNeg := by omega
    subst hq2
    rw [List.getElem?_append_right (by omega), show (sg 4).toNatClampNeg - D.length = 0 by omega] at hw'
    have hw' : some ((p, a.toInt, k, [], 0, []) : El7) = some w := hw'
    cases hw'
    unfold ELC
    rw [e13, e15, e14, e11, e12, e5, e6, upd_at, upd_at, upd_at, upd_at, upd_at, e1, vp_uL]
    refine ⟨hp, rfl, hw, ?_, Nat.zero_le 12, rfl, rfl, rfl, Nat.le_refl _, Nat.zero_le _, fun i y hy => by cases hy⟩
    unfold ATC
    rw [e19, e20, upd_at, upd_at]
    exact ⟨rfl, h5, by show (sg 5).toInt + ((0 : Nat) : Int) ≤ (sg 5).toInt; omega, fun k y hy => by cases hy⟩
/-- the newest element's attributes -/
theorem RDC_a {D : List El7} {sg sg2 : Nat → Int32} {gm gm2 : Nat → Nat → Int32} {lg lg2 : Nat → Nat → Int64} {E p : Nat} {a : Int} {k : Int64} {q q2 : At7} (h : RDC (D ++ [(p, a, k, q, 0, [])]) sg gm lg) (hE : E = D.length) (e4 : sg2 4 = sg 4) (h5 : (sg 5).toInt ≤ (sg2 5).toInt) (h6 : (sg 6).toInt ≤ (sg2 6).toInt) (hg : ∀ k, k = 11 ∨ k = 12 ∨ k = 13 ∨ k = 14 ∨ k = 15 ∨ k = 16 ∨ k = 17 ∨ k = 18 ∨ k = 56 → gm2 k = gm k) (hf : AFC E gm lg gm2 lg2 (sg 5).toInt (sg 6).toInt) (hA : ATC q2 gm2 lg2 E (sg2 5).toInt (sg2 6).toInt) (hl2 : q2.length ≤ 12) (hl1 : lg2 1 = lg 1) : RDC (D ++ [(p, a, k, q2, 0, [])]) sg2 gm2 lg2 := by
  have hl : ∀ y : El7, (D ++ [y]).length = D.length + 1 := fun y => by rw [List.length_append]; rfl
  refine ⟨by have := h.1; rw [hl] at this; rw [hl, e4]; exact this, by rw [e4]; exact LKS_k h.2.1 (hg 15 (by decide)) (hg 16 (by decide)) (hg 17 (by decide)) (hg 18 (by decide)), fun e w hw => ?_⟩
  have he := gl_lt hw
  rw [hl] at he
  by_cases hq : e < D.length
  · rw [List.getElem?_append_left hq] at hw
    obtain ⟨a1, a2, a3, a4, a5, a6, a7⟩ := h.2.2 e w (by rw [List.getElem?_append_left hq]; exact hw)
    have hne : e ≠ E := by omega
    unfold ELC TXC7
    rw [hg 13 (by decide), hg 15 (by decide), hg 14 (by decide), hg 11 (by decide), hg 12 (by decide), hg 56 (by decide), hl1]
    exact ⟨a1, a2, a3, ATC_o a4 hf hne h5 h6, a5, a6, a7⟩
  · have hq2 : e = E := by omega
    subst hq2
    have hx : (D ++ [((p, a, k, q, 0, []) : El7)])[e]? = some (p, a, k, q, 0, []) := by rw [List.getElem?_append_right (by omega), show e - D.length = 0 by omega]; rfl
    obtain ⟨a1, a2, a3, a4, a5, a6, a7⟩ := h.2.2 e _ hx
    rw [List.getElem?_append_right (by omega), show e - D.length = 0 by omega] at hw
    have hw : some ((p, a, k, q2, 0, []) : El7) = some w := hw
    cases hw
    unfold ELC TXC7
    rw [hg 13 (by decide), hg 15 (by decide), hg 14 (by decide), hg 11 (by decide), hg 12 (by decide), hg 56 (by decide), hl1]
    exact ⟨a1, a2, a3, hA, hl2, a6, a7⟩
theorem RDC_e {D : List El7} {sg : Nat → Int32} {gm : Nat → Nat → Int32} {lg : Nat → Nat → Int64} {E p : Nat} {a : Int} {k : Int64} {q : At7} (h : RDC (D ++ [(p, a, k, q, 0, [])]) sg gm lg) (hE : E = D.length) : ATC q gm lg E (sg 5).toInt (sg 6).toInt ∧ (gm 15 E).toInt = a := by
  have hx : (D ++ [((p, a, k, q, 0, []) : El7)])[E]? = some (p, a, k, q, 0, []) := by rw [List.getElem?_append_right (by omega), show E - D.length = 0 by omega]; rfl
  obtain ⟨a1, a2, a3, a4, a5, _⟩ := h.2.2 E _ hx
  exact ⟨a4, a2⟩
/-- one character more, in the class -/
theorem CX7_n {w : El7} {gm gm2 : Nat → Nat → Int32} {E a b : Nat} {c : Int32} (h : TXC7 w gm E) (h11 : (gm 11 E).toInt = (w.2.2.2.2.1 : Int)) (h12 : (gm 12 E).toInt = (w.2.2.2.2.2.length : Int)) (hy : CY7 gm gm2 E c) (hs : sTn w.2.2.2.2.1 w.2.2.2.2.2.length c.toInt = some (a, b)) : TXC7 (w.1, w.2.1, w.2.2.1, w.2.2.2.1, a, tL w.2.2.2.2.1 w.2.2.2.2.2 c.toInt) gm2 E ∧ ∀ j, (j < 24 * E ∨ 24 * E + 24 ≤ j) → gm2 56 j = gm 56 j := by
  obtain ⟨p, pl, k, q, ts, L⟩ := w
  have h : ts ≤ L.length ∧ ts ≤ 24 ∧ ∀ i y, L[i]? = some y → (i < 24 → (gm 56 (24 * E + i)).toInt = y ∨ (y = 32 ∧ (gm 56 (24 * E + i)).toInt = 10)) := h
  have h11 : (gm 11 E).toInt = (ts : Int) := h11
  have h12 : (gm 12 E).toInt = (L.length : Int) := h12
  have hs : sTn ts L.length c.toInt = some (a, b) := hs
  have e12 : (gm 12 E).toNatClampNeg = L.length := by show (gm 12 E).toInt.toNat = _; omega
  show (a ≤ (tL ts L c.toInt).length ∧ a ≤ 24 ∧ ∀ i y, (tL ts L c.toInt)[i]? = some y → (i < 24 → (gm2 56 (24 * E + i)).toInt = y ∨ (y = 32 ∧ (gm2 56 (24 * E + i)).toInt = 10))) ∧ _
  unfold sTn at hs
  by_cases hw : isWc c.toInt
  · rw [if_pos hw] at hs
    have e1 : ts = a := congrArg Prod.fst (Option.some.inj hs)
    subst e1
    unfold tL
    rw [if_pos hw]
    rcases hy.1 hw with ⟨z0, z1⟩ | ⟨z0, z1⟩
    · rw [if_pos (by omega), z1]; exact ⟨h, fun _ _ => rfl⟩
    · rw [if_neg (by omega)]
      have key : ∀ i y, (L ++ [32])[i]? = some y → (i < 24 → (gm2 56 (24 * E + i)).toInt = y ∨ (y = 32 ∧ (gm2 56 (24 * E + i)).toInt = 10)) := fun i y hi hl => by
        by_cases hq : i < L.length
        · rw [List.getElem?_append_left hq] at hi
          have q9 := h.2.2 i y hi hl
          rcases z1 with ⟨p1, p2⟩ | ⟨p1, p2⟩
          · rw [p2, upd_ne (by omega)]; exact q9
          · rw [p2]; exact q9
        · have ei : i = L.length := by
            have := gl_lt hi
            rw [List.length_append] at this
            have : i < L.length + 1 := this
            omega
          subst ei
          rw [List.getElem?_append_right (Nat.le_refl _), Nat.sub_self] at hi
          have hi : some (32 : Int) = some y := hi
          have ey := Option.some.inj hi
          rcases z1 with ⟨p1, p2⟩ | ⟨p1, p2⟩
          · rw [p2, e12, upd_at, ← ey]
            exact hw.elim Or.inl (fun q => Or.inr ⟨rfl, q⟩)
          · omega
      refine ⟨⟨by rw [List.length_append]; have := h.1; omega, h.2.1, key⟩, fun j hj => ?_⟩
      rcases z1 with ⟨p1, p2⟩ | ⟨p1, p2⟩
      · rw [p2, upd_ne (by omega)]
      · rw [p2]
  · rw [if_neg hw] at hs
    by_cases h24 : 24 ≤ L.length
    · rw [if_pos h24] at hs; cases hs
    · rw [if_neg h24] at hs
      have e1 : L.length + 1 = a := congrArg Prod.fst (Option.some.inj hs)
      subst e1
      have hy := hy.2 hw (by omega)
      unfold tL
      rw [if_neg hw]
      refine ⟨⟨by rw [List.length_append]; exact Nat.le_refl _, by omega, fun i y hi hl => ?_⟩, fun j hj => by rw [hy, upd_ne (by omega)]⟩
      by_cases hq : i < L.length
      · rw [List.getElem?_append_left hq] at hi
        rw [hy, upd_ne (by omega)]; exact h.2.2 i y hi hl
      · have ei : i = L.length := by
          have := gl_lt hi
          rw [List.length_append] at this
          have : i < L.length + 1 := this
          omega
        subst ei
        rw [List.getElem?_append_right (Nat.le_refl _), Nat.sub_self] at hi
        have hi : some c.toInt = some y := hi
        rw [hy, e12, upd_at]; exact Or.inl (Option.some.inj hi)
/-- text of an element -/
theorem RDC_x {D : List El7} {sg sg2 : Nat → Int32} {gm gm2 : Nat → Nat → Int32} {lg lg2 : Nat → Nat → Int64} {E ts : Nat} {te : List Int} {w : El7} (h : RDC D sg gm lg) (hw : D[E]? = some w) (e4 : sg2 4 = sg 4) (e5 : sg2 5 = sg 5) (e6 : sg2 6 = sg 6) (hg : ∀ k, k = 13 ∨ k = 14 ∨ k = 15 ∨ k = 16 ∨ k = 17 ∨ k = 18 ∨ k = 19 ∨ k = 20 ∨ k = 44 ∨ k = 45 ∨ k = 46 → gm2 k = gm k) (hl : lg2 0 = lg 0) (h11 : (gm2 11 E).toInt = (ts : Int)) (h12 : (gm2 12 E).toInt = (te.length : Int)) (ho : ∀ j, j ≠ E → gm2 11 j = gm 11 j ∧ gm2 12 j = gm 12 j) (hl1 : lg2 1 = lg 1) (hx : TXC7 (w.1, w.2.1, w.2.2.1, w.2.2.2.1, ts, te) gm2 E) (ho56 : ∀ j, (j < 24 * E ∨ 24 * E + 24 ≤ j) → gm2 56 j = gm 56 j) : RDC (D.set E (w.1, w.2.1, w.2.2.1, w.2.2.2.1, ts, te)) sg2 gm2 lg2 := by
  refine ⟨by rw [List.length_set, e4]; exact h.1, by rw [e4]; exact LKS_k h.2.1 (hg 15 (by decide)) (hg 16 (by decide)) (hg 17 (by decide)) (hg 18 (by decide)), fun e y hy => ?_⟩
  have hE := gl_lt hw
  by_cases hq : e = E
  · subst hq
    rw [List.getElem?_set_self hE] at hy
    cases hy
    obtain ⟨a1, a2, a3, a4, a5, a6, a7⟩ := h.2.2 e w hw
    unfold ELC
    rw [hg 13 (by decide), hg 15 (by decide), hg 14 (by decide), e5, e6, hl1]
    exact ⟨a1, a2, a3, ATC_k a4 (hg 19 (by decide)) (hg 20 (by decide)) (hg 44 (by decide)) (hg 45 (by decide)) (hg 46 (by decide)) hl (Int.le_refl _) (Int.le_refl _), a5, h11, h12, a7.2.1, hx⟩
  · rw [List.getElem?_set_ne (fun k => hq k.symm)] at hy
    obtain ⟨a1, a2, a3, a4, a5, a6, a7⟩ := h.2.2 e y hy
    unfold ELC
    rw [hg 13 (by decide), hg 15 (by decide), hg 14 (by decide), e5, e6, (ho e hq).1, (ho e hq).2, hl1]
    refine ⟨a1, a2, a3, ATC_k a4 (hg 19 (by decide)) (hg 20 (by decide)) (hg 44 (by decide)) (hg 45 (by decide)) (hg 46 (by decide)) hl (Int.le_refl _) (Int.le_refl _), a5, a6, a7.1, a7.2.1, a7.2.2.1, a7.2.2.2.1, fun i x hi hl9 => ?_⟩
    rw [ho56 _ (by omega)]; exact a7.2.2.2.2 i x hi hl9

set_option maxHeartbeats 4000000 in
set_option maxRecDepth 100000 in
theorem d_leaveElement2 (l : Launch) (dC : Nat → ClassId) (dI : Nat → Nat → Nat) (ad : Nat → Nat → Nat) (cid : Nat → ClassId) (a2 : Nat → Nat) (lx : List Nat) (sg : Nat → Int32) (gm : Nat → Nat → Int32) (lg : Nat → Nat → Int64) (x : Int32) (hI : CI sg gm) (hvx : iv 0 0 x) (hop : 0 ≤ (sg 11).toInt) (hRD : RDI sg gm) (hdp : -1200 ≤ (sg 10).toInt) : CMt dC dI ad cid a2 lx l yX7_leaveElement wm_X7_leaveElement ({ frames := 0, cells := 1, slots := 6, locals := 0 }) [eV (ad 2) x] sg gm lg (fun v u => v = none ∧ ∃ (sg2 : Nat → Int32) (gm2 : Nat → Nat → Int32) (lg2 : Nat → Nat → Int64), u = (sg2, gm2, lg2) ∧ CI sg2 gm2 ∧ KS [10, 11] sg sg2 ∧ KS [] gm gm2 ∧ KS [] lg lg2 ∧ (RDI sg2 gm2) ∧ ((sg2 10).toInt = (sg 10).toInt - 1) ∧ (sg2 11 = gm 15 (sg 11).toNatClampNeg)) (fun _ _ => False) := by
  intro sz
  refine vx_ofW (cc := cX7_leaveElement) (maxL := 1) (ret := none) (by decide) rfl ?_
  intro p e s m args below meth c s₁ B hml hxt hv
  obtain ⟨rfl, hsz, hP, hK, hD0, hG⟩ := hv
  have hx := B.exec
  have hb := B.bytes
  have hr := B.returns
  have hts := atoms_spec (ws := wm_X7_leaveElement) B.pre
  have htb := fun (w : Cond) (h : w ∈ tb) => hts w (List.mem_cons_of_mem _ h)
  have hown : s.vm.findClass RX7 = some m.cls := findClass_of_methodNamed B.named
  have hlocks := B.notSynchronized
  subst hsz
  have hD := hD0.self (sz := s.heap.size)
  generalize hAe : va_A (cW ad cid a2 lx sg gm lg) s.heap.size = A at hD hG ⊢
  have hA : ∀ q : Nat, s.heap.size ≤ q → A q := fun q h => by rw [← hAe]; exact Or.inr h
  have hS : va_S A s.heap s.heap [] := va_S.rf
  have hl := lv_entry ([eV (ad 2) x]) (n := 1) (by rw [show (lg_sl ([eV (ad 2) x])).length = 1 from by simp [lg_sl, eV_cat, cat_i, cat_l]]; exact Nat.le_of_ble_eq_true rfl)
  rw [lg_entry_eq]
  generalize (lg_sl ([eV (ad 2) x]) ++ List.replicate (1 - (lg_sl ([eV (ad 2) x])).length) Slot.unset).toArray = ls at hl ⊢
  have hl : lv_has ls 1 [(0, eV (ad 2) x)] := by simp [lv_args, eV_cat, cat_i, cat_l] at hl; exact hl
  have h11 : iv 0 79 (sg 11) := ⟨hop, (show iv (-1) 79 (sg 11) from CI_s hI 11).2⟩
  have h10 : iv (-1200) 6 (sg 10) := ⟨hdp, (show iv (-1201) 6 (sg 10) from CI_s hI 10).2⟩
  refine ec_aload_n hx hb dX7_leaveElement_0 rfl (lv_at hl 0 rfl) ?_
  refine ec_aload_n hx hb dX7_leaveElement_1 rfl (lv_at hl 0 rfl) ?_
  refine cr_get (t := 2) (j := 5) (C := RX7) (T := TX7) (N := 6) (v := eV (ad 9) (sg 11)) hx hb htb inX7 hown hK hP hvx (by decide) (by decide) (by decide) rfl (by decide) (htb _ kw_341) rfl dX7_leaveElement_2 ?_
  refine cr_get (t := 9) (j := 5) (C := RX3) (T := TX3) (N := 21) (v := eV (ad 9) (gm 15 (sg 11).toNatClampNeg)) hx hb htb inX3 hown hK hP h11 (by decide) (by decide) (by decide) rfl (by decide) (htb _ kw_478) rfl dX7_leaveElement_5 ?_
  obtain ⟨z_1, ez_1⟩ : ∃ z : Int32, z = (gm 15 (sg 11).toNatClampNeg) := ⟨_, rfl⟩
  refine W.eq (g2 := F0 m 8 ls [eV (ad 9) z_1, eV (ad 2) x]) (by rw [ez_1]) ?_
  have hz_1 : iv (-1) 79 z_1 := iv_of ez_1 (CI_a hI 15 h11 (by decide))
  refine cr_puts (t := 2) (j := 5) (C := RX7) (T := TX7) (N := 6) (ty0 := tyX7) (k := 11) (y := z_1) hx hb htb inX7 tyX7_ok nmX7 hown hK hP hD hS hvx (by decide) (by decide) (by decide) (by decide) rfl rfl rfl (by decide) (htb _ kw_341) rfl (by show eV (ad 9) z_1 = eV (ad 9) (va_up sg 11 z_1 11); rw [va_up_self]) (ev_n _) (ev_f _) dX7_leaveElement_8 (fun sg_2 H locs esg_2 hP hD hS => ?_)
  have hI_sg_2 := CI_put hI esg_2 hz_1 (by decide)
  refine ec_aload_n hx hb dX7_leaveElement_11 rfl (lv_at hl 0 rfl) ?_
  refine lv_dup hx hb dX7_leaveElement_12 (eV_cat _ _) ?_
  refine cr_get (t := 2) (j := 4) (C := RX7) (T := TX7) (N := 6) (v := .int (sg_2 10)) hx hb htb inX7 hown hK hP hvx (by decide) (by decide) (by decide) rfl (by decide) (htb _ kw_340) rfl dX7_leaveElement_13 ?_
  refine W.eq (g2 := F0 m 16 ls [.int (sg 10), eV (ad 2) x]) (by rw [show sg_2 10 = sg 10 from (up_ne esg_2 (by decide))]) ?_
  refine lv_iconst (v := 1) hx hb dX7_leaveElement_16 (by decide) ?_
  refine lv_isub hx hb dX7_leaveElement_17 ?_
  refine lv_topi (fun z_3 ez_3 => ?_)
  have hz_3 : iv (-1201) 5 z_3 := iv_of ez_3 (iv_sub h10 (iv_k (by decide) : iv 1 1 1) (by decide))
  have tz_3 : z_3.toInt = ((sg 10) : Int32).toInt - 1 := by rw [ez_3]; exact iv_subE h10 (iv_k (by decide) : iv 1 1 1) (by decide)
  refine cr_puts (t := 2) (j := 4) (C := RX7) (T := TX7) (N := 6) (ty0 := tyX7) (k := 10) (y := z_3) hx hb htb inX7 tyX7_ok nmX7 hown hK hP hD hS hvx (by decide) (by decide) (by decide) (by decide) rfl rfl rfl (by decide) (htb _ kw_340) rfl (by show Value.int z_3 = Value.int (va_up sg_2 10 z_3 10); rw [va_up_self]) rfl rfl dX7_leaveElement_18 (fun sg_4 H locs esg_4 hP hD hS => ?_)
  have hI_sg_4 := CI_put hI_sg_2 esg_4 hz_3 (by decide)
  exact W.nb (fun hN => W.widen (k := 1) (n := 6) (by decide) (by decide) (vx_ret (W.vret hx hb hr (fun t ht hW => ⟨⟨none, (sg_4, gm, lg), rfl, ⟨rfl, sg_4, gm, lg, rfl, hI_sg_4, (KS_up (KS_up KS_rf esg_2 (by decide)) esg_4 (by decide)), KS_rf, KS_rf, (RDI_l hRD hop (show KS [10, 11] sg sg_4 from (KS_up (KS_up KS_rf esg_2 (by decide)) esg_4 (by decide))) ((up_ne esg_4 (by decide)).trans ((up_at esg_2).trans ez_1))), (by have := i32_0; have := i32_1; have := i32_2; have := i32_m1; have := congrArg Int32.toInt (show sg_4 10 = z_3 from up_at esg_4); have := (hz_3).1; have := (hz_3).2; have := (hvx).1; have := (hvx).2; have := (h11).1; have := (h11).2; have := (h10).1; have := (h10).2; have := (hz_1).1; have := (hz_1).2; omega), (((up_ne esg_4 (by decide)).trans ((up_at esg_2).trans ez_1)))⟩, by rw [ht]; exact hP, va_K.moved hW.alike hK, hD⟩, hS.F ht, by rw [ht]; exact hN⟩) hS.2.2 dX7_leaveElement_21)))

set_option maxHeartbeats 4000000 in
set_option maxRecDepth 100000 in
theorem d_withKey2 (l : Launch) (dC : Nat → ClassId) (dI : Nat → Nat → Nat) (ad : Nat → Nat → Nat) (cid : Nat → ClassId) (a2 : Nat → Nat) (lx : List Nat) (sg : Nat → Int32) (gm : Nat → Nat → Int32) (lg : Nat → Nat → Int64) (k : Int64) (hI : CI sg gm) : CMt dC dI ad cid a2 lx l yX11_withKey wm_X11_withKey ({ frames := 0, cells := 1, slots := 6, locals := 0 }) [.long k] sg gm lg (fun v u => ∃ r : Int32, v = some (eV (ad 33) r) ∧ u = (sg, gm, lg) ∧ (iv (-1) 33 r) ∧ (WKR r k)) (fun _ _ => False) := by
  intro sz
  refine vx_ofW (cc := cX11_withKey) (maxL := 6) (ret := (some (.object "WiredBeans$Word"))) (by decide) rfl ?_
  intro p e s m args below meth c s₁ B hml hxt hv
  obtain ⟨rfl, hsz, hP, hK, hD0, hG⟩ := hv
  have hx := B.exec
  have hb := B.bytes
  have hr := B.returns
  have hts := atoms_spec (ws := wm_X11_withKey) B.pre
  have htb := fun (w : Cond) (h : w ∈ tb) => hts w (List.mem_cons_of_mem _ h)
  have hown : s.vm.findClass RX11 = some m.cls := findClass_of_methodNamed B.named
  have hlocks := B.notSynchronized
  subst hsz
  have hD := hD0.self (sz := s.heap.size)
  generalize hAe : va_A (cW ad cid a2 lx sg gm lg) s.heap.size = A at hD hG ⊢
  have hA : ∀ q : Nat, s.heap.size ≤ q → A q := fun q h => by rw [← hAe]; exact Or.inr h
  have hS : va_S A s.heap s.heap [] := va_S.rf
  have hl := lv_entry ([.long k]) (n := 6) (Nat.le_of_ble_eq_true rfl)
  rw [lg_entry_eq]
  generalize (lg_sl ([.long k]) ++ List.replicate (6 - (lg_sl ([.long k])).length) Slot.unset).toArray = ls at hl ⊢
  have hl : lv_has ls 6 [(0, .long k)] := hl
  have hj10 : ∀ (n : Nat) (x4_10 : Int32) (_ : (59 - x4_10.toInt).toNat = n) (_ : iv 0 59 x4_10) (_ : ∀ j, j < x4_10.toNatClampNeg → ¬ wKy.getD j 0 = k) (H : Heap) (locs : List Loc) (ls : Array Slot), va_P (dC, dI) vwCl (cW ad cid a2 lx sg gm lg) H → va_D A (cW ad cid a2 lx sg gm lg) → va_S A s.heap H locs → lv_has ls 6 [(4, .int x4_10), (3, .int 34), (2, eV (ad 35) 0), (0, .long k)] → W p l e (headSpec wm_X11_withKey ({ frames := 0, cells := 1, slots := 6, locals := 0 })).room s m ([.long k] : List Value).toArray below meth c H locs 0 0 (vx_MQ below (cQx dC dI ad cid a2 lx (fun v u => ∃ r : Int32, v = some (eV (ad 33) r) ∧ u = (sg, gm, lg) ∧ (iv (-1) 33 r) ∧ (WKR r k)) A) (cX dC dI ad cid a2 lx (fun _ _ => False) A) ([.long k] : List Value).toArray s 1 6 A) (F0 m 10 ls []) := by
    intro n
    induction n using Nat.strongRecOn with
    | ind n ih10 =>
      intro x4_10 hn10 hx4_10 uW H locs ls hP hD hS hl
      refine lv_iload hx hb dX11_withKey_10 (lv_at hl 0 rfl) ?_
      refine lv_iload_n hx hb dX11_withKey_12 rfl (lv_at hl 1 rfl) ?_
      refine lv_icmp_ge (tgt := 41) hx hb dX11_withKey_13 (by decide) (fun c_1 => ?_) (fun c_1 => ?_)
      · have h_2 : iv 34 59 x4_10 := iv_leR c_1 (iv_k (by decide) : iv 34 34 34) hx4_10 (by decide)
        refine ec_null (a := ad 33) hx hb dX11_withKey_41 ?_
        exact W.nb (fun hN => W.widen (k := 1) (n := 6) (by decide) (by decide) (vx_ret (W.aret (v := eV (ad 33) (-1)) hx hb hr (Or.inl ⟨_, rfl⟩) (eV_is _ _) (fun t ht hW => ⟨⟨some (eV (ad 33) (-1)), (sg, gm, lg), rfl, ⟨(-1), rfl, rfl, (iv_w (iv_k (by decide) : iv (-1) (-1) (-1)) (by decide)), (Or.inr ⟨rfl, fun j hj => uW j (by have := iv_cl h_2 (by decide); have := i32_0; have := i32_1; have := i32_2; have := i32_m1; have := (h_2).1; have := (h_2).2; omega)⟩)⟩, by rw [ht]; exact hP, va_K.moved hW.alike hK, hD⟩, hS.F ht, by rw [ht]; exact hN⟩) hS.2.2 dX11_withKey_42)))
      · have h_3 : iv 0 33 x4_10 := iv_ltL (i32_lt c_1) hx4_10 (iv_k (by decide) : iv 34 34 34) (by decide)
        refine ec_aload_n hx hb dX11_withKey_16 rfl (lv_at hl 2 rfl) ?_
        refine lv_iload hx hb dX11_withKey_17 (lv_at hl 0 rfl) ?_
        refine cw_alld (iv_k (by decide) : iv 0 0 0) hx hb hG hS h_3 dX11_withKey_19 ?_
        refine ec_astore (i := 5) (lv' := [(5, eV (ad 33) x4_10), (4, .int x4_10), (3, .int 34), (2, eV (ad 35) 0), (0, .long k)]) hx hb dX11_withKey_20 hl (by decide) rfl (fun ls hl => ?_)
        refine ec_aload hx hb dX11_withKey_22 (lv_at hl 0 rfl) ?_
        refine cw_key hx hb hG hS h_3 hown (htb _ kw_412) dX11_withKey_24 ?_
        refine lv_topl (fun z_4 ez_4 => ?_)
        refine lv_lload_n hx hb dX11_withKey_27 rfl (lv_at hl 4 rfl) ?_
        refine W.lcmp hx hb dX11_withKey_28 ?_
        refine lv_topi (fun z_5 ez_5 => ?_)
        have hz_5 : iv (-1) 1 z_5 := iv_of ez_5 (iv_cmp _ _)
        refine lv_if_ne (tgt := 35) hx hb dX11_withKey_29 (by decide) (fun c_6 => ?_) (fun c_6 => ?_)
        · have d_7 : ¬ (z_5 : Int32).toInt = 0 := lv_neT c_6 rfl
          obtain ⟨z_8, ez_8⟩ : ∃ z : Int32, z = x4_10 + 1 := ⟨_, rfl⟩
          have hz_8 : iv 1 34 z_8 := iv_of ez_8 (iv_add h_3 (iv_k (by decide) : iv 1 1 1) (by decide))
          have tz_8 : z_8.toInt = x4_10.toInt + 1 := by rw [ez_8]; exact iv_addE h_3 (iv_k (by decide) : iv 1 1 1) (by decide)
          refine lv_iinc (v := z_8) (lv' := [(4, .int z_8), (5, eV (ad 33) x4_10), (3, .int 34), (2, eV (ad 35) 0), (0, .long k)]) hx hb dX11_withKey_35 hl (k := 1) rfl ez_8.symm (by decide) rfl (fun ls hl => ?_)
          refine lv_goto (tgt := 10) hx hb dX11_withKey_38 (by decide) ?_
          exact ih10 _ (by rw [← hn10]; exact (iv_meas tz_8 h_3 (by decide))) z_8 rfl (iv_w hz_8 (by decide)) ((fun j hj => (show j < x4_10.toNatClampNeg ∨ j = x4_10.toNatClampNeg by have := iv_cl h_3 (by decide); have : z_8.toNatClampNeg = z_8.toInt.toNat := rfl; have := tz_8; omega).elim (fun q => uW j q) (fun q q8 => c_6 (by rw [ez_5, ez_4, ← q]; exact (lg_cmp_eq _ _).mpr q8)))) _ _ _ hP hD hS (lv_sub hl [0, 2, 3, 4] rfl)
        · have h_9 : iv 0 0 z_5 := iv_eq c_6 hz_5 (iv_k (by decide) : iv 0 0 0) (by decide)
          refine ec_aload hx hb dX11_withKey_32 (lv_at hl 0 rfl) ?_
          exact W.nb (fun hN => W.widen (k := 1) (n := 6) (by decide) (by decide) (vx_ret (W.aret (v := eV (ad 33) x4_10) hx hb hr (Or.inl ⟨_, rfl⟩) (eV_is _ _) (fun t ht hW => ⟨⟨some (eV (ad 33) x4_10), (sg, gm, lg), rfl, ⟨x4_10, rfl, rfl, (iv_w h_3 (by decide)), (Or.inl ⟨by have := i32_0; have := i32_1; have := i32_2; have := i32_m1; have := (h_3).1; have := (h_3).2; have := (h_9).1; have := (h_9).2; omega, by have := i32_0; have := i32_1; have := i32_2; have := i32_m1; have := (h_3).1; have := (h_3).2; have := (h_9).1; have := (h_9).2; omega, (by have q9 := c_6; rw [ez_5] at q9; rw [← ez_4]; exact (lg_cmp_eq _ _).mp q9)⟩)⟩, by rw [ht]; exact hP, va_K.moved hW.alike hK, hD⟩, hS.F ht, by rw [ht]; exact hN⟩) hS.2.2 dX11_withKey_34)))
  refine cw_all hx hb hG hS hown (htb _ kw_411) dX11_withKey_0 ?_
  refine ec_astore_n (i := 2) (lv' := [(2, eV (ad 35) 0), (0, .long k)]) hx hb dX11_withKey_3 rfl hl (by decide) rfl (fun ls hl => ?_)
  refine ec_aload_n hx hb dX11_withKey_4 rfl (lv_at hl 0 rfl) ?_
  refine cw_alln (iv_k (by decide) : iv 0 0 0) hx hb hG hS dX11_withKey_5 ?_
  refine lv_istore_n (i := 3) (lv' := [(3, .int 34), (2, eV (ad 35) 0), (0, .long k)]) hx hb dX11_withKey_6 rfl hl (by decide) (by simp [List.filter, eV_cat, cat_i, cat_l]) (fun ls hl => ?_)
  refine lv_iconst (v := 0) hx hb dX11_withKey_7 (by decide) ?_
  refine lv_istore (i := 4) (lv' := [(4, .int 0), (3, .int 34), (2, eV (ad 35) 0), (0, .long k)]) hx hb dX11_withKey_8 hl (by decide) rfl (fun ls hl => ?_)
  exact hj10 _ 0 rfl (iv_w (iv_k (by decide) : iv 0 0 0) (by decide)) ((fun j hj => absurd hj (Nat.not_lt_zero j))) _ _ _ hP hD hS (lv_sub hl [0, 1, 2, 3] rfl)
