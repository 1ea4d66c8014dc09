section
section TB9
/-- the text of an element: its characters, none white in front -/
def PE7 (w : El7) : Prop := (w.2.2.2.2.1 = 0 ↔ w.2.2.2.2.2 = []) ∧ PV7 w.2.2.2.2.2 ∧ ∀ x, w.2.2.2.2.2.head? = some x → ¬ x = 32
def PT7 (D : List El7) : Prop := ∀ w, w ∈ D → PE7 w
theorem PE7_0 {a : Nat} {b : Int} {k : Int64} {q : At7} : PE7 (a, b, k, q, 0, []) := ⟨⟨fun _ => rfl, fun _ => rfl⟩, PV7_0, fun x h => by cases h⟩
theorem PE7_t {w : El7} {x : Int} {ts : Nat} {te : List Int} (h : PE7 w) (hx : 1 ≤ x ∧ x ≤ 126) (ht : sTx w.2.2.2.2.1 w.2.2.2.2.2 x = some (ts, te)) : PE7 (w.1, w.2.1, w.2.2.1, w.2.2.2.1, ts, te) := by
  obtain ⟨h1, h2, h3⟩ := h
  unfold sTx at ht
  by_cases q : isWc x
  · rw [if_pos q] at ht
    have e1 : w.2.2.2.2.1 = ts := congrArg Prod.fst (Option.some.inj ht)
    have e2 : (if w.2.2.2.2.1 = 0 then w.2.2.2.2.2 else w.2.2.2.2.2 ++ [32]) = te := congrArg Prod.snd (Option.some.inj ht)
    by_cases z : w.2.2.2.2.1 = 0
    · rw [if_pos z] at e2
      refine ⟨⟨fun _ => by show te = []; rw [← e2]; exact h1.mp z, fun _ => e1.symm.trans z⟩, by show PV7 te; rw [← e2]; exact h2, fun y hy => h3 y (by rw [e2]; exact hy)⟩
    · rw [if_neg z] at e2
      refine ⟨⟨fun p => absurd (e1.trans p) z, fun p => absurd (show te = [] from p) (by rw [← e2]; simp)⟩, by show PV7 te; rw [← e2]; exact PV7_s h2 (by decide), fun y hy => ?_⟩
      have hy : te.head? = some y := hy
      rw [← e2] at hy
      cases r : w.2.2.2.2.2 with
      | nil => exact absurd (h1.mpr r) z
      | cons c l => rw [r] at hy; exact h3 y (by rw [r]; exact hy)
  · rw [if_neg q] at ht
    by_cases z : 24 ≤ w.2.2.2.2.2.length
    · rw [if_pos z] at ht; cases ht
    · rw [if_neg z] at ht
      have e1 : w.2.2.2.2.2.length + 1 = ts := congrArg Prod.fst (Option.some.inj ht)
      have e2 : w.2.2.2.2.2 ++ [x] = te := congrArg Prod.snd (Option.some.inj ht)
      refine ⟨⟨fun p => absurd (show ts = 0 from p) (by omega), fun p => absurd (show te = [] from p) (by rw [← e2]; simp)⟩, by show PV7 te; rw [← e2]; exact PV7_s h2 hx, fun y hy => ?_⟩
      have hy : te.head? = some y := hy
      rw [← e2] at hy
      cases r : w.2.2.2.2.2 with
      | nil =>
        rw [r] at hy
        have hy : some x = some y := hy
        cases hy
        intro p
        exact q (by rw [p]; decide)
      | cons c l => rw [r] at hy; exact h3 y (by rw [r]; exact hy)
theorem PT7_s {D : List El7} {w : El7} (h : PT7 D) (hw : PE7 w) : PT7 (D ++ [w]) := by
  intro y hy
  rcases List.mem_append.mp hy with q | q
  · exact h y q
  · rw [List.mem_singleton.mp q]; exact hw
theorem sSt_pt {ch : Nat → Int} {n : Nat} {D D2 : List El7} {cur c2 : Int} {depth d2 a b : Nat} (hp : PC7 ch) (hD : PT7 D) (h : sSt ch n D cur depth a = some (D2, c2, d2, b)) : PT7 D2 := by
  unfold sSt at h
  split at h
  · split at h
    · cases hc : sCom ch n a with
      | none => rw [hc] at h; cases h
      | some e => rw [hc] at h; cases h; exact hD
    · split at h
      · cases hw : D[cur.toNat]? with
        | none => rw [hw] at h; cases h
        | some w =>
          rw [hw] at h
          have h : (match sEd ch n w.1 a with | none => none | some b => some (D, w.2.1, depth - 1, b)) = some (D2, c2, d2, b) := h
          cases hc : sEd ch n w.1 a with
          | none => rw [hc] at h; cases h
          | some e => rw [hc] at h; cases h; exact hD
      · cases hc : sOp ch n D.length depth a with
        | none => rw [hc] at h; cases h
        | some w => obtain ⟨k, q, c, e⟩ := w; rw [hc] at h; cases h; exact PT7_s hD PE7_0
  · cases hc : sCh ch a with
    | none => rw [hc] at h; cases h
    | some r =>
      obtain ⟨x, e⟩ := r
      rw [hc] at h
      cases hw : D[cur.toNat]? with
      | none => rw [hw] at h; cases h
      | some w =>
        rw [hw] at h
        have h : (match sTx w.2.2.2.2.1 w.2.2.2.2.2 x with | none => none | some (ts, te) => some (D.set cur.toNat (w.1, w.2.1, w.2.2.1, w.2.2.2.1, ts, te), cur, depth, e + 1)) = some (D2, c2, d2, b) := h
        cases ht : sTx w.2.2.2.2.1 w.2.2.2.2.2 x with
        | none => rw [ht] at h; cases h
        | some t =>
          obtain ⟨ts, te⟩ := t
          rw [ht] at h
          cases h
          intro y hy
          rcases List.mem_or_eq_of_mem_set hy with q | q
          · exact hD y q
          · rw [q]; exact PE7_t (hD w (List.mem_of_getElem? hw)) (sCh_pv hp hc) ht
theorem doF_pt {ch : Nat → Int} {n : Nat} (hp : PC7 ch) : ∀ f D cur depth a r, PT7 D → doF ch n f D cur depth a = some r → PT7 r.1 := by
  intro f
  induction f with
  | zero =>
    intro D cur depth a r hD h
    have h : (if depth = 0 then some (D, a) else none) = some r := h
    split at h
    · cases h; exact hD
    · cases h
  | succ f ih =>
    intro D cur depth a r hD h
    have h : (if depth = 0 then some (D, a) else match sSt ch n D cur depth a with | none => none | some (D2, c2, d2, b) => doF ch n f D2 c2 d2 b) = some r := h
    split at h
    · cases h; exact hD
    · cases hc : sSt ch n D cur depth a with
      | none => rw [hc] at h; cases h
      | some w =>
        obtain ⟨D2, c2, d2, b⟩ := w
        rw [hc] at h
        exact ih _ _ _ _ _ (sSt_pt hp hD hc) h
theorem sDoc_pt {ch : Nat → Int} {n : Nat} {D : List El7} (hp : PC7 ch) (h : sDoc ch n = some D) : PT7 D := by
  unfold sDoc at h
  cases h1 : sBet ch n 0 with
  | none => rw [h1] at h; cases h
  | some a =>
    rw [h1] at h
    dsimp only at h
    cases h2 : sOp ch n 0 0 a with
    | none => rw [h2] at h; cases h
    | some w =>
      obtain ⟨k, q, c, b⟩ := w
      rw [h2] at h
      dsimp only at h
      cases h3 : sDo ch n [(a, -1, k, q, 0, [])] (if c = true then -1 else 0) (if c = true then 0 else 1) b with
      | none => rw [h3] at h; cases h
      | some w2 =>
        obtain ⟨D2, e⟩ := w2
        rw [h3] at h
        dsimp only at h
        cases h4 : sBet ch n e with
        | none => rw [h4] at h; cases h
        | some e2 =>
          rw [h4] at h
          dsimp only at h
          split at h
          · cases h
            exact doF_pt hp _ _ _ _ _ _ (fun y hy => by rw [List.mem_singleton.mp hy]; exact PE7_0) h3
          · cases h
variable {rg wg : Nat → Nat → Int32} {lg wl : Nat → Nat → Int64} {e : Nat} {A : At7} {V : List Int} {k : Int64} {P : Int}
theorem SR_at (hA : ATR A rg lg e P) (hv : gA A k = some V) (hp : PA7 A) (h24 : V.length ≤ 24) (he : e < 80) (hl : A.length ≤ 12) : SRq rg (mFind rg lg e k) V := by
  rcases mFind_g (nn := k) hA with ⟨_, q⟩ | ⟨i, y, h1, h2, h3⟩
  · rw [hv] at q; cases q
  · have hi := (List.getElem?_eq_some_iff.mp h1).1
    have hy : V = y.2 := Option.some.inj (hv.symm.trans h3)
    obtain ⟨_, b2, b3, _, b5⟩ := hA.2 i y h1
    have ht := nI_toInt (n := 12 * e + i) (by omega)
    have hc : (nI (12 * e + i)).toNatClampNeg = 12 * e + i := by show (nI (12 * e + i)).toInt.toNat = _; omega
    rw [h2]
    refine ⟨h24, by rw [hy]; exact hp y (List.mem_of_getElem? h1), Or.inl ⟨by omega, by omega, by rw [hc, b2, hy], fun j x hx => ?_⟩⟩
    rw [hc]; rw [hy] at hx; exact b5 j x hx
theorem TX_at (hC : CTX wg e V) (hN : NT9 wg wl e V) : TXT9 wg wl e V := by
  refine ⟨hC.1, hN.1, hN.2, fun x hx => ?_⟩
  have q := hC.2.2 0 x (by rw [hx]; rfl)
  rw [Nat.add_zero] at q; exact q
theorem SR_tx {D : List El7} (hT : TXT7 (dEl D e) rg e) (h31 : (rg 31 e).toInt = (dTx D e : Int)) (he : e < 80) (hP : PE7 (dEl D e)) : SRq rg (nI (1000 + e)) (dTT D e) := by
  obtain ⟨a1, a2, a3⟩ := hT
  have hl : (dTT D e).length = dTx D e := by unfold dTT; rw [List.length_take]; unfold dTx at *; omega
  have ht := nI_toInt (n := 1000 + e) (by omega)
  have hz : ((nI (1000 + e)).toInt - 1000).toNat = e := by omega
  refine ⟨by rw [hl]; exact a2, fun x hx => hP.2.1 x (List.mem_of_mem_take hx), Or.inr ⟨by omega, by omega, by rw [hz, hl]; exact h31, fun i x hx => ?_⟩⟩
  have hi := (List.getElem?_eq_some_iff.mp hx).1
  rw [hl] at hi
  rw [hz]
  unfold dTT at hx
  rw [List.getElem?_take_of_lt hi] at hx
  exact (a3 i x hx).1 hi
theorem TX_tx {D : List El7} {C : List Int} (hC : CTX wg e C) (hN : NT9 wg wl e C) (hW : WQ9 C (dTT D e)) (hP : PE7 (dEl D e)) : TXT9 wg wl e (dTT D e) := by
  refine TX_of hC hW hN.1 hN.2 (fun x hx => hP.2.2 x ?_)
  unfold dTT at hx
  cases r : (dEl D e).2.2.2.2.2 with
  | nil => rw [r, List.take_nil] at hx; cases hx
  | cons c l =>
    rw [r] at hx
    cases d : dTx D e with
    | zero => rw [d] at hx; cases hx
    | succ m => rw [d, List.take_succ_cons] at hx; have q : c = x := (List.cons.inj hx).1; rw [q]; rfl

end TB9
end
section
section WB9
variable {ws rs : Nat → Int32} {wg rg : Nat → Nat → Int32} {wl lg : Nat → Nat → Int64} {D : List El7} {e : Nat} {P : Int}
theorem aH_z1 {q : At7} {k : Int64} : aH q k = 0 ∨ aH q k = 1 := by
  rcases gA_h (q := q) (k := k) with ⟨_, h⟩ | ⟨v, _, h⟩
  · exact Or.inl h
  · exact Or.inr h
theorem i0_e {x : Int32} : x = 0 ↔ x.toInt = 0 := ⟨fun h => by rw [h]; rfl, fun h => Int32.toInt_inj.mp h⟩
theorem ik_e {x : Int32} {k : Int32} {n : Int} (hk : k.toInt = n) : x = k ↔ x.toInt = n := ⟨fun h => by rw [h]; exact hk, fun h => Int32.toInt_inj.mp (h.trans hk.symm)⟩
/-- an element that is worked out, alike on both sides -/
theorem WKB_of (hS : SE9 D wg wl e) (hK : KW7 (wg 14 e).toInt (dKd D e)) (hR : RL7 D rg lg e) (hk : (rg 26 e).toInt = dKd D e) (hG : GOODC D e) (hA : ATR (dAt D e) rg lg e P) (hl : (dAt D e).length ≤ 12) (hT : TXT7 (dEl D e) rg e) (he : e < 80) (hP : PA7 (dAt D e)) (hPE : PE7 (dEl D e)) (h16 : dCn D e = 0 → (wg 16 e).toInt < 0) (hcd : ∀ v : Int64, (cdR rs rg lg v).toInt = caN ws wg wl v) (h27 : ¬ dKd D e = 3 → (wg 27 e).toInt = -1)
    (h3 : dKd D e = 3 → (wg 27 e).toInt = (rg 43 e).toInt ∧ 0 ≤ (rg 43 e).toInt ∧ (rg 43 e).toInt < (rs 41).toInt ∧ wl 4 (rg 43 e).toNatClampNeg = 0 ∧ wg 34 (rg 43 e).toNatClampNeg = 0)
    (hkd : ((dKd D e = 4 ∨ dKd D e = 5) ∧ dCn D e = 0) ∨ dKd D e = 7 ∨ dKd D e = 8 ∨ dKd D e = 9 ∨ dKd D e = 3) (hnr : aH (dAt D e) 7497062 = 1 → nv7 (dAt D e) 7497062 = aW (dAt D e) 7497062) (hnb : aH (dAt D e) 1650811246 = 1 → nv7 (dAt D e) 1650811246 = aW (dAt D e) 1650811246) : WKB ws wg wl rs rg lg e := by
  have k4 : rg 26 e = 4 ↔ dKd D e = 4 := by rw [ik_e (n := 4) (by decide), hk]
  have k5 : rg 26 e = 5 ↔ dKd D e = 5 := by rw [ik_e (n := 5) (by decide), hk]
  have k7 : rg 26 e = 7 ↔ dKd D e = 7 := by rw [ik_e (n := 7) (by decide), hk]
  have k9 : rg 26 e = 9 ↔ dKd D e = 9 := by rw [ik_e (n := 9) (by decide), hk]
  have k3 : rg 26 e = 3 ↔ dKd D e = 3 := by rw [ik_e (n := 3) (by decide), hk]
  have hv : ¬ mHas rg lg e 508440638821 = 0 ↔ aH (dAt D e) 508440638821 = 1 := by
    rw [i0_e, hR.2.2.1]
    rcases aH_z1 (q := dAt D e) (k := 508440638821) with q | q
    · rw [q]; exact ⟨fun h => absurd rfl h, fun h => absurd h (by decide)⟩
    · rw [q]; exact ⟨fun _ => rfl, fun _ => by decide⟩
  have hol : hol9 rg e ↔ (dKd D e = 4 ∨ dKd D e = 5) := by unfold hol9; rw [k4, k5]
  have hva : hva9 rg lg e ↔ ((dKd D e = 4 ∨ dKd D e = 5) ∧ aH (dAt D e) 508440638821 = 1) := by unfold hva9; rw [hv, hol]
  obtain ⟨_, _, s3, _, s5, s6, s7⟩ := hS
  have w25 : ∀ n : Int, ¬ dKd D e = 4 → ¬ dKd D e = 5 → 1 ≤ dKd D e → wkF (dKd D e) = n → (wg 25 e).toInt = n := fun n n4 n5 h1 hn => by rw [s6 n4 n5, KW_j hK h1]; exact hn
  refine ⟨fun q => ?_, fun q0 q => ?_, fun q0 q => ?_, fun q0 q => ?_, fun q0 q7 q9 q3 => ?_⟩
  · obtain ⟨q1, q2⟩ := hva.mp q
    have hc : dCn D e = 0 := by rcases hkd with h | h <;> omega
    rcases s5 q1 with w | ⟨_, _, w⟩
    · have := h16 hc; omega
    · rcases w with ⟨_, w2, V, w3, w4, w5⟩ | ⟨w1, _⟩
      · exact ⟨w2, V, SR_at hA w3 hP w4.2.1 he hl, TX_at w4 w5⟩
      · omega
  · have q := k7.mp q
    obtain ⟨C, c1, c2, c3⟩ := s7 q
    exact ⟨w25 7 (by omega) (by omega) (by omega) (by rw [q]; decide), dTT D e, SR_tx hT hR.2.2.2.2.1 he hPE, TX_tx c1 c2 c3 hPE⟩
  · have q := k9.mp q
    exact w25 9 (by omega) (by omega) (by omega) (by rw [q]; decide)
  · have q := k3.mp q
    exact ⟨Or.inr (w25 2 (by omega) (by omega) (by omega) (by rw [q]; decide)), h3 q⟩
  · rw [k7] at q7; rw [k9] at q9; rw [k3] at q3
    have h27 := h27 q3
    have h8 := w25 8
    rcases hkd with ⟨h45, hc⟩ | h
    · have hnv : aH (dAt D e) 508440638821 = 0 := by
        rcases aH_z1 (q := dAt D e) (k := 508440638821) with p | p
        · exact p
        · exact absurd (hva.mpr ⟨h45, p⟩) q0
      have hr : aH (dAt D e) 7497062 = 1 := by
        have hC := hG.2.2.2.2
        unfold CNT at hC
        rcases hC with c | c | ⟨_, c⟩ | c | c <;> omega
      rcases s5 h45 with w | ⟨_, _, w⟩
      · have := h16 hc; omega
      · rcases w with ⟨w1, _⟩ | ⟨_, w2, w3⟩
        · omega
        · refine ⟨Or.inl w2, by omega, ?_⟩
          rw [if_pos (hol.mpr h45), hcd, hR.1, ← hnr hr, w3]
    · have h8k : dKd D e = 8 := by omega
      have hb : aH (dAt D e) 1650811246 = 1 := by
        have hN := hG.2.2.1.2.2.2.1
        rcases hN with p | p
        · exact absurd h8k p
        · exact p
      refine ⟨Or.inl (h8 (by omega) (by omega) (by omega) (by rw [h8k]; decide)), by omega, ?_⟩
      rw [if_neg (fun p => by have := hol.mp p; omega), hcd, hR.1, ← hnb hb, s3 (Or.inr h8k)]
end WB9
end
section
section NB9s
variable {D : List El7} {e : Nat} {wg : Nat → Nat → Int32}
theorem aH_mm {q : At7} {k : Int64} (h : aH q k = 1) : ∃ y, y ∈ q ∧ y.1 = k := by
  unfold aH at h
  by_cases w : hasK q k = true
  · unfold hasK at w
    obtain ⟨y, h1, h2⟩ := List.any_eq_true.mp w
    exact ⟨y, h1, beq_iff_eq.mp h2⟩
  · rw [if_neg w] at h; exact absurd h (by decide)
theorem nv_aW {q : At7} {k : Int64} (h : ¬ nv7 q k = 0) : nv7 q k = aW q k := by
  unfold nv7 at *
  by_cases w : aI q k = 1
  · rw [if_pos w]
  · rw [if_neg w] at h; exact absurd rfl h
/-- a value that must be a name is one -/
theorem nm_ok {k : Int64} (hG : ATN D e) (h : aH (dAt D e) k = 1) (hk : k.toInt = 26980 ∨ k.toInt = 123563833388660 ∨ k.toInt = 28817527407604345 ∨ k.toInt = 28259031083541619 ∨ k.toInt = 29807 ∨ k.toInt = 7497062 ∨ k.toInt = 1650811246) : ¬ nv7 (dAt D e) k = 0 ∧ nv7 (dAt D e) k = aW (dAt D e) k := by
  obtain ⟨y, h1, h2⟩ := aH_mm h
  have hr := (hG y h1).2
  rw [h2] at hr
  unfold RVL at hr
  have q : ¬ nv7 (dAt D e) k = 0 := by
    rcases hr with c | c | c | c | c | c | c | c | c
    · omega
    · omega
    · omega
    · omega
    · omega
    · omega
    · omega
    · omega
    · exact c.2
  exact ⟨q, nv_aW q⟩
/-- no child, no first one -/
theorem fi_no {n : Nat} (hL : LKS wg n) (hn : n = D.length) (hA : ∀ j, j < D.length → (wg 15 j).toInt = dAb D j) (he : e < D.length) (h : dCn D e = 0) : (wg 16 e).toInt < 0 := by
  obtain ⟨_, _, a3, _, _⟩ := hL e (by omega)
  rw [a3]
  rcases fiR_p (f := fun j => (wg 15 j).toInt) (e := (e : Int)) n with ⟨q, _⟩ | ⟨q1, q2, q3, _⟩
  · omega
  · exfalso
    have hc : ∀ m, m ≤ D.length → (fiR (fun j => (wg 15 j).toInt) (e : Int) n).toNat < m → 0 < cnD (dAb D) (e : Int) m := by
      intro m
      induction m with
      | zero => intro _ w; omega
      | succ m ih =>
        intro w1 w2
        show 0 < cnD (dAb D) (e : Int) m + (if dAb D m = (e : Int) then 1 else 0)
        by_cases w : (fiR (fun j => (wg 15 j).toInt) (e : Int) n).toNat = m
        · rw [if_pos (by rw [← hA m (by omega), ← w]; exact q3)]; omega
        · have := ih (by omega) (by omega); omega
    have := hc D.length (Nat.le_refl _) (by omega)
    unfold dCn at h
    omega
end NB9s
end
section
section NM9s
variable {D : List El7} {ws rs : Nat → Int32} {wg rg : Nat → Nat → Int32} {wl lg : Nat → Nat → Int64}
theorem fstB_e {q q2 : Nat → Bool} : ∀ (n j : Nat), (∀ k, j ≤ k → k < j + n → q k = q2 k) → fstB q n j = fstB q2 n j
  | 0, _, _ => rfl
  | n + 1, j, h => by
    show (if q j = true then nI j else fstB q n (j + 1)) = (if q2 j = true then nI j else fstB q2 n (j + 1))
    rw [h j (Nat.le_refl _) (by omega), fstB_e n (j + 1) (fun k h1 h2 => h k (by omega) (by omega))]
theorem fstB_n {q : Nat → Bool} : ∀ (n j : Nat), (∀ k, j ≤ k → k < j + n → q k = false) → fstB q n j = -1
  | 0, _, _ => rfl
  | n + 1, j, h => by
    show (if q j = true then nI j else fstB q n (j + 1)) = -1
    rw [h j (Nat.le_refl _) (by omega), if_neg (by decide), fstB_n n (j + 1) (fun k h1 h2 => h k (by omega) (by omega))]
/-- the ids of both sides -/
def IDB (D : List El7) (ws rs : Nat → Int32) (rg : Nat → Nat → Int32) (wl lg : Nat → Nat → Int64) : Prop := (ws 12).toInt = (rs 41).toInt ∧ 0 ≤ (rs 41).toInt ∧ ∀ b, b < (rs 41).toNatClampNeg → ∃ y, (rg 42 b).toNatClampNeg = y ∧ wl 4 b = nv7 (dAt D y) 26980 ∧ (rg 28 y = 0 ↔ aH (dAt D y) 26980 = 1) ∧ mWord rg lg y 26980 = aW (dAt D y) 26980 ∧ ATN D y
theorem nv_0 {q : At7} {k : Int64} (h : aH q k = 0) : nv7 q k = 0 := by
  rcases gA_h (q := q) (k := k) with ⟨p, _⟩ | ⟨v, _, p⟩
  · unfold nv7; rw [aI_n p, if_neg (by decide)]
  · rw [h] at p; exact absurd p (by decide)
theorem WID_e (h : IDB D ws rs rg wl lg) (v : Int64) : mWid rs rg lg v = cWid ws wl v := by
  obtain ⟨h1, h0, h2⟩ := h
  have hn : (ws 12).toNatClampNeg = (rs 41).toNatClampNeg := by show (ws 12).toInt.toNat = (rs 41).toInt.toNat; rw [h1]
  unfold mWid cWid
  by_cases hv : v = 0
  · rw [if_pos hv]
    refine fstB_n _ _ (fun b _ hb => ?_)
    obtain ⟨y, e1, e2, e3, e4, e5⟩ := h2 b (by omega)
    unfold qWid
    rw [e1]
    rcases aH_z1 (q := dAt D y) (k := 26980) with q | q
    · rw [decide_eq_false (fun p => by have := e3.mp p; omega)]; rfl
    · obtain ⟨n1, n2⟩ := nm_ok e5 q (Or.inl (by decide))
      rw [e4, ← n2, hv, decide_eq_false n1, Bool.and_false]
  · rw [if_neg hv, hn]
    refine fstB_e _ _ (fun b _ hb => ?_)
    obtain ⟨y, e1, e2, e3, e4, e5⟩ := h2 b (by omega)
    unfold qWid qCr
    rw [e1, e2]
    rcases aH_z1 (q := dAt D y) (k := 26980) with q | q
    · rw [decide_eq_false (fun p => by have := e3.mp p; omega), nv_0 q, Bool.false_and, decide_eq_false (show ¬ (0 : Int64) = v from fun p => hv p.symm)]
    · obtain ⟨n1, n2⟩ := nm_ok e5 q (Or.inl (by decide))
      rw [e4, ← n2, decide_eq_true (e3.mpr q), Bool.true_and]
end NM9s
end
section
section PA9s
variable {D : List El7} {ws rs : Nat → Int32} {rg : Nat → Nat → Int32} {wl lg : Nat → Nat → Int64}
/-- the parents of both sides -/
def PRB (D : List El7) (rs : Nat → Int32) (rg : Nat → Nat → Int32) (wl lg : Nat → Nat → Int64) : Prop := ∀ b, b < (rs 41).toNatClampNeg → ∃ y, (rg 42 b).toNatClampNeg = y ∧ wl 5 b = nv7 (dAt D y) 123563833388660 ∧ (mHas rg lg y 123563833388660).toInt = aH (dAt D y) 123563833388660 ∧ mWord rg lg y 123563833388660 = aW (dAt D y) 123563833388660 ∧ ATN D y
theorem PAR_e (h : IDB D ws rs rg wl lg) (hp : PRB D rs rg wl lg) {b : Int32} (hb : b.toNatClampNeg < (rs 41).toNatClampNeg) : mPar rs rg lg b = cPar ws wl b := by
  obtain ⟨y, e1, e2, e3, e4, e5⟩ := hp _ hb
  unfold mPar cPar
  rw [e1, e2]
  rcases aH_z1 (q := dAt D y) (k := 123563833388660) with q | q
  · rw [q] at e3
    rw [if_pos (i0_e.mpr e3), nv_0 q]
    unfold cWid; rw [if_pos rfl]
  · obtain ⟨n1, n2⟩ := nm_ok e5 q (Or.inr (Or.inl (by decide)))
    have hz : ¬ mHas rg lg y 123563833388660 = 0 := fun p => by rw [i0_e.mp p, q] at e3; exact absurd e3 (by decide)
    rw [if_neg hz, e4, ← n2, WID_e h]
theorem par_iv (hn : iv 0 80 (rs 41)) (b : Int32) : iv (-1) 79 (mPar rs rg lg b) ∧ ((mPar rs rg lg b).toInt < (rs 41).toInt ∨ mPar rs rg lg b = -1) := by
  unfold mPar
  by_cases q : mHas rg lg (rg 42 b.toNatClampNeg).toNatClampNeg 123563833388660 = 0
  · rw [if_pos q]; exact ⟨⟨by decide, by decide⟩, Or.inr rfl⟩
  · rw [if_neg q]; exact mWid_iv _ hn
theorem CHN_e (h : IDB D ws rs rg wl lg) (hp : PRB D rs rg wl lg) (hn : iv 0 80 (rs 41)) : ∀ (n : Nat) (b : Int32), b = -1 ∨ (0 ≤ b.toInt ∧ b.toInt < (rs 41).toInt) → an9 (mPar rs rg lg) n b = cn9 ws wl n b
  | 0, _, _ => rfl
  | n + 1, b, hb => by
    show (if b = -1 then [] else b :: an9 (mPar rs rg lg) n (mPar rs rg lg b)) = (if b.toInt < 0 then [] else b :: cn9 ws wl n (cPar ws wl b))
    rcases hb with q | ⟨q1, q2⟩
    · rw [if_pos q, if_pos (by rw [q]; decide)]
    · have hne : ¬ b = -1 := fun p => by rw [p] at q1; exact absurd q1 (by decide)
      have hl : b.toNatClampNeg < (rs 41).toNatClampNeg := by show b.toInt.toNat < (rs 41).toInt.toNat; omega
      have hi := par_iv (rg := rg) (lg := lg) hn b
      rw [if_neg hne, if_neg (by omega), ← PAR_e h hp hl, CHN_e h hp hn n _ ?_]
      rcases hi.2 with w | w
      · by_cases z : mPar rs rg lg b = -1
        · exact Or.inl z
        · refine Or.inr ⟨?_, w⟩
          have h1 := hi.1.1
          have h3 : ¬ (mPar rs rg lg b).toInt = -1 := fun p => z (Int32.toInt_inj.mp (p.trans (by decide)))
          omega
      · exact Or.inl w
/-- more fuel, the same chain -/
theorem an_f (g : Int32 → Int32) : ∀ (n m : Nat) (b : Int32), (an9 g (n + m) b).length ≤ n → an9 g (n + m) b = an9 g n b
  | 0, m, b, h => List.eq_nil_of_length_eq_zero (by omega)
  | n + 1, m, b, h => by
    rw [show n + 1 + m = (n + m) + 1 by omega] at h ⊢
    have e1 : an9 g (n + m + 1) b = if b = -1 then [] else b :: an9 g (n + m) (g b) := rfl
    have e2 : an9 g (n + 1) b = if b = -1 then [] else b :: an9 g n (g b) := rfl
    rw [e1, e2]
    rw [e1] at h
    by_cases q : b = -1
    · rw [if_pos q, if_pos q]
    · rw [if_neg q, if_neg q]
      rw [if_neg q, List.length_cons] at h
      rw [an_f g n m (g b) (by omega)]
end PA9s
end
section
section IB9s
variable {ch : Nat → Int} {D : List El7} {ws rs : Nat → Int32} {wg rg : Nat → Nat → Int32} {wl lg : Nat → Nat → Int64}
/-- the first element is the root, and the only one -/
def RT9 (D : List El7) : Prop := dAb D 0 = -1 ∧ ∀ x, 0 < x → x < D.length → 0 ≤ dAb D x ∧ dAb D x < (x : Int)
theorem root_k (hR : RT9 D) (hG : ∀ j, j < D.length → GOODC D j) (h0 : 0 < D.length) : dKd D 0 = 1 := by
  have hS := (hG 0 h0).1
  have hi : dIn D 0 = 0 := by unfold dIn; rw [if_pos hR.1]
  unfold STN at hS
  rw [hi] at hS
  rcases hS with c | c | c | c | c | c | c | c
  · exact c.1
  · exact absurd c.2 (by decide)
  · exact absurd c.2 (by decide)
  · exact absurd c.2.1 (by decide)
  · exact absurd c.2.1 (by decide)
  · exact absurd c.2.1 (by decide)
  · exact absurd c.2 (by decide)
  · exact absurd c.2 (by decide)
/-- a bean stands in the root just if it has an id -/
theorem id_root (hR : RT9 D) (hG : ∀ j, j < D.length → GOODC D j) {y : Nat} (hy : y < D.length) (hk : dKd D y = 3) : dAb D y = 0 ↔ aH (dAt D y) 26980 = 1 := by
  have hy0 : 0 < y := by
    rcases Nat.eq_zero_or_pos y with q | q
    · rw [q, root_k hR hG (by omega)] at hk; exact absurd hk (by decide)
    · exact q
  obtain ⟨a1, a2⟩ := hR.2 y hy0 hy
  have hi : dIn D y = dKd D (dAb D y).toNat := by unfold dIn; rw [if_neg (by omega)]
  have hGy := hG y hy
  constructor
  · intro q
    rw [q] at hi
    have hi : dIn D y = dKd D 0 := hi
    rw [root_k hR hG (by omega)] at hi
    rcases hGy.2.2.1.2.1 with c | c
    · exact absurd hk c
    · rcases c.1 with d | d
      · exact absurd hi d
      · exact d
  · intro q
    obtain ⟨z, h1, h2⟩ := aH_mm q
    have hm := (hGy.2.1 z h1).1
    rw [h2, hk] at hm
    have e : (26980 : Int64).toInt = 26980 := by decide
    rw [e] at hm
    unfold MAY at hm
    have h1 : dIn D y = 1 := by omega
    rw [h1] at hi
    have hS := (hG (dAb D y).toNat (by omega)).1
    unfold STN at hS
    by_cases w : dAb D y = 0
    · exact w
    · exfalso
      have := (hR.2 (dAb D y).toNat (by omega) (by omega)).1
      omega
theorem IDB_of (hB : BC7 D ws wg wl D.length) (hN : BN7 D rs rg D.length) (hL : ∀ x, x < D.length → RL7 D rg lg x) (hR : RT9 D) (hG : ∀ j, j < D.length → GOODC D j) : IDB D ws rs rg wl lg ∧ PRB D rs rg wl lg := by
  obtain ⟨b1, b2, _, _⟩ := hB
  obtain ⟨c1, c2⟩ := hN
  have key : ∀ b, b < (rs 41).toNatClampNeg → ∃ y, (bsN D D.length)[b]? = some y ∧ y < D.length ∧ dKd D y = 3 := by
    intro b hb
    have hl : b < (bsN D D.length).length := by have k : (rs 41).toNatClampNeg = (rs 41).toInt.toNat := rfl; omega
    have hg := List.getElem?_eq_getElem hl
    have hm := (bsN_m D.length _).mp (List.mem_of_getElem? hg)
    exact ⟨_, hg, hm.1, hm.2⟩
  refine ⟨⟨by omega, by omega, fun b hb => ?_⟩, fun b hb => ?_⟩
  · obtain ⟨y, hg, hy, hk⟩ := key b hb
    obtain ⟨d1, d2, d3⟩ := b2 b y hg
    obtain ⟨f1, f2⟩ := c2 b y hg
    have r := hL y hy
    refine ⟨y, by show (rg 42 b).toInt.toNat = y; omega, d1, ?_, r.1 _, (hG y hy).2.1⟩
    rw [i0_e, r.2.2.2.1]; exact id_root hR hG hy hk
  · obtain ⟨y, hg, hy, hk⟩ := key b hb
    obtain ⟨d1, d2, d3⟩ := b2 b y hg
    obtain ⟨f1, f2⟩ := c2 b y hg
    have r := hL y hy
    exact ⟨y, by show (rg 42 b).toInt.toNat = y; omega, d2, r.2.2.1 _, r.1 _, (hG y hy).2.1⟩
end IB9s
theorem RT_of {D : List El7} (h : TR7 D) (h0 : 0 < D.length) : RT9 D := by
  have q := h 0 h0
  refine ⟨by omega, fun x hx hl => ?_⟩
  have w := h x hl
  omega
end
section
section AL9s
variable {ws rs : Nat → Int32} {wg rg : Nat → Nat → Int32} {wl lg : Nat → Nat → Int64} {v : Int64} {P : Nat → Prop}
theorem alF_p : ∀ (f i : Nat), (∀ j, i ≤ j → j < i + f → (((wg 14 j).toInt = 1 ∧ wl 1 j = v) ↔ P j)) → (∃ j, i ≤ j ∧ j < i + f ∧ P j ∧ alF wg wl v f i = wl 2 j) ∨ ((∀ j, i ≤ j → j < i + f → ¬ P j) ∧ alF wg wl v f i = 0)
  | 0, i, _ => Or.inr ⟨fun j h1 h2 => by omega, rfl⟩
  | f + 1, i, h => by
    have e : alF wg wl v (f + 1) i = if (wg 14 i).toInt = 1 ∧ wl 1 i = v then wl 2 i else alF wg wl v f (i + 1) := rfl
    rw [e]
    by_cases q : (wg 14 i).toInt = 1 ∧ wl 1 i = v
    · rw [if_pos q]; exact Or.inl ⟨i, Nat.le_refl _, by omega, (h i (Nat.le_refl _) (by omega)).mp q, rfl⟩
    · rw [if_neg q]
      rcases alF_p f (i + 1) (fun j h1 h2 => h j (by omega) (by omega)) with ⟨j, a1, a2, a3, a4⟩ | ⟨a1, a2⟩
      · exact Or.inl ⟨j, by omega, by omega, a3, a4⟩
      · refine Or.inr ⟨fun j h1 h2 p => ?_, a2⟩
        by_cases w : j = i
        · rw [w] at p; exact q ((h i (Nat.le_refl _) (by omega)).mpr p)
        · exact a1 j (by omega) (by omega) p
theorem thR_p : ∀ (n : Nat), (∀ j, 0 < j → j < n → ((rg 26 j = 2 ∧ mWord rg lg j 29807 = v) ↔ P j)) → (∃ j, 0 < j ∧ j < n ∧ P j ∧ thR rg lg v n = mWord rg lg j 1851878757) ∨ ((∀ j, 0 < j → j < n → ¬ P j) ∧ thR rg lg v n = -1)
  | 0, _ => Or.inr ⟨fun j h1 h2 => by omega, rfl⟩
  | n + 1, h => by
    have e : thR rg lg v (n + 1) = if n = 0 then -1 else if rg 26 n = 2 ∧ mWord rg lg n 29807 = v then mWord rg lg n 1851878757 else thR rg lg v n := rfl
    rw [e]
    by_cases z : n = 0
    · rw [if_pos z]; exact Or.inr ⟨fun j h1 h2 => by omega, rfl⟩
    · rw [if_neg z]
      by_cases q : rg 26 n = 2 ∧ mWord rg lg n 29807 = v
      · rw [if_pos q]; exact Or.inl ⟨n, by omega, by omega, (h n (by omega) (by omega)).mp q, rfl⟩
      · rw [if_neg q]
        rcases thR_p n (fun j h1 h2 => h j h1 (by omega)) with ⟨j, a1, a2, a3, a4⟩ | ⟨a1, a2⟩
        · exact Or.inl ⟨j, a1, by omega, a3, a4⟩
        · refine Or.inr ⟨fun j h1 h2 p => ?_, a2⟩
          by_cases w : j = n
          · rw [w] at p; exact q ((h n (by omega) (by omega)).mpr p)
          · exact a1 j h1 (by omega) p
/-- an alias is told once: both sides follow it alike -/
theorem AL_e {N : Nat} {X : Nat → Int64} (hc : ∀ j, j < N → (((wg 14 j).toInt = 1 ∧ wl 1 j = v) ↔ P j)) (hr : ∀ j, 0 < j → j < N → ((rg 26 j = 2 ∧ mWord rg lg j 29807 = v) ↔ P j)) (h0 : ¬ P 0) (hu : ∀ i j, i < N → j < N → P i → P j → i = j) (hx : ∀ j, j < N → P j → wl 2 j = X j ∧ mWord rg lg j 1851878757 = X j ∧ ¬ X j = 0 ∧ 0 ≤ (X j).toInt) (hn : (ws 4).toNatClampNeg = N) (hn2 : (rs 24).toNatClampNeg = N) : (alN ws wg wl v = thR rg lg v (rs 24).toNatClampNeg ∧ ¬ alN ws wg wl v = 0 ∧ 0 ≤ (thR rg lg v (rs 24).toNatClampNeg).toInt) ∨ (alN ws wg wl v = 0 ∧ thR rg lg v (rs 24).toNatClampNeg = -1) := by
  unfold alN
  rw [hn, hn2]
  rcases alF_p (P := P) N 0 (fun j _ h2 => hc j (by omega)) with ⟨i, _, a2, a3, a4⟩ | ⟨a1, a2⟩
  · rcases thR_p (P := P) N hr with ⟨j, b1, b2, b3, b4⟩ | ⟨b1, b2⟩
    · have e := hu i j (by omega) b2 a3 b3
      obtain ⟨x1, x2, x3, x4⟩ := hx j b2 b3
      rw [a4, b4, e, x1, x2]
      exact Or.inl ⟨rfl, x3, x4⟩
    · have hi : 0 < i := by
        rcases Nat.eq_zero_or_pos i with q | q
        · rw [q] at a3; exact absurd a3 h0
        · exact q
      exact absurd a3 (b1 i hi (by omega))
  · rcases thR_p (P := P) N hr with ⟨j, b1, b2, b3, b4⟩ | ⟨b1, b2⟩
    · exact absurd b3 (a1 j (Nat.zero_le _) (by omega))
    · exact Or.inr ⟨a2, b2⟩
/-- a name calls the same bean on both sides -/
theorem CAL_e (hW : ∀ v : Int64, mWid rs rg lg v = cWid ws wl v) (hA : ∀ v : Int64, (alN ws wg wl v = thR rg lg v (rs 24).toNatClampNeg ∧ ¬ alN ws wg wl v = 0 ∧ 0 ≤ (thR rg lg v (rs 24).toNatClampNeg).toInt) ∨ (alN ws wg wl v = 0 ∧ thR rg lg v (rs 24).toNatClampNeg = -1)) (h0 : thR rg lg 0 (rs 24).toNatClampNeg = -1) : ∀ (n : Nat) (v : Int64), cdF rs rg lg n v = caF ws wg wl n v
  | 0, _ => rfl
  | n + 1, v => by
    have e1 : cdF rs rg lg (n + 1) v = if ¬ mWid rs rg lg v = -1 then mWid rs rg lg v else if (thR rg lg v (rs 24).toNatClampNeg).toInt < 0 then -1 else cdF rs rg lg n (thR rg lg v (rs 24).toNatClampNeg) := rfl
    have e2 : caF ws wg wl (n + 1) v = if v = 0 then -1 else if cWid ws wl v = -1 then caF ws wg wl n (alN ws wg wl v) else cWid ws wl v := rfl
    have m1 : (-1 : Int64).toInt = -1 := by decide
    rw [e1, e2, hW]
    by_cases hv : v = 0
    · have hc : cWid ws wl v = -1 := by unfold cWid; rw [if_pos hv]
      rw [if_neg (fun q => q hc), if_pos hv, hv, h0, m1, if_pos (by decide)]
    · rw [if_neg hv]
      by_cases hc : cWid ws wl v = -1
      · rw [if_neg (fun q => q hc), if_pos hc]
        rcases hA v with ⟨a1, a2, a3⟩ | ⟨a1, a2⟩
        · rw [if_neg (by omega), ← a1]; exact CAL_e hW hA h0 n _
        · rw [a2, m1, if_pos (by decide), a1]
          cases n with
          | zero => rfl
          | succ n => exact (if_pos rfl).symm
      · rw [if_pos hc, if_neg hc]
theorem CA_e (hW : ∀ v : Int64, mWid rs rg lg v = cWid ws wl v) (hA : ∀ v : Int64, (alN ws wg wl v = thR rg lg v (rs 24).toNatClampNeg ∧ ¬ alN ws wg wl v = 0 ∧ 0 ≤ (thR rg lg v (rs 24).toNatClampNeg).toInt) ∨ (alN ws wg wl v = 0 ∧ thR rg lg v (rs 24).toNatClampNeg = -1)) (h0 : thR rg lg 0 (rs 24).toNatClampNeg = -1) (v : Int64) : (cdR rs rg lg v).toInt = caN ws wg wl v := by
  unfold cdR caN; rw [CAL_e hW hA h0]
end AL9s
end
section
section AD9s
variable {D : List El7} {ws rs : Nat → Int32} {wg rg : Nat → Nat → Int32} {wl lg : Nat → Nat → Int64}
theorem nv_pos {q : At7} {k : Int64} (hp : PA7 q) (h : ¬ nv7 q k = 0) : 0 ≤ (nv7 q k).toInt := by
  have hI : aI q k = 1 := (nv7_z hp).mp h
  rw [nv_aW h]
  cases hg : gA q k with
  | none => rw [aI_n hg] at hI; exact absurd hI (by decide)
  | some v =>
    rw [aI_s hg] at hI
    by_cases w : 1 ≤ v.length ∧ v.length ≤ 8 ∧ allL v = true
    · rw [aW_s hg, if_pos w.2.1]; exact foL_p (gA_pv hp hg) w.2.1
    · rw [if_neg w] at hI; exact absurd hI (by decide)
/-- an alias has both its names -/
theorem al_nm {i : Nat} (hG : GOODC D i) (hk : dKd D i = 2) : (¬ nv7 (dAt D i) 29807 = 0 ∧ nv7 (dAt D i) 29807 = aW (dAt D i) 29807) ∧ (¬ nv7 (dAt D i) 1851878757 = 0 ∧ nv7 (dAt D i) 1851878757 = aW (dAt D i) 1851878757) := by
  have hn := hG.2.2.1.1.resolve_left (fun q => q hk)
  refine ⟨nm_ok hG.2.1 hn.2 (by decide), ?_⟩
  obtain ⟨y, h1, h2⟩ := aH_mm hn.1
  have hr := (hG.2.1 y h1).2
  rw [h2] at hr
  unfold RVL at hr
  have e : (1851878757 : Int64).toInt = 1851878757 := by decide
  rw [e, hk] at hr
  have q : ¬ nv7 (dAt D i) 1851878757 = 0 := by
    rcases hr with c | c | c | c | c | c | c | c | c
    · rcases c.2 with d | d
      · exact d.2
      · exact absurd rfl d.1
    · omega
    · omega
    · omega
    · omega
    · omega
    · omega
    · omega
    · omega
  exact ⟨q, nv_aW q⟩
/-- names call alike, out of D -/
theorem CA_of (hB : BC7 D ws wg wl D.length) (hS : ∀ e, e < D.length → SE9 D wg wl e) (hK : ∀ e, e < D.length → KW7 (wg 14 e).toInt (dKd D e)) (hN : BN7 D rs rg D.length) (hL : ∀ x, x < D.length → RL7 D rg lg x) (hKN : KN7 D rg D.length) (hR : RT9 D) (hG : ∀ j, j < D.length → GOODC D j) (hC : BBC D) (hP : ∀ x, x < D.length → PA7 (dAt D x)) (h0 : 0 < D.length) (hn : (ws 4).toNatClampNeg = D.length) (hn2 : (rs 24).toNatClampNeg = D.length) (v : Int64) : (cdR rs rg lg v).toInt = caN ws wg wl v := by
  have hI := (IDB_of hB hN hL hR hG).1
  have rk : ∀ i, i < D.length → (rg 26 i = 2 ↔ dKd D i = 2) := fun i hi => by rw [ik_e (n := 2) (by decide), hKN i hi]
  have ck : ∀ i, i < D.length → ((wg 14 i).toInt = 1 ↔ dKd D i = 2) := fun i hi => by
    constructor
    · intro q
      have h := hK i hi
      rw [q] at h
      exact KW_f h (by unfold KW7; decide)
    · intro q
      have h := KW_j (hK i hi) (by omega)
      rw [q] at h; rw [h]; decide
  have nm : ∀ i, i < D.length → dKd D i = 2 → wl 1 i = nv7 (dAt D i) 29807 := fun i hi q => by rw [hB.2.2.2 i hi]; unfold nmD; rw [if_pos q]
  have k0 := root_k hR hG h0
  have fc : ∀ (v : Int64) j, j < D.length → (((wg 14 j).toInt = 1 ∧ wl 1 j = v) ↔ (dKd D j = 2 ∧ nv7 (dAt D j) 29807 = v)) := fun v j hj => by
    rw [ck j hj]
    exact ⟨fun q => ⟨q.1, (nm j hj q.1).symm.trans q.2⟩, fun q => ⟨q.1, (nm j hj q.1).trans q.2⟩⟩
  have fr : ∀ (v : Int64) j, 0 < j → j < D.length → ((rg 26 j = 2 ∧ mWord rg lg j 29807 = v) ↔ (dKd D j = 2 ∧ nv7 (dAt D j) 29807 = v)) := fun v j _ hj => by
    rw [rk j hj, (hL j hj).1]
    exact ⟨fun q => ⟨q.1, (al_nm (hG j hj) q.1).1.2.trans q.2⟩, fun q => ⟨q.1, (al_nm (hG j hj) q.1).1.2.symm.trans q.2⟩⟩
  refine CA_e (WID_e hI) (fun v => ?_) ?_ v
  · refine AL_e (P := fun j => dKd D j = 2 ∧ nv7 (dAt D j) 29807 = v) (N := D.length) (X := fun j => nv7 (dAt D j) 1851878757) (fc v) (fr v) (fun q => by have := q.1; omega) (fun i j hi hj p1 p2 => ?_) (fun j hj p => ?_) hn hn2
    · have e : ∀ i, dKd D i = 2 → nmD D i = nv7 (dAt D i) 29807 := fun i q => by unfold nmD; rw [if_pos q]
      rcases Nat.lt_trichotomy i j with w | w | w
      · exfalso
        refine (hC j hj).1 ?_ i w ?_
        · rw [e j p2.1]; exact (al_nm (hG j hj) p2.1).1.1
        · rw [e i p1.1, e j p2.1, p1.2, p2.2]
      · exact w
      · exfalso
        refine (hC i hi).1 ?_ j w ?_
        · rw [e i p1.1]; exact (al_nm (hG i hi) p1.1).1.1
        · rw [e i p1.1, e j p2.1, p1.2, p2.2]
    · obtain ⟨n1, n2⟩ := (al_nm (hG j hj) p.1).2
      exact ⟨(hS j hj).2.2.2.1 p.1, ((hL j hj).1 _).trans n2.symm, n1, nv_pos (hP j hj) n1⟩
  · rw [hn2]
    rcases thR_p (v := 0) (P := fun j => dKd D j = 2 ∧ nv7 (dAt D j) 29807 = 0) D.length (fr 0) with ⟨j, b1, b2, b3, b4⟩ | ⟨b1, b2⟩
    · exact absurd b3.2 (al_nm (hG j b2) b3.1).1.1
    · exact b2
end AD9s
end
section
section KC9
variable {q q2 p : Nat → Bool} {D : List El7} {rs : Nat → Int32} {wg rg : Nat → Nat → Int32} {lg : Nat → Nat → Int64}
theorem nI_n {k : Nat} (h : k ≤ 1200) : (nI k).toNatClampNeg = k := by
  have := nI_toInt (n := k) (by omega)
  show (nI k).toInt.toNat = k; omega
theorem nI_m {k : Nat} (h : k ≤ 1200) : ¬ nI k = -1 := fun w => by
  have := nI_toInt (n := k) (by omega)
  rw [w] at this
  have h4 : (-1 : Int32).toInt = -1 := by decide
  omega
theorem kdL_n : ∀ (n j : Nat), (∀ k, j ≤ k → k < j + n → q k = false) → kdL q n j = []
  | 0, _, _ => rfl
  | n + 1, j, h => by
    show (if q j = true then nI j :: kdL q n (j + 1) else kdL q n (j + 1)) = []
    rw [h j (Nat.le_refl _) (by omega), if_neg (by decide), kdL_n n (j + 1) (fun k h1 h2 => h k (by omega) (by omega))]
theorem kdL_at {x : Nat} : ∀ (n j : Nat), j ≤ x → x < j + n → q x = true → (∀ k, j ≤ k → k < x → q k = false) → kdL q n j = nI x :: kdL q (j + n - (x + 1)) (x + 1)
  | 0, _, _, _, _, _ => by omega
  | n + 1, j, h1, h2, hx, h => by
    show (if q j = true then nI j :: kdL q n (j + 1) else kdL q n (j + 1)) = _
    by_cases w : j = x
    · rw [w, if_pos hx, show x + (n + 1) - (x + 1) = n by omega]
    · rw [h j (Nat.le_refl _) (by omega), if_neg (by decide), kdL_at n (j + 1) (by omega) (by omega) hx (fun k h3 h4 => h k (by omega) h4), show j + 1 + n - (x + 1) = j + (n + 1) - (x + 1) by omega]
theorem kdL_e : ∀ (n j : Nat), (∀ k, j ≤ k → k < j + n → q k = q2 k) → kdL q n j = kdL q2 n j
  | 0, _, _ => rfl
  | n + 1, j, h => by
    show (if q j = true then nI j :: kdL q n (j + 1) else kdL q n (j + 1)) = (if q2 j = true then nI j :: kdL q2 n (j + 1) else kdL q2 n (j + 1))
    rw [h j (Nat.le_refl _) (by omega), kdL_e n (j + 1) (fun k h1 h2 => h k (by omega) (by omega))]
theorem kdL_fl : ∀ (n j : Nat), j + n ≤ 1200 → kdL (fun k => q k && p k) n j = (kdL q n j).filter (fun x => p x.toNatClampNeg)
  | 0, _, _ => rfl
  | n + 1, j, h => by
    show (if (q j && p j) = true then nI j :: kdL (fun k => q k && p k) n (j + 1) else kdL (fun k => q k && p k) n (j + 1)) = (if q j = true then nI j :: kdL q n (j + 1) else kdL q n (j + 1)).filter _
    rw [kdL_fl n (j + 1) (by omega)]
    have e := nI_n (k := j) (by omega)
    cases w : q j with
    | false => rw [Bool.false_and, if_neg (by decide), if_neg (by decide)]
    | true =>
      rw [Bool.true_and, if_pos rfl]
      cases u : p j with
      | false => rw [if_neg (by decide), List.filter_cons_of_neg (by rw [e, u]; decide)]
      | true => rw [if_pos rfl, List.filter_cons_of_pos (by rw [e]; exact u)]
theorem kdL_mm {x : Int32} : ∀ (n j : Nat), x ∈ kdL q n j → ∃ k, j ≤ k ∧ k < j + n ∧ q k = true ∧ x = nI k
  | 0, _, h => by cases h
  | n + 1, j, h => by
    have h : x ∈ (if q j = true then nI j :: kdL q n (j + 1) else kdL q n (j + 1)) := h
    by_cases w : q j = true
    · rw [if_pos w] at h
      rcases List.mem_cons.mp h with c | c
      · exact ⟨j, Nat.le_refl _, by omega, w, c⟩
      · obtain ⟨k, a1, a2, a3, a4⟩ := kdL_mm n (j + 1) c
        exact ⟨k, by omega, by omega, a3, a4⟩
    · rw [if_neg w] at h
      obtain ⟨k, a1, a2, a3, a4⟩ := kdL_mm n (j + 1) h
      exact ⟨k, by omega, by omega, a3, a4⟩
theorem kdL_b {m : Nat} : ∀ (n j : Nat), (∀ k, j ≤ k → k < j + m → q k = false) → kdL q (m + n) j = kdL q n (j + m) := by
  induction m with
  | zero => intro n j _; rw [Nat.zero_add]; rfl
  | succ m ih =>
    intro n j h
    rw [show m + 1 + n = (m + n) + 1 by omega]
    show (if q j = true then nI j :: kdL q (m + n) (j + 1) else kdL q (m + n) (j + 1)) = _
    rw [h j (Nat.le_refl _) (by omega), if_neg (by decide), ih n (j + 1) (fun k h1 h2 => h k (by omega) (by omega)), show j + 1 + m = j + (m + 1) by omega]
/-- what stands in an element, by D -/
def qC9 (D : List El7) (e : Nat) (j : Nat) : Bool := decide (dAb D j = (e : Int))
def kc9 (D : List El7) (e : Nat) : List Int32 := kdL (qC9 D e) D.length 0
theorem kc_m {e : Nat} {x : Int32} (h : x ∈ kc9 D e) : ∃ k, k < D.length ∧ dAb D k = (e : Int) ∧ x = nI k := by
  obtain ⟨k, _, a2, a3, a4⟩ := kdL_mm _ _ h
  exact ⟨k, by omega, of_decide_eq_true a3, a4⟩
theorem kdL_l : ∀ (n j : Nat) (f : Nat → Int) (e : Int), (kdL (fun k => decide (f k = e)) n j).length + cnD f e j = cnD f e (j + n)
  | 0, j, f, e => by show 0 + cnD f e j = _; rw [Nat.zero_add]; rfl
  | n + 1, j, f, e => by
    have ih := kdL_l n (j + 1) f e
    have e1 : cnD f e (j + 1) = cnD f e j + (if f j = e then 1 else 0) := rfl
    have e2 : kdL (fun k => decide (f k = e)) (n + 1) j = if decide (f j = e) = true then nI j :: kdL (fun k => decide (f k = e)) n (j + 1) else kdL (fun k => decide (f k = e)) n (j + 1) := rfl
    rw [show j + (n + 1) = j + 1 + n by omega, ← ih, e1, e2]
    by_cases w : f j = e
    · rw [if_pos w, if_pos (decide_eq_true w), List.length_cons]; omega
    · rw [if_neg w, if_neg (by rw [decide_eq_false w]; decide)]; omega
theorem kc_l {e : Nat} : (kc9 D e).length = dCn D e := by
  have := kdL_l D.length 0 (dAb D) (e : Int)
  rw [Nat.zero_add] at this
  exact this
/-- the class's rows: first, next -/
theorem ki_kd {n e : Nat} (hq : ∀ j, j < n → (q j = true ↔ (wg 15 j).toInt = (e : Int))) (hL : LKS wg n) (hn : n ≤ 80) : ∀ (f k : Nat) (v : Int32), ((v.toInt = -1 ∧ ∀ j, k ≤ j → j < n → q j = false) ∨ (0 ≤ v.toInt ∧ (k : Int) ≤ v.toInt ∧ v.toInt < (n : Int) ∧ q v.toNatClampNeg = true ∧ ∀ j : Nat, k ≤ j → (j : Int) < v.toInt → q j = false)) → n - k ≤ f → ki9 wg f v = kdL q (n - k) k
  | 0, k, v, _, hf => by rw [show n - k = 0 by omega]; rfl
  | f + 1, k, v, h, hf => by
    rcases h with ⟨h1, h2⟩ | ⟨h0, h1, h2, h3, h4⟩
    · rw [kdL_n _ _ (fun j a b => h2 j a (by omega))]
      show (if v.toInt < 0 then _ else _) = _
      rw [if_pos (by omega)]
    · have hc : (v.toNatClampNeg : Int) = v.toInt := cln9 h0
      have hv : nI v.toNatClampNeg = v := nI_c ⟨h0, by omega⟩
      rw [ki_s h0, kdL_at (x := v.toNatClampNeg) (n - k) k (by omega) (by omega) h3 (fun j a b => h4 j a (by omega)), hv]
      have hx : v.toNatClampNeg < n := by omega
      have e17 := (hL _ hx).2.2.2.1
      have p15 : (wg 15 v.toNatClampNeg).toInt = (e : Int) := (hq _ hx).mp h3
      rw [show k + (n - k) - (v.toNatClampNeg + 1) = n - (v.toNatClampNeg + 1) by omega]
      refine congrArg _ (ki_kd hq hL hn f (v.toNatClampNeg + 1) _ ?_ (by omega))
      have fb : ∀ j, j < n → ¬ (wg 15 j).toInt = (wg 15 v.toNatClampNeg).toInt → q j = false := fun j hj w => by
        cases u : q j with
        | false => rfl
        | true => exact absurd (((hq j hj).mp u).trans p15.symm) w
      rcases nxR_p (f := fun j => (wg 15 j).toInt) (k := v.toNatClampNeg) n with ⟨c1, c2⟩ | ⟨c0, c1, c2, c3, c4⟩
      · exact Or.inl ⟨e17.trans c1, fun j a b => fb j b (c2 j (by omega) b)⟩
      · rw [← e17] at c0 c1 c2 c3 c4
        have hcl : (wg 17 v.toNatClampNeg).toNatClampNeg = (wg 17 v.toNatClampNeg).toInt.toNat := rfl
        refine Or.inr ⟨c0, by omega, c2, ?_, fun j a b => fb j (by omega) (c4 j (by omega) b)⟩
        rw [hcl]
        exact (hq _ (by omega)).mpr (c3.trans p15)
theorem KI_c {n e f : Nat} (hL : LKS wg n) (hn : n = D.length) (h80 : D.length ≤ 80) (hA : ∀ j, j < D.length → (wg 15 j).toInt = dAb D j) (he : e < D.length) (hf : D.length ≤ f) : ki9 wg f (wg 16 e) = kc9 D e := by
  have hq : ∀ j, j < n → (qC9 D e j = true ↔ (wg 15 j).toInt = (e : Int)) := fun j hj => by
    rw [hA j (by omega)]; exact ⟨fun w => of_decide_eq_true w, fun w => decide_eq_true w⟩
  have e16 := (hL e (by omega)).2.2.1
  have fb : ∀ j, j < n → ¬ (wg 15 j).toInt = (e : Int) → qC9 D e j = false := fun j hj w => by
    cases u : qC9 D e j with
    | false => rfl
    | true => exact absurd ((hq j hj).mp u) w
  have r := ki_kd hq hL (by omega) f 0 (wg 16 e) ?_ (by omega)
  · rw [r, Nat.sub_zero, hn]; rfl
  · rcases fiR_p (f := fun j => (wg 15 j).toInt) (e := (e : Int)) n with ⟨c1, c2⟩ | ⟨c0, c1, c2, c3⟩
    · exact Or.inl ⟨e16.trans c1, fun j a b => fb j b (c2 j b)⟩
    · rw [← e16] at c0 c1 c2 c3
      have hcl : (wg 16 e).toNatClampNeg = (wg 16 e).toInt.toNat := rfl
      refine Or.inr ⟨c0, by omega, c1, ?_, fun j _ b => fb j (by omega) (c3 j b)⟩
      rw [hcl]
      exact (hq _ (by omega)).mpr c2
/-- the reference's: by scanning -/
theorem kA_c {e : Nat} {kd : Int32} (hn : (rs 24).toInt = (D.length : Int)) (h80 : D.length ≤ 80) (h28 : ∀ j, j < D.length → (rg 28 j).toInt = dAb D j) (h26 : ∀ j, j < D.length → (rg 26 j).toInt = dKd D j) (he : e < D.length) {bh : Int32} (hb : bh.toNatClampNeg < D.length) (hno : ∀ j, j ≤ bh.toNatClampNeg → ¬ dAb D j = (e : Int)) : kA9 rs rg (nI e) kd bh = (kc9 D e).filter (fun x => decide (kd = 0) || decide (dKd D x.toNatClampNeg = kd.toInt)) := by
  have hl : (rs 24).toNatClampNeg = D.length := by show (rs 24).toInt.toNat = _; omega
  have te := nI_toInt (n := e) (by omega)
  unfold kA9 kc9
  rw [hl]
  have e1 : kdL (qC9 D e) D.length 0 = kdL (qC9 D e) (D.length - (bh.toNatClampNeg + 1)) (bh.toNatClampNeg + 1) := by
    have := kdL_b (q := qC9 D e) (m := bh.toNatClampNeg + 1) (D.length - (bh.toNatClampNeg + 1)) 0 (fun k _ h2 => decide_eq_false (hno k (by omega)))
    rw [show bh.toNatClampNeg + 1 + (D.length - (bh.toNatClampNeg + 1)) = D.length by omega, Nat.zero_add] at this
    exact this
  rw [e1, ← kdL_fl (q := qC9 D e) (p := fun j => decide (kd = 0) || decide (dKd D j = kd.toInt)) _ _ (by omega)]
  refine kdL_e _ _ (fun k h1 h2 => ?_)
  have hk : k < D.length := by omega
  have c1 : decide (rg 28 k = nI e) = qC9 D e k := by
    unfold qC9
    by_cases w : dAb D k = (e : Int)
    · rw [decide_eq_true w, decide_eq_true (Int32.toInt_inj.mp (by rw [h28 k hk, w, te]))]
    · rw [decide_eq_false w, decide_eq_false (fun u => w (by rw [← h28 k hk, u, te]))]
  have c2 : decide (rg 26 k = kd) = decide (dKd D k = kd.toInt) := by
    by_cases w : dKd D k = kd.toInt
    · rw [decide_eq_true w, decide_eq_true (Int32.toInt_inj.mp (by rw [h26 k hk, w]))]
    · rw [decide_eq_false w, decide_eq_false (fun u => w (by rw [← h26 k hk, u]))]
  unfold qInn
  rw [c1, c2]
/-- one after another -/
theorem sq_d {a kd bh : Int32} {F : Nat → Int32} (hn : iv 0 80 (rs 24)) (h0 : F 0 = mInn rs rg a kd bh) (hs : ∀ n, F (n + 1) = if F n = -1 then -1 else mInn rs rg a kd (F n)) : ∀ n, (kA9 rs rg a kd bh).drop n = rem9 rs rg a kd (F n)
  | 0 => by rw [List.drop_zero]; exact kA_r hn h0
  | n + 1 => by
    have ih := sq_d hn h0 hs n
    have e : (kA9 rs rg a kd bh).drop (n + 1) = ((kA9 rs rg a kd bh).drop n).drop 1 := by rw [List.drop_drop]
    rw [e, ih, hs n]
    unfold rem9
    by_cases w : F n = -1
    · rw [if_pos w, if_pos w, if_pos rfl]; rfl
    · rw [if_neg w, if_neg w]
      show kA9 rs rg a kd (F n) = _
      exact kA_r hn rfl
theorem sq_g {a kd bh : Int32} {F : Nat → Int32} (hn : iv 0 80 (rs 24)) (h0 : F 0 = mInn rs rg a kd bh) (hs : ∀ n, F (n + 1) = if F n = -1 then -1 else mInn rs rg a kd (F n)) (n : Nat) : F n = ((kA9 rs rg a kd bh)[n]?).getD (-1) := by
  have h := sq_d hn h0 hs n
  have e : ((kA9 rs rg a kd bh).drop n)[0]? = (kA9 rs rg a kd bh)[n]? := by rw [List.getElem?_drop, Nat.add_zero]
  rw [← e, h]
  unfold rem9
  by_cases w : F n = -1
  · rw [if_pos w, w]; rfl
  · rw [if_neg w]; rfl
end KC9
end
section
section ML9
variable {w : Int32 → Int} {lt : Int32 → Int32} {W : Nat → Int64} {P : Int32 → Prop} {D : List El7} {rs : Nat → Int32} {wg rg : Nat → Nat → Int32} {lg wl : Nat → Nat → Int64}
/-- overlaying, kind by kind -/
abbrev f3 (w : Int32 → Int) (l : List Int32) : List Int32 := l.filter (fun x => decide (w x = 3))
abbrev f4 (w : Int32 → Int) (l : List Int32) : List Int32 := l.filter (fun x => decide (w x = 4))
abbrev f5 (w : Int32 → Int) (l : List Int32) : List Int32 := l.filter (fun x => decide (¬ w x = 3 ∧ ¬ w x = 4))
theorem ov_s : ∀ (l : List Int32) (h : Bool) (A S L : List Int32), ovI w lt h A S L l = ((if f3 w l = [] then A else (if h = true then A else []) ++ f3 w l), (f4 w l).foldl (pnL lt) S, (f5 w l).foldl (pnL lt) L)
  | [], h, A, S, L => rfl
  | x :: r, h, A, S, L => by
    show (if w x = 3 then ovI w lt true ((if h = true then A else []) ++ [x]) S L r else if w x = 4 then ovI w lt h A (pnL lt S x) L r else ovI w lt h A S (pnL lt L x) r) = _
    by_cases h3 : w x = 3
    · have a3 : f3 w (x :: r) = x :: f3 w r := List.filter_cons_of_pos (decide_eq_true h3)
      have a4 : f4 w (x :: r) = f4 w r := List.filter_cons_of_neg (by rw [decide_eq_false (by omega)]; decide)
      have a5 : f5 w (x :: r) = f5 w r := List.filter_cons_of_neg (by rw [decide_eq_false (fun q => q.1 h3)]; decide)
      rw [if_pos h3, ov_s r, a3, a4, a5, if_neg (List.cons_ne_nil _ _), if_pos rfl]
      by_cases z : f3 w r = []
      · rw [if_pos z, z]
      · rw [if_neg z, List.append_assoc]; rfl
    · by_cases h4 : w x = 4
      · have a3 : f3 w (x :: r) = f3 w r := List.filter_cons_of_neg (by rw [decide_eq_false h3]; decide)
        have a4 : f4 w (x :: r) = x :: f4 w r := List.filter_cons_of_pos (decide_eq_true h4)
        have a5 : f5 w (x :: r) = f5 w r := List.filter_cons_of_neg (by rw [decide_eq_false (fun q => q.2 h4)]; decide)
        rw [if_neg h3, if_pos h4, ov_s r, a3, a4, a5]; rfl
      · have a3 : f3 w (x :: r) = f3 w r := List.filter_cons_of_neg (by rw [decide_eq_false h3]; decide)
        have a4 : f4 w (x :: r) = f4 w r := List.filter_cons_of_neg (by rw [decide_eq_false h4]; decide)
        have a5 : f5 w (x :: r) = x :: f5 w r := List.filter_cons_of_pos (decide_eq_true ⟨h3, h4⟩)
        rw [if_neg h3, if_neg h4, ov_s r, a3, a4, a5]; rfl
theorem pn_e (hP : ∀ x y, P x → P y → (lt x = lt y ↔ W x.toNatClampNeg = W y.toNatClampNeg)) {n : Int32} (hn : P n) : ∀ L : List Int32, (∀ x, x ∈ L → P x) → pnL lt L n = pnW W L n ∧ ∀ x, x ∈ pnW W L n → P x
  | [], _ => ⟨rfl, fun x h => by rw [List.mem_singleton.mp h]; exact hn⟩
  | y :: r, h => by
    have hy := h y (List.mem_cons_self ..)
    obtain ⟨i1, i2⟩ := pn_e hP hn r (fun x hx => h x (List.mem_cons_of_mem _ hx))
    have e1 : pnL lt (y :: r) n = if lt y = lt n then n :: r else y :: pnL lt r n := rfl
    have e2 : pnW W (y :: r) n = if W y.toNatClampNeg = W n.toNatClampNeg then n :: r else y :: pnW W r n := rfl
    rw [e1, e2]
    by_cases c : lt y = lt n
    · rw [if_pos c, if_pos ((hP _ _ hy hn).mp c)]
      refine ⟨rfl, fun x hx => ?_⟩
      rcases List.mem_cons.mp hx with q | q
      · rw [q]; exact hn
      · exact h x (List.mem_cons_of_mem _ q)
    · rw [if_neg c, if_neg (fun q => c ((hP _ _ hy hn).mpr q)), i1]
      refine ⟨rfl, fun x hx => ?_⟩
      rcases List.mem_cons.mp hx with q | q
      · rw [q]; exact hy
      · exact i2 x q
theorem fo_e (hP : ∀ x y, P x → P y → (lt x = lt y ↔ W x.toNatClampNeg = W y.toNatClampNeg)) : ∀ (K L : List Int32), (∀ x, x ∈ K → P x) → (∀ x, x ∈ L → P x) → K.foldl (pnL lt) L = K.foldl (pnW W) L ∧ ∀ x, x ∈ K.foldl (pnW W) L → P x
  | [], L, _, hL => ⟨rfl, hL⟩
  | k :: K, L, hK, hL => by
    obtain ⟨i1, i2⟩ := pn_e hP (hK k (List.mem_cons_self ..)) L hL
    show K.foldl (pnL lt) (pnL lt L k) = K.foldl (pnW W) (pnW W L k) ∧ ∀ x, x ∈ K.foldl (pnW W) (pnW W L k) → P x
    rw [i1]
    exact fo_e hP K _ (fun x hx => hK x (List.mem_cons_of_mem _ hx)) i2
/-- letters are told apart by both -/
theorem pnW_u (W : Nat → Int64) (n : Int32) : ∀ L : List Int32, (∀ (i j : Nat) (x y : Int32), i < j → L[i]? = some x → L[j]? = some y → ¬ W x.toNatClampNeg = W y.toNatClampNeg) → ∀ (i j : Nat) (x y : Int32), i < j → (pnW W L n)[i]? = some x → (pnW W L n)[j]? = some y → ¬ W x.toNatClampNeg = W y.toNatClampNeg := by
  have hm : ∀ (L : List Int32) (x : Int32), x ∈ pnW W L n → x = n ∨ x ∈ L := by
    intro L
    induction L with
    | nil => intro x h; exact Or.inl (List.mem_singleton.mp h)
    | cons y r ih =>
      intro x h
      have h : x ∈ (if W y.toNatClampNeg = W n.toNatClampNeg then n :: r else y :: pnW W r n) := h
      by_cases c : W y.toNatClampNeg = W n.toNatClampNeg
      · rw [if_pos c] at h
        rcases List.mem_cons.mp h with q | q
        · exact Or.inl q
        · exact Or.inr (List.mem_cons_of_mem _ q)
      · rw [if_neg c] at h
        rcases List.mem_cons.mp h with q | q
        · exact Or.inr (by rw [q]; exact List.mem_cons_self ..)
        · exact (ih x q).imp id (List.mem_cons_of_mem _)
  intro L
  induction L with
  | nil =>
    intro _ i j x y hij h1 h2
    have : j < 1 := (List.getElem?_eq_some_iff.mp h2).1
    omega
  | cons z r ih =>
    intro h i j x y hij h1 h2
    have e2 : pnW W (z :: r) n = if W z.toNatClampNeg = W n.toNatClampNeg then n :: r else z :: pnW W r n := rfl
    rw [e2] at h1 h2
    have hr : ∀ (i j : Nat) (x y : Int32), i < j → r[i]? = some x → r[j]? = some y → ¬ W x.toNatClampNeg = W y.toNatClampNeg := fun i j x y hij a b => h (i + 1) (j + 1) x y (by omega) a b
    by_cases c : W z.toNatClampNeg = W n.toNatClampNeg
    · rw [if_pos c] at h1 h2
      cases j with
      | zero => omega
      | succ j =>
        cases i with
        | zero =>
          have h1 : some n = some x := h1
          rw [← Option.some.inj h1, ← c]
          exact h 0 (j + 1) z y (by omega) rfl h2
        | succ i => exact hr i j x y (by omega) h1 h2
    · rw [if_neg c] at h1 h2
      cases j with
      | zero => omega
      | succ j =>
        cases i with
        | zero =>
          have h1 : some z = some x := h1
          have h2 : (pnW W r n)[j]? = some y := h2
          rw [← Option.some.inj h1]
          rcases hm r y (List.mem_of_getElem? h2) with q | q
          · rw [q]; exact c
          · obtain ⟨k, hk⟩ := List.mem_iff_getElem?.mp q
            exact h 0 (k + 1) z y (by omega) rfl hk
        | succ i => exact ih hr i j x y (by omega) h1 h2
theorem fo_u (W : Nat → Int64) : ∀ (K L : List Int32), (∀ (i j : Nat) (x y : Int32), i < j → L[i]? = some x → L[j]? = some y → ¬ W x.toNatClampNeg = W y.toNatClampNeg) → ∀ (i j : Nat) (x y : Int32), i < j → (K.foldl (pnW W) L)[i]? = some x → (K.foldl (pnW W) L)[j]? = some y → ¬ W x.toNatClampNeg = W y.toNatClampNeg
  | [], _, h => h
  | k :: K, L, h => fo_u W K (pnW W L k) (pnW_u W k L h)
theorem mrS_u (W : Nat → Int64) (K : Int32 → List Int32) : ∀ (C : List Int32) (i j : Nat) (x y : Int32), i < j → (mrS W K C)[i]? = some x → (mrS W K C)[j]? = some y → ¬ W x.toNatClampNeg = W y.toNatClampNeg
  | [], i, j, x, y, _, h, _ => by cases h
  | c :: r, i, j, x, y, h, h1, h2 => fo_u W (K c) (mrS W K r) (mrS_u W K r) i j x y h h1 h2
/-- the lists of a bean, merged along its chain -/
abbrev elW (wg : Nat → Nat → Int32) (c : Int32) : Nat := (wg 29 c.toNatClampNeg).toNatClampNeg
abbrev kiW (wg : Nat → Nat → Int32) (c : Int32) : List Int32 := ki9 wg 80 (wg 16 (elW wg c))
theorem mg_S (hP : ∀ x y, P x → P y → (l22 wg x = l22 wg y ↔ W x.toNatClampNeg = W y.toNatClampNeg)) {K : Int32 → List Int32} : ∀ C : List Int32, (∀ c, c ∈ C → f4 (w14 wg) (kiW wg c) = K c ∧ ∀ x, x ∈ K c → P x) → (mgF D wg C MB0).1.2.1 = mrS W K C ∧ ∀ x, x ∈ mrS W K C → P x
  | [], _ => ⟨rfl, fun x h => by cases h⟩
  | c :: r, h => by
    obtain ⟨i1, i2⟩ := mg_S hP r (fun x hx => h x (List.mem_cons_of_mem _ hx))
    obtain ⟨k1, k2⟩ := h c (List.mem_cons_self ..)
    have e : (mgF D wg (c :: r) MB0).1 = ovI (w14 wg) (l22 wg) false (mgF D wg r MB0).1.1 (mgF D wg r MB0).1.2.1 (mgF D wg r MB0).1.2.2 (kiW wg c) := rfl
    rw [e, ov_s]
    show (f4 (w14 wg) (kiW wg c)).foldl (pnL (l22 wg)) (mgF D wg r MB0).1.2.1 = (K c).foldl (pnW W) (mrS W K r) ∧ ∀ x, x ∈ (K c).foldl (pnW W) (mrS W K r) → P x
    rw [k1, i1]
    exact fo_e hP _ _ k2 i2
theorem mg_L (hP : ∀ x y, P x → P y → (l22 wg x = l22 wg y ↔ W x.toNatClampNeg = W y.toNatClampNeg)) {K : Int32 → List Int32} : ∀ C : List Int32, (∀ c, c ∈ C → f5 (w14 wg) (kiW wg c) = K c ∧ ∀ x, x ∈ K c → P x) → (mgF D wg C MB0).1.2.2 = mrS W K C ∧ ∀ x, x ∈ mrS W K C → P x
  | [], _ => ⟨rfl, fun x h => by cases h⟩
  | c :: r, h => by
    obtain ⟨i1, i2⟩ := mg_L hP r (fun x hx => h x (List.mem_cons_of_mem _ hx))
    obtain ⟨k1, k2⟩ := h c (List.mem_cons_self ..)
    have e : (mgF D wg (c :: r) MB0).1 = ovI (w14 wg) (l22 wg) false (mgF D wg r MB0).1.1 (mgF D wg r MB0).1.2.1 (mgF D wg r MB0).1.2.2 (kiW wg c) := rfl
    rw [e, ov_s]
    show (f5 (w14 wg) (kiW wg c)).foldl (pnL (l22 wg)) (mgF D wg r MB0).1.2.2 = (K c).foldl (pnW W) (mrS W K r) ∧ ∀ x, x ∈ (K c).foldl (pnW W) (mrS W K r) → P x
    rw [k1, i1]
    exact fo_e hP _ _ k2 i2
/-- the args: of the first that has some -/
def agF (K : Int32 → List Int32) : List Int32 → List Int32
  | [] => []
  | c :: r => if K c = [] then agF K r else K c
theorem mg_A {K : Int32 → List Int32} : ∀ C : List Int32, (∀ c, c ∈ C → f3 (w14 wg) (kiW wg c) = K c) → (mgF D wg C MB0).1.1 = agF K C
  | [], _ => rfl
  | c :: r, h => by
    have i1 := mg_A r (fun x hx => h x (List.mem_cons_of_mem _ hx))
    have k1 := h c (List.mem_cons_self ..)
    have e : (mgF D wg (c :: r) MB0).1 = ovI (w14 wg) (l22 wg) false (mgF D wg r MB0).1.1 (mgF D wg r MB0).1.2.1 (mgF D wg r MB0).1.2.2 (kiW wg c) := rfl
    rw [e, ov_s, k1, i1]
    show (if K c = [] then agF K r else (if false = true then agF K r else []) ++ K c) = if K c = [] then agF K r else K c
    rw [if_neg (show ¬ false = true by decide), List.nil_append]
theorem ag_ao (K : Int32 → List Int32) (hK : ∀ c, K c = [] ↔ mInn rs rg (rg 42 c.toNatClampNeg) 4 0 = -1) : ∀ (n : Nat) (b : Int32), ¬ b = -1 → (an9 (mPar rs rg lg) n b).length < n → agF K (an9 (mPar rs rg lg) n b) = K (aoF rs rg lg (an9 (mPar rs rg lg) n b).length b)
  | 0, b, _, h => by omega
  | n + 1, b, hb, h => by
    have e1 : an9 (mPar rs rg lg) (n + 1) b = b :: an9 (mPar rs rg lg) n (mPar rs rg lg b) := by show (if b = -1 then _ else _) = _; rw [if_neg hb]
    rw [e1] at h ⊢
    rw [List.length_cons] at h ⊢
    have e2 : aoF rs rg lg ((an9 (mPar rs rg lg) n (mPar rs rg lg b)).length + 1) b = if mInn rs rg (rg 42 b.toNatClampNeg) 4 0 = -1 ∧ ¬ mPar rs rg lg b = -1 then aoF rs rg lg (an9 (mPar rs rg lg) n (mPar rs rg lg b)).length (mPar rs rg lg b) else b := rfl
    have e3 : agF K (b :: an9 (mPar rs rg lg) n (mPar rs rg lg b)) = if K b = [] then agF K (an9 (mPar rs rg lg) n (mPar rs rg lg b)) else K b := rfl
    rw [e2, e3]
    by_cases k : K b = []
    · rw [if_pos k]
      by_cases p : mPar rs rg lg b = -1
      · rw [if_neg (fun q => q.2 p), k, p]
        cases n with
        | zero => rfl
        | succ n => rfl
      · rw [if_pos ⟨(hK b).mp k, p⟩]
        exact ag_ao K hK n _ p (by omega)
    · rw [if_neg k, if_neg (fun q => k ((hK b).mpr q.1))]
/-- an attribute: of the first that has it -/
theorem te_f {nn : Int64} : ∀ (n : Nat) (b : Int32), telF rs rg lg nn (an9 (mPar rs rg lg) n b).length b = match (an9 (mPar rs rg lg) n b).find? (fun c => decide (¬ mHas rg lg (rg 42 c.toNatClampNeg).toNatClampNeg nn = 0)) with | none => -1 | some c => rg 42 c.toNatClampNeg
  | 0, b => rfl
  | n + 1, b => by
    have e1 : an9 (mPar rs rg lg) (n + 1) b = if b = -1 then [] else b :: an9 (mPar rs rg lg) n (mPar rs rg lg b) := rfl
    rw [e1]
    by_cases hb : b = -1
    · rw [if_pos hb]; rfl
    · rw [if_neg hb, List.length_cons]
      have e2 : telF rs rg lg nn ((an9 (mPar rs rg lg) n (mPar rs rg lg b)).length + 1) b = if mHas rg lg (rg 42 b.toNatClampNeg).toNatClampNeg nn = 0 then telF rs rg lg nn (an9 (mPar rs rg lg) n (mPar rs rg lg b)).length (mPar rs rg lg b) else rg 42 b.toNatClampNeg := rfl
      rw [e2]
      by_cases z : mHas rg lg (rg 42 b.toNatClampNeg).toNatClampNeg nn = 0
      · rw [if_pos z, List.find?_cons_of_neg (by rw [decide_eq_false (fun q => q z)]; decide)]; exact te_f n _
      · rw [if_neg z, List.find?_cons_of_pos (p := fun c : Int32 => decide (¬ mHas rg lg (rg 42 c.toNatClampNeg).toNatClampNeg nn = 0)) (a := b) (decide_eq_true z)]
end ML9
end
section
section BP9
variable {D : List El7} {ws rs : Nat → Int32} {wg rg : Nat → Nat → Int32} {wl lg : Nat → Nat → Int64} {b y k : Nat} {A : At7} {nn : Int64}
/-- the class's rows by D; the reference's; the document -/
def PBc (D : List El7) (ws : Nat → Int32) (wg : Nat → Nat → Int32) (wl : Nat → Nat → Int64) : Prop := (ws 4).toInt = (D.length : Int) ∧ LKS wg D.length ∧ (∀ e, e < D.length → KW7 (wg 14 e).toInt (dKd D e) ∧ (wg 15 e).toInt = dAb D e) ∧ (∀ e, e < D.length → SE9 D wg wl e) ∧ BHt D wg wl ∧ BC7 D ws wg wl D.length ∧ (∀ c, c < (ws 12).toNatClampNeg → MBq wg wl c = mgF D wg (cn9 ws wl 80 (nI c)) MB0) ∧ (∀ b, b < 80 → (wg 28 b).toInt = (b : Int)) ∧ ∀ q, q < 240 → 0 ≤ (wg 41 q).toInt
def PBr (D : List El7) (rs : Nat → Int32) (rg : Nat → Nat → Int32) (lg : Nat → Nat → Int64) : Prop := (rs 24).toInt = (D.length : Int) ∧ (∀ x, x < D.length → RL7 D rg lg x ∧ (∃ P : Int, ATR (dAt D x) rg lg x P) ∧ (dAt D x).length ≤ 12 ∧ TXT7 (dEl D x) rg x) ∧ KN7 D rg D.length ∧ BN7 D rs rg D.length ∧ (∀ c, c < (rs 41).toNatClampNeg → MM9 rs rg lg (nI c)) ∧ ACY rs rg lg ∧ WRD7 (lg 0) (lg 1) ∧ ∀ b, b < 80 → iv 0 26 (rg 44 b) ∧ iv 0 26 (rg 46 b)
def PBd (D : List El7) : Prop := RT9 D ∧ (∀ j, j < D.length → GOODC D j) ∧ BBC D ∧ (∀ x, x < D.length → PA7 (dAt D x)) ∧ PT7 D ∧ D.length ≤ 80 ∧ 0 < D.length
theorem nb_e (hc : PBc D ws wg wl) (hr : PBr D rs rg lg) (hd : PBd D) : (ws 12).toInt = (rs 41).toInt ∧ iv 0 80 (rs 41) := by
  have a1 := hc.2.2.2.2.2.1.1
  have a2 := hr.2.2.2.1.1
  have a3 := bsN_l (D := D) D.length
  have a4 := hd.2.2.2.2.2.1
  exact ⟨by omega, by omega, by omega⟩
theorem bn_y (hc : PBc D ws wg wl) (hr : PBr D rs rg lg) (hd : PBd D) (hb : b < (rs 41).toNatClampNeg) : ∃ y, (bsN D D.length)[b]? = some y ∧ 0 < y ∧ y < D.length ∧ dKd D y = 3 ∧ (rg 42 b).toInt = (y : Int) ∧ (rg 43 y).toInt = (b : Int) ∧ (wg 29 b).toInt = (y : Int) ∧ (wg 27 y).toInt = (b : Int) ∧ BH9 (dAt D y) wg wl b := by
  obtain ⟨c1, c2⟩ := hr.2.2.2.1
  have hl : b < (bsN D D.length).length := by have e : (rs 41).toNatClampNeg = (rs 41).toInt.toNat := rfl; omega
  have hg := List.getElem?_eq_getElem hl
  have hm := (bsN_m D.length _).mp (List.mem_of_getElem? hg)
  obtain ⟨f1, f2⟩ := c2 b _ hg
  obtain ⟨d1, d2, d3⟩ := hc.2.2.2.2.2.1.2.1 b _ hg
  obtain ⟨g1, g2⟩ := hc.2.2.2.2.1 b _ hg
  refine ⟨_, hg, ?_, hm.1, hm.2, f1, f2, g2, d3, g1⟩
  rcases Nat.eq_zero_or_pos ((bsN D D.length)[b]) with q | q
  · have h3 := hm.2
    rw [q, root_k hd.1 hd.2.1 hd.2.2.2.2.2.2] at h3; exact absurd h3 (by decide)
  · exact q
theorem an_le (g : Int32 → Int32) : ∀ (n : Nat) (b : Int32), (an9 g n b).length ≤ n
  | 0, _ => Nat.le_refl _
  | n + 1, b => by
    show (if b = -1 then [] else b :: an9 g n (g b)).length ≤ n + 1
    by_cases q : b = -1
    · rw [if_pos q]; exact Nat.zero_le _
    · rw [if_neg q, List.length_cons]; have := an_le g n (g b); omega
theorem an_mm (hn : iv 0 80 (rs 41)) {c : Int32} : ∀ (n : Nat) (b : Int32), (0 ≤ b.toInt ∧ b.toInt < (rs 41).toInt) ∨ b = -1 → c ∈ an9 (mPar rs rg lg) n b → 0 ≤ c.toInt ∧ c.toInt < (rs 41).toInt
  | 0, _, _, h => by cases h
  | n + 1, b, hb, h => by
    have h : c ∈ (if b = -1 then [] else b :: an9 (mPar rs rg lg) n (mPar rs rg lg b)) := h
    by_cases q : b = -1
    · rw [if_pos q] at h; cases h
    · rw [if_neg q] at h
      rcases List.mem_cons.mp h with w | w
      · rw [w]; exact hb.resolve_right q
      · refine an_mm hn n _ ?_ w
        have hi := par_iv (rg := rg) (lg := lg) hn b
        by_cases z : mPar rs rg lg b = -1
        · exact Or.inr z
        · have h1 := hi.1.1
          have h3 : ¬ (mPar rs rg lg b).toInt = -1 := fun p => z (Int32.toInt_inj.mp (p.trans (by decide)))
          exact Or.inl ⟨by omega, hi.2.resolve_right z⟩
/-- the chain of a bean, on both sides -/
theorem ch_e (hc : PBc D ws wg wl) (hr : PBr D rs rg lg) (hd : PBd D) (hb : b < (rs 41).toNatClampNeg) : cn9 ws wl 80 (nI b) = an9 (mPar rs rg lg) 81 (nI b) ∧ (an9 (mPar rs rg lg) 81 (nI b)).length ≤ 80 ∧ ¬ nI b = -1 ∧ ∀ c, c ∈ an9 (mPar rs rg lg) 81 (nI b) → 0 ≤ c.toInt ∧ c.toInt < (rs 41).toInt := by
  obtain ⟨_, hn⟩ := nb_e hc hr hd
  have kn := iv_cl hn (by decide)
  have kn2 := hn.2
  have tb := nI_toInt (n := b) (by omega)
  have hv : 0 ≤ (nI b).toInt ∧ (nI b).toInt < (rs 41).toInt := ⟨by omega, by omega⟩
  obtain ⟨hI, hP⟩ := IDB_of hc.2.2.2.2.2.1 hr.2.2.2.1 (fun x hx => (hr.2.1 x hx).1) hd.1 hd.2.1
  have hl : (an9 (mPar rs rg lg) 81 (nI b)).length ≤ 80 := by
    rw [an_l, dpF_st 80 (nI b) (hr.2.2.2.2.2.1 (nI b) hv.1 hv.2), ← an_l]
    exact an_le _ 80 _
  refine ⟨?_, hl, nI_m (by omega), fun c h => an_mm hn 81 _ (Or.inl hv) h⟩
  rw [an_f (mPar rs rg lg) 80 1 (nI b) hl]
  exact (CHN_e hI hP hn 80 (nI b) (Or.inr hv)).symm
theorem ch_k (hd : PBd D) (hy : dKd D y = 3) (hk : k < D.length) (h : dAb D k = (y : Int)) : dKd D k = 4 ∨ dKd D k = 5 ∨ dKd D k = 10 := by
  have hi : dIn D k = 3 := by unfold dIn; rw [if_neg (by omega), h]; exact hy
  have hS := (hd.2.1 k hk).1
  unfold STN at hS
  rw [hi] at hS
  omega
theorem w14_k (hc : PBc D ws wg wl) (hd : PBd D) (hk : k < D.length) (h : 1 ≤ dKd D k) : w14 wg (nI k) = wkF (dKd D k) := by
  unfold w14
  rw [nI_n (by have := hd.2.2.2.2.2.1; omega)]
  exact KW_j (hc.2.2.1 k hk).1 h
theorem ki_b (hc : PBc D ws wg wl) (hd : PBd D) (hy : y < D.length) : ki9 wg 80 (wg 16 y) = kc9 D y :=
  KI_c hc.2.1 rfl hd.2.2.2.2.2.1 (fun j hj => (hc.2.2.1 j hj).2) hy hd.2.2.2.2.2.1
abbrev fK (D : List El7) (y : Nat) (n : Int) : List Int32 := (kc9 D y).filter (fun x => decide (dKd D x.toNatClampNeg = n))
theorem kk_b (hr : PBr D rs rg lg) (hd : PBd D) (hy : y < D.length) {c : Int32} (hc : (rg 42 c.toNatClampNeg).toInt = (y : Int)) {kd : Int32} {n : Int} (hk : kd.toInt = n) (hz : ¬ kd = 0) : KK9 rs rg kd c = fK D y n := by
  have e : rg 42 c.toNatClampNeg = nI y := Int32.toInt_inj.mp (by rw [hc, nI_toInt (by have := hd.2.2.2.2.2.1; omega)])
  unfold KK9
  rw [e, kA_c hr.1 hd.2.2.2.2.2.1 (fun j hj => (hr.2.1 j hj).1.2.2.2.1) hr.2.2.1 hy (show (0 : Int32).toNatClampNeg < D.length from hd.2.2.2.2.2.2) (fun j hj => ?_)]
  · refine List.filter_congr (fun x _ => ?_)
    rw [decide_eq_false hz, Bool.false_or, hk]
  · have hj : j ≤ 0 := hj
    have : j = 0 := by omega
    rw [this, hd.1.1]; omega
theorem f_b (hc : PBc D ws wg wl) (hd : PBd D) (hy : y < D.length) (h3 : dKd D y = 3) {c : Int32} (h29 : (wg 29 c.toNatClampNeg).toInt = (y : Int)) : f3 (w14 wg) (kiW wg c) = fK D y 4 ∧ f4 (w14 wg) (kiW wg c) = fK D y 5 ∧ f5 (w14 wg) (kiW wg c) = fK D y 10 := by
  have ey : elW wg c = y := by show (wg 29 c.toNatClampNeg).toInt.toNat = y; omega
  unfold kiW
  rw [ey, ki_b hc hd hy]
  have key : ∀ x, x ∈ kc9 D y → (dKd D x.toNatClampNeg = 4 ∧ w14 wg x = 3) ∨ (dKd D x.toNatClampNeg = 5 ∧ w14 wg x = 4) ∨ (dKd D x.toNatClampNeg = 10 ∧ w14 wg x = 5) := by
    intro x hx
    obtain ⟨k, a1, a2, a3⟩ := kc_m hx
    have hk := ch_k hd h3 a1 a2
    rw [a3, nI_n (by have := hd.2.2.2.2.2.1; omega), w14_k hc hd a1 (by omega)]
    rcases hk with q | q | q
    · exact Or.inl ⟨q, by rw [q]; decide⟩
    · exact Or.inr (Or.inl ⟨q, by rw [q]; decide⟩)
    · exact Or.inr (Or.inr ⟨q, by rw [q]; decide⟩)
  refine ⟨List.filter_congr (fun x hx => ?_), List.filter_congr (fun x hx => ?_), List.filter_congr (fun x hx => ?_)⟩
  · exact decide_eq_decide.mpr (by have := key x hx; omega)
  · exact decide_eq_decide.mpr (by have := key x hx; omega)
  · exact decide_eq_decide.mpr (by have := key x hx; omega)
theorem fK_m {n : Int} {x : Int32} (hd : PBd D) (h : x ∈ fK D y n) : ∃ k, k < D.length ∧ dAb D k = (y : Int) ∧ x = nI k ∧ dKd D k = n ∧ x.toNatClampNeg = k := by
  obtain ⟨h1, h2⟩ := List.mem_filter.mp h
  obtain ⟨k, a1, a2, a3⟩ := kc_m h1
  have e : x.toNatClampNeg = k := by rw [a3]; exact nI_n (by have := hd.2.2.2.2.2.1; omega)
  have h2 := of_decide_eq_true h2
  rw [e] at h2
  exact ⟨k, a1, a2, a3, h2, e⟩
/-- letters, classes, places, as words -/
theorem lv_w (hp : PA7 A) (h : 0 ≤ lv7 A nn) : (aW A nn).toInt = lv7 A nn + 97 ∧ lv7 A nn ≤ 25 ∧ aH A nn = 1 := by
  rcases gA_h (q := A) (k := nn) with ⟨g, _⟩ | ⟨v, g, ha⟩
  · unfold lv7 at h; rw [g] at h; exact absurd (show (0 : Int) ≤ -1 from h) (by decide)
  · cases v with
    | nil => unfold lv7 at h; rw [g] at h; exact absurd (show (0 : Int) ≤ -1 from h) (by decide)
    | cons c r =>
      cases r with
      | cons d t => unfold lv7 at h; rw [g] at h; exact absurd (show (0 : Int) ≤ -1 from h) (by decide)
      | nil =>
        rw [(lv_s g).1] at h ⊢
        by_cases w : 97 ≤ c ∧ c ≤ 122
        · rw [if_pos w, aW_s g, if_pos (show [c].length ≤ 8 from (show 1 ≤ 8 by decide))]
          have hv := foL_len (gA_pv hp g) (show 1 ≤ 8 by decide)
          rcases hv with q | ⟨c2, q1, q2, _⟩ | ⟨c2, d2, q1, _⟩ | ⟨q1, _⟩
          · exact absurd q.1 (by simp)
          · cases q1; exact ⟨by omega, by omega, ha⟩
          · exact absurd q1 (by simp)
          · exact absurd q1 (show ¬ 3 ≤ 1 by decide)
        · rw [if_neg w] at h; exact absurd h (by decide)
theorem pl_w (hp : PA7 A) (h : 0 ≤ pl7 A nn) : (aW A nn).toInt = pl7 A nn + 48 ∧ pl7 A nn ≤ 2 ∧ aH A nn = 1 := by
  rcases gA_h (q := A) (k := nn) with ⟨g, _⟩ | ⟨v, g, ha⟩
  · unfold pl7 at h; rw [g] at h; exact absurd (show (0 : Int) ≤ -1 from h) (by decide)
  · cases v with
    | nil => unfold pl7 at h; rw [g] at h; exact absurd (show (0 : Int) ≤ -1 from h) (by decide)
    | cons c r =>
      cases r with
      | cons d t => unfold pl7 at h; rw [g] at h; exact absurd (show (0 : Int) ≤ -1 from h) (by decide)
      | nil =>
        rw [(lv_s g).2] at h ⊢
        by_cases w : 48 ≤ c ∧ c ≤ 50
        · rw [if_pos w, aW_s g, if_pos (show [c].length ≤ 8 from (show 1 ≤ 8 by decide))]
          have hv := foL_len (gA_pv hp g) (show 1 ≤ 8 by decide)
          rcases hv with q | ⟨c2, q1, q2, _⟩ | ⟨c2, d2, q1, _⟩ | ⟨q1, _⟩
          · exact absurd q.1 (by simp)
          · cases q1; exact ⟨by omega, by omega, ha⟩
          · exact absurd q1 (by simp)
          · exact absurd q1 (show ¬ 3 ≤ 1 by decide)
        · rw [if_neg w] at h; exact absurd h (by decide)
theorem cv_w (hp : PA7 A) (h : 0 ≤ cv7 A nn) : (aW A nn).toInt = 256 * 75 + 48 + cv7 A nn ∧ cv7 A nn ≤ 7 ∧ aH A nn = 1 := by
  rcases gA_h (q := A) (k := nn) with ⟨g, _⟩ | ⟨v, g, ha⟩
  · unfold cv7 at h; rw [g] at h; exact absurd (show (0 : Int) ≤ -1 from h) (by decide)
  · cases v with
    | nil => unfold cv7 at h; rw [g] at h; exact absurd (show (0 : Int) ≤ -1 from h) (by decide)
    | cons c r =>
      cases r with
      | nil => unfold cv7 at h; rw [g] at h; exact absurd (show (0 : Int) ≤ -1 from h) (by decide)
      | cons d t =>
        cases t with
        | cons e u => unfold cv7 at h; rw [g] at h; exact absurd (show (0 : Int) ≤ -1 from h) (by decide)
        | nil =>
          rw [cv_s g] at h ⊢
          by_cases w : c = 75 ∧ 48 ≤ d ∧ d ≤ 55
          · rw [if_pos w, aW_s g, if_pos (show [c, d].length ≤ 8 from (show 2 ≤ 8 by decide))]
            have hv := foL_len (gA_pv hp g) (show 2 ≤ 8 by decide)
            rcases hv with q | ⟨c2, q1, q2, _⟩ | ⟨c2, d2, q1, q2, _⟩ | ⟨q1, _⟩
            · exact absurd q.1 (by simp)
            · exact absurd q1 (by simp)
            · cases q1; exact ⟨by omega, by omega, ha⟩
            · exact absurd q1 (show ¬ 3 ≤ 2 by decide)
          · rw [if_neg w] at h; exact absurd h (by decide)
theorem w32_l {v : Int64} {n z : Int} {c : Int32} (h : v.toInt = n + z) (h0 : 0 ≤ n) (h1 : n ≤ 25) (hc : c.toInt = z) (hz : 48 ≤ z ∧ z ≤ 97) : (v.toInt32 - c).toInt = n := by
  have e := l2i_g (v := v) rfl (by omega) (by omega)
  rw [Int32.toInt_sub, e, i32_bm ⟨by omega, by omega⟩]; omega
end BP9
end
section
section HB9
variable {D : List El7} {ws rs : Nat → Int32} {wg rg : Nat → Nat → Int32} {wl lg : Nat → Nat → Int64} {x a c : Nat}
theorem cdq_e (hc : PBc D ws wg wl) (hr : PBr D rs rg lg) (hd : PBd D) (v : Int64) : (cdR rs rg lg v).toInt = caN ws wg wl v :=
  CA_of hc.2.2.2.2.2.1 hc.2.2.2.1 (fun e he => (hc.2.2.1 e he).1) hr.2.2.2.1 (fun x hx => (hr.2.1 x hx).1) hr.2.2.1 hd.1 hd.2.1 hd.2.2.1 hd.2.2.2.1 hd.2.2.2.2.2.2 (by show (ws 4).toInt.toNat = _; have := hc.1; omega) (by show (rs 24).toInt.toNat = _; have := hr.1; omega) v
/-- a bean within another element -/
theorem in_b (hc : PBc D ws wg wl) (hr : PBr D rs rg lg) (hd : PBd D) (hx : x < D.length) (hk : dKd D x = 3) (hin : ¬ dAb D x = 0) : (wg 27 x).toInt = (rg 43 x).toInt ∧ 0 ≤ (rg 43 x).toInt ∧ (rg 43 x).toInt < (rs 41).toInt ∧ wl 4 (rg 43 x).toNatClampNeg = 0 ∧ wg 34 (rg 43 x).toNatClampNeg = 0 := by
  obtain ⟨b, hb⟩ := List.mem_iff_getElem?.mp ((bsN_m D.length x).mpr ⟨hx, hk⟩)
  obtain ⟨f1, f2⟩ := hr.2.2.2.1.2 b x hb
  obtain ⟨_, _, d3⟩ := hc.2.2.2.2.2.1.2.1 b x hb
  obtain ⟨g1, _⟩ := hc.2.2.2.2.1 b x hb
  have hl := (List.getElem?_eq_some_iff.mp hb).1
  have h41 := hr.2.2.2.1.1
  have eb : (rg 43 x).toNatClampNeg = b := by show (rg 43 x).toInt.toNat = b; omega
  have hi : ¬ aH (dAt D x) 26980 = 1 := fun q => hin ((id_root hd.1 hd.2.1 hx hk).mpr q)
  refine ⟨by omega, by omega, by omega, ?_, ?_⟩
  · rw [eb, g1.1]
    exact nv_0 (by have := aH_z1 (q := dAt D x) (k := 26980); omega)
  · rw [eb]
    obtain ⟨_, _, _, g34, _⟩ := g1
    rcases g34 with ⟨_, q⟩ | ⟨q, _⟩
    · exfalso
      have ha : aH (dAt D x) 7017298113369039732 = 1 := by
        rcases aH_z1 (q := dAt D x) (k := 7017298113369039732) with w | w
        · rw [nv_0 w] at q; exact absurd q (by decide)
        · exact w
      obtain ⟨z, h1, h2⟩ := aH_mm ha
      have hm := ((hd.2.1 x hx).2.1 z h1).1
      rw [h2, hk] at hm
      have e : (7017298113369039732 : Int64).toInt = 7017298113369039732 := by decide
      rw [e] at hm
      unfold MAY at hm
      have hy0 : 0 < x := by
        rcases Nat.eq_zero_or_pos x with q | q
        · rw [q, root_k hd.1 hd.2.1 (by omega)] at hk; exact absurd hk (by decide)
        · exact q
      obtain ⟨a1, a2⟩ := hd.1.2 x hy0 hx
      have hi : dIn D x = dKd D (dAb D x).toNat := by unfold dIn; rw [if_neg (by omega)]
      have h1 : dIn D x = 1 := by omega
      rw [h1] at hi
      have hS := (hd.2.1 (dAb D x).toNat (by omega)).1
      unfold STN at hS
      have := (hd.1.2 (dAb D x).toNat (by omega) (by omega)).1
      omega
    · exact i0_e.mpr q
theorem WK_x (hc : PBc D ws wg wl) (hr : PBr D rs rg lg) (hd : PBd D) (hx : x < D.length) (hkd : ((dKd D x = 4 ∨ dKd D x = 5) ∧ dCn D x = 0) ∨ dKd D x = 7 ∨ dKd D x = 8 ∨ dKd D x = 9 ∨ dKd D x = 3) (hin : dKd D x = 3 → ¬ dAb D x = 0) : WKB ws wg wl rs rg lg x := by
  obtain ⟨r1, ⟨P, r2⟩, r3, r4⟩ := hr.2.1 x hx
  have hG := hd.2.1 x hx
  have h80 := hd.2.2.2.2.2.1
  refine WKB_of (hc.2.2.2.1 x hx) (hc.2.2.1 x hx).1 r1 (hr.2.2.1 x hx) hG r2 r3 r4 (by omega) (hd.2.2.2.1 x hx) (hd.2.2.2.2.1 _ (List.mem_of_getElem? (dEl_g hx))) (fun q => fi_no hc.2.1 rfl (fun j hj => (hc.2.2.1 j hj).2) hx q) (cdq_e hc hr hd) (fun q => hc.2.2.2.2.2.1.2.2.1 x hx q) (fun q => in_b hc hr hd hx q (hin q)) hkd (fun q => ?_) (fun q => ?_)
  · exact (nm_ok hG.2.1 q (by decide)).2
  · exact (nm_ok hG.2.1 q (by decide)).2
/-- the items of a list -/
theorem itL_k : ∀ (n : Nat) (v : Int32), itL wg n v.toInt = (ki9 wg n v).map Int32.toNatClampNeg
  | 0, _ => rfl
  | n + 1, v => by
    show (if v.toInt < 0 then [] else v.toInt.toNat :: itL wg n (wg 17 v.toInt.toNat).toInt) = (if v.toInt < 0 then [] else v :: ki9 wg n (wg 17 v.toNatClampNeg)).map Int32.toNatClampNeg
    by_cases q : v.toInt < 0
    · rw [if_pos q, if_pos q]; rfl
    · rw [if_neg q, if_neg q, itL_k n]; rfl
theorem ki_f : ∀ (n m : Nat) (v : Int32), (ki9 wg (n + m) v).length ≤ n → ki9 wg (n + m) v = ki9 wg n v
  | 0, m, v, h => List.eq_nil_of_length_eq_zero (by omega)
  | n + 1, m, v, h => by
    rw [show n + 1 + m = (n + m) + 1 by omega] at h ⊢
    have e1 : ki9 wg (n + m + 1) v = if v.toInt < 0 then [] else v :: ki9 wg (n + m) (wg 17 v.toNatClampNeg) := rfl
    have e2 : ki9 wg (n + 1) v = if v.toInt < 0 then [] else v :: ki9 wg n (wg 17 v.toNatClampNeg) := rfl
    rw [e1, e2]
    rw [e1] at h
    by_cases q : v.toInt < 0
    · rw [if_pos q, if_pos q]
    · rw [if_neg q, if_neg q]
      rw [if_neg q, List.length_cons] at h
      rw [ki_f n m _ (by omega)]
theorem it_c (hc : PBc D ws wg wl) (hd : PBd D) (hx : c < D.length) (h6 : dCn D c ≤ 6) : itC wg c = (kc9 D c).map Int32.toNatClampNeg := by
  unfold itC
  have hk := ki_b hc hd hx
  have hl : (ki9 wg (6 + 74) (wg 16 c)).length ≤ 6 := by rw [hk, kc_l]; exact h6
  rw [itL_k, ← ki_f 6 74 _ hl, hk]
theorem cnR_e (hA : ∀ j, j < D.length → (wg 15 j).toInt = dAb D j) (e : Int) : ∀ n, n ≤ D.length → cnR (fun j => (wg 15 j).toInt) e n = cnD (dAb D) e n
  | 0, _ => rfl
  | n + 1, h => by
    show cnR (fun j => (wg 15 j).toInt) e n + (if (wg 15 n).toInt = e then 1 else 0) = cnD (dAb D) e n + (if dAb D n = e then 1 else 0)
    rw [cnR_e hA e n (by omega), hA n (by omega)]
/-- the reference's items -/
theorem ch_f (hr : PBr D rs rg lg) (hd : PBd D) (hx : c < D.length) (n : Nat) : chF rs rg (nI c) n = ((kc9 D c)[n]?).getD (-1) := by
  have h80 := hd.2.2.2.2.2.1
  have hn : iv 0 80 (rs 24) := ⟨by have := hr.1; omega, by have := hr.1; omega⟩
  have e := nI_n (k := c) (by omega)
  have h := sq_g (F := chF rs rg (nI c)) (a := nI c) (kd := 0) (bh := nI c) hn rfl (fun n => rfl) n
  rw [h, kA_c hr.1 h80 (fun j hj => (hr.2.1 j hj).1.2.2.2.1) hr.2.2.1 hx (by rw [e]; exact hx) (fun j hj => ?_)]
  · rw [List.filter_eq_self.mpr (fun x _ => by rw [decide_eq_true rfl]; rfl)]
  · rw [e] at hj
    rcases Nat.eq_zero_or_pos j with q | q
    · rw [q, hd.1.1]; omega
    · have := (hd.1.2 j q (by omega)).2; omega
theorem LS_c (hc : PBc D ws wg wl) (hr : PBr D rs rg lg) (hd : PBd D) (hx : c < D.length) (h6 : dKd D c = 6) (hc0 : 0 < c) : LSB ws wg wl rs rg lg c := by
  have h80 := hd.2.2.2.2.2.1
  have hG := hd.2.1 c hx
  have hcn : dCn D c ≤ 6 := by
    have hC := hG.2.2.2.2
    unfold CNT at hC
    omega
  have hit := it_c hc hd hx hcn
  have hlen : (itC wg c).length = dCn D c := by rw [hit, List.length_map, kc_l]
  have h18 : (wg 18 c).toInt = (dCn D c : Int) := by rw [(hc.2.1 c hx).2.2.2.2, cnR_e (fun j hj => (hc.2.2.1 j hj).2) _ _ (Nat.le_refl _)]; rfl
  have h29 := (hr.2.1 c hx).1.2.2.2.2.2.1
  refine ⟨?_, by omega, by omega, by omega, fun k z hz => ?_, ?_⟩
  · rw [(hc.2.2.2.1 c hx).2.2.2.2.2.1 (by omega) (by omega), KW_j (hc.2.2.1 c hx).1 (by omega), h6]; decide
  · rw [hit, List.getElem?_map] at hz
    cases q : (kc9 D c)[k]? with
    | none => rw [q] at hz; cases hz
    | some u =>
      rw [q] at hz
      have hz : some u.toNatClampNeg = some z := hz
      obtain ⟨m, m1, m2, m3⟩ := kc_m (List.mem_of_getElem? q)
      have hm : u.toNatClampNeg = m := by rw [m3]; exact nI_n (by omega)
      have hz2 : z = m := by rw [← Option.some.inj hz]; exact hm
      rw [hz2, ch_f hr hd hx, q]
      refine ⟨m3, by omega, WK_x hc hr hd m1 ?_ (fun _ => by omega)⟩
      have hi : dIn D m = 6 := by unfold dIn; rw [if_neg (by omega), m2]; exact h6
      have hS := (hd.2.1 m m1).1
      unfold STN at hS
      rw [hi] at hS
      omega
  · rw [ch_f hr hd hx, List.getElem?_eq_none (by rw [hlen, kc_l]; exact Nat.le_refl _)]; rfl
/-- an arg or a set -/
theorem HL_a (hc : PBc D ws wg wl) (hr : PBr D rs rg lg) (hd : PBd D) (ha : a < D.length) (hk : dKd D a = 4 ∨ dKd D a = 5) : HLB ws wg wl rs rg lg a := by
  have h80 := hd.2.2.2.2.2.1
  have hG := hd.2.1 a ha
  have hR := (hr.2.1 a ha).1
  have ea := nI_n (k := a) (by omega)
  have ta := nI_toInt (n := a) (by omega)
  have hcn : aH (dAt D a) 508440638821 + aH (dAt D a) 7497062 + (dCn D a : Int) = 1 := by
    have hC := hG.2.2.2.2
    unfold CNT at hC
    omega
  have z1 := aH_z1 (q := dAt D a) (k := 508440638821)
  have z2 := aH_z1 (q := dAt D a) (k := 7497062)
  have hm : ∀ n, (¬ mHas rg lg a n = 0 ↔ aH (dAt D a) n = 1) := fun n => by
    rw [i0_e, hR.2.2.1]
    have := aH_z1 (q := dAt D a) (k := n)
    omega
  have r6 : ∀ j, j < D.length → (rg 26 j = 6 ↔ dKd D j = 6) := fun j hj => by rw [ik_e (n := 6) (by decide), hr.2.2.1 j hj]
  have h29 := hR.2.2.2.2.2.1
  have s5 := (hc.2.2.2.1 a ha).2.2.2.2.1 hk
  by_cases w : aH (dAt D a) 508440638821 = 1 ∨ aH (dAt D a) 7497062 = 1
  · have hcn0 : dCn D a = 0 := by omega
    have hin : inR rs rg lg a = nI a := by unfold inR; rw [if_pos (by rw [hm, hm]; exact w)]
    have h16 := fi_no hc.2.1 rfl (fun j hj => (hc.2.2.1 j hj).2) ha hcn0
    have ect : ctE wg a = a := by
      rcases s5 with q | ⟨_, q, _⟩
      · omega
      · show (wg 26 a).toInt.toNat = a; omega
    unfold HLB
    rw [hin, ea, ect]
    have n6 : ¬ rg 26 a = 6 := fun q => by have := (r6 a ha).mp q; omega
    refine ⟨by omega, ⟨by omega, by omega⟩, rfl, ⟨fun q => by have := q.1; omega, fun q => absurd q n6⟩, fun q => absurd q n6, fun _ => WK_x hc hr hd ha (Or.inl ⟨hk, hcn0⟩) (fun q => by omega)⟩
  · have hcn1 : dCn D a = 1 := by omega
    have hin : inR rs rg lg a = mInn rs rg (nI a) 0 (nI a) := by unfold inR; rw [if_neg (by rw [hm, hm]; exact w)]
    have hl : (kc9 D a).length = 1 := by rw [kc_l]; exact hcn1
    obtain ⟨u, hu⟩ := List.length_eq_one_iff.mp hl
    obtain ⟨m, m1, m2, m3⟩ := kc_m (show u ∈ kc9 D a by rw [hu]; exact List.mem_singleton.mpr rfl)
    have em : u.toNatClampNeg = m := by rw [m3]; exact nI_n (by omega)
    have tm := nI_toInt (n := m) (by omega)
    have hmi : mInn rs rg (nI a) 0 (nI a) = u := by
      have := ch_f hr hd ha 0
      rw [hu] at this
      exact this
    have h16 : wg 16 a = u := by
      have hk9 := ki_b hc hd ha
      rw [hu] at hk9
      have e : ki9 wg 80 (wg 16 a) = if (wg 16 a).toInt < 0 then [] else wg 16 a :: ki9 wg 79 (wg 17 (wg 16 a).toNatClampNeg) := rfl
      rw [e] at hk9
      by_cases q : (wg 16 a).toInt < 0
      · rw [if_pos q] at hk9; exact absurd hk9 (by simp)
      · rw [if_neg q] at hk9; exact (List.cons.inj hk9).1
    have ect : ctE wg a = m := by
      rcases s5 with ⟨_, q, _⟩ | ⟨q, _⟩
      · show (wg 26 a).toNatClampNeg = m
        rw [q, h16]; exact em
      · rw [h16, m3] at q; omega
    have hi : dIn D m = dKd D a := by
      unfold dIn; rw [if_neg (by omega), m2]; rfl
    have hS := (hd.2.1 m m1).1
    unfold STN at hS
    rw [hi] at hS
    have ha0 : 0 < a := by
      rcases Nat.eq_zero_or_pos a with q | q
      · rw [q, root_k hd.1 hd.2.1 (by omega)] at hk; omega
      · exact q
    have hm0 : 0 < m := by
      rcases Nat.eq_zero_or_pos m with q | q
      · rw [q, hd.1.1] at m2; omega
      · exact q
    unfold HLB
    rw [hin, hmi, em, ect]
    refine ⟨by omega, ⟨by rw [m3]; omega, by rw [m3]; omega⟩, rfl, ⟨fun q => q.2, fun q => ⟨by omega, q⟩⟩, fun q => LS_c hc hr hd m1 ((r6 m m1).mp q) hm0, fun q => WK_x hc hr hd m1 ?_ (fun _ => by omega)⟩
    rw [r6 m m1] at q
    omega
end HB9
end
section
section BL9
variable {D : List El7} {ws rs : Nat → Int32} {wg rg : Nat → Nat → Int32} {wl lg : Nat → Nat → Int64} {b y : Nat}
/-- an element of a kind, within a bean -/
def PKD (D : List El7) (n : Int) (x : Int32) : Prop := ∃ k, k < D.length ∧ x = nI k ∧ dKd D k = n ∧ x.toNatClampNeg = k
theorem lt_e (hc : PBc D ws wg wl) (hr : PBr D rs rg lg) (hd : PBd D) {n : Int} (hn : n = 5 ∨ n = 10) {x : Int32} (h : PKD D n x) : (wg 22 x.toNatClampNeg).toInt = lv7 (dAt D x.toNatClampNeg) 1851878757 ∧ 0 ≤ lv7 (dAt D x.toNatClampNeg) 1851878757 ∧ lv7 (dAt D x.toNatClampNeg) 1851878757 ≤ 25 ∧ (mWord rg lg x.toNatClampNeg 1851878757).toInt = lv7 (dAt D x.toNatClampNeg) 1851878757 + 97 := by
  obtain ⟨k, h1, h2, h3, h4⟩ := h
  rw [h4]
  have hG := hd.2.1 k h1
  have ha : aH (dAt D k) 1851878757 = 1 := by
    have hN := hG.2.2.1
    rcases hn with q | q
    · exact hN.2.2.1.resolve_left (fun p => p (h3.trans q))
    · exact (hN.2.2.2.2.resolve_left (fun p => p (h3.trans q))).1
  have hl : 0 ≤ lv7 (dAt D k) 1851878757 := by
    obtain ⟨z, q1, q2⟩ := aH_mm ha
    have hv := (hG.2.1 z q1).2
    rw [q2] at hv
    unfold RVL at hv
    have e : (1851878757 : Int64).toInt = 1851878757 := by decide
    rw [e] at hv
    rcases hv with c | c | c | c | c | c | c | c | c
    · rcases c.2 with d | d
      · omega
      · exact d.2
    · omega
    · omega
    · omega
    · omega
    · omega
    · omega
    · omega
    · omega
  have hw := lv_w (hd.2.2.2.1 k h1) hl
  refine ⟨(hc.2.2.2.1 k h1).2.1 (by omega), hl, hw.2.1, ?_⟩
  rw [(hr.2.1 k h1).1.1]; exact hw.1
theorem pk_i (hc : PBc D ws wg wl) (hr : PBr D rs rg lg) (hd : PBd D) {n : Int} (hn : n = 5 ∨ n = 10) (x z : Int32) (hx : PKD D n x) (hz : PKD D n z) : l22 wg x = l22 wg z ↔ mWn rg lg x.toNatClampNeg = mWn rg lg z.toNatClampNeg := by
  obtain ⟨a1, _, _, a4⟩ := lt_e hc hr hd hn hx
  obtain ⟨b1, _, _, b4⟩ := lt_e hc hr hd hn hz
  unfold l22 mWn
  constructor
  · intro q
    refine Int64.toInt_inj.mp ?_
    have := congrArg Int32.toInt q
    omega
  · intro q
    refine Int32.toInt_inj.mp ?_
    have := congrArg Int64.toInt q
    omega
theorem PK_f (hd : PBd D) {n : Int} {x : Int32} (h : x ∈ fK D y n) : PKD D n x := by
  obtain ⟨k, a1, _, a3, a4, a5⟩ := fK_m hd h
  exact ⟨k, a1, a3, a4, a5⟩
/-- what a bean of the chain has -/
theorem cb_y (hc : PBc D ws wg wl) (hr : PBr D rs rg lg) (hd : PBd D) {c : Int32} (h0 : 0 ≤ c.toInt) (h1 : c.toInt < (rs 41).toInt) : ∃ y, y < D.length ∧ dKd D y = 3 ∧ (rg 42 c.toNatClampNeg).toInt = (y : Int) ∧ (wg 29 c.toNatClampNeg).toInt = (y : Int) := by
  obtain ⟨y, _, _, a2, a3, a4, _, a6, _⟩ := bn_y hc hr hd (b := c.toNatClampNeg) (by show c.toInt.toNat < (rs 41).toInt.toNat; omega)
  exact ⟨y, a2, a3, a4, a6⟩
/-- the sets of a bean -/
theorem se_l (hc : PBc D ws wg wl) (hr : PBr D rs rg lg) (hd : PBd D) (hb : b < (rs 41).toNatClampNeg) : LQ wg (3 * b + 1) = S59 rg (nI b) ∧ (∀ x, x ∈ S59 rg (nI b) → PKD D 5 x) := by
  obtain ⟨n1, n2⟩ := nb_e hc hr hd
  obtain ⟨c1, c2, c3, c4⟩ := ch_e hc hr hd hb
  have hM := hc.2.2.2.2.2.2.1 b (by show b < (ws 12).toInt.toNat; rw [n1]; exact hb)
  rw [c1] at hM
  have e : LQ wg (3 * b + 1) = (mgF D wg (an9 (mPar rs rg lg) 81 (nI b)) MB0).1.2.1 := by rw [← hM]; rfl
  obtain ⟨g1, g2⟩ := mg_S (D := D) (wg := wg) (W := mWn rg lg) (P := PKD D 5) (K := KK9 rs rg 5) (pk_i hc hr hd (Or.inl rfl)) (an9 (mPar rs rg lg) 81 (nI b)) (fun c hcc => by
    obtain ⟨y, y1, y2, y3, y4⟩ := cb_y hc hr hd (c4 c hcc).1 (c4 c hcc).2
    rw [kk_b hr hd y1 y3 (kd := 5) (n := 5) (by decide) (by decide)]
    exact ⟨(f_b hc hd y1 y2 y4).2.1, fun x hx => PK_f hd hx⟩)
  have hS := (hr.2.2.2.2.1 b hb).1
  unfold MR9 ANr9 at hS
  rw [List.drop_zero] at hS
  rw [hS, e]
  exact ⟨g1, g2⟩
theorem lo_l (hc : PBc D ws wg wl) (hr : PBr D rs rg lg) (hd : PBd D) (hb : b < (rs 41).toNatClampNeg) : LQ wg (3 * b + 2) = S10 rg (nI b) ∧ (∀ x, x ∈ S10 rg (nI b) → PKD D 10 x) ∧ ∀ (i j : Nat) (x z : Int32), i < j → (S10 rg (nI b))[i]? = some x → (S10 rg (nI b))[j]? = some z → ¬ mWn rg lg x.toNatClampNeg = mWn rg lg z.toNatClampNeg := by
  obtain ⟨n1, n2⟩ := nb_e hc hr hd
  obtain ⟨c1, c2, c3, c4⟩ := ch_e hc hr hd hb
  have hM := hc.2.2.2.2.2.2.1 b (by show b < (ws 12).toInt.toNat; rw [n1]; exact hb)
  rw [c1] at hM
  have e : LQ wg (3 * b + 2) = (mgF D wg (an9 (mPar rs rg lg) 81 (nI b)) MB0).1.2.2 := by rw [← hM]; rfl
  obtain ⟨g1, g2⟩ := mg_L (D := D) (wg := wg) (W := mWn rg lg) (P := PKD D 10) (K := KK9 rs rg 10) (pk_i hc hr hd (Or.inr rfl)) (an9 (mPar rs rg lg) 81 (nI b)) (fun c hcc => by
    obtain ⟨y, y1, y2, y3, y4⟩ := cb_y hc hr hd (c4 c hcc).1 (c4 c hcc).2
    rw [kk_b hr hd y1 y3 (kd := 10) (n := 10) (by decide) (by decide)]
    exact ⟨(f_b hc hd y1 y2 y4).2.2, fun x hx => PK_f hd hx⟩)
  have hS := (hr.2.2.2.2.1 b hb).2
  unfold MR9 ANr9 at hS
  rw [List.drop_zero] at hS
  rw [hS, e]
  exact ⟨g1, g2, mrS_u _ _ _⟩
/-- lists alike, rows alike -/
theorem lq_r {q B : Nat} {f : Nat → Int32} {n : Int32} (h : LQ wg q = RLq f B n.toNatClampNeg) (h0 : 0 ≤ (wg 41 q).toInt) (hn : 0 ≤ n.toInt) : n.toInt = (wg 41 q).toInt ∧ ∀ i, i < (wg 41 q).toNatClampNeg → f (B + i) = wg 57 (128 * q + i) ∧ wg 57 (128 * q + i) ∈ RLq f B n.toNatClampNeg ∧ (RLq f B n.toNatClampNeg)[i]? = some (wg 57 (128 * q + i)) := by
  have hl := congrArg List.length h
  rw [LQ_l, RLq_l] at hl
  have k1 : (wg 41 q).toNatClampNeg = (wg 41 q).toInt.toNat := rfl
  have k2 : n.toNatClampNeg = n.toInt.toNat := rfl
  refine ⟨by omega, fun i hi => ?_⟩
  have g1 := LQ_g hi
  rw [h] at g1
  have g2 := RLq_g (f := f) (B := B) (n := n.toNatClampNeg) (i := i) (by omega)
  exact ⟨Option.some.inj (g2.symm.trans g1), List.mem_of_getElem? g1, g1⟩
theorem BNe_b (hc : PBc D ws wg wl) (hr : PBr D rs rg lg) (hd : PBd D) (hb : b < (rs 41).toNatClampNeg) : BNe ws wg wl rs rg lg b := by
  obtain ⟨n1, n2⟩ := nb_e hc hr hd
  have kn := iv_cl n2 (by decide)
  have kn2 := n2.2
  obtain ⟨s1, s2⟩ := se_l hc hr hd hb
  have eb := nI_n (k := b) (by omega)
  unfold S59 at s1 s2
  rw [eb] at s1 s2
  obtain ⟨q1, q2⟩ := lq_r s1 (hc.2.2.2.2.2.2.2.2 _ (by omega)) (hr.2.2.2.2.2.2.2 b (by omega)).1.1
  refine ⟨q1, fun n hn => ?_⟩
  obtain ⟨p1, p2, p3⟩ := q2 n hn
  have hP := s2 _ p2
  obtain ⟨l1, l2, l3, l4⟩ := lt_e hc hr hd (Or.inl rfl) hP
  obtain ⟨k, k1, k2, k3, k4⟩ := hP
  refine ⟨p1, ?_, ?_, by omega, by omega⟩
  · rw [k4]; exact HL_a hc hr hd k1 (Or.inr k3)
  · rw [l1]; exact w32_l l4 l2 l3 (by decide) (by decide)
theorem BNl_b (hc : PBc D ws wg wl) (hr : PBr D rs rg lg) (hd : PBd D) (hb : b < (rs 41).toNatClampNeg) : BNl ws wg wl rs rg lg b := by
  obtain ⟨n1, n2⟩ := nb_e hc hr hd
  have kn := iv_cl n2 (by decide)
  have kn2 := n2.2
  obtain ⟨s1, s2, s3⟩ := lo_l hc hr hd hb
  have eb := nI_n (k := b) (by omega)
  unfold S10 at s1 s2 s3
  rw [eb] at s1 s2 s3
  obtain ⟨q1, q2⟩ := lq_r s1 (hc.2.2.2.2.2.2.2.2 _ (by omega)) (hr.2.2.2.2.2.2.2 b (by omega)).2.1
  refine ⟨q1, fun n hn => ?_⟩
  obtain ⟨p1, p2, p3⟩ := q2 n hn
  have hP := s2 _ p2
  obtain ⟨l1, l2, l3, l4⟩ := lt_e hc hr hd (Or.inr rfl) hP
  have hP2 := hP
  obtain ⟨k, k1, k2, k3, k4⟩ := hP2
  refine ⟨p1, ?_, ?_, fun j hj => ?_⟩
  · rw [l1]; exact w32_l l4 l2 l3 (by decide) (by decide)
  · rw [k4, cdq_e hc hr hd, (hr.2.1 k k1).1.1, (hc.2.2.2.1 k k1).2.2.1 (Or.inl k3)]
    have hG := hd.2.1 k k1
    have ha := (hG.2.2.1.2.2.2.2.resolve_left (fun p => p k3)).2
    rw [(nm_ok hG.2.1 ha (by decide)).2]
  · obtain ⟨j1, j2, j3⟩ := q2 j (by omega)
    have hJ := s2 _ j2
    intro w
    refine s3 j n _ _ hj j3 p3 ((pk_i hc hr hd (Or.inr rfl) _ _ hJ hP).mp ?_)
    exact Int32.toInt_inj.mp w
end BL9
end
section
section BA9
variable {D : List El7} {ws rs : Nat → Int32} {wg rg : Nat → Nat → Int32} {wl lg : Nat → Nat → Int64} {b y x a : Nat}
/-- at most four args stand in a bean -/
theorem kd_ah {q : Nat → Bool} (hq : ∀ k, k < D.length → (q k = true ↔ AQD D 0 x k)) (hx : x ≤ 80) : ∀ (n j i : Nat), j + n ≤ D.length → D.length ≤ 80 → (kdL q n j)[i]? = some (nI x) → ahD D 0 x j + i ≤ ahD D 0 x x
  | 0, _, _, _, _, h => by cases h
  | n + 1, j, i, hj, h80, h => by
    have h : (if q j = true then nI j :: kdL q n (j + 1) else kdL q n (j + 1))[i]? = some (nI x) := h
    have e : ahD D 0 x (j + 1) = ahD D 0 x j + (if AQD D 0 x j then 1 else 0) := rfl
    by_cases w : q j = true
    · rw [if_pos w] at h
      rw [if_pos ((hq j (by omega)).mp w)] at e
      cases i with
      | zero =>
        have h : some (nI j) = some (nI x) := h
        have h := congrArg Int32.toInt (Option.some.inj h)
        rw [nI_toInt (by omega), nI_toInt (by omega)] at h
        have : j = x := by omega
        rw [this]; exact Nat.le_refl _
      | succ i =>
        have h : (kdL q n (j + 1))[i]? = some (nI x) := h
        have := kd_ah hq hx n (j + 1) i (by omega) h80 h
        omega
    · rw [if_neg w] at h
      rw [if_neg (fun p => w ((hq j (by omega)).mpr p))] at e
      have := kd_ah hq hx n (j + 1) i (by omega) h80 h
      omega
theorem fK_4 (hd : PBd D) : (fK D y 4).length ≤ 4 := by
  have h80 := hd.2.2.2.2.2.1
  by_cases w : (fK D y 4).length ≤ 4
  · exact w
  · exfalso
    have hg := List.getElem?_eq_getElem (l := fK D y 4) (i := 4) (by omega)
    obtain ⟨k, k1, k2, k3, k4, k5⟩ := fK_m hd (List.mem_of_getElem? hg)
    rw [k3] at hg
    have e : fK D y 4 = kdL (fun j => qC9 D y j && decide (dKd D j = 4)) D.length 0 := (kdL_fl (q := qC9 D y) (p := fun j => decide (dKd D j = 4)) D.length 0 (by omega)).symm
    rw [e] at hg
    have := kd_ah (x := k) (fun j hj => by
      show (decide (dAb D j = (y : Int)) && decide (dKd D j = 4)) = true ↔ _
      rw [Bool.and_eq_true, decide_eq_true_iff, decide_eq_true_iff]
      unfold AQD
      rw [k2, k4]
      exact ⟨fun q => ⟨q.1, q.2, Or.inl rfl⟩, fun q => ⟨q.1, q.2.1⟩⟩) (by omega) D.length 0 4 (by omega) h80 hg
    have hS := (hd.2.1 k k1).1
    unfold STN at hS
    omega
theorem ag_m {K : Int32 → List Int32} : ∀ C : List Int32, agF K C = [] ∨ ∃ c, c ∈ C ∧ agF K C = K c
  | [] => Or.inl rfl
  | c :: r => by
    show (if K c = [] then agF K r else K c) = [] ∨ ∃ d, d ∈ c :: r ∧ (if K c = [] then agF K r else K c) = K d
    by_cases w : K c = []
    · rw [if_pos w]
      rcases ag_m r with q | ⟨d, q1, q2⟩
      · exact Or.inl q
      · exact Or.inr ⟨d, List.mem_cons_of_mem _ q1, q2⟩
    · rw [if_neg w]; exact Or.inr ⟨c, List.mem_cons_self .., rfl⟩
theorem ar_l (hc : PBc D ws wg wl) (hr : PBr D rs rg lg) (hd : PBd D) (hb : b < (rs 41).toNatClampNeg) : (LQ wg (3 * b)).length ≤ 4 ∧ (∀ n, mArg rs rg lg (nI b) n = ((LQ wg (3 * b))[n]?).getD (-1)) ∧ ∀ z, z ∈ LQ wg (3 * b) → PKD D 4 z := by
  have h80 := hd.2.2.2.2.2.1
  obtain ⟨n1, n2⟩ := nb_e hc hr hd
  obtain ⟨c1, c2, c3, c4⟩ := ch_e hc hr hd hb
  have hn : iv 0 80 (rs 24) := ⟨by have := hr.1; omega, by have := hr.1; omega⟩
  have hM := hc.2.2.2.2.2.2.1 b (by show b < (ws 12).toInt.toNat; rw [n1]; exact hb)
  rw [c1] at hM
  have e : LQ wg (3 * b) = (mgF D wg (an9 (mPar rs rg lg) 81 (nI b)) MB0).1.1 := by rw [← hM]; rfl
  have g := mg_A (D := D) (wg := wg) (K := KK9 rs rg 4) (an9 (mPar rs rg lg) 81 (nI b)) (fun c hcc => by
    obtain ⟨y, y1, y2, y3, y4⟩ := cb_y hc hr hd (c4 c hcc).1 (c4 c hcc).2
    rw [kk_b hr hd y1 y3 (kd := 4) (n := 4) (by decide) (by decide)]
    exact (f_b hc hd y1 y2 y4).1)
  have ga := ag_ao (rs := rs) (rg := rg) (lg := lg) (KK9 rs rg 4) (fun c => by
    have q := kA_r (a := rg 42 c.toNatClampNeg) (kd := 4) (bh := 0) (r := mInn rs rg (rg 42 c.toNatClampNeg) 4 0) (gm := rg) hn rfl
    show kA9 rs rg (rg 42 c.toNatClampNeg) 4 0 = [] ↔ _
    rw [q]
    unfold rem9
    by_cases w : mInn rs rg (rg 42 c.toNatClampNeg) 4 0 = -1
    · rw [if_pos w]; exact ⟨fun _ => w, fun _ => rfl⟩
    · rw [if_neg w]; exact ⟨fun p => absurd p (List.cons_ne_nil _ _), fun p => absurd p w⟩) 81 (nI b) c3 (by omega)
  refine ⟨?_, fun n => ?_, fun z hz => ?_⟩
  · rw [e, g]
    rcases ag_m (K := KK9 rs rg 4) (an9 (mPar rs rg lg) 81 (nI b)) with q | ⟨c, q1, q2⟩
    · rw [q]; exact Nat.zero_le _
    · obtain ⟨y, y1, y2, y3, y4⟩ := cb_y hc hr hd (c4 c q1).1 (c4 c q1).2
      rw [q2, kk_b hr hd y1 y3 (kd := 4) (n := 4) (by decide) (by decide)]
      exact fK_4 hd
  · rw [e, g, ga]
    unfold mArg mAO dP
    rw [← an_l]
    exact sq_g (F := argF rs rg (rg 42 (aoF rs rg lg (an9 (mPar rs rg lg) 81 (nI b)).length (nI b)).toNatClampNeg)) hn rfl (fun n => rfl) n
  · rw [e, g] at hz
    rcases ag_m (K := KK9 rs rg 4) (an9 (mPar rs rg lg) 81 (nI b)) with q | ⟨c, q1, q2⟩
    · rw [q] at hz; cases hz
    · obtain ⟨y, y1, y2, y3, y4⟩ := cb_y hc hr hd (c4 c q1).1 (c4 c q1).2
      rw [q2, kk_b hr hd y1 y3 (kd := 4) (n := 4) (by decide) (by decide)] at hz
      exact PK_f hd hz
/-- an attribute's rules -/
theorem rv_of (hd : PBd D) (hx : x < D.length) {k : Int64} (h : aH (dAt D x) k = 1) : RVL (dKd D x) (dAt D x) k := by
  obtain ⟨z, q1, q2⟩ := aH_mm h
  have hv := ((hd.2.1 x hx).2.1 z q1).2
  rw [q2] at hv; exact hv
theorem aW_n0 {A : At7} {k : Int64} (h : aH A k = 0) : aW A k = -1 ∧ pl7 A k = -1 := by
  rcases gA_h (q := A) (k := k) with ⟨g, _⟩ | ⟨v, g, ha⟩
  · unfold aW pl7; rw [g]; exact ⟨rfl, rfl⟩
  · omega
theorem wd_t (hw : WRD7 (lg 0) (lg 1)) {i : Nat} (hi : i < 5) : lg 1 (4 + i) = wKy.getD (29 + i) 0 := by
  obtain ⟨_, _, _, _, _, a4, a5, a6, a7, a8, _⟩ := hw
  match i, hi with
  | 0, _ => exact a4.trans (by decide)
  | 1, _ => exact a5.trans (by decide)
  | 2, _ => exact a6.trans (by decide)
  | 3, _ => exact a7.trans (by decide)
  | 4, _ => exact a8.trans (by decide)
theorem wk_d : ∀ i, i < 5 → (wKy.getD (29 + i) 0).toInt ≥ 65536 ∧ ∀ j, j < 5 → wKy.getD (29 + i) 0 = wKy.getD (29 + j) 0 → i = j := by decide
theorem TY_q (hw : WRD7 (lg 0) (lg 1)) {A : At7} {r : Int} {h : Int32} (hp : PA7 A) (hT : TQ9 A 1954115685 r) (hr : aH A 1954115685 = 1 → ty7 A 1954115685) (hh : h.toInt = aH A 1954115685) : TYQ lg (aW A 1954115685) h r := by
  unfold TYQ
  rcases hT with ⟨q1, q2⟩ | ⟨_, i, i1, i2, i3⟩ | ⟨q1, q2⟩
  · obtain ⟨w1, w2, w3⟩ := cv_w hp q1
    refine Or.inr ⟨fun j hj p => ?_, Or.inl ⟨fun p => ?_, ⟨by omega, by omega, by omega⟩, by omega⟩⟩
    · have := (wk_d j hj).1
      rw [p, wd_t hw hj] at w1; omega
    · rw [i0_e.mp p, w3] at hh; exact absurd hh (by decide)
  · have hz : ¬ nv7 A 1954115685 = 0 := fun p => by
      have := (wk_d i i1).1
      rw [← i3, p] at this; exact absurd this (by decide)
    refine Or.inl ⟨i, i1, i2, by rw [← nv_aW hz, i3, wd_t hw i1], fun j hj p => ?_⟩
    rw [← nv_aW hz, i3, wd_t hw (by omega)] at p
    have := (wk_d i i1).2 j (by omega) p
    omega
  · have ha : aH A 1954115685 = 0 := by
      rcases aH_z1 (q := A) (k := 1954115685) with w | w
      · exact w
      · exact absurd (hr w) q2
    refine Or.inr ⟨fun j hj p => ?_, Or.inr ⟨Or.inl (i0_e.mpr (hh.trans ha)), q1⟩⟩
    have := (wk_d j hj).1
    rw [← wd_t hw hj, ← p, (aW_n0 ha).1] at this
    exact absurd this (by decide)
theorem AR_a (hc : PBc D ws wg wl) (hr : PBr D rs rg lg) (hd : PBd D) (ha : a < D.length) (hk : dKd D a = 4) : ARB ws wg wl rs rg lg a := by
  have hR := (hr.2.1 a ha).1
  have hS := (hc.2.2.2.1 a ha).1 hk
  have z := aH_z1 (q := dAt D a) (k := 24948)
  have hP := hd.2.2.2.1 a ha
  have hH := hR.2.2.1 24948
  refine ⟨HL_a hc hr hd ha (Or.inl hk), fun q => ?_, fun q => ?_, ?_⟩
  · rw [hS.1]
    exact (aW_n0 (by rw [i0_e.mp q] at hH; exact hH.symm)).2
  · have h1 : aH (dAt D a) 24948 = 1 := by
      rcases z with w | w
      · rw [w] at hH; exact absurd (i0_e.mpr hH) q
      · exact w
    have hv := rv_of hd ha h1
    have e : (24948 : Int64).toInt = 24948 := by decide
    unfold RVL at hv
    rw [e] at hv
    have hl : 0 ≤ pl7 (dAt D a) 24948 := by
      rcases hv with c | c | c | c | c | c | c | c | c
      · omega
      · omega
      · omega
      · omega
      · omega
      · exact c.2
      · omega
      · omega
      · omega
    obtain ⟨w1, w2, w3⟩ := pl_w hP hl
    rw [hS.1, hR.1]
    exact ⟨w32_l w1 hl (by omega) (by decide) (by decide), hl⟩
  · rw [hR.1]
    refine TY_q hr.2.2.2.2.2.2.1 hP hS.2 (fun h1 => ?_) (hR.2.2.1 _)
    have hv := rv_of hd ha h1
    have e : (1954115685 : Int64).toInt = 1954115685 := by decide
    unfold RVL at hv
    rw [e] at hv
    rcases hv with c | c | c | c | c | c | c | c | c
    · omega
    · omega
    · omega
    · omega
    · omega
    · omega
    · exact c.2
    · omega
    · omega
theorem BNa_b (hc : PBc D ws wg wl) (hr : PBr D rs rg lg) (hd : PBd D) (hb : b < (rs 41).toNatClampNeg) : BNa ws wg wl rs rg lg b := by
  obtain ⟨n1, n2⟩ := nb_e hc hr hd
  have kn := iv_cl n2 (by decide)
  have kn2 := n2.2
  have h80 := hd.2.2.2.2.2.1
  obtain ⟨a1, a2, a3⟩ := ar_l hc hr hd hb
  rw [LQ_l] at a1
  refine ⟨a1, hc.2.2.2.2.2.2.2.2 _ (by omega), ?_, fun n hn => ?_⟩
  · rw [a2, List.getElem?_eq_none (by rw [LQ_l]; exact Nat.le_refl _)]; rfl
  · have g := LQ_g hn
    obtain ⟨k, k1, k2, k3, k4⟩ := a3 _ (List.mem_of_getElem? g)
    refine ⟨by rw [a2, g]; rfl, ?_, by rw [k4]; exact AR_a hc hr hd k1 k3⟩
    rw [k2, nI_toInt (by omega)]; omega
end BA9
end
section
section BS9
variable {D : List El7} {ws rs : Nat → Int32} {wg rg : Nat → Nat → Int32} {wl lg : Nat → Nat → Int64} {b y x : Nat} {nn : Int64}
theorem ff_9 {α : Type} {g : List Int32 → α} {d : α} {p : Int32 → Bool} {v : Int32 → α} (h0 : g [] = d) (h1 : ∀ c r, p c = true → g (c :: r) = v c) (h2 : ∀ c r, p c = false → g (c :: r) = g r) : ∀ C : List Int32, g C = match C.find? p with | none => d | some c => v c
  | [] => h0
  | c :: r => by
    cases q : p c with
    | true => rw [h1 c r q, List.find?_cons_of_pos q]
    | false => rw [h2 c r q, List.find?_cons_of_neg (by rw [q]; decide)]; exact ff_9 h0 h1 h2 r
theorem fi_e {p q : Int32 → Bool} : ∀ C : List Int32, (∀ c, c ∈ C → p c = q c) → C.find? p = C.find? q
  | [], _ => rfl
  | c :: r, h => by
    rw [List.find?_cons, List.find?_cons, h c (List.mem_cons_self ..), fi_e r (fun z hz => h z (List.mem_cons_of_mem _ hz))]
/-- the first of the chain that has an attribute -/
abbrev fA9 (D : List El7) (wg : Nat → Nat → Int32) (nn : Int64) (C : List Int32) : Option Int32 := C.find? (fun c => decide (aH (dAt D (elW wg c)) nn = 1))
theorem mgt_7 (C : List Int32) : (mgF D wg C MB0).2.1 = match fA9 D wg 28817527407604345 C with | none => 0 | some c => nv7 (dAt D (elW wg c)) 28817527407604345 :=
  ff_9 (g := fun C => (mgF D wg C MB0).2.1) rfl (fun _ _ h => if_pos (of_decide_eq_true h)) (fun _ _ h => if_neg (of_decide_eq_false h)) C
theorem mgt_30 (C : List Int32) : (mgF D wg C MB0).2.2.1 = match fA9 D wg 427020088179 C with | none => -1 | some c => cv7 (dAt D (elW wg c)) 427020088179 :=
  ff_9 (g := fun C => (mgF D wg C MB0).2.2.1) rfl (fun _ _ h => if_pos (of_decide_eq_true h)) (fun _ _ h => if_neg (of_decide_eq_false h)) C
theorem mgt_31 (C : List Int32) : (mgF D wg C MB0).2.2.2.1 = match fA9 D wg 120282512125796 C with | none => -1 | some c => lv7 (dAt D (elW wg c)) 120282512125796 :=
  ff_9 (g := fun C => (mgF D wg C MB0).2.2.2.1) rfl (fun _ _ h => if_pos (of_decide_eq_true h)) (fun _ _ h => if_neg (of_decide_eq_false h)) C
theorem mgt_32 (C : List Int32) : (mgF D wg C MB0).2.2.2.2.1 = match fA9 D wg 1768843636 C with | none => -1 | some c => lv7 (dAt D (elW wg c)) 1768843636 :=
  ff_9 (g := fun C => (mgF D wg C MB0).2.2.2.2.1) rfl (fun _ _ h => if_pos (of_decide_eq_true h)) (fun _ _ h => if_neg (of_decide_eq_false h)) C
theorem mgt_33 (C : List Int32) : (mgF D wg C MB0).2.2.2.2.2 = match fA9 D wg 28259044220366713 C with | none => -1 | some c => lv7 (dAt D (elW wg c)) 28259044220366713 :=
  ff_9 (g := fun C => (mgF D wg C MB0).2.2.2.2.2) rfl (fun _ _ h => if_pos (of_decide_eq_true h)) (fun _ _ h => if_neg (of_decide_eq_false h)) C
abbrev CH_b (rs : Nat → Int32) (rg : Nat → Nat → Int32) (lg : Nat → Nat → Int64) (b : Nat) : List Int32 := an9 (mPar rs rg lg) 81 (nI b)
theorem tl_c (hc : PBc D ws wg wl) (hr : PBr D rs rg lg) (hd : PBd D) (hb : b < (rs 41).toNatClampNeg) (nn : Int64) : (mTel rs rg lg (nI b) nn = -1 ∧ fA9 D wg nn (CH_b rs rg lg b) = none) ∨ ∃ c y, fA9 D wg nn (CH_b rs rg lg b) = some c ∧ c ∈ CH_b rs rg lg b ∧ y < D.length ∧ dKd D y = 3 ∧ elW wg c = y ∧ (mTel rs rg lg (nI b) nn).toNatClampNeg = y ∧ ¬ mTel rs rg lg (nI b) nn = -1 ∧ aH (dAt D y) nn = 1 := by
  obtain ⟨c1, c2, c3, c4⟩ := ch_e hc hr hd hb
  have hf : (CH_b rs rg lg b).find? (fun c => decide (¬ mHas rg lg (rg 42 c.toNatClampNeg).toNatClampNeg nn = 0)) = fA9 D wg nn (CH_b rs rg lg b) := fi_e _ (fun c hcc => by
    obtain ⟨y, y1, y2, y3, y4⟩ := cb_y hc hr hd (c4 c hcc).1 (c4 c hcc).2
    have e1 : elW wg c = y := by show (wg 29 c.toNatClampNeg).toInt.toNat = y; omega
    have e2 : (rg 42 c.toNatClampNeg).toNatClampNeg = y := by show (rg 42 c.toNatClampNeg).toInt.toNat = y; omega
    rw [e1, e2]
    refine decide_eq_decide.mpr ?_
    rw [i0_e, (hr.2.1 y y1).1.2.2.1]
    have := aH_z1 (q := dAt D y) (k := nn)
    omega)
  have ht : mTel rs rg lg (nI b) nn = match fA9 D wg nn (CH_b rs rg lg b) with | none => -1 | some c => rg 42 c.toNatClampNeg := by
    unfold mTel dP
    rw [← an_l, te_f 81 (nI b), hf]
    try rfl
  cases q : fA9 D wg nn (CH_b rs rg lg b) with
  | none => rw [q] at ht; exact Or.inl ⟨ht, rfl⟩
  | some c =>
    rw [q] at ht
    have hm := List.mem_of_find?_eq_some q
    have hp := List.find?_some q
    obtain ⟨y, y1, y2, y3, y4⟩ := cb_y hc hr hd (c4 c hm).1 (c4 c hm).2
    have e1 : elW wg c = y := by show (wg 29 c.toNatClampNeg).toInt.toNat = y; omega
    have hp := of_decide_eq_true hp
    rw [e1] at hp
    have ht : mTel rs rg lg (nI b) nn = rg 42 c.toNatClampNeg := ht
    refine Or.inr ⟨c, y, rfl, hm, y1, y2, e1, by rw [ht]; show (rg 42 c.toNatClampNeg).toInt.toNat = y; omega, fun w => ?_, hp⟩
    rw [ht] at w
    rw [w] at y3
    have : (-1 : Int32).toInt = -1 := by decide
    omega
theorem fA_some {C : List Int32} {c : Int32} (hm : c ∈ C) (h : aH (dAt D (elW wg c)) nn = 1) : ¬ fA9 D wg nn C = none := fun q =>
  absurd (decide_eq_true h) (List.find?_eq_none.mp q c hm)
/-- yes or no, one or many -/
theorem yn_e {A : At7} {k v : Int64} (hv : ¬ v = 0) (hv2 : ¬ v = -1) (h : aH A k = 1 → ¬ nv7 A k = 0) : aW A k = v ↔ nv7 A k = v := by
  rcases aH_z1 (q := A) (k := k) with q | q
  · rw [(aW_n0 q).1, nv_0 q]
    exact ⟨fun p => absurd p.symm hv2, fun p => absurd p.symm hv⟩
  · rw [nv_aW (h q)]
theorem yn_r {A : At7} {k v : Int64} {r : Int32} (h : YN9 A k v r) : r = 0 ↔ ¬ nv7 A k = v := by
  rw [i0_e]
  rcases h with ⟨q1, q2⟩ | ⟨q1, q2⟩
  · exact ⟨fun p => by omega, fun p => absurd q2 p⟩
  · exact ⟨fun _ => q2, fun _ => q1⟩
theorem lv_r (hd : PBd D) (hx : x < D.length) (h : aH (dAt D x) nn = 1) (hn : nn.toInt = 120282512125796 ∨ nn.toInt = 1768843636 ∨ nn.toInt = 28259044220366713) : 0 ≤ lv7 (dAt D x) nn := by
  have hv := rv_of hd hx h
  unfold RVL at hv
  rcases hv with c | c | c | c | c | c | c | c | c
  · omega
  · omega
  · omega
  · omega
  · exact c.2
  · omega
  · omega
  · omega
  · omega
theorem cv_r (hd : PBd D) (hx : x < D.length) (h : aH (dAt D x) 427020088179 = 1) : 0 ≤ cv7 (dAt D x) 427020088179 := by
  have hv := rv_of hd hx h
  unfold RVL at hv
  have e : (427020088179 : Int64).toInt = 427020088179 := by decide
  rw [e] at hv
  rcases hv with c | c | c | c | c | c | c | c | c
  · omega
  · exact c.2
  · omega
  · omega
  · omega
  · omega
  · omega
  · omega
  · omega
theorem sc_r (hd : PBd D) (hx : x < D.length) (hn : nn.toInt = 7017298113369039732 ∨ nn.toInt = 1818327673 ∨ nn.toInt = 495589486693) (h : aH (dAt D x) nn = 1) : ¬ nv7 (dAt D x) nn = 0 := by
  have hv := rv_of hd hx h
  unfold RVL at hv
  intro z
  rw [z] at hv
  rcases hv with c | c | c | c | c | c | c | c | c
  · omega
  · omega
  · rcases c.2 with d | d
    · exact absurd d (by decide)
    · exact absurd d (by decide)
  · rcases c.2 with d | d
    · exact absurd d (by decide)
    · exact absurd d (by decide)
  · omega
  · omega
  · omega
  · omega
  · omega
/-- a letter that the chain tells -/
theorem lt_c (hc : PBc D ws wg wl) (hr : PBr D rs rg lg) (hd : PBd D) (hb : b < (rs 41).toNatClampNeg) (hn : nn.toInt = 120282512125796 ∨ nn.toInt = 1768843636 ∨ nn.toInt = 28259044220366713) {v : Int} (hv : v = match fA9 D wg nn (CH_b rs rg lg b) with | none => -1 | some c => lv7 (dAt D (elW wg c)) nn) : (ltR rs rg lg (nI b) nn).toInt = v := by
  unfold ltR
  rcases tl_c hc hr hd hb nn with ⟨t1, t2⟩ | ⟨c, y, t1, t2, t3, t4, t5, t6, t7, t8⟩
  · rw [t2] at hv
    have hv : v = -1 := hv
    rw [if_pos t1, hv]; decide
  · rw [t1] at hv
    have hv : v = lv7 (dAt D (elW wg c)) nn := hv
    rw [t5] at hv
    have h0 := lv_r hd t3 t8 hn
    obtain ⟨w1, w2, w3⟩ := lv_w (hd.2.2.2.1 y t3) h0
    rw [if_neg t7, t6, (hr.2.1 y t3).1.1, hv]
    exact w32_l w1 h0 w2 (by decide) (by decide)
theorem BNs_b (hc : PBc D ws wg wl) (hr : PBr D rs rg lg) (hd : PBd D) (hb : b < (rs 41).toNatClampNeg) : BNs ws wg wl rs rg lg b := by
  obtain ⟨n1, n2⟩ := nb_e hc hr hd
  have kn := iv_cl n2 (by decide)
  have kn2 := n2.2
  obtain ⟨y, y0, y1, y2, y3, y4, y5, y6, y7, y8⟩ := bn_y hc hr hd hb
  obtain ⟨h4, h5, h6, h34, h35, h36⟩ := y8
  have ey : (rg 42 b).toNatClampNeg = y := by show (rg 42 b).toInt.toNat = y; omega
  have hR := (hr.2.1 y y2).1
  have hG := hd.2.1 y y2
  obtain ⟨_, w0, w1, w2, w3, _⟩ := hr.2.2.2.2.2.2.1
  obtain ⟨c1, c2, c3, c4⟩ := ch_e hc hr hd hb
  have hM := hc.2.2.2.2.2.2.1 b (by show b < (ws 12).toInt.toNat; rw [n1]; exact hb)
  rw [c1] at hM
  have m7 : wl 7 b = match fA9 D wg 28817527407604345 (CH_b rs rg lg b) with | none => 0 | some c => nv7 (dAt D (elW wg c)) 28817527407604345 := by rw [← mgt_7, ← hM]; rfl
  have m30 : (wg 30 b).toInt = match fA9 D wg 427020088179 (CH_b rs rg lg b) with | none => -1 | some c => cv7 (dAt D (elW wg c)) 427020088179 := by rw [← mgt_30, ← hM]; rfl
  have m31 : (wg 31 b).toInt = match fA9 D wg 120282512125796 (CH_b rs rg lg b) with | none => -1 | some c => lv7 (dAt D (elW wg c)) 120282512125796 := by rw [← mgt_31, ← hM]; rfl
  have m32 : (wg 32 b).toInt = match fA9 D wg 1768843636 (CH_b rs rg lg b) with | none => -1 | some c => lv7 (dAt D (elW wg c)) 1768843636 := by rw [← mgt_32, ← hM]; rfl
  have m33 : (wg 33 b).toInt = match fA9 D wg 28259044220366713 (CH_b rs rg lg b) with | none => -1 | some c => lv7 (dAt D (elW wg c)) 28259044220366713 := by rw [← mgt_33, ← hM]; rfl
  have yA : aW (dAt D y) 7017298113369039732 = 7955827 ↔ nv7 (dAt D y) 7017298113369039732 = 7955827 := yn_e (by decide) (by decide) (sc_r hd y2 (by decide))
  have yS : aW (dAt D y) 495589486693 = 1835101817 ↔ nv7 (dAt D y) 495589486693 = 1835101817 := yn_e (by decide) (by decide) (sc_r hd y2 (by decide))
  have yL : aW (dAt D y) 1818327673 = 7955827 ↔ nv7 (dAt D y) 1818327673 = 7955827 := yn_e (by decide) (by decide) (sc_r hd y2 (by decide))
  have i4 : wl 4 b = 0 ↔ ¬ rg 28 y = 0 := by
    rw [h4, i0_e, hR.2.2.2.1, id_root hd.1 hd.2.1 y2 y3]
    rcases aH_z1 (q := dAt D y) (k := 26980) with q | q
    · exact ⟨fun _ p => by omega, fun _ => nv_0 q⟩
    · exact ⟨fun p => absurd p (nm_ok hG.2.1 q (by decide)).1, fun p => absurd q p⟩
  have r35 := yn_r h35
  have r34 := yn_r h34
  have r36 := yn_r h36
  have hmn : mMny rg lg b ↔ ¬ one9 wg wl b := by
    unfold mMny one9
    rw [ey, hR.1, w3, yS, ← i4, r35]
    by_cases q : wl 4 b = 0
    · exact ⟨fun _ p => p.1 q, fun _ => Or.inl q⟩
    · exact ⟨fun p w => w.2 (p.resolve_left q), fun p => Or.inr (Classical.byContradiction (fun w => p ⟨q, w⟩))⟩
  have hab : absR rg lg b ↔ ¬ wg 34 b = 0 := by
    unfold absR
    rw [ey, hR.1, w0, yA, r34]
    exact ⟨fun p q => q p, fun p => Classical.byContradiction p⟩
  have hla : mWord rg lg (rg 42 b).toNatClampNeg 1818327673 = lg 1 0 ↔ ¬ wg 36 b = 0 := by
    rw [ey, hR.1, w0, yL, r36]
    exact ⟨fun p q => q p, fun p => Classical.byContradiction p⟩
  have fac : (wl 7 b = 0 ∧ mTel rs rg lg (nI b) 28817527407604345 = -1) ∨ (¬ wl 7 b = 0 ∧ ¬ mTel rs rg lg (nI b) 28817527407604345 = -1 ∧ ¬ mTel rs rg lg (nI b) 120282512125796 = -1 ∧ mWord rg lg (mTel rs rg lg (nI b) 28817527407604345).toNatClampNeg 28817527407604345 = wl 7 b) := by
    rcases tl_c hc hr hd hb 28817527407604345 with ⟨t1, t2⟩ | ⟨c, z, t1, t2, t3, t4, t5, t6, t7, t8⟩
    · rw [t2] at m7; exact Or.inl ⟨m7, t1⟩
    · rw [t1] at m7
      have m7 : wl 7 b = nv7 (dAt D (elW wg c)) 28817527407604345 := m7
      rw [t5] at m7
      obtain ⟨q1, q2⟩ := nm_ok (hd.2.1 z t3).2.1 t8 (by decide)
      refine Or.inr ⟨by rw [m7]; exact q1, t7, fun w => ?_, by rw [t6, (hr.2.1 z t3).1.1, m7, q2]⟩
      have hB := ((hd.2.1 z t3).2.2.1.2.1.resolve_left (fun p => p t4)).2.1.resolve_left (fun p => by omega)
      rcases tl_c hc hr hd hb 120282512125796 with ⟨s1, s2⟩ | ⟨c', z', s1, s2, s3, s4, s5, s6, s7, s8⟩
      · exact fA_some t2 (by rw [t5]; exact hB) s2
      · exact s7 w
  have cls : (mTel rs rg lg (nI b) 427020088179 = -1 ∧ (wg 30 b).toInt = -1) ∨ (¬ mTel rs rg lg (nI b) 427020088179 = -1 ∧ 0 ≤ (wg 30 b).toInt ∧ (wg 30 b).toInt ≤ 7 ∧ (mWord rg lg (mTel rs rg lg (nI b) 427020088179).toNatClampNeg 427020088179).toInt = 256 * 75 + 48 + (wg 30 b).toInt) := by
    rcases tl_c hc hr hd hb 427020088179 with ⟨t1, t2⟩ | ⟨c, z, t1, t2, t3, t4, t5, t6, t7, t8⟩
    · rw [t2] at m30; exact Or.inl ⟨t1, m30⟩
    · rw [t1] at m30
      have m30 : (wg 30 b).toInt = cv7 (dAt D (elW wg c)) 427020088179 := m30
      rw [t5] at m30
      have h0 := cv_r hd t3 t8
      obtain ⟨q1, q2, q3⟩ := cv_w (hd.2.2.2.1 z t3) h0
      exact Or.inr ⟨t7, by omega, by omega, by rw [t6, (hr.2.1 z t3).1.1, m30]; exact q1⟩
  unfold BNs
  refine ⟨hmn, hab, hc.2.2.2.2.2.2.2.1 b (by omega), ?_, fun q => ?_, ?_, ?_, fun q => ?_, ⟨fun q => ?_, fun q => ?_⟩, lt_c hc hr hd hb (by decide) m31, lt_c hc hr hd hb (by decide) m32, lt_c hc hr hd hb (by decide) m33, ?_⟩
  · rw [ey, i0_e, hR.2.2.1, h6]
    rcases aH_z1 (q := dAt D y) (k := 28259031083541619) with q | q
    · exact ⟨fun _ => nv_0 q, fun _ => q⟩
    · exact ⟨fun p => by omega, fun p => absurd p (nm_ok hG.2.1 q (by decide)).1⟩
  · rw [ey, hR.1, cdq_e hc hr hd, ← nv_aW (fun w => q (h6.trans w)), h6]
  · rcases fac with ⟨f1, f2⟩ | ⟨f1, f2, _⟩
    · rcases cls with ⟨g1, g2⟩ | ⟨g1, g2, _⟩
      · exact ⟨fun _ => ⟨g2, f1⟩, fun _ => ⟨g1, f2⟩⟩
      · exact ⟨fun p => absurd p.1 g1, fun p => by have := p.1; omega⟩
    · exact ⟨fun p => absurd p.2 f2, fun p => absurd p.2 f1⟩
  · rcases fac with ⟨f1, f2⟩ | ⟨f1, f2, f3, _⟩
    · exact ⟨fun p => absurd f2 p.1, fun p => absurd f1 p⟩
    · exact ⟨fun _ => f1, fun _ => ⟨f2, f3⟩⟩
  · rcases fac with ⟨f1, _⟩ | ⟨_, _, _, f4⟩
    · exact absurd f1 q
    · rw [f4, cdq_e hc hr hd]
  · rcases cls with ⟨_, g2⟩ | ⟨g1, _⟩
    · exact g2
    · exact absurd q g1
  · rcases cls with ⟨g1, _⟩ | ⟨_, g2, g3, g4⟩
    · exact absurd g1 q
    · rw [g4]; exact Or.inr ⟨by omega, by omega, by omega, by omega⟩
  · unfold rfW
    rw [hmn, hab, hla]
    unfold one9
    exact ⟨fun p => ⟨fun w => w ⟨p.1, p.2.2.1⟩, fun w => w p.2.1, fun w => w p.2.2.2⟩, fun p => by
      have a := Classical.byContradiction p.1
      exact ⟨a.1, Classical.byContradiction p.2.1, a.2, Classical.byContradiction p.2.2⟩⟩
/-- both documents are alike -/
theorem BRG_of (hc : PBc D ws wg wl) (hr : PBr D rs rg lg) (hd : PBd D) : BRG ws wg wl rs rg lg :=
  ⟨(nb_e hc hr hd).1.symm, fun _ hb => ⟨BNs_b hc hr hd hb, BNa_b hc hr hd hb, BNe_b hc hr hd hb, BNl_b hc hr hd hb⟩, cdq_e hc hr hd⟩
end BS9
end
section
section TL9s
variable {ch : Nat → Int} {n : Nat}
/-- how many letters a name has -/
def nlF : Nat → Int → Nat
  | 0, _ => 0
  | f + 1, k => if k ≤ 0 then 0 else nlF f (k / 256) + 1
def nl7 (k : Int64) : Nat := nlF 8 k.toInt
theorem nlF_v {a : Nat} : ∀ (f j : Nat), (∀ i, i < j → isLc (ch (a + i))) → nlF f (nvI ch a j) ≤ j
  | 0, j, _ => Nat.zero_le _
  | f + 1, 0, _ => Nat.le_refl _
  | f + 1, j + 1, h => by
    have hd := (nvI_d (ch := ch) (a := a) (j := j) (h j (by omega))).1
    have ih := nlF_v f j (fun i hi => h i (by omega))
    show (if nvI ch a (j + 1) ≤ 0 then 0 else nlF f (nvI ch a (j + 1) / 256) + 1) ≤ j + 1
    rw [hd]
    split <;> omega
theorem nl_nm {a b : Nat} {k : Int64} (h : sNm ch a = some (k, b)) : a + nl7 k ≤ b := by
  obtain ⟨m, h1, h2, h3, h4, h5, h6⟩ := nm_v h
  unfold nl7
  rw [h6, h3]
  have := nlF_v 8 m h4
  omega
/-- what a list of attributes takes -/
def aC7 : At7 → Nat
  | [] => 0
  | y :: r => nl7 y.1 + 4 + y.2.length + aC7 r
theorem aC_app : ∀ (q r : At7), aC7 (q ++ r) = aC7 q + aC7 r
  | [], r => by show aC7 r = 0 + aC7 r; omega
  | y :: q, r => by
    show nl7 y.1 + 4 + y.2.length + aC7 (q ++ r) = nl7 y.1 + 4 + y.2.length + aC7 q + aC7 r
    rw [aC_app q r]; omega
theorem vaF_len : ∀ f v a r, vaF ch f v a = some r → a + r.1.length + 1 ≤ r.2 + v.length := by
  intro f
  induction f with
  | zero => intro v a r h; cases h
  | succ f ih =>
    intro v a r h
    have h : (if ch a = 34 then some (v, a + 1) else if ch a = 60 then none else match sCh ch a with | none => none | some (x, b) => if v.length = 24 then none else vaF ch f (v ++ [x]) (b + 1)) = some r := h
    split at h
    · cases h; show a + v.length + 1 ≤ a + 1 + v.length; omega
    · split at h
      · cases h
      · cases hc : sCh ch a with
        | none => rw [hc] at h; cases h
        | some q =>
          obtain ⟨x, b⟩ := q
          rw [hc] at h
          have h1 : a ≤ b := sCh_le hc
          have h : (if v.length = 24 then none else vaF ch f (v ++ [x]) (b + 1)) = some r := h
          split at h
          · cases h
          · have := ih _ _ _ h
            rw [List.length_append, List.length_singleton] at this
            omega
theorem sAt_len {a : Nat} {at9 : At7} {r : At7 × Nat} (h : sAt ch n at9 a = some r) : a + aC7 r.1 ≤ r.2 + 1 + aC7 at9 := by
  unfold sAt at h
  split at h
  · cases h
  · cases hc : sNm ch a with
    | none => rw [hc] at h; cases h
    | some q =>
      obtain ⟨k, b⟩ := q
      rw [hc] at h
      have h1 := nl_nm hc
      have h : (if hasK at9 k = true then none else if ch b = 61 ∧ ch (b + 1) = 34 then (match sVa ch n [] (b + 2) with | none => none | some (v, e) => some (at9 ++ [(k, v)], e)) else none) = some r := h
      split at h
      · cases h
      · split at h
        · cases hv : sVa ch n [] (b + 2) with
          | none => rw [hv] at h; cases h
          | some w =>
            obtain ⟨v, e⟩ := w
            rw [hv] at h
            cases h
            have h2 : b + 2 + v.length + 1 ≤ e + 0 := vaF_len _ _ _ _ hv
            show a + aC7 (at9 ++ [(k, v)]) ≤ e + 1 + aC7 at9
            rw [aC_app]
            show a + (aC7 at9 + (nl7 k + 4 + v.length + 0)) ≤ e + 1 + aC7 at9
            omega
        · cases h
theorem atsF_len : ∀ f at9 a r, atsF ch n f at9 a = some r → a + aC7 r.1 ≤ r.2 + aC7 at9 := by
  intro f
  induction f with
  | zero => intro at9 a r h; cases h; exact Nat.le_refl _
  | succ f ih =>
    intro at9 a r h
    have h : (if a < sWh ch n a ∧ isLc (ch (sWh ch n a)) then (match sAt ch n at9 (sWh ch n a) with | none => none | some (q, e) => atsF ch n f q e) else some (at9, sWh ch n a)) = some r := h
    split at h
    · rename_i hw
      cases hc : sAt ch n at9 (sWh ch n a) with
      | none => rw [hc] at h; cases h
      | some w =>
        obtain ⟨q, e⟩ := w
        rw [hc] at h
        have h1 : sWh ch n a + aC7 q ≤ e + 1 + aC7 at9 := sAt_len hc
        have h2 := ih _ _ _ h
        have := hw.1
        omega
    · cases h
      have := sWh_le ch n a
      show a + aC7 at9 ≤ sWh ch n a + aC7 at9
      omega
theorem sOp_len {cnt depth a e : Nat} {k : Int64} {q : At7} {c : Bool} (h : sOp ch n cnt depth a = some (k, q, c, e)) : a + 1 + nl7 k + aC7 q + (if c = true then 2 else 1) ≤ e ∧ (∃ b, sNm ch (a + 1) = some (k, b)) ∧ ch (e - 1) = 62 := by
  by_cases h0 : ch a = 60 ∧ isLc (ch (a + 1)) ∧ depth < 6 ∧ cnt < 80
  · cases h1 : sNm ch (a + 1) with
    | none => rw [sOp_n h1] at h; cases h
    | some w =>
      obtain ⟨k1, b⟩ := w
      have h3 := nl_nm h1
      cases h2 : sAs ch n [] b with
      | none => rw [sOp_a h1 h2] at h; cases h
      | some w2 =>
        obtain ⟨q1, e1⟩ := w2
        have h4 : b + aC7 q1 ≤ e1 + 0 := atsF_len _ _ _ _ h2
        rw [sOp_u h0 h1 h2] at h
        split at h
        · split at h
          · rename_i hz
            cases h
            refine ⟨?_, ⟨b, rfl⟩, hz⟩
            show a + 1 + nl7 k + aC7 q + 2 ≤ e1 + 2
            omega
          · cases h
        · split at h
          · rename_i hz
            cases h
            refine ⟨?_, ⟨b, rfl⟩, hz⟩
            show a + 1 + nl7 k + aC7 q + 1 ≤ e1 + 1
            omega
          · cases h
  · rw [sOp_x h0] at h; cases h
theorem clF_len : ∀ (m f p a b : Nat), m ≤ f → (∀ i, i < m → isLc (ch (p + i))) → clF ch f p a = some b → a + m ≤ b
  | 0, f, p, a, b, _, _, h => clF_le f p a b h
  | m + 1, 0, p, a, b, hm, _, _ => by omega
  | m + 1, f + 1, p, a, b, hm, hl, h => by
    have h : (if isLc (ch p) then (if ch a = ch p then clF ch f (p + 1) (a + 1) else none) else some a) = some b := h
    rw [if_pos (show isLc (ch p) from hl 0 (by omega))] at h
    split at h
    · have := clF_len m f (p + 1) (a + 1) b (by omega) (fun i hi => by rw [show p + 1 + i = p + (i + 1) by omega]; exact hl (i + 1) (by omega)) h
      omega
    · cases h
theorem sEd_len {p a e b : Nat} {k : Int64} (h : sEd ch n p a = some e) (hk : sNm ch (p + 1) = some (k, b)) : a + 3 + nl7 k ≤ e ∧ ch (e - 1) = 62 := by
  obtain ⟨m, m1, m2, m3, m4, m5, m6⟩ := nm_v hk
  have hn := nl_nm hk
  cases h1 : clF ch 8 (p + 1) (a + 2) with
  | none => rw [sEd_x h1] at h; cases h
  | some b =>
    have h2 := clF_len m 8 (p + 1) (a + 2) b m2 m4 h1
    have h3 := sWh_le ch n b
    rw [sEd_u h1] at h
    split at h
    · rename_i hz
      cases h
      exact ⟨by omega, hz⟩
    · cases h
end TL9s
end
section
section DL9s
variable {ch : Nat → Int} {n : Nat} {D D2 : List El7} {F : Nat → Bool}
/-- what an element takes of the text -/
def eC7 (w : El7) : Nat := 1 + nl7 w.2.2.1 + aC7 w.2.2.2.1
def cF7 (D : List El7) (F : Nat → Bool) (e : Nat) : Nat := eC7 (dEl D e) + (if F e = true then 4 + nl7 (dEl D e).2.2.1 else 2)
/-- the elements that are begun and not ended, the inmost first -/
def LKO (D : List El7) : Int → List Nat → Prop
  | _, [] => True
  | c, o :: r => c = (o : Int) ∧ o < D.length ∧ LKO D (dAb D o) r
def dbt (D : List El7) : List Nat → Nat
  | [] => 0
  | o :: r => 3 + nl7 (dEl D o).2.2.1 + dbt D r
theorem sB_e {f g : Nat → Nat} : ∀ m, (∀ e, e < m → f e = g e) → sB f m = sB g m
  | 0, _ => rfl
  | m + 1, h => by
    show sB f m + f m = sB g m + g m
    rw [sB_e m (fun e he => h e (by omega)), h m (by omega)]
def PRE7 (D D2 : List El7) : Prop := D.length ≤ D2.length ∧ ∀ e, e < D.length → (dEl D2 e).1 = (dEl D e).1 ∧ (dEl D2 e).2.1 = (dEl D e).2.1 ∧ (dEl D2 e).2.2.1 = (dEl D e).2.2.1 ∧ (dEl D2 e).2.2.2.1 = (dEl D e).2.2.2.1
theorem LKO_p (h : PRE7 D D2) : ∀ (O : List Nat) (c : Int), LKO D c O → LKO D2 c O ∧ dbt D2 O = dbt D O
  | [], _, _ => ⟨trivial, rfl⟩
  | o :: r, c, hl => by
    obtain ⟨h1, h2, h3⟩ := hl
    have e := h.2 o h2
    have ab : dAb D2 o = dAb D o := e.2.1
    obtain ⟨i1, i2⟩ := LKO_p h r _ h3
    refine ⟨⟨h1, by have := h.1; omega, by rw [ab]; exact i1⟩, ?_⟩
    show 3 + nl7 (dEl D2 o).2.2.1 + dbt D2 r = 3 + nl7 (dEl D o).2.2.1 + dbt D r
    rw [e.2.2.1, i2]
theorem LKO_m : ∀ (O : List Nat) (c : Int), LKO D c O → ∀ o, o ∈ O → o < D.length
  | [], _, _, _, h => by cases h
  | o :: r, c, hl, x, hx => by
    rcases List.mem_cons.mp hx with q | q
    · rw [q]; exact hl.2.1
    · exact LKO_m r _ hl.2.2 x q
theorem cF_p (h : PRE7 D D2) {G : Nat → Bool} (hG : ∀ e, e < D.length → G e = F e) {e : Nat} (he : e < D.length) : cF7 D2 G e = cF7 D F e := by
  have q := h.2 e he
  unfold cF7 eC7
  rw [q.2.2.1, q.2.2.2, hG e he]
/-- how far the text has been read, at least -/
def DLI (ch : Nat → Int) (n : Nat) (D : List El7) (cur : Int) (depth a : Nat) : Prop := ∃ (F : Nat → Bool) (O : List Nat), O.length = depth ∧ LKO D cur O ∧ (∀ o, o ∈ O → F o = true) ∧ (∀ e, e < D.length → dAb D e < (D.length : Int) ∧ (0 ≤ dAb D e → F (dAb D e).toNat = true)) ∧ (∀ e, e < D.length → ∃ b, sNm ch ((dEl D e).1 + 1) = some ((dEl D e).2.2.1, b)) ∧ sB (cF7 D F) D.length ≤ a + dbt D O ∧ (depth = 0 → a ≤ n)
theorem dEl_app {w : El7} : dEl (D ++ [w]) D.length = w := by unfold dEl; rw [List.getElem?_append_right (Nat.le_refl _), Nat.sub_self]; rfl
theorem dEl_al {w : El7} {e : Nat} (h : e < D.length) : dEl (D ++ [w]) e = dEl D e := by unfold dEl; rw [List.getElem?_append_left h]
theorem PRE_app {w : El7} : PRE7 D (D ++ [w]) := ⟨by rw [List.length_append]; omega, fun e he => by rw [dEl_al he]; exact ⟨rfl, rfl, rfl, rfl⟩⟩
theorem PRE_set {i : Nat} {w w2 : El7} (hw : D[i]? = some w) (h : w2.1 = w.1 ∧ w2.2.1 = w.2.1 ∧ w2.2.2.1 = w.2.2.1 ∧ w2.2.2.2.1 = w.2.2.2.1) : PRE7 D (D.set i w2) := by
  refine ⟨by rw [List.length_set]; exact Nat.le_refl _, fun e he => ?_⟩
  have hi := (List.getElem?_eq_some_iff.mp hw).1
  by_cases q : i = e
  · subst q
    have e1 : dEl (D.set i w2) i = w2 := by unfold dEl; rw [List.getElem?_set, if_pos rfl, if_pos hi]; rfl
    have e2 : dEl D i = w := by unfold dEl; rw [hw]; rfl
    rw [e1, e2]; exact h
  · have e1 : dEl (D.set i w2) e = dEl D e := by unfold dEl; rw [List.getElem?_set, if_neg q]
    rw [e1]; exact ⟨rfl, rfl, rfl, rfl⟩
/-- on: nothing new but texts -/
theorem DLI_s {cur : Int} {depth a b : Nat} (h : DLI ch n D cur depth a) (hp : PRE7 D D2) (hl : D2.length = D.length) (hab : a ≤ b) (hd : ¬ depth = 0) : DLI ch n D2 cur depth b := by
  obtain ⟨F, O, h1, h2, h3, h4, h5, h6, _⟩ := h
  obtain ⟨i1, i2⟩ := LKO_p hp O _ h2
  refine ⟨F, O, h1, i1, h3, fun e he => ?_, fun e he => ?_, ?_, fun q => absurd q hd⟩
  · have q : dAb D2 e = dAb D e := (hp.2 e (by omega)).2.1
    rw [q, hl]; exact h4 e (by omega)
  · have q := hp.2 e (by omega)
    rw [q.1, q.2.2.1]; exact h5 e (by omega)
  · rw [i2, hl, sB_e (f := cF7 D2 F) (g := cF7 D F) D.length (fun e he => cF_p hp (fun _ _ => rfl) he)]; omega
theorem DLI_new {cur : Int} {depth a b : Nat} {k : Int64} {q : At7} {c : Bool} (h : DLI ch n D cur depth a) (hd : ¬ depth = 0) (hb : a + 1 + nl7 k + aC7 q + (if c = true then 2 else 1) ≤ b) (hk : ∃ z, sNm ch (a + 1) = some (k, z)) : DLI ch n (D ++ [(a, cur, k, q, 0, [])]) (if c = true then cur else (D.length : Int)) (if c = true then depth else depth + 1) b := by
  obtain ⟨F, O, h1, h2, h3, h4, h5, h6, _⟩ := h
  cases O with
  | nil => exact absurd h1.symm hd
  | cons o r =>
    obtain ⟨hcu, hol, _⟩ := h2
    have hlen : (D ++ [((a, cur, k, q, 0, []) : El7)]).length = D.length + 1 := by rw [List.length_append]; rfl
    have hp : PRE7 D (D ++ [((a, cur, k, q, 0, []) : El7)]) := PRE_app
    obtain ⟨i1, i2⟩ := LKO_p hp (o :: r) _ ⟨hcu, hol, by assumption⟩
    have hFo : F o = true := h3 o (List.mem_cons_self ..)
    have hab : dAb (D ++ [((a, cur, k, q, 0, []) : El7)]) D.length = cur := by unfold dAb; rw [dEl_app]
    have hG : ∀ e, e < D.length → (fun e => if e = D.length then !c else F e) e = F e := fun e he => if_neg (by omega)
    have hG2 : (fun e => if e = D.length then !c else F e) D.length = !c := if_pos rfl
    have hsum : sB (cF7 (D ++ [((a, cur, k, q, 0, []) : El7)]) (fun e => if e = D.length then !c else F e)) (D.length + 1) = sB (cF7 D F) D.length + (1 + nl7 k + aC7 q + (if c = true then 2 else 4 + nl7 k)) := by
      show sB _ D.length + cF7 _ _ D.length = _
      rw [sB_e (f := cF7 (D ++ [((a, cur, k, q, 0, []) : El7)]) (fun e => if e = D.length then !c else F e)) (g := cF7 D F) D.length (fun e he => cF_p hp hG he)]
      congr 1
      unfold cF7 eC7
      rw [dEl_app, hG2]
      cases c <;> rfl
    have f4 : ∀ e, e < (D ++ [((a, cur, k, q, 0, []) : El7)]).length → dAb (D ++ [((a, cur, k, q, 0, []) : El7)]) e < ((D ++ [((a, cur, k, q, 0, []) : El7)]).length : Int) ∧ (0 ≤ dAb (D ++ [((a, cur, k, q, 0, []) : El7)]) e → (fun e => if e = D.length then !c else F e) (dAb (D ++ [((a, cur, k, q, 0, []) : El7)]) e).toNat = true) := by
      intro e he
      rw [hlen] at he ⊢
      by_cases w : e = D.length
      · rw [w, hab, hcu]
        refine ⟨by omega, fun _ => ?_⟩
        rw [show ((o : Int)).toNat = o from Int.toNat_natCast o, hG o hol]; exact hFo
      · have q1 : dAb (D ++ [((a, cur, k, q, 0, []) : El7)]) e = dAb D e := (hp.2 e (by omega)).2.1
        rw [q1]
        obtain ⟨g1, g2⟩ := h4 e (by omega)
        refine ⟨by omega, fun h0 => ?_⟩
        rw [hG _ (by omega)]; exact g2 h0
    have f5 : ∀ e, e < (D ++ [((a, cur, k, q, 0, []) : El7)]).length → ∃ b, sNm ch ((dEl (D ++ [((a, cur, k, q, 0, []) : El7)]) e).1 + 1) = some ((dEl (D ++ [((a, cur, k, q, 0, []) : El7)]) e).2.2.1, b) := by
      intro e he
      rw [hlen] at he
      by_cases w : e = D.length
      · rw [w, dEl_app]; exact hk
      · rw [dEl_al (by omega)]; exact h5 e (by omega)
    have f3 : ∀ x, x ∈ o :: r → (fun e => if e = D.length then !c else F e) x = true := fun x hx => by
      rw [hG x (LKO_m (o :: r) _ ⟨hcu, hol, by assumption⟩ x hx)]; exact h3 x hx
    cases c with
    | true =>
      refine ⟨fun e => if e = D.length then !true else F e, o :: r, h1, i1, f3, f4, f5, ?_, fun w => absurd w hd⟩
      rw [hlen, hsum, i2, if_pos rfl]
      rw [if_pos rfl] at hb
      omega
    | false =>
      refine ⟨fun e => if e = D.length then !false else F e, D.length :: o :: r, by rw [List.length_cons, h1]; rfl, ⟨rfl, by rw [hlen]; omega, by rw [hab]; exact i1⟩, fun x hx => ?_, f4, f5, ?_, fun w => absurd w (Nat.succ_ne_zero _)⟩
      · rcases List.mem_cons.mp hx with w | w
        · rw [w]; exact hG2
        · exact f3 x w
      · rw [hlen, hsum, if_neg (by decide)]
        rw [if_neg (by decide)] at hb
        show _ ≤ b + (3 + nl7 (dEl (D ++ [((a, cur, k, q, 0, []) : El7)]) D.length).2.2.1 + dbt (D ++ [((a, cur, k, q, 0, []) : El7)]) (o :: r))
        rw [i2, dEl_app]
        show _ ≤ b + (3 + nl7 k + dbt D (o :: r))
        omega
theorem DLI_end {cur : Int} {depth a b : Nat} {w : El7} (hn : ∀ i, n ≤ i → ch i = -1) (h : DLI ch n D cur depth a) (hd : ¬ depth = 0) (hw : D[cur.toNat]? = some w) (he : sEd ch n w.1 a = some b) : DLI ch n D w.2.1 (depth - 1) b := by
  obtain ⟨F, O, h1, h2, h3, h4, h5, h6, _⟩ := h
  cases O with
  | nil => exact absurd h1.symm hd
  | cons o r =>
    obtain ⟨hcu, hol, hlk⟩ := h2
    have eo : cur.toNat = o := by rw [hcu]; exact Int.toNat_natCast o
    have ew : dEl D o = w := by rw [eo] at hw; unfold dEl; rw [hw]; rfl
    obtain ⟨z, hz⟩ := h5 o hol
    rw [ew] at hz
    obtain ⟨l1, l2⟩ := sEd_len he hz
    have hab : dAb D o = w.2.1 := by unfold dAb; rw [ew]
    rw [hab] at hlk
    refine ⟨F, r, by rw [List.length_cons] at h1; omega, hlk, fun x hx => h3 x (List.mem_cons_of_mem _ hx), h4, h5, ?_, fun _ => ?_⟩
    · have e2 : dbt D (o :: r) = 3 + nl7 (dEl D o).2.2.1 + dbt D r := rfl
      rw [e2, ew] at h6
      omega
    · by_cases q : b ≤ n
      · exact q
      · have := hn (b - 1) (by omega)
        rw [this] at l2; exact absurd l2 (by decide)
theorem DLI_st {cur c2 : Int} {depth d2 a b : Nat} (hn : ∀ i, n ≤ i → ch i = -1) (hd : ¬ depth = 0) (hI : DLI ch n D cur depth a) (h : sSt ch n D cur depth a = some (D2, c2, d2, b)) : DLI ch n D2 c2 d2 b := by
  have hlt := sSt_lt h
  have rf : PRE7 D D := ⟨Nat.le_refl _, fun _ _ => ⟨rfl, rfl, rfl, rfl⟩⟩
  unfold sSt at h
  split at h
  · split at h
    · cases hc : sCom ch n a with
      | none => rw [hc] at h; cases h
      | some e => rw [hc] at h; cases h; exact DLI_s hI rf rfl (by omega) hd
    · split at h
      · cases hw : D[cur.toNat]? with
        | none => rw [hw] at h; cases h
        | some w =>
          rw [hw] at h
          have h : (match sEd ch n w.1 a with | none => none | some b => some (D, w.2.1, depth - 1, b)) = some (D2, c2, d2, b) := h
          cases hc : sEd ch n w.1 a with
          | none => rw [hc] at h; cases h
          | some e => rw [hc] at h; cases h; exact DLI_end hn hI hd hw hc
      · cases hc : sOp ch n D.length depth a with
        | none => rw [hc] at h; cases h
        | some w =>
          obtain ⟨k, q, c, e⟩ := w
          rw [hc] at h; cases h
          obtain ⟨l1, l2, _⟩ := sOp_len hc
          exact DLI_new hI hd l1 l2
  · cases hc : sCh ch a with
    | none => rw [hc] at h; cases h
    | some r =>
      obtain ⟨x, e⟩ := r
      rw [hc] at h
      cases hw : D[cur.toNat]? with
      | none => rw [hw] at h; cases h
      | some w =>
        rw [hw] at h
        have h : (match sTx w.2.2.2.2.1 w.2.2.2.2.2 x with | none => none | some (ts, te) => some (D.set cur.toNat (w.1, w.2.1, w.2.2.1, w.2.2.2.1, ts, te), cur, depth, e + 1)) = some (D2, c2, d2, b) := h
        cases ht : sTx w.2.2.2.2.1 w.2.2.2.2.2 x with
        | none => rw [ht] at h; cases h
        | some t =>
          obtain ⟨ts, te⟩ := t
          rw [ht] at h
          cases h
          exact DLI_s hI (PRE_set hw ⟨rfl, rfl, rfl, rfl⟩) (by rw [List.length_set]) (by omega) hd
theorem doF_len (hn : ∀ i, n ≤ i → ch i = -1) : ∀ f D cur depth a r, DLI ch n D cur depth a → doF ch n f D cur depth a = some r → ∃ F : Nat → Bool, (∀ e, e < r.1.length → 0 ≤ dAb r.1 e → F (dAb r.1 e).toNat = true) ∧ sB (cF7 r.1 F) r.1.length ≤ n := by
  have fin : ∀ D cur a, DLI ch n D cur 0 a → ∃ F : Nat → Bool, (∀ e, e < D.length → 0 ≤ dAb D e → F (dAb D e).toNat = true) ∧ sB (cF7 D F) D.length ≤ n := by
    intro D cur a h
    obtain ⟨F, O, h1, _, _, h4, _, h6, h7⟩ := h
    have hO : O = [] := List.eq_nil_of_length_eq_zero h1
    rw [hO] at h6
    have h6 : sB (cF7 D F) D.length ≤ a + 0 := h6
    have := h7 rfl
    exact ⟨F, fun e he => (h4 e he).2, by omega⟩
  intro f
  induction f with
  | zero =>
    intro D cur depth a r hI h
    have h : (if depth = 0 then some (D, a) else none) = some r := h
    split at h
    · rename_i q
      cases h
      rw [q] at hI
      exact fin D cur a hI
    · cases h
  | succ f ih =>
    intro D cur depth a r hI h
    have h : (if depth = 0 then some (D, a) else match sSt ch n D cur depth a with | none => none | some (D2, c2, d2, b) => doF ch n f D2 c2 d2 b) = some r := h
    split at h
    · rename_i q
      cases h
      rw [q] at hI
      exact fin D cur a hI
    · rename_i q
      cases hc : sSt ch n D cur depth a with
      | none => rw [hc] at h; cases h
      | some w =>
        obtain ⟨D2, c2, d2, b⟩ := w
        rw [hc] at h
        exact ih _ _ _ _ _ (DLI_st hn q hI hc) h
/-- the elements of a document take no more than its text has -/
theorem sDoc_len (hn : ∀ i, n ≤ i → ch i = -1) {D : List El7} (h : sDoc ch n = some D) : ∃ F : Nat → Bool, (∀ e, e < D.length → 0 ≤ dAb D e → F (dAb D e).toNat = true) ∧ sB (cF7 D F) D.length ≤ n := by
  unfold sDoc at h
  cases h1 : sBet ch n 0 with
  | none => rw [h1] at h; cases h
  | some a =>
    rw [h1] at h
    dsimp only at h
    cases h2 : sOp ch n 0 0 a with
    | none => rw [h2] at h; cases h
    | some w =>
      obtain ⟨k, q, c, b⟩ := w
      rw [h2] at h
      dsimp only at h
      cases h3 : sDo ch n [(a, -1, k, q, 0, [])] (if c = true then -1 else 0) (if c = true then 0 else 1) b with
      | none => rw [h3] at h; cases h
      | some w2 =>
        obtain ⟨D2, e⟩ := w2
        rw [h3] at h
        dsimp only at h
        cases h4 : sBet ch n e with
        | none => rw [h4] at h; cases h
        | some e2 =>
          rw [h4] at h
          dsimp only at h
          split at h
          · cases h
            refine doF_len hn _ _ _ _ _ _ ?_ h3
            obtain ⟨l1, l2, l3⟩ := sOp_len h2
            have hbn : b ≤ n := by
              by_cases w : b ≤ n
              · exact w
              · have := hn (b - 1) (by omega)
                rw [this] at l3; exact absurd l3 (by decide)
            have e0 : ∀ x, x < ([((a, -1, k, q, 0, []) : El7)]).length → x = 0 := fun x hx => by
              have hx : x < 1 := hx
              omega
            have d0 : dEl [((a, -1, k, q, 0, []) : El7)] 0 = (a, -1, k, q, 0, []) := rfl
            have n5 : ∀ x, x < ([((a, -1, k, q, 0, []) : El7)]).length → ∃ b, sNm ch ((dEl [((a, -1, k, q, 0, []) : El7)] x).1 + 1) = some ((dEl [((a, -1, k, q, 0, []) : El7)] x).2.2.1, b) := fun x hx => by
              rw [e0 x hx, d0]; exact l2
            have ab : ∀ x, x < ([((a, -1, k, q, 0, []) : El7)]).length → dAb [((a, -1, k, q, 0, []) : El7)] x = -1 := fun x hx => by rw [e0 x hx]; rfl
            cases c with
            | true =>
              rw [if_pos rfl] at l1
              refine ⟨fun _ => false, [], rfl, trivial, (fun o ho => by cases ho), fun x hx => ?_, n5, ?_, fun _ => hbn⟩
              · rw [ab x hx]; exact ⟨by omega, fun w => absurd w (by decide)⟩
              · show 0 + (1 + nl7 k + aC7 q + 2) ≤ b + 0
                omega
            | false =>
              rw [if_neg (by decide)] at l1
              refine ⟨fun _ => true, [0], rfl, ⟨rfl, Nat.zero_lt_one, trivial⟩, fun o ho => rfl, fun x hx => ?_, n5, ?_, fun w => absurd w (by decide)⟩
              · rw [ab x hx]; exact ⟨by omega, fun w => absurd w (by decide)⟩
              · show 0 + (1 + nl7 k + aC7 q + (4 + nl7 k)) ≤ b + (3 + nl7 k + 0)
                omega
          · cases h
end DL9s
end
section
section AC9
variable {D : List El7} {q : At7} {k : Int64} {e : Nat} {F : Nat → Bool}
/-- what one attribute takes -/
def aC1 (q : At7) (k : Int64) : Nat := match gA q k with
  | none => 0
  | some v => nl7 k + 4 + v.length
def aCs (q : At7) : List Int64 → Nat
  | [] => 0
  | k :: r => aC1 q k + aCs q r
theorem gA_cons {y : Int64 × List Int} {r : At7} : gA (y :: r) k = if y.1 = k then some y.2 else gA r k := by
  unfold gA
  rw [List.find?_cons]
  by_cases h : y.1 = k
  · rw [if_pos h, show (y.1 == k) = true from beq_iff_eq.mpr h]
  · rw [if_neg h, show (y.1 == k) = false from beq_eq_false_iff_ne.mpr h]
theorem aC1_c {y : Int64 × List Int} {r : At7} : aC1 (y :: r) k = if y.1 = k then nl7 k + 4 + y.2.length else aC1 r k := by
  unfold aC1
  rw [gA_cons]
  by_cases h : y.1 = k
  · rw [if_pos h, if_pos h]
  · rw [if_neg h, if_neg h]
theorem aCs_c {y : Int64 × List Int} {r : At7} : ∀ ks : List Int64, ks.Nodup → aCs (y :: r) ks ≤ (if y.1 ∈ ks then nl7 y.1 + 4 + y.2.length else 0) + aCs r ks
  | [], _ => Nat.zero_le _
  | k :: ks, h => by
    have hn := List.nodup_cons.mp h
    have ih := aCs_c (y := y) (r := r) ks hn.2
    show aC1 (y :: r) k + aCs (y :: r) ks ≤ (if y.1 ∈ k :: ks then nl7 y.1 + 4 + y.2.length else 0) + (aC1 r k + aCs r ks)
    rw [aC1_c]
    by_cases w : y.1 = k
    · rw [if_pos w, if_pos (by rw [w]; exact List.mem_cons_self ..)]
      rw [if_neg (by rw [w]; exact hn.1)] at ih
      rw [w]; omega
    · rw [if_neg w]
      by_cases u : y.1 ∈ ks
      · rw [if_pos u] at ih; rw [if_pos (List.mem_cons_of_mem _ u)]; omega
      · rw [if_neg u] at ih
        rw [if_neg (fun p => by
          rcases List.mem_cons.mp p with a | a
          · exact w a
          · exact u a)]
        omega
theorem aCs_0 : ∀ ks : List Int64, aCs [] ks = 0
  | [] => rfl
  | k :: ks => by show aC1 [] k + aCs [] ks = 0; rw [aCs_0 ks]; rfl
theorem aCs_le {ks : List Int64} (h : ks.Nodup) : ∀ q : At7, aCs q ks ≤ aC7 q
  | [] => by rw [aCs_0]; exact Nat.zero_le _
  | y :: r => by
    have := aCs_le h r
    have := aCs_c (y := y) (r := r) ks h
    show aCs (y :: r) ks ≤ nl7 y.1 + 4 + y.2.length + aC7 r
    split at this <;> omega
theorem aC1_s {v : List Int} (h : gA q k = some v) : aC1 q k = nl7 k + 4 + v.length := by unfold aC1; rw [h]
theorem nv_len (h : ¬ nv7 q k = 0) : nl7 k + 5 ≤ aC1 q k := by
  unfold nv7 at h
  by_cases w : aI q k = 1
  · cases hg : gA q k with
    | none => rw [aI_n hg] at w; exact absurd w (by decide)
    | some v =>
      rw [aI_s hg] at w
      by_cases u : 1 ≤ v.length ∧ v.length ≤ 8 ∧ allL v = true
      · rw [aC1_s hg]; have := u.1; omega
      · rw [if_neg u] at w; exact absurd w (by decide)
  · rw [if_neg w] at h; exact absurd rfl h
theorem lv_len (h : 0 ≤ lv7 q k) : nl7 k + 5 ≤ aC1 q k := by
  cases g : gA q k with
  | none => unfold lv7 at h; rw [g] at h; exact absurd (show (0 : Int) ≤ -1 from h) (by decide)
  | some v =>
    cases v with
    | nil => unfold lv7 at h; rw [g] at h; exact absurd (show (0 : Int) ≤ -1 from h) (by decide)
    | cons c r => rw [aC1_s g, List.length_cons]; omega
theorem cv_len (h : 0 ≤ cv7 q k) : nl7 k + 6 ≤ aC1 q k := by
  cases g : gA q k with
  | none => unfold cv7 at h; rw [g] at h; exact absurd (show (0 : Int) ≤ -1 from h) (by decide)
  | some v =>
    cases v with
    | nil => unfold cv7 at h; rw [g] at h; exact absurd (show (0 : Int) ≤ -1 from h) (by decide)
    | cons c r =>
      cases r with
      | nil => unfold cv7 at h; rw [g] at h; exact absurd (show (0 : Int) ≤ -1 from h) (by decide)
      | cons d t => rw [aC1_s g, List.length_cons, List.length_cons]; omega
/-- the share of an element, and the names in it -/
def bs7 (D : List El7) (e : Nat) : Nat := if dKd D e = 3 then (if aH (dAt D e) 26980 = 1 then 25 else 18) else if (dKd D e = 4 ∨ dKd D e = 5 ∨ dKd D e = 6) ∧ 0 < dCn D e then 11 else 0
/-- the names of an element at a place -/
def oN9 (D : List El7) (e : Nat) (n m : Int) (k : Int64) : List Int64 := if (dKd D e = n ∨ dKd D e = m) ∧ aH (dAt D e) k = 1 then [nv7 (dAt D e) k] else []
def ocE (D : List El7) (e : Nat) : List Int64 := oN9 D e 3 3 28259031083541619 ++ (oN9 D e 3 3 28817527407604345 ++ (oN9 D e 4 5 7497062 ++ oN9 D e 8 8 1650811246))
def ocL (D : List El7) : Nat → List Int64
  | 0 => []
  | e + 1 => ocL D e ++ ocE D e
theorem oN_l {n m : Int} : (oN9 D e n m k).length = if (dKd D e = n ∨ dKd D e = m) ∧ aH (dAt D e) k = 1 then 1 else 0 := by
  unfold oN9
  split <;> rfl
theorem oN_m {n m : Int} (h : dKd D e = n ∨ dKd D e = m) (ha : aH (dAt D e) k = 1) : nv7 (dAt D e) k ∈ oN9 D e n m k := by
  unfold oN9; rw [if_pos ⟨h, ha⟩]; exact List.mem_singleton.mpr rfl
theorem ocL_l : ∀ m, (ocL D m).length = sB (fun e => (ocE D e).length) m
  | 0 => rfl
  | m + 1 => by
    show (ocL D m ++ ocE D m).length = sB (fun e => (ocE D e).length) m + (ocE D m).length
    rw [List.length_append, ocL_l m]
theorem ocL_m {v : Int64} (h : v ∈ ocE D e) : ∀ m, e < m → v ∈ ocL D m
  | 0, hm => by omega
  | m + 1, hm => by
    show v ∈ ocL D m ++ ocE D m
    by_cases w : e = m
    · rw [← w]; exact List.mem_append.mpr (Or.inr h)
    · exact List.mem_append.mpr (Or.inl (ocL_m h m (by omega)))
/-- a kind's name -/
theorem kd_key {k : Int} : (kd7 k = 3 → k = 1650811246) ∧ (kd7 k = 4 → k = 6386279) ∧ (kd7 k = 5 → k = 7562612) ∧ (kd7 k = 6 → k = 1818850164) ∧ (kd7 k = 8 → k = 7497062) := by
  unfold kd7
  refine ⟨fun h => ?_, fun h => ?_, fun h => ?_, fun h => ?_, fun h => ?_⟩ <;> · repeat (split at h <;> first | omega | skip)
theorem co_e (hd : PBd D) (he : e < D.length) (hF : 0 < dCn D e → F e = true) : bs7 D e + 12 * (ocE D e).length ≤ cF7 D F e := by
  have hG := hd.2.1 e he
  have hz := fun k => aH_z1 (q := dAt D e) (k := k)
  obtain ⟨k3, k4, k5, k6, k8⟩ := kd_key (k := (dEl D e).2.2.1.toInt)
  have hl : (ocE D e).length = (oN9 D e 3 3 28259031083541619).length + ((oN9 D e 3 3 28817527407604345).length + ((oN9 D e 4 5 7497062).length + (oN9 D e 8 8 1650811246).length)) := by
    unfold ocE; rw [List.length_append, List.length_append, List.length_append]
  rw [hl, oN_l, oN_l, oN_l, oN_l]
  unfold cF7 eC7 bs7
  by_cases h3 : dKd D e = 3
  · have hN := hG.2.2.1.2.1.resolve_left (fun p => p h3)
    obtain ⟨b1, b2, b3⟩ := hN
    have nk : nl7 (dEl D e).2.2.1 = 4 := by unfold nl7; rw [k3 h3]; decide
    have hA := aCs_le (ks := [26980, 427020088179, 123563833388660, 7017298113369039732, 120282512125796, 28259031083541619, 28817527407604345]) (by decide) (dAt D e)
    have hA : aC1 (dAt D e) 26980 + (aC1 (dAt D e) 427020088179 + (aC1 (dAt D e) 123563833388660 + (aC1 (dAt D e) 7017298113369039732 + (aC1 (dAt D e) 120282512125796 + (aC1 (dAt D e) 28259031083541619 + (aC1 (dAt D e) 28817527407604345 + 0)))))) ≤ aC7 (dEl D e).2.2.2.1 := hA
    have n1 : nl7 26980 = 2 := by decide
    have n2 : nl7 427020088179 = 5 := by decide
    have n3 : nl7 123563833388660 = 6 := by decide
    have n4 : nl7 7017298113369039732 = 8 := by decide
    have n5 : nl7 120282512125796 = 6 := by decide
    have n6 : nl7 28259031083541619 = 7 := by decide
    have n7 : nl7 28817527407604345 = 7 := by decide
    have c1 : aH (dAt D e) 26980 = 1 → 7 ≤ aC1 (dAt D e) 26980 := fun h => by have := nv_len (nm_ok hG.2.1 h (by decide)).1; omega
    have c2 : aH (dAt D e) 427020088179 = 1 → 11 ≤ aC1 (dAt D e) 427020088179 := fun h => by have := cv_len (cv_r hd he h); omega
    have c3 : aH (dAt D e) 123563833388660 = 1 → 11 ≤ aC1 (dAt D e) 123563833388660 := fun h => by have := nv_len (nm_ok hG.2.1 h (by decide)).1; omega
    have c4 : nv7 (dAt D e) 7017298113369039732 = 7955827 → 11 ≤ aC1 (dAt D e) 7017298113369039732 := fun h => by have := nv_len (q := dAt D e) (k := 7017298113369039732) (by rw [h]; decide); omega
    have c5 : aH (dAt D e) 120282512125796 = 1 → 11 ≤ aC1 (dAt D e) 120282512125796 := fun h => by have := lv_len (lv_r hd he h (by decide)); omega
    have c6 : aH (dAt D e) 28259031083541619 = 1 → 12 ≤ aC1 (dAt D e) 28259031083541619 := fun h => by have := nv_len (nm_ok hG.2.1 h (by decide)).1; omega
    have c7 : aH (dAt D e) 28817527407604345 = 1 → 12 ≤ aC1 (dAt D e) 28817527407604345 := fun h => by have := nv_len (nm_ok hG.2.1 h (by decide)).1; omega
    have hend : 2 ≤ (if F e = true then 4 + nl7 (dEl D e).2.2.1 else 2) := by split <;> omega
    rw [if_pos h3, if_neg (show ¬ ((dKd D e = 4 ∨ dKd D e = 5) ∧ aH (dAt D e) 7497062 = 1) by omega), if_neg (show ¬ ((dKd D e = 8 ∨ dKd D e = 8) ∧ aH (dAt D e) 1650811246 = 1) by omega), nk]
    rw [nk] at hend
    have z1 := hz 26980
    have z6 := hz 28259031083541619
    have z7 := hz 28817527407604345
    have z2 := hz 427020088179
    have z3 := hz 123563833388660
    have z5 := hz 120282512125796
    have key : 11 ≤ aC1 (dAt D e) 427020088179 + aC1 (dAt D e) 123563833388660 + aC1 (dAt D e) 7017298113369039732 + aC1 (dAt D e) 120282512125796 := by
      rcases b3 with w | w | w | w
      · have := c4 w; omega
      · have := c2 w; omega
      · have := c3 w; omega
      · have := c5 (b2.resolve_left (by omega)); omega
    by_cases i1 : aH (dAt D e) 26980 = 1
    · have := c1 i1
      rw [if_pos i1]
      split <;> split <;> (first | omega | (have := c6 (by omega); first | omega | (have := c7 (by omega); omega)) | (have := c7 (by omega); omega))
    · rw [if_neg i1]
      split <;> split <;> (first | omega | (have := c6 (by omega); first | omega | (have := c7 (by omega); omega)) | (have := c7 (by omega); omega))
  · rw [if_neg h3, if_neg (show ¬ ((dKd D e = 3 ∨ dKd D e = 3) ∧ aH (dAt D e) 28259031083541619 = 1) by omega), if_neg (show ¬ ((dKd D e = 3 ∨ dKd D e = 3) ∧ aH (dAt D e) 28817527407604345 = 1) by omega)]
    by_cases h45 : dKd D e = 4 ∨ dKd D e = 5
    · have nk : nl7 (dEl D e).2.2.1 = 3 := by
        unfold nl7
        rcases h45 with w | w
        · rw [k4 w]; decide
        · rw [k5 w]; decide
      have hC : aH (dAt D e) 508440638821 + aH (dAt D e) 7497062 + (dCn D e : Int) = 1 := by
        have hC := hG.2.2.2.2
        unfold CNT at hC
        omega
      have z1 := hz 508440638821
      have z2 := hz 7497062
      rw [if_neg (show ¬ ((dKd D e = 8 ∨ dKd D e = 8) ∧ aH (dAt D e) 1650811246 = 1) by omega), nk]
      by_cases hr : aH (dAt D e) 7497062 = 1
      · have hA := aCs_le (ks := [7497062]) (by decide) (dAt D e)
        have hA : aC1 (dAt D e) 7497062 + 0 ≤ aC7 (dEl D e).2.2.2.1 := hA
        have n1 : nl7 7497062 = 3 := by decide
        have := nv_len (nm_ok hG.2.1 hr (by decide)).1
        rw [if_neg (show ¬ ((dKd D e = 4 ∨ dKd D e = 5 ∨ dKd D e = 6) ∧ 0 < dCn D e) by omega), if_pos ⟨h45, hr⟩]
        split <;> omega
      · rw [if_neg (show ¬ ((dKd D e = 4 ∨ dKd D e = 5) ∧ aH (dAt D e) 7497062 = 1) by omega)]
        by_cases hc : 0 < dCn D e
        · rw [if_pos ⟨by omega, hc⟩, if_pos (hF hc)]; omega
        · rw [if_neg (fun p => hc p.2)]; omega
    · rw [if_neg (show ¬ ((dKd D e = 4 ∨ dKd D e = 5) ∧ aH (dAt D e) 7497062 = 1) by omega)]
      by_cases h8 : dKd D e = 8
      · have nk : nl7 (dEl D e).2.2.1 = 3 := by unfold nl7; rw [k8 h8]; decide
        have hA := aCs_le (ks := [1650811246]) (by decide) (dAt D e)
        have hA : aC1 (dAt D e) 1650811246 + 0 ≤ aC7 (dEl D e).2.2.2.1 := hA
        have n1 : nl7 1650811246 = 4 := by decide
        rw [if_neg (show ¬ ((dKd D e = 4 ∨ dKd D e = 5 ∨ dKd D e = 6) ∧ 0 < dCn D e) by omega), nk]
        by_cases hb : aH (dAt D e) 1650811246 = 1
        · have := nv_len (nm_ok hG.2.1 hb (by decide)).1
          rw [if_pos ⟨Or.inl h8, hb⟩]
          split <;> omega
        · rw [if_neg (fun p => hb p.2)]; omega
      · rw [if_neg (show ¬ ((dKd D e = 8 ∨ dKd D e = 8) ∧ aH (dAt D e) 1650811246 = 1) by omega)]
        by_cases h6 : (dKd D e = 4 ∨ dKd D e = 5 ∨ dKd D e = 6) ∧ 0 < dCn D e
        · have nk : nl7 (dEl D e).2.2.1 = 4 := by unfold nl7; rw [k6 (show dKd D e = 6 by omega)]; decide
          rw [if_pos h6, if_pos (hF h6.2), nk]; omega
        · rw [if_neg h6]; omega
theorem sB_add {f g h : Nat → Nat} {c : Nat} : ∀ m, (∀ e, e < m → f e + c * g e ≤ h e) → sB f m + c * sB g m ≤ sB h m
  | 0, _ => by show 0 + c * 0 ≤ 0; omega
  | m + 1, hh => by
    have ih := sB_add m (fun e he => hh e (by omega))
    have := hh m (by omega)
    show sB f m + f m + c * (sB g m + g m) ≤ sB h m + h m
    rw [Nat.mul_add]; omega
/-- all shares and all names: no more than the text -/
theorem co_all {n : Nat} (hd : PBd D) (hF : ∀ e, e < D.length → 0 ≤ dAb D e → F (dAb D e).toNat = true) (hn : sB (cF7 D F) D.length ≤ n) : sB (bs7 D) D.length + 12 * (ocL D D.length).length ≤ n := by
  rw [ocL_l]
  refine Nat.le_trans (sB_add D.length (fun e he => co_e hd he (fun hc => ?_))) hn
  have hl : 0 < (kc9 D e).length := by rw [kc_l]; exact hc
  obtain ⟨j, j1, j2, j3⟩ := kc_m (List.getElem_mem (l := kc9 D e) hl)
  have := hF j j1 (by omega)
  rw [j2, Int.toNat_natCast] at this
  exact this
end AC9
end
section
section SC9s
variable {D : List El7} {ws rs : Nat → Int32} {wg rg : Nat → Nat → Int32} {wl lg : Nat → Nat → Int64} {b a c x : Nat}
theorem kdL_in {q : Nat → Bool} : ∀ (n j k : Nat), j ≤ k → k < j + n → q k = true → nI k ∈ kdL q n j
  | 0, _, _, _, _, _ => by omega
  | n + 1, j, k, h1, h2, hq => by
    show nI k ∈ (if q j = true then nI j :: kdL q n (j + 1) else kdL q n (j + 1))
    by_cases w : j = k
    · rw [w, if_pos hq]; exact List.mem_cons_self ..
    · have ih := kdL_in n (j + 1) k (by omega) (by omega) hq
      split
      · exact List.mem_cons_of_mem _ ih
      · exact ih
theorem nb_q (hc : PBc D ws wg wl) (hr : PBr D rs rg lg) (hd : PBd D) : (ws 12).toNatClampNeg = (rs 41).toNatClampNeg := by
  have := (nb_e hc hr hd).1
  show (ws 12).toInt.toNat = (rs 41).toInt.toNat; omega
theorem liL_q {q : Nat} (h : a ∈ liL wg q) : ∃ z, z ∈ LQ wg q ∧ z.toNatClampNeg = a := by
  unfold liL at h
  obtain ⟨i, h1, h2⟩ := List.mem_map.mp h
  exact ⟨_, List.mem_map.mpr ⟨i, h1, rfl⟩, h2⟩
theorem hd_k (hc : PBc D ws wg wl) (hr : PBr D rs rg lg) (hd : PBd D) (hb : b < (ws 12).toNatClampNeg) (h : HD9 wg b a) : a < D.length ∧ (dKd D a = 4 ∨ dKd D a = 5) := by
  rw [nb_q hc hr hd] at hb
  rcases h with h | h
  · obtain ⟨z, z1, z2⟩ := liL_q h
    obtain ⟨k, k1, k2, k3, k4⟩ := (ar_l hc hr hd hb).2.2 z z1
    have : a = k := by omega
    rw [this]; exact ⟨k1, Or.inl k3⟩
  · obtain ⟨z, z1, z2⟩ := liL_q h
    obtain ⟨s1, s2⟩ := se_l hc hr hd hb
    rw [s1] at z1
    obtain ⟨k, k1, k2, k3, k4⟩ := s2 z z1
    have : a = k := by omega
    rw [this]; exact ⟨k1, Or.inr k3⟩
/-- what an arg or a set holds -/
theorem ct_c (hc : PBc D ws wg wl) (hd : PBd D) (ha : a < D.length) (hk : dKd D a = 4 ∨ dKd D a = 5) : (ctE wg a = a ∧ dCn D a = 0 ∧ (((wg 25 a).toInt = 7) ∨ ((wg 25 a).toInt = 8 ∧ wl 2 a = nv7 (dAt D a) 7497062 ∧ aH (dAt D a) 7497062 = 1))) ∨ (∃ m, ctE wg a = m ∧ m < D.length ∧ 0 < m ∧ dAb D m = (a : Int) ∧ 0 < dCn D a ∧ (dKd D m = 3 ∨ dKd D m = 6 ∨ dKd D m = 7 ∨ dKd D m = 8 ∨ dKd D m = 9) ∧ ∀ j, j < D.length → dAb D j = (a : Int) → j = m) := by
  have h80 := hd.2.2.2.2.2.1
  have hG := hd.2.1 a ha
  have hcn : aH (dAt D a) 508440638821 + aH (dAt D a) 7497062 + (dCn D a : Int) = 1 := by
    have hC := hG.2.2.2.2
    unfold CNT at hC
    omega
  have z1 := aH_z1 (q := dAt D a) (k := 508440638821)
  have z2 := aH_z1 (q := dAt D a) (k := 7497062)
  have s5 := (hc.2.2.2.1 a ha).2.2.2.2.1 hk
  by_cases w : dCn D a = 0
  · have h16 := fi_no hc.2.1 rfl (fun j hj => (hc.2.2.1 j hj).2) ha w
    rcases s5 with q | ⟨_, q, p⟩
    · omega
    · refine Or.inl ⟨by show (wg 26 a).toInt.toNat = a; omega, w, ?_⟩
      rcases p with ⟨_, p2, _⟩ | ⟨p1, p2, p3⟩
      · exact Or.inl p2
      · exact Or.inr ⟨p2, p3, by omega⟩
  · have hl : (kc9 D a).length = 1 := by rw [kc_l]; omega
    obtain ⟨u, hu⟩ := List.length_eq_one_iff.mp hl
    obtain ⟨m, m1, m2, m3⟩ := kc_m (show u ∈ kc9 D a by rw [hu]; exact List.mem_singleton.mpr rfl)
    have em : u.toNatClampNeg = m := by rw [m3]; exact nI_n (by omega)
    have tm := nI_toInt (n := m) (by omega)
    have h16 : wg 16 a = u := by
      have hk9 := ki_b hc hd ha
      rw [hu] at hk9
      have e : ki9 wg 80 (wg 16 a) = if (wg 16 a).toInt < 0 then [] else wg 16 a :: ki9 wg 79 (wg 17 (wg 16 a).toNatClampNeg) := rfl
      rw [e] at hk9
      by_cases q : (wg 16 a).toInt < 0
      · rw [if_pos q] at hk9; exact absurd hk9 (by simp)
      · rw [if_neg q] at hk9; exact (List.cons.inj hk9).1
    have ect : ctE wg a = m := by
      rcases s5 with ⟨_, q, _⟩ | ⟨q, _⟩
      · show (wg 26 a).toNatClampNeg = m
        rw [q, h16]; exact em
      · rw [h16, m3] at q; omega
    have hi : dIn D m = dKd D a := by unfold dIn; rw [if_neg (by omega), m2]; rfl
    have hS := (hd.2.1 m m1).1
    unfold STN at hS
    rw [hi] at hS
    have hm0 : 0 < m := by
      rcases Nat.eq_zero_or_pos m with q | q
      · rw [q, hd.1.1] at m2; omega
      · exact q
    refine Or.inr ⟨m, ect, m1, hm0, m2, by omega, by omega, fun j j1 j2 => ?_⟩
    have hj : nI j ∈ kc9 D a := by
      refine kdL_in D.length 0 j (Nat.zero_le _) (by omega) (decide_eq_true j2)
    rw [hu] at hj
    have := congrArg Int32.toInt (List.mem_singleton.mp hj)
    rw [m3, tm, nI_toInt (by omega)] at this
    omega
theorem k_25 (hc : PBc D ws wg wl) (hx : x < D.length) (h4 : ¬ dKd D x = 4) (h5 : ¬ dKd D x = 5) (h1 : 1 ≤ dKd D x) : (wg 25 x).toInt = wkF (dKd D x) := by
  rw [(hc.2.2.2.1 x hx).2.2.2.2.2.1 h4 h5, KW_j (hc.2.2.1 x hx).1 h1]
theorem kd_pos (hd : PBd D) (hx : x < D.length) : 1 ≤ dKd D x := by
  have hS := (hd.2.1 x hx).1
  unfold STN at hS
  omega
/-- an element that names a bean within: a bean there -/
theorem i27 (hc : PBc D ws wg wl) (hr : PBr D rs rg lg) (hd : PBd D) (hx : x < D.length) (h : 0 ≤ (wg 27 x).toInt) (hin : ¬ dAb D x = 0) : dKd D x = 3 ∧ wl 4 (wg 27 x).toInt.toNat = 0 ∧ (wg 27 x).toInt.toNat < (ws 12).toNatClampNeg := by
  have hk : dKd D x = 3 := Classical.byContradiction (fun q => by have := hc.2.2.2.2.2.1.2.2.1 x hx q; omega)
  obtain ⟨i1, i2, i3, i4, _⟩ := in_b hc hr hd hx hk hin
  have e : (rg 43 x).toNatClampNeg = (wg 27 x).toInt.toNat := by rw [i1]; rfl
  rw [e] at i4
  refine ⟨hk, i4, ?_⟩
  rw [nb_q hc hr hd]
  show _ < (rs 41).toInt.toNat; omega
theorem it_m (hc : PBc D ws wg wl) (hd : PBd D) (hx : c < D.length) (h6 : dKd D c = 6) (hz : x ∈ itC wg c) : x < D.length ∧ dAb D x = (c : Int) ∧ (dKd D x = 3 ∨ dKd D x = 7 ∨ dKd D x = 8 ∨ dKd D x = 9) := by
  have h80 := hd.2.2.2.2.2.1
  have hcn : dCn D c ≤ 6 := by
    have hC := (hd.2.1 c hx).2.2.2.2
    unfold CNT at hC
    omega
  rw [it_c hc hd hx hcn] at hz
  obtain ⟨u, u1, u2⟩ := List.mem_map.mp hz
  obtain ⟨m, m1, m2, m3⟩ := kc_m u1
  have hm : x = m := by rw [← u2, m3]; exact nI_n (by omega)
  rw [hm]
  have hi : dIn D m = 6 := by unfold dIn; rw [if_neg (by omega), m2]; exact h6
  have hS := (hd.2.1 m m1).1
  unfold STN at hS
  rw [hi] at hS
  exact ⟨m1, m2, by omega⟩
/-- a list that is held -/
theorem ct_6 (hc : PBc D ws wg wl) (hd : PBd D) (ha : a < D.length) (hk : dKd D a = 4 ∨ dKd D a = 5) (h6 : (wg 25 (ctE wg a)).toInt = 6) : ctE wg a < D.length ∧ 0 < ctE wg a ∧ dKd D (ctE wg a) = 6 ∧ dAb D (ctE wg a) = (a : Int) ∧ 0 < dCn D a ∧ ∀ j, j < D.length → dAb D j = (a : Int) → j = ctE wg a := by
  rcases ct_c hc hd ha hk with ⟨q1, _, q3⟩ | ⟨m, q1, q2, q3, q4, q5, q6, q7⟩
  · rw [q1] at h6; omega
  · rw [q1] at h6 ⊢
    have := k_25 hc q2 (by omega) (by omega) (by omega)
    rw [h6] at this
    refine ⟨q2, q3, ?_, q4, q5, q7⟩
    rcases q6 with p | p | p | p | p
    · rw [p] at this; exact absurd this (by decide)
    · exact p
    · rw [p] at this; exact absurd this (by decide)
    · rw [p] at this; exact absurd this (by decide)
    · rw [p] at this; exact absurd this (by decide)
theorem IN_of (hc : PBc D ws wg wl) (hr : PBr D rs rg lg) (hd : PBd D) : IN9 wg wl (ws 12).toNatClampNeg := by
  intro b hb a hA
  obtain ⟨a1, a2⟩ := hd_k hc hr hd hb hA
  have ha0 : 0 < a := by
    rcases Nat.eq_zero_or_pos a with q | q
    · rw [q, root_k hd.1 hd.2.1 (by omega)] at a2; omega
    · exact q
  refine ⟨fun _ h27 => ?_, fun h6 e he _ _ h27 => ?_⟩
  · rcases ct_c hc hd a1 a2 with ⟨q1, _, _⟩ | ⟨m, q1, q2, q3, q4, _⟩
    · rw [q1] at h27
      have := hc.2.2.2.2.2.1.2.2.1 a a1 (by omega)
      omega
    · rw [q1] at h27 ⊢
      exact (i27 hc hr hd q2 h27 (by omega)).2
  · obtain ⟨c1, c2, c3, c4, _⟩ := ct_6 hc hd a1 a2 h6
    obtain ⟨e1, e2, _⟩ := it_m hc hd c1 c3 he
    exact (i27 hc hr hd e1 h27 (by omega)).2
end SC9s
end
section
section CT8
variable {D : List El7} {ws rs : Nat → Int32} {wg rg : Nat → Nat → Int32} {wl lg : Nat → Nat → Int64} {b a c x t : Nat}
theorem el_t (hc : PBc D ws wg wl) (hr : PBr D rs rg lg) (hd : PBd D) (ht : t < (ws 12).toNatClampNeg) : 0 < elD D t ∧ elD D t < D.length ∧ dKd D (elD D t) = 3 ∧ (wg 27 (elD D t)).toInt = (t : Int) ∧ BH9 (dAt D (elD D t)) wg wl t ∧ (rg 42 t).toInt = (elD D t : Int) := by
  rw [nb_q hc hr hd] at ht
  obtain ⟨y, y0, y1, y2, y3, y4, y5, y6, y7, y8⟩ := bn_y hc hr hd ht
  have e : elD D t = y := by unfold elD; rw [y0]; rfl
  rw [e]
  exact ⟨y1, y2, y3, y7, y8, y4⟩
abbrev ou9 (D : List El7) (t : Nat) : Nat := (dAb D (elD D t)).toNat
abbrev hl9D (D : List El7) (c : Nat) : Nat := (dAb D c).toNat
/-- a bean without an id stands in an arg, a set or a list -/
theorem ou_t (hc : PBc D ws wg wl) (hr : PBr D rs rg lg) (hd : PBd D) (ht : t < (ws 12).toNatClampNeg) (h4 : wl 4 t = 0) : 0 < ou9 D t ∧ ou9 D t < D.length ∧ (dKd D (ou9 D t) = 4 ∨ dKd D (ou9 D t) = 5 ∨ dKd D (ou9 D t) = 6) ∧ 0 < dCn D (ou9 D t) ∧ dAb D (elD D t) = (ou9 D t : Int) := by
  obtain ⟨e1, e2, e3, e4, e5, e6⟩ := el_t hc hr hd ht
  have hi : ¬ aH (dAt D (elD D t)) 26980 = 1 := fun q => (nm_ok (hd.2.1 _ e2).2.1 q (by decide)).1 (by rw [← e5.1]; exact h4)
  have h0 : ¬ dAb D (elD D t) = 0 := fun q => hi ((id_root hd.1 hd.2.1 e2 e3).mp q)
  obtain ⟨a1, a2⟩ := hd.1.2 _ e1 e2
  have ha : dAb D (elD D t) = (ou9 D t : Int) := by unfold ou9; omega
  have hlt : ou9 D t < D.length := by unfold ou9; omega
  have hpos : 0 < ou9 D t := by unfold ou9; omega
  have hin : dIn D (elD D t) = dKd D (ou9 D t) := by unfold dIn; rw [if_neg (by omega)]
  have hS := (hd.2.1 _ e2).1
  unfold STN at hS
  rw [hin] at hS
  have hS2 := (hd.2.1 _ hlt).1
  unfold STN at hS2
  have hb := (hd.1.2 _ hpos hlt).1
  refine ⟨hpos, hlt, by omega, ?_, ha⟩
  have hm : nI (elD D t) ∈ kc9 D (ou9 D t) := kdL_in D.length 0 _ (Nat.zero_le _) (by omega) (decide_eq_true ha)
  rw [← kc_l]
  exact List.length_pos_of_mem hm
theorem bs_h (h : dKd D x = 4 ∨ dKd D x = 5 ∨ dKd D x = 6) (hc : 0 < dCn D x) : 11 ≤ bs7 D x := by
  unfold bs7
  rw [if_neg (by omega), if_pos ⟨h, hc⟩]
  exact Nat.le_refl _
/-- the factory of a bean: a name of the text -/
theorem fc_n (hc : PBc D ws wg wl) (hr : PBr D rs rg lg) (hd : PBd D) (hb : b < (ws 12).toNatClampNeg) (h : ¬ wl 7 b = 0) : wl 7 b ∈ ocL D D.length := by
  have hb2 := hb
  rw [nb_q hc hr hd] at hb2
  obtain ⟨c1, c2, c3, c4⟩ := ch_e hc hr hd hb2
  have hM := hc.2.2.2.2.2.2.1 b hb
  rw [c1] at hM
  have m7 : wl 7 b = match fA9 D wg 28817527407604345 (CH_b rs rg lg b) with | none => 0 | some c => nv7 (dAt D (elW wg c)) 28817527407604345 := (show wl 7 b = (mgF D wg (CH_b rs rg lg b) MB0).2.1 by rw [← hM]; rfl).trans (mgt_7 _)
  rcases tl_c hc hr hd hb2 28817527407604345 with ⟨t1, t2⟩ | ⟨c, z, t1, t2, t3, t4, t5, t6, t7, t8⟩
  · rw [t2] at m7; exact absurd m7 h
  · rw [t1] at m7
    have m7 : wl 7 b = nv7 (dAt D (elW wg c)) 28817527407604345 := m7
    rw [t5] at m7
    rw [m7]
    refine ocL_m (e := z) ?_ D.length t3
    unfold ocE
    exact List.mem_append.mpr (Or.inr (List.mem_append.mpr (Or.inl (oN_m (Or.inl t4) t8))))
theorem rf_n (hd : PBd D) (hx : x < D.length) (h : dKd D x = 4 ∨ dKd D x = 5) (ha : aH (dAt D x) 7497062 = 1) : nv7 (dAt D x) 7497062 ∈ ocL D D.length := by
  refine ocL_m (e := x) ?_ D.length hx
  unfold ocE
  exact List.mem_append.mpr (Or.inr (List.mem_append.mpr (Or.inr (List.mem_append.mpr (Or.inl (oN_m h ha))))))
theorem bn_n (hd : PBd D) (hx : x < D.length) (h : dKd D x = 8) : nv7 (dAt D x) 1650811246 ∈ ocL D D.length := by
  refine ocL_m (e := x) ?_ D.length hx
  unfold ocE
  have ha : aH (dAt D x) 1650811246 = 1 := (hd.2.1 x hx).2.2.1.2.2.2.1.resolve_left (fun p => p h)
  exact List.mem_append.mpr (Or.inr (List.mem_append.mpr (Or.inr (List.mem_append.mpr (Or.inr (oN_m (Or.inl h) ha))))))
theorem nmo_n (hc : PBc D ws wg wl) (hr : PBr D rs rg lg) (hd : PBd D) (hb : b < (ws 12).toNatClampNeg) {v : Int64} (h : NM9 wg wl b v) : v ∈ ocL D D.length := by
  rcases h with ⟨h1, h2⟩ | ⟨h1, h2⟩ | ⟨a, hA, h⟩
  · obtain ⟨e1, e2, e3, e4, e5, e6⟩ := el_t hc hr hd hb
    have h6 := e5.2.2.1
    rw [h2, h6]
    refine ocL_m (e := elD D b) ?_ D.length e2
    unfold ocE
    refine List.mem_append.mpr (Or.inl (oN_m (Or.inl e3) ?_))
    rcases aH_z1 (q := dAt D (elD D b)) (k := 28259031083541619) with w | w
    · rw [h6, nv_0 w] at h1; exact absurd rfl h1
    · exact w
  · rw [h2]; exact fc_n hc hr hd hb h1
  · obtain ⟨a1, a2⟩ := hd_k hc hr hd hb hA
    have ha0 : 0 < a := by
      rcases Nat.eq_zero_or_pos a with q | q
      · rw [q, root_k hd.1 hd.2.1 (by omega)] at a2; omega
      · exact q
    rcases h with ⟨h8, h27, hv⟩ | ⟨h6, e, he, n7, n9, h27, hv⟩
    · rw [hv]
      rcases ct_c hc hd a1 a2 with ⟨q1, _, q3⟩ | ⟨m, q1, q2, q3, q4, _, q6, _⟩
      · rw [q1] at h8 ⊢
        rcases q3 with p | ⟨p1, p2, p3⟩
        · rcases h8 with u | u <;> omega
        · rw [p2]; exact rf_n hd a1 a2 p3
      · rw [q1] at h8 h27 ⊢
        have k25 := k_25 hc q2 (by omega) (by omega) (by omega)
        rcases q6 with p | p | p | p | p
        · have := (in_b hc hr hd q2 p (by omega))
          omega
        · rw [p] at k25
          have : wkF 6 = 6 := by decide
          rcases h8 with u | u <;> omega
        · rw [p] at k25
          have : wkF 7 = 7 := by decide
          rcases h8 with u | u <;> omega
        · rw [(hc.2.2.2.1 m q2).2.2.1 (Or.inr p)]; exact bn_n hd q2 p
        · rw [p] at k25
          have : wkF 9 = 9 := by decide
          rcases h8 with u | u <;> omega
    · rw [hv]
      obtain ⟨c1, c2, c3, c4, _⟩ := ct_6 hc hd a1 a2 h6
      obtain ⟨e1, e2, e3⟩ := it_m hc hd c1 c3 he
      have k25 := k_25 hc e1 (by omega) (by omega) (by omega)
      rcases e3 with p | p | p | p
      · have := (in_b hc hr hd e1 p (by omega))
        omega
      · rw [p] at k25
        have : wkF 7 = 7 := by decide
        omega
      · rw [(hc.2.2.2.1 e e1).2.2.1 (Or.inr p)]; exact bn_n hd e1 p
      · rw [p] at k25
        have : wkF 9 = 9 := by decide
        omega
/-- the bean within an element -/
theorem el_27 (hc : PBc D ws wg wl) (hr : PBr D rs rg lg) (hd : PBd D) (hx : x < D.length) (h : 0 ≤ (wg 27 x).toInt) (hin : ¬ dAb D x = 0) : elD D (wg 27 x).toInt.toNat = x := by
  have hk := (i27 hc hr hd hx h hin).1
  obtain ⟨b, hb⟩ := List.mem_iff_getElem?.mp ((bsN_m D.length x).mpr ⟨hx, hk⟩)
  obtain ⟨_, _, d3⟩ := hc.2.2.2.2.2.1.2.1 b x hb
  have e : (wg 27 x).toInt.toNat = b := by omega
  rw [e]
  unfold elD
  rw [hb]; rfl
theorem CS_of (hc : PBc D ws wg wl) (hr : PBr D rs rg lg) (hd : PBd D) : CS9 ws wg wl (ws 12).toNatClampNeg D.length (bs7 D) (ocL D D.length) (elD D) (ou9 D) (hl9D D) := by
  have h80 := hd.2.2.2.2.2.1
  refine ⟨h80, fun t ht => ?_, fun t u ht hu he => ?_, fun b hb v hv => nmo_n hc hr hd hb hv, fun t ht h4 => ?_, fun b hb a hA h8 h27 u hu h4 hou => ?_, fun b hb a hA h6 => ?_, fun b a b2 a2 hb hb2 hA hA2 h6 h62 hh => ?_⟩
  · obtain ⟨e1, e2, e3, e4, e5, e6⟩ := el_t hc hr hd ht
    refine ⟨e1, e2, fun h4 => ?_, ?_⟩
    · unfold bs7
      have : aH (dAt D (elD D t)) 26980 = 1 := by
        rcases aH_z1 (q := dAt D (elD D t)) (k := 26980) with w | w
        · rw [e5.1, nv_0 w] at h4; exact absurd rfl h4
        · exact w
      rw [if_pos e3, if_pos this]; exact Nat.le_refl _
    · unfold bs7
      rw [if_pos e3]
      split <;> omega
  · obtain ⟨_, _, _, e4, _⟩ := el_t hc hr hd ht
    obtain ⟨_, _, _, u4, _⟩ := el_t hc hr hd hu
    rw [he] at e4; omega
  · obtain ⟨o1, o2, o3, o4, o5⟩ := ou_t hc hr hd ht h4
    refine ⟨o1, o2, bs_h o3 o4, fun u hu he => ?_⟩
    obtain ⟨_, _, u3, _⟩ := el_t hc hr hd hu
    rw [← he] at u3; omega
  · obtain ⟨a1, a2⟩ := hd_k hc hr hd hb hA
    rcases ct_c hc hd a1 a2 with ⟨q1, _, _⟩ | ⟨m, q1, q2, q3, q4, q5, q6, q7⟩
    · rw [q1] at h27
      have := hc.2.2.2.2.2.1.2.2.1 a a1 (by omega)
      omega
    · rw [q1] at h27 hou ⊢
      have ha0 : 0 < a := by
        rcases Nat.eq_zero_or_pos a with q | q
        · rw [q, root_k hd.1 hd.2.1 (by omega)] at a2; omega
        · exact q
      have hm := el_27 hc hr hd q2 h27 (by omega)
      have e2 : ou9 D (wg 27 m).toInt.toNat = a := by unfold ou9; rw [hm, q4]; exact Int.toNat_natCast a
      rw [e2] at hou
      obtain ⟨o1, o2, o3, o4, o5⟩ := ou_t hc hr hd hu h4
      rw [hou] at o5
      obtain ⟨u1, u2, u3, u4, _⟩ := el_t hc hr hd hu
      have := q7 _ u2 o5
      rw [this] at u4; omega
  · obtain ⟨a1, a2⟩ := hd_k hc hr hd hb hA
    obtain ⟨c1, c2, c3, c4, c5, c6⟩ := ct_6 hc hd a1 a2 h6
    have ha0 : 0 < a := by
      rcases Nat.eq_zero_or_pos a with q | q
      · rw [q, root_k hd.1 hd.2.1 (by omega)] at a2; omega
      · exact q
    have hh : hl9D D (ctE wg a) = a := by unfold hl9D; rw [c4]; exact Int.toNat_natCast a
    rw [hh]
    refine ⟨fun e he n7 n9 h27 => ?_, ha0, a1, bs_h (by omega) c5, fun u hu he => ?_, fun u hu h4 he => ?_⟩
    · obtain ⟨e1, e2, e3⟩ := it_m hc hd c1 c3 he
      have hm := el_27 hc hr hd e1 h27 (by omega)
      unfold ou9
      rw [hm, e2]; exact Int.toNat_natCast _
    · obtain ⟨_, _, u3, _⟩ := el_t hc hr hd hu
      rw [← he] at u3; omega
    · obtain ⟨o1, o2, o3, o4, o5⟩ := ou_t hc hr hd hu h4
      rw [← he] at o5
      obtain ⟨u1, u2, u3, u4, _⟩ := el_t hc hr hd hu
      have := c6 _ u2 o5
      rw [this] at u3; omega
  · obtain ⟨a1, a3⟩ := hd_k hc hr hd hb hA
    obtain ⟨d1, d3⟩ := hd_k hc hr hd hb2 hA2
    obtain ⟨c1, c2, c3, c4, c5, c6⟩ := ct_6 hc hd a1 a3 h6
    obtain ⟨f1, f2, f3, f4, f5, f6⟩ := ct_6 hc hd d1 d3 h62
    have h1 : hl9D D (ctE wg a) = a := by unfold hl9D; rw [c4]; exact Int.toNat_natCast a
    have h2 : hl9D D (ctE wg a2) = a2 := by unfold hl9D; rw [f4]; exact Int.toNat_natCast a2
    rw [h1, h2] at hh
    rw [hh]
theorem SB_of (hc : PBc D ws wg wl) (hr : PBr D rs rg lg) (hd : PBd D) : SB9 ws wg wl := by
  intro b hb
  have hb2 := hb
  rw [nb_q hc hr hd] at hb2
  obtain ⟨_, _, _, _, _, _, s7, _, s9, s31, _⟩ := BNs_b hc hr hd hb2
  refine ⟨?_, fun h7 => ?_⟩
  · by_cases q : mTel rs rg lg (nI b) 427020088179 = -1
    · rw [s9.1 q]; omega
    · rcases s9.2 q with ⟨w, _⟩ | ⟨w1, w2⟩ <;> omega
  · have hm := (s7.mpr h7).2
    rw [← s31]
    unfold ltR
    rcases tl_c hc hr hd hb2 120282512125796 with ⟨t1, t2⟩ | ⟨c, y, t1, t2, t3, t4, t5, t6, t7, t8⟩
    · exact absurd t1 hm
    · have h0 := lv_r hd t3 t8 (by decide)
      obtain ⟨w1, w2, w3⟩ := lv_w (hd.2.2.2.1 y t3) h0
      rw [if_neg t7, t6, (hr.2.1 y t3).1.1, w32_l w1 h0 w2 (by decide) (by decide)]
      omega
theorem fst_at {q : Nat → Bool} : ∀ (n j : Nat), (∀ k, j ≤ k → k < j + n → q k = false) ∨ ∃ i, j ≤ i ∧ i < j + n ∧ fstB q n j = nI i ∧ q i = true
  | 0, j => Or.inl (fun k h1 h2 => by omega)
  | n + 1, j => by
    have e : fstB q (n + 1) j = if q j = true then nI j else fstB q n (j + 1) := rfl
    rw [e]
    cases w : q j with
    | true => exact Or.inr ⟨j, Nat.le_refl _, by omega, if_pos rfl, w⟩
    | false =>
      rw [if_neg (by decide)]
      rcases fst_at (q := q) n (j + 1) with p | ⟨i, i1, i2, i3, i4⟩
      · refine Or.inl (fun k h1 h2 => ?_)
        by_cases u : k = j
        · rw [u]; exact w
        · exact p k (by omega) (by omega)
      · exact Or.inr ⟨i, by omega, by omega, i3, i4⟩
/-- an id calls its own bean -/
theorem id_own (hc : PBc D ws wg wl) (hr : PBr D rs rg lg) (hd : PBd D) (hb : b < (ws 12).toNatClampNeg) (h : ¬ wl 4 b = 0) : caN ws wg wl (wl 4 b) = (b : Int) := by
  obtain ⟨e1, e2, e3, e4, e5, e6⟩ := el_t hc hr hd hb
  have h80 : b ≤ 1200 := by
    have := (nb_e hc hr hd).2.2
    have : (ws 12).toNatClampNeg = (ws 12).toInt.toNat := rfl
    have := (nb_e hc hr hd).1
    omega
  have hw : cWid ws wl (wl 4 b) = nI b := by
    unfold cWid
    rw [if_neg h]
    rcases fst_at (q := qCr wl (wl 4 b)) (ws 12).toNatClampNeg 0 with q | ⟨j, j1, j2, j3, j4⟩
    · have q9 := q b (Nat.zero_le _) (by omega)
      rw [show qCr wl (wl 4 b) b = true from decide_eq_true rfl] at q9; cases q9
    · rw [j3]
      have hj4 : wl 4 j = wl 4 b := of_decide_eq_true j4
      obtain ⟨f1, f2, f3, f4, f5, f6⟩ := el_t hc hr hd (t := j) (by omega)
      have nj : nmD D (elD D j) = wl 4 j := by unfold nmD; rw [if_neg (by omega), if_pos f3]; exact f5.1.symm
      have nbq : nmD D (elD D b) = wl 4 b := by unfold nmD; rw [if_neg (by omega), if_pos e3]; exact e5.1.symm
      rcases Nat.lt_trichotomy (elD D j) (elD D b) with w | w | w
      · exact absurd (by rw [nj, nbq, hj4]) ((hd.2.2.1 _ e2).1 (by rw [nbq]; exact h) _ w)
      · rw [w] at f4
        have : j = b := by omega
        rw [this]
      · exact absurd (by rw [nj, nbq, hj4]) ((hd.2.2.1 _ f2).1 (by rw [nj, hj4]; exact h) _ w)
  have e : caF ws wg wl 21 (wl 4 b) = if wl 4 b = 0 then -1 else if cWid ws wl (wl 4 b) = -1 then caF ws wg wl 20 (alN ws wg wl (wl 4 b)) else cWid ws wl (wl 4 b) := rfl
  unfold caN
  rw [e, if_neg h, hw, if_neg (nI_m h80), nI_toInt (by omega)]
theorem SV_of (hc : PBc D ws wg wl) (hr : PBr D rs rg lg) (hd : PBd D) : SV ws wg wl := by
  refine ⟨fun c hcl h6 => ?_, fun b hb => ⟨?_, id_own hc hr hd hb⟩⟩
  · have hl : c < D.length := by
      have : (ws 4).toNatClampNeg = (ws 4).toInt.toNat := rfl
      have := hc.1
      omega
    have k6 : dKd D c = 6 := by
      have hp := kd_pos hd hl
      by_cases w : dKd D c = 4 ∨ dKd D c = 5
      · rcases ct_c hc hd hl w with ⟨_, q2, q3⟩ | ⟨m, q1, q2, q3, q4, q5, _⟩
        · omega
        · rcases (hc.2.2.2.1 c hl).2.2.2.2.1 w with ⟨_, _, p⟩ | ⟨p, _⟩
          · have hk := KW_j (hc.2.2.1 c hl).1 hp
            rw [p] at h6
            rcases w with w | w
            · rw [w] at hk; have : wkF 4 = 3 := by decide
              omega
            · rw [w] at hk; have : wkF 5 = 4 := by decide
              omega
          · have hm : nI m ∈ kc9 D c := kdL_in D.length 0 m (Nat.zero_le _) (by omega) (decide_eq_true q4)
            have hk9 := ki_b hc hd hl
            have e : ki9 wg 80 (wg 16 c) = if (wg 16 c).toInt < 0 then [] else wg 16 c :: ki9 wg 79 (wg 17 (wg 16 c).toNatClampNeg) := rfl
            rw [e, if_pos p] at hk9
            rw [← hk9] at hm; cases hm
      · have k25 := k_25 hc hl (by omega) (by omega) hp
        rw [h6] at k25
        unfold wkF at k25
        have hS := (hd.2.1 c hl).1
        unfold STN at hS
        repeat (split at k25 <;> first | omega | skip)
    have hc0 : 0 < c := by
      rcases Nat.eq_zero_or_pos c with q | q
      · rw [q, root_k hd.1 hd.2.1 (by omega)] at k6; omega
      · exact q
    exact (LS_c hc hr hd hl k6 hc0).2.2.1.symm
  · rw [nb_q hc hr hd] at hb
    obtain ⟨a1, a2, _⟩ := BNa_b hc hr hd hb
    have : (wg 41 (3 * b)).toNatClampNeg = (wg 41 (3 * b)).toInt.toNat := rfl
    omega
end CT8
end
section
section DQ9
variable {D : List El7} {ws rs : Nat → Int32} {wg rg : Nat → Nat → Int32} {wl lg : Nat → Nat → Int64} {F : Nat → Bool} {n : Nat}
/-- the text is long enough for its elements -/
def TLN (D : List El7) : Prop := sB (bs7 D) D.length + 12 * (ocL D D.length).length ≤ 1200
theorem ws_iv (hc : PBc D ws wg wl) (hr : PBr D rs rg lg) (hd : PBd D) : iv 0 80 (ws 12) := by
  obtain ⟨h1, h2⟩ := nb_e hc hr hd
  have h3 := h2.1
  have h4 := h2.2
  exact ⟨by omega, by omega⟩
theorem get_e (hc : PBc D ws wg wl) (hr : PBr D rs rg lg) (hd : PBd D) (hT : TLN D) (v : Int64) (S : S9) : oGet wg (oMK ws wg wl 40) (caN ws wg wl v) S = oGet wg (oMK ws wg wl 81) (caN ws wg wl v) S :=
  DEP_g (ws_iv hc hr hd) rfl (IN_of hc hr hd) (fun L hL hx => CH_40 (CS_of hc hr hd) (IN_of hc hr hd) hT L hL hx) v S
theorem zGt_e (hc : PBc D ws wg wl) (hr : PBr D rs rg lg) (hd : PBd D) (hT : TLN D) (v : Int64) (S : S9) : zGt ws wg wl 40 v S = zGt ws wg wl 81 v S := by
  unfold zGt; rw [get_e hc hr hd hT]
theorem rfL_q (hc : PBc D ws wg wl) (hr : PBr D rs rg lg) (hd : PBd D) (hT : TLN D) : ∀ (k b : Nat) (S : S9), b + k ≤ (ws 12).toNatClampNeg → rfL ws wg wl 40 k b S = rfL ws wg wl 81 k b S
  | 0, _, _, _ => rfl
  | k + 1, b, S, h => by
    have ih := fun S => rfL_q hc hr hd hT k (b + 1) S (by omega)
    show (if ¬ wl 4 b = 0 ∧ wg 34 b = 0 ∧ wg 35 b = 0 ∧ wg 36 b = 0 then bd9 (oGet wg (oMK ws wg wl 40) (b : Int) S) (fun _ S => rfL ws wg wl 40 k (b + 1) S) else rfL ws wg wl 40 k (b + 1) S) = (if ¬ wl 4 b = 0 ∧ wg 34 b = 0 ∧ wg 35 b = 0 ∧ wg 36 b = 0 then bd9 (oGet wg (oMK ws wg wl 81) (b : Int) S) (fun _ S => rfL ws wg wl 81 k (b + 1) S) else rfL ws wg wl 81 k (b + 1) S)
    by_cases q : ¬ wl 4 b = 0 ∧ wg 34 b = 0 ∧ wg 35 b = 0 ∧ wg 36 b = 0
    · rw [if_pos q, if_pos q, ← id_own hc hr hd (by omega) q.1, get_e hc hr hd hT]
      congr 1
      funext a S2
      exact ih S2
    · rw [if_neg q, if_neg q]; exact ih S
theorem zRf_e (hc : PBc D ws wg wl) (hr : PBr D rs rg lg) (hd : PBd D) (hT : TLN D) (S : S9) : zRf ws wg wl 40 S = zRf ws wg wl 81 S := by
  unfold zRf; rw [rfL_q hc hr hd hT _ 0 _ (by omega)]
end DQ9
end
section
section PT9
variable {ch : Nat → Int} {D : List El7} {sg sg2 sm : Nat → Int32} {gm gm2 gn wg wg2 : Nat → Nat → Int32} {lg lg2 ln : Nat → Nat → Int64} {ws ws2 : Nat → Int32} {wl wl2 : Nat → Nat → Int64}
/-- the class's rows that the document is in -/
def UG9 (k : Nat) : Prop := k = 11 ∨ k = 14 ∨ k = 15 ∨ k = 16 ∨ k = 17 ∨ k = 18 ∨ k = 21 ∨ k = 22 ∨ k = 23 ∨ k = 24 ∨ k = 25 ∨ k = 26 ∨ k = 27 ∨ k = 28 ∨ k = 29 ∨ k = 30 ∨ k = 31 ∨ k = 32 ∨ k = 33 ∨ k = 34 ∨ k = 35 ∨ k = 36 ∨ k = 41 ∨ k = 56 ∨ k = 57
theorem PBc_e (h : PBc D ws wg wl) (s4 : ws2 4 = ws 4) (s12 : ws2 12 = ws 12) (hg : ∀ k, UG9 k → wg2 k = wg k) (hl : ∀ k, k = 1 ∨ k = 2 ∨ k = 3 ∨ k = 4 ∨ k = 5 ∨ k = 6 ∨ k = 7 → wl2 k = wl k) : PBc D ws2 wg2 wl2 := by
  obtain ⟨h1, h2, h3, h4, h5, h6, h7, h8, h9⟩ := h
  have g := fun k (q : UG9 k) => hg k q
  refine ⟨by rw [s4]; exact h1, ?_, fun e he => by rw [hg 14 (by unfold UG9; decide), hg 15 (by unfold UG9; decide)]; exact h3 e he, fun e he => SE_e (h4 e he) (hg 11 (by unfold UG9; decide)) (hg 14 (by unfold UG9; decide)) (hg 16 (by unfold UG9; decide)) (hg 21 (by unfold UG9; decide)) (hg 22 (by unfold UG9; decide)) (hg 23 (by unfold UG9; decide)) (hg 24 (by unfold UG9; decide)) (hg 25 (by unfold UG9; decide)) (hg 26 (by unfold UG9; decide)) (hg 56 (by unfold UG9; decide)) (hl 2 (by decide)) (hl 3 (by decide)), BHt_e h5 (hg 34 (by unfold UG9; decide)) (hg 35 (by unfold UG9; decide)) (hg 36 (by unfold UG9; decide)) (hg 29 (by unfold UG9; decide)) (hl 4 (by decide)) (hl 5 (by decide)) (hl 6 (by decide)), BC_e h6 s12 (hg 27 (by unfold UG9; decide)) (hl 1 (by decide)) (hl 4 (by decide)) (hl 5 (by decide)), fun c hc => ?_, fun b hb => by rw [hg 28 (by unfold UG9; decide)]; exact h8 b hb, fun q hq => by rw [hg 41 (by unfold UG9; decide)]; exact h9 q hq⟩
  · unfold LKS; rw [hg 15 (by unfold UG9; decide), hg 16 (by unfold UG9; decide), hg 17 (by unfold UG9; decide), hg 18 (by unfold UG9; decide)]; exact h2
  · rw [s12] at hc
    rw [MB_e (gm := wg) (lg := wl) (hg 41 (by unfold UG9; decide)) (hg 57 (by unfold UG9; decide)) (hl 7 (by decide)) (hg 30 (by unfold UG9; decide)) (hg 31 (by unfold UG9; decide)) (hg 32 (by unfold UG9; decide)) (hg 33 (by unfold UG9; decide)), h7 c hc, cnk_e (sg := ws) (lg := wl) s12 (hl 4 (by decide)) (hl 5 (by decide)), mgF_e (gm := wg) (hg 14 (by unfold UG9; decide)) (hg 16 (by unfold UG9; decide)) (hg 17 (by unfold UG9; decide)) (hg 22 (by unfold UG9; decide)) (hg 29 (by unfold UG9; decide))]
theorem st_g (k : Nat) (h : UG9 k) : st9 gm k = gm k := by
  unfold UG9 at h
  unfold st9
  rw [if_neg]
  intro q
  have : k ∈ dyn9 := List.contains_iff_mem.mp q
  unfold dyn9 at this
  simp only [List.mem_cons, List.not_mem_nil, or_false] at this
  omega
theorem PBc_of (hC : CLD D sg gm lg) (h28 : ∀ b, b < 80 → (gm 28 b).toInt = (b : Int)) (h41 : ∀ q, q < 240 → 0 ≤ (gm 41 q).toInt) : PBc D (ss9 sg) (st9 gm) lg := by
  obtain ⟨⟨a1, a2, a3⟩, b1, b2, b3, b4⟩ := hC
  have e : (sg 4).toNatClampNeg = D.length := by show (sg 4).toInt.toNat = _; omega
  rw [e] at a2
  exact PBc_e (ws := sg) (wg := gm) (wl := lg) ⟨a1, a2, fun x hx => ⟨(a3 x hx).1, (a3 x hx).2.2⟩, b1, b2, b3, b4, h28, h41⟩ rfl rfl (fun k hk => st_g k hk) (fun _ _ => rfl)
/-- the reference's -/
theorem PBr_of (hR : RFD ch D sm gn ln) (h80 : D.length ≤ 80) (hA : ACY sm gn ln) (hW : WRD7 (ln 0) (ln 1)) (h44 : ∀ b, b < 80 → iv 0 26 (gn 44 b) ∧ iv 0 26 (gn 46 b)) : PBr D (rs9 sm) (rt9 gn) ln := by
  obtain ⟨⟨a1, a2, a3, a4⟩, b⟩ := hR
  have hd : DK sm gn ln (rs9 sm) (rt9 gn) ln := DK_r rfl rfl
  refine ⟨a2.1, fun x hx => ?_, fun k hk => a3 k hk, a4, fun c hc => MM_k (b c hc) hd rfl rfl rfl rfl, ?_, hW, h44⟩
  · have hw := a2.2 x _ (dEl_g hx)
    obtain ⟨_, _, _, w4, w5, _, _, _, w9⟩ := hw
    refine ⟨?_, ⟨_, w4⟩, w5, w9⟩
    obtain ⟨r1, r2, r3, r4, r5, r6, r7, r8⟩ := RL_of a2 a1 h80 hx
    exact ⟨r1, r2, r3, r4, r5, r6, r7, r8⟩
  · intro b h0 h1
    rw [mPar_k hd]
    exact hA b h0 h1
theorem PBd_of {n : Nat} (hp : PC7 ch) (hx : XX7 ch n) (hs : ACQ ch n) (h0 : 0 < (dD ch n).length) : PBd (dD ch n) := by
  obtain ⟨s1, s2, s3⟩ := hs
  obtain ⟨x1, x2⟩ := hx _ s1
  exact ⟨RT_of x1 h0, s2, s3, fun x hx => sDoc_pv hp s1 _ (List.mem_of_getElem? (dEl_g hx)), sDoc_pt hp s1, x2, h0⟩
theorem TLN_of {n : Nat} (hn : ∀ i, n ≤ i → ch i = -1) (h12 : n ≤ 1200) (hs : sDoc ch n = some D) (hd : PBd D) : TLN D := by
  obtain ⟨F, f1, f2⟩ := sDoc_len hn hs
  exact Nat.le_trans (co_all hd f1 f2) h12
theorem sSt_ge {n : Nat} {D D2 : List El7} {cur c2 : Int} {depth d2 a b : Nat} (h : sSt ch n D cur depth a = some (D2, c2, d2, b)) : D.length ≤ D2.length := by
  unfold sSt at h
  split at h
  · split at h
    · cases hc : sCom ch n a with
      | none => rw [hc] at h; cases h
      | some e => rw [hc] at h; cases h; exact Nat.le_refl _
    · split at h
      · cases hw : D[cur.toNat]? with
        | none => rw [hw] at h; cases h
        | some w =>
          rw [hw] at h
          have h : (match sEd ch n w.1 a with | none => none | some b => some (D, w.2.1, depth - 1, b)) = some (D2, c2, d2, b) := h
          cases hc : sEd ch n w.1 a with
          | none => rw [hc] at h; cases h
          | some e => rw [hc] at h; cases h; exact Nat.le_refl _
      · cases hc : sOp ch n D.length depth a with
        | none => rw [hc] at h; cases h
        | some w => obtain ⟨k, q, c, e⟩ := w; rw [hc] at h; cases h; rw [List.length_append]; omega
  · cases hc : sCh ch a with
    | none => rw [hc] at h; cases h
    | some r =>
      obtain ⟨x, e⟩ := r
      rw [hc] at h
      cases hw : D[cur.toNat]? with
      | none => rw [hw] at h; cases h
      | some w =>
        rw [hw] at h
        have h : (match sTx w.2.2.2.2.1 w.2.2.2.2.2 x with | none => none | some (ts, te) => some (D.set cur.toNat (w.1, w.2.1, w.2.2.1, w.2.2.2.1, ts, te), cur, depth, e + 1)) = some (D2, c2, d2, b) := h
        cases ht : sTx w.2.2.2.2.1 w.2.2.2.2.2 x with
        | none => rw [ht] at h; cases h
        | some t => obtain ⟨ts, te⟩ := t; rw [ht] at h; cases h; rw [List.length_set]; exact Nat.le_refl _
theorem doF_ge {n : Nat} : ∀ f D cur depth a r, doF ch n f D cur depth a = some r → D.length ≤ r.1.length := by
  intro f
  induction f with
  | zero =>
    intro D cur depth a r h
    have h : (if depth = 0 then some (D, a) else none) = some r := h
    split at h
    · cases h; exact Nat.le_refl _
    · cases h
  | succ f ih =>
    intro D cur depth a r h
    have h : (if depth = 0 then some (D, a) else match sSt ch n D cur depth a with | none => none | some (D2, c2, d2, b) => doF ch n f D2 c2 d2 b) = some r := h
    split at h
    · cases h; exact Nat.le_refl _
    · cases hc : sSt ch n D cur depth a with
      | none => rw [hc] at h; cases h
      | some w =>
        obtain ⟨D2, c2, d2, b⟩ := w
        rw [hc] at h
        exact Nat.le_trans (sSt_ge hc) (ih _ _ _ _ _ h)
theorem sDoc_0 {n : Nat} (h : sDoc ch n = some D) : 0 < D.length := by
  unfold sDoc at h
  cases h1 : sBet ch n 0 with
  | none => rw [h1] at h; cases h
  | some a =>
    rw [h1] at h
    dsimp only at h
    cases h2 : sOp ch n 0 0 a with
    | none => rw [h2] at h; cases h
    | some w =>
      obtain ⟨k, q, c, b⟩ := w
      rw [h2] at h
      dsimp only at h
      cases h3 : sDo ch n [(a, -1, k, q, 0, [])] (if c = true then -1 else 0) (if c = true then 0 else 1) b with
      | none => rw [h3] at h; cases h
      | some w2 =>
        obtain ⟨D2, e⟩ := w2
        rw [h3] at h
        dsimp only at h
        cases h4 : sBet ch n e with
        | none => rw [h4] at h; cases h
        | some e2 =>
          rw [h4] at h
          dsimp only at h
          split at h
          · cases h
            have := doF_ge _ _ _ _ _ _ h3
            exact this
          · cases h
end PT9
end
section
set_option maxHeartbeats 4000000 in
set_option maxRecDepth 100000 in
theorem d_describe9 (l : Launch) (dC : Nat → ClassId) (dI : Nat → Nat → Nat) (ad : Nat → Nat → Nat) (cid : Nat → ClassId) (a2 : Nat → Nat) (lx : List Nat) (sg : Nat → Int32) (gm : Nat → Nat → Int32) (lg : Nat → Nat → Int64) (x : Int32) (a : Int32) (b : Int32) (f : Int32) (hI : CI sg gm) (hvx : iv 0 63 x) (hva : iv (-1) 25 a) (hvb : iv 0 1 b) (hvf : iv 0 7 f) : CMt dC dI ad cid a2 lx l yX8_describe wm_X8_describe ({ frames := 0, cells := 1, slots := 6, locals := 0 }) [eV (ad 8) x, .int a, .int b, .int f] sg gm lg (fun v u => v = none ∧ ∃ (sg2 : Nat → Int32) (gm2 : Nat → Nat → Int32) (lg2 : Nat → Nat → Int64), u = (sg2, gm2, lg2) ∧ CI sg2 gm2 ∧ KS [] sg sg2 ∧ KS [8, 9, 10] gm gm2 ∧ KS [] lg lg2 ∧ (gm2 8 = upd (gm 8) x.toNatClampNeg a) ∧ (gm2 9 = upd (gm 9) x.toNatClampNeg b) ∧ (gm2 10 = upd (gm 10) x.toNatClampNeg f)) (fun _ _ => False) := by
  intro sz
  refine vx_ofW (cc := cX8_describe) (maxL := 4) (ret := none) (by decide) rfl ?_
  intro p e s m args below meth c s₁ B hml hxt hv
  obtain ⟨rfl, hsz, hP, hK, hD0, hG⟩ := hv
  have hx := B.exec
  have hb := B.bytes
  have hr := B.returns
  have hts := atoms_spec (ws := wm_X8_describe) B.pre
  have htb := fun (w : Cond) (h : w ∈ tb) => hts w (List.mem_cons_of_mem _ h)
  have hown : s.vm.findClass RX8 = some m.cls := findClass_of_methodNamed B.named
  have hlocks := B.notSynchronized
  subst hsz
  have hD := hD0.self (sz := s.heap.size)
  generalize hAe : va_A (cW ad cid a2 lx sg gm lg) s.heap.size = A at hD hG ⊢
  have hA : ∀ q : Nat, s.heap.size ≤ q → A q := fun q h => by rw [← hAe]; exact Or.inr h
  have hS : va_S A s.heap s.heap [] := va_S.rf
  have hl := lv_entry ([eV (ad 8) x, .int a, .int b, .int f]) (n := 4) (by rw [show (lg_sl ([eV (ad 8) x, .int a, .int b, .int f])).length = 4 from by simp [lg_sl, eV_cat, cat_i, cat_l]]; exact Nat.le_of_ble_eq_true rfl)
  rw [lg_entry_eq]
  generalize (lg_sl ([eV (ad 8) x, .int a, .int b, .int f]) ++ List.replicate (4 - (lg_sl ([eV (ad 8) x, .int a, .int b, .int f])).length) Slot.unset).toArray = ls at hl ⊢
  have hl : lv_has ls 4 [(0, eV (ad 8) x), (1, .int a), (2, .int b), (3, .int f)] := by simp [lv_args, eV_cat, cat_i, cat_l] at hl; exact hl
  refine ec_aload_n hx hb dX8_describe_0 rfl (lv_at hl 0 rfl) ?_
  refine lv_iload_n hx hb dX8_describe_1 rfl (lv_at hl 1 rfl) ?_
  refine cr_putg (t := 8) (j := 4) (C := RX8) (T := TX8) (N := 7) (ty0 := tyX8) (k := 8) (y := a) hx hb htb inX8 tyX8_ok nmX8 hown hK hP hD hS hvx (by decide) (by decide) (by decide) (by decide) rfl rfl (by decide) (htb _ kw_255) rfl (by show Value.int a = Value.int (va_up gm 8 (upd (gm 8) x.toNatClampNeg a) 8 x.toNatClampNeg); rw [va_up_self, upd_at]) rfl rfl dX8_describe_2 (fun gm_1 H locs egm_1 hP hD hS => ?_)
  have hI_gm_1 := CI_st hI egm_1 hva (by decide)
  refine ec_aload_n hx hb dX8_describe_5 rfl (lv_at hl 0 rfl) ?_
  refine lv_iload_n hx hb dX8_describe_6 rfl (lv_at hl 2 rfl) ?_
  refine cr_putg (t := 8) (j := 5) (C := RX8) (T := TX8) (N := 7) (ty0 := tyX8) (k := 9) (y := b) hx hb htb inX8 tyX8_ok nmX8 hown hK hP hD hS hvx (by decide) (by decide) (by decide) (by decide) rfl rfl (by decide) (htb _ kw_256) rfl (by show Value.int b = Value.int (va_up gm_1 9 (upd (gm_1 9) x.toNatClampNeg b) 9 x.toNatClampNeg); rw [va_up_self, upd_at]) (iv_nb hvb) (iv_fb hvb) dX8_describe_7 (fun gm_2 H locs egm_2 hP hD hS => ?_)
  have hI_gm_2 := CI_st hI_gm_1 egm_2 hvb (by decide)
  refine ec_aload_n hx hb dX8_describe_10 rfl (lv_at hl 0 rfl) ?_
  refine lv_iload_n hx hb dX8_describe_11 rfl (lv_at hl 3 rfl) ?_
  refine cr_putg (t := 8) (j := 6) (C := RX8) (T := TX8) (N := 7) (ty0 := tyX8) (k := 10) (y := f) hx hb htb inX8 tyX8_ok nmX8 hown hK hP hD hS hvx (by decide) (by decide) (by decide) (by decide) rfl rfl (by decide) (htb _ kw_257) rfl (by show Value.int f = Value.int (va_up gm_2 10 (upd (gm_2 10) x.toNatClampNeg f) 10 x.toNatClampNeg); rw [va_up_self, upd_at]) rfl rfl dX8_describe_12 (fun gm_3 H locs egm_3 hP hD hS => ?_)
  have hI_gm_3 := CI_st hI_gm_2 egm_3 hvf (by decide)
  exact W.nb (fun hN => W.widen (k := 1) (n := 6) (by decide) (by decide) (vx_ret (W.vret hx hb hr (fun t ht hW => ⟨⟨none, (sg, gm_3, lg), rfl, ⟨rfl, sg, gm_3, lg, rfl, hI_gm_3, KS_rf, (KS_up (KS_up (KS_up KS_rf egm_1 (by decide)) egm_2 (by decide)) egm_3 (by decide)), KS_rf, ((show gm_3 8 = upd (gm 8) (x : Int32).toNatClampNeg a from ((up_ne egm_3 (by decide)).trans ((up_ne egm_2 (by decide)).trans ((up_at egm_1).trans (by rw [show gm 8 = gm 8 from rfl])))))), ((show gm_3 9 = upd (gm 9) (x : Int32).toNatClampNeg b from ((up_ne egm_3 (by decide)).trans ((up_at egm_2).trans (by rw [show gm_1 9 = gm 9 from ((up_ne egm_1 (by decide)).trans rfl)]))))), ((show gm_3 10 = upd (gm 10) (x : Int32).toNatClampNeg f from ((up_at egm_3).trans (by rw [show gm_2 10 = gm 10 from ((up_ne egm_2 (by decide)).trans ((up_ne egm_1 (by decide)).trans rfl))]))))⟩, by rw [ht]; exact hP, va_K.moved hW.alike hK, hD⟩, hS.F ht, by rw [ht]; exact hN⟩) hS.2.2 dX8_describe_15)))

set_option maxHeartbeats 4000000 in
set_option maxRecDepth 100000 in
theorem d_setTypes9 (l : Launch) (dC : Nat → ClassId) (dI : Nat → Nat → Nat) (ad : Nat → Nat → Nat) (cid : Nat → ClassId) (a2 : Nat → Nat) (lx : List Nat) (sg : Nat → Int32) (gm : Nat → Nat → Int32) (lg : Nat → Nat → Int64) (x : Int32) (a : Int32) (b : Int32) (f : Int32) (g : Int32) (hI : CI sg gm) (hvx : iv 0 63 x) (hva : iv 0 3 a) : CMt dC dI ad cid a2 lx l yX8_setTypes wm_X8_setTypes ({ frames := 0, cells := 1, slots := 6, locals := 0 }) [eV (ad 8) x, .int a, .int b, .int f, .int g] sg gm lg (fun v u => v = none ∧ ∃ (sg2 : Nat → Int32) (gm2 : Nat → Nat → Int32) (lg2 : Nat → Nat → Int64), u = (sg2, gm2, lg2) ∧ CI sg2 gm2 ∧ KS [] sg sg2 ∧ KS [7, 54] gm gm2 ∧ KS [] lg lg2 ∧ (gm2 7 = upd (gm 7) x.toNatClampNeg a) ∧ (gm2 54 = upd (upd (upd (gm 54) (3 * x.toNatClampNeg) b) (3 * x.toNatClampNeg + 1) f) (3 * x.toNatClampNeg + 2) g)) (fun _ _ => False) := by
  intro sz
  refine vx_ofW (cc := cX8_setTypes) (maxL := 5) (ret := none) (by decide) rfl ?_
  intro p e s m args below meth c s₁ B hml hxt hv
  obtain ⟨rfl, hsz, hP, hK, hD0, hG⟩ := hv
  have hx := B.exec
  have hb := B.bytes
  have hr := B.returns
  have hts := atoms_spec (ws := wm_X8_setTypes) B.pre
  have htb := fun (w : Cond) (h : w ∈ tb) => hts w (List.mem_cons_of_mem _ h)
  have hown : s.vm.findClass RX8 = some m.cls := findClass_of_methodNamed B.named
  have hlocks := B.notSynchronized
  subst hsz
  have hD := hD0.self (sz := s.heap.size)
  generalize hAe : va_A (cW ad cid a2 lx sg gm lg) s.heap.size = A at hD hG ⊢
  have hA : ∀ q : Nat, s.heap.size ≤ q → A q := fun q h => by rw [← hAe]; exact Or.inr h
  have hS : va_S A s.heap s.heap [] := va_S.rf
  have hl := lv_entry ([eV (ad 8) x, .int a, .int b, .int f, .int g]) (n := 5) (by rw [show (lg_sl ([eV (ad 8) x, .int a, .int b, .int f, .int g])).length = 5 from by simp [lg_sl, eV_cat, cat_i, cat_l]]; exact Nat.le_of_ble_eq_true rfl)
  rw [lg_entry_eq]
  generalize (lg_sl ([eV (ad 8) x, .int a, .int b, .int f, .int g]) ++ List.replicate (5 - (lg_sl ([eV (ad 8) x, .int a, .int b, .int f, .int g])).length) Slot.unset).toArray = ls at hl ⊢
  have hl : lv_has ls 5 [(0, eV (ad 8) x), (1, .int a), (2, .int b), (3, .int f), (4, .int g)] := by simp [lv_args, eV_cat, cat_i, cat_l] at hl; exact hl
  refine ec_aload_n hx hb dX8_setTypes_0 rfl (lv_at hl 0 rfl) ?_
  refine lv_iload_n hx hb dX8_setTypes_1 rfl (lv_at hl 1 rfl) ?_
  refine cr_putg (t := 8) (j := 3) (C := RX8) (T := TX8) (N := 7) (ty0 := tyX8) (k := 7) (y := a) hx hb htb inX8 tyX8_ok nmX8 hown hK hP hD hS hvx (by decide) (by decide) (by decide) (by decide) rfl rfl (by decide) (htb _ kw_261) rfl (by show Value.int a = Value.int (va_up gm 7 (upd (gm 7) x.toNatClampNeg a) 7 x.toNatClampNeg); rw [va_up_self, upd_at]) rfl rfl dX8_setTypes_2 (fun gm_1 H locs egm_1 hP hD hS => ?_)
  have hI_gm_1 := CI_st hI egm_1 hva (by decide)
  refine ec_aload_n hx hb dX8_setTypes_5 rfl (lv_at hl 0 rfl) ?_
  refine cr_get (t := 8) (j := 2) (C := RX8) (T := TX8) (N := 7) (v := eV (ad 27) x) hx hb htb inX8 hown hK hP hvx (by decide) (by decide) (by decide) rfl (by decide) (htb _ kw_59) (cV_c rfl (hvx).1 (by rw [show cMu 8 2 = 1 from rfl, Nat.one_mul]; rfl)) dX8_setTypes_6 ?_
  refine lv_iconst (v := 0) hx hb dX8_setTypes_9 (by decide) ?_
  refine lv_iload_n hx hb dX8_setTypes_10 rfl (lv_at hl 2 rfl) ?_
  refine cr_iast (t := 27) (k := 54) (n9 := (3 * x.toNatClampNeg + (0 : Int32).toNatClampNeg)) (z := b) hx hb hK hP hD hS hvx (by decide) (by decide) (by decide) rfl rfl rfl (show vp_in 0 (cLen 27) from (show vp_in 0 3 from (iv_in (iv_k (by decide) : iv 0 0 0) (by decide)))) (Or.inr (vin_lt (show vp_in 0 (cLen 27) from (show vp_in 0 3 from (iv_in (iv_k (by decide) : iv 0 0 0) (by decide)))))) rfl dX8_setTypes_11 (fun gm_2 H locs egm_2 hP hD hS => ?_)
  have hI_gm_2 := CI_st hI_gm_1 egm_2 (iv_all b) (by decide)
  refine ec_aload_n hx hb dX8_setTypes_12 rfl (lv_at hl 0 rfl) ?_
  refine cr_get (t := 8) (j := 2) (C := RX8) (T := TX8) (N := 7) (v := eV (ad 27) x) hx hb htb inX8 hown hK hP hvx (by decide) (by decide) (by decide) rfl (by decide) (htb _ kw_59) (cV_c rfl (hvx).1 (by rw [show cMu 8 2 = 1 from rfl, Nat.one_mul]; rfl)) dX8_setTypes_13 ?_
  refine lv_iconst (v := 1) hx hb dX8_setTypes_16 (by decide) ?_
  refine lv_iload_n hx hb dX8_setTypes_17 rfl (lv_at hl 3 rfl) ?_
  refine cr_iast (t := 27) (k := 54) (n9 := (3 * x.toNatClampNeg + (1 : Int32).toNatClampNeg)) (z := f) hx hb hK hP hD hS hvx (by decide) (by decide) (by decide) rfl rfl rfl (show vp_in 1 (cLen 27) from (show vp_in 1 3 from (iv_in (iv_k (by decide) : iv 1 1 1) (by decide)))) (Or.inr (vin_lt (show vp_in 1 (cLen 27) from (show vp_in 1 3 from (iv_in (iv_k (by decide) : iv 1 1 1) (by decide)))))) rfl dX8_setTypes_18 (fun gm_3 H locs egm_3 hP hD hS => ?_)
  have hI_gm_3 := CI_st hI_gm_2 egm_3 (iv_all f) (by decide)
  refine ec_aload_n hx hb dX8_setTypes_19 rfl (lv_at hl 0 rfl) ?_
  refine cr_get (t := 8) (j := 2) (C := RX8) (T := TX8) (N := 7) (v := eV (ad 27) x) hx hb htb inX8 hown hK hP hvx (by decide) (by decide) (by decide) rfl (by decide) (htb _ kw_59) (cV_c rfl (hvx).1 (by rw [show cMu 8 2 = 1 from rfl, Nat.one_mul]; rfl)) dX8_setTypes_20 ?_
  refine lv_iconst (v := 2) hx hb dX8_setTypes_23 (by decide) ?_
  refine lv_iload hx hb dX8_setTypes_24 (lv_at hl 4 rfl) ?_
  refine cr_iast (t := 27) (k := 54) (n9 := (3 * x.toNatClampNeg + (2 : Int32).toNatClampNeg)) (z := g) hx hb hK hP hD hS hvx (by decide) (by decide) (by decide) rfl rfl rfl (show vp_in 2 (cLen 27) from (show vp_in 2 3 from (iv_in (iv_k (by decide) : iv 2 2 2) (by decide)))) (Or.inr (vin_lt (show vp_in 2 (cLen 27) from (show vp_in 2 3 from (iv_in (iv_k (by decide) : iv 2 2 2) (by decide)))))) rfl dX8_setTypes_26 (fun gm_4 H locs egm_4 hP hD hS => ?_)
  have hI_gm_4 := CI_st hI_gm_3 egm_4 (iv_all g) (by decide)
  exact W.nb (fun hN => W.widen (k := 1) (n := 6) (by decide) (by decide) (vx_ret (W.vret hx hb hr (fun t ht hW => ⟨⟨none, (sg, gm_4, lg), rfl, ⟨rfl, sg, gm_4, lg, rfl, hI_gm_4, KS_rf, (KS_up (KS_up (KS_up (KS_up KS_rf egm_1 (by decide)) egm_2 (by decide)) egm_3 (by decide)) egm_4 (by decide)), KS_rf, ((show gm_4 7 = upd (gm 7) (x : Int32).toNatClampNeg a from ((up_ne egm_4 (by decide)).trans ((up_ne egm_3 (by decide)).trans ((up_ne egm_2 (by decide)).trans ((up_at egm_1).trans (by rw [show gm 7 = gm 7 from rfl]))))))), (((up_at egm_4).trans (by rw [up_at egm_3, up_at egm_2, show gm_1 54 = gm 54 from ((up_ne egm_1 (by decide)).trans rfl)]; rfl)))⟩, by rw [ht]; exact hP, va_K.moved hW.alike hK, hD⟩, hS.F ht, by rw [ht]; exact hN⟩) hS.2.2 dX8_setTypes_27)))
end
