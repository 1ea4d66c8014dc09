/-- characters as they may stand in values -/
def PV7 (v : List Int) : Prop := ∀ c, c ∈ v → 1 ≤ c ∧ c ≤ 126
def PA7 (q : At7) : Prop := ∀ y, y ∈ q → PV7 y.2
def PD7 (D : List El7) : Prop := ∀ w, w ∈ D → PA7 w.2.2.2.1
def PC7 (ch : Nat → Int) : Prop := ∀ i, ch i = -1 ∨ (1 ≤ ch i ∧ ch i ≤ 126)
theorem sCh_pv {ch : Nat → Int} {a b : Nat} {x : Int} (hc : PC7 ch) (h : sCh ch a = some (x, b)) : 1 ≤ x ∧ x ≤ 126 := by
  unfold sCh at h
  split at h
  · cases h
  · split at h
    · have := (sEn_le h).2
      constructor
      · have := this.1; dsimp only at this; omega
      · exact this.2
    · cases h
      have := hc a
      omega
theorem PV7_s {v : List Int} {x : Int} (h : PV7 v) (hx : 1 ≤ x ∧ x ≤ 126) : PV7 (v ++ [x]) := by
  intro c hc
  rcases List.mem_append.mp hc with q | q
  · exact h c q
  · rw [List.mem_singleton.mp q]; exact hx
theorem vaF_pv {ch : Nat → Int} (hc : PC7 ch) : ∀ f v a r, PV7 v → vaF ch f v a = some r → PV7 r.1 := by
  intro f
  induction f with
  | zero => intro v a r _ h; cases h
  | succ f ih =>
    intro v a r hv h
    have h : (if ch a = 34 then some (v, a + 1) else if ch a = 60 then none else match sCh ch a with | none => none | some (x, b) => if v.length = 24 then none else vaF ch f (v ++ [x]) (b + 1)) = some r := h
    split at h
    · cases h; exact hv
    · split at h
      · cases h
      · cases hq : sCh ch a with
        | none => rw [hq] at h; cases h
        | some q =>
          obtain ⟨x, b⟩ := q
          rw [hq] at h
          have h : (if v.length = 24 then none else vaF ch f (v ++ [x]) (b + 1)) = some r := h
          split at h
          · cases h
          · exact ih _ _ _ (PV7_s hv (sCh_pv hc hq)) h
theorem PV7_0 : PV7 [] := fun c hc => by cases hc
theorem PA7_0 : PA7 [] := fun c hc => by cases hc
theorem PA7_s {q : At7} {k : Int64} {v : List Int} (h : PA7 q) (hv : PV7 v) : PA7 (q ++ [(k, v)]) := by
  intro y hy
  rcases List.mem_append.mp hy with w | w
  · exact h y w
  · rw [List.mem_singleton.mp w]; exact hv
theorem sAt_pv {ch : Nat → Int} {n a : Nat} {q : At7} {r : At7 × Nat} (hc : PC7 ch) (hq : PA7 q) (h : sAt ch n q a = some r) : PA7 r.1 := by
  unfold sAt at h
  split at h
  · cases h
  · cases h1 : sNm ch a with
    | none => rw [h1] at h; cases h
    | some w =>
      obtain ⟨k, b⟩ := w
      rw [h1] at h
      have h : (if hasK q k = true then none else if ch b = 61 ∧ ch (b + 1) = 34 then (match sVa ch n [] (b + 2) with | none => none | some (v, e) => some (q ++ [(k, v)], e)) else none) = some r := h
      split at h
      · cases h
      · split at h
        · cases h2 : sVa ch n [] (b + 2) with
          | none => rw [h2] at h; cases h
          | some w2 =>
            obtain ⟨v, e⟩ := w2
            rw [h2] at h
            cases h
            exact PA7_s hq (vaF_pv hc _ _ _ _ PV7_0 h2)
        · cases h
theorem atsF_pv {ch : Nat → Int} {n : Nat} (hc : PC7 ch) : ∀ f q a r, PA7 q → atsF ch n f q a = some r → PA7 r.1 := by
  intro f
  induction f with
  | zero => intro q a r hq h; cases h; exact hq
  | succ f ih =>
    intro q a r hq h
    have h : (if a < sWh ch n a ∧ isLc (ch (sWh ch n a)) then (match sAt ch n q (sWh ch n a) with | none => none | some (q2, e) => atsF ch n f q2 e) else some (q, sWh ch n a)) = some r := h
    split at h
    · cases h1 : sAt ch n q (sWh ch n a) with
      | none => rw [h1] at h; cases h
      | some w =>
        obtain ⟨q2, e⟩ := w
        rw [h1] at h
        exact ih _ _ _ (sAt_pv hc hq h1) h
    · cases h; exact hq
theorem sOp_pv {ch : Nat → Int} {n cnt depth a : Nat} {k : Int64} {q : At7} {c : Bool} {e : Nat} (hc : PC7 ch) (h : sOp ch n cnt depth a = some (k, q, c, e)) : PA7 q := by
  by_cases h0 : ch a = 60 ∧ isLc (ch (a + 1)) ∧ depth < 6 ∧ cnt < 80
  · cases h1 : sNm ch (a + 1) with
    | none => rw [sOp_n h1] at h; cases h
    | some w =>
      obtain ⟨k2, b⟩ := w
      cases h2 : sAs ch n [] b with
      | none => rw [sOp_a h1 h2] at h; cases h
      | some w2 =>
        obtain ⟨q2, e2⟩ := w2
        rw [sOp_u h0 h1 h2] at h
        have hp := atsF_pv hc _ _ _ _ PA7_0 h2
        split at h
        · split at h
          · cases h; exact hp
          · cases h
        · split at h
          · cases h; exact hp
          · cases h
  · rw [sOp_x h0] at h; cases h
theorem PD7_s {D : List El7} {w : El7} (h : PD7 D) (hw : PA7 w.2.2.2.1) : PD7 (D ++ [w]) := by
  intro y hy
  rcases List.mem_append.mp hy with q | q
  · exact h y q
  · rw [List.mem_singleton.mp q]; exact hw
theorem sSt_pv {ch : Nat → Int} {n : Nat} {D D2 : List El7} {cur c2 : Int} {depth d2 a b : Nat} (hp : PC7 ch) (hD : PD7 D) (h : sSt ch n D cur depth a = some (D2, c2, d2, b)) : PD7 D2 := by
  unfold sSt at h
  split at h
  · split at h
    · cases hc : sCom ch n a with
      | none => rw [hc] at h; cases h
      | some e => rw [hc] at h; cases h; exact hD
    · split at h
      · cases hw : D[cur.toNat]? with
        | none => rw [hw] at h; cases h
        | some w =>
          rw [hw] at h
          have h : (match sEd ch n w.1 a with | none => none | some b => some (D, w.2.1, depth - 1, b)) = some (D2, c2, d2, b) := h
          cases hc : sEd ch n w.1 a with
          | none => rw [hc] at h; cases h
          | some e => rw [hc] at h; cases h; exact hD
      · cases hc : sOp ch n D.length depth a with
        | none => rw [hc] at h; cases h
        | some w => obtain ⟨k, q, c, e⟩ := w; rw [hc] at h; cases h; exact PD7_s hD (sOp_pv hp hc)
  · cases hc : sCh ch a with
    | none => rw [hc] at h; cases h
    | some r =>
      obtain ⟨x, e⟩ := r
      rw [hc] at h
      cases hw : D[cur.toNat]? with
      | none => rw [hw] at h; cases h
      | some w =>
        rw [hw] at h
        have h : (match sTx w.2.2.2.2.1 w.2.2.2.2.2 x with | none => none | some (ts, te) => some (D.set cur.toNat (w.1, w.2.1, w.2.2.1, w.2.2.2.1, ts, te), cur, depth, e + 1)) = some (D2, c2, d2, b) := h
        cases ht : sTx w.2.2.2.2.1 w.2.2.2.2.2 x with
        | none => rw [ht] at h; cases h
        | some t =>
          obtain ⟨ts, te⟩ := t
          rw [ht] at h
          cases h
          intro y hy
          rcases List.mem_or_eq_of_mem_set hy with q | q
          · exact hD y q
          · rw [q]; exact hD w (List.mem_of_getElem? hw)
theorem doF_pv {ch : Nat → Int} {n : Nat} (hp : PC7 ch) : ∀ f D cur depth a r, PD7 D → doF ch n f D cur depth a = some r → PD7 r.1 := by
  intro f
  induction f with
  | zero =>
    intro D cur depth a r hD h
    have h : (if depth = 0 then some (D, a) else none) = some r := h
    split at h
    · cases h; exact hD
    · cases h
  | succ f ih =>
    intro D cur depth a r hD h
    have h : (if depth = 0 then some (D, a) else match sSt ch n D cur depth a with | none => none | some (D2, c2, d2, b) => doF ch n f D2 c2 d2 b) = some r := h
    split at h
    · cases h; exact hD
    · cases hc : sSt ch n D cur depth a with
      | none => rw [hc] at h; cases h
      | some w =>
        obtain ⟨D2, c2, d2, b⟩ := w
        rw [hc] at h
        exact ih _ _ _ _ _ (sSt_pv hp hD hc) h
theorem sDoc_pv {ch : Nat → Int} {n : Nat} {D : List El7} (hp : PC7 ch) (h : sDoc ch n = some D) : PD7 D := by
  unfold sDoc at h
  cases h1 : sBet ch n 0 with
  | none => rw [h1] at h; cases h
  | some a =>
    rw [h1] at h
    dsimp only at h
    cases h2 : sOp ch n 0 0 a with
    | none => rw [h2] at h; cases h
    | some w =>
      obtain ⟨k, q, c, b⟩ := w
      rw [h2] at h
      dsimp only at h
      cases h3 : sDo ch n [(a, -1, k, q, 0, 0)] (if c = true then -1 else 0) (if c = true then 0 else 1) b with
      | none => rw [h3] at h; cases h
      | some w2 =>
        obtain ⟨D2, e⟩ := w2
        rw [h3] at h
        dsimp only at h
        cases h4 : sBet ch n e with
        | none => rw [h4] at h; cases h
        | some e2 =>
          rw [h4] at h
          dsimp only at h
          split at h
          · cases h
            exact doF_pv hp _ _ _ _ _ _ (fun y hy => by rw [List.mem_singleton.mp hy]; exact sOp_pv hp h2) h3
          · cases h
theorem or8 {v : Int64} {c : Int} (h0 : 0 ≤ v.toInt) (h1 : v.toInt < 2 ^ 55) (h2 : 0 ≤ c) (h3 : c ≤ 126) : (v <<< 8 ||| Int64.ofInt c).toInt = 256 * v.toInt + c := by
  obtain ⟨x, hx⟩ : ∃ x : Int32, x.toInt = c := ⟨Int32.ofInt c, by rw [Int32.toInt_ofInt]; exact i32_bm (by omega)⟩
  rw [← nm_or hx, ← hx]
  exact lor8 (by omega) h1 (by omega) (by omega)
/-- a row of characters as a number, the last first -/
def fr7 : List Int → Int
  | [] => 0
  | c :: r => c + 256 * fr7 r
theorem fr7_p : ∀ v : List Int, PV7 v → 0 ≤ fr7 v ∧ 2 * fr7 v < (256 : Int) ^ v.length ∧ (1 ≤ v.length → (256 : Int) ^ (v.length - 1) ≤ fr7 v) := by
  intro v
  induction v with
  | nil => intro _; exact ⟨by decide, by decide, fun h => absurd h (by decide)⟩
  | cons c r ih =>
    intro h
    have hc := h c List.mem_cons_self
    obtain ⟨a1, a2, a3⟩ := ih (fun x hx => h x (List.mem_cons_of_mem _ hx))
    have e1 : fr7 (c :: r) = c + 256 * fr7 r := rfl
    have e2 : (256 : Int) ^ (c :: r).length = 256 * 256 ^ r.length := by rw [List.length_cons, Int.pow_succ]; omega
    refine ⟨by rw [e1]; omega, by rw [e1, e2]; omega, fun _ => ?_⟩
    rw [e1, List.length_cons, Nat.add_sub_cancel]
    cases r with
    | nil => show (1 : Int) ≤ _; omega
    | cons d t =>
      have a4 := a3 (by rw [List.length_cons]; omega)
      rw [List.length_cons, Nat.add_sub_cancel] at a4
      rw [List.length_cons, Int.pow_succ]
      omega
theorem fr7_i : ∀ v u : List Int, PV7 v → PV7 u → fr7 v = fr7 u → v = u := by
  intro v
  induction v with
  | nil =>
    intro u _ hu h
    cases u with
    | nil => rfl
    | cons d t =>
      have := hu d List.mem_cons_self
      have := (fr7_p t (fun x hx => hu x (List.mem_cons_of_mem _ hx))).1
      have e : fr7 (d :: t) = d + 256 * fr7 t := rfl
      have e0 : fr7 [] = 0 := rfl
      omega
  | cons c r ih =>
    intro u hv hu h
    have hc := hv c List.mem_cons_self
    have hr := (fr7_p r (fun x hx => hv x (List.mem_cons_of_mem _ hx))).1
    have e1 : fr7 (c :: r) = c + 256 * fr7 r := rfl
    cases u with
    | nil =>
      have e0 : fr7 [] = 0 := rfl
      omega
    | cons d t =>
      have hd := hu d List.mem_cons_self
      have e2 : fr7 (d :: t) = d + 256 * fr7 t := rfl
      have h1 : c = d := by omega
      have h2 : fr7 r = fr7 t := by omega
      rw [h1, ih t (fun x hx => hv x (List.mem_cons_of_mem _ hx)) (fun x hx => hu x (List.mem_cons_of_mem _ hx)) h2]
theorem PV7_r {v : List Int} (h : PV7 v) : PV7 v.reverse := fun c hc => h c (List.mem_reverse.mp hc)
theorem foL_a : ∀ (v : List Int) (u : List Int) (w : Int64), PV7 v → PV7 u → v.length + u.length ≤ 8 → w.toInt = fr7 u → (foL v w).toInt = fr7 (v.reverse ++ u) := by
  intro v
  induction v with
  | nil => intro u w _ _ _ hw; exact hw
  | cons c r ih =>
    intro u w hv hu hl hw
    have hc := hv c List.mem_cons_self
    rw [List.length_cons] at hl
    obtain ⟨p1, p2, _⟩ := fr7_p u hu
    have hp : (256 : Int) ^ u.length ≤ 256 ^ 7 := by
      rcases (show u.length = 0 ∨ u.length = 1 ∨ u.length = 2 ∨ u.length = 3 ∨ u.length = 4 ∨ u.length = 5 ∨ u.length = 6 ∨ u.length = 7 by omega) with e | e | e | e | e | e | e | e <;> rw [e] <;> decide
    have h55 : w.toInt < 2 ^ 55 := by
      have h9 : (256 : Int) ^ 7 = 2 ^ 56 := by decide
      rw [hw]; omega
    have h1 := or8 (v := w) (c := c) (by omega) h55 (by omega) (by omega)
    show (foL r (w <<< 8 ||| Int64.ofInt c)).toInt = _
    rw [ih (c :: u) _ (fun x hx => hv x (List.mem_cons_of_mem _ hx)) (fun x hx => by
      rcases List.mem_cons.mp hx with q | q
      · rw [q]; exact hc
      · exact hu x q) (by rw [List.length_cons]; omega) (by rw [h1, hw]; show 256 * fr7 u + c = c + 256 * fr7 u; omega), List.reverse_cons, List.append_assoc]
    rfl
theorem foL_n {v : List Int} (h : PV7 v) (h8 : v.length ≤ 8) : (foL v 0).toInt = fr7 v.reverse := by
  have := foL_a v [] 0 h PV7_0 (by rw [List.length_nil]; omega) rfl
  rw [List.append_nil] at this
  exact this
theorem foL_p {v : List Int} (h : PV7 v) (h8 : v.length ≤ 8) : 0 ≤ (foL v 0).toInt := by rw [foL_n h h8]; exact (fr7_p _ (PV7_r h)).1
/-- what it is below its powers tells how long it is -/
theorem foL_len {v : List Int} (h : PV7 v) (h8 : v.length ≤ 8) : (v = [] ∧ (foL v 0).toInt = 0) ∨ (∃ c, v = [c] ∧ (foL v 0).toInt = c ∧ 1 ≤ c ∧ c ≤ 126) ∨ (∃ c d, v = [c, d] ∧ (foL v 0).toInt = 256 * c + d ∧ 1 ≤ c ∧ c ≤ 126 ∧ 1 ≤ d ∧ d ≤ 126) ∨ (3 ≤ v.length ∧ 65536 ≤ (foL v 0).toInt) := by
  have hn := foL_n h h8
  cases v with
  | nil => exact Or.inl ⟨rfl, hn⟩
  | cons c r =>
    have hc := h c List.mem_cons_self
    cases r with
    | nil => exact Or.inr (Or.inl ⟨c, rfl, by rw [hn]; show c + 256 * 0 = c; omega, hc⟩)
    | cons d t =>
      have hd := h d (List.mem_cons_of_mem _ List.mem_cons_self)
      cases t with
      | nil => exact Or.inr (Or.inr (Or.inl ⟨c, d, rfl, by rw [hn]; show d + 256 * (c + 256 * 0) = _; omega, hc.1, hc.2, hd⟩))
      | cons e s =>
        refine Or.inr (Or.inr (Or.inr ⟨by simp only [List.length_cons]; omega, ?_⟩))
        have q := (fr7_p _ (PV7_r h)).2.2 (by rw [List.length_reverse]; simp only [List.length_cons]; omega)
        rw [hn]
        rw [List.length_reverse] at q
        simp only [List.length_cons, Nat.add_sub_cancel] at q
        have q2 : (256 : Int) ^ (s.length + 1 + 1) = 256 ^ s.length * 65536 := by rw [Int.pow_succ, Int.pow_succ]; omega
        have q3 : (1 : Int) ≤ 256 ^ s.length := Int.pow_pos (by decide)
        rw [q2] at q
        omega
theorem gA_pv {q : At7} {k : Int64} {v : List Int} (h : PA7 q) (hg : gA q k = some v) : PV7 v := by
  unfold gA at hg
  cases hf : q.find? (fun x => x.1 == k) with
  | none => rw [hf] at hg; cases hg
  | some y => rw [hf] at hg; cases hg; exact h y (List.mem_of_find?_eq_some hf)
theorem gA_h {q : At7} {k : Int64} : (gA q k = none ∧ aH q k = 0) ∨ ∃ v, gA q k = some v ∧ aH q k = 1 := by
  unfold aH
  cases h : hasK q k with
  | false => exact Or.inl ⟨gA_n h, if_neg (by decide)⟩
  | true =>
    right
    unfold gA
    cases hf : q.find? (fun x => x.1 == k) with
    | none =>
      rw [List.find?_eq_none] at hf
      unfold hasK at h
      rw [List.any_eq_true] at h
      obtain ⟨x, hx, hk⟩ := h
      exact absurd hk (hf x hx)
    | some y => exact ⟨y.2, rfl, if_pos rfl⟩
/-- the class's readings of a value -/
def nv7 (q : At7) (k : Int64) : Int64 := if aI q k = 1 then aW q k else 0
def lv7 (q : At7) (k : Int64) : Int := match gA q k with | some [c] => if 97 ≤ c ∧ c ≤ 122 then c - 97 else -1 | _ => -1
def pl7 (q : At7) (k : Int64) : Int := match gA q k with | some [c] => if 48 ≤ c ∧ c ≤ 50 then c - 48 else -1 | _ => -1
def cv7 (q : At7) (k : Int64) : Int := match gA q k with | some [b, c] => if b = 75 ∧ 48 ≤ c ∧ c ≤ 55 then c - 48 else -1 | _ => -1
theorem aW_s {q : At7} {k : Int64} {v : List Int} (hg : gA q k = some v) : aW q k = if v.length ≤ 8 then foL v 0 else -1 := by unfold aW; rw [hg]
theorem aW_n {q : At7} {k : Int64} (hg : gA q k = none) : aW q k = -1 := by unfold aW; rw [hg]
theorem aI_s {q : At7} {k : Int64} {v : List Int} (hg : gA q k = some v) : aI q k = if 1 ≤ v.length ∧ v.length ≤ 8 ∧ allL v = true then 1 else 0 := by unfold aI; rw [hg]
theorem aI_n {q : At7} {k : Int64} (hg : gA q k = none) : aI q k = 0 := by unfold aI; rw [hg]
theorem allL_1 {c : Int} : allL [c] = true ↔ 97 ≤ c ∧ c ≤ 122 := by unfold allL; simp
theorem i64_m1 : (-1 : Int64).toInt = -1 := by decide
theorem aI_1 {q : At7} {k : Int64} (h : PA7 q) (hI : aI q k = 1) : 97 ≤ (aW q k).toInt ∧ aH q k = 1 := by
  rcases gA_h (q := q) (k := k) with ⟨g1, g2⟩ | ⟨v, g1, g2⟩
  · rw [aI_n g1] at hI; exact absurd hI (by decide)
  · rw [aI_s g1] at hI
    have hc : 1 ≤ v.length ∧ v.length ≤ 8 ∧ allL v = true := by
      by_cases hq : 1 ≤ v.length ∧ v.length ≤ 8 ∧ allL v = true
      · exact hq
      · rw [if_neg hq] at hI; exact absurd hI (by decide)
    refine ⟨?_, g2⟩
    rw [aW_s g1, if_pos hc.2.1]
    rcases foL_len (gA_pv h g1) hc.2.1 with ⟨a, _⟩ | ⟨c, a, b, _⟩ | ⟨c, d, _, b, b1, _, b2, _⟩ | ⟨_, b⟩
    · rw [a] at hc; exact absurd hc.1 (by decide)
    · rw [a] at hc; have := (allL_1.mp hc.2.2).1; omega
    · omega
    · omega
theorem nv7_z {q : At7} {k : Int64} (h : PA7 q) : ¬ nv7 q k = 0 ↔ aI q k = 1 := by
  unfold nv7
  by_cases hI : aI q k = 1
  · rw [if_pos hI]
    have := (aI_1 h hI).1
    exact ⟨fun _ => hI, fun _ e => by rw [e] at this; exact absurd this (by decide)⟩
  · rw [if_neg hI]
    exact ⟨fun w => absurd rfl w, fun w => absurd w hI⟩
theorem lv7_a {q : At7} {k : Int64} (h : PA7 q) : (0 ≤ lv7 q k ∧ aI q k = 1 ∧ (aW q k).toInt = lv7 q k + 97 ∧ lv7 q k ≤ 25) ∨ (lv7 q k = -1 ∧ ¬ (aI q k = 1 ∧ (aW q k).toInt < 256)) := by
  rcases gA_h (q := q) (k := k) with ⟨g1, g2⟩ | ⟨v, g1, g2⟩
  · exact Or.inr ⟨by unfold lv7; rw [g1], fun w => by rw [aI_n g1] at w; exact absurd w.1 (by decide)⟩
  · rw [aI_s g1, aW_s g1]
    have hp := gA_pv h g1
    by_cases h8 : v.length ≤ 8
    · rw [if_pos h8]
      rcases foL_len hp h8 with ⟨a, _⟩ | ⟨c, a, b, _⟩ | ⟨c, d, a, b, b1, _, b2, _⟩ | ⟨a, b⟩
      · subst a
        exact Or.inr ⟨by unfold lv7; rw [g1], fun w => absurd w.1 (by decide)⟩
      · subst a
        have e : lv7 q k = if 97 ≤ c ∧ c ≤ 122 then c - 97 else -1 := by unfold lv7; rw [g1]
        rw [e]
        by_cases hc : 97 ≤ c ∧ c ≤ 122
        · rw [if_pos hc, if_pos ⟨by simp, by simp, allL_1.mpr hc⟩]
          exact Or.inl ⟨by omega, rfl, by omega, by omega⟩
        · rw [if_neg hc, if_neg (fun w => hc (allL_1.mp w.2.2))]
          exact Or.inr ⟨rfl, fun w => absurd w.1 (by decide)⟩
      · subst a
        exact Or.inr ⟨by unfold lv7; rw [g1], fun w => by have := w.2; omega⟩
      · refine Or.inr ⟨?_, fun w => by have := w.2; omega⟩
        unfold lv7
        rw [g1]
        cases v with
        | nil => rfl
        | cons c r => cases r with
          | nil => exact absurd a (by simp)
          | cons d t => rfl
    · rw [if_neg h8, if_neg (fun w => h8 w.2.1)]
      refine Or.inr ⟨?_, fun w => absurd w.1 (by decide)⟩
      unfold lv7
      rw [g1]
      cases v with
      | nil => rfl
      | cons c r => cases r with
        | nil => exact absurd (by simp) h8
        | cons d t => rfl
theorem pl7_a {q : At7} {k : Int64} (h : PA7 q) : (0 ≤ pl7 q k ∧ aH q k = 1 ∧ 48 ≤ (aW q k).toInt ∧ (aW q k).toInt ≤ 50) ∨ (pl7 q k = -1 ∧ ¬ (48 ≤ (aW q k).toInt ∧ (aW q k).toInt ≤ 50)) := by
  have hm := i64_m1
  rcases gA_h (q := q) (k := k) with ⟨g1, g2⟩ | ⟨v, g1, g2⟩
  · exact Or.inr ⟨by unfold pl7; rw [g1], fun w => by rw [aW_n g1] at w; omega⟩
  · rw [aW_s g1]
    have hp := gA_pv h g1
    by_cases h8 : v.length ≤ 8
    · rw [if_pos h8]
      rcases foL_len hp h8 with ⟨a, b⟩ | ⟨c, a, b, _⟩ | ⟨c, d, a, b, b1, _, b2, _⟩ | ⟨a, b⟩
      · subst a
        exact Or.inr ⟨by unfold pl7; rw [g1], fun w => by omega⟩
      · subst a
        have e : pl7 q k = if 48 ≤ c ∧ c ≤ 50 then c - 48 else -1 := by unfold pl7; rw [g1]
        rw [e, b]
        by_cases hc : 48 ≤ c ∧ c ≤ 50
        · rw [if_pos hc]; exact Or.inl ⟨by omega, g2, hc⟩
        · rw [if_neg hc]; exact Or.inr ⟨rfl, hc⟩
      · subst a
        exact Or.inr ⟨by unfold pl7; rw [g1], fun w => by omega⟩
      · refine Or.inr ⟨?_, fun w => by omega⟩
        unfold pl7
        rw [g1]
        cases v with
        | nil => rfl
        | cons c r => cases r with
          | nil => exact absurd a (by simp)
          | cons d t => rfl
    · rw [if_neg h8]
      refine Or.inr ⟨?_, fun w => by omega⟩
      unfold pl7
      rw [g1]
      cases v with
      | nil => rfl
      | cons c r => cases r with
        | nil => exact absurd (by simp) h8
        | cons d t => rfl
theorem cv7_a {q : At7} {k : Int64} (h : PA7 q) : (0 ≤ cv7 q k ∧ cv7 q k ≤ 7 ∧ aH q k = 1 ∧ CLSV (aW q k).toInt) ∨ (cv7 q k = -1 ∧ ¬ CLSV (aW q k).toInt) := by
  have hm := i64_m1
  rcases gA_h (q := q) (k := k) with ⟨g1, g2⟩ | ⟨v, g1, g2⟩
  · exact Or.inr ⟨by unfold cv7; rw [g1], fun w => by rw [aW_n g1, hm] at w; exact absurd w (by decide)⟩
  · rw [aW_s g1]
    have hp := gA_pv h g1
    by_cases h8 : v.length ≤ 8
    · rw [if_pos h8]
      rcases foL_len hp h8 with ⟨a, b⟩ | ⟨c, a, b, _⟩ | ⟨c, d, a, b, b1, _, b2, _⟩ | ⟨a, b⟩
      · subst a
        exact Or.inr ⟨by unfold cv7; rw [g1], fun w => by rw [b] at w; exact absurd w (by decide)⟩
      · subst a
        exact Or.inr ⟨by unfold cv7; rw [g1], fun w => by have := w.1; omega⟩
      · subst a
        have e : cv7 q k = if c = 75 ∧ 48 ≤ d ∧ d ≤ 55 then d - 48 else -1 := by unfold cv7; rw [g1]
        rw [e, b]
        by_cases hc : c = 75 ∧ 48 ≤ d ∧ d ≤ 55
        · rw [if_pos hc]; exact Or.inl ⟨by omega, by omega, g2, by unfold CLSV; omega⟩
        · rw [if_neg hc]; exact Or.inr ⟨rfl, fun w => by unfold CLSV at w; omega⟩
      · refine Or.inr ⟨?_, fun w => by have := w.1; omega⟩
        unfold cv7
        rw [g1]
        cases v with
        | nil => rfl
        | cons c r => cases r with
          | nil => rfl
          | cons d t => cases t with
            | nil => exact absurd a (by simp)
            | cons e s => rfl
    · rw [if_neg h8]
      refine Or.inr ⟨?_, fun w => by rw [hm] at w; exact absurd w (by decide)⟩
      unfold cv7
      rw [g1]
      cases v with
      | nil => rfl
      | cons c r => cases r with
        | nil => rfl
        | cons d t => cases t with
          | nil => exact absurd (by simp) h8
          | cons e s => rfl
/-- a word with this number is that word -/
theorem nv7_e {q : At7} {k K : Int64} {u : List Int} (h : PA7 q) (hu : PV7 u) (h1 : 1 ≤ u.length) (h8 : u.length ≤ 8) (hL : allL u = true) (hK : foL u 0 = K) : nv7 q k = K ↔ (aW q k).toInt = K.toInt := by
  have hp := foL_p hu h8
  have hz : ¬ K.toInt = 0 := by
    rw [← hK, foL_n hu h8]
    have := (fr7_p _ (PV7_r hu)).2.2 (by rw [List.length_reverse]; exact h1)
    have q3 : (1 : Int) ≤ 256 ^ (u.reverse.length - 1) := Int.pow_pos (by decide)
    omega
  constructor
  · intro e
    unfold nv7 at e
    by_cases hI : aI q k = 1
    · rw [if_pos hI] at e; rw [e]
    · rw [if_neg hI] at e; exact absurd (by rw [← e]; rfl) hz
  · intro e
    rcases gA_h (q := q) (k := k) with ⟨g1, g2⟩ | ⟨v, g1, g2⟩
    · rw [aW_n g1, i64_m1, ← hK] at e; omega
    · have hv := gA_pv h g1
      have e2 := e
      rw [aW_s g1] at e2
      by_cases hv8 : v.length ≤ 8
      · rw [if_pos hv8, ← hK, foL_n hv hv8, foL_n hu h8] at e2
        have e3 := fr7_i _ _ (PV7_r hv) (PV7_r hu) e2
        have e4 : v = u := by have := congrArg List.reverse e3; rw [List.reverse_reverse, List.reverse_reverse] at this; exact this
        subst e4
        have hI : aI q k = 1 := by rw [aI_s g1, if_pos ⟨h1, h8, hL⟩]
        unfold nv7
        rw [if_pos hI, aW_s g1, if_pos h8, hK]
      · rw [if_neg hv8, i64_m1, ← hK] at e2; omega
/-- an element of the list, and what it has -/
def dEl (D : List El7) (e : Nat) : El7 := (D[e]?).getD (0, -1, 0, [], 0, 0)
def dAt (D : List El7) (e : Nat) : At7 := (dEl D e).2.2.2.1
def dAb (D : List El7) (e : Nat) : Int := (dEl D e).2.1
def dTx (D : List El7) (e : Nat) : Nat := (dEl D e).2.2.2.2.1
def dAy (D : List El7) (e k : Nat) : Int64 := (((dAt D e)[k]?).getD (0, [])).1
/-- the kind of a key -/
def kd7 (k : Int) : Int := if k = 422607679091 then 1 else if k = 418430673267 then 2 else if k = 1650811246 then 3 else if k = 6386279 then 4 else if k = 7562612 then 5 else if k = 1818850164 then 6 else if k = 508440638821 then 7 else if k = 7497062 then 8 else if k = 1853189228 then 9 else if k = 119225866483056 then 10 else 0
def dKd (D : List El7) (e : Nat) : Int := kd7 (dEl D e).2.2.1.toInt
def dIn (D : List El7) (e : Nat) : Int := if dAb D e = -1 then 0 else dKd D (dAb D e).toNat
def cnD (f : Nat → Int) (e : Int) : Nat → Nat
  | 0 => 0
  | n + 1 => cnD f e n + (if f n = e then 1 else 0)
def dCn (D : List El7) (e : Nat) : Nat := cnD (dAb D) (e : Int) D.length
abbrev AQD (D : List El7) (f : Int) (e k : Nat) : Prop := dAb D k = dAb D e ∧ dKd D k = dKd D e ∧ (f = 0 ∨ (aW (dAt D k) 1851878757).toInt = (aW (dAt D e) 1851878757).toInt)
def ahD (D : List El7) (f : Int) (e : Nat) : Nat → Nat
  | 0 => 0
  | k + 1 => ahD D f e k + (if AQD D f e k then 1 else 0)
def GKR (D : List El7) (x : Nat) : Prop := dKd D x = 1 ∨ (dKd D x = 2 ∧ (aI (dAt D x) 1851878757 = 1 ∧ aI (dAt D x) 29807 = 1 ∧ (dCn D x : Int) = 0)) ∨ (dKd D x = 3 ∧ (((aH (dAt D x) 26980 = 0 ∨ aI (dAt D x) 26980 = 1) ∧ (aH (dAt D x) 123563833388660 = 0 ∨ aI (dAt D x) 123563833388660 = 1) ∧ (aH (dAt D x) 28817527407604345 = 0 ∨ aI (dAt D x) 28817527407604345 = 1) ∧ (aH (dAt D x) 28259031083541619 = 0 ∨ aI (dAt D x) 28259031083541619 = 1)) ∧ ((aH (dAt D x) 120282512125796 = 0 ∨ (aI (dAt D x) 120282512125796 = 1 ∧ (aW (dAt D x) 120282512125796).toInt < 256)) ∧ (aH (dAt D x) 1768843636 = 0 ∨ (aI (dAt D x) 1768843636 = 1 ∧ (aW (dAt D x) 1768843636).toInt < 256)) ∧ (aH (dAt D x) 28259044220366713 = 0 ∨ (aI (dAt D x) 28259044220366713 = 1 ∧ (aW (dAt D x) 28259044220366713).toInt < 256))) ∧ ((aH (dAt D x) 427020088179 = 0 ∨ CLSV (aW (dAt D x) 427020088179).toInt) ∧ (aH (dAt D x) 7017298113369039732 = 0 ∨ (aW (dAt D x) 7017298113369039732).toInt = 7955827 ∨ (aW (dAt D x) 7017298113369039732).toInt = 28271) ∧ (aH (dAt D x) 1818327673 = 0 ∨ (aW (dAt D x) 1818327673).toInt = 7955827 ∨ (aW (dAt D x) 1818327673).toInt = 28271) ∧ (aH (dAt D x) 495589486693 = 0 ∨ (aW (dAt D x) 495589486693).toInt = 7302757 ∨ (aW (dAt D x) 495589486693).toInt = 1835101817)) ∧ ((dKd D (dAb D x).toNat = 1 ∧ aH (dAt D x) 26980 = 1) ∨ (¬ dKd D (dAb D x).toNat = 1 ∧ aH (dAt D x) 26980 = 0 ∧ aH (dAt D x) 7017298113369039732 = 0 ∧ aH (dAt D x) 1818327673 = 0)) ∧ ((aW (dAt D x) 7017298113369039732).toInt = 7955827 ∨ aH (dAt D x) 427020088179 = 1 ∨ aH (dAt D x) 123563833388660 = 1 ∨ aH (dAt D x) 28817527407604345 = 1) ∧ (aH (dAt D x) 28817527407604345 = 0 ∨ aH (dAt D x) 120282512125796 = 1))) ∨ (dKd D x = 4 ∧ (((aH (dAt D x) 508440638821 + aH (dAt D x) 7497062 + (dCn D x : Int) = 1 ∧ (aH (dAt D x) 7497062 = 0 ∨ aI (dAt D x) 7497062 = 1)) ∧ (ahD D 0 x x : Int) < 4 ∧ (aH (dAt D x) 24948 = 0 ∨ (48 ≤ (aW (dAt D x) 24948).toInt ∧ (aW (dAt D x) 24948).toInt ≤ 50))) ∧ (aH (dAt D x) 1954115685 = 0 ∨ ((aW (dAt D x) 1954115685).toInt = 6909556 ∨ (aW (dAt D x) 1954115685).toInt = 500136506472 ∨ (aW (dAt D x) 1954115685).toInt = 1667785074 ∨ (aW (dAt D x) 1954115685).toInt = 1952807028 ∨ (aW (dAt D x) 1954115685).toInt = 7499639) ∨ (aH (dAt D x) 1954115685 = 1 ∧ CLSV (aW (dAt D x) 1954115685).toInt)))) ∨ (dKd D x = 5 ∧ ((aH (dAt D x) 508440638821 + aH (dAt D x) 7497062 + (dCn D x : Int) = 1 ∧ (aH (dAt D x) 7497062 = 0 ∨ aI (dAt D x) 7497062 = 1)) ∧ (aI (dAt D x) 1851878757 = 1 ∧ (aW (dAt D x) 1851878757).toInt < 256) ∧ (ahD D 0 x x : Int) < 8 ∧ (ahD D 1 x x : Int) = 0)) ∨ (dKd D x = 6 ∧ ((dCn D x : Int) ≤ 6)) ∨ ((dKd D x = 7 ∨ dKd D x = 9) ∧ ((dCn D x : Int) = 0)) ∨ (dKd D x = 8 ∧ (aI (dAt D x) 1650811246 = 1 ∧ (dCn D x : Int) = 0)) ∨ (dKd D x = 10 ∧ ((aI (dAt D x) 1851878757 = 1 ∧ (aW (dAt D x) 1851878757).toInt < 256) ∧ aI (dAt D x) 1650811246 = 1 ∧ (dCn D x : Int) = 0 ∧ (ahD D 0 x x : Int) < 2 ∧ (ahD D 1 x x : Int) = 0))
def CMR (D : List El7) (x : Nat) : Prop := (INP7 (dKd D x) (dIn D x) ∧ (dKd D x = 7 ∨ (dTx D x : Int) ≤ 0)) ∧ ∀ k, 0 ≤ k → k < (dAt D x).length → ALW (dKd D x) (dAy D x k).toInt
/-- what the reference asks of an element -/
def GOODR (D : List El7) (x : Nat) : Prop := CMR D x ∧ GKR D x
/-- what the class asks of an element -/
def FON (D : List El7) (x : Nat) : Prop := ∀ k, k < x → dAb D k = dAb D x → dKd D k = dKd D x → ¬ lv7 (dAt D k) 1851878757 = lv7 (dAt D x) 1851878757
def STN (D : List El7) (x : Nat) : Prop := (dKd D x = 1 ∧ dAb D x = -1) ∨ (dKd D x = 2 ∧ dIn D x = 1) ∨ (dKd D x = 3 ∧ (dIn D x = 1 ∨ dIn D x = 4 ∨ dIn D x = 5 ∨ dIn D x = 6)) ∨ (dKd D x = 4 ∧ dIn D x = 3 ∧ ahD D 0 x x < 4) ∨ (dKd D x = 5 ∧ dIn D x = 3 ∧ ahD D 0 x x < 8 ∧ FON D x) ∨ (dKd D x = 10 ∧ dIn D x = 3 ∧ ahD D 0 x x < 2 ∧ FON D x) ∨ (dKd D x = 6 ∧ (dIn D x = 4 ∨ dIn D x = 5)) ∨ ((dKd D x = 7 ∨ dKd D x = 8 ∨ dKd D x = 9) ∧ (dIn D x = 4 ∨ dIn D x = 5 ∨ dIn D x = 6))
def MAY (kd i k : Int) : Prop := (kd = 2 ∧ (k = 1851878757 ∨ k = 29807)) ∨ (kd = 3 ∧ (((k = 26980 ∨ k = 7017298113369039732 ∨ k = 1818327673) ∧ i = 1) ∨ (k = 427020088179 ∨ k = 123563833388660 ∨ k = 495589486693 ∨ k = 28817527407604345 ∨ k = 120282512125796 ∨ k = 1768843636 ∨ k = 28259044220366713 ∨ k = 28259031083541619))) ∨ (kd = 4 ∧ (k = 24948 ∨ k = 1954115685 ∨ k = 508440638821 ∨ k = 7497062)) ∨ (kd = 5 ∧ (k = 1851878757 ∨ k = 508440638821 ∨ k = 7497062)) ∨ (kd = 8 ∧ (k = 1650811246)) ∨ (kd = 10 ∧ (k = 1851878757 ∨ k = 1650811246))
def ty7 (q : At7) (k : Int64) : Prop := 0 ≤ cv7 q k ∨ nv7 q k = 6909556 ∨ nv7 q k = 500136506472 ∨ nv7 q k = 1667785074 ∨ nv7 q k = 1952807028 ∨ nv7 q k = 7499639
def RVL (kd : Int) (q : At7) (k : Int64) : Prop := (k.toInt = 1851878757 ∧ ((kd = 2 ∧ ¬ nv7 q k = 0) ∨ (¬ kd = 2 ∧ 0 ≤ lv7 q k))) ∨ (k.toInt = 427020088179 ∧ 0 ≤ cv7 q k) ∨ ((k.toInt = 7017298113369039732 ∨ k.toInt = 1818327673) ∧ (nv7 q k = 7955827 ∨ nv7 q k = 28271)) ∨ (k.toInt = 495589486693 ∧ (nv7 q k = 7302757 ∨ nv7 q k = 1835101817)) ∨ ((k.toInt = 120282512125796 ∨ k.toInt = 1768843636 ∨ k.toInt = 28259044220366713) ∧ 0 ≤ lv7 q k) ∨ (k.toInt = 24948 ∧ 0 ≤ pl7 q k) ∨ (k.toInt = 1954115685 ∧ ty7 q k) ∨ k.toInt = 508440638821 ∨ ((k.toInt = 26980 ∨ k.toInt = 123563833388660 ∨ k.toInt = 28817527407604345 ∨ k.toInt = 28259031083541619 ∨ k.toInt = 29807 ∨ k.toInt = 7497062 ∨ k.toInt = 1650811246) ∧ ¬ nv7 q k = 0)
def ATN (D : List El7) (x : Nat) : Prop := ∀ y, y ∈ dAt D x → MAY (dKd D x) (dIn D x) y.1.toInt ∧ RVL (dKd D x) (dAt D x) y.1
def NBE (D : List El7) (x : Nat) : Prop := (¬ dIn D x = 1 ∨ aH (dAt D x) 26980 = 1) ∧ (aH (dAt D x) 28817527407604345 = 0 ∨ aH (dAt D x) 120282512125796 = 1) ∧ (nv7 (dAt D x) 7017298113369039732 = 7955827 ∨ aH (dAt D x) 427020088179 = 1 ∨ aH (dAt D x) 123563833388660 = 1 ∨ aH (dAt D x) 28817527407604345 = 1)
def NEE (D : List El7) (x : Nat) : Prop := (¬ dKd D x = 2 ∨ (aH (dAt D x) 1851878757 = 1 ∧ aH (dAt D x) 29807 = 1)) ∧ (¬ dKd D x = 3 ∨ NBE D x) ∧ (¬ dKd D x = 5 ∨ aH (dAt D x) 1851878757 = 1) ∧ (¬ dKd D x = 8 ∨ aH (dAt D x) 1650811246 = 1) ∧ (¬ dKd D x = 10 ∨ (aH (dAt D x) 1851878757 = 1 ∧ aH (dAt D x) 1650811246 = 1))
def CNT (D : List El7) (x : Nat) : Prop := dKd D x = 1 ∨ dKd D x = 3 ∨ ((dKd D x = 4 ∨ dKd D x = 5) ∧ aH (dAt D x) 508440638821 + aH (dAt D x) 7497062 + (dCn D x : Int) = 1) ∨ (dKd D x = 6 ∧ (dCn D x : Int) ≤ 6) ∨ ((dKd D x = 2 ∨ dKd D x = 7 ∨ dKd D x = 8 ∨ dKd D x = 9 ∨ dKd D x = 10) ∧ (dCn D x : Int) = 0)
def GOODC (D : List El7) (x : Nat) : Prop := STN D x ∧ ATN D x ∧ NEE D x ∧ (dTx D x = 0 ∨ dKd D x = 7) ∧ CNT D x
theorem nve_7955827 {q : At7} {k : Int64} (h : PA7 q) : nv7 q k = 7955827 ↔ (aW q k).toInt = 7955827 := nv7_e (u := [121, 101, 115]) h (by unfold PV7; decide) (by decide) (by decide) (by decide) (by decide)
theorem nve_28271 {q : At7} {k : Int64} (h : PA7 q) : nv7 q k = 28271 ↔ (aW q k).toInt = 28271 := nv7_e (u := [110, 111]) h (by unfold PV7; decide) (by decide) (by decide) (by decide) (by decide)
theorem nve_7302757 {q : At7} {k : Int64} (h : PA7 q) : nv7 q k = 7302757 ↔ (aW q k).toInt = 7302757 := nv7_e (u := [111, 110, 101]) h (by unfold PV7; decide) (by decide) (by decide) (by decide) (by decide)
theorem nve_1835101817 {q : At7} {k : Int64} (h : PA7 q) : nv7 q k = 1835101817 ↔ (aW q k).toInt = 1835101817 := nv7_e (u := [109, 97, 110, 121]) h (by unfold PV7; decide) (by decide) (by decide) (by decide) (by decide)
theorem nve_6909556 {q : At7} {k : Int64} (h : PA7 q) : nv7 q k = 6909556 ↔ (aW q k).toInt = 6909556 := nv7_e (u := [105, 110, 116]) h (by unfold PV7; decide) (by decide) (by decide) (by decide) (by decide)
theorem nve_500136506472 {q : At7} {k : Int64} (h : PA7 q) : nv7 q k = 500136506472 ↔ (aW q k).toInt = 500136506472 := nv7_e (u := [116, 114, 117, 116, 104]) h (by unfold PV7; decide) (by decide) (by decide) (by decide) (by decide)
theorem nve_1667785074 {q : At7} {k : Int64} (h : PA7 q) : nv7 q k = 1667785074 ↔ (aW q k).toInt = 1667785074 := nv7_e (u := [99, 104, 97, 114]) h (by unfold PV7; decide) (by decide) (by decide) (by decide) (by decide)
theorem nve_1952807028 {q : At7} {k : Int64} (h : PA7 q) : nv7 q k = 1952807028 ↔ (aW q k).toInt = 1952807028 := nv7_e (u := [116, 101, 120, 116]) h (by unfold PV7; decide) (by decide) (by decide) (by decide) (by decide)
theorem nve_7499639 {q : At7} {k : Int64} (h : PA7 q) : nv7 q k = 7499639 ↔ (aW q k).toInt = 7499639 := nv7_e (u := [114, 111, 119]) h (by unfold PV7; decide) (by decide) (by decide) (by decide) (by decide)
