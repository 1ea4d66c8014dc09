section
/-- the value of the first attribute with this key -/
def gA (at9 : At7) (k : Int64) : Option (List Int) := match at9.find? (fun x => x.1 == k) with | none => none | some y => some y.2
def foL : List Int → Int64 → Int64
  | [], v => v
  | c :: r, v => foL r (v <<< 8 ||| Int64.ofInt c)
def aW (at9 : At7) (k : Int64) : Int64 := match gA at9 k with | none => -1 | some v => if v.length ≤ 8 then foL v 0 else -1
def allL (v : List Int) : Bool := v.all (fun c => decide (97 ≤ c ∧ c ≤ 122))
def aI (at9 : At7) (k : Int64) : Int := match gA at9 k with | none => 0 | some v => if 1 ≤ v.length ∧ v.length ≤ 8 ∧ allL v = true then 1 else 0
def aH (at9 : At7) (k : Int64) : Int := if hasK at9 k = true then 1 else 0
theorem gA_n {at9 : At7} {k : Int64} (h : hasK at9 k = false) : gA at9 k = none := by
  unfold gA
  have : at9.find? (fun x => x.1 == k) = none := by
    rw [List.find?_eq_none]
    intro x hx
    unfold hasK at h
    rw [List.any_eq_false] at h
    exact h x hx
  rw [this]
/-- what find answers, by the list -/
theorem fnd_g {at9 : At7} {L : Nat → Int64} {e : Nat} {nn : Int64} (hl : ∀ k y, at9[k]? = some y → L (12 * e + k) = y.1) : ∀ c j, j + c = at9.length → (findF L e nn c j = -1 ∧ gA (at9.drop j) nn = none) ∨ ∃ i y, at9[i]? = some y ∧ findF L e nn c j = nI (12 * e + i) ∧ gA (at9.drop j) nn = some y.2 := by
  intro c
  induction c with
  | zero =>
    intro j hj
    rw [List.drop_of_length_le (by omega)]
    exact Or.inl ⟨rfl, rfl⟩
  | succ c ih =>
    intro j hj
    have hlt : j < at9.length := by omega
    have hg : at9[j]? = some at9[j] := List.getElem?_eq_getElem hlt
    have hy := hl j at9[j] hg
    rw [List.drop_eq_getElem_cons hlt]
    by_cases h : L (12 * e + j) = nn
    · refine Or.inr ⟨j, at9[j], hg, by show (if _ then _ else _) = _; rw [if_pos h], ?_⟩
      unfold gA
      rw [List.find?_cons_of_pos (by rw [← hy]; exact beq_iff_eq.mpr h)]
    · have hn : ¬ (at9[j].1 == nn) = true := fun q => h (hy.trans (beq_iff_eq.mp q))
      have e1 : findF L e nn (c + 1) j = findF L e nn c (j + 1) := by show (if _ then _ else _) = _; rw [if_neg h]
      have e2 : gA (at9[j] :: at9.drop (j + 1)) nn = gA (at9.drop (j + 1)) nn := by unfold gA; rw [List.find?_cons_of_neg (p := fun x : Int64 × List Int => x.1 == nn) hn]
      rw [e1, e2]
      exact ih (j + 1) (by omega)
theorem mFind_g {at9 : At7} {gm : Nat → Nat → Int32} {lg : Nat → Nat → Int64} {e : Nat} {P : Int} {nn : Int64} (h : ATR at9 gm lg e P) : (mFind gm lg e nn = -1 ∧ gA at9 nn = none) ∨ ∃ i y, at9[i]? = some y ∧ mFind gm lg e nn = nI (12 * e + i) ∧ gA at9 nn = some y.2 := by
  unfold mFind
  have hc : (gm 30 e).toNatClampNeg = at9.length := by have q := h.1; show (gm 30 e).toInt.toNat = _; omega
  rw [hc]
  exact fnd_g (fun k y hy => (h.2 k y hy).1) at9.length 0 (by omega)
theorem wordF_l {g : Nat → Int32} {q : Nat} : ∀ (v : List Int) (i : Nat) (w : Int64), (∀ j c, v[j]? = some c → (g (q + i + j)).toInt = c) → wordF g q v.length i w = foL v w := by
  intro v
  induction v with
  | nil => intro i w _; rfl
  | cons c r ih =>
    intro i w h
    show wordF g q r.length (i + 1) ((w <<< ((8 : Int32).toInt64 &&& 63)) ||| (g (q + i) : Int32).toInt64) = foL r (w <<< 8 ||| Int64.ofInt c)
    rw [nm_or (show (g (q + i)).toInt = c from h 0 c rfl)]
    exact ih (i + 1) _ (fun j d hd => by
      have := h (j + 1) d hd
      rw [show q + (i + 1) + j = q + i + (j + 1) by omega]
      exact this)
theorem allF_l {g : Nat → Int32} {q : Nat} : ∀ (v : List Int) (i : Nat), (∀ j c, v[j]? = some c → (g (q + i + j)).toInt = c) → (allF g q v.length i).toInt = (if allL v = true then 1 else 0) := by
  intro v
  induction v with
  | nil => intro i _; rfl
  | cons c r ih =>
    intro i h
    have hc : (g (q + i)).toInt = c := h 0 c rfl
    have hr := ih (i + 1) (fun j d hd => by
      have := h (j + 1) d hd
      rw [show q + (i + 1) + j = q + i + (j + 1) by omega]
      exact this)
    have hs : mSmall (g (q + i)) = 0 ↔ ¬ (97 ≤ c ∧ c ≤ 122) := by
      unfold mSmall
      have k1 : (97 : Int32).toInt = 97 := by decide
      have k2 : (122 : Int32).toInt = 122 := by decide
      by_cases h1 : g (q + i) < 97
      · rw [if_pos h1]
        have := Int32.lt_iff_toInt_lt.mp h1
        exact ⟨fun _ => by omega, fun _ => rfl⟩
      · rw [if_neg h1]
        have h3 := Int32.le_iff_toInt_le.mp (Int32.not_lt.mp h1)
        by_cases h2 : g (q + i) ≤ 122
        · rw [if_pos h2]
          have := Int32.le_iff_toInt_le.mp h2
          exact ⟨fun q => absurd q (by decide), fun q => absurd (show 97 ≤ c ∧ c ≤ 122 by omega) q⟩
        · rw [if_neg h2]
          have := Int32.lt_iff_toInt_lt.mp (Int32.not_le.mp h2)
          exact ⟨fun _ => by omega, fun _ => rfl⟩
    show (if mSmall (g (q + i)) = 0 then 0 else allF g q r.length (i + 1)).toInt = _
    have ea : allL (c :: r) = (decide (97 ≤ c ∧ c ≤ 122) && allL r) := rfl
    rw [ea]
    by_cases hq : 97 ≤ c ∧ c ≤ 122
    · rw [if_neg (fun w => hs.mp w hq), hr, decide_eq_true hq, Bool.true_and]
    · rw [if_pos (hs.mpr hq), decide_eq_false hq, Bool.false_and, if_neg (by decide)]; decide
theorem m_W {at9 : At7} {gm : Nat → Nat → Int32} {lg : Nat → Nat → Int64} {e : Nat} {P : Int} {nn : Int64} (h : ATR at9 gm lg e P) (he : e < 80) (h12 : at9.length ≤ 12) : mWord gm lg e nn = aW at9 nn ∧ (mIsW gm lg e nn).toInt = aI at9 nn ∧ (mHas gm lg e nn).toInt = aH at9 nn := by
  have hH := fnd_h (nn := nn) h he h12
  unfold mWord mIsW mHas aW aI aH
  rcases mFind_g (nn := nn) h with ⟨q1, q2⟩ | ⟨i, y, q1, q2, q3⟩
  · rw [if_pos q1, if_pos q1, if_pos q1, q2, if_neg (by rw [hH.mp q1]; decide)]
    exact ⟨rfl, rfl, by decide⟩
  · have hi := gl_lt q1
    have k1 : (nI (12 * e + i)).toInt = ((12 * e + i : Nat) : Int) := nI_toInt (by omega)
    have hne : ¬ mFind gm lg e nn = -1 := fun w => by
      rw [q2] at w
      have := congrArg Int32.toInt w
      rw [k1] at this
      have k9 : (-1 : Int32).toInt = -1 := by decide
      omega
    have k2 : (nI (12 * e + i)).toNatClampNeg = 12 * e + i := by show (nI (12 * e + i)).toInt.toNat = _; omega
    have hh : hasK at9 nn = true := by cases h9 : hasK at9 nn with | true => rfl | false => exact absurd (hH.mpr h9) hne
    rw [if_neg hne, if_neg hne, if_neg hne, q2, q3, k2]
    obtain ⟨r1, r2, r3, r4, r5⟩ := h.2 i y q1
    have k3 : (gm 37 (12 * e + i)).toNatClampNeg = y.2.length := by show (gm 37 (12 * e + i)).toInt.toNat = _; omega
    have k4 : (gm 36 (12 * e + i)).toNatClampNeg = (gm 36 (12 * e + i)).toInt.toNat := rfl
    have k8 : gm 37 (12 * e + i) ≤ 8 ↔ y.2.length ≤ 8 := by
      rw [Int32.le_iff_toInt_le, r2]
      have : (8 : Int32).toInt = 8 := by decide
      omega
    have k7 : gm 37 (12 * e + i) < 1 ↔ ¬ 1 ≤ y.2.length := by
      rw [Int32.lt_iff_toInt_lt, r2]
      have : (1 : Int32).toInt = 1 := by decide
      omega
    rw [k3, k4]
    have hc : ∀ j c, y.2[j]? = some c → (gm 38 ((gm 36 (12 * e + i)).toInt.toNat + 0 + j)).toInt = c := fun j c hj => r5 j c hj
    refine ⟨?_, ?_, by rw [if_pos hh]; decide⟩
    · show (if gm 37 (12 * e + i) ≤ 8 then _ else _) = (if y.2.length ≤ 8 then foL y.2 0 else -1)
      by_cases hq : y.2.length ≤ 8
      · rw [if_pos (k8.mpr hq), if_pos hq]; exact wordF_l y.2 0 0 hc
      · rw [if_neg (fun w => hq (k8.mp w)), if_neg hq]
    · show (if gm 37 (12 * e + i) < 1 then (0 : Int32) else if gm 37 (12 * e + i) ≤ 8 then _ else 0).toInt = (if 1 ≤ y.2.length ∧ y.2.length ≤ 8 ∧ allL y.2 = true then 1 else 0)
      by_cases h1 : 1 ≤ y.2.length
      · rw [if_neg (fun w => k7.mp w h1)]
        by_cases hq : y.2.length ≤ 8
        · rw [if_pos (k8.mpr hq), allF_l y.2 0 hc]
          by_cases h3 : allL y.2 = true
          · rw [if_pos h3, if_pos ⟨h1, hq, h3⟩]
          · rw [if_neg h3, if_neg (fun w => h3 w.2.2)]
        · rw [if_neg (fun w => hq (k8.mp w)), if_neg (fun w => hq w.2.1)]; decide
      · rw [if_pos (k7.mpr h1), if_neg (fun w => h1 w.1)]; decide

theorem lg_tr7 {x y : Int64} {z : Int32} (e : z = lg_cmp x y) : (z.toInt = 1 ∧ y.toInt < x.toInt) ∨ (z.toInt = 0 ∧ x.toInt = y.toInt) ∨ (z.toInt = -1 ∧ x.toInt < y.toInt) := by
  subst e
  unfold lg_cmp
  by_cases h1 : x > y
  · rw [if_pos h1]; exact Or.inl ⟨by decide, Int64.lt_iff_toInt_lt.mp h1⟩
  · rw [if_neg h1]
    by_cases h2 : x = y
    · rw [if_pos h2, h2]; exact Or.inr (Or.inl ⟨by decide, rfl⟩)
    · rw [if_neg h2]
      have h3 : ¬ x.toInt = y.toInt := fun q => h2 (Int64.toInt_inj.mp q)
      have h4 : ¬ y.toInt < x.toInt := fun q => h1 (Int64.lt_iff_toInt_lt.mpr q)
      exact Or.inr (Or.inr ⟨by decide, by omega⟩)
theorem shr8g {v w : Int64} (e : w = v >>> ((8 : Int32).toInt64 &&& 63)) : w.toInt = v.toInt / 256 := by
  rw [e, sh8]
  have h : (v >>> (8 : Int64)).toInt = (v.toBitVec.sshiftRight 8).toInt := rfl
  rw [h, BitVec.toInt_sshiftRight, Int.shiftRight_eq_div_pow]
  rfl
theorem and255g {v w : Int64} (e : w = v &&& 255) : w.toInt = v.toInt % 256 := by
  rw [e]
  have k2 : (v &&& 255).toBitVec.toNat = v.toBitVec.toNat % 256 := by
    show (v.toBitVec &&& 255#64).toNat = _
    rw [BitVec.toNat_and]
    exact Nat.and_two_pow_sub_one_eq_mod _ 8
  have k3 : (v &&& 255).toInt = ((v &&& 255).toBitVec.toNat : Int) := l_int (by omega)
  have k4 : v.toBitVec.toInt = v.toInt := rfl
  have k5 := BitVec.toInt_eq_toNat_cond v.toBitVec
  rw [k3, k2]
  rw [k4] at k5
  split at k5 <;> omega
theorem l2i_g {v : Int64} {z : Int32} (e : z = v.toInt32) (h0 : 0 ≤ v.toInt) (h1 : v.toInt ≤ 255) : z.toInt = v.toInt := by
  rw [e, Int64.toInt_toInt32]
  exact i32_bm (by omega)
abbrev CLSV (z : Int) : Prop := z / 256 = 75 ∧ 48 ≤ z % 256 ∧ z % 256 ≤ 55

set_option maxHeartbeats 4000000 in
set_option maxRecDepth 100000 in
theorem a_classIn2 (l : Launch) (dC : Nat → ClassId) (dI : Nat → Nat → Nat) (sz : Nat) (w : Int64) : Met l yX13_classIn wm_X13_classIn ({ frames := 0, cells := 0, slots := 0, locals := 0 }) (va_Pc [.long w] (fun U => U.heap.size = sz ∧ va_P (dC, dI) vwCl [] U.heap ∧ va_K (dC, dI) vwCl [] U ∧ va_D (fun _ => True) [])) (va_Qi (fun (r : Int32) (_ : Unit) => iv (-1) 7 r ∧ ((r.toInt = -1 ∧ ¬ CLSV w.toInt) ∨ (r.toInt = w.toInt % 256 - 48 ∧ CLSV w.toInt))) (fun _ t => va_P (dC, dI) vwCl [] t.heap ∧ va_K (dC, dI) vwCl [] t ∧ va_D (va_A [] sz) []) (va_A [] sz)) 0 0 (va_A [] sz) := by
  refine Met.ofW (cc := cX13_classIn) (maxL := 2) (ret := (some .int)) (by decide) rfl ?_
  intro p e s m args below meth c s₁ B hml hv
  obtain ⟨rfl, hsz, hP, hK, hD0⟩ := hv
  have hx := B.exec
  have hb := B.bytes
  have hr := B.returns
  have hts := atoms_spec (ws := wm_X13_classIn) B.pre
  have htb := fun (w : Cond) (h : w ∈ tb) => hts w (List.mem_cons_of_mem _ h)
  have hown : s.vm.findClass RX13 = some m.cls := findClass_of_methodNamed B.named
  have hlocks := B.notSynchronized
  subst hsz
  have hD := hD0.self (sz := s.heap.size)
  generalize hAe : va_A [] s.heap.size = A at hD ⊢
  have hA : ∀ q : Nat, s.heap.size ≤ q → A q := fun q h => by rw [← hAe]; exact Or.inr h
  have hS : va_S A s.heap s.heap [] := va_S.rf
  have hP : va_P (dC, dI) vwCl [] s.heap := hP
  have hl := lv_entry ([.long w]) (n := 2) (Nat.le_of_ble_eq_true rfl)
  rw [lg_entry_eq]
  generalize (lg_sl ([.long w]) ++ List.replicate (2 - (lg_sl ([.long w])).length) Slot.unset).toArray = ls at hl ⊢
  have hl : lv_has ls 2 [(0, .long w)] := hl
  have hj48 : ∀ (y0_48 : Int32) (_ : iv (-1) 7 y0_48) (_ : (y0_48.toInt = -1 ∧ ¬ CLSV w.toInt) ∨ (y0_48.toInt = w.toInt % 256 - 48 ∧ CLSV w.toInt)) (H : Heap) (locs : List Loc) (ls : Array Slot), va_P (dC, dI) vwCl [] H → va_D A [] → va_S A s.heap H locs → lv_has ls 2 [(0, .long w)] → W p l e (headSpec wm_X13_classIn ({ frames := 0, cells := 0, slots := 0, locals := 0 })).room s m ([.long w] : List Value).toArray below meth c H locs 0 0 (MQ below (va_Qi (fun (r : Int32) (_ : Unit) => iv (-1) 7 r ∧ ((r.toInt = -1 ∧ ¬ CLSV w.toInt) ∨ (r.toInt = w.toInt % 256 - 48 ∧ CLSV w.toInt))) (fun _ t => va_P (dC, dI) vwCl [] t.heap ∧ va_K (dC, dI) vwCl [] t ∧ va_D A []) A) ([.long w] : List Value).toArray s 0 0 A) (F0 m 48 ls [.int y0_48]) := by
    intro y0_48 hy0_48 u48 H locs ls hP hD hS hl
    exact W.iret (v := y0_48) hx hb hr (fun t ht hW => ⟨⟨y0_48, (), rfl, ⟨hy0_48, (u48)⟩, by rw [ht]; exact hP, va_K.moved hW.alike hK, hD⟩, hS.F ht⟩) hS.2.2 dX13_classIn_48
  have hj47 : ∀ (_ : ¬ CLSV w.toInt) (H : Heap) (locs : List Loc) (ls : Array Slot), va_P (dC, dI) vwCl [] H → va_D A [] → va_S A s.heap H locs → lv_has ls 2 [(0, .long w)] → W p l e (headSpec wm_X13_classIn ({ frames := 0, cells := 0, slots := 0, locals := 0 })).room s m ([.long w] : List Value).toArray below meth c H locs 0 0 (MQ below (va_Qi (fun (r : Int32) (_ : Unit) => iv (-1) 7 r ∧ ((r.toInt = -1 ∧ ¬ CLSV w.toInt) ∨ (r.toInt = w.toInt % 256 - 48 ∧ CLSV w.toInt))) (fun _ t => va_P (dC, dI) vwCl [] t.heap ∧ va_K (dC, dI) vwCl [] t ∧ va_D A []) A) ([.long w] : List Value).toArray s 0 0 A) (F0 m 47 ls []) := by
    intro  u47 H locs ls hP hD hS hl
    refine lv_iconst (v := (-1)) hx hb dX13_classIn_47 (by decide) ?_
    exact hj48 (-1) (iv_w (iv_k (by decide) : iv (-1) (-1) (-1)) (by decide)) (Or.inl ⟨rfl, u47⟩) _ _ _ hP hD hS (lv_sub hl [0] rfl)
  refine lv_lload_n hx hb dX13_classIn_0 rfl (lv_at hl 0 rfl) ?_
  refine lv_bipush (v := 8) hx hb dX13_classIn_1 (by decide) ?_
  refine lv_lshr (v := w >>> ((8 : Int32).toInt64 &&& 63)) hx hb dX13_classIn_3 rfl ?_
  refine lv_topl (fun z_1 ez_1 => ?_)
  have gz_1 := shr8g ez_1
  refine lv_ldc2 (own := RX13) (v := 75) hx hb hown (htb _ kw_929) dX13_classIn_4 ?_
  refine W.lcmp hx hb dX13_classIn_7 ?_
  refine lv_topi (fun z_2 ez_2 => ?_)
  have hz_2 : iv (-1) 1 z_2 := iv_of ez_2 (iv_cmp _ _)
  have hl_z_2 := lg_tr7 ez_2
  rw [show (75 : Int64).toInt = 75 from by decide] at hl_z_2
  refine lv_if_ne (tgt := 47) hx hb dX13_classIn_8 (by decide) (fun c_3 => ?_) (fun c_3 => ?_)
  · have d_4 : ¬ (z_2 : Int32).toInt = 0 := lv_neT c_3 rfl
    exact hj47 (by have := i32_0; have := i32_1; have := i32_2; have := i32_m1; have := (hz_2).1; have := (hz_2).2; omega) _ _ _ hP hD hS (lv_sub hl [0] rfl)
  · have h_5 : iv 0 0 z_2 := iv_eq c_3 hz_2 (iv_k (by decide) : iv 0 0 0) (by decide)
    refine lv_lload_n hx hb dX13_classIn_11 rfl (lv_at hl 0 rfl) ?_
    refine lv_ldc2 (own := RX13) (v := 255) hx hb hown (htb _ kw_874) dX13_classIn_12 ?_
    refine lv_land hx hb dX13_classIn_15 ?_
    refine lv_topl (fun z_6 ez_6 => ?_)
    have gz_6 := and255g ez_6
    refine lv_ldc2 (own := RX13) (v := 48) hx hb hown (htb _ kw_890) dX13_classIn_16 ?_
    refine W.lcmp hx hb dX13_classIn_19 ?_
    refine lv_topi (fun z_7 ez_7 => ?_)
    have hz_7 : iv (-1) 1 z_7 := iv_of ez_7 (iv_cmp _ _)
    have hl_z_7 := lg_tr7 ez_7
    rw [show (48 : Int64).toInt = 48 from by decide] at hl_z_7
    refine lv_if_lt (tgt := 47) hx hb dX13_classIn_20 (by decide) (fun c_8 => ?_) (fun c_8 => ?_)
    · have h_9 : iv (-1) (-1) z_7 := iv_ltL c_8 hz_7 (iv_k (by decide) : iv 0 0 0) (by decide)
      exact hj47 (by have := i32_0; have := i32_1; have := i32_2; have := i32_m1; have := (h_5).1; have := (h_5).2; have := (h_9).1; have := (h_9).2; omega) _ _ _ hP hD hS (lv_sub hl [0] rfl)
    · have h_10 : iv 0 1 z_7 := iv_leR (i32_ge c_8) (iv_k (by decide) : iv 0 0 0) hz_7 (by decide)
      refine lv_lload_n hx hb dX13_classIn_23 rfl (lv_at hl 0 rfl) ?_
      refine lv_ldc2 (own := RX13) (v := 255) hx hb hown (htb _ kw_874) dX13_classIn_24 ?_
      refine lv_land hx hb dX13_classIn_27 ?_
      refine lv_topl (fun z_11 ez_11 => ?_)
      have gz_11 := and255g ez_11
      refine lv_ldc2 (own := RX13) (v := 55) hx hb hown (htb _ kw_930) dX13_classIn_28 ?_
      refine W.lcmp hx hb dX13_classIn_31 ?_
      refine lv_topi (fun z_12 ez_12 => ?_)
      have hz_12 : iv (-1) 1 z_12 := iv_of ez_12 (iv_cmp _ _)
      have hl_z_12 := lg_tr7 ez_12
      rw [show (55 : Int64).toInt = 55 from by decide] at hl_z_12
      refine lv_if_gt (tgt := 47) hx hb dX13_classIn_32 (by decide) (fun c_13 => ?_) (fun c_13 => ?_)
      · have h_14 : iv 1 1 z_12 := iv_ltR c_13 (iv_k (by decide) : iv 0 0 0) hz_12 (by decide)
        exact hj47 (by have := i32_0; have := i32_1; have := i32_2; have := i32_m1; have := (h_5).1; have := (h_5).2; have := (h_10).1; have := (h_10).2; have := (h_14).1; have := (h_14).2; omega) _ _ _ hP hD hS (lv_sub hl [0] rfl)
      · have h_15 : iv (-1) 0 z_12 := iv_leL (i32_ge c_13) hz_12 (iv_k (by decide) : iv 0 0 0) (by decide)
        refine lv_lload_n hx hb dX13_classIn_35 rfl (lv_at hl 0 rfl) ?_
        refine lv_ldc2 (own := RX13) (v := 255) hx hb hown (htb _ kw_874) dX13_classIn_36 ?_
        refine lv_land hx hb dX13_classIn_39 ?_
        refine lv_topl (fun z_16 ez_16 => ?_)
        have gz_16 := and255g ez_16
        have gz_16 := and255g ez_16
        refine lv_l2i (v := (z_16).toInt32) hx hb dX13_classIn_40 rfl ?_
        refine lv_topi (fun z_17 ez_17 => ?_)
        have hz_17 : iv 0 255 z_17 := iv_of ez_17 (iv_l255 ez_16)
        have h_18 : iv 48 55 z_17 := cl_iv ez_16 ez_17 ez_6 ez_7 c_8 ez_11 ez_12 c_13
        have gz_17 := l2i_g ez_17 (by have := gz_16; omega) (by have := gz_16; omega)
        refine lv_bipush (v := 48) hx hb dX13_classIn_41 (by decide) ?_
        refine lv_isub hx hb dX13_classIn_43 ?_
        refine lv_topi (fun z_19 ez_19 => ?_)
        have hz_19 : iv 0 7 z_19 := iv_of ez_19 (iv_sub h_18 (iv_k (by decide) : iv 48 48 48) (by decide))
        have tz_19 : z_19.toInt = (z_17 : Int32).toInt - 48 := by rw [ez_19]; exact iv_subE h_18 (iv_k (by decide) : iv 48 48 48) (by decide)
        refine lv_goto (tgt := 48) hx hb dX13_classIn_44 (by decide) ?_
        exact hj48 z_19 (iv_w hz_19 (by decide)) (by have := i32_0; have := i32_1; have := i32_2; have := i32_m1; have := (h_5).1; have := (h_5).2; have := (h_10).1; have := (h_10).2; have := (h_15).1; have := (h_15).2; have := (h_18).1; have := (h_18).2; have := (hz_19).1; have := (hz_19).2; omega) _ _ _ hP hD hS (lv_sub hl [0] rfl)
end
section
/-- the reference's tables of words -/
def WRD7 (l0 l1 : Nat → Int64) : Prop := (l0 0 = 422607679091 ∧ l0 1 = 418430673267 ∧ l0 2 = 1650811246 ∧ l0 3 = 6386279 ∧ l0 4 = 7562612 ∧ l0 5 = 1818850164 ∧ l0 6 = 508440638821 ∧ l0 7 = 7497062 ∧ l0 8 = 1853189228 ∧ l0 9 = 119225866483056) ∧ (l1 0 = 7955827 ∧ l1 1 = 28271 ∧ l1 2 = 7302757 ∧ l1 3 = 1835101817 ∧ l1 4 = 6909556 ∧ l1 5 = 500136506472 ∧ l1 6 = 1667785074 ∧ l1 7 = 1952807028 ∧ l1 8 = 7499639 ∧ l1 9 = 1953658213 ∧ l1 10 = 439721161573)
theorem WRD7_k {l0 l1 m0 m1 : Nat → Int64} (h : WRD7 l0 l1) (a : m0 = l0) (b : m1 = l1) : WRD7 m0 m1 := by rw [a, b]; exact h
def wd7 (k : Nat) : Int := match k with | 0 => 7955827 | 1 => 28271 | 2 => 7302757 | 3 => 1835101817 | 4 => 6909556 | 5 => 500136506472 | 6 => 1667785074 | 7 => 1952807028 | 8 => 7499639 | 9 => 1953658213 | _ => 439721161573
theorem WRD7_1 {l0 l1 : Nat → Int64} (h : WRD7 l0 l1) {k : Nat} (hk : k < 11) : (l1 k).toInt = wd7 k := by
  obtain ⟨_, b0, b1, b2, b3, b4, b5, b6, b7, b8, b9, b10⟩ := h
  rcases (show k = 0 ∨ k = 1 ∨ k = 2 ∨ k = 3 ∨ k = 4 ∨ k = 5 ∨ k = 6 ∨ k = 7 ∨ k = 8 ∨ k = 9 ∨ k = 10 by omega) with rfl | rfl | rfl | rfl | rfl | rfl | rfl | rfl | rfl | rfl | rfl
  · rw [b0]; decide
  · rw [b1]; decide
  · rw [b2]; decide
  · rw [b3]; decide
  · rw [b4]; decide
  · rw [b5]; decide
  · rw [b6]; decide
  · rw [b7]; decide
  · rw [b8]; decide
  · rw [b9]; decide
  · rw [b10]; decide

set_option maxHeartbeats 4000000 in
set_option maxRecDepth 100000 in
theorem f_isOneLetter2 (l : Launch) (dC : Nat → ClassId) (dI : Nat → Nat → Nat) (h0 : Nat) (ad : Nat → Nat) (cid : Nat → ClassId) (sg : Nat → Int32) (gm : Nat → Nat → Int32) (lg : Nat → Nat → Int64) (x : Int32) (nn : Int64) (hI : MI sg gm) (hvx : iv 0 79 x) : MMi l dC dI yX13_isOneLetter wm_X13_isOneLetter ({ frames := 2, cells := 0, slots := 0, locals := 51 }) h0 ad cid [.int x, .long nn] sg gm lg (fun r v => (iv 0 1 r) ∧ ((r.toInt = 1 ∧ ((mIsW gm lg x.toNatClampNeg nn).toInt = 1 ∧ (mWord gm lg x.toNatClampNeg nn).toInt < 256)) ∨ (r.toInt = 0 ∧ ¬ ((mIsW gm lg x.toNatClampNeg nn).toInt = 1 ∧ (mWord gm lg x.toNatClampNeg nn).toInt < 256))) ∧ v = (sg, gm, lg)) := by
  intro sz
  refine Met.ofW (cc := cX13_isOneLetter) (maxL := 4) (ret := (some .boolean)) (by decide) rfl ?_
  intro p e s m args below meth c s₁ B hml hv
  obtain ⟨rfl, hsz, hP, hK, hD0⟩ := hv
  have hx := B.exec
  have hb := B.bytes
  have hr := B.returns
  have hts := atoms_spec (ws := wm_X13_isOneLetter) B.pre
  have htb := fun (w : Cond) (h : w ∈ tb) => hts w (List.mem_cons_of_mem _ h)
  have hown : s.vm.findClass RX13 = some m.cls := findClass_of_methodNamed B.named
  have hlocks := B.notSynchronized
  subst hsz
  have hD := hD0.self (sz := s.heap.size)
  generalize hAe : va_A (mW h0 ad cid sg gm lg) s.heap.size = A at hD ⊢
  have hA : ∀ q : Nat, s.heap.size ≤ q → A q := fun q h => by rw [← hAe]; exact Or.inr h
  have hS : va_S A s.heap s.heap [] := va_S.rf
  have hl := lv_entry ([.ref h0, .int x, .long nn]) (n := 4) (Nat.le_of_ble_eq_true rfl)
  rw [lg_entry_eq]
  generalize (lg_sl ([.ref h0, .int x, .long nn]) ++ List.replicate (4 - (lg_sl ([.ref h0, .int x, .long nn])).length) Slot.unset).toArray = ls at hl ⊢
  have hl : lv_has ls 4 [(0, .ref h0), (1, .int x), (2, .long nn)] := hl
  have hj27 : ∀ (y0_27 : Int32) (_ : iv 0 79 x) (_ : iv 0 1 y0_27) (_ : (y0_27.toInt = 1 ∧ ((mIsW gm lg x.toNatClampNeg nn).toInt = 1 ∧ (mWord gm lg x.toNatClampNeg nn).toInt < 256)) ∨ (y0_27.toInt = 0 ∧ ¬ ((mIsW gm lg x.toNatClampNeg nn).toInt = 1 ∧ (mWord gm lg x.toNatClampNeg nn).toInt < 256))) (H : Heap) (locs : List Loc) (ls : Array Slot), va_P (dC, dI) vwCl (mW h0 ad cid sg gm lg) H → va_D A (mW h0 ad cid sg gm lg) → va_S A s.heap H locs → lv_has ls 4 [(0, .ref h0), (1, .int x), (2, .long nn)] → W p l e (headSpec wm_X13_isOneLetter ({ frames := 2, cells := 0, slots := 0, locals := 51 })).room s m ([.ref h0, .int x, .long nn] : List Value).toArray below meth c H locs 0 0 (MQ below (va_Qi (fun r v => (iv 0 1 r) ∧ ((r.toInt = 1 ∧ ((mIsW gm lg x.toNatClampNeg nn).toInt = 1 ∧ (mWord gm lg x.toNatClampNeg nn).toInt < 256)) ∨ (r.toInt = 0 ∧ ¬ ((mIsW gm lg x.toNatClampNeg nn).toInt = 1 ∧ (mWord gm lg x.toNatClampNeg nn).toInt < 256))) ∧ v = (sg, gm, lg)) (MB dC dI h0 ad cid A) A) ([.ref h0, .int x, .long nn] : List Value).toArray s 0 0 A) (F0 m 27 ls [.int y0_27]) := by
    intro y0_27 hsx1_27 hy0_27 u27 H locs ls hP hD hS hl
    exact W.zret (v := y0_27) hx hb hr (iv_nb hy0_27) (fun t ht hW => ⟨⟨y0_27, (sg, gm, lg), rfl, ⟨hy0_27, (u27), rfl⟩, by rw [ht]; exact hP, va_K.moved hW.alike hK, hD⟩, hS.F ht⟩) hS.2.2 dX13_isOneLetter_27
  have hj26 : ∀ (_ : iv 0 79 x) (_ : ¬ ((mIsW gm lg x.toNatClampNeg nn).toInt = 1 ∧ (mWord gm lg x.toNatClampNeg nn).toInt < 256)) (H : Heap) (locs : List Loc) (ls : Array Slot), va_P (dC, dI) vwCl (mW h0 ad cid sg gm lg) H → va_D A (mW h0 ad cid sg gm lg) → va_S A s.heap H locs → lv_has ls 4 [(0, .ref h0), (1, .int x), (2, .long nn)] → W p l e (headSpec wm_X13_isOneLetter ({ frames := 2, cells := 0, slots := 0, locals := 51 })).room s m ([.ref h0, .int x, .long nn] : List Value).toArray below meth c H locs 0 0 (MQ below (va_Qi (fun r v => (iv 0 1 r) ∧ ((r.toInt = 1 ∧ ((mIsW gm lg x.toNatClampNeg nn).toInt = 1 ∧ (mWord gm lg x.toNatClampNeg nn).toInt < 256)) ∨ (r.toInt = 0 ∧ ¬ ((mIsW gm lg x.toNatClampNeg nn).toInt = 1 ∧ (mWord gm lg x.toNatClampNeg nn).toInt < 256))) ∧ v = (sg, gm, lg)) (MB dC dI h0 ad cid A) A) ([.ref h0, .int x, .long nn] : List Value).toArray s 0 0 A) (F0 m 26 ls []) := by
    intro  hsx1_26 u26 H locs ls hP hD hS hl
    refine lv_iconst (v := 0) hx hb dX13_isOneLetter_26 (by decide) ?_
    exact hj27 0 hsx1_26 (iv_w (iv_k (by decide) : iv 0 0 0) (by decide)) (Or.inr ⟨rfl, u26⟩) _ _ _ hP hD hS (lv_sub hl [0, 1, 2] rfl)
  refine lv_aload_n hx hb dX13_isOneLetter_0 rfl (lv_at hl 0 rfl) ?_
  refine lv_iload_n hx hb dX13_isOneLetter_1 rfl (lv_at hl 1 rfl) ?_
  refine lv_lload_n hx hb dX13_isOneLetter_2 rfl (lv_at hl 2 rfl) ?_
  refine mr_calli (rest := []) ⟨hx, hb, hml, hown, htb⟩ (f_isWord l dC dI h0 ad cid sg gm lg x nn hI hvx) (cwV 2 htb (gd_V kw_910 kw_911 kw_912 kw_5 kw_1541) rfl rfl rfl (by decide +kernel) ⟨Nat.le_of_ble_eq_true rfl, Nat.le_of_ble_eq_true rfl⟩) rfl hl.1 rfl (Nat.le_of_ble_eq_true rfl) dX13_isOneLetter_3 ⟨Nat.zero_le _, Nat.zero_le _⟩ hK hP hD hS hA (fun r_1 u_2 H locs hw hP hD hS => ?_)
  obtain ⟨hr_1, fI_r_1, rfl⟩ := hw
  have hP : va_P (dC, dI) vwCl (mW h0 ad cid sg gm lg) H := hP
  have hD : va_D A (mW h0 ad cid sg gm lg) := hD
  refine lv_if_eq (tgt := 26) hx hb dX13_isOneLetter_6 (by decide) (fun c_3 => ?_) (fun c_3 => ?_)
  · have h_4 : iv 0 0 r_1 := iv_eq c_3 hr_1 (iv_k (by decide) : iv 0 0 0) (by decide)
    exact hj26 hvx (by have := i32_0; have := i32_1; have := i32_2; have := i32_m1; have := (hvx).1; have := (hvx).2; have := (h_4).1; have := (h_4).2; have := congrArg Int32.toInt fI_r_1; omega) _ _ _ hP hD hS (lv_sub hl [0, 1, 2] rfl)
  · have h_5 : iv 1 1 r_1 := iv_neL c_3 hr_1 (by decide)
    refine lv_aload_n hx hb dX13_isOneLetter_9 rfl (lv_at hl 0 rfl) ?_
    refine lv_iload_n hx hb dX13_isOneLetter_10 rfl (lv_at hl 1 rfl) ?_
    refine lv_lload_n hx hb dX13_isOneLetter_11 rfl (lv_at hl 2 rfl) ?_
    refine mr_calll (rest := []) ⟨hx, hb, hml, hown, htb⟩ (f_word l dC dI h0 ad cid sg gm lg x nn hI hvx) (cwV 2 htb (gd_V kw_923 kw_924 kw_925 kw_5 kw_1545) rfl rfl rfl (by decide +kernel) ⟨Nat.le_of_ble_eq_true rfl, Nat.le_of_ble_eq_true rfl⟩) rfl hl.1 rfl (Nat.le_of_ble_eq_true rfl) dX13_isOneLetter_12 ⟨Nat.zero_le _, Nat.zero_le _⟩ hK hP hD hS hA (fun r_6 u_7 H locs hw hP hD hS => ?_)
    obtain ⟨fW_r_6, rfl⟩ := hw
    have hP : va_P (dC, dI) vwCl (mW h0 ad cid sg gm lg) H := hP
    have hD : va_D A (mW h0 ad cid sg gm lg) := hD
    refine lv_ldc2 (own := RX13) (v := 256) hx hb hown (htb _ kw_922) dX13_isOneLetter_15 ?_
    refine W.lcmp hx hb dX13_isOneLetter_18 ?_
    refine lv_topi (fun z_8 ez_8 => ?_)
    have hz_8 : iv (-1) 1 z_8 := iv_of ez_8 (iv_cmp _ _)
    have hl_z_8 := lg_tr7 ez_8
    rw [show (256 : Int64).toInt = 256 from by decide] at hl_z_8
    refine lv_if_ge (tgt := 26) hx hb dX13_isOneLetter_19 (by decide) (fun c_9 => ?_) (fun c_9 => ?_)
    · have h_10 : iv 0 1 z_8 := iv_leR c_9 (iv_k (by decide) : iv 0 0 0) hz_8 (by decide)
      exact hj26 hvx (by have := i32_0; have := i32_1; have := i32_2; have := i32_m1; have := (hvx).1; have := (hvx).2; have := (h_5).1; have := (h_5).2; have := (h_10).1; have := (h_10).2; have := congrArg Int32.toInt fI_r_1; have := congrArg Int64.toInt fW_r_6; omega) _ _ _ hP hD hS (lv_sub hl [0, 1, 2] rfl)
    · have h_11 : iv (-1) (-1) z_8 := iv_ltL (i32_lt c_9) hz_8 (iv_k (by decide) : iv 0 0 0) (by decide)
      refine lv_iconst (v := 1) hx hb dX13_isOneLetter_22 (by decide) ?_
      refine lv_goto (tgt := 27) hx hb dX13_isOneLetter_23 (by decide) ?_
      exact hj27 1 hvx (iv_w (iv_k (by decide) : iv 1 1 1) (by decide)) (Or.inl ⟨rfl, by have := i32_0; have := i32_1; have := i32_2; have := i32_m1; have := (hvx).1; have := (hvx).2; have := (h_5).1; have := (h_5).2; have := (h_11).1; have := (h_11).2; have := congrArg Int32.toInt fI_r_1; have := congrArg Int64.toInt fW_r_6; omega⟩) _ _ _ hP hD hS (lv_sub hl [0, 1, 2] rfl)

set_option maxHeartbeats 4000000 in
set_option maxRecDepth 100000 in
theorem f_isOneOf2 (l : Launch) (dC : Nat → ClassId) (dI : Nat → Nat → Nat) (h0 : Nat) (ad : Nat → Nat) (cid : Nat → ClassId) (sg : Nat → Int32) (gm : Nat → Nat → Int32) (lg : Nat → Nat → Int64) (x : Int32) (nn : Int64) (a : Int32) (b : Int32) (hI : MI sg gm) (hvx : iv 0 79 x) (hva : iv 0 10 a) (hvb : iv 0 10 b) (hwd : WRD7 (lg 0) (lg 1)) : MMi l dC dI yX13_isOneOf wm_X13_isOneOf ({ frames := 2, cells := 0, slots := 0, locals := 51 }) h0 ad cid [.int x, .long nn, .int a, .int b] sg gm lg (fun r v => (iv 0 1 r) ∧ ((r.toInt = 1 ∧ ((mHas gm lg x.toNatClampNeg nn).toInt = 0 ∨ (mWord gm lg x.toNatClampNeg nn).toInt = wd7 a.toInt.toNat ∨ (mWord gm lg x.toNatClampNeg nn).toInt = wd7 b.toInt.toNat)) ∨ (r.toInt = 0 ∧ ¬ ((mHas gm lg x.toNatClampNeg nn).toInt = 0 ∨ (mWord gm lg x.toNatClampNeg nn).toInt = wd7 a.toInt.toNat ∨ (mWord gm lg x.toNatClampNeg nn).toInt = wd7 b.toInt.toNat))) ∧ v = (sg, gm, lg)) := by
  intro sz
  refine Met.ofW (cc := cX13_isOneOf) (maxL := 6) (ret := (some .boolean)) (by decide) rfl ?_
  intro p e s m args below meth c s₁ B hml hv
  obtain ⟨rfl, hsz, hP, hK, hD0⟩ := hv
  have hx := B.exec
  have hb := B.bytes
  have hr := B.returns
  have hts := atoms_spec (ws := wm_X13_isOneOf) B.pre
  have htb := fun (w : Cond) (h : w ∈ tb) => hts w (List.mem_cons_of_mem _ h)
  have hown : s.vm.findClass RX13 = some m.cls := findClass_of_methodNamed B.named
  have hlocks := B.notSynchronized
  subst hsz
  have hD := hD0.self (sz := s.heap.size)
  generalize hAe : va_A (mW h0 ad cid sg gm lg) s.heap.size = A at hD ⊢
  have hA : ∀ q : Nat, s.heap.size ≤ q → A q := fun q h => by rw [← hAe]; exact Or.inr h
  have hS : va_S A s.heap s.heap [] := va_S.rf
  have hl := lv_entry ([.ref h0, .int x, .long nn, .int a, .int b]) (n := 6) (Nat.le_of_ble_eq_true rfl)
  rw [lg_entry_eq]
  generalize (lg_sl ([.ref h0, .int x, .long nn, .int a, .int b]) ++ List.replicate (6 - (lg_sl ([.ref h0, .int x, .long nn, .int a, .int b])).length) Slot.unset).toArray = ls at hl ⊢
  have hl : lv_has ls 6 [(0, .ref h0), (1, .int x), (2, .long nn), (4, .int a), (5, .int b)] := hl
  have hj48 : ∀ (y0_48 : Int32) (_ : iv 0 79 x) (_ : iv 0 10 a) (_ : iv 0 10 b) (_ : iv 0 1 y0_48) (_ : (y0_48.toInt = 1 ∧ ((mHas gm lg x.toNatClampNeg nn).toInt = 0 ∨ (mWord gm lg x.toNatClampNeg nn).toInt = wd7 a.toInt.toNat ∨ (mWord gm lg x.toNatClampNeg nn).toInt = wd7 b.toInt.toNat)) ∨ (y0_48.toInt = 0 ∧ ¬ ((mHas gm lg x.toNatClampNeg nn).toInt = 0 ∨ (mWord gm lg x.toNatClampNeg nn).toInt = wd7 a.toInt.toNat ∨ (mWord gm lg x.toNatClampNeg nn).toInt = wd7 b.toInt.toNat))) (H : Heap) (locs : List Loc) (ls : Array Slot), va_P (dC, dI) vwCl (mW h0 ad cid sg gm lg) H → va_D A (mW h0 ad cid sg gm lg) → va_S A s.heap H locs → lv_has ls 6 [(0, .ref h0), (1, .int x), (2, .long nn), (4, .int a), (5, .int b)] → W p l e (headSpec wm_X13_isOneOf ({ frames := 2, cells := 0, slots := 0, locals := 51 })).room s m ([.ref h0, .int x, .long nn, .int a, .int b] : List Value).toArray below meth c H locs 0 0 (MQ below (va_Qi (fun r v => (iv 0 1 r) ∧ ((r.toInt = 1 ∧ ((mHas gm lg x.toNatClampNeg nn).toInt = 0 ∨ (mWord gm lg x.toNatClampNeg nn).toInt = wd7 a.toInt.toNat ∨ (mWord gm lg x.toNatClampNeg nn).toInt = wd7 b.toInt.toNat)) ∨ (r.toInt = 0 ∧ ¬ ((mHas gm lg x.toNatClampNeg nn).toInt = 0 ∨ (mWord gm lg x.toNatClampNeg nn).toInt = wd7 a.toInt.toNat ∨ (mWord gm lg x.toNatClampNeg nn).toInt = wd7 b.toInt.toNat))) ∧ v = (sg, gm, lg)) (MB dC dI h0 ad cid A) A) ([.ref h0, .int x, .long nn, .int a, .int b] : List Value).toArray s 0 0 A) (F0 m 48 ls [.int y0_48]) := by
    intro y0_48 hsx1_48 hsx4_48 hsx5_48 hy0_48 u48 H locs ls hP hD hS hl
    exact W.zret (v := y0_48) hx hb hr (iv_nb hy0_48) (fun t ht hW => ⟨⟨y0_48, (sg, gm, lg), rfl, ⟨hy0_48, (u48), rfl⟩, by rw [ht]; exact hP, va_K.moved hW.alike hK, hD⟩, hS.F ht⟩) hS.2.2 dX13_isOneOf_48
  have hj43 : ∀ (_ : iv 0 79 x) (_ : iv 0 10 a) (_ : iv 0 10 b) (_ : (mHas gm lg x.toNatClampNeg nn).toInt = 0 ∨ (mWord gm lg x.toNatClampNeg nn).toInt = wd7 a.toInt.toNat ∨ (mWord gm lg x.toNatClampNeg nn).toInt = wd7 b.toInt.toNat) (H : Heap) (locs : List Loc) (ls : Array Slot), va_P (dC, dI) vwCl (mW h0 ad cid sg gm lg) H → va_D A (mW h0 ad cid sg gm lg) → va_S A s.heap H locs → lv_has ls 6 [(0, .ref h0), (1, .int x), (2, .long nn), (4, .int a), (5, .int b)] → W p l e (headSpec wm_X13_isOneOf ({ frames := 2, cells := 0, slots := 0, locals := 51 })).room s m ([.ref h0, .int x, .long nn, .int a, .int b] : List Value).toArray below meth c H locs 0 0 (MQ below (va_Qi (fun r v => (iv 0 1 r) ∧ ((r.toInt = 1 ∧ ((mHas gm lg x.toNatClampNeg nn).toInt = 0 ∨ (mWord gm lg x.toNatClampNeg nn).toInt = wd7 a.toInt.toNat ∨ (mWord gm lg x.toNatClampNeg nn).toInt = wd7 b.toInt.toNat)) ∨ (r.toInt = 0 ∧ ¬ ((mHas gm lg x.toNatClampNeg nn).toInt = 0 ∨ (mWord gm lg x.toNatClampNeg nn).toInt = wd7 a.toInt.toNat ∨ (mWord gm lg x.toNatClampNeg nn).toInt = wd7 b.toInt.toNat))) ∧ v = (sg, gm, lg)) (MB dC dI h0 ad cid A) A) ([.ref h0, .int x, .long nn, .int a, .int b] : List Value).toArray s 0 0 A) (F0 m 43 ls []) := by
    intro  hsx1_43 hsx4_43 hsx5_43 u43 H locs ls hP hD hS hl
    refine lv_iconst (v := 1) hx hb dX13_isOneOf_43 (by decide) ?_
    refine lv_goto (tgt := 48) hx hb dX13_isOneOf_44 (by decide) ?_
    exact hj48 1 hsx1_43 hsx4_43 hsx5_43 (iv_w (iv_k (by decide) : iv 1 1 1) (by decide)) (Or.inl ⟨rfl, u43⟩) _ _ _ hP hD hS (lv_sub hl [0, 1, 2, 3, 4] rfl)
  refine lv_aload_n hx hb dX13_isOneOf_0 rfl (lv_at hl 0 rfl) ?_
  refine lv_iload_n hx hb dX13_isOneOf_1 rfl (lv_at hl 1 rfl) ?_
  refine lv_lload_n hx hb dX13_isOneOf_2 rfl (lv_at hl 2 rfl) ?_
  refine mr_calli (rest := []) ⟨hx, hb, hml, hown, htb⟩ (f_has l dC dI h0 ad cid sg gm lg x nn hI hvx) (cwV 2 htb (gd_V kw_916 kw_917 kw_918 kw_5 kw_1543) rfl rfl rfl (by decide +kernel) ⟨Nat.le_of_ble_eq_true rfl, Nat.le_of_ble_eq_true rfl⟩) rfl hl.1 rfl (Nat.le_of_ble_eq_true rfl) dX13_isOneOf_3 ⟨Nat.zero_le _, Nat.zero_le _⟩ hK hP hD hS hA (fun r_1 u_2 H locs hw hP hD hS => ?_)
  obtain ⟨hr_1, fH_r_1, rfl⟩ := hw
  have hP : va_P (dC, dI) vwCl (mW h0 ad cid sg gm lg) H := hP
  have hD : va_D A (mW h0 ad cid sg gm lg) := hD
  refine lv_if_eq (tgt := 43) hx hb dX13_isOneOf_6 (by decide) (fun c_3 => ?_) (fun c_3 => ?_)
  · have h_4 : iv 0 0 r_1 := iv_eq c_3 hr_1 (iv_k (by decide) : iv 0 0 0) (by decide)
    exact hj43 hvx hva hvb (by have := i32_0; have := i32_1; have := i32_2; have := i32_m1; have := (hvx).1; have := (hvx).2; have := (hva).1; have := (hva).2; have := (hvb).1; have := (hvb).2; have := (h_4).1; have := (h_4).2; have := congrArg Int32.toInt fH_r_1; omega) _ _ _ hP hD hS (lv_sub hl [0, 1, 2, 3, 4] rfl)
  · have h_5 : iv 1 1 r_1 := iv_neL c_3 hr_1 (by decide)
    refine lv_aload_n hx hb dX13_isOneOf_9 rfl (lv_at hl 0 rfl) ?_
    refine lv_iload_n hx hb dX13_isOneOf_10 rfl (lv_at hl 1 rfl) ?_
    refine lv_lload_n hx hb dX13_isOneOf_11 rfl (lv_at hl 2 rfl) ?_
    refine mr_calll (rest := []) ⟨hx, hb, hml, hown, htb⟩ (f_word l dC dI h0 ad cid sg gm lg x nn hI hvx) (cwV 2 htb (gd_V kw_923 kw_924 kw_925 kw_5 kw_1545) rfl rfl rfl (by decide +kernel) ⟨Nat.le_of_ble_eq_true rfl, Nat.le_of_ble_eq_true rfl⟩) rfl hl.1 rfl (Nat.le_of_ble_eq_true rfl) dX13_isOneOf_12 ⟨Nat.zero_le _, Nat.zero_le _⟩ hK hP hD hS hA (fun r_6 u_7 H locs hw hP hD hS => ?_)
    obtain ⟨fW_r_6, rfl⟩ := hw
    have hP : va_P (dC, dI) vwCl (mW h0 ad cid sg gm lg) H := hP
    have hD : va_D A (mW h0 ad cid sg gm lg) := hD
    refine lv_aload_n hx hb dX13_isOneOf_15 rfl (lv_at hl 0 rfl) ?_
    refine mr_get (v := .ref (ad 1)) hx hb htb inX13 hown hK hP 1 (by decide) (htb _ kw_156) rfl dX13_isOneOf_16 ?_
    refine lv_iload hx hb dX13_isOneOf_19 (lv_at hl 3 rfl) ?_
    refine mr_lald hx hb hK hP 1 (k := 1) rfl rfl rfl (show vp_in a 11 from (iv_in hva (by decide))) dX13_isOneOf_21 ?_
    refine lv_topl (fun z_8 ez_8 => ?_)
    have gz_8 : z_8.toInt = wd7 a.toInt.toNat := by rw [ez_8]; exact WRD7_1 hwd (show a.toInt.toNat < 11 from (by have := (hva).1; have := (hva).2; omega))
    refine W.lcmp hx hb dX13_isOneOf_22 ?_
    refine lv_topi (fun z_9 ez_9 => ?_)
    have hz_9 : iv (-1) 1 z_9 := iv_of ez_9 (iv_cmp _ _)
    have hl_z_9 := lg_tr7 ez_9
    refine lv_if_eq (tgt := 43) hx hb dX13_isOneOf_23 (by decide) (fun c_10 => ?_) (fun c_10 => ?_)
    · have h_11 : iv 0 0 z_9 := iv_eq c_10 hz_9 (iv_k (by decide) : iv 0 0 0) (by decide)
      exact hj43 hvx hva hvb (by have := i32_0; have := i32_1; have := i32_2; have := i32_m1; have := (hvx).1; have := (hvx).2; have := (hva).1; have := (hva).2; have := (hvb).1; have := (hvb).2; have := (h_5).1; have := (h_5).2; have := (h_11).1; have := (h_11).2; have := congrArg Int32.toInt fH_r_1; have := congrArg Int64.toInt fW_r_6; omega) _ _ _ hP hD hS (lv_sub hl [0, 1, 2, 3, 4] rfl)
    · have d_12 : ¬ (z_9 : Int32).toInt = 0 := lv_neT c_10 rfl
      refine lv_aload_n hx hb dX13_isOneOf_26 rfl (lv_at hl 0 rfl) ?_
      refine lv_iload_n hx hb dX13_isOneOf_27 rfl (lv_at hl 1 rfl) ?_
      refine lv_lload_n hx hb dX13_isOneOf_28 rfl (lv_at hl 2 rfl) ?_
      refine mr_calll (rest := []) ⟨hx, hb, hml, hown, htb⟩ (f_word l dC dI h0 ad cid sg gm lg x nn hI hvx) (cwV 2 htb (gd_V kw_923 kw_924 kw_925 kw_5 kw_1545) rfl rfl rfl (by decide +kernel) ⟨Nat.le_of_ble_eq_true rfl, Nat.le_of_ble_eq_true rfl⟩) rfl hl.1 rfl (Nat.le_of_ble_eq_true rfl) dX13_isOneOf_29 ⟨Nat.zero_le _, Nat.zero_le _⟩ hK hP hD hS hA (fun r_13 u_14 H locs hw hP hD hS => ?_)
      obtain ⟨fW_r_13, rfl⟩ := hw
      have hP : va_P (dC, dI) vwCl (mW h0 ad cid sg gm lg) H := hP
      have hD : va_D A (mW h0 ad cid sg gm lg) := hD
      refine lv_aload_n hx hb dX13_isOneOf_32 rfl (lv_at hl 0 rfl) ?_
      refine mr_get (v := .ref (ad 1)) hx hb htb inX13 hown hK hP 1 (by decide) (htb _ kw_156) rfl dX13_isOneOf_33 ?_
      refine lv_iload hx hb dX13_isOneOf_36 (lv_at hl 4 rfl) ?_
      refine mr_lald hx hb hK hP 1 (k := 1) rfl rfl rfl (show vp_in b 11 from (iv_in hvb (by decide))) dX13_isOneOf_38 ?_
      refine lv_topl (fun z_15 ez_15 => ?_)
      have gz_15 : z_15.toInt = wd7 b.toInt.toNat := by rw [ez_15]; exact WRD7_1 hwd (show b.toInt.toNat < 11 from (by have := (hvb).1; have := (hvb).2; omega))
      refine W.lcmp hx hb dX13_isOneOf_39 ?_
      refine lv_topi (fun z_16 ez_16 => ?_)
      have hz_16 : iv (-1) 1 z_16 := iv_of ez_16 (iv_cmp _ _)
      have hl_z_16 := lg_tr7 ez_16
      refine lv_if_ne (tgt := 47) hx hb dX13_isOneOf_40 (by decide) (fun c_17 => ?_) (fun c_17 => ?_)
      · have d_18 : ¬ (z_16 : Int32).toInt = 0 := lv_neT c_17 rfl
        refine lv_iconst (v := 0) hx hb dX13_isOneOf_47 (by decide) ?_
        exact hj48 0 hvx hva hvb (iv_w (iv_k (by decide) : iv 0 0 0) (by decide)) (Or.inr ⟨rfl, by have := i32_0; have := i32_1; have := i32_2; have := i32_m1; have := (hvx).1; have := (hvx).2; have := (hva).1; have := (hva).2; have := (hvb).1; have := (hvb).2; have := (h_5).1; have := (h_5).2; have := (hz_9).1; have := (hz_9).2; have := (hz_16).1; have := (hz_16).2; have := congrArg Int32.toInt fH_r_1; have := congrArg Int64.toInt fW_r_6; have := congrArg Int64.toInt fW_r_13; omega⟩) _ _ _ hP hD hS (lv_sub hl [0, 1, 2, 3, 4] rfl)
      · have h_19 : iv 0 0 z_16 := iv_eq c_17 hz_16 (iv_k (by decide) : iv 0 0 0) (by decide)
        exact hj43 hvx hva hvb (by have := i32_0; have := i32_1; have := i32_2; have := i32_m1; have := (hvx).1; have := (hvx).2; have := (hva).1; have := (hva).2; have := (hvb).1; have := (hvb).2; have := (h_5).1; have := (h_5).2; have := (hz_9).1; have := (hz_9).2; have := (h_19).1; have := (h_19).2; have := congrArg Int32.toInt fH_r_1; have := congrArg Int64.toInt fW_r_6; have := congrArg Int64.toInt fW_r_13; omega) _ _ _ hP hD hS (lv_sub hl [0, 1, 2, 3, 4] rfl)
end
