theorem ms_kept {dC : Nat → ClassId} {dI : Nat → Nat → Nat} {ws : va_W} {H H1 : Heap} (hP : va_P (dC, dI) vwCl ws H) (_ : H.size ≤ H1.size) (hk : ∀ q : Nat, q < H.size → ¬ va_A [] H.size q → H1[q]? = H[q]?) : va_P (dC, dI) vwCl ws H1 :=
  hP.kept (fun k q hq => hk _ (vx_lt hP hq) (fun h => by
    rcases h with ⟨i, e, h⟩ | h
    · simp at h
    · exact absurd h (Nat.not_le.mpr (vx_lt hP hq))))
def mAtt (gm : Nat → Nat → Int32) (e : Nat) : Prop := ∃ a, a ≤ 12 ∧ gm 30 e = nI a ∧ ∀ j, j < a → ∃ q z : Nat, gm 36 (12 * e + j) = nI q ∧ gm 37 (12 * e + j) = nI z ∧ z ≤ 24 ∧ q + z ≤ 2000
def findF (lg : Nat → Int64) (e : Nat) (nn : Int64) : Nat → Nat → Int32
  | 0, _ => -1
  | c + 1, j => if lg (12 * e + j) = nn then nI (12 * e + j) else findF lg e nn c (j + 1)
def mFind (gm : Nat → Nat → Int32) (lg : Nat → Nat → Int64) (e : Nat) (nn : Int64) : Int32 := findF (lg 35) e nn (gm 30 e).toNatClampNeg 0
def mHas (gm : Nat → Nat → Int32) (lg : Nat → Nat → Int64) (e : Nat) (nn : Int64) : Int32 := if mFind gm lg e nn = -1 then 0 else 1
theorem findF_or (lg : Nat → Int64) (e : Nat) (nn : Int64) : ∀ c j, findF lg e nn c j = -1 ∨ ∃ i, j ≤ i ∧ i < j + c ∧ findF lg e nn c j = nI (12 * e + i) := by
  intro c
  induction c with
  | zero => intro j; exact Or.inl rfl
  | succ c ih =>
    intro j
    by_cases h : lg (12 * e + j) = nn
    · exact Or.inr ⟨j, Nat.le_refl j, by omega, by show (if _ then _ else _) = _; rw [if_pos h]⟩
    · rcases ih (j + 1) with h1 | ⟨i, h1, h2, h3⟩
      · exact Or.inl (by show (if _ then _ else _) = _; rw [if_neg h]; exact h1)
      · exact Or.inr ⟨i, by omega, by omega, by show (if _ then _ else _) = _; rw [if_neg h]; exact h3⟩
theorem mFind_or {gm : Nat → Nat → Int32} {lg : Nat → Nat → Int64} {e a : Nat} (nn : Int64) (ha : a ≤ 12) (h : gm 30 e = nI a) : mFind gm lg e nn = -1 ∨ ∃ j, j < a ∧ mFind gm lg e nn = nI (12 * e + j) := by
  have h1 := findF_or (lg 35) e nn (gm 30 e).toNatClampNeg 0
  rw [h, nI_clamp (by omega)] at h1
  unfold mFind
  rw [h, nI_clamp (by omega)]
  rcases h1 with h1 | ⟨i, _, h2, h3⟩
  · exact Or.inl h1
  · exact Or.inr ⟨i, by omega, h3⟩
def wordF (ch : Nat → Int32) (q : Nat) : Nat → Nat → Int64 → Int64
  | 0, _, v => v
  | c + 1, i, v => wordF ch q c (i + 1) ((v <<< ((8 : Int32).toInt64 &&& 63)) ||| (ch (q + i) : Int32).toInt64)
def mWord (gm : Nat → Nat → Int32) (lg : Nat → Nat → Int64) (e : Nat) (nn : Int64) : Int64 := if mFind gm lg e nn = -1 then -1 else if gm 37 (mFind gm lg e nn).toNatClampNeg ≤ 8 then wordF (gm 38) (gm 36 (mFind gm lg e nn).toNatClampNeg).toNatClampNeg (gm 37 (mFind gm lg e nn).toNatClampNeg).toNatClampNeg 0 0 else -1

set_option maxHeartbeats 4000000 in
set_option maxRecDepth 100000 in
/-- find: the place of the attribute, or -1 -/
theorem k_find (l : Launch) (dC : Nat → ClassId) (dI : Nat → Nat → Nat) (h0 : Nat) (ad : Nat → Nat) (cid : Nat → ClassId) (sg : Nat → Int32) (gm : Nat → Nat → Int32) (lg : Nat → Nat → Int64) (el : Nat) (nn : Int64) (he : el < 80) (hat : mAtt gm el) : MMi l dC dI yX13_find wm_X13_find ({ frames := 0, cells := 0, slots := 0, locals := 0 }) h0 ad cid [.int (nI el), .long nn] sg gm lg (fun r v => r = mFind gm lg el nn ∧ v = (sg, gm, lg)) := by
  intro sz
  refine Met.ofW (cc := cX13_find) (maxL := 5) (ret := (some .int)) (by decide) rfl ?_
  intro p e s m args below meth c s₁ B hml hv
  obtain ⟨rfl, hsz, hP, hK, hD0⟩ := hv
  have hx := B.exec
  have hb := B.bytes
  have hr := B.returns
  have hts := atoms_spec (ws := wm_X13_find) B.pre
  have htb := fun (w : Cond) (h : w ∈ tb) => hts w (List.mem_cons_of_mem _ h)
  have hown : s.vm.findClass RX13 = some m.cls := findClass_of_methodNamed B.named
  have hlocks := B.notSynchronized
  subst hsz
  have hD := hD0.self (sz := s.heap.size)
  generalize hAe : va_A (mW h0 ad cid sg gm lg) s.heap.size = A at hD ⊢
  have hA : ∀ q : Nat, s.heap.size ≤ q → A q := fun q h => by rw [← hAe]; exact Or.inr h
  have hS : va_S A s.heap s.heap [] := va_S.rf
  have hl := lv_entry ([.ref h0, .int (nI el), .long nn]) (n := 5) (Nat.le_of_ble_eq_true rfl)
  rw [lg_entry_eq]
  generalize (lg_sl ([.ref h0, .int (nI el), .long nn]) ++ List.replicate (5 - (lg_sl ([.ref h0, .int (nI el), .long nn])).length) Slot.unset).toArray = ls at hl ⊢
  have hl : lv_has ls 5 [(0, .ref h0), (1, .int (nI el)), (2, .long nn)] := hl
  obtain ⟨a9, ha9, hae, -⟩ := hat
  refine lv_iconst (v := 0) hx hb dX13_find_0 (by decide) ?_
  refine lv_istore (lv' := [(4, .int 0), (0, .ref h0), (1, .int (nI el)), (2, .long nn)]) hx hb dX13_find_1 hl (by decide) rfl (fun ls hl => ?_)
  have hloop3 : ∀ (n : Nat) (j : Nat) (H : Heap) (locs : List Loc) (ls : Array Slot), j + n = a9 → mFind gm lg el nn = findF (lg 35) el nn n j → va_P (dC, dI) vwCl (mW h0 ad cid sg gm lg) H → va_D A (mW h0 ad cid sg gm lg) → va_S A s.heap H locs → lv_has ls 5 [(4, .int (nI j)), (0, .ref h0), (1, .int (nI el)), (2, .long nn)] → W p l e (headSpec wm_X13_find ({ frames := 0, cells := 0, slots := 0, locals := 0 })).room s m ([.ref h0, .int (nI el), .long nn] : List Value).toArray below meth c H locs 0 0 (MQ below (va_Qi (fun r v => r = mFind gm lg el nn ∧ v = (sg, gm, lg)) (MB dC dI h0 ad cid A) A) ([.ref h0, .int (nI el), .long nn] : List Value).toArray s 0 0 A) (F0 m 3 ls []) := by
    intro n
    induction n with
    | zero =>
      intro j H locs ls hj hE hP hD hS hl
      refine lv_iload hx hb dX13_find_3 (lv_at hl 0 rfl) ?_
      refine lv_aload_n hx hb dX13_find_5 rfl (lv_at hl 1 rfl) ?_
      refine mr_get (v := .ref (ad 30)) hx hb htb inX13 hown hK hP 30 (by decide) (htb _ kw_186) rfl dX13_find_6 ?_
      refine lv_iload_n hx hb dX13_find_9 rfl (lv_at hl 2 rfl) ?_
      refine mr_iald hx hb hK hP 23 (k := 30) rfl rfl rfl (show vp_in (nI el) 80 from (vp_in_nI he (by decide))) dX13_find_10 ?_
      refine lv_topi (fun z_1 ez_1 => ?_)
      obtain rfl : z_1 = (gm 30 el) := ez_1.trans (by rw [nI_clamp (by omega)])
      refine lv_topi (fun z_2 ez_2 => ?_)
      obtain rfl : z_2 = nI a9 := ez_2.trans (hae)
      refine lv_icmp_ge (tgt := 45) hx hb dX13_find_11 (by decide) (fun _ => ?_) (fun c_3 => absurd (nI_le (by omega) (by omega)) c_3)
      refine lv_iconst (v := (-1)) hx hb dX13_find_45 (by decide) ?_
      exact W.iret (v := (-1)) hx hb hr (fun t ht hW => ⟨⟨(-1), (sg, gm, lg), rfl, ⟨(hE.symm), rfl⟩, by rw [ht]; exact hP, va_K.moved hW.alike hK, hD⟩, hS.F ht⟩) hS.2.2 dX13_find_46
    | succ n ih =>
      intro j H locs ls hj hE hP hD hS hl
      refine lv_iload hx hb dX13_find_3 (lv_at hl 0 rfl) ?_
      refine lv_aload_n hx hb dX13_find_5 rfl (lv_at hl 1 rfl) ?_
      refine mr_get (v := .ref (ad 30)) hx hb htb inX13 hown hK hP 30 (by decide) (htb _ kw_186) rfl dX13_find_6 ?_
      refine lv_iload_n hx hb dX13_find_9 rfl (lv_at hl 2 rfl) ?_
      refine mr_iald hx hb hK hP 23 (k := 30) rfl rfl rfl (show vp_in (nI el) 80 from (vp_in_nI he (by decide))) dX13_find_10 ?_
      refine lv_topi (fun z_4 ez_4 => ?_)
      obtain rfl : z_4 = (gm 30 el) := ez_4.trans (by rw [nI_clamp (by omega)])
      refine lv_topi (fun z_5 ez_5 => ?_)
      obtain rfl : z_5 = nI a9 := ez_5.trans (hae)
      refine lv_icmp_ge (tgt := 45) hx hb dX13_find_11 (by decide) (fun c_6 => absurd c_6 (nI_ge (by omega) (by omega))) (fun _ => ?_)
      refine lv_aload_n hx hb dX13_find_14 rfl (lv_at hl 1 rfl) ?_
      refine mr_get (v := .ref (ad 35)) hx hb htb inX13 hown hK hP 35 (by decide) (htb _ kw_191) rfl dX13_find_15 ?_
      refine lv_bipush (v := 12) hx hb dX13_find_18 (by decide) ?_
      refine lv_iload_n hx hb dX13_find_20 rfl (lv_at hl 2 rfl) ?_
      refine lv_imul hx hb dX13_find_21 ?_
      refine lv_topi (fun z_7 ez_7 => ?_)
      obtain rfl : z_7 = nI (12 * el) := ez_7.trans (pk_mul _ _)
      refine lv_iload hx hb dX13_find_22 (lv_at hl 0 rfl) ?_
      refine lv_iadd hx hb dX13_find_24 ?_
      refine lv_topi (fun z_8 ez_8 => ?_)
      obtain rfl : z_8 = nI ((12 * el) + j) := ez_8.trans (nI_add _ _)
      refine mr_lald hx hb hK hP 28 (k := 35) rfl rfl rfl (show vp_in (nI ((12 * el) + j)) 960 from (vp_in_nI (by omega) (by decide))) dX13_find_25 ?_
      refine lv_topl (fun z_9 ez_9 => ?_)
      obtain rfl : z_9 = (lg 35 ((12 * el) + j)) := ez_9.trans (by rw [nI_clamp (by omega)])
      refine lv_lload_n hx hb dX13_find_26 rfl (lv_at hl 3 rfl) ?_
      refine W.lcmp hx hb dX13_find_27 ?_
      refine lv_if_ne (tgt := 39) hx hb dX13_find_28 (by decide) (fun c_10 => ?_) (fun c_10 => ?_)
      · refine lv_iinc (v := nI (j + 1)) (lv' := [(4, .int (nI (j + 1))), (0, .ref h0), (1, .int (nI el)), (2, .long nn)]) hx hb dX13_find_39 hl (k := 0) rfl (nI_1 _) (by decide) rfl (fun ls hl => ?_)
        refine lv_goto (tgt := 3) hx hb dX13_find_42 (by decide) ?_
        exact ih (j + 1) _ _ _ (by omega) (by rw [hE]; show (if _ then _ else _) = _; rw [if_neg (fun h => c_10 ((lg_cmp_eq _ _).mpr h))]) hP hD hS (lv_sub hl [0, 1, 2, 3] rfl)
      · refine lv_bipush (v := 12) hx hb dX13_find_31 (by decide) ?_
        refine lv_iload_n hx hb dX13_find_33 rfl (lv_at hl 2 rfl) ?_
        refine lv_imul hx hb dX13_find_34 ?_
        refine lv_topi (fun z_11 ez_11 => ?_)
        obtain rfl : z_11 = nI (12 * el) := ez_11.trans (pk_mul _ _)
        refine lv_iload hx hb dX13_find_35 (lv_at hl 0 rfl) ?_
        refine lv_iadd hx hb dX13_find_37 ?_
        refine lv_topi (fun z_12 ez_12 => ?_)
        obtain rfl : z_12 = nI ((12 * el) + j) := ez_12.trans (nI_add _ _)
        exact W.iret (v := nI ((12 * el) + j)) hx hb hr (fun t ht hW => ⟨⟨nI ((12 * el) + j), (sg, gm, lg), rfl, ⟨(by rw [hE]; show _ = (if _ then _ else _); rw [if_pos ((lg_cmp_eq _ _).mp c_10)]), rfl⟩, by rw [ht]; exact hP, va_K.moved hW.alike hK, hD⟩, hS.F ht⟩) hS.2.2 dX13_find_38
  exact hloop3 a9 0 _ _ _ (by omega) (by unfold mFind; rw [hae, nI_clamp (by omega)]) hP hD hS (lv_sub hl [0, 1, 2, 3] rfl)

set_option maxHeartbeats 4000000 in
set_option maxRecDepth 100000 in
theorem k_has (l : Launch) (dC : Nat → ClassId) (dI : Nat → Nat → Nat) (h0 : Nat) (ad : Nat → Nat) (cid : Nat → ClassId) (sg : Nat → Int32) (gm : Nat → Nat → Int32) (lg : Nat → Nat → Int64) (el : Nat) (nn : Int64) (he : el < 80) (hat : mAtt gm el) : MMi l dC dI yX13_has wm_X13_has ({ frames := 1, cells := 0, slots := 0, locals := 24 }) h0 ad cid [.int (nI el), .long nn] sg gm lg (fun r v => r = mHas gm lg el nn ∧ v = (sg, gm, lg)) := by
  intro sz
  refine Met.ofW (cc := cX13_has) (maxL := 4) (ret := (some .boolean)) (by decide) rfl ?_
  intro p e s m args below meth c s₁ B hml hv
  obtain ⟨rfl, hsz, hP, hK, hD0⟩ := hv
  have hx := B.exec
  have hb := B.bytes
  have hr := B.returns
  have hts := atoms_spec (ws := wm_X13_has) B.pre
  have htb := fun (w : Cond) (h : w ∈ tb) => hts w (List.mem_cons_of_mem _ h)
  have hown : s.vm.findClass RX13 = some m.cls := findClass_of_methodNamed B.named
  have hlocks := B.notSynchronized
  subst hsz
  have hD := hD0.self (sz := s.heap.size)
  generalize hAe : va_A (mW h0 ad cid sg gm lg) s.heap.size = A at hD ⊢
  have hA : ∀ q : Nat, s.heap.size ≤ q → A q := fun q h => by rw [← hAe]; exact Or.inr h
  have hS : va_S A s.heap s.heap [] := va_S.rf
  have hl := lv_entry ([.ref h0, .int (nI el), .long nn]) (n := 4) (Nat.le_of_ble_eq_true rfl)
  rw [lg_entry_eq]
  generalize (lg_sl ([.ref h0, .int (nI el), .long nn]) ++ List.replicate (4 - (lg_sl ([.ref h0, .int (nI el), .long nn])).length) Slot.unset).toArray = ls at hl ⊢
  have hl : lv_has ls 4 [(0, .ref h0), (1, .int (nI el)), (2, .long nn)] := hl
  refine lv_aload_n hx hb dX13_has_0 rfl (lv_at hl 0 rfl) ?_
  refine lv_iload_n hx hb dX13_has_1 rfl (lv_at hl 1 rfl) ?_
  refine lv_lload_n hx hb dX13_has_2 rfl (lv_at hl 2 rfl) ?_
  refine mr_calli (rest := []) ⟨hx, hb, hml, hown, htb⟩ (k_find l dC dI h0 ad cid sg gm lg el nn he hat) (cwV 2 htb (gd_V kw_862 kw_863 kw_864 kw_5 kw_1531) rfl rfl rfl (by decide +kernel) ⟨Nat.le_of_ble_eq_true rfl, Nat.le_of_ble_eq_true rfl⟩) rfl hl.1 rfl (Nat.le_of_ble_eq_true rfl) dX13_has_3 ⟨Nat.zero_le _, Nat.zero_le _⟩ hK hP hD hS hA (fun r_1 u_2 H locs hw hP hD hS => ?_)
  obtain ⟨rfl, rfl⟩ := hw
  refine lv_iconst (v := (-1)) hx hb dX13_has_6 (by decide) ?_
  refine lv_icmp_eq (tgt := 14) hx hb dX13_has_7 (by decide) (fun c_3 => ?_) (fun c_3 => ?_)
  · refine lv_iconst (v := 0) hx hb dX13_has_14 (by decide) ?_
    exact W.zret (v := 0) hx hb hr rfl (fun t ht hW => ⟨⟨0, (sg, gm, lg), rfl, ⟨(by unfold mHas; rw [if_pos c_3]), rfl⟩, by rw [ht]; exact hP, va_K.moved hW.alike hK, hD⟩, hS.F ht⟩) hS.2.2 dX13_has_15
  · refine lv_iconst (v := 1) hx hb dX13_has_10 (by decide) ?_
    refine lv_goto (tgt := 15) hx hb dX13_has_11 (by decide) ?_
    exact W.zret (v := 1) hx hb hr rfl (fun t ht hW => ⟨⟨1, (sg, gm, lg), rfl, ⟨(by unfold mHas; rw [if_neg c_3]), rfl⟩, by rw [ht]; exact hP, va_K.moved hW.alike hK, hD⟩, hS.F ht⟩) hS.2.2 dX13_has_15

def mSmall (x : Int32) : Int32 := if x < 97 then 0 else if x ≤ 122 then 1 else 0
def allF (ch : Nat → Int32) (q : Nat) : Nat → Nat → Int32
  | 0, _ => 1
  | c + 1, i => if mSmall (ch (q + i)) = 0 then 0 else allF ch q c (i + 1)
def mIsW (gm : Nat → Nat → Int32) (lg : Nat → Nat → Int64) (e : Nat) (nn : Int64) : Int32 := if mFind gm lg e nn = -1 then 0 else if gm 37 (mFind gm lg e nn).toNatClampNeg < 1 then 0 else if gm 37 (mFind gm lg e nn).toNatClampNeg ≤ 8 then allF (gm 38) (gm 36 (mFind gm lg e nn).toNatClampNeg).toNatClampNeg (gm 37 (mFind gm lg e nn).toNatClampNeg).toNatClampNeg 0 else 0

set_option maxHeartbeats 4000000 in
set_option maxRecDepth 100000 in
theorem k_isSmall (l : Launch) (dC : Nat → ClassId) (dI : Nat → Nat → Nat) (h0 : Nat) (ad : Nat → Nat) (cid : Nat → ClassId) (sg : Nat → Int32) (gm : Nat → Nat → Int32) (lg : Nat → Nat → Int64) (x : Int32) : MMi l dC dI yX13_isSmall wm_X13_isSmall ({ frames := 0, cells := 0, slots := 0, locals := 0 }) h0 ad cid [.int x] sg gm lg (fun r v => r = mSmall x ∧ v = (sg, gm, lg)) := by
  intro sz
  refine Met.ofW (cc := cX13_isSmall) (maxL := 2) (ret := (some .boolean)) (by decide) rfl ?_
  intro p e s m args below meth c s₁ B hml hv
  obtain ⟨rfl, hsz, hP, hK, hD0⟩ := hv
  have hx := B.exec
  have hb := B.bytes
  have hr := B.returns
  have hts := atoms_spec (ws := wm_X13_isSmall) B.pre
  have htb := fun (w : Cond) (h : w ∈ tb) => hts w (List.mem_cons_of_mem _ h)
  have hown : s.vm.findClass RX13 = some m.cls := findClass_of_methodNamed B.named
  have hlocks := B.notSynchronized
  subst hsz
  have hD := hD0.self (sz := s.heap.size)
  generalize hAe : va_A (mW h0 ad cid sg gm lg) s.heap.size = A at hD ⊢
  have hA : ∀ q : Nat, s.heap.size ≤ q → A q := fun q h => by rw [← hAe]; exact Or.inr h
  have hS : va_S A s.heap s.heap [] := va_S.rf
  have hl := lv_entry ([.ref h0, .int x]) (n := 2) (Nat.le_of_ble_eq_true rfl)
  rw [lg_entry_eq]
  generalize (lg_sl ([.ref h0, .int x]) ++ List.replicate (2 - (lg_sl ([.ref h0, .int x])).length) Slot.unset).toArray = ls at hl ⊢
  have hl : lv_has ls 2 [(0, .ref h0), (1, .int x)] := hl
  refine lv_iload_n hx hb dX13_isSmall_0 rfl (lv_at hl 1 rfl) ?_
  refine lv_bipush (v := 97) hx hb dX13_isSmall_1 (by decide) ?_
  refine lv_icmp_lt (tgt := 16) hx hb dX13_isSmall_3 (by decide) (fun c_1 => ?_) (fun c_1 => ?_)
  · refine lv_iconst (v := 0) hx hb dX13_isSmall_16 (by decide) ?_
    exact W.zret (v := 0) hx hb hr rfl (fun t ht hW => ⟨⟨0, (sg, gm, lg), rfl, ⟨(by simp [mSmall, c_1]), rfl⟩, by rw [ht]; exact hP, va_K.moved hW.alike hK, hD⟩, hS.F ht⟩) hS.2.2 dX13_isSmall_17
  · refine lv_iload_n hx hb dX13_isSmall_6 rfl (lv_at hl 1 rfl) ?_
    refine lv_bipush (v := 122) hx hb dX13_isSmall_7 (by decide) ?_
    refine lv_icmp_gt (tgt := 16) hx hb dX13_isSmall_9 (by decide) (fun c_2 => ?_) (fun c_2 => ?_)
    · refine lv_iconst (v := 0) hx hb dX13_isSmall_16 (by decide) ?_
      exact W.zret (v := 0) hx hb hr rfl (fun t ht hW => ⟨⟨0, (sg, gm, lg), rfl, ⟨(by simp [mSmall, c_1, c_2]), rfl⟩, by rw [ht]; exact hP, va_K.moved hW.alike hK, hD⟩, hS.F ht⟩) hS.2.2 dX13_isSmall_17
    · refine lv_iconst (v := 1) hx hb dX13_isSmall_12 (by decide) ?_
      refine lv_goto (tgt := 17) hx hb dX13_isSmall_13 (by decide) ?_
      exact W.zret (v := 1) hx hb hr rfl (fun t ht hW => ⟨⟨1, (sg, gm, lg), rfl, ⟨(by simp [mSmall, c_1, c_2]), rfl⟩, by rw [ht]; exact hP, va_K.moved hW.alike hK, hD⟩, hS.F ht⟩) hS.2.2 dX13_isSmall_17

set_option maxHeartbeats 4000000 in
set_option maxRecDepth 100000 in
theorem k_word (l : Launch) (dC : Nat → ClassId) (dI : Nat → Nat → Nat) (h0 : Nat) (ad : Nat → Nat) (cid : Nat → ClassId) (sg : Nat → Int32) (gm : Nat → Nat → Int32) (lg : Nat → Nat → Int64) (el : Nat) (nn : Int64) (he : el < 80) (hat : mAtt gm el) : MMl l dC dI yX13_word wm_X13_word ({ frames := 1, cells := 0, slots := 0, locals := 24 }) h0 ad cid [.int (nI el), .long nn] sg gm lg (fun r v => r = mWord gm lg el nn ∧ v = (sg, gm, lg)) := by
  intro sz
  refine Met.ofW (cc := cX13_word) (maxL := 8) (ret := (some .long)) (by decide) rfl ?_
  intro p e s m args below meth c s₁ B hml hv
  obtain ⟨rfl, hsz, hP, hK, hD0⟩ := hv
  have hx := B.exec
  have hb := B.bytes
  have hr := B.returns
  have hts := atoms_spec (ws := wm_X13_word) B.pre
  have htb := fun (w : Cond) (h : w ∈ tb) => hts w (List.mem_cons_of_mem _ h)
  have hown : s.vm.findClass RX13 = some m.cls := findClass_of_methodNamed B.named
  have hlocks := B.notSynchronized
  subst hsz
  have hD := hD0.self (sz := s.heap.size)
  generalize hAe : va_A (mW h0 ad cid sg gm lg) s.heap.size = A at hD ⊢
  have hA : ∀ q : Nat, s.heap.size ≤ q → A q := fun q h => by rw [← hAe]; exact Or.inr h
  have hS : va_S A s.heap s.heap [] := va_S.rf
  have hl := lv_entry ([.ref h0, .int (nI el), .long nn]) (n := 8) (Nat.le_of_ble_eq_true rfl)
  rw [lg_entry_eq]
  generalize (lg_sl ([.ref h0, .int (nI el), .long nn]) ++ List.replicate (8 - (lg_sl ([.ref h0, .int (nI el), .long nn])).length) Slot.unset).toArray = ls at hl ⊢
  have hl : lv_has ls 8 [(0, .ref h0), (1, .int (nI el)), (2, .long nn)] := hl
  obtain ⟨a9, ha9, hae, hall⟩ := id hat
  refine lv_aload_n hx hb dX13_word_0 rfl (lv_at hl 0 rfl) ?_
  refine lv_iload_n hx hb dX13_word_1 rfl (lv_at hl 1 rfl) ?_
  refine lv_lload_n hx hb dX13_word_2 rfl (lv_at hl 2 rfl) ?_
  refine mr_calli (rest := []) ⟨hx, hb, hml, hown, htb⟩ (k_find l dC dI h0 ad cid sg gm lg el nn he hat) (cwV 2 htb (gd_V kw_862 kw_863 kw_864 kw_5 kw_1531) rfl rfl rfl (by decide +kernel) ⟨Nat.le_of_ble_eq_true rfl, Nat.le_of_ble_eq_true rfl⟩) rfl hl.1 rfl (Nat.le_of_ble_eq_true rfl) dX13_word_3 ⟨Nat.zero_le _, Nat.zero_le _⟩ hK hP hD hS hA (fun r_1 u_2 H locs hw hP hD hS => ?_)
  obtain ⟨rfl, rfl⟩ := hw
  refine lv_istore (lv' := [(4, .int (mFind gm lg el nn)), (0, .ref h0), (1, .int (nI el)), (2, .long nn)]) hx hb dX13_word_6 hl (by decide) rfl (fun ls hl => ?_)
  refine lv_iload hx hb dX13_word_8 (lv_at hl 0 rfl) ?_
  refine lv_iconst (v := (-1)) hx hb dX13_word_10 (by decide) ?_
  refine lv_icmp_eq (tgt := 26) hx hb dX13_word_11 (by decide) (fun c_3 => ?_) (fun c_3 => ?_)
  · refine lv_ldc2 (own := RX13) (v := (-1)) hx hb hown (htb _ kw_926) dX13_word_26 ?_
    exact W.lret (v := (-1)) hx hb hr (fun t ht hW => ⟨⟨(-1), (sg, gm, lg), rfl, ⟨(by unfold mWord; rw [if_pos c_3]), rfl⟩, by rw [ht]; exact hP, va_K.moved hW.alike hK, hD⟩, hS.F ht⟩) hS.2.2 dX13_word_29
  · obtain ⟨j9, hj9, ej9⟩ := (mFind_or (lg := lg) nn ha9 hae).resolve_left c_3
    obtain ⟨q9, z9, hq9, hz9, hz24, hqz⟩ := hall j9 hj9
    rw [ej9] at hl
    refine lv_aload_n hx hb dX13_word_14 rfl (lv_at hl 1 rfl) ?_
    refine mr_get (v := .ref (ad 37)) hx hb htb inX13 hown hK hP 37 (by decide) (htb _ kw_193) rfl dX13_word_15 ?_
    refine lv_iload hx hb dX13_word_18 (lv_at hl 0 rfl) ?_
    refine mr_iald hx hb hK hP 30 (k := 37) rfl rfl rfl (show vp_in (nI (12 * el + j9)) 960 from (vp_in_nI (by omega) (by decide))) dX13_word_20 ?_
    refine lv_topi (fun z_4 ez_4 => ?_)
    obtain rfl : z_4 = (gm 37 (12 * el + j9)) := ez_4.trans (by rw [nI_clamp (by omega)])
    refine lv_topi (fun z_5 ez_5 => ?_)
    obtain rfl : z_5 = nI z9 := ez_5.trans (hz9)
    refine lv_bipush (v := 8) hx hb dX13_word_21 (by decide) ?_
    refine lv_icmp_le (tgt := 30) hx hb dX13_word_23 (by decide) (fun c_6 => ?_) (fun c_6 => ?_)
    · refine lv_lconst (v := 0) hx hb dX13_word_30 (by decide) ?_
      refine lv_lstore (lv' := [(5, .long 0), (4, .int (nI (12 * el + j9))), (0, .ref h0), (1, .int (nI el)), (2, .long nn)]) hx hb dX13_word_31 hl (by decide) rfl (fun ls hl => ?_)
      refine lv_iconst (v := 0) hx hb dX13_word_33 (by decide) ?_
      refine lv_istore (lv' := [(7, .int 0), (5, .long 0), (4, .int (nI (12 * el + j9))), (0, .ref h0), (1, .int (nI el)), (2, .long nn)]) hx hb dX13_word_34 hl (by decide) rfl (fun ls hl => ?_)
      have hloop36 : ∀ (n : Nat) (i : Nat) (vv : Int64) (H : Heap) (locs : List Loc) (ls : Array Slot), i + n = z9 → mWord gm lg el nn = wordF (gm 38) q9 n i vv → va_P (dC, dI) vwCl (mW h0 ad cid sg gm lg) H → va_D A (mW h0 ad cid sg gm lg) → va_S A s.heap H locs → lv_has ls 8 [(7, .int (nI i)), (5, .long vv), (4, .int (nI (12 * el + j9))), (0, .ref h0), (1, .int (nI el)), (2, .long nn)] → W p l e (headSpec wm_X13_word ({ frames := 1, cells := 0, slots := 0, locals := 24 })).room s m ([.ref h0, .int (nI el), .long nn] : List Value).toArray below meth c H locs 0 0 (MQ below (va_Ql (fun r v => r = mWord gm lg el nn ∧ v = (sg, gm, lg)) (MB dC dI h0 ad cid A) A) ([.ref h0, .int (nI el), .long nn] : List Value).toArray s 0 0 A) (F0 m 36 ls []) := by
        intro n
        induction n with
        | zero =>
          intro i vv H locs ls hi9 hE hP hD hS hl
          refine lv_iload hx hb dX13_word_36 (lv_at hl 0 rfl) ?_
          refine lv_aload_n hx hb dX13_word_38 rfl (lv_at hl 3 rfl) ?_
          refine mr_get (v := .ref (ad 37)) hx hb htb inX13 hown hK hP 37 (by decide) (htb _ kw_193) rfl dX13_word_39 ?_
          refine lv_iload hx hb dX13_word_42 (lv_at hl 2 rfl) ?_
          refine mr_iald hx hb hK hP 30 (k := 37) rfl rfl rfl (show vp_in (nI (12 * el + j9)) 960 from (vp_in_nI (by omega) (by decide))) dX13_word_44 ?_
          refine lv_topi (fun z_7 ez_7 => ?_)
          obtain rfl : z_7 = (gm 37 (12 * el + j9)) := ez_7.trans (by rw [nI_clamp (by omega)])
          refine lv_topi (fun z_8 ez_8 => ?_)
          obtain rfl : z_8 = nI z9 := ez_8.trans (hz9)
          refine lv_icmp_ge (tgt := 78) hx hb dX13_word_45 (by decide) (fun _ => ?_) (fun c_9 => absurd (nI_le (by omega) (by omega)) c_9)
          refine lv_lload hx hb dX13_word_78 (lv_at hl 1 rfl) ?_
          exact W.lret (v := vv) hx hb hr (fun t ht hW => ⟨⟨vv, (sg, gm, lg), rfl, ⟨(hE.symm), rfl⟩, by rw [ht]; exact hP, va_K.moved hW.alike hK, hD⟩, hS.F ht⟩) hS.2.2 dX13_word_80
        | succ n ih =>
          intro i vv H locs ls hi9 hE hP hD hS hl
          refine lv_iload hx hb dX13_word_36 (lv_at hl 0 rfl) ?_
          refine lv_aload_n hx hb dX13_word_38 rfl (lv_at hl 3 rfl) ?_
          refine mr_get (v := .ref (ad 37)) hx hb htb inX13 hown hK hP 37 (by decide) (htb _ kw_193) rfl dX13_word_39 ?_
          refine lv_iload hx hb dX13_word_42 (lv_at hl 2 rfl) ?_
          refine mr_iald hx hb hK hP 30 (k := 37) rfl rfl rfl (show vp_in (nI (12 * el + j9)) 960 from (vp_in_nI (by omega) (by decide))) dX13_word_44 ?_
          refine lv_topi (fun z_10 ez_10 => ?_)
          obtain rfl : z_10 = (gm 37 (12 * el + j9)) := ez_10.trans (by rw [nI_clamp (by omega)])
          refine lv_topi (fun z_11 ez_11 => ?_)
          obtain rfl : z_11 = nI z9 := ez_11.trans (hz9)
          refine lv_icmp_ge (tgt := 78) hx hb dX13_word_45 (by decide) (fun c_12 => absurd c_12 (nI_ge (by omega) (by omega))) (fun _ => ?_)
          refine lv_lload hx hb dX13_word_48 (lv_at hl 1 rfl) ?_
          refine lv_bipush (v := 8) hx hb dX13_word_50 (by decide) ?_
          refine lv_lshl (v := vv <<< ((8 : Int32).toInt64 &&& 63)) hx hb dX13_word_52 rfl ?_
          refine lv_aload_n hx hb dX13_word_53 rfl (lv_at hl 3 rfl) ?_
          refine mr_get (v := .ref (ad 38)) hx hb htb inX13 hown hK hP 38 (by decide) (htb _ kw_194) rfl dX13_word_54 ?_
          refine lv_aload_n hx hb dX13_word_57 rfl (lv_at hl 3 rfl) ?_
          refine mr_get (v := .ref (ad 36)) hx hb htb inX13 hown hK hP 36 (by decide) (htb _ kw_192) rfl dX13_word_58 ?_
          refine lv_iload hx hb dX13_word_61 (lv_at hl 2 rfl) ?_
          refine mr_iald hx hb hK hP 29 (k := 36) rfl rfl rfl (show vp_in (nI (12 * el + j9)) 960 from (vp_in_nI (by omega) (by decide))) dX13_word_63 ?_
          refine lv_topi (fun z_13 ez_13 => ?_)
          obtain rfl : z_13 = (gm 36 (12 * el + j9)) := ez_13.trans (by rw [nI_clamp (by omega)])
          refine lv_topi (fun z_14 ez_14 => ?_)
          obtain rfl : z_14 = nI q9 := ez_14.trans (hq9)
          refine lv_iload hx hb dX13_word_64 (lv_at hl 0 rfl) ?_
          refine lv_iadd hx hb dX13_word_66 ?_
          refine lv_topi (fun z_15 ez_15 => ?_)
          obtain rfl : z_15 = nI (q9 + i) := ez_15.trans (nI_add _ _)
          refine mr_bald hx hb hK hP 31 (k := 38) rfl rfl rfl (show vp_in (nI (q9 + i)) 2000 from (vp_in_nI (by omega) (by decide))) dX13_word_67 ?_
          refine lv_topi (fun z_16 ez_16 => ?_)
          obtain rfl : z_16 = (gm 38 (q9 + i)) := ez_16.trans (by rw [nI_clamp (by omega)])
          refine lv_i2l (v := ((gm 38 (q9 + i)) : Int32).toInt64) hx hb dX13_word_68 rfl ?_
          refine lv_lor hx hb dX13_word_69 ?_
          refine lv_lstore (lv' := [(5, .long ((vv <<< ((8 : Int32).toInt64 &&& 63)) ||| (((gm 38 (q9 + i)) : Int32).toInt64))), (7, .int (nI i)), (4, .int (nI (12 * el + j9))), (0, .ref h0), (1, .int (nI el)), (2, .long nn)]) hx hb dX13_word_70 hl (by decide) rfl (fun ls hl => ?_)
          refine lv_iinc (v := nI (i + 1)) (lv' := [(7, .int (nI (i + 1))), (5, .long ((vv <<< ((8 : Int32).toInt64 &&& 63)) ||| (((gm 38 (q9 + i)) : Int32).toInt64))), (4, .int (nI (12 * el + j9))), (0, .ref h0), (1, .int (nI el)), (2, .long nn)]) hx hb dX13_word_72 hl (k := 1) rfl (nI_1 _) (by decide) rfl (fun ls hl => ?_)
          refine lv_goto (tgt := 36) hx hb dX13_word_75 (by decide) ?_
          exact ih (i + 1) ((vv <<< ((8 : Int32).toInt64 &&& 63)) ||| (((gm 38 (q9 + i)) : Int32).toInt64)) _ _ _ (by omega) (by rw [hE]; rfl) hP hD hS (lv_sub hl [0, 1, 2, 3, 4, 5] rfl)
      exact hloop36 z9 0 0 _ _ _ (by omega) (by unfold mWord; rw [if_neg c_3, ej9, nI_clamp (by omega), hz9, if_pos c_6, hq9, nI_clamp (by omega), nI_clamp (by omega)]) hP hD hS (lv_sub hl [0, 1, 2, 3, 4, 5] rfl)
    · refine lv_ldc2 (own := RX13) (v := (-1)) hx hb hown (htb _ kw_926) dX13_word_26 ?_
      exact W.lret (v := (-1)) hx hb hr (fun t ht hW => ⟨⟨(-1), (sg, gm, lg), rfl, ⟨(by unfold mWord; rw [if_neg c_3, ej9, nI_clamp (by omega), hz9, if_neg c_6]), rfl⟩, by rw [ht]; exact hP, va_K.moved hW.alike hK, hD⟩, hS.F ht⟩) hS.2.2 dX13_word_29

set_option maxHeartbeats 4000000 in
set_option maxRecDepth 100000 in
theorem k_isWord (l : Launch) (dC : Nat → ClassId) (dI : Nat → Nat → Nat) (h0 : Nat) (ad : Nat → Nat) (cid : Nat → ClassId) (sg : Nat → Int32) (gm : Nat → Nat → Int32) (lg : Nat → Nat → Int64) (el : Nat) (nn : Int64) (he : el < 80) (hat : mAtt gm el) : MMi l dC dI yX13_isWord wm_X13_isWord ({ frames := 1, cells := 0, slots := 0, locals := 24 }) h0 ad cid [.int (nI el), .long nn] sg gm lg (fun r v => r = mIsW gm lg el nn ∧ v = (sg, gm, lg)) := by
  intro sz
  refine Met.ofW (cc := cX13_isWord) (maxL := 6) (ret := (some .boolean)) (by decide) rfl ?_
  intro p e s m args below meth c s₁ B hml hv
  obtain ⟨rfl, hsz, hP, hK, hD0⟩ := hv
  have hx := B.exec
  have hb := B.bytes
  have hr := B.returns
  have hts := atoms_spec (ws := wm_X13_isWord) B.pre
  have htb := fun (w : Cond) (h : w ∈ tb) => hts w (List.mem_cons_of_mem _ h)
  have hown : s.vm.findClass RX13 = some m.cls := findClass_of_methodNamed B.named
  have hlocks := B.notSynchronized
  subst hsz
  have hD := hD0.self (sz := s.heap.size)
  generalize hAe : va_A (mW h0 ad cid sg gm lg) s.heap.size = A at hD ⊢
  have hA : ∀ q : Nat, s.heap.size ≤ q → A q := fun q h => by rw [← hAe]; exact Or.inr h
  have hS : va_S A s.heap s.heap [] := va_S.rf
  have hl := lv_entry ([.ref h0, .int (nI el), .long nn]) (n := 6) (Nat.le_of_ble_eq_true rfl)
  rw [lg_entry_eq]
  generalize (lg_sl ([.ref h0, .int (nI el), .long nn]) ++ List.replicate (6 - (lg_sl ([.ref h0, .int (nI el), .long nn])).length) Slot.unset).toArray = ls at hl ⊢
  have hl : lv_has ls 6 [(0, .ref h0), (1, .int (nI el)), (2, .long nn)] := hl
  obtain ⟨a9, ha9, hae, hall⟩ := id hat
  refine lv_aload_n hx hb dX13_isWord_0 rfl (lv_at hl 0 rfl) ?_
  refine lv_iload_n hx hb dX13_isWord_1 rfl (lv_at hl 1 rfl) ?_
  refine lv_lload_n hx hb dX13_isWord_2 rfl (lv_at hl 2 rfl) ?_
  refine mr_calli (rest := []) ⟨hx, hb, hml, hown, htb⟩ (k_find l dC dI h0 ad cid sg gm lg el nn he hat) (cwV 2 htb (gd_V kw_862 kw_863 kw_864 kw_5 kw_1531) rfl rfl rfl (by decide +kernel) ⟨Nat.le_of_ble_eq_true rfl, Nat.le_of_ble_eq_true rfl⟩) rfl hl.1 rfl (Nat.le_of_ble_eq_true rfl) dX13_isWord_3 ⟨Nat.zero_le _, Nat.zero_le _⟩ hK hP hD hS hA (fun r_1 u_2 H locs hw hP hD hS => ?_)
  obtain ⟨rfl, rfl⟩ := hw
  refine lv_istore (lv' := [(4, .int (mFind gm lg el nn)), (0, .ref h0), (1, .int (nI el)), (2, .long nn)]) hx hb dX13_isWord_6 hl (by decide) rfl (fun ls hl => ?_)
  refine lv_iload hx hb dX13_isWord_8 (lv_at hl 0 rfl) ?_
  refine lv_iconst (v := (-1)) hx hb dX13_isWord_10 (by decide) ?_
  refine lv_icmp_eq (tgt := 37) hx hb dX13_isWord_11 (by decide) (fun c_3 => ?_) (fun c_3 => ?_)
  · refine lv_iconst (v := 0) hx hb dX13_isWord_37 (by decide) ?_
    exact W.zret (v := 0) hx hb hr rfl (fun t ht hW => ⟨⟨0, (sg, gm, lg), rfl, ⟨(by unfold mIsW; rw [if_pos c_3]), rfl⟩, by rw [ht]; exact hP, va_K.moved hW.alike hK, hD⟩, hS.F ht⟩) hS.2.2 dX13_isWord_38
  · obtain ⟨j9, hj9, ej9⟩ := (mFind_or (lg := lg) nn ha9 hae).resolve_left c_3
    obtain ⟨q9, z9, hq9, hz9, hz24, hqz⟩ := hall j9 hj9
    rw [ej9] at hl
    refine lv_aload_n hx hb dX13_isWord_14 rfl (lv_at hl 1 rfl) ?_
    refine mr_get (v := .ref (ad 37)) hx hb htb inX13 hown hK hP 37 (by decide) (htb _ kw_193) rfl dX13_isWord_15 ?_
    refine lv_iload hx hb dX13_isWord_18 (lv_at hl 0 rfl) ?_
    refine mr_iald hx hb hK hP 30 (k := 37) rfl rfl rfl (show vp_in (nI (12 * el + j9)) 960 from (vp_in_nI (by omega) (by decide))) dX13_isWord_20 ?_
    refine lv_topi (fun z_4 ez_4 => ?_)
    obtain rfl : z_4 = (gm 37 (12 * el + j9)) := ez_4.trans (by rw [nI_clamp (by omega)])
    refine lv_topi (fun z_5 ez_5 => ?_)
    obtain rfl : z_5 = nI z9 := ez_5.trans (hz9)
    refine lv_iconst (v := 1) hx hb dX13_isWord_21 (by decide) ?_
    refine lv_icmp_lt (tgt := 37) hx hb dX13_isWord_22 (by decide) (fun c_6 => ?_) (fun c_6 => ?_)
    · refine lv_iconst (v := 0) hx hb dX13_isWord_37 (by decide) ?_
      exact W.zret (v := 0) hx hb hr rfl (fun t ht hW => ⟨⟨0, (sg, gm, lg), rfl, ⟨(by unfold mIsW; rw [if_neg c_3, ej9, nI_clamp (by omega), hz9, if_pos c_6]), rfl⟩, by rw [ht]; exact hP, va_K.moved hW.alike hK, hD⟩, hS.F ht⟩) hS.2.2 dX13_isWord_38
    · refine lv_aload_n hx hb dX13_isWord_25 rfl (lv_at hl 1 rfl) ?_
      refine mr_get (v := .ref (ad 37)) hx hb htb inX13 hown hK hP 37 (by decide) (htb _ kw_193) rfl dX13_isWord_26 ?_
      refine lv_iload hx hb dX13_isWord_29 (lv_at hl 0 rfl) ?_
      refine mr_iald hx hb hK hP 30 (k := 37) rfl rfl rfl (show vp_in (nI (12 * el + j9)) 960 from (vp_in_nI (by omega) (by decide))) dX13_isWord_31 ?_
      refine lv_topi (fun z_7 ez_7 => ?_)
      obtain rfl : z_7 = (gm 37 (12 * el + j9)) := ez_7.trans (by rw [nI_clamp (by omega)])
      refine lv_topi (fun z_8 ez_8 => ?_)
      obtain rfl : z_8 = nI z9 := ez_8.trans (hz9)
      refine lv_bipush (v := 8) hx hb dX13_isWord_32 (by decide) ?_
      refine lv_icmp_le (tgt := 39) hx hb dX13_isWord_34 (by decide) (fun c_9 => ?_) (fun c_9 => ?_)
      · refine lv_iconst (v := 0) hx hb dX13_isWord_39 (by decide) ?_
        refine lv_istore (lv' := [(5, .int 0), (4, .int (nI (12 * el + j9))), (0, .ref h0), (1, .int (nI el)), (2, .long nn)]) hx hb dX13_isWord_40 hl (by decide) rfl (fun ls hl => ?_)
        have hloop42 : ∀ (n : Nat) (i : Nat) (H : Heap) (locs : List Loc) (ls : Array Slot), i + n = z9 → mIsW gm lg el nn = allF (gm 38) q9 n i → va_P (dC, dI) vwCl (mW h0 ad cid sg gm lg) H → va_D A (mW h0 ad cid sg gm lg) → va_S A s.heap H locs → lv_has ls 6 [(5, .int (nI i)), (4, .int (nI (12 * el + j9))), (0, .ref h0), (1, .int (nI el)), (2, .long nn)] → W p l e (headSpec wm_X13_isWord ({ frames := 1, cells := 0, slots := 0, locals := 24 })).room s m ([.ref h0, .int (nI el), .long nn] : List Value).toArray below meth c H locs 0 0 (MQ below (va_Qi (fun r v => r = mIsW gm lg el nn ∧ v = (sg, gm, lg)) (MB dC dI h0 ad cid A) A) ([.ref h0, .int (nI el), .long nn] : List Value).toArray s 0 0 A) (F0 m 42 ls []) := by
          intro n
          induction n with
          | zero =>
            intro i H locs ls hi9 hE hP hD hS hl
            refine lv_iload hx hb dX13_isWord_42 (lv_at hl 0 rfl) ?_
            refine lv_aload_n hx hb dX13_isWord_44 rfl (lv_at hl 2 rfl) ?_
            refine mr_get (v := .ref (ad 37)) hx hb htb inX13 hown hK hP 37 (by decide) (htb _ kw_193) rfl dX13_isWord_45 ?_
            refine lv_iload hx hb dX13_isWord_48 (lv_at hl 1 rfl) ?_
            refine mr_iald hx hb hK hP 30 (k := 37) rfl rfl rfl (show vp_in (nI (12 * el + j9)) 960 from (vp_in_nI (by omega) (by decide))) dX13_isWord_50 ?_
            refine lv_topi (fun z_10 ez_10 => ?_)
            obtain rfl : z_10 = (gm 37 (12 * el + j9)) := ez_10.trans (by rw [nI_clamp (by omega)])
            refine lv_topi (fun z_11 ez_11 => ?_)
            obtain rfl : z_11 = nI z9 := ez_11.trans (hz9)
            refine lv_icmp_ge (tgt := 84) hx hb dX13_isWord_51 (by decide) (fun _ => ?_) (fun c_12 => absurd (nI_le (by omega) (by omega)) c_12)
            refine lv_iconst (v := 1) hx hb dX13_isWord_84 (by decide) ?_
            exact W.zret (v := 1) hx hb hr rfl (fun t ht hW => ⟨⟨1, (sg, gm, lg), rfl, ⟨(hE.symm), rfl⟩, by rw [ht]; exact hP, va_K.moved hW.alike hK, hD⟩, hS.F ht⟩) hS.2.2 dX13_isWord_85
          | succ n ih =>
            intro i H locs ls hi9 hE hP hD hS hl
            refine lv_iload hx hb dX13_isWord_42 (lv_at hl 0 rfl) ?_
            refine lv_aload_n hx hb dX13_isWord_44 rfl (lv_at hl 2 rfl) ?_
            refine mr_get (v := .ref (ad 37)) hx hb htb inX13 hown hK hP 37 (by decide) (htb _ kw_193) rfl dX13_isWord_45 ?_
            refine lv_iload hx hb dX13_isWord_48 (lv_at hl 1 rfl) ?_
            refine mr_iald hx hb hK hP 30 (k := 37) rfl rfl rfl (show vp_in (nI (12 * el + j9)) 960 from (vp_in_nI (by omega) (by decide))) dX13_isWord_50 ?_
            refine lv_topi (fun z_13 ez_13 => ?_)
            obtain rfl : z_13 = (gm 37 (12 * el + j9)) := ez_13.trans (by rw [nI_clamp (by omega)])
            refine lv_topi (fun z_14 ez_14 => ?_)
            obtain rfl : z_14 = nI z9 := ez_14.trans (hz9)
            refine lv_icmp_ge (tgt := 84) hx hb dX13_isWord_51 (by decide) (fun c_15 => absurd c_15 (nI_ge (by omega) (by omega))) (fun _ => ?_)
            refine lv_aload_n hx hb dX13_isWord_54 rfl (lv_at hl 2 rfl) ?_
            refine lv_aload_n hx hb dX13_isWord_55 rfl (lv_at hl 2 rfl) ?_
            refine mr_get (v := .ref (ad 38)) hx hb htb inX13 hown hK hP 38 (by decide) (htb _ kw_194) rfl dX13_isWord_56 ?_
            refine lv_aload_n hx hb dX13_isWord_59 rfl (lv_at hl 2 rfl) ?_
            refine mr_get (v := .ref (ad 36)) hx hb htb inX13 hown hK hP 36 (by decide) (htb _ kw_192) rfl dX13_isWord_60 ?_
            refine lv_iload hx hb dX13_isWord_63 (lv_at hl 1 rfl) ?_
            refine mr_iald hx hb hK hP 29 (k := 36) rfl rfl rfl (show vp_in (nI (12 * el + j9)) 960 from (vp_in_nI (by omega) (by decide))) dX13_isWord_65 ?_
            refine lv_topi (fun z_16 ez_16 => ?_)
            obtain rfl : z_16 = (gm 36 (12 * el + j9)) := ez_16.trans (by rw [nI_clamp (by omega)])
            refine lv_topi (fun z_17 ez_17 => ?_)
            obtain rfl : z_17 = nI q9 := ez_17.trans (hq9)
            refine lv_iload hx hb dX13_isWord_66 (lv_at hl 0 rfl) ?_
            refine lv_iadd hx hb dX13_isWord_68 ?_
            refine lv_topi (fun z_18 ez_18 => ?_)
            obtain rfl : z_18 = nI (q9 + i) := ez_18.trans (nI_add _ _)
            refine mr_bald hx hb hK hP 31 (k := 38) rfl rfl rfl (show vp_in (nI (q9 + i)) 2000 from (vp_in_nI (by omega) (by decide))) dX13_isWord_69 ?_
            refine lv_topi (fun z_19 ez_19 => ?_)
            obtain rfl : z_19 = (gm 38 (q9 + i)) := ez_19.trans (by rw [nI_clamp (by omega)])
            refine mr_calli (rest := []) ⟨hx, hb, hml, hown, htb⟩ (k_isSmall l dC dI h0 ad cid sg gm lg (gm 38 (q9 + i))) (cwV 1 htb (gd_V kw_850 kw_851 kw_852 kw_5 kw_1527) rfl rfl rfl (by decide +kernel) ⟨Nat.le_of_ble_eq_true rfl, Nat.le_of_ble_eq_true rfl⟩) rfl hl.1 rfl (Nat.le_of_ble_eq_true rfl) dX13_isWord_70 ⟨Nat.zero_le _, Nat.zero_le _⟩ hK hP hD hS hA (fun r_20 u_21 H locs hw hP hD hS => ?_)
            obtain ⟨rfl, rfl⟩ := hw
            refine lv_if_ne (tgt := 78) hx hb dX13_isWord_73 (by decide) (fun c_22 => ?_) (fun c_22 => ?_)
            · refine lv_iinc (v := nI (i + 1)) (lv' := [(5, .int (nI (i + 1))), (4, .int (nI (12 * el + j9))), (0, .ref h0), (1, .int (nI el)), (2, .long nn)]) hx hb dX13_isWord_78 hl (k := 0) rfl (nI_1 _) (by decide) rfl (fun ls hl => ?_)
              refine lv_goto (tgt := 42) hx hb dX13_isWord_81 (by decide) ?_
              exact ih (i + 1) _ _ _ (by omega) (by rw [hE]; show (if _ then _ else _) = _; rw [if_neg c_22]) hP hD hS (lv_sub hl [0, 1, 2, 3, 4] rfl)
            · refine lv_iconst (v := 0) hx hb dX13_isWord_76 (by decide) ?_
              exact W.zret (v := 0) hx hb hr rfl (fun t ht hW => ⟨⟨0, (sg, gm, lg), rfl, ⟨(by rw [hE]; show _ = (if _ then _ else _); rw [if_pos c_22]), rfl⟩, by rw [ht]; exact hP, va_K.moved hW.alike hK, hD⟩, hS.F ht⟩) hS.2.2 dX13_isWord_77
        exact hloop42 z9 0 _ _ _ (by omega) (by unfold mIsW; rw [if_neg c_3, ej9, nI_clamp (by omega), hz9, if_neg c_6, if_pos c_9, hq9, nI_clamp (by omega), nI_clamp (by omega)]) hP hD hS (lv_sub hl [0, 1, 2, 3, 4] rfl)
      · refine lv_iconst (v := 0) hx hb dX13_isWord_37 (by decide) ?_
        exact W.zret (v := 0) hx hb hr rfl (fun t ht hW => ⟨⟨0, (sg, gm, lg), rfl, ⟨(by unfold mIsW; rw [if_neg c_3, ej9, nI_clamp (by omega), hz9, if_neg c_6, if_neg c_9]), rfl⟩, by rw [ht]; exact hP, va_K.moved hW.alike hK, hD⟩, hS.F ht⟩) hS.2.2 dX13_isWord_38
