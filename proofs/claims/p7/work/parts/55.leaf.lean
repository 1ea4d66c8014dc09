set_option maxHeartbeats 4000000 in
set_option maxRecDepth 100000 in
theorem d_isClass (l : Launch) (dC : Nat → ClassId) (dI : Nat → Nat → Nat) (ad : Nat → Nat → Nat) (cid : Nat → ClassId) (a2 : Nat → Nat) (lx : List Nat) (sg : Nat → Int32) (gm : Nat → Nat → Int32) (lg : Nat → Nat → Int64) (a : Int32) (hI : CI sg gm) : CMt dC dI ad cid a2 lx l yX12_isClass wm_X12_isClass ({ frames := 0, cells := 1, slots := 6, locals := 0 }) [.int a] sg gm lg (fun v u => ∃ r : Int32, v = some (.int r) ∧ u = (sg, gm, lg) ∧ (iv 0 1 r) ∧ (r.toInt = 0 ∨ iv 0 7 a)) (fun _ _ => False) := by
  intro sz
  refine vx_ofW (cc := cX12_isClass) (maxL := 1) (ret := (some .boolean)) (by decide) rfl ?_
  intro p e s m args below meth c s₁ B hml hxt hv
  obtain ⟨rfl, hsz, hP, hK, hD0, hG⟩ := hv
  have hx := B.exec
  have hb := B.bytes
  have hr := B.returns
  have hts := atoms_spec (ws := wm_X12_isClass) B.pre
  have htb := fun (w : Cond) (h : w ∈ tb) => hts w (List.mem_cons_of_mem _ h)
  have hown : s.vm.findClass RX12 = some m.cls := findClass_of_methodNamed B.named
  have hlocks := B.notSynchronized
  subst hsz
  have hD := hD0.self (sz := s.heap.size)
  generalize hAe : va_A (cW ad cid a2 lx sg gm lg) s.heap.size = A at hD hG ⊢
  have hA : ∀ q : Nat, s.heap.size ≤ q → A q := fun q h => by rw [← hAe]; exact Or.inr h
  have hS : va_S A s.heap s.heap [] := va_S.rf
  have hl := lv_entry ([.int a]) (n := 1) (Nat.le_of_ble_eq_true rfl)
  rw [lg_entry_eq]
  generalize (lg_sl ([.int a]) ++ List.replicate (1 - (lg_sl ([.int a])).length) Slot.unset).toArray = ls at hl ⊢
  have hl : lv_has ls 1 [(0, .int a)] := hl
  have hj15 : ∀ (y0_15 : Int32) (_ : iv 0 1 y0_15) (_ : y0_15.toInt = 0 ∨ iv 0 7 a) (H : Heap) (locs : List Loc) (ls : Array Slot), va_P (dC, dI) vwCl (cW ad cid a2 lx sg gm lg) H → va_D A (cW ad cid a2 lx sg gm lg) → va_S A s.heap H locs → lv_has ls 1 [(0, .int a)] → W p l e (headSpec wm_X12_isClass ({ frames := 0, cells := 1, slots := 6, locals := 0 })).room s m ([.int a] : List Value).toArray below meth c H locs 0 0 (vx_MQ below (cQx dC dI ad cid a2 lx (fun v u => ∃ r : Int32, v = some (.int r) ∧ u = (sg, gm, lg) ∧ (iv 0 1 r) ∧ (r.toInt = 0 ∨ iv 0 7 a)) A) (cX dC dI ad cid a2 lx (fun _ _ => False) A) ([.int a] : List Value).toArray s 1 6 A) (F0 m 15 ls [.int y0_15]) := by
    intro y0_15 hy0_15 hc H locs ls hP hD hS hl
    exact W.nb (fun hN => W.widen (k := 1) (n := 6) (by decide) (by decide) (vx_ret (W.zret (v := y0_15) hx hb hr (iv_nb hy0_15) (fun t ht hW => ⟨⟨some (.int y0_15), (sg, gm, lg), rfl, ⟨y0_15, rfl, rfl, hy0_15, (hc)⟩, by rw [ht]; exact hP, va_K.moved hW.alike hK, hD⟩, hS.F ht, by rw [ht]; exact hN⟩) hS.2.2 dX12_isClass_15)))
  have hj14 : ∀ (H : Heap) (locs : List Loc) (ls : Array Slot), va_P (dC, dI) vwCl (cW ad cid a2 lx sg gm lg) H → va_D A (cW ad cid a2 lx sg gm lg) → va_S A s.heap H locs → lv_has ls 1 [(0, .int a)] → W p l e (headSpec wm_X12_isClass ({ frames := 0, cells := 1, slots := 6, locals := 0 })).room s m ([.int a] : List Value).toArray below meth c H locs 0 0 (vx_MQ below (cQx dC dI ad cid a2 lx (fun v u => ∃ r : Int32, v = some (.int r) ∧ u = (sg, gm, lg) ∧ (iv 0 1 r) ∧ (r.toInt = 0 ∨ iv 0 7 a)) A) (cX dC dI ad cid a2 lx (fun _ _ => False) A) ([.int a] : List Value).toArray s 1 6 A) (F0 m 14 ls []) := by
    intro  H locs ls hP hD hS hl
    refine lv_iconst (v := 0) hx hb dX12_isClass_14 (by decide) ?_
    exact hj15 0 (iv_w (iv_k (by decide) : iv 0 0 0) (by decide)) (Or.inl rfl) _ _ _ hP hD hS (lv_sub hl [0] rfl)
  refine lv_iload_n hx hb dX12_isClass_0 rfl (lv_at hl 0 rfl) ?_
  refine lv_if_lt (tgt := 14) hx hb dX12_isClass_1 (by decide) (fun c_1 => ?_) (fun c_1 => ?_)
  · have h_2 : iv (-2147483648) (-1) a := iv_ltL c_1 (iv_all a) (iv_k (by decide) : iv 0 0 0) (by decide)
    exact hj14 _ _ _ hP hD hS (lv_sub hl [0] rfl)
  · have h_3 : iv 0 2147483647 a := iv_leR (i32_ge c_1) (iv_k (by decide) : iv 0 0 0) (iv_all a) (by decide)
    refine lv_iload_n hx hb dX12_isClass_4 rfl (lv_at hl 0 rfl) ?_
    refine lv_bipush (v := 8) hx hb dX12_isClass_5 (by decide) ?_
    refine lv_icmp_ge (tgt := 14) hx hb dX12_isClass_7 (by decide) (fun c_4 => ?_) (fun c_4 => ?_)
    · have h_5 : iv 8 2147483647 a := iv_leR c_4 (iv_k (by decide) : iv 8 8 8) h_3 (by decide)
      exact hj14 _ _ _ hP hD hS (lv_sub hl [0] rfl)
    · have h_6 : iv 0 7 a := iv_ltL (i32_lt c_4) h_3 (iv_k (by decide) : iv 8 8 8) (by decide)
      refine lv_iconst (v := 1) hx hb dX12_isClass_10 (by decide) ?_
      refine lv_goto (tgt := 15) hx hb dX12_isClass_11 (by decide) ?_
      exact hj15 1 (iv_w (iv_k (by decide) : iv 1 1 1) (by decide)) (Or.inr h_6) _ _ _ hP hD hS (lv_sub hl [0] rfl)

set_option maxHeartbeats 4000000 in
set_option maxRecDepth 100000 in
theorem d_isLetter (l : Launch) (dC : Nat → ClassId) (dI : Nat → Nat → Nat) (ad : Nat → Nat → Nat) (cid : Nat → ClassId) (a2 : Nat → Nat) (lx : List Nat) (sg : Nat → Int32) (gm : Nat → Nat → Int32) (lg : Nat → Nat → Int64) (a : Int32) (hI : CI sg gm) : CMt dC dI ad cid a2 lx l yX12_isLetter wm_X12_isLetter ({ frames := 0, cells := 1, slots := 6, locals := 0 }) [.int a] sg gm lg (fun v u => ∃ r : Int32, v = some (.int r) ∧ u = (sg, gm, lg) ∧ (iv 0 1 r) ∧ (r.toInt = 0 ∨ iv 0 25 a)) (fun _ _ => False) := by
  intro sz
  refine vx_ofW (cc := cX12_isLetter) (maxL := 1) (ret := (some .boolean)) (by decide) rfl ?_
  intro p e s m args below meth c s₁ B hml hxt hv
  obtain ⟨rfl, hsz, hP, hK, hD0, hG⟩ := hv
  have hx := B.exec
  have hb := B.bytes
  have hr := B.returns
  have hts := atoms_spec (ws := wm_X12_isLetter) B.pre
  have htb := fun (w : Cond) (h : w ∈ tb) => hts w (List.mem_cons_of_mem _ h)
  have hown : s.vm.findClass RX12 = some m.cls := findClass_of_methodNamed B.named
  have hlocks := B.notSynchronized
  subst hsz
  have hD := hD0.self (sz := s.heap.size)
  generalize hAe : va_A (cW ad cid a2 lx sg gm lg) s.heap.size = A at hD hG ⊢
  have hA : ∀ q : Nat, s.heap.size ≤ q → A q := fun q h => by rw [← hAe]; exact Or.inr h
  have hS : va_S A s.heap s.heap [] := va_S.rf
  have hl := lv_entry ([.int a]) (n := 1) (Nat.le_of_ble_eq_true rfl)
  rw [lg_entry_eq]
  generalize (lg_sl ([.int a]) ++ List.replicate (1 - (lg_sl ([.int a])).length) Slot.unset).toArray = ls at hl ⊢
  have hl : lv_has ls 1 [(0, .int a)] := hl
  have hj15 : ∀ (y0_15 : Int32) (_ : iv 0 1 y0_15) (_ : y0_15.toInt = 0 ∨ iv 0 25 a) (H : Heap) (locs : List Loc) (ls : Array Slot), va_P (dC, dI) vwCl (cW ad cid a2 lx sg gm lg) H → va_D A (cW ad cid a2 lx sg gm lg) → va_S A s.heap H locs → lv_has ls 1 [(0, .int a)] → W p l e (headSpec wm_X12_isLetter ({ frames := 0, cells := 1, slots := 6, locals := 0 })).room s m ([.int a] : List Value).toArray below meth c H locs 0 0 (vx_MQ below (cQx dC dI ad cid a2 lx (fun v u => ∃ r : Int32, v = some (.int r) ∧ u = (sg, gm, lg) ∧ (iv 0 1 r) ∧ (r.toInt = 0 ∨ iv 0 25 a)) A) (cX dC dI ad cid a2 lx (fun _ _ => False) A) ([.int a] : List Value).toArray s 1 6 A) (F0 m 15 ls [.int y0_15]) := by
    intro y0_15 hy0_15 hc H locs ls hP hD hS hl
    exact W.nb (fun hN => W.widen (k := 1) (n := 6) (by decide) (by decide) (vx_ret (W.zret (v := y0_15) hx hb hr (iv_nb hy0_15) (fun t ht hW => ⟨⟨some (.int y0_15), (sg, gm, lg), rfl, ⟨y0_15, rfl, rfl, hy0_15, (hc)⟩, by rw [ht]; exact hP, va_K.moved hW.alike hK, hD⟩, hS.F ht, by rw [ht]; exact hN⟩) hS.2.2 dX12_isLetter_15)))
  have hj14 : ∀ (H : Heap) (locs : List Loc) (ls : Array Slot), va_P (dC, dI) vwCl (cW ad cid a2 lx sg gm lg) H → va_D A (cW ad cid a2 lx sg gm lg) → va_S A s.heap H locs → lv_has ls 1 [(0, .int a)] → W p l e (headSpec wm_X12_isLetter ({ frames := 0, cells := 1, slots := 6, locals := 0 })).room s m ([.int a] : List Value).toArray below meth c H locs 0 0 (vx_MQ below (cQx dC dI ad cid a2 lx (fun v u => ∃ r : Int32, v = some (.int r) ∧ u = (sg, gm, lg) ∧ (iv 0 1 r) ∧ (r.toInt = 0 ∨ iv 0 25 a)) A) (cX dC dI ad cid a2 lx (fun _ _ => False) A) ([.int a] : List Value).toArray s 1 6 A) (F0 m 14 ls []) := by
    intro  H locs ls hP hD hS hl
    refine lv_iconst (v := 0) hx hb dX12_isLetter_14 (by decide) ?_
    exact hj15 0 (iv_w (iv_k (by decide) : iv 0 0 0) (by decide)) (Or.inl rfl) _ _ _ hP hD hS (lv_sub hl [0] rfl)
  refine lv_iload_n hx hb dX12_isLetter_0 rfl (lv_at hl 0 rfl) ?_
  refine lv_if_lt (tgt := 14) hx hb dX12_isLetter_1 (by decide) (fun c_1 => ?_) (fun c_1 => ?_)
  · have h_2 : iv (-2147483648) (-1) a := iv_ltL c_1 (iv_all a) (iv_k (by decide) : iv 0 0 0) (by decide)
    exact hj14 _ _ _ hP hD hS (lv_sub hl [0] rfl)
  · have h_3 : iv 0 2147483647 a := iv_leR (i32_ge c_1) (iv_k (by decide) : iv 0 0 0) (iv_all a) (by decide)
    refine lv_iload_n hx hb dX12_isLetter_4 rfl (lv_at hl 0 rfl) ?_
    refine lv_bipush (v := 26) hx hb dX12_isLetter_5 (by decide) ?_
    refine lv_icmp_ge (tgt := 14) hx hb dX12_isLetter_7 (by decide) (fun c_4 => ?_) (fun c_4 => ?_)
    · have h_5 : iv 26 2147483647 a := iv_leR c_4 (iv_k (by decide) : iv 26 26 26) h_3 (by decide)
      exact hj14 _ _ _ hP hD hS (lv_sub hl [0] rfl)
    · have h_6 : iv 0 25 a := iv_ltL (i32_lt c_4) h_3 (iv_k (by decide) : iv 26 26 26) (by decide)
      refine lv_iconst (v := 1) hx hb dX12_isLetter_10 (by decide) ?_
      refine lv_goto (tgt := 15) hx hb dX12_isLetter_11 (by decide) ?_
      exact hj15 1 (iv_w (iv_k (by decide) : iv 1 1 1) (by decide)) (Or.inr h_6) _ _ _ hP hD hS (lv_sub hl [0] rfl)

set_option maxHeartbeats 4000000 in
set_option maxRecDepth 100000 in
theorem d_clearEv (l : Launch) (dC : Nat → ClassId) (dI : Nat → Nat → Nat) (ad : Nat → Nat → Nat) (cid : Nat → ClassId) (a2 : Nat → Nat) (lx : List Nat) (sg : Nat → Int32) (gm : Nat → Nat → Int32) (lg : Nat → Nat → Int64) (x : Int32) (hI : CI sg gm) (hvx : iv 0 0 x) : CMt dC dI ad cid a2 lx l yX4_clear wm_X4_clear ({ frames := 0, cells := 1, slots := 6, locals := 0 }) [eV (ad 5) x] sg gm lg (fun v u => v = none ∧ ∃ (sg2 : Nat → Int32) (gm2 : Nat → Nat → Int32) (lg2 : Nat → Nat → Int64), u = (sg2, gm2, lg2) ∧ CI sg2 gm2 ∧ KS [13] sg sg2 ∧ KS [] gm gm2 ∧ KS [] lg lg2) (fun _ _ => False) := by
  intro sz
  refine vx_ofW (cc := cX4_clear) (maxL := 1) (ret := none) (by decide) rfl ?_
  intro p e s m args below meth c s₁ B hml hxt hv
  obtain ⟨rfl, hsz, hP, hK, hD0, hG⟩ := hv
  have hx := B.exec
  have hb := B.bytes
  have hr := B.returns
  have hts := atoms_spec (ws := wm_X4_clear) B.pre
  have htb := fun (w : Cond) (h : w ∈ tb) => hts w (List.mem_cons_of_mem _ h)
  have hown : s.vm.findClass RX4 = some m.cls := findClass_of_methodNamed B.named
  have hlocks := B.notSynchronized
  subst hsz
  have hD := hD0.self (sz := s.heap.size)
  generalize hAe : va_A (cW ad cid a2 lx sg gm lg) s.heap.size = A at hD hG ⊢
  have hA : ∀ q : Nat, s.heap.size ≤ q → A q := fun q h => by rw [← hAe]; exact Or.inr h
  have hS : va_S A s.heap s.heap [] := va_S.rf
  have hl := lv_entry ([eV (ad 5) x]) (n := 1) (by rw [show (lg_sl ([eV (ad 5) x])).length = 1 from by simp [lg_sl, eV_cat, cat_i, cat_l]]; exact Nat.le_of_ble_eq_true rfl)
  rw [lg_entry_eq]
  generalize (lg_sl ([eV (ad 5) x]) ++ List.replicate (1 - (lg_sl ([eV (ad 5) x])).length) Slot.unset).toArray = ls at hl ⊢
  have hl : lv_has ls 1 [(0, eV (ad 5) x)] := by simp [lv_args, eV_cat, cat_i, cat_l] at hl; exact hl
  refine ec_aload_n hx hb dX4_clear_0 rfl (lv_at hl 0 rfl) ?_
  refine lv_iconst (v := 0) hx hb dX4_clear_1 (by decide) ?_
  refine cr_puts (t := 5) (j := 1) (C := RX4) (T := TX4) (N := 2) (ty0 := tyX4) (k := 13) (y := 0) hx hb htb inX4 tyX4_ok nmX4 hown hK hP hD hS hvx (by decide) (by decide) (by decide) (by decide) rfl rfl rfl (by decide) (htb _ kw_332) rfl (by show Value.int 0 = Value.int (va_up sg 13 0 13); rw [va_up_self]) rfl rfl dX4_clear_2 (fun sg_1 H locs esg_1 hP hD hS => ?_)
  have hI_sg_1 := CI_put hI esg_1 (iv_k (by decide) : iv 0 0 0) (by decide)
  exact W.nb (fun hN => W.widen (k := 1) (n := 6) (by decide) (by decide) (vx_ret (W.vret hx hb hr (fun t ht hW => ⟨⟨none, (sg_1, gm, lg), rfl, ⟨rfl, sg_1, gm, lg, rfl, hI_sg_1, (KS_up KS_rf esg_1 (by decide)), KS_rf, KS_rf⟩, by rw [ht]; exact hP, va_K.moved hW.alike hK, hD⟩, hS.F ht, by rw [ht]; exact hN⟩) hS.2.2 dX4_clear_5)))

set_option maxHeartbeats 4000000 in
set_option maxRecDepth 100000 in
theorem d_countEv (l : Launch) (dC : Nat → ClassId) (dI : Nat → Nat → Nat) (ad : Nat → Nat → Nat) (cid : Nat → ClassId) (a2 : Nat → Nat) (lx : List Nat) (sg : Nat → Int32) (gm : Nat → Nat → Int32) (lg : Nat → Nat → Int64) (x : Int32) (hI : CI sg gm) (hvx : iv 0 0 x) : CMt dC dI ad cid a2 lx l yX4_count wm_X4_count ({ frames := 0, cells := 1, slots := 6, locals := 0 }) [eV (ad 5) x] sg gm lg (fun v u => ∃ r : Int32, v = some (.int r) ∧ u = (sg, gm, lg) ∧ (iv 0 400 r)) (fun _ _ => False) := by
  intro sz
  refine vx_ofW (cc := cX4_count) (maxL := 1) (ret := (some .int)) (by decide) rfl ?_
  intro p e s m args below meth c s₁ B hml hxt hv
  obtain ⟨rfl, hsz, hP, hK, hD0, hG⟩ := hv
  have hx := B.exec
  have hb := B.bytes
  have hr := B.returns
  have hts := atoms_spec (ws := wm_X4_count) B.pre
  have htb := fun (w : Cond) (h : w ∈ tb) => hts w (List.mem_cons_of_mem _ h)
  have hown : s.vm.findClass RX4 = some m.cls := findClass_of_methodNamed B.named
  have hlocks := B.notSynchronized
  subst hsz
  have hD := hD0.self (sz := s.heap.size)
  generalize hAe : va_A (cW ad cid a2 lx sg gm lg) s.heap.size = A at hD hG ⊢
  have hA : ∀ q : Nat, s.heap.size ≤ q → A q := fun q h => by rw [← hAe]; exact Or.inr h
  have hS : va_S A s.heap s.heap [] := va_S.rf
  have hl := lv_entry ([eV (ad 5) x]) (n := 1) (by rw [show (lg_sl ([eV (ad 5) x])).length = 1 from by simp [lg_sl, eV_cat, cat_i, cat_l]]; exact Nat.le_of_ble_eq_true rfl)
  rw [lg_entry_eq]
  generalize (lg_sl ([eV (ad 5) x]) ++ List.replicate (1 - (lg_sl ([eV (ad 5) x])).length) Slot.unset).toArray = ls at hl ⊢
  have hl : lv_has ls 1 [(0, eV (ad 5) x)] := by simp [lv_args, eV_cat, cat_i, cat_l] at hl; exact hl
  refine ec_aload_n hx hb dX4_count_0 rfl (lv_at hl 0 rfl) ?_
  refine cr_get (t := 5) (j := 1) (C := RX4) (T := TX4) (N := 2) (v := .int (sg 13)) hx hb htb inX4 hown hK hP hvx (by decide) (by decide) (by decide) rfl (by decide) (htb _ kw_332) rfl dX4_count_1 ?_
  exact W.nb (fun hN => W.widen (k := 1) (n := 6) (by decide) (by decide) (vx_ret (W.iret (v := (sg 13)) hx hb hr (fun t ht hW => ⟨⟨some (.int (sg 13)), (sg, gm, lg), rfl, ⟨(sg 13), rfl, rfl, (show iv 0 400 (sg 13) from CI_s hI 13)⟩, by rw [ht]; exact hP, va_K.moved hW.alike hK, hD⟩, hS.F ht, by rw [ht]; exact hN⟩) hS.2.2 dX4_count_4)))

set_option maxHeartbeats 4000000 in
set_option maxRecDepth 100000 in
theorem d_addEv (l : Launch) (dC : Nat → ClassId) (dI : Nat → Nat → Nat) (ad : Nat → Nat → Nat) (cid : Nat → ClassId) (a2 : Nat → Nat) (lx : List Nat) (sg : Nat → Int32) (gm : Nat → Nat → Int32) (lg : Nat → Nat → Int64) (x : Int32) (a : Int32) (b : Int32) (f : Int32) (g : Int32) (hI : CI sg gm) (hvx : iv 0 0 x) : CMt dC dI ad cid a2 lx l yX4_add wm_X4_add ({ frames := 0, cells := 1, slots := 6, locals := 0 }) [eV (ad 5) x, .int a, .int b, .int f, .int g] sg gm lg (fun v u => v = none ∧ ∃ (sg2 : Nat → Int32) (gm2 : Nat → Nat → Int32) (lg2 : Nat → Nat → Int64), u = (sg2, gm2, lg2) ∧ CI sg2 gm2 ∧ KS [13] sg sg2 ∧ KS [48] gm gm2 ∧ KS [] lg lg2) (fun _ _ => False) := by
  intro sz
  refine vx_ofW (cc := cX4_add) (maxL := 6) (ret := none) (by decide) rfl ?_
  intro p e s m args below meth c s₁ B hml hxt hv
  obtain ⟨rfl, hsz, hP, hK, hD0, hG⟩ := hv
  have hx := B.exec
  have hb := B.bytes
  have hr := B.returns
  have hts := atoms_spec (ws := wm_X4_add) B.pre
  have htb := fun (w : Cond) (h : w ∈ tb) => hts w (List.mem_cons_of_mem _ h)
  have hown : s.vm.findClass RX4 = some m.cls := findClass_of_methodNamed B.named
  have hlocks := B.notSynchronized
  subst hsz
  have hD := hD0.self (sz := s.heap.size)
  generalize hAe : va_A (cW ad cid a2 lx sg gm lg) s.heap.size = A at hD hG ⊢
  have hA : ∀ q : Nat, s.heap.size ≤ q → A q := fun q h => by rw [← hAe]; exact Or.inr h
  have hS : va_S A s.heap s.heap [] := va_S.rf
  have hl := lv_entry ([eV (ad 5) x, .int a, .int b, .int f, .int g]) (n := 6) (by rw [show (lg_sl ([eV (ad 5) x, .int a, .int b, .int f, .int g])).length = 5 from by simp [lg_sl, eV_cat, cat_i, cat_l]]; exact Nat.le_of_ble_eq_true rfl)
  rw [lg_entry_eq]
  generalize (lg_sl ([eV (ad 5) x, .int a, .int b, .int f, .int g]) ++ List.replicate (6 - (lg_sl ([eV (ad 5) x, .int a, .int b, .int f, .int g])).length) Slot.unset).toArray = ls at hl ⊢
  have hl : lv_has ls 6 [(0, eV (ad 5) x), (1, .int a), (2, .int b), (3, .int f), (4, .int g)] := by simp [lv_args, eV_cat, cat_i, cat_l] at hl; exact hl
  refine ec_aload_n hx hb dX4_add_0 rfl (lv_at hl 0 rfl) ?_
  refine cr_get (t := 5) (j := 1) (C := RX4) (T := TX4) (N := 2) (v := .int (sg 13)) hx hb htb inX4 hown hK hP hvx (by decide) (by decide) (by decide) rfl (by decide) (htb _ kw_332) rfl dX4_add_1 ?_
  refine lv_sipush (v := 400) hx hb dX4_add_4 (by decide) ?_
  refine lv_icmp_lt (tgt := 11) hx hb dX4_add_7 (by decide) (fun c_1 => ?_) (fun c_1 => ?_)
  · have h_2 : iv 0 399 (sg 13) := iv_ltL c_1 (show iv 0 400 (sg 13) from CI_s hI 13) (iv_k (by decide) : iv 400 400 400) (by decide)
    refine ec_aload_n hx hb dX4_add_11 rfl (lv_at hl 0 rfl) ?_
    refine cr_get (t := 5) (j := 1) (C := RX4) (T := TX4) (N := 2) (v := .int (sg 13)) hx hb htb inX4 hown hK hP hvx (by decide) (by decide) (by decide) rfl (by decide) (htb _ kw_332) rfl dX4_add_12 ?_
    refine lv_iconst (v := 4) hx hb dX4_add_15 (by decide) ?_
    refine lv_imul hx hb dX4_add_16 ?_
    refine lv_topi (fun z_3 ez_3 => ?_)
    have hz_3 : iv 0 1596 z_3 := iv_of ez_3 (iv_mul h_2 (iv_k (by decide) : iv 4 4 4) (by decide))
    have tz_3 : z_3.toInt = ((sg 13) : Int32).toInt * 4 := by rw [ez_3]; exact iv_mulE h_2 (iv_k (by decide) : iv 4 4 4) (by decide)
    refine lv_istore (i := 5) (lv' := [(5, .int z_3), (0, eV (ad 5) x), (1, .int a), (2, .int b), (3, .int f), (4, .int g)]) hx hb dX4_add_17 hl (by decide) rfl (fun ls hl => ?_)
    refine ec_aload_n hx hb dX4_add_19 rfl (lv_at hl 1 rfl) ?_
    refine cr_get (t := 5) (j := 0) (C := RX4) (T := TX4) (N := 2) (v := eV (ad 21) 0) hx hb htb inX4 hown hK hP hvx (by decide) (by decide) (by decide) rfl (by decide) (htb _ kw_117) (cV_c rfl (by decide) (by rw [show cMu 5 0 = 0 from rfl, Nat.zero_mul]; rfl)) dX4_add_20 ?_
    refine lv_iload hx hb dX4_add_23 (lv_at hl 0 rfl) ?_
    refine lv_iload_n hx hb dX4_add_25 rfl (lv_at hl 2 rfl) ?_
    refine cr_iast (t := 21) (k := 48) (n9 := (z_3 : Int32).toNatClampNeg) (z := a) hx hb hK hP hD hS (iv_k (by decide) : iv 0 0 0) (by decide) (by decide) (by decide) rfl rfl rfl (show vp_in z_3 (cLen 21) from (show vp_in z_3 1600 from (iv_in hz_3 (by decide)))) (Or.inl rfl) (by rw [show cAw 21 = 0 from rfl, Nat.zero_mul, Nat.zero_add]) dX4_add_26 (fun gm_4 H locs egm_4 hP hD hS => ?_)
    have hI_gm_4 := CI_st hI egm_4 (iv_all a) (by decide)
    refine ec_aload_n hx hb dX4_add_27 rfl (lv_at hl 1 rfl) ?_
    refine cr_get (t := 5) (j := 0) (C := RX4) (T := TX4) (N := 2) (v := eV (ad 21) 0) hx hb htb inX4 hown hK hP hvx (by decide) (by decide) (by decide) rfl (by decide) (htb _ kw_117) (cV_c rfl (by decide) (by rw [show cMu 5 0 = 0 from rfl, Nat.zero_mul]; rfl)) dX4_add_28 ?_
    refine lv_iload hx hb dX4_add_31 (lv_at hl 0 rfl) ?_
    refine lv_iconst (v := 1) hx hb dX4_add_33 (by decide) ?_
    refine lv_iadd hx hb dX4_add_34 ?_
    refine lv_topi (fun z_5 ez_5 => ?_)
    have hz_5 : iv 1 1597 z_5 := iv_of ez_5 (iv_add hz_3 (iv_k (by decide) : iv 1 1 1) (by decide))
    have tz_5 : z_5.toInt = (z_3 : Int32).toInt + 1 := by rw [ez_5]; exact iv_addE hz_3 (iv_k (by decide) : iv 1 1 1) (by decide)
    refine lv_iload_n hx hb dX4_add_35 rfl (lv_at hl 3 rfl) ?_
    refine cr_iast (t := 21) (k := 48) (n9 := (z_5 : Int32).toNatClampNeg) (z := b) hx hb hK hP hD hS (iv_k (by decide) : iv 0 0 0) (by decide) (by decide) (by decide) rfl rfl rfl (show vp_in z_5 (cLen 21) from (show vp_in z_5 1600 from (iv_in hz_5 (by decide)))) (Or.inl rfl) (by rw [show cAw 21 = 0 from rfl, Nat.zero_mul, Nat.zero_add]) dX4_add_36 (fun gm_6 H locs egm_6 hP hD hS => ?_)
    have hI_gm_6 := CI_st hI_gm_4 egm_6 (iv_all b) (by decide)
    refine ec_aload_n hx hb dX4_add_37 rfl (lv_at hl 1 rfl) ?_
    refine cr_get (t := 5) (j := 0) (C := RX4) (T := TX4) (N := 2) (v := eV (ad 21) 0) hx hb htb inX4 hown hK hP hvx (by decide) (by decide) (by decide) rfl (by decide) (htb _ kw_117) (cV_c rfl (by decide) (by rw [show cMu 5 0 = 0 from rfl, Nat.zero_mul]; rfl)) dX4_add_38 ?_
    refine lv_iload hx hb dX4_add_41 (lv_at hl 0 rfl) ?_
    refine lv_iconst (v := 2) hx hb dX4_add_43 (by decide) ?_
    refine lv_iadd hx hb dX4_add_44 ?_
    refine lv_topi (fun z_7 ez_7 => ?_)
    have hz_7 : iv 2 1598 z_7 := iv_of ez_7 (iv_add hz_3 (iv_k (by decide) : iv 2 2 2) (by decide))
    have tz_7 : z_7.toInt = (z_3 : Int32).toInt + 2 := by rw [ez_7]; exact iv_addE hz_3 (iv_k (by decide) : iv 2 2 2) (by decide)
    refine lv_iload_n hx hb dX4_add_45 rfl (lv_at hl 4 rfl) ?_
    refine cr_iast (t := 21) (k := 48) (n9 := (z_7 : Int32).toNatClampNeg) (z := f) hx hb hK hP hD hS (iv_k (by decide) : iv 0 0 0) (by decide) (by decide) (by decide) rfl rfl rfl (show vp_in z_7 (cLen 21) from (show vp_in z_7 1600 from (iv_in hz_7 (by decide)))) (Or.inl rfl) (by rw [show cAw 21 = 0 from rfl, Nat.zero_mul, Nat.zero_add]) dX4_add_46 (fun gm_8 H locs egm_8 hP hD hS => ?_)
    have hI_gm_8 := CI_st hI_gm_6 egm_8 (iv_all f) (by decide)
    refine ec_aload_n hx hb dX4_add_47 rfl (lv_at hl 1 rfl) ?_
    refine cr_get (t := 5) (j := 0) (C := RX4) (T := TX4) (N := 2) (v := eV (ad 21) 0) hx hb htb inX4 hown hK hP hvx (by decide) (by decide) (by decide) rfl (by decide) (htb _ kw_117) (cV_c rfl (by decide) (by rw [show cMu 5 0 = 0 from rfl, Nat.zero_mul]; rfl)) dX4_add_48 ?_
    refine lv_iload hx hb dX4_add_51 (lv_at hl 0 rfl) ?_
    refine lv_iconst (v := 3) hx hb dX4_add_53 (by decide) ?_
    refine lv_iadd hx hb dX4_add_54 ?_
    refine lv_topi (fun z_9 ez_9 => ?_)
    have hz_9 : iv 3 1599 z_9 := iv_of ez_9 (iv_add hz_3 (iv_k (by decide) : iv 3 3 3) (by decide))
    have tz_9 : z_9.toInt = (z_3 : Int32).toInt + 3 := by rw [ez_9]; exact iv_addE hz_3 (iv_k (by decide) : iv 3 3 3) (by decide)
    refine lv_iload hx hb dX4_add_55 (lv_at hl 5 rfl) ?_
    refine cr_iast (t := 21) (k := 48) (n9 := (z_9 : Int32).toNatClampNeg) (z := g) hx hb hK hP hD hS (iv_k (by decide) : iv 0 0 0) (by decide) (by decide) (by decide) rfl rfl rfl (show vp_in z_9 (cLen 21) from (show vp_in z_9 1600 from (iv_in hz_9 (by decide)))) (Or.inl rfl) (by rw [show cAw 21 = 0 from rfl, Nat.zero_mul, Nat.zero_add]) dX4_add_57 (fun gm_10 H locs egm_10 hP hD hS => ?_)
    have hI_gm_10 := CI_st hI_gm_8 egm_10 (iv_all g) (by decide)
    refine ec_aload_n hx hb dX4_add_58 rfl (lv_at hl 1 rfl) ?_
    refine lv_dup hx hb dX4_add_59 (eV_cat _ _) ?_
    refine cr_get (t := 5) (j := 1) (C := RX4) (T := TX4) (N := 2) (v := .int (sg 13)) hx hb htb inX4 hown hK hP hvx (by decide) (by decide) (by decide) rfl (by decide) (htb _ kw_332) rfl dX4_add_60 ?_
    refine lv_iconst (v := 1) hx hb dX4_add_63 (by decide) ?_
    refine lv_iadd hx hb dX4_add_64 ?_
    refine lv_topi (fun z_11 ez_11 => ?_)
    have hz_11 : iv 1 400 z_11 := iv_of ez_11 (iv_add h_2 (iv_k (by decide) : iv 1 1 1) (by decide))
    have tz_11 : z_11.toInt = ((sg 13) : Int32).toInt + 1 := by rw [ez_11]; exact iv_addE h_2 (iv_k (by decide) : iv 1 1 1) (by decide)
    refine cr_puts (t := 5) (j := 1) (C := RX4) (T := TX4) (N := 2) (ty0 := tyX4) (k := 13) (y := z_11) hx hb htb inX4 tyX4_ok nmX4 hown hK hP hD hS hvx (by decide) (by decide) (by decide) (by decide) rfl rfl rfl (by decide) (htb _ kw_332) rfl (by show Value.int z_11 = Value.int (va_up sg 13 z_11 13); rw [va_up_self]) rfl rfl dX4_add_65 (fun sg_12 H locs esg_12 hP hD hS => ?_)
    have hI_sg_12 := CI_put hI_gm_10 esg_12 hz_11 (by decide)
    exact W.nb (fun hN => W.widen (k := 1) (n := 6) (by decide) (by decide) (vx_ret (W.vret hx hb hr (fun t ht hW => ⟨⟨none, (sg_12, gm_10, lg), rfl, ⟨rfl, sg_12, gm_10, lg, rfl, hI_sg_12, (KS_up KS_rf esg_12 (by decide)), (KS_up (KS_up (KS_up (KS_up KS_rf egm_4 (by decide)) egm_6 (by decide)) egm_8 (by decide)) egm_10 (by decide)), KS_rf⟩, by rw [ht]; exact hP, va_K.moved hW.alike hK, hD⟩, hS.F ht, by rw [ht]; exact hN⟩) hS.2.2 dX4_add_68)))
  · have h_13 : iv 400 400 (sg 13) := iv_leR (i32_ge c_1) (iv_k (by decide) : iv 400 400 400) (show iv 0 400 (sg 13) from CI_s hI 13) (by decide)
    exact W.nb (fun hN => W.widen (k := 1) (n := 6) (by decide) (by decide) (vx_ret (W.vret hx hb hr (fun t ht hW => ⟨⟨none, (sg, gm, lg), rfl, ⟨rfl, sg, gm, lg, rfl, hI, KS_rf, KS_rf, KS_rf⟩, by rw [ht]; exact hP, va_K.moved hW.alike hK, hD⟩, hS.F ht, by rw [ht]; exact hN⟩) hS.2.2 dX4_add_10)))

set_option maxHeartbeats 4000000 in
set_option maxRecDepth 100000 in
theorem d_numberEv (l : Launch) (dC : Nat → ClassId) (dI : Nat → Nat → Nat) (ad : Nat → Nat → Nat) (cid : Nat → ClassId) (a2 : Nat → Nat) (lx : List Nat) (sg : Nat → Int32) (gm : Nat → Nat → Int32) (lg : Nat → Nat → Int64) (x : Int32) (a : Int32) (b : Int32) (hI : CI sg gm) (hvx : iv 0 0 x) : CMt dC dI ad cid a2 lx l yX4_number wm_X4_number ({ frames := 0, cells := 1, slots := 6, locals := 0 }) [eV (ad 5) x, .int a, .int b] sg gm lg (fun v u => ∃ r : Int32, v = some (.int r) ∧ u = (sg, gm, lg)) (fun _ _ => False) := by
  intro sz
  refine vx_ofW (cc := cX4_number) (maxL := 3) (ret := (some .int)) (by decide) rfl ?_
  intro p e s m args below meth c s₁ B hml hxt hv
  obtain ⟨rfl, hsz, hP, hK, hD0, hG⟩ := hv
  have hx := B.exec
  have hb := B.bytes
  have hr := B.returns
  have hts := atoms_spec (ws := wm_X4_number) B.pre
  have htb := fun (w : Cond) (h : w ∈ tb) => hts w (List.mem_cons_of_mem _ h)
  have hown : s.vm.findClass RX4 = some m.cls := findClass_of_methodNamed B.named
  have hlocks := B.notSynchronized
  subst hsz
  have hD := hD0.self (sz := s.heap.size)
  generalize hAe : va_A (cW ad cid a2 lx sg gm lg) s.heap.size = A at hD hG ⊢
  have hA : ∀ q : Nat, s.heap.size ≤ q → A q := fun q h => by rw [← hAe]; exact Or.inr h
  have hS : va_S A s.heap s.heap [] := va_S.rf
  have hl := lv_entry ([eV (ad 5) x, .int a, .int b]) (n := 3) (by rw [show (lg_sl ([eV (ad 5) x, .int a, .int b])).length = 3 from by simp [lg_sl, eV_cat, cat_i, cat_l]]; exact Nat.le_of_ble_eq_true rfl)
  rw [lg_entry_eq]
  generalize (lg_sl ([eV (ad 5) x, .int a, .int b]) ++ List.replicate (3 - (lg_sl ([eV (ad 5) x, .int a, .int b])).length) Slot.unset).toArray = ls at hl ⊢
  have hl : lv_has ls 3 [(0, eV (ad 5) x), (1, .int a), (2, .int b)] := by simp [lv_args, eV_cat, cat_i, cat_l] at hl; exact hl
  have hj35 : ∀ (y0_35 : Int32) (_ : iv 0 0 x) (H : Heap) (locs : List Loc) (ls : Array Slot), va_P (dC, dI) vwCl (cW ad cid a2 lx sg gm lg) H → va_D A (cW ad cid a2 lx sg gm lg) → va_S A s.heap H locs → lv_has ls 3 [(0, eV (ad 5) x), (1, .int a), (2, .int b)] → W p l e (headSpec wm_X4_number ({ frames := 0, cells := 1, slots := 6, locals := 0 })).room s m ([eV (ad 5) x, .int a, .int b] : List Value).toArray below meth c H locs 0 0 (vx_MQ below (cQx dC dI ad cid a2 lx (fun v u => ∃ r : Int32, v = some (.int r) ∧ u = (sg, gm, lg)) A) (cX dC dI ad cid a2 lx (fun _ _ => False) A) ([eV (ad 5) x, .int a, .int b] : List Value).toArray s 1 6 A) (F0 m 35 ls [.int y0_35]) := by
    intro y0_35 hsx0_35 H locs ls hP hD hS hl
    exact W.nb (fun hN => W.widen (k := 1) (n := 6) (by decide) (by decide) (vx_ret (W.iret (v := y0_35) hx hb hr (fun t ht hW => ⟨⟨some (.int y0_35), (sg, gm, lg), rfl, ⟨y0_35, rfl, rfl⟩, by rw [ht]; exact hP, va_K.moved hW.alike hK, hD⟩, hS.F ht, by rw [ht]; exact hN⟩) hS.2.2 dX4_number_35)))
  have hj34 : ∀ (_ : iv 0 0 x) (H : Heap) (locs : List Loc) (ls : Array Slot), va_P (dC, dI) vwCl (cW ad cid a2 lx sg gm lg) H → va_D A (cW ad cid a2 lx sg gm lg) → va_S A s.heap H locs → lv_has ls 3 [(0, eV (ad 5) x), (1, .int a), (2, .int b)] → W p l e (headSpec wm_X4_number ({ frames := 0, cells := 1, slots := 6, locals := 0 })).room s m ([eV (ad 5) x, .int a, .int b] : List Value).toArray below meth c H locs 0 0 (vx_MQ below (cQx dC dI ad cid a2 lx (fun v u => ∃ r : Int32, v = some (.int r) ∧ u = (sg, gm, lg)) A) (cX dC dI ad cid a2 lx (fun _ _ => False) A) ([eV (ad 5) x, .int a, .int b] : List Value).toArray s 1 6 A) (F0 m 34 ls []) := by
    intro  hsx0_34 H locs ls hP hD hS hl
    refine lv_iconst (v := (-1)) hx hb dX4_number_34 (by decide) ?_
    exact hj35 (-1) hsx0_34 _ _ _ hP hD hS (lv_sub hl [0, 1, 2] rfl)
  refine lv_iload_n hx hb dX4_number_0 rfl (lv_at hl 1 rfl) ?_
  refine lv_if_lt (tgt := 34) hx hb dX4_number_1 (by decide) (fun c_1 => ?_) (fun c_1 => ?_)
  · have h_2 : iv (-2147483648) (-1) a := iv_ltL c_1 (iv_all a) (iv_k (by decide) : iv 0 0 0) (by decide)
    exact hj34 hvx _ _ _ hP hD hS (lv_sub hl [0, 1, 2] rfl)
  · have h_3 : iv 0 2147483647 a := iv_leR (i32_ge c_1) (iv_k (by decide) : iv 0 0 0) (iv_all a) (by decide)
    refine lv_iload_n hx hb dX4_number_4 rfl (lv_at hl 1 rfl) ?_
    refine ec_aload_n hx hb dX4_number_5 rfl (lv_at hl 0 rfl) ?_
    refine cr_get (t := 5) (j := 1) (C := RX4) (T := TX4) (N := 2) (v := .int (sg 13)) hx hb htb inX4 hown hK hP hvx (by decide) (by decide) (by decide) rfl (by decide) (htb _ kw_332) rfl dX4_number_6 ?_
    refine lv_icmp_ge (tgt := 34) hx hb dX4_number_9 (by decide) (fun c_4 => ?_) (fun c_4 => ?_)
    · have d_5 : ((sg 13) : Int32).toInt ≤ (a : Int32).toInt := Int32.le_iff_toInt_le.mp c_4
      exact hj34 hvx _ _ _ hP hD hS (lv_sub hl [0, 1, 2] rfl)
    · have d_6 : (a : Int32).toInt < ((sg 13) : Int32).toInt := Int32.lt_iff_toInt_lt.mp (i32_lt c_4)
      have h_7 : iv 0 399 a := iv_ltL (i32_lt c_4) h_3 (show iv 0 400 (sg 13) from CI_s hI 13) (by decide)
      have h_8 : iv 1 400 (sg 13) := iv_ltR (i32_lt c_4) h_3 (show iv 0 400 (sg 13) from CI_s hI 13) (by decide)
      refine lv_iload_n hx hb dX4_number_12 rfl (lv_at hl 2 rfl) ?_
      refine lv_if_lt (tgt := 34) hx hb dX4_number_13 (by decide) (fun c_9 => ?_) (fun c_9 => ?_)
      · have h_10 : iv (-2147483648) (-1) b := iv_ltL c_9 (iv_all b) (iv_k (by decide) : iv 0 0 0) (by decide)
        exact hj34 hvx _ _ _ hP hD hS (lv_sub hl [0, 1, 2] rfl)
      · have h_11 : iv 0 2147483647 b := iv_leR (i32_ge c_9) (iv_k (by decide) : iv 0 0 0) (iv_all b) (by decide)
        refine lv_iload_n hx hb dX4_number_16 rfl (lv_at hl 2 rfl) ?_
        refine lv_iconst (v := 4) hx hb dX4_number_17 (by decide) ?_
        refine lv_icmp_ge (tgt := 34) hx hb dX4_number_18 (by decide) (fun c_12 => ?_) (fun c_12 => ?_)
        · have h_13 : iv 4 2147483647 b := iv_leR c_12 (iv_k (by decide) : iv 4 4 4) h_11 (by decide)
          exact hj34 hvx _ _ _ hP hD hS (lv_sub hl [0, 1, 2] rfl)
        · have h_14 : iv 0 3 b := iv_ltL (i32_lt c_12) h_11 (iv_k (by decide) : iv 4 4 4) (by decide)
          refine ec_aload_n hx hb dX4_number_21 rfl (lv_at hl 0 rfl) ?_
          refine cr_get (t := 5) (j := 0) (C := RX4) (T := TX4) (N := 2) (v := eV (ad 21) 0) hx hb htb inX4 hown hK hP hvx (by decide) (by decide) (by decide) rfl (by decide) (htb _ kw_117) (cV_c rfl (by decide) (by rw [show cMu 5 0 = 0 from rfl, Nat.zero_mul]; rfl)) dX4_number_22 ?_
          refine lv_iload_n hx hb dX4_number_25 rfl (lv_at hl 1 rfl) ?_
          refine lv_iconst (v := 4) hx hb dX4_number_26 (by decide) ?_
          refine lv_imul hx hb dX4_number_27 ?_
          refine lv_topi (fun z_15 ez_15 => ?_)
          have hz_15 : iv 0 1596 z_15 := iv_of ez_15 (iv_mul h_7 (iv_k (by decide) : iv 4 4 4) (by decide))
          have tz_15 : z_15.toInt = (a : Int32).toInt * 4 := by rw [ez_15]; exact iv_mulE h_7 (iv_k (by decide) : iv 4 4 4) (by decide)
          refine lv_iload_n hx hb dX4_number_28 rfl (lv_at hl 2 rfl) ?_
          refine lv_iadd hx hb dX4_number_29 ?_
          refine lv_topi (fun z_16 ez_16 => ?_)
          have hz_16 : iv 0 1599 z_16 := iv_of ez_16 (iv_add hz_15 h_14 (by decide))
          have tz_16 : z_16.toInt = (z_15 : Int32).toInt + (b : Int32).toInt := by rw [ez_16]; exact iv_addE hz_15 h_14 (by decide)
          refine cr_iald (t := 21) (z := (gm 48 (z_16 : Int32).toNatClampNeg)) hx hb hK hP (iv_k (by decide) : iv 0 0 0) (by decide) (by decide) (by decide) rfl rfl (show vp_in z_16 (cLen 21) from (show vp_in z_16 1600 from (iv_in hz_16 (by decide)))) rfl dX4_number_30 ?_
          obtain ⟨z_17, ez_17⟩ : ∃ z : Int32, z = (gm 48 (z_16 : Int32).toNatClampNeg) := ⟨_, rfl⟩
          refine W.eq (g2 := F0 m 31 ls [.int z_17]) (by rw [ez_17]) ?_
          refine lv_goto (tgt := 35) hx hb dX4_number_31 (by decide) ?_
          exact hj35 z_17 hvx _ _ _ hP hD hS (lv_sub hl [0, 1, 2] rfl)

set_option maxHeartbeats 4000000 in
set_option maxRecDepth 100000 in
theorem d_describe (l : Launch) (dC : Nat → ClassId) (dI : Nat → Nat → Nat) (ad : Nat → Nat → Nat) (cid : Nat → ClassId) (a2 : Nat → Nat) (lx : List Nat) (sg : Nat → Int32) (gm : Nat → Nat → Int32) (lg : Nat → Nat → Int64) (x : Int32) (a : Int32) (b : Int32) (f : Int32) (hI : CI sg gm) (hvx : iv 0 63 x) (hva : iv (-1) 25 a) (hvb : iv 0 1 b) (hvf : iv 0 7 f) : CMt dC dI ad cid a2 lx l yX8_describe wm_X8_describe ({ frames := 0, cells := 1, slots := 6, locals := 0 }) [eV (ad 8) x, .int a, .int b, .int f] sg gm lg (fun v u => v = none ∧ ∃ (sg2 : Nat → Int32) (gm2 : Nat → Nat → Int32) (lg2 : Nat → Nat → Int64), u = (sg2, gm2, lg2) ∧ CI sg2 gm2 ∧ KS [] sg sg2 ∧ KS [8, 9, 10] gm gm2 ∧ KS [] lg lg2) (fun _ _ => False) := by
  intro sz
  refine vx_ofW (cc := cX8_describe) (maxL := 4) (ret := none) (by decide) rfl ?_
  intro p e s m args below meth c s₁ B hml hxt hv
  obtain ⟨rfl, hsz, hP, hK, hD0, hG⟩ := hv
  have hx := B.exec
  have hb := B.bytes
  have hr := B.returns
  have hts := atoms_spec (ws := wm_X8_describe) B.pre
  have htb := fun (w : Cond) (h : w ∈ tb) => hts w (List.mem_cons_of_mem _ h)
  have hown : s.vm.findClass RX8 = some m.cls := findClass_of_methodNamed B.named
  have hlocks := B.notSynchronized
  subst hsz
  have hD := hD0.self (sz := s.heap.size)
  generalize hAe : va_A (cW ad cid a2 lx sg gm lg) s.heap.size = A at hD hG ⊢
  have hA : ∀ q : Nat, s.heap.size ≤ q → A q := fun q h => by rw [← hAe]; exact Or.inr h
  have hS : va_S A s.heap s.heap [] := va_S.rf
  have hl := lv_entry ([eV (ad 8) x, .int a, .int b, .int f]) (n := 4) (by rw [show (lg_sl ([eV (ad 8) x, .int a, .int b, .int f])).length = 4 from by simp [lg_sl, eV_cat, cat_i, cat_l]]; exact Nat.le_of_ble_eq_true rfl)
  rw [lg_entry_eq]
  generalize (lg_sl ([eV (ad 8) x, .int a, .int b, .int f]) ++ List.replicate (4 - (lg_sl ([eV (ad 8) x, .int a, .int b, .int f])).length) Slot.unset).toArray = ls at hl ⊢
  have hl : lv_has ls 4 [(0, eV (ad 8) x), (1, .int a), (2, .int b), (3, .int f)] := by simp [lv_args, eV_cat, cat_i, cat_l] at hl; exact hl
  refine ec_aload_n hx hb dX8_describe_0 rfl (lv_at hl 0 rfl) ?_
  refine lv_iload_n hx hb dX8_describe_1 rfl (lv_at hl 1 rfl) ?_
  refine cr_putg (t := 8) (j := 4) (C := RX8) (T := TX8) (N := 7) (ty0 := tyX8) (k := 8) (y := a) hx hb htb inX8 tyX8_ok nmX8 hown hK hP hD hS hvx (by decide) (by decide) (by decide) (by decide) rfl rfl (by decide) (htb _ kw_255) rfl (by show Value.int a = Value.int (va_up gm 8 (upd (gm 8) x.toNatClampNeg a) 8 x.toNatClampNeg); rw [va_up_self, upd_at]) rfl rfl dX8_describe_2 (fun gm_1 H locs egm_1 hP hD hS => ?_)
  have hI_gm_1 := CI_st hI egm_1 hva (by decide)
  refine ec_aload_n hx hb dX8_describe_5 rfl (lv_at hl 0 rfl) ?_
  refine lv_iload_n hx hb dX8_describe_6 rfl (lv_at hl 2 rfl) ?_
  refine cr_putg (t := 8) (j := 5) (C := RX8) (T := TX8) (N := 7) (ty0 := tyX8) (k := 9) (y := b) hx hb htb inX8 tyX8_ok nmX8 hown hK hP hD hS hvx (by decide) (by decide) (by decide) (by decide) rfl rfl (by decide) (htb _ kw_256) rfl (by show Value.int b = Value.int (va_up gm_1 9 (upd (gm_1 9) x.toNatClampNeg b) 9 x.toNatClampNeg); rw [va_up_self, upd_at]) (iv_nb hvb) (iv_fb hvb) dX8_describe_7 (fun gm_2 H locs egm_2 hP hD hS => ?_)
  have hI_gm_2 := CI_st hI_gm_1 egm_2 hvb (by decide)
  refine ec_aload_n hx hb dX8_describe_10 rfl (lv_at hl 0 rfl) ?_
  refine lv_iload_n hx hb dX8_describe_11 rfl (lv_at hl 3 rfl) ?_
  refine cr_putg (t := 8) (j := 6) (C := RX8) (T := TX8) (N := 7) (ty0 := tyX8) (k := 10) (y := f) hx hb htb inX8 tyX8_ok nmX8 hown hK hP hD hS hvx (by decide) (by decide) (by decide) (by decide) rfl rfl (by decide) (htb _ kw_257) rfl (by show Value.int f = Value.int (va_up gm_2 10 (upd (gm_2 10) x.toNatClampNeg f) 10 x.toNatClampNeg); rw [va_up_self, upd_at]) rfl rfl dX8_describe_12 (fun gm_3 H locs egm_3 hP hD hS => ?_)
  have hI_gm_3 := CI_st hI_gm_2 egm_3 hvf (by decide)
  exact W.nb (fun hN => W.widen (k := 1) (n := 6) (by decide) (by decide) (vx_ret (W.vret hx hb hr (fun t ht hW => ⟨⟨none, (sg, gm_3, lg), rfl, ⟨rfl, sg, gm_3, lg, rfl, hI_gm_3, KS_rf, (KS_up (KS_up (KS_up KS_rf egm_1 (by decide)) egm_2 (by decide)) egm_3 (by decide)), KS_rf⟩, by rw [ht]; exact hP, va_K.moved hW.alike hK, hD⟩, hS.F ht, by rw [ht]; exact hN⟩) hS.2.2 dX8_describe_15)))

set_option maxHeartbeats 4000000 in
set_option maxRecDepth 100000 in
theorem d_setTypes (l : Launch) (dC : Nat → ClassId) (dI : Nat → Nat → Nat) (ad : Nat → Nat → Nat) (cid : Nat → ClassId) (a2 : Nat → Nat) (lx : List Nat) (sg : Nat → Int32) (gm : Nat → Nat → Int32) (lg : Nat → Nat → Int64) (x : Int32) (a : Int32) (b : Int32) (f : Int32) (g : Int32) (hI : CI sg gm) (hvx : iv 0 63 x) (hva : iv 0 3 a) : CMt dC dI ad cid a2 lx l yX8_setTypes wm_X8_setTypes ({ frames := 0, cells := 1, slots := 6, locals := 0 }) [eV (ad 8) x, .int a, .int b, .int f, .int g] sg gm lg (fun v u => v = none ∧ ∃ (sg2 : Nat → Int32) (gm2 : Nat → Nat → Int32) (lg2 : Nat → Nat → Int64), u = (sg2, gm2, lg2) ∧ CI sg2 gm2 ∧ KS [] sg sg2 ∧ KS [7, 54] gm gm2 ∧ KS [] lg lg2) (fun _ _ => False) := by
  intro sz
  refine vx_ofW (cc := cX8_setTypes) (maxL := 5) (ret := none) (by decide) rfl ?_
  intro p e s m args below meth c s₁ B hml hxt hv
  obtain ⟨rfl, hsz, hP, hK, hD0, hG⟩ := hv
  have hx := B.exec
  have hb := B.bytes
  have hr := B.returns
  have hts := atoms_spec (ws := wm_X8_setTypes) B.pre
  have htb := fun (w : Cond) (h : w ∈ tb) => hts w (List.mem_cons_of_mem _ h)
  have hown : s.vm.findClass RX8 = some m.cls := findClass_of_methodNamed B.named
  have hlocks := B.notSynchronized
  subst hsz
  have hD := hD0.self (sz := s.heap.size)
  generalize hAe : va_A (cW ad cid a2 lx sg gm lg) s.heap.size = A at hD hG ⊢
  have hA : ∀ q : Nat, s.heap.size ≤ q → A q := fun q h => by rw [← hAe]; exact Or.inr h
  have hS : va_S A s.heap s.heap [] := va_S.rf
  have hl := lv_entry ([eV (ad 8) x, .int a, .int b, .int f, .int g]) (n := 5) (by rw [show (lg_sl ([eV (ad 8) x, .int a, .int b, .int f, .int g])).length = 5 from by simp [lg_sl, eV_cat, cat_i, cat_l]]; exact Nat.le_of_ble_eq_true rfl)
  rw [lg_entry_eq]
  generalize (lg_sl ([eV (ad 8) x, .int a, .int b, .int f, .int g]) ++ List.replicate (5 - (lg_sl ([eV (ad 8) x, .int a, .int b, .int f, .int g])).length) Slot.unset).toArray = ls at hl ⊢
  have hl : lv_has ls 5 [(0, eV (ad 8) x), (1, .int a), (2, .int b), (3, .int f), (4, .int g)] := by simp [lv_args, eV_cat, cat_i, cat_l] at hl; exact hl
  refine ec_aload_n hx hb dX8_setTypes_0 rfl (lv_at hl 0 rfl) ?_
  refine lv_iload_n hx hb dX8_setTypes_1 rfl (lv_at hl 1 rfl) ?_
  refine cr_putg (t := 8) (j := 3) (C := RX8) (T := TX8) (N := 7) (ty0 := tyX8) (k := 7) (y := a) hx hb htb inX8 tyX8_ok nmX8 hown hK hP hD hS hvx (by decide) (by decide) (by decide) (by decide) rfl rfl (by decide) (htb _ kw_261) rfl (by show Value.int a = Value.int (va_up gm 7 (upd (gm 7) x.toNatClampNeg a) 7 x.toNatClampNeg); rw [va_up_self, upd_at]) rfl rfl dX8_setTypes_2 (fun gm_1 H locs egm_1 hP hD hS => ?_)
  have hI_gm_1 := CI_st hI egm_1 hva (by decide)
  refine ec_aload_n hx hb dX8_setTypes_5 rfl (lv_at hl 0 rfl) ?_
  refine cr_get (t := 8) (j := 2) (C := RX8) (T := TX8) (N := 7) (v := eV (ad 27) x) hx hb htb inX8 hown hK hP hvx (by decide) (by decide) (by decide) rfl (by decide) (htb _ kw_59) (cV_c rfl (hvx).1 (by rw [show cMu 8 2 = 1 from rfl, Nat.one_mul]; rfl)) dX8_setTypes_6 ?_
  refine lv_iconst (v := 0) hx hb dX8_setTypes_9 (by decide) ?_
  refine lv_iload_n hx hb dX8_setTypes_10 rfl (lv_at hl 2 rfl) ?_
  refine cr_iast (t := 27) (k := 54) (n9 := (3 * x.toNatClampNeg + (0 : Int32).toNatClampNeg)) (z := b) hx hb hK hP hD hS hvx (by decide) (by decide) (by decide) rfl rfl rfl (show vp_in 0 (cLen 27) from (show vp_in 0 3 from (iv_in (iv_k (by decide) : iv 0 0 0) (by decide)))) (Or.inr (vin_lt (show vp_in 0 (cLen 27) from (show vp_in 0 3 from (iv_in (iv_k (by decide) : iv 0 0 0) (by decide)))))) rfl dX8_setTypes_11 (fun gm_2 H locs egm_2 hP hD hS => ?_)
  have hI_gm_2 := CI_st hI_gm_1 egm_2 (iv_all b) (by decide)
  refine ec_aload_n hx hb dX8_setTypes_12 rfl (lv_at hl 0 rfl) ?_
  refine cr_get (t := 8) (j := 2) (C := RX8) (T := TX8) (N := 7) (v := eV (ad 27) x) hx hb htb inX8 hown hK hP hvx (by decide) (by decide) (by decide) rfl (by decide) (htb _ kw_59) (cV_c rfl (hvx).1 (by rw [show cMu 8 2 = 1 from rfl, Nat.one_mul]; rfl)) dX8_setTypes_13 ?_
  refine lv_iconst (v := 1) hx hb dX8_setTypes_16 (by decide) ?_
  refine lv_iload_n hx hb dX8_setTypes_17 rfl (lv_at hl 3 rfl) ?_
  refine cr_iast (t := 27) (k := 54) (n9 := (3 * x.toNatClampNeg + (1 : Int32).toNatClampNeg)) (z := f) hx hb hK hP hD hS hvx (by decide) (by decide) (by decide) rfl rfl rfl (show vp_in 1 (cLen 27) from (show vp_in 1 3 from (iv_in (iv_k (by decide) : iv 1 1 1) (by decide)))) (Or.inr (vin_lt (show vp_in 1 (cLen 27) from (show vp_in 1 3 from (iv_in (iv_k (by decide) : iv 1 1 1) (by decide)))))) rfl dX8_setTypes_18 (fun gm_3 H locs egm_3 hP hD hS => ?_)
  have hI_gm_3 := CI_st hI_gm_2 egm_3 (iv_all f) (by decide)
  refine ec_aload_n hx hb dX8_setTypes_19 rfl (lv_at hl 0 rfl) ?_
  refine cr_get (t := 8) (j := 2) (C := RX8) (T := TX8) (N := 7) (v := eV (ad 27) x) hx hb htb inX8 hown hK hP hvx (by decide) (by decide) (by decide) rfl (by decide) (htb _ kw_59) (cV_c rfl (hvx).1 (by rw [show cMu 8 2 = 1 from rfl, Nat.one_mul]; rfl)) dX8_setTypes_20 ?_
  refine lv_iconst (v := 2) hx hb dX8_setTypes_23 (by decide) ?_
  refine lv_iload hx hb dX8_setTypes_24 (lv_at hl 4 rfl) ?_
  refine cr_iast (t := 27) (k := 54) (n9 := (3 * x.toNatClampNeg + (2 : Int32).toNatClampNeg)) (z := g) hx hb hK hP hD hS hvx (by decide) (by decide) (by decide) rfl rfl rfl (show vp_in 2 (cLen 27) from (show vp_in 2 3 from (iv_in (iv_k (by decide) : iv 2 2 2) (by decide)))) (Or.inr (vin_lt (show vp_in 2 (cLen 27) from (show vp_in 2 3 from (iv_in (iv_k (by decide) : iv 2 2 2) (by decide)))))) rfl dX8_setTypes_26 (fun gm_4 H locs egm_4 hP hD hS => ?_)
  have hI_gm_4 := CI_st hI_gm_3 egm_4 (iv_all g) (by decide)
  exact W.nb (fun hN => W.widen (k := 1) (n := 6) (by decide) (by decide) (vx_ret (W.vret hx hb hr (fun t ht hW => ⟨⟨none, (sg, gm_4, lg), rfl, ⟨rfl, sg, gm_4, lg, rfl, hI_gm_4, KS_rf, (KS_up (KS_up (KS_up (KS_up KS_rf egm_1 (by decide)) egm_2 (by decide)) egm_3 (by decide)) egm_4 (by decide)), KS_rf⟩, by rw [ht]; exact hP, va_K.moved hW.alike hK, hD⟩, hS.F ht, by rw [ht]; exact hN⟩) hS.2.2 dX8_setTypes_27)))

set_option maxHeartbeats 4000000 in
set_option maxRecDepth 100000 in
theorem d_isCalled (l : Launch) (dC : Nat → ClassId) (dI : Nat → Nat → Nat) (ad : Nat → Nat → Nat) (cid : Nat → ClassId) (a2 : Nat → Nat) (lx : List Nat) (sg : Nat → Int32) (gm : Nat → Nat → Int32) (lg : Nat → Nat → Int64) (x : Int32) (a : Int32) (b : Int32) (hI : CI sg gm) (hvx : iv 0 63 x) (hvb : iv 0 1 b) : CMt dC dI ad cid a2 lx l yX8_isCalled wm_X8_isCalled ({ frames := 0, cells := 1, slots := 6, locals := 0 }) [eV (ad 8) x, .int a, .int b] sg gm lg (fun v u => ∃ r : Int32, v = some (.int r) ∧ u = (sg, gm, lg) ∧ (iv 0 1 r)) (fun _ _ => False) := by
  intro sz
  refine vx_ofW (cc := cX8_isCalled) (maxL := 3) (ret := (some .boolean)) (by decide) rfl ?_
  intro p e s m args below meth c s₁ B hml hxt hv
  obtain ⟨rfl, hsz, hP, hK, hD0, hG⟩ := hv
  have hx := B.exec
  have hb := B.bytes
  have hr := B.returns
  have hts := atoms_spec (ws := wm_X8_isCalled) B.pre
  have htb := fun (w : Cond) (h : w ∈ tb) => hts w (List.mem_cons_of_mem _ h)
  have hown : s.vm.findClass RX8 = some m.cls := findClass_of_methodNamed B.named
  have hlocks := B.notSynchronized
  subst hsz
  have hD := hD0.self (sz := s.heap.size)
  generalize hAe : va_A (cW ad cid a2 lx sg gm lg) s.heap.size = A at hD hG ⊢
  have hA : ∀ q : Nat, s.heap.size ≤ q → A q := fun q h => by rw [← hAe]; exact Or.inr h
  have hS : va_S A s.heap s.heap [] := va_S.rf
  have hl := lv_entry ([eV (ad 8) x, .int a, .int b]) (n := 3) (by rw [show (lg_sl ([eV (ad 8) x, .int a, .int b])).length = 3 from by simp [lg_sl, eV_cat, cat_i, cat_l]]; exact Nat.le_of_ble_eq_true rfl)
  rw [lg_entry_eq]
  generalize (lg_sl ([eV (ad 8) x, .int a, .int b]) ++ List.replicate (3 - (lg_sl ([eV (ad 8) x, .int a, .int b])).length) Slot.unset).toArray = ls at hl ⊢
  have hl : lv_has ls 3 [(0, eV (ad 8) x), (1, .int a), (2, .int b)] := by simp [lv_args, eV_cat, cat_i, cat_l] at hl; exact hl
  have hj21 : ∀ (y0_21 : Int32) (_ : iv 0 63 x) (_ : iv 0 1 b) (_ : iv 0 1 y0_21) (H : Heap) (locs : List Loc) (ls : Array Slot), va_P (dC, dI) vwCl (cW ad cid a2 lx sg gm lg) H → va_D A (cW ad cid a2 lx sg gm lg) → va_S A s.heap H locs → lv_has ls 3 [(0, eV (ad 8) x), (1, .int a), (2, .int b)] → W p l e (headSpec wm_X8_isCalled ({ frames := 0, cells := 1, slots := 6, locals := 0 })).room s m ([eV (ad 8) x, .int a, .int b] : List Value).toArray below meth c H locs 0 0 (vx_MQ below (cQx dC dI ad cid a2 lx (fun v u => ∃ r : Int32, v = some (.int r) ∧ u = (sg, gm, lg) ∧ (iv 0 1 r)) A) (cX dC dI ad cid a2 lx (fun _ _ => False) A) ([eV (ad 8) x, .int a, .int b] : List Value).toArray s 1 6 A) (F0 m 21 ls [.int y0_21]) := by
    intro y0_21 hsx0_21 hsx2_21 hy0_21 H locs ls hP hD hS hl
    exact W.nb (fun hN => W.widen (k := 1) (n := 6) (by decide) (by decide) (vx_ret (W.zret (v := y0_21) hx hb hr (iv_nb hy0_21) (fun t ht hW => ⟨⟨some (.int y0_21), (sg, gm, lg), rfl, ⟨y0_21, rfl, rfl, hy0_21⟩, by rw [ht]; exact hP, va_K.moved hW.alike hK, hD⟩, hS.F ht, by rw [ht]; exact hN⟩) hS.2.2 dX8_isCalled_21)))
  have hj20 : ∀ (_ : iv 0 63 x) (_ : iv 0 1 b) (H : Heap) (locs : List Loc) (ls : Array Slot), va_P (dC, dI) vwCl (cW ad cid a2 lx sg gm lg) H → va_D A (cW ad cid a2 lx sg gm lg) → va_S A s.heap H locs → lv_has ls 3 [(0, eV (ad 8) x), (1, .int a), (2, .int b)] → W p l e (headSpec wm_X8_isCalled ({ frames := 0, cells := 1, slots := 6, locals := 0 })).room s m ([eV (ad 8) x, .int a, .int b] : List Value).toArray below meth c H locs 0 0 (vx_MQ below (cQx dC dI ad cid a2 lx (fun v u => ∃ r : Int32, v = some (.int r) ∧ u = (sg, gm, lg) ∧ (iv 0 1 r)) A) (cX dC dI ad cid a2 lx (fun _ _ => False) A) ([eV (ad 8) x, .int a, .int b] : List Value).toArray s 1 6 A) (F0 m 20 ls []) := by
    intro  hsx0_20 hsx2_20 H locs ls hP hD hS hl
    refine lv_iconst (v := 0) hx hb dX8_isCalled_20 (by decide) ?_
    exact hj21 0 hsx0_20 hsx2_20 (iv_w (iv_k (by decide) : iv 0 0 0) (by decide)) _ _ _ hP hD hS (lv_sub hl [0, 1, 2] rfl)
  refine ec_aload_n hx hb dX8_isCalled_0 rfl (lv_at hl 0 rfl) ?_
  refine cr_get (t := 8) (j := 4) (C := RX8) (T := TX8) (N := 7) (v := .int (gm 8 x.toNatClampNeg)) hx hb htb inX8 hown hK hP hvx (by decide) (by decide) (by decide) rfl (by decide) (htb _ kw_255) rfl dX8_isCalled_1 ?_
  obtain ⟨z_1, ez_1⟩ : ∃ z : Int32, z = (gm 8 x.toNatClampNeg) := ⟨_, rfl⟩
  refine W.eq (g2 := F0 m 4 ls [.int z_1]) (by rw [ez_1]) ?_
  have hz_1 : iv (-1) 25 z_1 := iv_of ez_1 (CI_a hI 8 hvx (by decide))
  refine lv_iload_n hx hb dX8_isCalled_4 rfl (lv_at hl 1 rfl) ?_
  refine lv_icmp_ne (tgt := 20) hx hb dX8_isCalled_5 (by decide) (fun c_2 => ?_) (fun c_2 => ?_)
  · exact hj20 hvx hvb _ _ _ hP hD hS (lv_sub hl [0, 1, 2] rfl)
  · have d_3 : (z_1 : Int32).toInt = (a : Int32).toInt := congrArg Int32.toInt c_2
    have h_4 : iv (-1) 25 a := iv_eq (Eq.symm c_2) (iv_all a) hz_1 (by decide)
    refine ec_aload_n hx hb dX8_isCalled_8 rfl (lv_at hl 0 rfl) ?_
    refine cr_get (t := 8) (j := 5) (C := RX8) (T := TX8) (N := 7) (v := .int (gm 9 x.toNatClampNeg)) hx hb htb inX8 hown hK hP hvx (by decide) (by decide) (by decide) rfl (by decide) (htb _ kw_256) rfl dX8_isCalled_9 ?_
    obtain ⟨z_5, ez_5⟩ : ∃ z : Int32, z = (gm 9 x.toNatClampNeg) := ⟨_, rfl⟩
    refine W.eq (g2 := F0 m 12 ls [.int z_5]) (by rw [ez_5]) ?_
    have hz_5 : iv 0 1 z_5 := iv_of ez_5 (CI_a hI 9 hvx (by decide))
    refine lv_iload_n hx hb dX8_isCalled_12 rfl (lv_at hl 2 rfl) ?_
    refine lv_icmp_ne (tgt := 20) hx hb dX8_isCalled_13 (by decide) (fun c_6 => ?_) (fun c_6 => ?_)
    · exact hj20 hvx hvb _ _ _ hP hD hS (lv_sub hl [0, 1, 2] rfl)
    · have d_7 : (z_5 : Int32).toInt = (b : Int32).toInt := congrArg Int32.toInt c_6
      refine lv_iconst (v := 1) hx hb dX8_isCalled_16 (by decide) ?_
      refine lv_goto (tgt := 21) hx hb dX8_isCalled_17 (by decide) ?_
      exact hj21 1 hvx hvb (iv_w (iv_k (by decide) : iv 1 1 1) (by decide)) _ _ _ hP hD hS (lv_sub hl [0, 1, 2] rfl)

set_option maxHeartbeats 4000000 in
set_option maxRecDepth 100000 in
theorem d_beginDc (l : Launch) (dC : Nat → ClassId) (dI : Nat → Nat → Nat) (ad : Nat → Nat → Nat) (cid : Nat → ClassId) (a2 : Nat → Nat) (lx : List Nat) (sg : Nat → Int32) (gm : Nat → Nat → Int32) (lg : Nat → Nat → Int64) (x : Int32) (a : Int32) (hI : CI sg gm) (hvx : iv 0 7 x) (hva : iv (-1) 7 a) : CMt dC dI ad cid a2 lx l yX2_begin wm_X2_begin ({ frames := 0, cells := 1, slots := 6, locals := 0 }) [eV (ad 7) x, eV (ad 7) a] sg gm lg (fun v u => v = none ∧ ∃ (sg2 : Nat → Int32) (gm2 : Nat → Nat → Int32) (lg2 : Nat → Nat → Int64), u = (sg2, gm2, lg2) ∧ CI sg2 gm2 ∧ KS [] sg sg2 ∧ KS [0, 1, 3, 4, 55] gm gm2 ∧ KS [] lg lg2) (fun _ _ => False) := by
  intro sz
  refine vx_ofW (cc := cX2_begin) (maxL := 3) (ret := none) (by decide) rfl ?_
  intro p e s m args below meth c s₁ B hml hxt hv
  obtain ⟨rfl, hsz, hP, hK, hD0, hG⟩ := hv
  have hx := B.exec
  have hb := B.bytes
  have hr := B.returns
  have hts := atoms_spec (ws := wm_X2_begin) B.pre
  have htb := fun (w : Cond) (h : w ∈ tb) => hts w (List.mem_cons_of_mem _ h)
  have hown : s.vm.findClass RX2 = some m.cls := findClass_of_methodNamed B.named
  have hlocks := B.notSynchronized
  subst hsz
  have hD := hD0.self (sz := s.heap.size)
  generalize hAe : va_A (cW ad cid a2 lx sg gm lg) s.heap.size = A at hD hG ⊢
  have hA : ∀ q : Nat, s.heap.size ≤ q → A q := fun q h => by rw [← hAe]; exact Or.inr h
  have hS : va_S A s.heap s.heap [] := va_S.rf
  have hl := lv_entry ([eV (ad 7) x, eV (ad 7) a]) (n := 3) (by rw [show (lg_sl ([eV (ad 7) x, eV (ad 7) a])).length = 2 from by simp [lg_sl, eV_cat, cat_i, cat_l]]; exact Nat.le_of_ble_eq_true rfl)
  rw [lg_entry_eq]
  generalize (lg_sl ([eV (ad 7) x, eV (ad 7) a]) ++ List.replicate (3 - (lg_sl ([eV (ad 7) x, eV (ad 7) a])).length) Slot.unset).toArray = ls at hl ⊢
  have hl : lv_has ls 3 [(0, eV (ad 7) x), (1, eV (ad 7) a)] := by simp [lv_args, eV_cat, cat_i, cat_l] at hl; exact hl
  have hj22 : ∀ (n : Nat) (gm_j22 : Nat → Nat → Int32) (x2_22 : Int32) (_ : (26 - x2_22.toInt).toNat = n) (_ : iv 0 26 x2_22) (_ : iv 0 7 x) (_ : iv (-1) 7 a) (_ : KS [0, 1, 3, 4, 55] gm gm_j22) (_ : CI sg gm_j22) (H : Heap) (locs : List Loc) (ls : Array Slot), va_P (dC, dI) vwCl (cW ad cid a2 lx sg gm_j22 lg) H → va_D A (cW ad cid a2 lx sg gm_j22 lg) → va_S A s.heap H locs → lv_has ls 3 [(2, .int x2_22), (0, eV (ad 7) x), (1, eV (ad 7) a)] → W p l e (headSpec wm_X2_begin ({ frames := 0, cells := 1, slots := 6, locals := 0 })).room s m ([eV (ad 7) x, eV (ad 7) a] : List Value).toArray below meth c H locs 0 0 (vx_MQ below (cQx dC dI ad cid a2 lx (fun v u => v = none ∧ ∃ (sg2 : Nat → Int32) (gm2 : Nat → Nat → Int32) (lg2 : Nat → Nat → Int64), u = (sg2, gm2, lg2) ∧ CI sg2 gm2 ∧ KS [] sg sg2 ∧ KS [0, 1, 3, 4, 55] gm gm2 ∧ KS [] lg lg2) A) (cX dC dI ad cid a2 lx (fun _ _ => False) A) ([eV (ad 7) x, eV (ad 7) a] : List Value).toArray s 1 6 A) (F0 m 22 ls []) := by
    intro n
    induction n using Nat.strongRecOn with
    | ind n ih22 =>
      intro gm_j22 x2_22 hn22 hx2_22 hsx0_22 hsx1_22 hkg_j22 hI_j22 H locs ls hP hD hS hl
      refine lv_iload_n hx hb dX2_begin_22 rfl (lv_at hl 0 rfl) ?_
      refine lv_bipush (v := 26) hx hb dX2_begin_23 (by decide) ?_
      refine lv_icmp_ge (tgt := 41) hx hb dX2_begin_25 (by decide) (fun c_1 => ?_) (fun c_1 => ?_)
      · have h_2 : iv 26 26 x2_22 := iv_leR c_1 (iv_k (by decide) : iv 26 26 26) hx2_22 (by decide)
        exact W.nb (fun hN => W.widen (k := 1) (n := 6) (by decide) (by decide) (vx_ret (W.vret hx hb hr (fun t ht hW => ⟨⟨none, (sg, gm_j22, lg), rfl, ⟨rfl, sg, gm_j22, lg, rfl, hI_j22, KS_rf, (KS_tr (L := [0, 1, 3, 4, 55]) KS_rf hkg_j22 (by decide)), KS_rf⟩, by rw [ht]; exact hP, va_K.moved hW.alike hK, hD⟩, hS.F ht, by rw [ht]; exact hN⟩) hS.2.2 dX2_begin_41)))
      · have h_3 : iv 0 25 x2_22 := iv_ltL (i32_lt c_1) hx2_22 (iv_k (by decide) : iv 26 26 26) (by decide)
        refine ec_aload_n hx hb dX2_begin_28 rfl (lv_at hl 1 rfl) ?_
        refine cr_get (t := 7) (j := 5) (C := RX2) (T := TX2) (N := 8) (v := eV (ad 30) x) hx hb htb inX2 hown hK hP hsx0_22 (by decide) (by decide) (by decide) rfl (by decide) (htb _ kw_53) (cV_c rfl (hsx0_22).1 (by rw [show cMu 7 5 = 1 from rfl, Nat.one_mul]; rfl)) dX2_begin_29 ?_
        refine lv_iload_n hx hb dX2_begin_32 rfl (lv_at hl 0 rfl) ?_
        refine lv_iconst (v := (-1)) hx hb dX2_begin_33 (by decide) ?_
        refine cr_iast (t := 30) (k := 55) (n9 := (26 * x.toNatClampNeg + (x2_22 : Int32).toNatClampNeg)) (z := (-1)) hx hb hK hP hD hS hsx0_22 (by decide) (by decide) (by decide) rfl rfl rfl (show vp_in x2_22 (cLen 30) from (show vp_in x2_22 26 from (iv_in h_3 (by decide)))) (Or.inr (vin_lt (show vp_in x2_22 (cLen 30) from (show vp_in x2_22 26 from (iv_in h_3 (by decide)))))) rfl dX2_begin_34 (fun gm_4 H locs egm_4 hP hD hS => ?_)
        have hI_gm_4 := CI_st hI_j22 egm_4 (iv_k (by decide) : iv (-1) (-1) (-1)) (by decide)
        obtain ⟨z_5, ez_5⟩ : ∃ z : Int32, z = x2_22 + 1 := ⟨_, rfl⟩
        have hz_5 : iv 1 26 z_5 := iv_of ez_5 (iv_add h_3 (iv_k (by decide) : iv 1 1 1) (by decide))
        have tz_5 : z_5.toInt = x2_22.toInt + 1 := by rw [ez_5]; exact iv_addE h_3 (iv_k (by decide) : iv 1 1 1) (by decide)
        refine lv_iinc (v := z_5) (lv' := [(2, .int z_5), (0, eV (ad 7) x), (1, eV (ad 7) a)]) hx hb dX2_begin_35 hl (k := 0) rfl ez_5.symm (by decide) (by simp [List.filter, eV_cat, cat_i, cat_l]) (fun ls hl => ?_)
        refine lv_goto (tgt := 22) hx hb dX2_begin_38 (by decide) ?_
        exact ih22 _ (by rw [← hn22]; exact (iv_meas tz_5 h_3 (by decide))) gm_4 z_5 rfl (iv_w hz_5 (by decide)) hsx0_22 hsx1_22 (KS_up (KS_tr (L := [0, 1, 3, 4, 55]) KS_rf hkg_j22 (by decide)) egm_4 (by decide)) hI_gm_4 _ _ _ hP hD hS (lv_sub hl [0, 1, 2] rfl)
  refine ec_aload_n hx hb dX2_begin_0 rfl (lv_at hl 0 rfl) ?_
  refine ec_aload_n hx hb dX2_begin_1 rfl (lv_at hl 1 rfl) ?_
  refine cr_putg (t := 7) (j := 7) (C := RX2) (T := TX2) (N := 8) (ty0 := tyX2) (k := 4) (y := a) hx hb htb inX2 tyX2_ok nmX2 hown hK hP hD hS hvx (by decide) (by decide) (by decide) (by decide) rfl rfl (by decide) (htb _ kw_232) rfl (by show eV (ad 7) a = eV (ad 7) (va_up gm 4 (upd (gm 4) x.toNatClampNeg a) 4 x.toNatClampNeg); rw [va_up_self, upd_at]) (ev_n _) (ev_f _) dX2_begin_2 (fun gm_6 H locs egm_6 hP hD hS => ?_)
  have hI_gm_6 := CI_st hI egm_6 hva (by decide)
  refine ec_aload_n hx hb dX2_begin_5 rfl (lv_at hl 0 rfl) ?_
  refine lv_iconst (v := 0) hx hb dX2_begin_6 (by decide) ?_
  refine cr_putg (t := 7) (j := 2) (C := RX2) (T := TX2) (N := 8) (ty0 := tyX2) (k := 0) (y := 0) hx hb htb inX2 tyX2_ok nmX2 hown hK hP hD hS hvx (by decide) (by decide) (by decide) (by decide) rfl rfl (by decide) (htb _ kw_233) rfl (by show Value.int 0 = Value.int (va_up gm_6 0 (upd (gm_6 0) x.toNatClampNeg 0) 0 x.toNatClampNeg); rw [va_up_self, upd_at]) rfl rfl dX2_begin_7 (fun gm_7 H locs egm_7 hP hD hS => ?_)
  have hI_gm_7 := CI_st hI_gm_6 egm_7 (iv_k (by decide) : iv 0 0 0) (by decide)
  refine ec_aload_n hx hb dX2_begin_10 rfl (lv_at hl 0 rfl) ?_
  refine lv_iconst (v := 0) hx hb dX2_begin_11 (by decide) ?_
  refine cr_putg (t := 7) (j := 3) (C := RX2) (T := TX2) (N := 8) (ty0 := tyX2) (k := 1) (y := 0) hx hb htb inX2 tyX2_ok nmX2 hown hK hP hD hS hvx (by decide) (by decide) (by decide) (by decide) rfl rfl (by decide) (htb _ kw_234) rfl (by show Value.int 0 = Value.int (va_up gm_7 1 (upd (gm_7 1) x.toNatClampNeg 0) 1 x.toNatClampNeg); rw [va_up_self, upd_at]) rfl rfl dX2_begin_12 (fun gm_8 H locs egm_8 hP hD hS => ?_)
  have hI_gm_8 := CI_st hI_gm_7 egm_8 (iv_k (by decide) : iv 0 0 0) (by decide)
  refine ec_aload_n hx hb dX2_begin_15 rfl (lv_at hl 0 rfl) ?_
  refine lv_iconst (v := 0) hx hb dX2_begin_16 (by decide) ?_
  refine cr_putg (t := 7) (j := 6) (C := RX2) (T := TX2) (N := 8) (ty0 := tyX2) (k := 3) (y := 0) hx hb htb inX2 tyX2_ok nmX2 hown hK hP hD hS hvx (by decide) (by decide) (by decide) (by decide) rfl rfl (by decide) (htb _ kw_235) rfl (by show Value.int 0 = Value.int (va_up gm_8 3 (upd (gm_8 3) x.toNatClampNeg 0) 3 x.toNatClampNeg); rw [va_up_self, upd_at]) rfl rfl dX2_begin_17 (fun gm_9 H locs egm_9 hP hD hS => ?_)
  have hI_gm_9 := CI_st hI_gm_8 egm_9 (iv_k (by decide) : iv 0 0 0) (by decide)
  refine lv_iconst (v := 0) hx hb dX2_begin_20 (by decide) ?_
  refine lv_istore_n (i := 2) (lv' := [(2, .int 0), (0, eV (ad 7) x), (1, eV (ad 7) a)]) hx hb dX2_begin_21 rfl hl (by decide) (by simp [List.filter, eV_cat, cat_i, cat_l]) (fun ls hl => ?_)
  exact hj22 _ gm_9 0 rfl (iv_w (iv_k (by decide) : iv 0 0 0) (by decide)) hvx hva (KS_up (KS_up (KS_up (KS_up KS_rf egm_6 (by decide)) egm_7 (by decide)) egm_8 (by decide)) egm_9 (by decide)) hI_gm_9 _ _ _ hP hD hS (lv_sub hl [0, 1, 2] rfl)

set_option maxHeartbeats 4000000 in
set_option maxRecDepth 100000 in
theorem d_isIn (l : Launch) (dC : Nat → ClassId) (dI : Nat → Nat → Nat) (ad : Nat → Nat → Nat) (cid : Nat → ClassId) (a2 : Nat → Nat) (lx : List Nat) (sg : Nat → Int32) (gm : Nat → Nat → Int32) (lg : Nat → Nat → Int64) (x : Int32) (a : Int32) (hI : CI sg gm) (hvx : iv 0 79 x) (hva : iv (-1) 33 a) : CMt dC dI ad cid a2 lx l yX3_isIn wm_X3_isIn ({ frames := 0, cells := 1, slots := 6, locals := 0 }) [eV (ad 9) x, eV (ad 33) a] sg gm lg (fun v u => ∃ r : Int32, v = some (.int r) ∧ u = (sg, gm, lg) ∧ (iv 0 1 r) ∧ (r.toInt = 0 ∨ ISI gm x.toNatClampNeg a)) (fun _ _ => False) := by
  intro sz
  refine vx_ofW (cc := cX3_isIn) (maxL := 2) (ret := (some .boolean)) (by decide) rfl ?_
  intro p e s m args below meth c s₁ B hml hxt hv
  obtain ⟨rfl, hsz, hP, hK, hD0, hG⟩ := hv
  have hx := B.exec
  have hb := B.bytes
  have hr := B.returns
  have hts := atoms_spec (ws := wm_X3_isIn) B.pre
  have htb := fun (w : Cond) (h : w ∈ tb) => hts w (List.mem_cons_of_mem _ h)
  have hown : s.vm.findClass RX3 = some m.cls := findClass_of_methodNamed B.named
  have hlocks := B.notSynchronized
  subst hsz
  have hD := hD0.self (sz := s.heap.size)
  generalize hAe : va_A (cW ad cid a2 lx sg gm lg) s.heap.size = A at hD hG ⊢
  have hA : ∀ q : Nat, s.heap.size ≤ q → A q := fun q h => by rw [← hAe]; exact Or.inr h
  have hS : va_S A s.heap s.heap [] := va_S.rf
  have hl := lv_entry ([eV (ad 9) x, eV (ad 33) a]) (n := 2) (by rw [show (lg_sl ([eV (ad 9) x, eV (ad 33) a])).length = 2 from by simp [lg_sl, eV_cat, cat_i, cat_l]]; exact Nat.le_of_ble_eq_true rfl)
  rw [lg_entry_eq]
  generalize (lg_sl ([eV (ad 9) x, eV (ad 33) a]) ++ List.replicate (2 - (lg_sl ([eV (ad 9) x, eV (ad 33) a])).length) Slot.unset).toArray = ls at hl ⊢
  have hl : lv_has ls 2 [(0, eV (ad 9) x), (1, eV (ad 33) a)] := by simp [lv_args, eV_cat, cat_i, cat_l] at hl; exact hl
  have hj23 : ∀ (y0_23 : Int32) (_ : iv 0 79 x) (_ : iv (-1) 33 a) (_ : iv 0 1 y0_23) (_ : y0_23.toInt = 0 ∨ ISI gm x.toNatClampNeg a) (H : Heap) (locs : List Loc) (ls : Array Slot), va_P (dC, dI) vwCl (cW ad cid a2 lx sg gm lg) H → va_D A (cW ad cid a2 lx sg gm lg) → va_S A s.heap H locs → lv_has ls 2 [(0, eV (ad 9) x), (1, eV (ad 33) a)] → W p l e (headSpec wm_X3_isIn ({ frames := 0, cells := 1, slots := 6, locals := 0 })).room s m ([eV (ad 9) x, eV (ad 33) a] : List Value).toArray below meth c H locs 0 0 (vx_MQ below (cQx dC dI ad cid a2 lx (fun v u => ∃ r : Int32, v = some (.int r) ∧ u = (sg, gm, lg) ∧ (iv 0 1 r) ∧ (r.toInt = 0 ∨ ISI gm x.toNatClampNeg a)) A) (cX dC dI ad cid a2 lx (fun _ _ => False) A) ([eV (ad 9) x, eV (ad 33) a] : List Value).toArray s 1 6 A) (F0 m 23 ls [.int y0_23]) := by
    intro y0_23 hsx0_23 hsx1_23 hy0_23 hi23 H locs ls hP hD hS hl
    exact W.nb (fun hN => W.widen (k := 1) (n := 6) (by decide) (by decide) (vx_ret (W.zret (v := y0_23) hx hb hr (iv_nb hy0_23) (fun t ht hW => ⟨⟨some (.int y0_23), (sg, gm, lg), rfl, ⟨y0_23, rfl, rfl, hy0_23, (hi23)⟩, by rw [ht]; exact hP, va_K.moved hW.alike hK, hD⟩, hS.F ht, by rw [ht]; exact hN⟩) hS.2.2 dX3_isIn_23)))
  have hj22 : ∀ (_ : iv 0 79 x) (_ : iv (-1) 33 a) (H : Heap) (locs : List Loc) (ls : Array Slot), va_P (dC, dI) vwCl (cW ad cid a2 lx sg gm lg) H → va_D A (cW ad cid a2 lx sg gm lg) → va_S A s.heap H locs → lv_has ls 2 [(0, eV (ad 9) x), (1, eV (ad 33) a)] → W p l e (headSpec wm_X3_isIn ({ frames := 0, cells := 1, slots := 6, locals := 0 })).room s m ([eV (ad 9) x, eV (ad 33) a] : List Value).toArray below meth c H locs 0 0 (vx_MQ below (cQx dC dI ad cid a2 lx (fun v u => ∃ r : Int32, v = some (.int r) ∧ u = (sg, gm, lg) ∧ (iv 0 1 r) ∧ (r.toInt = 0 ∨ ISI gm x.toNatClampNeg a)) A) (cX dC dI ad cid a2 lx (fun _ _ => False) A) ([eV (ad 9) x, eV (ad 33) a] : List Value).toArray s 1 6 A) (F0 m 22 ls []) := by
    intro  hsx0_22 hsx1_22 H locs ls hP hD hS hl
    refine lv_iconst (v := 0) hx hb dX3_isIn_22 (by decide) ?_
    exact hj23 0 hsx0_22 hsx1_22 (iv_w (iv_k (by decide) : iv 0 0 0) (by decide)) (Or.inl rfl) _ _ _ hP hD hS (lv_sub hl [0, 1] rfl)
  refine ec_aload_n hx hb dX3_isIn_0 rfl (lv_at hl 0 rfl) ?_
  refine cr_get (t := 9) (j := 5) (C := RX3) (T := TX3) (N := 21) (v := eV (ad 9) (gm 15 x.toNatClampNeg)) hx hb htb inX3 hown hK hP hvx (by decide) (by decide) (by decide) rfl (by decide) (htb _ kw_385) rfl dX3_isIn_1 ?_
  obtain ⟨z_1, ez_1⟩ : ∃ z : Int32, z = (gm 15 x.toNatClampNeg) := ⟨_, rfl⟩
  refine W.eq (g2 := F0 m 4 ls [eV (ad 9) z_1]) (by rw [ez_1]) ?_
  have hz_1 : iv (-1) 79 z_1 := iv_of ez_1 (CI_a hI 15 hvx (by decide))
  refine ec_ifnull (tgt := 22) hx hb dX3_isIn_4 (by decide) (fun c_2 => ?_) (fun c_2 => ?_)
  · have h_3 : iv (-1) (-1) z_1 := ⟨(hz_1).1, by omega⟩
    exact hj22 hvx hva _ _ _ hP hD hS (lv_sub hl [0, 1] rfl)
  · have h_4 : iv 0 79 z_1 := ⟨c_2, (hz_1).2⟩
    refine ec_aload_n hx hb dX3_isIn_7 rfl (lv_at hl 0 rfl) ?_
    refine cr_get (t := 9) (j := 5) (C := RX3) (T := TX3) (N := 21) (v := eV (ad 9) (gm 15 x.toNatClampNeg)) hx hb htb inX3 hown hK hP hvx (by decide) (by decide) (by decide) rfl (by decide) (htb _ kw_385) rfl dX3_isIn_8 ?_
    refine W.eq (g2 := F0 m 11 ls [eV (ad 9) z_1]) (by rw [show (gm 15 x.toNatClampNeg) = z_1 from ez_1.symm]) ?_
    refine cr_get (t := 9) (j := 4) (C := RX3) (T := TX3) (N := 21) (v := eV (ad 33) (gm 14 z_1.toNatClampNeg)) hx hb htb inX3 hown hK hP h_4 (by decide) (by decide) (by decide) rfl (by decide) (htb _ kw_384) rfl dX3_isIn_11 ?_
    obtain ⟨z_5, ez_5⟩ : ∃ z : Int32, z = (gm 14 z_1.toNatClampNeg) := ⟨_, rfl⟩
    refine W.eq (g2 := F0 m 14 ls [eV (ad 33) z_5]) (by rw [ez_5]) ?_
    have hz_5 : iv (-1) 33 z_5 := iv_of ez_5 (CI_a hI 14 h_4 (by decide))
    refine ec_aload_n hx hb dX3_isIn_14 rfl (lv_at hl 1 rfl) ?_
    refine ec_acmp_ne (tgt := 22) hx hb dX3_isIn_15 (by decide) (fun c_6 => ?_) (fun c_6 => ?_)
    · have wc_6 : ¬ z_5.toInt = a.toInt := fun q9 => c_6 (congrArg (er (ad 33)) (Int32.toInt_inj.mp q9))
      exact hj22 hvx hva _ _ _ hP hD hS (lv_sub hl [0, 1] rfl)
    · have wc_6 : z_5.toInt = a.toInt := er_wd hG hz_5 hva c_6
      refine lv_iconst (v := 1) hx hb dX3_isIn_18 (by decide) ?_
      refine lv_goto (tgt := 23) hx hb dX3_isIn_19 (by decide) ?_
      exact hj23 1 hvx hva (iv_w (iv_k (by decide) : iv 1 1 1) (by decide)) (Or.inr ⟨by rw [← ez_1]; exact (h_4).1, by rw [← ez_1, ← ez_5]; exact Int32.toInt_inj.mp wc_6⟩) _ _ _ hP hD hS (lv_sub hl [0, 1] rfl)

set_option maxHeartbeats 4000000 in
set_option maxRecDepth 100000 in
theorem d_isFull (l : Launch) (dC : Nat → ClassId) (dI : Nat → Nat → Nat) (ad : Nat → Nat → Nat) (cid : Nat → ClassId) (a2 : Nat → Nat) (lx : List Nat) (sg : Nat → Int32) (gm : Nat → Nat → Int32) (lg : Nat → Nat → Int64) (x : Int32) (hI : CI sg gm) (hvx : iv 0 0 x) : CMt dC dI ad cid a2 lx l yX6_isFull wm_X6_isFull ({ frames := 0, cells := 1, slots := 6, locals := 0 }) [eV (ad 1) x] sg gm lg (fun v u => ∃ r : Int32, v = some (.int r) ∧ u = (sg, gm, lg) ∧ (iv 0 1 r) ∧ (r.toInt = 1 ∨ (sg 4).toInt ≤ 79)) (fun _ _ => False) := by
  intro sz
  refine vx_ofW (cc := cX6_isFull) (maxL := 1) (ret := (some .boolean)) (by decide) rfl ?_
  intro p e s m args below meth c s₁ B hml hxt hv
  obtain ⟨rfl, hsz, hP, hK, hD0, hG⟩ := hv
  have hx := B.exec
  have hb := B.bytes
  have hr := B.returns
  have hts := atoms_spec (ws := wm_X6_isFull) B.pre
  have htb := fun (w : Cond) (h : w ∈ tb) => hts w (List.mem_cons_of_mem _ h)
  have hown : s.vm.findClass RX6 = some m.cls := findClass_of_methodNamed B.named
  have hlocks := B.notSynchronized
  subst hsz
  have hD := hD0.self (sz := s.heap.size)
  generalize hAe : va_A (cW ad cid a2 lx sg gm lg) s.heap.size = A at hD hG ⊢
  have hA : ∀ q : Nat, s.heap.size ≤ q → A q := fun q h => by rw [← hAe]; exact Or.inr h
  have hS : va_S A s.heap s.heap [] := va_S.rf
  have hl := lv_entry ([eV (ad 1) x]) (n := 1) (by rw [show (lg_sl ([eV (ad 1) x])).length = 1 from by simp [lg_sl, eV_cat, cat_i, cat_l]]; exact Nat.le_of_ble_eq_true rfl)
  rw [lg_entry_eq]
  generalize (lg_sl ([eV (ad 1) x]) ++ List.replicate (1 - (lg_sl ([eV (ad 1) x])).length) Slot.unset).toArray = ls at hl ⊢
  have hl : lv_has ls 1 [(0, eV (ad 1) x)] := by simp [lv_args, eV_cat, cat_i, cat_l] at hl; exact hl
  have hj14 : ∀ (y0_14 : Int32) (_ : iv 0 0 x) (_ : iv 0 1 y0_14) (_ : y0_14.toInt = 1 ∨ (sg 4).toInt ≤ 79) (H : Heap) (locs : List Loc) (ls : Array Slot), va_P (dC, dI) vwCl (cW ad cid a2 lx sg gm lg) H → va_D A (cW ad cid a2 lx sg gm lg) → va_S A s.heap H locs → lv_has ls 1 [(0, eV (ad 1) x)] → W p l e (headSpec wm_X6_isFull ({ frames := 0, cells := 1, slots := 6, locals := 0 })).room s m ([eV (ad 1) x] : List Value).toArray below meth c H locs 0 0 (vx_MQ below (cQx dC dI ad cid a2 lx (fun v u => ∃ r : Int32, v = some (.int r) ∧ u = (sg, gm, lg) ∧ (iv 0 1 r) ∧ (r.toInt = 1 ∨ (sg 4).toInt ≤ 79)) A) (cX dC dI ad cid a2 lx (fun _ _ => False) A) ([eV (ad 1) x] : List Value).toArray s 1 6 A) (F0 m 14 ls [.int y0_14]) := by
    intro y0_14 hsx0_14 hy0_14 ff H locs ls hP hD hS hl
    exact W.nb (fun hN => W.widen (k := 1) (n := 6) (by decide) (by decide) (vx_ret (W.zret (v := y0_14) hx hb hr (iv_nb hy0_14) (fun t ht hW => ⟨⟨some (.int y0_14), (sg, gm, lg), rfl, ⟨y0_14, rfl, rfl, hy0_14, (ff)⟩, by rw [ht]; exact hP, va_K.moved hW.alike hK, hD⟩, hS.F ht, by rw [ht]; exact hN⟩) hS.2.2 dX6_isFull_14)))
  refine ec_aload_n hx hb dX6_isFull_0 rfl (lv_at hl 0 rfl) ?_
  refine cr_get (t := 1) (j := 5) (C := RX6) (T := TX6) (N := 8) (v := .int (sg 4)) hx hb htb inX6 hown hK hP hvx (by decide) (by decide) (by decide) rfl (by decide) (htb _ kw_345) rfl dX6_isFull_1 ?_
  refine lv_bipush (v := 80) hx hb dX6_isFull_4 (by decide) ?_
  refine lv_icmp_lt (tgt := 13) hx hb dX6_isFull_6 (by decide) (fun c_1 => ?_) (fun c_1 => ?_)
  · have h_2 : iv 0 79 (sg 4) := iv_ltL c_1 (show iv 0 80 (sg 4) from CI_s hI 4) (iv_k (by decide) : iv 80 80 80) (by decide)
    refine lv_iconst (v := 0) hx hb dX6_isFull_13 (by decide) ?_
    exact hj14 0 hvx (iv_w (iv_k (by decide) : iv 0 0 0) (by decide)) (Or.inr (by have := i32_0; have := i32_1; have := i32_2; have := i32_m1; have := (show iv 0 80 (sg 4) from CI_s hI 4).1; have := (show iv 0 80 (sg 4) from CI_s hI 4).2; have := (hvx).1; have := (hvx).2; have := (h_2).1; have := (h_2).2; omega)) _ _ _ hP hD hS (lv_sub hl [0] rfl)
  · have h_3 : iv 80 80 (sg 4) := iv_leR (i32_ge c_1) (iv_k (by decide) : iv 80 80 80) (show iv 0 80 (sg 4) from CI_s hI 4) (by decide)
    refine lv_iconst (v := 1) hx hb dX6_isFull_9 (by decide) ?_
    refine lv_goto (tgt := 14) hx hb dX6_isFull_10 (by decide) ?_
    exact hj14 1 hvx (iv_w (iv_k (by decide) : iv 1 1 1) (by decide)) (Or.inl rfl) _ _ _ hP hD hS (lv_sub hl [0] rfl)
