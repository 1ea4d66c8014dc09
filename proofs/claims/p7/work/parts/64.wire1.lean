def FND9 (sg : Nat → Int32) (gm : Nat → Nat → Int32) : Prop := ∀ i, i < (sg 15).toNatClampNeg → 0 ≤ (gm 51 i).toInt
theorem FND9_add {sg sg2 : Nat → Int32} {gm gm2 : Nat → Nat → Int32} {b : Int32} (h : FND9 sg gm) (h0 : 0 ≤ (sg 15).toInt) (hb : 0 ≤ b.toInt) (h15 : (sg2 15).toInt = (sg 15).toInt + 1) (h51 : gm2 51 = upd (gm 51) (sg 15).toNatClampNeg b) : FND9 sg2 gm2 := by
  have k1 := cl_0 h0
  have k2 := cl_0 (x := sg2 15) (by omega)
  intro i hi
  rw [h51]
  by_cases q : i = (sg 15).toNatClampNeg
  · rw [q, upd_at]; exact hb
  · rw [upd_ne q]; exact h i (by omega)
theorem FND9_e {sg sg2 : Nat → Int32} {gm gm2 : Nat → Nat → Int32} (h : FND9 sg gm) (h15 : sg2 15 = sg 15) (h51 : gm2 51 = gm 51) : FND9 sg2 gm2 := by
  unfold FND9 at *; rw [h15, h51]; exact h

set_option maxHeartbeats 4000000 in
set_option maxRecDepth 100000 in
theorem d_countWi (l : Launch) (dC : Nat → ClassId) (dI : Nat → Nat → Nat) (ad : Nat → Nat → Nat) (cid : Nat → ClassId) (a2 : Nat → Nat) (lx : List Nat) (sg : Nat → Int32) (gm : Nat → Nat → Int32) (lg : Nat → Nat → Int64) (x : Int32) (hI : CI sg gm) (hvx : iv 0 0 x) : CMt dC dI ad cid a2 lx l yX10_count wm_X10_count ({ frames := 0, cells := 1, slots := 6, locals := 0 }) [eV (ad 4) x] sg gm lg (fun v u => ∃ r : Int32, v = some (.int r) ∧ u = (sg, gm, lg) ∧ (iv 0 80 r) ∧ (r = sg 12)) (fun _ _ => False) := by
  intro sz
  refine vx_ofW (cc := cX10_count) (maxL := 1) (ret := (some .int)) (by decide) rfl ?_
  intro p e s m args below meth c s₁ B hml hxt hv
  obtain ⟨rfl, hsz, hP, hK, hD0, hG⟩ := hv
  have hx := B.exec
  have hb := B.bytes
  have hr := B.returns
  have hts := atoms_spec (ws := wm_X10_count) B.pre
  have htb := fun (w : Cond) (h : w ∈ tb) => hts w (List.mem_cons_of_mem _ h)
  have hown : s.vm.findClass RX10 = some m.cls := findClass_of_methodNamed B.named
  have hlocks := B.notSynchronized
  subst hsz
  have hD := hD0.self (sz := s.heap.size)
  generalize hAe : va_A (cW ad cid a2 lx sg gm lg) s.heap.size = A at hD hG ⊢
  have hA : ∀ q : Nat, s.heap.size ≤ q → A q := fun q h => by rw [← hAe]; exact Or.inr h
  have hS : va_S A s.heap s.heap [] := va_S.rf
  have hl := lv_entry ([eV (ad 4) x]) (n := 1) (by rw [show (lg_sl ([eV (ad 4) x])).length = 1 from by simp [lg_sl, eV_cat, cat_i, cat_l]]; exact Nat.le_of_ble_eq_true rfl)
  rw [lg_entry_eq]
  generalize (lg_sl ([eV (ad 4) x]) ++ List.replicate (1 - (lg_sl ([eV (ad 4) x])).length) Slot.unset).toArray = ls at hl ⊢
  have hl : lv_has ls 1 [(0, eV (ad 4) x)] := by simp [lv_args, eV_cat, cat_i, cat_l] at hl; exact hl
  refine ec_aload_n hx hb dX10_count_0 rfl (lv_at hl 0 rfl) ?_
  refine cr_get (t := 4) (j := 3) (C := RX10) (T := TX10) (N := 4) (v := .int (sg 12)) hx hb htb inX10 hown hK hP hvx (by decide) (by decide) (by decide) rfl (by decide) (htb _ kw_325) rfl dX10_count_1 ?_
  exact W.nb (fun hN => W.widen (k := 1) (n := 6) (by decide) (by decide) (vx_ret (W.iret (v := (sg 12)) hx hb hr (fun t ht hW => ⟨⟨some (.int (sg 12)), (sg, gm, lg), rfl, ⟨(sg 12), rfl, rfl, (show iv 0 80 (sg 12) from CI_s hI 12), (rfl)⟩, by rw [ht]; exact hP, va_K.moved hW.alike hK, hD⟩, hS.F ht, by rw [ht]; exact hN⟩) hS.2.2 dX10_count_4)))

set_option maxHeartbeats 4000000 in
set_option maxRecDepth 100000 in
theorem d_numbered (l : Launch) (dC : Nat → ClassId) (dI : Nat → Nat → Nat) (ad : Nat → Nat → Nat) (cid : Nat → ClassId) (a2 : Nat → Nat) (lx : List Nat) (sg : Nat → Int32) (gm : Nat → Nat → Int32) (lg : Nat → Nat → Int64) (x : Int32) (k : Int32) (hI : CI sg gm) (hvx : iv 0 0 x) (hvk : iv 0 79 k) : CMt dC dI ad cid a2 lx l yX10_numbered wm_X10_numbered ({ frames := 0, cells := 1, slots := 6, locals := 0 }) [eV (ad 4) x, .int k] sg gm lg (fun v u => ∃ r : Int32, v = some (eV (ad 10) r) ∧ u = (sg, gm, lg) ∧ (iv 0 79 r) ∧ (r = k)) (fun _ _ => False) := by
  intro sz
  refine vx_ofW (cc := cX10_numbered) (maxL := 2) (ret := (some (.object "WiredBeans$Bean"))) (by decide) rfl ?_
  intro p e s m args below meth c s₁ B hml hxt hv
  obtain ⟨rfl, hsz, hP, hK, hD0, hG⟩ := hv
  have hx := B.exec
  have hb := B.bytes
  have hr := B.returns
  have hts := atoms_spec (ws := wm_X10_numbered) B.pre
  have htb := fun (w : Cond) (h : w ∈ tb) => hts w (List.mem_cons_of_mem _ h)
  have hown : s.vm.findClass RX10 = some m.cls := findClass_of_methodNamed B.named
  have hlocks := B.notSynchronized
  subst hsz
  have hD := hD0.self (sz := s.heap.size)
  generalize hAe : va_A (cW ad cid a2 lx sg gm lg) s.heap.size = A at hD hG ⊢
  have hA : ∀ q : Nat, s.heap.size ≤ q → A q := fun q h => by rw [← hAe]; exact Or.inr h
  have hS : va_S A s.heap s.heap [] := va_S.rf
  have hl := lv_entry ([eV (ad 4) x, .int k]) (n := 2) (by rw [show (lg_sl ([eV (ad 4) x, .int k])).length = 2 from by simp [lg_sl, eV_cat, cat_i, cat_l]]; exact Nat.le_of_ble_eq_true rfl)
  rw [lg_entry_eq]
  generalize (lg_sl ([eV (ad 4) x, .int k]) ++ List.replicate (2 - (lg_sl ([eV (ad 4) x, .int k])).length) Slot.unset).toArray = ls at hl ⊢
  have hl : lv_has ls 2 [(0, eV (ad 4) x), (1, .int k)] := by simp [lv_args, eV_cat, cat_i, cat_l] at hl; exact hl
  refine ec_aload_n hx hb dX10_numbered_0 rfl (lv_at hl 0 rfl) ?_
  refine cr_get (t := 4) (j := 1) (C := RX10) (T := TX10) (N := 4) (v := eV (ad 19) 0) hx hb htb inX10 hown hK hP hvx (by decide) (by decide) (by decide) rfl (by decide) (htb _ kw_88) (cV_c rfl (by decide) (by rw [show cMu 4 1 = 0 from rfl, Nat.zero_mul]; rfl)) dX10_numbered_1 ?_
  refine lv_iload_n hx hb dX10_numbered_4 rfl (lv_at hl 1 rfl) ?_
  refine cr_aald (t := 19) (C := RX1) (v := eV (ad 10) k) hx hb hK hP (iv_k (by decide) : iv 0 0 0) (by decide) (by decide) (by decide) (by decide) (by decide) rfl (show vp_in k (cLen 19) from (show vp_in k 80 from (iv_in hvk (by decide)))) (cAr_c (by decide) (hvk).1 (by rw [show cAm 19 = 0 from rfl, Nat.zero_mul, show cAo 19 = 0 from rfl]; omega)) dX10_numbered_5 ?_
  exact W.nb (fun hN => W.widen (k := 1) (n := 6) (by decide) (by decide) (vx_ret (W.aret (v := eV (ad 10) k) hx hb hr (Or.inl ⟨_, rfl⟩) (eV_is _ _) (fun t ht hW => ⟨⟨some (eV (ad 10) k), (sg, gm, lg), rfl, ⟨k, rfl, rfl, hvk, (rfl)⟩, by rw [ht]; exact hP, va_K.moved hW.alike hK, hD⟩, hS.F ht, by rw [ht]; exact hN⟩) hS.2.2 dX10_numbered_6)))

set_option maxHeartbeats 4000000 in
set_option maxRecDepth 100000 in
theorem d_forgetBeans (l : Launch) (dC : Nat → ClassId) (dI : Nat → Nat → Nat) (ad : Nat → Nat → Nat) (cid : Nat → ClassId) (a2 : Nat → Nat) (lx : List Nat) (sg : Nat → Int32) (gm : Nat → Nat → Int32) (lg : Nat → Nat → Int64) (x : Int32) (hI : CI sg gm) (hvx : iv 0 0 x) : CMt dC dI ad cid a2 lx l yX10_forgetBeans wm_X10_forgetBeans ({ frames := 0, cells := 1, slots := 6, locals := 0 }) [eV (ad 4) x] sg gm lg (fun v u => v = none ∧ ∃ (sg2 : Nat → Int32) (gm2 : Nat → Nat → Int32) (lg2 : Nat → Nat → Int64), u = (sg2, gm2, lg2) ∧ CI sg2 gm2 ∧ KS [12] sg sg2 ∧ KS [] gm gm2 ∧ KS [] lg lg2 ∧ ((sg2 12).toInt = 0)) (fun _ _ => False) := by
  intro sz
  refine vx_ofW (cc := cX10_forgetBeans) (maxL := 1) (ret := none) (by decide) rfl ?_
  intro p e s m args below meth c s₁ B hml hxt hv
  obtain ⟨rfl, hsz, hP, hK, hD0, hG⟩ := hv
  have hx := B.exec
  have hb := B.bytes
  have hr := B.returns
  have hts := atoms_spec (ws := wm_X10_forgetBeans) B.pre
  have htb := fun (w : Cond) (h : w ∈ tb) => hts w (List.mem_cons_of_mem _ h)
  have hown : s.vm.findClass RX10 = some m.cls := findClass_of_methodNamed B.named
  have hlocks := B.notSynchronized
  subst hsz
  have hD := hD0.self (sz := s.heap.size)
  generalize hAe : va_A (cW ad cid a2 lx sg gm lg) s.heap.size = A at hD hG ⊢
  have hA : ∀ q : Nat, s.heap.size ≤ q → A q := fun q h => by rw [← hAe]; exact Or.inr h
  have hS : va_S A s.heap s.heap [] := va_S.rf
  have hl := lv_entry ([eV (ad 4) x]) (n := 1) (by rw [show (lg_sl ([eV (ad 4) x])).length = 1 from by simp [lg_sl, eV_cat, cat_i, cat_l]]; exact Nat.le_of_ble_eq_true rfl)
  rw [lg_entry_eq]
  generalize (lg_sl ([eV (ad 4) x]) ++ List.replicate (1 - (lg_sl ([eV (ad 4) x])).length) Slot.unset).toArray = ls at hl ⊢
  have hl : lv_has ls 1 [(0, eV (ad 4) x)] := by simp [lv_args, eV_cat, cat_i, cat_l] at hl; exact hl
  refine ec_aload_n hx hb dX10_forgetBeans_0 rfl (lv_at hl 0 rfl) ?_
  refine lv_iconst (v := 0) hx hb dX10_forgetBeans_1 (by decide) ?_
  refine cr_puts (t := 4) (j := 3) (C := RX10) (T := TX10) (N := 4) (ty0 := tyX10) (k := 12) (y := 0) hx hb htb inX10 tyX10_ok nmX10 hown hK hP hD hS hvx (by decide) (by decide) (by decide) (by decide) rfl rfl rfl (by decide) (htb _ kw_325) rfl (by show Value.int 0 = Value.int (va_up sg 12 0 12); rw [va_up_self]) rfl rfl dX10_forgetBeans_2 (fun sg_1 H locs esg_1 hP hD hS => ?_)
  have hI_sg_1 := CI_put hI esg_1 (iv_k (by decide) : iv 0 0 0) (by decide)
  exact W.nb (fun hN => W.widen (k := 1) (n := 6) (by decide) (by decide) (vx_ret (W.vret hx hb hr (fun t ht hW => ⟨⟨none, (sg_1, gm, lg), rfl, ⟨rfl, sg_1, gm, lg, rfl, hI_sg_1, (KS_up KS_rf esg_1 (by decide)), KS_rf, KS_rf, (by have := i32_0; have := i32_1; have := i32_2; have := i32_m1; have : (sg_1 12).toInt = 0 := (by rw [up_at esg_1]; rfl); have := (hvx).1; have := (hvx).2; omega)⟩, by rw [ht]; exact hP, va_K.moved hW.alike hK, hD⟩, hS.F ht, by rw [ht]; exact hN⟩) hS.2.2 dX10_forgetBeans_5)))

set_option maxHeartbeats 4000000 in
set_option maxRecDepth 100000 in
theorem d_withId (l : Launch) (dC : Nat → ClassId) (dI : Nat → Nat → Nat) (ad : Nat → Nat → Nat) (cid : Nat → ClassId) (a2 : Nat → Nat) (lx : List Nat) (sg : Nat → Int32) (gm : Nat → Nat → Int32) (lg : Nat → Nat → Int64) (x : Int32) (id : Int64) (hI : CI sg gm) (hvx : iv 0 0 x) : CMt dC dI ad cid a2 lx l yX10_withId wm_X10_withId ({ frames := 0, cells := 1, slots := 6, locals := 0 }) [eV (ad 4) x, .long id] sg gm lg (fun v u => ∃ r : Int32, v = some (eV (ad 10) r) ∧ u = (sg, gm, lg) ∧ (iv (-1) 79 r) ∧ (r.toInt = -1 ∨ (r.toInt < (sg 12).toInt ∧ ¬ lg 4 r.toNatClampNeg = 0))) (fun _ _ => False) := by
  intro sz
  refine vx_ofW (cc := cX10_withId) (maxL := 4) (ret := (some (.object "WiredBeans$Bean"))) (by decide) rfl ?_
  intro p e s m args below meth c s₁ B hml hxt hv
  obtain ⟨rfl, hsz, hP, hK, hD0, hG⟩ := hv
  have hx := B.exec
  have hb := B.bytes
  have hr := B.returns
  have hts := atoms_spec (ws := wm_X10_withId) B.pre
  have htb := fun (w : Cond) (h : w ∈ tb) => hts w (List.mem_cons_of_mem _ h)
  have hown : s.vm.findClass RX10 = some m.cls := findClass_of_methodNamed B.named
  have hlocks := B.notSynchronized
  subst hsz
  have hD := hD0.self (sz := s.heap.size)
  generalize hAe : va_A (cW ad cid a2 lx sg gm lg) s.heap.size = A at hD hG ⊢
  have hA : ∀ q : Nat, s.heap.size ≤ q → A q := fun q h => by rw [← hAe]; exact Or.inr h
  have hS : va_S A s.heap s.heap [] := va_S.rf
  have hl := lv_entry ([eV (ad 4) x, .long id]) (n := 4) (by rw [show (lg_sl ([eV (ad 4) x, .long id])).length = 3 from by simp [lg_sl, eV_cat, cat_i, cat_l]]; exact Nat.le_of_ble_eq_true rfl)
  rw [lg_entry_eq]
  generalize (lg_sl ([eV (ad 4) x, .long id]) ++ List.replicate (4 - (lg_sl ([eV (ad 4) x, .long id])).length) Slot.unset).toArray = ls at hl ⊢
  have hl : lv_has ls 4 [(0, eV (ad 4) x), (1, .long id)] := by simp [lv_args, eV_cat, cat_i, cat_l] at hl; exact hl
  have hj43 : ∀ (x3_43 : Int32) (_ : iv 0 80 x3_43) (_ : iv 0 0 x) (H : Heap) (locs : List Loc) (ls : Array Slot), va_P (dC, dI) vwCl (cW ad cid a2 lx sg gm lg) H → va_D A (cW ad cid a2 lx sg gm lg) → va_S A s.heap H locs → lv_has ls 4 [(3, .int x3_43), (0, eV (ad 4) x), (1, .long id)] → W p l e (headSpec wm_X10_withId ({ frames := 0, cells := 1, slots := 6, locals := 0 })).room s m ([eV (ad 4) x, .long id] : List Value).toArray below meth c H locs 0 0 (vx_MQ below (cQx dC dI ad cid a2 lx (fun v u => ∃ r : Int32, v = some (eV (ad 10) r) ∧ u = (sg, gm, lg) ∧ (iv (-1) 79 r) ∧ (r.toInt = -1 ∨ (r.toInt < (sg 12).toInt ∧ ¬ lg 4 r.toNatClampNeg = 0))) A) (cX dC dI ad cid a2 lx (fun _ _ => False) A) ([eV (ad 4) x, .long id] : List Value).toArray s 1 6 A) (F0 m 43 ls []) := by
    intro x3_43 hx3_43 hsx0_43 H locs ls hP hD hS hl
    refine ec_null (a := ad 10) hx hb dX10_withId_43 ?_
    exact W.nb (fun hN => W.widen (k := 1) (n := 6) (by decide) (by decide) (vx_ret (W.aret (v := eV (ad 10) (-1)) hx hb hr (Or.inl ⟨_, rfl⟩) (eV_is _ _) (fun t ht hW => ⟨⟨some (eV (ad 10) (-1)), (sg, gm, lg), rfl, ⟨(-1), rfl, rfl, (iv_w (iv_k (by decide) : iv (-1) (-1) (-1)) (by decide)), (Or.inl rfl)⟩, by rw [ht]; exact hP, va_K.moved hW.alike hK, hD⟩, hS.F ht, by rw [ht]; exact hN⟩) hS.2.2 dX10_withId_44)))
  have hj2 : ∀ (n : Nat) (x3_2 : Int32) (_ : (80 - x3_2.toInt).toNat = n) (_ : iv 0 80 x3_2) (_ : iv 0 0 x) (H : Heap) (locs : List Loc) (ls : Array Slot), va_P (dC, dI) vwCl (cW ad cid a2 lx sg gm lg) H → va_D A (cW ad cid a2 lx sg gm lg) → va_S A s.heap H locs → lv_has ls 4 [(3, .int x3_2), (0, eV (ad 4) x), (1, .long id)] → W p l e (headSpec wm_X10_withId ({ frames := 0, cells := 1, slots := 6, locals := 0 })).room s m ([eV (ad 4) x, .long id] : List Value).toArray below meth c H locs 0 0 (vx_MQ below (cQx dC dI ad cid a2 lx (fun v u => ∃ r : Int32, v = some (eV (ad 10) r) ∧ u = (sg, gm, lg) ∧ (iv (-1) 79 r) ∧ (r.toInt = -1 ∨ (r.toInt < (sg 12).toInt ∧ ¬ lg 4 r.toNatClampNeg = 0))) A) (cX dC dI ad cid a2 lx (fun _ _ => False) A) ([eV (ad 4) x, .long id] : List Value).toArray s 1 6 A) (F0 m 2 ls []) := by
    intro n
    induction n using Nat.strongRecOn with
    | ind n ih2 =>
      intro x3_2 hn2 hx3_2 hsx0_2 H locs ls hP hD hS hl
      refine lv_iload_n hx hb dX10_withId_2 rfl (lv_at hl 0 rfl) ?_
      refine ec_aload_n hx hb dX10_withId_3 rfl (lv_at hl 1 rfl) ?_
      refine cr_get (t := 4) (j := 3) (C := RX10) (T := TX10) (N := 4) (v := .int (sg 12)) hx hb htb inX10 hown hK hP hsx0_2 (by decide) (by decide) (by decide) rfl (by decide) (htb _ kw_325) rfl dX10_withId_4 ?_
      refine lv_icmp_ge (tgt := 43) hx hb dX10_withId_7 (by decide) (fun c_1 => ?_) (fun c_1 => ?_)
      · have d_2 : ((sg 12) : Int32).toInt ≤ (x3_2 : Int32).toInt := Int32.le_iff_toInt_le.mp c_1
        exact hj43 x3_2 hx3_2 hsx0_2 _ _ _ hP hD hS (lv_sub hl [0, 1, 2] rfl)
      · have d_3 : (x3_2 : Int32).toInt < ((sg 12) : Int32).toInt := Int32.lt_iff_toInt_lt.mp (i32_lt c_1)
        have h_4 : iv 0 79 x3_2 := iv_ltL (i32_lt c_1) hx3_2 (show iv 0 80 (sg 12) from CI_s hI 12) (by decide)
        have h_5 : iv 1 80 (sg 12) := iv_ltR (i32_lt c_1) hx3_2 (show iv 0 80 (sg 12) from CI_s hI 12) (by decide)
        refine lv_lload_n hx hb dX10_withId_10 rfl (lv_at hl 2 rfl) ?_
        refine lv_lconst (v := 0) hx hb dX10_withId_11 (by decide) ?_
        refine W.lcmp hx hb dX10_withId_12 ?_
        refine lv_topi (fun z_6 ez_6 => ?_)
        have hz_6 : iv (-1) 1 z_6 := iv_of ez_6 (iv_cmp _ _)
        refine lv_if_eq (tgt := 43) hx hb dX10_withId_13 (by decide) (fun c_7 => ?_) (fun c_7 => ?_)
        · have h_8 : iv 0 0 z_6 := iv_eq c_7 hz_6 (iv_k (by decide) : iv 0 0 0) (by decide)
          exact hj43 x3_2 (iv_w h_4 (by decide)) hsx0_2 _ _ _ hP hD hS (lv_sub hl [0, 1, 2] rfl)
        · have d_9 : ¬ (z_6 : Int32).toInt = 0 := lv_neT c_7 rfl
          refine ec_aload_n hx hb dX10_withId_16 rfl (lv_at hl 1 rfl) ?_
          refine cr_get (t := 4) (j := 1) (C := RX10) (T := TX10) (N := 4) (v := eV (ad 19) 0) hx hb htb inX10 hown hK hP hsx0_2 (by decide) (by decide) (by decide) rfl (by decide) (htb _ kw_88) (cV_c rfl (by decide) (by rw [show cMu 4 1 = 0 from rfl, Nat.zero_mul]; rfl)) dX10_withId_17 ?_
          refine lv_iload_n hx hb dX10_withId_20 rfl (lv_at hl 0 rfl) ?_
          refine cr_aald (t := 19) (C := RX1) (v := eV (ad 10) x3_2) hx hb hK hP (iv_k (by decide) : iv 0 0 0) (by decide) (by decide) (by decide) (by decide) (by decide) rfl (show vp_in x3_2 (cLen 19) from (show vp_in x3_2 80 from (iv_in h_4 (by decide)))) (cAr_c (by decide) (h_4).1 (by rw [show cAm 19 = 0 from rfl, Nat.zero_mul, show cAo 19 = 0 from rfl]; omega)) dX10_withId_21 ?_
          refine cr_get (t := 10) (j := 5) (C := RX1) (T := TX1) (N := 19) (v := .long (lg 4 x3_2.toNatClampNeg)) hx hb htb inX1 hown hK hP h_4 (by decide) (by decide) (by decide) rfl (by decide) (htb _ kw_719) rfl dX10_withId_22 ?_
          refine lv_topl (fun z_10 ez_10 => ?_)
          refine lv_lload_n hx hb dX10_withId_25 rfl (lv_at hl 2 rfl) ?_
          refine W.lcmp hx hb dX10_withId_26 ?_
          refine lv_topi (fun z_11 ez_11 => ?_)
          have hz_11 : iv (-1) 1 z_11 := iv_of ez_11 (iv_cmp _ _)
          refine lv_if_ne (tgt := 37) hx hb dX10_withId_27 (by decide) (fun c_12 => ?_) (fun c_12 => ?_)
          · have d_13 : ¬ (z_11 : Int32).toInt = 0 := lv_neT c_12 rfl
            obtain ⟨z_14, ez_14⟩ : ∃ z : Int32, z = x3_2 + 1 := ⟨_, rfl⟩
            have hz_14 : iv 1 80 z_14 := iv_of ez_14 (iv_add h_4 (iv_k (by decide) : iv 1 1 1) (by decide))
            have tz_14 : z_14.toInt = x3_2.toInt + 1 := by rw [ez_14]; exact iv_addE h_4 (iv_k (by decide) : iv 1 1 1) (by decide)
            refine lv_iinc (v := z_14) (lv' := [(3, .int z_14), (0, eV (ad 4) x), (1, .long id)]) hx hb dX10_withId_37 hl (k := 0) rfl ez_14.symm (by decide) rfl (fun ls hl => ?_)
            refine lv_goto (tgt := 2) hx hb dX10_withId_40 (by decide) ?_
            exact ih2 _ (by rw [← hn2]; exact (iv_meas tz_14 h_4 (by decide))) z_14 rfl (iv_w hz_14 (by decide)) hsx0_2 _ _ _ hP hD hS (lv_sub hl [0, 1, 2] rfl)
          · have h_15 : iv 0 0 z_11 := iv_eq c_12 hz_11 (iv_k (by decide) : iv 0 0 0) (by decide)
            refine ec_aload_n hx hb dX10_withId_30 rfl (lv_at hl 1 rfl) ?_
            refine cr_get (t := 4) (j := 1) (C := RX10) (T := TX10) (N := 4) (v := eV (ad 19) 0) hx hb htb inX10 hown hK hP hsx0_2 (by decide) (by decide) (by decide) rfl (by decide) (htb _ kw_88) (cV_c rfl (by decide) (by rw [show cMu 4 1 = 0 from rfl, Nat.zero_mul]; rfl)) dX10_withId_31 ?_
            refine lv_iload_n hx hb dX10_withId_34 rfl (lv_at hl 0 rfl) ?_
            refine cr_aald (t := 19) (C := RX1) (v := eV (ad 10) x3_2) hx hb hK hP (iv_k (by decide) : iv 0 0 0) (by decide) (by decide) (by decide) (by decide) (by decide) rfl (show vp_in x3_2 (cLen 19) from (show vp_in x3_2 80 from (iv_in h_4 (by decide)))) (cAr_c (by decide) (h_4).1 (by rw [show cAm 19 = 0 from rfl, Nat.zero_mul, show cAo 19 = 0 from rfl]; omega)) dX10_withId_35 ?_
            exact W.nb (fun hN => W.widen (k := 1) (n := 6) (by decide) (by decide) (vx_ret (W.aret (v := eV (ad 10) x3_2) hx hb hr (Or.inl ⟨_, rfl⟩) (eV_is _ _) (fun t ht hW => ⟨⟨some (eV (ad 10) x3_2), (sg, gm, lg), rfl, ⟨x3_2, rfl, rfl, (iv_w h_4 (by decide)), (Or.inr ⟨by have := i32_0; have := i32_1; have := i32_2; have := i32_m1; have := (show iv 0 80 (sg 12) from CI_s hI 12).1; have := (show iv 0 80 (sg 12) from CI_s hI 12).2; have := (hsx0_2).1; have := (hsx0_2).2; have := (h_4).1; have := (h_4).2; have := (h_5).1; have := (h_5).2; have := (hz_6).1; have := (hz_6).2; have := (h_15).1; have := (h_15).2; omega, fun q9 => c_7 (by rw [ez_6]; exact (lg_cmp_eq _ _).mpr (by have q8 := c_12; rw [ez_11, ez_10, q9] at q8; exact ((lg_cmp_eq _ _).mp q8).symm))⟩)⟩, by rw [ht]; exact hP, va_K.moved hW.alike hK, hD⟩, hS.F ht, by rw [ht]; exact hN⟩) hS.2.2 dX10_withId_36)))
  refine lv_iconst (v := 0) hx hb dX10_withId_0 (by decide) ?_
  refine lv_istore_n (i := 3) (lv' := [(3, .int 0), (0, eV (ad 4) x), (1, .long id)]) hx hb dX10_withId_1 rfl hl (by decide) rfl (fun ls hl => ?_)
  exact hj2 _ 0 rfl (iv_w (iv_k (by decide) : iv 0 0 0) (by decide)) hvx _ _ _ hP hD hS (lv_sub hl [0, 1, 2] rfl)

set_option maxHeartbeats 4000000 in
set_option maxRecDepth 100000 in
theorem d_nameBehindAlias (l : Launch) (dC : Nat → ClassId) (dI : Nat → Nat → Nat) (ad : Nat → Nat → Nat) (cid : Nat → ClassId) (a2 : Nat → Nat) (lx : List Nat) (sg : Nat → Int32) (gm : Nat → Nat → Int32) (lg : Nat → Nat → Int64) (x : Int32) (to : Int64) (hI : CI sg gm) (hvx : iv 0 0 x) : CMt dC dI ad cid a2 lx l yX10_nameBehindAlias wm_X10_nameBehindAlias ({ frames := 1, cells := 1, slots := 6, locals := 21 }) [eV (ad 4) x, .long to] sg gm lg (fun v u => ∃ r : Int64, v = some (.long r) ∧ u = (sg, gm, lg)) (fun _ _ => False) := by
  intro sz
  refine vx_ofW (cc := cX10_nameBehindAlias) (maxL := 5) (ret := (some .long)) (by decide) rfl ?_
  intro p e s m args below meth c s₁ B hml hxt hv
  obtain ⟨rfl, hsz, hP, hK, hD0, hG⟩ := hv
  have hx := B.exec
  have hb := B.bytes
  have hr := B.returns
  have hts := atoms_spec (ws := wm_X10_nameBehindAlias) B.pre
  have htb := fun (w : Cond) (h : w ∈ tb) => hts w (List.mem_cons_of_mem _ h)
  have hown : s.vm.findClass RX10 = some m.cls := findClass_of_methodNamed B.named
  have hlocks := B.notSynchronized
  subst hsz
  have hD := hD0.self (sz := s.heap.size)
  generalize hAe : va_A (cW ad cid a2 lx sg gm lg) s.heap.size = A at hD hG ⊢
  have hA : ∀ q : Nat, s.heap.size ≤ q → A q := fun q h => by rw [← hAe]; exact Or.inr h
  have hS : va_S A s.heap s.heap [] := va_S.rf
  have hl := lv_entry ([eV (ad 4) x, .long to]) (n := 5) (by rw [show (lg_sl ([eV (ad 4) x, .long to])).length = 3 from by simp [lg_sl, eV_cat, cat_i, cat_l]]; exact Nat.le_of_ble_eq_true rfl)
  rw [lg_entry_eq]
  generalize (lg_sl ([eV (ad 4) x, .long to]) ++ List.replicate (5 - (lg_sl ([eV (ad 4) x, .long to])).length) Slot.unset).toArray = ls at hl ⊢
  have hl : lv_has ls 5 [(0, eV (ad 4) x), (1, .long to)] := by simp [lv_args, eV_cat, cat_i, cat_l] at hl; exact hl
  have hj2 : ∀ (n : Nat) (x3_2 : Int32) (_ : (80 - x3_2.toInt).toNat = n) (_ : iv 0 80 x3_2) (_ : iv 0 0 x) (H : Heap) (locs : List Loc) (ls : Array Slot), va_P (dC, dI) vwCl (cW ad cid a2 lx sg gm lg) H → va_D A (cW ad cid a2 lx sg gm lg) → va_S A s.heap H locs → lv_has ls 5 [(3, .int x3_2), (0, eV (ad 4) x), (1, .long to)] → W p l e (headSpec wm_X10_nameBehindAlias ({ frames := 1, cells := 1, slots := 6, locals := 21 })).room s m ([eV (ad 4) x, .long to] : List Value).toArray below meth c H locs 0 0 (vx_MQ below (cQx dC dI ad cid a2 lx (fun v u => ∃ r : Int64, v = some (.long r) ∧ u = (sg, gm, lg)) A) (cX dC dI ad cid a2 lx (fun _ _ => False) A) ([eV (ad 4) x, .long to] : List Value).toArray s 1 6 A) (F0 m 2 ls []) := by
    intro n
    induction n using Nat.strongRecOn with
    | ind n ih2 =>
      intro x3_2 hn2 hx3_2 hsx0_2 H locs ls hP hD hS hl
      have hj50 : ∀ (x4_50 : Int32) (_ : iv 0 79 x4_50) (_ : iv 0 79 x3_2) (_ : iv 0 0 x) (H : Heap) (locs : List Loc) (ls : Array Slot), va_P (dC, dI) vwCl (cW ad cid a2 lx sg gm lg) H → va_D A (cW ad cid a2 lx sg gm lg) → va_S A s.heap H locs → lv_has ls 5 [(4, eV (ad 9) x4_50), (3, .int x3_2), (0, eV (ad 4) x), (1, .long to)] → W p l e (headSpec wm_X10_nameBehindAlias ({ frames := 1, cells := 1, slots := 6, locals := 21 })).room s m ([eV (ad 4) x, .long to] : List Value).toArray below meth c H locs 0 0 (vx_MQ below (cQx dC dI ad cid a2 lx (fun v u => ∃ r : Int64, v = some (.long r) ∧ u = (sg, gm, lg)) A) (cX dC dI ad cid a2 lx (fun _ _ => False) A) ([eV (ad 4) x, .long to] : List Value).toArray s 1 6 A) (F0 m 50 ls []) := by
        intro x4_50 hx4_50 hsx3_50 hsx0_50 H locs ls hP hD hS hl
        obtain ⟨z_1, ez_1⟩ : ∃ z : Int32, z = x3_2 + 1 := ⟨_, rfl⟩
        have hz_1 : iv 1 80 z_1 := iv_of ez_1 (iv_add hsx3_50 (iv_k (by decide) : iv 1 1 1) (by decide))
        have tz_1 : z_1.toInt = x3_2.toInt + 1 := by rw [ez_1]; exact iv_addE hsx3_50 (iv_k (by decide) : iv 1 1 1) (by decide)
        refine lv_iinc (v := z_1) (lv' := [(3, .int z_1), (4, eV (ad 9) x4_50), (0, eV (ad 4) x), (1, .long to)]) hx hb dX10_nameBehindAlias_50 hl (k := 1) rfl ez_1.symm (by decide) rfl (fun ls hl => ?_)
        refine lv_goto (tgt := 2) hx hb dX10_nameBehindAlias_53 (by decide) ?_
        exact ih2 _ (by rw [← hn2]; exact (iv_meas tz_1 hsx3_50 (by decide))) z_1 rfl (iv_w hz_1 (by decide)) hsx0_50 _ _ _ hP hD hS (lv_sub hl [0, 2, 3] rfl)
      refine lv_iload_n hx hb dX10_nameBehindAlias_2 rfl (lv_at hl 0 rfl) ?_
      refine ec_aload_n hx hb dX10_nameBehindAlias_3 rfl (lv_at hl 1 rfl) ?_
      refine cr_get (t := 4) (j := 0) (C := RX10) (T := TX10) (N := 4) (v := eV (ad 1) 0) hx hb htb inX10 hown hK hP hsx0_2 (by decide) (by decide) (by decide) rfl (by decide) (htb _ kw_86) (cV_c rfl (by decide) (by rw [show cMu 4 0 = 0 from rfl, Nat.zero_mul]; rfl)) dX10_nameBehindAlias_4 ?_
      refine cm_callV (t := 1) (C := RX6) (T := TX6) (N := 8) (rest := [.int x3_2]) (as := []) ⟨hx, hb, hml, hown, htb⟩ (d_countPa l dC dI ad cid a2 lx sg gm lg 0 hI (iv_k (by decide) : iv 0 0 0)) (cwV 0 htb (gd_V kw_625 kw_500 kw_501 kw_20 kw_1457) rfl rfl rfl (by decide +kernel) ⟨Nat.le_of_ble_eq_true rfl, Nat.le_of_ble_eq_true rfl⟩) (iv_k (by decide) : iv 0 0 0) (by decide) (by decide) rfl rfl hl.1 rfl (Nat.le_trans (cs_c (cat_i _) cs_n) (by decide)) dX10_nameBehindAlias_7 ⟨Nat.le_of_ble_eq_true rfl, Nat.le_of_ble_eq_true rfl⟩ hK hP hD hS hA hG (fun E ce q9 u_3 H locs hw hP hD hS hce hcv hcl => ?_) (fun v9 u_3 H locs hw hP hD hS => ?_)
      · exact hw.elim
      obtain ⟨r_2, rfl, rfl, hr_2, fr_r_2⟩ := hw
      have hP : va_P (dC, dI) vwCl (cW ad cid a2 lx sg gm lg) H := hP
      have hD : va_D A (cW ad cid a2 lx sg gm lg) := hD
      refine W.eq (g2 := F0 m 10 ls [.int r_2, .int x3_2]) rfl ?_
      refine lv_icmp_ge (tgt := 56) hx hb dX10_nameBehindAlias_10 (by decide) (fun c_5 => ?_) (fun c_5 => ?_)
      · have d_6 : (r_2 : Int32).toInt ≤ (x3_2 : Int32).toInt := Int32.le_iff_toInt_le.mp c_5
        refine lv_lconst (v := 0) hx hb dX10_nameBehindAlias_56 (by decide) ?_
        exact W.nb (fun hN => W.widen (k := 1) (n := 6) (by decide) (by decide) (vx_ret (W.lret (v := 0) hx hb hr (fun t ht hW => ⟨⟨some (.long 0), (sg, gm, lg), rfl, ⟨0, rfl, rfl⟩, by rw [ht]; exact hP, va_K.moved hW.alike hK, hD⟩, hS.F ht, by rw [ht]; exact hN⟩) hS.2.2 dX10_nameBehindAlias_57)))
      · have d_7 : (x3_2 : Int32).toInt < (r_2 : Int32).toInt := Int32.lt_iff_toInt_lt.mp (i32_lt c_5)
        have h_8 : iv 0 79 x3_2 := iv_ltL (i32_lt c_5) hx3_2 hr_2 (by decide)
        have h_9 : iv 1 80 r_2 := iv_ltR (i32_lt c_5) hx3_2 hr_2 (by decide)
        refine ec_aload_n hx hb dX10_nameBehindAlias_13 rfl (lv_at hl 1 rfl) ?_
        refine cr_get (t := 4) (j := 0) (C := RX10) (T := TX10) (N := 4) (v := eV (ad 1) 0) hx hb htb inX10 hown hK hP hsx0_2 (by decide) (by decide) (by decide) rfl (by decide) (htb _ kw_86) (cV_c rfl (by decide) (by rw [show cMu 4 0 = 0 from rfl, Nat.zero_mul]; rfl)) dX10_nameBehindAlias_14 ?_
        refine lv_iload_n hx hb dX10_nameBehindAlias_17 rfl (lv_at hl 0 rfl) ?_
        refine cm_callV (t := 1) (C := RX6) (T := TX6) (N := 8) (rest := []) (as := [.int x3_2]) ⟨hx, hb, hml, hown, htb⟩ (d_element l dC dI ad cid a2 lx sg gm lg 0 x3_2 hI (iv_k (by decide) : iv 0 0 0) h_8) (cwV 1 htb (gd_V kw_626 kw_503 kw_504 kw_20 kw_1458) rfl rfl rfl (by decide +kernel) ⟨Nat.le_of_ble_eq_true rfl, Nat.le_of_ble_eq_true rfl⟩) (iv_k (by decide) : iv 0 0 0) (by decide) (by decide) rfl rfl hl.1 rfl (Nat.le_trans cs_n (by decide)) dX10_nameBehindAlias_18 ⟨Nat.le_of_ble_eq_true rfl, Nat.le_of_ble_eq_true rfl⟩ hK hP hD hS hA hG (fun E ce q9 u_11 H locs hw hP hD hS hce hcv hcl => ?_) (fun v9 u_11 H locs hw hP hD hS => ?_)
        · exact hw.elim
        obtain ⟨r_10, rfl, rfl, hr_10, fr_r_10⟩ := hw
        have hP : va_P (dC, dI) vwCl (cW ad cid a2 lx sg gm lg) H := hP
        have hD : va_D A (cW ad cid a2 lx sg gm lg) := hD
        refine W.eq (g2 := F0 m 21 ls [eV (ad 9) r_10]) rfl ?_
        refine ec_astore (i := 4) (lv' := [(4, eV (ad 9) r_10), (3, .int x3_2), (0, eV (ad 4) x), (1, .long to)]) hx hb dX10_nameBehindAlias_21 hl (by decide) rfl (fun ls hl => ?_)
        refine ec_aload hx hb dX10_nameBehindAlias_23 (lv_at hl 0 rfl) ?_
        refine cr_get (t := 9) (j := 4) (C := RX3) (T := TX3) (N := 21) (v := eV (ad 33) (gm 14 r_10.toNatClampNeg)) hx hb htb inX3 hown hK hP hr_10 (by decide) (by decide) (by decide) rfl (by decide) (htb _ kw_630) rfl dX10_nameBehindAlias_25 ?_
        obtain ⟨z_13, ez_13⟩ : ∃ z : Int32, z = (gm 14 r_10.toNatClampNeg) := ⟨_, rfl⟩
        refine W.eq (g2 := F0 m 28 ls [eV (ad 33) z_13]) (by rw [ez_13]) ?_
        have hz_13 : iv (-1) 33 z_13 := iv_of ez_13 (CI_a hI 14 hr_10 (by decide))
        refine cw_word (k := 1) (kx := 1) hx hb hG hS (by decide) rfl ⟨by decide, by decide⟩ hown (htb _ kw_1017) dX10_nameBehindAlias_28 ?_
        refine ec_acmp_ne (tgt := 50) hx hb dX10_nameBehindAlias_31 (by decide) (fun c_14 => ?_) (fun c_14 => ?_)
        · have wc_14 : ¬ z_13.toInt = (1 : Int) := fun q9 => c_14 (congrArg (er (ad 33)) (Int32.toInt_inj.mp q9))
          exact hj50 r_10 hr_10 h_8 hsx0_2 _ _ _ hP hD hS (lv_sub hl [0, 1, 2, 3] rfl)
        · have wc_14 : z_13.toInt = (1 : Int) := er_wd hG hz_13 (iv_w (iv_k (by decide) : iv 1 1 1) (by decide)) c_14
          refine ec_aload hx hb dX10_nameBehindAlias_34 (lv_at hl 0 rfl) ?_
          refine cr_get (t := 9) (j := 11) (C := RX3) (T := TX3) (N := 21) (v := .long (lg 1 r_10.toNatClampNeg)) hx hb htb inX3 hown hK hP hr_10 (by decide) (by decide) (by decide) rfl (by decide) (htb _ kw_634) rfl dX10_nameBehindAlias_36 ?_
          refine lv_topl (fun z_15 ez_15 => ?_)
          refine lv_lload_n hx hb dX10_nameBehindAlias_39 rfl (lv_at hl 3 rfl) ?_
          refine W.lcmp hx hb dX10_nameBehindAlias_40 ?_
          refine lv_topi (fun z_16 ez_16 => ?_)
          have hz_16 : iv (-1) 1 z_16 := iv_of ez_16 (iv_cmp _ _)
          refine lv_if_ne (tgt := 50) hx hb dX10_nameBehindAlias_41 (by decide) (fun c_17 => ?_) (fun c_17 => ?_)
          · have d_18 : ¬ (z_16 : Int32).toInt = 0 := lv_neT c_17 rfl
            exact hj50 r_10 hr_10 h_8 hsx0_2 _ _ _ hP hD hS (lv_sub hl [0, 1, 2, 3] rfl)
          · have h_19 : iv 0 0 z_16 := iv_eq c_17 hz_16 (iv_k (by decide) : iv 0 0 0) (by decide)
            refine ec_aload hx hb dX10_nameBehindAlias_44 (lv_at hl 0 rfl) ?_
            refine cr_get (t := 9) (j := 12) (C := RX3) (T := TX3) (N := 21) (v := .long (lg 2 r_10.toNatClampNeg)) hx hb htb inX3 hown hK hP hr_10 (by decide) (by decide) (by decide) rfl (by decide) (htb _ kw_636) rfl dX10_nameBehindAlias_46 ?_
            refine lv_topl (fun z_20 ez_20 => ?_)
            exact W.nb (fun hN => W.widen (k := 1) (n := 6) (by decide) (by decide) (vx_ret (W.lret (v := z_20) hx hb hr (fun t ht hW => ⟨⟨some (.long z_20), (sg, gm, lg), rfl, ⟨z_20, rfl, rfl⟩, by rw [ht]; exact hP, va_K.moved hW.alike hK, hD⟩, hS.F ht, by rw [ht]; exact hN⟩) hS.2.2 dX10_nameBehindAlias_49)))
  refine lv_iconst (v := 0) hx hb dX10_nameBehindAlias_0 (by decide) ?_
  refine lv_istore_n (i := 3) (lv' := [(3, .int 0), (0, eV (ad 4) x), (1, .long to)]) hx hb dX10_nameBehindAlias_1 rfl hl (by decide) rfl (fun ls hl => ?_)
  exact hj2 _ 0 rfl (iv_w (iv_k (by decide) : iv 0 0 0) (by decide)) hvx _ _ _ hP hD hS (lv_sub hl [0, 1, 2] rfl)

set_option maxHeartbeats 4000000 in
set_option maxRecDepth 100000 in
theorem d_called (l : Launch) (dC : Nat → ClassId) (dI : Nat → Nat → Nat) (ad : Nat → Nat → Nat) (cid : Nat → ClassId) (a2 : Nat → Nat) (lx : List Nat) (sg : Nat → Int32) (gm : Nat → Nat → Int32) (lg : Nat → Nat → Int64) (x : Int32) (nm : Int64) (hI : CI sg gm) (hvx : iv 0 0 x) : CMt dC dI ad cid a2 lx l yX10_called wm_X10_called ({ frames := 2, cells := 1, slots := 6, locals := 45 }) [eV (ad 4) x, .long nm] sg gm lg (fun v u => ∃ r : Int32, v = some (eV (ad 10) r) ∧ u = (sg, gm, lg) ∧ (iv (-1) 79 r) ∧ (r.toInt = -1 ∨ (r.toInt < (sg 12).toInt ∧ ¬ lg 4 r.toNatClampNeg = 0))) (fun _ _ => False) := by
  intro sz
  refine vx_ofW (cc := cX10_called) (maxL := 7) (ret := (some (.object "WiredBeans$Bean"))) (by decide) rfl ?_
  intro p e s m args below meth c s₁ B hml hxt hv
  obtain ⟨rfl, hsz, hP, hK, hD0, hG⟩ := hv
  have hx := B.exec
  have hb := B.bytes
  have hr := B.returns
  have hts := atoms_spec (ws := wm_X10_called) B.pre
  have htb := fun (w : Cond) (h : w ∈ tb) => hts w (List.mem_cons_of_mem _ h)
  have hown : s.vm.findClass RX10 = some m.cls := findClass_of_methodNamed B.named
  have hlocks := B.notSynchronized
  subst hsz
  have hD := hD0.self (sz := s.heap.size)
  generalize hAe : va_A (cW ad cid a2 lx sg gm lg) s.heap.size = A at hD hG ⊢
  have hA : ∀ q : Nat, s.heap.size ≤ q → A q := fun q h => by rw [← hAe]; exact Or.inr h
  have hS : va_S A s.heap s.heap [] := va_S.rf
  have hl := lv_entry ([eV (ad 4) x, .long nm]) (n := 7) (by rw [show (lg_sl ([eV (ad 4) x, .long nm])).length = 3 from by simp [lg_sl, eV_cat, cat_i, cat_l]]; exact Nat.le_of_ble_eq_true rfl)
  rw [lg_entry_eq]
  generalize (lg_sl ([eV (ad 4) x, .long nm]) ++ List.replicate (7 - (lg_sl ([eV (ad 4) x, .long nm])).length) Slot.unset).toArray = ls at hl ⊢
  have hl : lv_has ls 7 [(0, eV (ad 4) x), (1, .long nm)] := by simp [lv_args, eV_cat, cat_i, cat_l] at hl; exact hl
  have hj45 : ∀ (x5_45 : Int32) (x3_45 : Int64) (_ : iv 0 21 x5_45) (_ : iv 0 0 x) (H : Heap) (locs : List Loc) (ls : Array Slot), va_P (dC, dI) vwCl (cW ad cid a2 lx sg gm lg) H → va_D A (cW ad cid a2 lx sg gm lg) → va_S A s.heap H locs → lv_has ls 7 [(5, .int x5_45), (3, .long x3_45), (0, eV (ad 4) x), (1, .long nm)] → W p l e (headSpec wm_X10_called ({ frames := 2, cells := 1, slots := 6, locals := 45 })).room s m ([eV (ad 4) x, .long nm] : List Value).toArray below meth c H locs 0 0 (vx_MQ below (cQx dC dI ad cid a2 lx (fun v u => ∃ r : Int32, v = some (eV (ad 10) r) ∧ u = (sg, gm, lg) ∧ (iv (-1) 79 r) ∧ (r.toInt = -1 ∨ (r.toInt < (sg 12).toInt ∧ ¬ lg 4 r.toNatClampNeg = 0))) A) (cX dC dI ad cid a2 lx (fun _ _ => False) A) ([eV (ad 4) x, .long nm] : List Value).toArray s 1 6 A) (F0 m 45 ls []) := by
    intro x5_45 x3_45 hx5_45 hsx0_45 H locs ls hP hD hS hl
    refine ec_null (a := ad 10) hx hb dX10_called_45 ?_
    exact W.nb (fun hN => W.widen (k := 1) (n := 6) (by decide) (by decide) (vx_ret (W.aret (v := eV (ad 10) (-1)) hx hb hr (Or.inl ⟨_, rfl⟩) (eV_is _ _) (fun t ht hW => ⟨⟨some (eV (ad 10) (-1)), (sg, gm, lg), rfl, ⟨(-1), rfl, rfl, (iv_w (iv_k (by decide) : iv (-1) (-1) (-1)) (by decide)), (Or.inl rfl)⟩, by rw [ht]; exact hP, va_K.moved hW.alike hK, hD⟩, hS.F ht, by rw [ht]; exact hN⟩) hS.2.2 dX10_called_46)))
  have hj5 : ∀ (n : Nat) (x5_5 : Int32) (x3_5 : Int64) (_ : (21 - x5_5.toInt).toNat = n) (_ : iv 0 21 x5_5) (_ : iv 0 0 x) (H : Heap) (locs : List Loc) (ls : Array Slot), va_P (dC, dI) vwCl (cW ad cid a2 lx sg gm lg) H → va_D A (cW ad cid a2 lx sg gm lg) → va_S A s.heap H locs → lv_has ls 7 [(5, .int x5_5), (3, .long x3_5), (0, eV (ad 4) x), (1, .long nm)] → W p l e (headSpec wm_X10_called ({ frames := 2, cells := 1, slots := 6, locals := 45 })).room s m ([eV (ad 4) x, .long nm] : List Value).toArray below meth c H locs 0 0 (vx_MQ below (cQx dC dI ad cid a2 lx (fun v u => ∃ r : Int32, v = some (eV (ad 10) r) ∧ u = (sg, gm, lg) ∧ (iv (-1) 79 r) ∧ (r.toInt = -1 ∨ (r.toInt < (sg 12).toInt ∧ ¬ lg 4 r.toNatClampNeg = 0))) A) (cX dC dI ad cid a2 lx (fun _ _ => False) A) ([eV (ad 4) x, .long nm] : List Value).toArray s 1 6 A) (F0 m 5 ls []) := by
    intro n
    induction n using Nat.strongRecOn with
    | ind n ih5 =>
      intro x5_5 x3_5 hn5 hx5_5 hsx0_5 H locs ls hP hD hS hl
      refine lv_iload hx hb dX10_called_5 (lv_at hl 0 rfl) ?_
      refine lv_bipush (v := 20) hx hb dX10_called_7 (by decide) ?_
      refine lv_icmp_gt (tgt := 45) hx hb dX10_called_9 (by decide) (fun c_1 => ?_) (fun c_1 => ?_)
      · have h_2 : iv 21 21 x5_5 := iv_ltR c_1 (iv_k (by decide) : iv 20 20 20) hx5_5 (by decide)
        exact hj45 x5_5 x3_5 (iv_w h_2 (by decide)) hsx0_5 _ _ _ hP hD hS (lv_sub hl [0, 1, 2, 3] rfl)
      · have h_3 : iv 0 20 x5_5 := iv_leL (i32_ge c_1) hx5_5 (iv_k (by decide) : iv 20 20 20) (by decide)
        refine lv_lload_n hx hb dX10_called_12 rfl (lv_at hl 1 rfl) ?_
        refine lv_lconst (v := 0) hx hb dX10_called_13 (by decide) ?_
        refine W.lcmp hx hb dX10_called_14 ?_
        refine lv_topi (fun z_4 ez_4 => ?_)
        have hz_4 : iv (-1) 1 z_4 := iv_of ez_4 (iv_cmp _ _)
        refine lv_if_eq (tgt := 45) hx hb dX10_called_15 (by decide) (fun c_5 => ?_) (fun c_5 => ?_)
        · have h_6 : iv 0 0 z_4 := iv_eq c_5 hz_4 (iv_k (by decide) : iv 0 0 0) (by decide)
          exact hj45 x5_5 x3_5 (iv_w h_3 (by decide)) hsx0_5 _ _ _ hP hD hS (lv_sub hl [0, 1, 2, 3] rfl)
        · have d_7 : ¬ (z_4 : Int32).toInt = 0 := lv_neT c_5 rfl
          refine ec_aload_n hx hb dX10_called_18 rfl (lv_at hl 2 rfl) ?_
          refine lv_lload_n hx hb dX10_called_19 rfl (lv_at hl 1 rfl) ?_
          refine cm_callV (t := 4) (C := RX10) (T := TX10) (N := 4) (rest := []) (as := [.long x3_5]) ⟨hx, hb, hml, hown, htb⟩ (d_withId l dC dI ad cid a2 lx sg gm lg x x3_5 hI hsx0_5) (cwV 1 htb (gd_V kw_716 kw_717 kw_718 kw_32 kw_1495) rfl rfl rfl (by decide +kernel) ⟨Nat.le_of_ble_eq_true rfl, Nat.le_of_ble_eq_true rfl⟩) hsx0_5 (by decide) (by decide) rfl rfl hl.1 rfl (Nat.le_trans cs_n (by decide)) dX10_called_20 ⟨Nat.le_of_ble_eq_true rfl, Nat.le_of_ble_eq_true rfl⟩ hK hP hD hS hA hG (fun E ce q9 u_9 H locs hw hP hD hS hce hcv hcl => ?_) (fun v9 u_9 H locs hw hP hD hS => ?_)
          · exact hw.elim
          obtain ⟨r_8, rfl, rfl, hr_8, fI_r_8⟩ := hw
          have hP : va_P (dC, dI) vwCl (cW ad cid a2 lx sg gm lg) H := hP
          have hD : va_D A (cW ad cid a2 lx sg gm lg) := hD
          refine W.eq (g2 := F0 m 23 ls [eV (ad 10) r_8]) rfl ?_
          refine ec_astore (i := 6) (lv' := [(6, eV (ad 10) r_8), (5, .int x5_5), (3, .long x3_5), (0, eV (ad 4) x), (1, .long nm)]) hx hb dX10_called_23 hl (by decide) rfl (fun ls hl => ?_)
          refine ec_aload hx hb dX10_called_25 (lv_at hl 0 rfl) ?_
          refine ec_ifnull (tgt := 33) hx hb dX10_called_27 (by decide) (fun c_11 => ?_) (fun c_11 => ?_)
          · have h_12 : iv (-1) (-1) r_8 := ⟨(hr_8).1, by omega⟩
            refine ec_aload_n hx hb dX10_called_33 rfl (lv_at hl 3 rfl) ?_
            refine lv_lload_n hx hb dX10_called_34 rfl (lv_at hl 2 rfl) ?_
            refine cm_callV (t := 4) (C := RX10) (T := TX10) (N := 4) (rest := []) (as := [.long x3_5]) ⟨hx, hb, hml, hown, htb⟩ (d_nameBehindAlias l dC dI ad cid a2 lx sg gm lg x x3_5 hI hsx0_5) (cwV 1 htb (gd_V kw_1014 kw_1015 kw_1016 kw_32 kw_1570) rfl rfl rfl (by decide +kernel) ⟨Nat.le_of_ble_eq_true rfl, Nat.le_of_ble_eq_true rfl⟩) hsx0_5 (by decide) (by decide) rfl rfl hl.1 rfl (Nat.le_trans cs_n (by decide)) dX10_called_35 ⟨Nat.le_of_ble_eq_true rfl, Nat.le_of_ble_eq_true rfl⟩ hK hP hD hS hA hG (fun E ce q9 u_14 H locs hw hP hD hS hce hcv hcl => ?_) (fun v9 u_14 H locs hw hP hD hS => ?_)
            · exact hw.elim
            obtain ⟨r_13, rfl, rfl⟩ := hw
            have hP : va_P (dC, dI) vwCl (cW ad cid a2 lx sg gm lg) H := hP
            have hD : va_D A (cW ad cid a2 lx sg gm lg) := hD
            refine W.eq (g2 := F0 m 38 ls [.long r_13]) rfl ?_
            refine lv_lstore_n (i := 3) (lv' := [(3, .long r_13), (6, eV (ad 10) r_8), (5, .int x5_5), (0, eV (ad 4) x), (1, .long nm)]) hx hb dX10_called_38 rfl hl (by decide) rfl (fun ls hl => ?_)
            obtain ⟨z_16, ez_16⟩ : ∃ z : Int32, z = x5_5 + 1 := ⟨_, rfl⟩
            have hz_16 : iv 1 21 z_16 := iv_of ez_16 (iv_add h_3 (iv_k (by decide) : iv 1 1 1) (by decide))
            have tz_16 : z_16.toInt = x5_5.toInt + 1 := by rw [ez_16]; exact iv_addE h_3 (iv_k (by decide) : iv 1 1 1) (by decide)
            refine lv_iinc (v := z_16) (lv' := [(5, .int z_16), (3, .long r_13), (6, eV (ad 10) r_8), (0, eV (ad 4) x), (1, .long nm)]) hx hb dX10_called_39 hl (k := 2) rfl ez_16.symm (by decide) rfl (fun ls hl => ?_)
            refine lv_goto (tgt := 5) hx hb dX10_called_42 (by decide) ?_
            exact ih5 _ (by rw [← hn5]; exact (iv_meas tz_16 h_3 (by decide))) z_16 r_13 rfl (iv_w hz_16 (by decide)) hsx0_5 _ _ _ hP hD hS (lv_sub hl [0, 1, 3, 4] rfl)
          · have h_17 : iv 0 79 r_8 := ⟨c_11, (hr_8).2⟩
            refine ec_aload hx hb dX10_called_30 (lv_at hl 0 rfl) ?_
            exact W.nb (fun hN => W.widen (k := 1) (n := 6) (by decide) (by decide) (vx_ret (W.aret (v := eV (ad 10) r_8) hx hb hr (Or.inl ⟨_, rfl⟩) (eV_is _ _) (fun t ht hW => ⟨⟨some (eV (ad 10) r_8), (sg, gm, lg), rfl, ⟨r_8, rfl, rfl, (iv_w h_17 (by decide)), (fI_r_8)⟩, by rw [ht]; exact hP, va_K.moved hW.alike hK, hD⟩, hS.F ht, by rw [ht]; exact hN⟩) hS.2.2 dX10_called_32)))
  refine lv_lload_n hx hb dX10_called_0 rfl (lv_at hl 1 rfl) ?_
  refine lv_lstore_n (i := 3) (lv' := [(3, .long nm), (0, eV (ad 4) x), (1, .long nm)]) hx hb dX10_called_1 rfl hl (by decide) rfl (fun ls hl => ?_)
  refine lv_iconst (v := 0) hx hb dX10_called_2 (by decide) ?_
  refine lv_istore (i := 5) (lv' := [(5, .int 0), (3, .long nm), (0, eV (ad 4) x), (1, .long nm)]) hx hb dX10_called_3 hl (by decide) rfl (fun ls hl => ?_)
  exact hj5 _ 0 nm rfl (iv_w (iv_k (by decide) : iv 0 0 0) (by decide)) hvx _ _ _ hP hD hS (lv_sub hl [0, 1, 2, 3] rfl)

set_option maxHeartbeats 4000000 in
set_option maxRecDepth 100000 in
theorem d_comesToItself (l : Launch) (dC : Nat → ClassId) (dI : Nat → Nat → Nat) (ad : Nat → Nat → Nat) (cid : Nat → ClassId) (a2 : Nat → Nat) (lx : List Nat) (sg : Nat → Int32) (gm : Nat → Nat → Int32) (lg : Nat → Nat → Int64) (x : Int32) (b : Int32) (hI : CI sg gm) (hvx : iv 0 0 x) (hvb : iv 0 79 b) : CMt dC dI ad cid a2 lx l yX10_comesToItself wm_X10_comesToItself ({ frames := 1, cells := 1, slots := 6, locals := 23 }) [eV (ad 4) x, eV (ad 10) b] sg gm lg (fun v u => ∃ r : Int32, v = some (.int r) ∧ u = (sg, gm, lg) ∧ (iv 0 1 r)) (fun _ _ => False) := by
  intro sz
  refine vx_ofW (cc := cX10_comesToItself) (maxL := 4) (ret := (some .boolean)) (by decide) rfl ?_
  intro p e s m args below meth c s₁ B hml hxt hv
  obtain ⟨rfl, hsz, hP, hK, hD0, hG⟩ := hv
  have hx := B.exec
  have hb := B.bytes
  have hr := B.returns
  have hts := atoms_spec (ws := wm_X10_comesToItself) B.pre
  have htb := fun (w : Cond) (h : w ∈ tb) => hts w (List.mem_cons_of_mem _ h)
  have hown : s.vm.findClass RX10 = some m.cls := findClass_of_methodNamed B.named
  have hlocks := B.notSynchronized
  subst hsz
  have hD := hD0.self (sz := s.heap.size)
  generalize hAe : va_A (cW ad cid a2 lx sg gm lg) s.heap.size = A at hD hG ⊢
  have hA : ∀ q : Nat, s.heap.size ≤ q → A q := fun q h => by rw [← hAe]; exact Or.inr h
  have hS : va_S A s.heap s.heap [] := va_S.rf
  have hl := lv_entry ([eV (ad 4) x, eV (ad 10) b]) (n := 4) (by rw [show (lg_sl ([eV (ad 4) x, eV (ad 10) b])).length = 2 from by simp [lg_sl, eV_cat, cat_i, cat_l]]; exact Nat.le_of_ble_eq_true rfl)
  rw [lg_entry_eq]
  generalize (lg_sl ([eV (ad 4) x, eV (ad 10) b]) ++ List.replicate (4 - (lg_sl ([eV (ad 4) x, eV (ad 10) b])).length) Slot.unset).toArray = ls at hl ⊢
  have hl : lv_has ls 4 [(0, eV (ad 4) x), (1, eV (ad 10) b)] := by simp [lv_args, eV_cat, cat_i, cat_l] at hl; exact hl
  have hj51 : ∀ (x3_51 : Int32) (x2_51 : Int32) (y0_51 : Int32) (_ : iv 1 80 x3_51) (_ : iv (-1) 79 x2_51) (_ : iv 0 0 x) (_ : iv 0 79 b) (_ : iv 0 1 y0_51) (H : Heap) (locs : List Loc) (ls : Array Slot), va_P (dC, dI) vwCl (cW ad cid a2 lx sg gm lg) H → va_D A (cW ad cid a2 lx sg gm lg) → va_S A s.heap H locs → lv_has ls 4 [(3, .int x3_51), (2, eV (ad 10) x2_51), (0, eV (ad 4) x), (1, eV (ad 10) b)] → W p l e (headSpec wm_X10_comesToItself ({ frames := 1, cells := 1, slots := 6, locals := 23 })).room s m ([eV (ad 4) x, eV (ad 10) b] : List Value).toArray below meth c H locs 0 0 (vx_MQ below (cQx dC dI ad cid a2 lx (fun v u => ∃ r : Int32, v = some (.int r) ∧ u = (sg, gm, lg) ∧ (iv 0 1 r)) A) (cX dC dI ad cid a2 lx (fun _ _ => False) A) ([eV (ad 4) x, eV (ad 10) b] : List Value).toArray s 1 6 A) (F0 m 51 ls [.int y0_51]) := by
    intro x3_51 x2_51 y0_51 hx3_51 hx2_51 hsx0_51 hsx1_51 hy0_51 H locs ls hP hD hS hl
    exact W.nb (fun hN => W.widen (k := 1) (n := 6) (by decide) (by decide) (vx_ret (W.zret (v := y0_51) hx hb hr (iv_nb hy0_51) (fun t ht hW => ⟨⟨some (.int y0_51), (sg, gm, lg), rfl, ⟨y0_51, rfl, rfl, hy0_51⟩, by rw [ht]; exact hP, va_K.moved hW.alike hK, hD⟩, hS.F ht, by rw [ht]; exact hN⟩) hS.2.2 dX10_comesToItself_51)))
  have hj41 : ∀ (x3_41 : Int32) (x2_41 : Int32) (_ : iv 1 80 x3_41) (_ : iv (-1) 79 x2_41) (_ : iv 0 0 x) (_ : iv 0 79 b) (H : Heap) (locs : List Loc) (ls : Array Slot), va_P (dC, dI) vwCl (cW ad cid a2 lx sg gm lg) H → va_D A (cW ad cid a2 lx sg gm lg) → va_S A s.heap H locs → lv_has ls 4 [(3, .int x3_41), (2, eV (ad 10) x2_41), (0, eV (ad 4) x), (1, eV (ad 10) b)] → W p l e (headSpec wm_X10_comesToItself ({ frames := 1, cells := 1, slots := 6, locals := 23 })).room s m ([eV (ad 4) x, eV (ad 10) b] : List Value).toArray below meth c H locs 0 0 (vx_MQ below (cQx dC dI ad cid a2 lx (fun v u => ∃ r : Int32, v = some (.int r) ∧ u = (sg, gm, lg) ∧ (iv 0 1 r)) A) (cX dC dI ad cid a2 lx (fun _ _ => False) A) ([eV (ad 4) x, eV (ad 10) b] : List Value).toArray s 1 6 A) (F0 m 41 ls []) := by
    intro x3_41 x2_41 hx3_41 hx2_41 hsx0_41 hsx1_41 H locs ls hP hD hS hl
    refine ec_aload_n hx hb dX10_comesToItself_41 rfl (lv_at hl 1 rfl) ?_
    refine ec_aload_n hx hb dX10_comesToItself_42 rfl (lv_at hl 3 rfl) ?_
    refine ec_acmp_ne (tgt := 50) hx hb dX10_comesToItself_43 (by decide) (fun c_1 => ?_) (fun c_1 => ?_)
    · refine lv_iconst (v := 0) hx hb dX10_comesToItself_50 (by decide) ?_
      exact hj51 x3_41 x2_41 0 hx3_41 hx2_41 hsx0_41 hsx1_41 (iv_w (iv_k (by decide) : iv 0 0 0) (by decide)) _ _ _ hP hD hS (lv_sub hl [0, 1, 2, 3] rfl)
    · refine lv_iconst (v := 1) hx hb dX10_comesToItself_46 (by decide) ?_
      refine lv_goto (tgt := 51) hx hb dX10_comesToItself_47 (by decide) ?_
      exact hj51 x3_41 x2_41 1 hx3_41 hx2_41 hsx0_41 hsx1_41 (iv_w (iv_k (by decide) : iv 1 1 1) (by decide)) _ _ _ hP hD hS (lv_sub hl [0, 1, 2, 3] rfl)
  have hj11 : ∀ (n : Nat) (x3_11 : Int32) (x2_11 : Int32) (_ : (80 - x3_11.toInt).toNat = n) (_ : iv 1 80 x3_11) (_ : iv (-1) 79 x2_11) (_ : iv 0 0 x) (_ : iv 0 79 b) (H : Heap) (locs : List Loc) (ls : Array Slot), va_P (dC, dI) vwCl (cW ad cid a2 lx sg gm lg) H → va_D A (cW ad cid a2 lx sg gm lg) → va_S A s.heap H locs → lv_has ls 4 [(3, .int x3_11), (2, eV (ad 10) x2_11), (0, eV (ad 4) x), (1, eV (ad 10) b)] → W p l e (headSpec wm_X10_comesToItself ({ frames := 1, cells := 1, slots := 6, locals := 23 })).room s m ([eV (ad 4) x, eV (ad 10) b] : List Value).toArray below meth c H locs 0 0 (vx_MQ below (cQx dC dI ad cid a2 lx (fun v u => ∃ r : Int32, v = some (.int r) ∧ u = (sg, gm, lg) ∧ (iv 0 1 r)) A) (cX dC dI ad cid a2 lx (fun _ _ => False) A) ([eV (ad 4) x, eV (ad 10) b] : List Value).toArray s 1 6 A) (F0 m 11 ls []) := by
    intro n
    induction n using Nat.strongRecOn with
    | ind n ih11 =>
      intro x3_11 x2_11 hn11 hx3_11 hx2_11 hsx0_11 hsx1_11 H locs ls hP hD hS hl
      refine lv_iload_n hx hb dX10_comesToItself_11 rfl (lv_at hl 0 rfl) ?_
      refine lv_bipush (v := 80) hx hb dX10_comesToItself_12 (by decide) ?_
      refine lv_icmp_ge (tgt := 41) hx hb dX10_comesToItself_14 (by decide) (fun c_2 => ?_) (fun c_2 => ?_)
      · have h_3 : iv 80 80 x3_11 := iv_leR c_2 (iv_k (by decide) : iv 80 80 80) hx3_11 (by decide)
        exact hj41 x3_11 x2_11 (iv_w h_3 (by decide)) hx2_11 hsx0_11 hsx1_11 _ _ _ hP hD hS (lv_sub hl [0, 1, 2, 3] rfl)
      · have h_4 : iv 1 79 x3_11 := iv_ltL (i32_lt c_2) hx3_11 (iv_k (by decide) : iv 80 80 80) (by decide)
        refine ec_aload_n hx hb dX10_comesToItself_17 rfl (lv_at hl 1 rfl) ?_
        refine ec_ifnull (tgt := 41) hx hb dX10_comesToItself_18 (by decide) (fun c_5 => ?_) (fun c_5 => ?_)
        · have h_6 : iv (-1) (-1) x2_11 := ⟨(hx2_11).1, by omega⟩
          exact hj41 x3_11 x2_11 (iv_w h_4 (by decide)) (iv_w h_6 (by decide)) hsx0_11 hsx1_11 _ _ _ hP hD hS (lv_sub hl [0, 1, 2, 3] rfl)
        · have h_7 : iv 0 79 x2_11 := ⟨c_5, (hx2_11).2⟩
          refine ec_aload_n hx hb dX10_comesToItself_21 rfl (lv_at hl 1 rfl) ?_
          refine ec_aload_n hx hb dX10_comesToItself_22 rfl (lv_at hl 3 rfl) ?_
          refine ec_acmp_eq (tgt := 41) hx hb dX10_comesToItself_23 (by decide) (fun c_8 => ?_) (fun c_8 => ?_)
          · exact hj41 x3_11 x2_11 (iv_w h_4 (by decide)) (iv_w h_7 (by decide)) hsx0_11 hsx1_11 _ _ _ hP hD hS (lv_sub hl [0, 1, 2, 3] rfl)
          · refine ec_aload_n hx hb dX10_comesToItself_26 rfl (lv_at hl 2 rfl) ?_
            refine ec_aload_n hx hb dX10_comesToItself_27 rfl (lv_at hl 1 rfl) ?_
            refine cr_get (t := 10) (j := 6) (C := RX1) (T := TX1) (N := 19) (v := .long (lg 5 x2_11.toNatClampNeg)) hx hb htb inX1 hown hK hP h_7 (by decide) (by decide) (by decide) rfl (by decide) (htb _ kw_715) rfl dX10_comesToItself_28 ?_
            refine lv_topl (fun z_9 ez_9 => ?_)
            refine cm_callV (t := 4) (C := RX10) (T := TX10) (N := 4) (rest := []) (as := [.long z_9]) ⟨hx, hb, hml, hown, htb⟩ (d_withId l dC dI ad cid a2 lx sg gm lg x z_9 hI hsx0_11) (cwV 1 htb (gd_V kw_716 kw_717 kw_718 kw_32 kw_1495) rfl rfl rfl (by decide +kernel) ⟨Nat.le_of_ble_eq_true rfl, Nat.le_of_ble_eq_true rfl⟩) hsx0_11 (by decide) (by decide) rfl rfl hl.1 rfl (Nat.le_trans cs_n (by decide)) dX10_comesToItself_31 ⟨Nat.le_of_ble_eq_true rfl, Nat.le_of_ble_eq_true rfl⟩ hK hP hD hS hA hG (fun E ce q9 u_11 H locs hw hP hD hS hce hcv hcl => ?_) (fun v9 u_11 H locs hw hP hD hS => ?_)
            · exact hw.elim
            obtain ⟨r_10, rfl, rfl, hr_10, fI_r_10⟩ := hw
            have hP : va_P (dC, dI) vwCl (cW ad cid a2 lx sg gm lg) H := hP
            have hD : va_D A (cW ad cid a2 lx sg gm lg) := hD
            refine W.eq (g2 := F0 m 34 ls [eV (ad 10) r_10]) rfl ?_
            refine ec_astore_n (i := 2) (lv' := [(2, eV (ad 10) r_10), (3, .int x3_11), (0, eV (ad 4) x), (1, eV (ad 10) b)]) hx hb dX10_comesToItself_34 rfl hl (by decide) (by simp [List.filter, eV_cat, cat_i, cat_l]) (fun ls hl => ?_)
            obtain ⟨z_13, ez_13⟩ : ∃ z : Int32, z = x3_11 + 1 := ⟨_, rfl⟩
            have hz_13 : iv 2 80 z_13 := iv_of ez_13 (iv_add h_4 (iv_k (by decide) : iv 1 1 1) (by decide))
            have tz_13 : z_13.toInt = x3_11.toInt + 1 := by rw [ez_13]; exact iv_addE h_4 (iv_k (by decide) : iv 1 1 1) (by decide)
            refine lv_iinc (v := z_13) (lv' := [(3, .int z_13), (2, eV (ad 10) r_10), (0, eV (ad 4) x), (1, eV (ad 10) b)]) hx hb dX10_comesToItself_35 hl (k := 1) rfl ez_13.symm (by decide) (by simp [List.filter, eV_cat, cat_i, cat_l]) (fun ls hl => ?_)
            refine lv_goto (tgt := 11) hx hb dX10_comesToItself_38 (by decide) ?_
            exact ih11 _ (by rw [← hn11]; exact (iv_meas tz_13 h_4 (by decide))) z_13 r_10 rfl (iv_w hz_13 (by decide)) hr_10 hsx0_11 hsx1_11 _ _ _ hP hD hS (lv_sub hl [0, 1, 2, 3] rfl)
  refine ec_aload_n hx hb dX10_comesToItself_0 rfl (lv_at hl 0 rfl) ?_
  refine ec_aload_n hx hb dX10_comesToItself_1 rfl (lv_at hl 1 rfl) ?_
  refine cr_get (t := 10) (j := 6) (C := RX1) (T := TX1) (N := 19) (v := .long (lg 5 b.toNatClampNeg)) hx hb htb inX1 hown hK hP hvb (by decide) (by decide) (by decide) rfl (by decide) (htb _ kw_715) rfl dX10_comesToItself_2 ?_
  refine lv_topl (fun z_14 ez_14 => ?_)
  refine cm_callV (t := 4) (C := RX10) (T := TX10) (N := 4) (rest := []) (as := [.long z_14]) ⟨hx, hb, hml, hown, htb⟩ (d_withId l dC dI ad cid a2 lx sg gm lg x z_14 hI hvx) (cwV 1 htb (gd_V kw_716 kw_717 kw_718 kw_32 kw_1495) rfl rfl rfl (by decide +kernel) ⟨Nat.le_of_ble_eq_true rfl, Nat.le_of_ble_eq_true rfl⟩) hvx (by decide) (by decide) rfl rfl hl.1 rfl (Nat.le_trans cs_n (by decide)) dX10_comesToItself_5 ⟨Nat.le_of_ble_eq_true rfl, Nat.le_of_ble_eq_true rfl⟩ hK hP hD hS hA hG (fun E ce q9 u_16 H locs hw hP hD hS hce hcv hcl => ?_) (fun v9 u_16 H locs hw hP hD hS => ?_)
  · exact hw.elim
  obtain ⟨r_15, rfl, rfl, hr_15, fI_r_15⟩ := hw
  have hP : va_P (dC, dI) vwCl (cW ad cid a2 lx sg gm lg) H := hP
  have hD : va_D A (cW ad cid a2 lx sg gm lg) := hD
  refine W.eq (g2 := F0 m 8 ls [eV (ad 10) r_15]) rfl ?_
  refine ec_astore_n (i := 2) (lv' := [(2, eV (ad 10) r_15), (0, eV (ad 4) x), (1, eV (ad 10) b)]) hx hb dX10_comesToItself_8 rfl hl (by decide) (by simp [List.filter, eV_cat, cat_i, cat_l]) (fun ls hl => ?_)
  refine lv_iconst (v := 1) hx hb dX10_comesToItself_9 (by decide) ?_
  refine lv_istore_n (i := 3) (lv' := [(3, .int 1), (2, eV (ad 10) r_15), (0, eV (ad 4) x), (1, eV (ad 10) b)]) hx hb dX10_comesToItself_10 rfl hl (by decide) (by simp [List.filter, eV_cat, cat_i, cat_l]) (fun ls hl => ?_)
  exact hj11 _ 1 r_15 rfl (iv_w (iv_k (by decide) : iv 1 1 1) (by decide)) hr_15 hvx hvb _ _ _ hP hD hS (lv_sub hl [0, 1, 2, 3] rfl)

set_option maxHeartbeats 4000000 in
set_option maxRecDepth 100000 in
theorem d_hasRightParent (l : Launch) (dC : Nat → ClassId) (dI : Nat → Nat → Nat) (ad : Nat → Nat → Nat) (cid : Nat → ClassId) (a2 : Nat → Nat) (lx : List Nat) (sg : Nat → Int32) (gm : Nat → Nat → Int32) (lg : Nat → Nat → Int64) (x : Int32) (b : Int32) (hI : CI sg gm) (hvx : iv 0 0 x) (hvb : iv 0 79 b) : CMt dC dI ad cid a2 lx l yX10_hasRightParent wm_X10_hasRightParent ({ frames := 2, cells := 1, slots := 6, locals := 46 }) [eV (ad 4) x, eV (ad 10) b] sg gm lg (fun v u => ∃ r : Int32, v = some (.int r) ∧ u = (sg, gm, lg) ∧ (iv 0 1 r)) (fun _ _ => False) := by
  intro sz
  refine vx_ofW (cc := cX10_hasRightParent) (maxL := 3) (ret := (some .boolean)) (by decide) rfl ?_
  intro p e s m args below meth c s₁ B hml hxt hv
  obtain ⟨rfl, hsz, hP, hK, hD0, hG⟩ := hv
  have hx := B.exec
  have hb := B.bytes
  have hr := B.returns
  have hts := atoms_spec (ws := wm_X10_hasRightParent) B.pre
  have htb := fun (w : Cond) (h : w ∈ tb) => hts w (List.mem_cons_of_mem _ h)
  have hown : s.vm.findClass RX10 = some m.cls := findClass_of_methodNamed B.named
  have hlocks := B.notSynchronized
  subst hsz
  have hD := hD0.self (sz := s.heap.size)
  generalize hAe : va_A (cW ad cid a2 lx sg gm lg) s.heap.size = A at hD hG ⊢
  have hA : ∀ q : Nat, s.heap.size ≤ q → A q := fun q h => by rw [← hAe]; exact Or.inr h
  have hS : va_S A s.heap s.heap [] := va_S.rf
  have hl := lv_entry ([eV (ad 4) x, eV (ad 10) b]) (n := 3) (by rw [show (lg_sl ([eV (ad 4) x, eV (ad 10) b])).length = 2 from by simp [lg_sl, eV_cat, cat_i, cat_l]]; exact Nat.le_of_ble_eq_true rfl)
  rw [lg_entry_eq]
  generalize (lg_sl ([eV (ad 4) x, eV (ad 10) b]) ++ List.replicate (3 - (lg_sl ([eV (ad 4) x, eV (ad 10) b])).length) Slot.unset).toArray = ls at hl ⊢
  have hl : lv_has ls 3 [(0, eV (ad 4) x), (1, eV (ad 10) b)] := by simp [lv_args, eV_cat, cat_i, cat_l] at hl; exact hl
  have hj37 : ∀ (x2_37 : Int32) (y0_37 : Int32) (_ : iv (-1) 79 x2_37) (_ : iv 0 0 x) (_ : iv 0 79 b) (_ : iv 0 1 y0_37) (H : Heap) (locs : List Loc) (ls : Array Slot), va_P (dC, dI) vwCl (cW ad cid a2 lx sg gm lg) H → va_D A (cW ad cid a2 lx sg gm lg) → va_S A s.heap H locs → lv_has ls 3 [(2, eV (ad 10) x2_37), (0, eV (ad 4) x), (1, eV (ad 10) b)] → W p l e (headSpec wm_X10_hasRightParent ({ frames := 2, cells := 1, slots := 6, locals := 46 })).room s m ([eV (ad 4) x, eV (ad 10) b] : List Value).toArray below meth c H locs 0 0 (vx_MQ below (cQx dC dI ad cid a2 lx (fun v u => ∃ r : Int32, v = some (.int r) ∧ u = (sg, gm, lg) ∧ (iv 0 1 r)) A) (cX dC dI ad cid a2 lx (fun _ _ => False) A) ([eV (ad 4) x, eV (ad 10) b] : List Value).toArray s 1 6 A) (F0 m 37 ls [.int y0_37]) := by
    intro x2_37 y0_37 hx2_37 hsx0_37 hsx1_37 hy0_37 H locs ls hP hD hS hl
    exact W.nb (fun hN => W.widen (k := 1) (n := 6) (by decide) (by decide) (vx_ret (W.zret (v := y0_37) hx hb hr (iv_nb hy0_37) (fun t ht hW => ⟨⟨some (.int y0_37), (sg, gm, lg), rfl, ⟨y0_37, rfl, rfl, hy0_37⟩, by rw [ht]; exact hP, va_K.moved hW.alike hK, hD⟩, hS.F ht, by rw [ht]; exact hN⟩) hS.2.2 dX10_hasRightParent_37)))
  have hj36 : ∀ (x2_36 : Int32) (_ : iv (-1) 79 x2_36) (_ : iv 0 0 x) (_ : iv 0 79 b) (H : Heap) (locs : List Loc) (ls : Array Slot), va_P (dC, dI) vwCl (cW ad cid a2 lx sg gm lg) H → va_D A (cW ad cid a2 lx sg gm lg) → va_S A s.heap H locs → lv_has ls 3 [(2, eV (ad 10) x2_36), (0, eV (ad 4) x), (1, eV (ad 10) b)] → W p l e (headSpec wm_X10_hasRightParent ({ frames := 2, cells := 1, slots := 6, locals := 46 })).room s m ([eV (ad 4) x, eV (ad 10) b] : List Value).toArray below meth c H locs 0 0 (vx_MQ below (cQx dC dI ad cid a2 lx (fun v u => ∃ r : Int32, v = some (.int r) ∧ u = (sg, gm, lg) ∧ (iv 0 1 r)) A) (cX dC dI ad cid a2 lx (fun _ _ => False) A) ([eV (ad 4) x, eV (ad 10) b] : List Value).toArray s 1 6 A) (F0 m 36 ls []) := by
    intro x2_36 hx2_36 hsx0_36 hsx1_36 H locs ls hP hD hS hl
    refine lv_iconst (v := 0) hx hb dX10_hasRightParent_36 (by decide) ?_
    exact hj37 x2_36 0 hx2_36 hsx0_36 hsx1_36 (iv_w (iv_k (by decide) : iv 0 0 0) (by decide)) _ _ _ hP hD hS (lv_sub hl [0, 1, 2] rfl)
  refine ec_aload_n hx hb dX10_hasRightParent_0 rfl (lv_at hl 1 rfl) ?_
  refine cr_get (t := 10) (j := 6) (C := RX1) (T := TX1) (N := 19) (v := .long (lg 5 b.toNatClampNeg)) hx hb htb inX1 hown hK hP hvb (by decide) (by decide) (by decide) rfl (by decide) (htb _ kw_715) rfl dX10_hasRightParent_1 ?_
  refine lv_topl (fun z_1 ez_1 => ?_)
  refine lv_lconst (v := 0) hx hb dX10_hasRightParent_4 (by decide) ?_
  refine W.lcmp hx hb dX10_hasRightParent_5 ?_
  refine lv_topi (fun z_2 ez_2 => ?_)
  have hz_2 : iv (-1) 1 z_2 := iv_of ez_2 (iv_cmp _ _)
  refine lv_if_ne (tgt := 11) hx hb dX10_hasRightParent_6 (by decide) (fun c_3 => ?_) (fun c_3 => ?_)
  · have d_4 : ¬ (z_2 : Int32).toInt = 0 := lv_neT c_3 rfl
    refine ec_aload_n hx hb dX10_hasRightParent_11 rfl (lv_at hl 0 rfl) ?_
    refine ec_aload_n hx hb dX10_hasRightParent_12 rfl (lv_at hl 1 rfl) ?_
    refine cr_get (t := 10) (j := 6) (C := RX1) (T := TX1) (N := 19) (v := .long (lg 5 b.toNatClampNeg)) hx hb htb inX1 hown hK hP hvb (by decide) (by decide) (by decide) rfl (by decide) (htb _ kw_715) rfl dX10_hasRightParent_13 ?_
    refine lv_topl (fun z_5 ez_5 => ?_)
    refine cm_callV (t := 4) (C := RX10) (T := TX10) (N := 4) (rest := []) (as := [.long z_5]) ⟨hx, hb, hml, hown, htb⟩ (d_withId l dC dI ad cid a2 lx sg gm lg x z_5 hI hvx) (cwV 1 htb (gd_V kw_716 kw_717 kw_718 kw_32 kw_1495) rfl rfl rfl (by decide +kernel) ⟨Nat.le_of_ble_eq_true rfl, Nat.le_of_ble_eq_true rfl⟩) hvx (by decide) (by decide) rfl rfl hl.1 rfl (Nat.le_trans cs_n (by decide)) dX10_hasRightParent_16 ⟨Nat.le_of_ble_eq_true rfl, Nat.le_of_ble_eq_true rfl⟩ hK hP hD hS hA hG (fun E ce q9 u_7 H locs hw hP hD hS hce hcv hcl => ?_) (fun v9 u_7 H locs hw hP hD hS => ?_)
    · exact hw.elim
    obtain ⟨r_6, rfl, rfl, hr_6, fI_r_6⟩ := hw
    have hP : va_P (dC, dI) vwCl (cW ad cid a2 lx sg gm lg) H := hP
    have hD : va_D A (cW ad cid a2 lx sg gm lg) := hD
    refine W.eq (g2 := F0 m 19 ls [eV (ad 10) r_6]) rfl ?_
    refine ec_astore_n (i := 2) (lv' := [(2, eV (ad 10) r_6), (0, eV (ad 4) x), (1, eV (ad 10) b)]) hx hb dX10_hasRightParent_19 rfl hl (by decide) (by simp [List.filter, eV_cat, cat_i, cat_l]) (fun ls hl => ?_)
    refine ec_aload_n hx hb dX10_hasRightParent_20 rfl (lv_at hl 0 rfl) ?_
    refine ec_ifnull (tgt := 36) hx hb dX10_hasRightParent_21 (by decide) (fun c_9 => ?_) (fun c_9 => ?_)
    · have h_10 : iv (-1) (-1) r_6 := ⟨(hr_6).1, by omega⟩
      exact hj36 r_6 (iv_w h_10 (by decide)) hvx hvb _ _ _ hP hD hS (lv_sub hl [0, 1, 2] rfl)
    · have h_11 : iv 0 79 r_6 := ⟨c_9, (hr_6).2⟩
      refine ec_aload_n hx hb dX10_hasRightParent_24 rfl (lv_at hl 1 rfl) ?_
      refine ec_aload_n hx hb dX10_hasRightParent_25 rfl (lv_at hl 0 rfl) ?_
      refine cm_callV (t := 4) (C := RX10) (T := TX10) (N := 4) (rest := []) (as := [eV (ad 10) r_6]) ⟨hx, hb, hml, hown, htb⟩ (d_comesToItself l dC dI ad cid a2 lx sg gm lg x r_6 hI hvx h_11) (cwV 1 htb (gd_V kw_720 kw_721 kw_722 kw_32 kw_1496) rfl rfl rfl (by decide +kernel) ⟨Nat.le_of_ble_eq_true rfl, Nat.le_of_ble_eq_true rfl⟩) hvx (by decide) (by decide) rfl rfl hl.1 rfl (Nat.le_trans cs_n (by decide)) dX10_hasRightParent_26 ⟨Nat.le_of_ble_eq_true rfl, Nat.le_of_ble_eq_true rfl⟩ hK hP hD hS hA hG (fun E ce q9 u_13 H locs hw hP hD hS hce hcv hcl => ?_) (fun v9 u_13 H locs hw hP hD hS => ?_)
      · exact hw.elim
      obtain ⟨r_12, rfl, rfl, hr_12⟩ := hw
      have hP : va_P (dC, dI) vwCl (cW ad cid a2 lx sg gm lg) H := hP
      have hD : va_D A (cW ad cid a2 lx sg gm lg) := hD
      refine W.eq (g2 := F0 m 29 ls [.int r_12]) rfl ?_
      refine lv_if_ne (tgt := 36) hx hb dX10_hasRightParent_29 (by decide) (fun c_15 => ?_) (fun c_15 => ?_)
      · have h_16 : iv 1 1 r_12 := iv_neL c_15 hr_12 (by decide)
        exact hj36 r_6 (iv_w h_11 (by decide)) hvx hvb _ _ _ hP hD hS (lv_sub hl [0, 1, 2] rfl)
      · have h_17 : iv 0 0 r_12 := iv_eq c_15 hr_12 (iv_k (by decide) : iv 0 0 0) (by decide)
        refine lv_iconst (v := 1) hx hb dX10_hasRightParent_32 (by decide) ?_
        refine lv_goto (tgt := 37) hx hb dX10_hasRightParent_33 (by decide) ?_
        exact hj37 r_6 1 (iv_w h_11 (by decide)) hvx hvb (iv_w (iv_k (by decide) : iv 1 1 1) (by decide)) _ _ _ hP hD hS (lv_sub hl [0, 1, 2] rfl)
  · have h_18 : iv 0 0 z_2 := iv_eq c_3 hz_2 (iv_k (by decide) : iv 0 0 0) (by decide)
    refine lv_iconst (v := 1) hx hb dX10_hasRightParent_9 (by decide) ?_
    exact W.nb (fun hN => W.widen (k := 1) (n := 6) (by decide) (by decide) (vx_ret (W.zret (v := 1) hx hb hr (iv_nb (iv_w (iv_k (by decide) : iv 1 1 1) (by decide))) (fun t ht hW => ⟨⟨some (.int 1), (sg, gm, lg), rfl, ⟨1, rfl, rfl, (iv_w (iv_k (by decide) : iv 1 1 1) (by decide))⟩, by rw [ht]; exact hP, va_K.moved hW.alike hK, hD⟩, hS.F ht, by rw [ht]; exact hN⟩) hS.2.2 dX10_hasRightParent_10)))

set_option maxHeartbeats 4000000 in
set_option maxRecDepth 100000 in
theorem d_isRightW (l : Launch) (dC : Nat → ClassId) (dI : Nat → Nat → Nat) (ad : Nat → Nat → Nat) (cid : Nat → ClassId) (a2 : Nat → Nat) (lx : List Nat) (sg : Nat → Int32) (gm : Nat → Nat → Int32) (lg : Nat → Nat → Int64) (x : Int32) (i : Int32) (hI : CI sg gm) (hvx : iv 0 0 x) (hvi : iv 0 79 i) : CMt dC dI ad cid a2 lx l yX10_isRight wm_X10_isRight ({ frames := 3, cells := 1, slots := 6, locals := 68 }) [eV (ad 4) x, .int i] sg gm lg (fun v u => ∃ r : Int32, v = some (.int r) ∧ u = (sg, gm, lg) ∧ (iv 0 1 r)) (fun _ _ => False) := by
  intro sz
  refine vx_ofW (cc := cX10_isRight) (maxL := 4) (ret := (some .boolean)) (by decide) rfl ?_
  intro p e s m args below meth c s₁ B hml hxt hv
  obtain ⟨rfl, hsz, hP, hK, hD0, hG⟩ := hv
  have hx := B.exec
  have hb := B.bytes
  have hr := B.returns
  have hts := atoms_spec (ws := wm_X10_isRight) B.pre
  have htb := fun (w : Cond) (h : w ∈ tb) => hts w (List.mem_cons_of_mem _ h)
  have hown : s.vm.findClass RX10 = some m.cls := findClass_of_methodNamed B.named
  have hlocks := B.notSynchronized
  subst hsz
  have hD := hD0.self (sz := s.heap.size)
  generalize hAe : va_A (cW ad cid a2 lx sg gm lg) s.heap.size = A at hD hG ⊢
  have hA : ∀ q : Nat, s.heap.size ≤ q → A q := fun q h => by rw [← hAe]; exact Or.inr h
  have hS : va_S A s.heap s.heap [] := va_S.rf
  have hl := lv_entry ([eV (ad 4) x, .int i]) (n := 4) (by rw [show (lg_sl ([eV (ad 4) x, .int i])).length = 2 from by simp [lg_sl, eV_cat, cat_i, cat_l]]; exact Nat.le_of_ble_eq_true rfl)
  rw [lg_entry_eq]
  generalize (lg_sl ([eV (ad 4) x, .int i]) ++ List.replicate (4 - (lg_sl ([eV (ad 4) x, .int i])).length) Slot.unset).toArray = ls at hl ⊢
  have hl : lv_has ls 4 [(0, eV (ad 4) x), (1, .int i)] := by simp [lv_args, eV_cat, cat_i, cat_l] at hl; exact hl
  have hj75 : ∀ (x2_75 : Int32) (y0_75 : Int32) (_ : iv 0 79 x2_75) (_ : iv 0 0 x) (_ : iv 0 79 i) (_ : iv 0 1 y0_75) (H : Heap) (locs : List Loc) (ls : Array Slot), va_P (dC, dI) vwCl (cW ad cid a2 lx sg gm lg) H → va_D A (cW ad cid a2 lx sg gm lg) → va_S A s.heap H locs → lv_has ls 4 [(2, eV (ad 9) x2_75), (0, eV (ad 4) x), (1, .int i)] → W p l e (headSpec wm_X10_isRight ({ frames := 3, cells := 1, slots := 6, locals := 68 })).room s m ([eV (ad 4) x, .int i] : List Value).toArray below meth c H locs 0 0 (vx_MQ below (cQx dC dI ad cid a2 lx (fun v u => ∃ r : Int32, v = some (.int r) ∧ u = (sg, gm, lg) ∧ (iv 0 1 r)) A) (cX dC dI ad cid a2 lx (fun _ _ => False) A) ([eV (ad 4) x, .int i] : List Value).toArray s 1 6 A) (F0 m 75 ls [.int y0_75]) := by
    intro x2_75 y0_75 hx2_75 hsx0_75 hsx1_75 hy0_75 H locs ls hP hD hS hl
    exact W.nb (fun hN => W.widen (k := 1) (n := 6) (by decide) (by decide) (vx_ret (W.zret (v := y0_75) hx hb hr (iv_nb hy0_75) (fun t ht hW => ⟨⟨some (.int y0_75), (sg, gm, lg), rfl, ⟨y0_75, rfl, rfl, hy0_75⟩, by rw [ht]; exact hP, va_K.moved hW.alike hK, hD⟩, hS.F ht, by rw [ht]; exact hN⟩) hS.2.2 dX10_isRight_75)))
  have hj70 : ∀ (x2_70 : Int32) (_ : iv 0 79 x2_70) (_ : iv 0 0 x) (_ : iv 0 79 i) (H : Heap) (locs : List Loc) (ls : Array Slot), va_P (dC, dI) vwCl (cW ad cid a2 lx sg gm lg) H → va_D A (cW ad cid a2 lx sg gm lg) → va_S A s.heap H locs → lv_has ls 4 [(2, eV (ad 9) x2_70), (0, eV (ad 4) x), (1, .int i)] → W p l e (headSpec wm_X10_isRight ({ frames := 3, cells := 1, slots := 6, locals := 68 })).room s m ([eV (ad 4) x, .int i] : List Value).toArray below meth c H locs 0 0 (vx_MQ below (cQx dC dI ad cid a2 lx (fun v u => ∃ r : Int32, v = some (.int r) ∧ u = (sg, gm, lg) ∧ (iv 0 1 r)) A) (cX dC dI ad cid a2 lx (fun _ _ => False) A) ([eV (ad 4) x, .int i] : List Value).toArray s 1 6 A) (F0 m 70 ls []) := by
    intro x2_70 hx2_70 hsx0_70 hsx1_70 H locs ls hP hD hS hl
    refine lv_iconst (v := 1) hx hb dX10_isRight_70 (by decide) ?_
    refine lv_goto (tgt := 75) hx hb dX10_isRight_71 (by decide) ?_
    exact hj75 x2_70 1 hx2_70 hsx0_70 hsx1_70 (iv_w (iv_k (by decide) : iv 1 1 1) (by decide)) _ _ _ hP hD hS (lv_sub hl [0, 1, 2] rfl)
  have hj52 : ∀ (x2_52 : Int32) (_ : iv 0 79 x2_52) (_ : iv 0 0 x) (_ : iv 0 79 i) (H : Heap) (locs : List Loc) (ls : Array Slot), va_P (dC, dI) vwCl (cW ad cid a2 lx sg gm lg) H → va_D A (cW ad cid a2 lx sg gm lg) → va_S A s.heap H locs → lv_has ls 4 [(2, eV (ad 9) x2_52), (0, eV (ad 4) x), (1, .int i)] → W p l e (headSpec wm_X10_isRight ({ frames := 3, cells := 1, slots := 6, locals := 68 })).room s m ([eV (ad 4) x, .int i] : List Value).toArray below meth c H locs 0 0 (vx_MQ below (cQx dC dI ad cid a2 lx (fun v u => ∃ r : Int32, v = some (.int r) ∧ u = (sg, gm, lg) ∧ (iv 0 1 r)) A) (cX dC dI ad cid a2 lx (fun _ _ => False) A) ([eV (ad 4) x, .int i] : List Value).toArray s 1 6 A) (F0 m 52 ls []) := by
    intro x2_52 hx2_52 hsx0_52 hsx1_52 H locs ls hP hD hS hl
    refine ec_aload_n hx hb dX10_isRight_52 rfl (lv_at hl 0 rfl) ?_
    refine cr_get (t := 9) (j := 20) (C := RX3) (T := TX3) (N := 21) (v := eV (ad 10) (gm 27 x2_52.toNatClampNeg)) hx hb htb inX3 hown hK hP hx2_52 (by decide) (by decide) (by decide) rfl (by decide) (htb _ kw_638) rfl dX10_isRight_53 ?_
    obtain ⟨z_1, ez_1⟩ : ∃ z : Int32, z = (gm 27 x2_52.toNatClampNeg) := ⟨_, rfl⟩
    refine W.eq (g2 := F0 m 56 ls [eV (ad 10) z_1]) (by rw [ez_1]) ?_
    have hz_1 : iv (-1) 79 z_1 := iv_of ez_1 (CI_a hI 27 hx2_52 (by decide))
    refine ec_ifnull (tgt := 70) hx hb dX10_isRight_56 (by decide) (fun c_2 => ?_) (fun c_2 => ?_)
    · have h_3 : iv (-1) (-1) z_1 := ⟨(hz_1).1, by omega⟩
      exact hj70 x2_52 hx2_52 hsx0_52 hsx1_52 _ _ _ hP hD hS (lv_sub hl [0, 1, 2] rfl)
    · have h_4 : iv 0 79 z_1 := ⟨c_2, (hz_1).2⟩
      refine ec_aload_n hx hb dX10_isRight_59 rfl (lv_at hl 1 rfl) ?_
      refine ec_aload_n hx hb dX10_isRight_60 rfl (lv_at hl 0 rfl) ?_
      refine cr_get (t := 9) (j := 20) (C := RX3) (T := TX3) (N := 21) (v := eV (ad 10) (gm 27 x2_52.toNatClampNeg)) hx hb htb inX3 hown hK hP hx2_52 (by decide) (by decide) (by decide) rfl (by decide) (htb _ kw_638) rfl dX10_isRight_61 ?_
      refine W.eq (g2 := F0 m 64 ls [eV (ad 10) z_1, eV (ad 4) x]) (by rw [show (gm 27 x2_52.toNatClampNeg) = z_1 from ez_1.symm]) ?_
      refine cm_callV (t := 4) (C := RX10) (T := TX10) (N := 4) (rest := []) (as := [eV (ad 10) z_1]) ⟨hx, hb, hml, hown, htb⟩ (d_hasRightParent l dC dI ad cid a2 lx sg gm lg x z_1 hI hsx0_52 h_4) (cwV 1 htb (gd_V kw_712 kw_713 kw_714 kw_32 kw_1494) rfl rfl rfl (by decide +kernel) ⟨Nat.le_of_ble_eq_true rfl, Nat.le_of_ble_eq_true rfl⟩) hsx0_52 (by decide) (by decide) rfl rfl hl.1 rfl (Nat.le_trans cs_n (by decide)) dX10_isRight_64 ⟨Nat.le_of_ble_eq_true rfl, Nat.le_of_ble_eq_true rfl⟩ hK hP hD hS hA hG (fun E ce q9 u_6 H locs hw hP hD hS hce hcv hcl => ?_) (fun v9 u_6 H locs hw hP hD hS => ?_)
      · exact hw.elim
      obtain ⟨r_5, rfl, rfl, hr_5⟩ := hw
      have hP : va_P (dC, dI) vwCl (cW ad cid a2 lx sg gm lg) H := hP
      have hD : va_D A (cW ad cid a2 lx sg gm lg) := hD
      refine W.eq (g2 := F0 m 67 ls [.int r_5]) rfl ?_
      refine lv_if_eq (tgt := 74) hx hb dX10_isRight_67 (by decide) (fun c_8 => ?_) (fun c_8 => ?_)
      · have h_9 : iv 0 0 r_5 := iv_eq c_8 hr_5 (iv_k (by decide) : iv 0 0 0) (by decide)
        refine lv_iconst (v := 0) hx hb dX10_isRight_74 (by decide) ?_
        exact hj75 x2_52 0 hx2_52 hsx0_52 hsx1_52 (iv_w (iv_k (by decide) : iv 0 0 0) (by decide)) _ _ _ hP hD hS (lv_sub hl [0, 1, 2] rfl)
      · have h_10 : iv 1 1 r_5 := iv_neL c_8 hr_5 (by decide)
        exact hj70 x2_52 hx2_52 hsx0_52 hsx1_52 _ _ _ hP hD hS (lv_sub hl [0, 1, 2] rfl)
  have hj20 : ∀ (n : Nat) (x3_20 : Int32) (x2_20 : Int32) (_ : (79 - x3_20.toInt).toNat = n) (_ : iv 0 79 x3_20) (_ : iv 0 79 x2_20) (_ : iv 0 0 x) (_ : iv 0 79 i) (H : Heap) (locs : List Loc) (ls : Array Slot), va_P (dC, dI) vwCl (cW ad cid a2 lx sg gm lg) H → va_D A (cW ad cid a2 lx sg gm lg) → va_S A s.heap H locs → lv_has ls 4 [(3, .int x3_20), (2, eV (ad 9) x2_20), (0, eV (ad 4) x), (1, .int i)] → W p l e (headSpec wm_X10_isRight ({ frames := 3, cells := 1, slots := 6, locals := 68 })).room s m ([eV (ad 4) x, .int i] : List Value).toArray below meth c H locs 0 0 (vx_MQ below (cQx dC dI ad cid a2 lx (fun v u => ∃ r : Int32, v = some (.int r) ∧ u = (sg, gm, lg) ∧ (iv 0 1 r)) A) (cX dC dI ad cid a2 lx (fun _ _ => False) A) ([eV (ad 4) x, .int i] : List Value).toArray s 1 6 A) (F0 m 20 ls []) := by
    intro n
    induction n using Nat.strongRecOn with
    | ind n ih20 =>
      intro x3_20 x2_20 hn20 hx3_20 hx2_20 hsx0_20 hsx1_20 H locs ls hP hD hS hl
      refine lv_iload_n hx hb dX10_isRight_20 rfl (lv_at hl 0 rfl) ?_
      refine lv_iload_n hx hb dX10_isRight_21 rfl (lv_at hl 3 rfl) ?_
      refine lv_icmp_ge (tgt := 52) hx hb dX10_isRight_22 (by decide) (fun c_11 => ?_) (fun c_11 => ?_)
      · have d_12 : (i : Int32).toInt ≤ (x3_20 : Int32).toInt := Int32.le_iff_toInt_le.mp c_11
        exact hj52 x2_20 hx2_20 hsx0_20 hsx1_20 _ _ _ hP hD hS (lv_sub hl [1, 2, 3] rfl)
      · have d_13 : (x3_20 : Int32).toInt < (i : Int32).toInt := Int32.lt_iff_toInt_lt.mp (i32_lt c_11)
        have h_14 : iv 0 78 x3_20 := iv_ltL (i32_lt c_11) hx3_20 hsx1_20 (by decide)
        have h_15 : iv 1 79 i := iv_ltR (i32_lt c_11) hx3_20 hsx1_20 (by decide)
        refine ec_aload_n hx hb dX10_isRight_25 rfl (lv_at hl 2 rfl) ?_
        refine cr_get (t := 4) (j := 0) (C := RX10) (T := TX10) (N := 4) (v := eV (ad 1) 0) hx hb htb inX10 hown hK hP hsx0_20 (by decide) (by decide) (by decide) rfl (by decide) (htb _ kw_86) (cV_c rfl (by decide) (by rw [show cMu 4 0 = 0 from rfl, Nat.zero_mul]; rfl)) dX10_isRight_26 ?_
        refine lv_iload_n hx hb dX10_isRight_29 rfl (lv_at hl 0 rfl) ?_
        refine cm_callV (t := 1) (C := RX6) (T := TX6) (N := 8) (rest := []) (as := [.int x3_20]) ⟨hx, hb, hml, hown, htb⟩ (d_element l dC dI ad cid a2 lx sg gm lg 0 x3_20 hI (iv_k (by decide) : iv 0 0 0) (iv_w h_14 (by decide))) (cwV 1 htb (gd_V kw_626 kw_503 kw_504 kw_20 kw_1458) rfl rfl rfl (by decide +kernel) ⟨Nat.le_of_ble_eq_true rfl, Nat.le_of_ble_eq_true rfl⟩) (iv_k (by decide) : iv 0 0 0) (by decide) (by decide) rfl rfl hl.1 rfl (Nat.le_trans cs_n (by decide)) dX10_isRight_30 ⟨Nat.le_of_ble_eq_true rfl, Nat.le_of_ble_eq_true rfl⟩ hK hP hD hS hA hG (fun E ce q9 u_17 H locs hw hP hD hS hce hcv hcl => ?_) (fun v9 u_17 H locs hw hP hD hS => ?_)
        · exact hw.elim
        obtain ⟨r_16, rfl, rfl, hr_16, fr_r_16⟩ := hw
        have hP : va_P (dC, dI) vwCl (cW ad cid a2 lx sg gm lg) H := hP
        have hD : va_D A (cW ad cid a2 lx sg gm lg) := hD
        refine W.eq (g2 := F0 m 33 ls [eV (ad 9) r_16]) rfl ?_
        refine cr_get (t := 9) (j := 11) (C := RX3) (T := TX3) (N := 21) (v := .long (lg 1 r_16.toNatClampNeg)) hx hb htb inX3 hown hK hP hr_16 (by decide) (by decide) (by decide) rfl (by decide) (htb _ kw_634) rfl dX10_isRight_33 ?_
        refine lv_topl (fun z_19 ez_19 => ?_)
        refine ec_aload_n hx hb dX10_isRight_36 rfl (lv_at hl 1 rfl) ?_
        refine cr_get (t := 9) (j := 11) (C := RX3) (T := TX3) (N := 21) (v := .long (lg 1 x2_20.toNatClampNeg)) hx hb htb inX3 hown hK hP hx2_20 (by decide) (by decide) (by decide) rfl (by decide) (htb _ kw_634) rfl dX10_isRight_37 ?_
        refine lv_topl (fun z_20 ez_20 => ?_)
        refine W.lcmp hx hb dX10_isRight_40 ?_
        refine lv_topi (fun z_21 ez_21 => ?_)
        have hz_21 : iv (-1) 1 z_21 := iv_of ez_21 (iv_cmp _ _)
        refine lv_if_ne (tgt := 46) hx hb dX10_isRight_41 (by decide) (fun c_22 => ?_) (fun c_22 => ?_)
        · have d_23 : ¬ (z_21 : Int32).toInt = 0 := lv_neT c_22 rfl
          obtain ⟨z_24, ez_24⟩ : ∃ z : Int32, z = x3_20 + 1 := ⟨_, rfl⟩
          have hz_24 : iv 1 79 z_24 := iv_of ez_24 (iv_add h_14 (iv_k (by decide) : iv 1 1 1) (by decide))
          have tz_24 : z_24.toInt = x3_20.toInt + 1 := by rw [ez_24]; exact iv_addE h_14 (iv_k (by decide) : iv 1 1 1) (by decide)
          refine lv_iinc (v := z_24) (lv' := [(3, .int z_24), (2, eV (ad 9) x2_20), (0, eV (ad 4) x), (1, .int i)]) hx hb dX10_isRight_46 hl (k := 0) rfl ez_24.symm (by decide) (by simp [List.filter, eV_cat, cat_i, cat_l]) (fun ls hl => ?_)
          refine lv_goto (tgt := 20) hx hb dX10_isRight_49 (by decide) ?_
          exact ih20 _ (by rw [← hn20]; exact (iv_meas tz_24 h_14 (by decide))) z_24 x2_20 rfl (iv_w hz_24 (by decide)) hx2_20 hsx0_20 (iv_w h_15 (by decide)) _ _ _ hP hD hS (lv_sub hl [0, 1, 2, 3] rfl)
        · have h_25 : iv 0 0 z_21 := iv_eq c_22 hz_21 (iv_k (by decide) : iv 0 0 0) (by decide)
          refine lv_iconst (v := 0) hx hb dX10_isRight_44 (by decide) ?_
          exact W.nb (fun hN => W.widen (k := 1) (n := 6) (by decide) (by decide) (vx_ret (W.zret (v := 0) hx hb hr (iv_nb (iv_w (iv_k (by decide) : iv 0 0 0) (by decide))) (fun t ht hW => ⟨⟨some (.int 0), (sg, gm, lg), rfl, ⟨0, rfl, rfl, (iv_w (iv_k (by decide) : iv 0 0 0) (by decide))⟩, by rw [ht]; exact hP, va_K.moved hW.alike hK, hD⟩, hS.F ht, by rw [ht]; exact hN⟩) hS.2.2 dX10_isRight_45)))
  refine ec_aload_n hx hb dX10_isRight_0 rfl (lv_at hl 0 rfl) ?_
  refine cr_get (t := 4) (j := 0) (C := RX10) (T := TX10) (N := 4) (v := eV (ad 1) 0) hx hb htb inX10 hown hK hP hvx (by decide) (by decide) (by decide) rfl (by decide) (htb _ kw_86) (cV_c rfl (by decide) (by rw [show cMu 4 0 = 0 from rfl, Nat.zero_mul]; rfl)) dX10_isRight_1 ?_
  refine lv_iload_n hx hb dX10_isRight_4 rfl (lv_at hl 1 rfl) ?_
  refine cm_callV (t := 1) (C := RX6) (T := TX6) (N := 8) (rest := []) (as := [.int i]) ⟨hx, hb, hml, hown, htb⟩ (d_element l dC dI ad cid a2 lx sg gm lg 0 i hI (iv_k (by decide) : iv 0 0 0) hvi) (cwV 1 htb (gd_V kw_626 kw_503 kw_504 kw_20 kw_1458) rfl rfl rfl (by decide +kernel) ⟨Nat.le_of_ble_eq_true rfl, Nat.le_of_ble_eq_true rfl⟩) (iv_k (by decide) : iv 0 0 0) (by decide) (by decide) rfl rfl hl.1 rfl (Nat.le_trans cs_n (by decide)) dX10_isRight_5 ⟨Nat.le_of_ble_eq_true rfl, Nat.le_of_ble_eq_true rfl⟩ hK hP hD hS hA hG (fun E ce q9 u_27 H locs hw hP hD hS hce hcv hcl => ?_) (fun v9 u_27 H locs hw hP hD hS => ?_)
  · exact hw.elim
  obtain ⟨r_26, rfl, rfl, hr_26, fr_r_26⟩ := hw
  have hP : va_P (dC, dI) vwCl (cW ad cid a2 lx sg gm lg) H := hP
  have hD : va_D A (cW ad cid a2 lx sg gm lg) := hD
  refine W.eq (g2 := F0 m 8 ls [eV (ad 9) r_26]) rfl ?_
  refine ec_astore_n (i := 2) (lv' := [(2, eV (ad 9) r_26), (0, eV (ad 4) x), (1, .int i)]) hx hb dX10_isRight_8 rfl hl (by decide) rfl (fun ls hl => ?_)
  refine ec_aload_n hx hb dX10_isRight_9 rfl (lv_at hl 0 rfl) ?_
  refine cr_get (t := 9) (j := 11) (C := RX3) (T := TX3) (N := 21) (v := .long (lg 1 r_26.toNatClampNeg)) hx hb htb inX3 hown hK hP hr_26 (by decide) (by decide) (by decide) rfl (by decide) (htb _ kw_634) rfl dX10_isRight_10 ?_
  refine lv_topl (fun z_29 ez_29 => ?_)
  refine lv_lconst (v := 0) hx hb dX10_isRight_13 (by decide) ?_
  refine W.lcmp hx hb dX10_isRight_14 ?_
  refine lv_topi (fun z_30 ez_30 => ?_)
  have hz_30 : iv (-1) 1 z_30 := iv_of ez_30 (iv_cmp _ _)
  refine lv_if_eq (tgt := 52) hx hb dX10_isRight_15 (by decide) (fun c_31 => ?_) (fun c_31 => ?_)
  · have h_32 : iv 0 0 z_30 := iv_eq c_31 hz_30 (iv_k (by decide) : iv 0 0 0) (by decide)
    exact hj52 r_26 hr_26 hvx hvi _ _ _ hP hD hS (lv_sub hl [0, 1, 2] rfl)
  · have d_33 : ¬ (z_30 : Int32).toInt = 0 := lv_neT c_31 rfl
    refine lv_iconst (v := 0) hx hb dX10_isRight_18 (by decide) ?_
    refine lv_istore_n (i := 3) (lv' := [(3, .int 0), (2, eV (ad 9) r_26), (0, eV (ad 4) x), (1, .int i)]) hx hb dX10_isRight_19 rfl hl (by decide) (by simp [List.filter, eV_cat, cat_i, cat_l]) (fun ls hl => ?_)
    exact hj20 _ 0 r_26 rfl (iv_w (iv_k (by decide) : iv 0 0 0) (by decide)) hr_26 hvx hvi _ _ _ hP hD hS (lv_sub hl [0, 1, 2, 3] rfl)

set_option maxHeartbeats 4000000 in
set_option maxRecDepth 100000 in
theorem d_settleContent (l : Launch) (dC : Nat → ClassId) (dI : Nat → Nat → Nat) (ad : Nat → Nat → Nat) (cid : Nat → ClassId) (a2 : Nat → Nat) (lx : List Nat) (sg : Nat → Int32) (gm : Nat → Nat → Int32) (lg : Nat → Nat → Int64) (x : Int32) (o : Int32) (hI : CI sg gm) (hvx : iv 0 0 x) (hvo : iv 0 79 o) (hFA : FA sg gm) (how : o.toInt < (sg 4).toInt) (hVS : VS sg gm) : CMt dC dI ad cid a2 lx l yX10_settleContent wm_X10_settleContent ({ frames := 6, cells := 1, slots := 6, locals := 132 }) [eV (ad 4) x, eV (ad 9) o] sg gm lg (fun v u => v = none ∧ ∃ (sg2 : Nat → Int32) (gm2 : Nat → Nat → Int32) (lg2 : Nat → Nat → Int64), u = (sg2, gm2, lg2) ∧ CI sg2 gm2 ∧ KS [] sg sg2 ∧ KS [11, 21, 25, 26, 56] gm gm2 ∧ KS [2, 3] lg lg2 ∧ (∃ c9 : Int32, gm2 26 = upd (gm 26) o.toNatClampNeg c9 ∧ ((0 ≤ (gm 16 o.toNatClampNeg).toInt ∧ c9 = gm 16 o.toNatClampNeg) ∨ ((gm 16 o.toNatClampNeg).toInt < 0 ∧ c9 = o))) ∧ ((0 ≤ (gm 16 o.toNatClampNeg).toInt ∧ gm2 25 = gm 25) ∨ ((gm 16 o.toNatClampNeg).toInt < 0 ∧ (gm2 25 = upd (gm 25) o.toNatClampNeg 7 ∨ gm2 25 = upd (gm 25) o.toNatClampNeg 8)))) (fun _ _ => False) := by
  intro sz
  refine vx_ofW (cc := cX10_settleContent) (maxL := 2) (ret := none) (by decide) rfl ?_
  intro p e s m args below meth c s₁ B hml hxt hv
  obtain ⟨rfl, hsz, hP, hK, hD0, hG⟩ := hv
  have hx := B.exec
  have hb := B.bytes
  have hr := B.returns
  have hts := atoms_spec (ws := wm_X10_settleContent) B.pre
  have htb := fun (w : Cond) (h : w ∈ tb) => hts w (List.mem_cons_of_mem _ h)
  have hown : s.vm.findClass RX10 = some m.cls := findClass_of_methodNamed B.named
  have hlocks := B.notSynchronized
  subst hsz
  have hD := hD0.self (sz := s.heap.size)
  generalize hAe : va_A (cW ad cid a2 lx sg gm lg) s.heap.size = A at hD hG ⊢
  have hA : ∀ q : Nat, s.heap.size ≤ q → A q := fun q h => by rw [← hAe]; exact Or.inr h
  have hS : va_S A s.heap s.heap [] := va_S.rf
  have hl := lv_entry ([eV (ad 4) x, eV (ad 9) o]) (n := 2) (by rw [show (lg_sl ([eV (ad 4) x, eV (ad 9) o])).length = 2 from by simp [lg_sl, eV_cat, cat_i, cat_l]]; exact Nat.le_of_ble_eq_true rfl)
  rw [lg_entry_eq]
  generalize (lg_sl ([eV (ad 4) x, eV (ad 9) o]) ++ List.replicate (2 - (lg_sl ([eV (ad 4) x, eV (ad 9) o])).length) Slot.unset).toArray = ls at hl ⊢
  have hl : lv_has ls 2 [(0, eV (ad 4) x), (1, eV (ad 9) o)] := by simp [lv_args, eV_cat, cat_i, cat_l] at hl; exact hl
  have hj82 : ∀ (gm_j82 : Nat → Nat → Int32) (lg_j82 : Nat → Nat → Int64) (_ : iv 0 0 x) (_ : iv 0 79 o) (_ : KS [11, 21, 25, 26, 56] gm gm_j82) (_ : KS [2, 3] lg lg_j82) (_ : CI sg gm_j82) (_ : ∃ c9 : Int32, gm_j82 26 = upd (gm 26) o.toNatClampNeg c9 ∧ ((0 ≤ (gm 16 o.toNatClampNeg).toInt ∧ c9 = gm 16 o.toNatClampNeg) ∨ ((gm 16 o.toNatClampNeg).toInt < 0 ∧ c9 = o))) (_ : (0 ≤ (gm 16 o.toNatClampNeg).toInt ∧ gm_j82 25 = gm 25) ∨ ((gm 16 o.toNatClampNeg).toInt < 0 ∧ (gm_j82 25 = upd (gm 25) o.toNatClampNeg 7 ∨ gm_j82 25 = upd (gm 25) o.toNatClampNeg 8))) (H : Heap) (locs : List Loc) (ls : Array Slot), va_P (dC, dI) vwCl (cW ad cid a2 lx sg gm_j82 lg_j82) H → va_D A (cW ad cid a2 lx sg gm_j82 lg_j82) → va_S A s.heap H locs → lv_has ls 2 [(0, eV (ad 4) x), (1, eV (ad 9) o)] → W p l e (headSpec wm_X10_settleContent ({ frames := 6, cells := 1, slots := 6, locals := 132 })).room s m ([eV (ad 4) x, eV (ad 9) o] : List Value).toArray below meth c H locs 0 0 (vx_MQ below (cQx dC dI ad cid a2 lx (fun v u => v = none ∧ ∃ (sg2 : Nat → Int32) (gm2 : Nat → Nat → Int32) (lg2 : Nat → Nat → Int64), u = (sg2, gm2, lg2) ∧ CI sg2 gm2 ∧ KS [] sg sg2 ∧ KS [11, 21, 25, 26, 56] gm gm2 ∧ KS [2, 3] lg lg2 ∧ (∃ c9 : Int32, gm2 26 = upd (gm 26) o.toNatClampNeg c9 ∧ ((0 ≤ (gm 16 o.toNatClampNeg).toInt ∧ c9 = gm 16 o.toNatClampNeg) ∨ ((gm 16 o.toNatClampNeg).toInt < 0 ∧ c9 = o))) ∧ ((0 ≤ (gm 16 o.toNatClampNeg).toInt ∧ gm2 25 = gm 25) ∨ ((gm 16 o.toNatClampNeg).toInt < 0 ∧ (gm2 25 = upd (gm 25) o.toNatClampNeg 7 ∨ gm2 25 = upd (gm 25) o.toNatClampNeg 8)))) A) (cX dC dI ad cid a2 lx (fun _ _ => False) A) ([eV (ad 4) x, eV (ad 9) o] : List Value).toArray s 1 6 A) (F0 m 82 ls []) := by
    intro gm_j82 lg_j82 hsx0_82 hsx1_82 hkg_j82 hkl_j82 hI_j82 hC82 hK82 H locs ls hP hD hS hl
    exact W.nb (fun hN => W.widen (k := 1) (n := 6) (by decide) (by decide) (vx_ret (W.vret hx hb hr (fun t ht hW => ⟨⟨none, (sg, gm_j82, lg_j82), rfl, ⟨rfl, sg, gm_j82, lg_j82, rfl, hI_j82, KS_rf, (KS_tr (L := [11, 21, 25, 26, 56]) KS_rf hkg_j82 (by decide)), (KS_tr (L := [2, 3]) KS_rf hkl_j82 (by decide)), (hC82), (hK82)⟩, by rw [ht]; exact hP, va_K.moved hW.alike hK, hD⟩, hS.F ht, by rw [ht]; exact hN⟩) hS.2.2 dX10_settleContent_82)))
  refine ec_aload_n hx hb dX10_settleContent_0 rfl (lv_at hl 1 rfl) ?_
  refine cr_get (t := 9) (j := 6) (C := RX3) (T := TX3) (N := 21) (v := eV (ad 9) (gm 16 o.toNatClampNeg)) hx hb htb inX3 hown hK hP hvo (by decide) (by decide) (by decide) rfl (by decide) (htb _ kw_686) rfl dX10_settleContent_1 ?_
  obtain ⟨z_1, ez_1⟩ : ∃ z : Int32, z = (gm 16 o.toNatClampNeg) := ⟨_, rfl⟩
  refine W.eq (g2 := F0 m 4 ls [eV (ad 9) z_1]) (by rw [ez_1]) ?_
  have hz_1 : iv (-1) 79 z_1 := iv_of ez_1 (CI_a hI 16 hvo (by decide))
  refine ec_ifnull (tgt := 16) hx hb dX10_settleContent_4 (by decide) (fun c_2 => ?_) (fun c_2 => ?_)
  · have h_3 : iv (-1) (-1) z_1 := ⟨(hz_1).1, by omega⟩
    refine ec_aload_n hx hb dX10_settleContent_16 rfl (lv_at hl 1 rfl) ?_
    refine ec_aload_n hx hb dX10_settleContent_17 rfl (lv_at hl 1 rfl) ?_
    refine cr_putg (t := 9) (j := 19) (C := RX3) (T := TX3) (N := 21) (ty0 := tyX3) (k := 26) (y := o) hx hb htb inX3 tyX3_ok nmX3 hown hK hP hD hS hvo (by decide) (by decide) (by decide) (by decide) rfl rfl (by decide) (htb _ kw_687) rfl (by show eV (ad 9) o = eV (ad 9) (va_up gm 26 (upd (gm 26) o.toNatClampNeg o) 26 o.toNatClampNeg); rw [va_up_self, upd_at]) (ev_n _) (ev_f _) dX10_settleContent_18 (fun gm_4 H locs egm_4 hP hD hS => ?_)
    have hI_gm_4 := CI_st hI egm_4 hvo (by decide)
    refine ec_aload_n hx hb dX10_settleContent_21 rfl (lv_at hl 0 rfl) ?_
    refine cr_get (t := 4) (j := 0) (C := RX10) (T := TX10) (N := 4) (v := eV (ad 1) 0) hx hb htb inX10 hown hK hP hvx (by decide) (by decide) (by decide) rfl (by decide) (htb _ kw_86) (cV_c rfl (by decide) (by rw [show cMu 4 0 = 0 from rfl, Nat.zero_mul]; rfl)) dX10_settleContent_22 ?_
    refine ec_aload_n hx hb dX10_settleContent_25 rfl (lv_at hl 1 rfl) ?_
    refine cw_word (k := 7) (kx := 7) hx hb hG hS (by decide) rfl ⟨by decide, by decide⟩ hown (htb _ kw_688) dX10_settleContent_26 ?_
    refine cm_callV (t := 1) (C := RX6) (T := TX6) (N := 8) (rest := []) (as := [eV (ad 9) o, eV (ad 33) 7]) ⟨hx, hb, hml, hown, htb⟩ (d_has l dC dI ad cid a2 lx sg gm_4 lg 0 o 7 hI_gm_4 (iv_k (by decide) : iv 0 0 0) hvo (iv_w (iv_k (by decide) : iv 7 7 7) (by decide)) (FA_e hFA rfl rfl (up_ne egm_4 (by decide)) (up_ne egm_4 (by decide))) how) (cwV 2 htb (gd_V kw_690 kw_605 kw_606 kw_20 kw_1481) rfl rfl rfl (by decide +kernel) ⟨Nat.le_of_ble_eq_true rfl, Nat.le_of_ble_eq_true rfl⟩) (iv_k (by decide) : iv 0 0 0) (by decide) (by decide) rfl rfl hl.1 rfl (Nat.le_trans cs_n (by decide)) dX10_settleContent_29 ⟨Nat.le_of_ble_eq_true rfl, Nat.le_of_ble_eq_true rfl⟩ hK hP hD hS hA hG (fun E ce q9 u_6 H locs hw hP hD hS hce hcv hcl => ?_) (fun v9 u_6 H locs hw hP hD hS => ?_)
    · exact hw.elim
    obtain ⟨r_5, rfl, rfl, hr_5, fH_r_5⟩ := hw
    have hP : va_P (dC, dI) vwCl (cW ad cid a2 lx sg gm_4 lg) H := hP
    have hD : va_D A (cW ad cid a2 lx sg gm_4 lg) := hD
    refine W.eq (g2 := F0 m 32 ls [.int r_5]) rfl ?_
    refine lv_if_eq (tgt := 60) hx hb dX10_settleContent_32 (by decide) (fun c_8 => ?_) (fun c_8 => ?_)
    · have h_9 : iv 0 0 r_5 := iv_eq c_8 hr_5 (iv_k (by decide) : iv 0 0 0) (by decide)
      refine ec_aload_n hx hb dX10_settleContent_60 rfl (lv_at hl 1 rfl) ?_
      refine cw_word (k := 8) (kx := 8) hx hb hG hS (by decide) rfl ⟨by decide, by decide⟩ hown (htb _ kw_689) dX10_settleContent_61 ?_
      refine cr_putg (t := 9) (j := 18) (C := RX3) (T := TX3) (N := 21) (ty0 := tyX3) (k := 25) (y := 8) hx hb htb inX3 tyX3_ok nmX3 hown hK hP hD hS hvo (by decide) (by decide) (by decide) (by decide) rfl rfl (by decide) (htb _ kw_631) rfl (by show eV (ad 33) 8 = eV (ad 33) (va_up gm_4 25 (upd (gm_4 25) o.toNatClampNeg 8) 25 o.toNatClampNeg); rw [va_up_self, upd_at]) (ev_n _) (ev_f _) dX10_settleContent_64 (fun gm_10 H locs egm_10 hP hD hS => ?_)
      have hI_gm_10 := CI_st hI_gm_4 egm_10 (iv_k (by decide) : iv 8 8 8) (by decide)
      refine ec_aload_n hx hb dX10_settleContent_67 rfl (lv_at hl 1 rfl) ?_
      refine ec_aload_n hx hb dX10_settleContent_68 rfl (lv_at hl 0 rfl) ?_
      refine cr_get (t := 4) (j := 0) (C := RX10) (T := TX10) (N := 4) (v := eV (ad 1) 0) hx hb htb inX10 hown hK hP hvx (by decide) (by decide) (by decide) rfl (by decide) (htb _ kw_86) (cV_c rfl (by decide) (by rw [show cMu 4 0 = 0 from rfl, Nat.zero_mul]; rfl)) dX10_settleContent_69 ?_
      refine ec_aload_n hx hb dX10_settleContent_72 rfl (lv_at hl 1 rfl) ?_
      refine cw_word (k := 8) (kx := 8) hx hb hG hS (by decide) rfl ⟨by decide, by decide⟩ hown (htb _ kw_689) dX10_settleContent_73 ?_
      refine cm_callV (t := 1) (C := RX6) (T := TX6) (N := 8) (rest := [eV (ad 9) o]) (as := [eV (ad 9) o, eV (ad 33) 8]) ⟨hx, hb, hml, hown, htb⟩ (d_nameValue l dC dI ad cid a2 lx sg gm_10 lg 0 o 8 hI_gm_10 (iv_k (by decide) : iv 0 0 0) hvo (iv_w (iv_k (by decide) : iv 8 8 8) (by decide)) (FA_e hFA rfl rfl (Eq.trans (up_ne egm_10 (by decide)) (up_ne egm_4 (by decide))) (Eq.trans (up_ne egm_10 (by decide)) (up_ne egm_4 (by decide)))) how (VS_e hVS rfl rfl (Eq.trans (up_ne egm_10 (by decide)) (up_ne egm_4 (by decide))) (Eq.trans (up_ne egm_10 (by decide)) (up_ne egm_4 (by decide))))) (cwV 2 htb (gd_V kw_646 kw_583 kw_584 kw_20 kw_1475) rfl rfl rfl (by decide +kernel) ⟨Nat.le_of_ble_eq_true rfl, Nat.le_of_ble_eq_true rfl⟩) (iv_k (by decide) : iv 0 0 0) (by decide) (by decide) rfl rfl hl.1 rfl (Nat.le_trans (cs_c (eV_cat _ _) cs_n) (by decide)) dX10_settleContent_76 ⟨Nat.le_of_ble_eq_true rfl, Nat.le_of_ble_eq_true rfl⟩ hK hP hD hS hA hG (fun E ce q9 u_12 H locs hw hP hD hS hce hcv hcl => ?_) (fun v9 u_12 H locs hw hP hD hS => ?_)
      · exact hw.elim
      obtain ⟨r_11, rfl, rfl⟩ := hw
      have hP : va_P (dC, dI) vwCl (cW ad cid a2 lx sg gm_10 lg) H := hP
      have hD : va_D A (cW ad cid a2 lx sg gm_10 lg) := hD
      refine W.eq (g2 := F0 m 79 ls [.long r_11, eV (ad 9) o]) rfl ?_
      refine cr_putl (t := 9) (j := 12) (C := RX3) (T := TX3) (N := 21) (ty0 := tyX3) (k := 2) (y := r_11) hx hb htb inX3 tyX3_ok nmX3 hown hK hP hD hS hvo (by decide) (by decide) (by decide) rfl rfl rfl (by decide) (htb _ kw_636) rfl (by show Value.long r_11 = Value.long (va_up lg 2 (vp_updL (lg 2) o.toNatClampNeg r_11) 2 o.toNatClampNeg); rw [va_up_self, pk_uLs]) rfl rfl dX10_settleContent_79 (fun lg_14 H locs elg_14 hP hD hS => ?_)
      exact hj82 gm_10 lg_14 hvx hvo (KS_up (KS_up KS_rf egm_4 (by decide)) egm_10 (by decide)) (KS_up KS_rf elg_14 (by decide)) hI_gm_10 (⟨o, (show gm_10 26 = upd (gm 26) (o : Int32).toNatClampNeg o from ((up_ne egm_10 (by decide)).trans ((up_at egm_4).trans (by rw [show gm 26 = gm 26 from rfl])))), Or.inr ⟨(by rw [← ez_1]; have := i32_0; have := i32_1; have := i32_2; have := i32_m1; have := (hvx).1; have := (hvx).2; have := (hvo).1; have := (hvo).2; have := (h_3).1; have := (h_3).2; have := (h_9).1; have := (h_9).2; omega), rfl⟩⟩) (Or.inr ⟨(by rw [← ez_1]; have := i32_0; have := i32_1; have := i32_2; have := i32_m1; have := (hvx).1; have := (hvx).2; have := (hvo).1; have := (hvo).2; have := (h_3).1; have := (h_3).2; have := (h_9).1; have := (h_9).2; omega), Or.inr (show gm_10 25 = upd (gm 25) (o : Int32).toNatClampNeg 8 from ((up_at egm_10).trans (by rw [show gm_4 25 = gm 25 from ((up_ne egm_4 (by decide)).trans rfl)])))⟩) _ _ _ hP hD hS (lv_sub hl [0, 1] rfl)
    · have h_15 : iv 1 1 r_5 := iv_neL c_8 hr_5 (by decide)
      refine ec_aload_n hx hb dX10_settleContent_35 rfl (lv_at hl 1 rfl) ?_
      refine cw_word (k := 7) (kx := 7) hx hb hG hS (by decide) rfl ⟨by decide, by decide⟩ hown (htb _ kw_688) dX10_settleContent_36 ?_
      refine cr_putg (t := 9) (j := 18) (C := RX3) (T := TX3) (N := 21) (ty0 := tyX3) (k := 25) (y := 7) hx hb htb inX3 tyX3_ok nmX3 hown hK hP hD hS hvo (by decide) (by decide) (by decide) (by decide) rfl rfl (by decide) (htb _ kw_631) rfl (by show eV (ad 33) 7 = eV (ad 33) (va_up gm_4 25 (upd (gm_4 25) o.toNatClampNeg 7) 25 o.toNatClampNeg); rw [va_up_self, upd_at]) (ev_n _) (ev_f _) dX10_settleContent_39 (fun gm_16 H locs egm_16 hP hD hS => ?_)
      have hI_gm_16 := CI_st hI_gm_4 egm_16 (iv_k (by decide) : iv 7 7 7) (by decide)
      refine ec_aload_n hx hb dX10_settleContent_42 rfl (lv_at hl 0 rfl) ?_
      refine cr_get (t := 4) (j := 0) (C := RX10) (T := TX10) (N := 4) (v := eV (ad 1) 0) hx hb htb inX10 hown hK hP hvx (by decide) (by decide) (by decide) rfl (by decide) (htb _ kw_86) (cV_c rfl (by decide) (by rw [show cMu 4 0 = 0 from rfl, Nat.zero_mul]; rfl)) dX10_settleContent_43 ?_
      refine ec_aload_n hx hb dX10_settleContent_46 rfl (lv_at hl 1 rfl) ?_
      refine cw_word (k := 7) (kx := 7) hx hb hG hS (by decide) rfl ⟨by decide, by decide⟩ hown (htb _ kw_688) dX10_settleContent_47 ?_
      refine cm_callV (t := 1) (C := RX6) (T := TX6) (N := 8) (rest := []) (as := [eV (ad 9) o, eV (ad 33) 7]) ⟨hx, hb, hml, hown, htb⟩ (d_valueToText l dC dI ad cid a2 lx sg gm_16 lg 0 o 7 hI_gm_16 (iv_k (by decide) : iv 0 0 0) hvo (iv_w (iv_k (by decide) : iv 7 7 7) (by decide)) (FA_e hFA rfl rfl (Eq.trans (up_ne egm_16 (by decide)) (up_ne egm_4 (by decide))) (Eq.trans (up_ne egm_16 (by decide)) (up_ne egm_4 (by decide)))) how (VS_e hVS rfl rfl (Eq.trans (up_ne egm_16 (by decide)) (up_ne egm_4 (by decide))) (Eq.trans (up_ne egm_16 (by decide)) (up_ne egm_4 (by decide))))) (cwV 2 htb (gd_V kw_691 kw_692 kw_693 kw_20 kw_1489) rfl rfl rfl (by decide +kernel) ⟨Nat.le_of_ble_eq_true rfl, Nat.le_of_ble_eq_true rfl⟩) (iv_k (by decide) : iv 0 0 0) (by decide) (by decide) rfl rfl hl.1 rfl (Nat.le_trans cs_n (by decide)) dX10_settleContent_50 ⟨Nat.le_of_ble_eq_true rfl, Nat.le_of_ble_eq_true rfl⟩ hK hP hD hS hA hG (fun E ce q9 u_18 H locs hw hP hD hS hce hcv hcl => ?_) (fun v9 u_18 H locs hw hP hD hS => ?_)
      · exact hw.elim
      obtain ⟨rfl, sgv_19, gmv_19, lgv_19, rfl, hIv_19, ksv_19, kgv_19, klv_19⟩ := hw
      obtain rfl := KS_nil ksv_19
      obtain rfl := KS_nil klv_19
      have hP : va_P (dC, dI) vwCl (cW ad cid a2 lx sg gmv_19 lg) H := hP
      have hD : va_D A (cW ad cid a2 lx sg gmv_19 lg) := hD
      refine W.eq (g2 := F0 m 53 ls []) rfl ?_
      refine ec_aload_n hx hb dX10_settleContent_53 rfl (lv_at hl 1 rfl) ?_
      refine cm_callV (t := 9) (C := RX3) (T := TX3) (N := 21) (rest := []) (as := []) ⟨hx, hb, hml, hown, htb⟩ (d_weighText l dC dI ad cid a2 lx sg gmv_19 lg o hIv_19 hvo) (cwV 0 htb (gd_V kw_696 kw_697 kw_698 kw_66 kw_1490) rfl rfl rfl (by decide +kernel) ⟨Nat.le_of_ble_eq_true rfl, Nat.le_of_ble_eq_true rfl⟩) hvo (by decide) (by decide) rfl rfl hl.1 rfl (Nat.le_trans cs_n (by decide)) dX10_settleContent_54 ⟨Nat.le_of_ble_eq_true rfl, Nat.le_of_ble_eq_true rfl⟩ hK hP hD hS hA hG (fun E ce q9 u_21 H locs hw hP hD hS hce hcv hcl => ?_) (fun v9 u_21 H locs hw hP hD hS => ?_)
      · exact hw.elim
      obtain ⟨rfl, sgv_22, gmv_22, lgv_22, rfl, hIv_22, ksv_22, kgv_22, klv_22⟩ := hw
      obtain rfl := KS_nil ksv_22
      have hP : va_P (dC, dI) vwCl (cW ad cid a2 lx sg gmv_22 lgv_22) H := hP
      have hD : va_D A (cW ad cid a2 lx sg gmv_22 lgv_22) := hD
      refine W.eq (g2 := F0 m 57 ls []) rfl ?_
      refine lv_goto (tgt := 82) hx hb dX10_settleContent_57 (by decide) ?_
      exact hj82 gmv_22 lgv_22 hvx hvo (KS_tr (L := [11, 21, 25, 26, 56]) (KS_tr (L := [11, 21, 25, 26, 56]) (KS_up (KS_up KS_rf egm_4 (by decide)) egm_16 (by decide)) kgv_19 (by decide)) kgv_22 (by decide)) (KS_tr (L := [2, 3]) KS_rf klv_22 (by decide)) hIv_22 (⟨o, (show gmv_22 26 = upd (gm 26) (o : Int32).toNatClampNeg o from ((kgv_22 26 (by decide)).trans ((kgv_19 26 (by decide)).trans ((up_ne egm_16 (by decide)).trans ((up_at egm_4).trans (by rw [show gm 26 = gm 26 from rfl])))))), Or.inr ⟨(by rw [← ez_1]; have := i32_0; have := i32_1; have := i32_2; have := i32_m1; have := (hvx).1; have := (hvx).2; have := (hvo).1; have := (hvo).2; have := (h_3).1; have := (h_3).2; have := (h_15).1; have := (h_15).2; omega), rfl⟩⟩) (Or.inr ⟨(by rw [← ez_1]; have := i32_0; have := i32_1; have := i32_2; have := i32_m1; have := (hvx).1; have := (hvx).2; have := (hvo).1; have := (hvo).2; have := (h_3).1; have := (h_3).2; have := (h_15).1; have := (h_15).2; omega), Or.inl (show gmv_22 25 = upd (gm 25) (o : Int32).toNatClampNeg 7 from ((kgv_22 25 (by decide)).trans ((kgv_19 25 (by decide)).trans ((up_at egm_16).trans (by rw [show gm_4 25 = gm 25 from ((up_ne egm_4 (by decide)).trans rfl)])))))⟩) _ _ _ hP hD hS (lv_sub hl [0, 1] rfl)
  · have h_23 : iv 0 79 z_1 := ⟨c_2, (hz_1).2⟩
    refine ec_aload_n hx hb dX10_settleContent_7 rfl (lv_at hl 1 rfl) ?_
    refine ec_aload_n hx hb dX10_settleContent_8 rfl (lv_at hl 1 rfl) ?_
    refine cr_get (t := 9) (j := 6) (C := RX3) (T := TX3) (N := 21) (v := eV (ad 9) (gm 16 o.toNatClampNeg)) hx hb htb inX3 hown hK hP hvo (by decide) (by decide) (by decide) rfl (by decide) (htb _ kw_686) rfl dX10_settleContent_9 ?_
    refine W.eq (g2 := F0 m 12 ls [eV (ad 9) z_1, eV (ad 9) o]) (by rw [show (gm 16 o.toNatClampNeg) = z_1 from ez_1.symm]) ?_
    refine cr_putg (t := 9) (j := 19) (C := RX3) (T := TX3) (N := 21) (ty0 := tyX3) (k := 26) (y := z_1) hx hb htb inX3 tyX3_ok nmX3 hown hK hP hD hS hvo (by decide) (by decide) (by decide) (by decide) rfl rfl (by decide) (htb _ kw_687) rfl (by show eV (ad 9) z_1 = eV (ad 9) (va_up gm 26 (upd (gm 26) o.toNatClampNeg z_1) 26 o.toNatClampNeg); rw [va_up_self, upd_at]) (ev_n _) (ev_f _) dX10_settleContent_12 (fun gm_24 H locs egm_24 hP hD hS => ?_)
    have hI_gm_24 := CI_st hI egm_24 h_23 (by decide)
    exact W.nb (fun hN => W.widen (k := 1) (n := 6) (by decide) (by decide) (vx_ret (W.vret hx hb hr (fun t ht hW => ⟨⟨none, (sg, gm_24, lg), rfl, ⟨rfl, sg, gm_24, lg, rfl, hI_gm_24, KS_rf, (KS_up KS_rf egm_24 (by decide)), KS_rf, (⟨z_1, (show gm_24 26 = upd (gm 26) (o : Int32).toNatClampNeg z_1 from ((up_at egm_24).trans (by rw [show gm 26 = gm 26 from rfl]))), Or.inl ⟨(by rw [← ez_1]; have := i32_0; have := i32_1; have := i32_2; have := i32_m1; have := (hvx).1; have := (hvx).2; have := (hvo).1; have := (hvo).2; have := (h_23).1; have := (h_23).2; omega), ez_1⟩⟩), (Or.inl ⟨(by rw [← ez_1]; have := i32_0; have := i32_1; have := i32_2; have := i32_m1; have := (hvx).1; have := (hvx).2; have := (hvo).1; have := (hvo).2; have := (h_23).1; have := (h_23).2; omega), (up_ne egm_24 (by decide))⟩)⟩, by rw [ht]; exact hP, va_K.moved hW.alike hK, hD⟩, hS.F ht, by rw [ht]; exact hN⟩) hS.2.2 dX10_settleContent_15)))
