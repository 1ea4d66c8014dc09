section
set_option maxHeartbeats 4000000 in
set_option maxRecDepth 100000 in
theorem d_clearEvA (l : Launch) (dC : Nat → ClassId) (dI : Nat → Nat → Nat) (ad : Nat → Nat → Nat) (cid : Nat → ClassId) (a2 : Nat → Nat) (lx : List Nat) (sg : Nat → Int32) (gm : Nat → Nat → Int32) (lg : Nat → Nat → Int64) (x : Int32) (hI : CI sg gm) (hvx : iv 0 0 x) : CMt dC dI ad cid a2 lx l yX4_clear wm_X4_clear ({ frames := 0, cells := 1, slots := 6, locals := 0 }) [eV (ad 5) x] sg gm lg (fun v u => v = none ∧ ∃ (sg2 : Nat → Int32) (gm2 : Nat → Nat → Int32) (lg2 : Nat → Nat → Int64), u = (sg2, gm2, lg2) ∧ CI sg2 gm2 ∧ KS [13] sg sg2 ∧ KS [] gm gm2 ∧ KS [] lg lg2 ∧ ((sg2 13).toInt = 0)) (fun _ _ => False) := by
  intro sz
  refine vx_ofW (cc := cX4_clear) (maxL := 1) (ret := none) (by decide) rfl ?_
  intro p e s m args below meth c s₁ B hml hxt hv
  obtain ⟨rfl, hsz, hP, hK, hD0, hG⟩ := hv
  have hx := B.exec
  have hb := B.bytes
  have hr := B.returns
  have hts := atoms_spec (ws := wm_X4_clear) B.pre
  have htb := fun (w : Cond) (h : w ∈ tb) => hts w (List.mem_cons_of_mem _ h)
  have hown : s.vm.findClass RX4 = some m.cls := findClass_of_methodNamed B.named
  have hlocks := B.notSynchronized
  subst hsz
  have hD := hD0.self (sz := s.heap.size)
  generalize hAe : va_A (cW ad cid a2 lx sg gm lg) s.heap.size = A at hD hG ⊢
  have hA : ∀ q : Nat, s.heap.size ≤ q → A q := fun q h => by rw [← hAe]; exact Or.inr h
  have hS : va_S A s.heap s.heap [] := va_S.rf
  have hl := lv_entry ([eV (ad 5) x]) (n := 1) (by rw [show (lg_sl ([eV (ad 5) x])).length = 1 from by simp [lg_sl, eV_cat, cat_i, cat_l]]; exact Nat.le_of_ble_eq_true rfl)
  rw [lg_entry_eq]
  generalize (lg_sl ([eV (ad 5) x]) ++ List.replicate (1 - (lg_sl ([eV (ad 5) x])).length) Slot.unset).toArray = ls at hl ⊢
  have hl : lv_has ls 1 [(0, eV (ad 5) x)] := by simp [lv_args, eV_cat, cat_i, cat_l] at hl; exact hl
  refine ec_aload_n hx hb dX4_clear_0 rfl (lv_at hl 0 rfl) ?_
  refine lv_iconst (v := 0) hx hb dX4_clear_1 (by decide) ?_
  refine cr_puts (t := 5) (j := 1) (C := RX4) (T := TX4) (N := 2) (ty0 := tyX4) (k := 13) (y := 0) hx hb htb inX4 tyX4_ok nmX4 hown hK hP hD hS hvx (by decide) (by decide) (by decide) (by decide) rfl rfl rfl (by decide) (htb _ kw_397) rfl (by show Value.int 0 = Value.int (va_up sg 13 0 13); rw [va_up_self]) rfl rfl dX4_clear_2 (fun sg_1 H locs esg_1 hP hD hS => ?_)
  have hI_sg_1 := CI_put hI esg_1 (iv_k (by decide) : iv 0 0 0) (by decide)
  exact W.nb (fun hN => W.widen (k := 1) (n := 6) (by decide) (by decide) (vx_ret (W.vret hx hb hr (fun t ht hW => ⟨⟨none, (sg_1, gm, lg), rfl, ⟨rfl, sg_1, gm, lg, rfl, hI_sg_1, (KS_up KS_rf esg_1 (by decide)), KS_rf, KS_rf, (by have := i32_0; have := i32_1; have := i32_2; have := i32_m1; have : (sg_1 13).toInt = 0 := (by rw [up_at esg_1]; rfl); have := (hvx).1; have := (hvx).2; omega)⟩, by rw [ht]; exact hP, va_K.moved hW.alike hK, hD⟩, hS.F ht, by rw [ht]; exact hN⟩) hS.2.2 dX4_clear_5)))

set_option maxHeartbeats 4000000 in
set_option maxRecDepth 100000 in
theorem d_startAfreshA (l : Launch) (dC : Nat → ClassId) (dI : Nat → Nat → Nat) (ad : Nat → Nat → Nat) (cid : Nat → ClassId) (a2 : Nat → Nat) (lx : List Nat) (sg : Nat → Int32) (gm : Nat → Nat → Int32) (lg : Nat → Nat → Int64) (x : Int32) (hI : CI sg gm) (hvx : iv 0 0 x) : CMt dC dI ad cid a2 lx l yX5_startAfresh wm_X5_startAfresh ({ frames := 2, cells := 1, slots := 6, locals := 42 }) [eV (ad 6) x] sg gm lg (fun v u => v = none ∧ ∃ (sg2 : Nat → Int32) (gm2 : Nat → Nat → Int32) (lg2 : Nat → Nat → Int64), u = (sg2, gm2, lg2) ∧ CI sg2 gm2 ∧ KS [13, 14, 15] sg sg2 ∧ KS [38] gm gm2 ∧ KS [] lg lg2 ∧ (∀ j9, j9 < (sg 12).toNatClampNeg → gm2 38 j9 = 0) ∧ ((sg2 15).toInt = 0) ∧ ((sg2 14).toInt = 0) ∧ ((sg2 13).toInt = 0)) (fun _ _ => False) := by
  intro sz
  refine vx_ofW (cc := cX5_startAfresh) (maxL := 1) (ret := none) (by decide) rfl ?_
  intro p e s m args below meth c s₁ B hml hxt hv
  obtain ⟨rfl, hsz, hP, hK, hD0, hG⟩ := hv
  have hx := B.exec
  have hb := B.bytes
  have hr := B.returns
  have hts := atoms_spec (ws := wm_X5_startAfresh) B.pre
  have htb := fun (w : Cond) (h : w ∈ tb) => hts w (List.mem_cons_of_mem _ h)
  have hown : s.vm.findClass RX5 = some m.cls := findClass_of_methodNamed B.named
  have hlocks := B.notSynchronized
  subst hsz
  have hD := hD0.self (sz := s.heap.size)
  generalize hAe : va_A (cW ad cid a2 lx sg gm lg) s.heap.size = A at hD hG ⊢
  have hA : ∀ q : Nat, s.heap.size ≤ q → A q := fun q h => by rw [← hAe]; exact Or.inr h
  have hS : va_S A s.heap s.heap [] := va_S.rf
  have hl := lv_entry ([eV (ad 6) x]) (n := 1) (by rw [show (lg_sl ([eV (ad 6) x])).length = 1 from by simp [lg_sl, eV_cat, cat_i, cat_l]]; exact Nat.le_of_ble_eq_true rfl)
  rw [lg_entry_eq]
  generalize (lg_sl ([eV (ad 6) x]) ++ List.replicate (1 - (lg_sl ([eV (ad 6) x])).length) Slot.unset).toArray = ls at hl ⊢
  have hl : lv_has ls 1 [(0, eV (ad 6) x)] := by simp [lv_args, eV_cat, cat_i, cat_l] at hl; exact hl
  refine ec_aload_n hx hb dX5_startAfresh_0 rfl (lv_at hl 0 rfl) ?_
  refine lv_iconst (v := 0) hx hb dX5_startAfresh_1 (by decide) ?_
  refine cr_puts (t := 6) (j := 5) (C := RX5) (T := TX5) (N := 13) (ty0 := tyX5) (k := 14) (y := 0) hx hb htb inX5 tyX5_ok nmX5 hown hK hP hD hS hvx (by decide) (by decide) (by decide) (by decide) rfl rfl rfl (by decide) (htb _ kw_409) rfl (by show Value.int 0 = Value.int (va_up sg 14 0 14); rw [va_up_self]) rfl rfl dX5_startAfresh_2 (fun sg_1 H locs esg_1 hP hD hS => ?_)
  have hI_sg_1 := CI_put hI esg_1 (iv_k (by decide) : iv 0 0 0) (by decide)
  refine ec_aload_n hx hb dX5_startAfresh_5 rfl (lv_at hl 0 rfl) ?_
  refine cm_callV (t := 6) (C := RX5) (T := TX5) (N := 13) (rest := []) (as := []) ⟨hx, hb, hml, hown, htb⟩ (d_forgetMade l dC dI ad cid a2 lx sg_1 gm lg x hI_sg_1 hvx) (cwV 0 htb (gd_V kw_490 kw_491 kw_1 kw_159 kw_1405) rfl rfl rfl (by decide +kernel) ⟨Nat.le_of_ble_eq_true rfl, Nat.le_of_ble_eq_true rfl⟩) hvx (by decide) (by decide) rfl rfl hl.1 rfl (Nat.le_trans cs_n (by decide)) dX5_startAfresh_6 ⟨Nat.le_of_ble_eq_true rfl, Nat.le_of_ble_eq_true rfl⟩ hK hP hD hS hA hG (fun E ce q9 u_3 H locs hw hP hD hS hce hcv hcl => ?_) (fun v9 u_3 H locs hw hP hD hS => ?_)
  · exact hw.elim
  obtain ⟨rfl, sgv_4, gmv_4, lgv_4, rfl, hIv_4, ksv_4, kgv_4, klv_4, fM_r_2, f15_r_2⟩ := hw
  obtain rfl := KS_nil klv_4
  have hP : va_P (dC, dI) vwCl (cW ad cid a2 lx sgv_4 gmv_4 lg) H := hP
  have hD : va_D A (cW ad cid a2 lx sgv_4 gmv_4 lg) := hD
  refine W.eq (g2 := F0 m 9 ls []) rfl ?_
  refine ec_aload_n hx hb dX5_startAfresh_9 rfl (lv_at hl 0 rfl) ?_
  refine cr_get (t := 6) (j := 2) (C := RX5) (T := TX5) (N := 13) (v := eV (ad 5) 0) hx hb htb inX5 hown hK hP hvx (by decide) (by decide) (by decide) rfl (by decide) (htb _ kw_406) (cV_c rfl (by decide) (by rw [show cMu 6 2 = 0 from rfl, Nat.zero_mul]; rfl)) dX5_startAfresh_10 ?_
  refine cm_callV (t := 5) (C := RX4) (T := TX4) (N := 2) (rest := []) (as := []) ⟨hx, hb, hml, hown, htb⟩ (d_clearEvA l dC dI ad cid a2 lx sgv_4 gmv_4 lg 0 hIv_4 (iv_k (by decide) : iv 0 0 0)) (cwV 0 htb (gd_V kw_541 kw_542 kw_543 kw_158 kw_1422) rfl rfl rfl (by decide +kernel) ⟨Nat.le_of_ble_eq_true rfl, Nat.le_of_ble_eq_true rfl⟩) (iv_k (by decide) : iv 0 0 0) (by decide) (by decide) rfl rfl hl.1 rfl (Nat.le_trans cs_n (by decide)) dX5_startAfresh_13 ⟨Nat.le_of_ble_eq_true rfl, Nat.le_of_ble_eq_true rfl⟩ hK hP hD hS hA hG (fun E ce q9 u_6 H locs hw hP hD hS hce hcv hcl => ?_) (fun v9 u_6 H locs hw hP hD hS => ?_)
  · exact hw.elim
  obtain ⟨rfl, sgv_7, gmv_7, lgv_7, rfl, hIv_7, ksv_7, kgv_7, klv_7, f13_r_5⟩ := hw
  obtain rfl := KS_nil kgv_7
  obtain rfl := KS_nil klv_7
  have hP : va_P (dC, dI) vwCl (cW ad cid a2 lx sgv_7 gmv_4 lg) H := hP
  have hD : va_D A (cW ad cid a2 lx sgv_7 gmv_4 lg) := hD
  refine W.eq (g2 := F0 m 16 ls []) rfl ?_
  exact W.nb (fun hN => W.widen (k := 1) (n := 6) (by decide) (by decide) (vx_ret (W.vret hx hb hr (fun t ht hW => ⟨⟨none, (sgv_7, gmv_4, lg), rfl, ⟨rfl, sgv_7, gmv_4, lg, rfl, hIv_7, (KS_tr (L := [13, 14, 15]) (KS_tr (L := [13, 14, 15]) (KS_up KS_rf esg_1 (by decide)) ksv_4 (by decide)) ksv_7 (by decide)), (KS_tr (L := [38]) KS_rf kgv_4 (by decide)), KS_rf, (fun j9 q9 => by { rw [show gmv_4 38 = gmv_4 38 from rfl]; exact fM_r_2 j9 (by rw [show sg_1 12 = sg 12 from ((show KS [14] sg sg_1 from (KS_up KS_rf esg_1 (by decide))) 12 (by decide))]; exact q9) }), (by have := i32_0; have := i32_1; have := i32_2; have := i32_m1; have := congrArg Int32.toInt (show sgv_7 15 = sgv_4 15 from ksv_7 15 (by decide)); have := (show iv 0 80 (sgv_4 15) from CI_s hIv_4 15).1; have := (show iv 0 80 (sgv_4 15) from CI_s hIv_4 15).2; have := congrArg Int32.toInt (show sg_1 15 = sg 15 from up_ne esg_1 (by decide)); have := (show iv 0 80 (sg 15) from CI_s hI 15).1; have := (show iv 0 80 (sg 15) from CI_s hI 15).2; have := (hvx).1; have := (hvx).2; have := f15_r_2; omega), (by have := i32_0; have := i32_1; have := i32_2; have := i32_m1; have := congrArg Int32.toInt (show sgv_7 14 = sgv_4 14 from ksv_7 14 (by decide)); have := congrArg Int32.toInt (show sgv_4 14 = sg_1 14 from ksv_4 14 (by decide)); have : (sg_1 14).toInt = 0 := (by rw [up_at esg_1]; rfl); have := (hvx).1; have := (hvx).2; omega), (f13_r_5)⟩, by rw [ht]; exact hP, va_K.moved hW.alike hK, hD⟩, hS.F ht, by rw [ht]; exact hN⟩) hS.2.2 dX5_startAfresh_16)))

set_option maxHeartbeats 4000000 in
set_option maxRecDepth 100000 in
theorem d_read9 (l : Launch) (dC : Nat → ClassId) (dI : Nat → Nat → Nat) (ad : Nat → Nat → Nat) (cid : Nat → ClassId) (a2 : Nat → Nat) (lx : List Nat) (sg : Nat → Int32) (gm : Nat → Nat → Int32) (lg : Nat → Nat → Int64) (hl9 : l.stackTraces = false) (x : Int32) (ch : Nat → Int) (N9 : Nat) (K9 : Nat) (hI : CI sg gm) (hvx : iv 0 0 x) (hU12 : UB 12 K9 gm) (hU18 : UB 18 K9 gm) (hK9 : K9 ≤ 1998700) (hLD : LDI lx gm) (hch0 : CHR ch N9 (sg 0) (gm 43)) (hpc : PC7 ch) : CMg dC dI ad cid l yX12_read wm_X12_read ({ frames := 16, cells := 304802, slots := 1219333, locals := 381 }) [eV (ad 0) x] a2 lx sg gm lg 1 304802 1219333 (fun v u => ∃ r : Int32, v = some (.int r) ∧ ∃ (a22 : Nat → Nat) (lx2 : List Nat), ∃ (sg2 : Nat → Int32) (gm2 : Nat → Nat → Int32) (lg2 : Nat → Nat → Int64), u = (a22, lx2, sg2, gm2, lg2) ∧ CI sg2 gm2 ∧ KS [0, 1, 2, 3, 4, 5, 6, 7, 8, 9, 10, 11, 12, 13, 14, 15] sg sg2 ∧ KS [11, 12, 13, 14, 15, 16, 17, 18, 19, 20, 21, 22, 23, 24, 25, 26, 27, 29, 30, 31, 32, 33, 34, 35, 36, 37, 38, 39, 40, 41, 42, 44, 45, 46, 47, 56, 57] gm gm2 ∧ KS [0, 1, 2, 3, 4, 5, 6, 7] lg lg2 ∧ (iv 0 80 r) ∧ (UB 12 (K9 + 1203) gm2) ∧ (UB 18 (K9 + 1203) gm2) ∧ (LDI lx2 gm2) ∧ ((sg2 15).toInt = 0) ∧ (WRM sg2 gm2 lg2) ∧ ((sg2 13).toInt = 0) ∧ ((sg2 14).toInt = 0) ∧ (¬ (sg2 1).toInt = 0) ∧ ((sg2 0).toInt = 0) ∧ (ACQ ch N9 ∧ r.toInt = (nbD (dD ch N9) : Int) ∧ CLD (dD ch N9) sg2 gm2 lg2)) (fun E u => (E = "java/lang/IllegalArgumentException") ∧ ∃ (a22 : Nat → Nat) (lx2 : List Nat), ∃ (sg2 : Nat → Int32) (gm2 : Nat → Nat → Int32) (lg2 : Nat → Nat → Int64), u = (a22, lx2, sg2, gm2, lg2) ∧ CI sg2 gm2 ∧ KS [0, 1, 2, 3, 4, 5, 6, 7, 8, 9, 10, 11, 12, 13, 14, 15] sg sg2 ∧ KS [11, 12, 13, 14, 15, 16, 17, 18, 19, 20, 21, 22, 23, 24, 25, 26, 27, 29, 30, 31, 32, 33, 34, 35, 36, 37, 38, 39, 40, 41, 42, 44, 45, 46, 47, 56, 57] gm gm2 ∧ KS [0, 1, 2, 3, 4, 5, 6, 7] lg lg2 ∧ (UB 12 (K9 + 1203) gm2) ∧ (UB 18 (K9 + 1203) gm2) ∧ (LDI lx2 gm2) ∧ ((sg2 15).toInt = 0) ∧ ((sg2 12).toInt = 0) ∧ ((sg2 1).toInt = 0) ∧ ((sg2 13).toInt = 0) ∧ ((sg2 14).toInt = 0) ∧ ((sg2 0).toInt = 0) ∧ (¬ ACQ ch N9)) := by
  intro sz
  refine vx_ofW (cc := cX12_read) (maxL := 1) (ret := (some .int)) (by decide) rfl ?_
  intro p e s m args below meth c s₁ B hml hxt hv
  obtain ⟨rfl, hsz, hP, hK, hD0, hG⟩ := hv
  have hx := B.exec
  have hb := B.bytes
  have hr := B.returns
  have hts := atoms_spec (ws := wm_X12_read) B.pre
  have htb := fun (w : Cond) (h : w ∈ tb) => hts w (List.mem_cons_of_mem _ h)
  have hown : s.vm.findClass RX12 = some m.cls := findClass_of_methodNamed B.named
  have hlocks := B.notSynchronized
  subst hsz
  have hD := hD0.self (sz := s.heap.size)
  generalize hAe : va_A (cW ad cid a2 lx sg gm lg) s.heap.size = A at hD hG ⊢
  have hA : ∀ q : Nat, s.heap.size ≤ q → A q := fun q h => by rw [← hAe]; exact Or.inr h
  have hS : va_S A s.heap s.heap [] := va_S.rf
  have hl := lv_entry ([eV (ad 0) x]) (n := 1) (by rw [show (lg_sl ([eV (ad 0) x])).length = 1 from by simp [lg_sl, eV_cat, cat_i, cat_l]]; exact Nat.le_of_ble_eq_true rfl)
  rw [lg_entry_eq]
  generalize (lg_sl ([eV (ad 0) x]) ++ List.replicate (1 - (lg_sl ([eV (ad 0) x])).length) Slot.unset).toArray = ls at hl ⊢
  have hl : lv_has ls 1 [(0, eV (ad 0) x)] := by simp [lv_args, eV_cat, cat_i, cat_l] at hl; exact hl
  refine W.widen (k := gc gm gm 0) (n := gs gm gm 0) (Nat.zero_le _) (Nat.zero_le _) ?_
  have hj84 : ∀ (a2_j84 : Nat → Nat) (lx_j84 : List Nat) (sg_j84 : Nat → Int32) (gm_j84 : Nat → Nat → Int32) (lg_j84 : Nat → Nat → Int64) (_ : iv 0 0 x) (_ : KS [0, 2, 3, 4, 5, 6, 7, 8, 9, 10, 11, 12, 13, 14, 15] sg sg_j84) (_ : KS [11, 12, 13, 14, 15, 16, 17, 18, 19, 20, 21, 22, 23, 24, 25, 26, 27, 29, 30, 31, 32, 33, 34, 35, 36, 37, 38, 39, 40, 41, 42, 44, 45, 46, 47, 56, 57] gm gm_j84) (_ : KS [0, 1, 2, 3, 4, 5, 6, 7] lg lg_j84) (_ : CI sg_j84 gm_j84) (_ : UB 12 (K9 + 1203) gm_j84) (_ : UB 18 (K9 + 1203) gm_j84) (_ : LDI lx_j84 gm_j84) (_ : (sg_j84 15).toInt = 0) (_ : (sg_j84 3).toInt = -1 → WRM sg_j84 gm_j84 lg_j84) (_ : (sg_j84 13).toInt = 0) (_ : (sg_j84 14).toInt = 0) (_ : (sg_j84 0).toInt = 0) (_ : (¬ (sg_j84 3).toInt = -1 ∧ ¬ ACQ ch N9) ∨ ((sg_j84 3).toInt = -1 ∧ ACQ ch N9 ∧ (sg_j84 12).toInt = (nbD (dD ch N9) : Int) ∧ CLD (dD ch N9) sg_j84 gm_j84 lg_j84)) (_ : PHs gm ≤ PHs gm_j84) (H : Heap) (locs : List Loc) (ls : Array Slot), va_P (dC, dI) vwCl (cW ad cid a2_j84 lx_j84 sg_j84 gm_j84 lg_j84) H → va_D A (cW ad cid a2_j84 lx_j84 sg_j84 gm_j84 lg_j84) → va_S A s.heap H locs → lv_has ls 1 [(0, eV (ad 0) x)] → W p l e (headSpec wm_X12_read ({ frames := 16, cells := 304802, slots := 1219333, locals := 381 })).room s m ([eV (ad 0) x] : List Value).toArray below meth c H locs (gc gm gm_j84 1) (gs gm gm_j84 1) (vx_MQ below (cQg dC dI ad cid (fun v u => ∃ r : Int32, v = some (.int r) ∧ ∃ (a22 : Nat → Nat) (lx2 : List Nat), ∃ (sg2 : Nat → Int32) (gm2 : Nat → Nat → Int32) (lg2 : Nat → Nat → Int64), u = (a22, lx2, sg2, gm2, lg2) ∧ CI sg2 gm2 ∧ KS [0, 1, 2, 3, 4, 5, 6, 7, 8, 9, 10, 11, 12, 13, 14, 15] sg sg2 ∧ KS [11, 12, 13, 14, 15, 16, 17, 18, 19, 20, 21, 22, 23, 24, 25, 26, 27, 29, 30, 31, 32, 33, 34, 35, 36, 37, 38, 39, 40, 41, 42, 44, 45, 46, 47, 56, 57] gm gm2 ∧ KS [0, 1, 2, 3, 4, 5, 6, 7] lg lg2 ∧ (iv 0 80 r) ∧ (UB 12 (K9 + 1203) gm2) ∧ (UB 18 (K9 + 1203) gm2) ∧ (LDI lx2 gm2) ∧ ((sg2 15).toInt = 0) ∧ (WRM sg2 gm2 lg2) ∧ ((sg2 13).toInt = 0) ∧ ((sg2 14).toInt = 0) ∧ (¬ (sg2 1).toInt = 0) ∧ ((sg2 0).toInt = 0) ∧ (ACQ ch N9 ∧ r.toInt = (nbD (dD ch N9) : Int) ∧ CLD (dD ch N9) sg2 gm2 lg2)) 1 gm A) (cXg dC dI ad cid (fun E u => (E = "java/lang/IllegalArgumentException") ∧ ∃ (a22 : Nat → Nat) (lx2 : List Nat), ∃ (sg2 : Nat → Int32) (gm2 : Nat → Nat → Int32) (lg2 : Nat → Nat → Int64), u = (a22, lx2, sg2, gm2, lg2) ∧ CI sg2 gm2 ∧ KS [0, 1, 2, 3, 4, 5, 6, 7, 8, 9, 10, 11, 12, 13, 14, 15] sg sg2 ∧ KS [11, 12, 13, 14, 15, 16, 17, 18, 19, 20, 21, 22, 23, 24, 25, 26, 27, 29, 30, 31, 32, 33, 34, 35, 36, 37, 38, 39, 40, 41, 42, 44, 45, 46, 47, 56, 57] gm gm2 ∧ KS [0, 1, 2, 3, 4, 5, 6, 7] lg lg2 ∧ (UB 12 (K9 + 1203) gm2) ∧ (UB 18 (K9 + 1203) gm2) ∧ (LDI lx2 gm2) ∧ ((sg2 15).toInt = 0) ∧ ((sg2 12).toInt = 0) ∧ ((sg2 1).toInt = 0) ∧ ((sg2 13).toInt = 0) ∧ ((sg2 14).toInt = 0) ∧ ((sg2 0).toInt = 0) ∧ (¬ ACQ ch N9)) 1 gm A) ([eV (ad 0) x] : List Value).toArray s 304802 1219333 A) (F0 m 84 ls []) := by
    intro a2_j84 lx_j84 sg_j84 gm_j84 lg_j84 hsx0_84 hks_j84 hkg_j84 hkl_j84 hI_j84 hU12d hU18d hLDd h15d hWd h13d h14d hZd qD hm_j84 H locs ls hP hD hS hl
    refine ec_aload_n hx hb dX12_read_84 rfl (lv_at hl 0 rfl) ?_
    refine ec_aload_n hx hb dX12_read_85 rfl (lv_at hl 0 rfl) ?_
    refine cr_get (t := 0) (j := 11) (C := RX12) (T := TX12) (N := 12) (v := .int (sg_j84 3)) hx hb htb inX12 hown hK hP hsx0_84 (by decide) (by decide) (by decide) rfl (by decide) (htb _ kw_428) rfl dX12_read_86 ?_
    refine lv_iconst (v := (-1)) hx hb dX12_read_89 (by decide) ?_
    refine lv_icmp_ne (tgt := 97) hx hb dX12_read_90 (by decide) (fun c_1 => ?_) (fun c_1 => ?_)
    · have h_2 : iv 0 1201 (sg_j84 3) := iv_neL c_1 (show iv (-1) 1201 (sg_j84 3) from CI_s hI_j84 3) (by decide)
      refine lv_iconst (v := 0) hx hb dX12_read_97 (by decide) ?_
      refine cr_puts (t := 0) (j := 9) (C := RX12) (T := TX12) (N := 12) (ty0 := tyX12) (k := 1) (y := 0) hx hb htb inX12 tyX12_ok nmX12 hown hK hP hD hS hsx0_84 (by decide) (by decide) (by decide) (by decide) rfl rfl rfl (by decide) (htb _ kw_426) rfl (by show Value.int 0 = Value.int (va_up sg_j84 1 0 1); rw [va_up_self]) (iv_nb (iv_w (iv_k (by decide) : iv 0 0 0) (by decide))) (iv_fb (iv_w (iv_k (by decide) : iv 0 0 0) (by decide))) dX12_read_98 (fun sg_3 H locs esg_3 hP hD hS => ?_)
      have hI_sg_3 := CI_put hI_j84 esg_3 (iv_k (by decide) : iv 0 0 0) (by decide)
      refine ec_aload_n hx hb dX12_read_101 rfl (lv_at hl 0 rfl) ?_
      refine cr_get (t := 0) (j := 9) (C := RX12) (T := TX12) (N := 12) (v := .int (sg_3 1)) hx hb htb inX12 hown hK hP hsx0_84 (by decide) (by decide) (by decide) rfl (by decide) (htb _ kw_426) rfl dX12_read_102 ?_
      refine W.eq (g2 := F0 m 105 ls [.int 0]) (by rw [show sg_3 1 = 0 from (up_at esg_3)]) ?_
      refine lv_if_ne (tgt := 123) hx hb dX12_read_105 (by decide) (fun c_4 => absurd (by decide) c_4) (fun _ => ?_)
      refine ec_aload_n hx hb dX12_read_108 rfl (lv_at hl 0 rfl) ?_
      refine cr_get (t := 0) (j := 5) (C := RX12) (T := TX12) (N := 12) (v := eV (ad 4) 0) hx hb htb inX12 hown hK hP hsx0_84 (by decide) (by decide) (by decide) rfl (by decide) (htb _ kw_422) (cV_c rfl (by decide) (by rw [show cMu 0 5 = 0 from rfl, Nat.zero_mul]; rfl)) dX12_read_109 ?_
      refine cm_callTV (t := 4) (C := RX10) (T := TX10) (N := 4) (rest := []) (as := []) ⟨hx, hb, hml, hown, htb⟩ (d_forgetBeans l dC dI ad cid a2_j84 lx_j84 sg_3 gm_j84 lg_j84 0 hI_sg_3 (iv_k (by decide) : iv 0 0 0)) (cwV 0 htb (gd_V kw_871 kw_872 kw_873 kw_153 kw_1522) rfl rfl rfl (by decide +kernel) ⟨Nat.le_of_ble_eq_true rfl, Nat.le_of_ble_eq_true rfl⟩) (iv_k (by decide) : iv 0 0 0) (by decide) (by decide) rfl rfl hl.1 rfl (Nat.le_trans cs_n (by decide)) dX12_read_112 ⟨Nat.le_trans (gc_le hI_j84) (Nat.le_of_ble_eq_true rfl), Nat.le_trans (gs_le hI_j84) (Nat.le_of_ble_eq_true rfl)⟩ hK hP hD hS hA hG (fun E ce q9 u_6 H locs hw hP hD hS hce hcv hcl => ?_) (fun v9 u_6 H locs hw hP hD hS => ?_)
      · exact hw.elim
      obtain ⟨rfl, sgv_7, gmv_7, lgv_7, rfl, hIv_7, ksv_7, kgv_7, klv_7, f12_r_5⟩ := hw
      obtain rfl := KS_nil kgv_7
      obtain rfl := KS_nil klv_7
      have hP : va_P (dC, dI) vwCl (cW ad cid a2_j84 lx_j84 sgv_7 gm_j84 lg_j84) H := hP
      have hD : va_D A (cW ad cid a2_j84 lx_j84 sgv_7 gm_j84 lg_j84) := hD
      refine W.eq (g2 := F0 m 115 ls []) rfl ?_
      refine vx_throw1 (own := RX12) (cls := "java/lang/IllegalArgumentException") (names := ["java/lang/RuntimeException", "java/lang/Exception"]) (ik := 129) (ic := 131) (A := A) hx hb hl9 hown (by decide +kernel) (by decide +kernel) (htb _ kw_874) (htb _ kw_161) (vx_hat (fun w h => htb w (inT_0 w h)) inU_0 (vx_c (va_Nw.use rfl hG.1.2.1.1) (vx_c (va_Nw.use rfl hG.1.2.1.2.2.1) (vx_c (va_Nw.use rfl hG.1.2.1.2.2.2.1) (vx_c (va_Nw.use rfl hG.1.2.1.2.2.2.2) vx_n))))) (fun w hw => ?_) hG.1.2.2.2.1 hG.1.2.2.2.2 hS (by rw [hml]; exact hl.1) dX12_read_115 dX12_read_118 dX12_read_119 dX12_read_122 (fun x hx9 => (hxt x hx9).elim) (Nat.le_of_ble_eq_true rfl) (Nat.le_trans (Nat.add_le_add_right (show _ ≤ 8 from (Nat.le_trans cs_n (by decide))) _) (Nat.le_of_ble_eq_true rfl)) (Nat.le_trans (gc_le (gm := gm) (k := 1) (j := 1) hI_j84) (Nat.le_of_ble_eq_true rfl)) (Nat.le_trans (gs_le (gm := gm) (k := 1) (j := 6) hI_j84) (Nat.le_of_ble_eq_true rfl)) hlocks (fun t ht1 hz2 hk2 hnb => ⟨⟨(a2_j84, lx_j84, sgv_7, gm_j84, lg_j84), ⟨rfl, a2_j84, lx_j84, sgv_7, gm_j84, lg_j84, rfl, hIv_7, (KS_tr (L := [0, 1, 2, 3, 4, 5, 6, 7, 8, 9, 10, 11, 12, 13, 14, 15]) (KS_up (KS_tr (L := [0, 1, 2, 3, 4, 5, 6, 7, 8, 9, 10, 11, 12, 13, 14, 15]) KS_rf hks_j84 (by decide)) esg_3 (by decide)) ksv_7 (by decide)), (KS_tr (L := [11, 12, 13, 14, 15, 16, 17, 18, 19, 20, 21, 22, 23, 24, 25, 26, 27, 29, 30, 31, 32, 33, 34, 35, 36, 37, 38, 39, 40, 41, 42, 44, 45, 46, 47, 56, 57]) KS_rf hkg_j84 (by decide)), (KS_tr (L := [0, 1, 2, 3, 4, 5, 6, 7]) KS_rf hkl_j84 (by decide)), (hU12d), (hU18d), (hLDd), ((by rw [(show sgv_7 15 = sg_j84 15 from (Eq.trans (ksv_7 15 (by decide)) (up_ne esg_3 (by decide))))]; exact h15d)), (f12_r_5), (by have := i32_0; have := i32_1; have := i32_2; have := i32_m1; have := congrArg Int32.toInt (show sgv_7 1 = sg_3 1 from ksv_7 1 (by decide)); have : (sg_3 1).toInt = 0 := (by rw [up_at esg_3]; rfl); have := (hsx0_84).1; have := (hsx0_84).2; have := (h_2).1; have := (h_2).2; omega), ((by rw [(show sgv_7 13 = sg_j84 13 from (Eq.trans (ksv_7 13 (by decide)) (up_ne esg_3 (by decide))))]; exact h13d)), ((by rw [(show sgv_7 14 = sg_j84 14 from (Eq.trans (ksv_7 14 (by decide)) (up_ne esg_3 (by decide))))]; exact h14d)), (by have := i32_0; have := i32_1; have := i32_2; have := i32_m1; have := congrArg Int32.toInt (show sgv_7 0 = sg_3 0 from ksv_7 0 (by decide)); have := congrArg Int32.toInt (show sg_3 0 = sg_j84 0 from up_ne esg_3 (by decide)); have := (show iv 0 1200 (sg_j84 0) from CI_s hI_j84 0).1; have := (show iv 0 1200 (sg_j84 0) from CI_s hI_j84 0).2; have := (show iv 0 1200 (sg 0) from CI_s hI 0).1; have := (show iv 0 1200 (sg 0) from CI_s hI 0).2; have := (hsx0_84).1; have := (hsx0_84).2; have := (h_2).1; have := (h_2).2; omega), ((qD.resolve_right (fun q8 => absurd q8.1 (by have := i32_0; have := i32_1; have := i32_2; have := i32_m1; have := congrArg Int32.toInt (show sgv_7 3 = sg_3 3 from ksv_7 3 (by decide)); have := congrArg Int32.toInt (show sg_3 3 = sg_j84 3 from up_ne esg_3 (by decide)); have := (show iv (-1) 1201 (sg_j84 3) from CI_s hI_j84 3).1; have := (show iv (-1) 1201 (sg_j84 3) from CI_s hI_j84 3).2; have := (show iv (-1) 1201 (sg 3) from CI_s hI 3).1; have := (show iv (-1) 1201 (sg 3) from CI_s hI 3).2; have := (hsx0_84).1; have := (hsx0_84).2; have := (h_2).1; have := (h_2).2; omega))).2)⟩, ⟨hP.kept (fun k q hq => hk2 _ (vx_lt hP hq)), va_K.moved ht1 hK, hD⟩, hm_j84, NBw_w hnb (show gc gm gm_j84 1 + 1 ≤ gc gm gm_j84 (1 + 1) from (by unfold gc; omega)) (show gs gm gm_j84 1 + 6 ≤ gs gm gm_j84 (1 + 1) from (by unfold gs; omega))⟩, ⟨Nat.le_trans hS.1 hz2, fun q h1 h2 => (hk2 q (Nat.lt_of_lt_of_le h1 hS.1)).trans (hS.2.1 q h1 h2)⟩⟩) hS.2.2 (Nat.le_trans (gc_le (gm := gm) (k := 1) (j := 1) hI_j84) (Nat.le_of_ble_eq_true rfl)) (Nat.le_trans (gs_le (gm := gm) (k := 1) (j := 6) hI_j84) (Nat.le_of_ble_eq_true rfl))
      rcases List.mem_cons.mp hw with rfl | hw
      · rfl
      rcases List.mem_cons.mp hw with rfl | hw
      · rfl
      exact inV_0 w hw
    · have h_8 : iv (-1) (-1) (sg_j84 3) := iv_eq c_1 (show iv (-1) 1201 (sg_j84 3) from CI_s hI_j84 3) (iv_k (by decide) : iv (-1) (-1) (-1)) (by decide)
      refine lv_iconst (v := 1) hx hb dX12_read_93 (by decide) ?_
      refine lv_goto (tgt := 98) hx hb dX12_read_94 (by decide) ?_
      refine cr_puts (t := 0) (j := 9) (C := RX12) (T := TX12) (N := 12) (ty0 := tyX12) (k := 1) (y := 1) hx hb htb inX12 tyX12_ok nmX12 hown hK hP hD hS hsx0_84 (by decide) (by decide) (by decide) (by decide) rfl rfl rfl (by decide) (htb _ kw_426) rfl (by show Value.int 1 = Value.int (va_up sg_j84 1 1 1); rw [va_up_self]) (iv_nb (iv_w (iv_k (by decide) : iv 1 1 1) (by decide))) (iv_fb (iv_w (iv_k (by decide) : iv 1 1 1) (by decide))) dX12_read_98 (fun sg_9 H locs esg_9 hP hD hS => ?_)
      have hI_sg_9 := CI_put hI_j84 esg_9 (iv_k (by decide) : iv 1 1 1) (by decide)
      refine ec_aload_n hx hb dX12_read_101 rfl (lv_at hl 0 rfl) ?_
      refine cr_get (t := 0) (j := 9) (C := RX12) (T := TX12) (N := 12) (v := .int (sg_9 1)) hx hb htb inX12 hown hK hP hsx0_84 (by decide) (by decide) (by decide) rfl (by decide) (htb _ kw_426) rfl dX12_read_102 ?_
      refine W.eq (g2 := F0 m 105 ls [.int 1]) (by rw [show sg_9 1 = 1 from (up_at esg_9)]) ?_
      refine lv_if_ne (tgt := 123) hx hb dX12_read_105 (by decide) (fun _ => ?_) (fun c_10 => absurd c_10 (by decide))
      refine ec_aload_n hx hb dX12_read_123 rfl (lv_at hl 0 rfl) ?_
      refine lv_iconst (v := 0) hx hb dX12_read_124 (by decide) ?_
      refine cr_puts (t := 0) (j := 10) (C := RX12) (T := TX12) (N := 12) (ty0 := tyX12) (k := 2) (y := 0) hx hb htb inX12 tyX12_ok nmX12 hown hK hP hD hS hsx0_84 (by decide) (by decide) (by decide) (by decide) rfl rfl rfl (by decide) (htb _ kw_427) rfl (by show Value.int 0 = Value.int (va_up sg_9 2 0 2); rw [va_up_self]) rfl rfl dX12_read_125 (fun sg_11 H locs esg_11 hP hD hS => ?_)
      have hI_sg_11 := CI_put hI_sg_9 esg_11 (iv_k (by decide) : iv 0 0 0) (by decide)
      refine ec_aload_n hx hb dX12_read_128 rfl (lv_at hl 0 rfl) ?_
      refine cr_get (t := 0) (j := 5) (C := RX12) (T := TX12) (N := 12) (v := eV (ad 4) 0) hx hb htb inX12 hown hK hP hsx0_84 (by decide) (by decide) (by decide) rfl (by decide) (htb _ kw_422) (cV_c rfl (by decide) (by rw [show cMu 0 5 = 0 from rfl, Nat.zero_mul]; rfl)) dX12_read_129 ?_
      refine cm_callTV (t := 4) (C := RX10) (T := TX10) (N := 4) (rest := []) (as := []) ⟨hx, hb, hml, hown, htb⟩ (d_countWi l dC dI ad cid a2_j84 lx_j84 sg_11 gm_j84 lg_j84 0 hI_sg_11 (iv_k (by decide) : iv 0 0 0)) (cwV 0 htb (gd_V kw_524 kw_493 kw_494 kw_153 kw_1406) rfl rfl rfl (by decide +kernel) ⟨Nat.le_of_ble_eq_true rfl, Nat.le_of_ble_eq_true rfl⟩) (iv_k (by decide) : iv 0 0 0) (by decide) (by decide) rfl rfl hl.1 rfl (Nat.le_trans cs_n (by decide)) dX12_read_132 ⟨Nat.le_trans (gc_le hI_j84) (Nat.le_of_ble_eq_true rfl), Nat.le_trans (gs_le hI_j84) (Nat.le_of_ble_eq_true rfl)⟩ hK hP hD hS hA hG (fun E ce q9 u_13 H locs hw hP hD hS hce hcv hcl => ?_) (fun v9 u_13 H locs hw hP hD hS => ?_)
      · exact hw.elim
      obtain ⟨r_12, rfl, rfl, hr_12, fr_r_12⟩ := hw
      have hP : va_P (dC, dI) vwCl (cW ad cid a2_j84 lx_j84 sg_11 gm_j84 lg_j84) H := hP
      have hD : va_D A (cW ad cid a2_j84 lx_j84 sg_11 gm_j84 lg_j84) := hD
      refine W.eq (g2 := F0 m 135 ls [.int r_12]) rfl ?_
      exact W.nb (fun hN => W.widen (k := 304802) (n := 1219333) (Nat.le_trans (gc_l0 (gm := gm) (k := 1) hI_j84) (Nat.le_of_ble_eq_true rfl)) (Nat.le_trans (gs_l0 (gm := gm) (k := 1) hI_j84) (Nat.le_of_ble_eq_true rfl)) (vx_ret (W.iret (v := r_12) hx hb hr (fun t ht hW => ⟨⟨some (.int r_12), (a2_j84, lx_j84, sg_11, gm_j84, lg_j84), rfl, ⟨r_12, rfl, a2_j84, lx_j84, sg_11, gm_j84, lg_j84, rfl, hI_sg_11, (KS_up (KS_up (KS_tr (L := [0, 1, 2, 3, 4, 5, 6, 7, 8, 9, 10, 11, 12, 13, 14, 15]) KS_rf hks_j84 (by decide)) esg_9 (by decide)) esg_11 (by decide)), (KS_tr (L := [11, 12, 13, 14, 15, 16, 17, 18, 19, 20, 21, 22, 23, 24, 25, 26, 27, 29, 30, 31, 32, 33, 34, 35, 36, 37, 38, 39, 40, 41, 42, 44, 45, 46, 47, 56, 57]) KS_rf hkg_j84 (by decide)), (KS_tr (L := [0, 1, 2, 3, 4, 5, 6, 7]) KS_rf hkl_j84 (by decide)), hr_12, (hU12d), (hU18d), (hLDd), ((by rw [(show sg_11 15 = sg_j84 15 from (Eq.trans (up_ne esg_11 (by decide)) (up_ne esg_9 (by decide))))]; exact h15d)), (WRM_e (hWd (by have := i32_0; have := i32_1; have := i32_2; have := i32_m1; have := congrArg Int32.toInt (show sg_11 3 = sg_9 3 from up_ne esg_11 (by decide)); have := congrArg Int32.toInt (show sg_9 3 = sg_j84 3 from up_ne esg_9 (by decide)); have := (show iv (-1) 1201 (sg_j84 3) from CI_s hI_j84 3).1; have := (show iv (-1) 1201 (sg_j84 3) from CI_s hI_j84 3).2; have := (show iv (-1) 1201 (sg 3) from CI_s hI 3).1; have := (show iv (-1) 1201 (sg 3) from CI_s hI 3).2; have := (hsx0_84).1; have := (hsx0_84).2; have := (h_8).1; have := (h_8).2; have := (hr_12).1; have := (hr_12).2; omega)) (show sg_11 4 = sg_j84 4 from (Eq.trans (up_ne esg_11 (by decide)) (up_ne esg_9 (by decide)))) (show sg_11 12 = sg_j84 12 from (Eq.trans (up_ne esg_11 (by decide)) (up_ne esg_9 (by decide))))), ((by rw [(show sg_11 13 = sg_j84 13 from (Eq.trans (up_ne esg_11 (by decide)) (up_ne esg_9 (by decide))))]; exact h13d)), ((by rw [(show sg_11 14 = sg_j84 14 from (Eq.trans (up_ne esg_11 (by decide)) (up_ne esg_9 (by decide))))]; exact h14d)), (by have := i32_0; have := i32_1; have := i32_2; have := i32_m1; have := congrArg Int32.toInt (show sg_11 1 = sg_9 1 from up_ne esg_11 (by decide)); have : (sg_9 1).toInt = 1 := (by rw [up_at esg_9]; rfl); have := (hsx0_84).1; have := (hsx0_84).2; have := (h_8).1; have := (h_8).2; have := (hr_12).1; have := (hr_12).2; omega), (by have := i32_0; have := i32_1; have := i32_2; have := i32_m1; have := congrArg Int32.toInt (show sg_11 0 = sg_9 0 from up_ne esg_11 (by decide)); have := congrArg Int32.toInt (show sg_9 0 = sg_j84 0 from up_ne esg_9 (by decide)); have := (show iv 0 1200 (sg_j84 0) from CI_s hI_j84 0).1; have := (show iv 0 1200 (sg_j84 0) from CI_s hI_j84 0).2; have := (show iv 0 1200 (sg 0) from CI_s hI 0).1; have := (show iv 0 1200 (sg 0) from CI_s hI 0).2; have := (hsx0_84).1; have := (hsx0_84).2; have := (h_8).1; have := (h_8).2; have := (hr_12).1; have := (hr_12).2; omega), ((by obtain ⟨_, a1, a2, a3⟩ := qD.resolve_left (fun q8 => q8.1 (by have := i32_0; have := i32_1; have := i32_2; have := i32_m1; have := congrArg Int32.toInt (show sg_11 3 = sg_9 3 from up_ne esg_11 (by decide)); have := congrArg Int32.toInt (show sg_9 3 = sg_j84 3 from up_ne esg_9 (by decide)); have := (show iv (-1) 1201 (sg_j84 3) from CI_s hI_j84 3).1; have := (show iv (-1) 1201 (sg_j84 3) from CI_s hI_j84 3).2; have := (show iv (-1) 1201 (sg 3) from CI_s hI 3).1; have := (show iv (-1) 1201 (sg 3) from CI_s hI 3).2; have := (hsx0_84).1; have := (hsx0_84).2; have := (h_8).1; have := (h_8).2; have := (hr_12).1; have := (hr_12).2; omega)); exact ⟨a1, (by have := congrArg Int32.toInt fr_r_12; have := i32_0; have := i32_1; have := i32_2; have := i32_m1; have := congrArg Int32.toInt (show sg_11 12 = sg_9 12 from up_ne esg_11 (by decide)); have := congrArg Int32.toInt (show sg_9 12 = sg_j84 12 from up_ne esg_9 (by decide)); have := (show iv 0 80 (sg_j84 12) from CI_s hI_j84 12).1; have := (show iv 0 80 (sg_j84 12) from CI_s hI_j84 12).2; have := (show iv 0 80 (sg 12) from CI_s hI 12).1; have := (show iv 0 80 (sg 12) from CI_s hI 12).2; have := (hsx0_84).1; have := (hsx0_84).2; have := (h_8).1; have := (h_8).2; have := (hr_12).1; have := (hr_12).2; omega), CLD_s a3 (Eq.trans (up_ne esg_11 (by decide)) (up_ne esg_9 (by decide))) (Eq.trans (up_ne esg_11 (by decide)) (up_ne esg_9 (by decide))) (Eq.trans (up_ne esg_11 (by decide)) (up_ne esg_9 (by decide))) (Eq.trans (up_ne esg_11 (by decide)) (up_ne esg_9 (by decide)))⟩))⟩, ⟨by rw [ht]; exact hP, va_K.moved hW.alike hK, hD⟩, hm_j84, by rw [ht]; exact hN⟩, hS.F ht⟩) hS.2.2 dX12_read_135)))
  have hj60 : ∀ (sg_j60 : Nat → Int32) (gm_j60 : Nat → Nat → Int32) (lg_j60 : Nat → Nat → Int64) (_ : iv 0 0 x) (_ : KS [0, 2, 3, 4, 5, 6, 7, 8, 9, 10, 11, 13, 14, 15] sg sg_j60) (_ : KS [11, 12, 13, 14, 15, 16, 17, 18, 19, 20, 21, 22, 23, 24, 25, 26, 27, 38, 44, 45, 46, 56] gm gm_j60) (_ : KS [0, 1, 2, 3] lg lg_j60) (_ : CI sg_j60 gm_j60) (_ : UB 12 (K9 + 1203) gm_j60) (_ : UB 18 (K9 + 1203) gm_j60) (_ : LDI lx gm_j60) (_ : (sg_j60 15).toInt = 0) (_ : (sg_j60 3).toInt = -1 → RDK sg_j60 gm_j60 ∧ ∀ j9, j9 < (sg_j60 4).toNatClampNeg → SOK gm_j60 lg_j60 j9) (_ : (sg_j60 13).toInt = 0) (_ : (sg_j60 14).toInt = 0) (_ : (sg_j60 0).toInt = 0) (_ : (¬ (sg_j60 3).toInt = -1 ∧ ¬ ACQ ch N9) ∨ ((sg_j60 3).toInt = -1 ∧ sDoc ch N9 = some (dD ch N9) ∧ RDC (dD ch N9) sg_j60 gm_j60 lg_j60 ∧ ∀ j, j < (dD ch N9).length → GOODC (dD ch N9) j)) (_ : PHs gm ≤ PHs gm_j60) (H : Heap) (locs : List Loc) (ls : Array Slot), va_P (dC, dI) vwCl (cW ad cid a2 lx sg_j60 gm_j60 lg_j60) H → va_D A (cW ad cid a2 lx sg_j60 gm_j60 lg_j60) → va_S A s.heap H locs → lv_has ls 1 [(0, eV (ad 0) x)] → W p l e (headSpec wm_X12_read ({ frames := 16, cells := 304802, slots := 1219333, locals := 381 })).room s m ([eV (ad 0) x] : List Value).toArray below meth c H locs (gc gm gm_j60 1) (gs gm gm_j60 1) (vx_MQ below (cQg dC dI ad cid (fun v u => ∃ r : Int32, v = some (.int r) ∧ ∃ (a22 : Nat → Nat) (lx2 : List Nat), ∃ (sg2 : Nat → Int32) (gm2 : Nat → Nat → Int32) (lg2 : Nat → Nat → Int64), u = (a22, lx2, sg2, gm2, lg2) ∧ CI sg2 gm2 ∧ KS [0, 1, 2, 3, 4, 5, 6, 7, 8, 9, 10, 11, 12, 13, 14, 15] sg sg2 ∧ KS [11, 12, 13, 14, 15, 16, 17, 18, 19, 20, 21, 22, 23, 24, 25, 26, 27, 29, 30, 31, 32, 33, 34, 35, 36, 37, 38, 39, 40, 41, 42, 44, 45, 46, 47, 56, 57] gm gm2 ∧ KS [0, 1, 2, 3, 4, 5, 6, 7] lg lg2 ∧ (iv 0 80 r) ∧ (UB 12 (K9 + 1203) gm2) ∧ (UB 18 (K9 + 1203) gm2) ∧ (LDI lx2 gm2) ∧ ((sg2 15).toInt = 0) ∧ (WRM sg2 gm2 lg2) ∧ ((sg2 13).toInt = 0) ∧ ((sg2 14).toInt = 0) ∧ (¬ (sg2 1).toInt = 0) ∧ ((sg2 0).toInt = 0) ∧ (ACQ ch N9 ∧ r.toInt = (nbD (dD ch N9) : Int) ∧ CLD (dD ch N9) sg2 gm2 lg2)) 1 gm A) (cXg dC dI ad cid (fun E u => (E = "java/lang/IllegalArgumentException") ∧ ∃ (a22 : Nat → Nat) (lx2 : List Nat), ∃ (sg2 : Nat → Int32) (gm2 : Nat → Nat → Int32) (lg2 : Nat → Nat → Int64), u = (a22, lx2, sg2, gm2, lg2) ∧ CI sg2 gm2 ∧ KS [0, 1, 2, 3, 4, 5, 6, 7, 8, 9, 10, 11, 12, 13, 14, 15] sg sg2 ∧ KS [11, 12, 13, 14, 15, 16, 17, 18, 19, 20, 21, 22, 23, 24, 25, 26, 27, 29, 30, 31, 32, 33, 34, 35, 36, 37, 38, 39, 40, 41, 42, 44, 45, 46, 47, 56, 57] gm gm2 ∧ KS [0, 1, 2, 3, 4, 5, 6, 7] lg lg2 ∧ (UB 12 (K9 + 1203) gm2) ∧ (UB 18 (K9 + 1203) gm2) ∧ (LDI lx2 gm2) ∧ ((sg2 15).toInt = 0) ∧ ((sg2 12).toInt = 0) ∧ ((sg2 1).toInt = 0) ∧ ((sg2 13).toInt = 0) ∧ ((sg2 14).toInt = 0) ∧ ((sg2 0).toInt = 0) ∧ (¬ ACQ ch N9)) 1 gm A) ([eV (ad 0) x] : List Value).toArray s 304802 1219333 A) (F0 m 60 ls []) := by
    intro sg_j60 gm_j60 lg_j60 hsx0_60 hks_j60 hkg_j60 hkl_j60 hI_j60 hU12c hU18c hLDc h15c hRc h13c h14c hZc qC hm_j60 H locs ls hP hD hS hl
    refine ec_aload_n hx hb dX12_read_60 rfl (lv_at hl 0 rfl) ?_
    refine cr_get (t := 0) (j := 11) (C := RX12) (T := TX12) (N := 12) (v := .int (sg_j60 3)) hx hb htb inX12 hown hK hP hsx0_60 (by decide) (by decide) (by decide) rfl (by decide) (htb _ kw_428) rfl dX12_read_61 ?_
    refine lv_iconst (v := (-1)) hx hb dX12_read_64 (by decide) ?_
    refine lv_icmp_ne (tgt := 84) hx hb dX12_read_65 (by decide) (fun c_15 => ?_) (fun c_15 => ?_)
    · have h_16 : iv 0 1201 (sg_j60 3) := iv_neL c_15 (show iv (-1) 1201 (sg_j60 3) from CI_s hI_j60 3) (by decide)
      exact hj84 a2 lx sg_j60 gm_j60 lg_j60 hsx0_60 (KS_tr (L := [0, 2, 3, 4, 5, 6, 7, 8, 9, 10, 11, 12, 13, 14, 15]) KS_rf hks_j60 (by decide)) (KS_tr (L := [11, 12, 13, 14, 15, 16, 17, 18, 19, 20, 21, 22, 23, 24, 25, 26, 27, 29, 30, 31, 32, 33, 34, 35, 36, 37, 38, 39, 40, 41, 42, 44, 45, 46, 47, 56, 57]) KS_rf hkg_j60 (by decide)) (KS_tr (L := [0, 1, 2, 3, 4, 5, 6, 7]) KS_rf hkl_j60 (by decide)) hI_j60 (hU12c) (hU18c) (hLDc) (h15c) (fun q9 => absurd q9 (by have := i32_0; have := i32_1; have := i32_2; have := i32_m1; have := (show iv (-1) 1201 (sg_j60 3) from CI_s hI_j60 3).1; have := (show iv (-1) 1201 (sg_j60 3) from CI_s hI_j60 3).2; have := (show iv (-1) 1201 (sg 3) from CI_s hI 3).1; have := (show iv (-1) 1201 (sg 3) from CI_s hI 3).2; have := (hsx0_60).1; have := (hsx0_60).2; have := (h_16).1; have := (h_16).2; omega)) (h13c) (h14c) (by have := i32_0; have := i32_1; have := i32_2; have := i32_m1; have := (show iv 0 1200 (sg_j60 0) from CI_s hI_j60 0).1; have := (show iv 0 1200 (sg_j60 0) from CI_s hI_j60 0).2; have := (show iv 0 1200 (sg 0) from CI_s hI 0).1; have := (show iv 0 1200 (sg 0) from CI_s hI 0).2; have := (hsx0_60).1; have := (hsx0_60).2; have := (h_16).1; have := (h_16).2; omega) (Or.inl (qC.resolve_right (fun q8 => absurd q8.1 (by have := i32_0; have := i32_1; have := i32_2; have := i32_m1; have := (show iv (-1) 1201 (sg_j60 3) from CI_s hI_j60 3).1; have := (show iv (-1) 1201 (sg_j60 3) from CI_s hI_j60 3).2; have := (show iv (-1) 1201 (sg 3) from CI_s hI 3).1; have := (show iv (-1) 1201 (sg 3) from CI_s hI 3).2; have := (hsx0_60).1; have := (hsx0_60).2; have := (h_16).1; have := (h_16).2; omega)))) hm_j60 _ _ _ hP hD hS (lv_sub hl [0] rfl)
    · have h_17 : iv (-1) (-1) (sg_j60 3) := iv_eq c_15 (show iv (-1) 1201 (sg_j60 3) from CI_s hI_j60 3) (iv_k (by decide) : iv (-1) (-1) (-1)) (by decide)
      have hrk2 := hRc (by have := i32_0; have := i32_1; have := i32_2; have := i32_m1; have := (show iv (-1) 1201 (sg_j60 3) from CI_s hI_j60 3).1; have := (show iv (-1) 1201 (sg_j60 3) from CI_s hI_j60 3).2; have := (show iv (-1) 1201 (sg 3) from CI_s hI 3).1; have := (show iv (-1) 1201 (sg 3) from CI_s hI 3).2; have := (hsx0_60).1; have := (hsx0_60).2; have := (h_17).1; have := (h_17).2; omega)
      obtain ⟨_, hs9, hR9, hG9⟩ := qC.resolve_left (fun q8 => q8.1 (by have := i32_0; have := i32_1; have := i32_2; have := i32_m1; have := (show iv (-1) 1201 (sg_j60 3) from CI_s hI_j60 3).1; have := (show iv (-1) 1201 (sg_j60 3) from CI_s hI_j60 3).2; have := (show iv (-1) 1201 (sg 3) from CI_s hI 3).1; have := (show iv (-1) 1201 (sg 3) from CI_s hI 3).2; have := (hsx0_60).1; have := (hsx0_60).2; have := (h_17).1; have := (h_17).2; omega))
      refine ec_aload_n hx hb dX12_read_68 rfl (lv_at hl 0 rfl) ?_
      refine lv_iconst (v := 3) hx hb dX12_read_69 (by decide) ?_
      refine cr_puts (t := 0) (j := 10) (C := RX12) (T := TX12) (N := 12) (ty0 := tyX12) (k := 2) (y := 3) hx hb htb inX12 tyX12_ok nmX12 hown hK hP hD hS hsx0_60 (by decide) (by decide) (by decide) (by decide) rfl rfl rfl (by decide) (htb _ kw_427) rfl (by show Value.int 3 = Value.int (va_up sg_j60 2 3 2); rw [va_up_self]) rfl rfl dX12_read_70 (fun sg_18 H locs esg_18 hP hD hS => ?_)
      have hI_sg_18 := CI_put hI_j60 esg_18 (iv_k (by decide) : iv 3 3 3) (by decide)
      refine ec_aload_n hx hb dX12_read_73 rfl (lv_at hl 0 rfl) ?_
      refine ec_aload_n hx hb dX12_read_74 rfl (lv_at hl 0 rfl) ?_
      refine cr_get (t := 0) (j := 5) (C := RX12) (T := TX12) (N := 12) (v := eV (ad 4) 0) hx hb htb inX12 hown hK hP hsx0_60 (by decide) (by decide) (by decide) rfl (by decide) (htb _ kw_422) (cV_c rfl (by decide) (by rw [show cMu 0 5 = 0 from rfl, Nat.zero_mul]; rfl)) dX12_read_75 ?_
      refine cm_callGV (t := 4) (C := RX10) (T := TX10) (N := 4) (rest := [eV (ad 0) x]) (as := []) ⟨hx, hb, hml, hown, htb⟩ (d_firstWrongW9 l dC dI ad cid a2 lx sg_18 gm_j60 lg_j60 0 (dD ch N9) hI_sg_18 (iv_k (by decide) : iv 0 0 0) (((RDK_e hrk2.1 (show sg_18 4 = sg_j60 4 from (up_ne esg_18 (by decide))) (show sg_18 5 = sg_j60 5 from (up_ne esg_18 (by decide))) (show sg_18 6 = sg_j60 6 from (up_ne esg_18 (by decide))) rfl rfl rfl rfl rfl rfl rfl rfl)).1) (((RDK_e hrk2.1 (show sg_18 4 = sg_j60 4 from (up_ne esg_18 (by decide))) (show sg_18 5 = sg_j60 5 from (up_ne esg_18 (by decide))) (show sg_18 6 = sg_j60 6 from (up_ne esg_18 (by decide))) rfl rfl rfl rfl rfl rfl rfl rfl)).2.1) (((RDK_e hrk2.1 (show sg_18 4 = sg_j60 4 from (up_ne esg_18 (by decide))) (show sg_18 5 = sg_j60 5 from (up_ne esg_18 (by decide))) (show sg_18 6 = sg_j60 6 from (up_ne esg_18 (by decide))) rfl rfl rfl rfl rfl rfl rfl rfl)).2.2.1) hLDc (((RDK_e hrk2.1 (show sg_18 4 = sg_j60 4 from (up_ne esg_18 (by decide))) (show sg_18 5 = sg_j60 5 from (up_ne esg_18 (by decide))) (show sg_18 6 = sg_j60 6 from (up_ne esg_18 (by decide))) rfl rfl rfl rfl rfl rfl rfl rfl)).2.2.2) (fun j9 q9 => SOK_e (hrk2.2 j9 (by rw [← (show sg_18 4 = sg_j60 4 from (up_ne esg_18 (by decide)))]; exact q9)) rfl rfl rfl rfl rfl rfl rfl rfl) (RDC_k hR9 (up_ne esg_18 (by decide)) (up_ne esg_18 (by decide)) (up_ne esg_18 (by decide)) (fun k hk => by rcases hk with rfl | rfl | rfl | rfl | rfl | rfl | rfl | rfl | rfl | rfl | rfl | rfl | rfl | rfl; exact rfl; exact rfl; exact rfl; exact rfl; exact rfl; exact rfl; exact rfl; exact rfl; exact rfl; exact rfl; exact rfl; exact rfl; exact rfl; exact rfl) rfl rfl) (fun j hj => RDC_n1 (RDC_k hR9 (up_ne esg_18 (by decide)) (up_ne esg_18 (by decide)) (up_ne esg_18 (by decide)) (fun k hk => by rcases hk with rfl | rfl | rfl | rfl | rfl | rfl | rfl | rfl | rfl | rfl | rfl | rfl | rfl | rfl; exact rfl; exact rfl; exact rfl; exact rfl; exact rfl; exact rfl; exact rfl; exact rfl; exact rfl; exact rfl; exact rfl; exact rfl; exact rfl; exact rfl) rfl rfl) hj)) (cwV 0 htb (gd_V kw_746 kw_747 kw_748 kw_153 kw_1491) rfl rfl rfl (by decide +kernel) ⟨Nat.le_of_ble_eq_true rfl, Nat.le_of_ble_eq_true rfl⟩) (iv_k (by decide) : iv 0 0 0) (by decide) (by decide) rfl rfl hl.1 rfl (Nat.le_trans (cs_c (eV_cat _ _) cs_n) (by decide)) dX12_read_78 ⟨Nat.le_trans (gc_le hI_j60) (Nat.le_of_ble_eq_true rfl), Nat.le_trans (gs_le hI_j60) (Nat.le_of_ble_eq_true rfl)⟩ hK hP hD hS hA hG (fun E ce q9 u_20 H locs hw hmu hP hD hS hce hcv hcl => ?_) (fun v9 u_20 H locs hw hmu hP hD hS => ?_)
      · exact hw.elim
      obtain ⟨r_19, rfl, a2v_21, lxv_21, sgv_21, gmv_21, lgv_21, rfl, hIv_21, ksv_21, kgv_21, klv_21, hr_19, fLD_r_19, fW_r_19, fB_r_19, fCD_r_19⟩ := hw
      have hP : va_P (dC, dI) vwCl (cW ad cid a2v_21 lxv_21 sgv_21 gmv_21 lgv_21) H := hP
      have hD : va_D A (cW ad cid a2v_21 lxv_21 sgv_21 gmv_21 lgv_21) := hD
      have hmu : PHs gm_j60 ≤ PHs gmv_21 := hmu
      rw [show (gc gm gm_j60 1 + gc gm_j60 gmv_21 0) = gc gm gmv_21 1 from gc_t hm_j60 hmu, show (gs gm gm_j60 1 + gs gm_j60 gmv_21 0) = gs gm gmv_21 1 from gs_t hm_j60 hmu]
      have hm_22 : PHs gm ≤ PHs gmv_21 := Nat.le_trans hm_j60 hmu
      refine W.eq (g2 := F0 m 81 ls [.int r_19, eV (ad 0) x]) rfl ?_
      refine cr_puts (t := 0) (j := 11) (C := RX12) (T := TX12) (N := 12) (ty0 := tyX12) (k := 3) (y := r_19) hx hb htb inX12 tyX12_ok nmX12 hown hK hP hD hS hsx0_60 (by decide) (by decide) (by decide) (by decide) rfl rfl rfl (by decide) (htb _ kw_428) rfl (by show Value.int r_19 = Value.int (va_up sgv_21 3 r_19 3); rw [va_up_self]) rfl rfl dX12_read_81 (fun sg_23 H locs esg_23 hP hD hS => ?_)
      have hI_sg_23 := CI_put hIv_21 esg_23 hr_19 (by decide)
      exact hj84 a2v_21 lxv_21 sg_23 gmv_21 lgv_21 hsx0_60 (KS_up (KS_tr (L := [0, 2, 3, 4, 5, 6, 7, 8, 9, 10, 11, 12, 13, 14, 15]) (KS_up (KS_tr (L := [0, 2, 3, 4, 5, 6, 7, 8, 9, 10, 11, 12, 13, 14, 15]) KS_rf hks_j60 (by decide)) esg_18 (by decide)) ksv_21 (by decide)) esg_23 (by decide)) (KS_tr (L := [11, 12, 13, 14, 15, 16, 17, 18, 19, 20, 21, 22, 23, 24, 25, 26, 27, 29, 30, 31, 32, 33, 34, 35, 36, 37, 38, 39, 40, 41, 42, 44, 45, 46, 47, 56, 57]) (KS_tr (L := [11, 12, 13, 14, 15, 16, 17, 18, 19, 20, 21, 22, 23, 24, 25, 26, 27, 29, 30, 31, 32, 33, 34, 35, 36, 37, 38, 39, 40, 41, 42, 44, 45, 46, 47, 56, 57]) KS_rf hkg_j60 (by decide)) kgv_21 (by decide)) (KS_tr (L := [0, 1, 2, 3, 4, 5, 6, 7]) (KS_tr (L := [0, 1, 2, 3, 4, 5, 6, 7]) KS_rf hkl_j60 (by decide)) klv_21 (by decide)) hI_sg_23 ((UB_k hU12c (show gmv_21 12 = gm_j60 12 from (kgv_21 12 (by decide))) (Nat.le_refl _))) ((UB_k hU18c (show gmv_21 18 = gm_j60 18 from (kgv_21 18 (by decide))) (Nat.le_refl _))) (fLD_r_19) ((by rw [(show sg_23 15 = sg_j60 15 from (Eq.trans (up_ne esg_23 (by decide)) (Eq.trans (ksv_21 15 (by decide)) (up_ne esg_18 (by decide)))))]; exact h15c)) (fun q9 => WRM_e (fW_r_19 (by have := i32_0; have := i32_1; have := i32_2; have := i32_m1; have := congrArg Int32.toInt (show sg_23 3 = r_19 from up_at esg_23); have := (hr_19).1; have := (hr_19).2; have := (hsx0_60).1; have := (hsx0_60).2; have := (h_17).1; have := (h_17).2; omega)) (show sg_23 4 = sgv_21 4 from (up_ne esg_23 (by decide))) (show sg_23 12 = sgv_21 12 from (up_ne esg_23 (by decide)))) ((by rw [(show sg_23 13 = sg_j60 13 from (Eq.trans (up_ne esg_23 (by decide)) (Eq.trans (ksv_21 13 (by decide)) (up_ne esg_18 (by decide)))))]; exact h13c)) ((by rw [(show sg_23 14 = sg_j60 14 from (Eq.trans (up_ne esg_23 (by decide)) (Eq.trans (ksv_21 14 (by decide)) (up_ne esg_18 (by decide)))))]; exact h14c)) (by have := i32_0; have := i32_1; have := i32_2; have := i32_m1; have := congrArg Int32.toInt (show sg_23 0 = sgv_21 0 from up_ne esg_23 (by decide)); have := congrArg Int32.toInt (show sgv_21 0 = sg_18 0 from ksv_21 0 (by decide)); have := congrArg Int32.toInt (show sg_18 0 = sg_j60 0 from up_ne esg_18 (by decide)); have := (show iv 0 1200 (sg_j60 0) from CI_s hI_j60 0).1; have := (show iv 0 1200 (sg_j60 0) from CI_s hI_j60 0).2; have := (show iv 0 1200 (sg 0) from CI_s hI 0).1; have := (show iv 0 1200 (sg 0) from CI_s hI 0).2; have := (hsx0_60).1; have := (hsx0_60).2; have := (h_17).1; have := (h_17).2; have := (hr_19).1; have := (hr_19).2; omega) (fB_r_19.elim (fun q => Or.inr ⟨by have := i32_0; have := i32_1; have := i32_2; have := i32_m1; have := congrArg Int32.toInt (show sg_23 3 = r_19 from up_at esg_23); have := (hr_19).1; have := (hr_19).2; have := (hsx0_60).1; have := (hsx0_60).2; have := (h_17).1; have := (h_17).2; have := q.1; omega, ⟨hs9, hG9, q.2.1⟩, (by have := q.2.2; have := i32_0; have := i32_1; have := i32_2; have := i32_m1; have := congrArg Int32.toInt (show sg_23 12 = sgv_21 12 from up_ne esg_23 (by decide)); have := (show iv 0 80 (sgv_21 12) from CI_s hIv_21 12).1; have := (show iv 0 80 (sgv_21 12) from CI_s hIv_21 12).2; have := congrArg Int32.toInt (show sg_18 12 = sg_j60 12 from up_ne esg_18 (by decide)); have := congrArg Int32.toInt (show sg_j60 12 = sg 12 from hks_j60 12 (by decide)); have := (show iv 0 80 (sg 12) from CI_s hI 12).1; have := (show iv 0 80 (sg 12) from CI_s hI 12).2; have := (hsx0_60).1; have := (hsx0_60).2; have := (h_17).1; have := (h_17).2; have := (hr_19).1; have := (hr_19).2; omega), CLD_s (fCD_r_19 q.1) (up_ne esg_23 (by decide)) (up_ne esg_23 (by decide)) (up_ne esg_23 (by decide)) (up_ne esg_23 (by decide))⟩) (fun q => Or.inl ⟨by have := i32_0; have := i32_1; have := i32_2; have := i32_m1; have := congrArg Int32.toInt (show sg_23 3 = r_19 from up_at esg_23); have := (hr_19).1; have := (hr_19).2; have := (hsx0_60).1; have := (hsx0_60).2; have := (h_17).1; have := (h_17).2; have := q.1; omega, fun h => q.2 h.2.2⟩)) hm_22 _ _ _ hP hD hS (lv_sub hl [0] rfl)
  refine ec_aload_n hx hb dX12_read_0 rfl (lv_at hl 0 rfl) ?_
  refine cr_get (t := 0) (j := 7) (C := RX12) (T := TX12) (N := 12) (v := eV (ad 6) 0) hx hb htb inX12 hown hK hP hvx (by decide) (by decide) (by decide) rfl (by decide) (htb _ kw_424) (cV_c rfl (by decide) (by rw [show cMu 0 7 = 0 from rfl, Nat.zero_mul]; rfl)) dX12_read_1 ?_
  refine cm_callTV (t := 6) (C := RX5) (T := TX5) (N := 13) (rest := []) (as := []) ⟨hx, hb, hml, hown, htb⟩ (d_startAfreshA l dC dI ad cid a2 lx sg gm lg 0 hI (iv_k (by decide) : iv 0 0 0)) (cwV 0 htb (gd_V kw_538 kw_539 kw_540 kw_159 kw_1421) rfl rfl rfl (by decide +kernel) ⟨Nat.le_of_ble_eq_true rfl, Nat.le_of_ble_eq_true rfl⟩) (iv_k (by decide) : iv 0 0 0) (by decide) (by decide) rfl rfl hl.1 rfl (Nat.le_trans cs_n (by decide)) dX12_read_4 ⟨Nat.le_trans (gc_le hI) (Nat.le_of_ble_eq_true rfl), Nat.le_trans (gs_le hI) (Nat.le_of_ble_eq_true rfl)⟩ hK hP hD hS hA hG (fun E ce q9 u_25 H locs hw hP hD hS hce hcv hcl => ?_) (fun v9 u_25 H locs hw hP hD hS => ?_)
  · exact hw.elim
  obtain ⟨rfl, sgv_26, gmv_26, lgv_26, rfl, hIv_26, ksv_26, kgv_26, klv_26, fM_r_24, f15_r_24, f14_r_24, f13_r_24⟩ := hw
  obtain rfl := KS_nil klv_26
  have hP : va_P (dC, dI) vwCl (cW ad cid a2 lx sgv_26 gmv_26 lg) H := hP
  have hD : va_D A (cW ad cid a2 lx sgv_26 gmv_26 lg) := hD
  refine W.eq (g2 := F0 m 7 ls []) rfl ?_
  refine ec_aload_n hx hb dX12_read_7 rfl (lv_at hl 0 rfl) ?_
  refine lv_iconst (v := 1) hx hb dX12_read_8 (by decide) ?_
  refine cr_puts (t := 0) (j := 10) (C := RX12) (T := TX12) (N := 12) (ty0 := tyX12) (k := 2) (y := 1) hx hb htb inX12 tyX12_ok nmX12 hown hK hP hD hS hvx (by decide) (by decide) (by decide) (by decide) rfl rfl rfl (by decide) (htb _ kw_427) rfl (by show Value.int 1 = Value.int (va_up sgv_26 2 1 2); rw [va_up_self]) rfl rfl dX12_read_9 (fun sg_27 H locs esg_27 hP hD hS => ?_)
  have hI_sg_27 := CI_put hIv_26 esg_27 (iv_k (by decide) : iv 1 1 1) (by decide)
  refine ec_aload_n hx hb dX12_read_12 rfl (lv_at hl 0 rfl) ?_
  refine ec_aload_n hx hb dX12_read_13 rfl (lv_at hl 0 rfl) ?_
  refine cr_get (t := 0) (j := 3) (C := RX12) (T := TX12) (N := 12) (v := eV (ad 2) 0) hx hb htb inX12 hown hK hP hvx (by decide) (by decide) (by decide) rfl (by decide) (htb _ kw_420) (cV_c rfl (by decide) (by rw [show cMu 0 3 = 0 from rfl, Nat.zero_mul]; rfl)) dX12_read_14 ?_
  refine ec_aload_n hx hb dX12_read_17 rfl (lv_at hl 0 rfl) ?_
  refine cr_get (t := 0) (j := 1) (C := RX12) (T := TX12) (N := 12) (v := eV (ad 13) 0) hx hb htb inX12 hown hK hP hvx (by decide) (by decide) (by decide) rfl (by decide) (htb _ kw_418) (cV_c rfl (by decide) (by rw [show cMu 0 1 = 0 from rfl, Nat.zero_mul]; rfl)) dX12_read_18 ?_
  refine ec_aload_n hx hb dX12_read_21 rfl (lv_at hl 0 rfl) ?_
  refine cr_get (t := 0) (j := 8) (C := RX12) (T := TX12) (N := 12) (v := .int (sg_27 0)) hx hb htb inX12 hown hK hP hvx (by decide) (by decide) (by decide) rfl (by decide) (htb _ kw_425) rfl dX12_read_22 ?_
  refine W.eq (g2 := F0 m 25 ls [.int (sg 0), eV (ad 13) 0, eV (ad 2) 0, eV (ad 0) x]) (by rw [show sg_27 0 = sg 0 from (Eq.trans (up_ne esg_27 (by decide)) (ksv_26 0 (by decide)))]) ?_
  refine W.widen (k := gc gm gmv_26 0) (n := gs gm gmv_26 0) (gc_e (show gmv_26 42 = gm 42 from (kgv_26 42 (by decide))) (by decide)) (gs_e (show gmv_26 42 = gm 42 from (kgv_26 42 (by decide))) (by decide)) ?_
  have hm_28 : PHs gm ≤ PHs gmv_26 := by rw [PHs_e (show gmv_26 42 = gm 42 from (kgv_26 42 (by decide)))]; exact (Nat.le_refl _)
  refine cm_callGVX (t := 2) (C := RX7) (T := TX7) (N := 6) (rest := [eV (ad 0) x]) (as := [eV (ad 13) 0, .int (sg 0)]) ⟨hx, hb, hml, hown, htb⟩ (d_firstWrongR2 l dC dI ad cid a2 lx sg_27 gmv_26 lg hl9 0 0 (sg 0) ch N9 K9 hI_sg_27 (iv_k (by decide) : iv 0 0 0) (iv_k (by decide) : iv 0 0 0) (show iv 0 1200 (sg 0) from CI_s hI 0) (UB_k hU12 (show gmv_26 12 = gm 12 from (kgv_26 12 (by decide))) (Nat.le_refl _)) (UB_k hU18 (show gmv_26 18 = gm 18 from (kgv_26 18 (by decide))) (Nat.le_refl _)) hK9 (CHR_k hch0 rfl (kgv_26 43 (by decide)))) (vx_cwVW 2 htb (gd_V kw_544 kw_545 kw_546 kw_151 kw_1423) rfl rfl rfl (by decide +kernel) ⟨Nat.le_of_ble_eq_true rfl, Nat.le_of_ble_eq_true rfl⟩) (iv_k (by decide) : iv 0 0 0) (by decide) (by decide) rfl rfl hl.1 rfl (Nat.le_trans (cs_c (eV_cat _ _) cs_n) (by decide)) dX12_read_25 ⟨Nat.le_trans (gc_le hI_sg_27) (Nat.le_of_ble_eq_true rfl), Nat.le_trans (gs_le hI_sg_27) (Nat.le_of_ble_eq_true rfl)⟩ hK hP hD hS hA hG (fun E ce q9 u_30 H locs hw hmu hP hD hS hce hcv hcl => ?_) (fun v9 u_30 H locs hw hmu hP hD hS => ?_)
  · exact hw.elim
  obtain ⟨r_29, rfl, sgv_31, gmv_31, lgv_31, rfl, hIv_31, ksv_31, kgv_31, klv_31, hr_29, fU12_r_29, fU18_r_29, fOK_r_29, fP_r_29⟩ := hw
  have hP : va_P (dC, dI) vwCl (cW ad cid a2 lx sgv_31 gmv_31 lgv_31) H := hP
  have hD : va_D A (cW ad cid a2 lx sgv_31 gmv_31 lgv_31) := hD
  have hmu : PHs gmv_26 ≤ PHs gmv_31 := hmu
  rw [show (gc gm gmv_26 0 + gc gmv_26 gmv_31 1) = gc gm gmv_31 1 from gc_t hm_28 hmu, show (gs gm gmv_26 0 + gs gmv_26 gmv_31 1) = gs gm gmv_31 1 from gs_t hm_28 hmu]
  have hm_32 : PHs gm ≤ PHs gmv_31 := Nat.le_trans hm_28 hmu
  refine W.eq (g2 := F0 m 28 ls [.int r_29, eV (ad 0) x]) rfl ?_
  refine cr_puts (t := 0) (j := 11) (C := RX12) (T := TX12) (N := 12) (ty0 := tyX12) (k := 3) (y := r_29) hx hb htb inX12 tyX12_ok nmX12 hown hK hP hD hS hvx (by decide) (by decide) (by decide) (by decide) rfl rfl rfl (by decide) (htb _ kw_428) rfl (by show Value.int r_29 = Value.int (va_up sgv_31 3 r_29 3); rw [va_up_self]) rfl rfl dX12_read_28 (fun sg_33 H locs esg_33 hP hD hS => ?_)
  have hI_sg_33 := CI_put hIv_31 esg_33 hr_29 (by decide)
  refine ec_aload_n hx hb dX12_read_31 rfl (lv_at hl 0 rfl) ?_
  refine lv_iconst (v := 0) hx hb dX12_read_32 (by decide) ?_
  refine cr_puts (t := 0) (j := 8) (C := RX12) (T := TX12) (N := 12) (ty0 := tyX12) (k := 0) (y := 0) hx hb htb inX12 tyX12_ok nmX12 hown hK hP hD hS hvx (by decide) (by decide) (by decide) (by decide) rfl rfl rfl (by decide) (htb _ kw_425) rfl (by show Value.int 0 = Value.int (va_up sg_33 0 0 0); rw [va_up_self]) rfl rfl dX12_read_33 (fun sg_34 H locs esg_34 hP hD hS => ?_)
  have hI_sg_34 := CI_put hI_sg_33 esg_34 (iv_k (by decide) : iv 0 0 0) (by decide)
  refine ec_aload_n hx hb dX12_read_36 rfl (lv_at hl 0 rfl) ?_
  refine cr_get (t := 0) (j := 11) (C := RX12) (T := TX12) (N := 12) (v := .int (sg_34 3)) hx hb htb inX12 hown hK hP hvx (by decide) (by decide) (by decide) rfl (by decide) (htb _ kw_428) rfl dX12_read_37 ?_
  refine W.eq (g2 := F0 m 40 ls [.int r_29]) (by rw [show sg_34 3 = r_29 from (Eq.trans (up_ne esg_34 (by decide)) (up_at esg_33))]) ?_
  refine lv_iconst (v := (-1)) hx hb dX12_read_40 (by decide) ?_
  refine lv_icmp_ne (tgt := 60) hx hb dX12_read_41 (by decide) (fun c_35 => ?_) (fun c_35 => ?_)
  · have h_36 : iv 0 1201 r_29 := iv_neL c_35 hr_29 (by decide)
    exact hj60 sg_34 gmv_31 lgv_31 hvx (KS_up (KS_up (KS_tr (L := [0, 2, 3, 4, 5, 6, 7, 8, 9, 10, 11, 13, 14, 15]) (KS_up (KS_tr (L := [0, 2, 3, 4, 5, 6, 7, 8, 9, 10, 11, 13, 14, 15]) KS_rf ksv_26 (by decide)) esg_27 (by decide)) ksv_31 (by decide)) esg_33 (by decide)) esg_34 (by decide)) (KS_tr (L := [11, 12, 13, 14, 15, 16, 17, 18, 19, 20, 21, 22, 23, 24, 25, 26, 27, 38, 44, 45, 46, 56]) (KS_tr (L := [11, 12, 13, 14, 15, 16, 17, 18, 19, 20, 21, 22, 23, 24, 25, 26, 27, 38, 44, 45, 46, 56]) KS_rf kgv_26 (by decide)) kgv_31 (by decide)) (KS_tr (L := [0, 1, 2, 3]) KS_rf klv_31 (by decide)) hI_sg_34 (fU12_r_29) (fU18_r_29) ((LDI_e hLD (show gmv_31 41 = gm 41 from (Eq.trans (kgv_31 41 (by decide)) (kgv_26 41 (by decide)))) (show gmv_31 42 = gm 42 from (Eq.trans (kgv_31 42 (by decide)) (kgv_26 42 (by decide)))) (show gmv_31 57 = gm 57 from (Eq.trans (kgv_31 57 (by decide)) (kgv_26 57 (by decide)))))) ((by rw [(show sg_34 15 = sgv_26 15 from (Eq.trans (up_ne esg_34 (by decide)) (Eq.trans (up_ne esg_33 (by decide)) (Eq.trans (ksv_31 15 (by decide)) (up_ne esg_27 (by decide))))))]; exact f15_r_24)) (fun q9 => absurd q9 (by have := i32_0; have := i32_1; have := i32_2; have := i32_m1; have := congrArg Int32.toInt (show sg_34 3 = sg_33 3 from up_ne esg_34 (by decide)); have := congrArg Int32.toInt (show sg_33 3 = r_29 from up_at esg_33); have := (h_36).1; have := (h_36).2; have := (hvx).1; have := (hvx).2; have := ((show iv 0 1200 (sg 0) from CI_s hI 0)).1; have := ((show iv 0 1200 (sg 0) from CI_s hI 0)).2; omega)) ((by rw [(show sg_34 13 = sgv_26 13 from (Eq.trans (up_ne esg_34 (by decide)) (Eq.trans (up_ne esg_33 (by decide)) (Eq.trans (ksv_31 13 (by decide)) (up_ne esg_27 (by decide))))))]; exact f13_r_24)) ((by rw [(show sg_34 14 = sgv_26 14 from (Eq.trans (up_ne esg_34 (by decide)) (Eq.trans (up_ne esg_33 (by decide)) (Eq.trans (ksv_31 14 (by decide)) (up_ne esg_27 (by decide))))))]; exact f14_r_24)) (by have := i32_0; have := i32_1; have := i32_2; have := i32_m1; have : (sg_34 0).toInt = 0 := (by rw [up_at esg_34]; rfl); have := (hvx).1; have := (hvx).2; have := ((show iv 0 1200 (sg 0) from CI_s hI 0)).1; have := ((show iv 0 1200 (sg 0) from CI_s hI 0)).2; have := (h_36).1; have := (h_36).2; omega) (Or.inl ⟨by have := i32_0; have := i32_1; have := i32_2; have := i32_m1; have := congrArg Int32.toInt (show sg_34 3 = sg_33 3 from up_ne esg_34 (by decide)); have := congrArg Int32.toInt (show sg_33 3 = r_29 from up_at esg_33); have := (h_36).1; have := (h_36).2; have := (hvx).1; have := (hvx).2; have := ((show iv 0 1200 (sg 0) from CI_s hI 0)).1; have := ((show iv 0 1200 (sg 0) from CI_s hI 0)).2; omega, ACQ_n (fP_r_29.resolve_left (fun q8 => absurd q8.1 (by have := i32_0; have := i32_1; have := i32_2; have := i32_m1; have := congrArg Int32.toInt (show sg_34 3 = sg_33 3 from up_ne esg_34 (by decide)); have := congrArg Int32.toInt (show sg_33 3 = r_29 from up_at esg_33); have := (h_36).1; have := (h_36).2; have := (hvx).1; have := (hvx).2; have := ((show iv 0 1200 (sg 0) from CI_s hI 0)).1; have := ((show iv 0 1200 (sg 0) from CI_s hI 0)).2; omega))).2⟩) hm_32 _ _ _ hP hD hS (lv_sub hl [0] rfl)
  · have h_37 : iv (-1) (-1) r_29 := iv_eq c_35 hr_29 (iv_k (by decide) : iv (-1) (-1) (-1)) (by decide)
    have hrk_38 : RDK sgv_31 gmv_31 := fOK_r_29 (by have := i32_0; have := i32_1; have := i32_2; have := i32_m1; have := congrArg Int32.toInt (show sg_34 3 = sg_33 3 from up_ne esg_34 (by decide)); have := congrArg Int32.toInt (show sg_33 3 = r_29 from up_at esg_33); have := (h_37).1; have := (h_37).2; have := (hvx).1; have := (hvx).2; have := ((show iv 0 1200 (sg 0) from CI_s hI 0)).1; have := ((show iv 0 1200 (sg 0) from CI_s hI 0)).2; omega)
    obtain ⟨hs9, hR9⟩ : sDoc ch N9 = some (dD ch N9) ∧ RDC (dD ch N9) sgv_31 gmv_31 lgv_31 := by obtain ⟨_, D, h1, h2⟩ := fP_r_29.resolve_right (fun q8 => q8.1 (by have := i32_0; have := i32_1; have := i32_2; have := i32_m1; have := congrArg Int32.toInt (show sg_34 3 = sg_33 3 from up_ne esg_34 (by decide)); have := congrArg Int32.toInt (show sg_33 3 = r_29 from up_at esg_33); have := (h_37).1; have := (h_37).2; have := (hvx).1; have := (hvx).2; have := ((show iv 0 1200 (sg 0) from CI_s hI 0)).1; have := ((show iv 0 1200 (sg 0) from CI_s hI 0)).2; omega)); rw [dD_s h1]; exact ⟨h1, h2⟩
    refine ec_aload_n hx hb dX12_read_44 rfl (lv_at hl 0 rfl) ?_
    refine lv_iconst (v := 2) hx hb dX12_read_45 (by decide) ?_
    refine cr_puts (t := 0) (j := 10) (C := RX12) (T := TX12) (N := 12) (ty0 := tyX12) (k := 2) (y := 2) hx hb htb inX12 tyX12_ok nmX12 hown hK hP hD hS hvx (by decide) (by decide) (by decide) (by decide) rfl rfl rfl (by decide) (htb _ kw_427) rfl (by show Value.int 2 = Value.int (va_up sg_34 2 2 2); rw [va_up_self]) rfl rfl dX12_read_46 (fun sg_39 H locs esg_39 hP hD hS => ?_)
    have hI_sg_39 := CI_put hI_sg_34 esg_39 (iv_k (by decide) : iv 2 2 2) (by decide)
    refine ec_aload_n hx hb dX12_read_49 rfl (lv_at hl 0 rfl) ?_
    refine ec_aload_n hx hb dX12_read_50 rfl (lv_at hl 0 rfl) ?_
    refine cr_get (t := 0) (j := 4) (C := RX12) (T := TX12) (N := 12) (v := eV (ad 3) 0) hx hb htb inX12 hown hK hP hvx (by decide) (by decide) (by decide) rfl (by decide) (htb _ kw_421) (cV_c rfl (by decide) (by rw [show cMu 0 4 = 0 from rfl, Nat.zero_mul]; rfl)) dX12_read_51 ?_
    refine cm_callTV (t := 3) (C := RX9) (T := TX9) (N := 1) (rest := [eV (ad 0) x]) (as := []) ⟨hx, hb, hml, hown, htb⟩ (d_firstWrongS2 l dC dI ad cid a2 lx sg_39 gmv_31 lgv_31 0 (dD ch N9) hI_sg_39 (iv_k (by decide) : iv 0 0 0) (((RDK_e hrk_38 (show sg_39 4 = sgv_31 4 from (Eq.trans (up_ne esg_39 (by decide)) (Eq.trans (up_ne esg_34 (by decide)) (up_ne esg_33 (by decide))))) (show sg_39 5 = sgv_31 5 from (Eq.trans (up_ne esg_39 (by decide)) (Eq.trans (up_ne esg_34 (by decide)) (up_ne esg_33 (by decide))))) (show sg_39 6 = sgv_31 6 from (Eq.trans (up_ne esg_39 (by decide)) (Eq.trans (up_ne esg_34 (by decide)) (up_ne esg_33 (by decide))))) rfl rfl rfl rfl rfl rfl rfl rfl)).1) (((RDK_e hrk_38 (show sg_39 4 = sgv_31 4 from (Eq.trans (up_ne esg_39 (by decide)) (Eq.trans (up_ne esg_34 (by decide)) (up_ne esg_33 (by decide))))) (show sg_39 5 = sgv_31 5 from (Eq.trans (up_ne esg_39 (by decide)) (Eq.trans (up_ne esg_34 (by decide)) (up_ne esg_33 (by decide))))) (show sg_39 6 = sgv_31 6 from (Eq.trans (up_ne esg_39 (by decide)) (Eq.trans (up_ne esg_34 (by decide)) (up_ne esg_33 (by decide))))) rfl rfl rfl rfl rfl rfl rfl rfl)).2.1) (((RDK_e hrk_38 (show sg_39 4 = sgv_31 4 from (Eq.trans (up_ne esg_39 (by decide)) (Eq.trans (up_ne esg_34 (by decide)) (up_ne esg_33 (by decide))))) (show sg_39 5 = sgv_31 5 from (Eq.trans (up_ne esg_39 (by decide)) (Eq.trans (up_ne esg_34 (by decide)) (up_ne esg_33 (by decide))))) (show sg_39 6 = sgv_31 6 from (Eq.trans (up_ne esg_39 (by decide)) (Eq.trans (up_ne esg_34 (by decide)) (up_ne esg_33 (by decide))))) rfl rfl rfl rfl rfl rfl rfl rfl)).2.2.1) (RDC_k hR9 (Eq.trans (Eq.trans (up_ne esg_39 (by decide)) (up_ne esg_34 (by decide))) (up_ne esg_33 (by decide))) (Eq.trans (Eq.trans (up_ne esg_39 (by decide)) (up_ne esg_34 (by decide))) (up_ne esg_33 (by decide))) (Eq.trans (Eq.trans (up_ne esg_39 (by decide)) (up_ne esg_34 (by decide))) (up_ne esg_33 (by decide))) (fun k hk => by rcases hk with rfl | rfl | rfl | rfl | rfl | rfl | rfl | rfl | rfl | rfl | rfl | rfl | rfl | rfl; exact rfl; exact rfl; exact rfl; exact rfl; exact rfl; exact rfl; exact rfl; exact rfl; exact rfl; exact rfl; exact rfl; exact rfl; exact rfl; exact rfl) rfl rfl) (sDoc_pv hpc hs9)) (cwV 0 htb (gd_V kw_647 kw_648 kw_649 kw_152 kw_1463) rfl rfl rfl (by decide +kernel) ⟨Nat.le_of_ble_eq_true rfl, Nat.le_of_ble_eq_true rfl⟩) (iv_k (by decide) : iv 0 0 0) (by decide) (by decide) rfl rfl hl.1 rfl (Nat.le_trans (cs_c (eV_cat _ _) cs_n) (by decide)) dX12_read_54 ⟨Nat.le_trans (gc_le hIv_31) (Nat.le_of_ble_eq_true rfl), Nat.le_trans (gs_le hIv_31) (Nat.le_of_ble_eq_true rfl)⟩ hK hP hD hS hA hG (fun E ce q9 u_41 H locs hw hP hD hS hce hcv hcl => ?_) (fun v9 u_41 H locs hw hP hD hS => ?_)
    · exact hw.elim
    obtain ⟨r_40, rfl, rfl, hr_40, fO_r_40, fG_r_40⟩ := hw
    have hP : va_P (dC, dI) vwCl (cW ad cid a2 lx sg_39 gmv_31 lgv_31) H := hP
    have hD : va_D A (cW ad cid a2 lx sg_39 gmv_31 lgv_31) := hD
    refine W.eq (g2 := F0 m 57 ls [.int r_40, eV (ad 0) x]) rfl ?_
    refine cr_puts (t := 0) (j := 11) (C := RX12) (T := TX12) (N := 12) (ty0 := tyX12) (k := 3) (y := r_40) hx hb htb inX12 tyX12_ok nmX12 hown hK hP hD hS hvx (by decide) (by decide) (by decide) (by decide) rfl rfl rfl (by decide) (htb _ kw_428) rfl (by show Value.int r_40 = Value.int (va_up sg_39 3 r_40 3); rw [va_up_self]) rfl rfl dX12_read_57 (fun sg_43 H locs esg_43 hP hD hS => ?_)
    have hI_sg_43 := CI_put hI_sg_39 esg_43 hr_40 (by decide)
    exact hj60 sg_43 gmv_31 lgv_31 hvx (KS_up (KS_up (KS_up (KS_up (KS_tr (L := [0, 2, 3, 4, 5, 6, 7, 8, 9, 10, 11, 13, 14, 15]) (KS_up (KS_tr (L := [0, 2, 3, 4, 5, 6, 7, 8, 9, 10, 11, 13, 14, 15]) KS_rf ksv_26 (by decide)) esg_27 (by decide)) ksv_31 (by decide)) esg_33 (by decide)) esg_34 (by decide)) esg_39 (by decide)) esg_43 (by decide)) (KS_tr (L := [11, 12, 13, 14, 15, 16, 17, 18, 19, 20, 21, 22, 23, 24, 25, 26, 27, 38, 44, 45, 46, 56]) (KS_tr (L := [11, 12, 13, 14, 15, 16, 17, 18, 19, 20, 21, 22, 23, 24, 25, 26, 27, 38, 44, 45, 46, 56]) KS_rf kgv_26 (by decide)) kgv_31 (by decide)) (KS_tr (L := [0, 1, 2, 3]) KS_rf klv_31 (by decide)) hI_sg_43 (fU12_r_29) (fU18_r_29) ((LDI_e hLD (show gmv_31 41 = gm 41 from (Eq.trans (kgv_31 41 (by decide)) (kgv_26 41 (by decide)))) (show gmv_31 42 = gm 42 from (Eq.trans (kgv_31 42 (by decide)) (kgv_26 42 (by decide)))) (show gmv_31 57 = gm 57 from (Eq.trans (kgv_31 57 (by decide)) (kgv_26 57 (by decide)))))) ((by rw [(show sg_43 15 = sgv_26 15 from (Eq.trans (up_ne esg_43 (by decide)) (Eq.trans (up_ne esg_39 (by decide)) (Eq.trans (up_ne esg_34 (by decide)) (Eq.trans (up_ne esg_33 (by decide)) (Eq.trans (ksv_31 15 (by decide)) (up_ne esg_27 (by decide))))))))]; exact f15_r_24)) (fun q9 => ⟨(RDK_e hrk_38 (show sg_43 4 = sgv_31 4 from (Eq.trans (up_ne esg_43 (by decide)) (Eq.trans (up_ne esg_39 (by decide)) (Eq.trans (up_ne esg_34 (by decide)) (up_ne esg_33 (by decide)))))) (show sg_43 5 = sgv_31 5 from (Eq.trans (up_ne esg_43 (by decide)) (Eq.trans (up_ne esg_39 (by decide)) (Eq.trans (up_ne esg_34 (by decide)) (up_ne esg_33 (by decide)))))) (show sg_43 6 = sgv_31 6 from (Eq.trans (up_ne esg_43 (by decide)) (Eq.trans (up_ne esg_39 (by decide)) (Eq.trans (up_ne esg_34 (by decide)) (up_ne esg_33 (by decide)))))) rfl rfl rfl rfl rfl rfl rfl rfl), fun j9 q8 => SOK_e (fO_r_40 (by have := i32_0; have := i32_1; have := i32_2; have := i32_m1; have := congrArg Int32.toInt (show sg_43 3 = r_40 from up_at esg_43); have := (hr_40).1; have := (hr_40).2; have := (hvx).1; have := (hvx).2; have := ((show iv 0 1200 (sg 0) from CI_s hI 0)).1; have := ((show iv 0 1200 (sg 0) from CI_s hI 0)).2; have := (h_37).1; have := (h_37).2; omega) j9 (by rw [← (show sg_43 4 = sg_39 4 from (up_ne esg_43 (by decide)))]; exact q8)) rfl rfl rfl rfl rfl rfl rfl rfl⟩) ((by rw [(show sg_43 13 = sgv_26 13 from (Eq.trans (up_ne esg_43 (by decide)) (Eq.trans (up_ne esg_39 (by decide)) (Eq.trans (up_ne esg_34 (by decide)) (Eq.trans (up_ne esg_33 (by decide)) (Eq.trans (ksv_31 13 (by decide)) (up_ne esg_27 (by decide))))))))]; exact f13_r_24)) ((by rw [(show sg_43 14 = sgv_26 14 from (Eq.trans (up_ne esg_43 (by decide)) (Eq.trans (up_ne esg_39 (by decide)) (Eq.trans (up_ne esg_34 (by decide)) (Eq.trans (up_ne esg_33 (by decide)) (Eq.trans (ksv_31 14 (by decide)) (up_ne esg_27 (by decide))))))))]; exact f14_r_24)) (by have := i32_0; have := i32_1; have := i32_2; have := i32_m1; have := congrArg Int32.toInt (show sg_43 0 = sg_39 0 from up_ne esg_43 (by decide)); have := congrArg Int32.toInt (show sg_39 0 = sg_34 0 from up_ne esg_39 (by decide)); have : (sg_34 0).toInt = 0 := (by rw [up_at esg_34]; rfl); have := (hvx).1; have := (hvx).2; have := ((show iv 0 1200 (sg 0) from CI_s hI 0)).1; have := ((show iv 0 1200 (sg 0) from CI_s hI 0)).2; have := (h_37).1; have := (h_37).2; have := (hr_40).1; have := (hr_40).2; omega) (fG_r_40.elim (fun q => Or.inr ⟨by have := i32_0; have := i32_1; have := i32_2; have := i32_m1; have := congrArg Int32.toInt (show sg_43 3 = r_40 from up_at esg_43); have := (hr_40).1; have := (hr_40).2; have := (hvx).1; have := (hvx).2; have := ((show iv 0 1200 (sg 0) from CI_s hI 0)).1; have := ((show iv 0 1200 (sg 0) from CI_s hI 0)).2; have := (h_37).1; have := (h_37).2; have := q.1; omega, hs9, (RDC_k hR9 (Eq.trans (Eq.trans (Eq.trans (up_ne esg_43 (by decide)) (up_ne esg_39 (by decide))) (up_ne esg_34 (by decide))) (up_ne esg_33 (by decide))) (Eq.trans (Eq.trans (Eq.trans (up_ne esg_43 (by decide)) (up_ne esg_39 (by decide))) (up_ne esg_34 (by decide))) (up_ne esg_33 (by decide))) (Eq.trans (Eq.trans (Eq.trans (up_ne esg_43 (by decide)) (up_ne esg_39 (by decide))) (up_ne esg_34 (by decide))) (up_ne esg_33 (by decide))) (fun k hk => by rcases hk with rfl | rfl | rfl | rfl | rfl | rfl | rfl | rfl | rfl | rfl | rfl | rfl | rfl | rfl; exact rfl; exact rfl; exact rfl; exact rfl; exact rfl; exact rfl; exact rfl; exact rfl; exact rfl; exact rfl; exact rfl; exact rfl; exact rfl; exact rfl) rfl rfl), q.2⟩) (fun q => Or.inl ⟨by have := i32_0; have := i32_1; have := i32_2; have := i32_m1; have := congrArg Int32.toInt (show sg_43 3 = r_40 from up_at esg_43); have := (hr_40).1; have := (hr_40).2; have := (hvx).1; have := (hvx).2; have := ((show iv 0 1200 (sg 0) from CI_s hI 0)).1; have := ((show iv 0 1200 (sg 0) from CI_s hI 0)).2; have := (h_37).1; have := (h_37).2; have := q.1; omega, fun h => q.2 h.2.1⟩)) hm_32 _ _ _ hP hD hS (lv_sub hl [0] rfl)
end
section
section RM9
/-- a row of the reference, in order -/
def RLq (f : Nat → Int32) (B n : Nat) : List Int32 := (List.range n).map (fun i => f (B + i))
def pnW (W : Nat → Int64) : List Int32 → Int32 → List Int32
  | [], x => [x]
  | y :: r, x => if W y.toNatClampNeg = W x.toNatClampNeg then x :: r else y :: pnW W r x
variable {W : Nat → Int64} {f f2 : Nat → Int32} {B n : Nat} {x : Int32}
theorem RLq_l : (RLq f B n).length = n := by unfold RLq; rw [List.length_map, List.length_range]
theorem RLq_g {i : Nat} (h : i < n) : (RLq f B n)[i]? = some (f (B + i)) := by unfold RLq; rw [List.getElem?_map, List.getElem?_range h]; rfl
theorem RLq_x {L : List Int32} (h1 : L.length = n) (h2 : ∀ i, i < n → L[i]? = some (f (B + i))) : RLq f B n = L := by
  refine List.ext_getElem? (fun i => ?_)
  by_cases w : i < n
  · rw [RLq_g w, h2 i w]
  · rw [List.getElem?_eq_none (by rw [RLq_l]; omega), List.getElem?_eq_none (by omega)]
theorem pnW_set : ∀ (L : List Int32) (i : Nat) (y : Int32), L[i]? = some y → W y.toNatClampNeg = W x.toNatClampNeg → (∀ k z, k < i → L[k]? = some z → ¬ W z.toNatClampNeg = W x.toNatClampNeg) → pnW W L x = L.set i x
  | [], i, y, h, _, _ => by simp at h
  | z :: r, 0, y, h, he, _ => by
    have h : some z = some y := h
    cases h
    show (if W z.toNatClampNeg = W x.toNatClampNeg then x :: r else _) = _
    rw [if_pos he]; rfl
  | z :: r, i + 1, y, h, he, hn => by
    show (if W z.toNatClampNeg = W x.toNatClampNeg then x :: r else z :: pnW W r x) = z :: r.set i x
    rw [if_neg (hn 0 z (by omega) rfl), pnW_set r i y (by simpa using h) he (fun k u hk hu => hn (k + 1) u (by omega) (by simpa using hu))]
theorem pnW_add : ∀ (L : List Int32), (∀ (k : Nat) (z : Int32), L[k]? = some z → ¬ W z.toNatClampNeg = W x.toNatClampNeg) → pnW W L x = L ++ [x]
  | [], _ => rfl
  | z :: r, hn => by
    show (if W z.toNatClampNeg = W x.toNatClampNeg then x :: r else z :: pnW W r x) = z :: (r ++ [x])
    rw [if_neg (hn 0 z rfl), pnW_add r (fun k u hu => hn (k + 1) u (by simpa using hu))]
theorem RL_rep {k j : Nat} (h2 : f2 = upd f j x) (hj : j = B + k) (hk : k < n) (hw : W (f (B + k)).toNatClampNeg = W x.toNatClampNeg) (hno : ∀ i, 0 ≤ i → i < k → ¬ W (f (B + i)).toNatClampNeg = W x.toNatClampNeg) : RLq f2 B n = pnW W (RLq f B n) x := by
  rw [pnW_set (RLq f B n) k _ (RLq_g hk) hw (fun i z hi hz => by rw [RLq_g (by omega)] at hz; rw [← Option.some.inj hz]; exact hno i (by omega) hi)]
  refine RLq_x (by rw [List.length_set, RLq_l]) (fun i hi => ?_)
  rw [List.getElem?_set, h2, hj]
  by_cases w : k = i
  · rw [if_pos w, if_pos (by rw [RLq_l]; omega), ← w, upd_at]
  · rw [if_neg w, RLq_g hi, upd_ne (by omega)]
theorem RL_app {j : Nat} (h2 : f2 = upd f j x) (hj : j = B + n) (hno : ∀ i, 0 ≤ i → i < n → ¬ W (f (B + i)).toNatClampNeg = W x.toNatClampNeg) : RLq f2 B (n + 1) = pnW W (RLq f B n) x := by
  rw [pnW_add (RLq f B n) (fun k z hz => by have hk := (List.getElem?_eq_some_iff.mp hz).1; rw [RLq_l] at hk; rw [RLq_g hk] at hz; rw [← Option.some.inj hz]; exact hno k (by omega) hk)]
  refine RLq_x (by rw [List.length_append, RLq_l]; rfl) (fun i hi => ?_)
  by_cases w : i < n
  · rw [List.getElem?_append_left (by rw [RLq_l]; exact w), RLq_g w, h2, hj, upd_ne (by omega)]
  · have e : i = n := by omega
    rw [List.getElem?_append_right (by rw [RLq_l]; omega), RLq_l, e, Nat.sub_self, h2, hj, upd_at]; rfl
/-- those that are hit, in order -/
def kdL (q : Nat → Bool) : Nat → Nat → List Int32
  | 0, _ => []
  | n + 1, j => if q j = true then nI j :: kdL q n (j + 1) else kdL q n (j + 1)
theorem kdL_f {q : Nat → Bool} : ∀ (n j : Nat), j + n ≤ 80 → (fstB q n j = -1 ∧ kdL q n j = []) ∨ ∃ k, j ≤ k ∧ k < j + n ∧ fstB q n j = nI k ∧ kdL q n j = nI k :: kdL q (j + n - (k + 1)) (k + 1)
  | 0, j, _ => Or.inl ⟨rfl, rfl⟩
  | n + 1, j, h => by
    by_cases w : q j = true
    · refine Or.inr ⟨j, Nat.le_refl _, by omega, ?_, ?_⟩
      · show (if q j = true then _ else _) = _; rw [if_pos w]
      · show (if q j = true then _ else _) = _; rw [if_pos w, show j + (n + 1) - (j + 1) = n by omega]
    · have e1 : fstB q (n + 1) j = fstB q n (j + 1) := by show (if q j = true then _ else _) = _; rw [if_neg w]
      have e2 : kdL q (n + 1) j = kdL q n (j + 1) := by show (if q j = true then _ else _) = _; rw [if_neg w]
      rw [e1, e2]
      rcases kdL_f n (j + 1) (by omega) with a | ⟨k, a1, a2, a3, a4⟩
      · exact Or.inl a
      · exact Or.inr ⟨k, by omega, by omega, a3, by rw [a4, show j + (n + 1) - (k + 1) = j + 1 + n - (k + 1) by omega]⟩
/-- what stands within an element behind a place, of one kind -/
def kA9 (sg : Nat → Int32) (gm : Nat → Nat → Int32) (a kd bh : Int32) : List Int32 := kdL (qInn gm a kd) ((sg 24).toNatClampNeg - (bh.toNatClampNeg + 1)) (bh.toNatClampNeg + 1)
variable {sg : Nat → Int32} {gm : Nat → Nat → Int32} {a kd bh r : Int32}
def rem9 (sg : Nat → Int32) (gm : Nat → Nat → Int32) (a kd r : Int32) : List Int32 := if r = -1 then [] else r :: kA9 sg gm a kd r
theorem kA_r (hn : iv 0 80 (sg 24)) (hr : r = mInn sg gm a kd bh) : kA9 sg gm a kd bh = rem9 sg gm a kd r := by
  have h1 := iv_cl hn (by decide)
  have h2 := hn.2
  unfold rem9 kA9
  unfold mInn at hr
  by_cases w : (sg 24).toNatClampNeg ≤ bh.toNatClampNeg + 1
  · rw [show (sg 24).toNatClampNeg - (bh.toNatClampNeg + 1) = 0 by omega] at hr ⊢
    rw [hr]; rfl
  · rcases kdL_f (q := qInn gm a kd) ((sg 24).toNatClampNeg - (bh.toNatClampNeg + 1)) (bh.toNatClampNeg + 1) (by omega) with ⟨c1, c2⟩ | ⟨k, c1, c2, c3, c4⟩
    · rw [c2, hr, c1]; rfl
    · rw [c3] at hr
      have e : r.toNatClampNeg = k := by
        rw [hr]
        have := nI_toInt (n := k) (by omega)
        show (nI k).toInt.toNat = k; omega
      have hne : ¬ r = -1 := fun q => by
        rw [q] at hr
        have h3 := congrArg Int32.toInt hr
        rw [nI_toInt (by omega)] at h3
        have h4 : (-1 : Int32).toInt = -1 := by decide
        omega
      rw [c4, if_neg hne, e, ← hr, show bh.toNatClampNeg + 1 + ((sg 24).toNatClampNeg - (bh.toNatClampNeg + 1)) - (k + 1) = (sg 24).toNatClampNeg - (k + 1) by omega]
/-- a bean and those above it -/
def an9 (g : Int32 → Int32) : Nat → Int32 → List Int32
  | 0, _ => []
  | n + 1, b => if b = -1 then [] else b :: an9 g n (g b)
theorem an_l (g : Int32 → Int32) : ∀ (n : Nat) (b : Int32), (an9 g n b).length = dpF g n b
  | 0, _ => rfl
  | n + 1, b => by
    rw [dpF_s]
    show (if b = -1 then [] else b :: an9 g n (g b)).length = _
    by_cases q : b = -1
    · rw [if_pos q, if_pos q]; rfl
    · rw [if_neg q, if_neg q, List.length_cons, an_l g n]
theorem an_d {g : Int32 → Int32} {b k : Int32} {i : Nat} (h : (an9 g 81 b).drop i = an9 g (81 - i) k) (hi : i < (an9 g 81 b).length) : (an9 g 81 b).drop i = k :: (an9 g 81 b).drop (i + 1) ∧ (an9 g 81 b).drop (i + 1) = an9 g (81 - (i + 1)) (g k) := by
  have hl : 0 < ((an9 g 81 b).drop i).length := by rw [List.length_drop]; omega
  have hd : (an9 g 81 b).drop (i + 1) = ((an9 g 81 b).drop i).drop 1 := by rw [List.drop_drop]
  rw [hd, h]
  rw [h] at hl
  cases q : 81 - i with
  | zero => rw [q] at hl; exact absurd hl (Nat.lt_irrefl _)
  | succ m =>
    rw [q] at hl
    have e : an9 g (m + 1) k = if k = -1 then [] else k :: an9 g m (g k) := rfl
    by_cases w : k = -1
    · rw [e, if_pos w] at hl; exact absurd hl (Nat.lt_irrefl _)
    · rw [e, if_neg w, show 81 - (i + 1) = m by omega]; exact ⟨rfl, rfl⟩
/-- what a bean and those above it tell, merged -/
def mrS (W : Nat → Int64) (K : Int32 → List Int32) : List Int32 → List Int32
  | [] => []
  | c :: r => (K c).foldl (pnW W) (mrS W K r)
section
variable {lg : Nat → Nat → Int64} {g g1 g2 : Nat → Nat → Int32} {b c x : Int32} {m : Nat} {S S2 R : List Int32} {AN : List Int32}
abbrev S59 (g : Nat → Nat → Int32) (b : Int32) : List Int32 := RLq (g 45) (26 * b.toNatClampNeg) (g 44 b.toNatClampNeg).toNatClampNeg
abbrev S10 (g : Nat → Nat → Int32) (b : Int32) : List Int32 := RLq (g 47) (26 * b.toNatClampNeg) (g 46 b.toNatClampNeg).toNatClampNeg
abbrev ANr9 (sg : Nat → Int32) (gm : Nat → Nat → Int32) (lg : Nat → Nat → Int64) (b : Int32) : List Int32 := an9 (mPar sg gm lg) 81 b
abbrev KK9 (sg : Nat → Int32) (gm : Nat → Nat → Int32) (kd : Int32) (c : Int32) : List Int32 := kA9 sg gm (gm 42 c.toNatClampNeg) kd 0
abbrev MR9 (sg : Nat → Int32) (gm : Nat → Nat → Int32) (lg : Nat → Nat → Int64) (kd : Int32) (b : Int32) (n : Nat) : List Int32 := mrS (mWn gm lg) (KK9 sg gm kd) ((ANr9 sg gm lg b).drop n)
def FX9 (gm g : Nat → Nat → Int32) (b : Nat) : Prop := (∀ j, j ≠ b → g 46 j = gm 46 j) ∧ RWF (gm 47) (g 47) (26 * b)
theorem MX_0 {f h : Nat → Int32} (h44 : g 44 = upd f b.toNatClampNeg 0) (h46 : g 46 = upd h b.toNatClampNeg 0) : S59 g b = [] ∧ S10 g b = [] := by
  unfold S59 S10; rw [h44, h46, upd_at, upd_at]; exact ⟨rfl, rfl⟩
theorem MX_1 (h : S59 g b = [] ∧ S10 g b = []) (hn : dP sg gm lg b ≤ m) : S59 g b = MR9 sg gm lg 5 b m ∧ S10 g b = MR9 sg gm lg 10 b m := by
  have e : (ANr9 sg gm lg b).drop m = [] := List.drop_eq_nil_of_le (by unfold ANr9; rw [an_l]; exact hn)
  unfold MR9; rw [e, h.1, h.2]; exact ⟨rfl, rfl⟩
theorem M5_0 {z kd r : Int32} {n : Nat} (hAN : (ANr9 sg gm lg b).drop m = c :: (ANr9 sg gm lg b).drop (m + 1)) (h : S = MR9 sg gm lg kd b n) (hm : n = m + 1) (hn : iv 0 80 (sg 24)) (hz : z = gm 42 c.toNatClampNeg) (hr : r = mInn sg gm z kd 0) : (rem9 sg gm z kd r).foldl (pnW (mWn gm lg)) S = MR9 sg gm lg kd b m := by
  rw [h, hm]; unfold MR9
  rw [hAN]
  show _ = (KK9 sg gm kd c).foldl (pnW (mWn gm lg)) _
  unfold KK9
  rw [← hz, kA_r hn hr]
theorem M5_s {z kd r : Int32} {W : Nat → Int64} (h : (rem9 sg gm z kd x).foldl (pnW W) S = R) (hx : ¬ x = -1) (hS : S2 = pnW W S x) (hn : iv 0 80 (sg 24)) (hr : r = mInn sg gm z kd x) : (rem9 sg gm z kd r).foldl (pnW W) S2 = R := by
  rw [← kA_r hn hr, hS, ← h]
  unfold rem9
  rw [if_neg hx]; rfl
theorem M5_e {z kd : Int32} {W : Nat → Int64} (h : (rem9 sg gm z kd x).foldl (pnW W) S = R) (hx : x = -1) : S = R := by
  unfold rem9 at h; rw [if_pos hx] at h; exact h
theorem FX_0 {n : Nat} {v : Int32} (h46 : g 46 = upd (gm 46) n v) (h47 : g 47 = gm 47) : FX9 gm g n := ⟨fun j hj => by rw [h46, upd_ne hj], fun j _ => by rw [h47]⟩
theorem FX_e {n : Nat} (h : FX9 gm g n) (h46 : g2 46 = g 46) (h47 : g2 47 = g 47) : FX9 gm g2 n := by unfold FX9; rw [h46, h47]; exact h
theorem FX_s {n : Nat} {v : Int32} (h : FX9 gm g n) (h46 : g2 46 = upd (g 46) n v) (h47 : RWF (g 47) (g2 47) (26 * n)) : FX9 gm g2 n := ⟨fun j hj => by rw [h46, upd_ne hj]; exact h.1 j hj, fun j hj => (h47 j hj).trans (h.2 j hj)⟩
theorem S_e (h45 : g2 47 = g 47) (h44 : g2 46 = g 46) : S10 g2 b = S10 g b := by unfold S10; rw [h45, h44]
theorem S5_e (h45 : g2 45 = g 45) (h44 : g2 44 = g 44) : S59 g2 b = S59 g b := by unfold S59; rw [h45, h44]
end
end RM9
end
section
set_option maxHeartbeats 4000000 in
set_option maxRecDepth 100000 in
theorem f_mrg45 (l : Launch) (dC : Nat → ClassId) (dI : Nat → Nat → Nat) (h0 : Nat) (ad : Nat → Nat) (cid : Nat → ClassId) (sg : Nat → Int32) (gm : Nat → Nat → Int32) (lg : Nat → Nat → Int64) (ba : Int32) (mn : Int32) (x : Int32) (hI : MI sg gm) (hvba : iv 0 2054 ba) (hvmn : iv 0 26 mn) (hvx : iv 0 79 x) (hrl : ROWL (mWn gm lg) (gm 45) ba.toNatClampNeg mn.toNatClampNeg) (hol : LW (mWn gm lg) x.toNatClampNeg) : MMi l dC dI yX13_merge wm_X13_merge ({ frames := 2, cells := 0, slots := 0, locals := 51 }) h0 ad cid [.ref (ad 45), .int ba, .int mn, .int x] sg gm lg (fun r v => ∃ (sg2 : Nat → Int32) (gm2 : Nat → Nat → Int32) (lg2 : Nat → Nat → Int64), v = (sg2, gm2, lg2) ∧ MI sg2 gm2 ∧ KS [] sg sg2 ∧ KS [45] gm gm2 ∧ KS [] lg lg2 ∧ (iv 0 26 r) ∧ (ROWL (mWn gm lg) (gm2 45) ba.toNatClampNeg r.toNatClampNeg) ∧ (RWF (gm 45) (gm2 45) ba.toNatClampNeg) ∧ (RWK (gm 45) (gm2 45) ba.toNatClampNeg mn.toNatClampNeg r.toNatClampNeg x) ∧ (RLq (gm2 45) ba.toNatClampNeg r.toNatClampNeg = pnW (mWn gm lg) (RLq (gm 45) ba.toNatClampNeg mn.toNatClampNeg) x)) := by
  intro sz
  refine Met.ofW (cc := cX13_merge) (maxL := 6) (ret := (some .int)) (by decide) rfl ?_
  intro p e s m args below meth c s₁ B hml hv
  obtain ⟨rfl, hsz, hP, hK, hD0⟩ := hv
  have hx := B.exec
  have hb := B.bytes
  have hr := B.returns
  have hts := atoms_spec (ws := wm_X13_merge) B.pre
  have htb := fun (w : Cond) (h : w ∈ tb) => hts w (List.mem_cons_of_mem _ h)
  have hown : s.vm.findClass RX13 = some m.cls := findClass_of_methodNamed B.named
  have hlocks := B.notSynchronized
  subst hsz
  have hD := hD0.self (sz := s.heap.size)
  generalize hAe : va_A (mW h0 ad cid sg gm lg) s.heap.size = A at hD ⊢
  have hA : ∀ q : Nat, s.heap.size ≤ q → A q := fun q h => by rw [← hAe]; exact Or.inr h
  have hS : va_S A s.heap s.heap [] := va_S.rf
  have hl := lv_entry ([.ref h0, .ref (ad 45), .int ba, .int mn, .int x]) (n := 6) (Nat.le_of_ble_eq_true rfl)
  rw [lg_entry_eq]
  generalize (lg_sl ([.ref h0, .ref (ad 45), .int ba, .int mn, .int x]) ++ List.replicate (6 - (lg_sl ([.ref h0, .ref (ad 45), .int ba, .int mn, .int x])).length) Slot.unset).toArray = ls at hl ⊢
  have hl : lv_has ls 6 [(0, .ref h0), (1, .ref (ad 45)), (2, .int ba), (3, .int mn), (4, .int x)] := hl
  have hj3 : ∀ (n : Nat) (x5_3 : Int32) (_ : (26 - x5_3.toInt).toNat = n) (_ : iv 0 26 x5_3) (_ : iv 0 2054 ba) (_ : iv 0 26 mn) (_ : iv 0 79 x) (_ : ∀ k9, 0 ≤ k9 → k9 < x5_3.toNatClampNeg → ¬ mWn gm lg (gm 45 (ba.toNatClampNeg + k9)).toNatClampNeg = mWn gm lg x.toNatClampNeg) (H : Heap) (locs : List Loc) (ls : Array Slot), va_P (dC, dI) vwCl (mW h0 ad cid sg gm lg) H → va_D A (mW h0 ad cid sg gm lg) → va_S A s.heap H locs → lv_has ls 6 [(5, .int x5_3), (0, .ref h0), (1, .ref (ad 45)), (2, .int ba), (3, .int mn), (4, .int x)] → W p l e (headSpec wm_X13_merge ({ frames := 2, cells := 0, slots := 0, locals := 51 })).room s m ([.ref h0, .ref (ad 45), .int ba, .int mn, .int x] : List Value).toArray below meth c H locs 0 0 (MQ below (va_Qi (fun r v => ∃ (sg2 : Nat → Int32) (gm2 : Nat → Nat → Int32) (lg2 : Nat → Nat → Int64), v = (sg2, gm2, lg2) ∧ MI sg2 gm2 ∧ KS [] sg sg2 ∧ KS [45] gm gm2 ∧ KS [] lg lg2 ∧ (iv 0 26 r) ∧ (ROWL (mWn gm lg) (gm2 45) ba.toNatClampNeg r.toNatClampNeg) ∧ (RWF (gm 45) (gm2 45) ba.toNatClampNeg) ∧ (RWK (gm 45) (gm2 45) ba.toNatClampNeg mn.toNatClampNeg r.toNatClampNeg x) ∧ (RLq (gm2 45) ba.toNatClampNeg r.toNatClampNeg = pnW (mWn gm lg) (RLq (gm 45) ba.toNatClampNeg mn.toNatClampNeg) x)) (MB dC dI h0 ad cid A) A) ([.ref h0, .ref (ad 45), .int ba, .int mn, .int x] : List Value).toArray s 0 0 A) (F0 m 3 ls []) := by
    intro n
    induction n using Nat.strongRecOn with
    | ind n ih3 =>
      intro x5_3 hn3 hx5_3 hsx2_3 hsx3_3 hsx4_3 hnw H locs ls hP hD hS hl
      refine lv_iload hx hb dX13_merge_3 (lv_at hl 0 rfl) ?_
      refine lv_iload_n hx hb dX13_merge_5 rfl (lv_at hl 4 rfl) ?_
      refine lv_icmp_ge (tgt := 54) hx hb dX13_merge_6 (by decide) (fun c_1 => ?_) (fun c_1 => ?_)
      · have d_2 : (mn : Int32).toInt ≤ (x5_3 : Int32).toInt := Int32.le_iff_toInt_le.mp c_1
        have hnw9 : ∀ k9, 0 ≤ k9 → k9 < mn.toNatClampNeg → ¬ mWn gm lg (gm 45 (ba.toNatClampNeg + k9)).toNatClampNeg = mWn gm lg x.toNatClampNeg := fun k9 h8 h9 => hnw k9 h8 (by have := le_cl hvmn hx5_3 (by decide) (by decide) (by have := i32_0; have := i32_1; have := i32_2; have := i32_m1; have := (hsx2_3).1; have := (hsx2_3).2; have := (hsx3_3).1; have := (hsx3_3).2; have := (hsx4_3).1; have := (hsx4_3).2; have := (hx5_3).1; have := (hx5_3).2; omega); omega)
        have h25 := row_room hrl hol (by have := iv_cl hvmn (by decide); have := hvmn.2; omega) hnw9
        have hm25 : iv 0 25 mn := ⟨hvmn.1, by have := iv_cl hvmn (by decide); omega⟩
        refine lv_aload_n hx hb dX13_merge_54 rfl (lv_at hl 2 rfl) ?_
        refine lv_iload_n hx hb dX13_merge_55 rfl (lv_at hl 3 rfl) ?_
        refine lv_iload_n hx hb dX13_merge_56 rfl (lv_at hl 4 rfl) ?_
        refine lv_iadd hx hb dX13_merge_57 ?_
        refine lv_topi (fun z_3 ez_3 => ?_)
        have hz_3 : iv 0 2079 z_3 := iv_of ez_3 (iv_add hsx2_3 hm25 (by decide))
        have tz_3 : z_3.toInt = (ba : Int32).toInt + (mn : Int32).toInt := by rw [ez_3]; exact iv_addE hsx2_3 hm25 (by decide)
        refine lv_iload hx hb dX13_merge_58 (lv_at hl 5 rfl) ?_
        refine ma_iast (x := x) hx hb hK hP hD hS 36 (k := 45) rfl rfl rfl (show vp_in z_3 2080 from (iv_in hz_3 (by decide))) dX13_merge_60 (fun gm_4 H locs egm_4 hP hD hS => ?_)
        have hI_gm_4 := MI_st hI egm_4 hsx4_3 (by decide)
        have hRR := row_app (W := mWn gm lg) hrl hol h25 hnw9 (show gm_4 45 = upd (gm 45) (z_3 : Int32).toNatClampNeg x from ((up_at egm_4).trans (by rw [show gm 45 = gm 45 from rfl]))) (cl_add hvba hm25 (by decide) (by decide) tz_3)
        have hQQ := RL_app (W := mWn gm lg) (show gm_4 45 = upd (gm 45) (z_3 : Int32).toNatClampNeg x from ((up_at egm_4).trans (by rw [show gm 45 = gm 45 from rfl]))) (cl_add hvba hm25 (by decide) (by decide) tz_3) hnw9
        refine lv_iload_n hx hb dX13_merge_61 rfl (lv_at hl 4 rfl) ?_
        refine lv_iconst (v := 1) hx hb dX13_merge_62 (by decide) ?_
        refine lv_iadd hx hb dX13_merge_63 ?_
        refine lv_topi (fun z_5 ez_5 => ?_)
        have hz_5 : iv 1 26 z_5 := iv_of ez_5 (iv_add hm25 (iv_k (by decide) : iv 1 1 1) (by decide))
        have tz_5 : z_5.toInt = (mn : Int32).toInt + 1 := by rw [ez_5]; exact iv_addE hm25 (iv_k (by decide) : iv 1 1 1) (by decide)
        exact W.iret (v := z_5) hx hb hr (fun t ht hW => ⟨⟨z_5, (sg, gm_4, lg), rfl, ⟨sg, gm_4, lg, rfl, hI_gm_4, KS_rf, (KS_up KS_rf egm_4 (by decide)), KS_rf, (iv_w hz_5 (by decide)), (by rw [s_cl hm25 (by decide) tz_5]; exact hRR.1), (hRR.2.1), (by rw [s_cl hm25 (by decide) tz_5]; exact hRR.2.2), (by rw [s_cl hm25 (by decide) tz_5]; exact hQQ)⟩, by rw [ht]; exact hP, va_K.moved hW.alike hK, hD⟩, hS.F ht⟩) hS.2.2 dX13_merge_64
      · have d_6 : (x5_3 : Int32).toInt < (mn : Int32).toInt := Int32.lt_iff_toInt_lt.mp (i32_lt c_1)
        have h_7 : iv 0 25 x5_3 := iv_ltL (i32_lt c_1) hx5_3 hsx3_3 (by decide)
        have h_8 : iv 1 26 mn := iv_ltR (i32_lt c_1) hx5_3 hsx3_3 (by decide)
        refine lv_aload_n hx hb dX13_merge_9 rfl (lv_at hl 1 rfl) ?_
        refine lv_aload_n hx hb dX13_merge_10 rfl (lv_at hl 2 rfl) ?_
        refine lv_iload_n hx hb dX13_merge_11 rfl (lv_at hl 3 rfl) ?_
        refine lv_iload hx hb dX13_merge_12 (lv_at hl 0 rfl) ?_
        refine lv_iadd hx hb dX13_merge_14 ?_
        refine lv_topi (fun z_9 ez_9 => ?_)
        have hz_9 : iv 0 2079 z_9 := iv_of ez_9 (iv_add hsx2_3 h_7 (by decide))
        have tz_9 : z_9.toInt = (ba : Int32).toInt + (x5_3 : Int32).toInt := by rw [ez_9]; exact iv_addE hsx2_3 h_7 (by decide)
        refine mr_iald hx hb hK hP 36 (k := 45) rfl rfl rfl (show vp_in z_9 2080 from (iv_in hz_9 (by decide))) dX13_merge_15 ?_
        refine lv_topi (fun z_10 ez_10 => ?_)
        have hz_10 : iv 0 79 z_10 := iv_of ez_10 (MI_a hI 45 hz_9 (by decide))
        refine lv_ldc2 (own := RX13) (v := 1851878757) hx hb hown (htb _ kw_1178) dX13_merge_16 ?_
        refine mr_calll (rest := []) ⟨hx, hb, hml, hown, htb⟩ (f_word l dC dI h0 ad cid sg gm lg z_10 1851878757 hI hz_10) (cwV 2 htb (gd_V kw_1201 kw_1202 kw_96 kw_160 kw_1603) rfl rfl rfl (by decide +kernel) ⟨Nat.le_of_ble_eq_true rfl, Nat.le_of_ble_eq_true rfl⟩) rfl hl.1 rfl (Nat.le_of_ble_eq_true rfl) dX13_merge_19 ⟨Nat.zero_le _, Nat.zero_le _⟩ hK hP hD hS hA (fun r_11 u_12 H locs hw hP hD hS => ?_)
        obtain ⟨fW_r_11, rfl⟩ := hw
        have hP : va_P (dC, dI) vwCl (mW h0 ad cid sg gm lg) H := hP
        have hD : va_D A (mW h0 ad cid sg gm lg) := hD
        refine lv_aload_n hx hb dX13_merge_22 rfl (lv_at hl 1 rfl) ?_
        refine lv_iload hx hb dX13_merge_23 (lv_at hl 5 rfl) ?_
        refine lv_ldc2 (own := RX13) (v := 1851878757) hx hb hown (htb _ kw_1178) dX13_merge_25 ?_
        refine mr_calll (rest := [.long r_11]) ⟨hx, hb, hml, hown, htb⟩ (f_word l dC dI h0 ad cid sg gm lg x 1851878757 hI hsx4_3) (cwV 2 htb (gd_V kw_1201 kw_1202 kw_96 kw_160 kw_1603) rfl rfl rfl (by decide +kernel) ⟨Nat.le_of_ble_eq_true rfl, Nat.le_of_ble_eq_true rfl⟩) rfl hl.1 rfl (Nat.le_of_ble_eq_true rfl) dX13_merge_28 ⟨Nat.zero_le _, Nat.zero_le _⟩ hK hP hD hS hA (fun r_13 u_14 H locs hw hP hD hS => ?_)
        obtain ⟨fW_r_13, rfl⟩ := hw
        have hP : va_P (dC, dI) vwCl (mW h0 ad cid sg gm lg) H := hP
        have hD : va_D A (mW h0 ad cid sg gm lg) := hD
        refine W.lcmp hx hb dX13_merge_31 ?_
        refine lv_topi (fun z_15 ez_15 => ?_)
        have hz_15 : iv (-1) 1 z_15 := iv_of ez_15 (iv_cmp _ _)
        refine lv_if_eq (tgt := 38) hx hb dX13_merge_32 (by decide) (fun c_16 => ?_) (fun c_16 => ?_)
        · have h_17 : iv 0 0 z_15 := iv_eq c_16 hz_15 (iv_k (by decide) : iv 0 0 0) (by decide)
          refine lv_aload_n hx hb dX13_merge_38 rfl (lv_at hl 2 rfl) ?_
          refine lv_iload_n hx hb dX13_merge_39 rfl (lv_at hl 3 rfl) ?_
          refine lv_iload hx hb dX13_merge_40 (lv_at hl 0 rfl) ?_
          refine lv_iadd hx hb dX13_merge_42 ?_
          refine lv_topi (fun z_18 ez_18 => ?_)
          obtain rfl : z_9 = z_18 := ez_9.trans ez_18.symm
          refine lv_iload hx hb dX13_merge_43 (lv_at hl 5 rfl) ?_
          refine ma_iast (x := x) hx hb hK hP hD hS 36 (k := 45) rfl rfl rfl (show vp_in z_9 2080 from (iv_in hz_9 (by decide))) dX13_merge_45 (fun gm_19 H locs egm_19 hP hD hS => ?_)
          have hI_gm_19 := MI_st hI egm_19 hsx4_3 (by decide)
          have hRR := row_rep (W := mWn gm lg) (B := ba.toNatClampNeg) (k := x5_3.toNatClampNeg) hrl (show gm_19 45 = upd (gm 45) (z_9 : Int32).toNatClampNeg x from ((up_at egm_19).trans (by rw [show gm 45 = gm 45 from rfl]))) (cl_add hvba h_7 (by decide) (by decide) tz_9) (lt_cl h_7 hvmn (by decide) (by decide) (by have := i32_0; have := i32_1; have := i32_2; have := i32_m1; have := (hsx2_3).1; have := (hsx2_3).2; have := (h_8).1; have := (h_8).2; have := (hsx4_3).1; have := (hsx4_3).2; have := (h_7).1; have := (h_7).2; have := (hz_9).1; have := (hz_9).2; have := (hz_10).1; have := (hz_10).2; have := (h_17).1; have := (h_17).2; omega)) (by have := iv_cl hvmn (by decide); have := hvmn.2; omega) (by rw [← cl_add hvba h_7 (by decide) (by decide) tz_9, ← ez_10]; show mWord gm lg _ _ = mWord gm lg _ _; rw [← fW_r_11, ← fW_r_13]; exact (lg_cmp_eq _ _).mp (by rw [← ez_15]; exact c_16))
          have hQQ := RL_rep (W := mWn gm lg) (B := ba.toNatClampNeg) (n := mn.toNatClampNeg) (k := x5_3.toNatClampNeg) (show gm_19 45 = upd (gm 45) (z_9 : Int32).toNatClampNeg x from ((up_at egm_19).trans (by rw [show gm 45 = gm 45 from rfl]))) (cl_add hvba h_7 (by decide) (by decide) tz_9) (lt_cl h_7 hvmn (by decide) (by decide) (by have := i32_0; have := i32_1; have := i32_2; have := i32_m1; have := (hsx2_3).1; have := (hsx2_3).2; have := (h_8).1; have := (h_8).2; have := (hsx4_3).1; have := (hsx4_3).2; have := (h_7).1; have := (h_7).2; have := (hz_9).1; have := (hz_9).2; have := (hz_10).1; have := (hz_10).2; have := (h_17).1; have := (h_17).2; omega)) (by rw [← cl_add hvba h_7 (by decide) (by decide) tz_9, ← ez_10]; show mWord gm lg _ _ = mWord gm lg _ _; rw [← fW_r_11, ← fW_r_13]; exact (lg_cmp_eq _ _).mp (by rw [← ez_15]; exact c_16)) hnw
          refine lv_iload_n hx hb dX13_merge_46 rfl (lv_at hl 4 rfl) ?_
          exact W.iret (v := mn) hx hb hr (fun t ht hW => ⟨⟨mn, (sg, gm_19, lg), rfl, ⟨sg, gm_19, lg, rfl, hI_gm_19, KS_rf, (KS_up KS_rf egm_19 (by decide)), KS_rf, (iv_w h_8 (by decide)), (hRR.1), (hRR.2.1), (hRR.2.2), (hQQ)⟩, by rw [ht]; exact hP, va_K.moved hW.alike hK, hD⟩, hS.F ht⟩) hS.2.2 dX13_merge_47
        · have d_20 : ¬ (z_15 : Int32).toInt = 0 := lv_neT c_16 rfl
          refine lv_goto (tgt := 48) hx hb dX13_merge_35 (by decide) ?_
          obtain ⟨z_21, ez_21⟩ : ∃ z : Int32, z = x5_3 + 1 := ⟨_, rfl⟩
          have hz_21 : iv 1 26 z_21 := iv_of ez_21 (iv_add h_7 (iv_k (by decide) : iv 1 1 1) (by decide))
          have tz_21 : z_21.toInt = x5_3.toInt + 1 := by rw [ez_21]; exact iv_addE h_7 (iv_k (by decide) : iv 1 1 1) (by decide)
          refine lv_iinc (v := z_21) (lv' := [(5, .int z_21), (0, .ref h0), (1, .ref (ad 45)), (2, .int ba), (3, .int mn), (4, .int x)]) hx hb dX13_merge_48 hl (k := 0) rfl ez_21.symm (by decide) rfl (fun ls hl => ?_)
          refine lv_goto (tgt := 3) hx hb dX13_merge_51 (by decide) ?_
          exact ih3 _ (by rw [← hn3]; exact (iv_meas tz_21 h_7 (by decide))) z_21 rfl (iv_w hz_21 (by decide)) hsx2_3 (iv_w h_8 (by decide)) hsx4_3 (all_s h_7 (by decide) tz_21 hnw (fun q9 => c_16 (by rw [ez_15, fW_r_11, fW_r_13, ez_10, cl_add hvba h_7 (by decide) (by decide) tz_9]; exact (lg_cmp_eq _ _).mpr q9))) _ _ _ hP hD hS (lv_sub hl [0, 1, 2, 3, 4, 5] rfl)
  refine lv_iconst (v := 0) hx hb dX13_merge_0 (by decide) ?_
  refine lv_istore (lv' := [(5, .int 0), (0, .ref h0), (1, .ref (ad 45)), (2, .int ba), (3, .int mn), (4, .int x)]) hx hb dX13_merge_1 hl (by decide) rfl (fun ls hl => ?_)
  exact hj3 _ 0 rfl (iv_w (iv_k (by decide) : iv 0 0 0) (by decide)) hvba hvmn hvx (fun k9 _ h9 => absurd h9 (Nat.not_lt_zero _)) _ _ _ hP hD hS (lv_sub hl [0, 1, 2, 3, 4, 5] rfl)

set_option maxHeartbeats 4000000 in
set_option maxRecDepth 100000 in
theorem f_mrg47 (l : Launch) (dC : Nat → ClassId) (dI : Nat → Nat → Nat) (h0 : Nat) (ad : Nat → Nat) (cid : Nat → ClassId) (sg : Nat → Int32) (gm : Nat → Nat → Int32) (lg : Nat → Nat → Int64) (ba : Int32) (mn : Int32) (x : Int32) (hI : MI sg gm) (hvba : iv 0 2054 ba) (hvmn : iv 0 26 mn) (hvx : iv 0 79 x) (hrl : ROWL (mWn gm lg) (gm 47) ba.toNatClampNeg mn.toNatClampNeg) (hol : LW (mWn gm lg) x.toNatClampNeg) : MMi l dC dI yX13_merge wm_X13_merge ({ frames := 2, cells := 0, slots := 0, locals := 51 }) h0 ad cid [.ref (ad 47), .int ba, .int mn, .int x] sg gm lg (fun r v => ∃ (sg2 : Nat → Int32) (gm2 : Nat → Nat → Int32) (lg2 : Nat → Nat → Int64), v = (sg2, gm2, lg2) ∧ MI sg2 gm2 ∧ KS [] sg sg2 ∧ KS [47] gm gm2 ∧ KS [] lg lg2 ∧ (iv 0 26 r) ∧ (ROWL (mWn gm lg) (gm2 47) ba.toNatClampNeg r.toNatClampNeg) ∧ (RWF (gm 47) (gm2 47) ba.toNatClampNeg) ∧ (RWK (gm 47) (gm2 47) ba.toNatClampNeg mn.toNatClampNeg r.toNatClampNeg x) ∧ (RLq (gm2 47) ba.toNatClampNeg r.toNatClampNeg = pnW (mWn gm lg) (RLq (gm 47) ba.toNatClampNeg mn.toNatClampNeg) x)) := by
  intro sz
  refine Met.ofW (cc := cX13_merge) (maxL := 6) (ret := (some .int)) (by decide) rfl ?_
  intro p e s m args below meth c s₁ B hml hv
  obtain ⟨rfl, hsz, hP, hK, hD0⟩ := hv
  have hx := B.exec
  have hb := B.bytes
  have hr := B.returns
  have hts := atoms_spec (ws := wm_X13_merge) B.pre
  have htb := fun (w : Cond) (h : w ∈ tb) => hts w (List.mem_cons_of_mem _ h)
  have hown : s.vm.findClass RX13 = some m.cls := findClass_of_methodNamed B.named
  have hlocks := B.notSynchronized
  subst hsz
  have hD := hD0.self (sz := s.heap.size)
  generalize hAe : va_A (mW h0 ad cid sg gm lg) s.heap.size = A at hD ⊢
  have hA : ∀ q : Nat, s.heap.size ≤ q → A q := fun q h => by rw [← hAe]; exact Or.inr h
  have hS : va_S A s.heap s.heap [] := va_S.rf
  have hl := lv_entry ([.ref h0, .ref (ad 47), .int ba, .int mn, .int x]) (n := 6) (Nat.le_of_ble_eq_true rfl)
  rw [lg_entry_eq]
  generalize (lg_sl ([.ref h0, .ref (ad 47), .int ba, .int mn, .int x]) ++ List.replicate (6 - (lg_sl ([.ref h0, .ref (ad 47), .int ba, .int mn, .int x])).length) Slot.unset).toArray = ls at hl ⊢
  have hl : lv_has ls 6 [(0, .ref h0), (1, .ref (ad 47)), (2, .int ba), (3, .int mn), (4, .int x)] := hl
  have hj3 : ∀ (n : Nat) (x5_3 : Int32) (_ : (26 - x5_3.toInt).toNat = n) (_ : iv 0 26 x5_3) (_ : iv 0 2054 ba) (_ : iv 0 26 mn) (_ : iv 0 79 x) (_ : ∀ k9, 0 ≤ k9 → k9 < x5_3.toNatClampNeg → ¬ mWn gm lg (gm 47 (ba.toNatClampNeg + k9)).toNatClampNeg = mWn gm lg x.toNatClampNeg) (H : Heap) (locs : List Loc) (ls : Array Slot), va_P (dC, dI) vwCl (mW h0 ad cid sg gm lg) H → va_D A (mW h0 ad cid sg gm lg) → va_S A s.heap H locs → lv_has ls 6 [(5, .int x5_3), (0, .ref h0), (1, .ref (ad 47)), (2, .int ba), (3, .int mn), (4, .int x)] → W p l e (headSpec wm_X13_merge ({ frames := 2, cells := 0, slots := 0, locals := 51 })).room s m ([.ref h0, .ref (ad 47), .int ba, .int mn, .int x] : List Value).toArray below meth c H locs 0 0 (MQ below (va_Qi (fun r v => ∃ (sg2 : Nat → Int32) (gm2 : Nat → Nat → Int32) (lg2 : Nat → Nat → Int64), v = (sg2, gm2, lg2) ∧ MI sg2 gm2 ∧ KS [] sg sg2 ∧ KS [47] gm gm2 ∧ KS [] lg lg2 ∧ (iv 0 26 r) ∧ (ROWL (mWn gm lg) (gm2 47) ba.toNatClampNeg r.toNatClampNeg) ∧ (RWF (gm 47) (gm2 47) ba.toNatClampNeg) ∧ (RWK (gm 47) (gm2 47) ba.toNatClampNeg mn.toNatClampNeg r.toNatClampNeg x) ∧ (RLq (gm2 47) ba.toNatClampNeg r.toNatClampNeg = pnW (mWn gm lg) (RLq (gm 47) ba.toNatClampNeg mn.toNatClampNeg) x)) (MB dC dI h0 ad cid A) A) ([.ref h0, .ref (ad 47), .int ba, .int mn, .int x] : List Value).toArray s 0 0 A) (F0 m 3 ls []) := by
    intro n
    induction n using Nat.strongRecOn with
    | ind n ih3 =>
      intro x5_3 hn3 hx5_3 hsx2_3 hsx3_3 hsx4_3 hnw H locs ls hP hD hS hl
      refine lv_iload hx hb dX13_merge_3 (lv_at hl 0 rfl) ?_
      refine lv_iload_n hx hb dX13_merge_5 rfl (lv_at hl 4 rfl) ?_
      refine lv_icmp_ge (tgt := 54) hx hb dX13_merge_6 (by decide) (fun c_1 => ?_) (fun c_1 => ?_)
      · have d_2 : (mn : Int32).toInt ≤ (x5_3 : Int32).toInt := Int32.le_iff_toInt_le.mp c_1
        have hnw9 : ∀ k9, 0 ≤ k9 → k9 < mn.toNatClampNeg → ¬ mWn gm lg (gm 47 (ba.toNatClampNeg + k9)).toNatClampNeg = mWn gm lg x.toNatClampNeg := fun k9 h8 h9 => hnw k9 h8 (by have := le_cl hvmn hx5_3 (by decide) (by decide) (by have := i32_0; have := i32_1; have := i32_2; have := i32_m1; have := (hsx2_3).1; have := (hsx2_3).2; have := (hsx3_3).1; have := (hsx3_3).2; have := (hsx4_3).1; have := (hsx4_3).2; have := (hx5_3).1; have := (hx5_3).2; omega); omega)
        have h25 := row_room hrl hol (by have := iv_cl hvmn (by decide); have := hvmn.2; omega) hnw9
        have hm25 : iv 0 25 mn := ⟨hvmn.1, by have := iv_cl hvmn (by decide); omega⟩
        refine lv_aload_n hx hb dX13_merge_54 rfl (lv_at hl 2 rfl) ?_
        refine lv_iload_n hx hb dX13_merge_55 rfl (lv_at hl 3 rfl) ?_
        refine lv_iload_n hx hb dX13_merge_56 rfl (lv_at hl 4 rfl) ?_
        refine lv_iadd hx hb dX13_merge_57 ?_
        refine lv_topi (fun z_3 ez_3 => ?_)
        have hz_3 : iv 0 2079 z_3 := iv_of ez_3 (iv_add hsx2_3 hm25 (by decide))
        have tz_3 : z_3.toInt = (ba : Int32).toInt + (mn : Int32).toInt := by rw [ez_3]; exact iv_addE hsx2_3 hm25 (by decide)
        refine lv_iload hx hb dX13_merge_58 (lv_at hl 5 rfl) ?_
        refine ma_iast (x := x) hx hb hK hP hD hS 38 (k := 47) rfl rfl rfl (show vp_in z_3 2080 from (iv_in hz_3 (by decide))) dX13_merge_60 (fun gm_4 H locs egm_4 hP hD hS => ?_)
        have hI_gm_4 := MI_st hI egm_4 hsx4_3 (by decide)
        have hRR := row_app (W := mWn gm lg) hrl hol h25 hnw9 (show gm_4 47 = upd (gm 47) (z_3 : Int32).toNatClampNeg x from ((up_at egm_4).trans (by rw [show gm 47 = gm 47 from rfl]))) (cl_add hvba hm25 (by decide) (by decide) tz_3)
        have hQQ := RL_app (W := mWn gm lg) (show gm_4 47 = upd (gm 47) (z_3 : Int32).toNatClampNeg x from ((up_at egm_4).trans (by rw [show gm 47 = gm 47 from rfl]))) (cl_add hvba hm25 (by decide) (by decide) tz_3) hnw9
        refine lv_iload_n hx hb dX13_merge_61 rfl (lv_at hl 4 rfl) ?_
        refine lv_iconst (v := 1) hx hb dX13_merge_62 (by decide) ?_
        refine lv_iadd hx hb dX13_merge_63 ?_
        refine lv_topi (fun z_5 ez_5 => ?_)
        have hz_5 : iv 1 26 z_5 := iv_of ez_5 (iv_add hm25 (iv_k (by decide) : iv 1 1 1) (by decide))
        have tz_5 : z_5.toInt = (mn : Int32).toInt + 1 := by rw [ez_5]; exact iv_addE hm25 (iv_k (by decide) : iv 1 1 1) (by decide)
        exact W.iret (v := z_5) hx hb hr (fun t ht hW => ⟨⟨z_5, (sg, gm_4, lg), rfl, ⟨sg, gm_4, lg, rfl, hI_gm_4, KS_rf, (KS_up KS_rf egm_4 (by decide)), KS_rf, (iv_w hz_5 (by decide)), (by rw [s_cl hm25 (by decide) tz_5]; exact hRR.1), (hRR.2.1), (by rw [s_cl hm25 (by decide) tz_5]; exact hRR.2.2), (by rw [s_cl hm25 (by decide) tz_5]; exact hQQ)⟩, by rw [ht]; exact hP, va_K.moved hW.alike hK, hD⟩, hS.F ht⟩) hS.2.2 dX13_merge_64
      · have d_6 : (x5_3 : Int32).toInt < (mn : Int32).toInt := Int32.lt_iff_toInt_lt.mp (i32_lt c_1)
        have h_7 : iv 0 25 x5_3 := iv_ltL (i32_lt c_1) hx5_3 hsx3_3 (by decide)
        have h_8 : iv 1 26 mn := iv_ltR (i32_lt c_1) hx5_3 hsx3_3 (by decide)
        refine lv_aload_n hx hb dX13_merge_9 rfl (lv_at hl 1 rfl) ?_
        refine lv_aload_n hx hb dX13_merge_10 rfl (lv_at hl 2 rfl) ?_
        refine lv_iload_n hx hb dX13_merge_11 rfl (lv_at hl 3 rfl) ?_
        refine lv_iload hx hb dX13_merge_12 (lv_at hl 0 rfl) ?_
        refine lv_iadd hx hb dX13_merge_14 ?_
        refine lv_topi (fun z_9 ez_9 => ?_)
        have hz_9 : iv 0 2079 z_9 := iv_of ez_9 (iv_add hsx2_3 h_7 (by decide))
        have tz_9 : z_9.toInt = (ba : Int32).toInt + (x5_3 : Int32).toInt := by rw [ez_9]; exact iv_addE hsx2_3 h_7 (by decide)
        refine mr_iald hx hb hK hP 38 (k := 47) rfl rfl rfl (show vp_in z_9 2080 from (iv_in hz_9 (by decide))) dX13_merge_15 ?_
        refine lv_topi (fun z_10 ez_10 => ?_)
        have hz_10 : iv 0 79 z_10 := iv_of ez_10 (MI_a hI 47 hz_9 (by decide))
        refine lv_ldc2 (own := RX13) (v := 1851878757) hx hb hown (htb _ kw_1178) dX13_merge_16 ?_
        refine mr_calll (rest := []) ⟨hx, hb, hml, hown, htb⟩ (f_word l dC dI h0 ad cid sg gm lg z_10 1851878757 hI hz_10) (cwV 2 htb (gd_V kw_1201 kw_1202 kw_96 kw_160 kw_1603) rfl rfl rfl (by decide +kernel) ⟨Nat.le_of_ble_eq_true rfl, Nat.le_of_ble_eq_true rfl⟩) rfl hl.1 rfl (Nat.le_of_ble_eq_true rfl) dX13_merge_19 ⟨Nat.zero_le _, Nat.zero_le _⟩ hK hP hD hS hA (fun r_11 u_12 H locs hw hP hD hS => ?_)
        obtain ⟨fW_r_11, rfl⟩ := hw
        have hP : va_P (dC, dI) vwCl (mW h0 ad cid sg gm lg) H := hP
        have hD : va_D A (mW h0 ad cid sg gm lg) := hD
        refine lv_aload_n hx hb dX13_merge_22 rfl (lv_at hl 1 rfl) ?_
        refine lv_iload hx hb dX13_merge_23 (lv_at hl 5 rfl) ?_
        refine lv_ldc2 (own := RX13) (v := 1851878757) hx hb hown (htb _ kw_1178) dX13_merge_25 ?_
        refine mr_calll (rest := [.long r_11]) ⟨hx, hb, hml, hown, htb⟩ (f_word l dC dI h0 ad cid sg gm lg x 1851878757 hI hsx4_3) (cwV 2 htb (gd_V kw_1201 kw_1202 kw_96 kw_160 kw_1603) rfl rfl rfl (by decide +kernel) ⟨Nat.le_of_ble_eq_true rfl, Nat.le_of_ble_eq_true rfl⟩) rfl hl.1 rfl (Nat.le_of_ble_eq_true rfl) dX13_merge_28 ⟨Nat.zero_le _, Nat.zero_le _⟩ hK hP hD hS hA (fun r_13 u_14 H locs hw hP hD hS => ?_)
        obtain ⟨fW_r_13, rfl⟩ := hw
        have hP : va_P (dC, dI) vwCl (mW h0 ad cid sg gm lg) H := hP
        have hD : va_D A (mW h0 ad cid sg gm lg) := hD
        refine W.lcmp hx hb dX13_merge_31 ?_
        refine lv_topi (fun z_15 ez_15 => ?_)
        have hz_15 : iv (-1) 1 z_15 := iv_of ez_15 (iv_cmp _ _)
        refine lv_if_eq (tgt := 38) hx hb dX13_merge_32 (by decide) (fun c_16 => ?_) (fun c_16 => ?_)
        · have h_17 : iv 0 0 z_15 := iv_eq c_16 hz_15 (iv_k (by decide) : iv 0 0 0) (by decide)
          refine lv_aload_n hx hb dX13_merge_38 rfl (lv_at hl 2 rfl) ?_
          refine lv_iload_n hx hb dX13_merge_39 rfl (lv_at hl 3 rfl) ?_
          refine lv_iload hx hb dX13_merge_40 (lv_at hl 0 rfl) ?_
          refine lv_iadd hx hb dX13_merge_42 ?_
          refine lv_topi (fun z_18 ez_18 => ?_)
          obtain rfl : z_9 = z_18 := ez_9.trans ez_18.symm
          refine lv_iload hx hb dX13_merge_43 (lv_at hl 5 rfl) ?_
          refine ma_iast (x := x) hx hb hK hP hD hS 38 (k := 47) rfl rfl rfl (show vp_in z_9 2080 from (iv_in hz_9 (by decide))) dX13_merge_45 (fun gm_19 H locs egm_19 hP hD hS => ?_)
          have hI_gm_19 := MI_st hI egm_19 hsx4_3 (by decide)
          have hRR := row_rep (W := mWn gm lg) (B := ba.toNatClampNeg) (k := x5_3.toNatClampNeg) hrl (show gm_19 47 = upd (gm 47) (z_9 : Int32).toNatClampNeg x from ((up_at egm_19).trans (by rw [show gm 47 = gm 47 from rfl]))) (cl_add hvba h_7 (by decide) (by decide) tz_9) (lt_cl h_7 hvmn (by decide) (by decide) (by have := i32_0; have := i32_1; have := i32_2; have := i32_m1; have := (hsx2_3).1; have := (hsx2_3).2; have := (h_8).1; have := (h_8).2; have := (hsx4_3).1; have := (hsx4_3).2; have := (h_7).1; have := (h_7).2; have := (hz_9).1; have := (hz_9).2; have := (hz_10).1; have := (hz_10).2; have := (h_17).1; have := (h_17).2; omega)) (by have := iv_cl hvmn (by decide); have := hvmn.2; omega) (by rw [← cl_add hvba h_7 (by decide) (by decide) tz_9, ← ez_10]; show mWord gm lg _ _ = mWord gm lg _ _; rw [← fW_r_11, ← fW_r_13]; exact (lg_cmp_eq _ _).mp (by rw [← ez_15]; exact c_16))
          have hQQ := RL_rep (W := mWn gm lg) (B := ba.toNatClampNeg) (n := mn.toNatClampNeg) (k := x5_3.toNatClampNeg) (show gm_19 47 = upd (gm 47) (z_9 : Int32).toNatClampNeg x from ((up_at egm_19).trans (by rw [show gm 47 = gm 47 from rfl]))) (cl_add hvba h_7 (by decide) (by decide) tz_9) (lt_cl h_7 hvmn (by decide) (by decide) (by have := i32_0; have := i32_1; have := i32_2; have := i32_m1; have := (hsx2_3).1; have := (hsx2_3).2; have := (h_8).1; have := (h_8).2; have := (hsx4_3).1; have := (hsx4_3).2; have := (h_7).1; have := (h_7).2; have := (hz_9).1; have := (hz_9).2; have := (hz_10).1; have := (hz_10).2; have := (h_17).1; have := (h_17).2; omega)) (by rw [← cl_add hvba h_7 (by decide) (by decide) tz_9, ← ez_10]; show mWord gm lg _ _ = mWord gm lg _ _; rw [← fW_r_11, ← fW_r_13]; exact (lg_cmp_eq _ _).mp (by rw [← ez_15]; exact c_16)) hnw
          refine lv_iload_n hx hb dX13_merge_46 rfl (lv_at hl 4 rfl) ?_
          exact W.iret (v := mn) hx hb hr (fun t ht hW => ⟨⟨mn, (sg, gm_19, lg), rfl, ⟨sg, gm_19, lg, rfl, hI_gm_19, KS_rf, (KS_up KS_rf egm_19 (by decide)), KS_rf, (iv_w h_8 (by decide)), (hRR.1), (hRR.2.1), (hRR.2.2), (hQQ)⟩, by rw [ht]; exact hP, va_K.moved hW.alike hK, hD⟩, hS.F ht⟩) hS.2.2 dX13_merge_47
        · have d_20 : ¬ (z_15 : Int32).toInt = 0 := lv_neT c_16 rfl
          refine lv_goto (tgt := 48) hx hb dX13_merge_35 (by decide) ?_
          obtain ⟨z_21, ez_21⟩ : ∃ z : Int32, z = x5_3 + 1 := ⟨_, rfl⟩
          have hz_21 : iv 1 26 z_21 := iv_of ez_21 (iv_add h_7 (iv_k (by decide) : iv 1 1 1) (by decide))
          have tz_21 : z_21.toInt = x5_3.toInt + 1 := by rw [ez_21]; exact iv_addE h_7 (iv_k (by decide) : iv 1 1 1) (by decide)
          refine lv_iinc (v := z_21) (lv' := [(5, .int z_21), (0, .ref h0), (1, .ref (ad 47)), (2, .int ba), (3, .int mn), (4, .int x)]) hx hb dX13_merge_48 hl (k := 0) rfl ez_21.symm (by decide) rfl (fun ls hl => ?_)
          refine lv_goto (tgt := 3) hx hb dX13_merge_51 (by decide) ?_
          exact ih3 _ (by rw [← hn3]; exact (iv_meas tz_21 h_7 (by decide))) z_21 rfl (iv_w hz_21 (by decide)) hsx2_3 (iv_w h_8 (by decide)) hsx4_3 (all_s h_7 (by decide) tz_21 hnw (fun q9 => c_16 (by rw [ez_15, fW_r_11, fW_r_13, ez_10, cl_add hvba h_7 (by decide) (by decide) tz_9]; exact (lg_cmp_eq _ _).mpr q9))) _ _ _ hP hD hS (lv_sub hl [0, 1, 2, 3, 4, 5] rfl)
  refine lv_iconst (v := 0) hx hb dX13_merge_0 (by decide) ?_
  refine lv_istore (lv' := [(5, .int 0), (0, .ref h0), (1, .ref (ad 47)), (2, .int ba), (3, .int mn), (4, .int x)]) hx hb dX13_merge_1 hl (by decide) rfl (fun ls hl => ?_)
  exact hj3 _ 0 rfl (iv_w (iv_k (by decide) : iv 0 0 0) (by decide)) hvba hvmn hvx (fun k9 _ h9 => absurd h9 (Nat.not_lt_zero _)) _ _ _ hP hD hS (lv_sub hl [0, 1, 2, 3, 4, 5] rfl)
end
section
set_option maxHeartbeats 4000000 in
set_option maxRecDepth 100000 in
theorem f_mergeBean9 (l : Launch) (dC : Nat → ClassId) (dI : Nat → Nat → Nat) (h0 : Nat) (ad : Nat → Nat) (cid : Nat → ClassId) (sg : Nat → Int32) (gm : Nat → Nat → Int32) (lg : Nat → Nat → Int64) (b : Int32) (hI : MI sg gm) (hvb : iv 0 79 b) (hbl : b.toInt < (sg 41).toInt) (hac : ACY sg gm lg) (hst : STR sg gm lg) : MMv l dC dI yX13_mergeBean wm_X13_mergeBean ({ frames := 4, cells := 0, slots := 0, locals := 95 }) h0 ad cid [.int b] sg gm lg (fun v => ∃ (sg2 : Nat → Int32) (gm2 : Nat → Nat → Int32) (lg2 : Nat → Nat → Int64), v = (sg2, gm2, lg2) ∧ MI sg2 gm2 ∧ KS [] sg sg2 ∧ KS [44, 45, 46, 47] gm gm2 ∧ KS [] lg lg2 ∧ (MBS (mWn gm lg) (SEK sg gm 5) gm gm2 b.toNatClampNeg) ∧ (S59 gm2 b = MR9 sg gm lg 5 b 0 ∧ S10 gm2 b = MR9 sg gm lg 10 b 0) ∧ (FX9 gm gm2 b.toNatClampNeg)) := by
  intro sz
  refine Met.ofW (cc := cX13_mergeBean) (maxL := 6) (ret := none) (by decide) rfl ?_
  intro p e s m args below meth c s₁ B hml hv
  obtain ⟨rfl, hsz, hP, hK, hD0⟩ := hv
  have hx := B.exec
  have hb := B.bytes
  have hr := B.returns
  have hts := atoms_spec (ws := wm_X13_mergeBean) B.pre
  have htb := fun (w : Cond) (h : w ∈ tb) => hts w (List.mem_cons_of_mem _ h)
  have hown : s.vm.findClass RX13 = some m.cls := findClass_of_methodNamed B.named
  have hlocks := B.notSynchronized
  subst hsz
  have hD := hD0.self (sz := s.heap.size)
  generalize hAe : va_A (mW h0 ad cid sg gm lg) s.heap.size = A at hD ⊢
  have hA : ∀ q : Nat, s.heap.size ≤ q → A q := fun q h => by rw [← hAe]; exact Or.inr h
  have hS : va_S A s.heap s.heap [] := va_S.rf
  have hl := lv_entry ([.ref h0, .int b]) (n := 6) (Nat.le_of_ble_eq_true rfl)
  rw [lg_entry_eq]
  generalize (lg_sl ([.ref h0, .int b]) ++ List.replicate (6 - (lg_sl ([.ref h0, .int b])).length) Slot.unset).toArray = ls at hl ⊢
  have hl : lv_has ls 6 [(0, .ref h0), (1, .int b)] := hl
  have hj39 : ∀ (n : Nat) (gm_j39 : Nat → Nat → Int32) (x3_39 : Int32) (x2_39 : Int32) (_ : (x3_39.toInt - (-1)).toNat = n) (_ : iv (-1) 80 x3_39) (_ : iv 0 81 x2_39) (_ : iv 0 79 b) (_ : KS [44, 45, 46, 47] gm gm_j39) (_ : MI sg gm_j39) (_ : MBS (mWn gm lg) (SEK sg gm 5) gm gm_j39 b.toNatClampNeg) (_ : x3_39.toInt < (dP sg gm lg b : Int)) (_ : S59 gm_j39 b = MR9 sg gm lg 5 b (x3_39.toInt + 1).toNat ∧ S10 gm_j39 b = MR9 sg gm lg 10 b (x3_39.toInt + 1).toNat) (_ : FX9 gm gm_j39 b.toNatClampNeg) (H : Heap) (locs : List Loc) (ls : Array Slot), va_P (dC, dI) vwCl (mW h0 ad cid sg gm_j39 lg) H → va_D A (mW h0 ad cid sg gm_j39 lg) → va_S A s.heap H locs → lv_has ls 6 [(3, .int x3_39), (2, .int x2_39), (0, .ref h0), (1, .int b)] → W p l e (headSpec wm_X13_mergeBean ({ frames := 4, cells := 0, slots := 0, locals := 95 })).room s m ([.ref h0, .int b] : List Value).toArray below meth c H locs 0 0 (MQ below (va_Qv (fun v => ∃ (sg2 : Nat → Int32) (gm2 : Nat → Nat → Int32) (lg2 : Nat → Nat → Int64), v = (sg2, gm2, lg2) ∧ MI sg2 gm2 ∧ KS [] sg sg2 ∧ KS [44, 45, 46, 47] gm gm2 ∧ KS [] lg lg2 ∧ (MBS (mWn gm lg) (SEK sg gm 5) gm gm2 b.toNatClampNeg) ∧ (S59 gm2 b = MR9 sg gm lg 5 b 0 ∧ S10 gm2 b = MR9 sg gm lg 10 b 0) ∧ (FX9 gm gm2 b.toNatClampNeg)) (MB dC dI h0 ad cid A) A) ([.ref h0, .int b] : List Value).toArray s 0 0 A) (F0 m 39 ls []) := by
    intro n
    induction n using Nat.strongRecOn with
    | ind n ih39 =>
      intro gm_j39 x3_39 x2_39 hn39 hx3_39 hx2_39 hsx1_39 hkg_j39 hI_j39 hmb hdd hmx hfx H locs ls hP hD hS hl
      have hj151 : ∀ (n : Nat) (gm_j151 : Nat → Nat → Int32) (x5_151 : Int32) (x4_151 : Int32) (_ : mE x5_151 = n) (_ : iv (-1) 79 x5_151) (_ : iv 0 79 x4_151) (_ : iv 0 80 x3_39) (_ : iv 0 81 x2_39) (_ : iv 0 79 b) (_ : KS [44, 45, 46, 47] gm gm_j151) (_ : MI sg gm_j151) (_ : MBS (mWn gm lg) (SEK sg gm 5) gm gm_j151 b.toNatClampNeg) (_ : x4_151.toInt < (sg 41).toInt) (_ : x5_151 = -1 ∨ SEK sg gm 10 x5_151) (_ : S59 gm_j151 b = MR9 sg gm lg 5 b x3_39.toNatClampNeg) (_ : (rem9 sg gm (gm 42 x4_151.toNatClampNeg) 10 x5_151).foldl (pnW (mWn gm lg)) (S10 gm_j151 b) = MR9 sg gm lg 10 b x3_39.toNatClampNeg) (_ : FX9 gm gm_j151 b.toNatClampNeg) (H : Heap) (locs : List Loc) (ls : Array Slot), va_P (dC, dI) vwCl (mW h0 ad cid sg gm_j151 lg) H → va_D A (mW h0 ad cid sg gm_j151 lg) → va_S A s.heap H locs → lv_has ls 6 [(5, .int x5_151), (4, .int x4_151), (3, .int x3_39), (2, .int x2_39), (0, .ref h0), (1, .int b)] → W p l e (headSpec wm_X13_mergeBean ({ frames := 4, cells := 0, slots := 0, locals := 95 })).room s m ([.ref h0, .int b] : List Value).toArray below meth c H locs 0 0 (MQ below (va_Qv (fun v => ∃ (sg2 : Nat → Int32) (gm2 : Nat → Nat → Int32) (lg2 : Nat → Nat → Int64), v = (sg2, gm2, lg2) ∧ MI sg2 gm2 ∧ KS [] sg sg2 ∧ KS [44, 45, 46, 47] gm gm2 ∧ KS [] lg lg2 ∧ (MBS (mWn gm lg) (SEK sg gm 5) gm gm2 b.toNatClampNeg) ∧ (S59 gm2 b = MR9 sg gm lg 5 b 0 ∧ S10 gm2 b = MR9 sg gm lg 10 b 0) ∧ (FX9 gm gm2 b.toNatClampNeg)) (MB dC dI h0 ad cid A) A) ([.ref h0, .int b] : List Value).toArray s 0 0 A) (F0 m 151 ls []) := by
        intro n
        induction n using Nat.strongRecOn with
        | ind n ih151 =>
          intro gm_j151 x5_151 x4_151 hn151 hx5_151 hx4_151 hsx3_151 hsx2_151 hsx1_151 hkg_j151 hI_j151 hmb hlb he5 hm5b hm10b hfx H locs ls hP hD hS hl
          refine lv_iload hx hb dX13_mergeBean_151 (lv_at hl 0 rfl) ?_
          refine lv_iconst (v := (-1)) hx hb dX13_mergeBean_153 (by decide) ?_
          refine lv_icmp_eq (tgt := 203) hx hb dX13_mergeBean_154 (by decide) (fun c_1 => ?_) (fun c_1 => ?_)
          · have h_2 : iv (-1) (-1) x5_151 := iv_eq c_1 hx5_151 (iv_k (by decide) : iv (-1) (-1) (-1)) (by decide)
            obtain ⟨z_3, ez_3⟩ : ∃ z : Int32, z = x3_39 + (-1) := ⟨_, rfl⟩
            have hz_3 : iv (-1) 79 z_3 := iv_of ez_3 (iv_add hsx3_151 (iv_k (by decide) : iv (-1) (-1) (-1)) (by decide))
            have tz_3 : z_3.toInt = x3_39.toInt - 1 := by rw [ez_3]; exact iv_addE hsx3_151 (iv_k (by decide) : iv (-1) (-1) (-1)) (by decide)
            refine lv_iinc (v := z_3) (lv' := [(3, .int z_3), (5, .int x5_151), (4, .int x4_151), (2, .int x2_39), (0, .ref h0), (1, .int b)]) hx hb dX13_mergeBean_203 hl (k := 2) rfl ez_3.symm (by decide) rfl (fun ls hl => ?_)
            refine lv_goto (tgt := 39) hx hb dX13_mergeBean_206 (by decide) ?_
            exact ih39 _ (by rw [← hn39]; exact (iv_measDn tz_3 (by decide) hsx3_151 (by decide))) gm_j151 z_3 x2_39 rfl (iv_w hz_3 (by decide)) hsx2_151 hsx1_151 (KS_tr (L := [44, 45, 46, 47]) KS_rf hkg_j151 (by decide)) hI_j151 (hmb) (by have := tz_3; omega) ((by rw [(show (z_3.toInt + 1).toNat = x3_39.toNatClampNeg from (by have := tz_3; have q1 : x3_39.toNatClampNeg = x3_39.toInt.toNat := rfl; have := i32_0; have := i32_1; have := i32_2; have := i32_m1; have := (hsx1_151).1; have := (hsx1_151).2; have := (hsx3_151).1; have := (hsx3_151).2; have := (hsx2_151).1; have := (hsx2_151).2; have := (h_2).1; have := (h_2).2; have := (hx4_151).1; have := (hx4_151).2; have := (hz_3).1; have := (hz_3).2; omega))]; exact ⟨hm5b, M5_e hm10b c_1⟩)) (hfx) _ _ _ hP hD hS (lv_sub hl [0, 3, 4, 5] rfl)
          · have h_4 : iv 0 79 x5_151 := iv_neL c_1 hx5_151 (by decide)
            have hse := he5.resolve_left c_1
            refine lv_aload_n hx hb dX13_mergeBean_157 rfl (lv_at hl 4 rfl) ?_
            refine mr_get (v := .ref (ad 46)) hx hb htb inX13 hown hK hP 46 (by decide) (htb _ kw_1073) rfl dX13_mergeBean_158 ?_
            refine lv_iload_n hx hb dX13_mergeBean_161 rfl (lv_at hl 5 rfl) ?_
            refine lv_aload_n hx hb dX13_mergeBean_162 rfl (lv_at hl 4 rfl) ?_
            refine lv_aload_n hx hb dX13_mergeBean_163 rfl (lv_at hl 4 rfl) ?_
            refine mr_get (v := .ref (ad 47)) hx hb htb inX13 hown hK hP 47 (by decide) (htb _ kw_1074) rfl dX13_mergeBean_164 ?_
            refine lv_bipush (v := 26) hx hb dX13_mergeBean_167 (by decide) ?_
            refine lv_iload_n hx hb dX13_mergeBean_169 rfl (lv_at hl 5 rfl) ?_
            refine lv_imul hx hb dX13_mergeBean_170 ?_
            refine lv_topi (fun z_5 ez_5 => ?_)
            have hz_5 : iv 0 2054 z_5 := iv_of ez_5 (iv_mul (iv_k (by decide) : iv 26 26 26) hsx1_151 (by decide))
            have tz_5 : z_5.toInt = 26 * (b : Int32).toInt := by rw [ez_5]; exact iv_mulE (iv_k (by decide) : iv 26 26 26) hsx1_151 (by decide)
            refine lv_aload_n hx hb dX13_mergeBean_171 rfl (lv_at hl 4 rfl) ?_
            refine mr_get (v := .ref (ad 46)) hx hb htb inX13 hown hK hP 46 (by decide) (htb _ kw_1073) rfl dX13_mergeBean_172 ?_
            refine lv_iload_n hx hb dX13_mergeBean_175 rfl (lv_at hl 5 rfl) ?_
            refine mr_iald hx hb hK hP 37 (k := 46) rfl rfl rfl (show vp_in b 80 from (iv_in hsx1_151 (by decide))) dX13_mergeBean_176 ?_
            refine lv_topi (fun z_6 ez_6 => ?_)
            have hz_6 : iv 0 26 z_6 := iv_of ez_6 (MI_a hI_j151 46 hsx1_151 (by decide))
            refine lv_iload hx hb dX13_mergeBean_177 (lv_at hl 0 rfl) ?_
            refine mr_calli (rest := [.int b, .ref (ad 46)]) ⟨hx, hb, hml, hown, htb⟩ (f_mrg47 l dC dI h0 ad cid sg gm_j151 lg z_5 z_6 x5_151 hI_j151 hz_5 hz_6 hse.1 (by rw [mWn_k (DK_of (show KS [] sg sg from KS_rf) (show KS [44, 45, 46, 47] gm gm_j151 from (KS_tr (L := [44, 45, 46, 47]) KS_rf hkg_j151 (by decide))) (show KS [] lg lg from KS_rf) (by decide) (by decide) (by decide)).1, cl26 hvb tz_5, ez_6]; exact hmb.2.2.2.2) (by rw [mWn_k (DK_of (show KS [] sg sg from KS_rf) (show KS [44, 45, 46, 47] gm gm_j151 from (KS_tr (L := [44, 45, 46, 47]) KS_rf hkg_j151 (by decide))) (show KS [] lg lg from KS_rf) (by decide) (by decide) (by decide)).1]; exact SEK_ol hst hse (by decide))) (cwV 4 htb (gd_V kw_1233 kw_1234 kw_108 kw_160 kw_1616) rfl rfl rfl (by decide +kernel) ⟨Nat.le_of_ble_eq_true rfl, Nat.le_of_ble_eq_true rfl⟩) rfl hl.1 rfl (Nat.le_of_ble_eq_true rfl) dX13_mergeBean_179 ⟨Nat.zero_le _, Nat.zero_le _⟩ hK hP hD hS hA (fun r_7 u_8 H locs hw hP hD hS => ?_)
            obtain ⟨sgv_9, gmv_9, lgv_9, rfl, hIv_9, ksv_9, kgv_9, klv_9, hr_7, fRl_r_7, fRo_r_7, fRk_r_7, fQ_r_7⟩ := hw
            obtain rfl := KS_nil ksv_9
            obtain rfl := KS_nil klv_9
            have hP : va_P (dC, dI) vwCl (mW h0 ad cid sg gmv_9 lg) H := hP
            have hD : va_D A (mW h0 ad cid sg gmv_9 lg) := hD
            have q91 := fRl_r_7
            rw [mWn_k (DK_of (show KS [] sg sg from KS_rf) (show KS [44, 45, 46, 47] gm gm_j151 from (KS_tr (L := [44, 45, 46, 47]) KS_rf hkg_j151 (by decide))) (show KS [] lg lg from KS_rf) (by decide) (by decide) (by decide)).1, cl26 hvb tz_5] at q91
            have q92 := fRo_r_7
            rw [cl26 hvb tz_5] at q92
            have q93 := fRk_r_7
            rw [cl26 hvb tz_5, ez_6] at q93
            have q94 := fQ_r_7
            rw [mWn_k (DK_of (show KS [] sg sg from KS_rf) (show KS [44, 45, 46, 47] gm gm_j151 from (KS_tr (L := [44, 45, 46, 47]) KS_rf hkg_j151 (by decide))) (show KS [] lg lg from KS_rf) (by decide) (by decide) (by decide)).1, cl26 hvb tz_5, ez_6] at q94
            refine ma_iast (x := r_7) hx hb hK hP hD hS 37 (k := 46) rfl rfl rfl (show vp_in b 80 from (iv_in hsx1_151 (by decide))) dX13_mergeBean_182 (fun gm_10 H locs egm_10 hP hD hS => ?_)
            have hI_gm_10 := MI_st hIv_9 egm_10 hr_7 (by decide)
            refine lv_aload_n hx hb dX13_mergeBean_183 rfl (lv_at hl 4 rfl) ?_
            refine lv_aload_n hx hb dX13_mergeBean_184 rfl (lv_at hl 4 rfl) ?_
            refine mr_get (v := .ref (ad 42)) hx hb htb inX13 hown hK hP 42 (by decide) (htb _ kw_1069) rfl dX13_mergeBean_185 ?_
            refine lv_iload hx hb dX13_mergeBean_188 (lv_at hl 1 rfl) ?_
            refine mr_iald hx hb hK hP 33 (k := 42) rfl rfl rfl (show vp_in x4_151 80 from (iv_in hx4_151 (by decide))) dX13_mergeBean_190 ?_
            refine lv_topi (fun z_11 ez_11 => ?_)
            have hz_11 : iv 0 79 z_11 := iv_of ez_11 (MI_a hI_gm_10 42 hx4_151 (by decide))
            have ez_11 := ez_11.trans (congrFun (Eq.trans (Eq.trans (up_ne egm_10 (by decide)) (kgv_9 42 (by decide))) (hkg_j151 42 (by decide))) _)
            refine lv_bipush (v := 10) hx hb dX13_mergeBean_191 (by decide) ?_
            refine lv_iload hx hb dX13_mergeBean_193 (lv_at hl 0 rfl) ?_
            refine mr_calli (rest := []) ⟨hx, hb, hml, hown, htb⟩ (f_inner l dC dI h0 ad cid sg gm_10 lg z_11 10 x5_151 hI_gm_10 (iv_w hz_11 (by decide)) (iv_w (iv_k (by decide) : iv 10 10 10) (by decide)) hse.1) (cwV 3 htb (gd_V kw_1231 kw_1232 kw_107 kw_160 kw_1615) rfl rfl rfl (by decide +kernel) ⟨Nat.le_of_ble_eq_true rfl, Nat.le_of_ble_eq_true rfl⟩) rfl hl.1 rfl (Nat.le_of_ble_eq_true rfl) dX13_mergeBean_195 ⟨Nat.zero_le _, Nat.zero_le _⟩ hK hP hD hS hA (fun r_12 u_13 H locs hw hP hD hS => ?_)
            obtain ⟨hr_12, fN_r_12, rfl⟩ := hw
            have hP : va_P (dC, dI) vwCl (mW h0 ad cid sg gm_10 lg) H := hP
            have hD : va_D A (mW h0 ad cid sg gm_10 lg) := hD
            refine lv_istore (lv' := [(5, .int r_12), (4, .int x4_151), (3, .int x3_39), (2, .int x2_39), (0, .ref h0), (1, .int b)]) hx hb dX13_mergeBean_198 hl (by decide) rfl (fun ls hl => ?_)
            refine lv_goto (tgt := 151) hx hb dX13_mergeBean_200 (by decide) ?_
            exact ih151 _ (by rw [← hn151]; exact (mE_lt hse.1 hr_12 ((SEK_of (show iv 0 80 (sg 24) from MI_s hI 24) (by decide) (fN_r_12.trans (mInn_k (DK_of (show KS [] sg sg from KS_rf) (show KS [44, 45, 46, 47] gm gm_10 from (KS_up (KS_tr (L := [44, 45, 46, 47]) (KS_tr (L := [44, 45, 46, 47]) KS_rf hkg_j151 (by decide)) kgv_9 (by decide)) egm_10 (by decide))) (show KS [] lg lg from KS_rf) (by decide) (by decide) (by decide)).1 _ _ _))).imp id And.right))) gm_10 r_12 x4_151 rfl hr_12 hx4_151 hsx3_151 hsx2_151 hsx1_151 (KS_up (KS_tr (L := [44, 45, 46, 47]) (KS_tr (L := [44, 45, 46, 47]) KS_rf hkg_j151 (by decide)) kgv_9 (by decide)) egm_10 (by decide)) hI_gm_10 (MBS_l hmb (by rw [show gm_10 47 = _ from (up_ne egm_10 (by decide))]; exact q91) (show gm_10 46 = upd (gm_j151 46) (b : Int32).toNatClampNeg r_7 from ((up_at egm_10).trans (by rw [show gmv_9 46 = gm_j151 46 from ((kgv_9 46 (by decide)).trans rfl)]))) (Eq.trans (up_ne egm_10 (by decide)) (kgv_9 45 (by decide))) (Eq.trans (up_ne egm_10 (by decide)) (kgv_9 44 (by decide)))) (hlb) ((SEK_of (show iv 0 80 (sg 24) from MI_s hI 24) (by decide) (fN_r_12.trans (mInn_k (DK_of (show KS [] sg sg from KS_rf) (show KS [44, 45, 46, 47] gm gm_10 from (KS_up (KS_tr (L := [44, 45, 46, 47]) (KS_tr (L := [44, 45, 46, 47]) KS_rf hkg_j151 (by decide)) kgv_9 (by decide)) egm_10 (by decide))) (show KS [] lg lg from KS_rf) (by decide) (by decide) (by decide)).1 _ _ _))).imp id And.left) (((S5_e (Eq.trans (up_ne egm_10 (by decide)) (kgv_9 45 (by decide))) (Eq.trans (up_ne egm_10 (by decide)) (kgv_9 44 (by decide)))).trans hm5b)) ((M5_s hm10b c_1 (by unfold S10; rw [show gm_10 47 = _ from (up_ne egm_10 (by decide)), show gm_10 46 b.toNatClampNeg = _ from upd_av (show gm_10 46 = upd (gm_j151 46) (b : Int32).toNatClampNeg r_7 from ((up_at egm_10).trans (by rw [show gmv_9 46 = gm_j151 46 from ((kgv_9 46 (by decide)).trans rfl)])))]; exact q94) (show iv 0 80 (sg 24) from MI_s hI 24) ((fN_r_12.trans (mInn_k (DK_of (show KS [] sg sg from KS_rf) (show KS [44, 45, 46, 47] gm gm_10 from (KS_up (KS_tr (L := [44, 45, 46, 47]) (KS_tr (L := [44, 45, 46, 47]) KS_rf hkg_j151 (by decide)) kgv_9 (by decide)) egm_10 (by decide))) (show KS [] lg lg from KS_rf) (by decide) (by decide) (by decide)).1 _ _ _)).trans (by rw [ez_11])))) ((FX_s hfx (show gm_10 46 = upd (gm_j151 46) (b : Int32).toNatClampNeg r_7 from ((up_at egm_10).trans (by rw [show gmv_9 46 = gm_j151 46 from ((kgv_9 46 (by decide)).trans rfl)]))) (by rw [show gm_10 47 = _ from (up_ne egm_10 (by decide))]; exact q92))) _ _ _ hP hD hS (lv_sub hl [0, 1, 2, 3, 4, 5] rfl)
      have hj84 : ∀ (n : Nat) (gm_j84 : Nat → Nat → Int32) (x5_84 : Int32) (x4_84 : Int32) (_ : mE x5_84 = n) (_ : iv (-1) 79 x5_84) (_ : iv 0 79 x4_84) (_ : iv 0 80 x3_39) (_ : iv 0 81 x2_39) (_ : iv 0 79 b) (_ : KS [44, 45, 46, 47] gm gm_j84) (_ : MI sg gm_j84) (_ : MBS (mWn gm lg) (SEK sg gm 5) gm gm_j84 b.toNatClampNeg) (_ : x4_84.toInt < (sg 41).toInt) (_ : x5_84 = -1 ∨ SEK sg gm 5 x5_84) (_ : (rem9 sg gm (gm 42 x4_84.toNatClampNeg) 5 x5_84).foldl (pnW (mWn gm lg)) (S59 gm_j84 b) = MR9 sg gm lg 5 b x3_39.toNatClampNeg) (_ : S10 gm_j84 b = MR9 sg gm lg 10 b (x3_39.toNatClampNeg + 1)) (_ : (ANr9 sg gm lg b).drop x3_39.toNatClampNeg = x4_84 :: (ANr9 sg gm lg b).drop (x3_39.toNatClampNeg + 1)) (_ : FX9 gm gm_j84 b.toNatClampNeg) (H : Heap) (locs : List Loc) (ls : Array Slot), va_P (dC, dI) vwCl (mW h0 ad cid sg gm_j84 lg) H → va_D A (mW h0 ad cid sg gm_j84 lg) → va_S A s.heap H locs → lv_has ls 6 [(5, .int x5_84), (4, .int x4_84), (3, .int x3_39), (2, .int x2_39), (0, .ref h0), (1, .int b)] → W p l e (headSpec wm_X13_mergeBean ({ frames := 4, cells := 0, slots := 0, locals := 95 })).room s m ([.ref h0, .int b] : List Value).toArray below meth c H locs 0 0 (MQ below (va_Qv (fun v => ∃ (sg2 : Nat → Int32) (gm2 : Nat → Nat → Int32) (lg2 : Nat → Nat → Int64), v = (sg2, gm2, lg2) ∧ MI sg2 gm2 ∧ KS [] sg sg2 ∧ KS [44, 45, 46, 47] gm gm2 ∧ KS [] lg lg2 ∧ (MBS (mWn gm lg) (SEK sg gm 5) gm gm2 b.toNatClampNeg) ∧ (S59 gm2 b = MR9 sg gm lg 5 b 0 ∧ S10 gm2 b = MR9 sg gm lg 10 b 0) ∧ (FX9 gm gm2 b.toNatClampNeg)) (MB dC dI h0 ad cid A) A) ([.ref h0, .int b] : List Value).toArray s 0 0 A) (F0 m 84 ls []) := by
        intro n
        induction n using Nat.strongRecOn with
        | ind n ih84 =>
          intro gm_j84 x5_84 x4_84 hn84 hx5_84 hx4_84 hsx3_84 hsx2_84 hsx1_84 hkg_j84 hI_j84 hmb hlb he5 hm5 hm10 hAN hfx H locs ls hP hD hS hl
          refine lv_iload hx hb dX13_mergeBean_84 (lv_at hl 0 rfl) ?_
          refine lv_iconst (v := (-1)) hx hb dX13_mergeBean_86 (by decide) ?_
          refine lv_icmp_eq (tgt := 135) hx hb dX13_mergeBean_87 (by decide) (fun c_14 => ?_) (fun c_14 => ?_)
          · have h_15 : iv (-1) (-1) x5_84 := iv_eq c_14 hx5_84 (iv_k (by decide) : iv (-1) (-1) (-1)) (by decide)
            refine lv_aload_n hx hb dX13_mergeBean_135 rfl (lv_at hl 4 rfl) ?_
            refine lv_aload_n hx hb dX13_mergeBean_136 rfl (lv_at hl 4 rfl) ?_
            refine mr_get (v := .ref (ad 42)) hx hb htb inX13 hown hK hP 42 (by decide) (htb _ kw_1069) rfl dX13_mergeBean_137 ?_
            refine lv_iload hx hb dX13_mergeBean_140 (lv_at hl 1 rfl) ?_
            refine mr_iald hx hb hK hP 33 (k := 42) rfl rfl rfl (show vp_in x4_84 80 from (iv_in hx4_84 (by decide))) dX13_mergeBean_142 ?_
            refine lv_topi (fun z_16 ez_16 => ?_)
            have hz_16 : iv 0 79 z_16 := iv_of ez_16 (MI_a hI_j84 42 hx4_84 (by decide))
            have ez_16 := ez_16.trans (congrFun (hkg_j84 42 (by decide)) _)
            refine lv_bipush (v := 10) hx hb dX13_mergeBean_143 (by decide) ?_
            refine lv_iconst (v := 0) hx hb dX13_mergeBean_145 (by decide) ?_
            refine mr_calli (rest := []) ⟨hx, hb, hml, hown, htb⟩ (f_inner l dC dI h0 ad cid sg gm_j84 lg z_16 10 0 hI_j84 (iv_w hz_16 (by decide)) (iv_w (iv_k (by decide) : iv 10 10 10) (by decide)) (iv_w (iv_k (by decide) : iv 0 0 0) (by decide))) (cwV 3 htb (gd_V kw_1231 kw_1232 kw_107 kw_160 kw_1615) rfl rfl rfl (by decide +kernel) ⟨Nat.le_of_ble_eq_true rfl, Nat.le_of_ble_eq_true rfl⟩) rfl hl.1 rfl (Nat.le_of_ble_eq_true rfl) dX13_mergeBean_146 ⟨Nat.zero_le _, Nat.zero_le _⟩ hK hP hD hS hA (fun r_17 u_18 H locs hw hP hD hS => ?_)
            obtain ⟨hr_17, fN_r_17, rfl⟩ := hw
            have hP : va_P (dC, dI) vwCl (mW h0 ad cid sg gm_j84 lg) H := hP
            have hD : va_D A (mW h0 ad cid sg gm_j84 lg) := hD
            refine lv_istore (lv' := [(5, .int r_17), (4, .int x4_84), (3, .int x3_39), (2, .int x2_39), (0, .ref h0), (1, .int b)]) hx hb dX13_mergeBean_149 hl (by decide) rfl (fun ls hl => ?_)
            exact hj151 _ gm_j84 r_17 x4_84 rfl hr_17 hx4_84 hsx3_84 hsx2_84 hsx1_84 (KS_tr (L := [44, 45, 46, 47]) KS_rf hkg_j84 (by decide)) hI_j84 (hmb) (hlb) ((SEK_of (show iv 0 80 (sg 24) from MI_s hI 24) (by decide) (fN_r_17.trans (mInn_k (DK_of (show KS [] sg sg from KS_rf) (show KS [44, 45, 46, 47] gm gm_j84 from (KS_tr (L := [44, 45, 46, 47]) KS_rf hkg_j84 (by decide))) (show KS [] lg lg from KS_rf) (by decide) (by decide) (by decide)).1 _ _ _))).imp id And.left) ((M5_e hm5 c_14)) ((M5_0 hAN hm10 rfl (show iv 0 80 (sg 24) from MI_s hI 24) rfl ((fN_r_17.trans (mInn_k (DK_of (show KS [] sg sg from KS_rf) (show KS [44, 45, 46, 47] gm gm_j84 from (KS_tr (L := [44, 45, 46, 47]) KS_rf hkg_j84 (by decide))) (show KS [] lg lg from KS_rf) (by decide) (by decide) (by decide)).1 _ _ _)).trans (by rw [ez_16])))) (hfx) _ _ _ hP hD hS (lv_sub hl [0, 1, 2, 3, 4, 5] rfl)
          · have h_19 : iv 0 79 x5_84 := iv_neL c_14 hx5_84 (by decide)
            have hse := he5.resolve_left c_14
            refine lv_aload_n hx hb dX13_mergeBean_90 rfl (lv_at hl 4 rfl) ?_
            refine mr_get (v := .ref (ad 44)) hx hb htb inX13 hown hK hP 44 (by decide) (htb _ kw_1071) rfl dX13_mergeBean_91 ?_
            refine lv_iload_n hx hb dX13_mergeBean_94 rfl (lv_at hl 5 rfl) ?_
            refine lv_aload_n hx hb dX13_mergeBean_95 rfl (lv_at hl 4 rfl) ?_
            refine lv_aload_n hx hb dX13_mergeBean_96 rfl (lv_at hl 4 rfl) ?_
            refine mr_get (v := .ref (ad 45)) hx hb htb inX13 hown hK hP 45 (by decide) (htb _ kw_1072) rfl dX13_mergeBean_97 ?_
            refine lv_bipush (v := 26) hx hb dX13_mergeBean_100 (by decide) ?_
            refine lv_iload_n hx hb dX13_mergeBean_102 rfl (lv_at hl 5 rfl) ?_
            refine lv_imul hx hb dX13_mergeBean_103 ?_
            refine lv_topi (fun z_20 ez_20 => ?_)
            have hz_20 : iv 0 2054 z_20 := iv_of ez_20 (iv_mul (iv_k (by decide) : iv 26 26 26) hsx1_84 (by decide))
            have tz_20 : z_20.toInt = 26 * (b : Int32).toInt := by rw [ez_20]; exact iv_mulE (iv_k (by decide) : iv 26 26 26) hsx1_84 (by decide)
            refine lv_aload_n hx hb dX13_mergeBean_104 rfl (lv_at hl 4 rfl) ?_
            refine mr_get (v := .ref (ad 44)) hx hb htb inX13 hown hK hP 44 (by decide) (htb _ kw_1071) rfl dX13_mergeBean_105 ?_
            refine lv_iload_n hx hb dX13_mergeBean_108 rfl (lv_at hl 5 rfl) ?_
            refine mr_iald hx hb hK hP 35 (k := 44) rfl rfl rfl (show vp_in b 80 from (iv_in hsx1_84 (by decide))) dX13_mergeBean_109 ?_
            refine lv_topi (fun z_21 ez_21 => ?_)
            have hz_21 : iv 0 26 z_21 := iv_of ez_21 (MI_a hI_j84 44 hsx1_84 (by decide))
            refine lv_iload hx hb dX13_mergeBean_110 (lv_at hl 0 rfl) ?_
            refine mr_calli (rest := [.int b, .ref (ad 44)]) ⟨hx, hb, hml, hown, htb⟩ (f_mrg45 l dC dI h0 ad cid sg gm_j84 lg z_20 z_21 x5_84 hI_j84 hz_20 hz_21 hse.1 (by rw [mWn_k (DK_of (show KS [] sg sg from KS_rf) (show KS [44, 45, 46, 47] gm gm_j84 from (KS_tr (L := [44, 45, 46, 47]) KS_rf hkg_j84 (by decide))) (show KS [] lg lg from KS_rf) (by decide) (by decide) (by decide)).1, cl26 hvb tz_20, ez_21]; exact hmb.1) (by rw [mWn_k (DK_of (show KS [] sg sg from KS_rf) (show KS [44, 45, 46, 47] gm gm_j84 from (KS_tr (L := [44, 45, 46, 47]) KS_rf hkg_j84 (by decide))) (show KS [] lg lg from KS_rf) (by decide) (by decide) (by decide)).1]; exact SEK_ol hst hse (by decide))) (cwV 4 htb (gd_V kw_1233 kw_1234 kw_108 kw_160 kw_1616) rfl rfl rfl (by decide +kernel) ⟨Nat.le_of_ble_eq_true rfl, Nat.le_of_ble_eq_true rfl⟩) rfl hl.1 rfl (Nat.le_of_ble_eq_true rfl) dX13_mergeBean_112 ⟨Nat.zero_le _, Nat.zero_le _⟩ hK hP hD hS hA (fun r_22 u_23 H locs hw hP hD hS => ?_)
            obtain ⟨sgv_24, gmv_24, lgv_24, rfl, hIv_24, ksv_24, kgv_24, klv_24, hr_22, fRl_r_22, fRo_r_22, fRk_r_22, fQ_r_22⟩ := hw
            obtain rfl := KS_nil ksv_24
            obtain rfl := KS_nil klv_24
            have hP : va_P (dC, dI) vwCl (mW h0 ad cid sg gmv_24 lg) H := hP
            have hD : va_D A (mW h0 ad cid sg gmv_24 lg) := hD
            have q91 := fRl_r_22
            rw [mWn_k (DK_of (show KS [] sg sg from KS_rf) (show KS [44, 45, 46, 47] gm gm_j84 from (KS_tr (L := [44, 45, 46, 47]) KS_rf hkg_j84 (by decide))) (show KS [] lg lg from KS_rf) (by decide) (by decide) (by decide)).1, cl26 hvb tz_20] at q91
            have q92 := fRo_r_22
            rw [cl26 hvb tz_20] at q92
            have q93 := fRk_r_22
            rw [cl26 hvb tz_20, ez_21] at q93
            have q94 := fQ_r_22
            rw [mWn_k (DK_of (show KS [] sg sg from KS_rf) (show KS [44, 45, 46, 47] gm gm_j84 from (KS_tr (L := [44, 45, 46, 47]) KS_rf hkg_j84 (by decide))) (show KS [] lg lg from KS_rf) (by decide) (by decide) (by decide)).1, cl26 hvb tz_20, ez_21] at q94
            refine ma_iast (x := r_22) hx hb hK hP hD hS 35 (k := 44) rfl rfl rfl (show vp_in b 80 from (iv_in hsx1_84 (by decide))) dX13_mergeBean_115 (fun gm_25 H locs egm_25 hP hD hS => ?_)
            have hI_gm_25 := MI_st hIv_24 egm_25 hr_22 (by decide)
            refine lv_aload_n hx hb dX13_mergeBean_116 rfl (lv_at hl 4 rfl) ?_
            refine lv_aload_n hx hb dX13_mergeBean_117 rfl (lv_at hl 4 rfl) ?_
            refine mr_get (v := .ref (ad 42)) hx hb htb inX13 hown hK hP 42 (by decide) (htb _ kw_1069) rfl dX13_mergeBean_118 ?_
            refine lv_iload hx hb dX13_mergeBean_121 (lv_at hl 1 rfl) ?_
            refine mr_iald hx hb hK hP 33 (k := 42) rfl rfl rfl (show vp_in x4_84 80 from (iv_in hx4_84 (by decide))) dX13_mergeBean_123 ?_
            refine lv_topi (fun z_26 ez_26 => ?_)
            have hz_26 : iv 0 79 z_26 := iv_of ez_26 (MI_a hI_gm_25 42 hx4_84 (by decide))
            have ez_26 := ez_26.trans (congrFun (Eq.trans (Eq.trans (up_ne egm_25 (by decide)) (kgv_24 42 (by decide))) (hkg_j84 42 (by decide))) _)
            refine lv_iconst (v := 5) hx hb dX13_mergeBean_124 (by decide) ?_
            refine lv_iload hx hb dX13_mergeBean_125 (lv_at hl 0 rfl) ?_
            refine mr_calli (rest := []) ⟨hx, hb, hml, hown, htb⟩ (f_inner l dC dI h0 ad cid sg gm_25 lg z_26 5 x5_84 hI_gm_25 (iv_w hz_26 (by decide)) (iv_w (iv_k (by decide) : iv 5 5 5) (by decide)) hse.1) (cwV 3 htb (gd_V kw_1231 kw_1232 kw_107 kw_160 kw_1615) rfl rfl rfl (by decide +kernel) ⟨Nat.le_of_ble_eq_true rfl, Nat.le_of_ble_eq_true rfl⟩) rfl hl.1 rfl (Nat.le_of_ble_eq_true rfl) dX13_mergeBean_127 ⟨Nat.zero_le _, Nat.zero_le _⟩ hK hP hD hS hA (fun r_27 u_28 H locs hw hP hD hS => ?_)
            obtain ⟨hr_27, fN_r_27, rfl⟩ := hw
            have hP : va_P (dC, dI) vwCl (mW h0 ad cid sg gm_25 lg) H := hP
            have hD : va_D A (mW h0 ad cid sg gm_25 lg) := hD
            refine lv_istore (lv' := [(5, .int r_27), (4, .int x4_84), (3, .int x3_39), (2, .int x2_39), (0, .ref h0), (1, .int b)]) hx hb dX13_mergeBean_130 hl (by decide) rfl (fun ls hl => ?_)
            refine lv_goto (tgt := 84) hx hb dX13_mergeBean_132 (by decide) ?_
            exact ih84 _ (by rw [← hn84]; exact (mE_lt hse.1 hr_27 ((SEK_of (show iv 0 80 (sg 24) from MI_s hI 24) (by decide) (fN_r_27.trans (mInn_k (DK_of (show KS [] sg sg from KS_rf) (show KS [44, 45, 46, 47] gm gm_25 from (KS_up (KS_tr (L := [44, 45, 46, 47]) (KS_tr (L := [44, 45, 46, 47]) KS_rf hkg_j84 (by decide)) kgv_24 (by decide)) egm_25 (by decide))) (show KS [] lg lg from KS_rf) (by decide) (by decide) (by decide)).1 _ _ _))).imp id And.right))) gm_25 r_27 x4_84 rfl hr_27 hx4_84 hsx3_84 hsx2_84 hsx1_84 (KS_up (KS_tr (L := [44, 45, 46, 47]) (KS_tr (L := [44, 45, 46, 47]) KS_rf hkg_j84 (by decide)) kgv_24 (by decide)) egm_25 (by decide)) hI_gm_25 (MBS_s hmb q91 q92 q93 (he5.resolve_left c_14) (show gm_25 44 = upd (gm_j84 44) (b : Int32).toNatClampNeg r_22 from ((up_at egm_25).trans (by rw [show gmv_24 44 = gm_j84 44 from ((kgv_24 44 (by decide)).trans rfl)]))) (up_ne egm_25 (by decide)) (Eq.trans (up_ne egm_25 (by decide)) (kgv_24 46 (by decide))) (Eq.trans (up_ne egm_25 (by decide)) (kgv_24 47 (by decide)))) (hlb) ((SEK_of (show iv 0 80 (sg 24) from MI_s hI 24) (by decide) (fN_r_27.trans (mInn_k (DK_of (show KS [] sg sg from KS_rf) (show KS [44, 45, 46, 47] gm gm_25 from (KS_up (KS_tr (L := [44, 45, 46, 47]) (KS_tr (L := [44, 45, 46, 47]) KS_rf hkg_j84 (by decide)) kgv_24 (by decide)) egm_25 (by decide))) (show KS [] lg lg from KS_rf) (by decide) (by decide) (by decide)).1 _ _ _))).imp id And.left) ((M5_s hm5 c_14 (by unfold S59; rw [show gm_25 45 = _ from (up_ne egm_25 (by decide)), show gm_25 44 b.toNatClampNeg = _ from upd_av (show gm_25 44 = upd (gm_j84 44) (b : Int32).toNatClampNeg r_22 from ((up_at egm_25).trans (by rw [show gmv_24 44 = gm_j84 44 from ((kgv_24 44 (by decide)).trans rfl)])))]; exact q94) (show iv 0 80 (sg 24) from MI_s hI 24) ((fN_r_27.trans (mInn_k (DK_of (show KS [] sg sg from KS_rf) (show KS [44, 45, 46, 47] gm gm_25 from (KS_up (KS_tr (L := [44, 45, 46, 47]) (KS_tr (L := [44, 45, 46, 47]) KS_rf hkg_j84 (by decide)) kgv_24 (by decide)) egm_25 (by decide))) (show KS [] lg lg from KS_rf) (by decide) (by decide) (by decide)).1 _ _ _)).trans (by rw [ez_26])))) (((S_e (Eq.trans (up_ne egm_25 (by decide)) (kgv_24 47 (by decide))) (Eq.trans (up_ne egm_25 (by decide)) (kgv_24 46 (by decide)))).trans hm10)) (hAN) ((FX_e hfx (Eq.trans (up_ne egm_25 (by decide)) (kgv_24 46 (by decide))) (Eq.trans (up_ne egm_25 (by decide)) (kgv_24 47 (by decide))))) _ _ _ hP hD hS (lv_sub hl [0, 1, 2, 3, 4, 5] rfl)
      have hj49 : ∀ (n : Nat) (gm_j49 : Nat → Nat → Int32) (x5_49 : Int32) (x4_49 : Int32) (_ : (80 - x5_49.toInt).toNat = n) (_ : iv 0 80 x5_49) (_ : iv 0 79 x4_49) (_ : iv 0 80 x3_39) (_ : iv 0 81 x2_39) (_ : iv 0 79 b) (_ : KS [44, 45, 46, 47] gm gm_j49) (_ : MI sg gm_j49) (_ : MBS (mWn gm lg) (SEK sg gm 5) gm gm_j49 b.toNatClampNeg) (_ : (dP sg gm lg x4_49 : Int) + x5_49.toInt = (dP sg gm lg b : Int)) (_ : x5_49.toInt ≤ x3_39.toInt ∨ x5_49.toInt = 0) (_ : x4_49.toInt < (sg 41).toInt) (_ : (ANr9 sg gm lg b).drop x5_49.toNatClampNeg = an9 (mPar sg gm lg) (81 - x5_49.toNatClampNeg) x4_49) (_ : S59 gm_j49 b = MR9 sg gm lg 5 b (x3_39.toInt + 1).toNat ∧ S10 gm_j49 b = MR9 sg gm lg 10 b (x3_39.toInt + 1).toNat) (_ : FX9 gm gm_j49 b.toNatClampNeg) (H : Heap) (locs : List Loc) (ls : Array Slot), va_P (dC, dI) vwCl (mW h0 ad cid sg gm_j49 lg) H → va_D A (mW h0 ad cid sg gm_j49 lg) → va_S A s.heap H locs → lv_has ls 6 [(5, .int x5_49), (4, .int x4_49), (3, .int x3_39), (2, .int x2_39), (0, .ref h0), (1, .int b)] → W p l e (headSpec wm_X13_mergeBean ({ frames := 4, cells := 0, slots := 0, locals := 95 })).room s m ([.ref h0, .int b] : List Value).toArray below meth c H locs 0 0 (MQ below (va_Qv (fun v => ∃ (sg2 : Nat → Int32) (gm2 : Nat → Nat → Int32) (lg2 : Nat → Nat → Int64), v = (sg2, gm2, lg2) ∧ MI sg2 gm2 ∧ KS [] sg sg2 ∧ KS [44, 45, 46, 47] gm gm2 ∧ KS [] lg lg2 ∧ (MBS (mWn gm lg) (SEK sg gm 5) gm gm2 b.toNatClampNeg) ∧ (S59 gm2 b = MR9 sg gm lg 5 b 0 ∧ S10 gm2 b = MR9 sg gm lg 10 b 0) ∧ (FX9 gm gm2 b.toNatClampNeg)) (MB dC dI h0 ad cid A) A) ([.ref h0, .int b] : List Value).toArray s 0 0 A) (F0 m 49 ls []) := by
        intro n
        induction n using Nat.strongRecOn with
        | ind n ih49 =>
          intro gm_j49 x5_49 x4_49 hn49 hx5_49 hx4_49 hsx3_49 hsx2_49 hsx1_49 hkg_j49 hI_j49 hmb hki hid hlb han hmx hfx H locs ls hP hD hS hl
          refine lv_iload hx hb dX13_mergeBean_49 (lv_at hl 0 rfl) ?_
          refine lv_iload_n hx hb dX13_mergeBean_51 rfl (lv_at hl 2 rfl) ?_
          refine lv_icmp_ge (tgt := 69) hx hb dX13_mergeBean_52 (by decide) (fun c_29 => ?_) (fun c_29 => ?_)
          · have d_30 : (x3_39 : Int32).toInt ≤ (x5_49 : Int32).toInt := Int32.le_iff_toInt_le.mp c_29
            refine lv_aload_n hx hb dX13_mergeBean_69 rfl (lv_at hl 4 rfl) ?_
            refine lv_aload_n hx hb dX13_mergeBean_70 rfl (lv_at hl 4 rfl) ?_
            refine mr_get (v := .ref (ad 42)) hx hb htb inX13 hown hK hP 42 (by decide) (htb _ kw_1069) rfl dX13_mergeBean_71 ?_
            refine lv_iload hx hb dX13_mergeBean_74 (lv_at hl 1 rfl) ?_
            refine mr_iald hx hb hK hP 33 (k := 42) rfl rfl rfl (show vp_in x4_49 80 from (iv_in hx4_49 (by decide))) dX13_mergeBean_76 ?_
            refine lv_topi (fun z_31 ez_31 => ?_)
            have hz_31 : iv 0 79 z_31 := iv_of ez_31 (MI_a hI_j49 42 hx4_49 (by decide))
            have ez_31 := ez_31.trans (congrFun (hkg_j49 42 (by decide)) _)
            refine lv_iconst (v := 5) hx hb dX13_mergeBean_77 (by decide) ?_
            refine lv_iconst (v := 0) hx hb dX13_mergeBean_78 (by decide) ?_
            refine mr_calli (rest := []) ⟨hx, hb, hml, hown, htb⟩ (f_inner l dC dI h0 ad cid sg gm_j49 lg z_31 5 0 hI_j49 (iv_w hz_31 (by decide)) (iv_w (iv_k (by decide) : iv 5 5 5) (by decide)) (iv_w (iv_k (by decide) : iv 0 0 0) (by decide))) (cwV 3 htb (gd_V kw_1231 kw_1232 kw_107 kw_160 kw_1615) rfl rfl rfl (by decide +kernel) ⟨Nat.le_of_ble_eq_true rfl, Nat.le_of_ble_eq_true rfl⟩) rfl hl.1 rfl (Nat.le_of_ble_eq_true rfl) dX13_mergeBean_79 ⟨Nat.zero_le _, Nat.zero_le _⟩ hK hP hD hS hA (fun r_32 u_33 H locs hw hP hD hS => ?_)
            obtain ⟨hr_32, fN_r_32, rfl⟩ := hw
            have hP : va_P (dC, dI) vwCl (mW h0 ad cid sg gm_j49 lg) H := hP
            have hD : va_D A (mW h0 ad cid sg gm_j49 lg) := hD
            refine lv_istore (lv' := [(5, .int r_32), (4, .int x4_49), (3, .int x3_39), (2, .int x2_39), (0, .ref h0), (1, .int b)]) hx hb dX13_mergeBean_82 hl (by decide) rfl (fun ls hl => ?_)
            exact hj84 _ gm_j49 r_32 x4_49 rfl hr_32 hx4_49 hsx3_49 hsx2_49 hsx1_49 (KS_tr (L := [44, 45, 46, 47]) KS_rf hkg_j49 (by decide)) hI_j49 (hmb) (hlb) ((SEK_of (show iv 0 80 (sg 24) from MI_s hI 24) (by decide) (fN_r_32.trans (mInn_k (DK_of (show KS [] sg sg from KS_rf) (show KS [44, 45, 46, 47] gm gm_j49 from (KS_tr (L := [44, 45, 46, 47]) KS_rf hkg_j49 (by decide))) (show KS [] lg lg from KS_rf) (by decide) (by decide) (by decide)).1 _ _ _))).imp id And.left) ((M5_0 (m := x3_39.toNatClampNeg) (n := (x3_39.toInt + 1).toNat) (by rw [(show x3_39.toNatClampNeg = x5_49.toNatClampNeg from (by have := hid; have q1 : x3_39.toNatClampNeg = x3_39.toInt.toNat := rfl; have q1 : x5_49.toNatClampNeg = x5_49.toInt.toNat := rfl; have := i32_0; have := i32_1; have := i32_2; have := i32_m1; have := (hsx1_49).1; have := (hsx1_49).2; have := (hsx3_49).1; have := (hsx3_49).2; have := (hsx2_49).1; have := (hsx2_49).2; have := (hx5_49).1; have := (hx5_49).2; have := (hx4_49).1; have := (hx4_49).2; have := (hz_31).1; have := (hz_31).2; have := (hr_32).1; have := (hr_32).2; omega))]; exact (an_d han (by rw [an_l]; show _ < dP sg gm lg b; have := hdd; have q1 : x3_39.toNatClampNeg = x3_39.toInt.toNat := rfl; have q1 : x5_49.toNatClampNeg = x5_49.toInt.toNat := rfl; have := i32_0; have := i32_1; have := i32_2; have := i32_m1; have := (hsx1_49).1; have := (hsx1_49).2; have := (hsx3_49).1; have := (hsx3_49).2; have := (hsx2_49).1; have := (hsx2_49).2; have := (hx5_49).1; have := (hx5_49).2; have := (hx4_49).1; have := (hx4_49).2; have := (hz_31).1; have := (hz_31).2; have := (hr_32).1; have := (hr_32).2; omega)).1) hmx.1 (by have q1 : x3_39.toNatClampNeg = x3_39.toInt.toNat := rfl; have := i32_0; have := i32_1; have := i32_2; have := i32_m1; have := (hsx1_49).1; have := (hsx1_49).2; have := (hsx3_49).1; have := (hsx3_49).2; have := (hsx2_49).1; have := (hsx2_49).2; have := (hx5_49).1; have := (hx5_49).2; have := (hx4_49).1; have := (hx4_49).2; have := (hz_31).1; have := (hz_31).2; have := (hr_32).1; have := (hr_32).2; omega) (show iv 0 80 (sg 24) from MI_s hI 24) rfl ((fN_r_32.trans (mInn_k (DK_of (show KS [] sg sg from KS_rf) (show KS [44, 45, 46, 47] gm gm_j49 from (KS_tr (L := [44, 45, 46, 47]) KS_rf hkg_j49 (by decide))) (show KS [] lg lg from KS_rf) (by decide) (by decide) (by decide)).1 _ _ _)).trans (by rw [ez_31])))) ((by rw [hmx.2, show (x3_39.toInt + 1).toNat = x3_39.toNatClampNeg + 1 from (by have q1 : x3_39.toNatClampNeg = x3_39.toInt.toNat := rfl; have := i32_0; have := i32_1; have := i32_2; have := i32_m1; have := (hsx1_49).1; have := (hsx1_49).2; have := (hsx3_49).1; have := (hsx3_49).2; have := (hsx2_49).1; have := (hsx2_49).2; have := (hx5_49).1; have := (hx5_49).2; have := (hx4_49).1; have := (hx4_49).2; have := (hz_31).1; have := (hz_31).2; have := (hr_32).1; have := (hr_32).2; omega)])) ((by rw [(show x3_39.toNatClampNeg = x5_49.toNatClampNeg from (by have := hid; have q1 : x3_39.toNatClampNeg = x3_39.toInt.toNat := rfl; have q1 : x5_49.toNatClampNeg = x5_49.toInt.toNat := rfl; have := i32_0; have := i32_1; have := i32_2; have := i32_m1; have := (hsx1_49).1; have := (hsx1_49).2; have := (hsx3_49).1; have := (hsx3_49).2; have := (hsx2_49).1; have := (hsx2_49).2; have := (hx5_49).1; have := (hx5_49).2; have := (hx4_49).1; have := (hx4_49).2; have := (hz_31).1; have := (hz_31).2; have := (hr_32).1; have := (hr_32).2; omega))]; exact (an_d han (by rw [an_l]; show _ < dP sg gm lg b; have := hdd; have q1 : x3_39.toNatClampNeg = x3_39.toInt.toNat := rfl; have q1 : x5_49.toNatClampNeg = x5_49.toInt.toNat := rfl; have := i32_0; have := i32_1; have := i32_2; have := i32_m1; have := (hsx1_49).1; have := (hsx1_49).2; have := (hsx3_49).1; have := (hsx3_49).2; have := (hsx2_49).1; have := (hsx2_49).2; have := (hx5_49).1; have := (hx5_49).2; have := (hx4_49).1; have := (hx4_49).2; have := (hz_31).1; have := (hz_31).2; have := (hr_32).1; have := (hr_32).2; omega)).1)) (hfx) _ _ _ hP hD hS (lv_sub hl [0, 1, 2, 3, 4, 5] rfl)
          · have d_34 : (x5_49 : Int32).toInt < (x3_39 : Int32).toInt := Int32.lt_iff_toInt_lt.mp (i32_lt c_29)
            have h_35 : iv 0 79 x5_49 := iv_ltL (i32_lt c_29) hx5_49 hsx3_49 (by decide)
            have h_36 : iv 1 80 x3_39 := iv_ltR (i32_lt c_29) hx5_49 hsx3_49 (by decide)
            refine lv_aload_n hx hb dX13_mergeBean_55 rfl (lv_at hl 4 rfl) ?_
            refine lv_iload hx hb dX13_mergeBean_56 (lv_at hl 1 rfl) ?_
            refine mr_calli (rest := []) ⟨hx, hb, hml, hown, htb⟩ (f_parentOf l dC dI h0 ad cid sg gm_j49 lg x4_49 hI_j49 hx4_49) (cwV 1 htb (gd_V kw_1223 kw_1224 kw_103 kw_160 kw_1611) rfl rfl rfl (by decide +kernel) ⟨Nat.le_of_ble_eq_true rfl, Nat.le_of_ble_eq_true rfl⟩) rfl hl.1 rfl (Nat.le_of_ble_eq_true rfl) dX13_mergeBean_58 ⟨Nat.zero_le _, Nat.zero_le _⟩ hK hP hD hS hA (fun r_37 u_38 H locs hw hP hD hS => ?_)
            obtain ⟨hr_37, fP_r_37, rfl⟩ := hw
            have hP : va_P (dC, dI) vwCl (mW h0 ad cid sg gm_j49 lg) H := hP
            have hD : va_D A (mW h0 ad cid sg gm_j49 lg) := hD
            have hd2 := dP_s (b := x4_49) (show iv 0 80 (sg 41) from MI_s hI 41) hac (hx4_49).1
            have hr9 : ¬ r_37 = -1 := fun q9 => by have q8 := (fP_r_37.trans (congrFun (mPar_k (DK_of (show KS [] sg sg from KS_rf) (show KS [44, 45, 46, 47] gm gm_j49 from (KS_tr (L := [44, 45, 46, 47]) KS_rf hkg_j49 (by decide))) (show KS [] lg lg from KS_rf) (by decide) (by decide) (by decide))) _)); rw [q9] at q8; rw [← q8, dP_m1] at hd2; have := i32_0; have := i32_1; have := i32_2; have := i32_m1; have := (hsx1_49).1; have := (hsx1_49).2; have := (h_36).1; have := (h_36).2; have := (hsx2_49).1; have := (hsx2_49).2; have := (h_35).1; have := (h_35).2; have := (hx4_49).1; have := (hx4_49).2; have := (hr_37).1; have := (hr_37).2; omega
            have h61 : iv 0 79 r_37 := iv_neL hr9 hr_37 (by decide)
            refine lv_istore (lv' := [(4, .int r_37), (5, .int x5_49), (3, .int x3_39), (2, .int x2_39), (0, .ref h0), (1, .int b)]) hx hb dX13_mergeBean_61 hl (by decide) rfl (fun ls hl => ?_)
            obtain ⟨z_39, ez_39⟩ : ∃ z : Int32, z = x5_49 + 1 := ⟨_, rfl⟩
            have hz_39 : iv 1 80 z_39 := iv_of ez_39 (iv_add h_35 (iv_k (by decide) : iv 1 1 1) (by decide))
            have tz_39 : z_39.toInt = x5_49.toInt + 1 := by rw [ez_39]; exact iv_addE h_35 (iv_k (by decide) : iv 1 1 1) (by decide)
            refine lv_iinc (v := z_39) (lv' := [(5, .int z_39), (4, .int r_37), (3, .int x3_39), (2, .int x2_39), (0, .ref h0), (1, .int b)]) hx hb dX13_mergeBean_63 hl (k := 1) rfl ez_39.symm (by decide) rfl (fun ls hl => ?_)
            refine lv_goto (tgt := 49) hx hb dX13_mergeBean_66 (by decide) ?_
            exact ih49 _ (by rw [← hn49]; exact (iv_meas tz_39 h_35 (by decide))) gm_j49 z_39 r_37 rfl (iv_w hz_39 (by decide)) h61 (iv_w h_36 (by decide)) hsx2_49 hsx1_49 (KS_tr (L := [44, 45, 46, 47]) KS_rf hkg_j49 (by decide)) hI_j49 (hmb) (by rw [(fP_r_37.trans (congrFun (mPar_k (DK_of (show KS [] sg sg from KS_rf) (show KS [44, 45, 46, 47] gm gm_j49 from (KS_tr (L := [44, 45, 46, 47]) KS_rf hkg_j49 (by decide))) (show KS [] lg lg from KS_rf) (by decide) (by decide) (by decide))) _))]; have := tz_39; omega) (by have := i32_0; have := i32_1; have := i32_2; have := i32_m1; have := (show iv 0 1200 (sg 20) from MI_s hI 20).1; have := (show iv 0 1200 (sg 20) from MI_s hI 20).2; have := (show iv 0 1201 (sg 21) from MI_s hI 21).1; have := (show iv 0 1201 (sg 21) from MI_s hI 21).2; have := (show iv 0 3 (sg 22) from MI_s hI 22).1; have := (show iv 0 3 (sg 22) from MI_s hI 22).2; have := (show iv 0 80 (sg 24) from MI_s hI 24).1; have := (show iv 0 80 (sg 24) from MI_s hI 24).2; have := (show iv 0 1201 (sg 25) from MI_s hI 25).1; have := (show iv 0 1201 (sg 25) from MI_s hI 25).2; have := (hsx1_49).1; have := (hsx1_49).2; have := (h_36).1; have := (h_36).2; have := (hsx2_49).1; have := (hsx2_49).2; have := (h_35).1; have := (h_35).2; have := (hx4_49).1; have := (hx4_49).2; have := (h61).1; have := (h61).2; have := (hz_39).1; have := (hz_39).2; omega) (par_lt (show iv 0 80 (sg 41) from MI_s hI 41) (fP_r_37.trans (congrFun (mPar_k (DK_of (show KS [] sg sg from KS_rf) (show KS [44, 45, 46, 47] gm gm_j49 from (KS_tr (L := [44, 45, 46, 47]) KS_rf hkg_j49 (by decide))) (show KS [] lg lg from KS_rf) (by decide) (by decide) (by decide))) _))) ((by rw [s_cl h_35 (by decide) tz_39, (fP_r_37.trans (congrFun (mPar_k (DK_of (show KS [] sg sg from KS_rf) (show KS [44, 45, 46, 47] gm gm_j49 from (KS_tr (L := [44, 45, 46, 47]) KS_rf hkg_j49 (by decide))) (show KS [] lg lg from KS_rf) (by decide) (by decide) (by decide))) _))]; exact (an_d han (by rw [an_l]; show _ < dP sg gm lg b; have := hdd; have q1 : x3_39.toNatClampNeg = x3_39.toInt.toNat := rfl; have q1 : x5_49.toNatClampNeg = x5_49.toInt.toNat := rfl; have := i32_0; have := i32_1; have := i32_2; have := i32_m1; have := (hsx1_49).1; have := (hsx1_49).2; have := (h_36).1; have := (h_36).2; have := (hsx2_49).1; have := (hsx2_49).2; have := (h_35).1; have := (h_35).2; have := (hx4_49).1; have := (hx4_49).2; have := (h61).1; have := (h61).2; have := (hz_39).1; have := (hz_39).2; omega)).2)) (hmx) (hfx) _ _ _ hP hD hS (lv_sub hl [0, 1, 2, 3, 4, 5] rfl)
      refine lv_iload_n hx hb dX13_mergeBean_39 rfl (lv_at hl 0 rfl) ?_
      refine lv_if_lt (tgt := 209) hx hb dX13_mergeBean_40 (by decide) (fun c_40 => ?_) (fun c_40 => ?_)
      · have h_41 : iv (-1) (-1) x3_39 := iv_ltL c_40 hx3_39 (iv_k (by decide) : iv 0 0 0) (by decide)
        exact W.vret hx hb hr (fun t ht hW => ⟨⟨(sg, gm_j39, lg), rfl, ⟨sg, gm_j39, lg, rfl, hI_j39, KS_rf, (KS_tr (L := [44, 45, 46, 47]) KS_rf hkg_j39 (by decide)), KS_rf, (hmb), ((by have q9 := hmx; rw [show (x3_39.toInt + 1).toNat = 0 from (by have := i32_0; have := i32_1; have := i32_2; have := i32_m1; have := (hsx1_39).1; have := (hsx1_39).2; have := (h_41).1; have := (h_41).2; have := (hx2_39).1; have := (hx2_39).2; omega)] at q9; exact q9)), (hfx)⟩, by rw [ht]; exact hP, va_K.moved hW.alike hK, hD⟩, hS.F ht⟩) hS.2.2 dX13_mergeBean_209
      · have h_42 : iv 0 80 x3_39 := iv_leR (i32_ge c_40) (iv_k (by decide) : iv 0 0 0) hx3_39 (by decide)
        refine lv_iload_n hx hb dX13_mergeBean_43 rfl (lv_at hl 3 rfl) ?_
        refine lv_istore (lv' := [(4, .int b), (3, .int x3_39), (2, .int x2_39), (0, .ref h0), (1, .int b)]) hx hb dX13_mergeBean_44 hl (by decide) rfl (fun ls hl => ?_)
        refine lv_iconst (v := 0) hx hb dX13_mergeBean_46 (by decide) ?_
        refine lv_istore (lv' := [(5, .int 0), (4, .int b), (3, .int x3_39), (2, .int x2_39), (0, .ref h0), (1, .int b)]) hx hb dX13_mergeBean_47 hl (by decide) rfl (fun ls hl => ?_)
        exact hj49 _ gm_j39 0 b rfl (iv_w (iv_k (by decide) : iv 0 0 0) (by decide)) hsx1_39 h_42 hx2_39 hsx1_39 (KS_tr (L := [44, 45, 46, 47]) KS_rf hkg_j39 (by decide)) hI_j39 (hmb) (by rw [i32_0]; omega) (by have := i32_0; have := i32_1; have := i32_2; have := i32_m1; have := (show iv 0 1200 (sg 20) from MI_s hI 20).1; have := (show iv 0 1200 (sg 20) from MI_s hI 20).2; have := (show iv 0 1201 (sg 21) from MI_s hI 21).1; have := (show iv 0 1201 (sg 21) from MI_s hI 21).2; have := (show iv 0 3 (sg 22) from MI_s hI 22).1; have := (show iv 0 3 (sg 22) from MI_s hI 22).2; have := (show iv 0 80 (sg 24) from MI_s hI 24).1; have := (show iv 0 80 (sg 24) from MI_s hI 24).2; have := (show iv 0 1201 (sg 25) from MI_s hI 25).1; have := (show iv 0 1201 (sg 25) from MI_s hI 25).2; have := (hsx1_39).1; have := (hsx1_39).2; have := (h_42).1; have := (h_42).2; have := (hx2_39).1; have := (hx2_39).2; omega) (hbl) ((show (ANr9 sg gm lg b).drop 0 = an9 (mPar sg gm lg) (81 - 0) b from rfl)) (hmx) (hfx) _ _ _ hP hD hS (lv_sub hl [0, 1, 2, 3, 4, 5] rfl)
  have hj18 : ∀ (n : Nat) (gm_j18 : Nat → Nat → Int32) (x3_18 : Int32) (x2_18 : Int32) (_ : dP sg gm lg x3_18 = n) (_ : iv (-1) 79 x3_18) (_ : iv 0 81 x2_18) (_ : iv 0 79 b) (_ : KS [44, 46] gm gm_j18) (_ : MI sg gm_j18) (_ : MBS (mWn gm lg) (SEK sg gm 5) gm gm_j18 b.toNatClampNeg) (_ : x2_18.toInt + (dP sg gm lg x3_18 : Int) = (dP sg gm lg b : Int)) (_ : x3_18.toInt < (sg 41).toInt) (_ : S59 gm_j18 b = [] ∧ S10 gm_j18 b = []) (_ : FX9 gm gm_j18 b.toNatClampNeg) (H : Heap) (locs : List Loc) (ls : Array Slot), va_P (dC, dI) vwCl (mW h0 ad cid sg gm_j18 lg) H → va_D A (mW h0 ad cid sg gm_j18 lg) → va_S A s.heap H locs → lv_has ls 6 [(3, .int x3_18), (2, .int x2_18), (0, .ref h0), (1, .int b)] → W p l e (headSpec wm_X13_mergeBean ({ frames := 4, cells := 0, slots := 0, locals := 95 })).room s m ([.ref h0, .int b] : List Value).toArray below meth c H locs 0 0 (MQ below (va_Qv (fun v => ∃ (sg2 : Nat → Int32) (gm2 : Nat → Nat → Int32) (lg2 : Nat → Nat → Int64), v = (sg2, gm2, lg2) ∧ MI sg2 gm2 ∧ KS [] sg sg2 ∧ KS [44, 45, 46, 47] gm gm2 ∧ KS [] lg lg2 ∧ (MBS (mWn gm lg) (SEK sg gm 5) gm gm2 b.toNatClampNeg) ∧ (S59 gm2 b = MR9 sg gm lg 5 b 0 ∧ S10 gm2 b = MR9 sg gm lg 10 b 0) ∧ (FX9 gm gm2 b.toNatClampNeg)) (MB dC dI h0 ad cid A) A) ([.ref h0, .int b] : List Value).toArray s 0 0 A) (F0 m 18 ls []) := by
    intro n
    induction n using Nat.strongRecOn with
    | ind n ih18 =>
      intro gm_j18 x3_18 x2_18 hn18 hx3_18 hx2_18 hsx1_18 hkg_j18 hI_j18 hmb hdp hlb hmx0 hfx H locs ls hP hD hS hl
      refine lv_iload_n hx hb dX13_mergeBean_18 rfl (lv_at hl 0 rfl) ?_
      refine lv_iconst (v := (-1)) hx hb dX13_mergeBean_19 (by decide) ?_
      refine lv_icmp_eq (tgt := 35) hx hb dX13_mergeBean_20 (by decide) (fun c_43 => ?_) (fun c_43 => ?_)
      · have h_44 : iv (-1) (-1) x3_18 := iv_eq c_43 hx3_18 (iv_k (by decide) : iv (-1) (-1) (-1)) (by decide)
        refine lv_iload_n hx hb dX13_mergeBean_35 rfl (lv_at hl 1 rfl) ?_
        refine lv_iconst (v := 1) hx hb dX13_mergeBean_36 (by decide) ?_
        refine lv_isub hx hb dX13_mergeBean_37 ?_
        refine lv_topi (fun z_45 ez_45 => ?_)
        have hz_45 : iv (-1) 80 z_45 := iv_of ez_45 (iv_sub hx2_18 (iv_k (by decide) : iv 1 1 1) (by decide))
        have tz_45 : z_45.toInt = (x2_18 : Int32).toInt - 1 := by rw [ez_45]; exact iv_subE hx2_18 (iv_k (by decide) : iv 1 1 1) (by decide)
        refine lv_istore_n (lv' := [(3, .int z_45), (2, .int x2_18), (0, .ref h0), (1, .int b)]) hx hb dX13_mergeBean_38 rfl hl (by decide) rfl (fun ls hl => ?_)
        exact hj39 _ gm_j18 z_45 x2_18 rfl hz_45 hx2_18 hsx1_18 (KS_tr (L := [44, 45, 46, 47]) KS_rf hkg_j18 (by decide)) hI_j18 (hmb) (by have q9 := hdp; rw [c_43, dP_m1] at q9; have := tz_45; omega) ((MX_1 hmx0 (by have q9 := hdp; rw [c_43, dP_m1] at q9; have := tz_45; omega))) (hfx) _ _ _ hP hD hS (lv_sub hl [0, 1, 2, 3] rfl)
      · have h_46 : iv 0 79 x3_18 := iv_neL c_43 hx3_18 (by decide)
        have hd1 := dP_s (b := x3_18) (show iv 0 80 (sg 41) from MI_s hI 41) hac (h_46).1
        have h23 : iv 0 80 x2_18 := ⟨(hx2_18).1, by have := dP_le (sg := sg) (gm := gm) (lg := lg) b; omega⟩
        obtain ⟨z_47, ez_47⟩ : ∃ z : Int32, z = x2_18 + 1 := ⟨_, rfl⟩
        have hz_47 : iv 1 81 z_47 := iv_of ez_47 (iv_add h23 (iv_k (by decide) : iv 1 1 1) (by decide))
        have tz_47 : z_47.toInt = x2_18.toInt + 1 := by rw [ez_47]; exact iv_addE h23 (iv_k (by decide) : iv 1 1 1) (by decide)
        refine lv_iinc (v := z_47) (lv' := [(2, .int z_47), (3, .int x3_18), (0, .ref h0), (1, .int b)]) hx hb dX13_mergeBean_23 hl (k := 1) rfl ez_47.symm (by decide) rfl (fun ls hl => ?_)
        refine lv_aload_n hx hb dX13_mergeBean_26 rfl (lv_at hl 2 rfl) ?_
        refine lv_iload_n hx hb dX13_mergeBean_27 rfl (lv_at hl 1 rfl) ?_
        refine mr_calli (rest := []) ⟨hx, hb, hml, hown, htb⟩ (f_parentOf l dC dI h0 ad cid sg gm_j18 lg x3_18 hI_j18 h_46) (cwV 1 htb (gd_V kw_1223 kw_1224 kw_103 kw_160 kw_1611) rfl rfl rfl (by decide +kernel) ⟨Nat.le_of_ble_eq_true rfl, Nat.le_of_ble_eq_true rfl⟩) rfl hl.1 rfl (Nat.le_of_ble_eq_true rfl) dX13_mergeBean_28 ⟨Nat.zero_le _, Nat.zero_le _⟩ hK hP hD hS hA (fun r_48 u_49 H locs hw hP hD hS => ?_)
        obtain ⟨hr_48, fP_r_48, rfl⟩ := hw
        have hP : va_P (dC, dI) vwCl (mW h0 ad cid sg gm_j18 lg) H := hP
        have hD : va_D A (mW h0 ad cid sg gm_j18 lg) := hD
        refine lv_istore_n (lv' := [(3, .int r_48), (2, .int z_47), (0, .ref h0), (1, .int b)]) hx hb dX13_mergeBean_31 rfl hl (by decide) rfl (fun ls hl => ?_)
        refine lv_goto (tgt := 18) hx hb dX13_mergeBean_32 (by decide) ?_
        exact ih18 _ (by rw [← hn18]; exact (dP_lt (show iv 0 80 (sg 41) from MI_s hI 41) hac (h_46).1 (fP_r_48.trans (congrFun (mPar_k (DK_of (show KS [] sg sg from KS_rf) (show KS [44, 46] gm gm_j18 from (KS_tr (L := [44, 46]) KS_rf hkg_j18 (by decide))) (show KS [] lg lg from KS_rf) (by decide) (by decide) (by decide))) _)))) gm_j18 r_48 z_47 rfl hr_48 (iv_w hz_47 (by decide)) hsx1_18 (KS_tr (L := [44, 46]) KS_rf hkg_j18 (by decide)) hI_j18 (hmb) (by rw [(fP_r_48.trans (congrFun (mPar_k (DK_of (show KS [] sg sg from KS_rf) (show KS [44, 46] gm gm_j18 from (KS_tr (L := [44, 46]) KS_rf hkg_j18 (by decide))) (show KS [] lg lg from KS_rf) (by decide) (by decide) (by decide))) _))]; have := tz_47; omega) (par_lt (show iv 0 80 (sg 41) from MI_s hI 41) (fP_r_48.trans (congrFun (mPar_k (DK_of (show KS [] sg sg from KS_rf) (show KS [44, 46] gm gm_j18 from (KS_tr (L := [44, 46]) KS_rf hkg_j18 (by decide))) (show KS [] lg lg from KS_rf) (by decide) (by decide) (by decide))) _))) (hmx0) (hfx) _ _ _ hP hD hS (lv_sub hl [0, 1, 2, 3] rfl)
  refine lv_aload_n hx hb dX13_mergeBean_0 rfl (lv_at hl 0 rfl) ?_
  refine mr_get (v := .ref (ad 44)) hx hb htb inX13 hown hK hP 44 (by decide) (htb _ kw_1071) rfl dX13_mergeBean_1 ?_
  refine lv_iload_n hx hb dX13_mergeBean_4 rfl (lv_at hl 1 rfl) ?_
  refine lv_iconst (v := 0) hx hb dX13_mergeBean_5 (by decide) ?_
  refine ma_iast (x := 0) hx hb hK hP hD hS 35 (k := 44) rfl rfl rfl (show vp_in b 80 from (iv_in hvb (by decide))) dX13_mergeBean_6 (fun gm_50 H locs egm_50 hP hD hS => ?_)
  have hI_gm_50 := MI_st hI egm_50 (iv_k (by decide) : iv 0 0 0) (by decide)
  refine lv_aload_n hx hb dX13_mergeBean_7 rfl (lv_at hl 0 rfl) ?_
  refine mr_get (v := .ref (ad 46)) hx hb htb inX13 hown hK hP 46 (by decide) (htb _ kw_1073) rfl dX13_mergeBean_8 ?_
  refine lv_iload_n hx hb dX13_mergeBean_11 rfl (lv_at hl 1 rfl) ?_
  refine lv_iconst (v := 0) hx hb dX13_mergeBean_12 (by decide) ?_
  refine ma_iast (x := 0) hx hb hK hP hD hS 37 (k := 46) rfl rfl rfl (show vp_in b 80 from (iv_in hvb (by decide))) dX13_mergeBean_13 (fun gm_51 H locs egm_51 hP hD hS => ?_)
  have hI_gm_51 := MI_st hI_gm_50 egm_51 (iv_k (by decide) : iv 0 0 0) (by decide)
  refine lv_iconst (v := 0) hx hb dX13_mergeBean_14 (by decide) ?_
  refine lv_istore_n (lv' := [(2, .int 0), (0, .ref h0), (1, .int b)]) hx hb dX13_mergeBean_15 rfl hl (by decide) rfl (fun ls hl => ?_)
  refine lv_iload_n hx hb dX13_mergeBean_16 rfl (lv_at hl 2 rfl) ?_
  refine lv_istore_n (lv' := [(3, .int b), (2, .int 0), (0, .ref h0), (1, .int b)]) hx hb dX13_mergeBean_17 rfl hl (by decide) rfl (fun ls hl => ?_)
  exact hj18 _ gm_51 b 0 rfl (iv_w hvb (by decide)) (iv_w (iv_k (by decide) : iv 0 0 0) (by decide)) hvb (KS_up (KS_up KS_rf egm_50 (by decide)) egm_51 (by decide)) hI_gm_51 (MBS_0 (show gm_51 44 = upd (gm 44) (b : Int32).toNatClampNeg 0 from ((up_ne egm_51 (by decide)).trans ((up_at egm_50).trans (by rw [show gm 44 = gm 44 from rfl])))) (show gm_51 46 = upd (gm 46) (b : Int32).toNatClampNeg 0 from ((up_at egm_51).trans (by rw [show gm_50 46 = gm 46 from ((up_ne egm_50 (by decide)).trans rfl)]))) (Eq.trans (up_ne egm_51 (by decide)) (up_ne egm_50 (by decide)))) (by rw [i32_0]; omega) (hbl) ((MX_0 (show gm_51 44 = upd (gm 44) (b : Int32).toNatClampNeg 0 from ((up_ne egm_51 (by decide)).trans ((up_at egm_50).trans (by rw [show gm 44 = gm 44 from rfl])))) (show gm_51 46 = upd (gm 46) (b : Int32).toNatClampNeg 0 from ((up_at egm_51).trans (by rw [show gm_50 46 = gm 46 from ((up_ne egm_50 (by decide)).trans rfl)]))))) ((FX_0 (show gm_51 46 = upd (gm 46) (b : Int32).toNatClampNeg 0 from ((up_at egm_51).trans (by rw [show gm_50 46 = gm 46 from ((up_ne egm_50 (by decide)).trans rfl)]))) (Eq.trans (up_ne egm_51 (by decide)) (up_ne egm_50 (by decide))))) _ _ _ hP hD hS (lv_sub hl [0, 1, 2, 3] rfl)
end
section
section RF09
variable {ch : Nat → Int} {D : List El7} {sg sg2 : Nat → Int32} {gm gm2 : Nat → Nat → Int32} {lg lg2 : Nat → Nat → Int64} {b kd : Int32} {n : Nat}
/-- the reference's document by D -/
def RF0 (ch : Nat → Int) (D : List El7) (sg : Nat → Int32) (gm : Nat → Nat → Int32) (lg : Nat → Nat → Int64) : Prop := TRE sg gm ∧ RDR ch D sg gm lg ∧ KN7 D gm D.length ∧ BN7 D sg gm D.length
theorem RFk9 (h : RF0 ch D sg gm lg) (s24 : sg2 24 = sg 24) (s25 : sg2 25 = sg 25) (s41 : sg2 41 = sg 41) (hg : ∀ k, k = 26 ∨ k = 27 ∨ k = 28 ∨ k = 29 ∨ k = 30 ∨ k = 31 ∨ k = 32 ∨ k = 36 ∨ k = 37 ∨ k = 38 ∨ k = 39 ∨ k = 42 ∨ k = 43 → gm2 k = gm k) (hl : ∀ k, k = 34 ∨ k = 35 → lg2 k = lg k) : RF0 ch D sg2 gm2 lg2 := by
  obtain ⟨a1, a2, a3, a4⟩ := h
  refine ⟨TRE_keep a1 s24 (hg 28 (by decide)) (hg 29 (by decide)), RDR_k a2 s24 s25 (fun k hk => hg k (by omega)) hl, ?_, ?_⟩
  · intro k hk; rw [hg 26 (by decide)]; exact a3 k hk
  · unfold BN7; rw [s41, hg 42 (by decide), hg 43 (by decide)]; exact a4
theorem KK_k (h : DK sg gm lg sg2 gm2 lg2) : KK9 sg2 gm2 kd = KK9 sg gm kd := by
  have e : qInn gm2 = qInn gm := by funext a k j; unfold qInn; rw [h.1.2.1, h.1.2.2.1]
  funext c
  unfold KK9 kA9
  rw [e, h.1.1, h.2.2.1]
theorem MR_k (h : DK sg gm lg sg2 gm2 lg2) : MR9 sg2 gm2 lg2 kd b n = MR9 sg gm lg kd b n := by
  unfold MR9 ANr9
  rw [KK_k h, mPar_k h, mWn_k h.1]
theorem RLq_o {f f2 : Nat → Int32} {c m : Nat} (h : RWF f f2 (26 * m)) (hc : c ≠ m) (hn : n ≤ 26) : RLq f2 (26 * c) n = RLq f (26 * c) n := by
  refine RLq_x RLq_l (fun i hi => ?_)
  rw [RLq_g hi, h _ (by omega)]
def MM9 (sg : Nat → Int32) (gm : Nat → Nat → Int32) (lg : Nat → Nat → Int64) (c : Int32) : Prop := S59 gm c = MR9 sg gm lg 5 c 0 ∧ S10 gm c = MR9 sg gm lg 10 c 0
theorem MM_k {c : Int32} (h : MM9 sg gm lg c) (hd : DK sg gm lg sg2 gm2 lg2) (h44 : gm2 44 = gm 44) (h45 : gm2 45 = gm 45) (h46 : gm2 46 = gm 46) (h47 : gm2 47 = gm 47) : MM9 sg2 gm2 lg2 c := by
  unfold MM9 S59 S10; rw [MR_k hd, MR_k hd, h44, h45, h46, h47]; exact h
theorem MM_s {W : Nat → Int64} {K : Int32 → Prop} (hb : iv 0 79 b) (h : ∀ c, c < b.toNatClampNeg → MM9 sg gm lg (nI c)) (hM : MBS W K gm gm2 b.toNatClampNeg) (hF : FX9 gm gm2 b.toNatClampNeg) (hX : S59 gm2 b = MR9 sg gm lg 5 b 0 ∧ S10 gm2 b = MR9 sg gm lg 10 b 0) (hd : DK sg gm lg sg2 gm2 lg2) (h44 : ∀ c, c < 80 → iv 0 26 (gm 44 c)) (h46 : ∀ c, c < 80 → iv 0 26 (gm 46 c)) : ∀ c, c < b.toNatClampNeg + 1 → MM9 sg2 gm2 lg2 (nI c) := by
  intro c hc
  have kb := iv_cl hb (by decide)
  have kb2 := hb.2
  unfold MM9
  rw [MR_k hd, MR_k hd]
  by_cases q : c = b.toNatClampNeg
  · rw [q, nI_c hb]; exact hX
  · have e : (nI c).toNatClampNeg = c := by
      have := nI_toInt (n := c) (by omega)
      show (nI c).toInt.toNat = c; omega
    obtain ⟨a1, a2⟩ := h c (by omega)
    obtain ⟨_, _, m44, m45, _⟩ := hM
    have i44 := h44 c (by omega)
    have i46 := h46 c (by omega)
    have k44 := iv_cl i44 (by decide)
    have k46 := iv_cl i46 (by decide)
    have b44 := i44.2
    have b46 := i46.2
    unfold S59 S10 at *
    rw [e] at *
    rw [m44 c q, hF.1 c q, RLq_o m45 q (by omega), RLq_o hF.2 q (by omega)]
    exact ⟨a1, a2⟩
def RFD (ch : Nat → Int) (D : List El7) (sg : Nat → Int32) (gm : Nat → Nat → Int32) (lg : Nat → Nat → Int64) : Prop := RF0 ch D sg gm lg ∧ ∀ c, c < (sg 41).toNatClampNeg → MM9 sg gm lg (nI c)
end RF09
end
