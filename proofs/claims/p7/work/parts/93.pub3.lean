set_option maxHeartbeats 4000000 in
set_option maxRecDepth 100000 in
theorem d_refresh (l : Launch) (dC : Nat → ClassId) (dI : Nat → Nat → Nat) (ad : Nat → Nat → Nat) (cid : Nat → ClassId) (a2 : Nat → Nat) (lx : List Nat) (sg : Nat → Int32) (gm : Nat → Nat → Int32) (lg : Nat → Nat → Int64) (hl9 : l.stackTraces = false) (x : Int32) (hI : CI sg gm) (hvx : iv 0 0 x) (hDC : (sg 1).toInt = 0 ∨ (WRD sg gm lg ∧ MOK sg gm lg)) (hLD : LDI lx gm) (hFN : FND9 sg gm) : CMg dC dI ad cid l yX12_refresh wm_X12_refresh ({ frames := 344, cells := 60962, slots := 243852, locals := 11086 }) [eV (ad 0) x] a2 lx sg gm lg 1 60962 243852 (fun v u => ∃ r : Int32, v = some (.int r) ∧ ∃ (sg2 : Nat → Int32) (gm2 : Nat → Nat → Int32) (lg2 : Nat → Nat → Int64), u = (a2, lx, sg2, gm2, lg2) ∧ CI sg2 gm2 ∧ KS [13, 14, 15, 16, 17, 18] sg sg2 ∧ KS [37, 38, 39, 48, 49, 50, 51, 52, 53] gm gm2 ∧ KS [] lg lg2 ∧ (iv 0 60 r) ∧ ((sg 1).toInt = 0 ∨ MOK sg2 gm2 lg2) ∧ (FND9 sg2 gm2)) (fun E u => (E = "java/lang/IllegalStateException" ∨ E = "java/lang/UnsupportedOperationException") ∧ ∃ (sg2 : Nat → Int32) (gm2 : Nat → Nat → Int32) (lg2 : Nat → Nat → Int64), u = (a2, lx, sg2, gm2, lg2) ∧ CI sg2 gm2 ∧ KS [13, 14, 15, 16, 17, 18] sg sg2 ∧ KS [37, 38, 39, 48, 49, 50, 51, 52, 53] gm gm2 ∧ KS [] lg lg2 ∧ ((sg 1).toInt = 0 ∨ MOK sg2 gm2 lg2) ∧ (FND9 sg2 gm2)) := by
  intro sz
  refine vx_ofW (cc := cX12_refresh) (maxL := 1) (ret := (some .int)) (by decide) rfl ?_
  intro p e s m args below meth c s₁ B hml hxt hv
  obtain ⟨rfl, hsz, hP, hK, hD0, hG⟩ := hv
  have hx := B.exec
  have hb := B.bytes
  have hr := B.returns
  have hts := atoms_spec (ws := wm_X12_refresh) B.pre
  have htb := fun (w : Cond) (h : w ∈ tb) => hts w (List.mem_cons_of_mem _ h)
  have hown : s.vm.findClass RX12 = some m.cls := findClass_of_methodNamed B.named
  have hlocks := B.notSynchronized
  subst hsz
  have hD := hD0.self (sz := s.heap.size)
  generalize hAe : va_A (cW ad cid a2 lx sg gm lg) s.heap.size = A at hD hG ⊢
  have hA : ∀ q : Nat, s.heap.size ≤ q → A q := fun q h => by rw [← hAe]; exact Or.inr h
  have hS : va_S A s.heap s.heap [] := va_S.rf
  have hl := lv_entry ([eV (ad 0) x]) (n := 1) (by rw [show (lg_sl ([eV (ad 0) x])).length = 1 from by simp [lg_sl, eV_cat, cat_i, cat_l]]; exact Nat.le_of_ble_eq_true rfl)
  rw [lg_entry_eq]
  generalize (lg_sl ([eV (ad 0) x]) ++ List.replicate (1 - (lg_sl ([eV (ad 0) x])).length) Slot.unset).toArray = ls at hl ⊢
  have hl : lv_has ls 1 [(0, eV (ad 0) x)] := by simp [lv_args, eV_cat, cat_i, cat_l] at hl; exact hl
  refine W.widen (k := gc gm gm 0) (n := gs gm gm 0) (Nat.zero_le _) (Nat.zero_le _) ?_
  refine ec_aload_n hx hb dX12_refresh_0 rfl (lv_at hl 0 rfl) ?_
  refine cr_get (t := 0) (j := 7) (C := RX12) (T := TX12) (N := 12) (v := eV (ad 6) 0) hx hb htb inX12 hown hK hP hvx (by decide) (by decide) (by decide) rfl (by decide) (htb _ kw_41) (cV_c rfl (by decide) (by rw [show cMu 0 7 = 0 from rfl, Nat.zero_mul]; rfl)) dX12_refresh_1 ?_
  refine cm_callTV (t := 6) (C := RX5) (T := TX5) (N := 13) (rest := []) (as := []) ⟨hx, hb, hml, hown, htb⟩ (d_forgetFailure l dC dI ad cid a2 lx sg gm lg 0 hI (iv_k (by decide) : iv 0 0 0)) (cwV 0 htb (gd_V kw_995 kw_996 kw_997 kw_40 kw_1566) rfl rfl rfl (by decide +kernel) ⟨Nat.le_of_ble_eq_true rfl, Nat.le_of_ble_eq_true rfl⟩) (iv_k (by decide) : iv 0 0 0) (by decide) (by decide) rfl rfl hl.1 rfl (Nat.le_trans cs_n (by decide)) dX12_refresh_4 ⟨Nat.le_trans (gc_le hI) (Nat.le_of_ble_eq_true rfl), Nat.le_trans (gs_le hI) (Nat.le_of_ble_eq_true rfl)⟩ hK hP hD hS hA hG (fun E ce q9 u_2 H locs hw hP hD hS hce hcv hcl => ?_) (fun v9 u_2 H locs hw hP hD hS => ?_)
  · exact hw.elim
  obtain ⟨rfl, sgv_3, gmv_3, lgv_3, rfl, hIv_3, ksv_3, kgv_3, klv_3⟩ := hw
  obtain rfl := KS_nil kgv_3
  obtain rfl := KS_nil klv_3
  have hP : va_P (dC, dI) vwCl (cW ad cid a2 lx sgv_3 gm lg) H := hP
  have hD : va_D A (cW ad cid a2 lx sgv_3 gm lg) := hD
  refine W.eq (g2 := F0 m 7 ls []) rfl ?_
  refine ec_aload_n hx hb dX12_refresh_7 rfl (lv_at hl 0 rfl) ?_
  refine cr_get (t := 0) (j := 9) (C := RX12) (T := TX12) (N := 12) (v := .int (sgv_3 1)) hx hb htb inX12 hown hK hP hvx (by decide) (by decide) (by decide) rfl (by decide) (htb _ kw_312) rfl dX12_refresh_8 ?_
  refine W.eq (g2 := F0 m 11 ls [.int (sg 1)]) (by rw [show sgv_3 1 = sg 1 from (ksv_3 1 (by decide))]) ?_
  refine lv_if_ne (tgt := 22) hx hb dX12_refresh_11 (by decide) (fun c_4 => ?_) (fun c_4 => ?_)
  · have h_5 : iv 1 1 (sg 1) := iv_neL c_4 (show iv 0 1 (sg 1) from CI_s hI 1) (by decide)
    have hdc := hDC.resolve_left (by have := i32_0; have := i32_1; have := i32_2; have := i32_m1; have := congrArg Int32.toInt (show sgv_3 1 = sg 1 from ksv_3 1 (by decide)); have := (show iv 0 1 (sg 1) from CI_s hI 1).1; have := (show iv 0 1 (sg 1) from CI_s hI 1).2; have := (hvx).1; have := (hvx).2; have := (h_5).1; have := (h_5).2; omega)
    have hW := hdc.1
    have hMO := hdc.2
    refine ec_aload_n hx hb dX12_refresh_22 rfl (lv_at hl 0 rfl) ?_
    refine cr_get (t := 0) (j := 7) (C := RX12) (T := TX12) (N := 12) (v := eV (ad 6) 0) hx hb htb inX12 hown hK hP hvx (by decide) (by decide) (by decide) rfl (by decide) (htb _ kw_41) (cV_c rfl (by decide) (by rw [show cMu 0 7 = 0 from rfl, Nat.zero_mul]; rfl)) dX12_refresh_23 ?_
    refine cm_callGVX (t := 6) (C := RX5) (T := TX5) (N := 13) (rest := []) (as := []) ⟨hx, hb, hml, hown, htb⟩ (d_renewsAll l dC dI ad cid a2 lx sgv_3 gm lg hl9 0 hIv_3 (iv_k (by decide) : iv 0 0 0) (WRD_e hW (ksv_3 4 (by decide)) (ksv_3 12 (by decide)) rfl rfl rfl rfl rfl rfl rfl rfl rfl rfl rfl rfl rfl rfl rfl rfl rfl rfl) hLD) (vx_cwVW 0 htb (gd_V kw_998 kw_999 kw_1000 kw_40 kw_1567) rfl rfl rfl (by decide +kernel) ⟨Nat.le_of_ble_eq_true rfl, Nat.le_of_ble_eq_true rfl⟩) (iv_k (by decide) : iv 0 0 0) (by decide) (by decide) rfl rfl hl.1 rfl (Nat.le_trans cs_n (by decide)) dX12_refresh_26 ⟨Nat.le_trans (gc_le hI) (Nat.le_of_ble_eq_true rfl), Nat.le_trans (gs_le hI) (Nat.le_of_ble_eq_true rfl)⟩ hK hP hD hS hA hG (fun E ce q9 u_7 H locs hw hmu hP hD hS hce hcv hcl => ?_) (fun v9 u_7 H locs hw hmu hP hD hS => ?_)
    · exact hw.elim
    obtain ⟨r_6, rfl, sgv_8, gmv_8, lgv_8, rfl, hIv_8, ksv_8, kgv_8, klv_8, hr_6, fMO_r_6, fFN_r_6⟩ := hw
    obtain rfl := KS_nil klv_8
    have hP : va_P (dC, dI) vwCl (cW ad cid a2 lx sgv_8 gmv_8 lg) H := hP
    have hD : va_D A (cW ad cid a2 lx sgv_8 gmv_8 lg) := hD
    have hmu : PHs gm ≤ PHs gmv_8 := hmu
    rw [show (gc gm gm 0 + gc gm gmv_8 1) = gc gm gmv_8 1 from gc_t (Nat.le_refl _) hmu, show (gs gm gm 0 + gs gm gmv_8 1) = gs gm gmv_8 1 from gs_t (Nat.le_refl _) hmu]
    have hm_9 : PHs gm ≤ PHs gmv_8 := Nat.le_trans (Nat.le_refl _) hmu
    refine W.eq (g2 := F0 m 29 ls [.int r_6]) rfl ?_
    refine lv_if_ne (tgt := 40) hx hb dX12_refresh_29 (by decide) (fun c_10 => ?_) (fun c_10 => ?_)
    · have h_11 : iv 1 1 r_6 := iv_neL c_10 hr_6 (by decide)
      refine ec_aload_n hx hb dX12_refresh_40 rfl (lv_at hl 0 rfl) ?_
      refine cr_get (t := 0) (j := 7) (C := RX12) (T := TX12) (N := 12) (v := eV (ad 6) 0) hx hb htb inX12 hown hK hP hvx (by decide) (by decide) (by decide) rfl (by decide) (htb _ kw_41) (cV_c rfl (by decide) (by rw [show cMu 0 7 = 0 from rfl, Nat.zero_mul]; rfl)) dX12_refresh_41 ?_
      refine cm_callTV (t := 6) (C := RX5) (T := TX5) (N := 13) (rest := []) (as := []) ⟨hx, hb, hml, hown, htb⟩ (d_objectCount l dC dI ad cid a2 lx sgv_8 gmv_8 lg 0 hIv_8 (iv_k (by decide) : iv 0 0 0)) (cwV 0 htb (gd_V kw_1145 kw_1146 kw_1147 kw_40 kw_1599) rfl rfl rfl (by decide +kernel) ⟨Nat.le_of_ble_eq_true rfl, Nat.le_of_ble_eq_true rfl⟩) (iv_k (by decide) : iv 0 0 0) (by decide) (by decide) rfl rfl hl.1 rfl (Nat.le_trans cs_n (by decide)) dX12_refresh_44 ⟨Nat.le_trans (gc_le hIv_8) (Nat.le_of_ble_eq_true rfl), Nat.le_trans (gs_le hIv_8) (Nat.le_of_ble_eq_true rfl)⟩ hK hP hD hS hA hG (fun E ce q9 u_13 H locs hw hP hD hS hce hcv hcl => ?_) (fun v9 u_13 H locs hw hP hD hS => ?_)
      · exact hw.elim
      obtain ⟨r_12, rfl, rfl, hr_12⟩ := hw
      have hP : va_P (dC, dI) vwCl (cW ad cid a2 lx sgv_8 gmv_8 lg) H := hP
      have hD : va_D A (cW ad cid a2 lx sgv_8 gmv_8 lg) := hD
      refine W.eq (g2 := F0 m 47 ls [.int r_12]) rfl ?_
      exact W.nb (fun hN => W.widen (k := 60962) (n := 243852) (Nat.le_trans (gc_l0 (gm := gm) (k := 1) hIv_8) (Nat.le_of_ble_eq_true rfl)) (Nat.le_trans (gs_l0 (gm := gm) (k := 1) hIv_8) (Nat.le_of_ble_eq_true rfl)) (vx_ret (W.iret (v := r_12) hx hb hr (fun t ht hW => ⟨⟨some (.int r_12), (a2, lx, sgv_8, gmv_8, lg), rfl, ⟨r_12, rfl, sgv_8, gmv_8, lg, rfl, hIv_8, (KS_tr (L := [13, 14, 15, 16, 17, 18]) (KS_tr (L := [13, 14, 15, 16, 17, 18]) KS_rf ksv_3 (by decide)) ksv_8 (by decide)), (KS_tr (L := [37, 38, 39, 48, 49, 50, 51, 52, 53]) KS_rf kgv_8 (by decide)), KS_rf, hr_12, (Or.inr fMO_r_6), (fFN_r_6)⟩, ⟨by rw [ht]; exact hP, va_K.moved hW.alike hK, hD⟩, hm_9, by rw [ht]; exact hN⟩, hS.F ht⟩) hS.2.2 dX12_refresh_47)))
    · have h_15 : iv 0 0 r_6 := iv_eq c_10 hr_6 (iv_k (by decide) : iv 0 0 0) (by decide)
      refine vx_throw1 (own := RX12) (cls := "java/lang/UnsupportedOperationException") (names := ["java/lang/RuntimeException", "java/lang/Exception"]) (ik := 151) (ic := 153) (A := A) hx hb hl9 hown (by decide +kernel) (by decide +kernel) (htb _ kw_993) (htb _ kw_994) (vx_hat (fun w h => htb w (inT_3 w h)) inU_3 (vx_c (va_Nw.use rfl hG.2.1.1) (vx_c (va_Nw.use rfl hG.1.2.1.2.2.1) (vx_c (va_Nw.use rfl hG.1.2.1.2.2.2.1) (vx_c (va_Nw.use rfl hG.1.2.1.2.2.2.2) vx_n))))) (fun w hw => ?_) hG.1.2.2.2.1 hG.1.2.2.2.2 hS (by rw [hml]; exact hl.1) dX12_refresh_32 dX12_refresh_35 dX12_refresh_36 dX12_refresh_39 (fun x hx9 => (hxt x hx9).elim) (Nat.le_of_ble_eq_true rfl) (Nat.le_trans (Nat.add_le_add_right (show _ ≤ 8 from (Nat.le_trans cs_n (by decide))) _) (Nat.le_of_ble_eq_true rfl)) (Nat.le_trans (gc_le (gm := gm) (k := 1) (j := 1) hIv_8) (Nat.le_of_ble_eq_true rfl)) (Nat.le_trans (gs_le (gm := gm) (k := 1) (j := 6) hIv_8) (Nat.le_of_ble_eq_true rfl)) hlocks (fun t ht1 hz2 hk2 hnb => ⟨⟨(a2, lx, sgv_8, gmv_8, lg), ⟨(Or.inr rfl), sgv_8, gmv_8, lg, rfl, hIv_8, (KS_tr (L := [13, 14, 15, 16, 17, 18]) (KS_tr (L := [13, 14, 15, 16, 17, 18]) KS_rf ksv_3 (by decide)) ksv_8 (by decide)), (KS_tr (L := [37, 38, 39, 48, 49, 50, 51, 52, 53]) KS_rf kgv_8 (by decide)), KS_rf, (Or.inr fMO_r_6), (fFN_r_6)⟩, ⟨hP.kept (fun k q hq => hk2 _ (vx_lt hP hq)), va_K.moved ht1 hK, hD⟩, hm_9, NBw_w hnb (show gc gm gmv_8 1 + 1 ≤ gc gm gmv_8 (1 + 1) from (by unfold gc; omega)) (show gs gm gmv_8 1 + 6 ≤ gs gm gmv_8 (1 + 1) from (by unfold gs; omega))⟩, ⟨Nat.le_trans hS.1 hz2, fun q h1 h2 => (hk2 q (Nat.lt_of_lt_of_le h1 hS.1)).trans (hS.2.1 q h1 h2)⟩⟩) hS.2.2 (Nat.le_trans (gc_le (gm := gm) (k := 1) (j := 1) hIv_8) (Nat.le_of_ble_eq_true rfl)) (Nat.le_trans (gs_le (gm := gm) (k := 1) (j := 6) hIv_8) (Nat.le_of_ble_eq_true rfl))
      rcases List.mem_cons.mp hw with rfl | hw
      · rfl
      rcases List.mem_cons.mp hw with rfl | hw
      · rfl
      exact inV_3 w hw
  · have h_16 : iv 0 0 (sg 1) := iv_eq c_4 (show iv 0 1 (sg 1) from CI_s hI 1) (iv_k (by decide) : iv 0 0 0) (by decide)
    refine vx_throw1 (own := RX12) (cls := "java/lang/IllegalStateException") (names := ["java/lang/RuntimeException", "java/lang/Exception"]) (ik := 144) (ic := 146) (A := A) hx hb hl9 hown (by decide +kernel) (by decide +kernel) (htb _ kw_991) (htb _ kw_992) (vx_hat (fun w h => htb w (inT_2 w h)) inU_2 (vx_c (va_Nw.use rfl hG.1.2.1.2.1) (vx_c (va_Nw.use rfl hG.1.2.1.2.2.1) (vx_c (va_Nw.use rfl hG.1.2.1.2.2.2.1) (vx_c (va_Nw.use rfl hG.1.2.1.2.2.2.2) vx_n))))) (fun w hw => ?_) hG.1.2.2.2.1 hG.1.2.2.2.2 hS (by rw [hml]; exact hl.1) dX12_refresh_14 dX12_refresh_17 dX12_refresh_18 dX12_refresh_21 (fun x hx9 => (hxt x hx9).elim) (Nat.le_of_ble_eq_true rfl) (Nat.le_trans (Nat.add_le_add_right (show _ ≤ 8 from (Nat.le_trans cs_n (by decide))) _) (Nat.le_of_ble_eq_true rfl)) (Nat.le_trans (gc_le (gm := gm) (k := 0) (j := 1) hI) (Nat.le_of_ble_eq_true rfl)) (Nat.le_trans (gs_le (gm := gm) (k := 0) (j := 6) hI) (Nat.le_of_ble_eq_true rfl)) hlocks (fun t ht1 hz2 hk2 hnb => ⟨⟨(a2, lx, sgv_3, gm, lg), ⟨(Or.inl rfl), sgv_3, gm, lg, rfl, hIv_3, (KS_tr (L := [13, 14, 15, 16, 17, 18]) KS_rf ksv_3 (by decide)), KS_rf, KS_rf, (Or.inl (by have := i32_0; have := i32_1; have := i32_2; have := i32_m1; have := congrArg Int32.toInt (show sgv_3 1 = sg 1 from ksv_3 1 (by decide)); have := (show iv 0 1 (sg 1) from CI_s hI 1).1; have := (show iv 0 1 (sg 1) from CI_s hI 1).2; have := (hvx).1; have := (hvx).2; have := (h_16).1; have := (h_16).2; omega)), ((FND9_e hFN (show sgv_3 15 = sg 15 from (ksv_3 15 (by decide))) rfl))⟩, ⟨hP.kept (fun k q hq => hk2 _ (vx_lt hP hq)), va_K.moved ht1 hK, hD⟩, (Nat.le_refl _), NBw_w hnb (show gc gm gm 0 + 1 ≤ gc gm gm (1 + 1) from (by unfold gc; omega)) (show gs gm gm 0 + 6 ≤ gs gm gm (1 + 1) from (by unfold gs; omega))⟩, ⟨Nat.le_trans hS.1 hz2, fun q h1 h2 => (hk2 q (Nat.lt_of_lt_of_le h1 hS.1)).trans (hS.2.1 q h1 h2)⟩⟩) hS.2.2 (Nat.le_trans (gc_le (gm := gm) (k := 0) (j := 1) hI) (Nat.le_of_ble_eq_true rfl)) (Nat.le_trans (gs_le (gm := gm) (k := 0) (j := 6) hI) (Nat.le_of_ble_eq_true rfl))
    rcases List.mem_cons.mp hw with rfl | hw
    · rfl
    rcases List.mem_cons.mp hw with rfl | hw
    · rfl
    exact inV_2 w hw

set_option maxHeartbeats 4000000 in
set_option maxRecDepth 100000 in
theorem d_get (l : Launch) (dC : Nat → ClassId) (dI : Nat → Nat → Nat) (ad : Nat → Nat → Nat) (cid : Nat → ClassId) (a2 : Nat → Nat) (lx : List Nat) (sg : Nat → Int32) (gm : Nat → Nat → Int32) (lg : Nat → Nat → Int64) (hl9 : l.stackTraces = false) (x : Int32) (nm : Int64) (hI : CI sg gm) (hvx : iv 0 0 x) (hDC : (sg 1).toInt = 0 ∨ (WRD sg gm lg ∧ MOK sg gm lg)) (hLD : LDI lx gm) (hFN : FND9 sg gm) : CMg dC dI ad cid l yX12_get wm_X12_get ({ frames := 344, cells := 60962, slots := 243852, locals := 11087 }) [eV (ad 0) x, .long nm] a2 lx sg gm lg 1 60962 243852 (fun v u => ∃ r : Int32, v = some (.int r) ∧ ∃ (sg2 : Nat → Int32) (gm2 : Nat → Nat → Int32) (lg2 : Nat → Nat → Int64), u = (a2, lx, sg2, gm2, lg2) ∧ CI sg2 gm2 ∧ KS [13, 14, 15, 16, 17, 18] sg sg2 ∧ KS [37, 38, 39, 48, 49, 50, 51, 52, 53] gm gm2 ∧ KS [] lg lg2 ∧ (iv 0 59 r) ∧ ((sg 1).toInt = 0 ∨ MOK sg2 gm2 lg2) ∧ (FND9 sg2 gm2)) (fun E u => (E = "java/lang/IllegalStateException" ∨ E = "java/lang/UnsupportedOperationException") ∧ ∃ (sg2 : Nat → Int32) (gm2 : Nat → Nat → Int32) (lg2 : Nat → Nat → Int64), u = (a2, lx, sg2, gm2, lg2) ∧ CI sg2 gm2 ∧ KS [13, 14, 15, 16, 17, 18] sg sg2 ∧ KS [37, 38, 39, 48, 49, 50, 51, 52, 53] gm gm2 ∧ KS [] lg lg2 ∧ ((sg 1).toInt = 0 ∨ MOK sg2 gm2 lg2) ∧ (FND9 sg2 gm2)) := by
  intro sz
  refine vx_ofW (cc := cX12_get) (maxL := 4) (ret := (some .int)) (by decide) rfl ?_
  intro p e s m args below meth c s₁ B hml hxt hv
  obtain ⟨rfl, hsz, hP, hK, hD0, hG⟩ := hv
  have hx := B.exec
  have hb := B.bytes
  have hr := B.returns
  have hts := atoms_spec (ws := wm_X12_get) B.pre
  have htb := fun (w : Cond) (h : w ∈ tb) => hts w (List.mem_cons_of_mem _ h)
  have hown : s.vm.findClass RX12 = some m.cls := findClass_of_methodNamed B.named
  have hlocks := B.notSynchronized
  subst hsz
  have hD := hD0.self (sz := s.heap.size)
  generalize hAe : va_A (cW ad cid a2 lx sg gm lg) s.heap.size = A at hD hG ⊢
  have hA : ∀ q : Nat, s.heap.size ≤ q → A q := fun q h => by rw [← hAe]; exact Or.inr h
  have hS : va_S A s.heap s.heap [] := va_S.rf
  have hl := lv_entry ([eV (ad 0) x, .long nm]) (n := 4) (by rw [show (lg_sl ([eV (ad 0) x, .long nm])).length = 3 from by simp [lg_sl, eV_cat, cat_i, cat_l]]; exact Nat.le_of_ble_eq_true rfl)
  rw [lg_entry_eq]
  generalize (lg_sl ([eV (ad 0) x, .long nm]) ++ List.replicate (4 - (lg_sl ([eV (ad 0) x, .long nm])).length) Slot.unset).toArray = ls at hl ⊢
  have hl : lv_has ls 4 [(0, eV (ad 0) x), (1, .long nm)] := by simp [lv_args, eV_cat, cat_i, cat_l] at hl; exact hl
  refine W.widen (k := gc gm gm 0) (n := gs gm gm 0) (Nat.zero_le _) (Nat.zero_le _) ?_
  refine ec_aload_n hx hb dX12_get_0 rfl (lv_at hl 0 rfl) ?_
  refine cr_get (t := 0) (j := 7) (C := RX12) (T := TX12) (N := 12) (v := eV (ad 6) 0) hx hb htb inX12 hown hK hP hvx (by decide) (by decide) (by decide) rfl (by decide) (htb _ kw_41) (cV_c rfl (by decide) (by rw [show cMu 0 7 = 0 from rfl, Nat.zero_mul]; rfl)) dX12_get_1 ?_
  refine cm_callTV (t := 6) (C := RX5) (T := TX5) (N := 13) (rest := []) (as := []) ⟨hx, hb, hml, hown, htb⟩ (d_forgetFailure l dC dI ad cid a2 lx sg gm lg 0 hI (iv_k (by decide) : iv 0 0 0)) (cwV 0 htb (gd_V kw_995 kw_996 kw_997 kw_40 kw_1566) rfl rfl rfl (by decide +kernel) ⟨Nat.le_of_ble_eq_true rfl, Nat.le_of_ble_eq_true rfl⟩) (iv_k (by decide) : iv 0 0 0) (by decide) (by decide) rfl rfl hl.1 rfl (Nat.le_trans cs_n (by decide)) dX12_get_4 ⟨Nat.le_trans (gc_le hI) (Nat.le_of_ble_eq_true rfl), Nat.le_trans (gs_le hI) (Nat.le_of_ble_eq_true rfl)⟩ hK hP hD hS hA hG (fun E ce q9 u_2 H locs hw hP hD hS hce hcv hcl => ?_) (fun v9 u_2 H locs hw hP hD hS => ?_)
  · exact hw.elim
  obtain ⟨rfl, sgv_3, gmv_3, lgv_3, rfl, hIv_3, ksv_3, kgv_3, klv_3⟩ := hw
  obtain rfl := KS_nil kgv_3
  obtain rfl := KS_nil klv_3
  have hP : va_P (dC, dI) vwCl (cW ad cid a2 lx sgv_3 gm lg) H := hP
  have hD : va_D A (cW ad cid a2 lx sgv_3 gm lg) := hD
  refine W.eq (g2 := F0 m 7 ls []) rfl ?_
  refine ec_aload_n hx hb dX12_get_7 rfl (lv_at hl 0 rfl) ?_
  refine cr_get (t := 0) (j := 9) (C := RX12) (T := TX12) (N := 12) (v := .int (sgv_3 1)) hx hb htb inX12 hown hK hP hvx (by decide) (by decide) (by decide) rfl (by decide) (htb _ kw_312) rfl dX12_get_8 ?_
  refine W.eq (g2 := F0 m 11 ls [.int (sg 1)]) (by rw [show sgv_3 1 = sg 1 from (ksv_3 1 (by decide))]) ?_
  refine lv_if_ne (tgt := 22) hx hb dX12_get_11 (by decide) (fun c_4 => ?_) (fun c_4 => ?_)
  · have h_5 : iv 1 1 (sg 1) := iv_neL c_4 (show iv 0 1 (sg 1) from CI_s hI 1) (by decide)
    have hdc := hDC.resolve_left (by have := i32_0; have := i32_1; have := i32_2; have := i32_m1; have := congrArg Int32.toInt (show sgv_3 1 = sg 1 from ksv_3 1 (by decide)); have := (show iv 0 1 (sg 1) from CI_s hI 1).1; have := (show iv 0 1 (sg 1) from CI_s hI 1).2; have := (hvx).1; have := (hvx).2; have := (h_5).1; have := (h_5).2; omega)
    have hW := hdc.1
    have hMO := hdc.2
    refine ec_aload_n hx hb dX12_get_22 rfl (lv_at hl 0 rfl) ?_
    refine cr_get (t := 0) (j := 7) (C := RX12) (T := TX12) (N := 12) (v := eV (ad 6) 0) hx hb htb inX12 hown hK hP hvx (by decide) (by decide) (by decide) rfl (by decide) (htb _ kw_41) (cV_c rfl (by decide) (by rw [show cMu 0 7 = 0 from rfl, Nat.zero_mul]; rfl)) dX12_get_23 ?_
    refine lv_lload_n hx hb dX12_get_26 rfl (lv_at hl 1 rfl) ?_
    refine cm_callTS (rest := [eV (ad 6) 0]) (as := [.long nm]) ⟨hx, hb, hml, hown, htb⟩ (d_withoutZeros l dC dI ad cid a2 lx sgv_3 gm lg nm hIv_3) (va_cwS 1 htb (gd_S kw_1271 kw_1272 kw_2 kw_1639) rfl rfl rfl (by decide +kernel) ⟨Nat.le_of_ble_eq_true rfl, Nat.le_of_ble_eq_true rfl⟩)  rfl hl.1 rfl (Nat.le_trans (cs_c (eV_cat _ _) cs_n) (by decide)) dX12_get_27 ⟨Nat.le_trans (gc_le hI) (Nat.le_of_ble_eq_true rfl), Nat.le_trans (gs_le hI) (Nat.le_of_ble_eq_true rfl)⟩ hK hP hD hS hA hG (fun E ce q9 u_7 H locs hw hP hD hS hce hcv hcl => ?_) (fun v9 u_7 H locs hw hP hD hS => ?_)
    · exact hw.elim
    obtain ⟨r_6, rfl, rfl⟩ := hw
    have hP : va_P (dC, dI) vwCl (cW ad cid a2 lx sgv_3 gm lg) H := hP
    have hD : va_D A (cW ad cid a2 lx sgv_3 gm lg) := hD
    refine W.eq (g2 := F0 m 30 ls [.long r_6, eV (ad 6) 0]) rfl ?_
    refine cm_callGVX (t := 6) (C := RX5) (T := TX5) (N := 13) (rest := []) (as := [.long r_6]) ⟨hx, hb, hml, hown, htb⟩ (d_objectCalled l dC dI ad cid a2 lx sgv_3 gm lg hl9 0 r_6 hIv_3 (iv_k (by decide) : iv 0 0 0) (WRD_e hW (ksv_3 4 (by decide)) (ksv_3 12 (by decide)) rfl rfl rfl rfl rfl rfl rfl rfl rfl rfl rfl rfl rfl rfl rfl rfl rfl rfl) hLD (MOK_e hMO (show sgv_3 12 = sg 12 from (ksv_3 12 (by decide))) rfl rfl rfl rfl) (FND9_e hFN (show sgv_3 15 = sg 15 from (ksv_3 15 (by decide))) rfl)) (vx_cwVW 1 htb (gd_V kw_1274 kw_1275 kw_1276 kw_40 kw_1640) rfl rfl rfl (by decide +kernel) ⟨Nat.le_of_ble_eq_true rfl, Nat.le_of_ble_eq_true rfl⟩) (iv_k (by decide) : iv 0 0 0) (by decide) (by decide) rfl rfl hl.1 rfl (Nat.le_trans cs_n (by decide)) dX12_get_30 ⟨Nat.le_trans (gc_le hI) (Nat.le_of_ble_eq_true rfl), Nat.le_trans (gs_le hI) (Nat.le_of_ble_eq_true rfl)⟩ hK hP hD hS hA hG (fun E ce q9 u_10 H locs hw hmu hP hD hS hce hcv hcl => ?_) (fun v9 u_10 H locs hw hmu hP hD hS => ?_)
    · exact hw.elim
    obtain ⟨r_9, rfl, sgv_11, gmv_11, lgv_11, rfl, hIv_11, ksv_11, kgv_11, klv_11, hr_9, fMO_r_9, fFN_r_9⟩ := hw
    obtain rfl := KS_nil klv_11
    have hP : va_P (dC, dI) vwCl (cW ad cid a2 lx sgv_11 gmv_11 lg) H := hP
    have hD : va_D A (cW ad cid a2 lx sgv_11 gmv_11 lg) := hD
    have hmu : PHs gm ≤ PHs gmv_11 := hmu
    rw [show (gc gm gm 0 + gc gm gmv_11 1) = gc gm gmv_11 1 from gc_t (Nat.le_refl _) hmu, show (gs gm gm 0 + gs gm gmv_11 1) = gs gm gmv_11 1 from gs_t (Nat.le_refl _) hmu]
    have hm_12 : PHs gm ≤ PHs gmv_11 := Nat.le_trans (Nat.le_refl _) hmu
    refine W.eq (g2 := F0 m 33 ls [.int r_9]) rfl ?_
    refine lv_istore_n (i := 3) (lv' := [(3, .int r_9), (0, eV (ad 0) x), (1, .long nm)]) hx hb dX12_get_33 rfl hl (by decide) rfl (fun ls hl => ?_)
    refine lv_iload_n hx hb dX12_get_34 rfl (lv_at hl 0 rfl) ?_
    refine lv_iconst (v := (-1)) hx hb dX12_get_35 (by decide) ?_
    refine lv_icmp_ne (tgt := 47) hx hb dX12_get_36 (by decide) (fun c_13 => ?_) (fun c_13 => ?_)
    · have h_14 : iv 0 59 r_9 := iv_neL c_13 hr_9 (by decide)
      refine lv_iload_n hx hb dX12_get_47 rfl (lv_at hl 0 rfl) ?_
      exact W.nb (fun hN => W.widen (k := 60962) (n := 243852) (Nat.le_trans (gc_l0 (gm := gm) (k := 1) hIv_11) (Nat.le_of_ble_eq_true rfl)) (Nat.le_trans (gs_l0 (gm := gm) (k := 1) hIv_11) (Nat.le_of_ble_eq_true rfl)) (vx_ret (W.iret (v := r_9) hx hb hr (fun t ht hW => ⟨⟨some (.int r_9), (a2, lx, sgv_11, gmv_11, lg), rfl, ⟨r_9, rfl, sgv_11, gmv_11, lg, rfl, hIv_11, (KS_tr (L := [13, 14, 15, 16, 17, 18]) (KS_tr (L := [13, 14, 15, 16, 17, 18]) KS_rf ksv_3 (by decide)) ksv_11 (by decide)), (KS_tr (L := [37, 38, 39, 48, 49, 50, 51, 52, 53]) KS_rf kgv_11 (by decide)), KS_rf, h_14, (Or.inr fMO_r_9), (fFN_r_9)⟩, ⟨by rw [ht]; exact hP, va_K.moved hW.alike hK, hD⟩, hm_12, by rw [ht]; exact hN⟩, hS.F ht⟩) hS.2.2 dX12_get_48)))
    · have h_15 : iv (-1) (-1) r_9 := iv_eq c_13 hr_9 (iv_k (by decide) : iv (-1) (-1) (-1)) (by decide)
      refine vx_throw1 (own := RX12) (cls := "java/lang/UnsupportedOperationException") (names := ["java/lang/RuntimeException", "java/lang/Exception"]) (ik := 151) (ic := 153) (A := A) hx hb hl9 hown (by decide +kernel) (by decide +kernel) (htb _ kw_993) (htb _ kw_994) (vx_hat (fun w h => htb w (inT_3 w h)) inU_3 (vx_c (va_Nw.use rfl hG.2.1.1) (vx_c (va_Nw.use rfl hG.1.2.1.2.2.1) (vx_c (va_Nw.use rfl hG.1.2.1.2.2.2.1) (vx_c (va_Nw.use rfl hG.1.2.1.2.2.2.2) vx_n))))) (fun w hw => ?_) hG.1.2.2.2.1 hG.1.2.2.2.2 hS (by rw [hml]; exact hl.1) dX12_get_39 dX12_get_42 dX12_get_43 dX12_get_46 (fun x hx9 => (hxt x hx9).elim) (Nat.le_of_ble_eq_true rfl) (Nat.le_trans (Nat.add_le_add_right (show _ ≤ 8 from (Nat.le_trans cs_n (by decide))) _) (Nat.le_of_ble_eq_true rfl)) (Nat.le_trans (gc_le (gm := gm) (k := 1) (j := 1) hIv_11) (Nat.le_of_ble_eq_true rfl)) (Nat.le_trans (gs_le (gm := gm) (k := 1) (j := 6) hIv_11) (Nat.le_of_ble_eq_true rfl)) hlocks (fun t ht1 hz2 hk2 hnb => ⟨⟨(a2, lx, sgv_11, gmv_11, lg), ⟨(Or.inr rfl), sgv_11, gmv_11, lg, rfl, hIv_11, (KS_tr (L := [13, 14, 15, 16, 17, 18]) (KS_tr (L := [13, 14, 15, 16, 17, 18]) KS_rf ksv_3 (by decide)) ksv_11 (by decide)), (KS_tr (L := [37, 38, 39, 48, 49, 50, 51, 52, 53]) KS_rf kgv_11 (by decide)), KS_rf, (Or.inr fMO_r_9), (fFN_r_9)⟩, ⟨hP.kept (fun k q hq => hk2 _ (vx_lt hP hq)), va_K.moved ht1 hK, hD⟩, hm_12, NBw_w hnb (show gc gm gmv_11 1 + 1 ≤ gc gm gmv_11 (1 + 1) from (by unfold gc; omega)) (show gs gm gmv_11 1 + 6 ≤ gs gm gmv_11 (1 + 1) from (by unfold gs; omega))⟩, ⟨Nat.le_trans hS.1 hz2, fun q h1 h2 => (hk2 q (Nat.lt_of_lt_of_le h1 hS.1)).trans (hS.2.1 q h1 h2)⟩⟩) hS.2.2 (Nat.le_trans (gc_le (gm := gm) (k := 1) (j := 1) hIv_11) (Nat.le_of_ble_eq_true rfl)) (Nat.le_trans (gs_le (gm := gm) (k := 1) (j := 6) hIv_11) (Nat.le_of_ble_eq_true rfl))
      rcases List.mem_cons.mp hw with rfl | hw
      · rfl
      rcases List.mem_cons.mp hw with rfl | hw
      · rfl
      exact inV_3 w hw
  · have h_16 : iv 0 0 (sg 1) := iv_eq c_4 (show iv 0 1 (sg 1) from CI_s hI 1) (iv_k (by decide) : iv 0 0 0) (by decide)
    refine vx_throw1 (own := RX12) (cls := "java/lang/IllegalStateException") (names := ["java/lang/RuntimeException", "java/lang/Exception"]) (ik := 144) (ic := 146) (A := A) hx hb hl9 hown (by decide +kernel) (by decide +kernel) (htb _ kw_991) (htb _ kw_992) (vx_hat (fun w h => htb w (inT_2 w h)) inU_2 (vx_c (va_Nw.use rfl hG.1.2.1.2.1) (vx_c (va_Nw.use rfl hG.1.2.1.2.2.1) (vx_c (va_Nw.use rfl hG.1.2.1.2.2.2.1) (vx_c (va_Nw.use rfl hG.1.2.1.2.2.2.2) vx_n))))) (fun w hw => ?_) hG.1.2.2.2.1 hG.1.2.2.2.2 hS (by rw [hml]; exact hl.1) dX12_get_14 dX12_get_17 dX12_get_18 dX12_get_21 (fun x hx9 => (hxt x hx9).elim) (Nat.le_of_ble_eq_true rfl) (Nat.le_trans (Nat.add_le_add_right (show _ ≤ 8 from (Nat.le_trans cs_n (by decide))) _) (Nat.le_of_ble_eq_true rfl)) (Nat.le_trans (gc_le (gm := gm) (k := 0) (j := 1) hI) (Nat.le_of_ble_eq_true rfl)) (Nat.le_trans (gs_le (gm := gm) (k := 0) (j := 6) hI) (Nat.le_of_ble_eq_true rfl)) hlocks (fun t ht1 hz2 hk2 hnb => ⟨⟨(a2, lx, sgv_3, gm, lg), ⟨(Or.inl rfl), sgv_3, gm, lg, rfl, hIv_3, (KS_tr (L := [13, 14, 15, 16, 17, 18]) KS_rf ksv_3 (by decide)), KS_rf, KS_rf, (Or.inl (by have := i32_0; have := i32_1; have := i32_2; have := i32_m1; have := congrArg Int32.toInt (show sgv_3 1 = sg 1 from ksv_3 1 (by decide)); have := (show iv 0 1 (sg 1) from CI_s hI 1).1; have := (show iv 0 1 (sg 1) from CI_s hI 1).2; have := (hvx).1; have := (hvx).2; have := (h_16).1; have := (h_16).2; omega)), ((FND9_e hFN (show sgv_3 15 = sg 15 from (ksv_3 15 (by decide))) rfl))⟩, ⟨hP.kept (fun k q hq => hk2 _ (vx_lt hP hq)), va_K.moved ht1 hK, hD⟩, (Nat.le_refl _), NBw_w hnb (show gc gm gm 0 + 1 ≤ gc gm gm (1 + 1) from (by unfold gc; omega)) (show gs gm gm 0 + 6 ≤ gs gm gm (1 + 1) from (by unfold gs; omega))⟩, ⟨Nat.le_trans hS.1 hz2, fun q h1 h2 => (hk2 q (Nat.lt_of_lt_of_le h1 hS.1)).trans (hS.2.1 q h1 h2)⟩⟩) hS.2.2 (Nat.le_trans (gc_le (gm := gm) (k := 0) (j := 1) hI) (Nat.le_of_ble_eq_true rfl)) (Nat.le_trans (gs_le (gm := gm) (k := 0) (j := 6) hI) (Nat.le_of_ble_eq_true rfl))
    rcases List.mem_cons.mp hw with rfl | hw
    · rfl
    rcases List.mem_cons.mp hw with rfl | hw
    · rfl
    exact inV_2 w hw

set_option maxHeartbeats 4000000 in
set_option maxRecDepth 100000 in
theorem d_call (l : Launch) (dC : Nat → ClassId) (dI : Nat → Nat → Nat) (ad : Nat → Nat → Nat) (cid : Nat → ClassId) (a2 : Nat → Nat) (lx : List Nat) (sg : Nat → Int32) (gm : Nat → Nat → Int32) (lg : Nat → Nat → Int64) (hl9 : l.stackTraces = false) (x : Int32) (k : Int32) (wh : Int32) (hI : CI sg gm) (hvx : iv 0 0 x) (hDC : (sg 1).toInt = 0 ∨ (WRD sg gm lg ∧ MOK sg gm lg)) (hLD : LDI lx gm) (hFN : FND9 sg gm) : CMg dC dI ad cid l yX12_call wm_X12_call ({ frames := 344, cells := 60962, slots := 243852, locals := 11087 }) [eV (ad 0) x, .int k, .int wh] a2 lx sg gm lg 1 60962 243852 (fun v u => ∃ r : Int32, v = some (.int r) ∧ ∃ (sg2 : Nat → Int32) (gm2 : Nat → Nat → Int32) (lg2 : Nat → Nat → Int64), u = (a2, lx, sg2, gm2, lg2) ∧ CI sg2 gm2 ∧ KS [13, 14, 15, 16, 17, 18] sg sg2 ∧ KS [37, 38, 39, 48, 49, 50, 51, 52, 53] gm gm2 ∧ KS [] lg lg2 ∧ (iv 0 59 r) ∧ ((sg 1).toInt = 0 ∨ MOK sg2 gm2 lg2) ∧ (FND9 sg2 gm2)) (fun E u => (E = "java/lang/IllegalStateException" ∨ E = "java/lang/IndexOutOfBoundsException" ∨ E = "java/lang/UnsupportedOperationException") ∧ ∃ (sg2 : Nat → Int32) (gm2 : Nat → Nat → Int32) (lg2 : Nat → Nat → Int64), u = (a2, lx, sg2, gm2, lg2) ∧ CI sg2 gm2 ∧ KS [13, 14, 15, 16, 17, 18] sg sg2 ∧ KS [37, 38, 39, 48, 49, 50, 51, 52, 53] gm gm2 ∧ KS [] lg lg2 ∧ ((sg 1).toInt = 0 ∨ MOK sg2 gm2 lg2) ∧ (FND9 sg2 gm2)) := by
  intro sz
  refine vx_ofW (cc := cX12_call) (maxL := 5) (ret := (some .int)) (by decide) rfl ?_
  intro p e s m args below meth c s₁ B hml hxt hv
  obtain ⟨rfl, hsz, hP, hK, hD0, hG⟩ := hv
  have hx := B.exec
  have hb := B.bytes
  have hr := B.returns
  have hts := atoms_spec (ws := wm_X12_call) B.pre
  have htb := fun (w : Cond) (h : w ∈ tb) => hts w (List.mem_cons_of_mem _ h)
  have hown : s.vm.findClass RX12 = some m.cls := findClass_of_methodNamed B.named
  have hlocks := B.notSynchronized
  subst hsz
  have hD := hD0.self (sz := s.heap.size)
  generalize hAe : va_A (cW ad cid a2 lx sg gm lg) s.heap.size = A at hD hG ⊢
  have hA : ∀ q : Nat, s.heap.size ≤ q → A q := fun q h => by rw [← hAe]; exact Or.inr h
  have hS : va_S A s.heap s.heap [] := va_S.rf
  have hl := lv_entry ([eV (ad 0) x, .int k, .int wh]) (n := 5) (by rw [show (lg_sl ([eV (ad 0) x, .int k, .int wh])).length = 3 from by simp [lg_sl, eV_cat, cat_i, cat_l]]; exact Nat.le_of_ble_eq_true rfl)
  rw [lg_entry_eq]
  generalize (lg_sl ([eV (ad 0) x, .int k, .int wh]) ++ List.replicate (5 - (lg_sl ([eV (ad 0) x, .int k, .int wh])).length) Slot.unset).toArray = ls at hl ⊢
  have hl : lv_has ls 5 [(0, eV (ad 0) x), (1, .int k), (2, .int wh)] := by simp [lv_args, eV_cat, cat_i, cat_l] at hl; exact hl
  refine W.widen (k := gc gm gm 0) (n := gs gm gm 0) (Nat.zero_le _) (Nat.zero_le _) ?_
  refine ec_aload_n hx hb dX12_call_0 rfl (lv_at hl 0 rfl) ?_
  refine cr_get (t := 0) (j := 7) (C := RX12) (T := TX12) (N := 12) (v := eV (ad 6) 0) hx hb htb inX12 hown hK hP hvx (by decide) (by decide) (by decide) rfl (by decide) (htb _ kw_41) (cV_c rfl (by decide) (by rw [show cMu 0 7 = 0 from rfl, Nat.zero_mul]; rfl)) dX12_call_1 ?_
  refine cm_callTV (t := 6) (C := RX5) (T := TX5) (N := 13) (rest := []) (as := []) ⟨hx, hb, hml, hown, htb⟩ (d_forgetFailure l dC dI ad cid a2 lx sg gm lg 0 hI (iv_k (by decide) : iv 0 0 0)) (cwV 0 htb (gd_V kw_995 kw_996 kw_997 kw_40 kw_1566) rfl rfl rfl (by decide +kernel) ⟨Nat.le_of_ble_eq_true rfl, Nat.le_of_ble_eq_true rfl⟩) (iv_k (by decide) : iv 0 0 0) (by decide) (by decide) rfl rfl hl.1 rfl (Nat.le_trans cs_n (by decide)) dX12_call_4 ⟨Nat.le_trans (gc_le hI) (Nat.le_of_ble_eq_true rfl), Nat.le_trans (gs_le hI) (Nat.le_of_ble_eq_true rfl)⟩ hK hP hD hS hA hG (fun E ce q9 u_2 H locs hw hP hD hS hce hcv hcl => ?_) (fun v9 u_2 H locs hw hP hD hS => ?_)
  · exact hw.elim
  obtain ⟨rfl, sgv_3, gmv_3, lgv_3, rfl, hIv_3, ksv_3, kgv_3, klv_3⟩ := hw
  obtain rfl := KS_nil kgv_3
  obtain rfl := KS_nil klv_3
  have hP : va_P (dC, dI) vwCl (cW ad cid a2 lx sgv_3 gm lg) H := hP
  have hD : va_D A (cW ad cid a2 lx sgv_3 gm lg) := hD
  refine W.eq (g2 := F0 m 7 ls []) rfl ?_
  refine ec_aload_n hx hb dX12_call_7 rfl (lv_at hl 0 rfl) ?_
  refine cr_get (t := 0) (j := 9) (C := RX12) (T := TX12) (N := 12) (v := .int (sgv_3 1)) hx hb htb inX12 hown hK hP hvx (by decide) (by decide) (by decide) rfl (by decide) (htb _ kw_312) rfl dX12_call_8 ?_
  refine W.eq (g2 := F0 m 11 ls [.int (sg 1)]) (by rw [show sgv_3 1 = sg 1 from (ksv_3 1 (by decide))]) ?_
  refine lv_if_ne (tgt := 22) hx hb dX12_call_11 (by decide) (fun c_4 => ?_) (fun c_4 => ?_)
  · have h_5 : iv 1 1 (sg 1) := iv_neL c_4 (show iv 0 1 (sg 1) from CI_s hI 1) (by decide)
    have hdc := hDC.resolve_left (by have := i32_0; have := i32_1; have := i32_2; have := i32_m1; have := congrArg Int32.toInt (show sgv_3 1 = sg 1 from ksv_3 1 (by decide)); have := (show iv 0 1 (sg 1) from CI_s hI 1).1; have := (show iv 0 1 (sg 1) from CI_s hI 1).2; have := (hvx).1; have := (hvx).2; have := (h_5).1; have := (h_5).2; omega)
    have hW := hdc.1
    have hMO := hdc.2
    refine ec_aload_n hx hb dX12_call_22 rfl (lv_at hl 0 rfl) ?_
    refine cr_get (t := 0) (j := 7) (C := RX12) (T := TX12) (N := 12) (v := eV (ad 6) 0) hx hb htb inX12 hown hK hP hvx (by decide) (by decide) (by decide) rfl (by decide) (htb _ kw_41) (cV_c rfl (by decide) (by rw [show cMu 0 7 = 0 from rfl, Nat.zero_mul]; rfl)) dX12_call_23 ?_
    refine lv_iload_n hx hb dX12_call_26 rfl (lv_at hl 1 rfl) ?_
    refine lv_iload_n hx hb dX12_call_27 rfl (lv_at hl 2 rfl) ?_
    refine cm_callTV (t := 6) (C := RX5) (T := TX5) (N := 13) (rest := []) (as := [.int k, .int wh]) ⟨hx, hb, hml, hown, htb⟩ (d_lookupOf l dC dI ad cid a2 lx sgv_3 gm lg 0 k wh hIv_3 (iv_k (by decide) : iv 0 0 0) hLD) (cwV 2 htb (gd_V kw_1291 kw_1292 kw_1293 kw_40 kw_1645) rfl rfl rfl (by decide +kernel) ⟨Nat.le_of_ble_eq_true rfl, Nat.le_of_ble_eq_true rfl⟩) (iv_k (by decide) : iv 0 0 0) (by decide) (by decide) rfl rfl hl.1 rfl (Nat.le_trans cs_n (by decide)) dX12_call_28 ⟨Nat.le_trans (gc_le hI) (Nat.le_of_ble_eq_true rfl), Nat.le_trans (gs_le hI) (Nat.le_of_ble_eq_true rfl)⟩ hK hP hD hS hA hG (fun E ce q9 u_7 H locs hw hP hD hS hce hcv hcl => ?_) (fun v9 u_7 H locs hw hP hD hS => ?_)
    · exact hw.elim
    obtain ⟨r_6, rfl, rfl, hr_6⟩ := hw
    have hP : va_P (dC, dI) vwCl (cW ad cid a2 lx sgv_3 gm lg) H := hP
    have hD : va_D A (cW ad cid a2 lx sgv_3 gm lg) := hD
    refine W.eq (g2 := F0 m 31 ls [eV (ad 9) r_6]) rfl ?_
    refine ec_astore_n (i := 3) (lv' := [(3, eV (ad 9) r_6), (0, eV (ad 0) x), (1, .int k), (2, .int wh)]) hx hb dX12_call_31 rfl hl (by decide) rfl (fun ls hl => ?_)
    refine ec_aload_n hx hb dX12_call_32 rfl (lv_at hl 0 rfl) ?_
    refine ec_ifnonnull (tgt := 44) hx hb dX12_call_33 (by decide) (fun c_9 => ?_) (fun c_9 => ?_)
    · have h_10 : iv 0 79 r_6 := ⟨c_9, (hr_6).2⟩
      refine ec_aload_n hx hb dX12_call_44 rfl (lv_at hl 1 rfl) ?_
      refine cr_get (t := 0) (j := 7) (C := RX12) (T := TX12) (N := 12) (v := eV (ad 6) 0) hx hb htb inX12 hown hK hP hvx (by decide) (by decide) (by decide) rfl (by decide) (htb _ kw_41) (cV_c rfl (by decide) (by rw [show cMu 0 7 = 0 from rfl, Nat.zero_mul]; rfl)) dX12_call_45 ?_
      refine ec_aload_n hx hb dX12_call_48 rfl (lv_at hl 0 rfl) ?_
      refine cr_get (t := 9) (j := 12) (C := RX3) (T := TX3) (N := 21) (v := .long (lg 2 r_6.toNatClampNeg)) hx hb htb inX3 hown hK hP h_10 (by decide) (by decide) (by decide) rfl (by decide) (htb _ kw_1290) rfl dX12_call_49 ?_
      refine lv_topl (fun z_11 ez_11 => ?_)
      refine cm_callGVX (t := 6) (C := RX5) (T := TX5) (N := 13) (rest := []) (as := [.long z_11]) ⟨hx, hb, hml, hown, htb⟩ (d_objectCalled l dC dI ad cid a2 lx sgv_3 gm lg hl9 0 z_11 hIv_3 (iv_k (by decide) : iv 0 0 0) (WRD_e hW (ksv_3 4 (by decide)) (ksv_3 12 (by decide)) rfl rfl rfl rfl rfl rfl rfl rfl rfl rfl rfl rfl rfl rfl rfl rfl rfl rfl) hLD (MOK_e hMO (show sgv_3 12 = sg 12 from (ksv_3 12 (by decide))) rfl rfl rfl rfl) (FND9_e hFN (show sgv_3 15 = sg 15 from (ksv_3 15 (by decide))) rfl)) (vx_cwVW 1 htb (gd_V kw_1274 kw_1275 kw_1276 kw_40 kw_1640) rfl rfl rfl (by decide +kernel) ⟨Nat.le_of_ble_eq_true rfl, Nat.le_of_ble_eq_true rfl⟩) (iv_k (by decide) : iv 0 0 0) (by decide) (by decide) rfl rfl hl.1 rfl (Nat.le_trans cs_n (by decide)) dX12_call_52 ⟨Nat.le_trans (gc_le hI) (Nat.le_of_ble_eq_true rfl), Nat.le_trans (gs_le hI) (Nat.le_of_ble_eq_true rfl)⟩ hK hP hD hS hA hG (fun E ce q9 u_13 H locs hw hmu hP hD hS hce hcv hcl => ?_) (fun v9 u_13 H locs hw hmu hP hD hS => ?_)
      · exact hw.elim
      obtain ⟨r_12, rfl, sgv_14, gmv_14, lgv_14, rfl, hIv_14, ksv_14, kgv_14, klv_14, hr_12, fMO_r_12, fFN_r_12⟩ := hw
      obtain rfl := KS_nil klv_14
      have hP : va_P (dC, dI) vwCl (cW ad cid a2 lx sgv_14 gmv_14 lg) H := hP
      have hD : va_D A (cW ad cid a2 lx sgv_14 gmv_14 lg) := hD
      have hmu : PHs gm ≤ PHs gmv_14 := hmu
      rw [show (gc gm gm 0 + gc gm gmv_14 1) = gc gm gmv_14 1 from gc_t (Nat.le_refl _) hmu, show (gs gm gm 0 + gs gm gmv_14 1) = gs gm gmv_14 1 from gs_t (Nat.le_refl _) hmu]
      have hm_15 : PHs gm ≤ PHs gmv_14 := Nat.le_trans (Nat.le_refl _) hmu
      refine W.eq (g2 := F0 m 55 ls [.int r_12]) rfl ?_
      refine lv_istore (i := 4) (lv' := [(4, .int r_12), (3, eV (ad 9) r_6), (0, eV (ad 0) x), (1, .int k), (2, .int wh)]) hx hb dX12_call_55 hl (by decide) (by simp [List.filter, eV_cat, cat_i, cat_l]) (fun ls hl => ?_)
      refine lv_iload hx hb dX12_call_57 (lv_at hl 0 rfl) ?_
      refine lv_iconst (v := (-1)) hx hb dX12_call_59 (by decide) ?_
      refine lv_icmp_ne (tgt := 71) hx hb dX12_call_60 (by decide) (fun c_16 => ?_) (fun c_16 => ?_)
      · have h_17 : iv 0 59 r_12 := iv_neL c_16 hr_12 (by decide)
        refine lv_iload hx hb dX12_call_71 (lv_at hl 0 rfl) ?_
        exact W.nb (fun hN => W.widen (k := 60962) (n := 243852) (Nat.le_trans (gc_l0 (gm := gm) (k := 1) hIv_14) (Nat.le_of_ble_eq_true rfl)) (Nat.le_trans (gs_l0 (gm := gm) (k := 1) hIv_14) (Nat.le_of_ble_eq_true rfl)) (vx_ret (W.iret (v := r_12) hx hb hr (fun t ht hW => ⟨⟨some (.int r_12), (a2, lx, sgv_14, gmv_14, lg), rfl, ⟨r_12, rfl, sgv_14, gmv_14, lg, rfl, hIv_14, (KS_tr (L := [13, 14, 15, 16, 17, 18]) (KS_tr (L := [13, 14, 15, 16, 17, 18]) KS_rf ksv_3 (by decide)) ksv_14 (by decide)), (KS_tr (L := [37, 38, 39, 48, 49, 50, 51, 52, 53]) KS_rf kgv_14 (by decide)), KS_rf, h_17, (Or.inr fMO_r_12), (fFN_r_12)⟩, ⟨by rw [ht]; exact hP, va_K.moved hW.alike hK, hD⟩, hm_15, by rw [ht]; exact hN⟩, hS.F ht⟩) hS.2.2 dX12_call_73)))
      · have h_18 : iv (-1) (-1) r_12 := iv_eq c_16 hr_12 (iv_k (by decide) : iv (-1) (-1) (-1)) (by decide)
        refine vx_throw1 (own := RX12) (cls := "java/lang/UnsupportedOperationException") (names := ["java/lang/RuntimeException", "java/lang/Exception"]) (ik := 151) (ic := 153) (A := A) hx hb hl9 hown (by decide +kernel) (by decide +kernel) (htb _ kw_993) (htb _ kw_994) (vx_hat (fun w h => htb w (inT_3 w h)) inU_3 (vx_c (va_Nw.use rfl hG.2.1.1) (vx_c (va_Nw.use rfl hG.1.2.1.2.2.1) (vx_c (va_Nw.use rfl hG.1.2.1.2.2.2.1) (vx_c (va_Nw.use rfl hG.1.2.1.2.2.2.2) vx_n))))) (fun w hw => ?_) hG.1.2.2.2.1 hG.1.2.2.2.2 hS (by rw [hml]; exact hl.1) dX12_call_63 dX12_call_66 dX12_call_67 dX12_call_70 (fun x hx9 => (hxt x hx9).elim) (Nat.le_of_ble_eq_true rfl) (Nat.le_trans (Nat.add_le_add_right (show _ ≤ 8 from (Nat.le_trans cs_n (by decide))) _) (Nat.le_of_ble_eq_true rfl)) (Nat.le_trans (gc_le (gm := gm) (k := 1) (j := 1) hIv_14) (Nat.le_of_ble_eq_true rfl)) (Nat.le_trans (gs_le (gm := gm) (k := 1) (j := 6) hIv_14) (Nat.le_of_ble_eq_true rfl)) hlocks (fun t ht1 hz2 hk2 hnb => ⟨⟨(a2, lx, sgv_14, gmv_14, lg), ⟨(Or.inr (Or.inr rfl)), sgv_14, gmv_14, lg, rfl, hIv_14, (KS_tr (L := [13, 14, 15, 16, 17, 18]) (KS_tr (L := [13, 14, 15, 16, 17, 18]) KS_rf ksv_3 (by decide)) ksv_14 (by decide)), (KS_tr (L := [37, 38, 39, 48, 49, 50, 51, 52, 53]) KS_rf kgv_14 (by decide)), KS_rf, (Or.inr fMO_r_12), (fFN_r_12)⟩, ⟨hP.kept (fun k q hq => hk2 _ (vx_lt hP hq)), va_K.moved ht1 hK, hD⟩, hm_15, NBw_w hnb (show gc gm gmv_14 1 + 1 ≤ gc gm gmv_14 (1 + 1) from (by unfold gc; omega)) (show gs gm gmv_14 1 + 6 ≤ gs gm gmv_14 (1 + 1) from (by unfold gs; omega))⟩, ⟨Nat.le_trans hS.1 hz2, fun q h1 h2 => (hk2 q (Nat.lt_of_lt_of_le h1 hS.1)).trans (hS.2.1 q h1 h2)⟩⟩) hS.2.2 (Nat.le_trans (gc_le (gm := gm) (k := 1) (j := 1) hIv_14) (Nat.le_of_ble_eq_true rfl)) (Nat.le_trans (gs_le (gm := gm) (k := 1) (j := 6) hIv_14) (Nat.le_of_ble_eq_true rfl))
        rcases List.mem_cons.mp hw with rfl | hw
        · rfl
        rcases List.mem_cons.mp hw with rfl | hw
        · rfl
        exact inV_3 w hw
    · have h_19 : iv (-1) (-1) r_6 := ⟨(hr_6).1, by omega⟩
      refine vx_throw1 (own := RX12) (cls := "java/lang/IndexOutOfBoundsException") (names := ["java/lang/RuntimeException", "java/lang/Exception"]) (ik := 169) (ic := 171) (A := A) hx hb hl9 hown (by decide +kernel) (by decide +kernel) (htb _ kw_1288) (htb _ kw_1289) (vx_hat (fun w h => htb w (inT_5 w h)) inU_5 (vx_c (va_Nw.use rfl hG.2.1.2.1) (vx_c (va_Nw.use rfl hG.1.2.1.2.2.1) (vx_c (va_Nw.use rfl hG.1.2.1.2.2.2.1) (vx_c (va_Nw.use rfl hG.1.2.1.2.2.2.2) vx_n))))) (fun w hw => ?_) hG.1.2.2.2.1 hG.1.2.2.2.2 hS (by rw [hml]; exact hl.1) dX12_call_36 dX12_call_39 dX12_call_40 dX12_call_43 (fun x hx9 => (hxt x hx9).elim) (Nat.le_of_ble_eq_true rfl) (Nat.le_trans (Nat.add_le_add_right (show _ ≤ 8 from (Nat.le_trans cs_n (by decide))) _) (Nat.le_of_ble_eq_true rfl)) (Nat.le_trans (gc_le (gm := gm) (k := 0) (j := 1) hI) (Nat.le_of_ble_eq_true rfl)) (Nat.le_trans (gs_le (gm := gm) (k := 0) (j := 6) hI) (Nat.le_of_ble_eq_true rfl)) hlocks (fun t ht1 hz2 hk2 hnb => ⟨⟨(a2, lx, sgv_3, gm, lg), ⟨(Or.inr (Or.inl rfl)), sgv_3, gm, lg, rfl, hIv_3, (KS_tr (L := [13, 14, 15, 16, 17, 18]) KS_rf ksv_3 (by decide)), KS_rf, KS_rf, (Or.inr (MOK_e hMO (show sgv_3 12 = sg 12 from (ksv_3 12 (by decide))) rfl rfl rfl rfl)), ((FND9_e hFN (show sgv_3 15 = sg 15 from (ksv_3 15 (by decide))) rfl))⟩, ⟨hP.kept (fun k q hq => hk2 _ (vx_lt hP hq)), va_K.moved ht1 hK, hD⟩, (Nat.le_refl _), NBw_w hnb (show gc gm gm 0 + 1 ≤ gc gm gm (1 + 1) from (by unfold gc; omega)) (show gs gm gm 0 + 6 ≤ gs gm gm (1 + 1) from (by unfold gs; omega))⟩, ⟨Nat.le_trans hS.1 hz2, fun q h1 h2 => (hk2 q (Nat.lt_of_lt_of_le h1 hS.1)).trans (hS.2.1 q h1 h2)⟩⟩) hS.2.2 (Nat.le_trans (gc_le (gm := gm) (k := 0) (j := 1) hI) (Nat.le_of_ble_eq_true rfl)) (Nat.le_trans (gs_le (gm := gm) (k := 0) (j := 6) hI) (Nat.le_of_ble_eq_true rfl))
      rcases List.mem_cons.mp hw with rfl | hw
      · rfl
      rcases List.mem_cons.mp hw with rfl | hw
      · rfl
      exact inV_5 w hw
  · have h_20 : iv 0 0 (sg 1) := iv_eq c_4 (show iv 0 1 (sg 1) from CI_s hI 1) (iv_k (by decide) : iv 0 0 0) (by decide)
    refine vx_throw1 (own := RX12) (cls := "java/lang/IllegalStateException") (names := ["java/lang/RuntimeException", "java/lang/Exception"]) (ik := 144) (ic := 146) (A := A) hx hb hl9 hown (by decide +kernel) (by decide +kernel) (htb _ kw_991) (htb _ kw_992) (vx_hat (fun w h => htb w (inT_2 w h)) inU_2 (vx_c (va_Nw.use rfl hG.1.2.1.2.1) (vx_c (va_Nw.use rfl hG.1.2.1.2.2.1) (vx_c (va_Nw.use rfl hG.1.2.1.2.2.2.1) (vx_c (va_Nw.use rfl hG.1.2.1.2.2.2.2) vx_n))))) (fun w hw => ?_) hG.1.2.2.2.1 hG.1.2.2.2.2 hS (by rw [hml]; exact hl.1) dX12_call_14 dX12_call_17 dX12_call_18 dX12_call_21 (fun x hx9 => (hxt x hx9).elim) (Nat.le_of_ble_eq_true rfl) (Nat.le_trans (Nat.add_le_add_right (show _ ≤ 8 from (Nat.le_trans cs_n (by decide))) _) (Nat.le_of_ble_eq_true rfl)) (Nat.le_trans (gc_le (gm := gm) (k := 0) (j := 1) hI) (Nat.le_of_ble_eq_true rfl)) (Nat.le_trans (gs_le (gm := gm) (k := 0) (j := 6) hI) (Nat.le_of_ble_eq_true rfl)) hlocks (fun t ht1 hz2 hk2 hnb => ⟨⟨(a2, lx, sgv_3, gm, lg), ⟨(Or.inl rfl), sgv_3, gm, lg, rfl, hIv_3, (KS_tr (L := [13, 14, 15, 16, 17, 18]) KS_rf ksv_3 (by decide)), KS_rf, KS_rf, (Or.inl (by have := i32_0; have := i32_1; have := i32_2; have := i32_m1; have := congrArg Int32.toInt (show sgv_3 1 = sg 1 from ksv_3 1 (by decide)); have := (show iv 0 1 (sg 1) from CI_s hI 1).1; have := (show iv 0 1 (sg 1) from CI_s hI 1).2; have := (hvx).1; have := (hvx).2; have := (h_20).1; have := (h_20).2; omega)), ((FND9_e hFN (show sgv_3 15 = sg 15 from (ksv_3 15 (by decide))) rfl))⟩, ⟨hP.kept (fun k q hq => hk2 _ (vx_lt hP hq)), va_K.moved ht1 hK, hD⟩, (Nat.le_refl _), NBw_w hnb (show gc gm gm 0 + 1 ≤ gc gm gm (1 + 1) from (by unfold gc; omega)) (show gs gm gm 0 + 6 ≤ gs gm gm (1 + 1) from (by unfold gs; omega))⟩, ⟨Nat.le_trans hS.1 hz2, fun q h1 h2 => (hk2 q (Nat.lt_of_lt_of_le h1 hS.1)).trans (hS.2.1 q h1 h2)⟩⟩) hS.2.2 (Nat.le_trans (gc_le (gm := gm) (k := 0) (j := 1) hI) (Nat.le_of_ble_eq_true rfl)) (Nat.le_trans (gs_le (gm := gm) (k := 0) (j := 6) hI) (Nat.le_of_ble_eq_true rfl))
    rcases List.mem_cons.mp hw with rfl | hw
    · rfl
    rcases List.mem_cons.mp hw with rfl | hw
    · rfl
    exact inV_2 w hw
