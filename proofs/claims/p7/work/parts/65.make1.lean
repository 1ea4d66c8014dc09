set_option maxHeartbeats 4000000 in
set_option maxRecDepth 100000 in
theorem d_forgetMade (l : Launch) (dC : Nat → ClassId) (dI : Nat → Nat → Nat) (ad : Nat → Nat → Nat) (cid : Nat → ClassId) (a2 : Nat → Nat) (lx : List Nat) (sg : Nat → Int32) (gm : Nat → Nat → Int32) (lg : Nat → Nat → Int64) (x : Int32) (hI : CI sg gm) (hvx : iv 0 0 x) : CMt dC dI ad cid a2 lx l yX5_forgetMade wm_X5_forgetMade ({ frames := 1, cells := 1, slots := 6, locals := 21 }) [eV (ad 6) x] sg gm lg (fun v u => v = none ∧ ∃ (sg2 : Nat → Int32) (gm2 : Nat → Nat → Int32) (lg2 : Nat → Nat → Int64), u = (sg2, gm2, lg2) ∧ CI sg2 gm2 ∧ KS [15] sg sg2 ∧ KS [38] gm gm2 ∧ KS [] lg lg2 ∧ (∀ j9, j9 < (sg 12).toNatClampNeg → gm2 38 j9 = 0) ∧ ((sg2 15).toInt = 0)) (fun _ _ => False) := by
  intro sz
  refine vx_ofW (cc := cX5_forgetMade) (maxL := 2) (ret := none) (by decide) rfl ?_
  intro p e s m args below meth c s₁ B hml hxt hv
  obtain ⟨rfl, hsz, hP, hK, hD0, hG⟩ := hv
  have hx := B.exec
  have hb := B.bytes
  have hr := B.returns
  have hts := atoms_spec (ws := wm_X5_forgetMade) B.pre
  have htb := fun (w : Cond) (h : w ∈ tb) => hts w (List.mem_cons_of_mem _ h)
  have hown : s.vm.findClass RX5 = some m.cls := findClass_of_methodNamed B.named
  have hlocks := B.notSynchronized
  subst hsz
  have hD := hD0.self (sz := s.heap.size)
  generalize hAe : va_A (cW ad cid a2 lx sg gm lg) s.heap.size = A at hD hG ⊢
  have hA : ∀ q : Nat, s.heap.size ≤ q → A q := fun q h => by rw [← hAe]; exact Or.inr h
  have hS : va_S A s.heap s.heap [] := va_S.rf
  have hl := lv_entry ([eV (ad 6) x]) (n := 2) (by rw [show (lg_sl ([eV (ad 6) x])).length = 1 from by simp [lg_sl, eV_cat, cat_i, cat_l]]; exact Nat.le_of_ble_eq_true rfl)
  rw [lg_entry_eq]
  generalize (lg_sl ([eV (ad 6) x]) ++ List.replicate (2 - (lg_sl ([eV (ad 6) x])).length) Slot.unset).toArray = ls at hl ⊢
  have hl : lv_has ls 2 [(0, eV (ad 6) x)] := by simp [lv_args, eV_cat, cat_i, cat_l] at hl; exact hl
  have hj2 : ∀ (n : Nat) (gm_j2 : Nat → Nat → Int32) (x1_2 : Int32) (_ : (80 - x1_2.toInt).toNat = n) (_ : iv 0 80 x1_2) (_ : iv 0 0 x) (_ : KS [38] gm gm_j2) (_ : CI sg gm_j2) (_ : ∀ j9, j9 < x1_2.toNatClampNeg → gm_j2 38 j9 = 0) (H : Heap) (locs : List Loc) (ls : Array Slot), va_P (dC, dI) vwCl (cW ad cid a2 lx sg gm_j2 lg) H → va_D A (cW ad cid a2 lx sg gm_j2 lg) → va_S A s.heap H locs → lv_has ls 2 [(1, .int x1_2), (0, eV (ad 6) x)] → W p l e (headSpec wm_X5_forgetMade ({ frames := 1, cells := 1, slots := 6, locals := 21 })).room s m ([eV (ad 6) x] : List Value).toArray below meth c H locs 0 0 (vx_MQ below (cQx dC dI ad cid a2 lx (fun v u => v = none ∧ ∃ (sg2 : Nat → Int32) (gm2 : Nat → Nat → Int32) (lg2 : Nat → Nat → Int64), u = (sg2, gm2, lg2) ∧ CI sg2 gm2 ∧ KS [15] sg sg2 ∧ KS [38] gm gm2 ∧ KS [] lg lg2 ∧ (∀ j9, j9 < (sg 12).toNatClampNeg → gm2 38 j9 = 0) ∧ ((sg2 15).toInt = 0)) A) (cX dC dI ad cid a2 lx (fun _ _ => False) A) ([eV (ad 6) x] : List Value).toArray s 1 6 A) (F0 m 2 ls []) := by
    intro n
    induction n using Nat.strongRecOn with
    | ind n ih2 =>
      intro gm_j2 x1_2 hn2 hx1_2 hsx0_2 hkg_j2 hI_j2 hall H locs ls hP hD hS hl
      refine lv_iload_n hx hb dX5_forgetMade_2 rfl (lv_at hl 0 rfl) ?_
      refine ec_aload_n hx hb dX5_forgetMade_3 rfl (lv_at hl 1 rfl) ?_
      refine cr_get (t := 6) (j := 0) (C := RX5) (T := TX5) (N := 13) (v := eV (ad 4) 0) hx hb htb inX5 hown hK hP hsx0_2 (by decide) (by decide) (by decide) rfl (by decide) (htb _ kw_121) (cV_c rfl (by decide) (by rw [show cMu 6 0 = 0 from rfl, Nat.zero_mul]; rfl)) dX5_forgetMade_4 ?_
      refine cm_callV (t := 4) (C := RX10) (T := TX10) (N := 4) (rest := [.int x1_2]) (as := []) ⟨hx, hb, hml, hown, htb⟩ (d_countWi l dC dI ad cid a2 lx sg gm_j2 lg 0 hI_j2 (iv_k (by decide) : iv 0 0 0)) (cwV 0 htb (gd_V kw_322 kw_323 kw_324 kw_32 kw_1413) rfl rfl rfl (by decide +kernel) ⟨Nat.le_of_ble_eq_true rfl, Nat.le_of_ble_eq_true rfl⟩) (iv_k (by decide) : iv 0 0 0) (by decide) (by decide) rfl rfl hl.1 rfl (Nat.le_trans (cs_c (cat_i _) cs_n) (by decide)) dX5_forgetMade_7 ⟨Nat.le_of_ble_eq_true rfl, Nat.le_of_ble_eq_true rfl⟩ hK hP hD hS hA hG (fun E ce q9 u_2 H locs hw hP hD hS hce hcv hcl => ?_) (fun v9 u_2 H locs hw hP hD hS => ?_)
      · exact hw.elim
      obtain ⟨r_1, rfl, rfl, hr_1, fr_r_1⟩ := hw
      have hP : va_P (dC, dI) vwCl (cW ad cid a2 lx sg gm_j2 lg) H := hP
      have hD : va_D A (cW ad cid a2 lx sg gm_j2 lg) := hD
      refine W.eq (g2 := F0 m 10 ls [.int r_1, .int x1_2]) rfl ?_
      refine lv_icmp_ge (tgt := 31) hx hb dX5_forgetMade_10 (by decide) (fun c_4 => ?_) (fun c_4 => ?_)
      · have d_5 : (r_1 : Int32).toInt ≤ (x1_2 : Int32).toInt := Int32.le_iff_toInt_le.mp c_4
        refine ec_aload_n hx hb dX5_forgetMade_31 rfl (lv_at hl 1 rfl) ?_
        refine lv_iconst (v := 0) hx hb dX5_forgetMade_32 (by decide) ?_
        refine cr_puts (t := 6) (j := 7) (C := RX5) (T := TX5) (N := 13) (ty0 := tyX5) (k := 15) (y := 0) hx hb htb inX5 tyX5_ok nmX5 hown hK hP hD hS hsx0_2 (by decide) (by decide) (by decide) (by decide) rfl rfl rfl (by decide) (htb _ kw_321) rfl (by show Value.int 0 = Value.int (va_up sg 15 0 15); rw [va_up_self]) rfl rfl dX5_forgetMade_33 (fun sg_6 H locs esg_6 hP hD hS => ?_)
        have hI_sg_6 := CI_put hI_j2 esg_6 (iv_k (by decide) : iv 0 0 0) (by decide)
        exact W.nb (fun hN => W.widen (k := 1) (n := 6) (by decide) (by decide) (vx_ret (W.vret hx hb hr (fun t ht hW => ⟨⟨none, (sg_6, gm_j2, lg), rfl, ⟨rfl, sg_6, gm_j2, lg, rfl, hI_sg_6, (KS_up KS_rf esg_6 (by decide)), (KS_tr (L := [38]) KS_rf hkg_j2 (by decide)), KS_rf, (fun j9 q9 => by { rw [show gm_j2 38 = gm_j2 38 from rfl]; exact hall j9 (by have q1 : (sg 12).toNatClampNeg = (sg 12).toInt.toNat := rfl; have q2 : x1_2.toNatClampNeg = x1_2.toInt.toNat := rfl; have q3 := congrArg Int32.toInt fr_r_1; have := i32_0; have := i32_1; have := i32_2; have := i32_m1; have := congrArg Int32.toInt (show sg_6 12 = sg 12 from up_ne esg_6 (by decide)); have := (show iv 0 80 (sg 12) from CI_s hI 12).1; have := (show iv 0 80 (sg 12) from CI_s hI 12).2; have := (hsx0_2).1; have := (hsx0_2).2; have := (hx1_2).1; have := (hx1_2).2; have := (hr_1).1; have := (hr_1).2; omega) }), (by have := i32_0; have := i32_1; have := i32_2; have := i32_m1; have : (sg_6 15).toInt = 0 := (by rw [up_at esg_6]; rfl); have := (hsx0_2).1; have := (hsx0_2).2; have := (hx1_2).1; have := (hx1_2).2; have := (hr_1).1; have := (hr_1).2; omega)⟩, by rw [ht]; exact hP, va_K.moved hW.alike hK, hD⟩, hS.F ht, by rw [ht]; exact hN⟩) hS.2.2 dX5_forgetMade_36)))
      · have d_7 : (x1_2 : Int32).toInt < (r_1 : Int32).toInt := Int32.lt_iff_toInt_lt.mp (i32_lt c_4)
        have h_8 : iv 0 79 x1_2 := iv_ltL (i32_lt c_4) hx1_2 hr_1 (by decide)
        have h_9 : iv 1 80 r_1 := iv_ltR (i32_lt c_4) hx1_2 hr_1 (by decide)
        refine ec_aload_n hx hb dX5_forgetMade_13 rfl (lv_at hl 1 rfl) ?_
        refine cr_get (t := 6) (j := 0) (C := RX5) (T := TX5) (N := 13) (v := eV (ad 4) 0) hx hb htb inX5 hown hK hP hsx0_2 (by decide) (by decide) (by decide) rfl (by decide) (htb _ kw_121) (cV_c rfl (by decide) (by rw [show cMu 6 0 = 0 from rfl, Nat.zero_mul]; rfl)) dX5_forgetMade_14 ?_
        refine lv_iload_n hx hb dX5_forgetMade_17 rfl (lv_at hl 0 rfl) ?_
        refine cm_callV (t := 4) (C := RX10) (T := TX10) (N := 4) (rest := []) (as := [.int x1_2]) ⟨hx, hb, hml, hown, htb⟩ (d_numbered l dC dI ad cid a2 lx sg gm_j2 lg 0 x1_2 hI_j2 (iv_k (by decide) : iv 0 0 0) h_8) (cwV 1 htb (gd_V kw_326 kw_327 kw_328 kw_32 kw_1414) rfl rfl rfl (by decide +kernel) ⟨Nat.le_of_ble_eq_true rfl, Nat.le_of_ble_eq_true rfl⟩) (iv_k (by decide) : iv 0 0 0) (by decide) (by decide) rfl rfl hl.1 rfl (Nat.le_trans cs_n (by decide)) dX5_forgetMade_18 ⟨Nat.le_of_ble_eq_true rfl, Nat.le_of_ble_eq_true rfl⟩ hK hP hD hS hA hG (fun E ce q9 u_11 H locs hw hP hD hS hce hcv hcl => ?_) (fun v9 u_11 H locs hw hP hD hS => ?_)
        · exact hw.elim
        obtain ⟨r_10, rfl, rfl, hr_10, fr_r_10⟩ := hw
        have hP : va_P (dC, dI) vwCl (cW ad cid a2 lx sg gm_j2 lg) H := hP
        have hD : va_D A (cW ad cid a2 lx sg gm_j2 lg) := hD
        refine W.eq (g2 := F0 m 21 ls [eV (ad 10) r_10]) rfl ?_
        refine lv_iconst (v := 0) hx hb dX5_forgetMade_21 (by decide) ?_
        refine cr_putg (t := 10) (j := 17) (C := RX1) (T := TX1) (N := 19) (ty0 := tyX1) (k := 38) (y := 0) hx hb htb inX1 tyX1_ok nmX1 hown hK hP hD hS hr_10 (by decide) (by decide) (by decide) (by decide) rfl rfl (by decide) (htb _ kw_320) rfl (by show Value.int 0 = Value.int (va_up gm_j2 38 (upd (gm_j2 38) r_10.toNatClampNeg 0) 38 r_10.toNatClampNeg); rw [va_up_self, upd_at]) (iv_nb (iv_w (iv_k (by decide) : iv 0 0 0) (by decide))) (iv_fb (iv_w (iv_k (by decide) : iv 0 0 0) (by decide))) dX5_forgetMade_22 (fun gm_13 H locs egm_13 hP hD hS => ?_)
        have hI_gm_13 := CI_st hI_j2 egm_13 (iv_k (by decide) : iv 0 0 0) (by decide)
        obtain ⟨z_14, ez_14⟩ : ∃ z : Int32, z = x1_2 + 1 := ⟨_, rfl⟩
        have hz_14 : iv 1 80 z_14 := iv_of ez_14 (iv_add h_8 (iv_k (by decide) : iv 1 1 1) (by decide))
        have tz_14 : z_14.toInt = x1_2.toInt + 1 := by rw [ez_14]; exact iv_addE h_8 (iv_k (by decide) : iv 1 1 1) (by decide)
        refine lv_iinc (v := z_14) (lv' := [(1, .int z_14), (0, eV (ad 6) x)]) hx hb dX5_forgetMade_25 hl (k := 0) rfl ez_14.symm (by decide) (by simp [List.filter, eV_cat, cat_i, cat_l]) (fun ls hl => ?_)
        refine lv_goto (tgt := 2) hx hb dX5_forgetMade_28 (by decide) ?_
        exact ih2 _ (by rw [← hn2]; exact (iv_meas tz_14 h_8 (by decide))) gm_13 z_14 rfl (iv_w hz_14 (by decide)) hsx0_2 (KS_up (KS_tr (L := [38]) KS_rf hkg_j2 (by decide)) egm_13 (by decide)) hI_gm_13 (fun j9 q9 => by { rw [show gm_13 38 = _ from up_at egm_13]; by_cases q8 : j9 = r_10.toNatClampNeg; { rw [q8, upd_at] }; { rw [upd_ne q8]; exact hall j9 (by have q1 : z_14.toNatClampNeg = z_14.toInt.toNat := rfl; have q2 : x1_2.toNatClampNeg = x1_2.toInt.toNat := rfl; rw [fr_r_10] at q8; have := i32_0; have := i32_1; have := i32_2; have := i32_m1; have := (hsx0_2).1; have := (hsx0_2).2; have := (h_8).1; have := (h_8).2; have := (h_9).1; have := (h_9).2; have := (hr_10).1; have := (hr_10).2; have := (hz_14).1; have := (hz_14).2; omega) } }) _ _ _ hP hD hS (lv_sub hl [0, 1] rfl)
  refine lv_iconst (v := 0) hx hb dX5_forgetMade_0 (by decide) ?_
  refine lv_istore_n (i := 1) (lv' := [(1, .int 0), (0, eV (ad 6) x)]) hx hb dX5_forgetMade_1 rfl hl (by decide) (by simp [List.filter, eV_cat, cat_i, cat_l]) (fun ls hl => ?_)
  exact hj2 _ gm 0 rfl (iv_w (iv_k (by decide) : iv 0 0 0) (by decide)) hvx KS_rf hI (fun _ q9 => absurd q9 (Nat.not_lt_zero _)) _ _ _ hP hD hS (lv_sub hl [0, 1] rfl)

set_option maxHeartbeats 4000000 in
set_option maxRecDepth 100000 in
theorem d_startAfresh (l : Launch) (dC : Nat → ClassId) (dI : Nat → Nat → Nat) (ad : Nat → Nat → Nat) (cid : Nat → ClassId) (a2 : Nat → Nat) (lx : List Nat) (sg : Nat → Int32) (gm : Nat → Nat → Int32) (lg : Nat → Nat → Int64) (x : Int32) (hI : CI sg gm) (hvx : iv 0 0 x) : CMt dC dI ad cid a2 lx l yX5_startAfresh wm_X5_startAfresh ({ frames := 2, cells := 1, slots := 6, locals := 42 }) [eV (ad 6) x] sg gm lg (fun v u => v = none ∧ ∃ (sg2 : Nat → Int32) (gm2 : Nat → Nat → Int32) (lg2 : Nat → Nat → Int64), u = (sg2, gm2, lg2) ∧ CI sg2 gm2 ∧ KS [13, 14, 15] sg sg2 ∧ KS [38] gm gm2 ∧ KS [] lg lg2 ∧ (∀ j9, j9 < (sg 12).toNatClampNeg → gm2 38 j9 = 0) ∧ ((sg2 15).toInt = 0) ∧ ((sg2 14).toInt = 0)) (fun _ _ => False) := by
  intro sz
  refine vx_ofW (cc := cX5_startAfresh) (maxL := 1) (ret := none) (by decide) rfl ?_
  intro p e s m args below meth c s₁ B hml hxt hv
  obtain ⟨rfl, hsz, hP, hK, hD0, hG⟩ := hv
  have hx := B.exec
  have hb := B.bytes
  have hr := B.returns
  have hts := atoms_spec (ws := wm_X5_startAfresh) B.pre
  have htb := fun (w : Cond) (h : w ∈ tb) => hts w (List.mem_cons_of_mem _ h)
  have hown : s.vm.findClass RX5 = some m.cls := findClass_of_methodNamed B.named
  have hlocks := B.notSynchronized
  subst hsz
  have hD := hD0.self (sz := s.heap.size)
  generalize hAe : va_A (cW ad cid a2 lx sg gm lg) s.heap.size = A at hD hG ⊢
  have hA : ∀ q : Nat, s.heap.size ≤ q → A q := fun q h => by rw [← hAe]; exact Or.inr h
  have hS : va_S A s.heap s.heap [] := va_S.rf
  have hl := lv_entry ([eV (ad 6) x]) (n := 1) (by rw [show (lg_sl ([eV (ad 6) x])).length = 1 from by simp [lg_sl, eV_cat, cat_i, cat_l]]; exact Nat.le_of_ble_eq_true rfl)
  rw [lg_entry_eq]
  generalize (lg_sl ([eV (ad 6) x]) ++ List.replicate (1 - (lg_sl ([eV (ad 6) x])).length) Slot.unset).toArray = ls at hl ⊢
  have hl : lv_has ls 1 [(0, eV (ad 6) x)] := by simp [lv_args, eV_cat, cat_i, cat_l] at hl; exact hl
  refine ec_aload_n hx hb dX5_startAfresh_0 rfl (lv_at hl 0 rfl) ?_
  refine lv_iconst (v := 0) hx hb dX5_startAfresh_1 (by decide) ?_
  refine cr_puts (t := 6) (j := 5) (C := RX5) (T := TX5) (N := 13) (ty0 := tyX5) (k := 14) (y := 0) hx hb htb inX5 tyX5_ok nmX5 hown hK hP hD hS hvx (by decide) (by decide) (by decide) (by decide) rfl rfl rfl (by decide) (htb _ kw_316) rfl (by show Value.int 0 = Value.int (va_up sg 14 0 14); rw [va_up_self]) rfl rfl dX5_startAfresh_2 (fun sg_1 H locs esg_1 hP hD hS => ?_)
  have hI_sg_1 := CI_put hI esg_1 (iv_k (by decide) : iv 0 0 0) (by decide)
  refine ec_aload_n hx hb dX5_startAfresh_5 rfl (lv_at hl 0 rfl) ?_
  refine cm_callV (t := 6) (C := RX5) (T := TX5) (N := 13) (rest := []) (as := []) ⟨hx, hb, hml, hown, htb⟩ (d_forgetMade l dC dI ad cid a2 lx sg_1 gm lg x hI_sg_1 hvx) (cwV 0 htb (gd_V kw_317 kw_318 kw_319 kw_40 kw_1412) rfl rfl rfl (by decide +kernel) ⟨Nat.le_of_ble_eq_true rfl, Nat.le_of_ble_eq_true rfl⟩) hvx (by decide) (by decide) rfl rfl hl.1 rfl (Nat.le_trans cs_n (by decide)) dX5_startAfresh_6 ⟨Nat.le_of_ble_eq_true rfl, Nat.le_of_ble_eq_true rfl⟩ hK hP hD hS hA hG (fun E ce q9 u_3 H locs hw hP hD hS hce hcv hcl => ?_) (fun v9 u_3 H locs hw hP hD hS => ?_)
  · exact hw.elim
  obtain ⟨rfl, sgv_4, gmv_4, lgv_4, rfl, hIv_4, ksv_4, kgv_4, klv_4, fM_r_2, f15_r_2⟩ := hw
  obtain rfl := KS_nil klv_4
  have hP : va_P (dC, dI) vwCl (cW ad cid a2 lx sgv_4 gmv_4 lg) H := hP
  have hD : va_D A (cW ad cid a2 lx sgv_4 gmv_4 lg) := hD
  refine W.eq (g2 := F0 m 9 ls []) rfl ?_
  refine ec_aload_n hx hb dX5_startAfresh_9 rfl (lv_at hl 0 rfl) ?_
  refine cr_get (t := 6) (j := 2) (C := RX5) (T := TX5) (N := 13) (v := eV (ad 5) 0) hx hb htb inX5 hown hK hP hvx (by decide) (by decide) (by decide) rfl (by decide) (htb _ kw_123) (cV_c rfl (by decide) (by rw [show cMu 6 2 = 0 from rfl, Nat.zero_mul]; rfl)) dX5_startAfresh_10 ?_
  refine cm_callV (t := 5) (C := RX4) (T := TX4) (N := 2) (rest := []) (as := []) ⟨hx, hb, hml, hown, htb⟩ (d_clearEv l dC dI ad cid a2 lx sgv_4 gmv_4 lg 0 hIv_4 (iv_k (by decide) : iv 0 0 0)) (cwV 0 htb (gd_V kw_329 kw_330 kw_331 kw_36 kw_1415) rfl rfl rfl (by decide +kernel) ⟨Nat.le_of_ble_eq_true rfl, Nat.le_of_ble_eq_true rfl⟩) (iv_k (by decide) : iv 0 0 0) (by decide) (by decide) rfl rfl hl.1 rfl (Nat.le_trans cs_n (by decide)) dX5_startAfresh_13 ⟨Nat.le_of_ble_eq_true rfl, Nat.le_of_ble_eq_true rfl⟩ hK hP hD hS hA hG (fun E ce q9 u_6 H locs hw hP hD hS hce hcv hcl => ?_) (fun v9 u_6 H locs hw hP hD hS => ?_)
  · exact hw.elim
  obtain ⟨rfl, sgv_7, gmv_7, lgv_7, rfl, hIv_7, ksv_7, kgv_7, klv_7⟩ := hw
  obtain rfl := KS_nil kgv_7
  obtain rfl := KS_nil klv_7
  have hP : va_P (dC, dI) vwCl (cW ad cid a2 lx sgv_7 gmv_4 lg) H := hP
  have hD : va_D A (cW ad cid a2 lx sgv_7 gmv_4 lg) := hD
  refine W.eq (g2 := F0 m 16 ls []) rfl ?_
  exact W.nb (fun hN => W.widen (k := 1) (n := 6) (by decide) (by decide) (vx_ret (W.vret hx hb hr (fun t ht hW => ⟨⟨none, (sgv_7, gmv_4, lg), rfl, ⟨rfl, sgv_7, gmv_4, lg, rfl, hIv_7, (KS_tr (L := [13, 14, 15]) (KS_tr (L := [13, 14, 15]) (KS_up KS_rf esg_1 (by decide)) ksv_4 (by decide)) ksv_7 (by decide)), (KS_tr (L := [38]) KS_rf kgv_4 (by decide)), KS_rf, (fun j9 q9 => by { rw [show gmv_4 38 = gmv_4 38 from rfl]; exact fM_r_2 j9 (by rw [show sg_1 12 = sg 12 from ((show KS [14] sg sg_1 from (KS_up KS_rf esg_1 (by decide))) 12 (by decide))]; exact q9) }), (by have := i32_0; have := i32_1; have := i32_2; have := i32_m1; have := congrArg Int32.toInt (show sgv_7 15 = sgv_4 15 from ksv_7 15 (by decide)); have := (show iv 0 80 (sgv_4 15) from CI_s hIv_4 15).1; have := (show iv 0 80 (sgv_4 15) from CI_s hIv_4 15).2; have := congrArg Int32.toInt (show sg_1 15 = sg 15 from up_ne esg_1 (by decide)); have := (show iv 0 80 (sg 15) from CI_s hI 15).1; have := (show iv 0 80 (sg 15) from CI_s hI 15).2; have := (hvx).1; have := (hvx).2; have := f15_r_2; omega), (by have := i32_0; have := i32_1; have := i32_2; have := i32_m1; have := congrArg Int32.toInt (show sgv_7 14 = sgv_4 14 from ksv_7 14 (by decide)); have := congrArg Int32.toInt (show sgv_4 14 = sg_1 14 from ksv_4 14 (by decide)); have : (sg_1 14).toInt = 0 := (by rw [up_at esg_1]; rfl); have := (hvx).1; have := (hvx).2; omega)⟩, by rw [ht]; exact hP, va_K.moved hW.alike hK, hD⟩, hS.F ht, by rw [ht]; exact hN⟩) hS.2.2 dX5_startAfresh_16)))

set_option maxHeartbeats 4000000 in
set_option maxRecDepth 100000 in
theorem d_forgetFailure (l : Launch) (dC : Nat → ClassId) (dI : Nat → Nat → Nat) (ad : Nat → Nat → Nat) (cid : Nat → ClassId) (a2 : Nat → Nat) (lx : List Nat) (sg : Nat → Int32) (gm : Nat → Nat → Int32) (lg : Nat → Nat → Int64) (x : Int32) (hI : CI sg gm) (hvx : iv 0 0 x) : CMt dC dI ad cid a2 lx l yX5_forgetFailure wm_X5_forgetFailure ({ frames := 0, cells := 1, slots := 6, locals := 0 }) [eV (ad 6) x] sg gm lg (fun v u => v = none ∧ ∃ (sg2 : Nat → Int32) (gm2 : Nat → Nat → Int32) (lg2 : Nat → Nat → Int64), u = (sg2, gm2, lg2) ∧ CI sg2 gm2 ∧ KS [17, 18] sg sg2 ∧ KS [] gm gm2 ∧ KS [] lg lg2) (fun _ _ => False) := by
  intro sz
  refine vx_ofW (cc := cX5_forgetFailure) (maxL := 1) (ret := none) (by decide) rfl ?_
  intro p e s m args below meth c s₁ B hml hxt hv
  obtain ⟨rfl, hsz, hP, hK, hD0, hG⟩ := hv
  have hx := B.exec
  have hb := B.bytes
  have hr := B.returns
  have hts := atoms_spec (ws := wm_X5_forgetFailure) B.pre
  have htb := fun (w : Cond) (h : w ∈ tb) => hts w (List.mem_cons_of_mem _ h)
  have hown : s.vm.findClass RX5 = some m.cls := findClass_of_methodNamed B.named
  have hlocks := B.notSynchronized
  subst hsz
  have hD := hD0.self (sz := s.heap.size)
  generalize hAe : va_A (cW ad cid a2 lx sg gm lg) s.heap.size = A at hD hG ⊢
  have hA : ∀ q : Nat, s.heap.size ≤ q → A q := fun q h => by rw [← hAe]; exact Or.inr h
  have hS : va_S A s.heap s.heap [] := va_S.rf
  have hl := lv_entry ([eV (ad 6) x]) (n := 1) (by rw [show (lg_sl ([eV (ad 6) x])).length = 1 from by simp [lg_sl, eV_cat, cat_i, cat_l]]; exact Nat.le_of_ble_eq_true rfl)
  rw [lg_entry_eq]
  generalize (lg_sl ([eV (ad 6) x]) ++ List.replicate (1 - (lg_sl ([eV (ad 6) x])).length) Slot.unset).toArray = ls at hl ⊢
  have hl : lv_has ls 1 [(0, eV (ad 6) x)] := by simp [lv_args, eV_cat, cat_i, cat_l] at hl; exact hl
  refine ec_aload_n hx hb dX5_forgetFailure_0 rfl (lv_at hl 0 rfl) ?_
  refine lv_iconst (v := 0) hx hb dX5_forgetFailure_1 (by decide) ?_
  refine cr_puts (t := 6) (j := 11) (C := RX5) (T := TX5) (N := 13) (ty0 := tyX5) (k := 17) (y := 0) hx hb htb inX5 tyX5_ok nmX5 hown hK hP hD hS hvx (by decide) (by decide) (by decide) (by decide) rfl rfl rfl (by decide) (htb _ kw_976) rfl (by show Value.int 0 = Value.int (va_up sg 17 0 17); rw [va_up_self]) rfl rfl dX5_forgetFailure_2 (fun sg_1 H locs esg_1 hP hD hS => ?_)
  have hI_sg_1 := CI_put hI esg_1 (iv_k (by decide) : iv 0 0 0) (by decide)
  refine ec_aload_n hx hb dX5_forgetFailure_5 rfl (lv_at hl 0 rfl) ?_
  refine lv_iconst (v := (-1)) hx hb dX5_forgetFailure_6 (by decide) ?_
  refine cr_puts (t := 6) (j := 12) (C := RX5) (T := TX5) (N := 13) (ty0 := tyX5) (k := 18) (y := (-1)) hx hb htb inX5 tyX5_ok nmX5 hown hK hP hD hS hvx (by decide) (by decide) (by decide) (by decide) rfl rfl rfl (by decide) (htb _ kw_130) rfl (by show Value.int (-1) = Value.int (va_up sg_1 18 (-1) 18); rw [va_up_self]) rfl rfl dX5_forgetFailure_7 (fun sg_2 H locs esg_2 hP hD hS => ?_)
  have hI_sg_2 := CI_put hI_sg_1 esg_2 (iv_k (by decide) : iv (-1) (-1) (-1)) (by decide)
  exact W.nb (fun hN => W.widen (k := 1) (n := 6) (by decide) (by decide) (vx_ret (W.vret hx hb hr (fun t ht hW => ⟨⟨none, (sg_2, gm, lg), rfl, ⟨rfl, sg_2, gm, lg, rfl, hI_sg_2, (KS_up (KS_up KS_rf esg_1 (by decide)) esg_2 (by decide)), KS_rf, KS_rf⟩, by rw [ht]; exact hP, va_K.moved hW.alike hK, hD⟩, hS.F ht, by rw [ht]; exact hN⟩) hS.2.2 dX5_forgetFailure_10)))

set_option maxHeartbeats 4000000 in
set_option maxRecDepth 100000 in
theorem d_failure (l : Launch) (dC : Nat → ClassId) (dI : Nat → Nat → Nat) (ad : Nat → Nat → Nat) (cid : Nat → ClassId) (a2 : Nat → Nat) (lx : List Nat) (sg : Nat → Int32) (gm : Nat → Nat → Int32) (lg : Nat → Nat → Int64) (x : Int32) (hI : CI sg gm) (hvx : iv 0 0 x) : CMt dC dI ad cid a2 lx l yX5_failure wm_X5_failure ({ frames := 0, cells := 1, slots := 6, locals := 0 }) [eV (ad 6) x] sg gm lg (fun v u => ∃ r : Int32, v = some (.int r) ∧ u = (sg, gm, lg) ∧ (iv 0 8 r)) (fun _ _ => False) := by
  intro sz
  refine vx_ofW (cc := cX5_failure) (maxL := 1) (ret := (some .int)) (by decide) rfl ?_
  intro p e s m args below meth c s₁ B hml hxt hv
  obtain ⟨rfl, hsz, hP, hK, hD0, hG⟩ := hv
  have hx := B.exec
  have hb := B.bytes
  have hr := B.returns
  have hts := atoms_spec (ws := wm_X5_failure) B.pre
  have htb := fun (w : Cond) (h : w ∈ tb) => hts w (List.mem_cons_of_mem _ h)
  have hown : s.vm.findClass RX5 = some m.cls := findClass_of_methodNamed B.named
  have hlocks := B.notSynchronized
  subst hsz
  have hD := hD0.self (sz := s.heap.size)
  generalize hAe : va_A (cW ad cid a2 lx sg gm lg) s.heap.size = A at hD hG ⊢
  have hA : ∀ q : Nat, s.heap.size ≤ q → A q := fun q h => by rw [← hAe]; exact Or.inr h
  have hS : va_S A s.heap s.heap [] := va_S.rf
  have hl := lv_entry ([eV (ad 6) x]) (n := 1) (by rw [show (lg_sl ([eV (ad 6) x])).length = 1 from by simp [lg_sl, eV_cat, cat_i, cat_l]]; exact Nat.le_of_ble_eq_true rfl)
  rw [lg_entry_eq]
  generalize (lg_sl ([eV (ad 6) x]) ++ List.replicate (1 - (lg_sl ([eV (ad 6) x])).length) Slot.unset).toArray = ls at hl ⊢
  have hl : lv_has ls 1 [(0, eV (ad 6) x)] := by simp [lv_args, eV_cat, cat_i, cat_l] at hl; exact hl
  refine ec_aload_n hx hb dX5_failure_0 rfl (lv_at hl 0 rfl) ?_
  refine cr_get (t := 6) (j := 11) (C := RX5) (T := TX5) (N := 13) (v := .int (sg 17)) hx hb htb inX5 hown hK hP hvx (by decide) (by decide) (by decide) rfl (by decide) (htb _ kw_976) rfl dX5_failure_1 ?_
  exact W.nb (fun hN => W.widen (k := 1) (n := 6) (by decide) (by decide) (vx_ret (W.iret (v := (sg 17)) hx hb hr (fun t ht hW => ⟨⟨some (.int (sg 17)), (sg, gm, lg), rfl, ⟨(sg 17), rfl, rfl, (show iv 0 8 (sg 17) from CI_s hI 17)⟩, by rw [ht]; exact hP, va_K.moved hW.alike hK, hD⟩, hS.F ht, by rw [ht]; exact hN⟩) hS.2.2 dX5_failure_4)))

set_option maxHeartbeats 4000000 in
set_option maxRecDepth 100000 in
theorem d_failureBean (l : Launch) (dC : Nat → ClassId) (dI : Nat → Nat → Nat) (ad : Nat → Nat → Nat) (cid : Nat → ClassId) (a2 : Nat → Nat) (lx : List Nat) (sg : Nat → Int32) (gm : Nat → Nat → Int32) (lg : Nat → Nat → Int64) (x : Int32) (hI : CI sg gm) (hvx : iv 0 0 x) : CMt dC dI ad cid a2 lx l yX5_failureBean wm_X5_failureBean ({ frames := 0, cells := 1, slots := 6, locals := 0 }) [eV (ad 6) x] sg gm lg (fun v u => ∃ r : Int32, v = some (.int r) ∧ u = (sg, gm, lg) ∧ (iv (-1) 79 r)) (fun _ _ => False) := by
  intro sz
  refine vx_ofW (cc := cX5_failureBean) (maxL := 1) (ret := (some .int)) (by decide) rfl ?_
  intro p e s m args below meth c s₁ B hml hxt hv
  obtain ⟨rfl, hsz, hP, hK, hD0, hG⟩ := hv
  have hx := B.exec
  have hb := B.bytes
  have hr := B.returns
  have hts := atoms_spec (ws := wm_X5_failureBean) B.pre
  have htb := fun (w : Cond) (h : w ∈ tb) => hts w (List.mem_cons_of_mem _ h)
  have hown : s.vm.findClass RX5 = some m.cls := findClass_of_methodNamed B.named
  have hlocks := B.notSynchronized
  subst hsz
  have hD := hD0.self (sz := s.heap.size)
  generalize hAe : va_A (cW ad cid a2 lx sg gm lg) s.heap.size = A at hD hG ⊢
  have hA : ∀ q : Nat, s.heap.size ≤ q → A q := fun q h => by rw [← hAe]; exact Or.inr h
  have hS : va_S A s.heap s.heap [] := va_S.rf
  have hl := lv_entry ([eV (ad 6) x]) (n := 1) (by rw [show (lg_sl ([eV (ad 6) x])).length = 1 from by simp [lg_sl, eV_cat, cat_i, cat_l]]; exact Nat.le_of_ble_eq_true rfl)
  rw [lg_entry_eq]
  generalize (lg_sl ([eV (ad 6) x]) ++ List.replicate (1 - (lg_sl ([eV (ad 6) x])).length) Slot.unset).toArray = ls at hl ⊢
  have hl : lv_has ls 1 [(0, eV (ad 6) x)] := by simp [lv_args, eV_cat, cat_i, cat_l] at hl; exact hl
  refine ec_aload_n hx hb dX5_failureBean_0 rfl (lv_at hl 0 rfl) ?_
  refine cr_get (t := 6) (j := 12) (C := RX5) (T := TX5) (N := 13) (v := .int (sg 18)) hx hb htb inX5 hown hK hP hvx (by decide) (by decide) (by decide) rfl (by decide) (htb _ kw_130) rfl dX5_failureBean_1 ?_
  exact W.nb (fun hN => W.widen (k := 1) (n := 6) (by decide) (by decide) (vx_ret (W.iret (v := (sg 18)) hx hb hr (fun t ht hW => ⟨⟨some (.int (sg 18)), (sg, gm, lg), rfl, ⟨(sg 18), rfl, rfl, (show iv (-1) 79 (sg 18) from CI_s hI 18)⟩, by rw [ht]; exact hP, va_K.moved hW.alike hK, hD⟩, hS.F ht, by rw [ht]; exact hN⟩) hS.2.2 dX5_failureBean_4)))

set_option maxHeartbeats 4000000 in
set_option maxRecDepth 100000 in
theorem d_objectCount (l : Launch) (dC : Nat → ClassId) (dI : Nat → Nat → Nat) (ad : Nat → Nat → Nat) (cid : Nat → ClassId) (a2 : Nat → Nat) (lx : List Nat) (sg : Nat → Int32) (gm : Nat → Nat → Int32) (lg : Nat → Nat → Int64) (x : Int32) (hI : CI sg gm) (hvx : iv 0 0 x) : CMt dC dI ad cid a2 lx l yX5_objectCount wm_X5_objectCount ({ frames := 0, cells := 1, slots := 6, locals := 0 }) [eV (ad 6) x] sg gm lg (fun v u => ∃ r : Int32, v = some (.int r) ∧ u = (sg, gm, lg) ∧ (iv 0 60 r)) (fun _ _ => False) := by
  intro sz
  refine vx_ofW (cc := cX5_objectCount) (maxL := 1) (ret := (some .int)) (by decide) rfl ?_
  intro p e s m args below meth c s₁ B hml hxt hv
  obtain ⟨rfl, hsz, hP, hK, hD0, hG⟩ := hv
  have hx := B.exec
  have hb := B.bytes
  have hr := B.returns
  have hts := atoms_spec (ws := wm_X5_objectCount) B.pre
  have htb := fun (w : Cond) (h : w ∈ tb) => hts w (List.mem_cons_of_mem _ h)
  have hown : s.vm.findClass RX5 = some m.cls := findClass_of_methodNamed B.named
  have hlocks := B.notSynchronized
  subst hsz
  have hD := hD0.self (sz := s.heap.size)
  generalize hAe : va_A (cW ad cid a2 lx sg gm lg) s.heap.size = A at hD hG ⊢
  have hA : ∀ q : Nat, s.heap.size ≤ q → A q := fun q h => by rw [← hAe]; exact Or.inr h
  have hS : va_S A s.heap s.heap [] := va_S.rf
  have hl := lv_entry ([eV (ad 6) x]) (n := 1) (by rw [show (lg_sl ([eV (ad 6) x])).length = 1 from by simp [lg_sl, eV_cat, cat_i, cat_l]]; exact Nat.le_of_ble_eq_true rfl)
  rw [lg_entry_eq]
  generalize (lg_sl ([eV (ad 6) x]) ++ List.replicate (1 - (lg_sl ([eV (ad 6) x])).length) Slot.unset).toArray = ls at hl ⊢
  have hl : lv_has ls 1 [(0, eV (ad 6) x)] := by simp [lv_args, eV_cat, cat_i, cat_l] at hl; exact hl
  refine ec_aload_n hx hb dX5_objectCount_0 rfl (lv_at hl 0 rfl) ?_
  refine cr_get (t := 6) (j := 5) (C := RX5) (T := TX5) (N := 13) (v := .int (sg 14)) hx hb htb inX5 hown hK hP hvx (by decide) (by decide) (by decide) rfl (by decide) (htb _ kw_316) rfl dX5_objectCount_1 ?_
  exact W.nb (fun hN => W.widen (k := 1) (n := 6) (by decide) (by decide) (vx_ret (W.iret (v := (sg 14)) hx hb hr (fun t ht hW => ⟨⟨some (.int (sg 14)), (sg, gm, lg), rfl, ⟨(sg 14), rfl, rfl, (show iv 0 60 (sg 14) from CI_s hI 14)⟩, by rw [ht]; exact hP, va_K.moved hW.alike hK, hD⟩, hS.F ht, by rw [ht]; exact hN⟩) hS.2.2 dX5_objectCount_4)))

set_option maxHeartbeats 4000000 in
set_option maxRecDepth 100000 in
theorem d_isObject (l : Launch) (dC : Nat → ClassId) (dI : Nat → Nat → Nat) (ad : Nat → Nat → Nat) (cid : Nat → ClassId) (a2 : Nat → Nat) (lx : List Nat) (sg : Nat → Int32) (gm : Nat → Nat → Int32) (lg : Nat → Nat → Int64) (x : Int32) (k : Int32) (hI : CI sg gm) (hvx : iv 0 0 x) : CMt dC dI ad cid a2 lx l yX5_isObject wm_X5_isObject ({ frames := 0, cells := 1, slots := 6, locals := 0 }) [eV (ad 6) x, .int k] sg gm lg (fun v u => ∃ r : Int32, v = some (.int r) ∧ u = (sg, gm, lg) ∧ (iv 0 1 r) ∧ (r.toInt = 0 ∨ iv 0 59 k)) (fun _ _ => False) := by
  intro sz
  refine vx_ofW (cc := cX5_isObject) (maxL := 2) (ret := (some .boolean)) (by decide) rfl ?_
  intro p e s m args below meth c s₁ B hml hxt hv
  obtain ⟨rfl, hsz, hP, hK, hD0, hG⟩ := hv
  have hx := B.exec
  have hb := B.bytes
  have hr := B.returns
  have hts := atoms_spec (ws := wm_X5_isObject) B.pre
  have htb := fun (w : Cond) (h : w ∈ tb) => hts w (List.mem_cons_of_mem _ h)
  have hown : s.vm.findClass RX5 = some m.cls := findClass_of_methodNamed B.named
  have hlocks := B.notSynchronized
  subst hsz
  have hD := hD0.self (sz := s.heap.size)
  generalize hAe : va_A (cW ad cid a2 lx sg gm lg) s.heap.size = A at hD hG ⊢
  have hA : ∀ q : Nat, s.heap.size ≤ q → A q := fun q h => by rw [← hAe]; exact Or.inr h
  have hS : va_S A s.heap s.heap [] := va_S.rf
  have hl := lv_entry ([eV (ad 6) x, .int k]) (n := 2) (by rw [show (lg_sl ([eV (ad 6) x, .int k])).length = 2 from by simp [lg_sl, eV_cat, cat_i, cat_l]]; exact Nat.le_of_ble_eq_true rfl)
  rw [lg_entry_eq]
  generalize (lg_sl ([eV (ad 6) x, .int k]) ++ List.replicate (2 - (lg_sl ([eV (ad 6) x, .int k])).length) Slot.unset).toArray = ls at hl ⊢
  have hl : lv_has ls 2 [(0, eV (ad 6) x), (1, .int k)] := by simp [lv_args, eV_cat, cat_i, cat_l] at hl; exact hl
  have hj17 : ∀ (y0_17 : Int32) (_ : iv 0 0 x) (_ : iv 0 1 y0_17) (_ : y0_17.toInt = 0 ∨ iv 0 59 k) (H : Heap) (locs : List Loc) (ls : Array Slot), va_P (dC, dI) vwCl (cW ad cid a2 lx sg gm lg) H → va_D A (cW ad cid a2 lx sg gm lg) → va_S A s.heap H locs → lv_has ls 2 [(0, eV (ad 6) x), (1, .int k)] → W p l e (headSpec wm_X5_isObject ({ frames := 0, cells := 1, slots := 6, locals := 0 })).room s m ([eV (ad 6) x, .int k] : List Value).toArray below meth c H locs 0 0 (vx_MQ below (cQx dC dI ad cid a2 lx (fun v u => ∃ r : Int32, v = some (.int r) ∧ u = (sg, gm, lg) ∧ (iv 0 1 r) ∧ (r.toInt = 0 ∨ iv 0 59 k)) A) (cX dC dI ad cid a2 lx (fun _ _ => False) A) ([eV (ad 6) x, .int k] : List Value).toArray s 1 6 A) (F0 m 17 ls [.int y0_17]) := by
    intro y0_17 hsx0_17 hy0_17 ho H locs ls hP hD hS hl
    exact W.nb (fun hN => W.widen (k := 1) (n := 6) (by decide) (by decide) (vx_ret (W.zret (v := y0_17) hx hb hr (iv_nb hy0_17) (fun t ht hW => ⟨⟨some (.int y0_17), (sg, gm, lg), rfl, ⟨y0_17, rfl, rfl, hy0_17, (ho)⟩, by rw [ht]; exact hP, va_K.moved hW.alike hK, hD⟩, hS.F ht, by rw [ht]; exact hN⟩) hS.2.2 dX5_isObject_17)))
  have hj16 : ∀ (_ : iv 0 0 x) (H : Heap) (locs : List Loc) (ls : Array Slot), va_P (dC, dI) vwCl (cW ad cid a2 lx sg gm lg) H → va_D A (cW ad cid a2 lx sg gm lg) → va_S A s.heap H locs → lv_has ls 2 [(0, eV (ad 6) x), (1, .int k)] → W p l e (headSpec wm_X5_isObject ({ frames := 0, cells := 1, slots := 6, locals := 0 })).room s m ([eV (ad 6) x, .int k] : List Value).toArray below meth c H locs 0 0 (vx_MQ below (cQx dC dI ad cid a2 lx (fun v u => ∃ r : Int32, v = some (.int r) ∧ u = (sg, gm, lg) ∧ (iv 0 1 r) ∧ (r.toInt = 0 ∨ iv 0 59 k)) A) (cX dC dI ad cid a2 lx (fun _ _ => False) A) ([eV (ad 6) x, .int k] : List Value).toArray s 1 6 A) (F0 m 16 ls []) := by
    intro  hsx0_16 H locs ls hP hD hS hl
    refine lv_iconst (v := 0) hx hb dX5_isObject_16 (by decide) ?_
    exact hj17 0 hsx0_16 (iv_w (iv_k (by decide) : iv 0 0 0) (by decide)) (Or.inl rfl) _ _ _ hP hD hS (lv_sub hl [0, 1] rfl)
  refine lv_iload_n hx hb dX5_isObject_0 rfl (lv_at hl 1 rfl) ?_
  refine lv_if_lt (tgt := 16) hx hb dX5_isObject_1 (by decide) (fun c_1 => ?_) (fun c_1 => ?_)
  · have h_2 : iv (-2147483648) (-1) k := iv_ltL c_1 (iv_all k) (iv_k (by decide) : iv 0 0 0) (by decide)
    exact hj16 hvx _ _ _ hP hD hS (lv_sub hl [0, 1] rfl)
  · have h_3 : iv 0 2147483647 k := iv_leR (i32_ge c_1) (iv_k (by decide) : iv 0 0 0) (iv_all k) (by decide)
    refine lv_iload_n hx hb dX5_isObject_4 rfl (lv_at hl 1 rfl) ?_
    refine ec_aload_n hx hb dX5_isObject_5 rfl (lv_at hl 0 rfl) ?_
    refine cr_get (t := 6) (j := 5) (C := RX5) (T := TX5) (N := 13) (v := .int (sg 14)) hx hb htb inX5 hown hK hP hvx (by decide) (by decide) (by decide) rfl (by decide) (htb _ kw_316) rfl dX5_isObject_6 ?_
    refine lv_icmp_ge (tgt := 16) hx hb dX5_isObject_9 (by decide) (fun c_4 => ?_) (fun c_4 => ?_)
    · have d_5 : ((sg 14) : Int32).toInt ≤ (k : Int32).toInt := Int32.le_iff_toInt_le.mp c_4
      exact hj16 hvx _ _ _ hP hD hS (lv_sub hl [0, 1] rfl)
    · have d_6 : (k : Int32).toInt < ((sg 14) : Int32).toInt := Int32.lt_iff_toInt_lt.mp (i32_lt c_4)
      have h_7 : iv 0 59 k := iv_ltL (i32_lt c_4) h_3 (show iv 0 60 (sg 14) from CI_s hI 14) (by decide)
      have h_8 : iv 1 60 (sg 14) := iv_ltR (i32_lt c_4) h_3 (show iv 0 60 (sg 14) from CI_s hI 14) (by decide)
      refine lv_iconst (v := 1) hx hb dX5_isObject_12 (by decide) ?_
      refine lv_goto (tgt := 17) hx hb dX5_isObject_13 (by decide) ?_
      exact hj17 1 hvx (iv_w (iv_k (by decide) : iv 1 1 1) (by decide)) (Or.inr ⟨by have := i32_0; have := i32_1; have := i32_2; have := i32_m1; have := (show iv 0 60 (sg 14) from CI_s hI 14).1; have := (show iv 0 60 (sg 14) from CI_s hI 14).2; have := (hvx).1; have := (hvx).2; have := (h_7).1; have := (h_7).2; have := (h_8).1; have := (h_8).2; omega, by have := i32_0; have := i32_1; have := i32_2; have := i32_m1; have := (show iv 0 60 (sg 14) from CI_s hI 14).1; have := (show iv 0 60 (sg 14) from CI_s hI 14).2; have := (hvx).1; have := (hvx).2; have := (h_7).1; have := (h_7).2; have := (h_8).1; have := (h_8).2; omega⟩) _ _ _ hP hD hS (lv_sub hl [0, 1] rfl)

set_option maxHeartbeats 4000000 in
set_option maxRecDepth 100000 in
theorem d_classOfObject (l : Launch) (dC : Nat → ClassId) (dI : Nat → Nat → Nat) (ad : Nat → Nat → Nat) (cid : Nat → ClassId) (a2 : Nat → Nat) (lx : List Nat) (sg : Nat → Int32) (gm : Nat → Nat → Int32) (lg : Nat → Nat → Int64) (x : Int32) (k : Int32) (hI : CI sg gm) (hvx : iv 0 0 x) : CMt dC dI ad cid a2 lx l yX5_classOfObject wm_X5_classOfObject ({ frames := 1, cells := 1, slots := 6, locals := 21 }) [eV (ad 6) x, .int k] sg gm lg (fun v u => ∃ r : Int32, v = some (.int r) ∧ u = (sg, gm, lg) ∧ (iv (-1) 7 r)) (fun _ _ => False) := by
  intro sz
  refine vx_ofW (cc := cX5_classOfObject) (maxL := 2) (ret := (some .int)) (by decide) rfl ?_
  intro p e s m args below meth c s₁ B hml hxt hv
  obtain ⟨rfl, hsz, hP, hK, hD0, hG⟩ := hv
  have hx := B.exec
  have hb := B.bytes
  have hr := B.returns
  have hts := atoms_spec (ws := wm_X5_classOfObject) B.pre
  have htb := fun (w : Cond) (h : w ∈ tb) => hts w (List.mem_cons_of_mem _ h)
  have hown : s.vm.findClass RX5 = some m.cls := findClass_of_methodNamed B.named
  have hlocks := B.notSynchronized
  subst hsz
  have hD := hD0.self (sz := s.heap.size)
  generalize hAe : va_A (cW ad cid a2 lx sg gm lg) s.heap.size = A at hD hG ⊢
  have hA : ∀ q : Nat, s.heap.size ≤ q → A q := fun q h => by rw [← hAe]; exact Or.inr h
  have hS : va_S A s.heap s.heap [] := va_S.rf
  have hl := lv_entry ([eV (ad 6) x, .int k]) (n := 2) (by rw [show (lg_sl ([eV (ad 6) x, .int k])).length = 2 from by simp [lg_sl, eV_cat, cat_i, cat_l]]; exact Nat.le_of_ble_eq_true rfl)
  rw [lg_entry_eq]
  generalize (lg_sl ([eV (ad 6) x, .int k]) ++ List.replicate (2 - (lg_sl ([eV (ad 6) x, .int k])).length) Slot.unset).toArray = ls at hl ⊢
  have hl : lv_has ls 2 [(0, eV (ad 6) x), (1, .int k)] := by simp [lv_args, eV_cat, cat_i, cat_l] at hl; exact hl
  have hj18 : ∀ (y0_18 : Int32) (_ : iv 0 0 x) (_ : iv (-1) 7 y0_18) (H : Heap) (locs : List Loc) (ls : Array Slot), va_P (dC, dI) vwCl (cW ad cid a2 lx sg gm lg) H → va_D A (cW ad cid a2 lx sg gm lg) → va_S A s.heap H locs → lv_has ls 2 [(0, eV (ad 6) x), (1, .int k)] → W p l e (headSpec wm_X5_classOfObject ({ frames := 1, cells := 1, slots := 6, locals := 21 })).room s m ([eV (ad 6) x, .int k] : List Value).toArray below meth c H locs 0 0 (vx_MQ below (cQx dC dI ad cid a2 lx (fun v u => ∃ r : Int32, v = some (.int r) ∧ u = (sg, gm, lg) ∧ (iv (-1) 7 r)) A) (cX dC dI ad cid a2 lx (fun _ _ => False) A) ([eV (ad 6) x, .int k] : List Value).toArray s 1 6 A) (F0 m 18 ls [.int y0_18]) := by
    intro y0_18 hsx0_18 hy0_18 H locs ls hP hD hS hl
    exact W.nb (fun hN => W.widen (k := 1) (n := 6) (by decide) (by decide) (vx_ret (W.iret (v := y0_18) hx hb hr (fun t ht hW => ⟨⟨some (.int y0_18), (sg, gm, lg), rfl, ⟨y0_18, rfl, rfl, hy0_18⟩, by rw [ht]; exact hP, va_K.moved hW.alike hK, hD⟩, hS.F ht, by rw [ht]; exact hN⟩) hS.2.2 dX5_classOfObject_18)))
  refine ec_aload_n hx hb dX5_classOfObject_0 rfl (lv_at hl 0 rfl) ?_
  refine lv_iload_n hx hb dX5_classOfObject_1 rfl (lv_at hl 1 rfl) ?_
  refine cm_callV (t := 6) (C := RX5) (T := TX5) (N := 13) (rest := []) (as := [.int k]) ⟨hx, hb, hml, hown, htb⟩ (d_isObject l dC dI ad cid a2 lx sg gm lg x k hI hvx) (cwV 1 htb (gd_V kw_1294 kw_1295 kw_1296 kw_40 kw_1646) rfl rfl rfl (by decide +kernel) ⟨Nat.le_of_ble_eq_true rfl, Nat.le_of_ble_eq_true rfl⟩) hvx (by decide) (by decide) rfl rfl hl.1 rfl (Nat.le_trans cs_n (by decide)) dX5_classOfObject_2 ⟨Nat.le_of_ble_eq_true rfl, Nat.le_of_ble_eq_true rfl⟩ hK hP hD hS hA hG (fun E ce q9 u_2 H locs hw hP hD hS hce hcv hcl => ?_) (fun v9 u_2 H locs hw hP hD hS => ?_)
  · exact hw.elim
  obtain ⟨r_1, rfl, rfl, hr_1, fo_r_1⟩ := hw
  have hP : va_P (dC, dI) vwCl (cW ad cid a2 lx sg gm lg) H := hP
  have hD : va_D A (cW ad cid a2 lx sg gm lg) := hD
  refine W.eq (g2 := F0 m 5 ls [.int r_1]) rfl ?_
  refine lv_if_eq (tgt := 17) hx hb dX5_classOfObject_5 (by decide) (fun c_4 => ?_) (fun c_4 => ?_)
  · have h_5 : iv 0 0 r_1 := iv_eq c_4 hr_1 (iv_k (by decide) : iv 0 0 0) (by decide)
    refine lv_iconst (v := (-1)) hx hb dX5_classOfObject_17 (by decide) ?_
    exact hj18 (-1) hvx (iv_w (iv_k (by decide) : iv (-1) (-1) (-1)) (by decide)) _ _ _ hP hD hS (lv_sub hl [0, 1] rfl)
  · have h_6 : iv 1 1 r_1 := iv_neL c_4 hr_1 (by decide)
    have h59 := fo_r_1.resolve_left (by have := i32_0; have := i32_1; have := i32_2; have := i32_m1; have := (hvx).1; have := (hvx).2; have := (h_6).1; have := (h_6).2; omega)
    refine ec_aload_n hx hb dX5_classOfObject_8 rfl (lv_at hl 0 rfl) ?_
    refine cr_get (t := 6) (j := 3) (C := RX5) (T := TX5) (N := 13) (v := eV (ad 22) 0) hx hb htb inX5 hown hK hP hvx (by decide) (by decide) (by decide) rfl (by decide) (htb _ kw_124) (cV_c rfl (by decide) (by rw [show cMu 6 3 = 0 from rfl, Nat.zero_mul]; rfl)) dX5_classOfObject_9 ?_
    refine lv_iload_n hx hb dX5_classOfObject_12 rfl (lv_at hl 1 rfl) ?_
    refine cr_iald (t := 22) (z := (gm 49 (k : Int32).toNatClampNeg)) hx hb hK hP (iv_k (by decide) : iv 0 0 0) (by decide) (by decide) (by decide) rfl rfl (show vp_in k (cLen 22) from (show vp_in k 60 from (iv_in h59 (by decide)))) rfl dX5_classOfObject_13 ?_
    obtain ⟨z_7, ez_7⟩ : ∃ z : Int32, z = (gm 49 (k : Int32).toNatClampNeg) := ⟨_, rfl⟩
    refine W.eq (g2 := F0 m 14 ls [.int z_7]) (by rw [ez_7]) ?_
    have hz_7 : iv 0 7 z_7 := iv_of ez_7 (CI_a hI 49 h59 (by decide))
    refine lv_goto (tgt := 18) hx hb dX5_classOfObject_14 (by decide) ?_
    exact hj18 z_7 hvx (iv_w hz_7 (by decide)) _ _ _ hP hD hS (lv_sub hl [0, 1] rfl)

set_option maxHeartbeats 4000000 in
set_option maxRecDepth 100000 in
theorem d_beanOfObject (l : Launch) (dC : Nat → ClassId) (dI : Nat → Nat → Nat) (ad : Nat → Nat → Nat) (cid : Nat → ClassId) (a2 : Nat → Nat) (lx : List Nat) (sg : Nat → Int32) (gm : Nat → Nat → Int32) (lg : Nat → Nat → Int64) (x : Int32) (k : Int32) (hI : CI sg gm) (hvx : iv 0 0 x) : CMt dC dI ad cid a2 lx l yX5_beanOfObject wm_X5_beanOfObject ({ frames := 1, cells := 1, slots := 6, locals := 21 }) [eV (ad 6) x, .int k] sg gm lg (fun v u => ∃ r : Int32, v = some (.int r) ∧ u = (sg, gm, lg) ∧ (iv (-1) 79 r)) (fun _ _ => False) := by
  intro sz
  refine vx_ofW (cc := cX5_beanOfObject) (maxL := 2) (ret := (some .int)) (by decide) rfl ?_
  intro p e s m args below meth c s₁ B hml hxt hv
  obtain ⟨rfl, hsz, hP, hK, hD0, hG⟩ := hv
  have hx := B.exec
  have hb := B.bytes
  have hr := B.returns
  have hts := atoms_spec (ws := wm_X5_beanOfObject) B.pre
  have htb := fun (w : Cond) (h : w ∈ tb) => hts w (List.mem_cons_of_mem _ h)
  have hown : s.vm.findClass RX5 = some m.cls := findClass_of_methodNamed B.named
  have hlocks := B.notSynchronized
  subst hsz
  have hD := hD0.self (sz := s.heap.size)
  generalize hAe : va_A (cW ad cid a2 lx sg gm lg) s.heap.size = A at hD hG ⊢
  have hA : ∀ q : Nat, s.heap.size ≤ q → A q := fun q h => by rw [← hAe]; exact Or.inr h
  have hS : va_S A s.heap s.heap [] := va_S.rf
  have hl := lv_entry ([eV (ad 6) x, .int k]) (n := 2) (by rw [show (lg_sl ([eV (ad 6) x, .int k])).length = 2 from by simp [lg_sl, eV_cat, cat_i, cat_l]]; exact Nat.le_of_ble_eq_true rfl)
  rw [lg_entry_eq]
  generalize (lg_sl ([eV (ad 6) x, .int k]) ++ List.replicate (2 - (lg_sl ([eV (ad 6) x, .int k])).length) Slot.unset).toArray = ls at hl ⊢
  have hl : lv_has ls 2 [(0, eV (ad 6) x), (1, .int k)] := by simp [lv_args, eV_cat, cat_i, cat_l] at hl; exact hl
  have hj18 : ∀ (y0_18 : Int32) (_ : iv 0 0 x) (_ : iv (-1) 79 y0_18) (H : Heap) (locs : List Loc) (ls : Array Slot), va_P (dC, dI) vwCl (cW ad cid a2 lx sg gm lg) H → va_D A (cW ad cid a2 lx sg gm lg) → va_S A s.heap H locs → lv_has ls 2 [(0, eV (ad 6) x), (1, .int k)] → W p l e (headSpec wm_X5_beanOfObject ({ frames := 1, cells := 1, slots := 6, locals := 21 })).room s m ([eV (ad 6) x, .int k] : List Value).toArray below meth c H locs 0 0 (vx_MQ below (cQx dC dI ad cid a2 lx (fun v u => ∃ r : Int32, v = some (.int r) ∧ u = (sg, gm, lg) ∧ (iv (-1) 79 r)) A) (cX dC dI ad cid a2 lx (fun _ _ => False) A) ([eV (ad 6) x, .int k] : List Value).toArray s 1 6 A) (F0 m 18 ls [.int y0_18]) := by
    intro y0_18 hsx0_18 hy0_18 H locs ls hP hD hS hl
    exact W.nb (fun hN => W.widen (k := 1) (n := 6) (by decide) (by decide) (vx_ret (W.iret (v := y0_18) hx hb hr (fun t ht hW => ⟨⟨some (.int y0_18), (sg, gm, lg), rfl, ⟨y0_18, rfl, rfl, hy0_18⟩, by rw [ht]; exact hP, va_K.moved hW.alike hK, hD⟩, hS.F ht, by rw [ht]; exact hN⟩) hS.2.2 dX5_beanOfObject_18)))
  refine ec_aload_n hx hb dX5_beanOfObject_0 rfl (lv_at hl 0 rfl) ?_
  refine lv_iload_n hx hb dX5_beanOfObject_1 rfl (lv_at hl 1 rfl) ?_
  refine cm_callV (t := 6) (C := RX5) (T := TX5) (N := 13) (rest := []) (as := [.int k]) ⟨hx, hb, hml, hown, htb⟩ (d_isObject l dC dI ad cid a2 lx sg gm lg x k hI hvx) (cwV 1 htb (gd_V kw_1294 kw_1295 kw_1296 kw_40 kw_1646) rfl rfl rfl (by decide +kernel) ⟨Nat.le_of_ble_eq_true rfl, Nat.le_of_ble_eq_true rfl⟩) hvx (by decide) (by decide) rfl rfl hl.1 rfl (Nat.le_trans cs_n (by decide)) dX5_beanOfObject_2 ⟨Nat.le_of_ble_eq_true rfl, Nat.le_of_ble_eq_true rfl⟩ hK hP hD hS hA hG (fun E ce q9 u_2 H locs hw hP hD hS hce hcv hcl => ?_) (fun v9 u_2 H locs hw hP hD hS => ?_)
  · exact hw.elim
  obtain ⟨r_1, rfl, rfl, hr_1, fo_r_1⟩ := hw
  have hP : va_P (dC, dI) vwCl (cW ad cid a2 lx sg gm lg) H := hP
  have hD : va_D A (cW ad cid a2 lx sg gm lg) := hD
  refine W.eq (g2 := F0 m 5 ls [.int r_1]) rfl ?_
  refine lv_if_eq (tgt := 17) hx hb dX5_beanOfObject_5 (by decide) (fun c_4 => ?_) (fun c_4 => ?_)
  · have h_5 : iv 0 0 r_1 := iv_eq c_4 hr_1 (iv_k (by decide) : iv 0 0 0) (by decide)
    refine lv_iconst (v := (-1)) hx hb dX5_beanOfObject_17 (by decide) ?_
    exact hj18 (-1) hvx (iv_w (iv_k (by decide) : iv (-1) (-1) (-1)) (by decide)) _ _ _ hP hD hS (lv_sub hl [0, 1] rfl)
  · have h_6 : iv 1 1 r_1 := iv_neL c_4 hr_1 (by decide)
    have h59 := fo_r_1.resolve_left (by have := i32_0; have := i32_1; have := i32_2; have := i32_m1; have := (hvx).1; have := (hvx).2; have := (h_6).1; have := (h_6).2; omega)
    refine ec_aload_n hx hb dX5_beanOfObject_8 rfl (lv_at hl 0 rfl) ?_
    refine cr_get (t := 6) (j := 4) (C := RX5) (T := TX5) (N := 13) (v := eV (ad 23) 0) hx hb htb inX5 hown hK hP hvx (by decide) (by decide) (by decide) rfl (by decide) (htb _ kw_125) (cV_c rfl (by decide) (by rw [show cMu 6 4 = 0 from rfl, Nat.zero_mul]; rfl)) dX5_beanOfObject_9 ?_
    refine lv_iload_n hx hb dX5_beanOfObject_12 rfl (lv_at hl 1 rfl) ?_
    refine cr_iald (t := 23) (z := (gm 50 (k : Int32).toNatClampNeg)) hx hb hK hP (iv_k (by decide) : iv 0 0 0) (by decide) (by decide) (by decide) rfl rfl (show vp_in k (cLen 23) from (show vp_in k 60 from (iv_in h59 (by decide)))) rfl dX5_beanOfObject_13 ?_
    obtain ⟨z_7, ez_7⟩ : ∃ z : Int32, z = (gm 50 (k : Int32).toNatClampNeg) := ⟨_, rfl⟩
    refine W.eq (g2 := F0 m 14 ls [.int z_7]) (by rw [ez_7]) ?_
    have hz_7 : iv 0 79 z_7 := iv_of ez_7 (CI_a hI 50 h59 (by decide))
    refine lv_goto (tgt := 18) hx hb dX5_beanOfObject_14 (by decide) ?_
    exact hj18 z_7 hvx (iv_w hz_7 (by decide)) _ _ _ hP hD hS (lv_sub hl [0, 1] rfl)

set_option maxHeartbeats 4000000 in
set_option maxRecDepth 100000 in
theorem d_slot (l : Launch) (dC : Nat → ClassId) (dI : Nat → Nat → Nat) (ad : Nat → Nat → Nat) (cid : Nat → ClassId) (a2 : Nat → Nat) (lx : List Nat) (sg : Nat → Int32) (gm : Nat → Nat → Int32) (lg : Nat → Nat → Int64) (dp : Int32) (a : Int32) (hI : CI sg gm) (hvdp : iv 0 39 dp) (hva : iv 0 3 a) : CMt dC dI ad cid a2 lx l yX5_slot wm_X5_slot ({ frames := 0, cells := 1, slots := 6, locals := 0 }) [.int dp, .int a] sg gm lg (fun v u => ∃ r : Int32, v = some (.int r) ∧ u = (sg, gm, lg) ∧ (iv 0 954 r) ∧ (r.toInt = 24 * dp.toInt + 6 * a.toInt)) (fun _ _ => False) := by
  intro sz
  refine vx_ofW (cc := cX5_slot) (maxL := 2) (ret := (some .int)) (by decide) rfl ?_
  intro p e s m args below meth c s₁ B hml hxt hv
  obtain ⟨rfl, hsz, hP, hK, hD0, hG⟩ := hv
  have hx := B.exec
  have hb := B.bytes
  have hr := B.returns
  have hts := atoms_spec (ws := wm_X5_slot) B.pre
  have htb := fun (w : Cond) (h : w ∈ tb) => hts w (List.mem_cons_of_mem _ h)
  have hown : s.vm.findClass RX5 = some m.cls := findClass_of_methodNamed B.named
  have hlocks := B.notSynchronized
  subst hsz
  have hD := hD0.self (sz := s.heap.size)
  generalize hAe : va_A (cW ad cid a2 lx sg gm lg) s.heap.size = A at hD hG ⊢
  have hA : ∀ q : Nat, s.heap.size ≤ q → A q := fun q h => by rw [← hAe]; exact Or.inr h
  have hS : va_S A s.heap s.heap [] := va_S.rf
  have hl := lv_entry ([.int dp, .int a]) (n := 2) (Nat.le_of_ble_eq_true rfl)
  rw [lg_entry_eq]
  generalize (lg_sl ([.int dp, .int a]) ++ List.replicate (2 - (lg_sl ([.int dp, .int a])).length) Slot.unset).toArray = ls at hl ⊢
  have hl : lv_has ls 2 [(0, .int dp), (1, .int a)] := hl
  refine lv_iload_n hx hb dX5_slot_0 rfl (lv_at hl 0 rfl) ?_
  refine lv_bipush (v := 24) hx hb dX5_slot_1 (by decide) ?_
  refine lv_imul hx hb dX5_slot_3 ?_
  refine lv_topi (fun z_1 ez_1 => ?_)
  have hz_1 : iv 0 936 z_1 := iv_of ez_1 (iv_mul hvdp (iv_k (by decide) : iv 24 24 24) (by decide))
  have tz_1 : z_1.toInt = (dp : Int32).toInt * 24 := by rw [ez_1]; exact iv_mulE hvdp (iv_k (by decide) : iv 24 24 24) (by decide)
  refine lv_iload_n hx hb dX5_slot_4 rfl (lv_at hl 1 rfl) ?_
  refine lv_bipush (v := 6) hx hb dX5_slot_5 (by decide) ?_
  refine lv_imul hx hb dX5_slot_7 ?_
  refine lv_topi (fun z_2 ez_2 => ?_)
  have hz_2 : iv 0 18 z_2 := iv_of ez_2 (iv_mul hva (iv_k (by decide) : iv 6 6 6) (by decide))
  have tz_2 : z_2.toInt = (a : Int32).toInt * 6 := by rw [ez_2]; exact iv_mulE hva (iv_k (by decide) : iv 6 6 6) (by decide)
  refine lv_iadd hx hb dX5_slot_8 ?_
  refine lv_topi (fun z_3 ez_3 => ?_)
  have hz_3 : iv 0 954 z_3 := iv_of ez_3 (iv_add hz_1 hz_2 (by decide))
  have tz_3 : z_3.toInt = (z_1 : Int32).toInt + (z_2 : Int32).toInt := by rw [ez_3]; exact iv_addE hz_1 hz_2 (by decide)
  exact W.nb (fun hN => W.widen (k := 1) (n := 6) (by decide) (by decide) (vx_ret (W.iret (v := z_3) hx hb hr (fun t ht hW => ⟨⟨some (.int z_3), (sg, gm, lg), rfl, ⟨z_3, rfl, rfl, hz_3, (by have := i32_0; have := i32_1; have := i32_2; have := i32_m1; have := (hvdp).1; have := (hvdp).2; have := (hva).1; have := (hva).2; have := (hz_1).1; have := (hz_1).2; have := (hz_2).1; have := (hz_2).2; have := (hz_3).1; have := (hz_3).2; omega)⟩, by rw [ht]; exact hP, va_K.moved hW.alike hK, hD⟩, hS.F ht, by rw [ht]; exact hN⟩) hS.2.2 dX5_slot_9)))

set_option maxHeartbeats 4000000 in
set_option maxRecDepth 100000 in
theorem d_failWith (l : Launch) (dC : Nat → ClassId) (dI : Nat → Nat → Nat) (ad : Nat → Nat → Nat) (cid : Nat → ClassId) (a2 : Nat → Nat) (lx : List Nat) (sg : Nat → Int32) (gm : Nat → Nat → Int32) (lg : Nat → Nat → Int64) (hl9 : l.stackTraces = false) (x : Int32) (n : Int32) (hI : CI sg gm) (hvx : iv 0 0 x) (hvn : iv 0 8 n) : CMt dC dI ad cid a2 lx l yX5_failWith wm_X5_failWith ({ frames := 6, cells := 1, slots := 6, locals := 120 }) [eV (ad 6) x, .int n] sg gm lg (fun v u => ∃ r : Int32, v = some (.int r) ∧ ∃ (sg2 : Nat → Int32) (gm2 : Nat → Nat → Int32) (lg2 : Nat → Nat → Int64), u = (sg2, gm2, lg2) ∧ CI sg2 gm2 ∧ KS [17, 18] sg sg2 ∧ KS [] gm gm2 ∧ KS [] lg lg2 ∧ (False)) (fun E u => (E = "java/lang/UnsupportedOperationException") ∧ ∃ (sg2 : Nat → Int32) (gm2 : Nat → Nat → Int32) (lg2 : Nat → Nat → Int64), u = (sg2, gm2, lg2) ∧ CI sg2 gm2 ∧ KS [17, 18] sg sg2 ∧ KS [] gm gm2 ∧ KS [] lg lg2) := by
  intro sz
  refine vx_ofW (cc := cX5_failWith) (maxL := 2) (ret := (some .int)) (by decide) rfl ?_
  intro p e s m args below meth c s₁ B hml hxt hv
  obtain ⟨rfl, hsz, hP, hK, hD0, hG⟩ := hv
  have hx := B.exec
  have hb := B.bytes
  have hr := B.returns
  have hts := atoms_spec (ws := wm_X5_failWith) B.pre
  have htb := fun (w : Cond) (h : w ∈ tb) => hts w (List.mem_cons_of_mem _ h)
  have hown : s.vm.findClass RX5 = some m.cls := findClass_of_methodNamed B.named
  have hlocks := B.notSynchronized
  subst hsz
  have hD := hD0.self (sz := s.heap.size)
  generalize hAe : va_A (cW ad cid a2 lx sg gm lg) s.heap.size = A at hD hG ⊢
  have hA : ∀ q : Nat, s.heap.size ≤ q → A q := fun q h => by rw [← hAe]; exact Or.inr h
  have hS : va_S A s.heap s.heap [] := va_S.rf
  have hl := lv_entry ([eV (ad 6) x, .int n]) (n := 2) (by rw [show (lg_sl ([eV (ad 6) x, .int n])).length = 2 from by simp [lg_sl, eV_cat, cat_i, cat_l]]; exact Nat.le_of_ble_eq_true rfl)
  rw [lg_entry_eq]
  generalize (lg_sl ([eV (ad 6) x, .int n]) ++ List.replicate (2 - (lg_sl ([eV (ad 6) x, .int n])).length) Slot.unset).toArray = ls at hl ⊢
  have hl : lv_has ls 2 [(0, eV (ad 6) x), (1, .int n)] := by simp [lv_args, eV_cat, cat_i, cat_l] at hl; exact hl
  have hj24 : ∀ (sg_j24 : Nat → Int32) (y0_24 : Int32) (_ : iv 0 0 x) (_ : iv 0 8 n) (_ : iv (-1) 79 y0_24) (_ : iv 0 0 x) (_ : KS [17] sg sg_j24) (_ : CI sg_j24 gm) (H : Heap) (locs : List Loc) (ls : Array Slot), va_P (dC, dI) vwCl (cW ad cid a2 lx sg_j24 gm lg) H → va_D A (cW ad cid a2 lx sg_j24 gm lg) → va_S A s.heap H locs → lv_has ls 2 [(0, eV (ad 6) x), (1, .int n)] → W p l e (headSpec wm_X5_failWith ({ frames := 6, cells := 1, slots := 6, locals := 120 })).room s m ([eV (ad 6) x, .int n] : List Value).toArray below meth c H locs 0 0 (vx_MQ below (cQx dC dI ad cid a2 lx (fun v u => ∃ r : Int32, v = some (.int r) ∧ ∃ (sg2 : Nat → Int32) (gm2 : Nat → Nat → Int32) (lg2 : Nat → Nat → Int64), u = (sg2, gm2, lg2) ∧ CI sg2 gm2 ∧ KS [17, 18] sg sg2 ∧ KS [] gm gm2 ∧ KS [] lg lg2 ∧ (False)) A) (cX dC dI ad cid a2 lx (fun E u => (E = "java/lang/UnsupportedOperationException") ∧ ∃ (sg2 : Nat → Int32) (gm2 : Nat → Nat → Int32) (lg2 : Nat → Nat → Int64), u = (sg2, gm2, lg2) ∧ CI sg2 gm2 ∧ KS [17, 18] sg sg2 ∧ KS [] gm gm2 ∧ KS [] lg lg2) A) ([eV (ad 6) x, .int n] : List Value).toArray s 1 6 A) (F0 m 24 ls [.int y0_24, eV (ad 6) x]) := by
    intro sg_j24 y0_24 hsx0_24 hsx1_24 hy0_24 hsy1_24 hks_j24 hI_j24 H locs ls hP hD hS hl
    refine cr_puts (t := 6) (j := 12) (C := RX5) (T := TX5) (N := 13) (ty0 := tyX5) (k := 18) (y := y0_24) hx hb htb inX5 tyX5_ok nmX5 hown hK hP hD hS hsy1_24 (by decide) (by decide) (by decide) (by decide) rfl rfl rfl (by decide) (htb _ kw_130) rfl (by show Value.int y0_24 = Value.int (va_up sg_j24 18 y0_24 18); rw [va_up_self]) rfl rfl dX5_failWith_24 (fun sg_1 H locs esg_1 hP hD hS => ?_)
    have hI_sg_1 := CI_put hI_j24 esg_1 hy0_24 (by decide)
    refine vx_throw0 (own := RX5) (cls := "java/lang/UnsupportedOperationException") (names := ["java/lang/RuntimeException", "java/lang/Exception"]) (ik := 103) (ic := 131) (A := A) hx hb hl9 hown (by decide +kernel) (by decide +kernel) (htb _ kw_1001) (htb _ kw_994) (vx_hat (fun w h => htb w (inT_4 w h)) inU_4 (vx_c (va_Nw.use rfl hG.2.1.1) (vx_c (va_Nw.use rfl hG.1.2.1.2.2.1) (vx_c (va_Nw.use rfl hG.1.2.1.2.2.2.1) (vx_c (va_Nw.use rfl hG.1.2.1.2.2.2.2) vx_n))))) (fun w hw => ?_) hG.1.2.2.2.1 hG.1.2.2.2.2 hS (by rw [hml]; exact hl.1) dX5_failWith_27 dX5_failWith_30 dX5_failWith_31 dX5_failWith_34 (fun x hx9 => (hxt x hx9).elim) (Nat.le_of_ble_eq_true rfl) (Nat.le_trans (Nat.add_le_add_right (show _ ≤ 8 from (Nat.le_trans cs_n (by decide))) _) (Nat.le_of_ble_eq_true rfl)) (Nat.le_of_ble_eq_true rfl) (Nat.le_of_ble_eq_true rfl) hlocks (fun t ht1 hz2 hk2 => ⟨⟨(sg_1, gm, lg), ⟨rfl, sg_1, gm, lg, rfl, hI_sg_1, (KS_up (KS_tr (L := [17, 18]) KS_rf hks_j24 (by decide)) esg_1 (by decide)), KS_rf, KS_rf⟩, hP.kept (fun k q hq => hk2 _ (vx_lt hP hq)), va_K.moved ht1 hK, hD⟩, ⟨Nat.le_trans hS.1 hz2, fun q h1 h2 => (hk2 q (Nat.lt_of_lt_of_le h1 hS.1)).trans (hS.2.1 q h1 h2)⟩⟩) hS.2.2 (Nat.le_of_ble_eq_true rfl) (Nat.le_of_ble_eq_true rfl)
    rcases List.mem_cons.mp hw with rfl | hw
    · rfl
    rcases List.mem_cons.mp hw with rfl | hw
    · rfl
    exact inV_4 w hw
  refine ec_aload_n hx hb dX5_failWith_0 rfl (lv_at hl 0 rfl) ?_
  refine lv_iload_n hx hb dX5_failWith_1 rfl (lv_at hl 1 rfl) ?_
  refine cr_puts (t := 6) (j := 11) (C := RX5) (T := TX5) (N := 13) (ty0 := tyX5) (k := 17) (y := n) hx hb htb inX5 tyX5_ok nmX5 hown hK hP hD hS hvx (by decide) (by decide) (by decide) (by decide) rfl rfl rfl (by decide) (htb _ kw_976) rfl (by show Value.int n = Value.int (va_up sg 17 n 17); rw [va_up_self]) rfl rfl dX5_failWith_2 (fun sg_2 H locs esg_2 hP hD hS => ?_)
  have hI_sg_2 := CI_put hI esg_2 hvn (by decide)
  refine ec_aload_n hx hb dX5_failWith_5 rfl (lv_at hl 0 rfl) ?_
  refine ec_aload_n hx hb dX5_failWith_6 rfl (lv_at hl 0 rfl) ?_
  refine cr_get (t := 6) (j := 10) (C := RX5) (T := TX5) (N := 13) (v := eV (ad 10) (sg_2 16)) hx hb htb inX5 hown hK hP hvx (by decide) (by decide) (by decide) rfl (by decide) (htb _ kw_1021) rfl dX5_failWith_7 ?_
  refine W.eq (g2 := F0 m 10 ls [eV (ad 10) (sg 16), eV (ad 6) x]) (by rw [show sg_2 16 = sg 16 from (up_ne esg_2 (by decide))]) ?_
  refine ec_ifnonnull (tgt := 17) hx hb dX5_failWith_10 (by decide) (fun c_3 => ?_) (fun c_3 => ?_)
  · have h_4 : iv 0 79 (sg 16) := ⟨c_3, ((show iv (-1) 79 (sg 16) from CI_s hI 16)).2⟩
    refine ec_aload_n hx hb dX5_failWith_17 rfl (lv_at hl 0 rfl) ?_
    refine cr_get (t := 6) (j := 10) (C := RX5) (T := TX5) (N := 13) (v := eV (ad 10) (sg_2 16)) hx hb htb inX5 hown hK hP hvx (by decide) (by decide) (by decide) rfl (by decide) (htb _ kw_1021) rfl dX5_failWith_18 ?_
    refine W.eq (g2 := F0 m 21 ls [eV (ad 10) (sg 16), eV (ad 6) x]) (by rw [show sg_2 16 = sg 16 from (up_ne esg_2 (by decide))]) ?_
    refine cr_get (t := 10) (j := 0) (C := RX1) (T := TX1) (N := 19) (v := .int (gm 28 (sg 16).toNatClampNeg)) hx hb htb inX1 hown hK hP h_4 (by decide) (by decide) (by decide) rfl (by decide) (htb _ kw_1022) rfl dX5_failWith_21 ?_
    obtain ⟨z_5, ez_5⟩ : ∃ z : Int32, z = (gm 28 (sg 16).toNatClampNeg) := ⟨_, rfl⟩
    refine W.eq (g2 := F0 m 24 ls [.int z_5, eV (ad 6) x]) (by rw [ez_5]) ?_
    have hz_5 : iv 0 79 z_5 := iv_of ez_5 (CI_a hI_sg_2 28 h_4 (by decide))
    exact hj24 sg_2 z_5 hvx hvn (iv_w hz_5 (by decide)) hvx (KS_up KS_rf esg_2 (by decide)) hI_sg_2 _ _ _ hP hD hS (lv_sub hl [0, 1] rfl)
  · have h_6 : iv (-1) (-1) (sg 16) := ⟨((show iv (-1) 79 (sg 16) from CI_s hI 16)).1, by omega⟩
    refine lv_iconst (v := (-1)) hx hb dX5_failWith_13 (by decide) ?_
    refine lv_goto (tgt := 24) hx hb dX5_failWith_14 (by decide) ?_
    exact hj24 sg_2 (-1) hvx hvn (iv_w (iv_k (by decide) : iv (-1) (-1) (-1)) (by decide)) hvx (KS_up KS_rf esg_2 (by decide)) hI_sg_2 _ _ _ hP hD hS (lv_sub hl [0, 1] rfl)

set_option maxHeartbeats 4000000 in
set_option maxRecDepth 100000 in
theorem d_textWeight (l : Launch) (dC : Nat → ClassId) (dI : Nat → Nat → Nat) (ad : Nat → Nat → Nat) (cid : Nat → ClassId) (a2 : Nat → Nat) (lx : List Nat) (sg : Nat → Int32) (gm : Nat → Nat → Int32) (lg : Nat → Nat → Int64) (o : Int32) (kd : Int32) (hI : CI sg gm) (hvo : iv 0 79 o) : CMt dC dI ad cid a2 lx l yX5_textWeight wm_X5_textWeight ({ frames := 0, cells := 1, slots := 6, locals := 0 }) [eV (ad 9) o, .int kd] sg gm lg (fun v u => ∃ r : Int32, v = some (.int r) ∧ u = (sg, gm, lg) ∧ (iv (-1) 3 r)) (fun _ _ => False) := by
  intro sz
  refine vx_ofW (cc := cX5_textWeight) (maxL := 2) (ret := (some .int)) (by decide) rfl ?_
  intro p e s m args below meth c s₁ B hml hxt hv
  obtain ⟨rfl, hsz, hP, hK, hD0, hG⟩ := hv
  have hx := B.exec
  have hb := B.bytes
  have hr := B.returns
  have hts := atoms_spec (ws := wm_X5_textWeight) B.pre
  have htb := fun (w : Cond) (h : w ∈ tb) => hts w (List.mem_cons_of_mem _ h)
  have hown : s.vm.findClass RX5 = some m.cls := findClass_of_methodNamed B.named
  have hlocks := B.notSynchronized
  subst hsz
  have hD := hD0.self (sz := s.heap.size)
  generalize hAe : va_A (cW ad cid a2 lx sg gm lg) s.heap.size = A at hD hG ⊢
  have hA : ∀ q : Nat, s.heap.size ≤ q → A q := fun q h => by rw [← hAe]; exact Or.inr h
  have hS : va_S A s.heap s.heap [] := va_S.rf
  have hl := lv_entry ([eV (ad 9) o, .int kd]) (n := 2) (by rw [show (lg_sl ([eV (ad 9) o, .int kd])).length = 2 from by simp [lg_sl, eV_cat, cat_i, cat_l]]; exact Nat.le_of_ble_eq_true rfl)
  rw [lg_entry_eq]
  generalize (lg_sl ([eV (ad 9) o, .int kd]) ++ List.replicate (2 - (lg_sl ([eV (ad 9) o, .int kd])).length) Slot.unset).toArray = ls at hl ⊢
  have hl : lv_has ls 2 [(0, eV (ad 9) o), (1, .int kd)] := by simp [lv_args, eV_cat, cat_i, cat_l] at hl; exact hl
  have hj48 : ∀ (y0_48 : Int32) (_ : iv 0 79 o) (_ : iv 0 0 kd) (_ : iv (-1) 1 y0_48) (H : Heap) (locs : List Loc) (ls : Array Slot), va_P (dC, dI) vwCl (cW ad cid a2 lx sg gm lg) H → va_D A (cW ad cid a2 lx sg gm lg) → va_S A s.heap H locs → lv_has ls 2 [(0, eV (ad 9) o), (1, .int kd)] → W p l e (headSpec wm_X5_textWeight ({ frames := 0, cells := 1, slots := 6, locals := 0 })).room s m ([eV (ad 9) o, .int kd] : List Value).toArray below meth c H locs 0 0 (vx_MQ below (cQx dC dI ad cid a2 lx (fun v u => ∃ r : Int32, v = some (.int r) ∧ u = (sg, gm, lg) ∧ (iv (-1) 3 r)) A) (cX dC dI ad cid a2 lx (fun _ _ => False) A) ([eV (ad 9) o, .int kd] : List Value).toArray s 1 6 A) (F0 m 48 ls [.int y0_48]) := by
    intro y0_48 hsx0_48 hsx1_48 hy0_48 H locs ls hP hD hS hl
    exact W.nb (fun hN => W.widen (k := 1) (n := 6) (by decide) (by decide) (vx_ret (W.iret (v := y0_48) hx hb hr (fun t ht hW => ⟨⟨some (.int y0_48), (sg, gm, lg), rfl, ⟨y0_48, rfl, rfl, (iv_w hy0_48 (by decide))⟩, by rw [ht]; exact hP, va_K.moved hW.alike hK, hD⟩, hS.F ht, by rw [ht]; exact hN⟩) hS.2.2 dX5_textWeight_48)))
  have hj62 : ∀ (y0_62 : Int32) (_ : iv 0 79 o) (_ : iv 1 1 kd) (_ : iv (-1) 1 y0_62) (H : Heap) (locs : List Loc) (ls : Array Slot), va_P (dC, dI) vwCl (cW ad cid a2 lx sg gm lg) H → va_D A (cW ad cid a2 lx sg gm lg) → va_S A s.heap H locs → lv_has ls 2 [(0, eV (ad 9) o), (1, .int kd)] → W p l e (headSpec wm_X5_textWeight ({ frames := 0, cells := 1, slots := 6, locals := 0 })).room s m ([eV (ad 9) o, .int kd] : List Value).toArray below meth c H locs 0 0 (vx_MQ below (cQx dC dI ad cid a2 lx (fun v u => ∃ r : Int32, v = some (.int r) ∧ u = (sg, gm, lg) ∧ (iv (-1) 3 r)) A) (cX dC dI ad cid a2 lx (fun _ _ => False) A) ([eV (ad 9) o, .int kd] : List Value).toArray s 1 6 A) (F0 m 62 ls [.int y0_62]) := by
    intro y0_62 hsx0_62 hsx1_62 hy0_62 H locs ls hP hD hS hl
    exact W.nb (fun hN => W.widen (k := 1) (n := 6) (by decide) (by decide) (vx_ret (W.iret (v := y0_62) hx hb hr (fun t ht hW => ⟨⟨some (.int y0_62), (sg, gm, lg), rfl, ⟨y0_62, rfl, rfl, (iv_w hy0_62 (by decide))⟩, by rw [ht]; exact hP, va_K.moved hW.alike hK, hD⟩, hS.F ht, by rw [ht]; exact hN⟩) hS.2.2 dX5_textWeight_62)))
  have hj76 : ∀ (y0_76 : Int32) (_ : iv 0 79 o) (_ : iv 2 2 kd) (_ : iv (-1) 2 y0_76) (H : Heap) (locs : List Loc) (ls : Array Slot), va_P (dC, dI) vwCl (cW ad cid a2 lx sg gm lg) H → va_D A (cW ad cid a2 lx sg gm lg) → va_S A s.heap H locs → lv_has ls 2 [(0, eV (ad 9) o), (1, .int kd)] → W p l e (headSpec wm_X5_textWeight ({ frames := 0, cells := 1, slots := 6, locals := 0 })).room s m ([eV (ad 9) o, .int kd] : List Value).toArray below meth c H locs 0 0 (vx_MQ below (cQx dC dI ad cid a2 lx (fun v u => ∃ r : Int32, v = some (.int r) ∧ u = (sg, gm, lg) ∧ (iv (-1) 3 r)) A) (cX dC dI ad cid a2 lx (fun _ _ => False) A) ([eV (ad 9) o, .int kd] : List Value).toArray s 1 6 A) (F0 m 76 ls [.int y0_76]) := by
    intro y0_76 hsx0_76 hsx1_76 hy0_76 H locs ls hP hD hS hl
    exact W.nb (fun hN => W.widen (k := 1) (n := 6) (by decide) (by decide) (vx_ret (W.iret (v := y0_76) hx hb hr (fun t ht hW => ⟨⟨some (.int y0_76), (sg, gm, lg), rfl, ⟨y0_76, rfl, rfl, (iv_w hy0_76 (by decide))⟩, by rw [ht]; exact hP, va_K.moved hW.alike hK, hD⟩, hS.F ht, by rw [ht]; exact hN⟩) hS.2.2 dX5_textWeight_76)))
  refine lv_iload_n hx hb dX5_textWeight_0 rfl (lv_at hl 1 rfl) ?_
  by_cases c_1 : (kd : Int32).toInt = 0
  · refine lv_tableIn (tgt := 32) hx hb dX5_textWeight_1 (by rw [c_1]; decide) (by rw [c_1]; decide) (by rw [c_1]; rfl) (by decide) ?_
    have h_2 : iv 0 0 kd := iv_at c_1
    refine ec_aload_n hx hb dX5_textWeight_32 rfl (lv_at hl 0 rfl) ?_
    refine cr_get (t := 9) (j := 13) (C := RX3) (T := TX3) (N := 21) (v := .long (lg 3 o.toNatClampNeg)) hx hb htb inX3 hown hK hP hvo (by decide) (by decide) (by decide) rfl (by decide) (htb _ kw_1048) rfl dX5_textWeight_33 ?_
    refine lv_topl (fun z_3 ez_3 => ?_)
    refine lv_ldc2 (own := RX5) (v := 1099511627776) hx hb hown (htb _ kw_1049) dX5_textWeight_36 ?_
    refine W.lcmp hx hb dX5_textWeight_39 ?_
    refine lv_topi (fun z_4 ez_4 => ?_)
    have hz_4 : iv (-1) 1 z_4 := iv_of ez_4 (iv_cmp _ _)
    refine lv_if_ne (tgt := 47) hx hb dX5_textWeight_40 (by decide) (fun c_5 => ?_) (fun c_5 => ?_)
    · have d_6 : ¬ (z_4 : Int32).toInt = 0 := lv_neT c_5 rfl
      refine lv_iconst (v := 1) hx hb dX5_textWeight_47 (by decide) ?_
      exact hj48 1 hvo h_2 (iv_w (iv_k (by decide) : iv 1 1 1) (by decide)) _ _ _ hP hD hS (lv_sub hl [0, 1] rfl)
    · have h_7 : iv 0 0 z_4 := iv_eq c_5 hz_4 (iv_k (by decide) : iv 0 0 0) (by decide)
      refine lv_iconst (v := (-1)) hx hb dX5_textWeight_43 (by decide) ?_
      refine lv_goto (tgt := 48) hx hb dX5_textWeight_44 (by decide) ?_
      exact hj48 (-1) hvo h_2 (iv_w (iv_k (by decide) : iv (-1) (-1) (-1)) (by decide)) _ _ _ hP hD hS (lv_sub hl [0, 1] rfl)
  by_cases c_8 : (kd : Int32).toInt = 1
  · refine lv_tableIn (tgt := 49) hx hb dX5_textWeight_1 (by rw [c_8]; decide) (by rw [c_8]; decide) (by rw [c_8]; rfl) (by decide) ?_
    have h_9 : iv 1 1 kd := iv_at c_8
    refine ec_aload_n hx hb dX5_textWeight_49 rfl (lv_at hl 0 rfl) ?_
    refine cr_get (t := 9) (j := 14) (C := RX3) (T := TX3) (N := 21) (v := .int (gm 21 o.toNatClampNeg)) hx hb htb inX3 hown hK hP hvo (by decide) (by decide) (by decide) rfl (by decide) (htb _ kw_1050) rfl dX5_textWeight_50 ?_
    obtain ⟨z_10, ez_10⟩ : ∃ z : Int32, z = (gm 21 o.toNatClampNeg) := ⟨_, rfl⟩
    refine W.eq (g2 := F0 m 53 ls [.int z_10]) (by rw [ez_10]) ?_
    have hz_10 : iv (-1) 1 z_10 := iv_of ez_10 (CI_a hI 21 hvo (by decide))
    refine lv_iconst (v := (-1)) hx hb dX5_textWeight_53 (by decide) ?_
    refine lv_icmp_ne (tgt := 61) hx hb dX5_textWeight_54 (by decide) (fun c_11 => ?_) (fun c_11 => ?_)
    · have h_12 : iv 0 1 z_10 := iv_neL c_11 hz_10 (by decide)
      refine lv_iconst (v := 1) hx hb dX5_textWeight_61 (by decide) ?_
      exact hj62 1 hvo h_9 (iv_w (iv_k (by decide) : iv 1 1 1) (by decide)) _ _ _ hP hD hS (lv_sub hl [0, 1] rfl)
    · have h_13 : iv (-1) (-1) z_10 := iv_eq c_11 hz_10 (iv_k (by decide) : iv (-1) (-1) (-1)) (by decide)
      refine lv_iconst (v := (-1)) hx hb dX5_textWeight_57 (by decide) ?_
      refine lv_goto (tgt := 62) hx hb dX5_textWeight_58 (by decide) ?_
      exact hj62 (-1) hvo h_9 (iv_w (iv_k (by decide) : iv (-1) (-1) (-1)) (by decide)) _ _ _ hP hD hS (lv_sub hl [0, 1] rfl)
  by_cases c_14 : (kd : Int32).toInt = 2
  · refine lv_tableIn (tgt := 63) hx hb dX5_textWeight_1 (by rw [c_14]; decide) (by rw [c_14]; decide) (by rw [c_14]; rfl) (by decide) ?_
    have h_15 : iv 2 2 kd := iv_at c_14
    refine ec_aload_n hx hb dX5_textWeight_63 rfl (lv_at hl 0 rfl) ?_
    refine cr_get (t := 9) (j := 1) (C := RX3) (T := TX3) (N := 21) (v := .int (gm 11 o.toNatClampNeg)) hx hb htb inX3 hown hK hP hvo (by decide) (by decide) (by decide) rfl (by decide) (htb _ kw_1051) rfl dX5_textWeight_64 ?_
    obtain ⟨z_16, ez_16⟩ : ∃ z : Int32, z = (gm 11 o.toNatClampNeg) := ⟨_, rfl⟩
    refine W.eq (g2 := F0 m 67 ls [.int z_16]) (by rw [ez_16]) ?_
    have hz_16 : iv 0 24 z_16 := iv_of ez_16 (CI_a hI 11 hvo (by decide))
    refine lv_iconst (v := 1) hx hb dX5_textWeight_67 (by decide) ?_
    refine lv_icmp_ne (tgt := 75) hx hb dX5_textWeight_68 (by decide) (fun c_17 => ?_) (fun c_17 => ?_)
    · have d_18 : ¬ (z_16 : Int32).toInt = 1 := lv_neT c_17 rfl
      refine lv_iconst (v := (-1)) hx hb dX5_textWeight_75 (by decide) ?_
      exact hj76 (-1) hvo h_15 (iv_w (iv_k (by decide) : iv (-1) (-1) (-1)) (by decide)) _ _ _ hP hD hS (lv_sub hl [0, 1] rfl)
    · have h_19 : iv 1 1 z_16 := iv_eq c_17 hz_16 (iv_k (by decide) : iv 1 1 1) (by decide)
      refine lv_iconst (v := 2) hx hb dX5_textWeight_71 (by decide) ?_
      refine lv_goto (tgt := 76) hx hb dX5_textWeight_72 (by decide) ?_
      exact hj76 2 hvo h_15 (iv_w (iv_k (by decide) : iv 2 2 2) (by decide)) _ _ _ hP hD hS (lv_sub hl [0, 1] rfl)
  by_cases c_20 : (kd : Int32).toInt = 3
  · refine lv_tableIn (tgt := 77) hx hb dX5_textWeight_1 (by rw [c_20]; decide) (by rw [c_20]; decide) (by rw [c_20]; rfl) (by decide) ?_
    have h_21 : iv 3 3 kd := iv_at c_20
    refine lv_iconst (v := 3) hx hb dX5_textWeight_77 (by decide) ?_
    exact W.nb (fun hN => W.widen (k := 1) (n := 6) (by decide) (by decide) (vx_ret (W.iret (v := 3) hx hb hr (fun t ht hW => ⟨⟨some (.int 3), (sg, gm, lg), rfl, ⟨3, rfl, rfl, (iv_w (iv_k (by decide) : iv 3 3 3) (by decide))⟩, by rw [ht]; exact hP, va_K.moved hW.alike hK, hD⟩, hS.F ht, by rw [ht]; exact hN⟩) hS.2.2 dX5_textWeight_78)))
  refine lv_tableOut (tgt := 79) hx hb dX5_textWeight_1 (by have q1 := ((iv_all kd)).1; have q2 := ((iv_all kd)).2; omega) (by decide) ?_
  refine lv_iconst (v := (-1)) hx hb dX5_textWeight_79 (by decide) ?_
  exact W.nb (fun hN => W.widen (k := 1) (n := 6) (by decide) (by decide) (vx_ret (W.iret (v := (-1)) hx hb hr (fun t ht hW => ⟨⟨some (.int (-1)), (sg, gm, lg), rfl, ⟨(-1), rfl, rfl, (iv_w (iv_k (by decide) : iv (-1) (-1) (-1)) (by decide))⟩, by rw [ht]; exact hP, va_K.moved hW.alike hK, hD⟩, hS.F ht, by rw [ht]; exact hN⟩) hS.2.2 dX5_textWeight_80)))

set_option maxHeartbeats 4000000 in
set_option maxRecDepth 100000 in
theorem d_objectWeight (l : Launch) (dC : Nat → ClassId) (dI : Nat → Nat → Nat) (ad : Nat → Nat → Nat) (cid : Nat → ClassId) (a2 : Nat → Nat) (lx : List Nat) (sg : Nat → Int32) (gm : Nat → Nat → Int32) (lg : Nat → Nat → Int64) (x : Int32) (nb : Int32) (kd : Int32) (hI : CI sg gm) (hvx : iv 0 0 x) (hvnb : iv 0 59 nb) : CMt dC dI ad cid a2 lx l yX5_objectWeight wm_X5_objectWeight ({ frames := 1, cells := 1, slots := 6, locals := 23 }) [eV (ad 6) x, .int nb, .int kd] sg gm lg (fun v u => ∃ r : Int32, v = some (.int r) ∧ u = (sg, gm, lg) ∧ (iv (-1) 14 r)) (fun _ _ => False) := by
  intro sz
  refine vx_ofW (cc := cX5_objectWeight) (maxL := 4) (ret := (some .int)) (by decide) rfl ?_
  intro p e s m args below meth c s₁ B hml hxt hv
  obtain ⟨rfl, hsz, hP, hK, hD0, hG⟩ := hv
  have hx := B.exec
  have hb := B.bytes
  have hr := B.returns
  have hts := atoms_spec (ws := wm_X5_objectWeight) B.pre
  have htb := fun (w : Cond) (h : w ∈ tb) => hts w (List.mem_cons_of_mem _ h)
  have hown : s.vm.findClass RX5 = some m.cls := findClass_of_methodNamed B.named
  have hlocks := B.notSynchronized
  subst hsz
  have hD := hD0.self (sz := s.heap.size)
  generalize hAe : va_A (cW ad cid a2 lx sg gm lg) s.heap.size = A at hD hG ⊢
  have hA : ∀ q : Nat, s.heap.size ≤ q → A q := fun q h => by rw [← hAe]; exact Or.inr h
  have hS : va_S A s.heap s.heap [] := va_S.rf
  have hl := lv_entry ([eV (ad 6) x, .int nb, .int kd]) (n := 4) (by rw [show (lg_sl ([eV (ad 6) x, .int nb, .int kd])).length = 3 from by simp [lg_sl, eV_cat, cat_i, cat_l]]; exact Nat.le_of_ble_eq_true rfl)
  rw [lg_entry_eq]
  generalize (lg_sl ([eV (ad 6) x, .int nb, .int kd]) ++ List.replicate (4 - (lg_sl ([eV (ad 6) x, .int nb, .int kd])).length) Slot.unset).toArray = ls at hl ⊢
  have hl : lv_has ls 4 [(0, eV (ad 6) x), (1, .int nb), (2, .int kd)] := by simp [lv_args, eV_cat, cat_i, cat_l] at hl; exact hl
  have hj39 : ∀ (x3_39 : Int32) (y0_39 : Int32) (_ : iv (-1) 7 x3_39) (_ : iv 0 0 x) (_ : iv 0 59 nb) (_ : iv 8 2147483647 kd) (_ : iv (-1) 14 y0_39) (H : Heap) (locs : List Loc) (ls : Array Slot), va_P (dC, dI) vwCl (cW ad cid a2 lx sg gm lg) H → va_D A (cW ad cid a2 lx sg gm lg) → va_S A s.heap H locs → lv_has ls 4 [(3, .int x3_39), (0, eV (ad 6) x), (1, .int nb), (2, .int kd)] → W p l e (headSpec wm_X5_objectWeight ({ frames := 1, cells := 1, slots := 6, locals := 23 })).room s m ([eV (ad 6) x, .int nb, .int kd] : List Value).toArray below meth c H locs 0 0 (vx_MQ below (cQx dC dI ad cid a2 lx (fun v u => ∃ r : Int32, v = some (.int r) ∧ u = (sg, gm, lg) ∧ (iv (-1) 14 r)) A) (cX dC dI ad cid a2 lx (fun _ _ => False) A) ([eV (ad 6) x, .int nb, .int kd] : List Value).toArray s 1 6 A) (F0 m 39 ls [.int y0_39]) := by
    intro x3_39 y0_39 hx3_39 hsx0_39 hsx1_39 hsx2_39 hy0_39 H locs ls hP hD hS hl
    exact W.nb (fun hN => W.widen (k := 1) (n := 6) (by decide) (by decide) (vx_ret (W.iret (v := y0_39) hx hb hr (fun t ht hW => ⟨⟨some (.int y0_39), (sg, gm, lg), rfl, ⟨y0_39, rfl, rfl, hy0_39⟩, by rw [ht]; exact hP, va_K.moved hW.alike hK, hD⟩, hS.F ht, by rw [ht]; exact hN⟩) hS.2.2 dX5_objectWeight_39)))
  refine lv_iload_n hx hb dX5_objectWeight_0 rfl (lv_at hl 2 rfl) ?_
  refine lv_bipush (v := 8) hx hb dX5_objectWeight_1 (by decide) ?_
  refine lv_icmp_ge (tgt := 8) hx hb dX5_objectWeight_3 (by decide) (fun c_1 => ?_) (fun c_1 => ?_)
  · have h_2 : iv 8 2147483647 kd := iv_leR c_1 (iv_k (by decide) : iv 8 8 8) (iv_all kd) (by decide)
    refine ec_aload_n hx hb dX5_objectWeight_8 rfl (lv_at hl 0 rfl) ?_
    refine cr_get (t := 6) (j := 1) (C := RX5) (T := TX5) (N := 13) (v := eV (ad 12) 0) hx hb htb inX5 hown hK hP hvx (by decide) (by decide) (by decide) rfl (by decide) (htb _ kw_122) (cV_c rfl (by decide) (by rw [show cMu 6 1 = 0 from rfl, Nat.zero_mul]; rfl)) dX5_objectWeight_9 ?_
    refine ec_aload_n hx hb dX5_objectWeight_12 rfl (lv_at hl 0 rfl) ?_
    refine cr_get (t := 6) (j := 3) (C := RX5) (T := TX5) (N := 13) (v := eV (ad 22) 0) hx hb htb inX5 hown hK hP hvx (by decide) (by decide) (by decide) rfl (by decide) (htb _ kw_124) (cV_c rfl (by decide) (by rw [show cMu 6 3 = 0 from rfl, Nat.zero_mul]; rfl)) dX5_objectWeight_13 ?_
    refine lv_iload_n hx hb dX5_objectWeight_16 rfl (lv_at hl 1 rfl) ?_
    refine cr_iald (t := 22) (z := (gm 49 (nb : Int32).toNatClampNeg)) hx hb hK hP (iv_k (by decide) : iv 0 0 0) (by decide) (by decide) (by decide) rfl rfl (show vp_in nb (cLen 22) from (show vp_in nb 60 from (iv_in hvnb (by decide)))) rfl dX5_objectWeight_17 ?_
    obtain ⟨z_3, ez_3⟩ : ∃ z : Int32, z = (gm 49 (nb : Int32).toNatClampNeg) := ⟨_, rfl⟩
    refine W.eq (g2 := F0 m 18 ls [.int z_3, eV (ad 12) 0]) (by rw [ez_3]) ?_
    have hz_3 : iv 0 7 z_3 := iv_of ez_3 (CI_a hI 49 hvnb (by decide))
    refine cr_aald (t := 12) (C := RX2) (v := eV (ad 7) z_3) hx hb hK hP (iv_k (by decide) : iv 0 0 0) (by decide) (by decide) (by decide) (by decide) (by decide) rfl (show vp_in z_3 (cLen 12) from (show vp_in z_3 8 from (iv_in hz_3 (by decide)))) (cAr_c (by decide) (hz_3).1 (by rw [show cAm 12 = 0 from rfl, Nat.zero_mul, show cAo 12 = 0 from rfl]; omega)) dX5_objectWeight_18 ?_
    refine lv_iload_n hx hb dX5_objectWeight_19 rfl (lv_at hl 2 rfl) ?_
    refine lv_bipush (v := 8) hx hb dX5_objectWeight_20 (by decide) ?_
    refine lv_isub hx hb dX5_objectWeight_22 ?_
    refine lv_topi (fun z_4 ez_4 => ?_)
    have hz_4 : iv 0 2147483639 z_4 := iv_of ez_4 (iv_sub h_2 (iv_k (by decide) : iv 8 8 8) (by decide))
    have tz_4 : z_4.toInt = (kd : Int32).toInt - 8 := by rw [ez_4]; exact iv_subE h_2 (iv_k (by decide) : iv 8 8 8) (by decide)
    refine cm_callV (t := 7) (C := RX2) (T := TX2) (N := 8) (rest := []) (as := [.int z_4]) ⟨hx, hb, hml, hown, htb⟩ (d_stepsTo l dC dI ad cid a2 lx sg gm lg z_3 z_4 hI hz_3) (cwV 1 htb (gd_V kw_1055 kw_1056 kw_1057 kw_15 kw_1578) rfl rfl rfl (by decide +kernel) ⟨Nat.le_of_ble_eq_true rfl, Nat.le_of_ble_eq_true rfl⟩) hz_3 (by decide) (by decide) rfl rfl hl.1 rfl (Nat.le_trans cs_n (by decide)) dX5_objectWeight_23 ⟨Nat.le_of_ble_eq_true rfl, Nat.le_of_ble_eq_true rfl⟩ hK hP hD hS hA hG (fun E ce q9 u_6 H locs hw hP hD hS hce hcv hcl => ?_) (fun v9 u_6 H locs hw hP hD hS => ?_)
    · exact hw.elim
    obtain ⟨r_5, rfl, rfl, hr_5⟩ := hw
    have hP : va_P (dC, dI) vwCl (cW ad cid a2 lx sg gm lg) H := hP
    have hD : va_D A (cW ad cid a2 lx sg gm lg) := hD
    refine W.eq (g2 := F0 m 26 ls [.int r_5]) rfl ?_
    refine lv_istore_n (i := 3) (lv' := [(3, .int r_5), (0, eV (ad 6) x), (1, .int nb), (2, .int kd)]) hx hb dX5_objectWeight_26 rfl hl (by decide) rfl (fun ls hl => ?_)
    refine lv_iload_n hx hb dX5_objectWeight_27 rfl (lv_at hl 0 rfl) ?_
    refine lv_iconst (v := (-1)) hx hb dX5_objectWeight_28 (by decide) ?_
    refine lv_icmp_ne (tgt := 36) hx hb dX5_objectWeight_29 (by decide) (fun c_8 => ?_) (fun c_8 => ?_)
    · have h_9 : iv 0 7 r_5 := iv_neL c_8 hr_5 (by decide)
      refine lv_iconst (v := 2) hx hb dX5_objectWeight_36 (by decide) ?_
      refine lv_iload_n hx hb dX5_objectWeight_37 rfl (lv_at hl 0 rfl) ?_
      refine lv_imul hx hb dX5_objectWeight_38 ?_
      refine lv_topi (fun z_10 ez_10 => ?_)
      have hz_10 : iv 0 14 z_10 := iv_of ez_10 (iv_mul (iv_k (by decide) : iv 2 2 2) h_9 (by decide))
      have tz_10 : z_10.toInt = 2 * (r_5 : Int32).toInt := by rw [ez_10]; exact iv_mulE (iv_k (by decide) : iv 2 2 2) h_9 (by decide)
      exact hj39 r_5 z_10 (iv_w h_9 (by decide)) hvx hvnb h_2 (iv_w hz_10 (by decide)) _ _ _ hP hD hS (lv_sub hl [0, 1, 2, 3] rfl)
    · have h_11 : iv (-1) (-1) r_5 := iv_eq c_8 hr_5 (iv_k (by decide) : iv (-1) (-1) (-1)) (by decide)
      refine lv_iconst (v := (-1)) hx hb dX5_objectWeight_32 (by decide) ?_
      refine lv_goto (tgt := 39) hx hb dX5_objectWeight_33 (by decide) ?_
      exact hj39 r_5 (-1) (iv_w h_11 (by decide)) hvx hvnb h_2 (iv_w (iv_k (by decide) : iv (-1) (-1) (-1)) (by decide)) _ _ _ hP hD hS (lv_sub hl [0, 1, 2, 3] rfl)
  · have h_12 : iv (-2147483648) 7 kd := iv_ltL (i32_lt c_1) (iv_all kd) (iv_k (by decide) : iv 8 8 8) (by decide)
    refine lv_iconst (v := (-1)) hx hb dX5_objectWeight_6 (by decide) ?_
    exact W.nb (fun hN => W.widen (k := 1) (n := 6) (by decide) (by decide) (vx_ret (W.iret (v := (-1)) hx hb hr (fun t ht hW => ⟨⟨some (.int (-1)), (sg, gm, lg), rfl, ⟨(-1), rfl, rfl, (iv_w (iv_k (by decide) : iv (-1) (-1) (-1)) (by decide))⟩, by rw [ht]; exact hP, va_K.moved hW.alike hK, hD⟩, hS.F ht, by rw [ht]; exact hN⟩) hS.2.2 dX5_objectWeight_7)))

set_option maxHeartbeats 4000000 in
set_option maxRecDepth 100000 in
theorem d_weightOf (l : Launch) (dC : Nat → ClassId) (dI : Nat → Nat → Nat) (ad : Nat → Nat → Nat) (cid : Nat → ClassId) (a2 : Nat → Nat) (lx : List Nat) (sg : Nat → Int32) (gm : Nat → Nat → Int32) (lg : Nat → Nat → Int64) (x : Int32) (o : Int32) (sl : Int32) (kd : Int32) (hI : CI sg gm) (hvx : iv 0 0 x) (hvo : iv 0 79 o) (hvsl : iv 0 954 sl) (hk0 : 0 ≤ (gm 25 o.toNatClampNeg).toInt) (hwk : (gm 25 o.toNatClampNeg).toInt = 6 ∨ (gm 25 o.toNatClampNeg).toInt = 7 ∨ (gm 25 o.toNatClampNeg).toInt = 9 ∨ iv 0 59 (gm 52 sl.toNatClampNeg)) : CMt dC dI ad cid a2 lx l yX5_weightOf wm_X5_weightOf ({ frames := 2, cells := 1, slots := 6, locals := 46 }) [eV (ad 6) x, eV (ad 9) o, .int sl, .int kd] sg gm lg (fun v u => ∃ r : Int32, v = some (.int r) ∧ u = (sg, gm, lg) ∧ (iv (-1) 14 r)) (fun _ _ => False) := by
  intro sz
  refine vx_ofW (cc := cX5_weightOf) (maxL := 4) (ret := (some .int)) (by decide) rfl ?_
  intro p e s m args below meth c s₁ B hml hxt hv
  obtain ⟨rfl, hsz, hP, hK, hD0, hG⟩ := hv
  have hx := B.exec
  have hb := B.bytes
  have hr := B.returns
  have hts := atoms_spec (ws := wm_X5_weightOf) B.pre
  have htb := fun (w : Cond) (h : w ∈ tb) => hts w (List.mem_cons_of_mem _ h)
  have hown : s.vm.findClass RX5 = some m.cls := findClass_of_methodNamed B.named
  have hlocks := B.notSynchronized
  subst hsz
  have hD := hD0.self (sz := s.heap.size)
  generalize hAe : va_A (cW ad cid a2 lx sg gm lg) s.heap.size = A at hD hG ⊢
  have hA : ∀ q : Nat, s.heap.size ≤ q → A q := fun q h => by rw [← hAe]; exact Or.inr h
  have hS : va_S A s.heap s.heap [] := va_S.rf
  have hl := lv_entry ([eV (ad 6) x, eV (ad 9) o, .int sl, .int kd]) (n := 4) (by rw [show (lg_sl ([eV (ad 6) x, eV (ad 9) o, .int sl, .int kd])).length = 4 from by simp [lg_sl, eV_cat, cat_i, cat_l]]; exact Nat.le_of_ble_eq_true rfl)
  rw [lg_entry_eq]
  generalize (lg_sl ([eV (ad 6) x, eV (ad 9) o, .int sl, .int kd]) ++ List.replicate (4 - (lg_sl ([eV (ad 6) x, eV (ad 9) o, .int sl, .int kd])).length) Slot.unset).toArray = ls at hl ⊢
  have hl : lv_has ls 4 [(0, eV (ad 6) x), (1, eV (ad 9) o), (2, .int sl), (3, .int kd)] := by simp [lv_args, eV_cat, cat_i, cat_l] at hl; exact hl
  have hj67 : ∀ (y0_67 : Int32) (_ : iv 0 0 x) (_ : iv 0 79 o) (_ : iv 0 954 sl) (_ : iv (-1) 0 y0_67) (H : Heap) (locs : List Loc) (ls : Array Slot), va_P (dC, dI) vwCl (cW ad cid a2 lx sg gm lg) H → va_D A (cW ad cid a2 lx sg gm lg) → va_S A s.heap H locs → lv_has ls 4 [(0, eV (ad 6) x), (1, eV (ad 9) o), (2, .int sl), (3, .int kd)] → W p l e (headSpec wm_X5_weightOf ({ frames := 2, cells := 1, slots := 6, locals := 46 })).room s m ([eV (ad 6) x, eV (ad 9) o, .int sl, .int kd] : List Value).toArray below meth c H locs 0 0 (vx_MQ below (cQx dC dI ad cid a2 lx (fun v u => ∃ r : Int32, v = some (.int r) ∧ u = (sg, gm, lg) ∧ (iv (-1) 14 r)) A) (cX dC dI ad cid a2 lx (fun _ _ => False) A) ([eV (ad 6) x, eV (ad 9) o, .int sl, .int kd] : List Value).toArray s 1 6 A) (F0 m 67 ls [.int y0_67]) := by
    intro y0_67 hsx0_67 hsx1_67 hsx2_67 hy0_67 H locs ls hP hD hS hl
    exact W.nb (fun hN => W.widen (k := 1) (n := 6) (by decide) (by decide) (vx_ret (W.iret (v := y0_67) hx hb hr (fun t ht hW => ⟨⟨some (.int y0_67), (sg, gm, lg), rfl, ⟨y0_67, rfl, rfl, (iv_w hy0_67 (by decide))⟩, by rw [ht]; exact hP, va_K.moved hW.alike hK, hD⟩, hS.F ht, by rw [ht]; exact hN⟩) hS.2.2 dX5_weightOf_67)))
  have hj68 : ∀ (_ : iv 0 0 x) (_ : iv 0 79 o) (_ : iv 0 954 sl) (_ : iv 0 59 (gm 52 sl.toNatClampNeg)) (H : Heap) (locs : List Loc) (ls : Array Slot), va_P (dC, dI) vwCl (cW ad cid a2 lx sg gm lg) H → va_D A (cW ad cid a2 lx sg gm lg) → va_S A s.heap H locs → lv_has ls 4 [(0, eV (ad 6) x), (1, eV (ad 9) o), (2, .int sl), (3, .int kd)] → W p l e (headSpec wm_X5_weightOf ({ frames := 2, cells := 1, slots := 6, locals := 46 })).room s m ([eV (ad 6) x, eV (ad 9) o, .int sl, .int kd] : List Value).toArray below meth c H locs 0 0 (vx_MQ below (cQx dC dI ad cid a2 lx (fun v u => ∃ r : Int32, v = some (.int r) ∧ u = (sg, gm, lg) ∧ (iv (-1) 14 r)) A) (cX dC dI ad cid a2 lx (fun _ _ => False) A) ([eV (ad 6) x, eV (ad 9) o, .int sl, .int kd] : List Value).toArray s 1 6 A) (F0 m 68 ls []) := by
    intro  hsx0_68 hsx1_68 hsx2_68 hw68 H locs ls hP hD hS hl
    refine ec_aload_n hx hb dX5_weightOf_68 rfl (lv_at hl 0 rfl) ?_
    refine ec_aload_n hx hb dX5_weightOf_69 rfl (lv_at hl 0 rfl) ?_
    refine cr_get (t := 6) (j := 8) (C := RX5) (T := TX5) (N := 13) (v := eV (ad 25) 0) hx hb htb inX5 hown hK hP hsx0_68 (by decide) (by decide) (by decide) rfl (by decide) (htb _ kw_128) (cV_c rfl (by decide) (by rw [show cMu 6 8 = 0 from rfl, Nat.zero_mul]; rfl)) dX5_weightOf_70 ?_
    refine lv_iload_n hx hb dX5_weightOf_73 rfl (lv_at hl 2 rfl) ?_
    refine cr_iald (t := 25) (z := (gm 52 (sl : Int32).toNatClampNeg)) hx hb hK hP (iv_k (by decide) : iv 0 0 0) (by decide) (by decide) (by decide) rfl rfl (show vp_in sl (cLen 25) from (show vp_in sl 960 from (iv_in hsx2_68 (by decide)))) rfl dX5_weightOf_74 ?_
    obtain ⟨z_1, ez_1⟩ : ∃ z : Int32, z = (gm 52 (sl : Int32).toNatClampNeg) := ⟨_, rfl⟩
    refine W.eq (g2 := F0 m 75 ls [.int z_1, eV (ad 6) x]) (by rw [ez_1]) ?_
    have h_2 : iv 0 59 z_1 := (by rw [ez_1]; exact hw68)
    refine lv_iload_n hx hb dX5_weightOf_75 rfl (lv_at hl 3 rfl) ?_
    refine cm_callV (t := 6) (C := RX5) (T := TX5) (N := 13) (rest := []) (as := [.int z_1, .int kd]) ⟨hx, hb, hml, hown, htb⟩ (d_objectWeight l dC dI ad cid a2 lx sg gm lg x z_1 kd hI hsx0_68 h_2) (cwV 2 htb (gd_V kw_1052 kw_1053 kw_1054 kw_40 kw_1577) rfl rfl rfl (by decide +kernel) ⟨Nat.le_of_ble_eq_true rfl, Nat.le_of_ble_eq_true rfl⟩) hsx0_68 (by decide) (by decide) rfl rfl hl.1 rfl (Nat.le_trans cs_n (by decide)) dX5_weightOf_76 ⟨Nat.le_of_ble_eq_true rfl, Nat.le_of_ble_eq_true rfl⟩ hK hP hD hS hA hG (fun E ce q9 u_4 H locs hw hP hD hS hce hcv hcl => ?_) (fun v9 u_4 H locs hw hP hD hS => ?_)
    · exact hw.elim
    obtain ⟨r_3, rfl, rfl, hr_3⟩ := hw
    have hP : va_P (dC, dI) vwCl (cW ad cid a2 lx sg gm lg) H := hP
    have hD : va_D A (cW ad cid a2 lx sg gm lg) := hD
    refine W.eq (g2 := F0 m 79 ls [.int r_3]) rfl ?_
    exact W.nb (fun hN => W.widen (k := 1) (n := 6) (by decide) (by decide) (vx_ret (W.iret (v := r_3) hx hb hr (fun t ht hW => ⟨⟨some (.int r_3), (sg, gm, lg), rfl, ⟨r_3, rfl, rfl, hr_3⟩, by rw [ht]; exact hP, va_K.moved hW.alike hK, hD⟩, hS.F ht, by rw [ht]; exact hN⟩) hS.2.2 dX5_weightOf_79)))
  have hj56 : ∀ (y0_56 : Int32) (_ : iv 0 0 x) (_ : iv 0 79 o) (_ : iv 0 954 sl) (_ : iv (-1) 0 y0_56) (H : Heap) (locs : List Loc) (ls : Array Slot), va_P (dC, dI) vwCl (cW ad cid a2 lx sg gm lg) H → va_D A (cW ad cid a2 lx sg gm lg) → va_S A s.heap H locs → lv_has ls 4 [(0, eV (ad 6) x), (1, eV (ad 9) o), (2, .int sl), (3, .int kd)] → W p l e (headSpec wm_X5_weightOf ({ frames := 2, cells := 1, slots := 6, locals := 46 })).room s m ([eV (ad 6) x, eV (ad 9) o, .int sl, .int kd] : List Value).toArray below meth c H locs 0 0 (vx_MQ below (cQx dC dI ad cid a2 lx (fun v u => ∃ r : Int32, v = some (.int r) ∧ u = (sg, gm, lg) ∧ (iv (-1) 14 r)) A) (cX dC dI ad cid a2 lx (fun _ _ => False) A) ([eV (ad 6) x, eV (ad 9) o, .int sl, .int kd] : List Value).toArray s 1 6 A) (F0 m 56 ls [.int y0_56]) := by
    intro y0_56 hsx0_56 hsx1_56 hsx2_56 hy0_56 H locs ls hP hD hS hl
    exact W.nb (fun hN => W.widen (k := 1) (n := 6) (by decide) (by decide) (vx_ret (W.iret (v := y0_56) hx hb hr (fun t ht hW => ⟨⟨some (.int y0_56), (sg, gm, lg), rfl, ⟨y0_56, rfl, rfl, (iv_w hy0_56 (by decide))⟩, by rw [ht]; exact hP, va_K.moved hW.alike hK, hD⟩, hS.F ht, by rw [ht]; exact hN⟩) hS.2.2 dX5_weightOf_56)))
  refine cw_sw hx hb hG hS hown (htb _ kw_1043) dX5_weightOf_0 ?_
  refine ec_aload_n hx hb dX5_weightOf_3 rfl (lv_at hl 1 rfl) ?_
  refine cr_get (t := 9) (j := 18) (C := RX3) (T := TX3) (N := 21) (v := eV (ad 33) (gm 25 o.toNatClampNeg)) hx hb htb inX3 hown hK hP hvo (by decide) (by decide) (by decide) rfl (by decide) (htb _ kw_1044) rfl dX5_weightOf_4 ?_
  obtain ⟨z_6, ez_6⟩ : ∃ z : Int32, z = (gm 25 o.toNatClampNeg) := ⟨_, rfl⟩
  refine W.eq (g2 := F0 m 7 ls [eV (ad 33) z_6, eV (ad 36) 0]) (by rw [ez_6]) ?_
  have hz_6 : iv (-1) 33 z_6 := iv_of ez_6 (CI_a hI 25 hvo (by decide))
  have h_7 : iv 0 33 z_6 := ⟨by rw [ez_6]; exact hk0, (hz_6).2⟩
  refine cw_ord ⟨hx, hb, hml, hown, htb⟩ kw_1045 h_7 hl.1 (Nat.le_trans (cs_c (eV_cat _ _) cs_n) (by decide)) dX5_weightOf_7 ⟨Nat.le_of_ble_eq_true rfl, Nat.le_of_ble_eq_true rfl⟩ ⟨Nat.le_of_ble_eq_true rfl, Nat.le_of_ble_eq_true rfl⟩ hP hD hS hA hG (fun H locs hP hS => ?_)
  refine cw_swld (iv_k (by decide) : iv 0 0 0) hx hb hG hS h_7 dX5_weightOf_10 ?_
  refine lv_topi (fun z_8 ez_8 => ?_)
  have hz_8 : iv 0 29 z_8 := iv_of ez_8 (sw_iv z_6)
  by_cases c_9 : (z_8 : Int32).toInt = 12
  · refine lv_tableIn (tgt := 57) hx hb dX5_weightOf_11 (by rw [c_9]; decide) (by rw [c_9]; decide) (by rw [c_9]; rfl) (by decide) ?_
    have h_10 : iv 12 12 z_8 := iv_at c_9
    refine lv_iload_n hx hb dX5_weightOf_57 rfl (lv_at hl 3 rfl) ?_
    refine lv_iconst (v := 4) hx hb dX5_weightOf_58 (by decide) ?_
    refine lv_icmp_ne (tgt := 66) hx hb dX5_weightOf_59 (by decide) (fun c_11 => ?_) (fun c_11 => ?_)
    · have d_12 : ¬ (kd : Int32).toInt = 4 := lv_neT c_11 rfl
      refine lv_iconst (v := (-1)) hx hb dX5_weightOf_66 (by decide) ?_
      exact hj67 (-1) hvx hvo hvsl (iv_w (iv_k (by decide) : iv (-1) (-1) (-1)) (by decide)) _ _ _ hP hD hS (lv_sub hl [0, 1, 2, 3] rfl)
    · have h_13 : iv 4 4 kd := iv_eq c_11 (iv_all kd) (iv_k (by decide) : iv 4 4 4) (by decide)
      refine lv_iconst (v := 0) hx hb dX5_weightOf_62 (by decide) ?_
      refine lv_goto (tgt := 67) hx hb dX5_weightOf_63 (by decide) ?_
      exact hj67 0 hvx hvo hvsl (iv_w (iv_k (by decide) : iv 0 0 0) (by decide)) _ _ _ hP hD hS (lv_sub hl [0, 1, 2, 3] rfl)
  by_cases c_14 : (z_8 : Int32).toInt = 13
  · refine lv_tableIn (tgt := 40) hx hb dX5_weightOf_11 (by rw [c_14]; decide) (by rw [c_14]; decide) (by rw [c_14]; rfl) (by decide) ?_
    have h_15 : iv 13 13 z_8 := iv_at c_14
    refine ec_aload_n hx hb dX5_weightOf_40 rfl (lv_at hl 1 rfl) ?_
    refine lv_iload_n hx hb dX5_weightOf_41 rfl (lv_at hl 3 rfl) ?_
    refine cm_callS (rest := []) (as := [eV (ad 9) o, .int kd]) ⟨hx, hb, hml, hown, htb⟩ (d_textWeight l dC dI ad cid a2 lx sg gm lg o kd hI hvo) (va_cwS 2 htb (gd_S kw_1046 kw_1047 kw_40 kw_1576) rfl rfl rfl (by decide +kernel) ⟨Nat.le_of_ble_eq_true rfl, Nat.le_of_ble_eq_true rfl⟩)  rfl hl.1 rfl (Nat.le_trans cs_n (by decide)) dX5_weightOf_42 ⟨Nat.le_of_ble_eq_true rfl, Nat.le_of_ble_eq_true rfl⟩ hK hP hD hS hA hG (fun E ce q9 u_17 H locs hw hP hD hS hce hcv hcl => ?_) (fun v9 u_17 H locs hw hP hD hS => ?_)
    · exact hw.elim
    obtain ⟨r_16, rfl, rfl, hr_16⟩ := hw
    have hP : va_P (dC, dI) vwCl (cW ad cid a2 lx sg gm lg) H := hP
    have hD : va_D A (cW ad cid a2 lx sg gm lg) := hD
    refine W.eq (g2 := F0 m 45 ls [.int r_16]) rfl ?_
    exact W.nb (fun hN => W.widen (k := 1) (n := 6) (by decide) (by decide) (vx_ret (W.iret (v := r_16) hx hb hr (fun t ht hW => ⟨⟨some (.int r_16), (sg, gm, lg), rfl, ⟨r_16, rfl, rfl, (iv_w hr_16 (by decide))⟩, by rw [ht]; exact hP, va_K.moved hW.alike hK, hD⟩, hS.F ht, by rw [ht]; exact hN⟩) hS.2.2 dX5_weightOf_45)))
  by_cases c_19 : (z_8 : Int32).toInt = 14
  · refine lv_tableIn (tgt := 68) hx hb dX5_weightOf_11 (by rw [c_19]; decide) (by rw [c_19]; decide) (by rw [c_19]; rfl) (by decide) ?_
    have h_20 : iv 14 14 z_8 := iv_at c_19
    exact hj68 hvx hvo hvsl ((by have := swx 6 12 (by decide) (h_7) ez_8 (by omega); have := swx 7 13 (by decide) (h_7) ez_8 (by omega); have := swx 9 15 (by decide) (h_7) ez_8 (by omega); have q9 := congrArg Int32.toInt ez_6; rcases hwk with q | q | q | q; (omega); (omega); (omega); (exact q))) _ _ _ hP hD hS (lv_sub hl [0, 1, 2, 3] rfl)
  by_cases c_21 : (z_8 : Int32).toInt = 15
  · refine lv_tableIn (tgt := 46) hx hb dX5_weightOf_11 (by rw [c_21]; decide) (by rw [c_21]; decide) (by rw [c_21]; rfl) (by decide) ?_
    have h_22 : iv 15 15 z_8 := iv_at c_21
    refine lv_iload_n hx hb dX5_weightOf_46 rfl (lv_at hl 3 rfl) ?_
    refine lv_iconst (v := 3) hx hb dX5_weightOf_47 (by decide) ?_
    refine lv_icmp_lt (tgt := 55) hx hb dX5_weightOf_48 (by decide) (fun c_23 => ?_) (fun c_23 => ?_)
    · have h_24 : iv (-2147483648) 2 kd := iv_ltL c_23 (iv_all kd) (iv_k (by decide) : iv 3 3 3) (by decide)
      refine lv_iconst (v := (-1)) hx hb dX5_weightOf_55 (by decide) ?_
      exact hj56 (-1) hvx hvo hvsl (iv_w (iv_k (by decide) : iv (-1) (-1) (-1)) (by decide)) _ _ _ hP hD hS (lv_sub hl [0, 1, 2, 3] rfl)
    · have h_25 : iv 3 2147483647 kd := iv_leR (i32_ge c_23) (iv_k (by decide) : iv 3 3 3) (iv_all kd) (by decide)
      refine lv_iconst (v := 0) hx hb dX5_weightOf_51 (by decide) ?_
      refine lv_goto (tgt := 56) hx hb dX5_weightOf_52 (by decide) ?_
      exact hj56 0 hvx hvo hvsl (iv_w (iv_k (by decide) : iv 0 0 0) (by decide)) _ _ _ hP hD hS (lv_sub hl [0, 1, 2, 3] rfl)
  refine lv_tableOut (tgt := 68) hx hb dX5_weightOf_11 (by have q1 := (hz_8).1; have q2 := (hz_8).2; omega) (by decide) ?_
  exact hj68 hvx hvo hvsl ((by have := swx 6 12 (by decide) (h_7) ez_8 (by omega); have := swx 7 13 (by decide) (h_7) ez_8 (by omega); have := swx 9 15 (by decide) (h_7) ez_8 (by omega); have q9 := congrArg Int32.toInt ez_6; rcases hwk with q | q | q | q; (omega); (omega); (omega); (exact q))) _ _ _ hP hD hS (lv_sub hl [0, 1, 2, 3] rfl)

set_option maxHeartbeats 4000000 in
set_option maxRecDepth 100000 in
theorem d_textValue (l : Launch) (dC : Nat → ClassId) (dI : Nat → Nat → Nat) (ad : Nat → Nat → Nat) (cid : Nat → ClassId) (a2 : Nat → Nat) (lx : List Nat) (sg : Nat → Int32) (gm : Nat → Nat → Int32) (lg : Nat → Nat → Int64) (o : Int32) (kd : Int32) (hI : CI sg gm) (hvo : iv 0 79 o) : CMt dC dI ad cid a2 lx l yX5_textValue wm_X5_textValue ({ frames := 0, cells := 1, slots := 6, locals := 0 }) [eV (ad 9) o, .int kd] sg gm lg (fun v u => ∃ r : Int32, v = some (.int r) ∧ u = (sg, gm, lg)) (fun _ _ => False) := by
  intro sz
  refine vx_ofW (cc := cX5_textValue) (maxL := 2) (ret := (some .int)) (by decide) rfl ?_
  intro p e s m args below meth c s₁ B hml hxt hv
  obtain ⟨rfl, hsz, hP, hK, hD0, hG⟩ := hv
  have hx := B.exec
  have hb := B.bytes
  have hr := B.returns
  have hts := atoms_spec (ws := wm_X5_textValue) B.pre
  have htb := fun (w : Cond) (h : w ∈ tb) => hts w (List.mem_cons_of_mem _ h)
  have hown : s.vm.findClass RX5 = some m.cls := findClass_of_methodNamed B.named
  have hlocks := B.notSynchronized
  subst hsz
  have hD := hD0.self (sz := s.heap.size)
  generalize hAe : va_A (cW ad cid a2 lx sg gm lg) s.heap.size = A at hD hG ⊢
  have hA : ∀ q : Nat, s.heap.size ≤ q → A q := fun q h => by rw [← hAe]; exact Or.inr h
  have hS : va_S A s.heap s.heap [] := va_S.rf
  have hl := lv_entry ([eV (ad 9) o, .int kd]) (n := 2) (by rw [show (lg_sl ([eV (ad 9) o, .int kd])).length = 2 from by simp [lg_sl, eV_cat, cat_i, cat_l]]; exact Nat.le_of_ble_eq_true rfl)
  rw [lg_entry_eq]
  generalize (lg_sl ([eV (ad 9) o, .int kd]) ++ List.replicate (2 - (lg_sl ([eV (ad 9) o, .int kd])).length) Slot.unset).toArray = ls at hl ⊢
  have hl : lv_has ls 2 [(0, eV (ad 9) o), (1, .int kd)] := by simp [lv_args, eV_cat, cat_i, cat_l] at hl; exact hl
  refine lv_iload_n hx hb dX5_textValue_0 rfl (lv_at hl 1 rfl) ?_
  by_cases c_1 : (kd : Int32).toInt = 0
  · refine lv_tableIn (tgt := 28) hx hb dX5_textValue_1 (by rw [c_1]; decide) (by rw [c_1]; decide) (by rw [c_1]; rfl) (by decide) ?_
    have h_2 : iv 0 0 kd := iv_at c_1
    refine ec_aload_n hx hb dX5_textValue_28 rfl (lv_at hl 0 rfl) ?_
    refine cr_get (t := 9) (j := 13) (C := RX3) (T := TX3) (N := 21) (v := .long (lg 3 o.toNatClampNeg)) hx hb htb inX3 hown hK hP hvo (by decide) (by decide) (by decide) rfl (by decide) (htb _ kw_1048) rfl dX5_textValue_29 ?_
    refine lv_topl (fun z_3 ez_3 => ?_)
    refine lv_l2i (v := (z_3).toInt32) hx hb dX5_textValue_32 rfl ?_
    refine lv_topi (fun z_4 ez_4 => ?_)
    exact W.nb (fun hN => W.widen (k := 1) (n := 6) (by decide) (by decide) (vx_ret (W.iret (v := z_4) hx hb hr (fun t ht hW => ⟨⟨some (.int z_4), (sg, gm, lg), rfl, ⟨z_4, rfl, rfl⟩, by rw [ht]; exact hP, va_K.moved hW.alike hK, hD⟩, hS.F ht, by rw [ht]; exact hN⟩) hS.2.2 dX5_textValue_33)))
  by_cases c_5 : (kd : Int32).toInt = 1
  · refine lv_tableIn (tgt := 34) hx hb dX5_textValue_1 (by rw [c_5]; decide) (by rw [c_5]; decide) (by rw [c_5]; rfl) (by decide) ?_
    have h_6 : iv 1 1 kd := iv_at c_5
    refine ec_aload_n hx hb dX5_textValue_34 rfl (lv_at hl 0 rfl) ?_
    refine cr_get (t := 9) (j := 14) (C := RX3) (T := TX3) (N := 21) (v := .int (gm 21 o.toNatClampNeg)) hx hb htb inX3 hown hK hP hvo (by decide) (by decide) (by decide) rfl (by decide) (htb _ kw_1050) rfl dX5_textValue_35 ?_
    obtain ⟨z_7, ez_7⟩ : ∃ z : Int32, z = (gm 21 o.toNatClampNeg) := ⟨_, rfl⟩
    refine W.eq (g2 := F0 m 38 ls [.int z_7]) (by rw [ez_7]) ?_
    have hz_7 : iv (-1) 1 z_7 := iv_of ez_7 (CI_a hI 21 hvo (by decide))
    exact W.nb (fun hN => W.widen (k := 1) (n := 6) (by decide) (by decide) (vx_ret (W.iret (v := z_7) hx hb hr (fun t ht hW => ⟨⟨some (.int z_7), (sg, gm, lg), rfl, ⟨z_7, rfl, rfl⟩, by rw [ht]; exact hP, va_K.moved hW.alike hK, hD⟩, hS.F ht, by rw [ht]; exact hN⟩) hS.2.2 dX5_textValue_38)))
  by_cases c_8 : (kd : Int32).toInt = 2
  · refine lv_tableIn (tgt := 39) hx hb dX5_textValue_1 (by rw [c_8]; decide) (by rw [c_8]; decide) (by rw [c_8]; rfl) (by decide) ?_
    have h_9 : iv 2 2 kd := iv_at c_8
    refine ec_aload_n hx hb dX5_textValue_39 rfl (lv_at hl 0 rfl) ?_
    refine cr_get (t := 9) (j := 0) (C := RX3) (T := TX3) (N := 21) (v := eV (ad 31) o) hx hb htb inX3 hown hK hP hvo (by decide) (by decide) (by decide) rfl (by decide) (htb _ kw_1068) (cV_c rfl (hvo).1 (by rw [show cMu 9 0 = 1 from rfl, Nat.one_mul]; rfl)) dX5_textValue_40 ?_
    refine lv_iconst (v := 0) hx hb dX5_textValue_43 (by decide) ?_
    refine cr_cald (t := 31) (z := (gm 56 (24 * o.toNatClampNeg + (0 : Int32).toNatClampNeg))) hx hb hK hP hvo (by decide) (by decide) (by decide) rfl rfl (show vp_in 0 (cLen 31) from (show vp_in 0 24 from (iv_in (iv_k (by decide) : iv 0 0 0) (by decide)))) (cAi_w rfl (by decide) rfl (vin_lt (show vp_in 0 (cLen 31) from (show vp_in 0 24 from (iv_in (iv_k (by decide) : iv 0 0 0) (by decide)))))) dX5_textValue_44 ?_
    obtain ⟨z_10, ez_10⟩ : ∃ z : Int32, z = (gm 56 (24 * o.toNatClampNeg + (0 : Int32).toNatClampNeg)) := ⟨_, rfl⟩
    refine W.eq (g2 := F0 m 45 ls [.int z_10]) (by rw [ez_10]) ?_
    have hz_10 : iv 0 65535 z_10 := iv_of ez_10 (CI_n hI 56 (show _ < crLen 56 from vin_w (show vp_in 0 (cLen 31) from (show vp_in 0 24 from (iv_in (iv_k (by decide) : iv 0 0 0) (by decide)))) (hvo) (by decide)))
    exact W.nb (fun hN => W.widen (k := 1) (n := 6) (by decide) (by decide) (vx_ret (W.iret (v := z_10) hx hb hr (fun t ht hW => ⟨⟨some (.int z_10), (sg, gm, lg), rfl, ⟨z_10, rfl, rfl⟩, by rw [ht]; exact hP, va_K.moved hW.alike hK, hD⟩, hS.F ht, by rw [ht]; exact hN⟩) hS.2.2 dX5_textValue_45)))
  refine lv_tableOut (tgt := 46) hx hb dX5_textValue_1 (by have q1 := ((iv_all kd)).1; have q2 := ((iv_all kd)).2; omega) (by decide) ?_
  refine lv_sipush (v := 1000) hx hb dX5_textValue_46 (by decide) ?_
  refine ec_aload_n hx hb dX5_textValue_49 rfl (lv_at hl 0 rfl) ?_
  refine cr_get (t := 9) (j := 1) (C := RX3) (T := TX3) (N := 21) (v := .int (gm 11 o.toNatClampNeg)) hx hb htb inX3 hown hK hP hvo (by decide) (by decide) (by decide) rfl (by decide) (htb _ kw_1051) rfl dX5_textValue_50 ?_
  obtain ⟨z_11, ez_11⟩ : ∃ z : Int32, z = (gm 11 o.toNatClampNeg) := ⟨_, rfl⟩
  refine W.eq (g2 := F0 m 53 ls [.int z_11, .int 1000]) (by rw [ez_11]) ?_
  have hz_11 : iv 0 24 z_11 := iv_of ez_11 (CI_a hI 11 hvo (by decide))
  refine lv_iadd hx hb dX5_textValue_53 ?_
  refine lv_topi (fun z_12 ez_12 => ?_)
  have hz_12 : iv 1000 1024 z_12 := iv_of ez_12 (iv_add (iv_k (by decide) : iv 1000 1000 1000) hz_11 (by decide))
  have tz_12 : z_12.toInt = 1000 + (z_11 : Int32).toInt := by rw [ez_12]; exact iv_addE (iv_k (by decide) : iv 1000 1000 1000) hz_11 (by decide)
  exact W.nb (fun hN => W.widen (k := 1) (n := 6) (by decide) (by decide) (vx_ret (W.iret (v := z_12) hx hb hr (fun t ht hW => ⟨⟨some (.int z_12), (sg, gm, lg), rfl, ⟨z_12, rfl, rfl⟩, by rw [ht]; exact hP, va_K.moved hW.alike hK, hD⟩, hS.F ht, by rw [ht]; exact hN⟩) hS.2.2 dX5_textValue_54)))

set_option maxHeartbeats 4000000 in
set_option maxRecDepth 100000 in
theorem d_valueOf (l : Launch) (dC : Nat → ClassId) (dI : Nat → Nat → Nat) (ad : Nat → Nat → Nat) (cid : Nat → ClassId) (a2 : Nat → Nat) (lx : List Nat) (sg : Nat → Int32) (gm : Nat → Nat → Int32) (lg : Nat → Nat → Int64) (x : Int32) (o : Int32) (sl : Int32) (kd : Int32) (hI : CI sg gm) (hvx : iv 0 0 x) (hvo : iv 0 79 o) (hvsl : iv 0 954 sl) (hk0 : 0 ≤ (gm 25 o.toNatClampNeg).toInt) : CMt dC dI ad cid a2 lx l yX5_valueOf wm_X5_valueOf ({ frames := 1, cells := 1, slots := 6, locals := 21 }) [eV (ad 6) x, eV (ad 9) o, .int sl, .int kd] sg gm lg (fun v u => ∃ r : Int32, v = some (.int r) ∧ u = (sg, gm, lg)) (fun _ _ => False) := by
  intro sz
  refine vx_ofW (cc := cX5_valueOf) (maxL := 4) (ret := (some .int)) (by decide) rfl ?_
  intro p e s m args below meth c s₁ B hml hxt hv
  obtain ⟨rfl, hsz, hP, hK, hD0, hG⟩ := hv
  have hx := B.exec
  have hb := B.bytes
  have hr := B.returns
  have hts := atoms_spec (ws := wm_X5_valueOf) B.pre
  have htb := fun (w : Cond) (h : w ∈ tb) => hts w (List.mem_cons_of_mem _ h)
  have hown : s.vm.findClass RX5 = some m.cls := findClass_of_methodNamed B.named
  have hlocks := B.notSynchronized
  subst hsz
  have hD := hD0.self (sz := s.heap.size)
  generalize hAe : va_A (cW ad cid a2 lx sg gm lg) s.heap.size = A at hD hG ⊢
  have hA : ∀ q : Nat, s.heap.size ≤ q → A q := fun q h => by rw [← hAe]; exact Or.inr h
  have hS : va_S A s.heap s.heap [] := va_S.rf
  have hl := lv_entry ([eV (ad 6) x, eV (ad 9) o, .int sl, .int kd]) (n := 4) (by rw [show (lg_sl ([eV (ad 6) x, eV (ad 9) o, .int sl, .int kd])).length = 4 from by simp [lg_sl, eV_cat, cat_i, cat_l]]; exact Nat.le_of_ble_eq_true rfl)
  rw [lg_entry_eq]
  generalize (lg_sl ([eV (ad 6) x, eV (ad 9) o, .int sl, .int kd]) ++ List.replicate (4 - (lg_sl ([eV (ad 6) x, eV (ad 9) o, .int sl, .int kd])).length) Slot.unset).toArray = ls at hl ⊢
  have hl : lv_has ls 4 [(0, eV (ad 6) x), (1, eV (ad 9) o), (2, .int sl), (3, .int kd)] := by simp [lv_args, eV_cat, cat_i, cat_l] at hl; exact hl
  have hj57 : ∀ (_ : iv 0 0 x) (_ : iv 0 79 o) (_ : iv 0 954 sl) (H : Heap) (locs : List Loc) (ls : Array Slot), va_P (dC, dI) vwCl (cW ad cid a2 lx sg gm lg) H → va_D A (cW ad cid a2 lx sg gm lg) → va_S A s.heap H locs → lv_has ls 4 [(0, eV (ad 6) x), (1, eV (ad 9) o), (2, .int sl), (3, .int kd)] → W p l e (headSpec wm_X5_valueOf ({ frames := 1, cells := 1, slots := 6, locals := 21 })).room s m ([eV (ad 6) x, eV (ad 9) o, .int sl, .int kd] : List Value).toArray below meth c H locs 0 0 (vx_MQ below (cQx dC dI ad cid a2 lx (fun v u => ∃ r : Int32, v = some (.int r) ∧ u = (sg, gm, lg)) A) (cX dC dI ad cid a2 lx (fun _ _ => False) A) ([eV (ad 6) x, eV (ad 9) o, .int sl, .int kd] : List Value).toArray s 1 6 A) (F0 m 57 ls []) := by
    intro  hsx0_57 hsx1_57 hsx2_57 H locs ls hP hD hS hl
    refine lv_sipush (v := 3000) hx hb dX5_valueOf_57 (by decide) ?_
    refine ec_aload_n hx hb dX5_valueOf_60 rfl (lv_at hl 0 rfl) ?_
    refine cr_get (t := 6) (j := 8) (C := RX5) (T := TX5) (N := 13) (v := eV (ad 25) 0) hx hb htb inX5 hown hK hP hsx0_57 (by decide) (by decide) (by decide) rfl (by decide) (htb _ kw_128) (cV_c rfl (by decide) (by rw [show cMu 6 8 = 0 from rfl, Nat.zero_mul]; rfl)) dX5_valueOf_61 ?_
    refine lv_iload_n hx hb dX5_valueOf_64 rfl (lv_at hl 2 rfl) ?_
    refine cr_iald (t := 25) (z := (gm 52 (sl : Int32).toNatClampNeg)) hx hb hK hP (iv_k (by decide) : iv 0 0 0) (by decide) (by decide) (by decide) rfl rfl (show vp_in sl (cLen 25) from (show vp_in sl 960 from (iv_in hsx2_57 (by decide)))) rfl dX5_valueOf_65 ?_
    obtain ⟨z_1, ez_1⟩ : ∃ z : Int32, z = (gm 52 (sl : Int32).toNatClampNeg) := ⟨_, rfl⟩
    refine W.eq (g2 := F0 m 66 ls [.int z_1, .int 3000]) (by rw [ez_1]) ?_
    refine lv_iadd hx hb dX5_valueOf_66 ?_
    refine lv_topi (fun z_2 ez_2 => ?_)
    exact W.nb (fun hN => W.widen (k := 1) (n := 6) (by decide) (by decide) (vx_ret (W.iret (v := z_2) hx hb hr (fun t ht hW => ⟨⟨some (.int z_2), (sg, gm, lg), rfl, ⟨z_2, rfl, rfl⟩, by rw [ht]; exact hP, va_K.moved hW.alike hK, hD⟩, hS.F ht, by rw [ht]; exact hN⟩) hS.2.2 dX5_valueOf_67)))
  refine cw_sw hx hb hG hS hown (htb _ kw_1043) dX5_valueOf_0 ?_
  refine ec_aload_n hx hb dX5_valueOf_3 rfl (lv_at hl 1 rfl) ?_
  refine cr_get (t := 9) (j := 18) (C := RX3) (T := TX3) (N := 21) (v := eV (ad 33) (gm 25 o.toNatClampNeg)) hx hb htb inX3 hown hK hP hvo (by decide) (by decide) (by decide) rfl (by decide) (htb _ kw_1044) rfl dX5_valueOf_4 ?_
  obtain ⟨z_3, ez_3⟩ : ∃ z : Int32, z = (gm 25 o.toNatClampNeg) := ⟨_, rfl⟩
  refine W.eq (g2 := F0 m 7 ls [eV (ad 33) z_3, eV (ad 36) 0]) (by rw [ez_3]) ?_
  have hz_3 : iv (-1) 33 z_3 := iv_of ez_3 (CI_a hI 25 hvo (by decide))
  have h_4 : iv 0 33 z_3 := ⟨by rw [ez_3]; exact hk0, (hz_3).2⟩
  refine cw_ord ⟨hx, hb, hml, hown, htb⟩ kw_1045 h_4 hl.1 (Nat.le_trans (cs_c (eV_cat _ _) cs_n) (by decide)) dX5_valueOf_7 ⟨Nat.le_of_ble_eq_true rfl, Nat.le_of_ble_eq_true rfl⟩ ⟨Nat.le_of_ble_eq_true rfl, Nat.le_of_ble_eq_true rfl⟩ hP hD hS hA hG (fun H locs hP hS => ?_)
  refine cw_swld (iv_k (by decide) : iv 0 0 0) hx hb hG hS h_4 dX5_valueOf_10 ?_
  refine lv_topi (fun z_5 ez_5 => ?_)
  have hz_5 : iv 0 29 z_5 := iv_of ez_5 (sw_iv z_3)
  by_cases c_6 : (z_5 : Int32).toInt = 12
  · refine lv_tableIn (tgt := 48) hx hb dX5_valueOf_11 (by rw [c_6]; decide) (by rw [c_6]; decide) (by rw [c_6]; rfl) (by decide) ?_
    have h_7 : iv 12 12 z_5 := iv_at c_6
    refine lv_sipush (v := 2000) hx hb dX5_valueOf_48 (by decide) ?_
    refine ec_aload_n hx hb dX5_valueOf_51 rfl (lv_at hl 1 rfl) ?_
    refine cr_get (t := 9) (j := 8) (C := RX3) (T := TX3) (N := 21) (v := .int (gm 18 o.toNatClampNeg)) hx hb htb inX3 hown hK hP hvo (by decide) (by decide) (by decide) rfl (by decide) (htb _ kw_1062) rfl dX5_valueOf_52 ?_
    obtain ⟨z_8, ez_8⟩ : ∃ z : Int32, z = (gm 18 o.toNatClampNeg) := ⟨_, rfl⟩
    refine W.eq (g2 := F0 m 55 ls [.int z_8, .int 2000]) (by rw [ez_8]) ?_
    have hz_8 : iv 0 2000000 z_8 := iv_of ez_8 (CI_a hI 18 hvo (by decide))
    refine lv_iadd hx hb dX5_valueOf_55 ?_
    refine lv_topi (fun z_9 ez_9 => ?_)
    have hz_9 : iv 2000 2002000 z_9 := iv_of ez_9 (iv_add (iv_k (by decide) : iv 2000 2000 2000) hz_8 (by decide))
    have tz_9 : z_9.toInt = 2000 + (z_8 : Int32).toInt := by rw [ez_9]; exact iv_addE (iv_k (by decide) : iv 2000 2000 2000) hz_8 (by decide)
    exact W.nb (fun hN => W.widen (k := 1) (n := 6) (by decide) (by decide) (vx_ret (W.iret (v := z_9) hx hb hr (fun t ht hW => ⟨⟨some (.int z_9), (sg, gm, lg), rfl, ⟨z_9, rfl, rfl⟩, by rw [ht]; exact hP, va_K.moved hW.alike hK, hD⟩, hS.F ht, by rw [ht]; exact hN⟩) hS.2.2 dX5_valueOf_56)))
  by_cases c_10 : (z_5 : Int32).toInt = 13
  · refine lv_tableIn (tgt := 40) hx hb dX5_valueOf_11 (by rw [c_10]; decide) (by rw [c_10]; decide) (by rw [c_10]; rfl) (by decide) ?_
    have h_11 : iv 13 13 z_5 := iv_at c_10
    refine ec_aload_n hx hb dX5_valueOf_40 rfl (lv_at hl 1 rfl) ?_
    refine lv_iload_n hx hb dX5_valueOf_41 rfl (lv_at hl 3 rfl) ?_
    refine cm_callS (rest := []) (as := [eV (ad 9) o, .int kd]) ⟨hx, hb, hml, hown, htb⟩ (d_textValue l dC dI ad cid a2 lx sg gm lg o kd hI hvo) (va_cwS 2 htb (gd_S kw_1066 kw_1067 kw_40 kw_1581) rfl rfl rfl (by decide +kernel) ⟨Nat.le_of_ble_eq_true rfl, Nat.le_of_ble_eq_true rfl⟩)  rfl hl.1 rfl (Nat.le_trans cs_n (by decide)) dX5_valueOf_42 ⟨Nat.le_of_ble_eq_true rfl, Nat.le_of_ble_eq_true rfl⟩ hK hP hD hS hA hG (fun E ce q9 u_13 H locs hw hP hD hS hce hcv hcl => ?_) (fun v9 u_13 H locs hw hP hD hS => ?_)
    · exact hw.elim
    obtain ⟨r_12, rfl, rfl⟩ := hw
    have hP : va_P (dC, dI) vwCl (cW ad cid a2 lx sg gm lg) H := hP
    have hD : va_D A (cW ad cid a2 lx sg gm lg) := hD
    refine W.eq (g2 := F0 m 45 ls [.int r_12]) rfl ?_
    exact W.nb (fun hN => W.widen (k := 1) (n := 6) (by decide) (by decide) (vx_ret (W.iret (v := r_12) hx hb hr (fun t ht hW => ⟨⟨some (.int r_12), (sg, gm, lg), rfl, ⟨r_12, rfl, rfl⟩, by rw [ht]; exact hP, va_K.moved hW.alike hK, hD⟩, hS.F ht, by rw [ht]; exact hN⟩) hS.2.2 dX5_valueOf_45)))
  by_cases c_15 : (z_5 : Int32).toInt = 14
  · refine lv_tableIn (tgt := 57) hx hb dX5_valueOf_11 (by rw [c_15]; decide) (by rw [c_15]; decide) (by rw [c_15]; rfl) (by decide) ?_
    have h_16 : iv 14 14 z_5 := iv_at c_15
    exact hj57 hvx hvo hvsl _ _ _ hP hD hS (lv_sub hl [0, 1, 2, 3] rfl)
  by_cases c_17 : (z_5 : Int32).toInt = 15
  · refine lv_tableIn (tgt := 46) hx hb dX5_valueOf_11 (by rw [c_17]; decide) (by rw [c_17]; decide) (by rw [c_17]; rfl) (by decide) ?_
    have h_18 : iv 15 15 z_5 := iv_at c_17
    refine lv_iconst (v := (-1)) hx hb dX5_valueOf_46 (by decide) ?_
    exact W.nb (fun hN => W.widen (k := 1) (n := 6) (by decide) (by decide) (vx_ret (W.iret (v := (-1)) hx hb hr (fun t ht hW => ⟨⟨some (.int (-1)), (sg, gm, lg), rfl, ⟨(-1), rfl, rfl⟩, by rw [ht]; exact hP, va_K.moved hW.alike hK, hD⟩, hS.F ht, by rw [ht]; exact hN⟩) hS.2.2 dX5_valueOf_47)))
  refine lv_tableOut (tgt := 57) hx hb dX5_valueOf_11 (by have q1 := (hz_5).1; have q2 := (hz_5).2; omega) (by decide) ?_
  exact hj57 hvx hvo hvsl _ _ _ hP hD hS (lv_sub hl [0, 1, 2, 3] rfl)

set_option maxHeartbeats 4000000 in
set_option maxRecDepth 100000 in
theorem d_tellValue (l : Launch) (dC : Nat → ClassId) (dI : Nat → Nat → Nat) (ad : Nat → Nat → Nat) (cid : Nat → ClassId) (a2 : Nat → Nat) (lx : List Nat) (sg : Nat → Int32) (gm : Nat → Nat → Int32) (lg : Nat → Nat → Int64) (x : Int32) (wh : Int32) (ab : Int32) (sc : Int32) (o : Int32) (sl : Int32) (kd : Int32) (hI : CI sg gm) (hvx : iv 0 0 x) (hvo : iv 0 79 o) (hvsl : iv 0 954 sl) (hk0 : 0 ≤ (gm 25 o.toNatClampNeg).toInt) : CMt dC dI ad cid a2 lx l yX5_tellValue wm_X5_tellValue ({ frames := 2, cells := 1, slots := 6, locals := 44 }) [eV (ad 6) x, .int wh, .int ab, .int sc, eV (ad 9) o, .int sl, .int kd] sg gm lg (fun v u => v = none ∧ ∃ (sg2 : Nat → Int32) (gm2 : Nat → Nat → Int32) (lg2 : Nat → Nat → Int64), u = (sg2, gm2, lg2) ∧ CI sg2 gm2 ∧ KS [13] sg sg2 ∧ KS [48] gm gm2 ∧ KS [] lg lg2) (fun _ _ => False) := by
  intro sz
  refine vx_ofW (cc := cX5_tellValue) (maxL := 8) (ret := none) (by decide) rfl ?_
  intro p e s m args below meth c s₁ B hml hxt hv
  obtain ⟨rfl, hsz, hP, hK, hD0, hG⟩ := hv
  have hx := B.exec
  have hb := B.bytes
  have hr := B.returns
  have hts := atoms_spec (ws := wm_X5_tellValue) B.pre
  have htb := fun (w : Cond) (h : w ∈ tb) => hts w (List.mem_cons_of_mem _ h)
  have hown : s.vm.findClass RX5 = some m.cls := findClass_of_methodNamed B.named
  have hlocks := B.notSynchronized
  subst hsz
  have hD := hD0.self (sz := s.heap.size)
  generalize hAe : va_A (cW ad cid a2 lx sg gm lg) s.heap.size = A at hD hG ⊢
  have hA : ∀ q : Nat, s.heap.size ≤ q → A q := fun q h => by rw [← hAe]; exact Or.inr h
  have hS : va_S A s.heap s.heap [] := va_S.rf
  have hl := lv_entry ([eV (ad 6) x, .int wh, .int ab, .int sc, eV (ad 9) o, .int sl, .int kd]) (n := 8) (by rw [show (lg_sl ([eV (ad 6) x, .int wh, .int ab, .int sc, eV (ad 9) o, .int sl, .int kd])).length = 7 from by simp [lg_sl, eV_cat, cat_i, cat_l]]; exact Nat.le_of_ble_eq_true rfl)
  rw [lg_entry_eq]
  generalize (lg_sl ([eV (ad 6) x, .int wh, .int ab, .int sc, eV (ad 9) o, .int sl, .int kd]) ++ List.replicate (8 - (lg_sl ([eV (ad 6) x, .int wh, .int ab, .int sc, eV (ad 9) o, .int sl, .int kd])).length) Slot.unset).toArray = ls at hl ⊢
  have hl : lv_has ls 8 [(0, eV (ad 6) x), (1, .int wh), (2, .int ab), (3, .int sc), (4, eV (ad 9) o), (5, .int sl), (6, .int kd)] := by simp [lv_args, eV_cat, cat_i, cat_l] at hl; exact hl
  have hj79 : ∀ (sg_j79 : Nat → Int32) (gm_j79 : Nat → Nat → Int32) (_ : iv 0 0 x) (_ : iv 0 79 o) (_ : iv 0 954 sl) (_ : KS [13] sg sg_j79) (_ : KS [48] gm gm_j79) (_ : CI sg_j79 gm_j79) (H : Heap) (locs : List Loc) (ls : Array Slot), va_P (dC, dI) vwCl (cW ad cid a2 lx sg_j79 gm_j79 lg) H → va_D A (cW ad cid a2 lx sg_j79 gm_j79 lg) → va_S A s.heap H locs → lv_has ls 8 [(0, eV (ad 6) x), (1, .int wh), (2, .int ab), (3, .int sc), (4, eV (ad 9) o), (5, .int sl), (6, .int kd)] → W p l e (headSpec wm_X5_tellValue ({ frames := 2, cells := 1, slots := 6, locals := 44 })).room s m ([eV (ad 6) x, .int wh, .int ab, .int sc, eV (ad 9) o, .int sl, .int kd] : List Value).toArray below meth c H locs 0 0 (vx_MQ below (cQx dC dI ad cid a2 lx (fun v u => v = none ∧ ∃ (sg2 : Nat → Int32) (gm2 : Nat → Nat → Int32) (lg2 : Nat → Nat → Int64), u = (sg2, gm2, lg2) ∧ CI sg2 gm2 ∧ KS [13] sg sg2 ∧ KS [48] gm gm2 ∧ KS [] lg lg2) A) (cX dC dI ad cid a2 lx (fun _ _ => False) A) ([eV (ad 6) x, .int wh, .int ab, .int sc, eV (ad 9) o, .int sl, .int kd] : List Value).toArray s 1 6 A) (F0 m 79 ls []) := by
    intro sg_j79 gm_j79 hsx0_79 hsx4_79 hsx5_79 hks_j79 hkg_j79 hI_j79 H locs ls hP hD hS hl
    exact W.nb (fun hN => W.widen (k := 1) (n := 6) (by decide) (by decide) (vx_ret (W.vret hx hb hr (fun t ht hW => ⟨⟨none, (sg_j79, gm_j79, lg), rfl, ⟨rfl, sg_j79, gm_j79, lg, rfl, hI_j79, (KS_tr (L := [13]) KS_rf hks_j79 (by decide)), (KS_tr (L := [48]) KS_rf hkg_j79 (by decide)), KS_rf⟩, by rw [ht]; exact hP, va_K.moved hW.alike hK, hD⟩, hS.F ht, by rw [ht]; exact hN⟩) hS.2.2 dX5_tellValue_79)))
  have hj34 : ∀ (n : Nat) (sg_j34 : Nat → Int32) (gm_j34 : Nat → Nat → Int32) (x7_34 : Int32) (_ : (6 - x7_34.toInt).toNat = n) (_ : iv 0 6 x7_34) (_ : iv 0 0 x) (_ : iv 0 79 o) (_ : iv 0 954 sl) (_ : KS [13] sg sg_j34) (_ : KS [48] gm gm_j34) (_ : CI sg_j34 gm_j34) (H : Heap) (locs : List Loc) (ls : Array Slot), va_P (dC, dI) vwCl (cW ad cid a2 lx sg_j34 gm_j34 lg) H → va_D A (cW ad cid a2 lx sg_j34 gm_j34 lg) → va_S A s.heap H locs → lv_has ls 8 [(7, .int x7_34), (0, eV (ad 6) x), (1, .int wh), (2, .int ab), (3, .int sc), (4, eV (ad 9) o), (5, .int sl), (6, .int kd)] → W p l e (headSpec wm_X5_tellValue ({ frames := 2, cells := 1, slots := 6, locals := 44 })).room s m ([eV (ad 6) x, .int wh, .int ab, .int sc, eV (ad 9) o, .int sl, .int kd] : List Value).toArray below meth c H locs 0 0 (vx_MQ below (cQx dC dI ad cid a2 lx (fun v u => v = none ∧ ∃ (sg2 : Nat → Int32) (gm2 : Nat → Nat → Int32) (lg2 : Nat → Nat → Int64), u = (sg2, gm2, lg2) ∧ CI sg2 gm2 ∧ KS [13] sg sg2 ∧ KS [48] gm gm2 ∧ KS [] lg lg2) A) (cX dC dI ad cid a2 lx (fun _ _ => False) A) ([eV (ad 6) x, .int wh, .int ab, .int sc, eV (ad 9) o, .int sl, .int kd] : List Value).toArray s 1 6 A) (F0 m 34 ls []) := by
    intro n
    induction n using Nat.strongRecOn with
    | ind n ih34 =>
      intro sg_j34 gm_j34 x7_34 hn34 hx7_34 hsx0_34 hsx4_34 hsx5_34 hks_j34 hkg_j34 hI_j34 H locs ls hP hD hS hl
      refine lv_iload hx hb dX5_tellValue_34 (lv_at hl 0 rfl) ?_
      refine ec_aload hx hb dX5_tellValue_36 (lv_at hl 5 rfl) ?_
      refine cr_get (t := 9) (j := 8) (C := RX3) (T := TX3) (N := 21) (v := .int (gm_j34 18 o.toNatClampNeg)) hx hb htb inX3 hown hK hP hsx4_34 (by decide) (by decide) (by decide) rfl (by decide) (htb _ kw_1062) rfl dX5_tellValue_38 ?_
      obtain ⟨z_1, ez_1⟩ : ∃ z : Int32, z = (gm_j34 18 o.toNatClampNeg) := ⟨_, rfl⟩
      refine W.eq (g2 := F0 m 41 ls [.int z_1, .int x7_34]) (by rw [ez_1]) ?_
      have hz_1 : iv 0 2000000 z_1 := iv_of ez_1 (CI_a hI_j34 18 hsx4_34 (by decide))
      have ez_1 := ez_1.trans (congrFun (hkg_j34 18 (by decide)) _)
      refine lv_icmp_ge (tgt := 79) hx hb dX5_tellValue_41 (by decide) (fun c_2 => ?_) (fun c_2 => ?_)
      · have d_3 : (z_1 : Int32).toInt ≤ (x7_34 : Int32).toInt := Int32.le_iff_toInt_le.mp c_2
        have h_4 : iv 0 6 z_1 := iv_leL c_2 hz_1 hx7_34 (by decide)
        exact hj79 sg_j34 gm_j34 hsx0_34 hsx4_34 hsx5_34 (KS_tr (L := [13]) KS_rf hks_j34 (by decide)) (KS_tr (L := [48]) KS_rf hkg_j34 (by decide)) hI_j34 _ _ _ hP hD hS (lv_sub hl [1, 2, 3, 4, 5, 6, 7] rfl)
      · have d_5 : (x7_34 : Int32).toInt < (z_1 : Int32).toInt := Int32.lt_iff_toInt_lt.mp (i32_lt c_2)
        have h_6 : iv 1 2000000 z_1 := iv_ltR (i32_lt c_2) hx7_34 hz_1 (by decide)
        refine lv_iload hx hb dX5_tellValue_44 (lv_at hl 0 rfl) ?_
        refine lv_bipush (v := 6) hx hb dX5_tellValue_46 (by decide) ?_
        refine lv_icmp_ge (tgt := 79) hx hb dX5_tellValue_48 (by decide) (fun c_7 => ?_) (fun c_7 => ?_)
        · have h_8 : iv 6 6 x7_34 := iv_leR c_7 (iv_k (by decide) : iv 6 6 6) hx7_34 (by decide)
          exact hj79 sg_j34 gm_j34 hsx0_34 hsx4_34 hsx5_34 (KS_tr (L := [13]) KS_rf hks_j34 (by decide)) (KS_tr (L := [48]) KS_rf hkg_j34 (by decide)) hI_j34 _ _ _ hP hD hS (lv_sub hl [1, 2, 3, 4, 5, 6, 7] rfl)
        · have h_9 : iv 0 5 x7_34 := iv_ltL (i32_lt c_7) hx7_34 (iv_k (by decide) : iv 6 6 6) (by decide)
          refine ec_aload_n hx hb dX5_tellValue_51 rfl (lv_at hl 1 rfl) ?_
          refine cr_get (t := 6) (j := 2) (C := RX5) (T := TX5) (N := 13) (v := eV (ad 5) 0) hx hb htb inX5 hown hK hP hsx0_34 (by decide) (by decide) (by decide) rfl (by decide) (htb _ kw_123) (cV_c rfl (by decide) (by rw [show cMu 6 2 = 0 from rfl, Nat.zero_mul]; rfl)) dX5_tellValue_52 ?_
          refine lv_bipush (v := 6) hx hb dX5_tellValue_55 (by decide) ?_
          refine lv_iconst (v := (-1)) hx hb dX5_tellValue_57 (by decide) ?_
          refine lv_iload hx hb dX5_tellValue_58 (lv_at hl 0 rfl) ?_
          refine ec_aload_n hx hb dX5_tellValue_60 rfl (lv_at hl 1 rfl) ?_
          refine cr_get (t := 6) (j := 8) (C := RX5) (T := TX5) (N := 13) (v := eV (ad 25) 0) hx hb htb inX5 hown hK hP hsx0_34 (by decide) (by decide) (by decide) rfl (by decide) (htb _ kw_128) (cV_c rfl (by decide) (by rw [show cMu 6 8 = 0 from rfl, Nat.zero_mul]; rfl)) dX5_tellValue_61 ?_
          refine lv_iload hx hb dX5_tellValue_64 (lv_at hl 6 rfl) ?_
          refine lv_iload hx hb dX5_tellValue_66 (lv_at hl 0 rfl) ?_
          refine lv_iadd hx hb dX5_tellValue_68 ?_
          refine lv_topi (fun z_10 ez_10 => ?_)
          have hz_10 : iv 0 959 z_10 := iv_of ez_10 (iv_add hsx5_34 h_9 (by decide))
          have tz_10 : z_10.toInt = (sl : Int32).toInt + (x7_34 : Int32).toInt := by rw [ez_10]; exact iv_addE hsx5_34 h_9 (by decide)
          refine cr_iald (t := 25) (z := (gm_j34 52 (z_10 : Int32).toNatClampNeg)) hx hb hK hP (iv_k (by decide) : iv 0 0 0) (by decide) (by decide) (by decide) rfl rfl (show vp_in z_10 (cLen 25) from (show vp_in z_10 960 from (iv_in hz_10 (by decide)))) rfl dX5_tellValue_69 ?_
          obtain ⟨z_11, ez_11⟩ : ∃ z : Int32, z = (gm_j34 52 (z_10 : Int32).toNatClampNeg) := ⟨_, rfl⟩
          refine W.eq (g2 := F0 m 70 ls [.int z_11, .int x7_34, .int (-1), .int 6, eV (ad 5) 0]) (by rw [ez_11]) ?_
          have ez_11 := ez_11.trans (congrFun (hkg_j34 52 (by decide)) _)
          refine cm_callV (t := 5) (C := RX4) (T := TX4) (N := 2) (rest := []) (as := [.int 6, .int (-1), .int x7_34, .int z_11]) ⟨hx, hb, hml, hown, htb⟩ (d_addEv l dC dI ad cid a2 lx sg_j34 gm_j34 lg 0 6 (-1) x7_34 z_11 hI_j34 (iv_k (by decide) : iv 0 0 0)) (cwV 4 htb (gd_V kw_1069 kw_1070 kw_1071 kw_36 kw_1582) rfl rfl rfl (by decide +kernel) ⟨Nat.le_of_ble_eq_true rfl, Nat.le_of_ble_eq_true rfl⟩) (iv_k (by decide) : iv 0 0 0) (by decide) (by decide) rfl rfl hl.1 rfl (Nat.le_trans cs_n (by decide)) dX5_tellValue_70 ⟨Nat.le_of_ble_eq_true rfl, Nat.le_of_ble_eq_true rfl⟩ hK hP hD hS hA hG (fun E ce q9 u_13 H locs hw hP hD hS hce hcv hcl => ?_) (fun v9 u_13 H locs hw hP hD hS => ?_)
          · exact hw.elim
          obtain ⟨rfl, sgv_14, gmv_14, lgv_14, rfl, hIv_14, ksv_14, kgv_14, klv_14⟩ := hw
          obtain rfl := KS_nil klv_14
          have hP : va_P (dC, dI) vwCl (cW ad cid a2 lx sgv_14 gmv_14 lg) H := hP
          have hD : va_D A (cW ad cid a2 lx sgv_14 gmv_14 lg) := hD
          refine W.eq (g2 := F0 m 73 ls []) rfl ?_
          obtain ⟨z_15, ez_15⟩ : ∃ z : Int32, z = x7_34 + 1 := ⟨_, rfl⟩
          have hz_15 : iv 1 6 z_15 := iv_of ez_15 (iv_add h_9 (iv_k (by decide) : iv 1 1 1) (by decide))
          have tz_15 : z_15.toInt = x7_34.toInt + 1 := by rw [ez_15]; exact iv_addE h_9 (iv_k (by decide) : iv 1 1 1) (by decide)
          refine lv_iinc (v := z_15) (lv' := [(7, .int z_15), (0, eV (ad 6) x), (1, .int wh), (2, .int ab), (3, .int sc), (4, eV (ad 9) o), (5, .int sl), (6, .int kd)]) hx hb dX5_tellValue_73 hl (k := 0) rfl ez_15.symm (by decide) rfl (fun ls hl => ?_)
          refine lv_goto (tgt := 34) hx hb dX5_tellValue_76 (by decide) ?_
          exact ih34 _ (by rw [← hn34]; exact (iv_meas tz_15 h_9 (by decide))) sgv_14 gmv_14 z_15 rfl (iv_w hz_15 (by decide)) hsx0_34 hsx4_34 hsx5_34 (KS_tr (L := [13]) (KS_tr (L := [13]) KS_rf hks_j34 (by decide)) ksv_14 (by decide)) (KS_tr (L := [48]) (KS_tr (L := [48]) KS_rf hkg_j34 (by decide)) kgv_14 (by decide)) hIv_14 _ _ _ hP hD hS (lv_sub hl [0, 1, 2, 3, 4, 5, 6, 7] rfl)
  refine ec_aload_n hx hb dX5_tellValue_0 rfl (lv_at hl 0 rfl) ?_
  refine cr_get (t := 6) (j := 2) (C := RX5) (T := TX5) (N := 13) (v := eV (ad 5) 0) hx hb htb inX5 hown hK hP hvx (by decide) (by decide) (by decide) rfl (by decide) (htb _ kw_123) (cV_c rfl (by decide) (by rw [show cMu 6 2 = 0 from rfl, Nat.zero_mul]; rfl)) dX5_tellValue_1 ?_
  refine lv_iload_n hx hb dX5_tellValue_4 rfl (lv_at hl 1 rfl) ?_
  refine lv_iload_n hx hb dX5_tellValue_5 rfl (lv_at hl 2 rfl) ?_
  refine lv_iload_n hx hb dX5_tellValue_6 rfl (lv_at hl 3 rfl) ?_
  refine ec_aload_n hx hb dX5_tellValue_7 rfl (lv_at hl 0 rfl) ?_
  refine ec_aload hx hb dX5_tellValue_8 (lv_at hl 4 rfl) ?_
  refine lv_iload hx hb dX5_tellValue_10 (lv_at hl 5 rfl) ?_
  refine lv_iload hx hb dX5_tellValue_12 (lv_at hl 6 rfl) ?_
  refine cm_callV (t := 6) (C := RX5) (T := TX5) (N := 13) (rest := [.int sc, .int ab, .int wh, eV (ad 5) 0]) (as := [eV (ad 9) o, .int sl, .int kd]) ⟨hx, hb, hml, hown, htb⟩ (d_valueOf l dC dI ad cid a2 lx sg gm lg x o sl kd hI hvx hvo hvsl hk0) (cwV 3 htb (gd_V kw_1063 kw_1064 kw_1065 kw_40 kw_1580) rfl rfl rfl (by decide +kernel) ⟨Nat.le_of_ble_eq_true rfl, Nat.le_of_ble_eq_true rfl⟩) hvx (by decide) (by decide) rfl rfl hl.1 rfl (Nat.le_trans (cs_c (cat_i _) (cs_c (cat_i _) (cs_c (cat_i _) (cs_c (eV_cat _ _) cs_n)))) (by decide)) dX5_tellValue_14 ⟨Nat.le_of_ble_eq_true rfl, Nat.le_of_ble_eq_true rfl⟩ hK hP hD hS hA hG (fun E ce q9 u_17 H locs hw hP hD hS hce hcv hcl => ?_) (fun v9 u_17 H locs hw hP hD hS => ?_)
  · exact hw.elim
  obtain ⟨r_16, rfl, rfl⟩ := hw
  have hP : va_P (dC, dI) vwCl (cW ad cid a2 lx sg gm lg) H := hP
  have hD : va_D A (cW ad cid a2 lx sg gm lg) := hD
  refine W.eq (g2 := F0 m 17 ls [.int r_16, .int sc, .int ab, .int wh, eV (ad 5) 0]) rfl ?_
  refine cm_callV (t := 5) (C := RX4) (T := TX4) (N := 2) (rest := []) (as := [.int wh, .int ab, .int sc, .int r_16]) ⟨hx, hb, hml, hown, htb⟩ (d_addEv l dC dI ad cid a2 lx sg gm lg 0 wh ab sc r_16 hI (iv_k (by decide) : iv 0 0 0)) (cwV 4 htb (gd_V kw_1069 kw_1070 kw_1071 kw_36 kw_1582) rfl rfl rfl (by decide +kernel) ⟨Nat.le_of_ble_eq_true rfl, Nat.le_of_ble_eq_true rfl⟩) (iv_k (by decide) : iv 0 0 0) (by decide) (by decide) rfl rfl hl.1 rfl (Nat.le_trans cs_n (by decide)) dX5_tellValue_17 ⟨Nat.le_of_ble_eq_true rfl, Nat.le_of_ble_eq_true rfl⟩ hK hP hD hS hA hG (fun E ce q9 u_20 H locs hw hP hD hS hce hcv hcl => ?_) (fun v9 u_20 H locs hw hP hD hS => ?_)
  · exact hw.elim
  obtain ⟨rfl, sgv_21, gmv_21, lgv_21, rfl, hIv_21, ksv_21, kgv_21, klv_21⟩ := hw
  obtain rfl := KS_nil klv_21
  have hP : va_P (dC, dI) vwCl (cW ad cid a2 lx sgv_21 gmv_21 lg) H := hP
  have hD : va_D A (cW ad cid a2 lx sgv_21 gmv_21 lg) := hD
  refine W.eq (g2 := F0 m 20 ls []) rfl ?_
  refine ec_aload hx hb dX5_tellValue_20 (lv_at hl 4 rfl) ?_
  refine cr_get (t := 9) (j := 18) (C := RX3) (T := TX3) (N := 21) (v := eV (ad 33) (gmv_21 25 o.toNatClampNeg)) hx hb htb inX3 hown hK hP hvo (by decide) (by decide) (by decide) rfl (by decide) (htb _ kw_1044) rfl dX5_tellValue_22 ?_
  obtain ⟨z_22, ez_22⟩ : ∃ z : Int32, z = (gmv_21 25 o.toNatClampNeg) := ⟨_, rfl⟩
  refine W.eq (g2 := F0 m 25 ls [eV (ad 33) z_22]) (by rw [ez_22]) ?_
  have hz_22 : iv (-1) 33 z_22 := iv_of ez_22 (CI_a hIv_21 25 hvo (by decide))
  have ez_22 := ez_22.trans (congrFun (kgv_21 25 (by decide)) _)
  refine cw_word (k := 6) (kx := 6) hx hb hG hS (by decide) rfl ⟨by decide, by decide⟩ hown (htb _ kw_1061) dX5_tellValue_25 ?_
  refine ec_acmp_ne (tgt := 79) hx hb dX5_tellValue_28 (by decide) (fun c_23 => ?_) (fun c_23 => ?_)
  · have wc_23 : ¬ z_22.toInt = (6 : Int) := fun q9 => c_23 (congrArg (er (ad 33)) (Int32.toInt_inj.mp q9))
    exact hj79 sgv_21 gmv_21 hvx hvo hvsl (KS_tr (L := [13]) KS_rf ksv_21 (by decide)) (KS_tr (L := [48]) KS_rf kgv_21 (by decide)) hIv_21 _ _ _ hP hD hS (lv_sub hl [0, 1, 2, 3, 4, 5, 6] rfl)
  · have wc_23 : z_22.toInt = (6 : Int) := er_wd hG hz_22 (iv_w (iv_k (by decide) : iv 6 6 6) (by decide)) c_23
    refine lv_iconst (v := 0) hx hb dX5_tellValue_31 (by decide) ?_
    refine lv_istore (i := 7) (lv' := [(7, .int 0), (0, eV (ad 6) x), (1, .int wh), (2, .int ab), (3, .int sc), (4, eV (ad 9) o), (5, .int sl), (6, .int kd)]) hx hb dX5_tellValue_32 hl (by decide) rfl (fun ls hl => ?_)
    exact hj34 _ sgv_21 gmv_21 0 rfl (iv_w (iv_k (by decide) : iv 0 0 0) (by decide)) hvx hvo hvsl (KS_tr (L := [13]) KS_rf ksv_21 (by decide)) (KS_tr (L := [48]) KS_rf kgv_21 (by decide)) hIv_21 _ _ _ hP hD hS (lv_sub hl [0, 1, 2, 3, 4, 5, 6, 7] rfl)

set_option maxHeartbeats 4000000 in
set_option maxRecDepth 100000 in
theorem d_finish (l : Launch) (dC : Nat → ClassId) (dI : Nat → Nat → Nat) (ad : Nat → Nat → Nat) (cid : Nat → ClassId) (a2 : Nat → Nat) (lx : List Nat) (sg : Nat → Int32) (gm : Nat → Nat → Int32) (lg : Nat → Nat → Int64) (x : Int32) (b : Int32) (hI : CI sg gm) (hvx : iv 0 0 x) (hvb : iv 0 79 b) (hFND9 : FND9 sg gm) : CMt dC dI ad cid a2 lx l yX5_finish wm_X5_finish ({ frames := 0, cells := 1, slots := 6, locals := 0 }) [eV (ad 6) x, eV (ad 10) b] sg gm lg (fun v u => v = none ∧ ∃ (sg2 : Nat → Int32) (gm2 : Nat → Nat → Int32) (lg2 : Nat → Nat → Int64), u = (sg2, gm2, lg2) ∧ CI sg2 gm2 ∧ KS [15] sg sg2 ∧ KS [37, 38, 51] gm gm2 ∧ KS [] lg lg2 ∧ (gm2 37 = upd (gm 37) b.toNatClampNeg 0) ∧ (gm2 38 = upd (gm 38) b.toNatClampNeg 1) ∧ (FND9 sg2 gm2)) (fun _ _ => False) := by
  intro sz
  refine vx_ofW (cc := cX5_finish) (maxL := 2) (ret := none) (by decide) rfl ?_
  intro p e s m args below meth c s₁ B hml hxt hv
  obtain ⟨rfl, hsz, hP, hK, hD0, hG⟩ := hv
  have hx := B.exec
  have hb := B.bytes
  have hr := B.returns
  have hts := atoms_spec (ws := wm_X5_finish) B.pre
  have htb := fun (w : Cond) (h : w ∈ tb) => hts w (List.mem_cons_of_mem _ h)
  have hown : s.vm.findClass RX5 = some m.cls := findClass_of_methodNamed B.named
  have hlocks := B.notSynchronized
  subst hsz
  have hD := hD0.self (sz := s.heap.size)
  generalize hAe : va_A (cW ad cid a2 lx sg gm lg) s.heap.size = A at hD hG ⊢
  have hA : ∀ q : Nat, s.heap.size ≤ q → A q := fun q h => by rw [← hAe]; exact Or.inr h
  have hS : va_S A s.heap s.heap [] := va_S.rf
  have hl := lv_entry ([eV (ad 6) x, eV (ad 10) b]) (n := 2) (by rw [show (lg_sl ([eV (ad 6) x, eV (ad 10) b])).length = 2 from by simp [lg_sl, eV_cat, cat_i, cat_l]]; exact Nat.le_of_ble_eq_true rfl)
  rw [lg_entry_eq]
  generalize (lg_sl ([eV (ad 6) x, eV (ad 10) b]) ++ List.replicate (2 - (lg_sl ([eV (ad 6) x, eV (ad 10) b])).length) Slot.unset).toArray = ls at hl ⊢
  have hl : lv_has ls 2 [(0, eV (ad 6) x), (1, eV (ad 10) b)] := by simp [lv_args, eV_cat, cat_i, cat_l] at hl; exact hl
  have hj58 : ∀ (sg_j58 : Nat → Int32) (gm_j58 : Nat → Nat → Int32) (_ : iv 0 0 x) (_ : iv 0 79 b) (_ : KS [15] sg sg_j58) (_ : KS [37, 38, 51] gm gm_j58) (_ : CI sg_j58 gm_j58) (_ : gm_j58 37 = upd (gm 37) b.toNatClampNeg 0) (_ : gm_j58 38 = upd (gm 38) b.toNatClampNeg 1) (_ : FND9 sg_j58 gm_j58) (H : Heap) (locs : List Loc) (ls : Array Slot), va_P (dC, dI) vwCl (cW ad cid a2 lx sg_j58 gm_j58 lg) H → va_D A (cW ad cid a2 lx sg_j58 gm_j58 lg) → va_S A s.heap H locs → lv_has ls 2 [(0, eV (ad 6) x), (1, eV (ad 10) b)] → W p l e (headSpec wm_X5_finish ({ frames := 0, cells := 1, slots := 6, locals := 0 })).room s m ([eV (ad 6) x, eV (ad 10) b] : List Value).toArray below meth c H locs 0 0 (vx_MQ below (cQx dC dI ad cid a2 lx (fun v u => v = none ∧ ∃ (sg2 : Nat → Int32) (gm2 : Nat → Nat → Int32) (lg2 : Nat → Nat → Int64), u = (sg2, gm2, lg2) ∧ CI sg2 gm2 ∧ KS [15] sg sg2 ∧ KS [37, 38, 51] gm gm2 ∧ KS [] lg lg2 ∧ (gm2 37 = upd (gm 37) b.toNatClampNeg 0) ∧ (gm2 38 = upd (gm 38) b.toNatClampNeg 1) ∧ (FND9 sg2 gm2)) A) (cX dC dI ad cid a2 lx (fun _ _ => False) A) ([eV (ad 6) x, eV (ad 10) b] : List Value).toArray s 1 6 A) (F0 m 58 ls []) := by
    intro sg_j58 gm_j58 hsx0_58 hsx1_58 hks_j58 hkg_j58 hI_j58 h37 h38 hFND9b H locs ls hP hD hS hl
    exact W.nb (fun hN => W.widen (k := 1) (n := 6) (by decide) (by decide) (vx_ret (W.vret hx hb hr (fun t ht hW => ⟨⟨none, (sg_j58, gm_j58, lg), rfl, ⟨rfl, sg_j58, gm_j58, lg, rfl, hI_j58, (KS_tr (L := [15]) KS_rf hks_j58 (by decide)), (KS_tr (L := [37, 38, 51]) KS_rf hkg_j58 (by decide)), KS_rf, (h37), (h38), (hFND9b)⟩, by rw [ht]; exact hP, va_K.moved hW.alike hK, hD⟩, hS.F ht, by rw [ht]; exact hN⟩) hS.2.2 dX5_finish_58)))
  refine ec_aload_n hx hb dX5_finish_0 rfl (lv_at hl 1 rfl) ?_
  refine lv_iconst (v := 0) hx hb dX5_finish_1 (by decide) ?_
  refine cr_putg (t := 10) (j := 16) (C := RX1) (T := TX1) (N := 19) (ty0 := tyX1) (k := 37) (y := 0) hx hb htb inX1 tyX1_ok nmX1 hown hK hP hD hS hvb (by decide) (by decide) (by decide) (by decide) rfl rfl (by decide) (htb _ kw_1009) rfl (by show Value.int 0 = Value.int (va_up gm 37 (upd (gm 37) b.toNatClampNeg 0) 37 b.toNatClampNeg); rw [va_up_self, upd_at]) (iv_nb (iv_w (iv_k (by decide) : iv 0 0 0) (by decide))) (iv_fb (iv_w (iv_k (by decide) : iv 0 0 0) (by decide))) dX5_finish_2 (fun gm_1 H locs egm_1 hP hD hS => ?_)
  have hI_gm_1 := CI_st hI egm_1 (iv_k (by decide) : iv 0 0 0) (by decide)
  refine ec_aload_n hx hb dX5_finish_5 rfl (lv_at hl 1 rfl) ?_
  refine lv_iconst (v := 1) hx hb dX5_finish_6 (by decide) ?_
  refine cr_putg (t := 10) (j := 17) (C := RX1) (T := TX1) (N := 19) (ty0 := tyX1) (k := 38) (y := 1) hx hb htb inX1 tyX1_ok nmX1 hown hK hP hD hS hvb (by decide) (by decide) (by decide) (by decide) rfl rfl (by decide) (htb _ kw_320) rfl (by show Value.int 1 = Value.int (va_up gm_1 38 (upd (gm_1 38) b.toNatClampNeg 1) 38 b.toNatClampNeg); rw [va_up_self, upd_at]) (iv_nb (iv_w (iv_k (by decide) : iv 1 1 1) (by decide))) (iv_fb (iv_w (iv_k (by decide) : iv 1 1 1) (by decide))) dX5_finish_7 (fun gm_2 H locs egm_2 hP hD hS => ?_)
  have hI_gm_2 := CI_st hI_gm_1 egm_2 (iv_k (by decide) : iv 1 1 1) (by decide)
  refine ec_aload_n hx hb dX5_finish_10 rfl (lv_at hl 1 rfl) ?_
  refine cr_get (t := 10) (j := 5) (C := RX1) (T := TX1) (N := 19) (v := .long (lg 4 b.toNatClampNeg)) hx hb htb inX1 hown hK hP hvb (by decide) (by decide) (by decide) rfl (by decide) (htb _ kw_1002) rfl dX5_finish_11 ?_
  refine lv_topl (fun z_3 ez_3 => ?_)
  refine lv_lconst (v := 0) hx hb dX5_finish_14 (by decide) ?_
  refine W.lcmp hx hb dX5_finish_15 ?_
  refine lv_topi (fun z_4 ez_4 => ?_)
  have hz_4 : iv (-1) 1 z_4 := iv_of ez_4 (iv_cmp _ _)
  refine lv_if_eq (tgt := 58) hx hb dX5_finish_16 (by decide) (fun c_5 => ?_) (fun c_5 => ?_)
  · have h_6 : iv 0 0 z_4 := iv_eq c_5 hz_4 (iv_k (by decide) : iv 0 0 0) (by decide)
    exact hj58 sg gm_2 hvx hvb KS_rf (KS_up (KS_up KS_rf egm_1 (by decide)) egm_2 (by decide)) hI_gm_2 ((show gm_2 37 = upd (gm 37) (b : Int32).toNatClampNeg 0 from ((up_ne egm_2 (by decide)).trans ((up_at egm_1).trans (by rw [show gm 37 = gm 37 from rfl]))))) ((show gm_2 38 = upd (gm 38) (b : Int32).toNatClampNeg 1 from ((up_at egm_2).trans (by rw [show gm_1 38 = gm 38 from ((up_ne egm_1 (by decide)).trans rfl)])))) (FND9_e hFND9 rfl (Eq.trans (up_ne egm_2 (by decide)) (up_ne egm_1 (by decide)))) _ _ _ hP hD hS (lv_sub hl [0, 1] rfl)
  · have d_7 : ¬ (z_4 : Int32).toInt = 0 := lv_neT c_5 rfl
    refine ec_aload_n hx hb dX5_finish_19 rfl (lv_at hl 1 rfl) ?_
    refine cr_get (t := 10) (j := 14) (C := RX1) (T := TX1) (N := 19) (v := .int (gm_2 35 b.toNatClampNeg)) hx hb htb inX1 hown hK hP hvb (by decide) (by decide) (by decide) rfl (by decide) (htb _ kw_1004) rfl dX5_finish_20 ?_
    obtain ⟨z_8, ez_8⟩ : ∃ z : Int32, z = (gm_2 35 b.toNatClampNeg) := ⟨_, rfl⟩
    refine W.eq (g2 := F0 m 23 ls [.int z_8]) (by rw [ez_8]) ?_
    have hz_8 : iv 0 1 z_8 := iv_of ez_8 (CI_a hI_gm_2 35 hvb (by decide))
    have ez_8 := ez_8.trans (congrFun (Eq.trans (up_ne egm_2 (by decide)) (up_ne egm_1 (by decide))) _)
    refine lv_if_ne (tgt := 58) hx hb dX5_finish_23 (by decide) (fun c_9 => ?_) (fun c_9 => ?_)
    · have h_10 : iv 1 1 z_8 := iv_neL c_9 hz_8 (by decide)
      exact hj58 sg gm_2 hvx hvb KS_rf (KS_up (KS_up KS_rf egm_1 (by decide)) egm_2 (by decide)) hI_gm_2 ((show gm_2 37 = upd (gm 37) (b : Int32).toNatClampNeg 0 from ((up_ne egm_2 (by decide)).trans ((up_at egm_1).trans (by rw [show gm 37 = gm 37 from rfl]))))) ((show gm_2 38 = upd (gm 38) (b : Int32).toNatClampNeg 1 from ((up_at egm_2).trans (by rw [show gm_1 38 = gm 38 from ((up_ne egm_1 (by decide)).trans rfl)])))) (FND9_e hFND9 rfl (Eq.trans (up_ne egm_2 (by decide)) (up_ne egm_1 (by decide)))) _ _ _ hP hD hS (lv_sub hl [0, 1] rfl)
    · have h_11 : iv 0 0 z_8 := iv_eq c_9 hz_8 (iv_k (by decide) : iv 0 0 0) (by decide)
      refine ec_aload_n hx hb dX5_finish_26 rfl (lv_at hl 0 rfl) ?_
      refine cr_get (t := 6) (j := 7) (C := RX5) (T := TX5) (N := 13) (v := .int (sg 15)) hx hb htb inX5 hown hK hP hvx (by decide) (by decide) (by decide) rfl (by decide) (htb _ kw_321) rfl dX5_finish_27 ?_
      refine ec_aload_n hx hb dX5_finish_30 rfl (lv_at hl 0 rfl) ?_
      refine cr_get (t := 6) (j := 6) (C := RX5) (T := TX5) (N := 13) (v := eV (ad 24) 0) hx hb htb inX5 hown hK hP hvx (by decide) (by decide) (by decide) rfl (by decide) (htb _ kw_127) (cV_c rfl (by decide) (by rw [show cMu 6 6 = 0 from rfl, Nat.zero_mul]; rfl)) dX5_finish_31 ?_
      refine cr_alen (t := 24) (z := 80) hx hb hK hP (iv_k (by decide) : iv 0 0 0) (by decide) (by decide) (by decide) rfl dX5_finish_34 ?_
      refine lv_icmp_ge (tgt := 58) hx hb dX5_finish_35 (by decide) (fun c_12 => ?_) (fun c_12 => ?_)
      · have h_13 : iv 80 80 (sg 15) := iv_leR c_12 (iv_k (by decide) : iv 80 80 80) (show iv 0 80 (sg 15) from CI_s hI 15) (by decide)
        exact hj58 sg gm_2 hvx hvb KS_rf (KS_up (KS_up KS_rf egm_1 (by decide)) egm_2 (by decide)) hI_gm_2 ((show gm_2 37 = upd (gm 37) (b : Int32).toNatClampNeg 0 from ((up_ne egm_2 (by decide)).trans ((up_at egm_1).trans (by rw [show gm 37 = gm 37 from rfl]))))) ((show gm_2 38 = upd (gm 38) (b : Int32).toNatClampNeg 1 from ((up_at egm_2).trans (by rw [show gm_1 38 = gm 38 from ((up_ne egm_1 (by decide)).trans rfl)])))) (FND9_e hFND9 rfl (Eq.trans (up_ne egm_2 (by decide)) (up_ne egm_1 (by decide)))) _ _ _ hP hD hS (lv_sub hl [0, 1] rfl)
      · have h_14 : iv 0 79 (sg 15) := iv_ltL (i32_lt c_12) (show iv 0 80 (sg 15) from CI_s hI 15) (iv_k (by decide) : iv 80 80 80) (by decide)
        refine ec_aload_n hx hb dX5_finish_38 rfl (lv_at hl 0 rfl) ?_
        refine cr_get (t := 6) (j := 6) (C := RX5) (T := TX5) (N := 13) (v := eV (ad 24) 0) hx hb htb inX5 hown hK hP hvx (by decide) (by decide) (by decide) rfl (by decide) (htb _ kw_127) (cV_c rfl (by decide) (by rw [show cMu 6 6 = 0 from rfl, Nat.zero_mul]; rfl)) dX5_finish_39 ?_
        refine ec_aload_n hx hb dX5_finish_42 rfl (lv_at hl 0 rfl) ?_
        refine cr_get (t := 6) (j := 7) (C := RX5) (T := TX5) (N := 13) (v := .int (sg 15)) hx hb htb inX5 hown hK hP hvx (by decide) (by decide) (by decide) rfl (by decide) (htb _ kw_321) rfl dX5_finish_43 ?_
        refine ec_aload_n hx hb dX5_finish_46 rfl (lv_at hl 1 rfl) ?_
        refine cr_aast (t := 24) (k := 51) hx hb hK hP hD hS (iv_k (by decide) : iv 0 0 0) (by decide) (by decide) (by decide) rfl rfl rfl rfl (show vp_in (sg 15) (cLen 24) from (show vp_in (sg 15) 80 from (iv_in h_14 (by decide)))) hvb (by decide) dX5_finish_47 (fun gm_15 H locs egm_15 hP hD hS => ?_)
        have hI_gm_15 := CI_st hI_gm_2 egm_15 hvb (by decide)
        refine ec_aload_n hx hb dX5_finish_48 rfl (lv_at hl 0 rfl) ?_
        refine lv_dup hx hb dX5_finish_49 (eV_cat _ _) ?_
        refine cr_get (t := 6) (j := 7) (C := RX5) (T := TX5) (N := 13) (v := .int (sg 15)) hx hb htb inX5 hown hK hP hvx (by decide) (by decide) (by decide) rfl (by decide) (htb _ kw_321) rfl dX5_finish_50 ?_
        refine lv_iconst (v := 1) hx hb dX5_finish_53 (by decide) ?_
        refine lv_iadd hx hb dX5_finish_54 ?_
        refine lv_topi (fun z_16 ez_16 => ?_)
        have hz_16 : iv 1 80 z_16 := iv_of ez_16 (iv_add h_14 (iv_k (by decide) : iv 1 1 1) (by decide))
        have tz_16 : z_16.toInt = ((sg 15) : Int32).toInt + 1 := by rw [ez_16]; exact iv_addE h_14 (iv_k (by decide) : iv 1 1 1) (by decide)
        refine cr_puts (t := 6) (j := 7) (C := RX5) (T := TX5) (N := 13) (ty0 := tyX5) (k := 15) (y := z_16) hx hb htb inX5 tyX5_ok nmX5 hown hK hP hD hS hvx (by decide) (by decide) (by decide) (by decide) rfl rfl rfl (by decide) (htb _ kw_321) rfl (by show Value.int z_16 = Value.int (va_up sg 15 z_16 15); rw [va_up_self]) rfl rfl dX5_finish_55 (fun sg_17 H locs esg_17 hP hD hS => ?_)
        have hI_sg_17 := CI_put hI_gm_15 esg_17 hz_16 (by decide)
        exact hj58 sg_17 gm_15 hvx hvb (KS_up KS_rf esg_17 (by decide)) (KS_up (KS_up (KS_up KS_rf egm_1 (by decide)) egm_2 (by decide)) egm_15 (by decide)) hI_sg_17 ((show gm_15 37 = upd (gm 37) (b : Int32).toNatClampNeg 0 from ((up_ne egm_15 (by decide)).trans ((up_ne egm_2 (by decide)).trans ((up_at egm_1).trans (by rw [show gm 37 = gm 37 from rfl])))))) ((show gm_15 38 = upd (gm 38) (b : Int32).toNatClampNeg 1 from ((up_ne egm_15 (by decide)).trans ((up_at egm_2).trans (by rw [show gm_1 38 = gm 38 from ((up_ne egm_1 (by decide)).trans rfl)]))))) (FND9_add hFND9 (show iv 0 80 (sg 15) from CI_s hI 15).1 hvb.1 (by have := i32_0; have := i32_1; have := i32_2; have := i32_m1; have := congrArg Int32.toInt (show sg_17 15 = z_16 from up_at esg_17); have := (hz_16).1; have := (hz_16).2; have := (hvx).1; have := (hvx).2; have := (hvb).1; have := (hvb).2; have := (hz_4).1; have := (hz_4).2; have := (h_11).1; have := (h_11).2; have := (h_14).1; have := (h_14).2; omega) (show gm_15 51 = upd (gm 51) ((sg 15) : Int32).toNatClampNeg b from ((up_at egm_15).trans (by rw [show gm_2 51 = gm 51 from ((up_ne egm_2 (by decide)).trans ((up_ne egm_1 (by decide)).trans rfl))])))) _ _ _ hP hD hS (lv_sub hl [0, 1] rfl)

set_option maxHeartbeats 4000000 in
set_option maxRecDepth 100000 in
theorem d_stopMaking (l : Launch) (dC : Nat → ClassId) (dI : Nat → Nat → Nat) (ad : Nat → Nat → Nat) (cid : Nat → ClassId) (a2 : Nat → Nat) (lx : List Nat) (sg : Nat → Int32) (gm : Nat → Nat → Int32) (lg : Nat → Nat → Int64) (x : Int32) (hI : CI sg gm) (hvx : iv 0 0 x) : CMt dC dI ad cid a2 lx l yX5_stopMaking wm_X5_stopMaking ({ frames := 1, cells := 1, slots := 6, locals := 21 }) [eV (ad 6) x] sg gm lg (fun v u => v = none ∧ ∃ (sg2 : Nat → Int32) (gm2 : Nat → Nat → Int32) (lg2 : Nat → Nat → Int64), u = (sg2, gm2, lg2) ∧ CI sg2 gm2 ∧ KS [16] sg sg2 ∧ KS [37] gm gm2 ∧ KS [] lg lg2) (fun _ _ => False) := by
  intro sz
  refine vx_ofW (cc := cX5_stopMaking) (maxL := 2) (ret := none) (by decide) rfl ?_
  intro p e s m args below meth c s₁ B hml hxt hv
  obtain ⟨rfl, hsz, hP, hK, hD0, hG⟩ := hv
  have hx := B.exec
  have hb := B.bytes
  have hr := B.returns
  have hts := atoms_spec (ws := wm_X5_stopMaking) B.pre
  have htb := fun (w : Cond) (h : w ∈ tb) => hts w (List.mem_cons_of_mem _ h)
  have hown : s.vm.findClass RX5 = some m.cls := findClass_of_methodNamed B.named
  have hlocks := B.notSynchronized
  subst hsz
  have hD := hD0.self (sz := s.heap.size)
  generalize hAe : va_A (cW ad cid a2 lx sg gm lg) s.heap.size = A at hD hG ⊢
  have hA : ∀ q : Nat, s.heap.size ≤ q → A q := fun q h => by rw [← hAe]; exact Or.inr h
  have hS : va_S A s.heap s.heap [] := va_S.rf
  have hl := lv_entry ([eV (ad 6) x]) (n := 2) (by rw [show (lg_sl ([eV (ad 6) x])).length = 1 from by simp [lg_sl, eV_cat, cat_i, cat_l]]; exact Nat.le_of_ble_eq_true rfl)
  rw [lg_entry_eq]
  generalize (lg_sl ([eV (ad 6) x]) ++ List.replicate (2 - (lg_sl ([eV (ad 6) x])).length) Slot.unset).toArray = ls at hl ⊢
  have hl : lv_has ls 2 [(0, eV (ad 6) x)] := by simp [lv_args, eV_cat, cat_i, cat_l] at hl; exact hl
  have hj2 : ∀ (n : Nat) (gm_j2 : Nat → Nat → Int32) (x1_2 : Int32) (_ : (80 - x1_2.toInt).toNat = n) (_ : iv 0 80 x1_2) (_ : iv 0 0 x) (_ : KS [37] gm gm_j2) (_ : CI sg gm_j2) (H : Heap) (locs : List Loc) (ls : Array Slot), va_P (dC, dI) vwCl (cW ad cid a2 lx sg gm_j2 lg) H → va_D A (cW ad cid a2 lx sg gm_j2 lg) → va_S A s.heap H locs → lv_has ls 2 [(1, .int x1_2), (0, eV (ad 6) x)] → W p l e (headSpec wm_X5_stopMaking ({ frames := 1, cells := 1, slots := 6, locals := 21 })).room s m ([eV (ad 6) x] : List Value).toArray below meth c H locs 0 0 (vx_MQ below (cQx dC dI ad cid a2 lx (fun v u => v = none ∧ ∃ (sg2 : Nat → Int32) (gm2 : Nat → Nat → Int32) (lg2 : Nat → Nat → Int64), u = (sg2, gm2, lg2) ∧ CI sg2 gm2 ∧ KS [16] sg sg2 ∧ KS [37] gm gm2 ∧ KS [] lg lg2) A) (cX dC dI ad cid a2 lx (fun _ _ => False) A) ([eV (ad 6) x] : List Value).toArray s 1 6 A) (F0 m 2 ls []) := by
    intro n
    induction n using Nat.strongRecOn with
    | ind n ih2 =>
      intro gm_j2 x1_2 hn2 hx1_2 hsx0_2 hkg_j2 hI_j2 H locs ls hP hD hS hl
      refine lv_iload_n hx hb dX5_stopMaking_2 rfl (lv_at hl 0 rfl) ?_
      refine ec_aload_n hx hb dX5_stopMaking_3 rfl (lv_at hl 1 rfl) ?_
      refine cr_get (t := 6) (j := 0) (C := RX5) (T := TX5) (N := 13) (v := eV (ad 4) 0) hx hb htb inX5 hown hK hP hsx0_2 (by decide) (by decide) (by decide) rfl (by decide) (htb _ kw_121) (cV_c rfl (by decide) (by rw [show cMu 6 0 = 0 from rfl, Nat.zero_mul]; rfl)) dX5_stopMaking_4 ?_
      refine cm_callV (t := 4) (C := RX10) (T := TX10) (N := 4) (rest := [.int x1_2]) (as := []) ⟨hx, hb, hml, hown, htb⟩ (d_countWi l dC dI ad cid a2 lx sg gm_j2 lg 0 hI_j2 (iv_k (by decide) : iv 0 0 0)) (cwV 0 htb (gd_V kw_322 kw_323 kw_324 kw_32 kw_1413) rfl rfl rfl (by decide +kernel) ⟨Nat.le_of_ble_eq_true rfl, Nat.le_of_ble_eq_true rfl⟩) (iv_k (by decide) : iv 0 0 0) (by decide) (by decide) rfl rfl hl.1 rfl (Nat.le_trans (cs_c (cat_i _) cs_n) (by decide)) dX5_stopMaking_7 ⟨Nat.le_of_ble_eq_true rfl, Nat.le_of_ble_eq_true rfl⟩ hK hP hD hS hA hG (fun E ce q9 u_2 H locs hw hP hD hS hce hcv hcl => ?_) (fun v9 u_2 H locs hw hP hD hS => ?_)
      · exact hw.elim
      obtain ⟨r_1, rfl, rfl, hr_1, fr_r_1⟩ := hw
      have hP : va_P (dC, dI) vwCl (cW ad cid a2 lx sg gm_j2 lg) H := hP
      have hD : va_D A (cW ad cid a2 lx sg gm_j2 lg) := hD
      refine W.eq (g2 := F0 m 10 ls [.int r_1, .int x1_2]) rfl ?_
      refine lv_icmp_ge (tgt := 31) hx hb dX5_stopMaking_10 (by decide) (fun c_4 => ?_) (fun c_4 => ?_)
      · have d_5 : (r_1 : Int32).toInt ≤ (x1_2 : Int32).toInt := Int32.le_iff_toInt_le.mp c_4
        refine ec_aload_n hx hb dX5_stopMaking_31 rfl (lv_at hl 1 rfl) ?_
        refine ec_null (a := ad 10) hx hb dX5_stopMaking_32 ?_
        refine cr_puts (t := 6) (j := 10) (C := RX5) (T := TX5) (N := 13) (ty0 := tyX5) (k := 16) (y := (-1)) hx hb htb inX5 tyX5_ok nmX5 hown hK hP hD hS hsx0_2 (by decide) (by decide) (by decide) (by decide) rfl rfl rfl (by decide) (htb _ kw_1021) rfl (by show eV (ad 10) (-1) = eV (ad 10) (va_up sg 16 (-1) 16); rw [va_up_self]) (ev_n _) (ev_f _) dX5_stopMaking_33 (fun sg_6 H locs esg_6 hP hD hS => ?_)
        have hI_sg_6 := CI_put hI_j2 esg_6 (iv_k (by decide) : iv (-1) (-1) (-1)) (by decide)
        exact W.nb (fun hN => W.widen (k := 1) (n := 6) (by decide) (by decide) (vx_ret (W.vret hx hb hr (fun t ht hW => ⟨⟨none, (sg_6, gm_j2, lg), rfl, ⟨rfl, sg_6, gm_j2, lg, rfl, hI_sg_6, (KS_up KS_rf esg_6 (by decide)), (KS_tr (L := [37]) KS_rf hkg_j2 (by decide)), KS_rf⟩, by rw [ht]; exact hP, va_K.moved hW.alike hK, hD⟩, hS.F ht, by rw [ht]; exact hN⟩) hS.2.2 dX5_stopMaking_36)))
      · have d_7 : (x1_2 : Int32).toInt < (r_1 : Int32).toInt := Int32.lt_iff_toInt_lt.mp (i32_lt c_4)
        have h_8 : iv 0 79 x1_2 := iv_ltL (i32_lt c_4) hx1_2 hr_1 (by decide)
        have h_9 : iv 1 80 r_1 := iv_ltR (i32_lt c_4) hx1_2 hr_1 (by decide)
        refine ec_aload_n hx hb dX5_stopMaking_13 rfl (lv_at hl 1 rfl) ?_
        refine cr_get (t := 6) (j := 0) (C := RX5) (T := TX5) (N := 13) (v := eV (ad 4) 0) hx hb htb inX5 hown hK hP hsx0_2 (by decide) (by decide) (by decide) rfl (by decide) (htb _ kw_121) (cV_c rfl (by decide) (by rw [show cMu 6 0 = 0 from rfl, Nat.zero_mul]; rfl)) dX5_stopMaking_14 ?_
        refine lv_iload_n hx hb dX5_stopMaking_17 rfl (lv_at hl 0 rfl) ?_
        refine cm_callV (t := 4) (C := RX10) (T := TX10) (N := 4) (rest := []) (as := [.int x1_2]) ⟨hx, hb, hml, hown, htb⟩ (d_numbered l dC dI ad cid a2 lx sg gm_j2 lg 0 x1_2 hI_j2 (iv_k (by decide) : iv 0 0 0) h_8) (cwV 1 htb (gd_V kw_326 kw_327 kw_328 kw_32 kw_1414) rfl rfl rfl (by decide +kernel) ⟨Nat.le_of_ble_eq_true rfl, Nat.le_of_ble_eq_true rfl⟩) (iv_k (by decide) : iv 0 0 0) (by decide) (by decide) rfl rfl hl.1 rfl (Nat.le_trans cs_n (by decide)) dX5_stopMaking_18 ⟨Nat.le_of_ble_eq_true rfl, Nat.le_of_ble_eq_true rfl⟩ hK hP hD hS hA hG (fun E ce q9 u_11 H locs hw hP hD hS hce hcv hcl => ?_) (fun v9 u_11 H locs hw hP hD hS => ?_)
        · exact hw.elim
        obtain ⟨r_10, rfl, rfl, hr_10, fr_r_10⟩ := hw
        have hP : va_P (dC, dI) vwCl (cW ad cid a2 lx sg gm_j2 lg) H := hP
        have hD : va_D A (cW ad cid a2 lx sg gm_j2 lg) := hD
        refine W.eq (g2 := F0 m 21 ls [eV (ad 10) r_10]) rfl ?_
        refine lv_iconst (v := 0) hx hb dX5_stopMaking_21 (by decide) ?_
        refine cr_putg (t := 10) (j := 16) (C := RX1) (T := TX1) (N := 19) (ty0 := tyX1) (k := 37) (y := 0) hx hb htb inX1 tyX1_ok nmX1 hown hK hP hD hS hr_10 (by decide) (by decide) (by decide) (by decide) rfl rfl (by decide) (htb _ kw_1009) rfl (by show Value.int 0 = Value.int (va_up gm_j2 37 (upd (gm_j2 37) r_10.toNatClampNeg 0) 37 r_10.toNatClampNeg); rw [va_up_self, upd_at]) (iv_nb (iv_w (iv_k (by decide) : iv 0 0 0) (by decide))) (iv_fb (iv_w (iv_k (by decide) : iv 0 0 0) (by decide))) dX5_stopMaking_22 (fun gm_13 H locs egm_13 hP hD hS => ?_)
        have hI_gm_13 := CI_st hI_j2 egm_13 (iv_k (by decide) : iv 0 0 0) (by decide)
        obtain ⟨z_14, ez_14⟩ : ∃ z : Int32, z = x1_2 + 1 := ⟨_, rfl⟩
        have hz_14 : iv 1 80 z_14 := iv_of ez_14 (iv_add h_8 (iv_k (by decide) : iv 1 1 1) (by decide))
        have tz_14 : z_14.toInt = x1_2.toInt + 1 := by rw [ez_14]; exact iv_addE h_8 (iv_k (by decide) : iv 1 1 1) (by decide)
        refine lv_iinc (v := z_14) (lv' := [(1, .int z_14), (0, eV (ad 6) x)]) hx hb dX5_stopMaking_25 hl (k := 0) rfl ez_14.symm (by decide) (by simp [List.filter, eV_cat, cat_i, cat_l]) (fun ls hl => ?_)
        refine lv_goto (tgt := 2) hx hb dX5_stopMaking_28 (by decide) ?_
        exact ih2 _ (by rw [← hn2]; exact (iv_meas tz_14 h_8 (by decide))) gm_13 z_14 rfl (iv_w hz_14 (by decide)) hsx0_2 (KS_up (KS_tr (L := [37]) KS_rf hkg_j2 (by decide)) egm_13 (by decide)) hI_gm_13 _ _ _ hP hD hS (lv_sub hl [0, 1] rfl)
  refine lv_iconst (v := 0) hx hb dX5_stopMaking_0 (by decide) ?_
  refine lv_istore_n (i := 1) (lv' := [(1, .int 0), (0, eV (ad 6) x)]) hx hb dX5_stopMaking_1 rfl hl (by decide) (by simp [List.filter, eV_cat, cat_i, cat_l]) (fun ls hl => ?_)
  exact hj2 _ gm 0 rfl (iv_w (iv_k (by decide) : iv 0 0 0) (by decide)) hvx KS_rf hI _ _ _ hP hD hS (lv_sub hl [0, 1] rfl)

set_option maxHeartbeats 4000000 in
set_option maxRecDepth 100000 in
theorem d_destroyAll (l : Launch) (dC : Nat → ClassId) (dI : Nat → Nat → Nat) (ad : Nat → Nat → Nat) (cid : Nat → ClassId) (a2 : Nat → Nat) (lx : List Nat) (sg : Nat → Int32) (gm : Nat → Nat → Int32) (lg : Nat → Nat → Int64) (x : Int32) (hI : CI sg gm) (hvx : iv 0 0 x) (hFND9 : FND9 sg gm) : CMt dC dI ad cid a2 lx l yX5_destroyAll wm_X5_destroyAll ({ frames := 2, cells := 1, slots := 6, locals := 42 }) [eV (ad 6) x] sg gm lg (fun v u => v = none ∧ ∃ (sg2 : Nat → Int32) (gm2 : Nat → Nat → Int32) (lg2 : Nat → Nat → Int64), u = (sg2, gm2, lg2) ∧ CI sg2 gm2 ∧ KS [13, 15] sg sg2 ∧ KS [38, 48] gm gm2 ∧ KS [] lg lg2 ∧ (∀ j9, j9 < (sg 12).toNatClampNeg → gm2 38 j9 = 0) ∧ ((sg2 15).toInt = 0)) (fun _ _ => False) := by
  intro sz
  refine vx_ofW (cc := cX5_destroyAll) (maxL := 2) (ret := none) (by decide) rfl ?_
  intro p e s m args below meth c s₁ B hml hxt hv
  obtain ⟨rfl, hsz, hP, hK, hD0, hG⟩ := hv
  have hx := B.exec
  have hb := B.bytes
  have hr := B.returns
  have hts := atoms_spec (ws := wm_X5_destroyAll) B.pre
  have htb := fun (w : Cond) (h : w ∈ tb) => hts w (List.mem_cons_of_mem _ h)
  have hown : s.vm.findClass RX5 = some m.cls := findClass_of_methodNamed B.named
  have hlocks := B.notSynchronized
  subst hsz
  have hD := hD0.self (sz := s.heap.size)
  generalize hAe : va_A (cW ad cid a2 lx sg gm lg) s.heap.size = A at hD hG ⊢
  have hA : ∀ q : Nat, s.heap.size ≤ q → A q := fun q h => by rw [← hAe]; exact Or.inr h
  have hS : va_S A s.heap s.heap [] := va_S.rf
  have hl := lv_entry ([eV (ad 6) x]) (n := 2) (by rw [show (lg_sl ([eV (ad 6) x])).length = 1 from by simp [lg_sl, eV_cat, cat_i, cat_l]]; exact Nat.le_of_ble_eq_true rfl)
  rw [lg_entry_eq]
  generalize (lg_sl ([eV (ad 6) x]) ++ List.replicate (2 - (lg_sl ([eV (ad 6) x])).length) Slot.unset).toArray = ls at hl ⊢
  have hl : lv_has ls 2 [(0, eV (ad 6) x)] := by simp [lv_args, eV_cat, cat_i, cat_l] at hl; exact hl
  have hj7 : ∀ (n : Nat) (sg_j7 : Nat → Int32) (gm_j7 : Nat → Nat → Int32) (x1_7 : Int32) (_ : (x1_7.toInt + 1).toNat = n) (_ : iv (-1) 79 x1_7) (_ : iv 0 0 x) (_ : KS [13] sg sg_j7) (_ : KS [48] gm gm_j7) (_ : CI sg_j7 gm_j7) (_ : x1_7.toInt < (sg 15).toInt) (H : Heap) (locs : List Loc) (ls : Array Slot), va_P (dC, dI) vwCl (cW ad cid a2 lx sg_j7 gm_j7 lg) H → va_D A (cW ad cid a2 lx sg_j7 gm_j7 lg) → va_S A s.heap H locs → lv_has ls 2 [(1, .int x1_7), (0, eV (ad 6) x)] → W p l e (headSpec wm_X5_destroyAll ({ frames := 2, cells := 1, slots := 6, locals := 42 })).room s m ([eV (ad 6) x] : List Value).toArray below meth c H locs 0 0 (vx_MQ below (cQx dC dI ad cid a2 lx (fun v u => v = none ∧ ∃ (sg2 : Nat → Int32) (gm2 : Nat → Nat → Int32) (lg2 : Nat → Nat → Int64), u = (sg2, gm2, lg2) ∧ CI sg2 gm2 ∧ KS [13, 15] sg sg2 ∧ KS [38, 48] gm gm2 ∧ KS [] lg lg2 ∧ (∀ j9, j9 < (sg 12).toNatClampNeg → gm2 38 j9 = 0) ∧ ((sg2 15).toInt = 0)) A) (cX dC dI ad cid a2 lx (fun _ _ => False) A) ([eV (ad 6) x] : List Value).toArray s 1 6 A) (F0 m 7 ls []) := by
    intro n
    induction n using Nat.strongRecOn with
    | ind n ih7 =>
      intro sg_j7 gm_j7 x1_7 hn7 hx1_7 hsx0_7 hks_j7 hkg_j7 hI_j7 h1l H locs ls hP hD hS hl
      have hj52 : ∀ (sg_j52 : Nat → Int32) (gm_j52 : Nat → Nat → Int32) (_ : iv 0 79 x1_7) (_ : iv 0 0 x) (_ : KS [13] sg sg_j52) (_ : KS [48] gm gm_j52) (_ : CI sg_j52 gm_j52) (_ : x1_7.toInt < (sg 15).toInt) (H : Heap) (locs : List Loc) (ls : Array Slot), va_P (dC, dI) vwCl (cW ad cid a2 lx sg_j52 gm_j52 lg) H → va_D A (cW ad cid a2 lx sg_j52 gm_j52 lg) → va_S A s.heap H locs → lv_has ls 2 [(1, .int x1_7), (0, eV (ad 6) x)] → W p l e (headSpec wm_X5_destroyAll ({ frames := 2, cells := 1, slots := 6, locals := 42 })).room s m ([eV (ad 6) x] : List Value).toArray below meth c H locs 0 0 (vx_MQ below (cQx dC dI ad cid a2 lx (fun v u => v = none ∧ ∃ (sg2 : Nat → Int32) (gm2 : Nat → Nat → Int32) (lg2 : Nat → Nat → Int64), u = (sg2, gm2, lg2) ∧ CI sg2 gm2 ∧ KS [13, 15] sg sg2 ∧ KS [38, 48] gm gm2 ∧ KS [] lg lg2 ∧ (∀ j9, j9 < (sg 12).toNatClampNeg → gm2 38 j9 = 0) ∧ ((sg2 15).toInt = 0)) A) (cX dC dI ad cid a2 lx (fun _ _ => False) A) ([eV (ad 6) x] : List Value).toArray s 1 6 A) (F0 m 52 ls []) := by
        intro sg_j52 gm_j52 hsx1_52 hsx0_52 hks_j52 hkg_j52 hI_j52 h1l H locs ls hP hD hS hl
        obtain ⟨z_1, ez_1⟩ : ∃ z : Int32, z = x1_7 + (-1) := ⟨_, rfl⟩
        have hz_1 : iv (-1) 78 z_1 := iv_of ez_1 (iv_add hsx1_52 (iv_k (by decide) : iv (-1) (-1) (-1)) (by decide))
        have tz_1 : z_1.toInt = x1_7.toInt - 1 := by rw [ez_1]; exact iv_addE hsx1_52 (iv_k (by decide) : iv (-1) (-1) (-1)) (by decide)
        refine lv_iinc (v := z_1) (lv' := [(1, .int z_1), (0, eV (ad 6) x)]) hx hb dX5_destroyAll_52 hl (k := 0) rfl ez_1.symm (by decide) (by simp [List.filter, eV_cat, cat_i, cat_l]) (fun ls hl => ?_)
        refine lv_goto (tgt := 7) hx hb dX5_destroyAll_55 (by decide) ?_
        exact ih7 _ (by rw [← hn7]; exact (by have := i32_0; have := i32_1; have := i32_2; have := i32_m1; have := (hsx0_52).1; have := (hsx0_52).2; have := (hsx1_52).1; have := (hsx1_52).2; have := (hz_1).1; have := (hz_1).2; omega)) sg_j52 gm_j52 z_1 rfl (iv_w hz_1 (by decide)) hsx0_52 (KS_tr (L := [13]) KS_rf hks_j52 (by decide)) (KS_tr (L := [48]) KS_rf hkg_j52 (by decide)) hI_j52 (by have := i32_0; have := i32_1; have := i32_2; have := i32_m1; have := congrArg Int32.toInt (show sg_j52 15 = sg 15 from hks_j52 15 (by decide)); have := (show iv 0 80 (sg 15) from CI_s hI 15).1; have := (show iv 0 80 (sg 15) from CI_s hI 15).2; have := congrArg Int32.toInt (show sg_j7 15 = sg 15 from hks_j7 15 (by decide)); have := (hsx0_52).1; have := (hsx0_52).2; have := (hsx1_52).1; have := (hsx1_52).2; have := (hz_1).1; have := (hz_1).2; omega) _ _ _ hP hD hS (lv_sub hl [0, 1] rfl)
      refine lv_iload_n hx hb dX5_destroyAll_7 rfl (lv_at hl 0 rfl) ?_
      refine lv_if_lt (tgt := 58) hx hb dX5_destroyAll_8 (by decide) (fun c_2 => ?_) (fun c_2 => ?_)
      · have h_3 : iv (-1) (-1) x1_7 := iv_ltL c_2 hx1_7 (iv_k (by decide) : iv 0 0 0) (by decide)
        refine ec_aload_n hx hb dX5_destroyAll_58 rfl (lv_at hl 1 rfl) ?_
        refine cm_callV (t := 6) (C := RX5) (T := TX5) (N := 13) (rest := []) (as := []) ⟨hx, hb, hml, hown, htb⟩ (d_forgetMade l dC dI ad cid a2 lx sg_j7 gm_j7 lg x hI_j7 hsx0_7) (cwV 0 htb (gd_V kw_317 kw_318 kw_319 kw_40 kw_1412) rfl rfl rfl (by decide +kernel) ⟨Nat.le_of_ble_eq_true rfl, Nat.le_of_ble_eq_true rfl⟩) hsx0_7 (by decide) (by decide) rfl rfl hl.1 rfl (Nat.le_trans cs_n (by decide)) dX5_destroyAll_59 ⟨Nat.le_of_ble_eq_true rfl, Nat.le_of_ble_eq_true rfl⟩ hK hP hD hS hA hG (fun E ce q9 u_5 H locs hw hP hD hS hce hcv hcl => ?_) (fun v9 u_5 H locs hw hP hD hS => ?_)
        · exact hw.elim
        obtain ⟨rfl, sgv_6, gmv_6, lgv_6, rfl, hIv_6, ksv_6, kgv_6, klv_6, fM_r_4, f15_r_4⟩ := hw
        obtain rfl := KS_nil klv_6
        have hP : va_P (dC, dI) vwCl (cW ad cid a2 lx sgv_6 gmv_6 lg) H := hP
        have hD : va_D A (cW ad cid a2 lx sgv_6 gmv_6 lg) := hD
        refine W.eq (g2 := F0 m 62 ls []) rfl ?_
        exact W.nb (fun hN => W.widen (k := 1) (n := 6) (by decide) (by decide) (vx_ret (W.vret hx hb hr (fun t ht hW => ⟨⟨none, (sgv_6, gmv_6, lg), rfl, ⟨rfl, sgv_6, gmv_6, lg, rfl, hIv_6, (KS_tr (L := [13, 15]) (KS_tr (L := [13, 15]) KS_rf hks_j7 (by decide)) ksv_6 (by decide)), (KS_tr (L := [38, 48]) (KS_tr (L := [38, 48]) KS_rf hkg_j7 (by decide)) kgv_6 (by decide)), KS_rf, (fun j9 q9 => by { rw [show gmv_6 38 = gmv_6 38 from rfl]; exact fM_r_4 j9 (by rw [show sg_j7 12 = sg 12 from ((show KS [13] sg sg_j7 from (KS_tr (L := [13]) KS_rf hks_j7 (by decide))) 12 (by decide))]; exact q9) }), (by have := i32_0; have := i32_1; have := i32_2; have := i32_m1; have := (show iv 0 80 (sgv_6 15) from CI_s hIv_6 15).1; have := (show iv 0 80 (sgv_6 15) from CI_s hIv_6 15).2; have := congrArg Int32.toInt (show sg_j7 15 = sg 15 from hks_j7 15 (by decide)); have := (show iv 0 80 (sg 15) from CI_s hI 15).1; have := (show iv 0 80 (sg 15) from CI_s hI 15).2; have := congrArg Int32.toInt (show sg_j7 15 = sg 15 from hks_j7 15 (by decide)); have := (hsx0_7).1; have := (hsx0_7).2; have := (h_3).1; have := (h_3).2; have := f15_r_4; omega)⟩, by rw [ht]; exact hP, va_K.moved hW.alike hK, hD⟩, hS.F ht, by rw [ht]; exact hN⟩) hS.2.2 dX5_destroyAll_62)))
      · have h_7 : iv 0 79 x1_7 := iv_leR (i32_ge c_2) (iv_k (by decide) : iv 0 0 0) hx1_7 (by decide)
        refine ec_aload_n hx hb dX5_destroyAll_11 rfl (lv_at hl 1 rfl) ?_
        refine cr_get (t := 6) (j := 6) (C := RX5) (T := TX5) (N := 13) (v := eV (ad 24) 0) hx hb htb inX5 hown hK hP hsx0_7 (by decide) (by decide) (by decide) rfl (by decide) (htb _ kw_127) (cV_c rfl (by decide) (by rw [show cMu 6 6 = 0 from rfl, Nat.zero_mul]; rfl)) dX5_destroyAll_12 ?_
        refine lv_iload_n hx hb dX5_destroyAll_15 rfl (lv_at hl 0 rfl) ?_
        refine cr_aald (t := 24) (C := RX1) (v := eV (ad 10) (gm_j7 51 (x1_7 : Int32).toNatClampNeg)) hx hb hK hP (iv_k (by decide) : iv 0 0 0) (by decide) (by decide) (by decide) (by decide) (by decide) rfl (show vp_in x1_7 (cLen 24) from (show vp_in x1_7 80 from (iv_in h_7 (by decide)))) rfl dX5_destroyAll_16 ?_
        obtain ⟨z_8, ez_8⟩ : ∃ z : Int32, z = (gm_j7 51 (x1_7 : Int32).toNatClampNeg) := ⟨_, rfl⟩
        refine W.eq (g2 := F0 m 17 ls [eV (ad 10) z_8]) (by rw [ez_8]) ?_
        have hz_8 : iv (-1) 79 z_8 := iv_of ez_8 (CI_a hI_j7 51 h_7 (by decide))
        have ez_8 := ez_8.trans (congrFun (hkg_j7 51 (by decide)) _)
        have h_9 : iv 0 79 z_8 := ⟨by rw [ez_8]; exact hFND9 _ (lt_cl h_7 (show iv 0 80 (sg 15) from CI_s hI 15) (by decide) (by decide) (by have := i32_0; have := i32_1; have := i32_2; have := i32_m1; have := congrArg Int32.toInt (show sg_j7 15 = sg 15 from hks_j7 15 (by decide)); have := (show iv 0 80 (sg 15) from CI_s hI 15).1; have := (show iv 0 80 (sg 15) from CI_s hI 15).2; have := (hsx0_7).1; have := (hsx0_7).2; have := (h_7).1; have := (h_7).2; have := (hz_8).1; have := (hz_8).2; omega)), (hz_8).2⟩
        refine cr_get (t := 10) (j := 12) (C := RX1) (T := TX1) (N := 19) (v := .int (gm_j7 33 z_8.toNatClampNeg)) hx hb htb inX1 hown hK hP h_9 (by decide) (by decide) (by decide) rfl (by decide) (htb _ kw_1144) rfl dX5_destroyAll_17 ?_
        obtain ⟨z_10, ez_10⟩ : ∃ z : Int32, z = (gm_j7 33 z_8.toNatClampNeg) := ⟨_, rfl⟩
        refine W.eq (g2 := F0 m 20 ls [.int z_10]) (by rw [ez_10]) ?_
        have hz_10 : iv (-1) 25 z_10 := iv_of ez_10 (CI_a hI_j7 33 h_9 (by decide))
        have ez_10 := ez_10.trans (congrFun (hkg_j7 33 (by decide)) _)
        refine lv_iconst (v := (-1)) hx hb dX5_destroyAll_20 (by decide) ?_
        refine lv_icmp_eq (tgt := 52) hx hb dX5_destroyAll_21 (by decide) (fun c_11 => ?_) (fun c_11 => ?_)
        · have h_12 : iv (-1) (-1) z_10 := iv_eq c_11 hz_10 (iv_k (by decide) : iv (-1) (-1) (-1)) (by decide)
          exact hj52 sg_j7 gm_j7 h_7 hsx0_7 (KS_tr (L := [13]) KS_rf hks_j7 (by decide)) (KS_tr (L := [48]) KS_rf hkg_j7 (by decide)) hI_j7 (by have := i32_0; have := i32_1; have := i32_2; have := i32_m1; have := congrArg Int32.toInt (show sg_j7 15 = sg 15 from hks_j7 15 (by decide)); have := (show iv 0 80 (sg 15) from CI_s hI 15).1; have := (show iv 0 80 (sg 15) from CI_s hI 15).2; have := (hsx0_7).1; have := (hsx0_7).2; have := (h_7).1; have := (h_7).2; have := (h_9).1; have := (h_9).2; have := (h_12).1; have := (h_12).2; omega) _ _ _ hP hD hS (lv_sub hl [0, 1] rfl)
        · have h_13 : iv 0 25 z_10 := iv_neL c_11 hz_10 (by decide)
          refine ec_aload_n hx hb dX5_destroyAll_24 rfl (lv_at hl 1 rfl) ?_
          refine cr_get (t := 6) (j := 2) (C := RX5) (T := TX5) (N := 13) (v := eV (ad 5) 0) hx hb htb inX5 hown hK hP hsx0_7 (by decide) (by decide) (by decide) rfl (by decide) (htb _ kw_123) (cV_c rfl (by decide) (by rw [show cMu 6 2 = 0 from rfl, Nat.zero_mul]; rfl)) dX5_destroyAll_25 ?_
          refine lv_bipush (v := 7) hx hb dX5_destroyAll_28 (by decide) ?_
          refine ec_aload_n hx hb dX5_destroyAll_30 rfl (lv_at hl 1 rfl) ?_
          refine cr_get (t := 6) (j := 6) (C := RX5) (T := TX5) (N := 13) (v := eV (ad 24) 0) hx hb htb inX5 hown hK hP hsx0_7 (by decide) (by decide) (by decide) rfl (by decide) (htb _ kw_127) (cV_c rfl (by decide) (by rw [show cMu 6 6 = 0 from rfl, Nat.zero_mul]; rfl)) dX5_destroyAll_31 ?_
          refine lv_iload_n hx hb dX5_destroyAll_34 rfl (lv_at hl 0 rfl) ?_
          refine cr_aald (t := 24) (C := RX1) (v := eV (ad 10) (gm_j7 51 (x1_7 : Int32).toNatClampNeg)) hx hb hK hP (iv_k (by decide) : iv 0 0 0) (by decide) (by decide) (by decide) (by decide) (by decide) rfl (show vp_in x1_7 (cLen 24) from (show vp_in x1_7 80 from (iv_in h_7 (by decide)))) rfl dX5_destroyAll_35 ?_
          refine W.eq (g2 := F0 m 36 ls [eV (ad 10) z_8, .int 7, eV (ad 5) 0]) (by rw [show (gm_j7 51 (x1_7 : Int32).toNatClampNeg) = z_8 from (Eq.trans (congrFun (hkg_j7 51 (by decide)) _) ez_8.symm)]) ?_
          refine cr_get (t := 10) (j := 18) (C := RX1) (T := TX1) (N := 19) (v := .int (gm_j7 39 z_8.toNatClampNeg)) hx hb htb inX1 hown hK hP h_9 (by decide) (by decide) (by decide) rfl (by decide) (htb _ kw_1010) rfl dX5_destroyAll_36 ?_
          obtain ⟨z_15, ez_15⟩ : ∃ z : Int32, z = (gm_j7 39 z_8.toNatClampNeg) := ⟨_, rfl⟩
          refine W.eq (g2 := F0 m 39 ls [.int z_15, .int 7, eV (ad 5) 0]) (by rw [ez_15]) ?_
          have hz_15 : iv (-1) 59 z_15 := iv_of ez_15 (CI_a hI_j7 39 h_9 (by decide))
          have ez_15 := ez_15.trans (congrFun (hkg_j7 39 (by decide)) _)
          refine ec_aload_n hx hb dX5_destroyAll_39 rfl (lv_at hl 1 rfl) ?_
          refine cr_get (t := 6) (j := 6) (C := RX5) (T := TX5) (N := 13) (v := eV (ad 24) 0) hx hb htb inX5 hown hK hP hsx0_7 (by decide) (by decide) (by decide) rfl (by decide) (htb _ kw_127) (cV_c rfl (by decide) (by rw [show cMu 6 6 = 0 from rfl, Nat.zero_mul]; rfl)) dX5_destroyAll_40 ?_
          refine lv_iload_n hx hb dX5_destroyAll_43 rfl (lv_at hl 0 rfl) ?_
          refine cr_aald (t := 24) (C := RX1) (v := eV (ad 10) (gm_j7 51 (x1_7 : Int32).toNatClampNeg)) hx hb hK hP (iv_k (by decide) : iv 0 0 0) (by decide) (by decide) (by decide) (by decide) (by decide) rfl (show vp_in x1_7 (cLen 24) from (show vp_in x1_7 80 from (iv_in h_7 (by decide)))) rfl dX5_destroyAll_44 ?_
          refine W.eq (g2 := F0 m 45 ls [eV (ad 10) z_8, .int z_15, .int 7, eV (ad 5) 0]) (by rw [show (gm_j7 51 (x1_7 : Int32).toNatClampNeg) = z_8 from (Eq.trans (congrFun (hkg_j7 51 (by decide)) _) ez_8.symm)]) ?_
          refine cr_get (t := 10) (j := 12) (C := RX1) (T := TX1) (N := 19) (v := .int (gm_j7 33 z_8.toNatClampNeg)) hx hb htb inX1 hown hK hP h_9 (by decide) (by decide) (by decide) rfl (by decide) (htb _ kw_1144) rfl dX5_destroyAll_45 ?_
          refine W.eq (g2 := F0 m 48 ls [.int z_10, .int z_15, .int 7, eV (ad 5) 0]) (by rw [show (gm_j7 33 z_8.toNatClampNeg) = z_10 from (Eq.trans (congrFun (hkg_j7 33 (by decide)) _) ez_10.symm)]) ?_
          refine lv_iconst (v := 0) hx hb dX5_destroyAll_48 (by decide) ?_
          refine cm_callV (t := 5) (C := RX4) (T := TX4) (N := 2) (rest := []) (as := [.int 7, .int z_15, .int z_10, .int 0]) ⟨hx, hb, hml, hown, htb⟩ (d_addEv l dC dI ad cid a2 lx sg_j7 gm_j7 lg 0 7 z_15 z_10 0 hI_j7 (iv_k (by decide) : iv 0 0 0)) (cwV 4 htb (gd_V kw_1069 kw_1070 kw_1071 kw_36 kw_1582) rfl rfl rfl (by decide +kernel) ⟨Nat.le_of_ble_eq_true rfl, Nat.le_of_ble_eq_true rfl⟩) (iv_k (by decide) : iv 0 0 0) (by decide) (by decide) rfl rfl hl.1 rfl (Nat.le_trans cs_n (by decide)) dX5_destroyAll_49 ⟨Nat.le_of_ble_eq_true rfl, Nat.le_of_ble_eq_true rfl⟩ hK hP hD hS hA hG (fun E ce q9 u_18 H locs hw hP hD hS hce hcv hcl => ?_) (fun v9 u_18 H locs hw hP hD hS => ?_)
          · exact hw.elim
          obtain ⟨rfl, sgv_19, gmv_19, lgv_19, rfl, hIv_19, ksv_19, kgv_19, klv_19⟩ := hw
          obtain rfl := KS_nil klv_19
          have hP : va_P (dC, dI) vwCl (cW ad cid a2 lx sgv_19 gmv_19 lg) H := hP
          have hD : va_D A (cW ad cid a2 lx sgv_19 gmv_19 lg) := hD
          refine W.eq (g2 := F0 m 52 ls []) rfl ?_
          exact hj52 sgv_19 gmv_19 h_7 hsx0_7 (KS_tr (L := [13]) (KS_tr (L := [13]) KS_rf hks_j7 (by decide)) ksv_19 (by decide)) (KS_tr (L := [48]) (KS_tr (L := [48]) KS_rf hkg_j7 (by decide)) kgv_19 (by decide)) hIv_19 (by have := i32_0; have := i32_1; have := i32_2; have := i32_m1; have := congrArg Int32.toInt (show sgv_19 15 = sg_j7 15 from ksv_19 15 (by decide)); have := congrArg Int32.toInt (show sg_j7 15 = sg 15 from hks_j7 15 (by decide)); have := (show iv 0 80 (sg 15) from CI_s hI 15).1; have := (show iv 0 80 (sg 15) from CI_s hI 15).2; have := congrArg Int32.toInt (show sg_j7 15 = sg 15 from hks_j7 15 (by decide)); have := (hsx0_7).1; have := (hsx0_7).2; have := (h_7).1; have := (h_7).2; have := (h_9).1; have := (h_9).2; have := (h_13).1; have := (h_13).2; have := (hz_15).1; have := (hz_15).2; omega) _ _ _ hP hD hS (lv_sub hl [0, 1] rfl)
  refine ec_aload_n hx hb dX5_destroyAll_0 rfl (lv_at hl 0 rfl) ?_
  refine cr_get (t := 6) (j := 7) (C := RX5) (T := TX5) (N := 13) (v := .int (sg 15)) hx hb htb inX5 hown hK hP hvx (by decide) (by decide) (by decide) rfl (by decide) (htb _ kw_321) rfl dX5_destroyAll_1 ?_
  refine lv_iconst (v := 1) hx hb dX5_destroyAll_4 (by decide) ?_
  refine lv_isub hx hb dX5_destroyAll_5 ?_
  refine lv_topi (fun z_20 ez_20 => ?_)
  have hz_20 : iv (-1) 79 z_20 := iv_of ez_20 (iv_sub (show iv 0 80 (sg 15) from CI_s hI 15) (iv_k (by decide) : iv 1 1 1) (by decide))
  have tz_20 : z_20.toInt = ((sg 15) : Int32).toInt - 1 := by rw [ez_20]; exact iv_subE (show iv 0 80 (sg 15) from CI_s hI 15) (iv_k (by decide) : iv 1 1 1) (by decide)
  refine lv_istore_n (i := 1) (lv' := [(1, .int z_20), (0, eV (ad 6) x)]) hx hb dX5_destroyAll_6 rfl hl (by decide) (by simp [List.filter, eV_cat, cat_i, cat_l]) (fun ls hl => ?_)
  exact hj7 _ sg gm z_20 rfl hz_20 hvx KS_rf KS_rf hI (by have := i32_0; have := i32_1; have := i32_2; have := i32_m1; have := (show iv 0 80 (sg 15) from CI_s hI 15).1; have := (show iv 0 80 (sg 15) from CI_s hI 15).2; have := (hvx).1; have := (hvx).2; have := ((show iv 0 80 (sg 15) from CI_s hI 15)).1; have := ((show iv 0 80 (sg 15) from CI_s hI 15)).2; have := (hz_20).1; have := (hz_20).2; omega) _ _ _ hP hD hS (lv_sub hl [0, 1] rfl)
