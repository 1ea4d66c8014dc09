section
set_option maxHeartbeats 4000000 in
set_option maxRecDepth 100000 in
theorem d_stopMaking9 (l : Launch) (dC : Nat → ClassId) (dI : Nat → Nat → Nat) (ad : Nat → Nat → Nat) (cid : Nat → ClassId) (a2 : Nat → Nat) (lx : List Nat) (sg : Nat → Int32) (gm : Nat → Nat → Int32) (lg : Nat → Nat → Int64) (x : Int32) (hI : CI sg gm) (hvx : iv 0 0 x) : CMt dC dI ad cid a2 lx l yX5_stopMaking wm_X5_stopMaking ({ frames := 1, cells := 1, slots := 6, locals := 21 }) [eV (ad 6) x] sg gm lg (fun v u => v = none ∧ ∃ (sg2 : Nat → Int32) (gm2 : Nat → Nat → Int32) (lg2 : Nat → Nat → Int64), u = (sg2, gm2, lg2) ∧ CI sg2 gm2 ∧ KS [16] sg sg2 ∧ KS [37] gm gm2 ∧ KS [] lg lg2 ∧ (∀ j9, j9 < (sg 12).toNatClampNeg → gm2 37 j9 = 0)) (fun _ _ => False) := by
  intro sz
  refine vx_ofW (cc := cX5_stopMaking) (maxL := 2) (ret := none) (by decide) rfl ?_
  intro p e s m args below meth c s₁ B hml hxt hv
  obtain ⟨rfl, hsz, hP, hK, hD0, hG⟩ := hv
  have hx := B.exec
  have hb := B.bytes
  have hr := B.returns
  have hts := atoms_spec (ws := wm_X5_stopMaking) B.pre
  have htb := fun (w : Cond) (h : w ∈ tb) => hts w (List.mem_cons_of_mem _ h)
  have hown : s.vm.findClass RX5 = some m.cls := findClass_of_methodNamed B.named
  have hlocks := B.notSynchronized
  subst hsz
  have hD := hD0.self (sz := s.heap.size)
  generalize hAe : va_A (cW ad cid a2 lx sg gm lg) s.heap.size = A at hD hG ⊢
  have hA : ∀ q : Nat, s.heap.size ≤ q → A q := fun q h => by rw [← hAe]; exact Or.inr h
  have hS : va_S A s.heap s.heap [] := va_S.rf
  have hl := lv_entry ([eV (ad 6) x]) (n := 2) (by rw [show (lg_sl ([eV (ad 6) x])).length = 1 from by simp [lg_sl, eV_cat, cat_i, cat_l]]; exact Nat.le_of_ble_eq_true rfl)
  rw [lg_entry_eq]
  generalize (lg_sl ([eV (ad 6) x]) ++ List.replicate (2 - (lg_sl ([eV (ad 6) x])).length) Slot.unset).toArray = ls at hl ⊢
  have hl : lv_has ls 2 [(0, eV (ad 6) x)] := by simp [lv_args, eV_cat, cat_i, cat_l] at hl; exact hl
  have hj2 : ∀ (n : Nat) (gm_j2 : Nat → Nat → Int32) (x1_2 : Int32) (_ : (80 - x1_2.toInt).toNat = n) (_ : iv 0 80 x1_2) (_ : iv 0 0 x) (_ : KS [37] gm gm_j2) (_ : CI sg gm_j2) (_ : ∀ j9, j9 < x1_2.toNatClampNeg → gm_j2 37 j9 = 0) (H : Heap) (locs : List Loc) (ls : Array Slot), va_P (dC, dI) vwCl (cW ad cid a2 lx sg gm_j2 lg) H → va_D A (cW ad cid a2 lx sg gm_j2 lg) → va_S A s.heap H locs → lv_has ls 2 [(1, .int x1_2), (0, eV (ad 6) x)] → W p l e (headSpec wm_X5_stopMaking ({ frames := 1, cells := 1, slots := 6, locals := 21 })).room s m ([eV (ad 6) x] : List Value).toArray below meth c H locs 0 0 (vx_MQ below (cQx dC dI ad cid a2 lx (fun v u => v = none ∧ ∃ (sg2 : Nat → Int32) (gm2 : Nat → Nat → Int32) (lg2 : Nat → Nat → Int64), u = (sg2, gm2, lg2) ∧ CI sg2 gm2 ∧ KS [16] sg sg2 ∧ KS [37] gm gm2 ∧ KS [] lg lg2 ∧ (∀ j9, j9 < (sg 12).toNatClampNeg → gm2 37 j9 = 0)) A) (cX dC dI ad cid a2 lx (fun _ _ => False) A) ([eV (ad 6) x] : List Value).toArray s 1 6 A) (F0 m 2 ls []) := by
    intro n
    induction n using Nat.strongRecOn with
    | ind n ih2 =>
      intro gm_j2 x1_2 hn2 hx1_2 hsx0_2 hkg_j2 hI_j2 hall H locs ls hP hD hS hl
      refine lv_iload_n hx hb dX5_stopMaking_2 rfl (lv_at hl 0 rfl) ?_
      refine ec_aload_n hx hb dX5_stopMaking_3 rfl (lv_at hl 1 rfl) ?_
      refine cr_get (t := 6) (j := 0) (C := RX5) (T := TX5) (N := 13) (v := eV (ad 4) 0) hx hb htb inX5 hown hK hP hsx0_2 (by decide) (by decide) (by decide) rfl (by decide) (htb _ kw_404) (cV_c rfl (by decide) (by rw [show cMu 6 0 = 0 from rfl, Nat.zero_mul]; rfl)) dX5_stopMaking_4 ?_
      refine cm_callV (t := 4) (C := RX10) (T := TX10) (N := 4) (rest := [.int x1_2]) (as := []) ⟨hx, hb, hml, hown, htb⟩ (d_countWi l dC dI ad cid a2 lx sg gm_j2 lg 0 hI_j2 (iv_k (by decide) : iv 0 0 0)) (cwV 0 htb (gd_V kw_492 kw_493 kw_494 kw_153 kw_1406) rfl rfl rfl (by decide +kernel) ⟨Nat.le_of_ble_eq_true rfl, Nat.le_of_ble_eq_true rfl⟩) (iv_k (by decide) : iv 0 0 0) (by decide) (by decide) rfl rfl hl.1 rfl (Nat.le_trans (cs_c (cat_i _) cs_n) (by decide)) dX5_stopMaking_7 ⟨Nat.le_of_ble_eq_true rfl, Nat.le_of_ble_eq_true rfl⟩ hK hP hD hS hA hG (fun E ce q9 u_2 H locs hw hP hD hS hce hcv hcl => ?_) (fun v9 u_2 H locs hw hP hD hS => ?_)
      · exact hw.elim
      obtain ⟨r_1, rfl, rfl, hr_1, fr_r_1⟩ := hw
      have hP : va_P (dC, dI) vwCl (cW ad cid a2 lx sg gm_j2 lg) H := hP
      have hD : va_D A (cW ad cid a2 lx sg gm_j2 lg) := hD
      refine W.eq (g2 := F0 m 10 ls [.int r_1, .int x1_2]) rfl ?_
      refine lv_icmp_ge (tgt := 31) hx hb dX5_stopMaking_10 (by decide) (fun c_4 => ?_) (fun c_4 => ?_)
      · have d_5 : (r_1 : Int32).toInt ≤ (x1_2 : Int32).toInt := Int32.le_iff_toInt_le.mp c_4
        refine ec_aload_n hx hb dX5_stopMaking_31 rfl (lv_at hl 1 rfl) ?_
        refine ec_null (a := ad 10) hx hb dX5_stopMaking_32 ?_
        refine cr_puts (t := 6) (j := 10) (C := RX5) (T := TX5) (N := 13) (ty0 := tyX5) (k := 16) (y := (-1)) hx hb htb inX5 tyX5_ok nmX5 hown hK hP hD hS hsx0_2 (by decide) (by decide) (by decide) (by decide) rfl rfl rfl (by decide) (htb _ kw_414) rfl (by show eV (ad 10) (-1) = eV (ad 10) (va_up sg 16 (-1) 16); rw [va_up_self]) (ev_n _) (ev_f _) dX5_stopMaking_33 (fun sg_6 H locs esg_6 hP hD hS => ?_)
        have hI_sg_6 := CI_put hI_j2 esg_6 (iv_k (by decide) : iv (-1) (-1) (-1)) (by decide)
        exact W.nb (fun hN => W.widen (k := 1) (n := 6) (by decide) (by decide) (vx_ret (W.vret hx hb hr (fun t ht hW => ⟨⟨none, (sg_6, gm_j2, lg), rfl, ⟨rfl, sg_6, gm_j2, lg, rfl, hI_sg_6, (KS_up KS_rf esg_6 (by decide)), (KS_tr (L := [37]) KS_rf hkg_j2 (by decide)), KS_rf, (fun j9 q9 => hall j9 (by have q1 : (sg 12).toNatClampNeg = (sg 12).toInt.toNat := rfl; have q2 : x1_2.toNatClampNeg = x1_2.toInt.toNat := rfl; have q3 := congrArg Int32.toInt fr_r_1; have := i32_0; have := i32_1; have := i32_2; have := i32_m1; have := congrArg Int32.toInt (show sg_6 12 = sg 12 from up_ne esg_6 (by decide)); have := (show iv 0 80 (sg 12) from CI_s hI 12).1; have := (show iv 0 80 (sg 12) from CI_s hI 12).2; have := (hsx0_2).1; have := (hsx0_2).2; have := (hx1_2).1; have := (hx1_2).2; have := (hr_1).1; have := (hr_1).2; omega))⟩, by rw [ht]; exact hP, va_K.moved hW.alike hK, hD⟩, hS.F ht, by rw [ht]; exact hN⟩) hS.2.2 dX5_stopMaking_36)))
      · have d_7 : (x1_2 : Int32).toInt < (r_1 : Int32).toInt := Int32.lt_iff_toInt_lt.mp (i32_lt c_4)
        have h_8 : iv 0 79 x1_2 := iv_ltL (i32_lt c_4) hx1_2 hr_1 (by decide)
        have h_9 : iv 1 80 r_1 := iv_ltR (i32_lt c_4) hx1_2 hr_1 (by decide)
        refine ec_aload_n hx hb dX5_stopMaking_13 rfl (lv_at hl 1 rfl) ?_
        refine cr_get (t := 6) (j := 0) (C := RX5) (T := TX5) (N := 13) (v := eV (ad 4) 0) hx hb htb inX5 hown hK hP hsx0_2 (by decide) (by decide) (by decide) rfl (by decide) (htb _ kw_404) (cV_c rfl (by decide) (by rw [show cMu 6 0 = 0 from rfl, Nat.zero_mul]; rfl)) dX5_stopMaking_14 ?_
        refine lv_iload_n hx hb dX5_stopMaking_17 rfl (lv_at hl 0 rfl) ?_
        refine cm_callV (t := 4) (C := RX10) (T := TX10) (N := 4) (rest := []) (as := [.int x1_2]) ⟨hx, hb, hml, hown, htb⟩ (d_numbered l dC dI ad cid a2 lx sg gm_j2 lg 0 x1_2 hI_j2 (iv_k (by decide) : iv 0 0 0) h_8) (cwV 1 htb (gd_V kw_495 kw_496 kw_497 kw_153 kw_1407) rfl rfl rfl (by decide +kernel) ⟨Nat.le_of_ble_eq_true rfl, Nat.le_of_ble_eq_true rfl⟩) (iv_k (by decide) : iv 0 0 0) (by decide) (by decide) rfl rfl hl.1 rfl (Nat.le_trans cs_n (by decide)) dX5_stopMaking_18 ⟨Nat.le_of_ble_eq_true rfl, Nat.le_of_ble_eq_true rfl⟩ hK hP hD hS hA hG (fun E ce q9 u_11 H locs hw hP hD hS hce hcv hcl => ?_) (fun v9 u_11 H locs hw hP hD hS => ?_)
        · exact hw.elim
        obtain ⟨r_10, rfl, rfl, hr_10, fr_r_10⟩ := hw
        have hP : va_P (dC, dI) vwCl (cW ad cid a2 lx sg gm_j2 lg) H := hP
        have hD : va_D A (cW ad cid a2 lx sg gm_j2 lg) := hD
        refine W.eq (g2 := F0 m 21 ls [eV (ad 10) r_10]) rfl ?_
        refine lv_iconst (v := 0) hx hb dX5_stopMaking_21 (by decide) ?_
        refine cr_putg (t := 10) (j := 16) (C := RX1) (T := TX1) (N := 19) (ty0 := tyX1) (k := 37) (y := 0) hx hb htb inX1 tyX1_ok nmX1 hown hK hP hD hS hr_10 (by decide) (by decide) (by decide) (by decide) rfl rfl (by decide) (htb _ kw_382) rfl (by show Value.int 0 = Value.int (va_up gm_j2 37 (upd (gm_j2 37) r_10.toNatClampNeg 0) 37 r_10.toNatClampNeg); rw [va_up_self, upd_at]) (iv_nb (iv_w (iv_k (by decide) : iv 0 0 0) (by decide))) (iv_fb (iv_w (iv_k (by decide) : iv 0 0 0) (by decide))) dX5_stopMaking_22 (fun gm_13 H locs egm_13 hP hD hS => ?_)
        have hI_gm_13 := CI_st hI_j2 egm_13 (iv_k (by decide) : iv 0 0 0) (by decide)
        obtain ⟨z_14, ez_14⟩ : ∃ z : Int32, z = x1_2 + 1 := ⟨_, rfl⟩
        have hz_14 : iv 1 80 z_14 := iv_of ez_14 (iv_add h_8 (iv_k (by decide) : iv 1 1 1) (by decide))
        have tz_14 : z_14.toInt = x1_2.toInt + 1 := by rw [ez_14]; exact iv_addE h_8 (iv_k (by decide) : iv 1 1 1) (by decide)
        refine lv_iinc (v := z_14) (lv' := [(1, .int z_14), (0, eV (ad 6) x)]) hx hb dX5_stopMaking_25 hl (k := 0) rfl ez_14.symm (by decide) (by simp [List.filter, eV_cat, cat_i, cat_l]) (fun ls hl => ?_)
        refine lv_goto (tgt := 2) hx hb dX5_stopMaking_28 (by decide) ?_
        exact ih2 _ (by rw [← hn2]; exact (iv_meas tz_14 h_8 (by decide))) gm_13 z_14 rfl (iv_w hz_14 (by decide)) hsx0_2 (KS_up (KS_tr (L := [37]) KS_rf hkg_j2 (by decide)) egm_13 (by decide)) hI_gm_13 (fun j9 q9 => by { rw [show gm_13 37 = _ from up_at egm_13]; by_cases q8 : j9 = r_10.toNatClampNeg; { rw [q8, upd_at] }; { rw [upd_ne q8]; exact hall j9 (by have q1 : z_14.toNatClampNeg = z_14.toInt.toNat := rfl; have q2 : x1_2.toNatClampNeg = x1_2.toInt.toNat := rfl; rw [fr_r_10] at q8; have := i32_0; have := i32_1; have := i32_2; have := i32_m1; have := (hsx0_2).1; have := (hsx0_2).2; have := (h_8).1; have := (h_8).2; have := (h_9).1; have := (h_9).2; have := (hr_10).1; have := (hr_10).2; have := (hz_14).1; have := (hz_14).2; omega) } }) _ _ _ hP hD hS (lv_sub hl [0, 1] rfl)
  refine lv_iconst (v := 0) hx hb dX5_stopMaking_0 (by decide) ?_
  refine lv_istore_n (i := 1) (lv' := [(1, .int 0), (0, eV (ad 6) x)]) hx hb dX5_stopMaking_1 rfl hl (by decide) (by simp [List.filter, eV_cat, cat_i, cat_l]) (fun ls hl => ?_)
  exact hj2 _ gm 0 rfl (iv_w (iv_k (by decide) : iv 0 0 0) (by decide)) hvx KS_rf hI (fun _ q9 => absurd q9 (Nat.not_lt_zero _)) _ _ _ hP hD hS (lv_sub hl [0, 1] rfl)

set_option maxHeartbeats 4000000 in
set_option maxRecDepth 100000 in
theorem d_clearEv9 (l : Launch) (dC : Nat → ClassId) (dI : Nat → Nat → Nat) (ad : Nat → Nat → Nat) (cid : Nat → ClassId) (a2 : Nat → Nat) (lx : List Nat) (sg : Nat → Int32) (gm : Nat → Nat → Int32) (lg : Nat → Nat → Int64) (x : Int32) (hI : CI sg gm) (hvx : iv 0 0 x) : CMt dC dI ad cid a2 lx l yX4_clear wm_X4_clear ({ frames := 0, cells := 1, slots := 6, locals := 0 }) [eV (ad 5) x] sg gm lg (fun v u => v = none ∧ ∃ (sg2 : Nat → Int32) (gm2 : Nat → Nat → Int32) (lg2 : Nat → Nat → Int64), u = (sg2, gm2, lg2) ∧ CI sg2 gm2 ∧ KS [13] sg sg2 ∧ KS [] gm gm2 ∧ KS [] lg lg2 ∧ ((sg2 13).toInt = 0)) (fun _ _ => False) := by
  intro sz
  refine vx_ofW (cc := cX4_clear) (maxL := 1) (ret := none) (by decide) rfl ?_
  intro p e s m args below meth c s₁ B hml hxt hv
  obtain ⟨rfl, hsz, hP, hK, hD0, hG⟩ := hv
  have hx := B.exec
  have hb := B.bytes
  have hr := B.returns
  have hts := atoms_spec (ws := wm_X4_clear) B.pre
  have htb := fun (w : Cond) (h : w ∈ tb) => hts w (List.mem_cons_of_mem _ h)
  have hown : s.vm.findClass RX4 = some m.cls := findClass_of_methodNamed B.named
  have hlocks := B.notSynchronized
  subst hsz
  have hD := hD0.self (sz := s.heap.size)
  generalize hAe : va_A (cW ad cid a2 lx sg gm lg) s.heap.size = A at hD hG ⊢
  have hA : ∀ q : Nat, s.heap.size ≤ q → A q := fun q h => by rw [← hAe]; exact Or.inr h
  have hS : va_S A s.heap s.heap [] := va_S.rf
  have hl := lv_entry ([eV (ad 5) x]) (n := 1) (by rw [show (lg_sl ([eV (ad 5) x])).length = 1 from by simp [lg_sl, eV_cat, cat_i, cat_l]]; exact Nat.le_of_ble_eq_true rfl)
  rw [lg_entry_eq]
  generalize (lg_sl ([eV (ad 5) x]) ++ List.replicate (1 - (lg_sl ([eV (ad 5) x])).length) Slot.unset).toArray = ls at hl ⊢
  have hl : lv_has ls 1 [(0, eV (ad 5) x)] := by simp [lv_args, eV_cat, cat_i, cat_l] at hl; exact hl
  refine ec_aload_n hx hb dX4_clear_0 rfl (lv_at hl 0 rfl) ?_
  refine lv_iconst (v := 0) hx hb dX4_clear_1 (by decide) ?_
  refine cr_puts (t := 5) (j := 1) (C := RX4) (T := TX4) (N := 2) (ty0 := tyX4) (k := 13) (y := 0) hx hb htb inX4 tyX4_ok nmX4 hown hK hP hD hS hvx (by decide) (by decide) (by decide) (by decide) rfl rfl rfl (by decide) (htb _ kw_397) rfl (by show Value.int 0 = Value.int (va_up sg 13 0 13); rw [va_up_self]) rfl rfl dX4_clear_2 (fun sg_1 H locs esg_1 hP hD hS => ?_)
  have hI_sg_1 := CI_put hI esg_1 (iv_k (by decide) : iv 0 0 0) (by decide)
  exact W.nb (fun hN => W.widen (k := 1) (n := 6) (by decide) (by decide) (vx_ret (W.vret hx hb hr (fun t ht hW => ⟨⟨none, (sg_1, gm, lg), rfl, ⟨rfl, sg_1, gm, lg, rfl, hI_sg_1, (KS_up KS_rf esg_1 (by decide)), KS_rf, KS_rf, (by have := i32_0; have := i32_1; have := i32_2; have := i32_m1; have : (sg_1 13).toInt = 0 := (by rw [up_at esg_1]; rfl); have := (hvx).1; have := (hvx).2; omega)⟩, by rw [ht]; exact hP, va_K.moved hW.alike hK, hD⟩, hS.F ht, by rw [ht]; exact hN⟩) hS.2.2 dX4_clear_5)))

set_option maxHeartbeats 4000000 in
set_option maxRecDepth 100000 in
theorem d_countEv9 (l : Launch) (dC : Nat → ClassId) (dI : Nat → Nat → Nat) (ad : Nat → Nat → Nat) (cid : Nat → ClassId) (a2 : Nat → Nat) (lx : List Nat) (sg : Nat → Int32) (gm : Nat → Nat → Int32) (lg : Nat → Nat → Int64) (x : Int32) (hI : CI sg gm) (hvx : iv 0 0 x) : CMt dC dI ad cid a2 lx l yX4_count wm_X4_count ({ frames := 0, cells := 1, slots := 6, locals := 0 }) [eV (ad 5) x] sg gm lg (fun v u => ∃ r : Int32, v = some (.int r) ∧ u = (sg, gm, lg) ∧ (iv 0 400 r) ∧ (r = sg 13)) (fun _ _ => False) := by
  intro sz
  refine vx_ofW (cc := cX4_count) (maxL := 1) (ret := (some .int)) (by decide) rfl ?_
  intro p e s m args below meth c s₁ B hml hxt hv
  obtain ⟨rfl, hsz, hP, hK, hD0, hG⟩ := hv
  have hx := B.exec
  have hb := B.bytes
  have hr := B.returns
  have hts := atoms_spec (ws := wm_X4_count) B.pre
  have htb := fun (w : Cond) (h : w ∈ tb) => hts w (List.mem_cons_of_mem _ h)
  have hown : s.vm.findClass RX4 = some m.cls := findClass_of_methodNamed B.named
  have hlocks := B.notSynchronized
  subst hsz
  have hD := hD0.self (sz := s.heap.size)
  generalize hAe : va_A (cW ad cid a2 lx sg gm lg) s.heap.size = A at hD hG ⊢
  have hA : ∀ q : Nat, s.heap.size ≤ q → A q := fun q h => by rw [← hAe]; exact Or.inr h
  have hS : va_S A s.heap s.heap [] := va_S.rf
  have hl := lv_entry ([eV (ad 5) x]) (n := 1) (by rw [show (lg_sl ([eV (ad 5) x])).length = 1 from by simp [lg_sl, eV_cat, cat_i, cat_l]]; exact Nat.le_of_ble_eq_true rfl)
  rw [lg_entry_eq]
  generalize (lg_sl ([eV (ad 5) x]) ++ List.replicate (1 - (lg_sl ([eV (ad 5) x])).length) Slot.unset).toArray = ls at hl ⊢
  have hl : lv_has ls 1 [(0, eV (ad 5) x)] := by simp [lv_args, eV_cat, cat_i, cat_l] at hl; exact hl
  refine ec_aload_n hx hb dX4_count_0 rfl (lv_at hl 0 rfl) ?_
  refine cr_get (t := 5) (j := 1) (C := RX4) (T := TX4) (N := 2) (v := .int (sg 13)) hx hb htb inX4 hown hK hP hvx (by decide) (by decide) (by decide) rfl (by decide) (htb _ kw_397) rfl dX4_count_1 ?_
  exact W.nb (fun hN => W.widen (k := 1) (n := 6) (by decide) (by decide) (vx_ret (W.iret (v := (sg 13)) hx hb hr (fun t ht hW => ⟨⟨some (.int (sg 13)), (sg, gm, lg), rfl, ⟨(sg 13), rfl, rfl, (show iv 0 400 (sg 13) from CI_s hI 13), (rfl)⟩, by rw [ht]; exact hP, va_K.moved hW.alike hK, hD⟩, hS.F ht, by rw [ht]; exact hN⟩) hS.2.2 dX4_count_4)))

set_option maxHeartbeats 4000000 in
set_option maxRecDepth 100000 in
theorem d_objectCount9 (l : Launch) (dC : Nat → ClassId) (dI : Nat → Nat → Nat) (ad : Nat → Nat → Nat) (cid : Nat → ClassId) (a2 : Nat → Nat) (lx : List Nat) (sg : Nat → Int32) (gm : Nat → Nat → Int32) (lg : Nat → Nat → Int64) (x : Int32) (hI : CI sg gm) (hvx : iv 0 0 x) : CMt dC dI ad cid a2 lx l yX5_objectCount wm_X5_objectCount ({ frames := 0, cells := 1, slots := 6, locals := 0 }) [eV (ad 6) x] sg gm lg (fun v u => ∃ r : Int32, v = some (.int r) ∧ u = (sg, gm, lg) ∧ (iv 0 60 r) ∧ (r = sg 14)) (fun _ _ => False) := by
  intro sz
  refine vx_ofW (cc := cX5_objectCount) (maxL := 1) (ret := (some .int)) (by decide) rfl ?_
  intro p e s m args below meth c s₁ B hml hxt hv
  obtain ⟨rfl, hsz, hP, hK, hD0, hG⟩ := hv
  have hx := B.exec
  have hb := B.bytes
  have hr := B.returns
  have hts := atoms_spec (ws := wm_X5_objectCount) B.pre
  have htb := fun (w : Cond) (h : w ∈ tb) => hts w (List.mem_cons_of_mem _ h)
  have hown : s.vm.findClass RX5 = some m.cls := findClass_of_methodNamed B.named
  have hlocks := B.notSynchronized
  subst hsz
  have hD := hD0.self (sz := s.heap.size)
  generalize hAe : va_A (cW ad cid a2 lx sg gm lg) s.heap.size = A at hD hG ⊢
  have hA : ∀ q : Nat, s.heap.size ≤ q → A q := fun q h => by rw [← hAe]; exact Or.inr h
  have hS : va_S A s.heap s.heap [] := va_S.rf
  have hl := lv_entry ([eV (ad 6) x]) (n := 1) (by rw [show (lg_sl ([eV (ad 6) x])).length = 1 from by simp [lg_sl, eV_cat, cat_i, cat_l]]; exact Nat.le_of_ble_eq_true rfl)
  rw [lg_entry_eq]
  generalize (lg_sl ([eV (ad 6) x]) ++ List.replicate (1 - (lg_sl ([eV (ad 6) x])).length) Slot.unset).toArray = ls at hl ⊢
  have hl : lv_has ls 1 [(0, eV (ad 6) x)] := by simp [lv_args, eV_cat, cat_i, cat_l] at hl; exact hl
  refine ec_aload_n hx hb dX5_objectCount_0 rfl (lv_at hl 0 rfl) ?_
  refine cr_get (t := 6) (j := 5) (C := RX5) (T := TX5) (N := 13) (v := .int (sg 14)) hx hb htb inX5 hown hK hP hvx (by decide) (by decide) (by decide) rfl (by decide) (htb _ kw_409) rfl dX5_objectCount_1 ?_
  exact W.nb (fun hN => W.widen (k := 1) (n := 6) (by decide) (by decide) (vx_ret (W.iret (v := (sg 14)) hx hb hr (fun t ht hW => ⟨⟨some (.int (sg 14)), (sg, gm, lg), rfl, ⟨(sg 14), rfl, rfl, (show iv 0 60 (sg 14) from CI_s hI 14), (rfl)⟩, by rw [ht]; exact hP, va_K.moved hW.alike hK, hD⟩, hS.F ht, by rw [ht]; exact hN⟩) hS.2.2 dX5_objectCount_4)))

theorem fin_9 {wg : Nat → Nat → Int32} {lg : Nat → Nat → Int64} {S : S9} {sg : Nat → Int32} {gm : Nat → Nat → Int32} {k : Nat} (h : RC wg lg S sg gm) (hk : k < (zF S).length) : ∃ b, (zF S)[k]? = some b ∧ (gm 51 k).toInt = (b : Int) ∧ (gm 39 b).toInt = zW S b := by
  have hk2 := List.getElem?_eq_getElem hk
  have a := h.2.2.2.2.1 k _ hk2
  have w := ((h.2.2.1 _ a.2.1).2.1 a.2.2.1 a.2.2.2.1).2 (by rw [a.2.2.2.2]; decide)
  exact ⟨_, hk2, a.1, w.1⟩

set_option maxHeartbeats 4000000 in
set_option maxRecDepth 100000 in
theorem d_destroyAll9 (l : Launch) (dC : Nat → ClassId) (dI : Nat → Nat → Nat) (ad : Nat → Nat → Nat) (cid : Nat → ClassId) (a2 : Nat → Nat) (lx : List Nat) (sg : Nat → Int32) (gm : Nat → Nat → Int32) (lg : Nat → Nat → Int64) (x : Int32) (wg : Nat → Nat → Int32) (S : S9) (hI : CI sg gm) (hvx : iv 0 0 x) (hFND9 : FND9 sg gm) (hSW : st9 gm = wg) (hRC : RC wg lg S sg gm) : CMt dC dI ad cid a2 lx l yX5_destroyAll wm_X5_destroyAll ({ frames := 2, cells := 1, slots := 6, locals := 42 }) [eV (ad 6) x] sg gm lg (fun v u => v = none ∧ ∃ (sg2 : Nat → Int32) (gm2 : Nat → Nat → Int32) (lg2 : Nat → Nat → Int64), u = (sg2, gm2, lg2) ∧ CI sg2 gm2 ∧ KS [13, 15] sg sg2 ∧ KS [38, 48] gm gm2 ∧ KS [] lg lg2 ∧ (∀ j9, j9 < (sg 12).toNatClampNeg → gm2 38 j9 = 0) ∧ ((sg2 15).toInt = 0) ∧ (RC wg lg (zCl wg S) sg2 gm2)) (fun _ _ => False) := by
  intro sz
  refine vx_ofW (cc := cX5_destroyAll) (maxL := 2) (ret := none) (by decide) rfl ?_
  intro p e s m args below meth c s₁ B hml hxt hv
  obtain ⟨rfl, hsz, hP, hK, hD0, hG⟩ := hv
  have hx := B.exec
  have hb := B.bytes
  have hr := B.returns
  have hts := atoms_spec (ws := wm_X5_destroyAll) B.pre
  have htb := fun (w : Cond) (h : w ∈ tb) => hts w (List.mem_cons_of_mem _ h)
  have hown : s.vm.findClass RX5 = some m.cls := findClass_of_methodNamed B.named
  have hlocks := B.notSynchronized
  subst hsz
  have hD := hD0.self (sz := s.heap.size)
  generalize hAe : va_A (cW ad cid a2 lx sg gm lg) s.heap.size = A at hD hG ⊢
  have hA : ∀ q : Nat, s.heap.size ≤ q → A q := fun q h => by rw [← hAe]; exact Or.inr h
  have hS : va_S A s.heap s.heap [] := va_S.rf
  have hl := lv_entry ([eV (ad 6) x]) (n := 2) (by rw [show (lg_sl ([eV (ad 6) x])).length = 1 from by simp [lg_sl, eV_cat, cat_i, cat_l]]; exact Nat.le_of_ble_eq_true rfl)
  rw [lg_entry_eq]
  generalize (lg_sl ([eV (ad 6) x]) ++ List.replicate (2 - (lg_sl ([eV (ad 6) x])).length) Slot.unset).toArray = ls at hl ⊢
  have hl : lv_has ls 2 [(0, eV (ad 6) x)] := by simp [lv_args, eV_cat, cat_i, cat_l] at hl; exact hl
  have hj7 : ∀ (n : Nat) (sg_j7 : Nat → Int32) (gm_j7 : Nat → Nat → Int32) (x1_7 : Int32) (_ : (x1_7.toInt + 1).toNat = n) (_ : iv (-1) 79 x1_7) (_ : iv 0 0 x) (_ : KS [13] sg sg_j7) (_ : KS [48] gm gm_j7) (_ : CI sg_j7 gm_j7) (_ : x1_7.toInt < (sg 15).toInt) (_ : ∃ S2, RC wg lg S2 sg_j7 gm_j7 ∧ DSR wg S (x1_7.toInt + 1).toNat S2) (H : Heap) (locs : List Loc) (ls : Array Slot), va_P (dC, dI) vwCl (cW ad cid a2 lx sg_j7 gm_j7 lg) H → va_D A (cW ad cid a2 lx sg_j7 gm_j7 lg) → va_S A s.heap H locs → lv_has ls 2 [(1, .int x1_7), (0, eV (ad 6) x)] → W p l e (headSpec wm_X5_destroyAll ({ frames := 2, cells := 1, slots := 6, locals := 42 })).room s m ([eV (ad 6) x] : List Value).toArray below meth c H locs 0 0 (vx_MQ below (cQx dC dI ad cid a2 lx (fun v u => v = none ∧ ∃ (sg2 : Nat → Int32) (gm2 : Nat → Nat → Int32) (lg2 : Nat → Nat → Int64), u = (sg2, gm2, lg2) ∧ CI sg2 gm2 ∧ KS [13, 15] sg sg2 ∧ KS [38, 48] gm gm2 ∧ KS [] lg lg2 ∧ (∀ j9, j9 < (sg 12).toNatClampNeg → gm2 38 j9 = 0) ∧ ((sg2 15).toInt = 0) ∧ (RC wg lg (zCl wg S) sg2 gm2)) A) (cX dC dI ad cid a2 lx (fun _ _ => False) A) ([eV (ad 6) x] : List Value).toArray s 1 6 A) (F0 m 7 ls []) := by
    intro n
    induction n using Nat.strongRecOn with
    | ind n ih7 =>
      intro sg_j7 gm_j7 x1_7 hn7 hx1_7 hsx0_7 hks_j7 hkg_j7 hI_j7 h1l hDS H locs ls hP hD hS hl
      have hj52 : ∀ (sg_j52 : Nat → Int32) (gm_j52 : Nat → Nat → Int32) (_ : iv 0 79 x1_7) (_ : iv 0 0 x) (_ : KS [13] sg sg_j52) (_ : KS [48] gm gm_j52) (_ : CI sg_j52 gm_j52) (_ : x1_7.toInt < (sg 15).toInt) (_ : ∃ S2, RC wg lg S2 sg_j52 gm_j52 ∧ DSR wg S x1_7.toInt.toNat S2) (H : Heap) (locs : List Loc) (ls : Array Slot), va_P (dC, dI) vwCl (cW ad cid a2 lx sg_j52 gm_j52 lg) H → va_D A (cW ad cid a2 lx sg_j52 gm_j52 lg) → va_S A s.heap H locs → lv_has ls 2 [(1, .int x1_7), (0, eV (ad 6) x)] → W p l e (headSpec wm_X5_destroyAll ({ frames := 2, cells := 1, slots := 6, locals := 42 })).room s m ([eV (ad 6) x] : List Value).toArray below meth c H locs 0 0 (vx_MQ below (cQx dC dI ad cid a2 lx (fun v u => v = none ∧ ∃ (sg2 : Nat → Int32) (gm2 : Nat → Nat → Int32) (lg2 : Nat → Nat → Int64), u = (sg2, gm2, lg2) ∧ CI sg2 gm2 ∧ KS [13, 15] sg sg2 ∧ KS [38, 48] gm gm2 ∧ KS [] lg lg2 ∧ (∀ j9, j9 < (sg 12).toNatClampNeg → gm2 38 j9 = 0) ∧ ((sg2 15).toInt = 0) ∧ (RC wg lg (zCl wg S) sg2 gm2)) A) (cX dC dI ad cid a2 lx (fun _ _ => False) A) ([eV (ad 6) x] : List Value).toArray s 1 6 A) (F0 m 52 ls []) := by
        intro sg_j52 gm_j52 hsx1_52 hsx0_52 hks_j52 hkg_j52 hI_j52 h1l hD52 H locs ls hP hD hS hl
        obtain ⟨z_1, ez_1⟩ : ∃ z : Int32, z = x1_7 + (-1) := ⟨_, rfl⟩
        have hz_1 : iv (-1) 78 z_1 := iv_of ez_1 (iv_add hsx1_52 (iv_k (by decide) : iv (-1) (-1) (-1)) (by decide))
        have tz_1 : z_1.toInt = x1_7.toInt - 1 := by rw [ez_1]; exact iv_addE hsx1_52 (iv_k (by decide) : iv (-1) (-1) (-1)) (by decide)
        refine lv_iinc (v := z_1) (lv' := [(1, .int z_1), (0, eV (ad 6) x)]) hx hb dX5_destroyAll_52 hl (k := 0) rfl ez_1.symm (by decide) (by simp [List.filter, eV_cat, cat_i, cat_l]) (fun ls hl => ?_)
        refine lv_goto (tgt := 7) hx hb dX5_destroyAll_55 (by decide) ?_
        exact ih7 _ (by rw [← hn7]; exact (by have := i32_0; have := i32_1; have := i32_2; have := i32_m1; have := (hsx0_52).1; have := (hsx0_52).2; have := (hsx1_52).1; have := (hsx1_52).2; have := (hz_1).1; have := (hz_1).2; omega)) sg_j52 gm_j52 z_1 rfl (iv_w hz_1 (by decide)) hsx0_52 (KS_tr (L := [13]) KS_rf hks_j52 (by decide)) (KS_tr (L := [48]) KS_rf hkg_j52 (by decide)) hI_j52 (by have := i32_0; have := i32_1; have := i32_2; have := i32_m1; have := congrArg Int32.toInt (show sg_j52 15 = sg 15 from hks_j52 15 (by decide)); have := (show iv 0 80 (sg 15) from CI_s hI 15).1; have := (show iv 0 80 (sg 15) from CI_s hI 15).2; have := congrArg Int32.toInt (show sg_j7 15 = sg 15 from hks_j7 15 (by decide)); have := (hsx0_52).1; have := (hsx0_52).2; have := (hsx1_52).1; have := (hsx1_52).2; have := (hz_1).1; have := (hz_1).2; omega) ((by obtain ⟨S3, h1, h2⟩ := hD52; exact ⟨S3, h1, (by rw [show (z_1.toInt + 1).toNat = x1_7.toInt.toNat from (by have := i32_0; have := i32_1; have := i32_2; have := i32_m1; have := (hsx0_52).1; have := (hsx0_52).2; have := (hsx1_52).1; have := (hsx1_52).2; have := (hz_1).1; have := (hz_1).2; omega)]; exact h2)⟩)) _ _ _ hP hD hS (lv_sub hl [0, 1] rfl)
      obtain ⟨S2, hR2, hD2⟩ := hDS
      refine lv_iload_n hx hb dX5_destroyAll_7 rfl (lv_at hl 0 rfl) ?_
      refine lv_if_lt (tgt := 58) hx hb dX5_destroyAll_8 (by decide) (fun c_2 => ?_) (fun c_2 => ?_)
      · have h_3 : iv (-1) (-1) x1_7 := iv_ltL c_2 hx1_7 (iv_k (by decide) : iv 0 0 0) (by decide)
        refine ec_aload_n hx hb dX5_destroyAll_58 rfl (lv_at hl 1 rfl) ?_
        refine cm_callV (t := 6) (C := RX5) (T := TX5) (N := 13) (rest := []) (as := []) ⟨hx, hb, hml, hown, htb⟩ (d_forgetMade l dC dI ad cid a2 lx sg_j7 gm_j7 lg x hI_j7 hsx0_7) (cwV 0 htb (gd_V kw_490 kw_491 kw_1 kw_159 kw_1405) rfl rfl rfl (by decide +kernel) ⟨Nat.le_of_ble_eq_true rfl, Nat.le_of_ble_eq_true rfl⟩) hsx0_7 (by decide) (by decide) rfl rfl hl.1 rfl (Nat.le_trans cs_n (by decide)) dX5_destroyAll_59 ⟨Nat.le_of_ble_eq_true rfl, Nat.le_of_ble_eq_true rfl⟩ hK hP hD hS hA hG (fun E ce q9 u_5 H locs hw hP hD hS hce hcv hcl => ?_) (fun v9 u_5 H locs hw hP hD hS => ?_)
        · exact hw.elim
        obtain ⟨rfl, sgv_6, gmv_6, lgv_6, rfl, hIv_6, ksv_6, kgv_6, klv_6, fM_r_4, f15_r_4⟩ := hw
        obtain rfl := KS_nil klv_6
        have hP : va_P (dC, dI) vwCl (cW ad cid a2 lx sgv_6 gmv_6 lg) H := hP
        have hD : va_D A (cW ad cid a2 lx sgv_6 gmv_6 lg) := hD
        refine W.eq (g2 := F0 m 62 ls []) rfl ?_
        exact W.nb (fun hN => W.widen (k := 1) (n := 6) (by decide) (by decide) (vx_ret (W.vret hx hb hr (fun t ht hW => ⟨⟨none, (sgv_6, gmv_6, lg), rfl, ⟨rfl, sgv_6, gmv_6, lg, rfl, hIv_6, (KS_tr (L := [13, 15]) (KS_tr (L := [13, 15]) KS_rf hks_j7 (by decide)) ksv_6 (by decide)), (KS_tr (L := [38, 48]) (KS_tr (L := [38, 48]) KS_rf hkg_j7 (by decide)) kgv_6 (by decide)), KS_rf, (fun j9 q9 => by { rw [show gmv_6 38 = gmv_6 38 from rfl]; exact fM_r_4 j9 (by rw [show sg_j7 12 = sg 12 from ((show KS [13] sg sg_j7 from (KS_tr (L := [13]) KS_rf hks_j7 (by decide))) 12 (by decide))]; exact q9) }), (by have := i32_0; have := i32_1; have := i32_2; have := i32_m1; have := (show iv 0 80 (sgv_6 15) from CI_s hIv_6 15).1; have := (show iv 0 80 (sgv_6 15) from CI_s hIv_6 15).2; have := congrArg Int32.toInt (show sg_j7 15 = sg 15 from hks_j7 15 (by decide)); have := (show iv 0 80 (sg 15) from CI_s hI 15).1; have := (show iv 0 80 (sg 15) from CI_s hI 15).2; have := congrArg Int32.toInt (show sg_j7 15 = sg 15 from hks_j7 15 (by decide)); have := (hsx0_7).1; have := (hsx0_7).2; have := (h_3).1; have := (h_3).2; have := f15_r_4; omega), ((by rw [DSR_e (show DSR wg S 0 S2 from (by rw [show (x1_7.toInt + 1).toNat = 0 from (by have := i32_0; have := i32_1; have := i32_2; have := i32_m1; have := (hsx0_7).1; have := (hsx0_7).2; have := (h_3).1; have := (h_3).2; omega)] at hD2; exact hD2))]; exact RC_fo hR2 (KS_tr (L := [15]) KS_rf ksv_6 (by decide)) (KS_tr (L := [38]) KS_rf kgv_6 (by decide)) (fun c9 q9 => fM_r_4 c9 q9) f15_r_4))⟩, by rw [ht]; exact hP, va_K.moved hW.alike hK, hD⟩, hS.F ht, by rw [ht]; exact hN⟩) hS.2.2 dX5_destroyAll_62)))
      · have h_7 : iv 0 79 x1_7 := iv_leR (i32_ge c_2) (iv_k (by decide) : iv 0 0 0) hx1_7 (by decide)
        refine ec_aload_n hx hb dX5_destroyAll_11 rfl (lv_at hl 1 rfl) ?_
        refine cr_get (t := 6) (j := 6) (C := RX5) (T := TX5) (N := 13) (v := eV (ad 24) 0) hx hb htb inX5 hown hK hP hsx0_7 (by decide) (by decide) (by decide) rfl (by decide) (htb _ kw_410) (cV_c rfl (by decide) (by rw [show cMu 6 6 = 0 from rfl, Nat.zero_mul]; rfl)) dX5_destroyAll_12 ?_
        refine lv_iload_n hx hb dX5_destroyAll_15 rfl (lv_at hl 0 rfl) ?_
        refine cr_aald (t := 24) (C := RX1) (v := eV (ad 10) (gm_j7 51 (x1_7 : Int32).toNatClampNeg)) hx hb hK hP (iv_k (by decide) : iv 0 0 0) (by decide) (by decide) (by decide) (by decide) (by decide) rfl (show vp_in x1_7 (cLen 24) from (show vp_in x1_7 80 from (iv_in h_7 (by decide)))) rfl dX5_destroyAll_16 ?_
        obtain ⟨z_8, ez_8⟩ : ∃ z : Int32, z = (gm_j7 51 (x1_7 : Int32).toNatClampNeg) := ⟨_, rfl⟩
        refine W.eq (g2 := F0 m 17 ls [eV (ad 10) z_8]) (by rw [ez_8]) ?_
        have hz_8 : iv (-1) 79 z_8 := iv_of ez_8 (CI_a hI_j7 51 h_7 (by decide))
        have ez_8 := ez_8.trans (congrFun (hkg_j7 51 (by decide)) _)
        have h_9 : iv 0 79 z_8 := ⟨by rw [ez_8]; exact hFND9 _ (lt_cl h_7 (show iv 0 80 (sg 15) from CI_s hI 15) (by decide) (by decide) (by have := i32_0; have := i32_1; have := i32_2; have := i32_m1; have := congrArg Int32.toInt (show sg_j7 15 = sg 15 from hks_j7 15 (by decide)); have := (show iv 0 80 (sg 15) from CI_s hI 15).1; have := (show iv 0 80 (sg 15) from CI_s hI 15).2; have := (hsx0_7).1; have := (hsx0_7).2; have := (h_7).1; have := (h_7).2; have := (hz_8).1; have := (hz_8).2; omega)), (hz_8).2⟩
        refine cr_get (t := 10) (j := 12) (C := RX1) (T := TX1) (N := 19) (v := .int (gm_j7 33 z_8.toNatClampNeg)) hx hb htb inX1 hown hK hP h_9 (by decide) (by decide) (by decide) rfl (by decide) (htb _ kw_374) rfl dX5_destroyAll_17 ?_
        obtain ⟨z_10, ez_10⟩ : ∃ z : Int32, z = (gm_j7 33 z_8.toNatClampNeg) := ⟨_, rfl⟩
        refine W.eq (g2 := F0 m 20 ls [.int z_10]) (by rw [ez_10]) ?_
        have hz_10 : iv (-1) 25 z_10 := iv_of ez_10 (CI_a hI_j7 33 h_9 (by decide))
        have ez_10 := ez_10.trans (congrFun (hkg_j7 33 (by decide)) _)
        refine lv_iconst (v := (-1)) hx hb dX5_destroyAll_20 (by decide) ?_
        refine lv_icmp_eq (tgt := 52) hx hb dX5_destroyAll_21 (by decide) (fun c_11 => ?_) (fun c_11 => ?_)
        · have h_12 : iv (-1) (-1) z_10 := iv_eq c_11 hz_10 (iv_k (by decide) : iv (-1) (-1) (-1)) (by decide)
          exact hj52 sg_j7 gm_j7 h_7 hsx0_7 (KS_tr (L := [13]) KS_rf hks_j7 (by decide)) (KS_tr (L := [48]) KS_rf hkg_j7 (by decide)) hI_j7 (by have := i32_0; have := i32_1; have := i32_2; have := i32_m1; have := congrArg Int32.toInt (show sg_j7 15 = sg 15 from hks_j7 15 (by decide)); have := (show iv 0 80 (sg 15) from CI_s hI 15).1; have := (show iv 0 80 (sg 15) from CI_s hI 15).2; have := (hsx0_7).1; have := (hsx0_7).2; have := (h_7).1; have := (h_7).2; have := (h_9).1; have := (h_9).2; have := (h_12).1; have := (h_12).2; omega) ((by obtain ⟨b9, hb9, hbz, hbw⟩ := (fin_9 hRC (k := x1_7.toNatClampNeg) (by have q1 : x1_7.toNatClampNeg = x1_7.toInt.toNat := rfl; have := hRC.2.2.2.1; have := i32_0; have := i32_1; have := i32_2; have := i32_m1; have := congrArg Int32.toInt (show sg_j7 15 = sg 15 from hks_j7 15 (by decide)); have := (show iv 0 80 (sg 15) from CI_s hI 15).1; have := (show iv 0 80 (sg 15) from CI_s hI 15).2; have := (hsx0_7).1; have := (hsx0_7).2; have := (h_7).1; have := (h_7).2; have := (h_9).1; have := (h_9).2; have := (h_12).1; have := (h_12).2; have := h1l; omega)); have hbb : z_8.toNatClampNeg = b9 := (by have q1 := (congrArg Int32.toInt ez_8).trans hbz; have q2 : z_8.toNatClampNeg = z_8.toInt.toNat := rfl; omega); have hw33 : (wg 33 b9).toInt = z_10.toInt := (by rw [← hbb]; exact congrArg Int32.toInt (swt9 hSW ez_10 rfl)); have hs1 : (x1_7.toInt + 1).toNat = x1_7.toInt.toNat + 1 := (by have := i32_0; have := i32_1; have := i32_2; have := i32_m1; have := (hsx0_7).1; have := (hsx0_7).2; have := (h_7).1; have := (h_7).2; have := (h_9).1; have := (h_9).2; have := (h_12).1; have := (h_12).2; omega); exact ⟨S2, hR2, DSR_n (by rw [← hs1]; exact hD2) hb9 (by rw [hw33]; have := i32_0; have := i32_1; have := i32_2; have := i32_m1; have := (hsx0_7).1; have := (hsx0_7).2; have := (h_7).1; have := (h_7).2; have := (h_9).1; have := (h_9).2; have := (h_12).1; have := (h_12).2; omega)⟩)) _ _ _ hP hD hS (lv_sub hl [0, 1] rfl)
        · have h_13 : iv 0 25 z_10 := iv_neL c_11 hz_10 (by decide)
          refine ec_aload_n hx hb dX5_destroyAll_24 rfl (lv_at hl 1 rfl) ?_
          refine cr_get (t := 6) (j := 2) (C := RX5) (T := TX5) (N := 13) (v := eV (ad 5) 0) hx hb htb inX5 hown hK hP hsx0_7 (by decide) (by decide) (by decide) rfl (by decide) (htb _ kw_406) (cV_c rfl (by decide) (by rw [show cMu 6 2 = 0 from rfl, Nat.zero_mul]; rfl)) dX5_destroyAll_25 ?_
          refine lv_bipush (v := 7) hx hb dX5_destroyAll_28 (by decide) ?_
          refine ec_aload_n hx hb dX5_destroyAll_30 rfl (lv_at hl 1 rfl) ?_
          refine cr_get (t := 6) (j := 6) (C := RX5) (T := TX5) (N := 13) (v := eV (ad 24) 0) hx hb htb inX5 hown hK hP hsx0_7 (by decide) (by decide) (by decide) rfl (by decide) (htb _ kw_410) (cV_c rfl (by decide) (by rw [show cMu 6 6 = 0 from rfl, Nat.zero_mul]; rfl)) dX5_destroyAll_31 ?_
          refine lv_iload_n hx hb dX5_destroyAll_34 rfl (lv_at hl 0 rfl) ?_
          refine cr_aald (t := 24) (C := RX1) (v := eV (ad 10) (gm_j7 51 (x1_7 : Int32).toNatClampNeg)) hx hb hK hP (iv_k (by decide) : iv 0 0 0) (by decide) (by decide) (by decide) (by decide) (by decide) rfl (show vp_in x1_7 (cLen 24) from (show vp_in x1_7 80 from (iv_in h_7 (by decide)))) rfl dX5_destroyAll_35 ?_
          refine W.eq (g2 := F0 m 36 ls [eV (ad 10) z_8, .int 7, eV (ad 5) 0]) (by rw [show (gm_j7 51 (x1_7 : Int32).toNatClampNeg) = z_8 from (Eq.trans (congrFun (hkg_j7 51 (by decide)) _) ez_8.symm)]) ?_
          refine cr_get (t := 10) (j := 18) (C := RX1) (T := TX1) (N := 19) (v := .int (gm_j7 39 z_8.toNatClampNeg)) hx hb htb inX1 hown hK hP h_9 (by decide) (by decide) (by decide) rfl (by decide) (htb _ kw_386) rfl dX5_destroyAll_36 ?_
          obtain ⟨z_15, ez_15⟩ : ∃ z : Int32, z = (gm_j7 39 z_8.toNatClampNeg) := ⟨_, rfl⟩
          refine W.eq (g2 := F0 m 39 ls [.int z_15, .int 7, eV (ad 5) 0]) (by rw [ez_15]) ?_
          have hz_15 : iv (-1) 59 z_15 := iv_of ez_15 (CI_a hI_j7 39 h_9 (by decide))
          have ez_15 := ez_15.trans (congrFun (hkg_j7 39 (by decide)) _)
          refine ec_aload_n hx hb dX5_destroyAll_39 rfl (lv_at hl 1 rfl) ?_
          refine cr_get (t := 6) (j := 6) (C := RX5) (T := TX5) (N := 13) (v := eV (ad 24) 0) hx hb htb inX5 hown hK hP hsx0_7 (by decide) (by decide) (by decide) rfl (by decide) (htb _ kw_410) (cV_c rfl (by decide) (by rw [show cMu 6 6 = 0 from rfl, Nat.zero_mul]; rfl)) dX5_destroyAll_40 ?_
          refine lv_iload_n hx hb dX5_destroyAll_43 rfl (lv_at hl 0 rfl) ?_
          refine cr_aald (t := 24) (C := RX1) (v := eV (ad 10) (gm_j7 51 (x1_7 : Int32).toNatClampNeg)) hx hb hK hP (iv_k (by decide) : iv 0 0 0) (by decide) (by decide) (by decide) (by decide) (by decide) rfl (show vp_in x1_7 (cLen 24) from (show vp_in x1_7 80 from (iv_in h_7 (by decide)))) rfl dX5_destroyAll_44 ?_
          refine W.eq (g2 := F0 m 45 ls [eV (ad 10) z_8, .int z_15, .int 7, eV (ad 5) 0]) (by rw [show (gm_j7 51 (x1_7 : Int32).toNatClampNeg) = z_8 from (Eq.trans (congrFun (hkg_j7 51 (by decide)) _) ez_8.symm)]) ?_
          refine cr_get (t := 10) (j := 12) (C := RX1) (T := TX1) (N := 19) (v := .int (gm_j7 33 z_8.toNatClampNeg)) hx hb htb inX1 hown hK hP h_9 (by decide) (by decide) (by decide) rfl (by decide) (htb _ kw_374) rfl dX5_destroyAll_45 ?_
          refine W.eq (g2 := F0 m 48 ls [.int z_10, .int z_15, .int 7, eV (ad 5) 0]) (by rw [show (gm_j7 33 z_8.toNatClampNeg) = z_10 from (Eq.trans (congrFun (hkg_j7 33 (by decide)) _) ez_10.symm)]) ?_
          refine lv_iconst (v := 0) hx hb dX5_destroyAll_48 (by decide) ?_
          refine cm_callV (t := 5) (C := RX4) (T := TX4) (N := 2) (rest := []) (as := [.int 7, .int z_15, .int z_10, .int 0]) ⟨hx, hb, hml, hown, htb⟩ (d_addEv9 l dC dI ad cid a2 lx sg_j7 gm_j7 lg 0 7 z_15 z_10 0 wg S2 hI_j7 (iv_k (by decide) : iv 0 0 0) hR2) (cwV 4 htb (gd_V kw_487 kw_488 kw_489 kw_158 kw_1404) rfl rfl rfl (by decide +kernel) ⟨Nat.le_of_ble_eq_true rfl, Nat.le_of_ble_eq_true rfl⟩) (iv_k (by decide) : iv 0 0 0) (by decide) (by decide) rfl rfl hl.1 rfl (Nat.le_trans cs_n (by decide)) dX5_destroyAll_49 ⟨Nat.le_of_ble_eq_true rfl, Nat.le_of_ble_eq_true rfl⟩ hK hP hD hS hA hG (fun E ce q9 u_18 H locs hw hP hD hS hce hcv hcl => ?_) (fun v9 u_18 H locs hw hP hD hS => ?_)
          · exact hw.elim
          obtain ⟨rfl, sgv_19, gmv_19, lgv_19, rfl, hIv_19, ksv_19, kgv_19, klv_19, fR_r_17⟩ := hw
          obtain rfl := KS_nil klv_19
          have hP : va_P (dC, dI) vwCl (cW ad cid a2 lx sgv_19 gmv_19 lg) H := hP
          have hD : va_D A (cW ad cid a2 lx sgv_19 gmv_19 lg) := hD
          refine W.eq (g2 := F0 m 52 ls []) rfl ?_
          exact hj52 sgv_19 gmv_19 h_7 hsx0_7 (KS_tr (L := [13]) (KS_tr (L := [13]) KS_rf hks_j7 (by decide)) ksv_19 (by decide)) (KS_tr (L := [48]) (KS_tr (L := [48]) KS_rf hkg_j7 (by decide)) kgv_19 (by decide)) hIv_19 (by have := i32_0; have := i32_1; have := i32_2; have := i32_m1; have := congrArg Int32.toInt (show sgv_19 15 = sg_j7 15 from ksv_19 15 (by decide)); have := congrArg Int32.toInt (show sg_j7 15 = sg 15 from hks_j7 15 (by decide)); have := (show iv 0 80 (sg 15) from CI_s hI 15).1; have := (show iv 0 80 (sg 15) from CI_s hI 15).2; have := congrArg Int32.toInt (show sg_j7 15 = sg 15 from hks_j7 15 (by decide)); have := (hsx0_7).1; have := (hsx0_7).2; have := (h_7).1; have := (h_7).2; have := (h_9).1; have := (h_9).2; have := (h_13).1; have := (h_13).2; have := (hz_15).1; have := (hz_15).2; omega) ((by obtain ⟨b9, hb9, hbz, hbw⟩ := (fin_9 hRC (k := x1_7.toNatClampNeg) (by have q1 : x1_7.toNatClampNeg = x1_7.toInt.toNat := rfl; have := hRC.2.2.2.1; have := i32_0; have := i32_1; have := i32_2; have := i32_m1; have := congrArg Int32.toInt (show sgv_19 15 = sg_j7 15 from ksv_19 15 (by decide)); have := congrArg Int32.toInt (show sg_j7 15 = sg 15 from hks_j7 15 (by decide)); have := (show iv 0 80 (sg 15) from CI_s hI 15).1; have := (show iv 0 80 (sg 15) from CI_s hI 15).2; have := congrArg Int32.toInt (show sg_j7 15 = sg 15 from hks_j7 15 (by decide)); have := (hsx0_7).1; have := (hsx0_7).2; have := (h_7).1; have := (h_7).2; have := (h_9).1; have := (h_9).2; have := (h_13).1; have := (h_13).2; have := (hz_15).1; have := (hz_15).2; have := h1l; omega)); have hbb : z_8.toNatClampNeg = b9 := (by have q1 := (congrArg Int32.toInt ez_8).trans hbz; have q2 : z_8.toNatClampNeg = z_8.toInt.toNat := rfl; omega); have hw33 : (wg 33 b9).toInt = z_10.toInt := (by rw [← hbb]; exact congrArg Int32.toInt (swt9 hSW ez_10 rfl)); have hs1 : (x1_7.toInt + 1).toNat = x1_7.toInt.toNat + 1 := (by have := i32_0; have := i32_1; have := i32_2; have := i32_m1; have := (hsx0_7).1; have := (hsx0_7).2; have := (h_7).1; have := (h_7).2; have := (h_9).1; have := (h_9).2; have := (h_13).1; have := (h_13).2; have := (hz_15).1; have := (hz_15).2; omega); exact ⟨_, fR_r_17, DSR_y (by rw [← hs1]; exact hD2) hb9 (by decide) (by rw [← hbw, ← hbb]; exact (congrArg Int32.toInt ez_15).symm) hw33 (by have := i32_0; have := i32_1; have := i32_2; have := i32_m1; have := (hsx0_7).1; have := (hsx0_7).2; have := (h_7).1; have := (h_7).2; have := (h_9).1; have := (h_9).2; have := (h_13).1; have := (h_13).2; have := (hz_15).1; have := (hz_15).2; omega) (by decide)⟩)) _ _ _ hP hD hS (lv_sub hl [0, 1] rfl)
  refine ec_aload_n hx hb dX5_destroyAll_0 rfl (lv_at hl 0 rfl) ?_
  refine cr_get (t := 6) (j := 7) (C := RX5) (T := TX5) (N := 13) (v := .int (sg 15)) hx hb htb inX5 hown hK hP hvx (by decide) (by decide) (by decide) rfl (by decide) (htb _ kw_411) rfl dX5_destroyAll_1 ?_
  refine lv_iconst (v := 1) hx hb dX5_destroyAll_4 (by decide) ?_
  refine lv_isub hx hb dX5_destroyAll_5 ?_
  refine lv_topi (fun z_20 ez_20 => ?_)
  have hz_20 : iv (-1) 79 z_20 := iv_of ez_20 (iv_sub (show iv 0 80 (sg 15) from CI_s hI 15) (iv_k (by decide) : iv 1 1 1) (by decide))
  have tz_20 : z_20.toInt = ((sg 15) : Int32).toInt - 1 := by rw [ez_20]; exact iv_subE (show iv 0 80 (sg 15) from CI_s hI 15) (iv_k (by decide) : iv 1 1 1) (by decide)
  refine lv_istore_n (i := 1) (lv' := [(1, .int z_20), (0, eV (ad 6) x)]) hx hb dX5_destroyAll_6 rfl hl (by decide) (by simp [List.filter, eV_cat, cat_i, cat_l]) (fun ls hl => ?_)
  exact hj7 _ sg gm z_20 rfl hz_20 hvx KS_rf KS_rf hI (by have := i32_0; have := i32_1; have := i32_2; have := i32_m1; have := (show iv 0 80 (sg 15) from CI_s hI 15).1; have := (show iv 0 80 (sg 15) from CI_s hI 15).2; have := (hvx).1; have := (hvx).2; have := ((show iv 0 80 (sg 15) from CI_s hI 15)).1; have := ((show iv 0 80 (sg 15) from CI_s hI 15)).2; have := (hz_20).1; have := (hz_20).2; omega) (⟨S, hRC, DSR_0 (by have := hRC.2.2.2.1; have := i32_0; have := i32_1; have := i32_2; have := i32_m1; have := (show iv 0 80 (sg 15) from CI_s hI 15).1; have := (show iv 0 80 (sg 15) from CI_s hI 15).2; have := (hvx).1; have := (hvx).2; have := ((show iv 0 80 (sg 15) from CI_s hI 15)).1; have := ((show iv 0 80 (sg 15) from CI_s hI 15)).2; have := (hz_20).1; have := (hz_20).2; omega)⟩) _ _ _ hP hD hS (lv_sub hl [0, 1] rfl)
end
section
section RF9
variable {ws : Nat → Int32} {wg : Nat → Nat → Int32} {wl : Nat → Nat → Int64} {n N i : Nat} {R : Option Int × S9} {S S2 : S9}
theorem rfL_n (hR : R = rfL ws wg wl n (N - i) i S) (hi : i < N) (hc : ¬ (¬ wl 4 i = 0 ∧ wg 34 i = 0 ∧ wg 35 i = 0 ∧ wg 36 i = 0)) : R = rfL ws wg wl n (N - (i + 1)) (i + 1) S := by
  rw [show N - i = (N - (i + 1)) + 1 by omega] at hR
  rw [hR]
  show (if _ then _ else _) = _
  rw [if_neg hc]
theorem rfL_y {o : Int} (hR : R = rfL ws wg wl n (N - i) i S) (hi : i < N) (hc : ¬ wl 4 i = 0 ∧ wg 34 i = 0 ∧ wg 35 i = 0 ∧ wg 36 i = 0) (hg : oGet wg (oMK ws wg wl n) (i : Int) S = (some o, S2)) : R = rfL ws wg wl n (N - (i + 1)) (i + 1) S2 := by
  rw [show N - i = (N - (i + 1)) + 1 by omega] at hR
  rw [hR]
  show (if _ then _ else _) = _
  rw [if_pos hc, hg]; rfl
theorem rfL_x (hR : R = rfL ws wg wl n (N - i) i S) (hi : i < N) (hc : ¬ wl 4 i = 0 ∧ wg 34 i = 0 ∧ wg 35 i = 0 ∧ wg 36 i = 0) (hg : oGet wg (oMK ws wg wl n) (i : Int) S = (none, S2)) : R = (none, S2) := by
  rw [show N - i = (N - (i + 1)) + 1 by omega] at hR
  rw [hR]
  show (if _ then _ else _) = _
  rw [if_pos hc, hg]; rfl
theorem rfL_e (hR : R = rfL ws wg wl n (N - i) i S) (hi : N ≤ i) : R = (some 0, S) := by
  rw [show N - i = 0 by omega] at hR; exact hR
theorem zRf_s (h : rfL ws wg wl n (ws 12).toNatClampNeg 0 (zCe (zFo S)) = (some 0, S2)) : zRf ws wg wl n S = (some ((zO S2).length : Int), S2) := by unfold zRf; rw [h]
theorem zRf_x (h : rfL ws wg wl n (ws 12).toNatClampNeg 0 (zCe (zFo S)) = (none, S2)) : zRf ws wg wl n S = (none, zCl wg (zSt S2)) := by unfold zRf; rw [h]
theorem zGt_s {v : Int64} {o : Int} (h : oGet wg (oMK ws wg wl n) (caN ws wg wl v) S = (some o, S2)) : zGt ws wg wl n v S = (some o, S2) := by unfold zGt; rw [h]; rfl
theorem zGt_x {v : Int64} (h : oGet wg (oMK ws wg wl n) (caN ws wg wl v) S = (none, S2)) : zGt ws wg wl n v S = (none, zSt S2) := by unfold zGt; rw [h]; rfl
end RF9
end
section
set_option maxHeartbeats 4000000 in
set_option maxRecDepth 100000 in
theorem d_objectCalled9 (l : Launch) (dC : Nat → ClassId) (dI : Nat → Nat → Nat) (ad : Nat → Nat → Nat) (cid : Nat → ClassId) (a2 : Nat → Nat) (lx : List Nat) (sg : Nat → Int32) (gm : Nat → Nat → Int32) (lg : Nat → Nat → Int64) (hl9 : l.stackTraces = false) (x : Int32) (nm : Int64) (wg : Nat → Nat → Int32) (ws : Nat → Int32) (S : S9) (hI : CI sg gm) (hvx : iv 0 0 x) (hW : WRD sg gm lg) (hLD : LDI lx gm) (hMO : MOK sg gm lg) (hFN : FND9 sg gm) (hSW : st9 gm = wg) (hSS : ss9 sg = ws) (hSV : SV ws wg lg) (hRC : RC wg lg S sg gm) : CMg dC dI ad cid l yX5_objectCalled wm_X5_objectCalled ({ frames := 343, cells := 30482, slots := 121932, locals := 11064 }) [eV (ad 6) x, .long nm] a2 lx sg gm lg 1 30482 121932 (fun v u => ∃ r : Int32, v = some (.int r) ∧ ∃ (sg2 : Nat → Int32) (gm2 : Nat → Nat → Int32) (lg2 : Nat → Nat → Int64), u = (a2, lx, sg2, gm2, lg2) ∧ CI sg2 gm2 ∧ KS [13, 14, 15, 16, 17, 18] sg sg2 ∧ KS [37, 38, 39, 48, 49, 50, 51, 52, 53] gm gm2 ∧ KS [] lg lg2 ∧ (iv (-1) 59 r) ∧ (MOK sg2 gm2 lg2) ∧ (FND9 sg2 gm2) ∧ ((∃ S2, zGt ws wg lg 40 nm S = (some r.toInt, S2) ∧ RC wg lg S2 sg2 gm2 ∧ 0 ≤ r.toInt) ∨ (r.toInt = -1 ∧ ∃ S2, zGt ws wg lg 40 nm S = (none, S2) ∧ RC wg lg S2 sg2 gm2))) (fun _ _ => False) := by
  intro sz
  refine vx_ofWH (cc := cX5_objectCalled) (maxL := 4) (ret := (some .int)) (by decide) rfl ?_
  intro p e s m args below meth c s₁ B hml hv
  obtain ⟨rfl, hsz, hP, hK, hD0, hG⟩ := hv
  have hx := B.exec
  have hb := B.bytes
  have hr := B.returns
  have hts := atoms_spec (ws := wm_X5_objectCalled) B.pre
  have htb := fun (w : Cond) (h : w ∈ tb) => hts w (List.mem_cons_of_mem _ h)
  have hown : s.vm.findClass RX5 = some m.cls := findClass_of_methodNamed B.named
  have hlocks := B.notSynchronized
  have hxt := vx_table (x := yX5_objectCalled) B (hts _ List.mem_cons_self)
  subst hsz
  have hD := hD0.self (sz := s.heap.size)
  generalize hAe : va_A (cW ad cid a2 lx sg gm lg) s.heap.size = A at hD hG ⊢
  have hA : ∀ q : Nat, s.heap.size ≤ q → A q := fun q h => by rw [← hAe]; exact Or.inr h
  have hS : va_S A s.heap s.heap [] := va_S.rf
  have hl := lv_entry ([eV (ad 6) x, .long nm]) (n := 4) (by rw [show (lg_sl ([eV (ad 6) x, .long nm])).length = 3 from by simp [lg_sl, eV_cat, cat_i, cat_l]]; exact Nat.le_of_ble_eq_true rfl)
  rw [lg_entry_eq]
  generalize (lg_sl ([eV (ad 6) x, .long nm]) ++ List.replicate (4 - (lg_sl ([eV (ad 6) x, .long nm])).length) Slot.unset).toArray = ls at hl ⊢
  have hl : lv_has ls 4 [(0, eV (ad 6) x), (1, .long nm)] := by simp [lv_args, eV_cat, cat_i, cat_l] at hl; exact hl
  refine W.widen (k := gc gm gm 0) (n := gs gm gm 0) (Nat.zero_le _) (Nat.zero_le _) ?_
  refine ec_aload_n hx hb dX5_objectCalled_0 rfl (lv_at hl 0 rfl) ?_
  refine lv_lload_n hx hb dX5_objectCalled_1 rfl (lv_at hl 1 rfl) ?_
  refine lv_iconst (v := 0) hx hb dX5_objectCalled_2 (by decide) ?_
  refine cm_callTV (t := 6) (C := RX5) (T := TX5) (N := 13) (rest := []) (as := [.long nm, .int 0]) ⟨hx, hb, hml, hown, htb⟩ ((d_rec9 l dC dI ad cid a2 lx hl9 40).2 sg gm lg x nm 0 wg ws S hI hvx (iv_w (iv_k (by decide) : iv 0 0 0) (by decide)) hW hLD hMO hFN (by decide) hSW hSS hSV hRC) (cwV 2 htb (gd_V kw_891 kw_892 kw_48 kw_159 kw_1527) rfl rfl rfl (by decide +kernel) ⟨Nat.le_of_ble_eq_true rfl, Nat.le_of_ble_eq_true rfl⟩) hvx (by decide) (by decide) rfl rfl hl.1 rfl (Nat.le_trans cs_n (by decide)) dX5_objectCalled_3 ⟨Nat.le_trans (gc_le hI) (Nat.le_of_ble_eq_true rfl), Nat.le_trans (gs_le hI) (Nat.le_of_ble_eq_true rfl)⟩ hK hP hD hS hA hG (fun E ce q9 u_2 H locs hw hP hD hS hce hcv hcl => ?_) (fun v9 u_2 H locs hw hP hD hS => ?_)
  · obtain ⟨hE, hw⟩ := hw
    obtain ⟨sgv_3, gmv_3, lgv_3, rfl, hIv_3, ksv_3, kgv_3, klv_3, xMO_v_3, xFN_v_3, xG_v_3⟩ := hw
    obtain rfl := KS_nil klv_3
    have hP : va_P (dC, dI) vwCl (cW ad cid a2 lx sgv_3 gmv_3 lg) H := hP
    have hD : va_D A (cW ad cid a2 lx sgv_3 gmv_3 lg) := hD
    refine vx_widen (k := gc gm gm 1) (n := gs gm gm 1) (by unfold gc; omega) (by unfold gs; omega) ?_
    obtain ⟨Sx, hEx, hRx⟩ := xG_v_3
    subst hE
    refine mc_catch (own := RX5) (name := "java/lang/UnsupportedOperationException") hown ⟨0, 6, 7, 103⟩ [] hxt (by decide) (by decide) (htb _ kw_890) (va_Nw.use rfl hG.2.1.1) hce hcv hcl ?_
    refine lv_astore_n (i := 3) (lv' := [(3, .ref q9), (0, eV (ad 6) x), (1, .long nm)]) hx hb dX5_objectCalled_7 rfl hl (by decide) rfl (fun ls hl => ?_)
    refine ec_aload_n hx hb dX5_objectCalled_8 rfl (lv_at hl 1 rfl) ?_
    refine cm_callTV (t := 6) (C := RX5) (T := TX5) (N := 13) (rest := []) (as := []) ⟨hx, hb, hml, hown, htb⟩ (d_stopMaking9 l dC dI ad cid a2 lx sgv_3 gmv_3 lg x hIv_3 hvx) (cwV 0 htb (gd_V kw_965 kw_966 kw_68 kw_159 kw_1555) rfl rfl rfl (by decide +kernel) ⟨Nat.le_of_ble_eq_true rfl, Nat.le_of_ble_eq_true rfl⟩) hvx (by decide) (by decide) rfl rfl hl.1 rfl (Nat.le_trans cs_n (by decide)) dX5_objectCalled_9 ⟨Nat.le_trans (gc_le hI) (Nat.le_of_ble_eq_true rfl), Nat.le_trans (gs_le hI) (Nat.le_of_ble_eq_true rfl)⟩ hK hP hD hS hA hG (fun E ce q9 u_5 H locs hw hP hD hS hce hcv hcl => ?_) (fun v9 u_5 H locs hw hP hD hS => ?_)
    · exact hw.elim
    obtain ⟨rfl, sgv_6, gmv_6, lgv_6, rfl, hIv_6, ksv_6, kgv_6, klv_6, fM_r_4⟩ := hw
    obtain rfl := KS_nil klv_6
    have hP : va_P (dC, dI) vwCl (cW ad cid a2 lx sgv_6 gmv_6 lg) H := hP
    have hD : va_D A (cW ad cid a2 lx sgv_6 gmv_6 lg) := hD
    refine W.eq (g2 := F0 m 12 ls []) rfl ?_
    have hRs : RC wg lg (zSt Sx) sgv_6 gmv_6 := RC_stp hRx (KS_tr (L := [16]) KS_rf ksv_6 (by decide)) (KS_tr (L := [37]) KS_rf kgv_6 (by decide)) (fun c9 q9 => fM_r_4 c9 q9)
    refine lv_iconst (v := (-1)) hx hb dX5_objectCalled_12 (by decide) ?_
    refine W.widen (k := gc gm gmv_6 1) (n := gs gm gmv_6 1) (gc_e (show gmv_6 42 = gm 42 from (Eq.trans (kgv_6 42 (by decide)) (kgv_3 42 (by decide)))) (by decide)) (gs_e (show gmv_6 42 = gm 42 from (Eq.trans (kgv_6 42 (by decide)) (kgv_3 42 (by decide)))) (by decide)) ?_
    have hm_7 : PHs gm ≤ PHs gmv_6 := by rw [PHs_e (show gmv_6 42 = gm 42 from (Eq.trans (kgv_6 42 (by decide)) (kgv_3 42 (by decide))))]; exact (Nat.le_refl _)
    exact W.nb (fun hN => W.widen (k := 30482) (n := 121932) (Nat.le_trans (gc_l0 (gm := gm) (k := 1) hIv_6) (Nat.le_of_ble_eq_true rfl)) (Nat.le_trans (gs_l0 (gm := gm) (k := 1) hIv_6) (Nat.le_of_ble_eq_true rfl)) (vx_ret (W.iret (v := (-1)) hx hb hr (fun t ht hW => ⟨⟨some (.int (-1)), (a2, lx, sgv_6, gmv_6, lg), rfl, ⟨(-1), rfl, sgv_6, gmv_6, lg, rfl, hIv_6, (KS_tr (L := [13, 14, 15, 16, 17, 18]) (KS_tr (L := [13, 14, 15, 16, 17, 18]) KS_rf ksv_3 (by decide)) ksv_6 (by decide)), (KS_tr (L := [37, 38, 39, 48, 49, 50, 51, 52, 53]) (KS_tr (L := [37, 38, 39, 48, 49, 50, 51, 52, 53]) KS_rf kgv_3 (by decide)) kgv_6 (by decide)), KS_rf, (iv_w (iv_k (by decide) : iv (-1) (-1) (-1)) (by decide)), ((MOK_e xMO_v_3 (show sgv_6 12 = sgv_3 12 from (ksv_6 12 (by decide))) (show gmv_6 35 = gmv_3 35 from (kgv_6 35 (by decide))) (show gmv_6 38 = gmv_3 38 from (kgv_6 38 (by decide))) (show gmv_6 39 = gmv_3 39 from (kgv_6 39 (by decide))) rfl)), ((FND9_e xFN_v_3 (show sgv_6 15 = sgv_3 15 from (ksv_6 15 (by decide))) (show gmv_6 51 = gmv_3 51 from (kgv_6 51 (by decide))))), (Or.inr ⟨rfl, _, zGt_x hEx, hRs⟩)⟩, ⟨by rw [ht]; exact hP, va_K.moved hW.alike hK, hD⟩, hm_7, by rw [ht]; exact hN⟩, hS.F ht⟩) hS.2.2 dX5_objectCalled_13)))
  obtain ⟨r_1, rfl, sgv_8, gmv_8, lgv_8, rfl, hIv_8, ksv_8, kgv_8, klv_8, hr_1, fMO_r_1, fFN_r_1, fBM_r_1, fWF_r_1, f14_r_1, fr_r_1, fG_r_1⟩ := hw
  obtain rfl := KS_nil klv_8
  have hP : va_P (dC, dI) vwCl (cW ad cid a2 lx sgv_8 gmv_8 lg) H := hP
  have hD : va_D A (cW ad cid a2 lx sgv_8 gmv_8 lg) := hD
  refine W.eq (g2 := F0 m 6 ls [.int r_1]) rfl ?_
  obtain ⟨S_r_1, hE_r_1, hR_r_1⟩ := fG_r_1
  refine W.widen (k := gc gm gmv_8 1) (n := gs gm gmv_8 1) (gc_e (show gmv_8 42 = gm 42 from (kgv_8 42 (by decide))) (by decide)) (gs_e (show gmv_8 42 = gm 42 from (kgv_8 42 (by decide))) (by decide)) ?_
  have hm_9 : PHs gm ≤ PHs gmv_8 := by rw [PHs_e (show gmv_8 42 = gm 42 from (kgv_8 42 (by decide)))]; exact (Nat.le_refl _)
  exact W.nb (fun hN => W.widen (k := 30482) (n := 121932) (Nat.le_trans (gc_l0 (gm := gm) (k := 1) hIv_8) (Nat.le_of_ble_eq_true rfl)) (Nat.le_trans (gs_l0 (gm := gm) (k := 1) hIv_8) (Nat.le_of_ble_eq_true rfl)) (vx_ret (W.iret (v := r_1) hx hb hr (fun t ht hW => ⟨⟨some (.int r_1), (a2, lx, sgv_8, gmv_8, lg), rfl, ⟨r_1, rfl, sgv_8, gmv_8, lg, rfl, hIv_8, (KS_tr (L := [13, 14, 15, 16, 17, 18]) KS_rf ksv_8 (by decide)), (KS_tr (L := [37, 38, 39, 48, 49, 50, 51, 52, 53]) KS_rf kgv_8 (by decide)), KS_rf, (iv_w hr_1 (by decide)), (fMO_r_1), (fFN_r_1), (Or.inl ⟨S_r_1, zGt_s hE_r_1, hR_r_1, (hr_1).1⟩)⟩, ⟨by rw [ht]; exact hP, va_K.moved hW.alike hK, hD⟩, hm_9, by rw [ht]; exact hN⟩, hS.F ht⟩) hS.2.2 dX5_objectCalled_6)))

set_option maxHeartbeats 4000000 in
set_option maxRecDepth 100000 in
theorem d_renewsAll9 (l : Launch) (dC : Nat → ClassId) (dI : Nat → Nat → Nat) (ad : Nat → Nat → Nat) (cid : Nat → ClassId) (a2 : Nat → Nat) (lx : List Nat) (sg : Nat → Int32) (gm : Nat → Nat → Int32) (lg : Nat → Nat → Int64) (hl9 : l.stackTraces = false) (x : Int32) (wg : Nat → Nat → Int32) (ws : Nat → Int32) (S : S9) (hI : CI sg gm) (hvx : iv 0 0 x) (hW : WRD sg gm lg) (hLD : LDI lx gm) (hSW : st9 gm = wg) (hSS : ss9 sg = ws) (hSV : SV ws wg lg) (hRC : RC wg lg S sg gm) : CMg dC dI ad cid l yX5_renewsAll wm_X5_renewsAll ({ frames := 343, cells := 30482, slots := 121932, locals := 11064 }) [eV (ad 6) x] a2 lx sg gm lg 1 30482 121932 (fun v u => ∃ r : Int32, v = some (.int r) ∧ ∃ (sg2 : Nat → Int32) (gm2 : Nat → Nat → Int32) (lg2 : Nat → Nat → Int64), u = (a2, lx, sg2, gm2, lg2) ∧ CI sg2 gm2 ∧ KS [13, 14, 15, 16, 17, 18] sg sg2 ∧ KS [37, 38, 39, 48, 49, 50, 51, 52, 53] gm gm2 ∧ KS [] lg lg2 ∧ (iv 0 1 r) ∧ (MOK sg2 gm2 lg2) ∧ (FND9 sg2 gm2) ∧ ((r.toInt = 1 ∧ ∃ S2, zRf ws wg lg 40 S = (some (sg2 14).toInt, S2) ∧ RC wg lg S2 sg2 gm2) ∨ (r.toInt = 0 ∧ ∃ S2, zRf ws wg lg 40 S = (none, S2) ∧ RC wg lg S2 sg2 gm2))) (fun _ _ => False) := by
  intro sz
  refine vx_ofWH (cc := cX5_renewsAll) (maxL := 3) (ret := (some .boolean)) (by decide) rfl ?_
  intro p e s m args below meth c s₁ B hml hv
  obtain ⟨rfl, hsz, hP, hK, hD0, hG⟩ := hv
  have hx := B.exec
  have hb := B.bytes
  have hr := B.returns
  have hts := atoms_spec (ws := wm_X5_renewsAll) B.pre
  have htb := fun (w : Cond) (h : w ∈ tb) => hts w (List.mem_cons_of_mem _ h)
  have hown : s.vm.findClass RX5 = some m.cls := findClass_of_methodNamed B.named
  have hlocks := B.notSynchronized
  have hxt := vx_table (x := yX5_renewsAll) B (hts _ List.mem_cons_self)
  subst hsz
  have hD := hD0.self (sz := s.heap.size)
  generalize hAe : va_A (cW ad cid a2 lx sg gm lg) s.heap.size = A at hD hG ⊢
  have hA : ∀ q : Nat, s.heap.size ≤ q → A q := fun q h => by rw [← hAe]; exact Or.inr h
  have hS : va_S A s.heap s.heap [] := va_S.rf
  have hl := lv_entry ([eV (ad 6) x]) (n := 3) (by rw [show (lg_sl ([eV (ad 6) x])).length = 1 from by simp [lg_sl, eV_cat, cat_i, cat_l]]; exact Nat.le_of_ble_eq_true rfl)
  rw [lg_entry_eq]
  generalize (lg_sl ([eV (ad 6) x]) ++ List.replicate (3 - (lg_sl ([eV (ad 6) x])).length) Slot.unset).toArray = ls at hl ⊢
  have hl : lv_has ls 3 [(0, eV (ad 6) x)] := by simp [lv_args, eV_cat, cat_i, cat_l] at hl; exact hl
  refine W.widen (k := gc gm gm 0) (n := gs gm gm 0) (Nat.zero_le _) (Nat.zero_le _) ?_
  have hj13 : ∀ (n : Nat) (sg_j13 : Nat → Int32) (gm_j13 : Nat → Nat → Int32) (x1_13 : Int32) (_ : (80 - x1_13.toInt).toNat = n) (_ : iv 0 80 x1_13) (_ : iv 0 0 x) (_ : KS [13, 14, 15, 16, 17, 18] sg sg_j13) (_ : KS [37, 38, 39, 48, 49, 50, 51, 52, 53] gm gm_j13) (_ : CI sg_j13 gm_j13) (_ : MOK sg_j13 gm_j13 lg) (_ : FND9 sg_j13 gm_j13) (_ : ∃ S2, RC wg lg S2 sg_j13 gm_j13 ∧ rfL ws wg lg 40 (ws 12).toNatClampNeg 0 (zCe (zFo S)) = rfL ws wg lg 40 ((ws 12).toNatClampNeg - x1_13.toNatClampNeg) x1_13.toNatClampNeg S2) (_ : PHs gm ≤ PHs gm_j13) (H : Heap) (locs : List Loc) (ls : Array Slot), va_P (dC, dI) vwCl (cW ad cid a2 lx sg_j13 gm_j13 lg) H → va_D A (cW ad cid a2 lx sg_j13 gm_j13 lg) → va_S A s.heap H locs → lv_has ls 3 [(1, .int x1_13), (0, eV (ad 6) x)] → W p l e (headSpec wm_X5_renewsAll ({ frames := 343, cells := 30482, slots := 121932, locals := 11064 })).room s m ([eV (ad 6) x] : List Value).toArray below meth c H locs (gc gm gm_j13 0) (gs gm gm_j13 0) (vx_MQ below (cQg dC dI ad cid (fun v u => ∃ r : Int32, v = some (.int r) ∧ ∃ (sg2 : Nat → Int32) (gm2 : Nat → Nat → Int32) (lg2 : Nat → Nat → Int64), u = (a2, lx, sg2, gm2, lg2) ∧ CI sg2 gm2 ∧ KS [13, 14, 15, 16, 17, 18] sg sg2 ∧ KS [37, 38, 39, 48, 49, 50, 51, 52, 53] gm gm2 ∧ KS [] lg lg2 ∧ (iv 0 1 r) ∧ (MOK sg2 gm2 lg2) ∧ (FND9 sg2 gm2) ∧ ((r.toInt = 1 ∧ ∃ S2, zRf ws wg lg 40 S = (some (sg2 14).toInt, S2) ∧ RC wg lg S2 sg2 gm2) ∨ (r.toInt = 0 ∧ ∃ S2, zRf ws wg lg 40 S = (none, S2) ∧ RC wg lg S2 sg2 gm2))) 1 gm A) (cXg dC dI ad cid (fun _ _ => False) 1 gm A) ([eV (ad 6) x] : List Value).toArray s 30482 121932 A) (F0 m 13 ls []) := by
    intro n
    induction n using Nat.strongRecOn with
    | ind n ih13 =>
      intro sg_j13 gm_j13 x1_13 hn13 hx1_13 hsx0_13 hks_j13 hkg_j13 hI_j13 hMOj hFNj hX13 hm_j13 H locs ls hP hD hS hl
      have hj73 : ∀ (sg_j73 : Nat → Int32) (gm_j73 : Nat → Nat → Int32) (x2_73 : Int32) (_ : iv 0 79 x2_73) (_ : iv 0 79 x1_13) (_ : iv 0 0 x) (_ : KS [13, 14, 15, 16, 17, 18] sg sg_j73) (_ : KS [37, 38, 39, 48, 49, 50, 51, 52, 53] gm gm_j73) (_ : CI sg_j73 gm_j73) (_ : MOK sg_j73 gm_j73 lg) (_ : FND9 sg_j73 gm_j73) (_ : ∃ S2, RC wg lg S2 sg_j73 gm_j73 ∧ rfL ws wg lg 40 (ws 12).toNatClampNeg 0 (zCe (zFo S)) = rfL ws wg lg 40 ((ws 12).toNatClampNeg - (x1_13.toNatClampNeg + 1)) (x1_13.toNatClampNeg + 1) S2) (_ : PHs gm ≤ PHs gm_j73) (H : Heap) (locs : List Loc) (ls : Array Slot), va_P (dC, dI) vwCl (cW ad cid a2 lx sg_j73 gm_j73 lg) H → va_D A (cW ad cid a2 lx sg_j73 gm_j73 lg) → va_S A s.heap H locs → lv_has ls 3 [(2, eV (ad 10) x2_73), (1, .int x1_13), (0, eV (ad 6) x)] → W p l e (headSpec wm_X5_renewsAll ({ frames := 343, cells := 30482, slots := 121932, locals := 11064 })).room s m ([eV (ad 6) x] : List Value).toArray below meth c H locs (gc gm gm_j73 0) (gs gm gm_j73 0) (vx_MQ below (cQg dC dI ad cid (fun v u => ∃ r : Int32, v = some (.int r) ∧ ∃ (sg2 : Nat → Int32) (gm2 : Nat → Nat → Int32) (lg2 : Nat → Nat → Int64), u = (a2, lx, sg2, gm2, lg2) ∧ CI sg2 gm2 ∧ KS [13, 14, 15, 16, 17, 18] sg sg2 ∧ KS [37, 38, 39, 48, 49, 50, 51, 52, 53] gm gm2 ∧ KS [] lg lg2 ∧ (iv 0 1 r) ∧ (MOK sg2 gm2 lg2) ∧ (FND9 sg2 gm2) ∧ ((r.toInt = 1 ∧ ∃ S2, zRf ws wg lg 40 S = (some (sg2 14).toInt, S2) ∧ RC wg lg S2 sg2 gm2) ∨ (r.toInt = 0 ∧ ∃ S2, zRf ws wg lg 40 S = (none, S2) ∧ RC wg lg S2 sg2 gm2))) 1 gm A) (cXg dC dI ad cid (fun _ _ => False) 1 gm A) ([eV (ad 6) x] : List Value).toArray s 30482 121932 A) (F0 m 73 ls []) := by
        intro sg_j73 gm_j73 x2_73 hx2_73 hsx1_73 hsx0_73 hks_j73 hkg_j73 hI_j73 hMOk hFNk hX73 hm_j73 H locs ls hP hD hS hl
        obtain ⟨z_1, ez_1⟩ : ∃ z : Int32, z = x1_13 + 1 := ⟨_, rfl⟩
        have hz_1 : iv 1 80 z_1 := iv_of ez_1 (iv_add hsx1_73 (iv_k (by decide) : iv 1 1 1) (by decide))
        have tz_1 : z_1.toInt = x1_13.toInt + 1 := by rw [ez_1]; exact iv_addE hsx1_73 (iv_k (by decide) : iv 1 1 1) (by decide)
        refine lv_iinc (v := z_1) (lv' := [(1, .int z_1), (2, eV (ad 10) x2_73), (0, eV (ad 6) x)]) hx hb dX5_renewsAll_73 hl (k := 1) rfl ez_1.symm (by decide) (by simp [List.filter, eV_cat, cat_i, cat_l]) (fun ls hl => ?_)
        refine lv_goto (tgt := 13) hx hb dX5_renewsAll_76 (by decide) ?_
        exact ih13 _ (by rw [← hn13]; exact (iv_meas tz_1 hsx1_73 (by decide))) sg_j73 gm_j73 z_1 rfl (iv_w hz_1 (by decide)) hsx0_73 (KS_tr (L := [13, 14, 15, 16, 17, 18]) KS_rf hks_j73 (by decide)) (KS_tr (L := [37, 38, 39, 48, 49, 50, 51, 52, 53]) KS_rf hkg_j73 (by decide)) hI_j73 (hMOk) (hFNk) ((by rw [show z_1.toNatClampNeg = x1_13.toNatClampNeg + 1 from (by have q1 : z_1.toNatClampNeg = z_1.toInt.toNat := rfl; have q1 : x1_13.toNatClampNeg = x1_13.toInt.toNat := rfl; have := i32_0; have := i32_1; have := i32_2; have := i32_m1; have := (hsx0_73).1; have := (hsx0_73).2; have := (hsx1_73).1; have := (hsx1_73).2; have := (hx2_73).1; have := (hx2_73).2; have := (hz_1).1; have := (hz_1).2; omega)]; exact hX73)) hm_j73 _ _ _ hP hD hS (lv_sub hl [0, 2] rfl)
      obtain ⟨Sj, hRj, hIj⟩ := hX13
      refine lv_iload_n hx hb dX5_renewsAll_13 rfl (lv_at hl 0 rfl) ?_
      refine ec_aload_n hx hb dX5_renewsAll_14 rfl (lv_at hl 1 rfl) ?_
      refine cr_get (t := 6) (j := 0) (C := RX5) (T := TX5) (N := 13) (v := eV (ad 4) 0) hx hb htb inX5 hown hK hP hsx0_13 (by decide) (by decide) (by decide) rfl (by decide) (htb _ kw_404) (cV_c rfl (by decide) (by rw [show cMu 6 0 = 0 from rfl, Nat.zero_mul]; rfl)) dX5_renewsAll_15 ?_
      refine cm_callTV (t := 4) (C := RX10) (T := TX10) (N := 4) (rest := [.int x1_13]) (as := []) ⟨hx, hb, hml, hown, htb⟩ (d_countWi l dC dI ad cid a2 lx sg_j13 gm_j13 lg 0 hI_j13 (iv_k (by decide) : iv 0 0 0)) (cwV 0 htb (gd_V kw_492 kw_493 kw_494 kw_153 kw_1406) rfl rfl rfl (by decide +kernel) ⟨Nat.le_of_ble_eq_true rfl, Nat.le_of_ble_eq_true rfl⟩) (iv_k (by decide) : iv 0 0 0) (by decide) (by decide) rfl rfl hl.1 rfl (Nat.le_trans (cs_c (cat_i _) cs_n) (by decide)) dX5_renewsAll_18 ⟨Nat.le_trans (gc_le hI_j13) (Nat.le_of_ble_eq_true rfl), Nat.le_trans (gs_le hI_j13) (Nat.le_of_ble_eq_true rfl)⟩ hK hP hD hS hA hG (fun E ce q9 u_3 H locs hw hP hD hS hce hcv hcl => ?_) (fun v9 u_3 H locs hw hP hD hS => ?_)
      · exact hw.elim
      obtain ⟨r_2, rfl, rfl, hr_2, fr_r_2⟩ := hw
      have hP : va_P (dC, dI) vwCl (cW ad cid a2 lx sg_j13 gm_j13 lg) H := hP
      have hD : va_D A (cW ad cid a2 lx sg_j13 gm_j13 lg) := hD
      refine W.eq (g2 := F0 m 21 ls [.int r_2, .int x1_13]) rfl ?_
      refine lv_icmp_ge (tgt := 79) hx hb dX5_renewsAll_21 (by decide) (fun c_5 => ?_) (fun c_5 => ?_)
      · have d_6 : (r_2 : Int32).toInt ≤ (x1_13 : Int32).toInt := Int32.le_iff_toInt_le.mp c_5
        refine lv_goto (tgt := 93) hx hb dX5_renewsAll_79 (by decide) ?_
        refine lv_iconst (v := 1) hx hb dX5_renewsAll_93 (by decide) ?_
        refine W.widen (k := gc gm gm_j13 1) (n := gs gm gm_j13 1) (gc_e rfl (by decide)) (gs_e rfl (by decide)) ?_
        exact W.nb (fun hN => W.widen (k := 30482) (n := 121932) (Nat.le_trans (gc_l0 (gm := gm) (k := 1) hI_j13) (Nat.le_of_ble_eq_true rfl)) (Nat.le_trans (gs_l0 (gm := gm) (k := 1) hI_j13) (Nat.le_of_ble_eq_true rfl)) (vx_ret (W.zret (v := 1) hx hb hr (iv_nb (iv_w (iv_k (by decide) : iv 1 1 1) (by decide))) (fun t ht hW => ⟨⟨some (.int 1), (a2, lx, sg_j13, gm_j13, lg), rfl, ⟨1, rfl, sg_j13, gm_j13, lg, rfl, hI_j13, (KS_tr (L := [13, 14, 15, 16, 17, 18]) KS_rf hks_j13 (by decide)), (KS_tr (L := [37, 38, 39, 48, 49, 50, 51, 52, 53]) KS_rf hkg_j13 (by decide)), KS_rf, (iv_w (iv_k (by decide) : iv 1 1 1) (by decide)), (hMOj), (hFNj), (Or.inl ⟨rfl, Sj, (by have q9 := zRf_s (rfL_e hIj (by have q1 := congrArg Int32.toInt (ss9_12 hSS); have q2 := congrArg Int32.toInt fr_r_2; have q3 : (ws 12).toNatClampNeg = (ws 12).toInt.toNat := rfl; have q4 : x1_13.toNatClampNeg = x1_13.toInt.toNat := rfl; have := i32_0; have := i32_1; have := i32_2; have := i32_m1; have := congrArg Int32.toInt (show sg_j13 12 = sg 12 from hks_j13 12 (by decide)); have := (show iv 0 80 (sg 12) from CI_s hI 12).1; have := (show iv 0 80 (sg 12) from CI_s hI 12).2; have := (hsx0_13).1; have := (hsx0_13).2; have := (hx1_13).1; have := (hx1_13).2; have := (hr_2).1; have := (hr_2).2; omega)); rw [← hRj.1.1] at q9; exact q9), hRj⟩)⟩, ⟨by rw [ht]; exact hP, va_K.moved hW.alike hK, hD⟩, hm_j13, by rw [ht]; exact hN⟩, hS.F ht⟩) hS.2.2 dX5_renewsAll_94)))
      · have d_7 : (x1_13 : Int32).toInt < (r_2 : Int32).toInt := Int32.lt_iff_toInt_lt.mp (i32_lt c_5)
        have h_8 : iv 0 79 x1_13 := iv_ltL (i32_lt c_5) hx1_13 hr_2 (by decide)
        have h_9 : iv 1 80 r_2 := iv_ltR (i32_lt c_5) hx1_13 hr_2 (by decide)
        refine ec_aload_n hx hb dX5_renewsAll_24 rfl (lv_at hl 1 rfl) ?_
        refine cr_get (t := 6) (j := 0) (C := RX5) (T := TX5) (N := 13) (v := eV (ad 4) 0) hx hb htb inX5 hown hK hP hsx0_13 (by decide) (by decide) (by decide) rfl (by decide) (htb _ kw_404) (cV_c rfl (by decide) (by rw [show cMu 6 0 = 0 from rfl, Nat.zero_mul]; rfl)) dX5_renewsAll_25 ?_
        refine lv_iload_n hx hb dX5_renewsAll_28 rfl (lv_at hl 0 rfl) ?_
        refine cm_callTV (t := 4) (C := RX10) (T := TX10) (N := 4) (rest := []) (as := [.int x1_13]) ⟨hx, hb, hml, hown, htb⟩ (d_numbered l dC dI ad cid a2 lx sg_j13 gm_j13 lg 0 x1_13 hI_j13 (iv_k (by decide) : iv 0 0 0) h_8) (cwV 1 htb (gd_V kw_495 kw_496 kw_497 kw_153 kw_1407) rfl rfl rfl (by decide +kernel) ⟨Nat.le_of_ble_eq_true rfl, Nat.le_of_ble_eq_true rfl⟩) (iv_k (by decide) : iv 0 0 0) (by decide) (by decide) rfl rfl hl.1 rfl (Nat.le_trans cs_n (by decide)) dX5_renewsAll_29 ⟨Nat.le_trans (gc_le hI_j13) (Nat.le_of_ble_eq_true rfl), Nat.le_trans (gs_le hI_j13) (Nat.le_of_ble_eq_true rfl)⟩ hK hP hD hS hA hG (fun E ce q9 u_11 H locs hw hP hD hS hce hcv hcl => ?_) (fun v9 u_11 H locs hw hP hD hS => ?_)
        · exact hw.elim
        obtain ⟨r_10, rfl, rfl, hr_10, fr_r_10⟩ := hw
        have hP : va_P (dC, dI) vwCl (cW ad cid a2 lx sg_j13 gm_j13 lg) H := hP
        have hD : va_D A (cW ad cid a2 lx sg_j13 gm_j13 lg) := hD
        refine W.eq (g2 := F0 m 32 ls [eV (ad 10) r_10]) rfl ?_
        refine ec_astore_n (i := 2) (lv' := [(2, eV (ad 10) r_10), (1, .int x1_13), (0, eV (ad 6) x)]) hx hb dX5_renewsAll_32 rfl hl (by decide) rfl (fun ls hl => ?_)
        refine ec_aload_n hx hb dX5_renewsAll_33 rfl (lv_at hl 0 rfl) ?_
        refine cr_get (t := 10) (j := 5) (C := RX1) (T := TX1) (N := 19) (v := .long (lg 4 r_10.toNatClampNeg)) hx hb htb inX1 hown hK hP hr_10 (by decide) (by decide) (by decide) rfl (by decide) (htb _ kw_360) rfl dX5_renewsAll_34 ?_
        refine lv_topl (fun z_13 ez_13 => ?_)
        refine lv_lconst (v := 0) hx hb dX5_renewsAll_37 (by decide) ?_
        refine W.lcmp hx hb dX5_renewsAll_38 ?_
        refine lv_topi (fun z_14 ez_14 => ?_)
        have hz_14 : iv (-1) 1 z_14 := iv_of ez_14 (iv_cmp _ _)
        refine lv_if_eq (tgt := 73) hx hb dX5_renewsAll_39 (by decide) (fun c_15 => ?_) (fun c_15 => ?_)
        · have h_16 : iv 0 0 z_14 := iv_eq c_15 hz_14 (iv_k (by decide) : iv 0 0 0) (by decide)
          exact hj73 sg_j13 gm_j13 r_10 hr_10 h_8 hsx0_13 (KS_tr (L := [13, 14, 15, 16, 17, 18]) KS_rf hks_j13 (by decide)) (KS_tr (L := [37, 38, 39, 48, 49, 50, 51, 52, 53]) KS_rf hkg_j13 (by decide)) hI_j13 (hMOj) (hFNj) (⟨Sj, hRj, rfL_n hIj (show x1_13.toNatClampNeg < (ws 12).toNatClampNeg from (by have q1 := congrArg Int32.toInt (ss9_12 hSS); have q2 := congrArg Int32.toInt fr_r_2; have q3 : (ws 12).toNatClampNeg = (ws 12).toInt.toNat := rfl; have q4 : x1_13.toNatClampNeg = x1_13.toInt.toNat := rfl; have := i32_0; have := i32_1; have := i32_2; have := i32_m1; have := congrArg Int32.toInt (show sg_j13 12 = sg 12 from hks_j13 12 (by decide)); have := (show iv 0 80 (sg 12) from CI_s hI 12).1; have := (show iv 0 80 (sg 12) from CI_s hI 12).2; have := (hsx0_13).1; have := (hsx0_13).2; have := (h_8).1; have := (h_8).2; have := (h_9).1; have := (h_9).2; have := (hr_10).1; have := (hr_10).2; have := (h_16).1; have := (h_16).2; omega)) (fun q => q.1 (show lg 4 x1_13.toNatClampNeg = 0 from (by rw [← fr_r_10, ← ez_13]; exact (lg_cmp_eq _ _).mp (by rw [← ez_14]; exact c_15))))⟩) hm_j13 _ _ _ hP hD hS (lv_sub hl [0, 1, 2] rfl)
        · have d_17 : ¬ (z_14 : Int32).toInt = 0 := lv_neT c_15 rfl
          refine ec_aload_n hx hb dX5_renewsAll_42 rfl (lv_at hl 0 rfl) ?_
          refine cr_get (t := 10) (j := 13) (C := RX1) (T := TX1) (N := 19) (v := .int (gm_j13 34 r_10.toNatClampNeg)) hx hb htb inX1 hown hK hP hr_10 (by decide) (by decide) (by decide) rfl (by decide) (htb _ kw_376) rfl dX5_renewsAll_43 ?_
          obtain ⟨z_18, ez_18⟩ : ∃ z : Int32, z = (gm_j13 34 r_10.toNatClampNeg) := ⟨_, rfl⟩
          refine W.eq (g2 := F0 m 46 ls [.int z_18]) (by rw [ez_18]) ?_
          have hz_18 : iv 0 1 z_18 := iv_of ez_18 (CI_a hI_j13 34 hr_10 (by decide))
          have ez_18 := ez_18.trans (congrFun (hkg_j13 34 (by decide)) _)
          refine lv_if_ne (tgt := 73) hx hb dX5_renewsAll_46 (by decide) (fun c_19 => ?_) (fun c_19 => ?_)
          · have h_20 : iv 1 1 z_18 := iv_neL c_19 hz_18 (by decide)
            exact hj73 sg_j13 gm_j13 r_10 hr_10 h_8 hsx0_13 (KS_tr (L := [13, 14, 15, 16, 17, 18]) KS_rf hks_j13 (by decide)) (KS_tr (L := [37, 38, 39, 48, 49, 50, 51, 52, 53]) KS_rf hkg_j13 (by decide)) hI_j13 (hMOj) (hFNj) (⟨Sj, hRj, rfL_n hIj (show x1_13.toNatClampNeg < (ws 12).toNatClampNeg from (by have q1 := congrArg Int32.toInt (ss9_12 hSS); have q2 := congrArg Int32.toInt fr_r_2; have q3 : (ws 12).toNatClampNeg = (ws 12).toInt.toNat := rfl; have q4 : x1_13.toNatClampNeg = x1_13.toInt.toNat := rfl; have := i32_0; have := i32_1; have := i32_2; have := i32_m1; have := congrArg Int32.toInt (show sg_j13 12 = sg 12 from hks_j13 12 (by decide)); have := (show iv 0 80 (sg 12) from CI_s hI 12).1; have := (show iv 0 80 (sg 12) from CI_s hI 12).2; have := (hsx0_13).1; have := (hsx0_13).2; have := (h_8).1; have := (h_8).2; have := (h_9).1; have := (h_9).2; have := (hr_10).1; have := (hr_10).2; have := (hz_14).1; have := (hz_14).2; have := (h_20).1; have := (h_20).2; omega)) (fun q => absurd q.2.1 (fun q7 => absurd (congrArg Int32.toInt ((show wg 34 x1_13.toNatClampNeg = z_18 from (by rw [← fr_r_10]; exact (swt9 hSW ez_18 rfl))).symm.trans q7)) (by have := i32_0; have := i32_0; have := i32_1; have := i32_2; have := i32_m1; have := (hsx0_13).1; have := (hsx0_13).2; have := (h_8).1; have := (h_8).2; have := (h_9).1; have := (h_9).2; have := (hr_10).1; have := (hr_10).2; have := (hz_14).1; have := (hz_14).2; have := (h_20).1; have := (h_20).2; omega)))⟩) hm_j13 _ _ _ hP hD hS (lv_sub hl [0, 1, 2] rfl)
          · have h_21 : iv 0 0 z_18 := iv_eq c_19 hz_18 (iv_k (by decide) : iv 0 0 0) (by decide)
            refine ec_aload_n hx hb dX5_renewsAll_49 rfl (lv_at hl 0 rfl) ?_
            refine cr_get (t := 10) (j := 14) (C := RX1) (T := TX1) (N := 19) (v := .int (gm_j13 35 r_10.toNatClampNeg)) hx hb htb inX1 hown hK hP hr_10 (by decide) (by decide) (by decide) rfl (by decide) (htb _ kw_378) rfl dX5_renewsAll_50 ?_
            obtain ⟨z_22, ez_22⟩ : ∃ z : Int32, z = (gm_j13 35 r_10.toNatClampNeg) := ⟨_, rfl⟩
            refine W.eq (g2 := F0 m 53 ls [.int z_22]) (by rw [ez_22]) ?_
            have hz_22 : iv 0 1 z_22 := iv_of ez_22 (CI_a hI_j13 35 hr_10 (by decide))
            have ez_22 := ez_22.trans (congrFun (hkg_j13 35 (by decide)) _)
            refine lv_if_ne (tgt := 73) hx hb dX5_renewsAll_53 (by decide) (fun c_23 => ?_) (fun c_23 => ?_)
            · have h_24 : iv 1 1 z_22 := iv_neL c_23 hz_22 (by decide)
              exact hj73 sg_j13 gm_j13 r_10 hr_10 h_8 hsx0_13 (KS_tr (L := [13, 14, 15, 16, 17, 18]) KS_rf hks_j13 (by decide)) (KS_tr (L := [37, 38, 39, 48, 49, 50, 51, 52, 53]) KS_rf hkg_j13 (by decide)) hI_j13 (hMOj) (hFNj) (⟨Sj, hRj, rfL_n hIj (show x1_13.toNatClampNeg < (ws 12).toNatClampNeg from (by have q1 := congrArg Int32.toInt (ss9_12 hSS); have q2 := congrArg Int32.toInt fr_r_2; have q3 : (ws 12).toNatClampNeg = (ws 12).toInt.toNat := rfl; have q4 : x1_13.toNatClampNeg = x1_13.toInt.toNat := rfl; have := i32_0; have := i32_1; have := i32_2; have := i32_m1; have := congrArg Int32.toInt (show sg_j13 12 = sg 12 from hks_j13 12 (by decide)); have := (show iv 0 80 (sg 12) from CI_s hI 12).1; have := (show iv 0 80 (sg 12) from CI_s hI 12).2; have := (hsx0_13).1; have := (hsx0_13).2; have := (h_8).1; have := (h_8).2; have := (h_9).1; have := (h_9).2; have := (hr_10).1; have := (hr_10).2; have := (hz_14).1; have := (hz_14).2; have := (h_21).1; have := (h_21).2; have := (h_24).1; have := (h_24).2; omega)) (fun q => absurd q.2.2.1 (fun q7 => absurd (congrArg Int32.toInt ((show wg 35 x1_13.toNatClampNeg = z_22 from (by rw [← fr_r_10]; exact (swt9 hSW ez_22 rfl))).symm.trans q7)) (by have := i32_0; have := i32_0; have := i32_1; have := i32_2; have := i32_m1; have := (hsx0_13).1; have := (hsx0_13).2; have := (h_8).1; have := (h_8).2; have := (h_9).1; have := (h_9).2; have := (hr_10).1; have := (hr_10).2; have := (hz_14).1; have := (hz_14).2; have := (h_21).1; have := (h_21).2; have := (h_24).1; have := (h_24).2; omega)))⟩) hm_j13 _ _ _ hP hD hS (lv_sub hl [0, 1, 2] rfl)
            · have h_25 : iv 0 0 z_22 := iv_eq c_23 hz_22 (iv_k (by decide) : iv 0 0 0) (by decide)
              refine ec_aload_n hx hb dX5_renewsAll_56 rfl (lv_at hl 0 rfl) ?_
              refine cr_get (t := 10) (j := 15) (C := RX1) (T := TX1) (N := 19) (v := .int (gm_j13 36 r_10.toNatClampNeg)) hx hb htb inX1 hown hK hP hr_10 (by decide) (by decide) (by decide) rfl (by decide) (htb _ kw_380) rfl dX5_renewsAll_57 ?_
              obtain ⟨z_26, ez_26⟩ : ∃ z : Int32, z = (gm_j13 36 r_10.toNatClampNeg) := ⟨_, rfl⟩
              refine W.eq (g2 := F0 m 60 ls [.int z_26]) (by rw [ez_26]) ?_
              have hz_26 : iv 0 1 z_26 := iv_of ez_26 (CI_a hI_j13 36 hr_10 (by decide))
              have ez_26 := ez_26.trans (congrFun (hkg_j13 36 (by decide)) _)
              refine lv_if_ne (tgt := 73) hx hb dX5_renewsAll_60 (by decide) (fun c_27 => ?_) (fun c_27 => ?_)
              · have h_28 : iv 1 1 z_26 := iv_neL c_27 hz_26 (by decide)
                exact hj73 sg_j13 gm_j13 r_10 hr_10 h_8 hsx0_13 (KS_tr (L := [13, 14, 15, 16, 17, 18]) KS_rf hks_j13 (by decide)) (KS_tr (L := [37, 38, 39, 48, 49, 50, 51, 52, 53]) KS_rf hkg_j13 (by decide)) hI_j13 (hMOj) (hFNj) (⟨Sj, hRj, rfL_n hIj (show x1_13.toNatClampNeg < (ws 12).toNatClampNeg from (by have q1 := congrArg Int32.toInt (ss9_12 hSS); have q2 := congrArg Int32.toInt fr_r_2; have q3 : (ws 12).toNatClampNeg = (ws 12).toInt.toNat := rfl; have q4 : x1_13.toNatClampNeg = x1_13.toInt.toNat := rfl; have := i32_0; have := i32_1; have := i32_2; have := i32_m1; have := congrArg Int32.toInt (show sg_j13 12 = sg 12 from hks_j13 12 (by decide)); have := (show iv 0 80 (sg 12) from CI_s hI 12).1; have := (show iv 0 80 (sg 12) from CI_s hI 12).2; have := (hsx0_13).1; have := (hsx0_13).2; have := (h_8).1; have := (h_8).2; have := (h_9).1; have := (h_9).2; have := (hr_10).1; have := (hr_10).2; have := (hz_14).1; have := (hz_14).2; have := (h_21).1; have := (h_21).2; have := (h_25).1; have := (h_25).2; have := (h_28).1; have := (h_28).2; omega)) (fun q => absurd q.2.2.2 (fun q7 => absurd (congrArg Int32.toInt ((show wg 36 x1_13.toNatClampNeg = z_26 from (by rw [← fr_r_10]; exact (swt9 hSW ez_26 rfl))).symm.trans q7)) (by have := i32_0; have := i32_0; have := i32_1; have := i32_2; have := i32_m1; have := (hsx0_13).1; have := (hsx0_13).2; have := (h_8).1; have := (h_8).2; have := (h_9).1; have := (h_9).2; have := (hr_10).1; have := (hr_10).2; have := (hz_14).1; have := (hz_14).2; have := (h_21).1; have := (h_21).2; have := (h_25).1; have := (h_25).2; have := (h_28).1; have := (h_28).2; omega)))⟩) hm_j13 _ _ _ hP hD hS (lv_sub hl [0, 1, 2] rfl)
              · have h_29 : iv 0 0 z_26 := iv_eq c_27 hz_26 (iv_k (by decide) : iv 0 0 0) (by decide)
                refine ec_aload_n hx hb dX5_renewsAll_63 rfl (lv_at hl 2 rfl) ?_
                refine ec_aload_n hx hb dX5_renewsAll_64 rfl (lv_at hl 0 rfl) ?_
                refine cr_get (t := 10) (j := 5) (C := RX1) (T := TX1) (N := 19) (v := .long (lg 4 r_10.toNatClampNeg)) hx hb htb inX1 hown hK hP hr_10 (by decide) (by decide) (by decide) rfl (by decide) (htb _ kw_360) rfl dX5_renewsAll_65 ?_
                refine lv_topl (fun z_30 ez_30 => ?_)
                refine lv_iconst (v := 0) hx hb dX5_renewsAll_68 (by decide) ?_
                refine cm_callTV (t := 6) (C := RX5) (T := TX5) (N := 13) (rest := []) (as := [.long z_30, .int 0]) ⟨hx, hb, hml, hown, htb⟩ ((d_rec9 l dC dI ad cid a2 lx hl9 40).2 sg_j13 gm_j13 lg x z_30 0 wg ws Sj hI_j13 hsx0_13 (iv_w (iv_k (by decide) : iv 0 0 0) (by decide)) (WRD_e hW (hks_j13 4 (by decide)) (hks_j13 12 (by decide)) (hkg_j13 14 (by decide)) (hkg_j13 15 (by decide)) (hkg_j13 16 (by decide)) (hkg_j13 17 (by decide)) (hkg_j13 19 (by decide)) (hkg_j13 20 (by decide)) (hkg_j13 22 (by decide)) (hkg_j13 25 (by decide)) (hkg_j13 26 (by decide)) (hkg_j13 27 (by decide)) (hkg_j13 29 (by decide)) (hkg_j13 41 (by decide)) (hkg_j13 44 (by decide)) (hkg_j13 45 (by decide)) (hkg_j13 46 (by decide)) (hkg_j13 57 (by decide)) rfl rfl) (LDI_e hLD (hkg_j13 41 (by decide)) (hkg_j13 42 (by decide)) (hkg_j13 57 (by decide))) hMOj hFNj (by decide) ((st9_ks (L := [37, 38, 39, 48, 49, 50, 51, 52, 53]) (KS_tr (L := [37, 38, 39, 48, 49, 50, 51, 52, 53]) KS_rf hkg_j13 (by decide)) (by decide)).trans hSW) ((ss9_ks (L := [13, 14, 15, 16, 17, 18]) (KS_tr (L := [13, 14, 15, 16, 17, 18]) KS_rf hks_j13 (by decide)) rfl rfl).trans hSS) hSV hRj) (cwV 2 htb (gd_V kw_891 kw_892 kw_48 kw_159 kw_1527) rfl rfl rfl (by decide +kernel) ⟨Nat.le_of_ble_eq_true rfl, Nat.le_of_ble_eq_true rfl⟩) hsx0_13 (by decide) (by decide) rfl rfl hl.1 rfl (Nat.le_trans cs_n (by decide)) dX5_renewsAll_69 ⟨Nat.le_trans (gc_le hI_j13) (Nat.le_of_ble_eq_true rfl), Nat.le_trans (gs_le hI_j13) (Nat.le_of_ble_eq_true rfl)⟩ hK hP hD hS hA hG (fun E ce q9 u_32 H locs hw hP hD hS hce hcv hcl => ?_) (fun v9 u_32 H locs hw hP hD hS => ?_)
                · obtain ⟨hE, hw⟩ := hw
                  obtain ⟨sgv_33, gmv_33, lgv_33, rfl, hIv_33, ksv_33, kgv_33, klv_33, xMO_v_33, xFN_v_33, xG_v_33⟩ := hw
                  obtain rfl := KS_nil klv_33
                  have hP : va_P (dC, dI) vwCl (cW ad cid a2 lx sgv_33 gmv_33 lg) H := hP
                  have hD : va_D A (cW ad cid a2 lx sgv_33 gmv_33 lg) := hD
                  refine vx_widen (k := gc gm gm_j13 1) (n := gs gm gm_j13 1) (by unfold gc; omega) (by unfold gs; omega) ?_
                  obtain ⟨Sx, hEx, hRx⟩ := xG_v_33
                  subst hE
                  refine mc_catch (own := RX5) (name := "java/lang/UnsupportedOperationException") hown ⟨11, 79, 82, 103⟩ [] hxt (by decide) (by decide) (htb _ kw_890) (va_Nw.use rfl hG.2.1.1) hce hcv hcl ?_
                  refine lv_astore_n (i := 1) (lv' := [(1, .ref q9), (2, eV (ad 10) r_10), (0, eV (ad 6) x)]) hx hb dX5_renewsAll_82 rfl hl (by decide) (by simp [List.filter, eV_cat, cat_i, cat_l]) (fun ls hl => ?_)
                  refine ec_aload_n hx hb dX5_renewsAll_83 rfl (lv_at hl 2 rfl) ?_
                  refine cm_callTV (t := 6) (C := RX5) (T := TX5) (N := 13) (rest := []) (as := []) ⟨hx, hb, hml, hown, htb⟩ (d_stopMaking9 l dC dI ad cid a2 lx sgv_33 gmv_33 lg x hIv_33 hsx0_13) (cwV 0 htb (gd_V kw_965 kw_966 kw_68 kw_159 kw_1555) rfl rfl rfl (by decide +kernel) ⟨Nat.le_of_ble_eq_true rfl, Nat.le_of_ble_eq_true rfl⟩) hsx0_13 (by decide) (by decide) rfl rfl hl.1 rfl (Nat.le_trans cs_n (by decide)) dX5_renewsAll_84 ⟨Nat.le_trans (gc_le hI_j13) (Nat.le_of_ble_eq_true rfl), Nat.le_trans (gs_le hI_j13) (Nat.le_of_ble_eq_true rfl)⟩ hK hP hD hS hA hG (fun E ce q9 u_35 H locs hw hP hD hS hce hcv hcl => ?_) (fun v9 u_35 H locs hw hP hD hS => ?_)
                  · exact hw.elim
                  obtain ⟨rfl, sgv_36, gmv_36, lgv_36, rfl, hIv_36, ksv_36, kgv_36, klv_36, fM_r_34⟩ := hw
                  obtain rfl := KS_nil klv_36
                  have hP : va_P (dC, dI) vwCl (cW ad cid a2 lx sgv_36 gmv_36 lg) H := hP
                  have hD : va_D A (cW ad cid a2 lx sgv_36 gmv_36 lg) := hD
                  refine W.eq (g2 := F0 m 87 ls []) rfl ?_
                  have hRs : RC wg lg (zSt Sx) sgv_36 gmv_36 := RC_stp hRx (KS_tr (L := [16]) KS_rf ksv_36 (by decide)) (KS_tr (L := [37]) KS_rf kgv_36 (by decide)) (fun c9 q9 => fM_r_34 c9 q9)
                  refine ec_aload_n hx hb dX5_renewsAll_87 rfl (lv_at hl 2 rfl) ?_
                  refine cm_callTV (t := 6) (C := RX5) (T := TX5) (N := 13) (rest := []) (as := []) ⟨hx, hb, hml, hown, htb⟩ (d_destroyAll9 l dC dI ad cid a2 lx sgv_36 gmv_36 lg x wg (zSt Sx) hIv_36 hsx0_13 (FND9_e xFN_v_33 (show sgv_36 15 = sgv_33 15 from (ksv_36 15 (by decide))) (show gmv_36 51 = gmv_33 51 from (kgv_36 51 (by decide)))) ((st9_ks (L := [37, 38, 39, 48, 49, 50, 51, 52, 53]) (KS_tr (L := [37, 38, 39, 48, 49, 50, 51, 52, 53]) (KS_tr (L := [37, 38, 39, 48, 49, 50, 51, 52, 53]) (KS_tr (L := [37, 38, 39, 48, 49, 50, 51, 52, 53]) KS_rf hkg_j13 (by decide)) kgv_33 (by decide)) kgv_36 (by decide)) (by decide)).trans hSW) hRs) (cwV 0 htb (gd_V kw_967 kw_485 kw_486 kw_159 kw_1403) rfl rfl rfl (by decide +kernel) ⟨Nat.le_of_ble_eq_true rfl, Nat.le_of_ble_eq_true rfl⟩) hsx0_13 (by decide) (by decide) rfl rfl hl.1 rfl (Nat.le_trans cs_n (by decide)) dX5_renewsAll_88 ⟨Nat.le_trans (gc_le hI_j13) (Nat.le_of_ble_eq_true rfl), Nat.le_trans (gs_le hI_j13) (Nat.le_of_ble_eq_true rfl)⟩ hK hP hD hS hA hG (fun E ce q9 u_38 H locs hw hP hD hS hce hcv hcl => ?_) (fun v9 u_38 H locs hw hP hD hS => ?_)
                  · exact hw.elim
                  obtain ⟨rfl, sgv_39, gmv_39, lgv_39, rfl, hIv_39, ksv_39, kgv_39, klv_39, fM_r_37, f15_r_37, fR_r_37⟩ := hw
                  obtain rfl := KS_nil klv_39
                  have hP : va_P (dC, dI) vwCl (cW ad cid a2 lx sgv_39 gmv_39 lg) H := hP
                  have hD : va_D A (cW ad cid a2 lx sgv_39 gmv_39 lg) := hD
                  refine W.eq (g2 := F0 m 91 ls []) rfl ?_
                  have hMO_r_37 : MOK sgv_39 gmv_39 lg := MOK_0 (fun c9 q9 => fM_r_37 c9 (by rw [← (show sgv_39 12 = sgv_36 12 from (show sgv_39 12 = sgv_36 12 from (ksv_39 12 (by decide))))]; exact q9))
                  refine lv_iconst (v := 0) hx hb dX5_renewsAll_91 (by decide) ?_
                  refine W.widen (k := gc gm gmv_39 1) (n := gs gm gmv_39 1) (gc_e (show gmv_39 42 = gm_j13 42 from (Eq.trans (kgv_39 42 (by decide)) (Eq.trans (kgv_36 42 (by decide)) (kgv_33 42 (by decide))))) (by decide)) (gs_e (show gmv_39 42 = gm_j13 42 from (Eq.trans (kgv_39 42 (by decide)) (Eq.trans (kgv_36 42 (by decide)) (kgv_33 42 (by decide))))) (by decide)) ?_
                  have hm_40 : PHs gm ≤ PHs gmv_39 := by rw [PHs_e (show gmv_39 42 = gm_j13 42 from (Eq.trans (kgv_39 42 (by decide)) (Eq.trans (kgv_36 42 (by decide)) (kgv_33 42 (by decide)))))]; exact hm_j13
                  exact W.nb (fun hN => W.widen (k := 30482) (n := 121932) (Nat.le_trans (gc_l0 (gm := gm) (k := 1) hIv_39) (Nat.le_of_ble_eq_true rfl)) (Nat.le_trans (gs_l0 (gm := gm) (k := 1) hIv_39) (Nat.le_of_ble_eq_true rfl)) (vx_ret (W.zret (v := 0) hx hb hr (iv_nb (iv_w (iv_k (by decide) : iv 0 0 0) (by decide))) (fun t ht hW => ⟨⟨some (.int 0), (a2, lx, sgv_39, gmv_39, lg), rfl, ⟨0, rfl, sgv_39, gmv_39, lg, rfl, hIv_39, (KS_tr (L := [13, 14, 15, 16, 17, 18]) (KS_tr (L := [13, 14, 15, 16, 17, 18]) (KS_tr (L := [13, 14, 15, 16, 17, 18]) (KS_tr (L := [13, 14, 15, 16, 17, 18]) KS_rf hks_j13 (by decide)) ksv_33 (by decide)) ksv_36 (by decide)) ksv_39 (by decide)), (KS_tr (L := [37, 38, 39, 48, 49, 50, 51, 52, 53]) (KS_tr (L := [37, 38, 39, 48, 49, 50, 51, 52, 53]) (KS_tr (L := [37, 38, 39, 48, 49, 50, 51, 52, 53]) (KS_tr (L := [37, 38, 39, 48, 49, 50, 51, 52, 53]) KS_rf hkg_j13 (by decide)) kgv_33 (by decide)) kgv_36 (by decide)) kgv_39 (by decide)), KS_rf, (iv_w (iv_k (by decide) : iv 0 0 0) (by decide)), (hMO_r_37), ((FND9_0 f15_r_37)), (Or.inr ⟨rfl, _, zRf_x (rfL_x hIj (show x1_13.toNatClampNeg < (ws 12).toNatClampNeg from (by have q1 := congrArg Int32.toInt (ss9_12 hSS); have q2 := congrArg Int32.toInt fr_r_2; have q3 : (ws 12).toNatClampNeg = (ws 12).toInt.toNat := rfl; have q4 : x1_13.toNatClampNeg = x1_13.toInt.toNat := rfl; have := i32_0; have := i32_1; have := i32_2; have := i32_m1; have := congrArg Int32.toInt (show sgv_39 12 = sgv_36 12 from ksv_39 12 (by decide)); have := congrArg Int32.toInt (show sgv_36 12 = sgv_33 12 from ksv_36 12 (by decide)); have := congrArg Int32.toInt (show sgv_33 12 = sg_j13 12 from ksv_33 12 (by decide)); have := congrArg Int32.toInt (show sg_j13 12 = sg 12 from hks_j13 12 (by decide)); have := (show iv 0 80 (sg 12) from CI_s hI 12).1; have := (show iv 0 80 (sg 12) from CI_s hI 12).2; have := congrArg Int32.toInt (show sg_j13 12 = sg 12 from hks_j13 12 (by decide)); have := (hsx0_13).1; have := (hsx0_13).2; have := (h_8).1; have := (h_8).2; have := (h_9).1; have := (h_9).2; have := (hr_10).1; have := (hr_10).2; have := (hz_14).1; have := (hz_14).2; have := (h_21).1; have := (h_21).2; have := (h_25).1; have := (h_25).2; have := (h_29).1; have := (h_29).2; omega)) ⟨(show ¬ lg 4 x1_13.toNatClampNeg = 0 from (fun q9 => c_15 (by rw [ez_14]; exact (lg_cmp_eq _ _).mpr (by rw [ez_13, fr_r_10]; exact q9)))), ((show wg 34 x1_13.toNatClampNeg = z_18 from (by rw [← fr_r_10]; exact (swt9 hSW ez_18 rfl))).trans (Int32.toInt_inj.mp (by have := i32_0; have := i32_0; have := i32_1; have := i32_2; have := i32_m1; have := (hsx0_13).1; have := (hsx0_13).2; have := (h_8).1; have := (h_8).2; have := (h_9).1; have := (h_9).2; have := (hr_10).1; have := (hr_10).2; have := (hz_14).1; have := (hz_14).2; have := (h_21).1; have := (h_21).2; have := (h_25).1; have := (h_25).2; have := (h_29).1; have := (h_29).2; omega))), ((show wg 35 x1_13.toNatClampNeg = z_22 from (by rw [← fr_r_10]; exact (swt9 hSW ez_22 rfl))).trans (Int32.toInt_inj.mp (by have := i32_0; have := i32_0; have := i32_1; have := i32_2; have := i32_m1; have := (hsx0_13).1; have := (hsx0_13).2; have := (h_8).1; have := (h_8).2; have := (h_9).1; have := (h_9).2; have := (hr_10).1; have := (hr_10).2; have := (hz_14).1; have := (hz_14).2; have := (h_21).1; have := (h_21).2; have := (h_25).1; have := (h_25).2; have := (h_29).1; have := (h_29).2; omega))), ((show wg 36 x1_13.toNatClampNeg = z_26 from (by rw [← fr_r_10]; exact (swt9 hSW ez_26 rfl))).trans (Int32.toInt_inj.mp (by have := i32_0; have := i32_0; have := i32_1; have := i32_2; have := i32_m1; have := (hsx0_13).1; have := (hsx0_13).2; have := (h_8).1; have := (h_8).2; have := (h_9).1; have := (h_9).2; have := (hr_10).1; have := (hr_10).2; have := (hz_14).1; have := (hz_14).2; have := (h_21).1; have := (h_21).2; have := (h_25).1; have := (h_25).2; have := (h_29).1; have := (h_29).2; omega)))⟩ (by have q9 := hEx; rw [show z_30 = lg 4 x1_13.toNatClampNeg from (by rw [ez_30, fr_r_10]), (hSV.2 _ (show x1_13.toNatClampNeg < (ws 12).toNatClampNeg from (by have q1 := congrArg Int32.toInt (ss9_12 hSS); have q2 := congrArg Int32.toInt fr_r_2; have q3 : (ws 12).toNatClampNeg = (ws 12).toInt.toNat := rfl; have q4 : x1_13.toNatClampNeg = x1_13.toInt.toNat := rfl; have := i32_0; have := i32_1; have := i32_2; have := i32_m1; have := congrArg Int32.toInt (show sgv_39 12 = sgv_36 12 from ksv_39 12 (by decide)); have := congrArg Int32.toInt (show sgv_36 12 = sgv_33 12 from ksv_36 12 (by decide)); have := congrArg Int32.toInt (show sgv_33 12 = sg_j13 12 from ksv_33 12 (by decide)); have := congrArg Int32.toInt (show sg_j13 12 = sg 12 from hks_j13 12 (by decide)); have := (show iv 0 80 (sg 12) from CI_s hI 12).1; have := (show iv 0 80 (sg 12) from CI_s hI 12).2; have := congrArg Int32.toInt (show sg_j13 12 = sg 12 from hks_j13 12 (by decide)); have := (hsx0_13).1; have := (hsx0_13).2; have := (h_8).1; have := (h_8).2; have := (h_9).1; have := (h_9).2; have := (hr_10).1; have := (hr_10).2; have := (hz_14).1; have := (hz_14).2; have := (h_21).1; have := (h_21).2; have := (h_25).1; have := (h_25).2; have := (h_29).1; have := (h_29).2; omega))).2 (show ¬ lg 4 x1_13.toNatClampNeg = 0 from (fun q9 => c_15 (by rw [ez_14]; exact (lg_cmp_eq _ _).mpr (by rw [ez_13, fr_r_10]; exact q9))))] at q9; exact q9)), fR_r_37⟩)⟩, ⟨by rw [ht]; exact hP, va_K.moved hW.alike hK, hD⟩, hm_40, by rw [ht]; exact hN⟩, hS.F ht⟩) hS.2.2 dX5_renewsAll_92)))
                obtain ⟨r_31, rfl, sgv_41, gmv_41, lgv_41, rfl, hIv_41, ksv_41, kgv_41, klv_41, hr_31, fMO_r_31, fFN_r_31, fBM_r_31, fWF_r_31, f14_r_31, fr_r_31, fG_r_31⟩ := hw
                obtain rfl := KS_nil klv_41
                have hP : va_P (dC, dI) vwCl (cW ad cid a2 lx sgv_41 gmv_41 lg) H := hP
                have hD : va_D A (cW ad cid a2 lx sgv_41 gmv_41 lg) := hD
                refine W.eq (g2 := F0 m 72 ls [.int r_31]) rfl ?_
                obtain ⟨S_r_31, hE_r_31, hR_r_31⟩ := fG_r_31
                refine lv_pop hx hb dX5_renewsAll_72 rfl ?_
                refine W.widen (k := gc gm gmv_41 0) (n := gs gm gmv_41 0) (gc_e (show gmv_41 42 = gm_j13 42 from (kgv_41 42 (by decide))) (by decide)) (gs_e (show gmv_41 42 = gm_j13 42 from (kgv_41 42 (by decide))) (by decide)) ?_
                have hm_42 : PHs gm ≤ PHs gmv_41 := by rw [PHs_e (show gmv_41 42 = gm_j13 42 from (kgv_41 42 (by decide)))]; exact hm_j13
                exact hj73 sgv_41 gmv_41 r_10 hr_10 h_8 hsx0_13 (KS_tr (L := [13, 14, 15, 16, 17, 18]) (KS_tr (L := [13, 14, 15, 16, 17, 18]) KS_rf hks_j13 (by decide)) ksv_41 (by decide)) (KS_tr (L := [37, 38, 39, 48, 49, 50, 51, 52, 53]) (KS_tr (L := [37, 38, 39, 48, 49, 50, 51, 52, 53]) KS_rf hkg_j13 (by decide)) kgv_41 (by decide)) hIv_41 (fMO_r_31) (fFN_r_31) (⟨S_r_31, hR_r_31, rfL_y hIj (show x1_13.toNatClampNeg < (ws 12).toNatClampNeg from (by have q1 := congrArg Int32.toInt (ss9_12 hSS); have q2 := congrArg Int32.toInt fr_r_2; have q3 : (ws 12).toNatClampNeg = (ws 12).toInt.toNat := rfl; have q4 : x1_13.toNatClampNeg = x1_13.toInt.toNat := rfl; have := i32_0; have := i32_1; have := i32_2; have := i32_m1; have := congrArg Int32.toInt (show sgv_41 12 = sg_j13 12 from ksv_41 12 (by decide)); have := congrArg Int32.toInt (show sg_j13 12 = sg 12 from hks_j13 12 (by decide)); have := (show iv 0 80 (sg 12) from CI_s hI 12).1; have := (show iv 0 80 (sg 12) from CI_s hI 12).2; have := congrArg Int32.toInt (show sg_j13 12 = sg 12 from hks_j13 12 (by decide)); have := (hsx0_13).1; have := (hsx0_13).2; have := (h_8).1; have := (h_8).2; have := (h_9).1; have := (h_9).2; have := (hr_10).1; have := (hr_10).2; have := (hz_14).1; have := (hz_14).2; have := (h_21).1; have := (h_21).2; have := (h_25).1; have := (h_25).2; have := (h_29).1; have := (h_29).2; have := (hr_31).1; have := (hr_31).2; omega)) ⟨(show ¬ lg 4 x1_13.toNatClampNeg = 0 from (fun q9 => c_15 (by rw [ez_14]; exact (lg_cmp_eq _ _).mpr (by rw [ez_13, fr_r_10]; exact q9)))), ((show wg 34 x1_13.toNatClampNeg = z_18 from (by rw [← fr_r_10]; exact (swt9 hSW ez_18 rfl))).trans (Int32.toInt_inj.mp (by have := i32_0; have := i32_0; have := i32_1; have := i32_2; have := i32_m1; have := (hsx0_13).1; have := (hsx0_13).2; have := (h_8).1; have := (h_8).2; have := (h_9).1; have := (h_9).2; have := (hr_10).1; have := (hr_10).2; have := (hz_14).1; have := (hz_14).2; have := (h_21).1; have := (h_21).2; have := (h_25).1; have := (h_25).2; have := (h_29).1; have := (h_29).2; have := (hr_31).1; have := (hr_31).2; omega))), ((show wg 35 x1_13.toNatClampNeg = z_22 from (by rw [← fr_r_10]; exact (swt9 hSW ez_22 rfl))).trans (Int32.toInt_inj.mp (by have := i32_0; have := i32_0; have := i32_1; have := i32_2; have := i32_m1; have := (hsx0_13).1; have := (hsx0_13).2; have := (h_8).1; have := (h_8).2; have := (h_9).1; have := (h_9).2; have := (hr_10).1; have := (hr_10).2; have := (hz_14).1; have := (hz_14).2; have := (h_21).1; have := (h_21).2; have := (h_25).1; have := (h_25).2; have := (h_29).1; have := (h_29).2; have := (hr_31).1; have := (hr_31).2; omega))), ((show wg 36 x1_13.toNatClampNeg = z_26 from (by rw [← fr_r_10]; exact (swt9 hSW ez_26 rfl))).trans (Int32.toInt_inj.mp (by have := i32_0; have := i32_0; have := i32_1; have := i32_2; have := i32_m1; have := (hsx0_13).1; have := (hsx0_13).2; have := (h_8).1; have := (h_8).2; have := (h_9).1; have := (h_9).2; have := (hr_10).1; have := (hr_10).2; have := (hz_14).1; have := (hz_14).2; have := (h_21).1; have := (h_21).2; have := (h_25).1; have := (h_25).2; have := (h_29).1; have := (h_29).2; have := (hr_31).1; have := (hr_31).2; omega)))⟩ (by have q9 := hE_r_31; rw [show z_30 = lg 4 x1_13.toNatClampNeg from (by rw [ez_30, fr_r_10]), (hSV.2 _ (show x1_13.toNatClampNeg < (ws 12).toNatClampNeg from (by have q1 := congrArg Int32.toInt (ss9_12 hSS); have q2 := congrArg Int32.toInt fr_r_2; have q3 : (ws 12).toNatClampNeg = (ws 12).toInt.toNat := rfl; have q4 : x1_13.toNatClampNeg = x1_13.toInt.toNat := rfl; have := i32_0; have := i32_1; have := i32_2; have := i32_m1; have := congrArg Int32.toInt (show sgv_41 12 = sg_j13 12 from ksv_41 12 (by decide)); have := congrArg Int32.toInt (show sg_j13 12 = sg 12 from hks_j13 12 (by decide)); have := (show iv 0 80 (sg 12) from CI_s hI 12).1; have := (show iv 0 80 (sg 12) from CI_s hI 12).2; have := congrArg Int32.toInt (show sg_j13 12 = sg 12 from hks_j13 12 (by decide)); have := (hsx0_13).1; have := (hsx0_13).2; have := (h_8).1; have := (h_8).2; have := (h_9).1; have := (h_9).2; have := (hr_10).1; have := (hr_10).2; have := (hz_14).1; have := (hz_14).2; have := (h_21).1; have := (h_21).2; have := (h_25).1; have := (h_25).2; have := (h_29).1; have := (h_29).2; have := (hr_31).1; have := (hr_31).2; omega))).2 (show ¬ lg 4 x1_13.toNatClampNeg = 0 from (fun q9 => c_15 (by rw [ez_14]; exact (lg_cmp_eq _ _).mpr (by rw [ez_13, fr_r_10]; exact q9))))] at q9; exact q9)⟩) hm_42 _ _ _ hP hD hS (lv_sub hl [0, 1, 2] rfl)
  refine ec_aload_n hx hb dX5_renewsAll_0 rfl (lv_at hl 0 rfl) ?_
  refine cm_callTV (t := 6) (C := RX5) (T := TX5) (N := 13) (rest := []) (as := []) ⟨hx, hb, hml, hown, htb⟩ (d_forgetMade l dC dI ad cid a2 lx sg gm lg x hI hvx) (cwV 0 htb (gd_V kw_490 kw_491 kw_1 kw_159 kw_1405) rfl rfl rfl (by decide +kernel) ⟨Nat.le_of_ble_eq_true rfl, Nat.le_of_ble_eq_true rfl⟩) hvx (by decide) (by decide) rfl rfl hl.1 rfl (Nat.le_trans cs_n (by decide)) dX5_renewsAll_1 ⟨Nat.le_trans (gc_le hI) (Nat.le_of_ble_eq_true rfl), Nat.le_trans (gs_le hI) (Nat.le_of_ble_eq_true rfl)⟩ hK hP hD hS hA hG (fun E ce q9 u_44 H locs hw hP hD hS hce hcv hcl => ?_) (fun v9 u_44 H locs hw hP hD hS => ?_)
  · exact hw.elim
  obtain ⟨rfl, sgv_45, gmv_45, lgv_45, rfl, hIv_45, ksv_45, kgv_45, klv_45, fM_r_43, f15_r_43⟩ := hw
  obtain rfl := KS_nil klv_45
  have hP : va_P (dC, dI) vwCl (cW ad cid a2 lx sgv_45 gmv_45 lg) H := hP
  have hD : va_D A (cW ad cid a2 lx sgv_45 gmv_45 lg) := hD
  refine W.eq (g2 := F0 m 4 ls []) rfl ?_
  have hMO_r_43 : MOK sgv_45 gmv_45 lg := MOK_0 (fun c9 q9 => fM_r_43 c9 (by rw [← (show sgv_45 12 = sg 12 from (show sgv_45 12 = sg 12 from (ksv_45 12 (by decide))))]; exact q9))
  have hRf : RC wg lg (zFo S) sgv_45 gmv_45 := RC_fo hRC (KS_tr (L := [15]) KS_rf ksv_45 (by decide)) (KS_tr (L := [38]) KS_rf kgv_45 (by decide)) (fun c9 q9 => fM_r_43 c9 q9) f15_r_43
  refine ec_aload_n hx hb dX5_renewsAll_4 rfl (lv_at hl 0 rfl) ?_
  refine cr_get (t := 6) (j := 2) (C := RX5) (T := TX5) (N := 13) (v := eV (ad 5) 0) hx hb htb inX5 hown hK hP hvx (by decide) (by decide) (by decide) rfl (by decide) (htb _ kw_406) (cV_c rfl (by decide) (by rw [show cMu 6 2 = 0 from rfl, Nat.zero_mul]; rfl)) dX5_renewsAll_5 ?_
  refine cm_callTV (t := 5) (C := RX4) (T := TX4) (N := 2) (rest := []) (as := []) ⟨hx, hb, hml, hown, htb⟩ (d_clearEv9 l dC dI ad cid a2 lx sgv_45 gmv_45 lg 0 hIv_45 (iv_k (by decide) : iv 0 0 0)) (cwV 0 htb (gd_V kw_541 kw_542 kw_543 kw_158 kw_1422) rfl rfl rfl (by decide +kernel) ⟨Nat.le_of_ble_eq_true rfl, Nat.le_of_ble_eq_true rfl⟩) (iv_k (by decide) : iv 0 0 0) (by decide) (by decide) rfl rfl hl.1 rfl (Nat.le_trans cs_n (by decide)) dX5_renewsAll_8 ⟨Nat.le_trans (gc_le hI) (Nat.le_of_ble_eq_true rfl), Nat.le_trans (gs_le hI) (Nat.le_of_ble_eq_true rfl)⟩ hK hP hD hS hA hG (fun E ce q9 u_47 H locs hw hP hD hS hce hcv hcl => ?_) (fun v9 u_47 H locs hw hP hD hS => ?_)
  · exact hw.elim
  obtain ⟨rfl, sgv_48, gmv_48, lgv_48, rfl, hIv_48, ksv_48, kgv_48, klv_48, f13_r_46⟩ := hw
  obtain rfl := KS_nil kgv_48
  obtain rfl := KS_nil klv_48
  have hP : va_P (dC, dI) vwCl (cW ad cid a2 lx sgv_48 gmv_45 lg) H := hP
  have hD : va_D A (cW ad cid a2 lx sgv_48 gmv_45 lg) := hD
  refine W.eq (g2 := F0 m 11 ls []) rfl ?_
  have hRe : RC wg lg (zCe (zFo S)) sgv_48 gmv_45 := RC_ce hRf (KS_tr (L := [13]) KS_rf ksv_48 (by decide)) KS_rf f13_r_46
  refine lv_iconst (v := 0) hx hb dX5_renewsAll_11 (by decide) ?_
  refine lv_istore_n (i := 1) (lv' := [(1, .int 0), (0, eV (ad 6) x)]) hx hb dX5_renewsAll_12 rfl hl (by decide) (by simp [List.filter, eV_cat, cat_i, cat_l]) (fun ls hl => ?_)
  refine W.widen (k := gc gm gmv_45 0) (n := gs gm gmv_45 0) (gc_e (show gmv_45 42 = gm 42 from (kgv_45 42 (by decide))) (by decide)) (gs_e (show gmv_45 42 = gm 42 from (kgv_45 42 (by decide))) (by decide)) ?_
  have hm_49 : PHs gm ≤ PHs gmv_45 := by rw [PHs_e (show gmv_45 42 = gm 42 from (kgv_45 42 (by decide)))]; exact (Nat.le_refl _)
  exact hj13 _ sgv_48 gmv_45 0 rfl (iv_w (iv_k (by decide) : iv 0 0 0) (by decide)) hvx (KS_tr (L := [13, 14, 15, 16, 17, 18]) (KS_tr (L := [13, 14, 15, 16, 17, 18]) KS_rf ksv_45 (by decide)) ksv_48 (by decide)) (KS_tr (L := [37, 38, 39, 48, 49, 50, 51, 52, 53]) KS_rf kgv_45 (by decide)) hIv_48 ((MOK_e hMO_r_43 (show sgv_48 12 = sgv_45 12 from (ksv_48 12 (by decide))) rfl rfl rfl rfl)) ((FND9_e (FND9_0 f15_r_43) (show sgv_48 15 = sgv_45 15 from (ksv_48 15 (by decide))) rfl)) (⟨_, hRe, rfl⟩) hm_49 _ _ _ hP hD hS (lv_sub hl [0, 1] rfl)
end
section
theorem wzG_u (v a : Int64) (s : Int32) (f : Nat) : wzG v (f + 1) s a = if s.toInt < 0 then a else wzG v f (s + (-8)) (if by9 v s = 0 then a else (a <<< ((8 : Int32).toInt64 &&& 63)) ||| by9 v s) := by rw [wzG]
theorem wzG_e {v a : Int64} {s : Int32} {f : Nat} (h : s.toInt < 0) : wzG v f s a = a := by
  cases f with
  | zero => rw [wzG]
  | succ f => rw [wzG_u, if_pos h]
theorem wzG_0 {v a R : Int64} {s s2 : Int32} (hR : R = wzG v ((s.toInt + 8) / 8).toNat s a) (h : 0 ≤ s.toInt) (h2 : s2 = s + (-8)) (t2 : s2.toInt = s.toInt - 8) (hz : by9 v s = 0) : R = wzG v ((s2.toInt + 8) / 8).toNat s2 a := by
  rw [show ((s.toInt + 8) / 8).toNat = ((s2.toInt + 8) / 8).toNat + 1 by omega, wzG_u, if_neg (by omega), if_pos hz, ← h2] at hR
  exact hR
theorem wzG_1 {v a a2 R : Int64} {s s2 : Int32} (hR : R = wzG v ((s.toInt + 8) / 8).toNat s a) (h : 0 ≤ s.toInt) (h2 : s2 = s + (-8)) (t2 : s2.toInt = s.toInt - 8) (hz : ¬ by9 v s = 0) (ha : a2 = (a <<< ((8 : Int32).toInt64 &&& 63)) ||| by9 v s) : R = wzG v ((s2.toInt + 8) / 8).toNat s2 a2 := by
  rw [show ((s.toInt + 8) / 8).toNat = ((s2.toInt + 8) / 8).toNat + 1 by omega, wzG_u, if_neg (by omega), if_neg hz, ← h2, ← ha] at hR
  exact hR
theorem lkL_st {wg : Nat → Nat → Int32} {R nm : Int} {l : List Nat} {i e : Nat} (hR : R = lkL wg nm (l.drop i)) (he : l[i]? = some e) (hn : ¬ (wg 22 e).toInt = nm) : R = lkL wg nm (l.drop (i + 1)) := by
  rw [dro9 he] at hR
  rw [hR]; show (if _ then _ else _) = _; rw [if_neg hn]
theorem lkL_h {wg : Nat → Nat → Int32} {R nm : Int} {l : List Nat} {i e : Nat} (hR : R = lkL wg nm (l.drop i)) (he : l[i]? = some e) (hn : (wg 22 e).toInt = nm) : R = (e : Int) := by
  rw [dro9 he] at hR
  rw [hR]; show (if _ then _ else _) = _; rw [if_pos hn]
theorem lkL_e {wg : Nat → Nat → Int32} {R nm : Int} {l : List Nat} {i : Nat} (hR : R = lkL wg nm (l.drop i)) (h : l.length ≤ i) : R = -1 := by
  rw [List.drop_eq_nil_of_le h] at hR; exact hR
section PB9
variable {wg : Nat → Nat → Int32} {lg : Nat → Nat → Int64} {S : S9} {sg : Nat → Int32} {gm : Nat → Nat → Int32} {k : Int32}
theorem RC_o? (h : RC wg lg S sg gm) (h0 : 0 ≤ k.toInt) (hl : k.toInt < (sg 14).toInt) : (zO S)[k.toInt.toNat]? = some ((gm 49 k.toNatClampNeg).toInt, (gm 50 k.toNatClampNeg).toInt) := by
  have h1 := h.1.1
  have hk : k.toInt.toNat < (zO S).length := by omega
  rw [List.getElem?_eq_getElem hk]
  have h2 := h.1.2 k.toInt.toNat _ (List.getElem?_eq_getElem hk)
  have : (zO S)[k.toInt.toNat] = ((gm 49 k.toInt.toNat).toInt, (gm 50 k.toInt.toNat).toInt) := by rw [h2.1, h2.2]
  rw [this]; rfl
theorem RC_on (h : RC wg lg S sg gm) (hl : ¬ (0 ≤ k.toInt ∧ k.toInt < (sg 14).toInt)) : k.toInt < 0 ∨ (zO S)[k.toInt.toNat]? = none := by
  have h1 := h.1.1
  by_cases h0 : k.toInt < 0
  · exact Or.inl h0
  · exact Or.inr (List.getElem?_eq_none (by omega))
theorem zOb_n {w : Int} (h : RC wg lg S sg gm) (hl : ¬ (0 ≤ k.toInt ∧ k.toInt < (sg 14).toInt)) : zOb k.toInt w S = -1 := by
  unfold zOb
  rcases RC_on h hl with q | q
  · rw [if_pos q]
  · split
    · rfl
    · rw [q]
theorem zOb_y {w : Int} (h : RC wg lg S sg gm) (h0 : 0 ≤ k.toInt) (hl : k.toInt < (sg 14).toInt) : zOb k.toInt w S = if w = 0 then (gm 49 k.toNatClampNeg).toInt else if w = 1 then (gm 50 k.toNatClampNeg).toInt else -1 := by
  unfold zOb; rw [if_neg (by omega), RC_o? h h0 hl]
theorem zOb_w {w : Int} (hw : ¬ w = 0) (hw1 : ¬ w = 1) : zOb k.toInt w S = -1 := by
  unfold zOb; split
  · rfl
  · split
    · rfl
    · first
      | rfl
      | rw [if_neg hw, if_neg hw1]
theorem zLk_n {nm : Int} (h : RC wg lg S sg gm) (hl : ¬ (0 ≤ k.toInt ∧ k.toInt < (sg 14).toInt)) : zLk wg k.toInt nm S = -1 := by
  unfold zLk
  rcases RC_on h hl with q | q
  · rw [if_pos q]
  · split
    · rfl
    · rw [q]
theorem zLk_y {nm : Int} (h : RC wg lg S sg gm) (h0 : 0 ≤ k.toInt) (hl : k.toInt < (sg 14).toInt) : zLk wg k.toInt nm S = lkL wg nm (liL wg (3 * (gm 50 k.toNatClampNeg).toNatClampNeg + 2)) := by
  unfold zLk; rw [if_neg (by omega), RC_o? h h0 hl]; rfl
theorem zEv_n {w : Int} (h : RC wg lg S sg gm) (hl : ¬ (0 ≤ k.toInt ∧ k.toInt < (sg 13).toInt ∧ 0 ≤ w ∧ w < 4)) : zEv k.toInt w S = -1 := by
  unfold zEv
  have h1 := h.2.1.1
  split
  · rfl
  · rename_i hk
    cases q : (zE S)[k.toInt.toNat]? with
    | none => rfl
    | some e =>
      have := gl9 q
      show (if w = 0 then e.1 else if w = 1 then e.2.1 else if w = 2 then e.2.2.1 else if w = 3 then e.2.2.2 else -1) = -1
      rw [if_neg (by omega), if_neg (by omega), if_neg (by omega), if_neg (by omega)]
theorem zEv_y {w x : Int32} {i : Nat} (h : RC wg lg S sg gm) (h0 : 0 ≤ k.toInt) (hl : k.toInt < (sg 13).toInt) (w0 : 0 ≤ w.toInt) (w4 : w.toInt < 4) (hx : x = gm 48 i) (hi : (i : Int) = 4 * k.toInt + w.toInt) : x.toInt = zEv k.toInt w.toInt S := by
  have h1 := h.2.1.1
  have hk : k.toInt.toNat < (zE S).length := by omega
  have h2 := h.2.1.2 k.toInt.toNat _ (List.getElem?_eq_getElem hk)
  unfold zEv
  rw [if_neg (by omega), List.getElem?_eq_getElem hk]
  show x.toInt = (if w.toInt = 0 then _ else if w.toInt = 1 then _ else if w.toInt = 2 then _ else if w.toInt = 3 then _ else -1)
  rw [hx]
  by_cases e0 : w.toInt = 0
  · rw [if_pos e0, ← h2.1, show i = 4 * k.toInt.toNat by omega]
  · by_cases e1 : w.toInt = 1
    · rw [if_neg e0, if_pos e1, ← h2.2.1, show i = 4 * k.toInt.toNat + 1 by omega]
    · by_cases e2 : w.toInt = 2
      · rw [if_neg e0, if_neg e1, if_pos e2, ← h2.2.2.1, show i = 4 * k.toInt.toNat + 2 by omega]
      · rw [if_neg e0, if_neg e1, if_neg e2, if_pos (by omega), ← h2.2.2.2, show i = 4 * k.toInt.toNat + 3 by omega]
end PB9
end
section
set_option maxHeartbeats 4000000 in
set_option maxRecDepth 100000 in
theorem d_withoutZeros9 (l : Launch) (dC : Nat → ClassId) (dI : Nat → Nat → Nat) (ad : Nat → Nat → Nat) (cid : Nat → ClassId) (a2 : Nat → Nat) (lx : List Nat) (sg : Nat → Int32) (gm : Nat → Nat → Int32) (lg : Nat → Nat → Int64) (nm : Int64) (hI : CI sg gm) : CMt dC dI ad cid a2 lx l yX12_withoutZeros wm_X12_withoutZeros ({ frames := 0, cells := 1, slots := 6, locals := 0 }) [.long nm] sg gm lg (fun v u => ∃ r : Int64, v = some (.long r) ∧ u = (sg, gm, lg) ∧ (r = wz9 nm)) (fun _ _ => False) := by
  intro sz
  refine vx_ofW (cc := cX12_withoutZeros) (maxL := 7) (ret := (some .long)) (by decide) rfl ?_
  intro p e s m args below meth c s₁ B hml hxt hv
  obtain ⟨rfl, hsz, hP, hK, hD0, hG⟩ := hv
  have hx := B.exec
  have hb := B.bytes
  have hr := B.returns
  have hts := atoms_spec (ws := wm_X12_withoutZeros) B.pre
  have htb := fun (w : Cond) (h : w ∈ tb) => hts w (List.mem_cons_of_mem _ h)
  have hown : s.vm.findClass RX12 = some m.cls := findClass_of_methodNamed B.named
  have hlocks := B.notSynchronized
  subst hsz
  have hD := hD0.self (sz := s.heap.size)
  generalize hAe : va_A (cW ad cid a2 lx sg gm lg) s.heap.size = A at hD hG ⊢
  have hA : ∀ q : Nat, s.heap.size ≤ q → A q := fun q h => by rw [← hAe]; exact Or.inr h
  have hS : va_S A s.heap s.heap [] := va_S.rf
  have hl := lv_entry ([.long nm]) (n := 7) (Nat.le_of_ble_eq_true rfl)
  rw [lg_entry_eq]
  generalize (lg_sl ([.long nm]) ++ List.replicate (7 - (lg_sl ([.long nm])).length) Slot.unset).toArray = ls at hl ⊢
  have hl : lv_has ls 7 [(0, .long nm)] := hl
  have hj6 : ∀ (n : Nat) (x4_6 : Int32) (x2_6 : Int64) (_ : (x4_6.toInt + 8).toNat = n) (_ : iv (-8) 56 x4_6) (_ : wz9 nm = wzG nm ((x4_6.toInt + 8) / 8).toNat x4_6 x2_6) (H : Heap) (locs : List Loc) (ls : Array Slot), va_P (dC, dI) vwCl (cW ad cid a2 lx sg gm lg) H → va_D A (cW ad cid a2 lx sg gm lg) → va_S A s.heap H locs → lv_has ls 7 [(4, .int x4_6), (2, .long x2_6), (0, .long nm)] → W p l e (headSpec wm_X12_withoutZeros ({ frames := 0, cells := 1, slots := 6, locals := 0 })).room s m ([.long nm] : List Value).toArray below meth c H locs 0 0 (vx_MQ below (cQx dC dI ad cid a2 lx (fun v u => ∃ r : Int64, v = some (.long r) ∧ u = (sg, gm, lg) ∧ (r = wz9 nm)) A) (cX dC dI ad cid a2 lx (fun _ _ => False) A) ([.long nm] : List Value).toArray s 1 6 A) (F0 m 6 ls []) := by
    intro n
    induction n using Nat.strongRecOn with
    | ind n ih6 =>
      intro x4_6 x2_6 hn6 hx4_6 hwz H locs ls hP hD hS hl
      have hj36 : ∀ (x5_36 : Int64) (x2_36 : Int64) (_ : iv 0 56 x4_6) (_ : (x2_36 = x2_6 ∧ by9 nm x4_6 = 0) ∨ (¬ by9 nm x4_6 = 0 ∧ x2_36 = (x2_6 <<< ((8 : Int32).toInt64 &&& 63)) ||| by9 nm x4_6)) (H : Heap) (locs : List Loc) (ls : Array Slot), va_P (dC, dI) vwCl (cW ad cid a2 lx sg gm lg) H → va_D A (cW ad cid a2 lx sg gm lg) → va_S A s.heap H locs → lv_has ls 7 [(5, .long x5_36), (4, .int x4_6), (2, .long x2_36), (0, .long nm)] → W p l e (headSpec wm_X12_withoutZeros ({ frames := 0, cells := 1, slots := 6, locals := 0 })).room s m ([.long nm] : List Value).toArray below meth c H locs 0 0 (vx_MQ below (cQx dC dI ad cid a2 lx (fun v u => ∃ r : Int64, v = some (.long r) ∧ u = (sg, gm, lg) ∧ (r = wz9 nm)) A) (cX dC dI ad cid a2 lx (fun _ _ => False) A) ([.long nm] : List Value).toArray s 1 6 A) (F0 m 36 ls []) := by
        intro x5_36 x2_36 hsx4_36 u36 H locs ls hP hD hS hl
        obtain ⟨z_1, ez_1⟩ : ∃ z : Int32, z = x4_6 + (-8) := ⟨_, rfl⟩
        have hz_1 : iv (-8) 48 z_1 := iv_of ez_1 (iv_add hsx4_36 (iv_k (by decide) : iv (-8) (-8) (-8)) (by decide))
        have tz_1 : z_1.toInt = x4_6.toInt - 8 := by rw [ez_1]; exact iv_addE hsx4_36 (iv_k (by decide) : iv (-8) (-8) (-8)) (by decide)
        refine lv_iinc (v := z_1) (lv' := [(4, .int z_1), (5, .long x5_36), (2, .long x2_36), (0, .long nm)]) hx hb dX12_withoutZeros_36 hl (k := 1) rfl ez_1.symm (by decide) rfl (fun ls hl => ?_)
        refine lv_goto (tgt := 6) hx hb dX12_withoutZeros_39 (by decide) ?_
        exact ih6 _ (by rw [← hn6]; exact (by have := i32_0; have := i32_1; have := i32_2; have := i32_m1; have := (hsx4_36).1; have := (hsx4_36).2; have := (hz_1).1; have := (hz_1).2; omega)) z_1 x2_36 rfl (iv_w hz_1 (by decide)) ((by rcases u36 with ⟨q1, q2⟩ | ⟨q1, q2⟩; (rw [q1]; exact wzG_0 hwz (hsx4_36).1 ez_1 tz_1 q2); (exact wzG_1 hwz (hsx4_36).1 ez_1 tz_1 q1 q2))) _ _ _ hP hD hS (lv_sub hl [0, 2, 3] rfl)
      refine lv_iload hx hb dX12_withoutZeros_6 (lv_at hl 0 rfl) ?_
      refine lv_if_lt (tgt := 42) hx hb dX12_withoutZeros_8 (by decide) (fun c_2 => ?_) (fun c_2 => ?_)
      · have h_3 : iv (-8) (-1) x4_6 := iv_ltL c_2 hx4_6 (iv_k (by decide) : iv 0 0 0) (by decide)
        refine lv_lload_n hx hb dX12_withoutZeros_42 rfl (lv_at hl 1 rfl) ?_
        exact W.nb (fun hN => W.widen (k := 1) (n := 6) (by decide) (by decide) (vx_ret (W.lret (v := x2_6) hx hb hr (fun t ht hW => ⟨⟨some (.long x2_6), (sg, gm, lg), rfl, ⟨x2_6, rfl, rfl, ((by rw [hwz, wzG_e (by have := i32_0; have := i32_1; have := i32_2; have := i32_m1; have := (h_3).1; have := (h_3).2; omega)]))⟩, by rw [ht]; exact hP, va_K.moved hW.alike hK, hD⟩, hS.F ht, by rw [ht]; exact hN⟩) hS.2.2 dX12_withoutZeros_43)))
      · have h_4 : iv 0 56 x4_6 := iv_leR (i32_ge c_2) (iv_k (by decide) : iv 0 0 0) hx4_6 (by decide)
        refine lv_lload_n hx hb dX12_withoutZeros_11 rfl (lv_at hl 2 rfl) ?_
        refine lv_iload hx hb dX12_withoutZeros_12 (lv_at hl 0 rfl) ?_
        refine lv_lushr (v := (nm.toUInt64 >>> ((x4_6 : Int32).toInt64.toUInt64 &&& Int64.toUInt64 63)).toInt64) hx hb dX12_withoutZeros_14 rfl ?_
        refine lv_topl (fun z_5 ez_5 => ?_)
        refine lv_ldc2 (own := RX12) (v := 255) hx hb hown (htb _ kw_979) dX12_withoutZeros_15 ?_
        refine lv_land hx hb dX12_withoutZeros_18 ?_
        refine lv_topl (fun z_6 ez_6 => ?_)
        refine lv_lstore (i := 5) (lv' := [(5, .long z_6), (4, .int x4_6), (2, .long x2_6), (0, .long nm)]) hx hb dX12_withoutZeros_19 hl (by decide) rfl (fun ls hl => ?_)
        refine lv_lload hx hb dX12_withoutZeros_21 (lv_at hl 0 rfl) ?_
        refine lv_lconst (v := 0) hx hb dX12_withoutZeros_23 (by decide) ?_
        refine W.lcmp hx hb dX12_withoutZeros_24 ?_
        refine lv_topi (fun z_7 ez_7 => ?_)
        have hz_7 : iv (-1) 1 z_7 := iv_of ez_7 (iv_cmp _ _)
        refine lv_if_eq (tgt := 36) hx hb dX12_withoutZeros_25 (by decide) (fun c_8 => ?_) (fun c_8 => ?_)
        · have h_9 : iv 0 0 z_7 := iv_eq c_8 hz_7 (iv_k (by decide) : iv 0 0 0) (by decide)
          exact hj36 z_6 x2_6 h_4 (Or.inl ⟨rfl, ((show by9 nm x4_6 = z_6 from (by rw [ez_6, ez_5]; rfl)).trans ((lg_cmp_eq _ _).mp (by rw [← ez_7]; exact c_8)))⟩) _ _ _ hP hD hS (lv_sub hl [0, 1, 2, 3] rfl)
        · have d_10 : ¬ (z_7 : Int32).toInt = 0 := lv_neT c_8 rfl
          refine lv_lload_n hx hb dX12_withoutZeros_28 rfl (lv_at hl 2 rfl) ?_
          refine lv_bipush (v := 8) hx hb dX12_withoutZeros_29 (by decide) ?_
          refine lv_lshl (v := x2_6 <<< ((8 : Int32).toInt64 &&& 63)) hx hb dX12_withoutZeros_31 rfl ?_
          refine lv_topl (fun z_11 ez_11 => ?_)
          refine lv_lload hx hb dX12_withoutZeros_32 (lv_at hl 0 rfl) ?_
          refine lv_lor hx hb dX12_withoutZeros_34 ?_
          refine lv_topl (fun z_12 ez_12 => ?_)
          refine lv_lstore_n (i := 2) (lv' := [(2, .long z_12), (5, .long z_6), (4, .int x4_6), (0, .long nm)]) hx hb dX12_withoutZeros_35 rfl hl (by decide) rfl (fun ls hl => ?_)
          exact hj36 z_6 z_12 h_4 (Or.inr ⟨(fun q9 => c_8 (by rw [ez_7]; exact (lg_cmp_eq _ _).mpr ((show by9 nm x4_6 = z_6 from (by rw [ez_6, ez_5]; rfl)).symm.trans q9))), (by rw [(show by9 nm x4_6 = z_6 from (by rw [ez_6, ez_5]; rfl)), ez_12, ez_11])⟩) _ _ _ hP hD hS (lv_sub hl [1, 2, 0, 3] rfl)
  refine lv_lconst (v := 0) hx hb dX12_withoutZeros_0 (by decide) ?_
  refine lv_lstore_n (i := 2) (lv' := [(2, .long 0), (0, .long nm)]) hx hb dX12_withoutZeros_1 rfl hl (by decide) rfl (fun ls hl => ?_)
  refine lv_bipush (v := 56) hx hb dX12_withoutZeros_2 (by decide) ?_
  refine lv_istore (i := 4) (lv' := [(4, .int 56), (2, .long 0), (0, .long nm)]) hx hb dX12_withoutZeros_4 hl (by decide) rfl (fun ls hl => ?_)
  exact hj6 _ 56 0 rfl (iv_w (iv_k (by decide) : iv 56 56 56) (by decide)) ((by unfold wz9; rfl)) _ _ _ hP hD hS (lv_sub hl [0, 1, 2] rfl)

set_option maxHeartbeats 4000000 in
set_option maxRecDepth 100000 in
theorem d_lookupNamed9 (l : Launch) (dC : Nat → ClassId) (dI : Nat → Nat → Nat) (ad : Nat → Nat → Nat) (cid : Nat → ClassId) (a2 : Nat → Nat) (lx : List Nat) (sg : Nat → Int32) (gm : Nat → Nat → Int32) (lg : Nat → Nat → Int64) (b : Int32) (nm : Int32) (wg : Nat → Nat → Int32) (hI : CI sg gm) (hvb : iv 0 79 b) (hLD : LDI lx gm) (hSW : st9 gm = wg) : CMt dC dI ad cid a2 lx l yX1_lookupNamed wm_X1_lookupNamed ({ frames := 3, cells := 1, slots := 6, locals := 64 }) [eV (ad 10) b, .int nm] sg gm lg (fun v u => ∃ r : Int32, v = some (eV (ad 9) r) ∧ u = (sg, gm, lg) ∧ (iv (-1) 79 r) ∧ (r.toInt = lkL wg nm.toInt (liL wg (3 * b.toNatClampNeg + 2)))) (fun _ _ => False) := by
  intro sz
  refine vx_ofW (cc := cX1_lookupNamed) (maxL := 3) (ret := (some (.object "WiredBeans$Element"))) (by decide) rfl ?_
  intro p e s m args below meth c s₁ B hml hxt hv
  obtain ⟨rfl, hsz, hP, hK, hD0, hG⟩ := hv
  have hx := B.exec
  have hb := B.bytes
  have hr := B.returns
  have hts := atoms_spec (ws := wm_X1_lookupNamed) B.pre
  have htb := fun (w : Cond) (h : w ∈ tb) => hts w (List.mem_cons_of_mem _ h)
  have hown : s.vm.findClass RX1 = some m.cls := findClass_of_methodNamed B.named
  have hlocks := B.notSynchronized
  subst hsz
  have hD := hD0.self (sz := s.heap.size)
  generalize hAe : va_A (cW ad cid a2 lx sg gm lg) s.heap.size = A at hD hG ⊢
  have hA : ∀ q : Nat, s.heap.size ≤ q → A q := fun q h => by rw [← hAe]; exact Or.inr h
  have hS : va_S A s.heap s.heap [] := va_S.rf
  have hl := lv_entry ([eV (ad 10) b, .int nm]) (n := 3) (by rw [show (lg_sl ([eV (ad 10) b, .int nm])).length = 2 from by simp [lg_sl, eV_cat, cat_i, cat_l]]; exact Nat.le_of_ble_eq_true rfl)
  rw [lg_entry_eq]
  generalize (lg_sl ([eV (ad 10) b, .int nm]) ++ List.replicate (3 - (lg_sl ([eV (ad 10) b, .int nm])).length) Slot.unset).toArray = ls at hl ⊢
  have hl : lv_has ls 3 [(0, eV (ad 10) b), (1, .int nm)] := by simp [lv_args, eV_cat, cat_i, cat_l] at hl; exact hl
  have hj2 : ∀ (n : Nat) (x2_2 : Int32) (_ : (80 - x2_2.toInt).toNat = n) (_ : iv 0 80 x2_2) (_ : iv 0 79 b) (_ : lkL wg nm.toInt (liL wg (3 * b.toNatClampNeg + 2)) = lkL wg nm.toInt ((liL wg (3 * b.toNatClampNeg + 2)).drop x2_2.toNatClampNeg)) (H : Heap) (locs : List Loc) (ls : Array Slot), va_P (dC, dI) vwCl (cW ad cid a2 lx sg gm lg) H → va_D A (cW ad cid a2 lx sg gm lg) → va_S A s.heap H locs → lv_has ls 3 [(2, .int x2_2), (0, eV (ad 10) b), (1, .int nm)] → W p l e (headSpec wm_X1_lookupNamed ({ frames := 3, cells := 1, slots := 6, locals := 64 })).room s m ([eV (ad 10) b, .int nm] : List Value).toArray below meth c H locs 0 0 (vx_MQ below (cQx dC dI ad cid a2 lx (fun v u => ∃ r : Int32, v = some (eV (ad 9) r) ∧ u = (sg, gm, lg) ∧ (iv (-1) 79 r) ∧ (r.toInt = lkL wg nm.toInt (liL wg (3 * b.toNatClampNeg + 2)))) A) (cX dC dI ad cid a2 lx (fun _ _ => False) A) ([eV (ad 10) b, .int nm] : List Value).toArray s 1 6 A) (F0 m 2 ls []) := by
    intro n
    induction n using Nat.strongRecOn with
    | ind n ih2 =>
      intro x2_2 hn2 hx2_2 hsx0_2 hlk H locs ls hP hD hS hl
      refine lv_iload_n hx hb dX1_lookupNamed_2 rfl (lv_at hl 0 rfl) ?_
      refine ec_aload_n hx hb dX1_lookupNamed_3 rfl (lv_at hl 1 rfl) ?_
      obtain ⟨q_1, hq_1, nq_1, tq_1⟩ := ix_mk (3 * b.toNatClampNeg + 2) 239 (by have q1 := iv_cl hsx0_2 (by decide); have q2 := (hsx0_2).2; omega) (by decide)
      refine cr_get (t := 10) (j := 3) (C := RX1) (T := TX1) (N := 19) (v := eV (ad 11) q_1) hx hb htb inX1 hown hK hP hsx0_2 (by decide) (by decide) (by decide) rfl (by decide) (htb _ kw_355) (cV_c rfl hq_1.1 nq_1) dX1_lookupNamed_4 ?_
      refine cm_callV (t := 11) (C := RJx4a65c) (T := TJx4a65c) (N := 3) (rest := [.int x2_2]) (as := []) ⟨hx, hb, hml, hown, htb⟩ (d_lsize l dC dI ad cid a2 lx sg gm lg q_1 hI hq_1) (cwV 0 htb (gd_V kw_529 kw_530 kw_531 kw_157 kw_1418) rfl rfl rfl (by decide +kernel) ⟨Nat.le_of_ble_eq_true rfl, Nat.le_of_ble_eq_true rfl⟩) hq_1 (by decide) (by decide) rfl rfl hl.1 rfl (Nat.le_trans (cs_c (cat_i _) cs_n) (by decide)) dX1_lookupNamed_7 ⟨Nat.le_of_ble_eq_true rfl, Nat.le_of_ble_eq_true rfl⟩ hK hP hD hS hA hG (fun E ce q9 u_3 H locs hw hP hD hS hce hcv hcl => ?_) (fun v9 u_3 H locs hw hP hD hS => ?_)
      · exact hw.elim
      obtain ⟨r_2, rfl, rfl, hr_2, fr_r_2⟩ := hw
      have hP : va_P (dC, dI) vwCl (cW ad cid a2 lx sg gm lg) H := hP
      have hD : va_D A (cW ad cid a2 lx sg gm lg) := hD
      refine W.eq (g2 := F0 m 10 ls [.int r_2, .int x2_2]) rfl ?_
      refine lv_icmp_ge (tgt := 49) hx hb dX1_lookupNamed_10 (by decide) (fun c_5 => ?_) (fun c_5 => ?_)
      · have d_6 : (r_2 : Int32).toInt ≤ (x2_2 : Int32).toInt := Int32.le_iff_toInt_le.mp c_5
        refine ec_null (a := ad 9) hx hb dX1_lookupNamed_49 ?_
        exact W.nb (fun hN => W.widen (k := 1) (n := 6) (by decide) (by decide) (vx_ret (W.aret (v := eV (ad 9) (-1)) hx hb hr (Or.inl ⟨_, rfl⟩) (eV_is _ _) (fun t ht hW => ⟨⟨some (eV (ad 9) (-1)), (sg, gm, lg), rfl, ⟨(-1), rfl, rfl, (iv_w (iv_k (by decide) : iv (-1) (-1) (-1)) (by decide)), ((by have q9 := lkL_e hlk (by rw [liL_l, sw9 hSW 41 rfl]; have q1 := congrArg Int32.toInt fr_r_2; rw [show q_1.toNatClampNeg = 3 * b.toNatClampNeg + 2 from nq_1] at q1; have q5 : (gm 41 (3 * b.toNatClampNeg + 2)).toNatClampNeg = (gm 41 (3 * b.toNatClampNeg + 2)).toInt.toNat := rfl; have q1 : x2_2.toNatClampNeg = x2_2.toInt.toNat := rfl; have := i32_0; have := i32_1; have := i32_2; have := i32_m1; have := (hsx0_2).1; have := (hsx0_2).2; have := (hx2_2).1; have := (hx2_2).2; have := (hq_1).1; have := (hq_1).2; have := (hr_2).1; have := (hr_2).2; omega); rw [q9]; rfl))⟩, by rw [ht]; exact hP, va_K.moved hW.alike hK, hD⟩, hS.F ht, by rw [ht]; exact hN⟩) hS.2.2 dX1_lookupNamed_50)))
      · have d_7 : (x2_2 : Int32).toInt < (r_2 : Int32).toInt := Int32.lt_iff_toInt_lt.mp (i32_lt c_5)
        have h_8 : iv 0 79 x2_2 := iv_ltL (i32_lt c_5) hx2_2 hr_2 (by decide)
        have h_9 : iv 1 80 r_2 := iv_ltR (i32_lt c_5) hx2_2 hr_2 (by decide)
        refine ec_aload_n hx hb dX1_lookupNamed_13 rfl (lv_at hl 1 rfl) ?_
        refine cr_get (t := 10) (j := 3) (C := RX1) (T := TX1) (N := 19) (v := eV (ad 11) q_1) hx hb htb inX1 hown hK hP hsx0_2 (by decide) (by decide) (by decide) rfl (by decide) (htb _ kw_355) (cV_c rfl hq_1.1 nq_1) dX1_lookupNamed_14 ?_
        refine lv_iload_n hx hb dX1_lookupNamed_17 rfl (lv_at hl 0 rfl) ?_
        refine cm_callV (t := 11) (C := RJx4a65c) (T := TJx4a65c) (N := 3) (rest := []) (as := [.int x2_2]) ⟨hx, hb, hml, hown, htb⟩ (d_lget l dC dI ad cid a2 lx sg gm lg q_1 x2_2 hI hq_1 hLD (by have := i32_0; have := i32_1; have := i32_2; have := i32_m1; have := (hsx0_2).1; have := (hsx0_2).2; have := (h_8).1; have := (h_8).2; have := (hq_1).1; have := (hq_1).2; have := (h_9).1; have := (h_9).2; omega) (by rw [← fr_r_2]; have := i32_0; have := i32_1; have := i32_2; have := i32_m1; have := (hsx0_2).1; have := (hsx0_2).2; have := (h_8).1; have := (h_8).2; have := (hq_1).1; have := (hq_1).2; have := (h_9).1; have := (h_9).2; omega)) (cwV 1 htb (gd_V kw_858 kw_859 kw_860 kw_157 kw_1518) rfl rfl rfl (by decide +kernel) ⟨Nat.le_of_ble_eq_true rfl, Nat.le_of_ble_eq_true rfl⟩) hq_1 (by decide) (by decide) rfl rfl hl.1 rfl (Nat.le_trans cs_n (by decide)) dX1_lookupNamed_18 ⟨Nat.le_of_ble_eq_true rfl, Nat.le_of_ble_eq_true rfl⟩ hK hP hD hS hA hG (fun E ce q9 u_11 H locs hw hP hD hS hce hcv hcl => ?_) (fun v9 u_11 H locs hw hP hD hS => ?_)
        · exact hw.elim
        obtain ⟨r_10, rfl, rfl, hr_10, fr_r_10⟩ := hw
        have hP : va_P (dC, dI) vwCl (cW ad cid a2 lx sg gm lg) H := hP
        have hD : va_D A (cW ad cid a2 lx sg gm lg) := hD
        refine W.eq (g2 := F0 m 21 ls [eV (ad 9) r_10]) rfl ?_
        refine cl_cast hx hb hG hown (htb _ kw_867) hK hP hr_10 (by decide) dX1_lookupNamed_21 ?_
        refine cr_get (t := 9) (j := 15) (C := RX3) (T := TX3) (N := 21) (v := .int (gm 22 r_10.toNatClampNeg)) hx hb htb inX3 hown hK hP hr_10 (by decide) (by decide) (by decide) rfl (by decide) (htb _ kw_279) rfl dX1_lookupNamed_24 ?_
        obtain ⟨z_13, ez_13⟩ : ∃ z : Int32, z = (gm 22 r_10.toNatClampNeg) := ⟨_, rfl⟩
        refine W.eq (g2 := F0 m 27 ls [.int z_13]) (by rw [ez_13]) ?_
        have hz_13 : iv (-1) 25 z_13 := iv_of ez_13 (CI_a hI 22 hr_10 (by decide))
        refine lv_iload_n hx hb dX1_lookupNamed_27 rfl (lv_at hl 2 rfl) ?_
        refine lv_icmp_ne (tgt := 43) hx hb dX1_lookupNamed_28 (by decide) (fun c_14 => ?_) (fun c_14 => ?_)
        · obtain ⟨z_15, ez_15⟩ : ∃ z : Int32, z = x2_2 + 1 := ⟨_, rfl⟩
          have hz_15 : iv 1 80 z_15 := iv_of ez_15 (iv_add h_8 (iv_k (by decide) : iv 1 1 1) (by decide))
          have tz_15 : z_15.toInt = x2_2.toInt + 1 := by rw [ez_15]; exact iv_addE h_8 (iv_k (by decide) : iv 1 1 1) (by decide)
          refine lv_iinc (v := z_15) (lv' := [(2, .int z_15), (0, eV (ad 10) b), (1, .int nm)]) hx hb dX1_lookupNamed_43 hl (k := 0) rfl ez_15.symm (by decide) rfl (fun ls hl => ?_)
          refine lv_goto (tgt := 2) hx hb dX1_lookupNamed_46 (by decide) ?_
          exact ih2 _ (by rw [← hn2]; exact (iv_meas tz_15 h_8 (by decide))) z_15 rfl (iv_w hz_15 (by decide)) hsx0_2 ((by rw [show z_15.toNatClampNeg = x2_2.toNatClampNeg + 1 from (by have q1 : z_15.toNatClampNeg = z_15.toInt.toNat := rfl; have q1 : x2_2.toNatClampNeg = x2_2.toInt.toNat := rfl; have := i32_0; have := i32_1; have := i32_2; have := i32_m1; have := (hsx0_2).1; have := (hsx0_2).2; have := (h_8).1; have := (h_8).2; have := (hq_1).1; have := (hq_1).2; have := (h_9).1; have := (h_9).2; have := (hr_10).1; have := (hr_10).2; have := (hz_13).1; have := (hz_13).2; have := (hz_15).1; have := (hz_15).2; omega)]; exact lkL_st hlk (show (liL wg (3 * b.toNatClampNeg + 2))[x2_2.toNatClampNeg]? = some r_10.toNatClampNeg from (by rw [liL_g (by rw [sw9 hSW 41 rfl]; have q1 := congrArg Int32.toInt fr_r_2; rw [show q_1.toNatClampNeg = 3 * b.toNatClampNeg + 2 from nq_1] at q1; have q5 : (gm 41 (3 * b.toNatClampNeg + 2)).toNatClampNeg = (gm 41 (3 * b.toNatClampNeg + 2)).toInt.toNat := rfl; have q1 : x2_2.toNatClampNeg = x2_2.toInt.toNat := rfl; have := i32_0; have := i32_1; have := i32_2; have := i32_m1; have := (hsx0_2).1; have := (hsx0_2).2; have := (h_8).1; have := (h_8).2; have := (hq_1).1; have := (hq_1).2; have := (h_9).1; have := (h_9).2; have := (hr_10).1; have := (hr_10).2; have := (hz_13).1; have := (hz_13).2; have := (hz_15).1; have := (hz_15).2; omega), show wg 57 (128 * (3 * b.toNatClampNeg + 2) + x2_2.toNatClampNeg) = r_10 from (by rw [sw9 hSW 57 rfl, fr_r_10, show q_1.toNatClampNeg = 3 * b.toNatClampNeg + 2 from nq_1])])) (by rw [(swt9 hSW ez_13 rfl)]; exact (fun q7 => c_14 (Int32.toInt_inj.mp q7))))) _ _ _ hP hD hS (lv_sub hl [0, 1, 2] rfl)
        · have d_16 : (z_13 : Int32).toInt = (nm : Int32).toInt := congrArg Int32.toInt c_14
          have h_17 : iv (-1) 25 nm := iv_eq (Eq.symm c_14) (iv_all nm) hz_13 (by decide)
          refine ec_aload_n hx hb dX1_lookupNamed_31 rfl (lv_at hl 1 rfl) ?_
          refine cr_get (t := 10) (j := 3) (C := RX1) (T := TX1) (N := 19) (v := eV (ad 11) q_1) hx hb htb inX1 hown hK hP hsx0_2 (by decide) (by decide) (by decide) rfl (by decide) (htb _ kw_355) (cV_c rfl hq_1.1 nq_1) dX1_lookupNamed_32 ?_
          refine lv_iload_n hx hb dX1_lookupNamed_35 rfl (lv_at hl 0 rfl) ?_
          refine cm_callV (t := 11) (C := RJx4a65c) (T := TJx4a65c) (N := 3) (rest := []) (as := [.int x2_2]) ⟨hx, hb, hml, hown, htb⟩ (d_lget l dC dI ad cid a2 lx sg gm lg q_1 x2_2 hI hq_1 hLD (by have := i32_0; have := i32_1; have := i32_2; have := i32_m1; have := (hsx0_2).1; have := (hsx0_2).2; have := (h_8).1; have := (h_8).2; have := (hq_1).1; have := (hq_1).2; have := (h_9).1; have := (h_9).2; have := (hr_10).1; have := (hr_10).2; have := (hz_13).1; have := (hz_13).2; have := (h_17).1; have := (h_17).2; omega) (by rw [← fr_r_2]; have := i32_0; have := i32_1; have := i32_2; have := i32_m1; have := (hsx0_2).1; have := (hsx0_2).2; have := (h_8).1; have := (h_8).2; have := (hq_1).1; have := (hq_1).2; have := (h_9).1; have := (h_9).2; have := (hr_10).1; have := (hr_10).2; have := (hz_13).1; have := (hz_13).2; have := (h_17).1; have := (h_17).2; omega)) (cwV 1 htb (gd_V kw_858 kw_859 kw_860 kw_157 kw_1518) rfl rfl rfl (by decide +kernel) ⟨Nat.le_of_ble_eq_true rfl, Nat.le_of_ble_eq_true rfl⟩) hq_1 (by decide) (by decide) rfl rfl hl.1 rfl (Nat.le_trans cs_n (by decide)) dX1_lookupNamed_36 ⟨Nat.le_of_ble_eq_true rfl, Nat.le_of_ble_eq_true rfl⟩ hK hP hD hS hA hG (fun E ce q9 u_19 H locs hw hP hD hS hce hcv hcl => ?_) (fun v9 u_19 H locs hw hP hD hS => ?_)
          · exact hw.elim
          obtain ⟨r_18, rfl, rfl, hr_18, fr_r_18⟩ := hw
          have hP : va_P (dC, dI) vwCl (cW ad cid a2 lx sg gm lg) H := hP
          have hD : va_D A (cW ad cid a2 lx sg gm lg) := hD
          refine W.eq (g2 := F0 m 39 ls [eV (ad 9) r_18]) rfl ?_
          refine cl_cast hx hb hG hown (htb _ kw_867) hK hP hr_18 (by decide) dX1_lookupNamed_39 ?_
          exact W.nb (fun hN => W.widen (k := 1) (n := 6) (by decide) (by decide) (vx_ret (W.aret (v := eV (ad 9) r_18) hx hb hr (Or.inl ⟨_, rfl⟩) (eV_is _ _) (fun t ht hW => ⟨⟨some (eV (ad 9) r_18), (sg, gm, lg), rfl, ⟨r_18, rfl, rfl, (iv_w hr_18 (by decide)), ((by have q9 := lkL_h hlk (show (liL wg (3 * b.toNatClampNeg + 2))[x2_2.toNatClampNeg]? = some r_10.toNatClampNeg from (by rw [liL_g (by rw [sw9 hSW 41 rfl]; have q1 := congrArg Int32.toInt fr_r_2; rw [show q_1.toNatClampNeg = 3 * b.toNatClampNeg + 2 from nq_1] at q1; have q5 : (gm 41 (3 * b.toNatClampNeg + 2)).toNatClampNeg = (gm 41 (3 * b.toNatClampNeg + 2)).toInt.toNat := rfl; have q1 : x2_2.toNatClampNeg = x2_2.toInt.toNat := rfl; have := i32_0; have := i32_1; have := i32_2; have := i32_m1; have := (hsx0_2).1; have := (hsx0_2).2; have := (h_8).1; have := (h_8).2; have := (hq_1).1; have := (hq_1).2; have := (h_9).1; have := (h_9).2; have := (hr_10).1; have := (hr_10).2; have := (hz_13).1; have := (hz_13).2; have := (h_17).1; have := (h_17).2; have := (hr_18).1; have := (hr_18).2; omega), show wg 57 (128 * (3 * b.toNatClampNeg + 2) + x2_2.toNatClampNeg) = r_10 from (by rw [sw9 hSW 57 rfl, fr_r_10, show q_1.toNatClampNeg = 3 * b.toNatClampNeg + 2 from nq_1])])) (by rw [(swt9 hSW ez_13 rfl)]; have := i32_0; have := i32_1; have := i32_2; have := i32_m1; have := (hsx0_2).1; have := (hsx0_2).2; have := (h_8).1; have := (h_8).2; have := (hq_1).1; have := (hq_1).2; have := (h_9).1; have := (h_9).2; have := (hr_10).1; have := (hr_10).2; have := (hz_13).1; have := (hz_13).2; have := (h_17).1; have := (h_17).2; have := (hr_18).1; have := (hr_18).2; omega); rw [q9, cln9 (hr_10).1, fr_r_18, fr_r_10]))⟩, by rw [ht]; exact hP, va_K.moved hW.alike hK, hD⟩, hS.F ht, by rw [ht]; exact hN⟩) hS.2.2 dX1_lookupNamed_42)))
  refine lv_iconst (v := 0) hx hb dX1_lookupNamed_0 (by decide) ?_
  refine lv_istore_n (i := 2) (lv' := [(2, .int 0), (0, eV (ad 10) b), (1, .int nm)]) hx hb dX1_lookupNamed_1 rfl hl (by decide) rfl (fun ls hl => ?_)
  exact hj2 _ 0 rfl (iv_w (iv_k (by decide) : iv 0 0 0) (by decide)) hvb (rfl) _ _ _ hP hD hS (lv_sub hl [0, 1, 2] rfl)

set_option maxHeartbeats 4000000 in
set_option maxRecDepth 100000 in
theorem d_isObject9 (l : Launch) (dC : Nat → ClassId) (dI : Nat → Nat → Nat) (ad : Nat → Nat → Nat) (cid : Nat → ClassId) (a2 : Nat → Nat) (lx : List Nat) (sg : Nat → Int32) (gm : Nat → Nat → Int32) (lg : Nat → Nat → Int64) (x : Int32) (k : Int32) (hI : CI sg gm) (hvx : iv 0 0 x) : CMt dC dI ad cid a2 lx l yX5_isObject wm_X5_isObject ({ frames := 0, cells := 1, slots := 6, locals := 0 }) [eV (ad 6) x, .int k] sg gm lg (fun v u => ∃ r : Int32, v = some (.int r) ∧ u = (sg, gm, lg) ∧ (iv 0 1 r) ∧ (r.toInt = 0 ∨ iv 0 59 k) ∧ ((r.toInt = 1 ∧ 0 ≤ k.toInt ∧ k.toInt < (sg 14).toInt) ∨ (r.toInt = 0 ∧ ¬ (0 ≤ k.toInt ∧ k.toInt < (sg 14).toInt)))) (fun _ _ => False) := by
  intro sz
  refine vx_ofW (cc := cX5_isObject) (maxL := 2) (ret := (some .boolean)) (by decide) rfl ?_
  intro p e s m args below meth c s₁ B hml hxt hv
  obtain ⟨rfl, hsz, hP, hK, hD0, hG⟩ := hv
  have hx := B.exec
  have hb := B.bytes
  have hr := B.returns
  have hts := atoms_spec (ws := wm_X5_isObject) B.pre
  have htb := fun (w : Cond) (h : w ∈ tb) => hts w (List.mem_cons_of_mem _ h)
  have hown : s.vm.findClass RX5 = some m.cls := findClass_of_methodNamed B.named
  have hlocks := B.notSynchronized
  subst hsz
  have hD := hD0.self (sz := s.heap.size)
  generalize hAe : va_A (cW ad cid a2 lx sg gm lg) s.heap.size = A at hD hG ⊢
  have hA : ∀ q : Nat, s.heap.size ≤ q → A q := fun q h => by rw [← hAe]; exact Or.inr h
  have hS : va_S A s.heap s.heap [] := va_S.rf
  have hl := lv_entry ([eV (ad 6) x, .int k]) (n := 2) (by rw [show (lg_sl ([eV (ad 6) x, .int k])).length = 2 from by simp [lg_sl, eV_cat, cat_i, cat_l]]; exact Nat.le_of_ble_eq_true rfl)
  rw [lg_entry_eq]
  generalize (lg_sl ([eV (ad 6) x, .int k]) ++ List.replicate (2 - (lg_sl ([eV (ad 6) x, .int k])).length) Slot.unset).toArray = ls at hl ⊢
  have hl : lv_has ls 2 [(0, eV (ad 6) x), (1, .int k)] := by simp [lv_args, eV_cat, cat_i, cat_l] at hl; exact hl
  have hj17 : ∀ (y0_17 : Int32) (_ : iv 0 0 x) (_ : iv 0 1 y0_17) (_ : y0_17.toInt = 0 ∨ iv 0 59 k) (_ : (y0_17.toInt = 1 ∧ 0 ≤ k.toInt ∧ k.toInt < (sg 14).toInt) ∨ (y0_17.toInt = 0 ∧ ¬ (0 ≤ k.toInt ∧ k.toInt < (sg 14).toInt))) (H : Heap) (locs : List Loc) (ls : Array Slot), va_P (dC, dI) vwCl (cW ad cid a2 lx sg gm lg) H → va_D A (cW ad cid a2 lx sg gm lg) → va_S A s.heap H locs → lv_has ls 2 [(0, eV (ad 6) x), (1, .int k)] → W p l e (headSpec wm_X5_isObject ({ frames := 0, cells := 1, slots := 6, locals := 0 })).room s m ([eV (ad 6) x, .int k] : List Value).toArray below meth c H locs 0 0 (vx_MQ below (cQx dC dI ad cid a2 lx (fun v u => ∃ r : Int32, v = some (.int r) ∧ u = (sg, gm, lg) ∧ (iv 0 1 r) ∧ (r.toInt = 0 ∨ iv 0 59 k) ∧ ((r.toInt = 1 ∧ 0 ≤ k.toInt ∧ k.toInt < (sg 14).toInt) ∨ (r.toInt = 0 ∧ ¬ (0 ≤ k.toInt ∧ k.toInt < (sg 14).toInt)))) A) (cX dC dI ad cid a2 lx (fun _ _ => False) A) ([eV (ad 6) x, .int k] : List Value).toArray s 1 6 A) (F0 m 17 ls [.int y0_17]) := by
    intro y0_17 hsx0_17 hy0_17 ho hi H locs ls hP hD hS hl
    exact W.nb (fun hN => W.widen (k := 1) (n := 6) (by decide) (by decide) (vx_ret (W.zret (v := y0_17) hx hb hr (iv_nb hy0_17) (fun t ht hW => ⟨⟨some (.int y0_17), (sg, gm, lg), rfl, ⟨y0_17, rfl, rfl, hy0_17, (ho), (hi)⟩, by rw [ht]; exact hP, va_K.moved hW.alike hK, hD⟩, hS.F ht, by rw [ht]; exact hN⟩) hS.2.2 dX5_isObject_17)))
  have hj16 : ∀ (_ : iv 0 0 x) (_ : ¬ (0 ≤ k.toInt ∧ k.toInt < (sg 14).toInt)) (H : Heap) (locs : List Loc) (ls : Array Slot), va_P (dC, dI) vwCl (cW ad cid a2 lx sg gm lg) H → va_D A (cW ad cid a2 lx sg gm lg) → va_S A s.heap H locs → lv_has ls 2 [(0, eV (ad 6) x), (1, .int k)] → W p l e (headSpec wm_X5_isObject ({ frames := 0, cells := 1, slots := 6, locals := 0 })).room s m ([eV (ad 6) x, .int k] : List Value).toArray below meth c H locs 0 0 (vx_MQ below (cQx dC dI ad cid a2 lx (fun v u => ∃ r : Int32, v = some (.int r) ∧ u = (sg, gm, lg) ∧ (iv 0 1 r) ∧ (r.toInt = 0 ∨ iv 0 59 k) ∧ ((r.toInt = 1 ∧ 0 ≤ k.toInt ∧ k.toInt < (sg 14).toInt) ∨ (r.toInt = 0 ∧ ¬ (0 ≤ k.toInt ∧ k.toInt < (sg 14).toInt)))) A) (cX dC dI ad cid a2 lx (fun _ _ => False) A) ([eV (ad 6) x, .int k] : List Value).toArray s 1 6 A) (F0 m 16 ls []) := by
    intro  hsx0_16 u16 H locs ls hP hD hS hl
    refine lv_iconst (v := 0) hx hb dX5_isObject_16 (by decide) ?_
    exact hj17 0 hsx0_16 (iv_w (iv_k (by decide) : iv 0 0 0) (by decide)) (Or.inl rfl) (Or.inr ⟨rfl, u16⟩) _ _ _ hP hD hS (lv_sub hl [0, 1] rfl)
  refine lv_iload_n hx hb dX5_isObject_0 rfl (lv_at hl 1 rfl) ?_
  refine lv_if_lt (tgt := 16) hx hb dX5_isObject_1 (by decide) (fun c_1 => ?_) (fun c_1 => ?_)
  · have h_2 : iv (-2147483648) (-1) k := iv_ltL c_1 (iv_all k) (iv_k (by decide) : iv 0 0 0) (by decide)
    exact hj16 hvx ((by have := i32_0; have := i32_1; have := i32_2; have := i32_m1; have := (show iv 0 60 (sg 14) from CI_s hI 14).1; have := (show iv 0 60 (sg 14) from CI_s hI 14).2; have := (hvx).1; have := (hvx).2; have := (h_2).1; have := (h_2).2; omega)) _ _ _ hP hD hS (lv_sub hl [0, 1] rfl)
  · have h_3 : iv 0 2147483647 k := iv_leR (i32_ge c_1) (iv_k (by decide) : iv 0 0 0) (iv_all k) (by decide)
    refine lv_iload_n hx hb dX5_isObject_4 rfl (lv_at hl 1 rfl) ?_
    refine ec_aload_n hx hb dX5_isObject_5 rfl (lv_at hl 0 rfl) ?_
    refine cr_get (t := 6) (j := 5) (C := RX5) (T := TX5) (N := 13) (v := .int (sg 14)) hx hb htb inX5 hown hK hP hvx (by decide) (by decide) (by decide) rfl (by decide) (htb _ kw_409) rfl dX5_isObject_6 ?_
    refine lv_icmp_ge (tgt := 16) hx hb dX5_isObject_9 (by decide) (fun c_4 => ?_) (fun c_4 => ?_)
    · have d_5 : ((sg 14) : Int32).toInt ≤ (k : Int32).toInt := Int32.le_iff_toInt_le.mp c_4
      exact hj16 hvx ((by have := i32_0; have := i32_1; have := i32_2; have := i32_m1; have := (show iv 0 60 (sg 14) from CI_s hI 14).1; have := (show iv 0 60 (sg 14) from CI_s hI 14).2; have := (hvx).1; have := (hvx).2; have := (h_3).1; have := (h_3).2; have := ((show iv 0 60 (sg 14) from CI_s hI 14)).1; have := ((show iv 0 60 (sg 14) from CI_s hI 14)).2; omega)) _ _ _ hP hD hS (lv_sub hl [0, 1] rfl)
    · have d_6 : (k : Int32).toInt < ((sg 14) : Int32).toInt := Int32.lt_iff_toInt_lt.mp (i32_lt c_4)
      have h_7 : iv 0 59 k := iv_ltL (i32_lt c_4) h_3 (show iv 0 60 (sg 14) from CI_s hI 14) (by decide)
      have h_8 : iv 1 60 (sg 14) := iv_ltR (i32_lt c_4) h_3 (show iv 0 60 (sg 14) from CI_s hI 14) (by decide)
      refine lv_iconst (v := 1) hx hb dX5_isObject_12 (by decide) ?_
      refine lv_goto (tgt := 17) hx hb dX5_isObject_13 (by decide) ?_
      exact hj17 1 hvx (iv_w (iv_k (by decide) : iv 1 1 1) (by decide)) (Or.inr ⟨by have := i32_0; have := i32_1; have := i32_2; have := i32_m1; have := (show iv 0 60 (sg 14) from CI_s hI 14).1; have := (show iv 0 60 (sg 14) from CI_s hI 14).2; have := (hvx).1; have := (hvx).2; have := (h_7).1; have := (h_7).2; have := (h_8).1; have := (h_8).2; omega, by have := i32_0; have := i32_1; have := i32_2; have := i32_m1; have := (show iv 0 60 (sg 14) from CI_s hI 14).1; have := (show iv 0 60 (sg 14) from CI_s hI 14).2; have := (hvx).1; have := (hvx).2; have := (h_7).1; have := (h_7).2; have := (h_8).1; have := (h_8).2; omega⟩) (Or.inl ⟨rfl, by have := i32_0; have := i32_1; have := i32_2; have := i32_m1; have := (show iv 0 60 (sg 14) from CI_s hI 14).1; have := (show iv 0 60 (sg 14) from CI_s hI 14).2; have := (hvx).1; have := (hvx).2; have := (h_7).1; have := (h_7).2; have := (h_8).1; have := (h_8).2; omega, by have := i32_0; have := i32_1; have := i32_2; have := i32_m1; have := (show iv 0 60 (sg 14) from CI_s hI 14).1; have := (show iv 0 60 (sg 14) from CI_s hI 14).2; have := (hvx).1; have := (hvx).2; have := (h_7).1; have := (h_7).2; have := (h_8).1; have := (h_8).2; omega⟩) _ _ _ hP hD hS (lv_sub hl [0, 1] rfl)

set_option maxHeartbeats 4000000 in
set_option maxRecDepth 100000 in
theorem d_lookupOf9 (l : Launch) (dC : Nat → ClassId) (dI : Nat → Nat → Nat) (ad : Nat → Nat → Nat) (cid : Nat → ClassId) (a2 : Nat → Nat) (lx : List Nat) (sg : Nat → Int32) (gm : Nat → Nat → Int32) (lg : Nat → Nat → Int64) (x : Int32) (k : Int32) (nm : Int32) (wg : Nat → Nat → Int32) (S : S9) (hI : CI sg gm) (hvx : iv 0 0 x) (hLD : LDI lx gm) (hSW : st9 gm = wg) (hRC : RC wg lg S sg gm) : CMt dC dI ad cid a2 lx l yX5_lookupOf wm_X5_lookupOf ({ frames := 4, cells := 1, slots := 6, locals := 86 }) [eV (ad 6) x, .int k, .int nm] sg gm lg (fun v u => ∃ r : Int32, v = some (eV (ad 9) r) ∧ u = (sg, gm, lg) ∧ (iv (-1) 79 r) ∧ (r.toInt = zLk wg k.toInt nm.toInt S)) (fun _ _ => False) := by
  intro sz
  refine vx_ofW (cc := cX5_lookupOf) (maxL := 3) (ret := (some (.object "WiredBeans$Element"))) (by decide) rfl ?_
  intro p e s m args below meth c s₁ B hml hxt hv
  obtain ⟨rfl, hsz, hP, hK, hD0, hG⟩ := hv
  have hx := B.exec
  have hb := B.bytes
  have hr := B.returns
  have hts := atoms_spec (ws := wm_X5_lookupOf) B.pre
  have htb := fun (w : Cond) (h : w ∈ tb) => hts w (List.mem_cons_of_mem _ h)
  have hown : s.vm.findClass RX5 = some m.cls := findClass_of_methodNamed B.named
  have hlocks := B.notSynchronized
  subst hsz
  have hD := hD0.self (sz := s.heap.size)
  generalize hAe : va_A (cW ad cid a2 lx sg gm lg) s.heap.size = A at hD hG ⊢
  have hA : ∀ q : Nat, s.heap.size ≤ q → A q := fun q h => by rw [← hAe]; exact Or.inr h
  have hS : va_S A s.heap s.heap [] := va_S.rf
  have hl := lv_entry ([eV (ad 6) x, .int k, .int nm]) (n := 3) (by rw [show (lg_sl ([eV (ad 6) x, .int k, .int nm])).length = 3 from by simp [lg_sl, eV_cat, cat_i, cat_l]]; exact Nat.le_of_ble_eq_true rfl)
  rw [lg_entry_eq]
  generalize (lg_sl ([eV (ad 6) x, .int k, .int nm]) ++ List.replicate (3 - (lg_sl ([eV (ad 6) x, .int k, .int nm])).length) Slot.unset).toArray = ls at hl ⊢
  have hl : lv_has ls 3 [(0, eV (ad 6) x), (1, .int k), (2, .int nm)] := by simp [lv_args, eV_cat, cat_i, cat_l] at hl; exact hl
  refine ec_aload_n hx hb dX5_lookupOf_0 rfl (lv_at hl 0 rfl) ?_
  refine lv_iload_n hx hb dX5_lookupOf_1 rfl (lv_at hl 1 rfl) ?_
  refine cm_callV (t := 6) (C := RX5) (T := TX5) (N := 13) (rest := []) (as := [.int k]) ⟨hx, hb, hml, hown, htb⟩ (d_isObject9 l dC dI ad cid a2 lx sg gm lg x k hI hvx) (cwV 1 htb (gd_V kw_516 kw_517 kw_2 kw_159 kw_1414) rfl rfl rfl (by decide +kernel) ⟨Nat.le_of_ble_eq_true rfl, Nat.le_of_ble_eq_true rfl⟩) hvx (by decide) (by decide) rfl rfl hl.1 rfl (Nat.le_trans cs_n (by decide)) dX5_lookupOf_2 ⟨Nat.le_of_ble_eq_true rfl, Nat.le_of_ble_eq_true rfl⟩ hK hP hD hS hA hG (fun E ce q9 u_2 H locs hw hP hD hS hce hcv hcl => ?_) (fun v9 u_2 H locs hw hP hD hS => ?_)
  · exact hw.elim
  obtain ⟨r_1, rfl, rfl, hr_1, fo_r_1, fi_r_1⟩ := hw
  have hP : va_P (dC, dI) vwCl (cW ad cid a2 lx sg gm lg) H := hP
  have hD : va_D A (cW ad cid a2 lx sg gm lg) := hD
  refine W.eq (g2 := F0 m 5 ls [.int r_1]) rfl ?_
  refine lv_if_eq (tgt := 28) hx hb dX5_lookupOf_5 (by decide) (fun c_4 => ?_) (fun c_4 => ?_)
  · have h_5 : iv 0 0 r_1 := iv_eq c_4 hr_1 (iv_k (by decide) : iv 0 0 0) (by decide)
    refine ec_null (a := ad 9) hx hb dX5_lookupOf_28 ?_
    exact W.nb (fun hN => W.widen (k := 1) (n := 6) (by decide) (by decide) (vx_ret (W.aret (v := eV (ad 9) (-1)) hx hb hr (Or.inl ⟨_, rfl⟩) (eV_is _ _) (fun t ht hW => ⟨⟨some (eV (ad 9) (-1)), (sg, gm, lg), rfl, ⟨(-1), rfl, rfl, (iv_w (iv_k (by decide) : iv (-1) (-1) (-1)) (by decide)), ((by rw [zLk_n hRC (fi_r_1.resolve_left (fun q8 => absurd q8.1 (by have := i32_0; have := i32_1; have := i32_2; have := i32_m1; have := (hvx).1; have := (hvx).2; have := (h_5).1; have := (h_5).2; omega))).2]; rfl))⟩, by rw [ht]; exact hP, va_K.moved hW.alike hK, hD⟩, hS.F ht, by rw [ht]; exact hN⟩) hS.2.2 dX5_lookupOf_29)))
  · have h_6 : iv 1 1 r_1 := iv_neL c_4 hr_1 (by decide)
    have h59 := fo_r_1.resolve_left (by have := i32_0; have := i32_1; have := i32_2; have := i32_m1; have := (hvx).1; have := (hvx).2; have := (h_6).1; have := (h_6).2; omega)
    refine ec_aload_n hx hb dX5_lookupOf_8 rfl (lv_at hl 0 rfl) ?_
    refine cr_get (t := 6) (j := 0) (C := RX5) (T := TX5) (N := 13) (v := eV (ad 4) 0) hx hb htb inX5 hown hK hP hvx (by decide) (by decide) (by decide) rfl (by decide) (htb _ kw_404) (cV_c rfl (by decide) (by rw [show cMu 6 0 = 0 from rfl, Nat.zero_mul]; rfl)) dX5_lookupOf_9 ?_
    refine ec_aload_n hx hb dX5_lookupOf_12 rfl (lv_at hl 0 rfl) ?_
    refine cr_get (t := 6) (j := 4) (C := RX5) (T := TX5) (N := 13) (v := eV (ad 23) 0) hx hb htb inX5 hown hK hP hvx (by decide) (by decide) (by decide) rfl (by decide) (htb _ kw_408) (cV_c rfl (by decide) (by rw [show cMu 6 4 = 0 from rfl, Nat.zero_mul]; rfl)) dX5_lookupOf_13 ?_
    refine lv_iload_n hx hb dX5_lookupOf_16 rfl (lv_at hl 1 rfl) ?_
    refine cr_iald (t := 23) (z := (gm 50 (k : Int32).toNatClampNeg)) hx hb hK hP (iv_k (by decide) : iv 0 0 0) (by decide) (by decide) (by decide) rfl rfl (show vp_in k (cLen 23) from (show vp_in k 60 from (iv_in h59 (by decide)))) rfl dX5_lookupOf_17 ?_
    obtain ⟨z_7, ez_7⟩ : ∃ z : Int32, z = (gm 50 (k : Int32).toNatClampNeg) := ⟨_, rfl⟩
    refine W.eq (g2 := F0 m 18 ls [.int z_7, eV (ad 4) 0]) (by rw [ez_7]) ?_
    have hz_7 : iv 0 79 z_7 := iv_of ez_7 (CI_a hI 50 h59 (by decide))
    refine cm_callV (t := 4) (C := RX10) (T := TX10) (N := 4) (rest := []) (as := [.int z_7]) ⟨hx, hb, hml, hown, htb⟩ (d_numbered l dC dI ad cid a2 lx sg gm lg 0 z_7 hI (iv_k (by decide) : iv 0 0 0) hz_7) (cwV 1 htb (gd_V kw_495 kw_496 kw_497 kw_153 kw_1407) rfl rfl rfl (by decide +kernel) ⟨Nat.le_of_ble_eq_true rfl, Nat.le_of_ble_eq_true rfl⟩) (iv_k (by decide) : iv 0 0 0) (by decide) (by decide) rfl rfl hl.1 rfl (Nat.le_trans cs_n (by decide)) dX5_lookupOf_18 ⟨Nat.le_of_ble_eq_true rfl, Nat.le_of_ble_eq_true rfl⟩ hK hP hD hS hA hG (fun E ce q9 u_9 H locs hw hP hD hS hce hcv hcl => ?_) (fun v9 u_9 H locs hw hP hD hS => ?_)
    · exact hw.elim
    obtain ⟨r_8, rfl, rfl, hr_8, fr_r_8⟩ := hw
    have hP : va_P (dC, dI) vwCl (cW ad cid a2 lx sg gm lg) H := hP
    have hD : va_D A (cW ad cid a2 lx sg gm lg) := hD
    refine W.eq (g2 := F0 m 21 ls [eV (ad 10) r_8]) rfl ?_
    refine lv_iload_n hx hb dX5_lookupOf_21 rfl (lv_at hl 2 rfl) ?_
    refine cm_callV (t := 10) (C := RX1) (T := TX1) (N := 19) (rest := []) (as := [.int nm]) ⟨hx, hb, hml, hown, htb⟩ (d_lookupNamed9 l dC dI ad cid a2 lx sg gm lg r_8 nm wg hI hr_8 hLD hSW) (cwV 1 htb (gd_V kw_992 kw_993 kw_994 kw_154 kw_1564) rfl rfl rfl (by decide +kernel) ⟨Nat.le_of_ble_eq_true rfl, Nat.le_of_ble_eq_true rfl⟩) hr_8 (by decide) (by decide) rfl rfl hl.1 rfl (Nat.le_trans cs_n (by decide)) dX5_lookupOf_22 ⟨Nat.le_of_ble_eq_true rfl, Nat.le_of_ble_eq_true rfl⟩ hK hP hD hS hA hG (fun E ce q9 u_12 H locs hw hP hD hS hce hcv hcl => ?_) (fun v9 u_12 H locs hw hP hD hS => ?_)
    · exact hw.elim
    obtain ⟨r_11, rfl, rfl, hr_11, fL_r_11⟩ := hw
    have hP : va_P (dC, dI) vwCl (cW ad cid a2 lx sg gm lg) H := hP
    have hD : va_D A (cW ad cid a2 lx sg gm lg) := hD
    refine W.eq (g2 := F0 m 25 ls [eV (ad 9) r_11]) rfl ?_
    refine lv_goto (tgt := 29) hx hb dX5_lookupOf_25 (by decide) ?_
    exact W.nb (fun hN => W.widen (k := 1) (n := 6) (by decide) (by decide) (vx_ret (W.aret (v := eV (ad 9) r_11) hx hb hr (Or.inl ⟨_, rfl⟩) (eV_is _ _) (fun t ht hW => ⟨⟨some (eV (ad 9) r_11), (sg, gm, lg), rfl, ⟨r_11, rfl, rfl, hr_11, ((by rw [zLk_y hRC (fi_r_1.resolve_right (fun q8 => absurd q8.1 (by have := i32_0; have := i32_1; have := i32_2; have := i32_m1; have := (hvx).1; have := (hvx).2; have := (h_6).1; have := (h_6).2; have := (h59).1; have := (h59).2; have := (hz_7).1; have := (hz_7).2; have := (hr_8).1; have := (hr_8).2; have := (hr_11).1; have := (hr_11).2; omega))).2.1 (fi_r_1.resolve_right (fun q8 => absurd q8.1 (by have := i32_0; have := i32_1; have := i32_2; have := i32_m1; have := (hvx).1; have := (hvx).2; have := (h_6).1; have := (h_6).2; have := (h59).1; have := (h59).2; have := (hz_7).1; have := (hz_7).2; have := (hr_8).1; have := (hr_8).2; have := (hr_11).1; have := (hr_11).2; omega))).2.2, ← ez_7]; have q9 := fL_r_11; rw [fr_r_8] at q9; exact q9))⟩, by rw [ht]; exact hP, va_K.moved hW.alike hK, hD⟩, hS.F ht, by rw [ht]; exact hN⟩) hS.2.2 dX5_lookupOf_29)))

set_option maxHeartbeats 4000000 in
set_option maxRecDepth 100000 in
theorem d_classOfObject9 (l : Launch) (dC : Nat → ClassId) (dI : Nat → Nat → Nat) (ad : Nat → Nat → Nat) (cid : Nat → ClassId) (a2 : Nat → Nat) (lx : List Nat) (sg : Nat → Int32) (gm : Nat → Nat → Int32) (lg : Nat → Nat → Int64) (x : Int32) (k : Int32) (wg : Nat → Nat → Int32) (S : S9) (hI : CI sg gm) (hvx : iv 0 0 x) (hRC : RC wg lg S sg gm) : CMt dC dI ad cid a2 lx l yX5_classOfObject wm_X5_classOfObject ({ frames := 1, cells := 1, slots := 6, locals := 21 }) [eV (ad 6) x, .int k] sg gm lg (fun v u => ∃ r : Int32, v = some (.int r) ∧ u = (sg, gm, lg) ∧ (iv (-1) 7 r) ∧ (r.toInt = zOb k.toInt 0 S)) (fun _ _ => False) := by
  intro sz
  refine vx_ofW (cc := cX5_classOfObject) (maxL := 2) (ret := (some .int)) (by decide) rfl ?_
  intro p e s m args below meth c s₁ B hml hxt hv
  obtain ⟨rfl, hsz, hP, hK, hD0, hG⟩ := hv
  have hx := B.exec
  have hb := B.bytes
  have hr := B.returns
  have hts := atoms_spec (ws := wm_X5_classOfObject) B.pre
  have htb := fun (w : Cond) (h : w ∈ tb) => hts w (List.mem_cons_of_mem _ h)
  have hown : s.vm.findClass RX5 = some m.cls := findClass_of_methodNamed B.named
  have hlocks := B.notSynchronized
  subst hsz
  have hD := hD0.self (sz := s.heap.size)
  generalize hAe : va_A (cW ad cid a2 lx sg gm lg) s.heap.size = A at hD hG ⊢
  have hA : ∀ q : Nat, s.heap.size ≤ q → A q := fun q h => by rw [← hAe]; exact Or.inr h
  have hS : va_S A s.heap s.heap [] := va_S.rf
  have hl := lv_entry ([eV (ad 6) x, .int k]) (n := 2) (by rw [show (lg_sl ([eV (ad 6) x, .int k])).length = 2 from by simp [lg_sl, eV_cat, cat_i, cat_l]]; exact Nat.le_of_ble_eq_true rfl)
  rw [lg_entry_eq]
  generalize (lg_sl ([eV (ad 6) x, .int k]) ++ List.replicate (2 - (lg_sl ([eV (ad 6) x, .int k])).length) Slot.unset).toArray = ls at hl ⊢
  have hl : lv_has ls 2 [(0, eV (ad 6) x), (1, .int k)] := by simp [lv_args, eV_cat, cat_i, cat_l] at hl; exact hl
  refine ec_aload_n hx hb dX5_classOfObject_0 rfl (lv_at hl 0 rfl) ?_
  refine lv_iload_n hx hb dX5_classOfObject_1 rfl (lv_at hl 1 rfl) ?_
  refine cm_callV (t := 6) (C := RX5) (T := TX5) (N := 13) (rest := []) (as := [.int k]) ⟨hx, hb, hml, hown, htb⟩ (d_isObject9 l dC dI ad cid a2 lx sg gm lg x k hI hvx) (cwV 1 htb (gd_V kw_516 kw_517 kw_2 kw_159 kw_1414) rfl rfl rfl (by decide +kernel) ⟨Nat.le_of_ble_eq_true rfl, Nat.le_of_ble_eq_true rfl⟩) hvx (by decide) (by decide) rfl rfl hl.1 rfl (Nat.le_trans cs_n (by decide)) dX5_classOfObject_2 ⟨Nat.le_of_ble_eq_true rfl, Nat.le_of_ble_eq_true rfl⟩ hK hP hD hS hA hG (fun E ce q9 u_2 H locs hw hP hD hS hce hcv hcl => ?_) (fun v9 u_2 H locs hw hP hD hS => ?_)
  · exact hw.elim
  obtain ⟨r_1, rfl, rfl, hr_1, fo_r_1, fi_r_1⟩ := hw
  have hP : va_P (dC, dI) vwCl (cW ad cid a2 lx sg gm lg) H := hP
  have hD : va_D A (cW ad cid a2 lx sg gm lg) := hD
  refine W.eq (g2 := F0 m 5 ls [.int r_1]) rfl ?_
  refine lv_if_eq (tgt := 17) hx hb dX5_classOfObject_5 (by decide) (fun c_4 => ?_) (fun c_4 => ?_)
  · have h_5 : iv 0 0 r_1 := iv_eq c_4 hr_1 (iv_k (by decide) : iv 0 0 0) (by decide)
    refine lv_iconst (v := (-1)) hx hb dX5_classOfObject_17 (by decide) ?_
    exact W.nb (fun hN => W.widen (k := 1) (n := 6) (by decide) (by decide) (vx_ret (W.iret (v := (-1)) hx hb hr (fun t ht hW => ⟨⟨some (.int (-1)), (sg, gm, lg), rfl, ⟨(-1), rfl, rfl, (iv_w (iv_k (by decide) : iv (-1) (-1) (-1)) (by decide)), ((by rw [zOb_n hRC (fi_r_1.resolve_left (fun q8 => absurd q8.1 (by have := i32_0; have := i32_1; have := i32_2; have := i32_m1; have := (hvx).1; have := (hvx).2; have := (h_5).1; have := (h_5).2; omega))).2]; rfl))⟩, by rw [ht]; exact hP, va_K.moved hW.alike hK, hD⟩, hS.F ht, by rw [ht]; exact hN⟩) hS.2.2 dX5_classOfObject_18)))
  · have h_6 : iv 1 1 r_1 := iv_neL c_4 hr_1 (by decide)
    have h59 := fo_r_1.resolve_left (by have := i32_0; have := i32_1; have := i32_2; have := i32_m1; have := (hvx).1; have := (hvx).2; have := (h_6).1; have := (h_6).2; omega)
    refine ec_aload_n hx hb dX5_classOfObject_8 rfl (lv_at hl 0 rfl) ?_
    refine cr_get (t := 6) (j := 3) (C := RX5) (T := TX5) (N := 13) (v := eV (ad 22) 0) hx hb htb inX5 hown hK hP hvx (by decide) (by decide) (by decide) rfl (by decide) (htb _ kw_407) (cV_c rfl (by decide) (by rw [show cMu 6 3 = 0 from rfl, Nat.zero_mul]; rfl)) dX5_classOfObject_9 ?_
    refine lv_iload_n hx hb dX5_classOfObject_12 rfl (lv_at hl 1 rfl) ?_
    refine cr_iald (t := 22) (z := (gm 49 (k : Int32).toNatClampNeg)) hx hb hK hP (iv_k (by decide) : iv 0 0 0) (by decide) (by decide) (by decide) rfl rfl (show vp_in k (cLen 22) from (show vp_in k 60 from (iv_in h59 (by decide)))) rfl dX5_classOfObject_13 ?_
    obtain ⟨z_7, ez_7⟩ : ∃ z : Int32, z = (gm 49 (k : Int32).toNatClampNeg) := ⟨_, rfl⟩
    refine W.eq (g2 := F0 m 14 ls [.int z_7]) (by rw [ez_7]) ?_
    have hz_7 : iv 0 7 z_7 := iv_of ez_7 (CI_a hI 49 h59 (by decide))
    refine lv_goto (tgt := 18) hx hb dX5_classOfObject_14 (by decide) ?_
    exact W.nb (fun hN => W.widen (k := 1) (n := 6) (by decide) (by decide) (vx_ret (W.iret (v := z_7) hx hb hr (fun t ht hW => ⟨⟨some (.int z_7), (sg, gm, lg), rfl, ⟨z_7, rfl, rfl, (iv_w hz_7 (by decide)), ((by rw [zOb_y hRC (fi_r_1.resolve_right (fun q8 => absurd q8.1 (by have := i32_0; have := i32_1; have := i32_2; have := i32_m1; have := (hvx).1; have := (hvx).2; have := (h_6).1; have := (h_6).2; have := (h59).1; have := (h59).2; have := (hz_7).1; have := (hz_7).2; omega))).2.1 (fi_r_1.resolve_right (fun q8 => absurd q8.1 (by have := i32_0; have := i32_1; have := i32_2; have := i32_m1; have := (hvx).1; have := (hvx).2; have := (h_6).1; have := (h_6).2; have := (h59).1; have := (h59).2; have := (hz_7).1; have := (hz_7).2; omega))).2.2]; rw [if_pos rfl, ← ez_7]))⟩, by rw [ht]; exact hP, va_K.moved hW.alike hK, hD⟩, hS.F ht, by rw [ht]; exact hN⟩) hS.2.2 dX5_classOfObject_18)))

set_option maxHeartbeats 4000000 in
set_option maxRecDepth 100000 in
theorem d_beanOfObject9 (l : Launch) (dC : Nat → ClassId) (dI : Nat → Nat → Nat) (ad : Nat → Nat → Nat) (cid : Nat → ClassId) (a2 : Nat → Nat) (lx : List Nat) (sg : Nat → Int32) (gm : Nat → Nat → Int32) (lg : Nat → Nat → Int64) (x : Int32) (k : Int32) (wg : Nat → Nat → Int32) (S : S9) (hI : CI sg gm) (hvx : iv 0 0 x) (hRC : RC wg lg S sg gm) : CMt dC dI ad cid a2 lx l yX5_beanOfObject wm_X5_beanOfObject ({ frames := 1, cells := 1, slots := 6, locals := 21 }) [eV (ad 6) x, .int k] sg gm lg (fun v u => ∃ r : Int32, v = some (.int r) ∧ u = (sg, gm, lg) ∧ (iv (-1) 79 r) ∧ (r.toInt = zOb k.toInt 1 S)) (fun _ _ => False) := by
  intro sz
  refine vx_ofW (cc := cX5_beanOfObject) (maxL := 2) (ret := (some .int)) (by decide) rfl ?_
  intro p e s m args below meth c s₁ B hml hxt hv
  obtain ⟨rfl, hsz, hP, hK, hD0, hG⟩ := hv
  have hx := B.exec
  have hb := B.bytes
  have hr := B.returns
  have hts := atoms_spec (ws := wm_X5_beanOfObject) B.pre
  have htb := fun (w : Cond) (h : w ∈ tb) => hts w (List.mem_cons_of_mem _ h)
  have hown : s.vm.findClass RX5 = some m.cls := findClass_of_methodNamed B.named
  have hlocks := B.notSynchronized
  subst hsz
  have hD := hD0.self (sz := s.heap.size)
  generalize hAe : va_A (cW ad cid a2 lx sg gm lg) s.heap.size = A at hD hG ⊢
  have hA : ∀ q : Nat, s.heap.size ≤ q → A q := fun q h => by rw [← hAe]; exact Or.inr h
  have hS : va_S A s.heap s.heap [] := va_S.rf
  have hl := lv_entry ([eV (ad 6) x, .int k]) (n := 2) (by rw [show (lg_sl ([eV (ad 6) x, .int k])).length = 2 from by simp [lg_sl, eV_cat, cat_i, cat_l]]; exact Nat.le_of_ble_eq_true rfl)
  rw [lg_entry_eq]
  generalize (lg_sl ([eV (ad 6) x, .int k]) ++ List.replicate (2 - (lg_sl ([eV (ad 6) x, .int k])).length) Slot.unset).toArray = ls at hl ⊢
  have hl : lv_has ls 2 [(0, eV (ad 6) x), (1, .int k)] := by simp [lv_args, eV_cat, cat_i, cat_l] at hl; exact hl
  refine ec_aload_n hx hb dX5_beanOfObject_0 rfl (lv_at hl 0 rfl) ?_
  refine lv_iload_n hx hb dX5_beanOfObject_1 rfl (lv_at hl 1 rfl) ?_
  refine cm_callV (t := 6) (C := RX5) (T := TX5) (N := 13) (rest := []) (as := [.int k]) ⟨hx, hb, hml, hown, htb⟩ (d_isObject9 l dC dI ad cid a2 lx sg gm lg x k hI hvx) (cwV 1 htb (gd_V kw_516 kw_517 kw_2 kw_159 kw_1414) rfl rfl rfl (by decide +kernel) ⟨Nat.le_of_ble_eq_true rfl, Nat.le_of_ble_eq_true rfl⟩) hvx (by decide) (by decide) rfl rfl hl.1 rfl (Nat.le_trans cs_n (by decide)) dX5_beanOfObject_2 ⟨Nat.le_of_ble_eq_true rfl, Nat.le_of_ble_eq_true rfl⟩ hK hP hD hS hA hG (fun E ce q9 u_2 H locs hw hP hD hS hce hcv hcl => ?_) (fun v9 u_2 H locs hw hP hD hS => ?_)
  · exact hw.elim
  obtain ⟨r_1, rfl, rfl, hr_1, fo_r_1, fi_r_1⟩ := hw
  have hP : va_P (dC, dI) vwCl (cW ad cid a2 lx sg gm lg) H := hP
  have hD : va_D A (cW ad cid a2 lx sg gm lg) := hD
  refine W.eq (g2 := F0 m 5 ls [.int r_1]) rfl ?_
  refine lv_if_eq (tgt := 17) hx hb dX5_beanOfObject_5 (by decide) (fun c_4 => ?_) (fun c_4 => ?_)
  · have h_5 : iv 0 0 r_1 := iv_eq c_4 hr_1 (iv_k (by decide) : iv 0 0 0) (by decide)
    refine lv_iconst (v := (-1)) hx hb dX5_beanOfObject_17 (by decide) ?_
    exact W.nb (fun hN => W.widen (k := 1) (n := 6) (by decide) (by decide) (vx_ret (W.iret (v := (-1)) hx hb hr (fun t ht hW => ⟨⟨some (.int (-1)), (sg, gm, lg), rfl, ⟨(-1), rfl, rfl, (iv_w (iv_k (by decide) : iv (-1) (-1) (-1)) (by decide)), ((by rw [zOb_n hRC (fi_r_1.resolve_left (fun q8 => absurd q8.1 (by have := i32_0; have := i32_1; have := i32_2; have := i32_m1; have := (hvx).1; have := (hvx).2; have := (h_5).1; have := (h_5).2; omega))).2]; rfl))⟩, by rw [ht]; exact hP, va_K.moved hW.alike hK, hD⟩, hS.F ht, by rw [ht]; exact hN⟩) hS.2.2 dX5_beanOfObject_18)))
  · have h_6 : iv 1 1 r_1 := iv_neL c_4 hr_1 (by decide)
    have h59 := fo_r_1.resolve_left (by have := i32_0; have := i32_1; have := i32_2; have := i32_m1; have := (hvx).1; have := (hvx).2; have := (h_6).1; have := (h_6).2; omega)
    refine ec_aload_n hx hb dX5_beanOfObject_8 rfl (lv_at hl 0 rfl) ?_
    refine cr_get (t := 6) (j := 4) (C := RX5) (T := TX5) (N := 13) (v := eV (ad 23) 0) hx hb htb inX5 hown hK hP hvx (by decide) (by decide) (by decide) rfl (by decide) (htb _ kw_408) (cV_c rfl (by decide) (by rw [show cMu 6 4 = 0 from rfl, Nat.zero_mul]; rfl)) dX5_beanOfObject_9 ?_
    refine lv_iload_n hx hb dX5_beanOfObject_12 rfl (lv_at hl 1 rfl) ?_
    refine cr_iald (t := 23) (z := (gm 50 (k : Int32).toNatClampNeg)) hx hb hK hP (iv_k (by decide) : iv 0 0 0) (by decide) (by decide) (by decide) rfl rfl (show vp_in k (cLen 23) from (show vp_in k 60 from (iv_in h59 (by decide)))) rfl dX5_beanOfObject_13 ?_
    obtain ⟨z_7, ez_7⟩ : ∃ z : Int32, z = (gm 50 (k : Int32).toNatClampNeg) := ⟨_, rfl⟩
    refine W.eq (g2 := F0 m 14 ls [.int z_7]) (by rw [ez_7]) ?_
    have hz_7 : iv 0 79 z_7 := iv_of ez_7 (CI_a hI 50 h59 (by decide))
    refine lv_goto (tgt := 18) hx hb dX5_beanOfObject_14 (by decide) ?_
    exact W.nb (fun hN => W.widen (k := 1) (n := 6) (by decide) (by decide) (vx_ret (W.iret (v := z_7) hx hb hr (fun t ht hW => ⟨⟨some (.int z_7), (sg, gm, lg), rfl, ⟨z_7, rfl, rfl, (iv_w hz_7 (by decide)), ((by rw [zOb_y hRC (fi_r_1.resolve_right (fun q8 => absurd q8.1 (by have := i32_0; have := i32_1; have := i32_2; have := i32_m1; have := (hvx).1; have := (hvx).2; have := (h_6).1; have := (h_6).2; have := (h59).1; have := (h59).2; have := (hz_7).1; have := (hz_7).2; omega))).2.1 (fi_r_1.resolve_right (fun q8 => absurd q8.1 (by have := i32_0; have := i32_1; have := i32_2; have := i32_m1; have := (hvx).1; have := (hvx).2; have := (h_6).1; have := (h_6).2; have := (h59).1; have := (h59).2; have := (hz_7).1; have := (hz_7).2; omega))).2.2]; rw [if_neg (by decide), if_pos rfl, ← ez_7]))⟩, by rw [ht]; exact hP, va_K.moved hW.alike hK, hD⟩, hS.F ht, by rw [ht]; exact hN⟩) hS.2.2 dX5_beanOfObject_18)))

set_option maxHeartbeats 4000000 in
set_option maxRecDepth 100000 in
theorem d_numberEv9 (l : Launch) (dC : Nat → ClassId) (dI : Nat → Nat → Nat) (ad : Nat → Nat → Nat) (cid : Nat → ClassId) (a2 : Nat → Nat) (lx : List Nat) (sg : Nat → Int32) (gm : Nat → Nat → Int32) (lg : Nat → Nat → Int64) (x : Int32) (a : Int32) (b : Int32) (wg : Nat → Nat → Int32) (S : S9) (hI : CI sg gm) (hvx : iv 0 0 x) (hRC : RC wg lg S sg gm) : CMt dC dI ad cid a2 lx l yX4_number wm_X4_number ({ frames := 0, cells := 1, slots := 6, locals := 0 }) [eV (ad 5) x, .int a, .int b] sg gm lg (fun v u => ∃ r : Int32, v = some (.int r) ∧ u = (sg, gm, lg) ∧ (r.toInt = zEv a.toInt b.toInt S)) (fun _ _ => False) := by
  intro sz
  refine vx_ofW (cc := cX4_number) (maxL := 3) (ret := (some .int)) (by decide) rfl ?_
  intro p e s m args below meth c s₁ B hml hxt hv
  obtain ⟨rfl, hsz, hP, hK, hD0, hG⟩ := hv
  have hx := B.exec
  have hb := B.bytes
  have hr := B.returns
  have hts := atoms_spec (ws := wm_X4_number) B.pre
  have htb := fun (w : Cond) (h : w ∈ tb) => hts w (List.mem_cons_of_mem _ h)
  have hown : s.vm.findClass RX4 = some m.cls := findClass_of_methodNamed B.named
  have hlocks := B.notSynchronized
  subst hsz
  have hD := hD0.self (sz := s.heap.size)
  generalize hAe : va_A (cW ad cid a2 lx sg gm lg) s.heap.size = A at hD hG ⊢
  have hA : ∀ q : Nat, s.heap.size ≤ q → A q := fun q h => by rw [← hAe]; exact Or.inr h
  have hS : va_S A s.heap s.heap [] := va_S.rf
  have hl := lv_entry ([eV (ad 5) x, .int a, .int b]) (n := 3) (by rw [show (lg_sl ([eV (ad 5) x, .int a, .int b])).length = 3 from by simp [lg_sl, eV_cat, cat_i, cat_l]]; exact Nat.le_of_ble_eq_true rfl)
  rw [lg_entry_eq]
  generalize (lg_sl ([eV (ad 5) x, .int a, .int b]) ++ List.replicate (3 - (lg_sl ([eV (ad 5) x, .int a, .int b])).length) Slot.unset).toArray = ls at hl ⊢
  have hl : lv_has ls 3 [(0, eV (ad 5) x), (1, .int a), (2, .int b)] := by simp [lv_args, eV_cat, cat_i, cat_l] at hl; exact hl
  have hj34 : ∀ (_ : iv 0 0 x) (_ : ¬ (0 ≤ a.toInt ∧ a.toInt < (sg 13).toInt ∧ 0 ≤ b.toInt ∧ b.toInt < 4)) (H : Heap) (locs : List Loc) (ls : Array Slot), va_P (dC, dI) vwCl (cW ad cid a2 lx sg gm lg) H → va_D A (cW ad cid a2 lx sg gm lg) → va_S A s.heap H locs → lv_has ls 3 [(0, eV (ad 5) x), (1, .int a), (2, .int b)] → W p l e (headSpec wm_X4_number ({ frames := 0, cells := 1, slots := 6, locals := 0 })).room s m ([eV (ad 5) x, .int a, .int b] : List Value).toArray below meth c H locs 0 0 (vx_MQ below (cQx dC dI ad cid a2 lx (fun v u => ∃ r : Int32, v = some (.int r) ∧ u = (sg, gm, lg) ∧ (r.toInt = zEv a.toInt b.toInt S)) A) (cX dC dI ad cid a2 lx (fun _ _ => False) A) ([eV (ad 5) x, .int a, .int b] : List Value).toArray s 1 6 A) (F0 m 34 ls []) := by
    intro  hsx0_34 u34 H locs ls hP hD hS hl
    refine lv_iconst (v := (-1)) hx hb dX4_number_34 (by decide) ?_
    exact W.nb (fun hN => W.widen (k := 1) (n := 6) (by decide) (by decide) (vx_ret (W.iret (v := (-1)) hx hb hr (fun t ht hW => ⟨⟨some (.int (-1)), (sg, gm, lg), rfl, ⟨(-1), rfl, rfl, ((by rw [zEv_n hRC u34]; rfl))⟩, by rw [ht]; exact hP, va_K.moved hW.alike hK, hD⟩, hS.F ht, by rw [ht]; exact hN⟩) hS.2.2 dX4_number_35)))
  refine lv_iload_n hx hb dX4_number_0 rfl (lv_at hl 1 rfl) ?_
  refine lv_if_lt (tgt := 34) hx hb dX4_number_1 (by decide) (fun c_1 => ?_) (fun c_1 => ?_)
  · have h_2 : iv (-2147483648) (-1) a := iv_ltL c_1 (iv_all a) (iv_k (by decide) : iv 0 0 0) (by decide)
    exact hj34 hvx ((by have := i32_0; have := i32_1; have := i32_2; have := i32_m1; have := (show iv 0 400 (sg 13) from CI_s hI 13).1; have := (show iv 0 400 (sg 13) from CI_s hI 13).2; have := (hvx).1; have := (hvx).2; have := (h_2).1; have := (h_2).2; omega)) _ _ _ hP hD hS (lv_sub hl [0, 1, 2] rfl)
  · have h_3 : iv 0 2147483647 a := iv_leR (i32_ge c_1) (iv_k (by decide) : iv 0 0 0) (iv_all a) (by decide)
    refine lv_iload_n hx hb dX4_number_4 rfl (lv_at hl 1 rfl) ?_
    refine ec_aload_n hx hb dX4_number_5 rfl (lv_at hl 0 rfl) ?_
    refine cr_get (t := 5) (j := 1) (C := RX4) (T := TX4) (N := 2) (v := .int (sg 13)) hx hb htb inX4 hown hK hP hvx (by decide) (by decide) (by decide) rfl (by decide) (htb _ kw_397) rfl dX4_number_6 ?_
    refine lv_icmp_ge (tgt := 34) hx hb dX4_number_9 (by decide) (fun c_4 => ?_) (fun c_4 => ?_)
    · have d_5 : ((sg 13) : Int32).toInt ≤ (a : Int32).toInt := Int32.le_iff_toInt_le.mp c_4
      exact hj34 hvx ((by have := i32_0; have := i32_1; have := i32_2; have := i32_m1; have := (show iv 0 400 (sg 13) from CI_s hI 13).1; have := (show iv 0 400 (sg 13) from CI_s hI 13).2; have := (hvx).1; have := (hvx).2; have := (h_3).1; have := (h_3).2; have := ((show iv 0 400 (sg 13) from CI_s hI 13)).1; have := ((show iv 0 400 (sg 13) from CI_s hI 13)).2; omega)) _ _ _ hP hD hS (lv_sub hl [0, 1, 2] rfl)
    · have d_6 : (a : Int32).toInt < ((sg 13) : Int32).toInt := Int32.lt_iff_toInt_lt.mp (i32_lt c_4)
      have h_7 : iv 0 399 a := iv_ltL (i32_lt c_4) h_3 (show iv 0 400 (sg 13) from CI_s hI 13) (by decide)
      have h_8 : iv 1 400 (sg 13) := iv_ltR (i32_lt c_4) h_3 (show iv 0 400 (sg 13) from CI_s hI 13) (by decide)
      refine lv_iload_n hx hb dX4_number_12 rfl (lv_at hl 2 rfl) ?_
      refine lv_if_lt (tgt := 34) hx hb dX4_number_13 (by decide) (fun c_9 => ?_) (fun c_9 => ?_)
      · have h_10 : iv (-2147483648) (-1) b := iv_ltL c_9 (iv_all b) (iv_k (by decide) : iv 0 0 0) (by decide)
        exact hj34 hvx ((by have := i32_0; have := i32_1; have := i32_2; have := i32_m1; have := (show iv 0 400 (sg 13) from CI_s hI 13).1; have := (show iv 0 400 (sg 13) from CI_s hI 13).2; have := (hvx).1; have := (hvx).2; have := (h_7).1; have := (h_7).2; have := (h_8).1; have := (h_8).2; have := (h_10).1; have := (h_10).2; omega)) _ _ _ hP hD hS (lv_sub hl [0, 1, 2] rfl)
      · have h_11 : iv 0 2147483647 b := iv_leR (i32_ge c_9) (iv_k (by decide) : iv 0 0 0) (iv_all b) (by decide)
        refine lv_iload_n hx hb dX4_number_16 rfl (lv_at hl 2 rfl) ?_
        refine lv_iconst (v := 4) hx hb dX4_number_17 (by decide) ?_
        refine lv_icmp_ge (tgt := 34) hx hb dX4_number_18 (by decide) (fun c_12 => ?_) (fun c_12 => ?_)
        · have h_13 : iv 4 2147483647 b := iv_leR c_12 (iv_k (by decide) : iv 4 4 4) h_11 (by decide)
          exact hj34 hvx ((by have := i32_0; have := i32_1; have := i32_2; have := i32_m1; have := (show iv 0 400 (sg 13) from CI_s hI 13).1; have := (show iv 0 400 (sg 13) from CI_s hI 13).2; have := (hvx).1; have := (hvx).2; have := (h_7).1; have := (h_7).2; have := (h_8).1; have := (h_8).2; have := (h_13).1; have := (h_13).2; omega)) _ _ _ hP hD hS (lv_sub hl [0, 1, 2] rfl)
        · have h_14 : iv 0 3 b := iv_ltL (i32_lt c_12) h_11 (iv_k (by decide) : iv 4 4 4) (by decide)
          refine ec_aload_n hx hb dX4_number_21 rfl (lv_at hl 0 rfl) ?_
          refine cr_get (t := 5) (j := 0) (C := RX4) (T := TX4) (N := 2) (v := eV (ad 21) 0) hx hb htb inX4 hown hK hP hvx (by decide) (by decide) (by decide) rfl (by decide) (htb _ kw_396) (cV_c rfl (by decide) (by rw [show cMu 5 0 = 0 from rfl, Nat.zero_mul]; rfl)) dX4_number_22 ?_
          refine lv_iload_n hx hb dX4_number_25 rfl (lv_at hl 1 rfl) ?_
          refine lv_iconst (v := 4) hx hb dX4_number_26 (by decide) ?_
          refine lv_imul hx hb dX4_number_27 ?_
          refine lv_topi (fun z_15 ez_15 => ?_)
          have hz_15 : iv 0 1596 z_15 := iv_of ez_15 (iv_mul h_7 (iv_k (by decide) : iv 4 4 4) (by decide))
          have tz_15 : z_15.toInt = (a : Int32).toInt * 4 := by rw [ez_15]; exact iv_mulE h_7 (iv_k (by decide) : iv 4 4 4) (by decide)
          refine lv_iload_n hx hb dX4_number_28 rfl (lv_at hl 2 rfl) ?_
          refine lv_iadd hx hb dX4_number_29 ?_
          refine lv_topi (fun z_16 ez_16 => ?_)
          have hz_16 : iv 0 1599 z_16 := iv_of ez_16 (iv_add hz_15 h_14 (by decide))
          have tz_16 : z_16.toInt = (z_15 : Int32).toInt + (b : Int32).toInt := by rw [ez_16]; exact iv_addE hz_15 h_14 (by decide)
          refine cr_iald (t := 21) (z := (gm 48 (z_16 : Int32).toNatClampNeg)) hx hb hK hP (iv_k (by decide) : iv 0 0 0) (by decide) (by decide) (by decide) rfl rfl (show vp_in z_16 (cLen 21) from (show vp_in z_16 1600 from (iv_in hz_16 (by decide)))) rfl dX4_number_30 ?_
          obtain ⟨z_17, ez_17⟩ : ∃ z : Int32, z = (gm 48 (z_16 : Int32).toNatClampNeg) := ⟨_, rfl⟩
          refine W.eq (g2 := F0 m 31 ls [.int z_17]) (by rw [ez_17]) ?_
          refine lv_goto (tgt := 35) hx hb dX4_number_31 (by decide) ?_
          exact W.nb (fun hN => W.widen (k := 1) (n := 6) (by decide) (by decide) (vx_ret (W.iret (v := z_17) hx hb hr (fun t ht hW => ⟨⟨some (.int z_17), (sg, gm, lg), rfl, ⟨z_17, rfl, rfl, ((zEv_y hRC (by have := i32_0; have := i32_1; have := i32_2; have := i32_m1; have := (hvx).1; have := (hvx).2; have := (h_7).1; have := (h_7).2; have := (h_8).1; have := (h_8).2; have := (h_14).1; have := (h_14).2; have := (hz_15).1; have := (hz_15).2; have := (hz_16).1; have := (hz_16).2; omega) (by have := i32_0; have := i32_1; have := i32_2; have := i32_m1; have := (show iv 0 400 (sg 13) from CI_s hI 13).1; have := (show iv 0 400 (sg 13) from CI_s hI 13).2; have := (hvx).1; have := (hvx).2; have := (h_7).1; have := (h_7).2; have := (h_8).1; have := (h_8).2; have := (h_14).1; have := (h_14).2; have := (hz_15).1; have := (hz_15).2; have := (hz_16).1; have := (hz_16).2; omega) (by have := i32_0; have := i32_1; have := i32_2; have := i32_m1; have := (hvx).1; have := (hvx).2; have := (h_7).1; have := (h_7).2; have := (h_8).1; have := (h_8).2; have := (h_14).1; have := (h_14).2; have := (hz_15).1; have := (hz_15).2; have := (hz_16).1; have := (hz_16).2; omega) (by have := i32_0; have := i32_1; have := i32_2; have := i32_m1; have := (hvx).1; have := (hvx).2; have := (h_7).1; have := (h_7).2; have := (h_8).1; have := (h_8).2; have := (h_14).1; have := (h_14).2; have := (hz_15).1; have := (hz_15).2; have := (hz_16).1; have := (hz_16).2; omega) ez_17 (by have q1 : (z_16 : Int32).toNatClampNeg = (z_16 : Int32).toInt.toNat := rfl; have := i32_0; have := i32_1; have := i32_2; have := i32_m1; have := (show iv 0 400 (sg 13) from CI_s hI 13).1; have := (show iv 0 400 (sg 13) from CI_s hI 13).2; have := (hvx).1; have := (hvx).2; have := (h_7).1; have := (h_7).2; have := (h_8).1; have := (h_8).2; have := (h_14).1; have := (h_14).2; have := (hz_15).1; have := (hz_15).2; have := (hz_16).1; have := (hz_16).2; omega)))⟩, by rw [ht]; exact hP, va_K.moved hW.alike hK, hD⟩, hS.F ht, by rw [ht]; exact hN⟩) hS.2.2 dX4_number_35)))

set_option maxHeartbeats 4000000 in
set_option maxRecDepth 100000 in
theorem d_events9 (l : Launch) (dC : Nat → ClassId) (dI : Nat → Nat → Nat) (ad : Nat → Nat → Nat) (cid : Nat → ClassId) (a2 : Nat → Nat) (lx : List Nat) (sg : Nat → Int32) (gm : Nat → Nat → Int32) (lg : Nat → Nat → Int64) (x : Int32) (wg : Nat → Nat → Int32) (S : S9) (hI : CI sg gm) (hvx : iv 0 0 x) (hRC : RC wg lg S sg gm) : CMt dC dI ad cid a2 lx l yX12_events wm_X12_events ({ frames := 1, cells := 1, slots := 6, locals := 20 }) [eV (ad 0) x] sg gm lg (fun v u => ∃ r : Int32, v = some (.int r) ∧ u = (sg, gm, lg) ∧ (iv 0 400 r) ∧ (r.toInt = ((zE S).length : Int))) (fun _ _ => False) := by
  intro sz
  refine vx_ofW (cc := cX12_events) (maxL := 1) (ret := (some .int)) (by decide) rfl ?_
  intro p e s m args below meth c s₁ B hml hxt hv
  obtain ⟨rfl, hsz, hP, hK, hD0, hG⟩ := hv
  have hx := B.exec
  have hb := B.bytes
  have hr := B.returns
  have hts := atoms_spec (ws := wm_X12_events) B.pre
  have htb := fun (w : Cond) (h : w ∈ tb) => hts w (List.mem_cons_of_mem _ h)
  have hown : s.vm.findClass RX12 = some m.cls := findClass_of_methodNamed B.named
  have hlocks := B.notSynchronized
  subst hsz
  have hD := hD0.self (sz := s.heap.size)
  generalize hAe : va_A (cW ad cid a2 lx sg gm lg) s.heap.size = A at hD hG ⊢
  have hA : ∀ q : Nat, s.heap.size ≤ q → A q := fun q h => by rw [← hAe]; exact Or.inr h
  have hS : va_S A s.heap s.heap [] := va_S.rf
  have hl := lv_entry ([eV (ad 0) x]) (n := 1) (by rw [show (lg_sl ([eV (ad 0) x])).length = 1 from by simp [lg_sl, eV_cat, cat_i, cat_l]]; exact Nat.le_of_ble_eq_true rfl)
  rw [lg_entry_eq]
  generalize (lg_sl ([eV (ad 0) x]) ++ List.replicate (1 - (lg_sl ([eV (ad 0) x])).length) Slot.unset).toArray = ls at hl ⊢
  have hl : lv_has ls 1 [(0, eV (ad 0) x)] := by simp [lv_args, eV_cat, cat_i, cat_l] at hl; exact hl
  refine ec_aload_n hx hb dX12_events_0 rfl (lv_at hl 0 rfl) ?_
  refine cr_get (t := 0) (j := 6) (C := RX12) (T := TX12) (N := 12) (v := eV (ad 5) 0) hx hb htb inX12 hown hK hP hvx (by decide) (by decide) (by decide) rfl (by decide) (htb _ kw_423) (cV_c rfl (by decide) (by rw [show cMu 0 6 = 0 from rfl, Nat.zero_mul]; rfl)) dX12_events_1 ?_
  refine cm_callV (t := 5) (C := RX4) (T := TX4) (N := 2) (rest := []) (as := []) ⟨hx, hb, hml, hown, htb⟩ (d_countEv9 l dC dI ad cid a2 lx sg gm lg 0 hI (iv_k (by decide) : iv 0 0 0)) (cwV 0 htb (gd_V kw_498 kw_499 kw_500 kw_158 kw_1408) rfl rfl rfl (by decide +kernel) ⟨Nat.le_of_ble_eq_true rfl, Nat.le_of_ble_eq_true rfl⟩) (iv_k (by decide) : iv 0 0 0) (by decide) (by decide) rfl rfl hl.1 rfl (Nat.le_trans cs_n (by decide)) dX12_events_4 ⟨Nat.le_of_ble_eq_true rfl, Nat.le_of_ble_eq_true rfl⟩ hK hP hD hS hA hG (fun E ce q9 u_2 H locs hw hP hD hS hce hcv hcl => ?_) (fun v9 u_2 H locs hw hP hD hS => ?_)
  · exact hw.elim
  obtain ⟨r_1, rfl, rfl, hr_1, fr_r_1⟩ := hw
  have hP : va_P (dC, dI) vwCl (cW ad cid a2 lx sg gm lg) H := hP
  have hD : va_D A (cW ad cid a2 lx sg gm lg) := hD
  refine W.eq (g2 := F0 m 7 ls [.int r_1]) rfl ?_
  exact W.nb (fun hN => W.widen (k := 1) (n := 6) (by decide) (by decide) (vx_ret (W.iret (v := r_1) hx hb hr (fun t ht hW => ⟨⟨some (.int r_1), (sg, gm, lg), rfl, ⟨r_1, rfl, rfl, hr_1, ((by rw [fr_r_1]; exact hRC.2.1.1))⟩, by rw [ht]; exact hP, va_K.moved hW.alike hK, hD⟩, hS.F ht, by rw [ht]; exact hN⟩) hS.2.2 dX12_events_7)))

set_option maxHeartbeats 4000000 in
set_option maxRecDepth 100000 in
theorem d_event9 (l : Launch) (dC : Nat → ClassId) (dI : Nat → Nat → Nat) (ad : Nat → Nat → Nat) (cid : Nat → ClassId) (a2 : Nat → Nat) (lx : List Nat) (sg : Nat → Int32) (gm : Nat → Nat → Int32) (lg : Nat → Nat → Int64) (x : Int32) (k : Int32) (wh : Int32) (wg : Nat → Nat → Int32) (S : S9) (hI : CI sg gm) (hvx : iv 0 0 x) (hRC : RC wg lg S sg gm) : CMt dC dI ad cid a2 lx l yX12_event wm_X12_event ({ frames := 1, cells := 1, slots := 6, locals := 22 }) [eV (ad 0) x, .int k, .int wh] sg gm lg (fun v u => ∃ r : Int32, v = some (.int r) ∧ u = (sg, gm, lg) ∧ (r.toInt = zEv k.toInt wh.toInt S)) (fun _ _ => False) := by
  intro sz
  refine vx_ofW (cc := cX12_event) (maxL := 3) (ret := (some .int)) (by decide) rfl ?_
  intro p e s m args below meth c s₁ B hml hxt hv
  obtain ⟨rfl, hsz, hP, hK, hD0, hG⟩ := hv
  have hx := B.exec
  have hb := B.bytes
  have hr := B.returns
  have hts := atoms_spec (ws := wm_X12_event) B.pre
  have htb := fun (w : Cond) (h : w ∈ tb) => hts w (List.mem_cons_of_mem _ h)
  have hown : s.vm.findClass RX12 = some m.cls := findClass_of_methodNamed B.named
  have hlocks := B.notSynchronized
  subst hsz
  have hD := hD0.self (sz := s.heap.size)
  generalize hAe : va_A (cW ad cid a2 lx sg gm lg) s.heap.size = A at hD hG ⊢
  have hA : ∀ q : Nat, s.heap.size ≤ q → A q := fun q h => by rw [← hAe]; exact Or.inr h
  have hS : va_S A s.heap s.heap [] := va_S.rf
  have hl := lv_entry ([eV (ad 0) x, .int k, .int wh]) (n := 3) (by rw [show (lg_sl ([eV (ad 0) x, .int k, .int wh])).length = 3 from by simp [lg_sl, eV_cat, cat_i, cat_l]]; exact Nat.le_of_ble_eq_true rfl)
  rw [lg_entry_eq]
  generalize (lg_sl ([eV (ad 0) x, .int k, .int wh]) ++ List.replicate (3 - (lg_sl ([eV (ad 0) x, .int k, .int wh])).length) Slot.unset).toArray = ls at hl ⊢
  have hl : lv_has ls 3 [(0, eV (ad 0) x), (1, .int k), (2, .int wh)] := by simp [lv_args, eV_cat, cat_i, cat_l] at hl; exact hl
  refine ec_aload_n hx hb dX12_event_0 rfl (lv_at hl 0 rfl) ?_
  refine cr_get (t := 0) (j := 6) (C := RX12) (T := TX12) (N := 12) (v := eV (ad 5) 0) hx hb htb inX12 hown hK hP hvx (by decide) (by decide) (by decide) rfl (by decide) (htb _ kw_423) (cV_c rfl (by decide) (by rw [show cMu 0 6 = 0 from rfl, Nat.zero_mul]; rfl)) dX12_event_1 ?_
  refine lv_iload_n hx hb dX12_event_4 rfl (lv_at hl 1 rfl) ?_
  refine lv_iload_n hx hb dX12_event_5 rfl (lv_at hl 2 rfl) ?_
  refine cm_callV (t := 5) (C := RX4) (T := TX4) (N := 2) (rest := []) (as := [.int k, .int wh]) ⟨hx, hb, hml, hown, htb⟩ (d_numberEv9 l dC dI ad cid a2 lx sg gm lg 0 k wh wg S hI (iv_k (by decide) : iv 0 0 0) hRC) (cwV 2 htb (gd_V kw_507 kw_508 kw_509 kw_158 kw_1411) rfl rfl rfl (by decide +kernel) ⟨Nat.le_of_ble_eq_true rfl, Nat.le_of_ble_eq_true rfl⟩) (iv_k (by decide) : iv 0 0 0) (by decide) (by decide) rfl rfl hl.1 rfl (Nat.le_trans cs_n (by decide)) dX12_event_6 ⟨Nat.le_of_ble_eq_true rfl, Nat.le_of_ble_eq_true rfl⟩ hK hP hD hS hA hG (fun E ce q9 u_2 H locs hw hP hD hS hce hcv hcl => ?_) (fun v9 u_2 H locs hw hP hD hS => ?_)
  · exact hw.elim
  obtain ⟨r_1, rfl, rfl, fE_r_1⟩ := hw
  have hP : va_P (dC, dI) vwCl (cW ad cid a2 lx sg gm lg) H := hP
  have hD : va_D A (cW ad cid a2 lx sg gm lg) := hD
  refine W.eq (g2 := F0 m 9 ls [.int r_1]) rfl ?_
  exact W.nb (fun hN => W.widen (k := 1) (n := 6) (by decide) (by decide) (vx_ret (W.iret (v := r_1) hx hb hr (fun t ht hW => ⟨⟨some (.int r_1), (sg, gm, lg), rfl, ⟨r_1, rfl, rfl, (fE_r_1)⟩, by rw [ht]; exact hP, va_K.moved hW.alike hK, hD⟩, hS.F ht, by rw [ht]; exact hN⟩) hS.2.2 dX12_event_9)))

set_option maxHeartbeats 4000000 in
set_option maxRecDepth 100000 in
theorem d_object9 (l : Launch) (dC : Nat → ClassId) (dI : Nat → Nat → Nat) (ad : Nat → Nat → Nat) (cid : Nat → ClassId) (a2 : Nat → Nat) (lx : List Nat) (sg : Nat → Int32) (gm : Nat → Nat → Int32) (lg : Nat → Nat → Int64) (x : Int32) (k : Int32) (wh : Int32) (wg : Nat → Nat → Int32) (S : S9) (hI : CI sg gm) (hvx : iv 0 0 x) (hRC : RC wg lg S sg gm) : CMt dC dI ad cid a2 lx l yX12_object wm_X12_object ({ frames := 2, cells := 1, slots := 6, locals := 42 }) [eV (ad 0) x, .int k, .int wh] sg gm lg (fun v u => ∃ r : Int32, v = some (.int r) ∧ u = (sg, gm, lg) ∧ (iv (-1) 79 r) ∧ (r.toInt = zOb k.toInt wh.toInt S)) (fun _ _ => False) := by
  intro sz
  refine vx_ofW (cc := cX12_object) (maxL := 3) (ret := (some .int)) (by decide) rfl ?_
  intro p e s m args below meth c s₁ B hml hxt hv
  obtain ⟨rfl, hsz, hP, hK, hD0, hG⟩ := hv
  have hx := B.exec
  have hb := B.bytes
  have hr := B.returns
  have hts := atoms_spec (ws := wm_X12_object) B.pre
  have htb := fun (w : Cond) (h : w ∈ tb) => hts w (List.mem_cons_of_mem _ h)
  have hown : s.vm.findClass RX12 = some m.cls := findClass_of_methodNamed B.named
  have hlocks := B.notSynchronized
  subst hsz
  have hD := hD0.self (sz := s.heap.size)
  generalize hAe : va_A (cW ad cid a2 lx sg gm lg) s.heap.size = A at hD hG ⊢
  have hA : ∀ q : Nat, s.heap.size ≤ q → A q := fun q h => by rw [← hAe]; exact Or.inr h
  have hS : va_S A s.heap s.heap [] := va_S.rf
  have hl := lv_entry ([eV (ad 0) x, .int k, .int wh]) (n := 3) (by rw [show (lg_sl ([eV (ad 0) x, .int k, .int wh])).length = 3 from by simp [lg_sl, eV_cat, cat_i, cat_l]]; exact Nat.le_of_ble_eq_true rfl)
  rw [lg_entry_eq]
  generalize (lg_sl ([eV (ad 0) x, .int k, .int wh]) ++ List.replicate (3 - (lg_sl ([eV (ad 0) x, .int k, .int wh])).length) Slot.unset).toArray = ls at hl ⊢
  have hl : lv_has ls 3 [(0, eV (ad 0) x), (1, .int k), (2, .int wh)] := by simp [lv_args, eV_cat, cat_i, cat_l] at hl; exact hl
  refine lv_iload_n hx hb dX12_object_0 rfl (lv_at hl 2 rfl) ?_
  refine lv_if_ne (tgt := 13) hx hb dX12_object_1 (by decide) (fun c_1 => ?_) (fun c_1 => ?_)
  · have d_2 : ¬ (wh : Int32).toInt = 0 := lv_neT c_1 rfl
    refine lv_iload_n hx hb dX12_object_13 rfl (lv_at hl 2 rfl) ?_
    refine lv_iconst (v := 1) hx hb dX12_object_14 (by decide) ?_
    refine lv_icmp_ne (tgt := 29) hx hb dX12_object_15 (by decide) (fun c_3 => ?_) (fun c_3 => ?_)
    · have d_4 : ¬ (wh : Int32).toInt = 1 := lv_neT c_3 rfl
      refine lv_iconst (v := (-1)) hx hb dX12_object_29 (by decide) ?_
      exact W.nb (fun hN => W.widen (k := 1) (n := 6) (by decide) (by decide) (vx_ret (W.iret (v := (-1)) hx hb hr (fun t ht hW => ⟨⟨some (.int (-1)), (sg, gm, lg), rfl, ⟨(-1), rfl, rfl, (iv_w (iv_k (by decide) : iv (-1) (-1) (-1)) (by decide)), ((by rw [zOb_w (by have := i32_0; have := i32_1; have := i32_2; have := i32_m1; have := (hvx).1; have := (hvx).2; omega) (by have := i32_0; have := i32_1; have := i32_2; have := i32_m1; have := (hvx).1; have := (hvx).2; omega)]; rfl))⟩, by rw [ht]; exact hP, va_K.moved hW.alike hK, hD⟩, hS.F ht, by rw [ht]; exact hN⟩) hS.2.2 dX12_object_30)))
    · have h_5 : iv 1 1 wh := iv_eq c_3 (iv_all wh) (iv_k (by decide) : iv 1 1 1) (by decide)
      refine ec_aload_n hx hb dX12_object_18 rfl (lv_at hl 0 rfl) ?_
      refine cr_get (t := 0) (j := 7) (C := RX12) (T := TX12) (N := 12) (v := eV (ad 6) 0) hx hb htb inX12 hown hK hP hvx (by decide) (by decide) (by decide) rfl (by decide) (htb _ kw_424) (cV_c rfl (by decide) (by rw [show cMu 0 7 = 0 from rfl, Nat.zero_mul]; rfl)) dX12_object_19 ?_
      refine lv_iload_n hx hb dX12_object_22 rfl (lv_at hl 1 rfl) ?_
      refine cm_callV (t := 6) (C := RX5) (T := TX5) (N := 13) (rest := []) (as := [.int k]) ⟨hx, hb, hml, hown, htb⟩ (d_beanOfObject9 l dC dI ad cid a2 lx sg gm lg 0 k wg S hI (iv_k (by decide) : iv 0 0 0) hRC) (cwV 1 htb (gd_V kw_518 kw_519 kw_520 kw_159 kw_1415) rfl rfl rfl (by decide +kernel) ⟨Nat.le_of_ble_eq_true rfl, Nat.le_of_ble_eq_true rfl⟩) (iv_k (by decide) : iv 0 0 0) (by decide) (by decide) rfl rfl hl.1 rfl (Nat.le_trans cs_n (by decide)) dX12_object_23 ⟨Nat.le_of_ble_eq_true rfl, Nat.le_of_ble_eq_true rfl⟩ hK hP hD hS hA hG (fun E ce q9 u_7 H locs hw hP hD hS hce hcv hcl => ?_) (fun v9 u_7 H locs hw hP hD hS => ?_)
      · exact hw.elim
      obtain ⟨r_6, rfl, rfl, hr_6, fo_r_6⟩ := hw
      have hP : va_P (dC, dI) vwCl (cW ad cid a2 lx sg gm lg) H := hP
      have hD : va_D A (cW ad cid a2 lx sg gm lg) := hD
      refine W.eq (g2 := F0 m 26 ls [.int r_6]) rfl ?_
      refine lv_goto (tgt := 30) hx hb dX12_object_26 (by decide) ?_
      exact W.nb (fun hN => W.widen (k := 1) (n := 6) (by decide) (by decide) (vx_ret (W.iret (v := r_6) hx hb hr (fun t ht hW => ⟨⟨some (.int r_6), (sg, gm, lg), rfl, ⟨r_6, rfl, rfl, hr_6, ((by have q9 := fo_r_6; rw [show wh.toInt = 1 from (by have := i32_0; have := i32_1; have := i32_2; have := i32_m1; have := (hvx).1; have := (hvx).2; have := (h_5).1; have := (h_5).2; have := (hr_6).1; have := (hr_6).2; omega)]; exact q9))⟩, by rw [ht]; exact hP, va_K.moved hW.alike hK, hD⟩, hS.F ht, by rw [ht]; exact hN⟩) hS.2.2 dX12_object_30)))
  · have h_9 : iv 0 0 wh := iv_eq c_1 (iv_all wh) (iv_k (by decide) : iv 0 0 0) (by decide)
    refine ec_aload_n hx hb dX12_object_4 rfl (lv_at hl 0 rfl) ?_
    refine cr_get (t := 0) (j := 7) (C := RX12) (T := TX12) (N := 12) (v := eV (ad 6) 0) hx hb htb inX12 hown hK hP hvx (by decide) (by decide) (by decide) rfl (by decide) (htb _ kw_424) (cV_c rfl (by decide) (by rw [show cMu 0 7 = 0 from rfl, Nat.zero_mul]; rfl)) dX12_object_5 ?_
    refine lv_iload_n hx hb dX12_object_8 rfl (lv_at hl 1 rfl) ?_
    refine cm_callV (t := 6) (C := RX5) (T := TX5) (N := 13) (rest := []) (as := [.int k]) ⟨hx, hb, hml, hown, htb⟩ (d_classOfObject9 l dC dI ad cid a2 lx sg gm lg 0 k wg S hI (iv_k (by decide) : iv 0 0 0) hRC) (cwV 1 htb (gd_V kw_513 kw_514 kw_515 kw_159 kw_1413) rfl rfl rfl (by decide +kernel) ⟨Nat.le_of_ble_eq_true rfl, Nat.le_of_ble_eq_true rfl⟩) (iv_k (by decide) : iv 0 0 0) (by decide) (by decide) rfl rfl hl.1 rfl (Nat.le_trans cs_n (by decide)) dX12_object_9 ⟨Nat.le_of_ble_eq_true rfl, Nat.le_of_ble_eq_true rfl⟩ hK hP hD hS hA hG (fun E ce q9 u_11 H locs hw hP hD hS hce hcv hcl => ?_) (fun v9 u_11 H locs hw hP hD hS => ?_)
    · exact hw.elim
    obtain ⟨r_10, rfl, rfl, hr_10, fo_r_10⟩ := hw
    have hP : va_P (dC, dI) vwCl (cW ad cid a2 lx sg gm lg) H := hP
    have hD : va_D A (cW ad cid a2 lx sg gm lg) := hD
    refine W.eq (g2 := F0 m 12 ls [.int r_10]) rfl ?_
    exact W.nb (fun hN => W.widen (k := 1) (n := 6) (by decide) (by decide) (vx_ret (W.iret (v := r_10) hx hb hr (fun t ht hW => ⟨⟨some (.int r_10), (sg, gm, lg), rfl, ⟨r_10, rfl, rfl, (iv_w hr_10 (by decide)), ((by have q9 := fo_r_10; rw [show wh.toInt = 0 from (by have := i32_0; have := i32_1; have := i32_2; have := i32_m1; have := (hvx).1; have := (hvx).2; have := (h_9).1; have := (h_9).2; have := (hr_10).1; have := (hr_10).2; omega)]; exact q9))⟩, by rw [ht]; exact hP, va_K.moved hW.alike hK, hD⟩, hS.F ht, by rw [ht]; exact hN⟩) hS.2.2 dX12_object_12)))

set_option maxHeartbeats 4000000 in
set_option maxRecDepth 100000 in
theorem d_close9 (l : Launch) (dC : Nat → ClassId) (dI : Nat → Nat → Nat) (ad : Nat → Nat → Nat) (cid : Nat → ClassId) (a2 : Nat → Nat) (lx : List Nat) (sg : Nat → Int32) (gm : Nat → Nat → Int32) (lg : Nat → Nat → Int64) (x : Int32) (wg : Nat → Nat → Int32) (S : S9) (hI : CI sg gm) (hvx : iv 0 0 x) (hFND9 : FND9 sg gm) (hSW : st9 gm = wg) (hRC : RC wg lg S sg gm) : CMt dC dI ad cid a2 lx l yX12_close wm_X12_close ({ frames := 3, cells := 1, slots := 6, locals := 63 }) [eV (ad 0) x] sg gm lg (fun v u => ∃ r : Int32, v = some (.int r) ∧ ∃ (sg2 : Nat → Int32) (gm2 : Nat → Nat → Int32) (lg2 : Nat → Nat → Int64), u = (sg2, gm2, lg2) ∧ CI sg2 gm2 ∧ KS [13, 15] sg sg2 ∧ KS [38, 48] gm gm2 ∧ KS [] lg lg2 ∧ (iv 0 400 r) ∧ (∀ j9, j9 < (sg 12).toNatClampNeg → gm2 38 j9 = 0) ∧ ((sg2 15).toInt = 0) ∧ (RC wg lg (zCl wg S) sg2 gm2) ∧ (r.toInt = ((zE (zCl wg S)).length : Int))) (fun _ _ => False) := by
  intro sz
  refine vx_ofW (cc := cX12_close) (maxL := 1) (ret := (some .int)) (by decide) rfl ?_
  intro p e s m args below meth c s₁ B hml hxt hv
  obtain ⟨rfl, hsz, hP, hK, hD0, hG⟩ := hv
  have hx := B.exec
  have hb := B.bytes
  have hr := B.returns
  have hts := atoms_spec (ws := wm_X12_close) B.pre
  have htb := fun (w : Cond) (h : w ∈ tb) => hts w (List.mem_cons_of_mem _ h)
  have hown : s.vm.findClass RX12 = some m.cls := findClass_of_methodNamed B.named
  have hlocks := B.notSynchronized
  subst hsz
  have hD := hD0.self (sz := s.heap.size)
  generalize hAe : va_A (cW ad cid a2 lx sg gm lg) s.heap.size = A at hD hG ⊢
  have hA : ∀ q : Nat, s.heap.size ≤ q → A q := fun q h => by rw [← hAe]; exact Or.inr h
  have hS : va_S A s.heap s.heap [] := va_S.rf
  have hl := lv_entry ([eV (ad 0) x]) (n := 1) (by rw [show (lg_sl ([eV (ad 0) x])).length = 1 from by simp [lg_sl, eV_cat, cat_i, cat_l]]; exact Nat.le_of_ble_eq_true rfl)
  rw [lg_entry_eq]
  generalize (lg_sl ([eV (ad 0) x]) ++ List.replicate (1 - (lg_sl ([eV (ad 0) x])).length) Slot.unset).toArray = ls at hl ⊢
  have hl : lv_has ls 1 [(0, eV (ad 0) x)] := by simp [lv_args, eV_cat, cat_i, cat_l] at hl; exact hl
  refine ec_aload_n hx hb dX12_close_0 rfl (lv_at hl 0 rfl) ?_
  refine cr_get (t := 0) (j := 7) (C := RX12) (T := TX12) (N := 12) (v := eV (ad 6) 0) hx hb htb inX12 hown hK hP hvx (by decide) (by decide) (by decide) rfl (by decide) (htb _ kw_424) (cV_c rfl (by decide) (by rw [show cMu 0 7 = 0 from rfl, Nat.zero_mul]; rfl)) dX12_close_1 ?_
  refine cm_callV (t := 6) (C := RX5) (T := TX5) (N := 13) (rest := []) (as := []) ⟨hx, hb, hml, hown, htb⟩ (d_destroyAll9 l dC dI ad cid a2 lx sg gm lg 0 wg S hI (iv_k (by decide) : iv 0 0 0) hFND9 hSW hRC) (cwV 0 htb (gd_V kw_484 kw_485 kw_486 kw_159 kw_1403) rfl rfl rfl (by decide +kernel) ⟨Nat.le_of_ble_eq_true rfl, Nat.le_of_ble_eq_true rfl⟩) (iv_k (by decide) : iv 0 0 0) (by decide) (by decide) rfl rfl hl.1 rfl (Nat.le_trans cs_n (by decide)) dX12_close_4 ⟨Nat.le_of_ble_eq_true rfl, Nat.le_of_ble_eq_true rfl⟩ hK hP hD hS hA hG (fun E ce q9 u_2 H locs hw hP hD hS hce hcv hcl => ?_) (fun v9 u_2 H locs hw hP hD hS => ?_)
  · exact hw.elim
  obtain ⟨rfl, sgv_3, gmv_3, lgv_3, rfl, hIv_3, ksv_3, kgv_3, klv_3, fM_r_1, f15_r_1, fR_r_1⟩ := hw
  obtain rfl := KS_nil klv_3
  have hP : va_P (dC, dI) vwCl (cW ad cid a2 lx sgv_3 gmv_3 lg) H := hP
  have hD : va_D A (cW ad cid a2 lx sgv_3 gmv_3 lg) := hD
  refine W.eq (g2 := F0 m 7 ls []) rfl ?_
  refine ec_aload_n hx hb dX12_close_7 rfl (lv_at hl 0 rfl) ?_
  refine cr_get (t := 0) (j := 6) (C := RX12) (T := TX12) (N := 12) (v := eV (ad 5) 0) hx hb htb inX12 hown hK hP hvx (by decide) (by decide) (by decide) rfl (by decide) (htb _ kw_423) (cV_c rfl (by decide) (by rw [show cMu 0 6 = 0 from rfl, Nat.zero_mul]; rfl)) dX12_close_8 ?_
  refine cm_callV (t := 5) (C := RX4) (T := TX4) (N := 2) (rest := []) (as := []) ⟨hx, hb, hml, hown, htb⟩ (d_countEv9 l dC dI ad cid a2 lx sgv_3 gmv_3 lg 0 hIv_3 (iv_k (by decide) : iv 0 0 0)) (cwV 0 htb (gd_V kw_498 kw_499 kw_500 kw_158 kw_1408) rfl rfl rfl (by decide +kernel) ⟨Nat.le_of_ble_eq_true rfl, Nat.le_of_ble_eq_true rfl⟩) (iv_k (by decide) : iv 0 0 0) (by decide) (by decide) rfl rfl hl.1 rfl (Nat.le_trans cs_n (by decide)) dX12_close_11 ⟨Nat.le_of_ble_eq_true rfl, Nat.le_of_ble_eq_true rfl⟩ hK hP hD hS hA hG (fun E ce q9 u_5 H locs hw hP hD hS hce hcv hcl => ?_) (fun v9 u_5 H locs hw hP hD hS => ?_)
  · exact hw.elim
  obtain ⟨r_4, rfl, rfl, hr_4, fr_r_4⟩ := hw
  have hP : va_P (dC, dI) vwCl (cW ad cid a2 lx sgv_3 gmv_3 lg) H := hP
  have hD : va_D A (cW ad cid a2 lx sgv_3 gmv_3 lg) := hD
  refine W.eq (g2 := F0 m 14 ls [.int r_4]) rfl ?_
  exact W.nb (fun hN => W.widen (k := 1) (n := 6) (by decide) (by decide) (vx_ret (W.iret (v := r_4) hx hb hr (fun t ht hW => ⟨⟨some (.int r_4), (sgv_3, gmv_3, lg), rfl, ⟨r_4, rfl, sgv_3, gmv_3, lg, rfl, hIv_3, (KS_tr (L := [13, 15]) KS_rf ksv_3 (by decide)), (KS_tr (L := [38, 48]) KS_rf kgv_3 (by decide)), KS_rf, hr_4, (fM_r_1), (f15_r_1), (fR_r_1), ((by rw [fr_r_4]; exact fR_r_1.2.1.1))⟩, by rw [ht]; exact hP, va_K.moved hW.alike hK, hD⟩, hS.F ht, by rw [ht]; exact hN⟩) hS.2.2 dX12_close_14)))

set_option maxHeartbeats 4000000 in
set_option maxRecDepth 100000 in
theorem d_refresh9 (l : Launch) (dC : Nat → ClassId) (dI : Nat → Nat → Nat) (ad : Nat → Nat → Nat) (cid : Nat → ClassId) (a2 : Nat → Nat) (lx : List Nat) (sg : Nat → Int32) (gm : Nat → Nat → Int32) (lg : Nat → Nat → Int64) (hl9 : l.stackTraces = false) (x : Int32) (wg : Nat → Nat → Int32) (ws : Nat → Int32) (S : S9) (hI : CI sg gm) (hvx : iv 0 0 x) (hDC : (sg 1).toInt = 0 ∨ (WRD sg gm lg ∧ MOK sg gm lg)) (hLD : LDI lx gm) (hFN : FND9 sg gm) (hSW : st9 gm = wg) (hSS : ss9 sg = ws) (hSV : (sg 1).toInt = 0 ∨ SV ws wg lg) (hRC : RC wg lg S sg gm) : CMg dC dI ad cid l yX12_refresh wm_X12_refresh ({ frames := 344, cells := 60962, slots := 243852, locals := 11086 }) [eV (ad 0) x] a2 lx sg gm lg 1 60962 243852 (fun v u => ∃ r : Int32, v = some (.int r) ∧ ∃ (sg2 : Nat → Int32) (gm2 : Nat → Nat → Int32) (lg2 : Nat → Nat → Int64), u = (a2, lx, sg2, gm2, lg2) ∧ CI sg2 gm2 ∧ KS [13, 14, 15, 16, 17, 18] sg sg2 ∧ KS [37, 38, 39, 48, 49, 50, 51, 52, 53] gm gm2 ∧ KS [] lg lg2 ∧ (iv 0 60 r) ∧ ((sg 1).toInt = 0 ∨ MOK sg2 gm2 lg2) ∧ (FND9 sg2 gm2) ∧ (¬ (sg 1).toInt = 0 ∧ ∃ S2, zRf ws wg lg 40 S = (some r.toInt, S2) ∧ RC wg lg S2 sg2 gm2)) (fun E u => (E = "java/lang/IllegalStateException" ∨ E = "java/lang/UnsupportedOperationException") ∧ ∃ (sg2 : Nat → Int32) (gm2 : Nat → Nat → Int32) (lg2 : Nat → Nat → Int64), u = (a2, lx, sg2, gm2, lg2) ∧ CI sg2 gm2 ∧ KS [13, 14, 15, 16, 17, 18] sg sg2 ∧ KS [37, 38, 39, 48, 49, 50, 51, 52, 53] gm gm2 ∧ KS [] lg lg2 ∧ ((sg 1).toInt = 0 ∨ MOK sg2 gm2 lg2) ∧ (FND9 sg2 gm2) ∧ ((E = "java/lang/IllegalStateException" ∧ (sg 1).toInt = 0 ∧ RC wg lg S sg2 gm2) ∨ (E = "java/lang/UnsupportedOperationException" ∧ ¬ (sg 1).toInt = 0 ∧ ∃ S2, zRf ws wg lg 40 S = (none, S2) ∧ RC wg lg S2 sg2 gm2))) := by
  intro sz
  refine vx_ofW (cc := cX12_refresh) (maxL := 1) (ret := (some .int)) (by decide) rfl ?_
  intro p e s m args below meth c s₁ B hml hxt hv
  obtain ⟨rfl, hsz, hP, hK, hD0, hG⟩ := hv
  have hx := B.exec
  have hb := B.bytes
  have hr := B.returns
  have hts := atoms_spec (ws := wm_X12_refresh) B.pre
  have htb := fun (w : Cond) (h : w ∈ tb) => hts w (List.mem_cons_of_mem _ h)
  have hown : s.vm.findClass RX12 = some m.cls := findClass_of_methodNamed B.named
  have hlocks := B.notSynchronized
  subst hsz
  have hD := hD0.self (sz := s.heap.size)
  generalize hAe : va_A (cW ad cid a2 lx sg gm lg) s.heap.size = A at hD hG ⊢
  have hA : ∀ q : Nat, s.heap.size ≤ q → A q := fun q h => by rw [← hAe]; exact Or.inr h
  have hS : va_S A s.heap s.heap [] := va_S.rf
  have hl := lv_entry ([eV (ad 0) x]) (n := 1) (by rw [show (lg_sl ([eV (ad 0) x])).length = 1 from by simp [lg_sl, eV_cat, cat_i, cat_l]]; exact Nat.le_of_ble_eq_true rfl)
  rw [lg_entry_eq]
  generalize (lg_sl ([eV (ad 0) x]) ++ List.replicate (1 - (lg_sl ([eV (ad 0) x])).length) Slot.unset).toArray = ls at hl ⊢
  have hl : lv_has ls 1 [(0, eV (ad 0) x)] := by simp [lv_args, eV_cat, cat_i, cat_l] at hl; exact hl
  refine W.widen (k := gc gm gm 0) (n := gs gm gm 0) (Nat.zero_le _) (Nat.zero_le _) ?_
  refine ec_aload_n hx hb dX12_refresh_0 rfl (lv_at hl 0 rfl) ?_
  refine cr_get (t := 0) (j := 7) (C := RX12) (T := TX12) (N := 12) (v := eV (ad 6) 0) hx hb htb inX12 hown hK hP hvx (by decide) (by decide) (by decide) rfl (by decide) (htb _ kw_424) (cV_c rfl (by decide) (by rw [show cMu 0 7 = 0 from rfl, Nat.zero_mul]; rfl)) dX12_refresh_1 ?_
  refine cm_callTV (t := 6) (C := RX5) (T := TX5) (N := 13) (rest := []) (as := []) ⟨hx, hb, hml, hown, htb⟩ (d_forgetFailure l dC dI ad cid a2 lx sg gm lg 0 hI (iv_k (by decide) : iv 0 0 0)) (cwV 0 htb (gd_V kw_883 kw_884 kw_885 kw_159 kw_1525) rfl rfl rfl (by decide +kernel) ⟨Nat.le_of_ble_eq_true rfl, Nat.le_of_ble_eq_true rfl⟩) (iv_k (by decide) : iv 0 0 0) (by decide) (by decide) rfl rfl hl.1 rfl (Nat.le_trans cs_n (by decide)) dX12_refresh_4 ⟨Nat.le_trans (gc_le hI) (Nat.le_of_ble_eq_true rfl), Nat.le_trans (gs_le hI) (Nat.le_of_ble_eq_true rfl)⟩ hK hP hD hS hA hG (fun E ce q9 u_2 H locs hw hP hD hS hce hcv hcl => ?_) (fun v9 u_2 H locs hw hP hD hS => ?_)
  · exact hw.elim
  obtain ⟨rfl, sgv_3, gmv_3, lgv_3, rfl, hIv_3, ksv_3, kgv_3, klv_3⟩ := hw
  obtain rfl := KS_nil kgv_3
  obtain rfl := KS_nil klv_3
  have hP : va_P (dC, dI) vwCl (cW ad cid a2 lx sgv_3 gm lg) H := hP
  have hD : va_D A (cW ad cid a2 lx sgv_3 gm lg) := hD
  refine W.eq (g2 := F0 m 7 ls []) rfl ?_
  refine ec_aload_n hx hb dX12_refresh_7 rfl (lv_at hl 0 rfl) ?_
  refine cr_get (t := 0) (j := 9) (C := RX12) (T := TX12) (N := 12) (v := .int (sgv_3 1)) hx hb htb inX12 hown hK hP hvx (by decide) (by decide) (by decide) rfl (by decide) (htb _ kw_426) rfl dX12_refresh_8 ?_
  refine W.eq (g2 := F0 m 11 ls [.int (sg 1)]) (by rw [show sgv_3 1 = sg 1 from (ksv_3 1 (by decide))]) ?_
  refine lv_if_ne (tgt := 22) hx hb dX12_refresh_11 (by decide) (fun c_4 => ?_) (fun c_4 => ?_)
  · have h_5 : iv 1 1 (sg 1) := iv_neL c_4 (show iv 0 1 (sg 1) from CI_s hI 1) (by decide)
    have hdc := hDC.resolve_left (by have := i32_0; have := i32_1; have := i32_2; have := i32_m1; have := congrArg Int32.toInt (show sgv_3 1 = sg 1 from ksv_3 1 (by decide)); have := (show iv 0 1 (sg 1) from CI_s hI 1).1; have := (show iv 0 1 (sg 1) from CI_s hI 1).2; have := (hvx).1; have := (hvx).2; have := (h_5).1; have := (h_5).2; omega)
    have hW := hdc.1
    have hMO := hdc.2
    have hSV := hSV.resolve_left (by have := i32_0; have := i32_1; have := i32_2; have := i32_m1; have := congrArg Int32.toInt (show sgv_3 1 = sg 1 from ksv_3 1 (by decide)); have := (show iv 0 1 (sg 1) from CI_s hI 1).1; have := (show iv 0 1 (sg 1) from CI_s hI 1).2; have := (hvx).1; have := (hvx).2; have := (h_5).1; have := (h_5).2; omega)
    refine ec_aload_n hx hb dX12_refresh_22 rfl (lv_at hl 0 rfl) ?_
    refine cr_get (t := 0) (j := 7) (C := RX12) (T := TX12) (N := 12) (v := eV (ad 6) 0) hx hb htb inX12 hown hK hP hvx (by decide) (by decide) (by decide) rfl (by decide) (htb _ kw_424) (cV_c rfl (by decide) (by rw [show cMu 0 7 = 0 from rfl, Nat.zero_mul]; rfl)) dX12_refresh_23 ?_
    refine cm_callGVX (t := 6) (C := RX5) (T := TX5) (N := 13) (rest := []) (as := []) ⟨hx, hb, hml, hown, htb⟩ (d_renewsAll9 l dC dI ad cid a2 lx sgv_3 gm lg hl9 0 wg ws S hIv_3 (iv_k (by decide) : iv 0 0 0) (WRD_e hW (ksv_3 4 (by decide)) (ksv_3 12 (by decide)) rfl rfl rfl rfl rfl rfl rfl rfl rfl rfl rfl rfl rfl rfl rfl rfl rfl rfl) hLD hSW ((ss9_ks (L := [17, 18]) (KS_tr (L := [17, 18]) KS_rf ksv_3 (by decide)) rfl rfl).trans hSS) hSV (RC_ks (L := [17, 18]) (M := []) hRC (KS_tr (L := [17, 18]) KS_rf ksv_3 (by decide)) KS_rf (by decide) (by decide))) (vx_cwVW 0 htb (gd_V kw_887 kw_888 kw_889 kw_159 kw_1526) rfl rfl rfl (by decide +kernel) ⟨Nat.le_of_ble_eq_true rfl, Nat.le_of_ble_eq_true rfl⟩) (iv_k (by decide) : iv 0 0 0) (by decide) (by decide) rfl rfl hl.1 rfl (Nat.le_trans cs_n (by decide)) dX12_refresh_26 ⟨Nat.le_trans (gc_le hI) (Nat.le_of_ble_eq_true rfl), Nat.le_trans (gs_le hI) (Nat.le_of_ble_eq_true rfl)⟩ hK hP hD hS hA hG (fun E ce q9 u_7 H locs hw hmu hP hD hS hce hcv hcl => ?_) (fun v9 u_7 H locs hw hmu hP hD hS => ?_)
    · exact hw.elim
    obtain ⟨r_6, rfl, sgv_8, gmv_8, lgv_8, rfl, hIv_8, ksv_8, kgv_8, klv_8, hr_6, fMO_r_6, fFN_r_6, fR_r_6⟩ := hw
    obtain rfl := KS_nil klv_8
    have hP : va_P (dC, dI) vwCl (cW ad cid a2 lx sgv_8 gmv_8 lg) H := hP
    have hD : va_D A (cW ad cid a2 lx sgv_8 gmv_8 lg) := hD
    have hmu : PHs gm ≤ PHs gmv_8 := hmu
    rw [show (gc gm gm 0 + gc gm gmv_8 1) = gc gm gmv_8 1 from gc_t (Nat.le_refl _) hmu, show (gs gm gm 0 + gs gm gmv_8 1) = gs gm gmv_8 1 from gs_t (Nat.le_refl _) hmu]
    have hm_9 : PHs gm ≤ PHs gmv_8 := Nat.le_trans (Nat.le_refl _) hmu
    refine W.eq (g2 := F0 m 29 ls [.int r_6]) rfl ?_
    refine lv_if_ne (tgt := 40) hx hb dX12_refresh_29 (by decide) (fun c_10 => ?_) (fun c_10 => ?_)
    · have h_11 : iv 1 1 r_6 := iv_neL c_10 hr_6 (by decide)
      refine ec_aload_n hx hb dX12_refresh_40 rfl (lv_at hl 0 rfl) ?_
      refine cr_get (t := 0) (j := 7) (C := RX12) (T := TX12) (N := 12) (v := eV (ad 6) 0) hx hb htb inX12 hown hK hP hvx (by decide) (by decide) (by decide) rfl (by decide) (htb _ kw_424) (cV_c rfl (by decide) (by rw [show cMu 0 7 = 0 from rfl, Nat.zero_mul]; rfl)) dX12_refresh_41 ?_
      refine cm_callTV (t := 6) (C := RX5) (T := TX5) (N := 13) (rest := []) (as := []) ⟨hx, hb, hml, hown, htb⟩ (d_objectCount9 l dC dI ad cid a2 lx sgv_8 gmv_8 lg 0 hIv_8 (iv_k (by decide) : iv 0 0 0)) (cwV 0 htb (gd_V kw_969 kw_970 kw_971 kw_159 kw_1556) rfl rfl rfl (by decide +kernel) ⟨Nat.le_of_ble_eq_true rfl, Nat.le_of_ble_eq_true rfl⟩) (iv_k (by decide) : iv 0 0 0) (by decide) (by decide) rfl rfl hl.1 rfl (Nat.le_trans cs_n (by decide)) dX12_refresh_44 ⟨Nat.le_trans (gc_le hIv_8) (Nat.le_of_ble_eq_true rfl), Nat.le_trans (gs_le hIv_8) (Nat.le_of_ble_eq_true rfl)⟩ hK hP hD hS hA hG (fun E ce q9 u_13 H locs hw hP hD hS hce hcv hcl => ?_) (fun v9 u_13 H locs hw hP hD hS => ?_)
      · exact hw.elim
      obtain ⟨r_12, rfl, rfl, hr_12, fr_r_12⟩ := hw
      have hP : va_P (dC, dI) vwCl (cW ad cid a2 lx sgv_8 gmv_8 lg) H := hP
      have hD : va_D A (cW ad cid a2 lx sgv_8 gmv_8 lg) := hD
      refine W.eq (g2 := F0 m 47 ls [.int r_12]) rfl ?_
      exact W.nb (fun hN => W.widen (k := 60962) (n := 243852) (Nat.le_trans (gc_l0 (gm := gm) (k := 1) hIv_8) (Nat.le_of_ble_eq_true rfl)) (Nat.le_trans (gs_l0 (gm := gm) (k := 1) hIv_8) (Nat.le_of_ble_eq_true rfl)) (vx_ret (W.iret (v := r_12) hx hb hr (fun t ht hW => ⟨⟨some (.int r_12), (a2, lx, sgv_8, gmv_8, lg), rfl, ⟨r_12, rfl, sgv_8, gmv_8, lg, rfl, hIv_8, (KS_tr (L := [13, 14, 15, 16, 17, 18]) (KS_tr (L := [13, 14, 15, 16, 17, 18]) KS_rf ksv_3 (by decide)) ksv_8 (by decide)), (KS_tr (L := [37, 38, 39, 48, 49, 50, 51, 52, 53]) KS_rf kgv_8 (by decide)), KS_rf, hr_12, (Or.inr fMO_r_6), (fFN_r_6), ((by obtain ⟨_, S2, h1, h2⟩ := fR_r_6.resolve_right (fun q8 => absurd q8.1 (by have := i32_0; have := i32_1; have := i32_2; have := i32_m1; have := (hvx).1; have := (hvx).2; have := (h_5).1; have := (h_5).2; have := (h_11).1; have := (h_11).2; have := (hr_12).1; have := (hr_12).2; omega)); exact ⟨(by have := i32_0; have := i32_1; have := i32_2; have := i32_m1; have := congrArg Int32.toInt (show sgv_8 1 = sgv_3 1 from ksv_8 1 (by decide)); have := congrArg Int32.toInt (show sgv_3 1 = sg 1 from ksv_3 1 (by decide)); have := (show iv 0 1 (sg 1) from CI_s hI 1).1; have := (show iv 0 1 (sg 1) from CI_s hI 1).2; have := (hvx).1; have := (hvx).2; have := (h_5).1; have := (h_5).2; have := (h_11).1; have := (h_11).2; have := (hr_12).1; have := (hr_12).2; omega), S2, (by rw [h1, fr_r_12]), h2⟩))⟩, ⟨by rw [ht]; exact hP, va_K.moved hW.alike hK, hD⟩, hm_9, by rw [ht]; exact hN⟩, hS.F ht⟩) hS.2.2 dX12_refresh_47)))
    · have h_15 : iv 0 0 r_6 := iv_eq c_10 hr_6 (iv_k (by decide) : iv 0 0 0) (by decide)
      refine vx_throw1 (own := RX12) (cls := "java/lang/UnsupportedOperationException") (names := ["java/lang/RuntimeException", "java/lang/Exception"]) (ik := 151) (ic := 153) (A := A) hx hb hl9 hown (by decide +kernel) (by decide +kernel) (htb _ kw_968) (htb _ kw_174) (vx_hat (fun w h => htb w (inT_3 w h)) inU_3 (vx_c (va_Nw.use rfl hG.2.1.1) (vx_c (va_Nw.use rfl hG.1.2.1.2.2.1) (vx_c (va_Nw.use rfl hG.1.2.1.2.2.2.1) (vx_c (va_Nw.use rfl hG.1.2.1.2.2.2.2) vx_n))))) (fun w hw => ?_) hG.1.2.2.2.1 hG.1.2.2.2.2 hS (by rw [hml]; exact hl.1) dX12_refresh_32 dX12_refresh_35 dX12_refresh_36 dX12_refresh_39 (fun x hx9 => (hxt x hx9).elim) (Nat.le_of_ble_eq_true rfl) (Nat.le_trans (Nat.add_le_add_right (show _ ≤ 8 from (Nat.le_trans cs_n (by decide))) _) (Nat.le_of_ble_eq_true rfl)) (Nat.le_trans (gc_le (gm := gm) (k := 1) (j := 1) hIv_8) (Nat.le_of_ble_eq_true rfl)) (Nat.le_trans (gs_le (gm := gm) (k := 1) (j := 6) hIv_8) (Nat.le_of_ble_eq_true rfl)) hlocks (fun t ht1 hz2 hk2 hnb => ⟨⟨(a2, lx, sgv_8, gmv_8, lg), ⟨(Or.inr rfl), sgv_8, gmv_8, lg, rfl, hIv_8, (KS_tr (L := [13, 14, 15, 16, 17, 18]) (KS_tr (L := [13, 14, 15, 16, 17, 18]) KS_rf ksv_3 (by decide)) ksv_8 (by decide)), (KS_tr (L := [37, 38, 39, 48, 49, 50, 51, 52, 53]) KS_rf kgv_8 (by decide)), KS_rf, (Or.inr fMO_r_6), (fFN_r_6), ((by obtain ⟨_, S2, h1, h2⟩ := fR_r_6.resolve_left (fun q8 => absurd q8.1 (by have := i32_0; have := i32_1; have := i32_2; have := i32_m1; have := (hvx).1; have := (hvx).2; have := (h_5).1; have := (h_5).2; have := (h_15).1; have := (h_15).2; omega)); exact Or.inr ⟨rfl, (by have := i32_0; have := i32_1; have := i32_2; have := i32_m1; have := congrArg Int32.toInt (show sgv_8 1 = sgv_3 1 from ksv_8 1 (by decide)); have := congrArg Int32.toInt (show sgv_3 1 = sg 1 from ksv_3 1 (by decide)); have := (show iv 0 1 (sg 1) from CI_s hI 1).1; have := (show iv 0 1 (sg 1) from CI_s hI 1).2; have := (hvx).1; have := (hvx).2; have := (h_5).1; have := (h_5).2; have := (h_15).1; have := (h_15).2; omega), S2, h1, h2⟩))⟩, ⟨hP.kept (fun k q hq => hk2 _ (vx_lt hP hq)), va_K.moved ht1 hK, hD⟩, hm_9, NBw_w hnb (show gc gm gmv_8 1 + 1 ≤ gc gm gmv_8 (1 + 1) from (by unfold gc; omega)) (show gs gm gmv_8 1 + 6 ≤ gs gm gmv_8 (1 + 1) from (by unfold gs; omega))⟩, ⟨Nat.le_trans hS.1 hz2, fun q h1 h2 => (hk2 q (Nat.lt_of_lt_of_le h1 hS.1)).trans (hS.2.1 q h1 h2)⟩⟩) hS.2.2 (Nat.le_trans (gc_le (gm := gm) (k := 1) (j := 1) hIv_8) (Nat.le_of_ble_eq_true rfl)) (Nat.le_trans (gs_le (gm := gm) (k := 1) (j := 6) hIv_8) (Nat.le_of_ble_eq_true rfl))
      rcases List.mem_cons.mp hw with rfl | hw
      · rfl
      rcases List.mem_cons.mp hw with rfl | hw
      · rfl
      exact inV_3 w hw
  · have h_16 : iv 0 0 (sg 1) := iv_eq c_4 (show iv 0 1 (sg 1) from CI_s hI 1) (iv_k (by decide) : iv 0 0 0) (by decide)
    refine vx_throw1 (own := RX12) (cls := "java/lang/IllegalStateException") (names := ["java/lang/RuntimeException", "java/lang/Exception"]) (ik := 144) (ic := 146) (A := A) hx hb hl9 hown (by decide +kernel) (by decide +kernel) (htb _ kw_886) (htb _ kw_173) (vx_hat (fun w h => htb w (inT_2 w h)) inU_2 (vx_c (va_Nw.use rfl hG.1.2.1.2.1) (vx_c (va_Nw.use rfl hG.1.2.1.2.2.1) (vx_c (va_Nw.use rfl hG.1.2.1.2.2.2.1) (vx_c (va_Nw.use rfl hG.1.2.1.2.2.2.2) vx_n))))) (fun w hw => ?_) hG.1.2.2.2.1 hG.1.2.2.2.2 hS (by rw [hml]; exact hl.1) dX12_refresh_14 dX12_refresh_17 dX12_refresh_18 dX12_refresh_21 (fun x hx9 => (hxt x hx9).elim) (Nat.le_of_ble_eq_true rfl) (Nat.le_trans (Nat.add_le_add_right (show _ ≤ 8 from (Nat.le_trans cs_n (by decide))) _) (Nat.le_of_ble_eq_true rfl)) (Nat.le_trans (gc_le (gm := gm) (k := 0) (j := 1) hI) (Nat.le_of_ble_eq_true rfl)) (Nat.le_trans (gs_le (gm := gm) (k := 0) (j := 6) hI) (Nat.le_of_ble_eq_true rfl)) hlocks (fun t ht1 hz2 hk2 hnb => ⟨⟨(a2, lx, sgv_3, gm, lg), ⟨(Or.inl rfl), sgv_3, gm, lg, rfl, hIv_3, (KS_tr (L := [13, 14, 15, 16, 17, 18]) KS_rf ksv_3 (by decide)), KS_rf, KS_rf, (Or.inl (by have := i32_0; have := i32_1; have := i32_2; have := i32_m1; have := congrArg Int32.toInt (show sgv_3 1 = sg 1 from ksv_3 1 (by decide)); have := (show iv 0 1 (sg 1) from CI_s hI 1).1; have := (show iv 0 1 (sg 1) from CI_s hI 1).2; have := (hvx).1; have := (hvx).2; have := (h_16).1; have := (h_16).2; omega)), ((FND9_e hFN (show sgv_3 15 = sg 15 from (ksv_3 15 (by decide))) rfl)), (Or.inl ⟨rfl, by have := i32_0; have := i32_1; have := i32_2; have := i32_m1; have := congrArg Int32.toInt (show sgv_3 1 = sg 1 from ksv_3 1 (by decide)); have := (show iv 0 1 (sg 1) from CI_s hI 1).1; have := (show iv 0 1 (sg 1) from CI_s hI 1).2; have := (hvx).1; have := (hvx).2; have := (h_16).1; have := (h_16).2; omega, (RC_ks (L := [17, 18]) (M := []) hRC (KS_tr (L := [17, 18]) KS_rf ksv_3 (by decide)) KS_rf (by decide) (by decide))⟩)⟩, ⟨hP.kept (fun k q hq => hk2 _ (vx_lt hP hq)), va_K.moved ht1 hK, hD⟩, (Nat.le_refl _), NBw_w hnb (show gc gm gm 0 + 1 ≤ gc gm gm (1 + 1) from (by unfold gc; omega)) (show gs gm gm 0 + 6 ≤ gs gm gm (1 + 1) from (by unfold gs; omega))⟩, ⟨Nat.le_trans hS.1 hz2, fun q h1 h2 => (hk2 q (Nat.lt_of_lt_of_le h1 hS.1)).trans (hS.2.1 q h1 h2)⟩⟩) hS.2.2 (Nat.le_trans (gc_le (gm := gm) (k := 0) (j := 1) hI) (Nat.le_of_ble_eq_true rfl)) (Nat.le_trans (gs_le (gm := gm) (k := 0) (j := 6) hI) (Nat.le_of_ble_eq_true rfl))
    rcases List.mem_cons.mp hw with rfl | hw
    · rfl
    rcases List.mem_cons.mp hw with rfl | hw
    · rfl
    exact inV_2 w hw

set_option maxHeartbeats 4000000 in
set_option maxRecDepth 100000 in
theorem d_get9 (l : Launch) (dC : Nat → ClassId) (dI : Nat → Nat → Nat) (ad : Nat → Nat → Nat) (cid : Nat → ClassId) (a2 : Nat → Nat) (lx : List Nat) (sg : Nat → Int32) (gm : Nat → Nat → Int32) (lg : Nat → Nat → Int64) (hl9 : l.stackTraces = false) (x : Int32) (nm : Int64) (wg : Nat → Nat → Int32) (ws : Nat → Int32) (S : S9) (hI : CI sg gm) (hvx : iv 0 0 x) (hDC : (sg 1).toInt = 0 ∨ (WRD sg gm lg ∧ MOK sg gm lg)) (hLD : LDI lx gm) (hFN : FND9 sg gm) (hSW : st9 gm = wg) (hSS : ss9 sg = ws) (hSV : (sg 1).toInt = 0 ∨ SV ws wg lg) (hRC : RC wg lg S sg gm) : CMg dC dI ad cid l yX12_get wm_X12_get ({ frames := 344, cells := 60962, slots := 243852, locals := 11087 }) [eV (ad 0) x, .long nm] a2 lx sg gm lg 1 60962 243852 (fun v u => ∃ r : Int32, v = some (.int r) ∧ ∃ (sg2 : Nat → Int32) (gm2 : Nat → Nat → Int32) (lg2 : Nat → Nat → Int64), u = (a2, lx, sg2, gm2, lg2) ∧ CI sg2 gm2 ∧ KS [13, 14, 15, 16, 17, 18] sg sg2 ∧ KS [37, 38, 39, 48, 49, 50, 51, 52, 53] gm gm2 ∧ KS [] lg lg2 ∧ (iv 0 59 r) ∧ ((sg 1).toInt = 0 ∨ MOK sg2 gm2 lg2) ∧ (FND9 sg2 gm2) ∧ (¬ (sg 1).toInt = 0 ∧ ∃ S2, zGt ws wg lg 40 (wz9 nm) S = (some r.toInt, S2) ∧ RC wg lg S2 sg2 gm2)) (fun E u => (E = "java/lang/IllegalStateException" ∨ E = "java/lang/UnsupportedOperationException") ∧ ∃ (sg2 : Nat → Int32) (gm2 : Nat → Nat → Int32) (lg2 : Nat → Nat → Int64), u = (a2, lx, sg2, gm2, lg2) ∧ CI sg2 gm2 ∧ KS [13, 14, 15, 16, 17, 18] sg sg2 ∧ KS [37, 38, 39, 48, 49, 50, 51, 52, 53] gm gm2 ∧ KS [] lg lg2 ∧ ((sg 1).toInt = 0 ∨ MOK sg2 gm2 lg2) ∧ (FND9 sg2 gm2) ∧ ((E = "java/lang/IllegalStateException" ∧ (sg 1).toInt = 0 ∧ RC wg lg S sg2 gm2) ∨ (E = "java/lang/UnsupportedOperationException" ∧ ¬ (sg 1).toInt = 0 ∧ ∃ S2, zGt ws wg lg 40 (wz9 nm) S = (none, S2) ∧ RC wg lg S2 sg2 gm2))) := by
  intro sz
  refine vx_ofW (cc := cX12_get) (maxL := 4) (ret := (some .int)) (by decide) rfl ?_
  intro p e s m args below meth c s₁ B hml hxt hv
  obtain ⟨rfl, hsz, hP, hK, hD0, hG⟩ := hv
  have hx := B.exec
  have hb := B.bytes
  have hr := B.returns
  have hts := atoms_spec (ws := wm_X12_get) B.pre
  have htb := fun (w : Cond) (h : w ∈ tb) => hts w (List.mem_cons_of_mem _ h)
  have hown : s.vm.findClass RX12 = some m.cls := findClass_of_methodNamed B.named
  have hlocks := B.notSynchronized
  subst hsz
  have hD := hD0.self (sz := s.heap.size)
  generalize hAe : va_A (cW ad cid a2 lx sg gm lg) s.heap.size = A at hD hG ⊢
  have hA : ∀ q : Nat, s.heap.size ≤ q → A q := fun q h => by rw [← hAe]; exact Or.inr h
  have hS : va_S A s.heap s.heap [] := va_S.rf
  have hl := lv_entry ([eV (ad 0) x, .long nm]) (n := 4) (by rw [show (lg_sl ([eV (ad 0) x, .long nm])).length = 3 from by simp [lg_sl, eV_cat, cat_i, cat_l]]; exact Nat.le_of_ble_eq_true rfl)
  rw [lg_entry_eq]
  generalize (lg_sl ([eV (ad 0) x, .long nm]) ++ List.replicate (4 - (lg_sl ([eV (ad 0) x, .long nm])).length) Slot.unset).toArray = ls at hl ⊢
  have hl : lv_has ls 4 [(0, eV (ad 0) x), (1, .long nm)] := by simp [lv_args, eV_cat, cat_i, cat_l] at hl; exact hl
  refine W.widen (k := gc gm gm 0) (n := gs gm gm 0) (Nat.zero_le _) (Nat.zero_le _) ?_
  refine ec_aload_n hx hb dX12_get_0 rfl (lv_at hl 0 rfl) ?_
  refine cr_get (t := 0) (j := 7) (C := RX12) (T := TX12) (N := 12) (v := eV (ad 6) 0) hx hb htb inX12 hown hK hP hvx (by decide) (by decide) (by decide) rfl (by decide) (htb _ kw_424) (cV_c rfl (by decide) (by rw [show cMu 0 7 = 0 from rfl, Nat.zero_mul]; rfl)) dX12_get_1 ?_
  refine cm_callTV (t := 6) (C := RX5) (T := TX5) (N := 13) (rest := []) (as := []) ⟨hx, hb, hml, hown, htb⟩ (d_forgetFailure l dC dI ad cid a2 lx sg gm lg 0 hI (iv_k (by decide) : iv 0 0 0)) (cwV 0 htb (gd_V kw_883 kw_884 kw_885 kw_159 kw_1525) rfl rfl rfl (by decide +kernel) ⟨Nat.le_of_ble_eq_true rfl, Nat.le_of_ble_eq_true rfl⟩) (iv_k (by decide) : iv 0 0 0) (by decide) (by decide) rfl rfl hl.1 rfl (Nat.le_trans cs_n (by decide)) dX12_get_4 ⟨Nat.le_trans (gc_le hI) (Nat.le_of_ble_eq_true rfl), Nat.le_trans (gs_le hI) (Nat.le_of_ble_eq_true rfl)⟩ hK hP hD hS hA hG (fun E ce q9 u_2 H locs hw hP hD hS hce hcv hcl => ?_) (fun v9 u_2 H locs hw hP hD hS => ?_)
  · exact hw.elim
  obtain ⟨rfl, sgv_3, gmv_3, lgv_3, rfl, hIv_3, ksv_3, kgv_3, klv_3⟩ := hw
  obtain rfl := KS_nil kgv_3
  obtain rfl := KS_nil klv_3
  have hP : va_P (dC, dI) vwCl (cW ad cid a2 lx sgv_3 gm lg) H := hP
  have hD : va_D A (cW ad cid a2 lx sgv_3 gm lg) := hD
  refine W.eq (g2 := F0 m 7 ls []) rfl ?_
  refine ec_aload_n hx hb dX12_get_7 rfl (lv_at hl 0 rfl) ?_
  refine cr_get (t := 0) (j := 9) (C := RX12) (T := TX12) (N := 12) (v := .int (sgv_3 1)) hx hb htb inX12 hown hK hP hvx (by decide) (by decide) (by decide) rfl (by decide) (htb _ kw_426) rfl dX12_get_8 ?_
  refine W.eq (g2 := F0 m 11 ls [.int (sg 1)]) (by rw [show sgv_3 1 = sg 1 from (ksv_3 1 (by decide))]) ?_
  refine lv_if_ne (tgt := 22) hx hb dX12_get_11 (by decide) (fun c_4 => ?_) (fun c_4 => ?_)
  · have h_5 : iv 1 1 (sg 1) := iv_neL c_4 (show iv 0 1 (sg 1) from CI_s hI 1) (by decide)
    have hdc := hDC.resolve_left (by have := i32_0; have := i32_1; have := i32_2; have := i32_m1; have := congrArg Int32.toInt (show sgv_3 1 = sg 1 from ksv_3 1 (by decide)); have := (show iv 0 1 (sg 1) from CI_s hI 1).1; have := (show iv 0 1 (sg 1) from CI_s hI 1).2; have := (hvx).1; have := (hvx).2; have := (h_5).1; have := (h_5).2; omega)
    have hW := hdc.1
    have hMO := hdc.2
    have hSV := hSV.resolve_left (by have := i32_0; have := i32_1; have := i32_2; have := i32_m1; have := congrArg Int32.toInt (show sgv_3 1 = sg 1 from ksv_3 1 (by decide)); have := (show iv 0 1 (sg 1) from CI_s hI 1).1; have := (show iv 0 1 (sg 1) from CI_s hI 1).2; have := (hvx).1; have := (hvx).2; have := (h_5).1; have := (h_5).2; omega)
    refine ec_aload_n hx hb dX12_get_22 rfl (lv_at hl 0 rfl) ?_
    refine cr_get (t := 0) (j := 7) (C := RX12) (T := TX12) (N := 12) (v := eV (ad 6) 0) hx hb htb inX12 hown hK hP hvx (by decide) (by decide) (by decide) rfl (by decide) (htb _ kw_424) (cV_c rfl (by decide) (by rw [show cMu 0 7 = 0 from rfl, Nat.zero_mul]; rfl)) dX12_get_23 ?_
    refine lv_lload_n hx hb dX12_get_26 rfl (lv_at hl 1 rfl) ?_
    refine cm_callTS (rest := [eV (ad 6) 0]) (as := [.long nm]) ⟨hx, hb, hml, hown, htb⟩ (d_withoutZeros9 l dC dI ad cid a2 lx sgv_3 gm lg nm hIv_3) (va_cwS 1 htb (gd_S kw_977 kw_978 kw_146 kw_1559) rfl rfl rfl (by decide +kernel) ⟨Nat.le_of_ble_eq_true rfl, Nat.le_of_ble_eq_true rfl⟩)  rfl hl.1 rfl (Nat.le_trans (cs_c (eV_cat _ _) cs_n) (by decide)) dX12_get_27 ⟨Nat.le_trans (gc_le hI) (Nat.le_of_ble_eq_true rfl), Nat.le_trans (gs_le hI) (Nat.le_of_ble_eq_true rfl)⟩ hK hP hD hS hA hG (fun E ce q9 u_7 H locs hw hP hD hS hce hcv hcl => ?_) (fun v9 u_7 H locs hw hP hD hS => ?_)
    · exact hw.elim
    obtain ⟨r_6, rfl, rfl, fz_r_6⟩ := hw
    have hP : va_P (dC, dI) vwCl (cW ad cid a2 lx sgv_3 gm lg) H := hP
    have hD : va_D A (cW ad cid a2 lx sgv_3 gm lg) := hD
    refine W.eq (g2 := F0 m 30 ls [.long r_6, eV (ad 6) 0]) rfl ?_
    refine cm_callGVX (t := 6) (C := RX5) (T := TX5) (N := 13) (rest := []) (as := [.long r_6]) ⟨hx, hb, hml, hown, htb⟩ (d_objectCalled9 l dC dI ad cid a2 lx sgv_3 gm lg hl9 0 r_6 wg ws S hIv_3 (iv_k (by decide) : iv 0 0 0) (WRD_e hW (ksv_3 4 (by decide)) (ksv_3 12 (by decide)) rfl rfl rfl rfl rfl rfl rfl rfl rfl rfl rfl rfl rfl rfl rfl rfl rfl rfl) hLD (MOK_e hMO (show sgv_3 12 = sg 12 from (ksv_3 12 (by decide))) rfl rfl rfl rfl) (FND9_e hFN (show sgv_3 15 = sg 15 from (ksv_3 15 (by decide))) rfl) hSW ((ss9_ks (L := [17, 18]) (KS_tr (L := [17, 18]) KS_rf ksv_3 (by decide)) rfl rfl).trans hSS) hSV (RC_ks (L := [17, 18]) (M := []) hRC (KS_tr (L := [17, 18]) KS_rf ksv_3 (by decide)) KS_rf (by decide) (by decide))) (vx_cwVW 1 htb (gd_V kw_980 kw_981 kw_982 kw_159 kw_1560) rfl rfl rfl (by decide +kernel) ⟨Nat.le_of_ble_eq_true rfl, Nat.le_of_ble_eq_true rfl⟩) (iv_k (by decide) : iv 0 0 0) (by decide) (by decide) rfl rfl hl.1 rfl (Nat.le_trans cs_n (by decide)) dX12_get_30 ⟨Nat.le_trans (gc_le hI) (Nat.le_of_ble_eq_true rfl), Nat.le_trans (gs_le hI) (Nat.le_of_ble_eq_true rfl)⟩ hK hP hD hS hA hG (fun E ce q9 u_10 H locs hw hmu hP hD hS hce hcv hcl => ?_) (fun v9 u_10 H locs hw hmu hP hD hS => ?_)
    · exact hw.elim
    obtain ⟨r_9, rfl, sgv_11, gmv_11, lgv_11, rfl, hIv_11, ksv_11, kgv_11, klv_11, hr_9, fMO_r_9, fFN_r_9, fO_r_9⟩ := hw
    obtain rfl := KS_nil klv_11
    have hP : va_P (dC, dI) vwCl (cW ad cid a2 lx sgv_11 gmv_11 lg) H := hP
    have hD : va_D A (cW ad cid a2 lx sgv_11 gmv_11 lg) := hD
    have hmu : PHs gm ≤ PHs gmv_11 := hmu
    rw [show (gc gm gm 0 + gc gm gmv_11 1) = gc gm gmv_11 1 from gc_t (Nat.le_refl _) hmu, show (gs gm gm 0 + gs gm gmv_11 1) = gs gm gmv_11 1 from gs_t (Nat.le_refl _) hmu]
    have hm_12 : PHs gm ≤ PHs gmv_11 := Nat.le_trans (Nat.le_refl _) hmu
    refine W.eq (g2 := F0 m 33 ls [.int r_9]) rfl ?_
    refine lv_istore_n (i := 3) (lv' := [(3, .int r_9), (0, eV (ad 0) x), (1, .long nm)]) hx hb dX12_get_33 rfl hl (by decide) rfl (fun ls hl => ?_)
    refine lv_iload_n hx hb dX12_get_34 rfl (lv_at hl 0 rfl) ?_
    refine lv_iconst (v := (-1)) hx hb dX12_get_35 (by decide) ?_
    refine lv_icmp_ne (tgt := 47) hx hb dX12_get_36 (by decide) (fun c_13 => ?_) (fun c_13 => ?_)
    · have h_14 : iv 0 59 r_9 := iv_neL c_13 hr_9 (by decide)
      refine lv_iload_n hx hb dX12_get_47 rfl (lv_at hl 0 rfl) ?_
      exact W.nb (fun hN => W.widen (k := 60962) (n := 243852) (Nat.le_trans (gc_l0 (gm := gm) (k := 1) hIv_11) (Nat.le_of_ble_eq_true rfl)) (Nat.le_trans (gs_l0 (gm := gm) (k := 1) hIv_11) (Nat.le_of_ble_eq_true rfl)) (vx_ret (W.iret (v := r_9) hx hb hr (fun t ht hW => ⟨⟨some (.int r_9), (a2, lx, sgv_11, gmv_11, lg), rfl, ⟨r_9, rfl, sgv_11, gmv_11, lg, rfl, hIv_11, (KS_tr (L := [13, 14, 15, 16, 17, 18]) (KS_tr (L := [13, 14, 15, 16, 17, 18]) KS_rf ksv_3 (by decide)) ksv_11 (by decide)), (KS_tr (L := [37, 38, 39, 48, 49, 50, 51, 52, 53]) KS_rf kgv_11 (by decide)), KS_rf, h_14, (Or.inr fMO_r_9), (fFN_r_9), ((by obtain ⟨S2, h1, h2, _⟩ := fO_r_9.resolve_right (fun q8 => absurd q8.1 (by have := i32_0; have := i32_1; have := i32_2; have := i32_m1; have := (hvx).1; have := (hvx).2; have := (h_5).1; have := (h_5).2; have := (h_14).1; have := (h_14).2; omega)); exact ⟨(by have := i32_0; have := i32_1; have := i32_2; have := i32_m1; have := congrArg Int32.toInt (show sgv_11 1 = sgv_3 1 from ksv_11 1 (by decide)); have := congrArg Int32.toInt (show sgv_3 1 = sg 1 from ksv_3 1 (by decide)); have := (show iv 0 1 (sg 1) from CI_s hI 1).1; have := (show iv 0 1 (sg 1) from CI_s hI 1).2; have := (hvx).1; have := (hvx).2; have := (h_5).1; have := (h_5).2; have := (h_14).1; have := (h_14).2; omega), S2, (by rw [← fz_r_6]; exact h1), h2⟩))⟩, ⟨by rw [ht]; exact hP, va_K.moved hW.alike hK, hD⟩, hm_12, by rw [ht]; exact hN⟩, hS.F ht⟩) hS.2.2 dX12_get_48)))
    · have h_15 : iv (-1) (-1) r_9 := iv_eq c_13 hr_9 (iv_k (by decide) : iv (-1) (-1) (-1)) (by decide)
      refine vx_throw1 (own := RX12) (cls := "java/lang/UnsupportedOperationException") (names := ["java/lang/RuntimeException", "java/lang/Exception"]) (ik := 151) (ic := 153) (A := A) hx hb hl9 hown (by decide +kernel) (by decide +kernel) (htb _ kw_968) (htb _ kw_174) (vx_hat (fun w h => htb w (inT_3 w h)) inU_3 (vx_c (va_Nw.use rfl hG.2.1.1) (vx_c (va_Nw.use rfl hG.1.2.1.2.2.1) (vx_c (va_Nw.use rfl hG.1.2.1.2.2.2.1) (vx_c (va_Nw.use rfl hG.1.2.1.2.2.2.2) vx_n))))) (fun w hw => ?_) hG.1.2.2.2.1 hG.1.2.2.2.2 hS (by rw [hml]; exact hl.1) dX12_get_39 dX12_get_42 dX12_get_43 dX12_get_46 (fun x hx9 => (hxt x hx9).elim) (Nat.le_of_ble_eq_true rfl) (Nat.le_trans (Nat.add_le_add_right (show _ ≤ 8 from (Nat.le_trans cs_n (by decide))) _) (Nat.le_of_ble_eq_true rfl)) (Nat.le_trans (gc_le (gm := gm) (k := 1) (j := 1) hIv_11) (Nat.le_of_ble_eq_true rfl)) (Nat.le_trans (gs_le (gm := gm) (k := 1) (j := 6) hIv_11) (Nat.le_of_ble_eq_true rfl)) hlocks (fun t ht1 hz2 hk2 hnb => ⟨⟨(a2, lx, sgv_11, gmv_11, lg), ⟨(Or.inr rfl), sgv_11, gmv_11, lg, rfl, hIv_11, (KS_tr (L := [13, 14, 15, 16, 17, 18]) (KS_tr (L := [13, 14, 15, 16, 17, 18]) KS_rf ksv_3 (by decide)) ksv_11 (by decide)), (KS_tr (L := [37, 38, 39, 48, 49, 50, 51, 52, 53]) KS_rf kgv_11 (by decide)), KS_rf, (Or.inr fMO_r_9), (fFN_r_9), ((by obtain ⟨_, S2, h1, h2⟩ := fO_r_9.resolve_left (fun ⟨S2, h1, h2, h3⟩ => absurd h3 (by have := i32_0; have := i32_1; have := i32_2; have := i32_m1; have := (hvx).1; have := (hvx).2; have := (h_5).1; have := (h_5).2; have := (h_15).1; have := (h_15).2; omega)); exact Or.inr ⟨rfl, (by have := i32_0; have := i32_1; have := i32_2; have := i32_m1; have := congrArg Int32.toInt (show sgv_11 1 = sgv_3 1 from ksv_11 1 (by decide)); have := congrArg Int32.toInt (show sgv_3 1 = sg 1 from ksv_3 1 (by decide)); have := (show iv 0 1 (sg 1) from CI_s hI 1).1; have := (show iv 0 1 (sg 1) from CI_s hI 1).2; have := (hvx).1; have := (hvx).2; have := (h_5).1; have := (h_5).2; have := (h_15).1; have := (h_15).2; omega), S2, (by rw [← fz_r_6]; exact h1), h2⟩))⟩, ⟨hP.kept (fun k q hq => hk2 _ (vx_lt hP hq)), va_K.moved ht1 hK, hD⟩, hm_12, NBw_w hnb (show gc gm gmv_11 1 + 1 ≤ gc gm gmv_11 (1 + 1) from (by unfold gc; omega)) (show gs gm gmv_11 1 + 6 ≤ gs gm gmv_11 (1 + 1) from (by unfold gs; omega))⟩, ⟨Nat.le_trans hS.1 hz2, fun q h1 h2 => (hk2 q (Nat.lt_of_lt_of_le h1 hS.1)).trans (hS.2.1 q h1 h2)⟩⟩) hS.2.2 (Nat.le_trans (gc_le (gm := gm) (k := 1) (j := 1) hIv_11) (Nat.le_of_ble_eq_true rfl)) (Nat.le_trans (gs_le (gm := gm) (k := 1) (j := 6) hIv_11) (Nat.le_of_ble_eq_true rfl))
      rcases List.mem_cons.mp hw with rfl | hw
      · rfl
      rcases List.mem_cons.mp hw with rfl | hw
      · rfl
      exact inV_3 w hw
  · have h_16 : iv 0 0 (sg 1) := iv_eq c_4 (show iv 0 1 (sg 1) from CI_s hI 1) (iv_k (by decide) : iv 0 0 0) (by decide)
    refine vx_throw1 (own := RX12) (cls := "java/lang/IllegalStateException") (names := ["java/lang/RuntimeException", "java/lang/Exception"]) (ik := 144) (ic := 146) (A := A) hx hb hl9 hown (by decide +kernel) (by decide +kernel) (htb _ kw_886) (htb _ kw_173) (vx_hat (fun w h => htb w (inT_2 w h)) inU_2 (vx_c (va_Nw.use rfl hG.1.2.1.2.1) (vx_c (va_Nw.use rfl hG.1.2.1.2.2.1) (vx_c (va_Nw.use rfl hG.1.2.1.2.2.2.1) (vx_c (va_Nw.use rfl hG.1.2.1.2.2.2.2) vx_n))))) (fun w hw => ?_) hG.1.2.2.2.1 hG.1.2.2.2.2 hS (by rw [hml]; exact hl.1) dX12_get_14 dX12_get_17 dX12_get_18 dX12_get_21 (fun x hx9 => (hxt x hx9).elim) (Nat.le_of_ble_eq_true rfl) (Nat.le_trans (Nat.add_le_add_right (show _ ≤ 8 from (Nat.le_trans cs_n (by decide))) _) (Nat.le_of_ble_eq_true rfl)) (Nat.le_trans (gc_le (gm := gm) (k := 0) (j := 1) hI) (Nat.le_of_ble_eq_true rfl)) (Nat.le_trans (gs_le (gm := gm) (k := 0) (j := 6) hI) (Nat.le_of_ble_eq_true rfl)) hlocks (fun t ht1 hz2 hk2 hnb => ⟨⟨(a2, lx, sgv_3, gm, lg), ⟨(Or.inl rfl), sgv_3, gm, lg, rfl, hIv_3, (KS_tr (L := [13, 14, 15, 16, 17, 18]) KS_rf ksv_3 (by decide)), KS_rf, KS_rf, (Or.inl (by have := i32_0; have := i32_1; have := i32_2; have := i32_m1; have := congrArg Int32.toInt (show sgv_3 1 = sg 1 from ksv_3 1 (by decide)); have := (show iv 0 1 (sg 1) from CI_s hI 1).1; have := (show iv 0 1 (sg 1) from CI_s hI 1).2; have := (hvx).1; have := (hvx).2; have := (h_16).1; have := (h_16).2; omega)), ((FND9_e hFN (show sgv_3 15 = sg 15 from (ksv_3 15 (by decide))) rfl)), (Or.inl ⟨rfl, by have := i32_0; have := i32_1; have := i32_2; have := i32_m1; have := congrArg Int32.toInt (show sgv_3 1 = sg 1 from ksv_3 1 (by decide)); have := (show iv 0 1 (sg 1) from CI_s hI 1).1; have := (show iv 0 1 (sg 1) from CI_s hI 1).2; have := (hvx).1; have := (hvx).2; have := (h_16).1; have := (h_16).2; omega, (RC_ks (L := [17, 18]) (M := []) hRC (KS_tr (L := [17, 18]) KS_rf ksv_3 (by decide)) KS_rf (by decide) (by decide))⟩)⟩, ⟨hP.kept (fun k q hq => hk2 _ (vx_lt hP hq)), va_K.moved ht1 hK, hD⟩, (Nat.le_refl _), NBw_w hnb (show gc gm gm 0 + 1 ≤ gc gm gm (1 + 1) from (by unfold gc; omega)) (show gs gm gm 0 + 6 ≤ gs gm gm (1 + 1) from (by unfold gs; omega))⟩, ⟨Nat.le_trans hS.1 hz2, fun q h1 h2 => (hk2 q (Nat.lt_of_lt_of_le h1 hS.1)).trans (hS.2.1 q h1 h2)⟩⟩) hS.2.2 (Nat.le_trans (gc_le (gm := gm) (k := 0) (j := 1) hI) (Nat.le_of_ble_eq_true rfl)) (Nat.le_trans (gs_le (gm := gm) (k := 0) (j := 6) hI) (Nat.le_of_ble_eq_true rfl))
    rcases List.mem_cons.mp hw with rfl | hw
    · rfl
    rcases List.mem_cons.mp hw with rfl | hw
    · rfl
    exact inV_2 w hw

set_option maxHeartbeats 4000000 in
set_option maxRecDepth 100000 in
theorem d_call9 (l : Launch) (dC : Nat → ClassId) (dI : Nat → Nat → Nat) (ad : Nat → Nat → Nat) (cid : Nat → ClassId) (a2 : Nat → Nat) (lx : List Nat) (sg : Nat → Int32) (gm : Nat → Nat → Int32) (lg : Nat → Nat → Int64) (hl9 : l.stackTraces = false) (x : Int32) (k : Int32) (wh : Int32) (wg : Nat → Nat → Int32) (ws : Nat → Int32) (S : S9) (hI : CI sg gm) (hvx : iv 0 0 x) (hDC : (sg 1).toInt = 0 ∨ (WRD sg gm lg ∧ MOK sg gm lg)) (hLD : LDI lx gm) (hFN : FND9 sg gm) (hSW : st9 gm = wg) (hSS : ss9 sg = ws) (hSV : (sg 1).toInt = 0 ∨ SV ws wg lg) (hRC : RC wg lg S sg gm) : CMg dC dI ad cid l yX12_call wm_X12_call ({ frames := 344, cells := 60962, slots := 243852, locals := 11087 }) [eV (ad 0) x, .int k, .int wh] a2 lx sg gm lg 1 60962 243852 (fun v u => ∃ r : Int32, v = some (.int r) ∧ ∃ (sg2 : Nat → Int32) (gm2 : Nat → Nat → Int32) (lg2 : Nat → Nat → Int64), u = (a2, lx, sg2, gm2, lg2) ∧ CI sg2 gm2 ∧ KS [13, 14, 15, 16, 17, 18] sg sg2 ∧ KS [37, 38, 39, 48, 49, 50, 51, 52, 53] gm gm2 ∧ KS [] lg lg2 ∧ (iv 0 59 r) ∧ ((sg 1).toInt = 0 ∨ MOK sg2 gm2 lg2) ∧ (FND9 sg2 gm2) ∧ (¬ (sg 1).toInt = 0 ∧ 0 ≤ zLk wg k.toInt wh.toInt S ∧ ∃ S2, zGt ws wg lg 40 (lg 2 (zLk wg k.toInt wh.toInt S).toNat) S = (some r.toInt, S2) ∧ RC wg lg S2 sg2 gm2)) (fun E u => (E = "java/lang/IllegalStateException" ∨ E = "java/lang/IndexOutOfBoundsException" ∨ E = "java/lang/UnsupportedOperationException") ∧ ∃ (sg2 : Nat → Int32) (gm2 : Nat → Nat → Int32) (lg2 : Nat → Nat → Int64), u = (a2, lx, sg2, gm2, lg2) ∧ CI sg2 gm2 ∧ KS [13, 14, 15, 16, 17, 18] sg sg2 ∧ KS [37, 38, 39, 48, 49, 50, 51, 52, 53] gm gm2 ∧ KS [] lg lg2 ∧ ((sg 1).toInt = 0 ∨ MOK sg2 gm2 lg2) ∧ (FND9 sg2 gm2) ∧ ((E = "java/lang/IllegalStateException" ∧ (sg 1).toInt = 0 ∧ RC wg lg S sg2 gm2) ∨ (E = "java/lang/IndexOutOfBoundsException" ∧ ¬ (sg 1).toInt = 0 ∧ zLk wg k.toInt wh.toInt S < 0 ∧ RC wg lg S sg2 gm2) ∨ (E = "java/lang/UnsupportedOperationException" ∧ ¬ (sg 1).toInt = 0 ∧ 0 ≤ zLk wg k.toInt wh.toInt S ∧ ∃ S2, zGt ws wg lg 40 (lg 2 (zLk wg k.toInt wh.toInt S).toNat) S = (none, S2) ∧ RC wg lg S2 sg2 gm2))) := by
  intro sz
  refine vx_ofW (cc := cX12_call) (maxL := 5) (ret := (some .int)) (by decide) rfl ?_
  intro p e s m args below meth c s₁ B hml hxt hv
  obtain ⟨rfl, hsz, hP, hK, hD0, hG⟩ := hv
  have hx := B.exec
  have hb := B.bytes
  have hr := B.returns
  have hts := atoms_spec (ws := wm_X12_call) B.pre
  have htb := fun (w : Cond) (h : w ∈ tb) => hts w (List.mem_cons_of_mem _ h)
  have hown : s.vm.findClass RX12 = some m.cls := findClass_of_methodNamed B.named
  have hlocks := B.notSynchronized
  subst hsz
  have hD := hD0.self (sz := s.heap.size)
  generalize hAe : va_A (cW ad cid a2 lx sg gm lg) s.heap.size = A at hD hG ⊢
  have hA : ∀ q : Nat, s.heap.size ≤ q → A q := fun q h => by rw [← hAe]; exact Or.inr h
  have hS : va_S A s.heap s.heap [] := va_S.rf
  have hl := lv_entry ([eV (ad 0) x, .int k, .int wh]) (n := 5) (by rw [show (lg_sl ([eV (ad 0) x, .int k, .int wh])).length = 3 from by simp [lg_sl, eV_cat, cat_i, cat_l]]; exact Nat.le_of_ble_eq_true rfl)
  rw [lg_entry_eq]
  generalize (lg_sl ([eV (ad 0) x, .int k, .int wh]) ++ List.replicate (5 - (lg_sl ([eV (ad 0) x, .int k, .int wh])).length) Slot.unset).toArray = ls at hl ⊢
  have hl : lv_has ls 5 [(0, eV (ad 0) x), (1, .int k), (2, .int wh)] := by simp [lv_args, eV_cat, cat_i, cat_l] at hl; exact hl
  refine W.widen (k := gc gm gm 0) (n := gs gm gm 0) (Nat.zero_le _) (Nat.zero_le _) ?_
  refine ec_aload_n hx hb dX12_call_0 rfl (lv_at hl 0 rfl) ?_
  refine cr_get (t := 0) (j := 7) (C := RX12) (T := TX12) (N := 12) (v := eV (ad 6) 0) hx hb htb inX12 hown hK hP hvx (by decide) (by decide) (by decide) rfl (by decide) (htb _ kw_424) (cV_c rfl (by decide) (by rw [show cMu 0 7 = 0 from rfl, Nat.zero_mul]; rfl)) dX12_call_1 ?_
  refine cm_callTV (t := 6) (C := RX5) (T := TX5) (N := 13) (rest := []) (as := []) ⟨hx, hb, hml, hown, htb⟩ (d_forgetFailure l dC dI ad cid a2 lx sg gm lg 0 hI (iv_k (by decide) : iv 0 0 0)) (cwV 0 htb (gd_V kw_883 kw_884 kw_885 kw_159 kw_1525) rfl rfl rfl (by decide +kernel) ⟨Nat.le_of_ble_eq_true rfl, Nat.le_of_ble_eq_true rfl⟩) (iv_k (by decide) : iv 0 0 0) (by decide) (by decide) rfl rfl hl.1 rfl (Nat.le_trans cs_n (by decide)) dX12_call_4 ⟨Nat.le_trans (gc_le hI) (Nat.le_of_ble_eq_true rfl), Nat.le_trans (gs_le hI) (Nat.le_of_ble_eq_true rfl)⟩ hK hP hD hS hA hG (fun E ce q9 u_2 H locs hw hP hD hS hce hcv hcl => ?_) (fun v9 u_2 H locs hw hP hD hS => ?_)
  · exact hw.elim
  obtain ⟨rfl, sgv_3, gmv_3, lgv_3, rfl, hIv_3, ksv_3, kgv_3, klv_3⟩ := hw
  obtain rfl := KS_nil kgv_3
  obtain rfl := KS_nil klv_3
  have hP : va_P (dC, dI) vwCl (cW ad cid a2 lx sgv_3 gm lg) H := hP
  have hD : va_D A (cW ad cid a2 lx sgv_3 gm lg) := hD
  refine W.eq (g2 := F0 m 7 ls []) rfl ?_
  refine ec_aload_n hx hb dX12_call_7 rfl (lv_at hl 0 rfl) ?_
  refine cr_get (t := 0) (j := 9) (C := RX12) (T := TX12) (N := 12) (v := .int (sgv_3 1)) hx hb htb inX12 hown hK hP hvx (by decide) (by decide) (by decide) rfl (by decide) (htb _ kw_426) rfl dX12_call_8 ?_
  refine W.eq (g2 := F0 m 11 ls [.int (sg 1)]) (by rw [show sgv_3 1 = sg 1 from (ksv_3 1 (by decide))]) ?_
  refine lv_if_ne (tgt := 22) hx hb dX12_call_11 (by decide) (fun c_4 => ?_) (fun c_4 => ?_)
  · have h_5 : iv 1 1 (sg 1) := iv_neL c_4 (show iv 0 1 (sg 1) from CI_s hI 1) (by decide)
    have hdc := hDC.resolve_left (by have := i32_0; have := i32_1; have := i32_2; have := i32_m1; have := congrArg Int32.toInt (show sgv_3 1 = sg 1 from ksv_3 1 (by decide)); have := (show iv 0 1 (sg 1) from CI_s hI 1).1; have := (show iv 0 1 (sg 1) from CI_s hI 1).2; have := (hvx).1; have := (hvx).2; have := (h_5).1; have := (h_5).2; omega)
    have hW := hdc.1
    have hMO := hdc.2
    have hSV := hSV.resolve_left (by have := i32_0; have := i32_1; have := i32_2; have := i32_m1; have := congrArg Int32.toInt (show sgv_3 1 = sg 1 from ksv_3 1 (by decide)); have := (show iv 0 1 (sg 1) from CI_s hI 1).1; have := (show iv 0 1 (sg 1) from CI_s hI 1).2; have := (hvx).1; have := (hvx).2; have := (h_5).1; have := (h_5).2; omega)
    refine ec_aload_n hx hb dX12_call_22 rfl (lv_at hl 0 rfl) ?_
    refine cr_get (t := 0) (j := 7) (C := RX12) (T := TX12) (N := 12) (v := eV (ad 6) 0) hx hb htb inX12 hown hK hP hvx (by decide) (by decide) (by decide) rfl (by decide) (htb _ kw_424) (cV_c rfl (by decide) (by rw [show cMu 0 7 = 0 from rfl, Nat.zero_mul]; rfl)) dX12_call_23 ?_
    refine lv_iload_n hx hb dX12_call_26 rfl (lv_at hl 1 rfl) ?_
    refine lv_iload_n hx hb dX12_call_27 rfl (lv_at hl 2 rfl) ?_
    refine cm_callTV (t := 6) (C := RX5) (T := TX5) (N := 13) (rest := []) (as := [.int k, .int wh]) ⟨hx, hb, hml, hown, htb⟩ (d_lookupOf9 l dC dI ad cid a2 lx sgv_3 gm lg 0 k wh wg S hIv_3 (iv_k (by decide) : iv 0 0 0) hLD hSW (RC_ks (L := [17, 18]) (M := []) hRC (KS_tr (L := [17, 18]) KS_rf ksv_3 (by decide)) KS_rf (by decide) (by decide))) (cwV 2 htb (gd_V kw_989 kw_990 kw_991 kw_159 kw_1563) rfl rfl rfl (by decide +kernel) ⟨Nat.le_of_ble_eq_true rfl, Nat.le_of_ble_eq_true rfl⟩) (iv_k (by decide) : iv 0 0 0) (by decide) (by decide) rfl rfl hl.1 rfl (Nat.le_trans cs_n (by decide)) dX12_call_28 ⟨Nat.le_trans (gc_le hI) (Nat.le_of_ble_eq_true rfl), Nat.le_trans (gs_le hI) (Nat.le_of_ble_eq_true rfl)⟩ hK hP hD hS hA hG (fun E ce q9 u_7 H locs hw hP hD hS hce hcv hcl => ?_) (fun v9 u_7 H locs hw hP hD hS => ?_)
    · exact hw.elim
    obtain ⟨r_6, rfl, rfl, hr_6, fL_r_6⟩ := hw
    have hP : va_P (dC, dI) vwCl (cW ad cid a2 lx sgv_3 gm lg) H := hP
    have hD : va_D A (cW ad cid a2 lx sgv_3 gm lg) := hD
    refine W.eq (g2 := F0 m 31 ls [eV (ad 9) r_6]) rfl ?_
    refine ec_astore_n (i := 3) (lv' := [(3, eV (ad 9) r_6), (0, eV (ad 0) x), (1, .int k), (2, .int wh)]) hx hb dX12_call_31 rfl hl (by decide) rfl (fun ls hl => ?_)
    refine ec_aload_n hx hb dX12_call_32 rfl (lv_at hl 0 rfl) ?_
    refine ec_ifnonnull (tgt := 44) hx hb dX12_call_33 (by decide) (fun c_9 => ?_) (fun c_9 => ?_)
    · have h_10 : iv 0 79 r_6 := ⟨c_9, (hr_6).2⟩
      refine ec_aload_n hx hb dX12_call_44 rfl (lv_at hl 1 rfl) ?_
      refine cr_get (t := 0) (j := 7) (C := RX12) (T := TX12) (N := 12) (v := eV (ad 6) 0) hx hb htb inX12 hown hK hP hvx (by decide) (by decide) (by decide) rfl (by decide) (htb _ kw_424) (cV_c rfl (by decide) (by rw [show cMu 0 7 = 0 from rfl, Nat.zero_mul]; rfl)) dX12_call_45 ?_
      refine ec_aload_n hx hb dX12_call_48 rfl (lv_at hl 0 rfl) ?_
      refine cr_get (t := 9) (j := 12) (C := RX3) (T := TX3) (N := 21) (v := .long (lg 2 r_6.toNatClampNeg)) hx hb htb inX3 hown hK hP h_10 (by decide) (by decide) (by decide) rfl (by decide) (htb _ kw_272) rfl dX12_call_49 ?_
      refine lv_topl (fun z_11 ez_11 => ?_)
      refine cm_callGVX (t := 6) (C := RX5) (T := TX5) (N := 13) (rest := []) (as := [.long z_11]) ⟨hx, hb, hml, hown, htb⟩ (d_objectCalled9 l dC dI ad cid a2 lx sgv_3 gm lg hl9 0 z_11 wg ws S hIv_3 (iv_k (by decide) : iv 0 0 0) (WRD_e hW (ksv_3 4 (by decide)) (ksv_3 12 (by decide)) rfl rfl rfl rfl rfl rfl rfl rfl rfl rfl rfl rfl rfl rfl rfl rfl rfl rfl) hLD (MOK_e hMO (show sgv_3 12 = sg 12 from (ksv_3 12 (by decide))) rfl rfl rfl rfl) (FND9_e hFN (show sgv_3 15 = sg 15 from (ksv_3 15 (by decide))) rfl) hSW ((ss9_ks (L := [17, 18]) (KS_tr (L := [17, 18]) KS_rf ksv_3 (by decide)) rfl rfl).trans hSS) hSV (RC_ks (L := [17, 18]) (M := []) hRC (KS_tr (L := [17, 18]) KS_rf ksv_3 (by decide)) KS_rf (by decide) (by decide))) (vx_cwVW 1 htb (gd_V kw_980 kw_981 kw_982 kw_159 kw_1560) rfl rfl rfl (by decide +kernel) ⟨Nat.le_of_ble_eq_true rfl, Nat.le_of_ble_eq_true rfl⟩) (iv_k (by decide) : iv 0 0 0) (by decide) (by decide) rfl rfl hl.1 rfl (Nat.le_trans cs_n (by decide)) dX12_call_52 ⟨Nat.le_trans (gc_le hI) (Nat.le_of_ble_eq_true rfl), Nat.le_trans (gs_le hI) (Nat.le_of_ble_eq_true rfl)⟩ hK hP hD hS hA hG (fun E ce q9 u_13 H locs hw hmu hP hD hS hce hcv hcl => ?_) (fun v9 u_13 H locs hw hmu hP hD hS => ?_)
      · exact hw.elim
      obtain ⟨r_12, rfl, sgv_14, gmv_14, lgv_14, rfl, hIv_14, ksv_14, kgv_14, klv_14, hr_12, fMO_r_12, fFN_r_12, fO_r_12⟩ := hw
      obtain rfl := KS_nil klv_14
      have hP : va_P (dC, dI) vwCl (cW ad cid a2 lx sgv_14 gmv_14 lg) H := hP
      have hD : va_D A (cW ad cid a2 lx sgv_14 gmv_14 lg) := hD
      have hmu : PHs gm ≤ PHs gmv_14 := hmu
      rw [show (gc gm gm 0 + gc gm gmv_14 1) = gc gm gmv_14 1 from gc_t (Nat.le_refl _) hmu, show (gs gm gm 0 + gs gm gmv_14 1) = gs gm gmv_14 1 from gs_t (Nat.le_refl _) hmu]
      have hm_15 : PHs gm ≤ PHs gmv_14 := Nat.le_trans (Nat.le_refl _) hmu
      refine W.eq (g2 := F0 m 55 ls [.int r_12]) rfl ?_
      refine lv_istore (i := 4) (lv' := [(4, .int r_12), (3, eV (ad 9) r_6), (0, eV (ad 0) x), (1, .int k), (2, .int wh)]) hx hb dX12_call_55 hl (by decide) (by simp [List.filter, eV_cat, cat_i, cat_l]) (fun ls hl => ?_)
      refine lv_iload hx hb dX12_call_57 (lv_at hl 0 rfl) ?_
      refine lv_iconst (v := (-1)) hx hb dX12_call_59 (by decide) ?_
      refine lv_icmp_ne (tgt := 71) hx hb dX12_call_60 (by decide) (fun c_16 => ?_) (fun c_16 => ?_)
      · have h_17 : iv 0 59 r_12 := iv_neL c_16 hr_12 (by decide)
        refine lv_iload hx hb dX12_call_71 (lv_at hl 0 rfl) ?_
        exact W.nb (fun hN => W.widen (k := 60962) (n := 243852) (Nat.le_trans (gc_l0 (gm := gm) (k := 1) hIv_14) (Nat.le_of_ble_eq_true rfl)) (Nat.le_trans (gs_l0 (gm := gm) (k := 1) hIv_14) (Nat.le_of_ble_eq_true rfl)) (vx_ret (W.iret (v := r_12) hx hb hr (fun t ht hW => ⟨⟨some (.int r_12), (a2, lx, sgv_14, gmv_14, lg), rfl, ⟨r_12, rfl, sgv_14, gmv_14, lg, rfl, hIv_14, (KS_tr (L := [13, 14, 15, 16, 17, 18]) (KS_tr (L := [13, 14, 15, 16, 17, 18]) KS_rf ksv_3 (by decide)) ksv_14 (by decide)), (KS_tr (L := [37, 38, 39, 48, 49, 50, 51, 52, 53]) KS_rf kgv_14 (by decide)), KS_rf, h_17, (Or.inr fMO_r_12), (fFN_r_12), ((by obtain ⟨S2, h1, h2, _⟩ := fO_r_12.resolve_right (fun q8 => absurd q8.1 (by have := i32_0; have := i32_1; have := i32_2; have := i32_m1; have := (hvx).1; have := (hvx).2; have := (h_5).1; have := (h_5).2; have := (h_10).1; have := (h_10).2; have := (h_17).1; have := (h_17).2; omega)); exact ⟨(by have := i32_0; have := i32_1; have := i32_2; have := i32_m1; have := congrArg Int32.toInt (show sgv_14 1 = sgv_3 1 from ksv_14 1 (by decide)); have := congrArg Int32.toInt (show sgv_3 1 = sg 1 from ksv_3 1 (by decide)); have := (show iv 0 1 (sg 1) from CI_s hI 1).1; have := (show iv 0 1 (sg 1) from CI_s hI 1).2; have := (hvx).1; have := (hvx).2; have := (h_5).1; have := (h_5).2; have := (h_10).1; have := (h_10).2; have := (h_17).1; have := (h_17).2; omega), (by rw [← fL_r_6]; exact (h_10).1), S2, (by rw [(show lg 2 (zLk wg k.toInt wh.toInt S).toNat = z_11 from (by rw [← fL_r_6, ez_11]; rfl))]; exact h1), h2⟩))⟩, ⟨by rw [ht]; exact hP, va_K.moved hW.alike hK, hD⟩, hm_15, by rw [ht]; exact hN⟩, hS.F ht⟩) hS.2.2 dX12_call_73)))
      · have h_18 : iv (-1) (-1) r_12 := iv_eq c_16 hr_12 (iv_k (by decide) : iv (-1) (-1) (-1)) (by decide)
        refine vx_throw1 (own := RX12) (cls := "java/lang/UnsupportedOperationException") (names := ["java/lang/RuntimeException", "java/lang/Exception"]) (ik := 151) (ic := 153) (A := A) hx hb hl9 hown (by decide +kernel) (by decide +kernel) (htb _ kw_968) (htb _ kw_174) (vx_hat (fun w h => htb w (inT_3 w h)) inU_3 (vx_c (va_Nw.use rfl hG.2.1.1) (vx_c (va_Nw.use rfl hG.1.2.1.2.2.1) (vx_c (va_Nw.use rfl hG.1.2.1.2.2.2.1) (vx_c (va_Nw.use rfl hG.1.2.1.2.2.2.2) vx_n))))) (fun w hw => ?_) hG.1.2.2.2.1 hG.1.2.2.2.2 hS (by rw [hml]; exact hl.1) dX12_call_63 dX12_call_66 dX12_call_67 dX12_call_70 (fun x hx9 => (hxt x hx9).elim) (Nat.le_of_ble_eq_true rfl) (Nat.le_trans (Nat.add_le_add_right (show _ ≤ 8 from (Nat.le_trans cs_n (by decide))) _) (Nat.le_of_ble_eq_true rfl)) (Nat.le_trans (gc_le (gm := gm) (k := 1) (j := 1) hIv_14) (Nat.le_of_ble_eq_true rfl)) (Nat.le_trans (gs_le (gm := gm) (k := 1) (j := 6) hIv_14) (Nat.le_of_ble_eq_true rfl)) hlocks (fun t ht1 hz2 hk2 hnb => ⟨⟨(a2, lx, sgv_14, gmv_14, lg), ⟨(Or.inr (Or.inr rfl)), sgv_14, gmv_14, lg, rfl, hIv_14, (KS_tr (L := [13, 14, 15, 16, 17, 18]) (KS_tr (L := [13, 14, 15, 16, 17, 18]) KS_rf ksv_3 (by decide)) ksv_14 (by decide)), (KS_tr (L := [37, 38, 39, 48, 49, 50, 51, 52, 53]) KS_rf kgv_14 (by decide)), KS_rf, (Or.inr fMO_r_12), (fFN_r_12), ((by obtain ⟨_, S2, h1, h2⟩ := fO_r_12.resolve_left (fun ⟨S2, h1, h2, h3⟩ => absurd h3 (by have := i32_0; have := i32_1; have := i32_2; have := i32_m1; have := (hvx).1; have := (hvx).2; have := (h_5).1; have := (h_5).2; have := (h_10).1; have := (h_10).2; have := (h_18).1; have := (h_18).2; omega)); exact Or.inr (Or.inr ⟨rfl, (by have := i32_0; have := i32_1; have := i32_2; have := i32_m1; have := congrArg Int32.toInt (show sgv_14 1 = sgv_3 1 from ksv_14 1 (by decide)); have := congrArg Int32.toInt (show sgv_3 1 = sg 1 from ksv_3 1 (by decide)); have := (show iv 0 1 (sg 1) from CI_s hI 1).1; have := (show iv 0 1 (sg 1) from CI_s hI 1).2; have := (hvx).1; have := (hvx).2; have := (h_5).1; have := (h_5).2; have := (h_10).1; have := (h_10).2; have := (h_18).1; have := (h_18).2; omega), (by rw [← fL_r_6]; exact (h_10).1), S2, (by rw [(show lg 2 (zLk wg k.toInt wh.toInt S).toNat = z_11 from (by rw [← fL_r_6, ez_11]; rfl))]; exact h1), h2⟩)))⟩, ⟨hP.kept (fun k q hq => hk2 _ (vx_lt hP hq)), va_K.moved ht1 hK, hD⟩, hm_15, NBw_w hnb (show gc gm gmv_14 1 + 1 ≤ gc gm gmv_14 (1 + 1) from (by unfold gc; omega)) (show gs gm gmv_14 1 + 6 ≤ gs gm gmv_14 (1 + 1) from (by unfold gs; omega))⟩, ⟨Nat.le_trans hS.1 hz2, fun q h1 h2 => (hk2 q (Nat.lt_of_lt_of_le h1 hS.1)).trans (hS.2.1 q h1 h2)⟩⟩) hS.2.2 (Nat.le_trans (gc_le (gm := gm) (k := 1) (j := 1) hIv_14) (Nat.le_of_ble_eq_true rfl)) (Nat.le_trans (gs_le (gm := gm) (k := 1) (j := 6) hIv_14) (Nat.le_of_ble_eq_true rfl))
        rcases List.mem_cons.mp hw with rfl | hw
        · rfl
        rcases List.mem_cons.mp hw with rfl | hw
        · rfl
        exact inV_3 w hw
    · have h_19 : iv (-1) (-1) r_6 := ⟨(hr_6).1, by omega⟩
      refine vx_throw1 (own := RX12) (cls := "java/lang/IndexOutOfBoundsException") (names := ["java/lang/RuntimeException", "java/lang/Exception"]) (ik := 169) (ic := 171) (A := A) hx hb hl9 hown (by decide +kernel) (by decide +kernel) (htb _ kw_995) (htb _ kw_175) (vx_hat (fun w h => htb w (inT_5 w h)) inU_5 (vx_c (va_Nw.use rfl hG.2.1.2.1) (vx_c (va_Nw.use rfl hG.1.2.1.2.2.1) (vx_c (va_Nw.use rfl hG.1.2.1.2.2.2.1) (vx_c (va_Nw.use rfl hG.1.2.1.2.2.2.2) vx_n))))) (fun w hw => ?_) hG.1.2.2.2.1 hG.1.2.2.2.2 hS (by rw [hml]; exact hl.1) dX12_call_36 dX12_call_39 dX12_call_40 dX12_call_43 (fun x hx9 => (hxt x hx9).elim) (Nat.le_of_ble_eq_true rfl) (Nat.le_trans (Nat.add_le_add_right (show _ ≤ 8 from (Nat.le_trans cs_n (by decide))) _) (Nat.le_of_ble_eq_true rfl)) (Nat.le_trans (gc_le (gm := gm) (k := 0) (j := 1) hI) (Nat.le_of_ble_eq_true rfl)) (Nat.le_trans (gs_le (gm := gm) (k := 0) (j := 6) hI) (Nat.le_of_ble_eq_true rfl)) hlocks (fun t ht1 hz2 hk2 hnb => ⟨⟨(a2, lx, sgv_3, gm, lg), ⟨(Or.inr (Or.inl rfl)), sgv_3, gm, lg, rfl, hIv_3, (KS_tr (L := [13, 14, 15, 16, 17, 18]) KS_rf ksv_3 (by decide)), KS_rf, KS_rf, (Or.inr (MOK_e hMO (show sgv_3 12 = sg 12 from (ksv_3 12 (by decide))) rfl rfl rfl rfl)), ((FND9_e hFN (show sgv_3 15 = sg 15 from (ksv_3 15 (by decide))) rfl)), (Or.inr (Or.inl ⟨rfl, by have := i32_0; have := i32_1; have := i32_2; have := i32_m1; have := congrArg Int32.toInt (show sgv_3 1 = sg 1 from ksv_3 1 (by decide)); have := (show iv 0 1 (sg 1) from CI_s hI 1).1; have := (show iv 0 1 (sg 1) from CI_s hI 1).2; have := (hvx).1; have := (hvx).2; have := (h_5).1; have := (h_5).2; have := (h_19).1; have := (h_19).2; omega, (by rw [← fL_r_6]; have := i32_0; have := i32_1; have := i32_2; have := i32_m1; have := (hvx).1; have := (hvx).2; have := (h_5).1; have := (h_5).2; have := (h_19).1; have := (h_19).2; have := (h_19).2; omega), (RC_ks (L := [17, 18]) (M := []) hRC (KS_tr (L := [17, 18]) KS_rf ksv_3 (by decide)) KS_rf (by decide) (by decide))⟩))⟩, ⟨hP.kept (fun k q hq => hk2 _ (vx_lt hP hq)), va_K.moved ht1 hK, hD⟩, (Nat.le_refl _), NBw_w hnb (show gc gm gm 0 + 1 ≤ gc gm gm (1 + 1) from (by unfold gc; omega)) (show gs gm gm 0 + 6 ≤ gs gm gm (1 + 1) from (by unfold gs; omega))⟩, ⟨Nat.le_trans hS.1 hz2, fun q h1 h2 => (hk2 q (Nat.lt_of_lt_of_le h1 hS.1)).trans (hS.2.1 q h1 h2)⟩⟩) hS.2.2 (Nat.le_trans (gc_le (gm := gm) (k := 0) (j := 1) hI) (Nat.le_of_ble_eq_true rfl)) (Nat.le_trans (gs_le (gm := gm) (k := 0) (j := 6) hI) (Nat.le_of_ble_eq_true rfl))
      rcases List.mem_cons.mp hw with rfl | hw
      · rfl
      rcases List.mem_cons.mp hw with rfl | hw
      · rfl
      exact inV_5 w hw
  · have h_20 : iv 0 0 (sg 1) := iv_eq c_4 (show iv 0 1 (sg 1) from CI_s hI 1) (iv_k (by decide) : iv 0 0 0) (by decide)
    refine vx_throw1 (own := RX12) (cls := "java/lang/IllegalStateException") (names := ["java/lang/RuntimeException", "java/lang/Exception"]) (ik := 144) (ic := 146) (A := A) hx hb hl9 hown (by decide +kernel) (by decide +kernel) (htb _ kw_886) (htb _ kw_173) (vx_hat (fun w h => htb w (inT_2 w h)) inU_2 (vx_c (va_Nw.use rfl hG.1.2.1.2.1) (vx_c (va_Nw.use rfl hG.1.2.1.2.2.1) (vx_c (va_Nw.use rfl hG.1.2.1.2.2.2.1) (vx_c (va_Nw.use rfl hG.1.2.1.2.2.2.2) vx_n))))) (fun w hw => ?_) hG.1.2.2.2.1 hG.1.2.2.2.2 hS (by rw [hml]; exact hl.1) dX12_call_14 dX12_call_17 dX12_call_18 dX12_call_21 (fun x hx9 => (hxt x hx9).elim) (Nat.le_of_ble_eq_true rfl) (Nat.le_trans (Nat.add_le_add_right (show _ ≤ 8 from (Nat.le_trans cs_n (by decide))) _) (Nat.le_of_ble_eq_true rfl)) (Nat.le_trans (gc_le (gm := gm) (k := 0) (j := 1) hI) (Nat.le_of_ble_eq_true rfl)) (Nat.le_trans (gs_le (gm := gm) (k := 0) (j := 6) hI) (Nat.le_of_ble_eq_true rfl)) hlocks (fun t ht1 hz2 hk2 hnb => ⟨⟨(a2, lx, sgv_3, gm, lg), ⟨(Or.inl rfl), sgv_3, gm, lg, rfl, hIv_3, (KS_tr (L := [13, 14, 15, 16, 17, 18]) KS_rf ksv_3 (by decide)), KS_rf, KS_rf, (Or.inl (by have := i32_0; have := i32_1; have := i32_2; have := i32_m1; have := congrArg Int32.toInt (show sgv_3 1 = sg 1 from ksv_3 1 (by decide)); have := (show iv 0 1 (sg 1) from CI_s hI 1).1; have := (show iv 0 1 (sg 1) from CI_s hI 1).2; have := (hvx).1; have := (hvx).2; have := (h_20).1; have := (h_20).2; omega)), ((FND9_e hFN (show sgv_3 15 = sg 15 from (ksv_3 15 (by decide))) rfl)), (Or.inl ⟨rfl, by have := i32_0; have := i32_1; have := i32_2; have := i32_m1; have := congrArg Int32.toInt (show sgv_3 1 = sg 1 from ksv_3 1 (by decide)); have := (show iv 0 1 (sg 1) from CI_s hI 1).1; have := (show iv 0 1 (sg 1) from CI_s hI 1).2; have := (hvx).1; have := (hvx).2; have := (h_20).1; have := (h_20).2; omega, (RC_ks (L := [17, 18]) (M := []) hRC (KS_tr (L := [17, 18]) KS_rf ksv_3 (by decide)) KS_rf (by decide) (by decide))⟩)⟩, ⟨hP.kept (fun k q hq => hk2 _ (vx_lt hP hq)), va_K.moved ht1 hK, hD⟩, (Nat.le_refl _), NBw_w hnb (show gc gm gm 0 + 1 ≤ gc gm gm (1 + 1) from (by unfold gc; omega)) (show gs gm gm 0 + 6 ≤ gs gm gm (1 + 1) from (by unfold gs; omega))⟩, ⟨Nat.le_trans hS.1 hz2, fun q h1 h2 => (hk2 q (Nat.lt_of_lt_of_le h1 hS.1)).trans (hS.2.1 q h1 h2)⟩⟩) hS.2.2 (Nat.le_trans (gc_le (gm := gm) (k := 0) (j := 1) hI) (Nat.le_of_ble_eq_true rfl)) (Nat.le_trans (gs_le (gm := gm) (k := 0) (j := 6) hI) (Nat.le_of_ble_eq_true rfl))
    rcases List.mem_cons.mp hw with rfl | hw
    · rfl
    rcases List.mem_cons.mp hw with rfl | hw
    · rfl
    exact inV_2 w hw
end
section
/-- the reference's rows that making leaves as they are -/
def dynR : List Nat := [53, 54, 55, 56, 57, 58, 59, 60, 61, 62, 64, 65, 66, 67, 68, 69, 70, 71, 72, 73, 75]
def rt9 (gm : Nat → Nat → Int32) : Nat → Nat → Int32 := fun k => if dynR.contains k = true then (fun _ => 0) else gm k
def rs9 (sg : Nat → Int32) : Nat → Int32 := fun k => if k = 24 ∨ k = 41 then sg k else 0
theorem rt9_e {gm : Nat → Nat → Int32} {k : Nat} (h : dynR.contains k = false) : rt9 gm k = gm k := by unfold rt9; rw [h]; rfl
theorem rt9_ks {gm gm2 : Nat → Nat → Int32} {L : List Nat} (h : KS L gm gm2) (hL : L.all (fun k => dynR.contains k) = true) : rt9 gm2 = rt9 gm := by
  funext k
  unfold rt9
  by_cases q : dynR.contains k = true
  · rw [if_pos q, if_pos q]
  · rw [if_neg q, if_neg q]
    refine h k ?_
    cases hk : L.contains k with
    | false => rfl
    | true => exact absurd (List.all_eq_true.mp hL k (List.contains_iff_mem.mp hk)) q
theorem rs9_ks {sg sg2 : Nat → Int32} {L : List Nat} (h : KS L sg sg2) (h4 : L.contains 24 = false) (h12 : L.contains 41 = false) : rs9 sg2 = rs9 sg := by
  funext k
  unfold rs9
  by_cases q : k = 24 ∨ k = 41
  · rw [if_pos q, if_pos q]
    rcases q with rfl | rfl
    · exact h 24 h4
    · exact h 41 h12
  · rw [if_neg q, if_neg q]
theorem rw9 {gm rg : Nat → Nat → Int32} (h : rt9 gm = rg) (k : Nat) (hk : dynR.contains k = false) (i : Nat) : rg k i = gm k i := by rw [← h, rt9_e hk]
theorem rwt9 {gm rg : Nat → Nat → Int32} (h : rt9 gm = rg) {k i : Nat} {z : Int32} (e : z = gm k i) (hk : dynR.contains k = false) : rg k i = z := (rw9 h k hk i).trans e.symm
theorem rs9_41 {sg rs : Nat → Int32} (h : rs9 sg = rs) : rs 41 = sg 41 := by rw [← h]; rfl
theorem DK_r {sg rs : Nat → Int32} {gm rg : Nat → Nat → Int32} {lg : Nat → Nat → Int64} (h : rt9 gm = rg) (hs : rs9 sg = rs) : DK sg gm lg rs rg lg := by
  subst h; subst hs
  exact ⟨⟨rfl, rfl, rfl, rfl, rfl, rfl, rfl, rfl, rfl⟩, rfl, rfl, rfl⟩
/-- scope one, of beans -/
abbrev one9 (wg : Nat → Nat → Int32) (wl : Nat → Nat → Int64) (b : Nat) : Prop := ¬ wl 4 b = 0 ∧ wg 35 b = 0
def RRo (S : S9) (sg : Nat → Int32) (gm : Nat → Nat → Int32) : Prop := (sg 48).toInt = ((zO S).length : Int) ∧ ∀ k o, (zO S)[k]? = some o → (gm 53 k).toInt = o.1 ∧ (gm 54 k).toInt = o.2
def RRe (S : S9) (sg : Nat → Int32) (gm : Nat → Nat → Int32) : Prop := (sg 49).toInt = ((zE S).length : Int) ∧ ∀ k e, (zE S)[k]? = some e → (gm 55 k).toInt = e.1 ∧ (gm 56 k).toInt = e.2.1 ∧ (gm 57 k).toInt = e.2.2.1 ∧ (gm 58 k).toInt = e.2.2.2
def RRb (wg : Nat → Nat → Int32) (wl : Nat → Nat → Int64) (S : S9) (sg : Nat → Int32) (gm : Nat → Nat → Int32) : Prop := ∀ b, b < (sg 41).toNatClampNeg → (zS S b = 1 ↔ ¬ gm 62 b = 0) ∧ (one9 wg wl b → (zS S b = 2 ↔ ¬ gm 61 b = 0) ∧ (gm 60 b).toInt = (if zS S b = 0 then -1 else zW S b)) ∧ zS S b ≤ 2
def RRf (wg : Nat → Nat → Int32) (wl : Nat → Nat → Int64) (S : S9) (sg : Nat → Int32) (gm : Nat → Nat → Int32) : Prop := (sg 50).toInt = ((zF S).length : Int) ∧ (∀ (k b : Nat), (zF S)[k]? = some b → (gm 59 k).toInt = (b : Int) ∧ b < (sg 41).toNatClampNeg ∧ one9 wg wl b ∧ zS S b = 2) ∧ (zF S).Nodup
def RR (wg : Nat → Nat → Int32) (wl : Nat → Nat → Int64) (S : S9) (sg : Nat → Int32) (gm : Nat → Nat → Int32) : Prop := RRo S sg gm ∧ RRe S sg gm ∧ RRb wg wl S sg gm ∧ RRf wg wl S sg gm
def rq9 : List Nat := [53, 54, 55, 56, 57, 58, 59, 60, 61, 62]
theorem RR_ks {wg : Nat → Nat → Int32} {wl : Nat → Nat → Int64} {S : S9} {sg sg2 : Nat → Int32} {gm gm2 : Nat → Nat → Int32} {L M : List Nat} (h : RR wg wl S sg gm) (hs : KS L sg sg2) (hg : KS M gm gm2) (hL : [41, 48, 49, 50].all (fun k => !L.contains k) = true) (hM : rq9.all (fun k => !M.contains k) = true) : RR wg wl S sg2 gm2 := by
  have f : ∀ k, k ∈ [41, 48, 49, 50] → sg2 k = sg k := fun k hk => hs k (by
    have := List.all_eq_true.mp hL k hk
    simpa using this)
  have g : ∀ k, k ∈ rq9 → gm2 k = gm k := fun k hk => hg k (by
    have := List.all_eq_true.mp hM k hk
    simpa using this)
  obtain ⟨a, b, c, d⟩ := h
  unfold RRo at a; unfold RRe at b; unfold RRb at c; unfold RRf at d
  unfold RR RRo RRe RRb RRf
  rw [f 41 (by decide), f 48 (by decide), f 49 (by decide), f 50 (by decide), g 53 (by decide), g 54 (by decide), g 55 (by decide), g 56 (by decide), g 57 (by decide), g 58 (by decide), g 59 (by decide), g 60 (by decide), g 61 (by decide), g 62 (by decide)]
  exact ⟨a, b, c, d⟩
theorem RR_full {wg : Nat → Nat → Int32} {wl : Nat → Nat → Int64} {S : S9} {sg : Nat → Int32} {gm : Nat → Nat → Int32} {e : Ev9} (h : RR wg wl S sg gm) (hf : 400 ≤ (sg 49).toInt) : RR wg wl (zAdd S e) sg gm := by
  have h1 := h.2.1.1
  have : zAdd S e = S := by unfold zAdd; rw [if_pos (by omega)]
  rw [this]; exact h
theorem RR_ev {wg : Nat → Nat → Int32} {wl : Nat → Nat → Int64} {S : S9} {sg sg2 : Nat → Int32} {gm gm2 : Nat → Nat → Int32} {a b c d : Int32} {i0 i1 i2 i3 : Nat} (h : RR wg wl S sg gm) (hs : KS [49] sg sg2) (hg : KS [55, 56, 57, 58] gm gm2) (hlt : (sg 49).toInt < 400) (h13 : (sg2 49).toInt = (sg 49).toInt + 1) (h5 : gm2 55 = upd (gm 55) i0 a) (h6 : gm2 56 = upd (gm 56) i1 b) (h7 : gm2 57 = upd (gm 57) i2 c) (h8 : gm2 58 = upd (gm 58) i3 d) (e0 : (i0 : Int) = (sg 49).toInt) (e1 : i1 = i0) (e2 : i2 = i0) (e3 : i3 = i0) : RR wg wl (zAdd S (a.toInt, b.toInt, c.toInt, d.toInt)) sg2 gm2 := by
  obtain ⟨ho, he, hb, hf⟩ := h
  have h1 := he.1
  have hz : zAdd S (a.toInt, b.toInt, c.toInt, d.toInt) = (zO S, zE S ++ [(a.toInt, b.toInt, c.toInt, d.toInt)], zS S, zW S, zF S) := by unfold zAdd; rw [if_neg (by omega)]
  rw [hz]
  have s41 := hs 41 (by decide); have s48 := hs 48 (by decide); have s50 := hs 50 (by decide)
  have g53 := hg 53 (by decide); have g54 := hg 54 (by decide); have g59 := hg 59 (by decide); have g60 := hg 60 (by decide); have g61 := hg 61 (by decide); have g62 := hg 62 (by decide)
  subst e1; subst e2; subst e3
  refine ⟨?_, ?_, ?_, ?_⟩
  · unfold RRo; rw [s48, g53, g54]; exact ho
  · refine ⟨by rw [h13, h1]; show _ = ((zE S ++ [_]).length : Int); rw [List.length_append]; rfl, ?_⟩
    intro k e hk
    have hk : (zE S ++ [(a.toInt, b.toInt, c.toInt, d.toInt)])[k]? = some e := hk
    rw [h5, h6, h7, h8]
    rcases ga9 hk with ⟨hl, hk⟩ | ⟨hl, hk⟩
    · rw [upd_ne (by omega), upd_ne (by omega), upd_ne (by omega), upd_ne (by omega)]
      exact he.2 k e hk
    · subst hk
      have e9 : k = i3 := by omega
      subst e9
      rw [upd_at, upd_at, upd_at, upd_at]
      exact ⟨rfl, rfl, rfl, rfl⟩
  · unfold RRb; rw [s41, g60, g61, g62]; exact hb
  · unfold RRf; rw [s41, s50, g59]; exact hf
theorem RR_cl {wg : Nat → Nat → Int32} {wl : Nat → Nat → Int64} {S : S9} {sg : Nat → Int32} {gm : Nat → Nat → Int32} {nb : Int32} (h : RR wg wl S sg gm) (h0 : 0 ≤ nb.toInt) (hl : nb.toInt < ((zO S).length : Int)) : (((zO S)[nb.toInt.toNat]?).getD (0, 0)).1 = (gm 53 nb.toNatClampNeg).toInt ∧ (((zO S)[nb.toInt.toNat]?).getD (0, 0)).2 = (gm 54 nb.toNatClampNeg).toInt := by
  have hk : nb.toInt.toNat < (zO S).length := by omega
  have h2 := h.1.2 nb.toInt.toNat _ (List.getElem?_eq_getElem hk)
  rw [List.getElem?_eq_getElem hk]
  exact ⟨h2.1.symm, h2.2.symm⟩
/-- the declared classes, on both sides -/
def CL9 (wg rg : Nat → Nat → Int32) (c : Nat) : Prop := (wg 2 c).toInt = (c : Int) ∧ (rg 6 c).toInt = (wg 4 c).toInt ∧ (rg 7 c).toInt = (wg 0 c).toInt ∧ (rg 13 c).toInt = (wg 1 c).toInt
  ∧ (∀ i, i < (wg 0 c).toNatClampNeg → (rg 8 (4 * c + i)).toInt = (wg 7 (8 * c + i)).toInt ∧ (∀ p, p < (wg 7 (8 * c + i)).toNatClampNeg → (rg 9 (3 * (4 * c + i) + p)).toInt = (wg 54 (3 * (8 * c + i) + p)).toInt) ∧ (wg 8 (8 * c + i)).toInt = -1 ∧ (wg 9 (8 * c + i)).toInt = 0 ∧ (wg 10 (8 * c + i)).toInt = (c : Int) ∧ (wg 6 (8 * c + i)).toInt = (i : Int))
  ∧ (∀ i, i < (wg 1 c).toNatClampNeg → (rg 14 (4 * c + i)).toInt = (wg 8 (8 * c + 4 + i)).toInt ∧ (rg 18 (4 * c + i)).toInt = (wg 9 (8 * c + 4 + i)).toInt ∧ (rg 15 (4 * c + i)).toInt = (wg 10 (8 * c + 4 + i)).toInt ∧ (rg 16 (4 * c + i)).toInt = (wg 7 (8 * c + 4 + i)).toInt ∧ (∀ p, p < (wg 7 (8 * c + 4 + i)).toNatClampNeg → (rg 17 (3 * (4 * c + i) + p)).toInt = (wg 54 (3 * (8 * c + 4 + i) + p)).toInt) ∧ (wg 5 (8 * c + 4 + i)).toInt = (c : Int) ∧ (wg 6 (8 * c + 4 + i)).toInt = (i : Int) ∧ 0 ≤ (wg 8 (8 * c + 4 + i)).toInt)
  ∧ (∀ k, k < (rg 10 c).toNatClampNeg → (wg 55 (26 * c + (rg 11 (8 * c + k)).toNatClampNeg)).toInt = (rg 12 (8 * c + k)).toInt)
  ∧ (∀ n, n < 26 → (∀ k, k < (rg 10 c).toNatClampNeg → ¬ (rg 11 (8 * c + k)).toNatClampNeg = n) → (wg 55 (26 * c + n)).toInt = -1)
def CLS9 (wg rg : Nat → Nat → Int32) : Prop := ∀ c, c < 8 → CL9 wg rg c
/-- valid types -/
abbrev ty9 (t : Int) : Prop := (0 ≤ t ∧ t ≤ 4) ∨ 8 ≤ t
end
section
/-- a text as a number, as a truth -/
def dgF : List Int → Int → Option Int
  | [], a => some a
  | x :: l, a => if 48 ≤ x ∧ x ≤ 57 then dgF l (a * 10 + (x - 48)) else none
def ng9 (T : List Int) : Bool := decide (T.head? = some 45)
def nuL (T : List Int) : Option Int :=
  if (if ng9 T = true then T.drop 1 else T).length = 0 ∨ 10 < (if ng9 T = true then T.drop 1 else T).length then none
  else match dgF (if ng9 T = true then T.drop 1 else T) 0 with
    | none => none
    | some v => if -2147483648 ≤ (if ng9 T = true then -v else v) ∧ (if ng9 T = true then -v else v) ≤ 2147483647 then some (if ng9 T = true then -v else v) else none
def trL (T : List Int) : Int := if T = [116, 114, 117, 101] then 1 else if T = [102, 97, 108, 115, 101] then 0 else -1
/-- a source of the reference bears these characters -/
def SRq (rg : Nat → Nat → Int32) (s : Int32) (T : List Int) : Prop := T.length ≤ 24 ∧ (∀ x, x ∈ T → 1 ≤ x ∧ x ≤ 126) ∧ ((0 ≤ s.toInt ∧ s.toInt ≤ 959 ∧ (rg 37 s.toNatClampNeg).toInt = (T.length : Int) ∧ (∀ i x, T[i]? = some x → (rg 38 ((rg 36 s.toNatClampNeg).toNatClampNeg + i)).toInt = x)) ∨ (1000 ≤ s.toInt ∧ s.toInt ≤ 1079 ∧ (rg 31 (s.toInt - 1000).toNat).toInt = (T.length : Int) ∧ (∀ i x, T[i]? = some x → (rg 39 (24 * (s.toInt - 1000).toNat + i)).toInt = x)))
/-- the class's rows of a content that is a text -/
def TXT9 (wg : Nat → Nat → Int32) (wl : Nat → Nat → Int64) (c : Nat) (T : List Int) : Prop := (wg 11 c).toInt = (T.length : Int) ∧ (wl 3 c).toInt = (nuL T).getD 1099511627776 ∧ (wg 21 c).toInt = trL T ∧ (∀ x, T = [x] → (wg 56 (24 * c)).toInt = x)
/-- value and kind of the reference against what is worked out -/
def VR9 (wg : Nat → Nat → Int32) (wl : Nat → Nat → Int64) (rg : Nat → Nat → Int32) (ob : List Ob9) (c : Nat) (V : List Int) (kd v : Int32) : Prop :=
  ((wg 25 c).toInt = 7 ∧ kd.toInt = 0 ∧ ∃ T, SRq rg v T ∧ TXT9 wg wl c T) ∨ ((wg 25 c).toInt = 9 ∧ kd.toInt = 2) ∨ ((wg 25 c).toInt = 6 ∧ kd.toInt = 3 ∧ v.toInt = (wg 18 c).toInt) ∨ (((wg 25 c).toInt = 8 ∨ (wg 25 c).toInt = 2) ∧ kd.toInt = 1 ∧ V = [v.toInt] ∧ 0 ≤ v.toInt ∧ v.toInt < (ob.length : Int))
def IT1 (rg : Nat → Nat → Int32) (kd v : Int32) (x : Int) : Prop := (kd.toInt = 0 ∧ ∃ T, SRq rg v T ∧ x = 1000 + (T.length : Int)) ∨ (kd.toInt = 2 ∧ x = -1) ∨ (kd.toInt = 1 ∧ x = 3000 + v.toInt)
end
section
section FU9
variable {wg : Nat → Nat → Int32}
theorem sgF_fu {nm : Nat} (hp : ∀ c : Nat, c < 8 → (wg 4 c).toInt < (c : Int)) : ∀ (f g : Nat) (c : Int), c < (f : Int) → c < (g : Int) → c < 8 → sgF wg nm f c = sgF wg nm g c := by
  intro f
  induction f with
  | zero => intro g c h1 h2 h3; rw [sgF_o (by omega), sgF_o (by omega)]
  | succ f ih =>
    intro g c h1 h2 h3
    by_cases hc : c < 0
    · rw [sgF_o hc, sgF_o hc]
    · obtain ⟨k, rfl⟩ : ∃ k, g = k + 1 := ⟨g - 1, by omega⟩
      show (if c < 0 then (-1 : Int) else if _ then _ else _) = (if c < 0 then (-1 : Int) else if _ then _ else _)
      have h4 := hp c.toNat (by omega)
      rw [ih k (wg 4 c.toNat).toInt (by omega) (by omega) (by omega)]
theorem stF_fu {o : Int} (hp : ∀ c : Nat, c < 8 → (wg 4 c).toInt < (c : Int)) : ∀ (f g : Nat) (c u : Int), c < (f : Int) → c < (g : Int) → c < 8 → stF wg o f c u = stF wg o g c u := by
  intro f
  induction f with
  | zero => intro g c u h1 h2 h3; rw [stF_o (by omega), stF_o (by omega)]
  | succ f ih =>
    intro g c u h1 h2 h3
    by_cases hc : c < 0
    · rw [stF_o hc, stF_o hc]
    · obtain ⟨k, rfl⟩ : ∃ k, g = k + 1 := ⟨g - 1, by omega⟩
      show (if c < 0 then (-1 : Int) else if _ then _ else _) = (if c < 0 then (-1 : Int) else if _ then _ else _)
      have h4 := hp c.toNat (by omega)
      rw [ih k (wg 4 c.toNat).toInt (u + 1) (by omega) (by omega) (by omega)]
theorem wfF_fu {m st : Int} (hp : ∀ c : Nat, c < 8 → (wg 4 c).toInt < (c : Int)) : ∀ (f g : Nat) (c : Int), c < (f : Int) → c < (g : Int) → c < 8 → wfF wg m st f c = wfF wg m st g c := by
  intro f
  induction f with
  | zero => intro g c h1 h2 h3; rw [wfF_o (by omega), wfF_o (by omega)]
  | succ f ih =>
    intro g c h1 h2 h3
    by_cases hc : c < 0
    · rw [wfF_o hc, wfF_o hc]
    · obtain ⟨k, rfl⟩ : ∃ k, g = k + 1 := ⟨g - 1, by omega⟩
      show (if c < 0 then (-1 : Int) else if _ then _ else _) = (if c < 0 then (-1 : Int) else if _ then _ else _)
      have h4 := hp c.toNat (by omega)
      rw [ih k (wg 4 c.toNat).toInt (by omega) (by omega) (by omega)]
end FU9
section CU9
variable {wg rg gm : Nat → Nat → Int32}
theorem CL_pw (h : CLS9 wg rg) (hr : rt9 gm = rg) (hp : PR gm) : ∀ c : Nat, c < 8 → (wg 4 c).toInt < (c : Int) := fun c hc => by
  have a := (h c hc).2.1
  have b := hp c hc
  rw [rw9 hr 6 rfl] at a
  omega
/-- up one class: the setter -/
theorem sgR_up {R : Int} {nm : Nat} {x y : Int32} (h : CLS9 wg rg) (hr : rt9 gm = rg) (hp : PR gm) (hx : iv 0 7 x) (hR : R = sgF wg nm (x.toInt + 1).toNat x.toInt) (hn : (wg 55 (26 * x.toNatClampNeg + nm)).toInt = -1) (hy : y = gm 6 x.toNatClampNeg) : R = sgF wg nm (y.toInt + 1).toNat y.toInt := by
  have pw := CL_pw h hr hp
  have hc := cln9 hx.1
  have h7 := hx.2
  have a := (h x.toNatClampNeg (by omega)).2.1
  rw [rw9 hr 6 rfl, ← hy] at a
  have b := pw x.toNatClampNeg (by omega)
  rw [hR, show (x.toInt + 1).toNat = x.toInt.toNat + 1 by omega]
  show (if x.toInt < 0 then (-1 : Int) else if ¬ (wg 55 (26 * x.toNatClampNeg + nm)).toInt = -1 then _ else sgF wg nm x.toInt.toNat (wg 4 x.toNatClampNeg).toInt) = _
  rw [if_neg (by omega), if_neg (by omega), ← a]
  exact sgF_fu pw _ _ _ (by omega) (by omega) (by omega)
theorem sgR_h {R : Int} {nm : Nat} {x : Int32} (hx : iv 0 7 x) (hR : R = sgF wg nm (x.toInt + 1).toNat x.toInt) (hn : ¬ (wg 55 (26 * x.toNatClampNeg + nm)).toInt = -1) : R = (wg 55 (26 * x.toNatClampNeg + nm)).toInt := by
  have h0 := hx.1
  rw [hR, show (x.toInt + 1).toNat = x.toInt.toNat + 1 by omega]
  show (if x.toInt < 0 then (-1 : Int) else if ¬ (wg 55 (26 * x.toNatClampNeg + nm)).toInt = -1 then (wg 55 (26 * x.toNatClampNeg + nm)).toInt else _) = _
  rw [if_neg (by omega), if_pos hn]
theorem sgR_0 {nm : Nat} {a : Int32} (h : CLS9 wg rg) (hr : rt9 gm = rg) (hp : PR gm) (ha : iv (-1) 7 a) : sgF wg nm 8 a.toInt = sgF wg nm (a.toInt + 1).toNat a.toInt := sgF_fu (CL_pw h hr hp) _ _ _ (by have := ha.2; omega) (by have := ha.1; omega) (by have := ha.2; omega)
theorem stR_up {R o u : Int} {x y : Int32} (h : CLS9 wg rg) (hr : rt9 gm = rg) (hp : PR gm) (hx : iv 0 7 x) (hR : R = stF wg o (x.toInt + 1).toNat x.toInt u) (hn : ¬ x.toInt = o) (hy : y = gm 6 x.toNatClampNeg) : R = stF wg o (y.toInt + 1).toNat y.toInt (u + 1) := by
  have pw := CL_pw h hr hp
  have hc := cln9 hx.1
  have h7 := hx.2
  have h2 := (h x.toNatClampNeg (by omega)).1
  have a := (h x.toNatClampNeg (by omega)).2.1
  rw [rw9 hr 6 rfl, ← hy] at a
  have b := pw x.toNatClampNeg (by omega)
  rw [hR, show (x.toInt + 1).toNat = x.toInt.toNat + 1 by omega, stF_s hx.1 (by show ¬ (wg 2 x.toNatClampNeg).toInt = o; omega)]
  show stF wg o x.toInt.toNat (wg 4 x.toNatClampNeg).toInt (u + 1) = _
  rw [← a]
  exact stF_fu pw _ _ _ _ (by omega) (by omega) (by omega)
theorem stR_h {R o u : Int} {x : Int32} (h : CLS9 wg rg) (hx : iv 0 7 x) (hR : R = stF wg o (x.toInt + 1).toNat x.toInt u) (hn : x.toInt = o) : R = u := by
  have hc := cln9 hx.1
  have h7 := hx.2
  have h2 := (h x.toNatClampNeg (by omega)).1
  rw [hR, stF_y (by omega) hx.1 (by show (wg 2 x.toNatClampNeg).toInt = o; omega)]
theorem stR_0 {o u : Int} {a : Int32} (h : CLS9 wg rg) (hr : rt9 gm = rg) (hp : PR gm) (ha : iv (-1) 7 a) : stF wg o 8 a.toInt u = stF wg o (a.toInt + 1).toNat a.toInt u := stF_fu (CL_pw h hr hp) _ _ _ _ (by have := ha.2; omega) (by have := ha.1; omega) (by have := ha.2; omega)
theorem wfR_up {R m st : Int} {x y : Int32} (h : CLS9 wg rg) (hr : rt9 gm = rg) (hp : PR gm) (hx : iv 0 7 x) (hR : R = wfF wg m st (x.toInt + 1).toNat x.toInt) (hn : owB wg m st x.toNatClampNeg = false) (hy : y = gm 6 x.toNatClampNeg) : R = wfF wg m st (y.toInt + 1).toNat y.toInt := by
  have pw := CL_pw h hr hp
  have hc := cln9 hx.1
  have h7 := hx.2
  have a := (h x.toNatClampNeg (by omega)).2.1
  rw [rw9 hr 6 rfl, ← hy] at a
  have b := pw x.toNatClampNeg (by omega)
  rw [hR, show (x.toInt + 1).toNat = x.toInt.toNat + 1 by omega]
  show (if x.toInt < 0 then (-1 : Int) else if owB wg m st x.toNatClampNeg = true then _ else wfF wg m st x.toInt.toNat (wg 4 x.toNatClampNeg).toInt) = _
  rw [if_neg (by omega), if_neg (by rw [hn]; decide), ← a]
  exact wfF_fu pw _ _ _ (by omega) (by omega) (by omega)
theorem wfR_h {R m st : Int} {x : Int32} (hx : iv 0 7 x) (hR : R = wfF wg m st (x.toInt + 1).toNat x.toInt) (hn : owB wg m st x.toNatClampNeg = true) : R = x.toInt := by
  have h0 := hx.1
  rw [hR, show (x.toInt + 1).toNat = x.toInt.toNat + 1 by omega]
  show (if x.toInt < 0 then (-1 : Int) else if owB wg m st x.toNatClampNeg = true then _ else _) = _
  rw [if_neg (by omega), if_pos hn]
theorem wfR_0 {m st : Int} {a : Int32} (h : CLS9 wg rg) (hr : rt9 gm = rg) (hp : PR gm) (ha : iv (-1) 7 a) : wfF wg m st 8 a.toInt = wfF wg m st (a.toInt + 1).toNat a.toInt := wfF_fu (CL_pw h hr hp) _ _ _ (by have := ha.2; omega) (by have := ha.1; omega) (by have := ha.2; omega)
end CU9
end
section
set_option maxHeartbeats 4000000 in
set_option maxRecDepth 100000 in
theorem f_happens9 (l : Launch) (dC : Nat → ClassId) (dI : Nat → Nat → Nat) (h0 : Nat) (ad : Nat → Nat) (cid : Nat → ClassId) (sg : Nat → Int32) (gm : Nat → Nat → Int32) (lg : Nat → Nat → Int64) (a : Int32) (b : Int32) (f : Int32) (g : Int32) (wg : Nat → Nat → Int32) (wl : Nat → Nat → Int64) (S : S9) (hI : MI sg gm) (hRR : RR wg wl S sg gm) : MMv l dC dI yX13_happens wm_X13_happens ({ frames := 0, cells := 0, slots := 0, locals := 0 }) h0 ad cid [.int a, .int b, .int f, .int g] sg gm lg (fun v => ∃ (sg2 : Nat → Int32) (gm2 : Nat → Nat → Int32) (lg2 : Nat → Nat → Int64), v = (sg2, gm2, lg2) ∧ MI sg2 gm2 ∧ KS [49] sg sg2 ∧ KS [55, 56, 57, 58] gm gm2 ∧ KS [] lg lg2 ∧ (RR wg wl (zAdd S (a.toInt, b.toInt, f.toInt, g.toInt)) sg2 gm2)) := by
  intro sz
  refine Met.ofW (cc := cX13_happens) (maxL := 5) (ret := none) (by decide) rfl ?_
  intro p e s m args below meth c s₁ B hml hv
  obtain ⟨rfl, hsz, hP, hK, hD0⟩ := hv
  have hx := B.exec
  have hb := B.bytes
  have hr := B.returns
  have hts := atoms_spec (ws := wm_X13_happens) B.pre
  have htb := fun (w : Cond) (h : w ∈ tb) => hts w (List.mem_cons_of_mem _ h)
  have hown : s.vm.findClass RX13 = some m.cls := findClass_of_methodNamed B.named
  have hlocks := B.notSynchronized
  subst hsz
  have hD := hD0.self (sz := s.heap.size)
  generalize hAe : va_A (mW h0 ad cid sg gm lg) s.heap.size = A at hD ⊢
  have hA : ∀ q : Nat, s.heap.size ≤ q → A q := fun q h => by rw [← hAe]; exact Or.inr h
  have hS : va_S A s.heap s.heap [] := va_S.rf
  have hl := lv_entry ([.ref h0, .int a, .int b, .int f, .int g]) (n := 5) (Nat.le_of_ble_eq_true rfl)
  rw [lg_entry_eq]
  generalize (lg_sl ([.ref h0, .int a, .int b, .int f, .int g]) ++ List.replicate (5 - (lg_sl ([.ref h0, .int a, .int b, .int f, .int g])).length) Slot.unset).toArray = ls at hl ⊢
  have hl : lv_has ls 5 [(0, .ref h0), (1, .int a), (2, .int b), (3, .int f), (4, .int g)] := hl
  refine lv_aload_n hx hb dX13_happens_0 rfl (lv_at hl 0 rfl) ?_
  refine mr_get (v := .int (sg 49)) hx hb htb inX13 hown hK hP 49 (by decide) (htb _ kw_1076) rfl dX13_happens_1 ?_
  refine lv_sipush (v := 400) hx hb dX13_happens_4 (by decide) ?_
  refine lv_icmp_ne (tgt := 11) hx hb dX13_happens_7 (by decide) (fun c_1 => ?_) (fun c_1 => ?_)
  · have h_2 : iv 0 399 (sg 49) := iv_neH c_1 (show iv 0 400 (sg 49) from MI_s hI 49) (by decide)
    refine lv_aload_n hx hb dX13_happens_11 rfl (lv_at hl 0 rfl) ?_
    refine mr_get (v := .ref (ad 55)) hx hb htb inX13 hown hK hP 55 (by decide) (htb _ kw_1082) rfl dX13_happens_12 ?_
    refine lv_aload_n hx hb dX13_happens_15 rfl (lv_at hl 0 rfl) ?_
    refine mr_get (v := .int (sg 49)) hx hb htb inX13 hown hK hP 49 (by decide) (htb _ kw_1076) rfl dX13_happens_16 ?_
    refine lv_iload_n hx hb dX13_happens_19 rfl (lv_at hl 1 rfl) ?_
    refine ma_iast (x := a) hx hb hK hP hD hS 41 (k := 55) rfl rfl rfl (show vp_in (sg 49) 400 from (iv_in h_2 (by decide))) dX13_happens_20 (fun gm_3 H locs egm_3 hP hD hS => ?_)
    have hI_gm_3 := MI_st hI egm_3 (iv_all a) (by decide)
    refine lv_aload_n hx hb dX13_happens_21 rfl (lv_at hl 0 rfl) ?_
    refine mr_get (v := .ref (ad 56)) hx hb htb inX13 hown hK hP 56 (by decide) (htb _ kw_1083) rfl dX13_happens_22 ?_
    refine lv_aload_n hx hb dX13_happens_25 rfl (lv_at hl 0 rfl) ?_
    refine mr_get (v := .int (sg 49)) hx hb htb inX13 hown hK hP 49 (by decide) (htb _ kw_1076) rfl dX13_happens_26 ?_
    refine lv_iload_n hx hb dX13_happens_29 rfl (lv_at hl 2 rfl) ?_
    refine ma_iast (x := b) hx hb hK hP hD hS 42 (k := 56) rfl rfl rfl (show vp_in (sg 49) 400 from (iv_in h_2 (by decide))) dX13_happens_30 (fun gm_4 H locs egm_4 hP hD hS => ?_)
    have hI_gm_4 := MI_st hI_gm_3 egm_4 (iv_all b) (by decide)
    refine lv_aload_n hx hb dX13_happens_31 rfl (lv_at hl 0 rfl) ?_
    refine mr_get (v := .ref (ad 57)) hx hb htb inX13 hown hK hP 57 (by decide) (htb _ kw_1084) rfl dX13_happens_32 ?_
    refine lv_aload_n hx hb dX13_happens_35 rfl (lv_at hl 0 rfl) ?_
    refine mr_get (v := .int (sg 49)) hx hb htb inX13 hown hK hP 49 (by decide) (htb _ kw_1076) rfl dX13_happens_36 ?_
    refine lv_iload_n hx hb dX13_happens_39 rfl (lv_at hl 3 rfl) ?_
    refine ma_iast (x := f) hx hb hK hP hD hS 43 (k := 57) rfl rfl rfl (show vp_in (sg 49) 400 from (iv_in h_2 (by decide))) dX13_happens_40 (fun gm_5 H locs egm_5 hP hD hS => ?_)
    have hI_gm_5 := MI_st hI_gm_4 egm_5 (iv_all f) (by decide)
    refine lv_aload_n hx hb dX13_happens_41 rfl (lv_at hl 0 rfl) ?_
    refine mr_get (v := .ref (ad 58)) hx hb htb inX13 hown hK hP 58 (by decide) (htb _ kw_1085) rfl dX13_happens_42 ?_
    refine lv_aload_n hx hb dX13_happens_45 rfl (lv_at hl 0 rfl) ?_
    refine mr_get (v := .int (sg 49)) hx hb htb inX13 hown hK hP 49 (by decide) (htb _ kw_1076) rfl dX13_happens_46 ?_
    refine lv_iload hx hb dX13_happens_49 (lv_at hl 4 rfl) ?_
    refine ma_iast (x := g) hx hb hK hP hD hS 44 (k := 58) rfl rfl rfl (show vp_in (sg 49) 400 from (iv_in h_2 (by decide))) dX13_happens_51 (fun gm_6 H locs egm_6 hP hD hS => ?_)
    have hI_gm_6 := MI_st hI_gm_5 egm_6 (iv_all g) (by decide)
    refine lv_aload_n hx hb dX13_happens_52 rfl (lv_at hl 0 rfl) ?_
    refine lv_dup hx hb dX13_happens_53 rfl ?_
    refine mr_get (v := .int (sg 49)) hx hb htb inX13 hown hK hP 49 (by decide) (htb _ kw_1076) rfl dX13_happens_54 ?_
    refine lv_iconst (v := 1) hx hb dX13_happens_57 (by decide) ?_
    refine lv_iadd hx hb dX13_happens_58 ?_
    refine lv_topi (fun z_7 ez_7 => ?_)
    have hz_7 : iv 1 400 z_7 := iv_of ez_7 (iv_add h_2 (iv_k (by decide) : iv 1 1 1) (by decide))
    have tz_7 : z_7.toInt = ((sg 49) : Int32).toInt + 1 := by rw [ez_7]; exact iv_addE h_2 (iv_k (by decide) : iv 1 1 1) (by decide)
    refine ma_put (x := z_7) hx hb htb inX13 hown hK hP hD hS 49 (by decide) (by decide) (htb _ kw_1076) rfl rfl rfl dX13_happens_59 (fun sg_8 H locs esg_8 hP hD hS => ?_)
    have hI_sg_8 := MI_put hI_gm_6 esg_8 hz_7 (by decide)
    exact W.vret hx hb hr (fun t ht hW => ⟨⟨(sg_8, gm_6, lg), rfl, ⟨sg_8, gm_6, lg, rfl, hI_sg_8, (KS_up KS_rf esg_8 (by decide)), (KS_up (KS_up (KS_up (KS_up KS_rf egm_3 (by decide)) egm_4 (by decide)) egm_5 (by decide)) egm_6 (by decide)), KS_rf, (RR_ev hRR (KS_up KS_rf esg_8 (by decide)) (KS_up (KS_up (KS_up (KS_up KS_rf egm_3 (by decide)) egm_4 (by decide)) egm_5 (by decide)) egm_6 (by decide)) (by have := i32_0; have := i32_1; have := i32_2; have := i32_m1; have := congrArg Int32.toInt (show sg_8 49 = z_7 from up_at esg_8); have := (hz_7).1; have := (hz_7).2; have := (h_2).1; have := (h_2).2; omega) (by have := i32_0; have := i32_1; have := i32_2; have := i32_m1; have := congrArg Int32.toInt (show sg_8 49 = z_7 from up_at esg_8); have := (hz_7).1; have := (hz_7).2; have := (h_2).1; have := (h_2).2; omega) (show gm_6 55 = upd (gm 55) ((sg 49) : Int32).toNatClampNeg a from ((up_ne egm_6 (by decide)).trans ((up_ne egm_5 (by decide)).trans ((up_ne egm_4 (by decide)).trans ((up_at egm_3).trans (by rw [show gm 55 = gm 55 from rfl])))))) (show gm_6 56 = upd (gm 56) ((sg 49) : Int32).toNatClampNeg b from ((up_ne egm_6 (by decide)).trans ((up_ne egm_5 (by decide)).trans ((up_at egm_4).trans (by rw [show gm_3 56 = gm 56 from ((up_ne egm_3 (by decide)).trans rfl)]))))) (show gm_6 57 = upd (gm 57) ((sg 49) : Int32).toNatClampNeg f from ((up_ne egm_6 (by decide)).trans ((up_at egm_5).trans (by rw [show gm_4 57 = gm 57 from ((up_ne egm_4 (by decide)).trans ((up_ne egm_3 (by decide)).trans rfl))])))) (show gm_6 58 = upd (gm 58) ((sg 49) : Int32).toNatClampNeg g from ((up_at egm_6).trans (by rw [show gm_5 58 = gm 58 from ((up_ne egm_5 (by decide)).trans ((up_ne egm_4 (by decide)).trans ((up_ne egm_3 (by decide)).trans rfl)))]))) (cln9 (show iv 0 400 (sg 49) from MI_s hI 49).1) rfl rfl rfl)⟩, by rw [ht]; exact hP, va_K.moved hW.alike hK, hD⟩, hS.F ht⟩) hS.2.2 dX13_happens_62
  · have h_9 : iv 400 400 (sg 49) := iv_eq c_1 (show iv 0 400 (sg 49) from MI_s hI 49) (iv_k (by decide) : iv 400 400 400) (by decide)
    exact W.vret hx hb hr (fun t ht hW => ⟨⟨(sg, gm, lg), rfl, ⟨sg, gm, lg, rfl, hI, KS_rf, KS_rf, KS_rf, (RR_full hRR (by have := i32_0; have := i32_1; have := i32_2; have := i32_m1; have := (show iv 0 400 (sg 49) from MI_s hI 49).1; have := (show iv 0 400 (sg 49) from MI_s hI 49).2; have := (h_9).1; have := (h_9).2; omega))⟩, by rw [ht]; exact hP, va_K.moved hW.alike hK, hD⟩, hS.F ht⟩) hS.2.2 dX13_happens_10

set_option maxHeartbeats 4000000 in
set_option maxRecDepth 100000 in
theorem f_keep9 (l : Launch) (dC : Nat → ClassId) (dI : Nat → Nat → Nat) (h0 : Nat) (ad : Nat → Nat) (cid : Nat → ClassId) (sg : Nat → Int32) (gm : Nat → Nat → Int32) (lg : Nat → Nat → Int64) (sl : Int32) (it : Int32) (kd : Int32) (vl : Int32) (hI : MI sg gm) (hvsl : iv 0 404 sl) (hvit : iv (-1) 5 it) (hvkd : iv 0 3 kd) (hvvl : iv 0 1079 vl) (hva : VAL gm) (hvo : vok kd vl) : MMv l dC dI yX13_keep wm_X13_keep ({ frames := 0, cells := 0, slots := 0, locals := 0 }) h0 ad cid [.int sl, .int it, .int kd, .int vl] sg gm lg (fun v => ∃ (sg2 : Nat → Int32) (gm2 : Nat → Nat → Int32) (lg2 : Nat → Nat → Int64), v = (sg2, gm2, lg2) ∧ MI sg2 gm2 ∧ KS [] sg sg2 ∧ KS [70, 71, 72, 73] gm gm2 ∧ KS [] lg lg2 ∧ (VAL gm2) ∧ ((it.toInt < 0 ∧ gm2 70 = upd (gm 70) sl.toNatClampNeg kd ∧ gm2 71 = upd (gm 71) sl.toNatClampNeg vl ∧ gm2 72 = gm 72 ∧ gm2 73 = gm 73) ∨ (0 ≤ it.toInt ∧ gm2 70 = gm 70 ∧ gm2 71 = gm 71 ∧ gm2 72 = upd (gm 72) (6 * sl.toNatClampNeg + it.toNatClampNeg) kd ∧ gm2 73 = upd (gm 73) (6 * sl.toNatClampNeg + it.toNatClampNeg) vl))) := by
  intro sz
  refine Met.ofW (cc := cX13_keep) (maxL := 5) (ret := none) (by decide) rfl ?_
  intro p e s m args below meth c s₁ B hml hv
  obtain ⟨rfl, hsz, hP, hK, hD0⟩ := hv
  have hx := B.exec
  have hb := B.bytes
  have hr := B.returns
  have hts := atoms_spec (ws := wm_X13_keep) B.pre
  have htb := fun (w : Cond) (h : w ∈ tb) => hts w (List.mem_cons_of_mem _ h)
  have hown : s.vm.findClass RX13 = some m.cls := findClass_of_methodNamed B.named
  have hlocks := B.notSynchronized
  subst hsz
  have hD := hD0.self (sz := s.heap.size)
  generalize hAe : va_A (mW h0 ad cid sg gm lg) s.heap.size = A at hD ⊢
  have hA : ∀ q : Nat, s.heap.size ≤ q → A q := fun q h => by rw [← hAe]; exact Or.inr h
  have hS : va_S A s.heap s.heap [] := va_S.rf
  have hl := lv_entry ([.ref h0, .int sl, .int it, .int kd, .int vl]) (n := 5) (Nat.le_of_ble_eq_true rfl)
  rw [lg_entry_eq]
  generalize (lg_sl ([.ref h0, .int sl, .int it, .int kd, .int vl]) ++ List.replicate (5 - (lg_sl ([.ref h0, .int sl, .int it, .int kd, .int vl])).length) Slot.unset).toArray = ls at hl ⊢
  have hl : lv_has ls 5 [(0, .ref h0), (1, .int sl), (2, .int it), (3, .int kd), (4, .int vl)] := hl
  have hj47 : ∀ (gm_j47 : Nat → Nat → Int32) (_ : iv 0 404 sl) (_ : iv (-1) 5 it) (_ : iv 0 3 kd) (_ : iv 0 1079 vl) (_ : KS [70, 71, 72, 73] gm gm_j47) (_ : MI sg gm_j47) (_ : VAL gm_j47) (_ : (it.toInt < 0 ∧ gm_j47 70 = upd (gm 70) sl.toNatClampNeg kd ∧ gm_j47 71 = upd (gm 71) sl.toNatClampNeg vl ∧ gm_j47 72 = gm 72 ∧ gm_j47 73 = gm 73) ∨ (0 ≤ it.toInt ∧ gm_j47 70 = gm 70 ∧ gm_j47 71 = gm 71 ∧ gm_j47 72 = upd (gm 72) (6 * sl.toNatClampNeg + it.toNatClampNeg) kd ∧ gm_j47 73 = upd (gm 73) (6 * sl.toNatClampNeg + it.toNatClampNeg) vl)) (H : Heap) (locs : List Loc) (ls : Array Slot), va_P (dC, dI) vwCl (mW h0 ad cid sg gm_j47 lg) H → va_D A (mW h0 ad cid sg gm_j47 lg) → va_S A s.heap H locs → lv_has ls 5 [(0, .ref h0), (1, .int sl), (2, .int it), (3, .int kd), (4, .int vl)] → W p l e (headSpec wm_X13_keep ({ frames := 0, cells := 0, slots := 0, locals := 0 })).room s m ([.ref h0, .int sl, .int it, .int kd, .int vl] : List Value).toArray below meth c H locs 0 0 (MQ below (va_Qv (fun v => ∃ (sg2 : Nat → Int32) (gm2 : Nat → Nat → Int32) (lg2 : Nat → Nat → Int64), v = (sg2, gm2, lg2) ∧ MI sg2 gm2 ∧ KS [] sg sg2 ∧ KS [70, 71, 72, 73] gm gm2 ∧ KS [] lg lg2 ∧ (VAL gm2) ∧ ((it.toInt < 0 ∧ gm2 70 = upd (gm 70) sl.toNatClampNeg kd ∧ gm2 71 = upd (gm 71) sl.toNatClampNeg vl ∧ gm2 72 = gm 72 ∧ gm2 73 = gm 73) ∨ (0 ≤ it.toInt ∧ gm2 70 = gm 70 ∧ gm2 71 = gm 71 ∧ gm2 72 = upd (gm 72) (6 * sl.toNatClampNeg + it.toNatClampNeg) kd ∧ gm2 73 = upd (gm 73) (6 * sl.toNatClampNeg + it.toNatClampNeg) vl))) (MB dC dI h0 ad cid A) A) ([.ref h0, .int sl, .int it, .int kd, .int vl] : List Value).toArray s 0 0 A) (F0 m 47 ls []) := by
    intro gm_j47 hsx1_47 hsx2_47 hsx3_47 hsx4_47 hkg_j47 hI_j47 hV2 hK2 H locs ls hP hD hS hl
    exact W.vret hx hb hr (fun t ht hW => ⟨⟨(sg, gm_j47, lg), rfl, ⟨sg, gm_j47, lg, rfl, hI_j47, KS_rf, (KS_tr (L := [70, 71, 72, 73]) KS_rf hkg_j47 (by decide)), KS_rf, (hV2), (hK2)⟩, by rw [ht]; exact hP, va_K.moved hW.alike hK, hD⟩, hS.F ht⟩) hS.2.2 dX13_keep_47
  refine lv_iload_n hx hb dX13_keep_0 rfl (lv_at hl 2 rfl) ?_
  refine lv_if_ge (tgt := 22) hx hb dX13_keep_1 (by decide) (fun c_1 => ?_) (fun c_1 => ?_)
  · have h_2 : iv 0 5 it := iv_leR c_1 (iv_k (by decide) : iv 0 0 0) hvit (by decide)
    refine lv_aload_n hx hb dX13_keep_22 rfl (lv_at hl 0 rfl) ?_
    refine mr_get (v := .ref (ad 72)) hx hb htb inX13 hown hK hP 72 (by decide) (htb _ kw_1099) rfl dX13_keep_23 ?_
    refine lv_bipush (v := 6) hx hb dX13_keep_26 (by decide) ?_
    refine lv_iload_n hx hb dX13_keep_28 rfl (lv_at hl 1 rfl) ?_
    refine lv_imul hx hb dX13_keep_29 ?_
    refine lv_topi (fun z_3 ez_3 => ?_)
    have hz_3 : iv 0 2424 z_3 := iv_of ez_3 (iv_mul (iv_k (by decide) : iv 6 6 6) hvsl (by decide))
    have tz_3 : z_3.toInt = 6 * (sl : Int32).toInt := by rw [ez_3]; exact iv_mulE (iv_k (by decide) : iv 6 6 6) hvsl (by decide)
    refine lv_iload_n hx hb dX13_keep_30 rfl (lv_at hl 2 rfl) ?_
    refine lv_iadd hx hb dX13_keep_31 ?_
    refine lv_topi (fun z_4 ez_4 => ?_)
    have hz_4 : iv 0 2429 z_4 := iv_of ez_4 (iv_add hz_3 h_2 (by decide))
    have tz_4 : z_4.toInt = (z_3 : Int32).toInt + (it : Int32).toInt := by rw [ez_4]; exact iv_addE hz_3 h_2 (by decide)
    refine lv_iload_n hx hb dX13_keep_32 rfl (lv_at hl 3 rfl) ?_
    refine ma_iast (x := kd) hx hb hK hP hD hS 57 (k := 72) rfl rfl rfl (show vp_in z_4 2430 from (iv_in hz_4 (by decide))) dX13_keep_33 (fun gm_5 H locs egm_5 hP hD hS => ?_)
    have hI_gm_5 := MI_st hI egm_5 hvkd (by decide)
    refine lv_aload_n hx hb dX13_keep_34 rfl (lv_at hl 0 rfl) ?_
    refine mr_get (v := .ref (ad 73)) hx hb htb inX13 hown hK hP 73 (by decide) (htb _ kw_1100) rfl dX13_keep_35 ?_
    refine lv_bipush (v := 6) hx hb dX13_keep_38 (by decide) ?_
    refine lv_iload_n hx hb dX13_keep_40 rfl (lv_at hl 1 rfl) ?_
    refine lv_imul hx hb dX13_keep_41 ?_
    refine lv_topi (fun z_6 ez_6 => ?_)
    obtain rfl : z_3 = z_6 := ez_3.trans ez_6.symm
    refine lv_iload_n hx hb dX13_keep_42 rfl (lv_at hl 2 rfl) ?_
    refine lv_iadd hx hb dX13_keep_43 ?_
    refine lv_topi (fun z_7 ez_7 => ?_)
    obtain rfl : z_4 = z_7 := ez_4.trans ez_7.symm
    refine lv_iload hx hb dX13_keep_44 (lv_at hl 4 rfl) ?_
    refine ma_iast (x := vl) hx hb hK hP hD hS 58 (k := 73) rfl rfl rfl (show vp_in z_4 2430 from (iv_in hz_4 (by decide))) dX13_keep_46 (fun gm_8 H locs egm_8 hP hD hS => ?_)
    have hI_gm_8 := MI_st hI_gm_5 egm_8 hvvl (by decide)
    exact hj47 gm_8 hvsl (iv_w h_2 (by decide)) hvkd hvvl (KS_up (KS_up KS_rf egm_5 (by decide)) egm_8 (by decide)) hI_gm_8 (VAL_i hva (show gm_8 72 = upd (gm 72) (z_4 : Int32).toNatClampNeg kd from ((up_ne egm_8 (by decide)).trans ((up_at egm_5).trans (by rw [show gm 72 = gm 72 from rfl])))) (show gm_8 73 = upd (gm 73) (z_4 : Int32).toNatClampNeg vl from ((up_at egm_8).trans (by rw [show gm_5 73 = gm 73 from ((up_ne egm_5 (by decide)).trans rfl)]))) (Eq.trans (up_ne egm_8 (by decide)) (up_ne egm_5 (by decide))) (Eq.trans (up_ne egm_8 (by decide)) (up_ne egm_5 (by decide))) rfl hvo) (Or.inr ⟨by have := i32_0; have := i32_1; have := i32_2; have := i32_m1; have := (hvsl).1; have := (hvsl).2; have := (h_2).1; have := (h_2).2; have := (hvkd).1; have := (hvkd).2; have := (hvvl).1; have := (hvvl).2; have := (hz_3).1; have := (hz_3).2; have := (hz_4).1; have := (hz_4).2; omega, (Eq.trans (up_ne egm_8 (by decide)) (up_ne egm_5 (by decide))), (Eq.trans (up_ne egm_8 (by decide)) (up_ne egm_5 (by decide))), (by rw [← (show z_4.toNatClampNeg = 6 * sl.toNatClampNeg + it.toNatClampNeg from (by have q1 : z_4.toNatClampNeg = z_4.toInt.toNat := rfl; have q2 : sl.toNatClampNeg = sl.toInt.toNat := rfl; have q3 : it.toNatClampNeg = it.toInt.toNat := rfl; have := i32_0; have := i32_1; have := i32_2; have := i32_m1; have := (hvsl).1; have := (hvsl).2; have := (h_2).1; have := (h_2).2; have := (hvkd).1; have := (hvkd).2; have := (hvvl).1; have := (hvvl).2; have := (hz_3).1; have := (hz_3).2; have := (hz_4).1; have := (hz_4).2; omega))]; exact (show gm_8 72 = upd (gm 72) (z_4 : Int32).toNatClampNeg kd from ((up_ne egm_8 (by decide)).trans ((up_at egm_5).trans (by rw [show gm 72 = gm 72 from rfl]))))), (by rw [← (show z_4.toNatClampNeg = 6 * sl.toNatClampNeg + it.toNatClampNeg from (by have q1 : z_4.toNatClampNeg = z_4.toInt.toNat := rfl; have q2 : sl.toNatClampNeg = sl.toInt.toNat := rfl; have q3 : it.toNatClampNeg = it.toInt.toNat := rfl; have := i32_0; have := i32_1; have := i32_2; have := i32_m1; have := (hvsl).1; have := (hvsl).2; have := (h_2).1; have := (h_2).2; have := (hvkd).1; have := (hvkd).2; have := (hvvl).1; have := (hvvl).2; have := (hz_3).1; have := (hz_3).2; have := (hz_4).1; have := (hz_4).2; omega))]; exact (show gm_8 73 = upd (gm 73) (z_4 : Int32).toNatClampNeg vl from ((up_at egm_8).trans (by rw [show gm_5 73 = gm 73 from ((up_ne egm_5 (by decide)).trans rfl)]))))⟩) _ _ _ hP hD hS (lv_sub hl [0, 1, 2, 3, 4] rfl)
  · have h_9 : iv (-1) (-1) it := iv_ltL (i32_lt c_1) hvit (iv_k (by decide) : iv 0 0 0) (by decide)
    refine lv_aload_n hx hb dX13_keep_4 rfl (lv_at hl 0 rfl) ?_
    refine mr_get (v := .ref (ad 70)) hx hb htb inX13 hown hK hP 70 (by decide) (htb _ kw_1097) rfl dX13_keep_5 ?_
    refine lv_iload_n hx hb dX13_keep_8 rfl (lv_at hl 1 rfl) ?_
    refine lv_iload_n hx hb dX13_keep_9 rfl (lv_at hl 3 rfl) ?_
    refine ma_iast (x := kd) hx hb hK hP hD hS 55 (k := 70) rfl rfl rfl (show vp_in sl 405 from (iv_in hvsl (by decide))) dX13_keep_10 (fun gm_10 H locs egm_10 hP hD hS => ?_)
    have hI_gm_10 := MI_st hI egm_10 hvkd (by decide)
    refine lv_aload_n hx hb dX13_keep_11 rfl (lv_at hl 0 rfl) ?_
    refine mr_get (v := .ref (ad 71)) hx hb htb inX13 hown hK hP 71 (by decide) (htb _ kw_1098) rfl dX13_keep_12 ?_
    refine lv_iload_n hx hb dX13_keep_15 rfl (lv_at hl 1 rfl) ?_
    refine lv_iload hx hb dX13_keep_16 (lv_at hl 4 rfl) ?_
    refine ma_iast (x := vl) hx hb hK hP hD hS 56 (k := 71) rfl rfl rfl (show vp_in sl 405 from (iv_in hvsl (by decide))) dX13_keep_18 (fun gm_11 H locs egm_11 hP hD hS => ?_)
    have hI_gm_11 := MI_st hI_gm_10 egm_11 hvvl (by decide)
    refine lv_goto (tgt := 47) hx hb dX13_keep_19 (by decide) ?_
    exact hj47 gm_11 hvsl (iv_w h_9 (by decide)) hvkd hvvl (KS_up (KS_up KS_rf egm_10 (by decide)) egm_11 (by decide)) hI_gm_11 (VAL_v hva (show gm_11 70 = upd (gm 70) (sl : Int32).toNatClampNeg kd from ((up_ne egm_11 (by decide)).trans ((up_at egm_10).trans (by rw [show gm 70 = gm 70 from rfl])))) (show gm_11 71 = upd (gm 71) (sl : Int32).toNatClampNeg vl from ((up_at egm_11).trans (by rw [show gm_10 71 = gm 71 from ((up_ne egm_10 (by decide)).trans rfl)]))) (Eq.trans (up_ne egm_11 (by decide)) (up_ne egm_10 (by decide))) (Eq.trans (up_ne egm_11 (by decide)) (up_ne egm_10 (by decide))) rfl hvo) (Or.inl ⟨by have := i32_0; have := i32_1; have := i32_2; have := i32_m1; have := (hvsl).1; have := (hvsl).2; have := (h_9).1; have := (h_9).2; have := (hvkd).1; have := (hvkd).2; have := (hvvl).1; have := (hvvl).2; omega, (show gm_11 70 = upd (gm 70) (sl : Int32).toNatClampNeg kd from ((up_ne egm_11 (by decide)).trans ((up_at egm_10).trans (by rw [show gm 70 = gm 70 from rfl])))), (show gm_11 71 = upd (gm 71) (sl : Int32).toNatClampNeg vl from ((up_at egm_11).trans (by rw [show gm_10 71 = gm 71 from ((up_ne egm_10 (by decide)).trans rfl)]))), (Eq.trans (up_ne egm_11 (by decide)) (up_ne egm_10 (by decide))), (Eq.trans (up_ne egm_11 (by decide)) (up_ne egm_10 (by decide)))⟩) _ _ _ hP hD hS (lv_sub hl [0, 1, 2, 3, 4] rfl)

set_option maxHeartbeats 4000000 in
set_option maxRecDepth 100000 in
theorem f_isFactory9 (l : Launch) (dC : Nat → ClassId) (dI : Nat → Nat → Nat) (h0 : Nat) (ad : Nat → Nat) (cid : Nat → ClassId) (sg : Nat → Int32) (gm : Nat → Nat → Int32) (lg : Nat → Nat → Int64) (k : Int32) (b : Int32) (z : Int32) (hI : MI sg gm) (hvk : iv 0 31 k) (hvz : iv 0 1 z) : MMi l dC dI yX13_isFactory wm_X13_isFactory ({ frames := 0, cells := 0, slots := 0, locals := 0 }) h0 ad cid [.int k, .int b, .int z] sg gm lg (fun r v => (iv 0 1 r) ∧ ((r.toInt = 1 ∧ (gm 14 k.toNatClampNeg).toInt = b.toInt ∧ (gm 18 k.toNatClampNeg).toInt = z.toInt) ∨ (r.toInt = 0 ∧ ¬ ((gm 14 k.toNatClampNeg).toInt = b.toInt ∧ (gm 18 k.toNatClampNeg).toInt = z.toInt))) ∧ v = (sg, gm, lg)) := by
  intro sz
  refine Met.ofW (cc := cX13_isFactory) (maxL := 4) (ret := (some .boolean)) (by decide) rfl ?_
  intro p e s m args below meth c s₁ B hml hv
  obtain ⟨rfl, hsz, hP, hK, hD0⟩ := hv
  have hx := B.exec
  have hb := B.bytes
  have hr := B.returns
  have hts := atoms_spec (ws := wm_X13_isFactory) B.pre
  have htb := fun (w : Cond) (h : w ∈ tb) => hts w (List.mem_cons_of_mem _ h)
  have hown : s.vm.findClass RX13 = some m.cls := findClass_of_methodNamed B.named
  have hlocks := B.notSynchronized
  subst hsz
  have hD := hD0.self (sz := s.heap.size)
  generalize hAe : va_A (mW h0 ad cid sg gm lg) s.heap.size = A at hD ⊢
  have hA : ∀ q : Nat, s.heap.size ≤ q → A q := fun q h => by rw [← hAe]; exact Or.inr h
  have hS : va_S A s.heap s.heap [] := va_S.rf
  have hl := lv_entry ([.ref h0, .int k, .int b, .int z]) (n := 4) (Nat.le_of_ble_eq_true rfl)
  rw [lg_entry_eq]
  generalize (lg_sl ([.ref h0, .int k, .int b, .int z]) ++ List.replicate (4 - (lg_sl ([.ref h0, .int k, .int b, .int z])).length) Slot.unset).toArray = ls at hl ⊢
  have hl : lv_has ls 4 [(0, .ref h0), (1, .int k), (2, .int b), (3, .int z)] := hl
  have hj25 : ∀ (y0_25 : Int32) (_ : iv 0 31 k) (_ : iv 0 1 z) (_ : iv 0 1 y0_25) (_ : (y0_25.toInt = 1 ∧ (gm 14 k.toNatClampNeg).toInt = b.toInt ∧ (gm 18 k.toNatClampNeg).toInt = z.toInt) ∨ (y0_25.toInt = 0 ∧ ¬ ((gm 14 k.toNatClampNeg).toInt = b.toInt ∧ (gm 18 k.toNatClampNeg).toInt = z.toInt))) (H : Heap) (locs : List Loc) (ls : Array Slot), va_P (dC, dI) vwCl (mW h0 ad cid sg gm lg) H → va_D A (mW h0 ad cid sg gm lg) → va_S A s.heap H locs → lv_has ls 4 [(0, .ref h0), (1, .int k), (2, .int b), (3, .int z)] → W p l e (headSpec wm_X13_isFactory ({ frames := 0, cells := 0, slots := 0, locals := 0 })).room s m ([.ref h0, .int k, .int b, .int z] : List Value).toArray below meth c H locs 0 0 (MQ below (va_Qi (fun r v => (iv 0 1 r) ∧ ((r.toInt = 1 ∧ (gm 14 k.toNatClampNeg).toInt = b.toInt ∧ (gm 18 k.toNatClampNeg).toInt = z.toInt) ∨ (r.toInt = 0 ∧ ¬ ((gm 14 k.toNatClampNeg).toInt = b.toInt ∧ (gm 18 k.toNatClampNeg).toInt = z.toInt))) ∧ v = (sg, gm, lg)) (MB dC dI h0 ad cid A) A) ([.ref h0, .int k, .int b, .int z] : List Value).toArray s 0 0 A) (F0 m 25 ls [.int y0_25]) := by
    intro y0_25 hsx1_25 hsx3_25 hy0_25 u25 H locs ls hP hD hS hl
    exact W.zret (v := y0_25) hx hb hr (iv_nb hy0_25) (fun t ht hW => ⟨⟨y0_25, (sg, gm, lg), rfl, ⟨hy0_25, (u25), rfl⟩, by rw [ht]; exact hP, va_K.moved hW.alike hK, hD⟩, hS.F ht⟩) hS.2.2 dX13_isFactory_25
  have hj24 : ∀ (_ : iv 0 31 k) (_ : iv 0 1 z) (_ : ¬ ((gm 14 k.toNatClampNeg).toInt = b.toInt ∧ (gm 18 k.toNatClampNeg).toInt = z.toInt)) (H : Heap) (locs : List Loc) (ls : Array Slot), va_P (dC, dI) vwCl (mW h0 ad cid sg gm lg) H → va_D A (mW h0 ad cid sg gm lg) → va_S A s.heap H locs → lv_has ls 4 [(0, .ref h0), (1, .int k), (2, .int b), (3, .int z)] → W p l e (headSpec wm_X13_isFactory ({ frames := 0, cells := 0, slots := 0, locals := 0 })).room s m ([.ref h0, .int k, .int b, .int z] : List Value).toArray below meth c H locs 0 0 (MQ below (va_Qi (fun r v => (iv 0 1 r) ∧ ((r.toInt = 1 ∧ (gm 14 k.toNatClampNeg).toInt = b.toInt ∧ (gm 18 k.toNatClampNeg).toInt = z.toInt) ∨ (r.toInt = 0 ∧ ¬ ((gm 14 k.toNatClampNeg).toInt = b.toInt ∧ (gm 18 k.toNatClampNeg).toInt = z.toInt))) ∧ v = (sg, gm, lg)) (MB dC dI h0 ad cid A) A) ([.ref h0, .int k, .int b, .int z] : List Value).toArray s 0 0 A) (F0 m 24 ls []) := by
    intro  hsx1_24 hsx3_24 u24 H locs ls hP hD hS hl
    refine lv_iconst (v := 0) hx hb dX13_isFactory_24 (by decide) ?_
    exact hj25 0 hsx1_24 hsx3_24 (iv_w (iv_k (by decide) : iv 0 0 0) (by decide)) (Or.inr ⟨rfl, u24⟩) _ _ _ hP hD hS (lv_sub hl [0, 1, 2, 3] rfl)
  refine lv_aload_n hx hb dX13_isFactory_0 rfl (lv_at hl 0 rfl) ?_
  refine mr_get (v := .ref (ad 14)) hx hb htb inX13 hown hK hP 14 (by decide) (htb _ kw_1041) rfl dX13_isFactory_1 ?_
  refine lv_iload_n hx hb dX13_isFactory_4 rfl (lv_at hl 1 rfl) ?_
  refine mr_iald hx hb hK hP 13 (k := 14) rfl rfl rfl (show vp_in k 32 from (iv_in hvk (by decide))) dX13_isFactory_5 ?_
  refine lv_topi (fun z_1 ez_1 => ?_)
  have hz_1 : iv 0 25 z_1 := iv_of ez_1 (MI_a hI 14 hvk (by decide))
  refine lv_iload_n hx hb dX13_isFactory_6 rfl (lv_at hl 2 rfl) ?_
  refine lv_icmp_ne (tgt := 24) hx hb dX13_isFactory_7 (by decide) (fun c_2 => ?_) (fun c_2 => ?_)
  · exact hj24 hvk hvz ((fun h => absurd (show z_1.toInt = b.toInt from (by rw [ez_1]; exact h.1)) (fun q7 => c_2 (Int32.toInt_inj.mp q7)))) _ _ _ hP hD hS (lv_sub hl [0, 1, 2, 3] rfl)
  · have d_3 : (z_1 : Int32).toInt = (b : Int32).toInt := congrArg Int32.toInt c_2
    have h_4 : iv 0 25 b := iv_eq (Eq.symm c_2) (iv_all b) hz_1 (by decide)
    refine lv_aload_n hx hb dX13_isFactory_10 rfl (lv_at hl 0 rfl) ?_
    refine mr_get (v := .ref (ad 18)) hx hb htb inX13 hown hK hP 18 (by decide) (htb _ kw_1045) rfl dX13_isFactory_11 ?_
    refine lv_iload_n hx hb dX13_isFactory_14 rfl (lv_at hl 1 rfl) ?_
    refine mr_zald hx hb hK hP 17 (k := 18) rfl rfl rfl (show vp_in k 32 from (iv_in hvk (by decide))) dX13_isFactory_15 ?_
    refine lv_topi (fun z_5 ez_5 => ?_)
    have hz_5 : iv 0 1 z_5 := iv_of ez_5 (MI_a hI 18 hvk (by decide))
    refine lv_iload_n hx hb dX13_isFactory_16 rfl (lv_at hl 3 rfl) ?_
    refine lv_icmp_ne (tgt := 24) hx hb dX13_isFactory_17 (by decide) (fun c_6 => ?_) (fun c_6 => ?_)
    · exact hj24 hvk hvz ((fun h => absurd (show z_5.toInt = z.toInt from (by rw [ez_5]; exact h.2)) (fun q7 => c_6 (Int32.toInt_inj.mp q7)))) _ _ _ hP hD hS (lv_sub hl [0, 1, 2, 3] rfl)
    · have d_7 : (z_5 : Int32).toInt = (z : Int32).toInt := congrArg Int32.toInt c_6
      refine lv_iconst (v := 1) hx hb dX13_isFactory_20 (by decide) ?_
      refine lv_goto (tgt := 25) hx hb dX13_isFactory_21 (by decide) ?_
      exact hj25 1 hvk hvz (iv_w (iv_k (by decide) : iv 1 1 1) (by decide)) (Or.inl ⟨rfl, (by rw [← ez_1]; have := i32_0; have := i32_1; have := i32_2; have := i32_m1; have := (hvk).1; have := (hvk).2; have := (hvz).1; have := (hvz).2; have := (hz_1).1; have := (hz_1).2; have := (h_4).1; have := (h_4).2; have := (hz_5).1; have := (hz_5).2; omega), (by rw [← ez_5]; have := i32_0; have := i32_1; have := i32_2; have := i32_m1; have := (hvk).1; have := (hvk).2; have := (hvz).1; have := (hvz).2; have := (hz_1).1; have := (hz_1).2; have := (h_4).1; have := (h_4).2; have := (hz_5).1; have := (hz_5).2; omega)⟩) _ _ _ hP hD hS (lv_sub hl [0, 1, 2, 3] rfl)

set_option maxHeartbeats 4000000 in
set_option maxRecDepth 100000 in
theorem f_typeOfSetter9 (l : Launch) (dC : Nat → ClassId) (dI : Nat → Nat → Nat) (h0 : Nat) (ad : Nat → Nat) (cid : Nat → ClassId) (sg : Nat → Int32) (gm : Nat → Nat → Int32) (lg : Nat → Nat → Int64) (a : Int32) (b : Int32) (wg : Nat → Nat → Int32) (rg : Nat → Nat → Int32) (hI : MI sg gm) (hva : iv (-1) 7 a) (hvb : iv 0 25 b) (hPR : PR gm) (hRW : rt9 gm = rg) (hCL : CLS9 wg rg) : MMi l dC dI yX13_typeOfSetter wm_X13_typeOfSetter ({ frames := 0, cells := 0, slots := 0, locals := 0 }) h0 ad cid [.int a, .int b] sg gm lg (fun r v => (iv (-1) 15 r) ∧ (r.toInt = sgF wg b.toNatClampNeg 8 a.toInt) ∧ v = (sg, gm, lg)) := by
  intro sz
  refine Met.ofW (cc := cX13_typeOfSetter) (maxL := 5) (ret := (some .int)) (by decide) rfl ?_
  intro p e s m args below meth c s₁ B hml hv
  obtain ⟨rfl, hsz, hP, hK, hD0⟩ := hv
  have hx := B.exec
  have hb := B.bytes
  have hr := B.returns
  have hts := atoms_spec (ws := wm_X13_typeOfSetter) B.pre
  have htb := fun (w : Cond) (h : w ∈ tb) => hts w (List.mem_cons_of_mem _ h)
  have hown : s.vm.findClass RX13 = some m.cls := findClass_of_methodNamed B.named
  have hlocks := B.notSynchronized
  subst hsz
  have hD := hD0.self (sz := s.heap.size)
  generalize hAe : va_A (mW h0 ad cid sg gm lg) s.heap.size = A at hD ⊢
  have hA : ∀ q : Nat, s.heap.size ≤ q → A q := fun q h => by rw [← hAe]; exact Or.inr h
  have hS : va_S A s.heap s.heap [] := va_S.rf
  have hl := lv_entry ([.ref h0, .int a, .int b]) (n := 5) (Nat.le_of_ble_eq_true rfl)
  rw [lg_entry_eq]
  generalize (lg_sl ([.ref h0, .int a, .int b]) ++ List.replicate (5 - (lg_sl ([.ref h0, .int a, .int b])).length) Slot.unset).toArray = ls at hl ⊢
  have hl : lv_has ls 5 [(0, .ref h0), (1, .int a), (2, .int b)] := hl
  have hj2 : ∀ (n : Nat) (x3_2 : Int32) (_ : (x3_2.toInt + 1).toNat = n) (_ : iv (-1) 7 x3_2) (_ : iv (-1) 7 a) (_ : iv 0 25 b) (_ : sgF wg b.toNatClampNeg 8 a.toInt = sgF wg b.toNatClampNeg (x3_2.toInt + 1).toNat x3_2.toInt) (H : Heap) (locs : List Loc) (ls : Array Slot), va_P (dC, dI) vwCl (mW h0 ad cid sg gm lg) H → va_D A (mW h0 ad cid sg gm lg) → va_S A s.heap H locs → lv_has ls 5 [(3, .int x3_2), (0, .ref h0), (1, .int a), (2, .int b)] → W p l e (headSpec wm_X13_typeOfSetter ({ frames := 0, cells := 0, slots := 0, locals := 0 })).room s m ([.ref h0, .int a, .int b] : List Value).toArray below meth c H locs 0 0 (MQ below (va_Qi (fun r v => (iv (-1) 15 r) ∧ (r.toInt = sgF wg b.toNatClampNeg 8 a.toInt) ∧ v = (sg, gm, lg)) (MB dC dI h0 ad cid A) A) ([.ref h0, .int a, .int b] : List Value).toArray s 0 0 A) (F0 m 2 ls []) := by
    intro n
    induction n using Nat.strongRecOn with
    | ind n ih2 =>
      intro x3_2 hn2 hx3_2 hsx1_2 hsx2_2 hsg H locs ls hP hD hS hl
      have hj10 : ∀ (n : Nat) (x4_10 : Int32) (_ : (8 - x4_10.toInt).toNat = n) (_ : iv 0 8 x4_10) (_ : iv 0 7 x3_2) (_ : iv (-1) 7 a) (_ : iv 0 25 b) (_ : ∀ k, k < x4_10.toNatClampNeg → ¬ (rg 11 (8 * x3_2.toNatClampNeg + k)).toNatClampNeg = b.toNatClampNeg) (H : Heap) (locs : List Loc) (ls : Array Slot), va_P (dC, dI) vwCl (mW h0 ad cid sg gm lg) H → va_D A (mW h0 ad cid sg gm lg) → va_S A s.heap H locs → lv_has ls 5 [(4, .int x4_10), (3, .int x3_2), (0, .ref h0), (1, .int a), (2, .int b)] → W p l e (headSpec wm_X13_typeOfSetter ({ frames := 0, cells := 0, slots := 0, locals := 0 })).room s m ([.ref h0, .int a, .int b] : List Value).toArray below meth c H locs 0 0 (MQ below (va_Qi (fun r v => (iv (-1) 15 r) ∧ (r.toInt = sgF wg b.toNatClampNeg 8 a.toInt) ∧ v = (sg, gm, lg)) (MB dC dI h0 ad cid A) A) ([.ref h0, .int a, .int b] : List Value).toArray s 0 0 A) (F0 m 10 ls []) := by
        intro n
        induction n using Nat.strongRecOn with
        | ind n ih10 =>
          intro x4_10 hn10 hx4_10 hsx3_10 hsx1_10 hsx2_10 hno H locs ls hP hD hS hl
          refine lv_iload hx hb dX13_typeOfSetter_10 (lv_at hl 0 rfl) ?_
          refine lv_aload_n hx hb dX13_typeOfSetter_12 rfl (lv_at hl 2 rfl) ?_
          refine mr_get (v := .ref (ad 10)) hx hb htb inX13 hown hK hP 10 (by decide) (htb _ kw_1037) rfl dX13_typeOfSetter_13 ?_
          refine lv_iload_n hx hb dX13_typeOfSetter_16 rfl (lv_at hl 1 rfl) ?_
          refine mr_iald hx hb hK hP 9 (k := 10) rfl rfl rfl (show vp_in x3_2 8 from (iv_in hsx3_10 (by decide))) dX13_typeOfSetter_17 ?_
          refine lv_topi (fun z_1 ez_1 => ?_)
          have hz_1 : iv 0 8 z_1 := iv_of ez_1 (MI_a hI 10 hsx3_10 (by decide))
          refine lv_icmp_ge (tgt := 56) hx hb dX13_typeOfSetter_18 (by decide) (fun c_2 => ?_) (fun c_2 => ?_)
          · have d_3 : (z_1 : Int32).toInt ≤ (x4_10 : Int32).toInt := Int32.le_iff_toInt_le.mp c_2
            refine lv_aload_n hx hb dX13_typeOfSetter_56 rfl (lv_at hl 2 rfl) ?_
            refine mr_get (v := .ref (ad 6)) hx hb htb inX13 hown hK hP 6 (by decide) (htb _ kw_1033) rfl dX13_typeOfSetter_57 ?_
            refine lv_iload_n hx hb dX13_typeOfSetter_60 rfl (lv_at hl 1 rfl) ?_
            refine mr_iald hx hb hK hP 5 (k := 6) rfl rfl rfl (show vp_in x3_2 8 from (iv_in hsx3_10 (by decide))) dX13_typeOfSetter_61 ?_
            refine lv_topi (fun z_4 ez_4 => ?_)
            have hz_4 : iv (-1) 7 z_4 := iv_of ez_4 (MI_a hI 6 hsx3_10 (by decide))
            refine lv_istore_n (lv' := [(3, .int z_4), (4, .int x4_10), (0, .ref h0), (1, .int a), (2, .int b)]) hx hb dX13_typeOfSetter_62 rfl hl (by decide) rfl (fun ls hl => ?_)
            refine lv_goto (tgt := 2) hx hb dX13_typeOfSetter_63 (by decide) ?_
            exact ih2 _ (by rw [← hn2]; exact (PR_dec hPR hsx3_10 ez_4)) z_4 rfl hz_4 hsx1_10 hsx2_10 (sgR_up hCL hRW hPR hsx3_10 hsg ((hCL x3_2.toNatClampNeg (by have q1 : x3_2.toNatClampNeg = x3_2.toInt.toNat := rfl; have := i32_0; have := i32_1; have := i32_2; have := i32_m1; have := (hsx1_10).1; have := (hsx1_10).2; have := (hsx2_10).1; have := (hsx2_10).2; have := (hsx3_10).1; have := (hsx3_10).2; have := (hx4_10).1; have := (hx4_10).2; have := (hz_1).1; have := (hz_1).2; have := (hz_4).1; have := (hz_4).2; omega)).2.2.2.2.2.2.2 _ (by have q1 : b.toNatClampNeg = b.toInt.toNat := rfl; have := i32_0; have := i32_1; have := i32_2; have := i32_m1; have := (hsx1_10).1; have := (hsx1_10).2; have := (hsx2_10).1; have := (hsx2_10).2; have := (hsx3_10).1; have := (hsx3_10).2; have := (hx4_10).1; have := (hx4_10).2; have := (hz_1).1; have := (hz_1).2; have := (hz_4).1; have := (hz_4).2; omega) (fun k hk => hno k (by have q5 := congrArg Int32.toNatClampNeg (rwt9 hRW ez_1 rfl); rw [q5] at hk; have q1 : z_1.toNatClampNeg = z_1.toInt.toNat := rfl; have q1 : x4_10.toNatClampNeg = x4_10.toInt.toNat := rfl; have := i32_0; have := i32_1; have := i32_2; have := i32_m1; have := (hsx1_10).1; have := (hsx1_10).2; have := (hsx2_10).1; have := (hsx2_10).2; have := (hsx3_10).1; have := (hsx3_10).2; have := (hx4_10).1; have := (hx4_10).2; have := (hz_1).1; have := (hz_1).2; have := (hz_4).1; have := (hz_4).2; omega))) ez_4) _ _ _ hP hD hS (lv_sub hl [0, 2, 3, 4] rfl)
          · have d_5 : (x4_10 : Int32).toInt < (z_1 : Int32).toInt := Int32.lt_iff_toInt_lt.mp (i32_lt c_2)
            have h_6 : iv 0 7 x4_10 := iv_ltL (i32_lt c_2) hx4_10 hz_1 (by decide)
            have h_7 : iv 1 8 z_1 := iv_ltR (i32_lt c_2) hx4_10 hz_1 (by decide)
            refine lv_aload_n hx hb dX13_typeOfSetter_21 rfl (lv_at hl 2 rfl) ?_
            refine mr_get (v := .ref (ad 11)) hx hb htb inX13 hown hK hP 11 (by decide) (htb _ kw_1038) rfl dX13_typeOfSetter_22 ?_
            refine lv_bipush (v := 8) hx hb dX13_typeOfSetter_25 (by decide) ?_
            refine lv_iload_n hx hb dX13_typeOfSetter_27 rfl (lv_at hl 1 rfl) ?_
            refine lv_imul hx hb dX13_typeOfSetter_28 ?_
            refine lv_topi (fun z_8 ez_8 => ?_)
            have hz_8 : iv 0 56 z_8 := iv_of ez_8 (iv_mul (iv_k (by decide) : iv 8 8 8) hsx3_10 (by decide))
            have tz_8 : z_8.toInt = 8 * (x3_2 : Int32).toInt := by rw [ez_8]; exact iv_mulE (iv_k (by decide) : iv 8 8 8) hsx3_10 (by decide)
            refine lv_iload hx hb dX13_typeOfSetter_29 (lv_at hl 0 rfl) ?_
            refine lv_iadd hx hb dX13_typeOfSetter_31 ?_
            refine lv_topi (fun z_9 ez_9 => ?_)
            have hz_9 : iv 0 63 z_9 := iv_of ez_9 (iv_add hz_8 h_6 (by decide))
            have tz_9 : z_9.toInt = (z_8 : Int32).toInt + (x4_10 : Int32).toInt := by rw [ez_9]; exact iv_addE hz_8 h_6 (by decide)
            refine mr_iald hx hb hK hP 10 (k := 11) rfl rfl rfl (show vp_in z_9 64 from (iv_in hz_9 (by decide))) dX13_typeOfSetter_32 ?_
            refine lv_topi (fun z_10 ez_10 => ?_)
            have hz_10 : iv 0 25 z_10 := iv_of ez_10 (MI_a hI 11 hz_9 (by decide))
            refine lv_iload_n hx hb dX13_typeOfSetter_33 rfl (lv_at hl 4 rfl) ?_
            refine lv_icmp_ne (tgt := 50) hx hb dX13_typeOfSetter_34 (by decide) (fun c_11 => ?_) (fun c_11 => ?_)
            · obtain ⟨z_12, ez_12⟩ : ∃ z : Int32, z = x4_10 + 1 := ⟨_, rfl⟩
              have hz_12 : iv 1 8 z_12 := iv_of ez_12 (iv_add h_6 (iv_k (by decide) : iv 1 1 1) (by decide))
              have tz_12 : z_12.toInt = x4_10.toInt + 1 := by rw [ez_12]; exact iv_addE h_6 (iv_k (by decide) : iv 1 1 1) (by decide)
              refine lv_iinc (v := z_12) (lv' := [(4, .int z_12), (3, .int x3_2), (0, .ref h0), (1, .int a), (2, .int b)]) hx hb dX13_typeOfSetter_50 hl (k := 0) rfl ez_12.symm (by decide) rfl (fun ls hl => ?_)
              refine lv_goto (tgt := 10) hx hb dX13_typeOfSetter_53 (by decide) ?_
              exact ih10 _ (by rw [← hn10]; exact (iv_meas tz_12 h_6 (by decide))) z_12 rfl (iv_w hz_12 (by decide)) hsx3_10 hsx1_10 hsx2_10 (fun k hk q9 => by { by_cases hq : k = x4_10.toNatClampNeg; (subst hq; exact absurd (show z_10.toInt = b.toInt from (by have q8 : rg 11 (8 * x3_2.toNatClampNeg + x4_10.toNatClampNeg) = z_10 := (by rw [← (show z_9.toNatClampNeg = 8 * x3_2.toNatClampNeg + x4_10.toNatClampNeg from (by have q1 : z_9.toNatClampNeg = z_9.toInt.toNat := rfl; have q1 : x3_2.toNatClampNeg = x3_2.toInt.toNat := rfl; have q1 : x4_10.toNatClampNeg = x4_10.toInt.toNat := rfl; have := i32_0; have := i32_1; have := i32_2; have := i32_m1; have := (hsx1_10).1; have := (hsx1_10).2; have := (hsx2_10).1; have := (hsx2_10).2; have := (hsx3_10).1; have := (hsx3_10).2; have := (h_6).1; have := (h_6).2; have := (h_7).1; have := (h_7).2; have := (hz_8).1; have := (hz_8).2; have := (hz_9).1; have := (hz_9).2; have := (hz_10).1; have := (hz_10).2; have := (hz_12).1; have := (hz_12).2; omega))]; exact (rwt9 hRW ez_10 rfl)); rw [q8] at q9; have q7 := (show iv 0 25 z_10 from hz_10).1; have q1 : z_10.toNatClampNeg = z_10.toInt.toNat := rfl; have q1 : b.toNatClampNeg = b.toInt.toNat := rfl; have := i32_0; have := i32_1; have := i32_2; have := i32_m1; have := (hsx1_10).1; have := (hsx1_10).2; have := (hsx2_10).1; have := (hsx2_10).2; have := (hsx3_10).1; have := (hsx3_10).2; have := (h_6).1; have := (h_6).2; have := (h_7).1; have := (h_7).2; have := (hz_8).1; have := (hz_8).2; have := (hz_9).1; have := (hz_9).2; have := (hz_10).1; have := (hz_10).2; have := (hz_12).1; have := (hz_12).2; omega)) (fun q7 => c_11 (Int32.toInt_inj.mp q7))); exact hno k (by have q1 : z_12.toNatClampNeg = z_12.toInt.toNat := rfl; have q1 : x4_10.toNatClampNeg = x4_10.toInt.toNat := rfl; have := i32_0; have := i32_1; have := i32_2; have := i32_m1; have := (hsx1_10).1; have := (hsx1_10).2; have := (hsx2_10).1; have := (hsx2_10).2; have := (hsx3_10).1; have := (hsx3_10).2; have := (h_6).1; have := (h_6).2; have := (h_7).1; have := (h_7).2; have := (hz_8).1; have := (hz_8).2; have := (hz_9).1; have := (hz_9).2; have := (hz_10).1; have := (hz_10).2; have := (hz_12).1; have := (hz_12).2; omega) q9 }) _ _ _ hP hD hS (lv_sub hl [0, 1, 2, 3, 4] rfl)
            · have d_13 : (z_10 : Int32).toInt = (b : Int32).toInt := congrArg Int32.toInt c_11
              refine lv_aload_n hx hb dX13_typeOfSetter_37 rfl (lv_at hl 2 rfl) ?_
              refine mr_get (v := .ref (ad 12)) hx hb htb inX13 hown hK hP 12 (by decide) (htb _ kw_1039) rfl dX13_typeOfSetter_38 ?_
              refine lv_bipush (v := 8) hx hb dX13_typeOfSetter_41 (by decide) ?_
              refine lv_iload_n hx hb dX13_typeOfSetter_43 rfl (lv_at hl 1 rfl) ?_
              refine lv_imul hx hb dX13_typeOfSetter_44 ?_
              refine lv_topi (fun z_14 ez_14 => ?_)
              obtain rfl : z_8 = z_14 := ez_8.trans ez_14.symm
              refine lv_iload hx hb dX13_typeOfSetter_45 (lv_at hl 0 rfl) ?_
              refine lv_iadd hx hb dX13_typeOfSetter_47 ?_
              refine lv_topi (fun z_15 ez_15 => ?_)
              obtain rfl : z_9 = z_15 := ez_9.trans ez_15.symm
              refine mr_iald hx hb hK hP 11 (k := 12) rfl rfl rfl (show vp_in z_9 64 from (iv_in hz_9 (by decide))) dX13_typeOfSetter_48 ?_
              refine lv_topi (fun z_16 ez_16 => ?_)
              have hz_16 : iv 0 15 z_16 := iv_of ez_16 (MI_a hI 12 hz_9 (by decide))
              exact W.iret (v := z_16) hx hb hr (fun t ht hW => ⟨⟨z_16, (sg, gm, lg), rfl, ⟨(iv_w hz_16 (by decide)), ((by have e9 := (show (wg 55 (26 * x3_2.toNatClampNeg + b.toNatClampNeg)).toInt = z_16.toInt from (by have q9 := (hCL x3_2.toNatClampNeg (by have q1 : x3_2.toNatClampNeg = x3_2.toInt.toNat := rfl; have := i32_0; have := i32_1; have := i32_2; have := i32_m1; have := (hsx1_10).1; have := (hsx1_10).2; have := (hsx2_10).1; have := (hsx2_10).2; have := (hsx3_10).1; have := (hsx3_10).2; have := (h_6).1; have := (h_6).2; have := (h_7).1; have := (h_7).2; have := (hz_8).1; have := (hz_8).2; have := (hz_9).1; have := (hz_9).2; have := (hz_10).1; have := (hz_10).2; have := (hz_16).1; have := (hz_16).2; omega)).2.2.2.2.2.2.1 x4_10.toNatClampNeg (by have q5 := congrArg Int32.toNatClampNeg (rwt9 hRW ez_1 rfl); rw [q5]; have q1 : z_1.toNatClampNeg = z_1.toInt.toNat := rfl; have q1 : x4_10.toNatClampNeg = x4_10.toInt.toNat := rfl; have := i32_0; have := i32_1; have := i32_2; have := i32_m1; have := (hsx1_10).1; have := (hsx1_10).2; have := (hsx2_10).1; have := (hsx2_10).2; have := (hsx3_10).1; have := (hsx3_10).2; have := (h_6).1; have := (h_6).2; have := (h_7).1; have := (h_7).2; have := (hz_8).1; have := (hz_8).2; have := (hz_9).1; have := (hz_9).2; have := (hz_10).1; have := (hz_10).2; have := (hz_16).1; have := (hz_16).2; omega); rw [show rg 11 (8 * x3_2.toNatClampNeg + x4_10.toNatClampNeg) = z_10 from (by rw [← (show z_9.toNatClampNeg = 8 * x3_2.toNatClampNeg + x4_10.toNatClampNeg from (by have q1 : z_9.toNatClampNeg = z_9.toInt.toNat := rfl; have q1 : x3_2.toNatClampNeg = x3_2.toInt.toNat := rfl; have q1 : x4_10.toNatClampNeg = x4_10.toInt.toNat := rfl; have := i32_0; have := i32_1; have := i32_2; have := i32_m1; have := (hsx1_10).1; have := (hsx1_10).2; have := (hsx2_10).1; have := (hsx2_10).2; have := (hsx3_10).1; have := (hsx3_10).2; have := (h_6).1; have := (h_6).2; have := (h_7).1; have := (h_7).2; have := (hz_8).1; have := (hz_8).2; have := (hz_9).1; have := (hz_9).2; have := (hz_10).1; have := (hz_10).2; have := (hz_16).1; have := (hz_16).2; omega))]; exact (rwt9 hRW ez_10 rfl)), show rg 12 (8 * x3_2.toNatClampNeg + x4_10.toNatClampNeg) = z_16 from (by rw [← (show z_9.toNatClampNeg = 8 * x3_2.toNatClampNeg + x4_10.toNatClampNeg from (by have q1 : z_9.toNatClampNeg = z_9.toInt.toNat := rfl; have q1 : x3_2.toNatClampNeg = x3_2.toInt.toNat := rfl; have q1 : x4_10.toNatClampNeg = x4_10.toInt.toNat := rfl; have := i32_0; have := i32_1; have := i32_2; have := i32_m1; have := (hsx1_10).1; have := (hsx1_10).2; have := (hsx2_10).1; have := (hsx2_10).2; have := (hsx3_10).1; have := (hsx3_10).2; have := (h_6).1; have := (h_6).2; have := (h_7).1; have := (h_7).2; have := (hz_8).1; have := (hz_8).2; have := (hz_9).1; have := (hz_9).2; have := (hz_10).1; have := (hz_10).2; have := (hz_16).1; have := (hz_16).2; omega))]; exact (rwt9 hRW ez_16 rfl)), show z_10.toNatClampNeg = b.toNatClampNeg from (by have q1 : z_10.toNatClampNeg = z_10.toInt.toNat := rfl; have q1 : b.toNatClampNeg = b.toInt.toNat := rfl; have := i32_0; have := i32_1; have := i32_2; have := i32_m1; have := (hsx1_10).1; have := (hsx1_10).2; have := (hsx2_10).1; have := (hsx2_10).2; have := (hsx3_10).1; have := (hsx3_10).2; have := (h_6).1; have := (h_6).2; have := (h_7).1; have := (h_7).2; have := (hz_8).1; have := (hz_8).2; have := (hz_9).1; have := (hz_9).2; have := (hz_10).1; have := (hz_10).2; have := (hz_16).1; have := (hz_16).2; omega)] at q9; exact q9)); have q9 := sgR_h hsx3_10 hsg (by rw [e9]; have := i32_0; have := i32_1; have := i32_2; have := i32_m1; have := (hsx1_10).1; have := (hsx1_10).2; have := (hsx2_10).1; have := (hsx2_10).2; have := (hsx3_10).1; have := (hsx3_10).2; have := (h_6).1; have := (h_6).2; have := (h_7).1; have := (h_7).2; have := (hz_8).1; have := (hz_8).2; have := (hz_9).1; have := (hz_9).2; have := (hz_10).1; have := (hz_10).2; have := (hz_16).1; have := (hz_16).2; omega); rw [q9, e9])), rfl⟩, by rw [ht]; exact hP, va_K.moved hW.alike hK, hD⟩, hS.F ht⟩) hS.2.2 dX13_typeOfSetter_49
      refine lv_iload_n hx hb dX13_typeOfSetter_2 rfl (lv_at hl 0 rfl) ?_
      refine lv_iconst (v := (-1)) hx hb dX13_typeOfSetter_3 (by decide) ?_
      refine lv_icmp_eq (tgt := 66) hx hb dX13_typeOfSetter_4 (by decide) (fun c_17 => ?_) (fun c_17 => ?_)
      · have h_18 : iv (-1) (-1) x3_2 := iv_eq c_17 hx3_2 (iv_k (by decide) : iv (-1) (-1) (-1)) (by decide)
        refine lv_iconst (v := (-1)) hx hb dX13_typeOfSetter_66 (by decide) ?_
        exact W.iret (v := (-1)) hx hb hr (fun t ht hW => ⟨⟨(-1), (sg, gm, lg), rfl, ⟨(iv_w (iv_k (by decide) : iv (-1) (-1) (-1)) (by decide)), ((by rw [hsg, sgF_o (by have := i32_0; have := i32_1; have := i32_2; have := i32_m1; have := (hsx1_2).1; have := (hsx1_2).2; have := (hsx2_2).1; have := (hsx2_2).2; have := (h_18).1; have := (h_18).2; omega)]; rfl)), rfl⟩, by rw [ht]; exact hP, va_K.moved hW.alike hK, hD⟩, hS.F ht⟩) hS.2.2 dX13_typeOfSetter_67
      · have h_19 : iv 0 7 x3_2 := iv_neL c_17 hx3_2 (by decide)
        refine lv_iconst (v := 0) hx hb dX13_typeOfSetter_7 (by decide) ?_
        refine lv_istore (lv' := [(4, .int 0), (3, .int x3_2), (0, .ref h0), (1, .int a), (2, .int b)]) hx hb dX13_typeOfSetter_8 hl (by decide) rfl (fun ls hl => ?_)
        exact hj10 _ 0 rfl (iv_w (iv_k (by decide) : iv 0 0 0) (by decide)) h_19 hsx1_2 hsx2_2 (fun k hk => absurd hk (Nat.not_lt_zero _)) _ _ _ hP hD hS (lv_sub hl [0, 1, 2, 3, 4] rfl)
  refine lv_iload_n hx hb dX13_typeOfSetter_0 rfl (lv_at hl 1 rfl) ?_
  refine lv_istore_n (lv' := [(3, .int a), (0, .ref h0), (1, .int a), (2, .int b)]) hx hb dX13_typeOfSetter_1 rfl hl (by decide) rfl (fun ls hl => ?_)
  exact hj2 _ a rfl hva hva hvb (sgR_0 hCL hRW hPR hva) _ _ _ hP hD hS (lv_sub hl [0, 1, 2, 3] rfl)

set_option maxHeartbeats 4000000 in
set_option maxRecDepth 100000 in
theorem f_classWithFactory9 (l : Launch) (dC : Nat → ClassId) (dI : Nat → Nat → Nat) (h0 : Nat) (ad : Nat → Nat) (cid : Nat → ClassId) (sg : Nat → Int32) (gm : Nat → Nat → Int32) (lg : Nat → Nat → Int64) (a : Int32) (b : Int32) (z : Int32) (wg : Nat → Nat → Int32) (rg : Nat → Nat → Int32) (hI : MI sg gm) (hva : iv (-1) 7 a) (hvz : iv 0 1 z) (hPR : PR gm) (hRW : rt9 gm = rg) (hCL : CLS9 wg rg) : MMi l dC dI yX13_classWithFactory wm_X13_classWithFactory ({ frames := 1, cells := 0, slots := 0, locals := 23 }) h0 ad cid [.int a, .int b, .int z] sg gm lg (fun r v => (iv (-1) 7 r) ∧ (r.toInt = wfF wg b.toInt z.toInt 8 a.toInt) ∧ v = (sg, gm, lg)) := by
  intro sz
  refine Met.ofW (cc := cX13_classWithFactory) (maxL := 6) (ret := (some .int)) (by decide) rfl ?_
  intro p e s m args below meth c s₁ B hml hv
  obtain ⟨rfl, hsz, hP, hK, hD0⟩ := hv
  have hx := B.exec
  have hb := B.bytes
  have hr := B.returns
  have hts := atoms_spec (ws := wm_X13_classWithFactory) B.pre
  have htb := fun (w : Cond) (h : w ∈ tb) => hts w (List.mem_cons_of_mem _ h)
  have hown : s.vm.findClass RX13 = some m.cls := findClass_of_methodNamed B.named
  have hlocks := B.notSynchronized
  subst hsz
  have hD := hD0.self (sz := s.heap.size)
  generalize hAe : va_A (mW h0 ad cid sg gm lg) s.heap.size = A at hD ⊢
  have hA : ∀ q : Nat, s.heap.size ≤ q → A q := fun q h => by rw [← hAe]; exact Or.inr h
  have hS : va_S A s.heap s.heap [] := va_S.rf
  have hl := lv_entry ([.ref h0, .int a, .int b, .int z]) (n := 6) (Nat.le_of_ble_eq_true rfl)
  rw [lg_entry_eq]
  generalize (lg_sl ([.ref h0, .int a, .int b, .int z]) ++ List.replicate (6 - (lg_sl ([.ref h0, .int a, .int b, .int z])).length) Slot.unset).toArray = ls at hl ⊢
  have hl : lv_has ls 6 [(0, .ref h0), (1, .int a), (2, .int b), (3, .int z)] := hl
  have hj3 : ∀ (n : Nat) (x4_3 : Int32) (_ : (x4_3.toInt + 1).toNat = n) (_ : iv (-1) 7 x4_3) (_ : iv (-1) 7 a) (_ : iv 0 1 z) (_ : wfF wg b.toInt z.toInt 8 a.toInt = wfF wg b.toInt z.toInt (x4_3.toInt + 1).toNat x4_3.toInt) (H : Heap) (locs : List Loc) (ls : Array Slot), va_P (dC, dI) vwCl (mW h0 ad cid sg gm lg) H → va_D A (mW h0 ad cid sg gm lg) → va_S A s.heap H locs → lv_has ls 6 [(4, .int x4_3), (0, .ref h0), (1, .int a), (2, .int b), (3, .int z)] → W p l e (headSpec wm_X13_classWithFactory ({ frames := 1, cells := 0, slots := 0, locals := 23 })).room s m ([.ref h0, .int a, .int b, .int z] : List Value).toArray below meth c H locs 0 0 (MQ below (va_Qi (fun r v => (iv (-1) 7 r) ∧ (r.toInt = wfF wg b.toInt z.toInt 8 a.toInt) ∧ v = (sg, gm, lg)) (MB dC dI h0 ad cid A) A) ([.ref h0, .int a, .int b, .int z] : List Value).toArray s 0 0 A) (F0 m 3 ls []) := by
    intro n
    induction n using Nat.strongRecOn with
    | ind n ih3 =>
      intro x4_3 hn3 hx4_3 hsx1_3 hsx3_3 hwf H locs ls hP hD hS hl
      have hj12 : ∀ (n : Nat) (x5_12 : Int32) (_ : (4 - x5_12.toInt).toNat = n) (_ : iv 0 4 x5_12) (_ : iv 0 7 x4_3) (_ : iv (-1) 7 a) (_ : iv 0 1 z) (_ : ∀ k, k < x5_12.toNatClampNeg → ¬ cdS wg b.toInt z.toInt (8 * x4_3.toNatClampNeg + 4 + k)) (H : Heap) (locs : List Loc) (ls : Array Slot), va_P (dC, dI) vwCl (mW h0 ad cid sg gm lg) H → va_D A (mW h0 ad cid sg gm lg) → va_S A s.heap H locs → lv_has ls 6 [(5, .int x5_12), (4, .int x4_3), (0, .ref h0), (1, .int a), (2, .int b), (3, .int z)] → W p l e (headSpec wm_X13_classWithFactory ({ frames := 1, cells := 0, slots := 0, locals := 23 })).room s m ([.ref h0, .int a, .int b, .int z] : List Value).toArray below meth c H locs 0 0 (MQ below (va_Qi (fun r v => (iv (-1) 7 r) ∧ (r.toInt = wfF wg b.toInt z.toInt 8 a.toInt) ∧ v = (sg, gm, lg)) (MB dC dI h0 ad cid A) A) ([.ref h0, .int a, .int b, .int z] : List Value).toArray s 0 0 A) (F0 m 12 ls []) := by
        intro n
        induction n using Nat.strongRecOn with
        | ind n ih12 =>
          intro x5_12 hn12 hx5_12 hsx4_12 hsx1_12 hsx3_12 hno H locs ls hP hD hS hl
          refine lv_iload hx hb dX13_classWithFactory_12 (lv_at hl 0 rfl) ?_
          refine lv_aload_n hx hb dX13_classWithFactory_14 rfl (lv_at hl 2 rfl) ?_
          refine mr_get (v := .ref (ad 13)) hx hb htb inX13 hown hK hP 13 (by decide) (htb _ kw_1040) rfl dX13_classWithFactory_15 ?_
          refine lv_iload hx hb dX13_classWithFactory_18 (lv_at hl 1 rfl) ?_
          refine mr_iald hx hb hK hP 12 (k := 13) rfl rfl rfl (show vp_in x4_3 8 from (iv_in hsx4_12 (by decide))) dX13_classWithFactory_20 ?_
          refine lv_topi (fun z_1 ez_1 => ?_)
          have hz_1 : iv 0 4 z_1 := iv_of ez_1 (MI_a hI 13 hsx4_12 (by decide))
          refine lv_icmp_ge (tgt := 49) hx hb dX13_classWithFactory_21 (by decide) (fun c_2 => ?_) (fun c_2 => ?_)
          · have d_3 : (z_1 : Int32).toInt ≤ (x5_12 : Int32).toInt := Int32.le_iff_toInt_le.mp c_2
            refine lv_aload_n hx hb dX13_classWithFactory_49 rfl (lv_at hl 2 rfl) ?_
            refine mr_get (v := .ref (ad 6)) hx hb htb inX13 hown hK hP 6 (by decide) (htb _ kw_1033) rfl dX13_classWithFactory_50 ?_
            refine lv_iload hx hb dX13_classWithFactory_53 (lv_at hl 1 rfl) ?_
            refine mr_iald hx hb hK hP 5 (k := 6) rfl rfl rfl (show vp_in x4_3 8 from (iv_in hsx4_12 (by decide))) dX13_classWithFactory_55 ?_
            refine lv_topi (fun z_4 ez_4 => ?_)
            have hz_4 : iv (-1) 7 z_4 := iv_of ez_4 (MI_a hI 6 hsx4_12 (by decide))
            refine lv_istore (lv' := [(4, .int z_4), (5, .int x5_12), (0, .ref h0), (1, .int a), (2, .int b), (3, .int z)]) hx hb dX13_classWithFactory_56 hl (by decide) rfl (fun ls hl => ?_)
            refine lv_goto (tgt := 3) hx hb dX13_classWithFactory_58 (by decide) ?_
            exact ih3 _ (by rw [← hn3]; exact (PR_dec hPR hsx4_12 ez_4)) z_4 rfl hz_4 hsx1_12 hsx3_12 (wfR_up hCL hRW hPR hsx4_12 hwf (owB_f (fun i hi => hno i (by have q5 := (hCL _ (show x4_3.toNatClampNeg < 8 from (by have q1 : x4_3.toNatClampNeg = x4_3.toInt.toNat := rfl; have := i32_0; have := i32_1; have := i32_2; have := i32_m1; have := (hsx1_12).1; have := (hsx1_12).2; have := (hsx3_12).1; have := (hsx3_12).2; have := (hsx4_12).1; have := (hsx4_12).2; have := (hx5_12).1; have := (hx5_12).2; have := (hz_1).1; have := (hz_1).2; have := (hz_4).1; have := (hz_4).2; omega))).2.2.2.1; rw [(rwt9 hRW ez_1 rfl)] at q5; have q6 : (wg 1 x4_3.toNatClampNeg).toNatClampNeg = (wg 1 x4_3.toNatClampNeg).toInt.toNat := rfl; have q1 : z_1.toNatClampNeg = z_1.toInt.toNat := rfl; have q1 : x5_12.toNatClampNeg = x5_12.toInt.toNat := rfl; have := i32_0; have := i32_1; have := i32_2; have := i32_m1; have := (hsx1_12).1; have := (hsx1_12).2; have := (hsx3_12).1; have := (hsx3_12).2; have := (hsx4_12).1; have := (hsx4_12).2; have := (hx5_12).1; have := (hx5_12).2; have := (hz_1).1; have := (hz_1).2; have := (hz_4).1; have := (hz_4).2; omega))) ez_4) _ _ _ hP hD hS (lv_sub hl [0, 2, 3, 4, 5] rfl)
          · have d_5 : (x5_12 : Int32).toInt < (z_1 : Int32).toInt := Int32.lt_iff_toInt_lt.mp (i32_lt c_2)
            have h_6 : iv 0 3 x5_12 := iv_ltL (i32_lt c_2) hx5_12 hz_1 (by decide)
            have h_7 : iv 1 4 z_1 := iv_ltR (i32_lt c_2) hx5_12 hz_1 (by decide)
            refine lv_aload_n hx hb dX13_classWithFactory_24 rfl (lv_at hl 2 rfl) ?_
            refine lv_iconst (v := 4) hx hb dX13_classWithFactory_25 (by decide) ?_
            refine lv_iload hx hb dX13_classWithFactory_26 (lv_at hl 1 rfl) ?_
            refine lv_imul hx hb dX13_classWithFactory_28 ?_
            refine lv_topi (fun z_8 ez_8 => ?_)
            have hz_8 : iv 0 28 z_8 := iv_of ez_8 (iv_mul (iv_k (by decide) : iv 4 4 4) hsx4_12 (by decide))
            have tz_8 : z_8.toInt = 4 * (x4_3 : Int32).toInt := by rw [ez_8]; exact iv_mulE (iv_k (by decide) : iv 4 4 4) hsx4_12 (by decide)
            refine lv_iload hx hb dX13_classWithFactory_29 (lv_at hl 0 rfl) ?_
            refine lv_iadd hx hb dX13_classWithFactory_31 ?_
            refine lv_topi (fun z_9 ez_9 => ?_)
            have hz_9 : iv 0 31 z_9 := iv_of ez_9 (iv_add hz_8 h_6 (by decide))
            have tz_9 : z_9.toInt = (z_8 : Int32).toInt + (x5_12 : Int32).toInt := by rw [ez_9]; exact iv_addE hz_8 h_6 (by decide)
            refine lv_iload_n hx hb dX13_classWithFactory_32 rfl (lv_at hl 4 rfl) ?_
            refine lv_iload_n hx hb dX13_classWithFactory_33 rfl (lv_at hl 5 rfl) ?_
            refine mr_calli (rest := []) ⟨hx, hb, hml, hown, htb⟩ (f_isFactory9 l dC dI h0 ad cid sg gm lg z_9 b z hI hz_9 hsx3_12) (cwV 3 htb (gd_V kw_1281 kw_1282 kw_129 kw_160 kw_1639) rfl rfl rfl (by decide +kernel) ⟨Nat.le_of_ble_eq_true rfl, Nat.le_of_ble_eq_true rfl⟩) rfl hl.1 rfl (Nat.le_of_ble_eq_true rfl) dX13_classWithFactory_34 ⟨Nat.zero_le _, Nat.zero_le _⟩ hK hP hD hS hA (fun r_10 u_11 H locs hw hP hD hS => ?_)
            obtain ⟨hr_10, fI_r_10, rfl⟩ := hw
            have hP : va_P (dC, dI) vwCl (mW h0 ad cid sg gm lg) H := hP
            have hD : va_D A (mW h0 ad cid sg gm lg) := hD
            refine lv_if_eq (tgt := 43) hx hb dX13_classWithFactory_37 (by decide) (fun c_12 => ?_) (fun c_12 => ?_)
            · have h_13 : iv 0 0 r_10 := iv_eq c_12 hr_10 (iv_k (by decide) : iv 0 0 0) (by decide)
              obtain ⟨z_14, ez_14⟩ : ∃ z : Int32, z = x5_12 + 1 := ⟨_, rfl⟩
              have hz_14 : iv 1 4 z_14 := iv_of ez_14 (iv_add h_6 (iv_k (by decide) : iv 1 1 1) (by decide))
              have tz_14 : z_14.toInt = x5_12.toInt + 1 := by rw [ez_14]; exact iv_addE h_6 (iv_k (by decide) : iv 1 1 1) (by decide)
              refine lv_iinc (v := z_14) (lv' := [(5, .int z_14), (4, .int x4_3), (0, .ref h0), (1, .int a), (2, .int b), (3, .int z)]) hx hb dX13_classWithFactory_43 hl (k := 0) rfl ez_14.symm (by decide) rfl (fun ls hl => ?_)
              refine lv_goto (tgt := 12) hx hb dX13_classWithFactory_46 (by decide) ?_
              exact ih12 _ (by rw [← hn12]; exact (iv_meas tz_14 h_6 (by decide))) z_14 rfl (iv_w hz_14 (by decide)) hsx4_12 hsx1_12 hsx3_12 (fun k hk => by { by_cases hq : k = x5_12.toNatClampNeg; (subst hq; exact (by have q9 := (fI_r_10.resolve_left (fun q8 => absurd q8.1 (by have := i32_0; have := i32_1; have := i32_2; have := i32_m1; have := (hsx1_12).1; have := (hsx1_12).2; have := (hsx3_12).1; have := (hsx3_12).2; have := (hsx4_12).1; have := (hsx4_12).2; have := (h_6).1; have := (h_6).2; have := (h_7).1; have := (h_7).2; have := (hz_8).1; have := (hz_8).2; have := (hz_9).1; have := (hz_9).2; have := (h_13).1; have := (h_13).2; have := (hz_14).1; have := (hz_14).2; omega))).2; rw [(show z_9.toNatClampNeg = 4 * x4_3.toNatClampNeg + x5_12.toNatClampNeg from (by have q1 : z_9.toNatClampNeg = z_9.toInt.toNat := rfl; have q1 : x4_3.toNatClampNeg = x4_3.toInt.toNat := rfl; have q1 : x5_12.toNatClampNeg = x5_12.toInt.toNat := rfl; have := i32_0; have := i32_1; have := i32_2; have := i32_m1; have := (hsx1_12).1; have := (hsx1_12).2; have := (hsx3_12).1; have := (hsx3_12).2; have := (hsx4_12).1; have := (hsx4_12).2; have := (h_6).1; have := (h_6).2; have := (h_7).1; have := (h_7).2; have := (hz_8).1; have := (hz_8).2; have := (hz_9).1; have := (hz_9).2; have := (h_13).1; have := (h_13).2; have := (hz_14).1; have := (hz_14).2; omega))] at q9; have f9 := (hCL _ (show x4_3.toNatClampNeg < 8 from (by have q1 : x4_3.toNatClampNeg = x4_3.toInt.toNat := rfl; have := i32_0; have := i32_1; have := i32_2; have := i32_m1; have := (hsx1_12).1; have := (hsx1_12).2; have := (hsx3_12).1; have := (hsx3_12).2; have := (hsx4_12).1; have := (hsx4_12).2; have := (h_6).1; have := (h_6).2; have := (h_7).1; have := (h_7).2; have := (hz_8).1; have := (hz_8).2; have := (hz_9).1; have := (hz_9).2; have := (h_13).1; have := (h_13).2; have := (hz_14).1; have := (hz_14).2; omega))).2.2.2.2.2.1 _ (show x5_12.toNatClampNeg < (wg 1 x4_3.toNatClampNeg).toNatClampNeg from (by have q5 := (hCL _ (show x4_3.toNatClampNeg < 8 from (by have q1 : x4_3.toNatClampNeg = x4_3.toInt.toNat := rfl; have := i32_0; have := i32_1; have := i32_2; have := i32_m1; have := (hsx1_12).1; have := (hsx1_12).2; have := (hsx3_12).1; have := (hsx3_12).2; have := (hsx4_12).1; have := (hsx4_12).2; have := (h_6).1; have := (h_6).2; have := (h_7).1; have := (h_7).2; have := (hz_8).1; have := (hz_8).2; have := (hz_9).1; have := (hz_9).2; have := (h_13).1; have := (h_13).2; have := (hz_14).1; have := (hz_14).2; omega))).2.2.2.1; rw [(rwt9 hRW ez_1 rfl)] at q5; have q6 : (wg 1 x4_3.toNatClampNeg).toNatClampNeg = (wg 1 x4_3.toNatClampNeg).toInt.toNat := rfl; have q1 : z_1.toNatClampNeg = z_1.toInt.toNat := rfl; have q1 : x5_12.toNatClampNeg = x5_12.toInt.toNat := rfl; have := i32_0; have := i32_1; have := i32_2; have := i32_m1; have := (hsx1_12).1; have := (hsx1_12).2; have := (hsx3_12).1; have := (hsx3_12).2; have := (hsx4_12).1; have := (hsx4_12).2; have := (h_6).1; have := (h_6).2; have := (h_7).1; have := (h_7).2; have := (hz_8).1; have := (hz_8).2; have := (hz_9).1; have := (hz_9).2; have := (h_13).1; have := (h_13).2; have := (hz_14).1; have := (hz_14).2; omega)); rw [rw9 hRW 14 rfl, rw9 hRW 18 rfl] at f9; exact fun q => q9 ⟨f9.1.trans q.1, f9.2.1.trans q.2⟩)); exact hno k (by have q1 : z_14.toNatClampNeg = z_14.toInt.toNat := rfl; have q1 : x5_12.toNatClampNeg = x5_12.toInt.toNat := rfl; have := i32_0; have := i32_1; have := i32_2; have := i32_m1; have := (hsx1_12).1; have := (hsx1_12).2; have := (hsx3_12).1; have := (hsx3_12).2; have := (hsx4_12).1; have := (hsx4_12).2; have := (h_6).1; have := (h_6).2; have := (h_7).1; have := (h_7).2; have := (hz_8).1; have := (hz_8).2; have := (hz_9).1; have := (hz_9).2; have := (h_13).1; have := (h_13).2; have := (hz_14).1; have := (hz_14).2; omega) }) _ _ _ hP hD hS (lv_sub hl [0, 1, 2, 3, 4, 5] rfl)
            · have h_15 : iv 1 1 r_10 := iv_neL c_12 hr_10 (by decide)
              refine lv_iload hx hb dX13_classWithFactory_40 (lv_at hl 1 rfl) ?_
              exact W.iret (v := x4_3) hx hb hr (fun t ht hW => ⟨⟨x4_3, (sg, gm, lg), rfl, ⟨(iv_w hsx4_12 (by decide)), ((wfR_h hsx4_12 hwf (owB_t (show x5_12.toNatClampNeg < (wg 1 x4_3.toNatClampNeg).toNatClampNeg from (by have q5 := (hCL _ (show x4_3.toNatClampNeg < 8 from (by have q1 : x4_3.toNatClampNeg = x4_3.toInt.toNat := rfl; have := i32_0; have := i32_1; have := i32_2; have := i32_m1; have := (hsx1_12).1; have := (hsx1_12).2; have := (hsx3_12).1; have := (hsx3_12).2; have := (hsx4_12).1; have := (hsx4_12).2; have := (h_6).1; have := (h_6).2; have := (h_7).1; have := (h_7).2; have := (hz_8).1; have := (hz_8).2; have := (hz_9).1; have := (hz_9).2; have := (h_15).1; have := (h_15).2; omega))).2.2.2.1; rw [(rwt9 hRW ez_1 rfl)] at q5; have q6 : (wg 1 x4_3.toNatClampNeg).toNatClampNeg = (wg 1 x4_3.toNatClampNeg).toInt.toNat := rfl; have q1 : z_1.toNatClampNeg = z_1.toInt.toNat := rfl; have q1 : x5_12.toNatClampNeg = x5_12.toInt.toNat := rfl; have := i32_0; have := i32_1; have := i32_2; have := i32_m1; have := (hsx1_12).1; have := (hsx1_12).2; have := (hsx3_12).1; have := (hsx3_12).2; have := (hsx4_12).1; have := (hsx4_12).2; have := (h_6).1; have := (h_6).2; have := (h_7).1; have := (h_7).2; have := (hz_8).1; have := (hz_8).2; have := (hz_9).1; have := (hz_9).2; have := (h_15).1; have := (h_15).2; omega)) (by have q9 := (fI_r_10.resolve_right (fun q8 => absurd q8.1 (by have := i32_0; have := i32_1; have := i32_2; have := i32_m1; have := (hsx1_12).1; have := (hsx1_12).2; have := (hsx3_12).1; have := (hsx3_12).2; have := (hsx4_12).1; have := (hsx4_12).2; have := (h_6).1; have := (h_6).2; have := (h_7).1; have := (h_7).2; have := (hz_8).1; have := (hz_8).2; have := (hz_9).1; have := (hz_9).2; have := (h_15).1; have := (h_15).2; omega))).2; rw [(show z_9.toNatClampNeg = 4 * x4_3.toNatClampNeg + x5_12.toNatClampNeg from (by have q1 : z_9.toNatClampNeg = z_9.toInt.toNat := rfl; have q1 : x4_3.toNatClampNeg = x4_3.toInt.toNat := rfl; have q1 : x5_12.toNatClampNeg = x5_12.toInt.toNat := rfl; have := i32_0; have := i32_1; have := i32_2; have := i32_m1; have := (hsx1_12).1; have := (hsx1_12).2; have := (hsx3_12).1; have := (hsx3_12).2; have := (hsx4_12).1; have := (hsx4_12).2; have := (h_6).1; have := (h_6).2; have := (h_7).1; have := (h_7).2; have := (hz_8).1; have := (hz_8).2; have := (hz_9).1; have := (hz_9).2; have := (h_15).1; have := (h_15).2; omega))] at q9; have f9 := (hCL _ (show x4_3.toNatClampNeg < 8 from (by have q1 : x4_3.toNatClampNeg = x4_3.toInt.toNat := rfl; have := i32_0; have := i32_1; have := i32_2; have := i32_m1; have := (hsx1_12).1; have := (hsx1_12).2; have := (hsx3_12).1; have := (hsx3_12).2; have := (hsx4_12).1; have := (hsx4_12).2; have := (h_6).1; have := (h_6).2; have := (h_7).1; have := (h_7).2; have := (hz_8).1; have := (hz_8).2; have := (hz_9).1; have := (hz_9).2; have := (h_15).1; have := (h_15).2; omega))).2.2.2.2.2.1 _ (show x5_12.toNatClampNeg < (wg 1 x4_3.toNatClampNeg).toNatClampNeg from (by have q5 := (hCL _ (show x4_3.toNatClampNeg < 8 from (by have q1 : x4_3.toNatClampNeg = x4_3.toInt.toNat := rfl; have := i32_0; have := i32_1; have := i32_2; have := i32_m1; have := (hsx1_12).1; have := (hsx1_12).2; have := (hsx3_12).1; have := (hsx3_12).2; have := (hsx4_12).1; have := (hsx4_12).2; have := (h_6).1; have := (h_6).2; have := (h_7).1; have := (h_7).2; have := (hz_8).1; have := (hz_8).2; have := (hz_9).1; have := (hz_9).2; have := (h_15).1; have := (h_15).2; omega))).2.2.2.1; rw [(rwt9 hRW ez_1 rfl)] at q5; have q6 : (wg 1 x4_3.toNatClampNeg).toNatClampNeg = (wg 1 x4_3.toNatClampNeg).toInt.toNat := rfl; have q1 : z_1.toNatClampNeg = z_1.toInt.toNat := rfl; have q1 : x5_12.toNatClampNeg = x5_12.toInt.toNat := rfl; have := i32_0; have := i32_1; have := i32_2; have := i32_m1; have := (hsx1_12).1; have := (hsx1_12).2; have := (hsx3_12).1; have := (hsx3_12).2; have := (hsx4_12).1; have := (hsx4_12).2; have := (h_6).1; have := (h_6).2; have := (h_7).1; have := (h_7).2; have := (hz_8).1; have := (hz_8).2; have := (hz_9).1; have := (hz_9).2; have := (h_15).1; have := (h_15).2; omega)); rw [rw9 hRW 14 rfl, rw9 hRW 18 rfl] at f9; exact ⟨f9.1.symm.trans q9.1, f9.2.1.symm.trans q9.2⟩))).symm), rfl⟩, by rw [ht]; exact hP, va_K.moved hW.alike hK, hD⟩, hS.F ht⟩) hS.2.2 dX13_classWithFactory_42
      refine lv_iload hx hb dX13_classWithFactory_3 (lv_at hl 0 rfl) ?_
      refine lv_iconst (v := (-1)) hx hb dX13_classWithFactory_5 (by decide) ?_
      refine lv_icmp_eq (tgt := 61) hx hb dX13_classWithFactory_6 (by decide) (fun c_16 => ?_) (fun c_16 => ?_)
      · have h_17 : iv (-1) (-1) x4_3 := iv_eq c_16 hx4_3 (iv_k (by decide) : iv (-1) (-1) (-1)) (by decide)
        refine lv_iconst (v := (-1)) hx hb dX13_classWithFactory_61 (by decide) ?_
        exact W.iret (v := (-1)) hx hb hr (fun t ht hW => ⟨⟨(-1), (sg, gm, lg), rfl, ⟨(iv_w (iv_k (by decide) : iv (-1) (-1) (-1)) (by decide)), ((by rw [hwf, wfF_o (by have := i32_0; have := i32_1; have := i32_2; have := i32_m1; have := (hsx1_3).1; have := (hsx1_3).2; have := (hsx3_3).1; have := (hsx3_3).2; have := (h_17).1; have := (h_17).2; omega)]; rfl)), rfl⟩, by rw [ht]; exact hP, va_K.moved hW.alike hK, hD⟩, hS.F ht⟩) hS.2.2 dX13_classWithFactory_62
      · have h_18 : iv 0 7 x4_3 := iv_neL c_16 hx4_3 (by decide)
        refine lv_iconst (v := 0) hx hb dX13_classWithFactory_9 (by decide) ?_
        refine lv_istore (lv' := [(5, .int 0), (4, .int x4_3), (0, .ref h0), (1, .int a), (2, .int b), (3, .int z)]) hx hb dX13_classWithFactory_10 hl (by decide) rfl (fun ls hl => ?_)
        exact hj12 _ 0 rfl (iv_w (iv_k (by decide) : iv 0 0 0) (by decide)) h_18 hsx1_3 hsx3_3 (fun k hk => absurd hk (Nat.not_lt_zero _)) _ _ _ hP hD hS (lv_sub hl [0, 1, 2, 3, 4, 5] rfl)
  refine lv_iload_n hx hb dX13_classWithFactory_0 rfl (lv_at hl 1 rfl) ?_
  refine lv_istore (lv' := [(4, .int a), (0, .ref h0), (1, .int a), (2, .int b), (3, .int z)]) hx hb dX13_classWithFactory_1 hl (by decide) rfl (fun ls hl => ?_)
  exact hj3 _ a rfl hva hva hvz (wfR_0 hCL hRW hPR hva) _ _ _ hP hD hS (lv_sub hl [0, 1, 2, 3, 4] rfl)
end
section
theorem SR_l {rg : Nat → Nat → Int32} {x : Int32} {T : List Int} (h : SRq rg x T) (hx : x.toInt < 1000) : (rg 37 x.toNatClampNeg).toInt = (T.length : Int) ∧ (∀ i y, T[i]? = some y → (rg 38 ((rg 36 x.toNatClampNeg).toNatClampNeg + i)).toInt = y) := by
  rcases h.2.2 with q | q
  · exact q.2.2
  · omega
theorem SR_t {rg : Nat → Nat → Int32} {x : Int32} {T : List Int} (h : SRq rg x T) (hx : 1000 ≤ x.toInt) : (rg 31 (x.toInt - 1000).toNat).toInt = (T.length : Int) ∧ (∀ i y, T[i]? = some y → (rg 39 (24 * (x.toInt - 1000).toNat + i)).toInt = y) := by
  rcases h.2.2 with q | q
  · omega
  · exact q.2.2
theorem SR_v {rg : Nat → Nat → Int32} {x : Int32} {T : List Int} (h : SRq rg x T) : x.toInt ≤ 959 ∨ 1000 ≤ x.toInt := by
  rcases h.2.2 with q | q
  · exact Or.inl q.2.1
  · exact Or.inr q.1
theorem gd9 {α : Type} {T : List α} {i : Nat} {d : α} (h : i < T.length) : T[i]? = some ((T[i]?).getD d) := by rw [List.getElem?_eq_getElem h]; rfl
theorem l64_bm {i : Int} (h : -9223372036854775808 ≤ i ∧ i ≤ 9223372036854775807) : i.bmod (2 ^ 64) = i := by
  have e : ((2 : Nat) ^ 64) = 18446744073709551616 := by decide
  rw [e]
  unfold Int.bmod
  by_cases q : 0 ≤ i
  · have h2 : i % (18446744073709551616 : Nat) = i := Int.emod_eq_of_lt q (by omega)
    rw [h2, if_pos (by omega)]
  · have h2 : i % (18446744073709551616 : Nat) = i + 18446744073709551616 := by
      rw [← Int.add_emod_right]
      exact Int.emod_eq_of_lt (by omega) (by omega)
    rw [h2, if_neg (by omega)]; omega
theorem c64 (c : Int32) : c.toInt64.toInt = c.toInt := Int32.toInt_toInt64 c
theorem num_s {v z1 z2 z3 cc : Int64} {c : Int32} (e1 : z1 = 10 * v) (ec : cc = c.toInt64) (e2 : z2 = z1 + cc) (e3 : z3 = z2 - 48) (hv : 0 ≤ v.toInt) (hv2 : v.toInt ≤ 10000000000) (hc : -128 ≤ c.toInt) (hc2 : c.toInt ≤ 127) : z3.toInt = v.toInt * 10 + (c.toInt - 48) := by
  have a1 : z1.toInt = 10 * v.toInt := by rw [e1, Int64.toInt_mul, show (10 : Int64).toInt = 10 from by decide]; exact l64_bm (by omega)
  have a2 : z2.toInt = 10 * v.toInt + c.toInt := by rw [e2, Int64.toInt_add, a1, ec, c64]; exact l64_bm (by omega)
  rw [e3, Int64.toInt_sub, a2, show (48 : Int64).toInt = 48 from by decide]
  rw [show 10 * v.toInt + c.toInt - 48 = v.toInt * 10 + (c.toInt - 48) by omega]
  exact l64_bm (by omega)
theorem neg64 {v w : Int64} (e : w = -v) (hv : 0 ≤ v.toInt) : w.toInt = -v.toInt := by
  rw [e, Int64.toInt_neg]
  exact l64_bm (by have h1 := v.toInt_le; rw [show Int64.maxValue.toInt = 9223372036854775807 from by decide] at h1; omega)
/-- the digits that are left -/
def fr9 (T : List Int) : Nat := if ng9 T = true then 1 else 0
def DG9 (T : List Int) (k : Nat) (v : Int) : Prop := T.length - fr9 T ≤ 10 ∧ 0 < T.length - fr9 T ∧ fr9 T ≤ k ∧ k ≤ T.length ∧ dgF (T.drop (fr9 T)) 0 = dgF (T.drop k) v ∧ 0 ≤ v ∧ v < 10 ^ (k - fr9 T)
theorem ng_y {T : List Int} (h : (T[0]?).getD 0 = 45) (hl : 0 < T.length) : ng9 T = true := by
  cases T with
  | nil => exact absurd hl (Nat.lt_irrefl _)
  | cons a l => unfold ng9; exact decide_eq_true (by show some a = some 45; have : a = 45 := h; rw [this])
theorem ng_n {T : List Int} (h : ¬ ((T[0]?).getD 0 = 45 ∧ 0 < T.length)) : ng9 T = false := by
  cases T with
  | nil => rfl
  | cons a l => unfold ng9; exact decide_eq_false (fun q => h ⟨Option.some.inj q, Nat.zero_lt_succ _⟩)
theorem nuL_len {T : List Int} (h : ¬ (T.length - fr9 T ≤ 10 ∧ 0 < T.length - fr9 T)) : nuL T = none := by
  unfold nuL
  have e : (if ng9 T = true then T.drop 1 else T).length = T.length - fr9 T := by
    unfold fr9; split
    · rw [List.length_drop]
    · rfl
  rw [if_pos (by rw [e]; omega)]
theorem drp9 {T : List Int} : (if ng9 T = true then T.drop 1 else T) = T.drop (fr9 T) := by
  unfold fr9; split <;> rfl
theorem DG_0 {T : List Int} (h1 : T.length - fr9 T ≤ 10) (h2 : 0 < T.length - fr9 T) : DG9 T (fr9 T) 0 := ⟨h1, h2, Nat.le_refl _, by omega, rfl, Int.le_refl _, by rw [Nat.sub_self]; decide⟩
theorem DG_s {T : List Int} {k : Nat} {v : Int} (h : DG9 T k v) (hk : k < T.length) (hd : 48 ≤ (T[k]?).getD 0 ∧ (T[k]?).getD 0 ≤ 57) : DG9 T (k + 1) (v * 10 + ((T[k]?).getD 0 - 48)) := by
  obtain ⟨a, b, c, d, e, f, g⟩ := h
  refine ⟨a, b, by omega, by omega, ?_, by omega, ?_⟩
  · rw [e, dro9 (gd9 (d := 0) hk)]
    show (if _ then _ else _) = _
    rw [if_pos hd]
  · rw [show k + 1 - fr9 T = (k - fr9 T) + 1 by omega, Int.pow_succ]; omega
theorem DG_x {T : List Int} {k : Nat} {v : Int} (h : DG9 T k v) (hk : k < T.length) (hd : ¬ (48 ≤ (T[k]?).getD 0 ∧ (T[k]?).getD 0 ≤ 57)) : nuL T = none := by
  obtain ⟨a, b, c, d, e, f, g⟩ := h
  unfold nuL
  rw [drp9]
  split
  · rfl
  · rw [e, dro9 (gd9 (d := 0) hk), show dgF ((T[k]?).getD 0 :: T.drop (k + 1)) v = none from if_neg hd]
theorem DG_e {T : List Int} {k : Nat} {v : Int} (h : DG9 T k v) (hk : T.length ≤ k) : nuL T = if -2147483648 ≤ (if ng9 T = true then -v else v) ∧ (if ng9 T = true then -v else v) ≤ 2147483647 then some (if ng9 T = true then -v else v) else none := by
  obtain ⟨a, b, c, d, e, f, g⟩ := h
  unfold nuL
  rw [drp9, if_neg (by rw [List.length_drop]; omega), e, List.drop_eq_nil_of_le hk]
  rfl
theorem DG_b {T : List Int} {k : Nat} {v : Int} (h : DG9 T k v) : v < 10000000000 := by
  obtain ⟨a, b, c, d, e, f, g⟩ := h
  have h1 : (10 : Nat) ^ (k - fr9 T) ≤ 10 ^ 10 := Nat.pow_le_pow_right (by decide) (by omega)
  have h2 : (10 : Nat) ^ 10 = 10000000000 := by decide
  have h3 : ((10 : Int) ^ (k - fr9 T)) = ((10 ^ (k - fr9 T) : Nat) : Int) := by rw [Int.natCast_pow]; rfl
  omega
/-- as a word -/
def fdI : List Int → Int → Int
  | [], a => a
  | c :: l, a => fdI l (256 * a + c)
theorem wdT {T : List Int} (hT : ∀ x, x ∈ T → 1 ≤ x ∧ x ≤ 126) (hl : T.length < 8) (h : fdI T 0 = 1953658213) : T = [116, 114, 117, 101] := by
  match T, hT, hl, h with
  | [], _, _, h => exact absurd h (by decide)
  | [a], hT, _, h => have := hT a (by simp); have h : 256 * 0 + a = 1953658213 := h; omega
  | [a, b], hT, _, h => have := hT a (by simp); have := hT b (by simp); have h : 256 * (256 * 0 + a) + b = 1953658213 := h; omega
  | [a, b, c], hT, _, h => have := hT a (by simp); have := hT b (by simp); have := hT c (by simp); have h : 256 * (256 * (256 * 0 + a) + b) + c = 1953658213 := h; omega
  | [a, b, c, d], hT, _, h =>
    have := hT a (by simp); have := hT b (by simp); have := hT c (by simp); have := hT d (by simp)
    have h : 256 * (256 * (256 * (256 * 0 + a) + b) + c) + d = 1953658213 := h
    have e1 : a = 116 := by omega
    have e2 : b = 114 := by omega
    have e3 : c = 117 := by omega
    have e4 : d = 101 := by omega
    rw [e1, e2, e3, e4]
  | a :: b :: c :: d :: e :: l, hT, _, h =>
    have := hT a (by simp); have := hT b (by simp); have := hT c (by simp); have := hT d (by simp); have := hT e (by simp)
    have hb : ∀ (l : List Int) (v : Int), (∀ x, x ∈ l → 1 ≤ x ∧ x ≤ 126) → 4294967296 ≤ v → 4294967296 ≤ fdI l v := by
      intro l
      induction l with
      | nil => intro v _ h; exact h
      | cons x l ih => intro v hx h; exact ih _ (fun y hy => hx y (List.mem_cons_of_mem _ hy)) (by have := hx x List.mem_cons_self; omega)
    have h : fdI l (256 * (256 * (256 * (256 * (256 * 0 + a) + b) + c) + d) + e) = 1953658213 := h
    have := hb l _ (fun x hx => hT x (by simp [hx])) (show 4294967296 ≤ 256 * (256 * (256 * (256 * (256 * 0 + a) + b) + c) + d) + e by omega)
    omega
theorem wdF {T : List Int} (hT : ∀ x, x ∈ T → 1 ≤ x ∧ x ≤ 126) (hl : T.length < 8) (h : fdI T 0 = 439721161573) : T = [102, 97, 108, 115, 101] := by
  match T, hT, hl, h with
  | [], _, _, h => exact absurd h (by decide)
  | [a], hT, _, h => have := hT a (by simp); have h : 256 * 0 + a = 439721161573 := h; omega
  | [a, b], hT, _, h => have := hT a (by simp); have := hT b (by simp); have h : 256 * (256 * 0 + a) + b = 439721161573 := h; omega
  | [a, b, c], hT, _, h => have := hT a (by simp); have := hT b (by simp); have := hT c (by simp); have h : 256 * (256 * (256 * 0 + a) + b) + c = 439721161573 := h; omega
  | [a, b, c, d], hT, _, h => have := hT a (by simp); have := hT b (by simp); have := hT c (by simp); have := hT d (by simp); have h : 256 * (256 * (256 * (256 * 0 + a) + b) + c) + d = 439721161573 := h; omega
  | [a, b, c, d, e], hT, _, h =>
    have := hT a (by simp); have := hT b (by simp); have := hT c (by simp); have := hT d (by simp); have := hT e (by simp)
    have h : 256 * (256 * (256 * (256 * (256 * 0 + a) + b) + c) + d) + e = 439721161573 := h
    have e1 : a = 102 := by omega
    have e2 : b = 97 := by omega
    have e3 : c = 108 := by omega
    have e4 : d = 115 := by omega
    have e5 : e = 101 := by omega
    rw [e1, e2, e3, e4, e5]
  | a :: b :: c :: d :: e :: f :: l, hT, _, h =>
    have := hT a (by simp); have := hT b (by simp); have := hT c (by simp); have := hT d (by simp); have := hT e (by simp); have := hT f (by simp)
    have hb : ∀ (l : List Int) (v : Int), (∀ x, x ∈ l → 1 ≤ x ∧ x ≤ 126) → 1099511627776 ≤ v → 1099511627776 ≤ fdI l v := by
      intro l
      induction l with
      | nil => intro v _ h; exact h
      | cons x l ih => intro v hx h; exact ih _ (fun y hy => hx y (List.mem_cons_of_mem _ hy)) (by have := hx x List.mem_cons_self; omega)
    have h : fdI l (256 * (256 * (256 * (256 * (256 * (256 * 0 + a) + b) + c) + d) + e) + f) = 439721161573 := h
    have := hb l _ (fun x hx => hT x (by simp [hx])) (show 1099511627776 ≤ 256 * (256 * (256 * (256 * (256 * (256 * 0 + a) + b) + c) + d) + e) + f by omega)
    omega
abbrev isq (T : List Int) (w : Int) : Prop := 0 < T.length ∧ T.length < 8 ∧ fdI T 0 = w
theorem tr_t {T : List Int} (hT : ∀ x, x ∈ T → 1 ≤ x ∧ x ≤ 126) (h : isq T 1953658213) : trL T = 1 := by rw [wdT hT h.2.1 h.2.2]; decide
theorem tr_f {T : List Int} (hT : ∀ x, x ∈ T → 1 ≤ x ∧ x ≤ 126) (h : isq T 439721161573) : trL T = 0 := by rw [wdF hT h.2.1 h.2.2]; decide
theorem tr_n {T : List Int} (h1 : ¬ isq T 1953658213) (h2 : ¬ isq T 439721161573) : trL T = -1 := by
  unfold trL
  rw [if_neg (fun q => h1 (by rw [q]; decide)), if_neg (fun q => h2 (by rw [q]; decide))]
theorem fdI_s {T : List Int} {k : Nat} {v : Int} (hk : k < T.length) : fdI (T.drop k) v = fdI (T.drop (k + 1)) (256 * v + (T[k]?).getD 0) := by rw [dro9 (gd9 (d := 0) hk)]; rfl
theorem p256 {v : Int} {k : Nat} (h : v < 256 ^ k) (hk : k ≤ 6) : v < 2 ^ 55 := by
  have h1 : (256 : Nat) ^ k ≤ 256 ^ 6 := Nat.pow_le_pow_right (by decide) hk
  have h3 : ((256 : Int) ^ k) = ((256 ^ k : Nat) : Int) := by rw [Int.natCast_pow]; rfl
  have h4 : (256 : Nat) ^ 6 = 281474976710656 := by decide
  have h5 : (2 : Int) ^ 55 = 36028797018963968 := by decide
  omega
theorem p256s {v c : Int} {k : Nat} (h : v < 256 ^ k) (hc : c ≤ 126) : 256 * v + c < 256 ^ (k + 1) := by rw [Int.pow_succ]; omega
end
section
set_option maxHeartbeats 4000000 in
set_option maxRecDepth 100000 in
theorem f_length9 (l : Launch) (dC : Nat → ClassId) (dI : Nat → Nat → Nat) (h0 : Nat) (ad : Nat → Nat) (cid : Nat → ClassId) (sg : Nat → Int32) (gm : Nat → Nat → Int32) (lg : Nat → Nat → Int64) (x : Int32) (rg : Nat → Nat → Int32) (T9 : List Int) (hI : MI sg gm) (hvx : iv 0 1079 x) (hRW : rt9 gm = rg) (hT : SRq rg x T9) : MMi l dC dI yX13_length wm_X13_length ({ frames := 0, cells := 0, slots := 0, locals := 0 }) h0 ad cid [.int x] sg gm lg (fun r v => (iv 0 24 r) ∧ (r.toInt = (T9.length : Int)) ∧ v = (sg, gm, lg)) := by
  intro sz
  refine Met.ofW (cc := cX13_length) (maxL := 2) (ret := (some .int)) (by decide) rfl ?_
  intro p e s m args below meth c s₁ B hml hv
  obtain ⟨rfl, hsz, hP, hK, hD0⟩ := hv
  have hx := B.exec
  have hb := B.bytes
  have hr := B.returns
  have hts := atoms_spec (ws := wm_X13_length) B.pre
  have htb := fun (w : Cond) (h : w ∈ tb) => hts w (List.mem_cons_of_mem _ h)
  have hown : s.vm.findClass RX13 = some m.cls := findClass_of_methodNamed B.named
  have hlocks := B.notSynchronized
  subst hsz
  have hD := hD0.self (sz := s.heap.size)
  generalize hAe : va_A (mW h0 ad cid sg gm lg) s.heap.size = A at hD ⊢
  have hA : ∀ q : Nat, s.heap.size ≤ q → A q := fun q h => by rw [← hAe]; exact Or.inr h
  have hS : va_S A s.heap s.heap [] := va_S.rf
  have hl := lv_entry ([.ref h0, .int x]) (n := 2) (Nat.le_of_ble_eq_true rfl)
  rw [lg_entry_eq]
  generalize (lg_sl ([.ref h0, .int x]) ++ List.replicate (2 - (lg_sl ([.ref h0, .int x])).length) Slot.unset).toArray = ls at hl ⊢
  have hl : lv_has ls 2 [(0, .ref h0), (1, .int x)] := hl
  refine lv_iload_n hx hb dX13_length_0 rfl (lv_at hl 1 rfl) ?_
  refine lv_sipush (v := 1000) hx hb dX13_length_1 (by decide) ?_
  refine lv_icmp_ge (tgt := 16) hx hb dX13_length_4 (by decide) (fun c_1 => ?_) (fun c_1 => ?_)
  · have h_2 : iv 1000 1079 x := iv_leR c_1 (iv_k (by decide) : iv 1000 1000 1000) hvx (by decide)
    refine lv_aload_n hx hb dX13_length_16 rfl (lv_at hl 0 rfl) ?_
    refine mr_get (v := .ref (ad 31)) hx hb htb inX13 hown hK hP 31 (by decide) (htb _ kw_1058) rfl dX13_length_17 ?_
    refine lv_iload_n hx hb dX13_length_20 rfl (lv_at hl 1 rfl) ?_
    refine lv_sipush (v := 1000) hx hb dX13_length_21 (by decide) ?_
    refine lv_isub hx hb dX13_length_24 ?_
    refine lv_topi (fun z_3 ez_3 => ?_)
    have hz_3 : iv 0 79 z_3 := iv_of ez_3 (iv_sub h_2 (iv_k (by decide) : iv 1000 1000 1000) (by decide))
    have tz_3 : z_3.toInt = (x : Int32).toInt - 1000 := by rw [ez_3]; exact iv_subE h_2 (iv_k (by decide) : iv 1000 1000 1000) (by decide)
    refine mr_iald hx hb hK hP 24 (k := 31) rfl rfl rfl (show vp_in z_3 80 from (iv_in hz_3 (by decide))) dX13_length_25 ?_
    refine lv_topi (fun z_4 ez_4 => ?_)
    have hz_4 : iv 0 24 z_4 := iv_of ez_4 (MI_a hI 31 hz_3 (by decide))
    exact W.iret (v := z_4) hx hb hr (fun t ht hW => ⟨⟨z_4, (sg, gm, lg), rfl, ⟨hz_4, ((by have q9 := (SR_t hT (by have := i32_0; have := i32_1; have := i32_2; have := i32_m1; have := (h_2).1; have := (h_2).2; have := (hz_3).1; have := (hz_3).2; have := (hz_4).1; have := (hz_4).2; omega)).1; rw [show (x.toInt - 1000).toNat = z_3.toNatClampNeg from (by have q1 : z_3.toNatClampNeg = z_3.toInt.toNat := rfl; have := i32_0; have := i32_1; have := i32_2; have := i32_m1; have := (h_2).1; have := (h_2).2; have := (hz_3).1; have := (hz_3).2; have := (hz_4).1; have := (hz_4).2; omega), (rwt9 hRW ez_4 rfl)] at q9; exact q9)), rfl⟩, by rw [ht]; exact hP, va_K.moved hW.alike hK, hD⟩, hS.F ht⟩) hS.2.2 dX13_length_26
  · have h_5 : iv 0 999 x := iv_ltL (i32_lt c_1) hvx (iv_k (by decide) : iv 1000 1000 1000) (by decide)
    have hs7 : iv 0 959 x := ⟨(h_5).1, by have := SR_v hT; have := (h_5).2; omega⟩
    refine lv_aload_n hx hb dX13_length_7 rfl (lv_at hl 0 rfl) ?_
    refine mr_get (v := .ref (ad 37)) hx hb htb inX13 hown hK hP 37 (by decide) (htb _ kw_1064) rfl dX13_length_8 ?_
    refine lv_iload_n hx hb dX13_length_11 rfl (lv_at hl 1 rfl) ?_
    refine mr_iald hx hb hK hP 30 (k := 37) rfl rfl rfl (show vp_in x 960 from (iv_in hs7 (by decide))) dX13_length_12 ?_
    refine lv_topi (fun z_6 ez_6 => ?_)
    have hz_6 : iv 0 24 z_6 := iv_of ez_6 (MI_a hI 37 hs7 (by decide))
    refine lv_goto (tgt := 26) hx hb dX13_length_13 (by decide) ?_
    exact W.iret (v := z_6) hx hb hr (fun t ht hW => ⟨⟨z_6, (sg, gm, lg), rfl, ⟨hz_6, ((by have q9 := (SR_l hT (by have := i32_0; have := i32_1; have := i32_2; have := i32_m1; have := (hs7).1; have := (hs7).2; have := (hz_6).1; have := (hz_6).2; omega)).1; rw [(rwt9 hRW ez_6 rfl)] at q9; exact q9)), rfl⟩, by rw [ht]; exact hP, va_K.moved hW.alike hK, hD⟩, hS.F ht⟩) hS.2.2 dX13_length_26

set_option maxHeartbeats 4000000 in
set_option maxRecDepth 100000 in
theorem f_sign9 (l : Launch) (dC : Nat → ClassId) (dI : Nat → Nat → Nat) (h0 : Nat) (ad : Nat → Nat) (cid : Nat → ClassId) (sg : Nat → Int32) (gm : Nat → Nat → Int32) (lg : Nat → Nat → Int64) (x : Int32) (y : Int32) (rg : Nat → Nat → Int32) (T9 : List Int) (hI : MI sg gm) (hvx : iv 0 1079 x) (hvy : iv 0 23 y) (hRW : rt9 gm = rg) (hT : SRq rg x T9) (hy : y.toInt < (T9.length : Int)) : MMi l dC dI yX13_sign wm_X13_sign ({ frames := 0, cells := 0, slots := 0, locals := 0 }) h0 ad cid [.int x, .int y] sg gm lg (fun r v => (iv (-128) 127 r) ∧ (r.toInt = (T9[y.toNatClampNeg]?).getD 0) ∧ v = (sg, gm, lg)) := by
  intro sz
  refine Met.ofW (cc := cX13_sign) (maxL := 3) (ret := (some .int)) (by decide) rfl ?_
  intro p e s m args below meth c s₁ B hml hv
  obtain ⟨rfl, hsz, hP, hK, hD0⟩ := hv
  have hx := B.exec
  have hb := B.bytes
  have hr := B.returns
  have hts := atoms_spec (ws := wm_X13_sign) B.pre
  have htb := fun (w : Cond) (h : w ∈ tb) => hts w (List.mem_cons_of_mem _ h)
  have hown : s.vm.findClass RX13 = some m.cls := findClass_of_methodNamed B.named
  have hlocks := B.notSynchronized
  subst hsz
  have hD := hD0.self (sz := s.heap.size)
  generalize hAe : va_A (mW h0 ad cid sg gm lg) s.heap.size = A at hD ⊢
  have hA : ∀ q : Nat, s.heap.size ≤ q → A q := fun q h => by rw [← hAe]; exact Or.inr h
  have hS : va_S A s.heap s.heap [] := va_S.rf
  have hl := lv_entry ([.ref h0, .int x, .int y]) (n := 3) (Nat.le_of_ble_eq_true rfl)
  rw [lg_entry_eq]
  generalize (lg_sl ([.ref h0, .int x, .int y]) ++ List.replicate (3 - (lg_sl ([.ref h0, .int x, .int y])).length) Slot.unset).toArray = ls at hl ⊢
  have hl : lv_has ls 3 [(0, .ref h0), (1, .int x), (2, .int y)] := hl
  refine lv_iload_n hx hb dX13_sign_0 rfl (lv_at hl 1 rfl) ?_
  refine lv_sipush (v := 1000) hx hb dX13_sign_1 (by decide) ?_
  refine lv_icmp_ge (tgt := 23) hx hb dX13_sign_4 (by decide) (fun c_1 => ?_) (fun c_1 => ?_)
  · have h_2 : iv 1000 1079 x := iv_leR c_1 (iv_k (by decide) : iv 1000 1000 1000) hvx (by decide)
    refine lv_aload_n hx hb dX13_sign_23 rfl (lv_at hl 0 rfl) ?_
    refine mr_get (v := .ref (ad 39)) hx hb htb inX13 hown hK hP 39 (by decide) (htb _ kw_1066) rfl dX13_sign_24 ?_
    refine lv_bipush (v := 24) hx hb dX13_sign_27 (by decide) ?_
    refine lv_iload_n hx hb dX13_sign_29 rfl (lv_at hl 1 rfl) ?_
    refine lv_sipush (v := 1000) hx hb dX13_sign_30 (by decide) ?_
    refine lv_isub hx hb dX13_sign_33 ?_
    refine lv_topi (fun z_3 ez_3 => ?_)
    have hz_3 : iv 0 79 z_3 := iv_of ez_3 (iv_sub h_2 (iv_k (by decide) : iv 1000 1000 1000) (by decide))
    have tz_3 : z_3.toInt = (x : Int32).toInt - 1000 := by rw [ez_3]; exact iv_subE h_2 (iv_k (by decide) : iv 1000 1000 1000) (by decide)
    refine lv_imul hx hb dX13_sign_34 ?_
    refine lv_topi (fun z_4 ez_4 => ?_)
    have hz_4 : iv 0 1896 z_4 := iv_of ez_4 (iv_mul (iv_k (by decide) : iv 24 24 24) hz_3 (by decide))
    have tz_4 : z_4.toInt = 24 * (z_3 : Int32).toInt := by rw [ez_4]; exact iv_mulE (iv_k (by decide) : iv 24 24 24) hz_3 (by decide)
    refine lv_iload_n hx hb dX13_sign_35 rfl (lv_at hl 2 rfl) ?_
    refine lv_iadd hx hb dX13_sign_36 ?_
    refine lv_topi (fun z_5 ez_5 => ?_)
    have hz_5 : iv 0 1919 z_5 := iv_of ez_5 (iv_add hz_4 hvy (by decide))
    have tz_5 : z_5.toInt = (z_4 : Int32).toInt + (y : Int32).toInt := by rw [ez_5]; exact iv_addE hz_4 hvy (by decide)
    refine mr_bald hx hb hK hP 32 (k := 39) rfl rfl rfl (show vp_in z_5 1920 from (iv_in hz_5 (by decide))) dX13_sign_37 ?_
    refine lv_topi (fun z_6 ez_6 => ?_)
    have hz_6 : iv (-128) 127 z_6 := iv_of ez_6 (MI_a hI 39 hz_5 (by decide))
    exact W.iret (v := z_6) hx hb hr (fun t ht hW => ⟨⟨z_6, (sg, gm, lg), rfl, ⟨hz_6, ((by have q9 := (SR_t hT (by have := i32_0; have := i32_1; have := i32_2; have := i32_m1; have := (h_2).1; have := (h_2).2; have := (hvy).1; have := (hvy).2; have := (hz_3).1; have := (hz_3).2; have := (hz_4).1; have := (hz_4).2; have := (hz_5).1; have := (hz_5).2; have := (hz_6).1; have := (hz_6).2; omega)).2 y.toNatClampNeg _ (gd9 (d := 0) (show y.toNatClampNeg < T9.length from (by have q1 : y.toNatClampNeg = y.toInt.toNat := rfl; have := i32_0; have := i32_1; have := i32_2; have := i32_m1; have := (h_2).1; have := (h_2).2; have := (hvy).1; have := (hvy).2; have := (hz_3).1; have := (hz_3).2; have := (hz_4).1; have := (hz_4).2; have := (hz_5).1; have := (hz_5).2; have := (hz_6).1; have := (hz_6).2; have := hy; omega))); rw [show 24 * (x.toInt - 1000).toNat + y.toNatClampNeg = z_5.toNatClampNeg from (by have q1 : z_5.toNatClampNeg = z_5.toInt.toNat := rfl; have q1 : z_3.toNatClampNeg = z_3.toInt.toNat := rfl; have q1 : y.toNatClampNeg = y.toInt.toNat := rfl; have := i32_0; have := i32_1; have := i32_2; have := i32_m1; have := (h_2).1; have := (h_2).2; have := (hvy).1; have := (hvy).2; have := (hz_3).1; have := (hz_3).2; have := (hz_4).1; have := (hz_4).2; have := (hz_5).1; have := (hz_5).2; have := (hz_6).1; have := (hz_6).2; omega), (rwt9 hRW ez_6 rfl)] at q9; exact q9)), rfl⟩, by rw [ht]; exact hP, va_K.moved hW.alike hK, hD⟩, hS.F ht⟩) hS.2.2 dX13_sign_38
  · have h_7 : iv 0 999 x := iv_ltL (i32_lt c_1) hvx (iv_k (by decide) : iv 1000 1000 1000) (by decide)
    have hs7 : iv 0 959 x := ⟨(h_7).1, by have := SR_v hT; have := (h_7).2; omega⟩
    refine lv_aload_n hx hb dX13_sign_7 rfl (lv_at hl 0 rfl) ?_
    refine mr_get (v := .ref (ad 38)) hx hb htb inX13 hown hK hP 38 (by decide) (htb _ kw_1065) rfl dX13_sign_8 ?_
    refine lv_aload_n hx hb dX13_sign_11 rfl (lv_at hl 0 rfl) ?_
    refine mr_get (v := .ref (ad 36)) hx hb htb inX13 hown hK hP 36 (by decide) (htb _ kw_1063) rfl dX13_sign_12 ?_
    refine lv_iload_n hx hb dX13_sign_15 rfl (lv_at hl 1 rfl) ?_
    refine mr_iald hx hb hK hP 29 (k := 36) rfl rfl rfl (show vp_in x 960 from (iv_in hs7 (by decide))) dX13_sign_16 ?_
    refine lv_topi (fun z_8 ez_8 => ?_)
    have hz_8 : iv 0 1201 z_8 := iv_of ez_8 (MI_a hI 36 hs7 (by decide))
    refine lv_iload_n hx hb dX13_sign_17 rfl (lv_at hl 2 rfl) ?_
    refine lv_iadd hx hb dX13_sign_18 ?_
    refine lv_topi (fun z_9 ez_9 => ?_)
    have hz_9 : iv 0 1224 z_9 := iv_of ez_9 (iv_add hz_8 hvy (by decide))
    have tz_9 : z_9.toInt = (z_8 : Int32).toInt + (y : Int32).toInt := by rw [ez_9]; exact iv_addE hz_8 hvy (by decide)
    refine mr_bald hx hb hK hP 31 (k := 38) rfl rfl rfl (show vp_in z_9 2000 from (iv_in hz_9 (by decide))) dX13_sign_19 ?_
    refine lv_topi (fun z_10 ez_10 => ?_)
    have hz_10 : iv (-128) 127 z_10 := iv_of ez_10 (MI_a hI 38 hz_9 (by decide))
    refine lv_goto (tgt := 38) hx hb dX13_sign_20 (by decide) ?_
    exact W.iret (v := z_10) hx hb hr (fun t ht hW => ⟨⟨z_10, (sg, gm, lg), rfl, ⟨hz_10, ((by have q9 := (SR_l hT (by have := i32_0; have := i32_1; have := i32_2; have := i32_m1; have := (hs7).1; have := (hs7).2; have := (hvy).1; have := (hvy).2; have := (hz_8).1; have := (hz_8).2; have := (hz_9).1; have := (hz_9).2; have := (hz_10).1; have := (hz_10).2; omega)).2 y.toNatClampNeg _ (gd9 (d := 0) (show y.toNatClampNeg < T9.length from (by have q1 : y.toNatClampNeg = y.toInt.toNat := rfl; have := i32_0; have := i32_1; have := i32_2; have := i32_m1; have := (hs7).1; have := (hs7).2; have := (hvy).1; have := (hvy).2; have := (hz_8).1; have := (hz_8).2; have := (hz_9).1; have := (hz_9).2; have := (hz_10).1; have := (hz_10).2; have := hy; omega))); rw [show rg 36 x.toNatClampNeg = z_8 from (rwt9 hRW ez_8 rfl), show z_8.toNatClampNeg + y.toNatClampNeg = z_9.toNatClampNeg from (by have q1 : z_9.toNatClampNeg = z_9.toInt.toNat := rfl; have q1 : z_8.toNatClampNeg = z_8.toInt.toNat := rfl; have q1 : y.toNatClampNeg = y.toInt.toNat := rfl; have := i32_0; have := i32_1; have := i32_2; have := i32_m1; have := (hs7).1; have := (hs7).2; have := (hvy).1; have := (hvy).2; have := (hz_8).1; have := (hz_8).2; have := (hz_9).1; have := (hz_9).2; have := (hz_10).1; have := (hz_10).2; omega), (rwt9 hRW ez_10 rfl)] at q9; exact q9)), rfl⟩, by rw [ht]; exact hP, va_K.moved hW.alike hK, hD⟩, hS.F ht⟩) hS.2.2 dX13_sign_38

set_option maxHeartbeats 4000000 in
set_option maxRecDepth 100000 in
theorem f_numberIn9 (l : Launch) (dC : Nat → ClassId) (dI : Nat → Nat → Nat) (h0 : Nat) (ad : Nat → Nat) (cid : Nat → ClassId) (sg : Nat → Int32) (gm : Nat → Nat → Int32) (lg : Nat → Nat → Int64) (x : Int32) (rg : Nat → Nat → Int32) (T9 : List Int) (hI : MI sg gm) (hvx : iv 0 1079 x) (hRW : rt9 gm = rg) (hT : SRq rg x T9) : MMl l dC dI yX13_numberIn wm_X13_numberIn ({ frames := 1, cells := 0, slots := 0, locals := 22 }) h0 ad cid [.int x] sg gm lg (fun r v => (r.toInt = (nuL T9).getD (-9000000000000000000)) ∧ v = (sg, gm, lg)) := by
  intro sz
  refine Met.ofW (cc := cX13_numberIn) (maxL := 8) (ret := (some .long)) (by decide) rfl ?_
  intro p e s m args below meth c s₁ B hml hv
  obtain ⟨rfl, hsz, hP, hK, hD0⟩ := hv
  have hx := B.exec
  have hb := B.bytes
  have hr := B.returns
  have hts := atoms_spec (ws := wm_X13_numberIn) B.pre
  have htb := fun (w : Cond) (h : w ∈ tb) => hts w (List.mem_cons_of_mem _ h)
  have hown : s.vm.findClass RX13 = some m.cls := findClass_of_methodNamed B.named
  have hlocks := B.notSynchronized
  subst hsz
  have hD := hD0.self (sz := s.heap.size)
  generalize hAe : va_A (mW h0 ad cid sg gm lg) s.heap.size = A at hD ⊢
  have hA : ∀ q : Nat, s.heap.size ≤ q → A q := fun q h => by rw [← hAe]; exact Or.inr h
  have hS : va_S A s.heap s.heap [] := va_S.rf
  have hl := lv_entry ([.ref h0, .int x]) (n := 8) (Nat.le_of_ble_eq_true rfl)
  rw [lg_entry_eq]
  generalize (lg_sl ([.ref h0, .int x]) ++ List.replicate (8 - (lg_sl ([.ref h0, .int x])).length) Slot.unset).toArray = ls at hl ⊢
  have hl : lv_has ls 8 [(0, .ref h0), (1, .int x)] := hl
  have hj169 : ∀ (x5_169 : Int64) (x7_169 : Int32) (x4_169 : Int32) (x3_169 : Int32) (x2_169 : Int32) (y0_169 : Int64) (_ : iv 0 24 x7_169) (_ : iv 0 1 x4_169) (_ : iv 0 1 x3_169) (_ : iv 0 24 x2_169) (_ : iv 0 1079 x) (_ : (y0_169 : Int64).toInt = (nuL T9).getD (-9000000000000000000)) (H : Heap) (locs : List Loc) (ls : Array Slot), va_P (dC, dI) vwCl (mW h0 ad cid sg gm lg) H → va_D A (mW h0 ad cid sg gm lg) → va_S A s.heap H locs → lv_has ls 8 [(5, .long x5_169), (7, .int x7_169), (4, .int x4_169), (3, .int x3_169), (2, .int x2_169), (0, .ref h0), (1, .int x)] → W p l e (headSpec wm_X13_numberIn ({ frames := 1, cells := 0, slots := 0, locals := 22 })).room s m ([.ref h0, .int x] : List Value).toArray below meth c H locs 0 0 (MQ below (va_Ql (fun r v => (r.toInt = (nuL T9).getD (-9000000000000000000)) ∧ v = (sg, gm, lg)) (MB dC dI h0 ad cid A) A) ([.ref h0, .int x] : List Value).toArray s 0 0 A) (F0 m 169 ls [.long y0_169]) := by
    intro x5_169 x7_169 x4_169 x3_169 x2_169 y0_169 hx7_169 hx4_169 hx3_169 hx2_169 hsx1_169 h169 H locs ls hP hD hS hl
    exact W.lret (v := y0_169) hx hb hr (fun t ht hW => ⟨⟨y0_169, (sg, gm, lg), rfl, ⟨(h169), rfl⟩, by rw [ht]; exact hP, va_K.moved hW.alike hK, hD⟩, hS.F ht⟩) hS.2.2 dX13_numberIn_169
  have hj166 : ∀ (x5_166 : Int64) (x7_166 : Int32) (x4_166 : Int32) (x3_166 : Int32) (x2_166 : Int32) (_ : iv 0 24 x7_166) (_ : iv 0 1 x4_166) (_ : iv 0 1 x3_166) (_ : iv 0 24 x2_166) (_ : iv 0 1079 x) (_ : nuL T9 = none) (H : Heap) (locs : List Loc) (ls : Array Slot), va_P (dC, dI) vwCl (mW h0 ad cid sg gm lg) H → va_D A (mW h0 ad cid sg gm lg) → va_S A s.heap H locs → lv_has ls 8 [(5, .long x5_166), (7, .int x7_166), (4, .int x4_166), (3, .int x3_166), (2, .int x2_166), (0, .ref h0), (1, .int x)] → W p l e (headSpec wm_X13_numberIn ({ frames := 1, cells := 0, slots := 0, locals := 22 })).room s m ([.ref h0, .int x] : List Value).toArray below meth c H locs 0 0 (MQ below (va_Ql (fun r v => (r.toInt = (nuL T9).getD (-9000000000000000000)) ∧ v = (sg, gm, lg)) (MB dC dI h0 ad cid A) A) ([.ref h0, .int x] : List Value).toArray s 0 0 A) (F0 m 166 ls []) := by
    intro x5_166 x7_166 x4_166 x3_166 x2_166 hx7_166 hx4_166 hx3_166 hx2_166 hsx1_166 u166 H locs ls hP hD hS hl
    refine lv_ldc2 (own := RX13) (v := (-9000000000000000000)) hx hb hown (htb _ kw_1301) dX13_numberIn_166 ?_
    exact hj169 x5_166 x7_166 x4_166 x3_166 x2_166 (-9000000000000000000) hx7_166 hx4_166 hx3_166 hx2_166 hsx1_166 ((by rw [u166]; decide)) _ _ _ hP hD hS (lv_sub hl [0, 1, 2, 3, 4, 5, 6] rfl)
  have hj136 : ∀ (x7_136 : Int32) (x5_136 : Int64) (x4_136 : Int32) (x3_136 : Int32) (x2_136 : Int32) (y0_136 : Int64) (_ : iv 0 24 x7_136) (_ : iv 0 1 x4_136) (_ : iv 0 1 x3_136) (_ : iv 0 24 x2_136) (_ : iv 0 1079 x) (_ : (x4_136.toInt = 1 ∧ nuL T9 = (if -2147483648 ≤ (y0_136 : Int64).toInt ∧ (y0_136 : Int64).toInt ≤ 2147483647 then some (y0_136 : Int64).toInt else none)) ∨ (x4_136.toInt = 0 ∧ nuL T9 = none)) (H : Heap) (locs : List Loc) (ls : Array Slot), va_P (dC, dI) vwCl (mW h0 ad cid sg gm lg) H → va_D A (mW h0 ad cid sg gm lg) → va_S A s.heap H locs → lv_has ls 8 [(7, .int x7_136), (5, .long x5_136), (4, .int x4_136), (3, .int x3_136), (2, .int x2_136), (0, .ref h0), (1, .int x)] → W p l e (headSpec wm_X13_numberIn ({ frames := 1, cells := 0, slots := 0, locals := 22 })).room s m ([.ref h0, .int x] : List Value).toArray below meth c H locs 0 0 (MQ below (va_Ql (fun r v => (r.toInt = (nuL T9).getD (-9000000000000000000)) ∧ v = (sg, gm, lg)) (MB dC dI h0 ad cid A) A) ([.ref h0, .int x] : List Value).toArray s 0 0 A) (F0 m 136 ls [.long y0_136]) := by
    intro x7_136 x5_136 x4_136 x3_136 x2_136 y0_136 hx7_136 hx4_136 hx3_136 hx2_136 hsx1_136 h136 H locs ls hP hD hS hl
    refine lv_lstore (lv' := [(5, .long y0_136), (7, .int x7_136), (4, .int x4_136), (3, .int x3_136), (2, .int x2_136), (0, .ref h0), (1, .int x)]) hx hb dX13_numberIn_136 hl (by decide) rfl (fun ls hl => ?_)
    refine lv_iload hx hb dX13_numberIn_138 (lv_at hl 2 rfl) ?_
    refine lv_if_eq (tgt := 166) hx hb dX13_numberIn_140 (by decide) (fun c_1 => ?_) (fun c_1 => ?_)
    · have h_2 : iv 0 0 x4_136 := iv_eq c_1 hx4_136 (iv_k (by decide) : iv 0 0 0) (by decide)
      exact hj166 y0_136 x7_136 x4_136 x3_136 x2_136 hx7_136 (iv_w h_2 (by decide)) hx3_136 hx2_136 hsx1_136 ((by rcases h136 with q | q; (rw [q.2, if_neg (by have := i32_0; have := i32_1; have := i32_2; have := i32_m1; have := (hsx1_136).1; have := (hsx1_136).2; have := (hx7_136).1; have := (hx7_136).2; have := (h_2).1; have := (h_2).2; have := (hx3_136).1; have := (hx3_136).2; have := (hx2_136).1; have := (hx2_136).2; have := q.1; omega)]); (exact q.2))) _ _ _ hP hD hS (lv_sub hl [0, 1, 2, 3, 4, 5, 6] rfl)
    · have h_3 : iv 1 1 x4_136 := iv_neL c_1 hx4_136 (by decide)
      refine lv_lload hx hb dX13_numberIn_143 (lv_at hl 0 rfl) ?_
      refine lv_ldc2 (own := RX13) (v := (-2147483648)) hx hb hown (htb _ kw_1299) dX13_numberIn_145 ?_
      refine W.lcmp hx hb dX13_numberIn_148 ?_
      refine lv_topi (fun z_4 ez_4 => ?_)
      have hz_4 : iv (-1) 1 z_4 := iv_of ez_4 (iv_cmp _ _)
      have hl_z_4 := lg_tr7 ez_4
      rw [show ((-2147483648) : Int64).toInt = (-2147483648) from by decide] at hl_z_4
      refine lv_if_lt (tgt := 166) hx hb dX13_numberIn_149 (by decide) (fun c_5 => ?_) (fun c_5 => ?_)
      · have h_6 : iv (-1) (-1) z_4 := iv_ltL c_5 hz_4 (iv_k (by decide) : iv 0 0 0) (by decide)
        exact hj166 y0_136 x7_136 x4_136 x3_136 x2_136 hx7_136 (iv_w h_3 (by decide)) hx3_136 hx2_136 hsx1_136 ((by rcases h136 with q | q; (rw [q.2, if_neg (by have := i32_0; have := i32_1; have := i32_2; have := i32_m1; have := (hsx1_136).1; have := (hsx1_136).2; have := (hx7_136).1; have := (hx7_136).2; have := (h_3).1; have := (h_3).2; have := (hx3_136).1; have := (hx3_136).2; have := (hx2_136).1; have := (hx2_136).2; have := (h_6).1; have := (h_6).2; have := q.1; omega)]); (exact q.2))) _ _ _ hP hD hS (lv_sub hl [0, 1, 2, 3, 4, 5, 6] rfl)
      · have h_7 : iv 0 1 z_4 := iv_leR (i32_ge c_5) (iv_k (by decide) : iv 0 0 0) hz_4 (by decide)
        refine lv_lload hx hb dX13_numberIn_152 (lv_at hl 0 rfl) ?_
        refine lv_ldc2 (own := RX13) (v := 2147483647) hx hb hown (htb _ kw_1300) dX13_numberIn_154 ?_
        refine W.lcmp hx hb dX13_numberIn_157 ?_
        refine lv_topi (fun z_8 ez_8 => ?_)
        have hz_8 : iv (-1) 1 z_8 := iv_of ez_8 (iv_cmp _ _)
        have hl_z_8 := lg_tr7 ez_8
        rw [show (2147483647 : Int64).toInt = 2147483647 from by decide] at hl_z_8
        refine lv_if_gt (tgt := 166) hx hb dX13_numberIn_158 (by decide) (fun c_9 => ?_) (fun c_9 => ?_)
        · have h_10 : iv 1 1 z_8 := iv_ltR c_9 (iv_k (by decide) : iv 0 0 0) hz_8 (by decide)
          exact hj166 y0_136 x7_136 x4_136 x3_136 x2_136 hx7_136 (iv_w h_3 (by decide)) hx3_136 hx2_136 hsx1_136 ((by rcases h136 with q | q; (rw [q.2, if_neg (by have := i32_0; have := i32_1; have := i32_2; have := i32_m1; have := (hsx1_136).1; have := (hsx1_136).2; have := (hx7_136).1; have := (hx7_136).2; have := (h_3).1; have := (h_3).2; have := (hx3_136).1; have := (hx3_136).2; have := (hx2_136).1; have := (hx2_136).2; have := (h_7).1; have := (h_7).2; have := (h_10).1; have := (h_10).2; have := q.1; omega)]); (exact q.2))) _ _ _ hP hD hS (lv_sub hl [0, 1, 2, 3, 4, 5, 6] rfl)
        · have h_11 : iv (-1) 0 z_8 := iv_leL (i32_ge c_9) hz_8 (iv_k (by decide) : iv 0 0 0) (by decide)
          refine lv_lload hx hb dX13_numberIn_161 (lv_at hl 0 rfl) ?_
          refine lv_goto (tgt := 169) hx hb dX13_numberIn_163 (by decide) ?_
          exact hj169 y0_136 x7_136 x4_136 x3_136 x2_136 y0_136 hx7_136 (iv_w h_3 (by decide)) hx3_136 hx2_136 hsx1_136 ((by have q := h136.resolve_right (fun q => absurd q.1 (by have := i32_0; have := i32_1; have := i32_2; have := i32_m1; have := (hsx1_136).1; have := (hsx1_136).2; have := (hx7_136).1; have := (hx7_136).2; have := (h_3).1; have := (h_3).2; have := (hx3_136).1; have := (hx3_136).2; have := (hx2_136).1; have := (hx2_136).2; have := (h_7).1; have := (h_7).2; have := (h_11).1; have := (h_11).2; omega)); rw [q.2, if_pos (by have := i32_0; have := i32_1; have := i32_2; have := i32_m1; have := (hsx1_136).1; have := (hsx1_136).2; have := (hx7_136).1; have := (hx7_136).2; have := (h_3).1; have := (h_3).2; have := (hx3_136).1; have := (hx3_136).2; have := (hx2_136).1; have := (hx2_136).2; have := (h_7).1; have := (h_7).2; have := (h_11).1; have := (h_11).2; omega)]; rfl)) _ _ _ hP hD hS (lv_sub hl [0, 1, 2, 3, 4, 5, 6] rfl)
  have hj123 : ∀ (x7_123 : Int32) (x5_123 : Int64) (x4_123 : Int32) (x3_123 : Int32) (x2_123 : Int32) (_ : iv 0 24 x7_123) (_ : iv 0 1 x4_123) (_ : iv 0 1 x3_123) (_ : iv 0 24 x2_123) (_ : iv 0 1079 x) (_ : x3_123.toInt = (fr9 T9 : Int)) (_ : (x4_123.toInt = 1 ∧ DG9 T9 x7_123.toNatClampNeg x5_123.toInt ∧ T9.length ≤ x7_123.toNatClampNeg) ∨ (x4_123.toInt = 0 ∧ nuL T9 = none)) (H : Heap) (locs : List Loc) (ls : Array Slot), va_P (dC, dI) vwCl (mW h0 ad cid sg gm lg) H → va_D A (mW h0 ad cid sg gm lg) → va_S A s.heap H locs → lv_has ls 8 [(7, .int x7_123), (5, .long x5_123), (4, .int x4_123), (3, .int x3_123), (2, .int x2_123), (0, .ref h0), (1, .int x)] → W p l e (headSpec wm_X13_numberIn ({ frames := 1, cells := 0, slots := 0, locals := 22 })).room s m ([.ref h0, .int x] : List Value).toArray below meth c H locs 0 0 (MQ below (va_Ql (fun r v => (r.toInt = (nuL T9).getD (-9000000000000000000)) ∧ v = (sg, gm, lg)) (MB dC dI h0 ad cid A) A) ([.ref h0, .int x] : List Value).toArray s 0 0 A) (F0 m 123 ls []) := by
    intro x7_123 x5_123 x4_123 x3_123 x2_123 hx7_123 hx4_123 hx3_123 hx2_123 hsx1_123 h3 hE H locs ls hP hD hS hl
    refine lv_iload_n hx hb dX13_numberIn_123 rfl (lv_at hl 3 rfl) ?_
    refine lv_iconst (v := 1) hx hb dX13_numberIn_124 (by decide) ?_
    refine lv_icmp_ne (tgt := 134) hx hb dX13_numberIn_125 (by decide) (fun c_12 => ?_) (fun c_12 => ?_)
    · have h_13 : iv 0 0 x3_123 := iv_neH c_12 hx3_123 (by decide)
      refine lv_lload hx hb dX13_numberIn_134 (lv_at hl 1 rfl) ?_
      exact hj136 x7_123 x5_123 x4_123 x3_123 x2_123 x5_123 hx7_123 hx4_123 (iv_w h_13 (by decide)) hx2_123 hsx1_123 ((by rcases hE with q | q; (refine Or.inl ⟨q.1, ?_⟩; rw [DG_e q.2.1 q.2.2, if_neg (show ¬ ng9 T9 = true from (by rw [(show ng9 T9 = false from (by cases q : ng9 T9 with | false => rfl | true => (exfalso; have q3 := h3; unfold fr9 at q3; rw [q] at q3; have q3 : x3_123.toInt = (1 : Int) := q3; have := i32_0; have := i32_1; have := i32_2; have := i32_m1; have := (hsx1_123).1; have := (hsx1_123).2; have := (hx7_123).1; have := (hx7_123).2; have := (hx4_123).1; have := (hx4_123).2; have := (h_13).1; have := (h_13).2; have := (hx2_123).1; have := (hx2_123).2; omega)))]; decide))]); (exact Or.inr q))) _ _ _ hP hD hS (lv_sub hl [0, 1, 2, 3, 4, 5, 6] rfl)
    · have h_14 : iv 1 1 x3_123 := iv_eq c_12 hx3_123 (iv_k (by decide) : iv 1 1 1) (by decide)
      refine lv_lload hx hb dX13_numberIn_128 (lv_at hl 1 rfl) ?_
      refine lv_lneg hx hb dX13_numberIn_130 ?_
      refine lv_topl (fun z_15 ez_15 => ?_)
      refine lv_goto (tgt := 136) hx hb dX13_numberIn_131 (by decide) ?_
      exact hj136 x7_123 x5_123 x4_123 x3_123 x2_123 z_15 hx7_123 hx4_123 (iv_w h_14 (by decide)) hx2_123 hsx1_123 ((by rcases hE with q | q; (refine Or.inl ⟨q.1, ?_⟩; rw [DG_e q.2.1 q.2.2, if_pos (show ng9 T9 = true from (by cases q : ng9 T9 with | false => (exfalso; have q3 := h3; unfold fr9 at q3; rw [q] at q3; have q3 : x3_123.toInt = (0 : Int) := q3; have := i32_0; have := i32_1; have := i32_2; have := i32_m1; have := (hsx1_123).1; have := (hsx1_123).2; have := (hx7_123).1; have := (hx7_123).2; have := (hx4_123).1; have := (hx4_123).2; have := (h_14).1; have := (h_14).2; have := (hx2_123).1; have := (hx2_123).2; omega) | true => rfl)), neg64 ez_15 q.2.1.2.2.2.2.2.1]); (exact Or.inr q))) _ _ _ hP hD hS (lv_sub hl [0, 1, 2, 3, 4, 5, 6] rfl)
  have hj54 : ∀ (n : Nat) (x7_54 : Int32) (x5_54 : Int64) (x4_54 : Int32) (x3_54 : Int32) (x2_54 : Int32) (_ : (24 - x7_54.toInt).toNat = n) (_ : iv 0 24 x7_54) (_ : iv 0 1 x4_54) (_ : iv 0 1 x3_54) (_ : iv 0 24 x2_54) (_ : iv 0 1079 x) (_ : x2_54.toInt = (T9.length : Int)) (_ : x3_54.toInt = (fr9 T9 : Int)) (_ : (x4_54.toInt = 1 ∧ DG9 T9 x7_54.toNatClampNeg x5_54.toInt) ∨ (x4_54.toInt = 0 ∧ nuL T9 = none)) (H : Heap) (locs : List Loc) (ls : Array Slot), va_P (dC, dI) vwCl (mW h0 ad cid sg gm lg) H → va_D A (mW h0 ad cid sg gm lg) → va_S A s.heap H locs → lv_has ls 8 [(7, .int x7_54), (5, .long x5_54), (4, .int x4_54), (3, .int x3_54), (2, .int x2_54), (0, .ref h0), (1, .int x)] → W p l e (headSpec wm_X13_numberIn ({ frames := 1, cells := 0, slots := 0, locals := 22 })).room s m ([.ref h0, .int x] : List Value).toArray below meth c H locs 0 0 (MQ below (va_Ql (fun r v => (r.toInt = (nuL T9).getD (-9000000000000000000)) ∧ v = (sg, gm, lg)) (MB dC dI h0 ad cid A) A) ([.ref h0, .int x] : List Value).toArray s 0 0 A) (F0 m 54 ls []) := by
    intro n
    induction n using Nat.strongRecOn with
    | ind n ih54 =>
      intro x7_54 x5_54 x4_54 x3_54 x2_54 hn54 hx7_54 hx4_54 hx3_54 hx2_54 hsx1_54 h2 h3 hN H locs ls hP hD hS hl
      have hj94 : ∀ (y0_94 : Int32) (_ : iv 0 23 x7_54) (_ : iv 1 1 x4_54) (_ : iv 0 1 x3_54) (_ : iv 1 24 x2_54) (_ : iv 0 1079 x) (_ : iv 0 1 y0_94) (_ : x7_54.toInt < (T9.length : Int)) (_ : ((y0_94 : Int32).toInt = 1 ∧ 48 ≤ (T9[x7_54.toNatClampNeg]?).getD 0 ∧ (T9[x7_54.toNatClampNeg]?).getD 0 ≤ 57) ∨ ((y0_94 : Int32).toInt = 0 ∧ ¬ (48 ≤ (T9[x7_54.toNatClampNeg]?).getD 0 ∧ (T9[x7_54.toNatClampNeg]?).getD 0 ≤ 57))) (H : Heap) (locs : List Loc) (ls : Array Slot), va_P (dC, dI) vwCl (mW h0 ad cid sg gm lg) H → va_D A (mW h0 ad cid sg gm lg) → va_S A s.heap H locs → lv_has ls 8 [(7, .int x7_54), (5, .long x5_54), (4, .int x4_54), (3, .int x3_54), (2, .int x2_54), (0, .ref h0), (1, .int x)] → W p l e (headSpec wm_X13_numberIn ({ frames := 1, cells := 0, slots := 0, locals := 22 })).room s m ([.ref h0, .int x] : List Value).toArray below meth c H locs 0 0 (MQ below (va_Ql (fun r v => (r.toInt = (nuL T9).getD (-9000000000000000000)) ∧ v = (sg, gm, lg)) (MB dC dI h0 ad cid A) A) ([.ref h0, .int x] : List Value).toArray s 0 0 A) (F0 m 94 ls [.int y0_94]) := by
        intro y0_94 hsx7_94 hsx4_94 hsx3_94 hsx2_94 hsx1_94 hy0_94 hk7 h94 H locs ls hP hD hS hl
        refine lv_istore (lv' := [(4, .int y0_94), (7, .int x7_54), (5, .long x5_54), (3, .int x3_54), (2, .int x2_54), (0, .ref h0), (1, .int x)]) hx hb dX13_numberIn_94 hl (by decide) rfl (fun ls hl => ?_)
        refine lv_ldc2 (own := RX13) (v := 10) hx hb hown (htb _ kw_1298) dX13_numberIn_96 ?_
        refine lv_lload hx hb dX13_numberIn_99 (lv_at hl 2 rfl) ?_
        refine lv_lmul hx hb dX13_numberIn_101 ?_
        refine lv_topl (fun z_16 ez_16 => ?_)
        refine lv_aload_n hx hb dX13_numberIn_102 rfl (lv_at hl 5 rfl) ?_
        refine lv_iload_n hx hb dX13_numberIn_103 rfl (lv_at hl 6 rfl) ?_
        refine lv_iload hx hb dX13_numberIn_104 (lv_at hl 1 rfl) ?_
        refine mr_calli (rest := [.long z_16]) ⟨hx, hb, hml, hown, htb⟩ (f_sign9 l dC dI h0 ad cid sg gm lg x x7_54 rg T9 hI hsx1_94 hsx7_94 hRW hT hk7) (cwV 2 htb (gd_V kw_1296 kw_1297 kw_136 kw_160 kw_1646) rfl rfl rfl (by decide +kernel) ⟨Nat.le_of_ble_eq_true rfl, Nat.le_of_ble_eq_true rfl⟩) rfl hl.1 rfl (Nat.le_of_ble_eq_true rfl) dX13_numberIn_106 ⟨Nat.zero_le _, Nat.zero_le _⟩ hK hP hD hS hA (fun r_17 u_18 H locs hw hP hD hS => ?_)
        obtain ⟨hr_17, fs_r_17, rfl⟩ := hw
        have hP : va_P (dC, dI) vwCl (mW h0 ad cid sg gm lg) H := hP
        have hD : va_D A (mW h0 ad cid sg gm lg) := hD
        refine lv_i2l (v := (r_17 : Int32).toInt64) hx hb dX13_numberIn_109 rfl ?_
        refine lv_topl (fun z_19 ez_19 => ?_)
        refine lv_ladd hx hb dX13_numberIn_110 ?_
        refine lv_topl (fun z_20 ez_20 => ?_)
        refine lv_ldc2 (own := RX13) (v := 48) hx hb hown (htb _ kw_1208) dX13_numberIn_111 ?_
        refine lv_lsub hx hb dX13_numberIn_114 ?_
        refine lv_topl (fun z_21 ez_21 => ?_)
        refine lv_lstore (lv' := [(5, .long z_21), (4, .int y0_94), (7, .int x7_54), (3, .int x3_54), (2, .int x2_54), (0, .ref h0), (1, .int x)]) hx hb dX13_numberIn_115 hl (by decide) rfl (fun ls hl => ?_)
        obtain ⟨z_22, ez_22⟩ : ∃ z : Int32, z = x7_54 + 1 := ⟨_, rfl⟩
        have hz_22 : iv 1 24 z_22 := iv_of ez_22 (iv_add hsx7_94 (iv_k (by decide) : iv 1 1 1) (by decide))
        have tz_22 : z_22.toInt = x7_54.toInt + 1 := by rw [ez_22]; exact iv_addE hsx7_94 (iv_k (by decide) : iv 1 1 1) (by decide)
        refine lv_iinc (v := z_22) (lv' := [(7, .int z_22), (5, .long z_21), (4, .int y0_94), (3, .int x3_54), (2, .int x2_54), (0, .ref h0), (1, .int x)]) hx hb dX13_numberIn_117 hl (k := 2) rfl ez_22.symm (by decide) rfl (fun ls hl => ?_)
        refine lv_goto (tgt := 54) hx hb dX13_numberIn_120 (by decide) ?_
        exact ih54 _ (by rw [← hn54]; exact (iv_meas tz_22 hsx7_94 (by decide))) z_22 z_21 y0_94 x3_54 x2_54 rfl (iv_w hz_22 (by decide)) hy0_94 hsx3_94 (iv_w hsx2_94 (by decide)) hsx1_94 (h2) (h3) ((by have dg := (hN.resolve_right (fun q => absurd q.1 (by have := i32_0; have := i32_1; have := i32_2; have := i32_m1; have := (hsx1_94).1; have := (hsx1_94).2; have := (hsx7_94).1; have := (hsx7_94).2; have := (hsx4_94).1; have := (hsx4_94).2; have := (hsx3_94).1; have := (hsx3_94).2; have := (hsx2_94).1; have := (hsx2_94).2; have := (hy0_94).1; have := (hy0_94).2; have := (hr_17).1; have := (hr_17).2; have := (hz_22).1; have := (hz_22).2; omega))).2; have hk : x7_54.toNatClampNeg < T9.length := (by have := hk7; have q1 : x7_54.toNatClampNeg = x7_54.toInt.toNat := rfl; have := i32_0; have := i32_1; have := i32_2; have := i32_m1; have := (hsx1_94).1; have := (hsx1_94).2; have := (hsx7_94).1; have := (hsx7_94).2; have := (hsx4_94).1; have := (hsx4_94).2; have := (hsx3_94).1; have := (hsx3_94).2; have := (hsx2_94).1; have := (hsx2_94).2; have := (hy0_94).1; have := (hy0_94).2; have := (hr_17).1; have := (hr_17).2; have := (hz_22).1; have := (hz_22).2; omega); have e9 := num_s ez_16 ez_19 ez_20 ez_21 dg.2.2.2.2.2.1 (by have := DG_b dg; omega) (hr_17).1 (hr_17).2; rw [show z_22.toNatClampNeg = x7_54.toNatClampNeg + 1 from (by have q1 : z_22.toNatClampNeg = z_22.toInt.toNat := rfl; have q1 : x7_54.toNatClampNeg = x7_54.toInt.toNat := rfl; have := i32_0; have := i32_1; have := i32_2; have := i32_m1; have := (hsx1_94).1; have := (hsx1_94).2; have := (hsx7_94).1; have := (hsx7_94).2; have := (hsx4_94).1; have := (hsx4_94).2; have := (hsx3_94).1; have := (hsx3_94).2; have := (hsx2_94).1; have := (hsx2_94).2; have := (hy0_94).1; have := (hy0_94).2; have := (hr_17).1; have := (hr_17).2; have := (hz_22).1; have := (hz_22).2; omega)]; rcases h94 with q | q; (refine Or.inl ⟨q.1, ?_⟩; rw [e9, fs_r_17]; exact DG_s dg hk q.2); (exact Or.inr ⟨q.1, DG_x dg hk q.2⟩))) _ _ _ hP hD hS (lv_sub hl [0, 1, 2, 3, 4, 5, 6] rfl)
      have hj93 : ∀ (_ : iv 0 23 x7_54) (_ : iv 1 1 x4_54) (_ : iv 0 1 x3_54) (_ : iv 1 24 x2_54) (_ : iv 0 1079 x) (_ : x7_54.toInt < (T9.length : Int)) (_ : ¬ (48 ≤ (T9[x7_54.toNatClampNeg]?).getD 0 ∧ (T9[x7_54.toNatClampNeg]?).getD 0 ≤ 57)) (H : Heap) (locs : List Loc) (ls : Array Slot), va_P (dC, dI) vwCl (mW h0 ad cid sg gm lg) H → va_D A (mW h0 ad cid sg gm lg) → va_S A s.heap H locs → lv_has ls 8 [(7, .int x7_54), (5, .long x5_54), (4, .int x4_54), (3, .int x3_54), (2, .int x2_54), (0, .ref h0), (1, .int x)] → W p l e (headSpec wm_X13_numberIn ({ frames := 1, cells := 0, slots := 0, locals := 22 })).room s m ([.ref h0, .int x] : List Value).toArray below meth c H locs 0 0 (MQ below (va_Ql (fun r v => (r.toInt = (nuL T9).getD (-9000000000000000000)) ∧ v = (sg, gm, lg)) (MB dC dI h0 ad cid A) A) ([.ref h0, .int x] : List Value).toArray s 0 0 A) (F0 m 93 ls []) := by
        intro  hsx7_93 hsx4_93 hsx3_93 hsx2_93 hsx1_93 hk7 u93 H locs ls hP hD hS hl
        refine lv_iconst (v := 0) hx hb dX13_numberIn_93 (by decide) ?_
        exact hj94 0 hsx7_93 hsx4_93 hsx3_93 hsx2_93 hsx1_93 (iv_w (iv_k (by decide) : iv 0 0 0) (by decide)) (hk7) (Or.inr ⟨rfl, u93⟩) _ _ _ hP hD hS (lv_sub hl [0, 1, 2, 3, 4, 5, 6] rfl)
      refine lv_iload hx hb dX13_numberIn_54 (lv_at hl 0 rfl) ?_
      refine lv_iload_n hx hb dX13_numberIn_56 rfl (lv_at hl 4 rfl) ?_
      refine lv_icmp_ge (tgt := 123) hx hb dX13_numberIn_57 (by decide) (fun c_23 => ?_) (fun c_23 => ?_)
      · have d_24 : (x2_54 : Int32).toInt ≤ (x7_54 : Int32).toInt := Int32.le_iff_toInt_le.mp c_23
        exact hj123 x7_54 x5_54 x4_54 x3_54 x2_54 hx7_54 hx4_54 hx3_54 hx2_54 hsx1_54 (h3) ((by rcases hN with q | q; (exact Or.inl ⟨q.1, q.2, (by have := h2; have q1 : x7_54.toNatClampNeg = x7_54.toInt.toNat := rfl; have := i32_0; have := i32_1; have := i32_2; have := i32_m1; have := (hsx1_54).1; have := (hsx1_54).2; have := (hx7_54).1; have := (hx7_54).2; have := (hx4_54).1; have := (hx4_54).2; have := (hx3_54).1; have := (hx3_54).2; have := (hx2_54).1; have := (hx2_54).2; have := q.1; omega)⟩); (exact Or.inr q))) _ _ _ hP hD hS (lv_sub hl [0, 1, 2, 3, 4, 5, 6] rfl)
      · have d_25 : (x7_54 : Int32).toInt < (x2_54 : Int32).toInt := Int32.lt_iff_toInt_lt.mp (i32_lt c_23)
        have h_26 : iv 0 23 x7_54 := iv_ltL (i32_lt c_23) hx7_54 hx2_54 (by decide)
        have h_27 : iv 1 24 x2_54 := iv_ltR (i32_lt c_23) hx7_54 hx2_54 (by decide)
        refine lv_iload hx hb dX13_numberIn_60 (lv_at hl 2 rfl) ?_
        refine lv_if_eq (tgt := 123) hx hb dX13_numberIn_62 (by decide) (fun c_28 => ?_) (fun c_28 => ?_)
        · have h_29 : iv 0 0 x4_54 := iv_eq c_28 hx4_54 (iv_k (by decide) : iv 0 0 0) (by decide)
          exact hj123 x7_54 x5_54 x4_54 x3_54 x2_54 (iv_w h_26 (by decide)) (iv_w h_29 (by decide)) hx3_54 (iv_w h_27 (by decide)) hsx1_54 (h3) ((by rcases hN with q | q; (exact Or.inl ⟨q.1, q.2, (by have := h2; have q1 : x7_54.toNatClampNeg = x7_54.toInt.toNat := rfl; have := i32_0; have := i32_1; have := i32_2; have := i32_m1; have := (hsx1_54).1; have := (hsx1_54).2; have := (h_26).1; have := (h_26).2; have := (h_29).1; have := (h_29).2; have := (hx3_54).1; have := (hx3_54).2; have := (h_27).1; have := (h_27).2; have := q.1; omega)⟩); (exact Or.inr q))) _ _ _ hP hD hS (lv_sub hl [0, 1, 2, 3, 4, 5, 6] rfl)
        · have h_30 : iv 1 1 x4_54 := iv_neL c_28 hx4_54 (by decide)
          refine lv_aload_n hx hb dX13_numberIn_65 rfl (lv_at hl 5 rfl) ?_
          refine lv_iload_n hx hb dX13_numberIn_66 rfl (lv_at hl 6 rfl) ?_
          refine lv_iload hx hb dX13_numberIn_67 (lv_at hl 0 rfl) ?_
          refine mr_calli (rest := []) ⟨hx, hb, hml, hown, htb⟩ (f_sign9 l dC dI h0 ad cid sg gm lg x x7_54 rg T9 hI hsx1_54 h_26 hRW hT (by have := h2; have := i32_0; have := i32_1; have := i32_2; have := i32_m1; have := (hsx1_54).1; have := (hsx1_54).2; have := (h_26).1; have := (h_26).2; have := (h_30).1; have := (h_30).2; have := (hx3_54).1; have := (hx3_54).2; have := (h_27).1; have := (h_27).2; omega)) (cwV 2 htb (gd_V kw_1296 kw_1297 kw_136 kw_160 kw_1646) rfl rfl rfl (by decide +kernel) ⟨Nat.le_of_ble_eq_true rfl, Nat.le_of_ble_eq_true rfl⟩) rfl hl.1 rfl (Nat.le_of_ble_eq_true rfl) dX13_numberIn_69 ⟨Nat.zero_le _, Nat.zero_le _⟩ hK hP hD hS hA (fun r_31 u_32 H locs hw hP hD hS => ?_)
          obtain ⟨hr_31, fs_r_31, rfl⟩ := hw
          have hP : va_P (dC, dI) vwCl (mW h0 ad cid sg gm lg) H := hP
          have hD : va_D A (mW h0 ad cid sg gm lg) := hD
          refine lv_bipush (v := 48) hx hb dX13_numberIn_72 (by decide) ?_
          refine lv_icmp_lt (tgt := 93) hx hb dX13_numberIn_74 (by decide) (fun c_33 => ?_) (fun c_33 => ?_)
          · have h_34 : iv (-128) 47 r_31 := iv_ltL c_33 hr_31 (iv_k (by decide) : iv 48 48 48) (by decide)
            exact hj93 h_26 h_30 hx3_54 h_27 hsx1_54 ((by have := h2; have := i32_0; have := i32_1; have := i32_2; have := i32_m1; have := (hsx1_54).1; have := (hsx1_54).2; have := (h_26).1; have := (h_26).2; have := (h_30).1; have := (h_30).2; have := (hx3_54).1; have := (hx3_54).2; have := (h_27).1; have := (h_27).2; have := (h_34).1; have := (h_34).2; omega)) ((by have q1 := fs_r_31; have := i32_0; have := i32_1; have := i32_2; have := i32_m1; have := (hsx1_54).1; have := (hsx1_54).2; have := (h_26).1; have := (h_26).2; have := (h_30).1; have := (h_30).2; have := (hx3_54).1; have := (hx3_54).2; have := (h_27).1; have := (h_27).2; have := (h_34).1; have := (h_34).2; omega)) _ _ _ hP hD hS (lv_sub hl [0, 1, 2, 3, 4, 5, 6] rfl)
          · have h_35 : iv 48 127 r_31 := iv_leR (i32_ge c_33) (iv_k (by decide) : iv 48 48 48) hr_31 (by decide)
            refine lv_aload_n hx hb dX13_numberIn_77 rfl (lv_at hl 5 rfl) ?_
            refine lv_iload_n hx hb dX13_numberIn_78 rfl (lv_at hl 6 rfl) ?_
            refine lv_iload hx hb dX13_numberIn_79 (lv_at hl 0 rfl) ?_
            refine mr_calli (rest := []) ⟨hx, hb, hml, hown, htb⟩ (f_sign9 l dC dI h0 ad cid sg gm lg x x7_54 rg T9 hI hsx1_54 h_26 hRW hT (by have := h2; have := i32_0; have := i32_1; have := i32_2; have := i32_m1; have := (hsx1_54).1; have := (hsx1_54).2; have := (h_26).1; have := (h_26).2; have := (h_30).1; have := (h_30).2; have := (hx3_54).1; have := (hx3_54).2; have := (h_27).1; have := (h_27).2; have := (h_35).1; have := (h_35).2; omega)) (cwV 2 htb (gd_V kw_1296 kw_1297 kw_136 kw_160 kw_1646) rfl rfl rfl (by decide +kernel) ⟨Nat.le_of_ble_eq_true rfl, Nat.le_of_ble_eq_true rfl⟩) rfl hl.1 rfl (Nat.le_of_ble_eq_true rfl) dX13_numberIn_81 ⟨Nat.zero_le _, Nat.zero_le _⟩ hK hP hD hS hA (fun r_36 u_37 H locs hw hP hD hS => ?_)
            obtain ⟨hr_36, fs_r_36, rfl⟩ := hw
            have hP : va_P (dC, dI) vwCl (mW h0 ad cid sg gm lg) H := hP
            have hD : va_D A (mW h0 ad cid sg gm lg) := hD
            refine lv_bipush (v := 57) hx hb dX13_numberIn_84 (by decide) ?_
            refine lv_icmp_gt (tgt := 93) hx hb dX13_numberIn_86 (by decide) (fun c_38 => ?_) (fun c_38 => ?_)
            · have h_39 : iv 58 127 r_36 := iv_ltR c_38 (iv_k (by decide) : iv 57 57 57) hr_36 (by decide)
              exact hj93 h_26 h_30 hx3_54 h_27 hsx1_54 ((by have := h2; have := i32_0; have := i32_1; have := i32_2; have := i32_m1; have := (hsx1_54).1; have := (hsx1_54).2; have := (h_26).1; have := (h_26).2; have := (h_30).1; have := (h_30).2; have := (hx3_54).1; have := (hx3_54).2; have := (h_27).1; have := (h_27).2; have := (h_35).1; have := (h_35).2; have := (h_39).1; have := (h_39).2; omega)) ((by have q1 := fs_r_31; have q2 := fs_r_36; have := i32_0; have := i32_1; have := i32_2; have := i32_m1; have := (hsx1_54).1; have := (hsx1_54).2; have := (h_26).1; have := (h_26).2; have := (h_30).1; have := (h_30).2; have := (hx3_54).1; have := (hx3_54).2; have := (h_27).1; have := (h_27).2; have := (h_35).1; have := (h_35).2; have := (h_39).1; have := (h_39).2; omega)) _ _ _ hP hD hS (lv_sub hl [0, 1, 2, 3, 4, 5, 6] rfl)
            · have h_40 : iv (-128) 57 r_36 := iv_leL (i32_ge c_38) hr_36 (iv_k (by decide) : iv 57 57 57) (by decide)
              refine lv_iconst (v := 1) hx hb dX13_numberIn_89 (by decide) ?_
              refine lv_goto (tgt := 94) hx hb dX13_numberIn_90 (by decide) ?_
              exact hj94 1 h_26 h_30 hx3_54 h_27 hsx1_54 (iv_w (iv_k (by decide) : iv 1 1 1) (by decide)) ((by have := h2; have := i32_0; have := i32_1; have := i32_2; have := i32_m1; have := (hsx1_54).1; have := (hsx1_54).2; have := (h_26).1; have := (h_26).2; have := (h_30).1; have := (h_30).2; have := (hx3_54).1; have := (hx3_54).2; have := (h_27).1; have := (h_27).2; have := (h_35).1; have := (h_35).2; have := (h_40).1; have := (h_40).2; omega)) (Or.inl ⟨rfl, (by have q1 := fs_r_31; have q2 := fs_r_36; have := i32_0; have := i32_1; have := i32_2; have := i32_m1; have := (hsx1_54).1; have := (hsx1_54).2; have := (h_26).1; have := (h_26).2; have := (h_30).1; have := (h_30).2; have := (hx3_54).1; have := (hx3_54).2; have := (h_27).1; have := (h_27).2; have := (h_35).1; have := (h_35).2; have := (h_40).1; have := (h_40).2; omega), (by have q1 := fs_r_31; have q2 := fs_r_36; have := i32_0; have := i32_1; have := i32_2; have := i32_m1; have := (hsx1_54).1; have := (hsx1_54).2; have := (h_26).1; have := (h_26).2; have := (h_30).1; have := (h_30).2; have := (hx3_54).1; have := (hx3_54).2; have := (h_27).1; have := (h_27).2; have := (h_35).1; have := (h_35).2; have := (h_40).1; have := (h_40).2; omega)⟩) _ _ _ hP hD hS (lv_sub hl [0, 1, 2, 3, 4, 5, 6] rfl)
  have hj46 : ∀ (x3_46 : Int32) (x2_46 : Int32) (y0_46 : Int32) (_ : iv 0 1 x3_46) (_ : iv 0 24 x2_46) (_ : iv 0 1079 x) (_ : iv 0 1 y0_46) (_ : x2_46.toInt = (T9.length : Int)) (_ : x3_46.toInt = (fr9 T9 : Int)) (_ : ((y0_46 : Int32).toInt = 1 ∧ T9.length - fr9 T9 ≤ 10 ∧ 0 < T9.length - fr9 T9) ∨ ((y0_46 : Int32).toInt = 0 ∧ nuL T9 = none)) (H : Heap) (locs : List Loc) (ls : Array Slot), va_P (dC, dI) vwCl (mW h0 ad cid sg gm lg) H → va_D A (mW h0 ad cid sg gm lg) → va_S A s.heap H locs → lv_has ls 8 [(3, .int x3_46), (2, .int x2_46), (0, .ref h0), (1, .int x)] → W p l e (headSpec wm_X13_numberIn ({ frames := 1, cells := 0, slots := 0, locals := 22 })).room s m ([.ref h0, .int x] : List Value).toArray below meth c H locs 0 0 (MQ below (va_Ql (fun r v => (r.toInt = (nuL T9).getD (-9000000000000000000)) ∧ v = (sg, gm, lg)) (MB dC dI h0 ad cid A) A) ([.ref h0, .int x] : List Value).toArray s 0 0 A) (F0 m 46 ls [.int y0_46]) := by
    intro x3_46 x2_46 y0_46 hx3_46 hx2_46 hsx1_46 hy0_46 h2 h3 h46 H locs ls hP hD hS hl
    refine lv_istore (lv' := [(4, .int y0_46), (3, .int x3_46), (2, .int x2_46), (0, .ref h0), (1, .int x)]) hx hb dX13_numberIn_46 hl (by decide) rfl (fun ls hl => ?_)
    refine lv_lconst (v := 0) hx hb dX13_numberIn_48 (by decide) ?_
    refine lv_lstore (lv' := [(5, .long 0), (4, .int y0_46), (3, .int x3_46), (2, .int x2_46), (0, .ref h0), (1, .int x)]) hx hb dX13_numberIn_49 hl (by decide) rfl (fun ls hl => ?_)
    refine lv_iload_n hx hb dX13_numberIn_51 rfl (lv_at hl 2 rfl) ?_
    refine lv_istore (lv' := [(7, .int x3_46), (5, .long 0), (4, .int y0_46), (3, .int x3_46), (2, .int x2_46), (0, .ref h0), (1, .int x)]) hx hb dX13_numberIn_52 hl (by decide) rfl (fun ls hl => ?_)
    exact hj54 _ x3_46 0 y0_46 x3_46 x2_46 rfl (iv_w hx3_46 (by decide)) hy0_46 hx3_46 hx2_46 hsx1_46 (h2) (h3) (h46.imp (fun q => ⟨q.1, (by rw [show x3_46.toNatClampNeg = fr9 T9 from (by have := h3; have q1 : x3_46.toNatClampNeg = x3_46.toInt.toNat := rfl; have := i32_0; have := i32_1; have := i32_2; have := i32_m1; have := (hsx1_46).1; have := (hsx1_46).2; have := (hx3_46).1; have := (hx3_46).2; have := (hx2_46).1; have := (hx2_46).2; have := (hy0_46).1; have := (hy0_46).2; omega)]; exact DG_0 q.2.1 q.2.2)⟩) (fun q => q)) _ _ _ hP hD hS (lv_sub hl [0, 1, 2, 3, 4, 5, 6] rfl)
  have hj45 : ∀ (x3_45 : Int32) (x2_45 : Int32) (_ : iv 0 1 x3_45) (_ : iv 0 24 x2_45) (_ : iv 0 1079 x) (_ : x2_45.toInt = (T9.length : Int)) (_ : x3_45.toInt = (fr9 T9 : Int)) (_ : nuL T9 = none) (H : Heap) (locs : List Loc) (ls : Array Slot), va_P (dC, dI) vwCl (mW h0 ad cid sg gm lg) H → va_D A (mW h0 ad cid sg gm lg) → va_S A s.heap H locs → lv_has ls 8 [(3, .int x3_45), (2, .int x2_45), (0, .ref h0), (1, .int x)] → W p l e (headSpec wm_X13_numberIn ({ frames := 1, cells := 0, slots := 0, locals := 22 })).room s m ([.ref h0, .int x] : List Value).toArray below meth c H locs 0 0 (MQ below (va_Ql (fun r v => (r.toInt = (nuL T9).getD (-9000000000000000000)) ∧ v = (sg, gm, lg)) (MB dC dI h0 ad cid A) A) ([.ref h0, .int x] : List Value).toArray s 0 0 A) (F0 m 45 ls []) := by
    intro x3_45 x2_45 hx3_45 hx2_45 hsx1_45 h2 h3 u45 H locs ls hP hD hS hl
    refine lv_iconst (v := 0) hx hb dX13_numberIn_45 (by decide) ?_
    exact hj46 x3_45 x2_45 0 hx3_45 hx2_45 hsx1_45 (iv_w (iv_k (by decide) : iv 0 0 0) (by decide)) (h2) (h3) (Or.inr ⟨rfl, u45⟩) _ _ _ hP hD hS (lv_sub hl [0, 1, 2, 3] rfl)
  have hj26 : ∀ (x2_26 : Int32) (y0_26 : Int32) (_ : iv 0 24 x2_26) (_ : iv 0 1079 x) (_ : iv 0 1 y0_26) (_ : x2_26.toInt = (T9.length : Int)) (_ : (y0_26 : Int32).toInt = (fr9 T9 : Int)) (H : Heap) (locs : List Loc) (ls : Array Slot), va_P (dC, dI) vwCl (mW h0 ad cid sg gm lg) H → va_D A (mW h0 ad cid sg gm lg) → va_S A s.heap H locs → lv_has ls 8 [(2, .int x2_26), (0, .ref h0), (1, .int x)] → W p l e (headSpec wm_X13_numberIn ({ frames := 1, cells := 0, slots := 0, locals := 22 })).room s m ([.ref h0, .int x] : List Value).toArray below meth c H locs 0 0 (MQ below (va_Ql (fun r v => (r.toInt = (nuL T9).getD (-9000000000000000000)) ∧ v = (sg, gm, lg)) (MB dC dI h0 ad cid A) A) ([.ref h0, .int x] : List Value).toArray s 0 0 A) (F0 m 26 ls [.int y0_26]) := by
    intro x2_26 y0_26 hx2_26 hsx1_26 hy0_26 h2 h26 H locs ls hP hD hS hl
    refine lv_istore_n (lv' := [(3, .int y0_26), (2, .int x2_26), (0, .ref h0), (1, .int x)]) hx hb dX13_numberIn_26 rfl hl (by decide) rfl (fun ls hl => ?_)
    refine lv_iload_n hx hb dX13_numberIn_27 rfl (lv_at hl 1 rfl) ?_
    refine lv_iload_n hx hb dX13_numberIn_28 rfl (lv_at hl 0 rfl) ?_
    refine lv_isub hx hb dX13_numberIn_29 ?_
    refine lv_topi (fun z_41 ez_41 => ?_)
    have hz_41 : iv (-1) 24 z_41 := iv_of ez_41 (iv_sub hx2_26 hy0_26 (by decide))
    have tz_41 : z_41.toInt = (x2_26 : Int32).toInt - (y0_26 : Int32).toInt := by rw [ez_41]; exact iv_subE hx2_26 hy0_26 (by decide)
    refine lv_if_le (tgt := 45) hx hb dX13_numberIn_30 (by decide) (fun c_42 => ?_) (fun c_42 => ?_)
    · have h_43 : iv (-1) 0 z_41 := iv_leL c_42 hz_41 (iv_k (by decide) : iv 0 0 0) (by decide)
      exact hj45 y0_26 x2_26 hy0_26 hx2_26 hsx1_26 (h2) (h26) (nuL_len (by have := h2; have := h26; have := i32_0; have := i32_1; have := i32_2; have := i32_m1; have := (hsx1_26).1; have := (hsx1_26).2; have := (hx2_26).1; have := (hx2_26).2; have := (hy0_26).1; have := (hy0_26).2; have := (h_43).1; have := (h_43).2; omega)) _ _ _ hP hD hS (lv_sub hl [0, 1, 2, 3] rfl)
    · have h_44 : iv 1 24 z_41 := iv_ltR (i32_lt c_42) (iv_k (by decide) : iv 0 0 0) hz_41 (by decide)
      refine lv_iload_n hx hb dX13_numberIn_33 rfl (lv_at hl 1 rfl) ?_
      refine lv_iload_n hx hb dX13_numberIn_34 rfl (lv_at hl 0 rfl) ?_
      refine lv_isub hx hb dX13_numberIn_35 ?_
      refine lv_topi (fun z_45 ez_45 => ?_)
      obtain rfl : z_41 = z_45 := ez_41.trans ez_45.symm
      refine lv_bipush (v := 11) hx hb dX13_numberIn_36 (by decide) ?_
      refine lv_icmp_ge (tgt := 45) hx hb dX13_numberIn_38 (by decide) (fun c_46 => ?_) (fun c_46 => ?_)
      · have h_47 : iv 11 24 z_41 := iv_leR c_46 (iv_k (by decide) : iv 11 11 11) h_44 (by decide)
        exact hj45 y0_26 x2_26 hy0_26 hx2_26 hsx1_26 (h2) (h26) (nuL_len (by have := h2; have := h26; have := i32_0; have := i32_1; have := i32_2; have := i32_m1; have := (hsx1_26).1; have := (hsx1_26).2; have := (hx2_26).1; have := (hx2_26).2; have := (hy0_26).1; have := (hy0_26).2; have := (h_47).1; have := (h_47).2; omega)) _ _ _ hP hD hS (lv_sub hl [0, 1, 2, 3] rfl)
      · have h_48 : iv 1 10 z_41 := iv_ltL (i32_lt c_46) h_44 (iv_k (by decide) : iv 11 11 11) (by decide)
        refine lv_iconst (v := 1) hx hb dX13_numberIn_41 (by decide) ?_
        refine lv_goto (tgt := 46) hx hb dX13_numberIn_42 (by decide) ?_
        exact hj46 y0_26 x2_26 1 hy0_26 hx2_26 hsx1_26 (iv_w (iv_k (by decide) : iv 1 1 1) (by decide)) (h2) (h26) (Or.inl ⟨rfl, (by have := h2; have := h26; have := i32_0; have := i32_1; have := i32_2; have := i32_m1; have := (hsx1_26).1; have := (hsx1_26).2; have := (hx2_26).1; have := (hx2_26).2; have := (hy0_26).1; have := (hy0_26).2; have := (h_48).1; have := (h_48).2; omega), (by have := h2; have := h26; have := i32_0; have := i32_1; have := i32_2; have := i32_m1; have := (hsx1_26).1; have := (hsx1_26).2; have := (hx2_26).1; have := (hx2_26).2; have := (hy0_26).1; have := (hy0_26).2; have := (h_48).1; have := (h_48).2; omega)⟩) _ _ _ hP hD hS (lv_sub hl [0, 1, 2, 3] rfl)
  have hj25 : ∀ (x2_25 : Int32) (_ : iv 0 24 x2_25) (_ : iv 0 1079 x) (_ : x2_25.toInt = (T9.length : Int)) (_ : fr9 T9 = 0) (H : Heap) (locs : List Loc) (ls : Array Slot), va_P (dC, dI) vwCl (mW h0 ad cid sg gm lg) H → va_D A (mW h0 ad cid sg gm lg) → va_S A s.heap H locs → lv_has ls 8 [(2, .int x2_25), (0, .ref h0), (1, .int x)] → W p l e (headSpec wm_X13_numberIn ({ frames := 1, cells := 0, slots := 0, locals := 22 })).room s m ([.ref h0, .int x] : List Value).toArray below meth c H locs 0 0 (MQ below (va_Ql (fun r v => (r.toInt = (nuL T9).getD (-9000000000000000000)) ∧ v = (sg, gm, lg)) (MB dC dI h0 ad cid A) A) ([.ref h0, .int x] : List Value).toArray s 0 0 A) (F0 m 25 ls []) := by
    intro x2_25 hx2_25 hsx1_25 h2 u25 H locs ls hP hD hS hl
    refine lv_iconst (v := 0) hx hb dX13_numberIn_25 (by decide) ?_
    exact hj26 x2_25 0 hx2_25 hsx1_25 (iv_w (iv_k (by decide) : iv 0 0 0) (by decide)) (h2) ((by rw [u25]; rfl)) _ _ _ hP hD hS (lv_sub hl [0, 1, 2] rfl)
  refine lv_aload_n hx hb dX13_numberIn_0 rfl (lv_at hl 0 rfl) ?_
  refine lv_iload_n hx hb dX13_numberIn_1 rfl (lv_at hl 1 rfl) ?_
  refine mr_calli (rest := []) ⟨hx, hb, hml, hown, htb⟩ (f_length9 l dC dI h0 ad cid sg gm lg x rg T9 hI hvx hRW hT) (cwV 1 htb (gd_V kw_1294 kw_1295 kw_135 kw_160 kw_1645) rfl rfl rfl (by decide +kernel) ⟨Nat.le_of_ble_eq_true rfl, Nat.le_of_ble_eq_true rfl⟩) rfl hl.1 rfl (Nat.le_of_ble_eq_true rfl) dX13_numberIn_2 ⟨Nat.zero_le _, Nat.zero_le _⟩ hK hP hD hS hA (fun r_49 u_50 H locs hw hP hD hS => ?_)
  obtain ⟨hr_49, fl_r_49, rfl⟩ := hw
  have hP : va_P (dC, dI) vwCl (mW h0 ad cid sg gm lg) H := hP
  have hD : va_D A (mW h0 ad cid sg gm lg) := hD
  refine lv_istore_n (lv' := [(2, .int r_49), (0, .ref h0), (1, .int x)]) hx hb dX13_numberIn_5 rfl hl (by decide) rfl (fun ls hl => ?_)
  refine lv_iload_n hx hb dX13_numberIn_6 rfl (lv_at hl 0 rfl) ?_
  refine lv_if_le (tgt := 25) hx hb dX13_numberIn_7 (by decide) (fun c_51 => ?_) (fun c_51 => ?_)
  · have h_52 : iv 0 0 r_49 := iv_leL c_51 hr_49 (iv_k (by decide) : iv 0 0 0) (by decide)
    exact hj25 r_49 (iv_w h_52 (by decide)) hvx (fl_r_49) ((by unfold fr9; rw [if_neg (by rw [ng_n (fun q => absurd q.2 (by have := fl_r_49; have := i32_0; have := i32_1; have := i32_2; have := i32_m1; have := (hvx).1; have := (hvx).2; have := (h_52).1; have := (h_52).2; omega))]; decide)])) _ _ _ hP hD hS (lv_sub hl [0, 1, 2] rfl)
  · have h_53 : iv 1 24 r_49 := iv_ltR (i32_lt c_51) (iv_k (by decide) : iv 0 0 0) hr_49 (by decide)
    refine lv_aload_n hx hb dX13_numberIn_10 rfl (lv_at hl 1 rfl) ?_
    refine lv_iload_n hx hb dX13_numberIn_11 rfl (lv_at hl 2 rfl) ?_
    refine lv_iconst (v := 0) hx hb dX13_numberIn_12 (by decide) ?_
    refine mr_calli (rest := []) ⟨hx, hb, hml, hown, htb⟩ (f_sign9 l dC dI h0 ad cid sg gm lg x 0 rg T9 hI hvx (iv_w (iv_k (by decide) : iv 0 0 0) (by decide)) hRW hT (show (0 : Int32).toInt < (T9.length : Int) from (by have := fl_r_49; have := i32_0; have := i32_1; have := i32_2; have := i32_m1; have := (hvx).1; have := (hvx).2; have := (h_53).1; have := (h_53).2; omega))) (cwV 2 htb (gd_V kw_1296 kw_1297 kw_136 kw_160 kw_1646) rfl rfl rfl (by decide +kernel) ⟨Nat.le_of_ble_eq_true rfl, Nat.le_of_ble_eq_true rfl⟩) rfl hl.1 rfl (Nat.le_of_ble_eq_true rfl) dX13_numberIn_13 ⟨Nat.zero_le _, Nat.zero_le _⟩ hK hP hD hS hA (fun r_54 u_55 H locs hw hP hD hS => ?_)
    obtain ⟨hr_54, fs_r_54, rfl⟩ := hw
    have hP : va_P (dC, dI) vwCl (mW h0 ad cid sg gm lg) H := hP
    have hD : va_D A (mW h0 ad cid sg gm lg) := hD
    refine lv_bipush (v := 45) hx hb dX13_numberIn_16 (by decide) ?_
    refine lv_icmp_ne (tgt := 25) hx hb dX13_numberIn_18 (by decide) (fun c_56 => ?_) (fun c_56 => ?_)
    · have d_57 : ¬ (r_54 : Int32).toInt = 45 := lv_neT c_56 rfl
      exact hj25 r_49 (iv_w h_53 (by decide)) hvx (fl_r_49) ((by unfold fr9; rw [if_neg (by rw [ng_n (fun q => absurd (show r_54.toInt = 45 from (by have q9 := fs_r_54; rw [q9]; exact q.1)) (by have := i32_0; have := i32_1; have := i32_2; have := i32_m1; have := (hvx).1; have := (hvx).2; have := (h_53).1; have := (h_53).2; have := (hr_54).1; have := (hr_54).2; omega))]; decide)])) _ _ _ hP hD hS (lv_sub hl [0, 1, 2] rfl)
    · have h_58 : iv 45 45 r_54 := iv_eq c_56 hr_54 (iv_k (by decide) : iv 45 45 45) (by decide)
      refine lv_iconst (v := 1) hx hb dX13_numberIn_21 (by decide) ?_
      refine lv_goto (tgt := 26) hx hb dX13_numberIn_22 (by decide) ?_
      exact hj26 r_49 1 (iv_w h_53 (by decide)) hvx (iv_w (iv_k (by decide) : iv 1 1 1) (by decide)) (fl_r_49) ((by unfold fr9; rw [if_pos (ng_y (by have q9 := fs_r_54; have q8 : (0 : Int32).toNatClampNeg = 0 := rfl; rw [q8] at q9; rw [← q9]; have := i32_0; have := i32_1; have := i32_2; have := i32_m1; have := (hvx).1; have := (hvx).2; have := (h_53).1; have := (h_53).2; have := (h_58).1; have := (h_58).2; omega) (by have := fl_r_49; have := i32_0; have := i32_1; have := i32_2; have := i32_m1; have := (hvx).1; have := (hvx).2; have := (h_53).1; have := (h_53).2; have := (h_58).1; have := (h_58).2; omega))]; rfl)) _ _ _ hP hD hS (lv_sub hl [0, 1, 2] rfl)
end
section
section WE9
variable {wg rg : Nat → Nat → Int32} {wl : Nat → Nat → Int64} {ob : List Ob9} {c : Nat} {V : List Int} {kd v : Int32} {t : Int}
theorem VR_2 (h : VR9 wg wl rg ob c V kd v) (hk : kd.toInt = 2) : (wg 25 c).toInt = 9 := by
  rcases h with q | q | q | q
  · omega
  · exact q.1
  · omega
  · omega
theorem VR_3 (h : VR9 wg wl rg ob c V kd v) (hk : kd.toInt = 3) : (wg 25 c).toInt = 6 ∧ v.toInt = (wg 18 c).toInt := by
  rcases h with q | q | q | q
  · omega
  · omega
  · exact ⟨q.1, q.2.2⟩
  · omega
theorem VR_1 (h : VR9 wg wl rg ob c V kd v) (hk : kd.toInt = 1) : (¬ (wg 25 c).toInt = 6 ∧ ¬ (wg 25 c).toInt = 7 ∧ ¬ (wg 25 c).toInt = 9) ∧ V = [v.toInt] ∧ 0 ≤ v.toInt ∧ v.toInt < (ob.length : Int) := by
  rcases h with q | q | q | q
  · omega
  · omega
  · omega
  · exact ⟨by omega, q.2.2⟩
theorem VR_0 (h : VR9 wg wl rg ob c V kd v) (hk : kd.toInt = 0) : (wg 25 c).toInt = 7 ∧ ∃ T, SRq rg v T ∧ TXT9 wg wl c T := by
  rcases h with q | q | q | q
  · exact ⟨q.1, q.2.2⟩
  · omega
  · omega
  · omega
theorem nuL_r {T : List Int} : nuL T = none ∨ ∃ n, nuL T = some n ∧ -2147483648 ≤ n ∧ n ≤ 2147483647 := by
  unfold nuL
  generalize (if ng9 T = true then T.drop 1 else T) = D
  by_cases h : D.length = 0 ∨ 10 < D.length
  · rw [if_pos h]; exact Or.inl rfl
  · rw [if_neg h]
    cases dgF D 0 with
    | none => exact Or.inl rfl
    | some v =>
      simp only []
      generalize (if ng9 T = true then -v else v) = s
      by_cases h : -2147483648 ≤ s ∧ s ≤ 2147483647
      · rw [if_pos h]; exact Or.inr ⟨_, rfl, h.1, h.2⟩
      · rw [if_neg h]; exact Or.inl rfl
theorem wT_0 {T : List Int} (h : TXT9 wg wl c T) {n : Int} (hn : n = (nuL T).getD (-9000000000000000000)) : wTx wg wl c 0 = if n = -9000000000000000000 then -1 else 1 := by
  unfold wTx
  rw [if_pos rfl, h.2.1, hn]
  rcases nuL_r (T := T) with q | ⟨m, q, h1, h2⟩
  · rw [q]; rfl
  · rw [q]; show (if m = 1099511627776 then (-1 : Int) else 1) = if m = -9000000000000000000 then -1 else 1
    rw [if_neg (by omega), if_neg (by omega)]
theorem wT_1 {T : List Int} (h : TXT9 wg wl c T) : wTx wg wl c 1 = if trL T = -1 then -1 else 1 := by
  unfold wTx; rw [if_neg (by decide), if_pos rfl, h.2.2.1]
theorem wT_2 {T : List Int} (h : TXT9 wg wl c T) : wTx wg wl c 2 = if (T.length : Int) = 1 then 2 else -1 := by
  unfold wTx; rw [if_neg (by decide), if_neg (by decide), if_pos rfl, h.1]
theorem wT_3 : wTx wg wl c 3 = 3 := rfl
theorem wT_o (h : ¬ (t = 0 ∨ t = 1 ∨ t = 2 ∨ t = 3)) : wTx wg wl c t = -1 := by
  unfold wTx; rw [if_neg (by omega), if_neg (by omega), if_neg (by omega), if_neg (by omega)]
theorem vT_1 {T : List Int} (h : TXT9 wg wl c T) : vTx wg wl c 1 = trL T := by unfold vTx; rw [if_neg (by decide), if_pos rfl, h.2.2.1]
theorem vT_2 {T : List Int} (h : TXT9 wg wl c T) (hl : T.length = 1) : vTx wg wl c 2 = (T[0]?).getD 0 := by
  unfold vTx; rw [if_neg (by decide), if_neg (by decide), if_pos rfl]
  match T, hl with
  | [x], _ => exact h.2.2.2 x rfl
theorem vT_o {T : List Int} (h : TXT9 wg wl c T) (ht : ¬ (t = 0 ∨ t = 1 ∨ t = 2)) : vTx wg wl c t = 1000 + (T.length : Int) := by
  unfold vTx; rw [if_neg (by omega), if_neg (by omega), if_neg (by omega), h.1]
end WE9
end
section
theorem is_e {T : List Int} {k : Nat} {v : Int} (h : fdI T 0 = fdI (T.drop k) v) (h0 : 0 ≤ v) (hk : T.length ≤ k) : v = fdI T 0 := by
  rw [List.drop_eq_nil_of_le hk] at h; exact h.symm

set_option maxHeartbeats 4000000 in
set_option maxRecDepth 100000 in
theorem f_is9 (l : Launch) (dC : Nat → ClassId) (dI : Nat → Nat → Nat) (h0 : Nat) (ad : Nat → Nat) (cid : Nat → ClassId) (sg : Nat → Int32) (gm : Nat → Nat → Int32) (lg : Nat → Nat → Int64) (x : Int32) (w : Int32) (rg : Nat → Nat → Int32) (T9 : List Int) (hI : MI sg gm) (hvx : iv 0 1079 x) (hvw : iv 0 10 w) (hRW : rt9 gm = rg) (hT : SRq rg x T9) (hw0 : ¬ (lg 1 w.toNatClampNeg).toInt = 0) : MMi l dC dI yX13_is wm_X13_is ({ frames := 1, cells := 0, slots := 0, locals := 22 }) h0 ad cid [.int x, .int w] sg gm lg (fun r v => (iv 0 1 r) ∧ ((r.toInt = 1 ∧ isq T9 (lg 1 w.toNatClampNeg).toInt) ∨ (r.toInt = 0 ∧ ¬ (isq T9 (lg 1 w.toNatClampNeg).toInt))) ∧ v = (sg, gm, lg)) := by
  intro sz
  refine Met.ofW (cc := cX13_is) (maxL := 7) (ret := (some .boolean)) (by decide) rfl ?_
  intro p e s m args below meth c s₁ B hml hv
  obtain ⟨rfl, hsz, hP, hK, hD0⟩ := hv
  have hx := B.exec
  have hb := B.bytes
  have hr := B.returns
  have hts := atoms_spec (ws := wm_X13_is) B.pre
  have htb := fun (w : Cond) (h : w ∈ tb) => hts w (List.mem_cons_of_mem _ h)
  have hown : s.vm.findClass RX13 = some m.cls := findClass_of_methodNamed B.named
  have hlocks := B.notSynchronized
  subst hsz
  have hD := hD0.self (sz := s.heap.size)
  generalize hAe : va_A (mW h0 ad cid sg gm lg) s.heap.size = A at hD ⊢
  have hA : ∀ q : Nat, s.heap.size ≤ q → A q := fun q h => by rw [← hAe]; exact Or.inr h
  have hS : va_S A s.heap s.heap [] := va_S.rf
  have hl := lv_entry ([.ref h0, .int x, .int w]) (n := 7) (Nat.le_of_ble_eq_true rfl)
  rw [lg_entry_eq]
  generalize (lg_sl ([.ref h0, .int x, .int w]) ++ List.replicate (7 - (lg_sl ([.ref h0, .int x, .int w])).length) Slot.unset).toArray = ls at hl ⊢
  have hl : lv_has ls 7 [(0, .ref h0), (1, .int x), (2, .int w)] := hl
  have hj67 : ∀ (x6_67 : Int32) (x4_67 : Int64) (x3_67 : Int32) (y0_67 : Int32) (_ : iv 0 24 x6_67) (_ : iv 0 24 x3_67) (_ : iv 0 1079 x) (_ : iv 0 10 w) (_ : iv 0 1 y0_67) (_ : (y0_67.toInt = 1 ∧ isq T9 (lg 1 w.toNatClampNeg).toInt) ∨ (y0_67.toInt = 0 ∧ ¬ (isq T9 (lg 1 w.toNatClampNeg).toInt))) (H : Heap) (locs : List Loc) (ls : Array Slot), va_P (dC, dI) vwCl (mW h0 ad cid sg gm lg) H → va_D A (mW h0 ad cid sg gm lg) → va_S A s.heap H locs → lv_has ls 7 [(6, .int x6_67), (4, .long x4_67), (3, .int x3_67), (0, .ref h0), (1, .int x), (2, .int w)] → W p l e (headSpec wm_X13_is ({ frames := 1, cells := 0, slots := 0, locals := 22 })).room s m ([.ref h0, .int x, .int w] : List Value).toArray below meth c H locs 0 0 (MQ below (va_Qi (fun r v => (iv 0 1 r) ∧ ((r.toInt = 1 ∧ isq T9 (lg 1 w.toNatClampNeg).toInt) ∨ (r.toInt = 0 ∧ ¬ (isq T9 (lg 1 w.toNatClampNeg).toInt))) ∧ v = (sg, gm, lg)) (MB dC dI h0 ad cid A) A) ([.ref h0, .int x, .int w] : List Value).toArray s 0 0 A) (F0 m 67 ls [.int y0_67]) := by
    intro x6_67 x4_67 x3_67 y0_67 hx6_67 hx3_67 hsx1_67 hsx2_67 hy0_67 u67 H locs ls hP hD hS hl
    exact W.zret (v := y0_67) hx hb hr (iv_nb hy0_67) (fun t ht hW => ⟨⟨y0_67, (sg, gm, lg), rfl, ⟨hy0_67, (u67), rfl⟩, by rw [ht]; exact hP, va_K.moved hW.alike hK, hD⟩, hS.F ht⟩) hS.2.2 dX13_is_67
  have hj66 : ∀ (x6_66 : Int32) (x4_66 : Int64) (x3_66 : Int32) (_ : iv 0 24 x6_66) (_ : iv 0 24 x3_66) (_ : iv 0 1079 x) (_ : iv 0 10 w) (_ : ¬ (isq T9 (lg 1 w.toNatClampNeg).toInt)) (H : Heap) (locs : List Loc) (ls : Array Slot), va_P (dC, dI) vwCl (mW h0 ad cid sg gm lg) H → va_D A (mW h0 ad cid sg gm lg) → va_S A s.heap H locs → lv_has ls 7 [(6, .int x6_66), (4, .long x4_66), (3, .int x3_66), (0, .ref h0), (1, .int x), (2, .int w)] → W p l e (headSpec wm_X13_is ({ frames := 1, cells := 0, slots := 0, locals := 22 })).room s m ([.ref h0, .int x, .int w] : List Value).toArray below meth c H locs 0 0 (MQ below (va_Qi (fun r v => (iv 0 1 r) ∧ ((r.toInt = 1 ∧ isq T9 (lg 1 w.toNatClampNeg).toInt) ∨ (r.toInt = 0 ∧ ¬ (isq T9 (lg 1 w.toNatClampNeg).toInt))) ∧ v = (sg, gm, lg)) (MB dC dI h0 ad cid A) A) ([.ref h0, .int x, .int w] : List Value).toArray s 0 0 A) (F0 m 66 ls []) := by
    intro x6_66 x4_66 x3_66 hx6_66 hx3_66 hsx1_66 hsx2_66 u66 H locs ls hP hD hS hl
    refine lv_iconst (v := 0) hx hb dX13_is_66 (by decide) ?_
    exact hj67 x6_66 x4_66 x3_66 0 hx6_66 hx3_66 hsx1_66 hsx2_66 (iv_w (iv_k (by decide) : iv 0 0 0) (by decide)) (Or.inr ⟨rfl, u66⟩) _ _ _ hP hD hS (lv_sub hl [0, 1, 2, 3, 4, 5] rfl)
  have hj46 : ∀ (x6_46 : Int32) (x4_46 : Int64) (x3_46 : Int32) (_ : iv 0 24 x6_46) (_ : iv 0 24 x3_46) (_ : iv 0 1079 x) (_ : iv 0 10 w) (_ : x3_46.toInt = (T9.length : Int)) (_ : T9.length < 8 → x4_46.toInt = fdI T9 0) (_ : 8 ≤ T9.length → x4_46.toInt = 0) (H : Heap) (locs : List Loc) (ls : Array Slot), va_P (dC, dI) vwCl (mW h0 ad cid sg gm lg) H → va_D A (mW h0 ad cid sg gm lg) → va_S A s.heap H locs → lv_has ls 7 [(6, .int x6_46), (4, .long x4_46), (3, .int x3_46), (0, .ref h0), (1, .int x), (2, .int w)] → W p l e (headSpec wm_X13_is ({ frames := 1, cells := 0, slots := 0, locals := 22 })).room s m ([.ref h0, .int x, .int w] : List Value).toArray below meth c H locs 0 0 (MQ below (va_Qi (fun r v => (iv 0 1 r) ∧ ((r.toInt = 1 ∧ isq T9 (lg 1 w.toNatClampNeg).toInt) ∨ (r.toInt = 0 ∧ ¬ (isq T9 (lg 1 w.toNatClampNeg).toInt))) ∧ v = (sg, gm, lg)) (MB dC dI h0 ad cid A) A) ([.ref h0, .int x, .int w] : List Value).toArray s 0 0 A) (F0 m 46 ls []) := by
    intro x6_46 x4_46 x3_46 hx6_46 hx3_46 hsx1_46 hsx2_46 h2 hv46 hv8 H locs ls hP hD hS hl
    refine lv_iload_n hx hb dX13_is_46 rfl (lv_at hl 2 rfl) ?_
    refine lv_if_le (tgt := 66) hx hb dX13_is_47 (by decide) (fun c_1 => ?_) (fun c_1 => ?_)
    · have h_2 : iv 0 0 x3_46 := iv_leL c_1 hx3_46 (iv_k (by decide) : iv 0 0 0) (by decide)
      exact hj66 x6_46 x4_46 x3_46 hx6_46 (iv_w h_2 (by decide)) hsx1_46 hsx2_46 ((fun q => absurd q.1 (by have := h2; have := i32_0; have := i32_1; have := i32_2; have := i32_m1; have := (hsx1_46).1; have := (hsx1_46).2; have := (hsx2_46).1; have := (hsx2_46).2; have := (hx6_46).1; have := (hx6_46).2; have := (h_2).1; have := (h_2).2; omega))) _ _ _ hP hD hS (lv_sub hl [0, 1, 2, 3, 4, 5] rfl)
    · have h_3 : iv 1 24 x3_46 := iv_ltR (i32_lt c_1) (iv_k (by decide) : iv 0 0 0) hx3_46 (by decide)
      refine lv_lload hx hb dX13_is_50 (lv_at hl 1 rfl) ?_
      refine lv_aload_n hx hb dX13_is_52 rfl (lv_at hl 3 rfl) ?_
      refine mr_get (v := .ref (ad 1)) hx hb htb inX13 hown hK hP 1 (by decide) (htb _ kw_1028) rfl dX13_is_53 ?_
      refine lv_iload_n hx hb dX13_is_56 rfl (lv_at hl 5 rfl) ?_
      refine mr_lald hx hb hK hP 1 (k := 1) rfl rfl rfl (show vp_in w 11 from (iv_in hsx2_46 (by decide))) dX13_is_57 ?_
      refine lv_topl (fun z_4 ez_4 => ?_)
      refine W.lcmp hx hb dX13_is_58 ?_
      refine lv_topi (fun z_5 ez_5 => ?_)
      have hz_5 : iv (-1) 1 z_5 := iv_of ez_5 (iv_cmp _ _)
      refine lv_if_ne (tgt := 66) hx hb dX13_is_59 (by decide) (fun c_6 => ?_) (fun c_6 => ?_)
      · have d_7 : ¬ (z_5 : Int32).toInt = 0 := lv_neT c_6 rfl
        exact hj66 x6_46 x4_46 x3_46 hx6_46 (iv_w h_3 (by decide)) hsx1_46 hsx2_46 ((fun q => c_6 (by rw [ez_5]; exact (lg_cmp_eq _ _).mpr (Int64.toInt_inj.mp (by rw [ez_4]; exact (hv46 q.2.1).trans q.2.2))))) _ _ _ hP hD hS (lv_sub hl [0, 1, 2, 3, 4, 5] rfl)
      · have h_8 : iv 0 0 z_5 := iv_eq c_6 hz_5 (iv_k (by decide) : iv 0 0 0) (by decide)
        refine lv_iconst (v := 1) hx hb dX13_is_62 (by decide) ?_
        refine lv_goto (tgt := 67) hx hb dX13_is_63 (by decide) ?_
        exact hj67 x6_46 x4_46 x3_46 1 hx6_46 (iv_w h_3 (by decide)) hsx1_46 hsx2_46 (iv_w (iv_k (by decide) : iv 1 1 1) (by decide)) ((by have q7 : x4_46.toInt = (lg 1 w.toNatClampNeg).toInt := (by have q8 := (lg_cmp_eq _ _).mp (show lg_cmp x4_46 z_4 = 0 from (by rw [← ez_5]; exact c_6)); rw [q8, ez_4]); have h8 : T9.length < 8 := (by by_cases q : T9.length < 8; exact q; exact absurd ((hv8 (by omega)).symm.trans q7).symm hw0); exact Or.inl ⟨rfl, (by have := h2; have := i32_0; have := i32_1; have := i32_2; have := i32_m1; have := (hsx1_46).1; have := (hsx1_46).2; have := (hsx2_46).1; have := (hsx2_46).2; have := (hx6_46).1; have := (hx6_46).2; have := (h_3).1; have := (h_3).2; have := (h_8).1; have := (h_8).2; omega), h8, (hv46 h8).symm.trans q7⟩)) _ _ _ hP hD hS (lv_sub hl [0, 1, 2, 3, 4, 5] rfl)
  have hj12 : ∀ (n : Nat) (x6_12 : Int32) (x4_12 : Int64) (x3_12 : Int32) (_ : (24 - x6_12.toInt).toNat = n) (_ : iv 0 24 x6_12) (_ : iv 0 24 x3_12) (_ : iv 0 1079 x) (_ : iv 0 10 w) (_ : x3_12.toInt = (T9.length : Int)) (_ : fdI T9 0 = fdI (T9.drop x6_12.toNatClampNeg) x4_12.toInt ∧ 0 ≤ x4_12.toInt ∧ x4_12.toInt < 256 ^ x6_12.toNatClampNeg) (_ : 8 ≤ T9.length → x4_12.toInt = 0) (H : Heap) (locs : List Loc) (ls : Array Slot), va_P (dC, dI) vwCl (mW h0 ad cid sg gm lg) H → va_D A (mW h0 ad cid sg gm lg) → va_S A s.heap H locs → lv_has ls 7 [(6, .int x6_12), (4, .long x4_12), (3, .int x3_12), (0, .ref h0), (1, .int x), (2, .int w)] → W p l e (headSpec wm_X13_is ({ frames := 1, cells := 0, slots := 0, locals := 22 })).room s m ([.ref h0, .int x, .int w] : List Value).toArray below meth c H locs 0 0 (MQ below (va_Qi (fun r v => (iv 0 1 r) ∧ ((r.toInt = 1 ∧ isq T9 (lg 1 w.toNatClampNeg).toInt) ∨ (r.toInt = 0 ∧ ¬ (isq T9 (lg 1 w.toNatClampNeg).toInt))) ∧ v = (sg, gm, lg)) (MB dC dI h0 ad cid A) A) ([.ref h0, .int x, .int w] : List Value).toArray s 0 0 A) (F0 m 12 ls []) := by
    intro n
    induction n using Nat.strongRecOn with
    | ind n ih12 =>
      intro x6_12 x4_12 x3_12 hn12 hx6_12 hx3_12 hsx1_12 hsx2_12 h2 hv hz8 H locs ls hP hD hS hl
      refine lv_iload hx hb dX13_is_12 (lv_at hl 0 rfl) ?_
      refine lv_iload_n hx hb dX13_is_14 rfl (lv_at hl 2 rfl) ?_
      refine lv_icmp_ge (tgt := 46) hx hb dX13_is_15 (by decide) (fun c_9 => ?_) (fun c_9 => ?_)
      · have d_10 : (x3_12 : Int32).toInt ≤ (x6_12 : Int32).toInt := Int32.le_iff_toInt_le.mp c_9
        exact hj46 x6_12 x4_12 x3_12 hx6_12 hx3_12 hsx1_12 hsx2_12 (h2) ((fun _ => is_e hv.1 hv.2.1 (by have := h2; have q1 : x6_12.toNatClampNeg = x6_12.toInt.toNat := rfl; have := i32_0; have := i32_1; have := i32_2; have := i32_m1; have := (hsx1_12).1; have := (hsx1_12).2; have := (hsx2_12).1; have := (hsx2_12).2; have := (hx6_12).1; have := (hx6_12).2; have := (hx3_12).1; have := (hx3_12).2; omega))) ((fun q => hz8 q)) _ _ _ hP hD hS (lv_sub hl [0, 1, 2, 3, 4, 5] rfl)
      · have d_11 : (x6_12 : Int32).toInt < (x3_12 : Int32).toInt := Int32.lt_iff_toInt_lt.mp (i32_lt c_9)
        have h_12 : iv 0 23 x6_12 := iv_ltL (i32_lt c_9) hx6_12 hx3_12 (by decide)
        have h_13 : iv 1 24 x3_12 := iv_ltR (i32_lt c_9) hx6_12 hx3_12 (by decide)
        refine lv_iload_n hx hb dX13_is_18 rfl (lv_at hl 2 rfl) ?_
        refine lv_bipush (v := 8) hx hb dX13_is_19 (by decide) ?_
        refine lv_icmp_ge (tgt := 46) hx hb dX13_is_21 (by decide) (fun c_14 => ?_) (fun c_14 => ?_)
        · have h_15 : iv 8 24 x3_12 := iv_leR c_14 (iv_k (by decide) : iv 8 8 8) h_13 (by decide)
          exact hj46 x6_12 x4_12 x3_12 (iv_w h_12 (by decide)) (iv_w h_15 (by decide)) hsx1_12 hsx2_12 (h2) ((fun q => absurd q (by have := h2; have := i32_0; have := i32_1; have := i32_2; have := i32_m1; have := (hsx1_12).1; have := (hsx1_12).2; have := (hsx2_12).1; have := (hsx2_12).2; have := (h_12).1; have := (h_12).2; have := (h_15).1; have := (h_15).2; omega))) ((fun q => hz8 q)) _ _ _ hP hD hS (lv_sub hl [0, 1, 2, 3, 4, 5] rfl)
        · have h_16 : iv 1 7 x3_12 := iv_ltL (i32_lt c_14) h_13 (iv_k (by decide) : iv 8 8 8) (by decide)
          refine lv_lload hx hb dX13_is_24 (lv_at hl 1 rfl) ?_
          refine lv_bipush (v := 8) hx hb dX13_is_26 (by decide) ?_
          refine lv_lshl (v := x4_12 <<< ((8 : Int32).toInt64 &&& 63)) hx hb dX13_is_28 rfl ?_
          refine lv_topl (fun z_17 ez_17 => ?_)
          refine lv_aload_n hx hb dX13_is_29 rfl (lv_at hl 3 rfl) ?_
          refine lv_iload_n hx hb dX13_is_30 rfl (lv_at hl 4 rfl) ?_
          refine lv_iload hx hb dX13_is_31 (lv_at hl 0 rfl) ?_
          refine mr_calli (rest := [.long z_17]) ⟨hx, hb, hml, hown, htb⟩ (f_sign9 l dC dI h0 ad cid sg gm lg x x6_12 rg T9 hI hsx1_12 h_12 hRW hT (by have := h2; have := i32_0; have := i32_1; have := i32_2; have := i32_m1; have := (hsx1_12).1; have := (hsx1_12).2; have := (hsx2_12).1; have := (hsx2_12).2; have := (h_12).1; have := (h_12).2; have := (h_16).1; have := (h_16).2; omega)) (cwV 2 htb (gd_V kw_1296 kw_1297 kw_136 kw_160 kw_1646) rfl rfl rfl (by decide +kernel) ⟨Nat.le_of_ble_eq_true rfl, Nat.le_of_ble_eq_true rfl⟩) rfl hl.1 rfl (Nat.le_of_ble_eq_true rfl) dX13_is_33 ⟨Nat.zero_le _, Nat.zero_le _⟩ hK hP hD hS hA (fun r_18 u_19 H locs hw hP hD hS => ?_)
          obtain ⟨hr_18, fs_r_18, rfl⟩ := hw
          have hP : va_P (dC, dI) vwCl (mW h0 ad cid sg gm lg) H := hP
          have hD : va_D A (mW h0 ad cid sg gm lg) := hD
          refine lv_i2l (v := (r_18 : Int32).toInt64) hx hb dX13_is_36 rfl ?_
          refine lv_topl (fun z_20 ez_20 => ?_)
          refine lv_lor hx hb dX13_is_37 ?_
          refine lv_topl (fun z_21 ez_21 => ?_)
          refine lv_lstore (lv' := [(4, .long z_21), (6, .int x6_12), (3, .int x3_12), (0, .ref h0), (1, .int x), (2, .int w)]) hx hb dX13_is_38 hl (by decide) rfl (fun ls hl => ?_)
          obtain ⟨z_22, ez_22⟩ : ∃ z : Int32, z = x6_12 + 1 := ⟨_, rfl⟩
          have hz_22 : iv 1 24 z_22 := iv_of ez_22 (iv_add h_12 (iv_k (by decide) : iv 1 1 1) (by decide))
          have tz_22 : z_22.toInt = x6_12.toInt + 1 := by rw [ez_22]; exact iv_addE h_12 (iv_k (by decide) : iv 1 1 1) (by decide)
          refine lv_iinc (v := z_22) (lv' := [(6, .int z_22), (4, .long z_21), (3, .int x3_12), (0, .ref h0), (1, .int x), (2, .int w)]) hx hb dX13_is_40 hl (k := 1) rfl ez_22.symm (by decide) rfl (fun ls hl => ?_)
          refine lv_goto (tgt := 12) hx hb dX13_is_43 (by decide) ?_
          exact ih12 _ (by rw [← hn12]; exact (iv_meas tz_22 h_12 (by decide))) z_22 z_21 x3_12 rfl (iv_w hz_22 (by decide)) (iv_w h_16 (by decide)) hsx1_12 hsx2_12 (h2) ((by have hk : x6_12.toNatClampNeg < T9.length := (by have := h2; have q1 : x6_12.toNatClampNeg = x6_12.toInt.toNat := rfl; have := i32_0; have := i32_1; have := i32_2; have := i32_m1; have := (hsx1_12).1; have := (hsx1_12).2; have := (hsx2_12).1; have := (hsx2_12).2; have := (h_12).1; have := (h_12).2; have := (h_16).1; have := (h_16).2; have := (hr_18).1; have := (hr_18).2; have := (hz_22).1; have := (hz_22).2; omega); have hc := hT.2.1 _ (List.mem_of_getElem? (gd9 (d := 0) hk)); have q9 := fs_r_18; have e9 : z_21.toInt = 256 * x4_12.toInt + r_18.toInt := (by rw [ez_21, ez_17, ez_20]; exact lor8 hv.2.1 (p256 hv.2.2 (by have q1 : x6_12.toNatClampNeg = x6_12.toInt.toNat := rfl; have := i32_0; have := i32_1; have := i32_2; have := i32_m1; have := (hsx1_12).1; have := (hsx1_12).2; have := (hsx2_12).1; have := (hsx2_12).2; have := (h_12).1; have := (h_12).2; have := (h_16).1; have := (h_16).2; have := (hr_18).1; have := (hr_18).2; have := (hz_22).1; have := (hz_22).2; omega)) (by omega) (by omega)); rw [show z_22.toNatClampNeg = x6_12.toNatClampNeg + 1 from (by have q1 : z_22.toNatClampNeg = z_22.toInt.toNat := rfl; have q1 : x6_12.toNatClampNeg = x6_12.toInt.toNat := rfl; have := i32_0; have := i32_1; have := i32_2; have := i32_m1; have := (hsx1_12).1; have := (hsx1_12).2; have := (hsx2_12).1; have := (hsx2_12).2; have := (h_12).1; have := (h_12).2; have := (h_16).1; have := (h_16).2; have := (hr_18).1; have := (hr_18).2; have := (hz_22).1; have := (hz_22).2; omega), e9, q9]; exact ⟨by rw [hv.1, fdI_s hk], (by have := hv.2.1; omega), p256s hv.2.2 hc.2⟩)) ((fun q => absurd q (by have := h2; have := i32_0; have := i32_1; have := i32_2; have := i32_m1; have := (hsx1_12).1; have := (hsx1_12).2; have := (hsx2_12).1; have := (hsx2_12).2; have := (h_12).1; have := (h_12).2; have := (h_16).1; have := (h_16).2; have := (hr_18).1; have := (hr_18).2; have := (hz_22).1; have := (hz_22).2; omega))) _ _ _ hP hD hS (lv_sub hl [0, 1, 2, 3, 4, 5] rfl)
  refine lv_aload_n hx hb dX13_is_0 rfl (lv_at hl 0 rfl) ?_
  refine lv_iload_n hx hb dX13_is_1 rfl (lv_at hl 1 rfl) ?_
  refine mr_calli (rest := []) ⟨hx, hb, hml, hown, htb⟩ (f_length9 l dC dI h0 ad cid sg gm lg x rg T9 hI hvx hRW hT) (cwV 1 htb (gd_V kw_1294 kw_1295 kw_135 kw_160 kw_1645) rfl rfl rfl (by decide +kernel) ⟨Nat.le_of_ble_eq_true rfl, Nat.le_of_ble_eq_true rfl⟩) rfl hl.1 rfl (Nat.le_of_ble_eq_true rfl) dX13_is_2 ⟨Nat.zero_le _, Nat.zero_le _⟩ hK hP hD hS hA (fun r_23 u_24 H locs hw hP hD hS => ?_)
  obtain ⟨hr_23, fl_r_23, rfl⟩ := hw
  have hP : va_P (dC, dI) vwCl (mW h0 ad cid sg gm lg) H := hP
  have hD : va_D A (mW h0 ad cid sg gm lg) := hD
  refine lv_istore_n (lv' := [(3, .int r_23), (0, .ref h0), (1, .int x), (2, .int w)]) hx hb dX13_is_5 rfl hl (by decide) rfl (fun ls hl => ?_)
  refine lv_lconst (v := 0) hx hb dX13_is_6 (by decide) ?_
  refine lv_lstore (lv' := [(4, .long 0), (3, .int r_23), (0, .ref h0), (1, .int x), (2, .int w)]) hx hb dX13_is_7 hl (by decide) rfl (fun ls hl => ?_)
  refine lv_iconst (v := 0) hx hb dX13_is_9 (by decide) ?_
  refine lv_istore (lv' := [(6, .int 0), (4, .long 0), (3, .int r_23), (0, .ref h0), (1, .int x), (2, .int w)]) hx hb dX13_is_10 hl (by decide) rfl (fun ls hl => ?_)
  exact hj12 _ 0 0 r_23 rfl (iv_w (iv_k (by decide) : iv 0 0 0) (by decide)) hr_23 hvx hvw (fl_r_23) (⟨rfl, Int.le_refl _, (by decide)⟩) ((fun _ => rfl)) _ _ _ hP hD hS (lv_sub hl [0, 1, 2, 3, 4, 5] rfl)
end
section
section WF9
variable {wg rg : Nat → Nat → Int32} {wl : Nat → Nat → Int64} {ob : List Ob9} {c : Nat} {V : List Int} {kd v : Int32} {t : Int}
/-- the words of truth -/
def WD9 (lg : Nat → Nat → Int64) : Prop := (lg 1 9).toInt = 1953658213 ∧ (lg 1 10).toInt = 439721161573
theorem wC_9 (h : (wg 25 c).toInt = 9) : wCo wg wl ob c V t = if 3 ≤ t then 0 else -1 := by
  unfold wCo; rw [if_neg (by omega), if_pos h]
theorem wC_6 (h : (wg 25 c).toInt = 6) : wCo wg wl ob c V t = if t = 4 then 0 else -1 := by
  unfold wCo; rw [if_neg (by omega), if_neg (by omega), if_pos h]
theorem wC_7 (h : (wg 25 c).toInt = 7) : wCo wg wl ob c V t = wTx wg wl c t := by
  unfold wCo; rw [if_pos h]
theorem wC_o (h : VR9 wg wl rg ob c V kd v) (hk : kd.toInt = 1) : wCo wg wl ob c V t = wOb wg ob v.toInt t := by
  obtain ⟨⟨h1, h2, h3⟩, hV, _⟩ := VR_1 h hk
  unfold wCo; rw [if_neg h2, if_neg h3, if_neg h1, hV]; rfl
theorem wO_h {o u cl : Int} (ht : 8 ≤ t) (hc : ((ob[o.toNat]?).getD (0, 0)).1 = cl) (h : stF wg (t - 8) 8 cl 0 = u) (hu : 0 ≤ u) : wOb wg ob o t = 2 * u := by
  unfold wOb; rw [hc, h, if_neg (by omega), if_neg (by omega)]
theorem wO_n {o cl : Int} (hc : ((ob[o.toNat]?).getD (0, 0)).1 = cl) (h : stF wg (t - 8) 8 cl 0 = -1) : wOb wg ob o t = -1 := by
  unfold wOb; rw [hc, h]
  by_cases q : t < 8
  · rw [if_pos q]
  · rw [if_neg q, if_pos rfl]
theorem vC_9 (h : (wg 25 c).toInt = 9) : vCo wg wl c V t = -1 := by unfold vCo; rw [if_neg (by omega), if_pos h]
theorem vC_6 (h : (wg 25 c).toInt = 6) : vCo wg wl c V t = 2000 + (wg 18 c).toInt := by unfold vCo; rw [if_neg (by omega), if_neg (by omega), if_pos h]
theorem vC_7 (h : (wg 25 c).toInt = 7) : vCo wg wl c V t = vTx wg wl c t := by unfold vCo; rw [if_pos h]
theorem vC_o (h : VR9 wg wl rg ob c V kd v) (hk : kd.toInt = 1) : vCo wg wl c V t = 3000 + v.toInt := by
  obtain ⟨⟨h1, h2, h3⟩, hV, _⟩ := VR_1 h hk
  unfold vCo; rw [if_neg h2, if_neg h3, if_neg h1, hV]; rfl
end WF9
end
section
set_option maxHeartbeats 4000000 in
set_option maxRecDepth 100000 in
theorem f_weight9 (l : Launch) (dC : Nat → ClassId) (dI : Nat → Nat → Nat) (h0 : Nat) (ad : Nat → Nat) (cid : Nat → ClassId) (sg : Nat → Int32) (gm : Nat → Nat → Int32) (lg : Nat → Nat → Int64) (kd : Int32) (vl : Int32) (ty : Int32) (wg : Nat → Nat → Int32) (wl : Nat → Nat → Int64) (rg : Nat → Nat → Int32) (S : S9) (c9 : Nat) (V9 : List Int) (hI : MI sg gm) (hvkd : iv 0 3 kd) (hvvl : iv 0 1079 vl) (hvo : vok kd vl) (hPR : PR gm) (hRW : rt9 gm = rg) (hCL : CLS9 wg rg) (hRR : RR wg wl S sg gm) (hWD : WD9 lg) (hV : VR9 wg wl rg (zO S) c9 V9 kd vl) (hty : ty9 ty.toInt) : MMi l dC dI yX13_weight wm_X13_weight ({ frames := 2, cells := 0, slots := 0, locals := 49 }) h0 ad cid [.int kd, .int vl, .int ty] sg gm lg (fun r v => (iv (-1) 14 r) ∧ (r.toInt = wCo wg wl (zO S) c9 V9 ty.toInt) ∧ v = (sg, gm, lg)) := by
  intro sz
  refine Met.ofW (cc := cX13_weight) (maxL := 6) (ret := (some .int)) (by decide) rfl ?_
  intro p e s m args below meth c s₁ B hml hv
  obtain ⟨rfl, hsz, hP, hK, hD0⟩ := hv
  have hx := B.exec
  have hb := B.bytes
  have hr := B.returns
  have hts := atoms_spec (ws := wm_X13_weight) B.pre
  have htb := fun (w : Cond) (h : w ∈ tb) => hts w (List.mem_cons_of_mem _ h)
  have hown : s.vm.findClass RX13 = some m.cls := findClass_of_methodNamed B.named
  have hlocks := B.notSynchronized
  subst hsz
  have hD := hD0.self (sz := s.heap.size)
  generalize hAe : va_A (mW h0 ad cid sg gm lg) s.heap.size = A at hD ⊢
  have hA : ∀ q : Nat, s.heap.size ≤ q → A q := fun q h => by rw [← hAe]; exact Or.inr h
  have hS : va_S A s.heap s.heap [] := va_S.rf
  have hl := lv_entry ([.ref h0, .int kd, .int vl, .int ty]) (n := 6) (Nat.le_of_ble_eq_true rfl)
  rw [lg_entry_eq]
  generalize (lg_sl ([.ref h0, .int kd, .int vl, .int ty]) ++ List.replicate (6 - (lg_sl ([.ref h0, .int kd, .int vl, .int ty])).length) Slot.unset).toArray = ls at hl ⊢
  have hl : lv_has ls 6 [(0, .ref h0), (1, .int kd), (2, .int vl), (3, .int ty)] := hl
  have hj59 : ∀ (n : Nat) (x5_59 : Int32) (x4_59 : Int32) (_ : (x5_59.toInt + 1).toNat = n) (_ : iv (-1) 7 x5_59) (_ : iv 0 8 x4_59) (_ : iv 1 1 kd) (_ : iv 0 59 vl) (_ : kd.toInt = 1) (_ : (((zO S)[vl.toInt.toNat]?).getD (0, 0)).1 = (gm 53 vl.toNatClampNeg).toInt) (_ : stF wg (ty.toInt - 8) 8 (gm 53 vl.toNatClampNeg).toInt 0 = stF wg (ty.toInt - 8) (x5_59.toInt + 1).toNat x5_59.toInt x4_59.toInt) (_ : 0 ≤ x4_59.toInt ∧ x4_59.toInt + x5_59.toInt ≤ 7) (H : Heap) (locs : List Loc) (ls : Array Slot), va_P (dC, dI) vwCl (mW h0 ad cid sg gm lg) H → va_D A (mW h0 ad cid sg gm lg) → va_S A s.heap H locs → lv_has ls 6 [(5, .int x5_59), (4, .int x4_59), (0, .ref h0), (1, .int kd), (2, .int vl), (3, .int ty)] → W p l e (headSpec wm_X13_weight ({ frames := 2, cells := 0, slots := 0, locals := 49 })).room s m ([.ref h0, .int kd, .int vl, .int ty] : List Value).toArray below meth c H locs 0 0 (MQ below (va_Qi (fun r v => (iv (-1) 14 r) ∧ (r.toInt = wCo wg wl (zO S) c9 V9 ty.toInt) ∧ v = (sg, gm, lg)) (MB dC dI h0 ad cid A) A) ([.ref h0, .int kd, .int vl, .int ty] : List Value).toArray s 0 0 A) (F0 m 59 ls []) := by
    intro n
    induction n using Nat.strongRecOn with
    | ind n ih59 =>
      intro x5_59 x4_59 hn59 hx5_59 hx4_59 hsx1_59 hsx2_59 hk1 hcl hst h45 H locs ls hP hD hS hl
      refine lv_iload hx hb dX13_weight_59 (lv_at hl 0 rfl) ?_
      refine lv_iconst (v := (-1)) hx hb dX13_weight_61 (by decide) ?_
      refine lv_icmp_eq (tgt := 94) hx hb dX13_weight_62 (by decide) (fun c_1 => ?_) (fun c_1 => ?_)
      · have h_2 : iv (-1) (-1) x5_59 := iv_eq c_1 hx5_59 (iv_k (by decide) : iv (-1) (-1) (-1)) (by decide)
        refine lv_iconst (v := (-1)) hx hb dX13_weight_94 (by decide) ?_
        exact W.iret (v := (-1)) hx hb hr (fun t ht hW => ⟨⟨(-1), (sg, gm, lg), rfl, ⟨(iv_w (iv_k (by decide) : iv (-1) (-1) (-1)) (by decide)), ((by rw [wC_o hV hk1, wO_n hcl (by rw [hst, stF_o (by have := i32_0; have := i32_1; have := i32_2; have := i32_m1; have := (hsx1_59).1; have := (hsx1_59).2; have := (hsx2_59).1; have := (hsx2_59).2; have := (h_2).1; have := (h_2).2; have := (hx4_59).1; have := (hx4_59).2; omega)])]; rfl)), rfl⟩, by rw [ht]; exact hP, va_K.moved hW.alike hK, hD⟩, hS.F ht⟩) hS.2.2 dX13_weight_95
      · have h_3 : iv 0 7 x5_59 := iv_neL c_1 hx5_59 (by decide)
        have h47 : iv 0 7 x4_59 := ⟨h45.1, (by have := h45; have := i32_0; have := i32_1; have := i32_2; have := i32_m1; have := (hsx1_59).1; have := (hsx1_59).2; have := (hsx2_59).1; have := (hsx2_59).2; have := (h_3).1; have := (h_3).2; have := (hx4_59).1; have := (hx4_59).2; omega)⟩
        refine lv_iload_n hx hb dX13_weight_65 rfl (lv_at hl 5 rfl) ?_
        refine lv_bipush (v := 8) hx hb dX13_weight_66 (by decide) ?_
        refine lv_iload hx hb dX13_weight_68 (lv_at hl 0 rfl) ?_
        refine lv_iadd hx hb dX13_weight_70 ?_
        refine lv_topi (fun z_4 ez_4 => ?_)
        have hz_4 : iv 8 15 z_4 := iv_of ez_4 (iv_add (iv_k (by decide) : iv 8 8 8) h_3 (by decide))
        have tz_4 : z_4.toInt = 8 + (x5_59 : Int32).toInt := by rw [ez_4]; exact iv_addE (iv_k (by decide) : iv 8 8 8) h_3 (by decide)
        refine lv_icmp_ne (tgt := 79) hx hb dX13_weight_71 (by decide) (fun c_5 => ?_) (fun c_5 => ?_)
        · obtain ⟨z_6, ez_6⟩ : ∃ z : Int32, z = x4_59 + 1 := ⟨_, rfl⟩
          have hz_6 : iv 1 8 z_6 := iv_of ez_6 (iv_add h47 (iv_k (by decide) : iv 1 1 1) (by decide))
          have tz_6 : z_6.toInt = x4_59.toInt + 1 := by rw [ez_6]; exact iv_addE h47 (iv_k (by decide) : iv 1 1 1) (by decide)
          refine lv_iinc (v := z_6) (lv' := [(4, .int z_6), (5, .int x5_59), (0, .ref h0), (1, .int kd), (2, .int vl), (3, .int ty)]) hx hb dX13_weight_79 hl (k := 1) rfl ez_6.symm (by decide) rfl (fun ls hl => ?_)
          refine lv_aload_n hx hb dX13_weight_82 rfl (lv_at hl 2 rfl) ?_
          refine mr_get (v := .ref (ad 6)) hx hb htb inX13 hown hK hP 6 (by decide) (htb _ kw_1033) rfl dX13_weight_83 ?_
          refine lv_iload hx hb dX13_weight_86 (lv_at hl 1 rfl) ?_
          refine mr_iald hx hb hK hP 5 (k := 6) rfl rfl rfl (show vp_in x5_59 8 from (iv_in h_3 (by decide))) dX13_weight_88 ?_
          refine lv_topi (fun z_7 ez_7 => ?_)
          have hz_7 : iv (-1) 7 z_7 := iv_of ez_7 (MI_a hI 6 h_3 (by decide))
          refine lv_istore (lv' := [(5, .int z_7), (4, .int z_6), (0, .ref h0), (1, .int kd), (2, .int vl), (3, .int ty)]) hx hb dX13_weight_89 hl (by decide) rfl (fun ls hl => ?_)
          refine lv_goto (tgt := 59) hx hb dX13_weight_91 (by decide) ?_
          exact ih59 _ (by rw [← hn59]; exact (PR_dec hPR h_3 ez_7)) z_7 z_6 rfl hz_7 (iv_w hz_6 (by decide)) hsx1_59 hsx2_59 (hk1) (hcl) ((by have q9 := stR_up hCL hRW hPR h_3 hst (fun q7 => (fun q7 => c_5 (Int32.toInt_inj.mp q7)) (show ty.toInt = z_4.toInt from (by have := i32_0; have := i32_1; have := i32_2; have := i32_m1; have := (hsx1_59).1; have := (hsx1_59).2; have := (hsx2_59).1; have := (hsx2_59).2; have := (h_3).1; have := (h_3).2; have := (h47).1; have := (h47).2; have := (hz_4).1; have := (hz_4).2; have := (hz_6).1; have := (hz_6).2; have := (hz_7).1; have := (hz_7).2; omega))) ez_7; rw [show x4_59.toInt + 1 = z_6.toInt from (by have := i32_0; have := i32_1; have := i32_2; have := i32_m1; have := (hsx1_59).1; have := (hsx1_59).2; have := (hsx2_59).1; have := (hsx2_59).2; have := (h_3).1; have := (h_3).2; have := (h47).1; have := (h47).2; have := (hz_4).1; have := (hz_4).2; have := (hz_6).1; have := (hz_6).2; have := (hz_7).1; have := (hz_7).2; omega)] at q9; exact q9)) (⟨(by have := h45; have := i32_0; have := i32_1; have := i32_2; have := i32_m1; have := (hsx1_59).1; have := (hsx1_59).2; have := (hsx2_59).1; have := (hsx2_59).2; have := (h_3).1; have := (h_3).2; have := (h47).1; have := (h47).2; have := (hz_4).1; have := (hz_4).2; have := (hz_6).1; have := (hz_6).2; have := (hz_7).1; have := (hz_7).2; omega), (by have q9 := PR_dec hPR h_3 ez_7; have := h45; have := i32_0; have := i32_1; have := i32_2; have := i32_m1; have := (hsx1_59).1; have := (hsx1_59).2; have := (hsx2_59).1; have := (hsx2_59).2; have := (h_3).1; have := (h_3).2; have := (h47).1; have := (h47).2; have := (hz_4).1; have := (hz_4).2; have := (hz_6).1; have := (hz_6).2; have := (hz_7).1; have := (hz_7).2; omega)⟩) _ _ _ hP hD hS (lv_sub hl [0, 1, 2, 3, 4, 5] rfl)
        · have d_8 : (ty : Int32).toInt = (z_4 : Int32).toInt := congrArg Int32.toInt c_5
          have h_9 : iv 8 15 ty := iv_eq c_5 (iv_all ty) hz_4 (by decide)
          refine lv_iconst (v := 2) hx hb dX13_weight_74 (by decide) ?_
          refine lv_iload hx hb dX13_weight_75 (lv_at hl 1 rfl) ?_
          refine lv_imul hx hb dX13_weight_77 ?_
          refine lv_topi (fun z_10 ez_10 => ?_)
          have hz_10 : iv 0 14 z_10 := iv_of ez_10 (iv_mul (iv_k (by decide) : iv 2 2 2) h47 (by decide))
          have tz_10 : z_10.toInt = 2 * (x4_59 : Int32).toInt := by rw [ez_10]; exact iv_mulE (iv_k (by decide) : iv 2 2 2) h47 (by decide)
          exact W.iret (v := z_10) hx hb hr (fun t ht hW => ⟨⟨z_10, (sg, gm, lg), rfl, ⟨(iv_w hz_10 (by decide)), ((by rw [wC_o hV hk1, wO_h (by have := i32_0; have := i32_1; have := i32_2; have := i32_m1; have := (hsx1_59).1; have := (hsx1_59).2; have := (hsx2_59).1; have := (hsx2_59).2; have := (h_3).1; have := (h_3).2; have := (h47).1; have := (h47).2; have := (hz_4).1; have := (hz_4).2; have := (h_9).1; have := (h_9).2; have := (hz_10).1; have := (hz_10).2; omega) hcl (stR_h hCL h_3 hst (by have := i32_0; have := i32_1; have := i32_2; have := i32_m1; have := (hsx1_59).1; have := (hsx1_59).2; have := (hsx2_59).1; have := (hsx2_59).2; have := (h_3).1; have := (h_3).2; have := (h47).1; have := (h47).2; have := (hz_4).1; have := (hz_4).2; have := (h_9).1; have := (h_9).2; have := (hz_10).1; have := (hz_10).2; omega)) h45.1]; have := i32_0; have := i32_1; have := i32_2; have := i32_m1; have := (hsx1_59).1; have := (hsx1_59).2; have := (hsx2_59).1; have := (hsx2_59).2; have := (h_3).1; have := (h_3).2; have := (h47).1; have := (h47).2; have := (hz_4).1; have := (hz_4).2; have := (h_9).1; have := (h_9).2; have := (hz_10).1; have := (hz_10).2; omega)), rfl⟩, by rw [ht]; exact hP, va_K.moved hW.alike hK, hD⟩, hS.F ht⟩) hS.2.2 dX13_weight_78
  refine lv_iload_n hx hb dX13_weight_0 rfl (lv_at hl 1 rfl) ?_
  refine lv_iconst (v := 2) hx hb dX13_weight_1 (by decide) ?_
  refine lv_icmp_ne (tgt := 27) hx hb dX13_weight_2 (by decide) (fun c_11 => ?_) (fun c_11 => ?_)
  · have d_12 : ¬ (kd : Int32).toInt = 2 := lv_neT c_11 rfl
    refine lv_iload_n hx hb dX13_weight_27 rfl (lv_at hl 1 rfl) ?_
    refine lv_iconst (v := 3) hx hb dX13_weight_28 (by decide) ?_
    refine lv_icmp_ne (tgt := 43) hx hb dX13_weight_29 (by decide) (fun c_13 => ?_) (fun c_13 => ?_)
    · have h_14 : iv 0 2 kd := iv_neH c_13 hvkd (by decide)
      refine lv_iload_n hx hb dX13_weight_43 rfl (lv_at hl 1 rfl) ?_
      refine lv_iconst (v := 1) hx hb dX13_weight_44 (by decide) ?_
      refine lv_icmp_ne (tgt := 96) hx hb dX13_weight_45 (by decide) (fun c_15 => ?_) (fun c_15 => ?_)
      · have d_16 : ¬ (kd : Int32).toInt = 1 := lv_neT c_15 rfl
        obtain ⟨h25, T9, hT9, hX9⟩ := VR_0 hV (by have := i32_0; have := i32_1; have := i32_2; have := i32_m1; have := (h_14).1; have := (h_14).2; have := (hvvl).1; have := (hvvl).2; omega)
        refine lv_iload_n hx hb dX13_weight_96 rfl (lv_at hl 3 rfl) ?_
        by_cases c_17 : (ty : Int32).toInt = 0
        · refine lv_tableIn (tgt := 128) hx hb dX13_weight_97 (by rw [c_17]; decide) (by rw [c_17]; decide) (by rw [c_17]; rfl) (by decide) ?_
          have h_18 : iv 0 0 ty := iv_at c_17
          refine lv_aload_n hx hb dX13_weight_128 rfl (lv_at hl 0 rfl) ?_
          refine lv_iload_n hx hb dX13_weight_129 rfl (lv_at hl 2 rfl) ?_
          refine mr_calll (rest := []) ⟨hx, hb, hml, hown, htb⟩ (f_numberIn9 l dC dI h0 ad cid sg gm lg vl rg T9 hI hvvl hRW hT9) (cwV 1 htb (gd_V kw_1292 kw_1293 kw_134 kw_160 kw_1644) rfl rfl rfl (by decide +kernel) ⟨Nat.le_of_ble_eq_true rfl, Nat.le_of_ble_eq_true rfl⟩) rfl hl.1 rfl (Nat.le_of_ble_eq_true rfl) dX13_weight_130 ⟨Nat.zero_le _, Nat.zero_le _⟩ hK hP hD hS hA (fun r_19 u_20 H locs hw hP hD hS => ?_)
          obtain ⟨fn_r_19, rfl⟩ := hw
          have hP : va_P (dC, dI) vwCl (mW h0 ad cid sg gm lg) H := hP
          have hD : va_D A (mW h0 ad cid sg gm lg) := hD
          refine lv_ldc2 (own := RX13) (v := (-9000000000000000000)) hx hb hown (htb _ kw_1301) dX13_weight_133 ?_
          refine W.lcmp hx hb dX13_weight_136 ?_
          refine lv_topi (fun z_21 ez_21 => ?_)
          have hz_21 : iv (-1) 1 z_21 := iv_of ez_21 (iv_cmp _ _)
          refine lv_if_ne (tgt := 144) hx hb dX13_weight_137 (by decide) (fun c_22 => ?_) (fun c_22 => ?_)
          · have d_23 : ¬ (z_21 : Int32).toInt = 0 := lv_neT c_22 rfl
            refine lv_iconst (v := 1) hx hb dX13_weight_144 (by decide) ?_
            exact W.iret (v := 1) hx hb hr (fun t ht hW => ⟨⟨1, (sg, gm, lg), rfl, ⟨(iv_w (iv_k (by decide) : iv 1 1 1) (by decide)), ((by rw [wC_7 h25, show ty.toInt = 0 from (by have := i32_0; have := i32_1; have := i32_2; have := i32_m1; have := (h_14).1; have := (h_14).2; have := (hvvl).1; have := (hvvl).2; have := (h_18).1; have := (h_18).2; have := (hz_21).1; have := (hz_21).2; omega), wT_0 hX9 fn_r_19]; rw [if_neg (by intro q9; exact c_22 (ez_21.trans ((lg_cmp_eq _ _).mpr (Int64.toInt_inj.mp q9))))]; rfl)), rfl⟩, by rw [ht]; exact hP, va_K.moved hW.alike hK, hD⟩, hS.F ht⟩) hS.2.2 dX13_weight_145
          · have h_24 : iv 0 0 z_21 := iv_eq c_22 hz_21 (iv_k (by decide) : iv 0 0 0) (by decide)
            refine lv_iconst (v := (-1)) hx hb dX13_weight_140 (by decide) ?_
            refine lv_goto (tgt := 145) hx hb dX13_weight_141 (by decide) ?_
            exact W.iret (v := (-1)) hx hb hr (fun t ht hW => ⟨⟨(-1), (sg, gm, lg), rfl, ⟨(iv_w (iv_k (by decide) : iv (-1) (-1) (-1)) (by decide)), ((by rw [wC_7 h25, show ty.toInt = 0 from (by have := i32_0; have := i32_1; have := i32_2; have := i32_m1; have := (h_14).1; have := (h_14).2; have := (hvvl).1; have := (hvvl).2; have := (h_18).1; have := (h_18).2; have := (h_24).1; have := (h_24).2; omega), wT_0 hX9 fn_r_19]; rw [if_pos (by have q9 := (lg_cmp_eq _ _).mp (show lg_cmp r_19 _ = 0 from (ez_21.symm.trans c_22)); rw [q9]; rfl)]; rfl)), rfl⟩, by rw [ht]; exact hP, va_K.moved hW.alike hK, hD⟩, hS.F ht⟩) hS.2.2 dX13_weight_145
        by_cases c_25 : (ty : Int32).toInt = 1
        · refine lv_tableIn (tgt := 146) hx hb dX13_weight_97 (by rw [c_25]; decide) (by rw [c_25]; decide) (by rw [c_25]; rfl) (by decide) ?_
          have h_26 : iv 1 1 ty := iv_at c_25
          refine lv_aload_n hx hb dX13_weight_146 rfl (lv_at hl 0 rfl) ?_
          refine lv_iload_n hx hb dX13_weight_147 rfl (lv_at hl 2 rfl) ?_
          refine lv_bipush (v := 9) hx hb dX13_weight_148 (by decide) ?_
          refine mr_calli (rest := []) ⟨hx, hb, hml, hown, htb⟩ (f_is9 l dC dI h0 ad cid sg gm lg vl 9 rg T9 hI hvvl (iv_w (iv_k (by decide) : iv 9 9 9) (by decide)) hRW hT9 (by show ¬ (lg 1 9).toInt = 0; rw [hWD.1]; decide)) (cwV 2 htb (gd_V kw_1302 kw_1303 kw_137 kw_160 kw_1647) rfl rfl rfl (by decide +kernel) ⟨Nat.le_of_ble_eq_true rfl, Nat.le_of_ble_eq_true rfl⟩) rfl hl.1 rfl (Nat.le_of_ble_eq_true rfl) dX13_weight_150 ⟨Nat.zero_le _, Nat.zero_le _⟩ hK hP hD hS hA (fun r_27 u_28 H locs hw hP hD hS => ?_)
          obtain ⟨hr_27, fi_r_27, rfl⟩ := hw
          have hP : va_P (dC, dI) vwCl (mW h0 ad cid sg gm lg) H := hP
          have hD : va_D A (mW h0 ad cid sg gm lg) := hD
          refine lv_if_ne (tgt := 166) hx hb dX13_weight_153 (by decide) (fun c_29 => ?_) (fun c_29 => ?_)
          · have h_30 : iv 1 1 r_27 := iv_neL c_29 hr_27 (by decide)
            refine lv_iconst (v := 1) hx hb dX13_weight_166 (by decide) ?_
            refine lv_goto (tgt := 171) hx hb dX13_weight_167 (by decide) ?_
            exact W.iret (v := 1) hx hb hr (fun t ht hW => ⟨⟨1, (sg, gm, lg), rfl, ⟨(iv_w (iv_k (by decide) : iv 1 1 1) (by decide)), ((by rw [wC_7 h25, show ty.toInt = 1 from (by have := i32_0; have := i32_1; have := i32_2; have := i32_m1; have := (h_14).1; have := (h_14).2; have := (hvvl).1; have := (hvvl).2; have := (h_26).1; have := (h_26).2; have := (h_30).1; have := (h_30).2; omega), wT_1 hX9, tr_t hT9.2.1 (by have q9 := (fi_r_27.resolve_right (fun q => absurd q.1 (by have := i32_0; have := i32_1; have := i32_2; have := i32_m1; have := (h_14).1; have := (h_14).2; have := (hvvl).1; have := (hvvl).2; have := (h_26).1; have := (h_26).2; have := (h_30).1; have := (h_30).2; omega))).2; rw [show (9 : Int32).toNatClampNeg = 9 from rfl, hWD.1] at q9; exact q9)]; rfl)), rfl⟩, by rw [ht]; exact hP, va_K.moved hW.alike hK, hD⟩, hS.F ht⟩) hS.2.2 dX13_weight_171
          · have h_31 : iv 0 0 r_27 := iv_eq c_29 hr_27 (iv_k (by decide) : iv 0 0 0) (by decide)
            refine lv_aload_n hx hb dX13_weight_156 rfl (lv_at hl 0 rfl) ?_
            refine lv_iload_n hx hb dX13_weight_157 rfl (lv_at hl 2 rfl) ?_
            refine lv_bipush (v := 10) hx hb dX13_weight_158 (by decide) ?_
            refine mr_calli (rest := []) ⟨hx, hb, hml, hown, htb⟩ (f_is9 l dC dI h0 ad cid sg gm lg vl 10 rg T9 hI hvvl (iv_w (iv_k (by decide) : iv 10 10 10) (by decide)) hRW hT9 (by show ¬ (lg 1 10).toInt = 0; rw [hWD.2]; decide)) (cwV 2 htb (gd_V kw_1302 kw_1303 kw_137 kw_160 kw_1647) rfl rfl rfl (by decide +kernel) ⟨Nat.le_of_ble_eq_true rfl, Nat.le_of_ble_eq_true rfl⟩) rfl hl.1 rfl (Nat.le_of_ble_eq_true rfl) dX13_weight_160 ⟨Nat.zero_le _, Nat.zero_le _⟩ hK hP hD hS hA (fun r_32 u_33 H locs hw hP hD hS => ?_)
            obtain ⟨hr_32, fi_r_32, rfl⟩ := hw
            have hP : va_P (dC, dI) vwCl (mW h0 ad cid sg gm lg) H := hP
            have hD : va_D A (mW h0 ad cid sg gm lg) := hD
            refine lv_if_eq (tgt := 170) hx hb dX13_weight_163 (by decide) (fun c_34 => ?_) (fun c_34 => ?_)
            · have h_35 : iv 0 0 r_32 := iv_eq c_34 hr_32 (iv_k (by decide) : iv 0 0 0) (by decide)
              refine lv_iconst (v := (-1)) hx hb dX13_weight_170 (by decide) ?_
              exact W.iret (v := (-1)) hx hb hr (fun t ht hW => ⟨⟨(-1), (sg, gm, lg), rfl, ⟨(iv_w (iv_k (by decide) : iv (-1) (-1) (-1)) (by decide)), ((by rw [wC_7 h25, show ty.toInt = 1 from (by have := i32_0; have := i32_1; have := i32_2; have := i32_m1; have := (h_14).1; have := (h_14).2; have := (hvvl).1; have := (hvvl).2; have := (h_26).1; have := (h_26).2; have := (h_31).1; have := (h_31).2; have := (h_35).1; have := (h_35).2; omega), wT_1 hX9, tr_n (by have q9 := (fi_r_27.resolve_left (fun q => absurd q.1 (by have := i32_0; have := i32_1; have := i32_2; have := i32_m1; have := (h_14).1; have := (h_14).2; have := (hvvl).1; have := (hvvl).2; have := (h_26).1; have := (h_26).2; have := (h_31).1; have := (h_31).2; have := (h_35).1; have := (h_35).2; omega))).2; rw [show (9 : Int32).toNatClampNeg = 9 from rfl, hWD.1] at q9; exact q9) (by have q9 := (fi_r_32.resolve_left (fun q => absurd q.1 (by have := i32_0; have := i32_1; have := i32_2; have := i32_m1; have := (h_14).1; have := (h_14).2; have := (hvvl).1; have := (hvvl).2; have := (h_26).1; have := (h_26).2; have := (h_31).1; have := (h_31).2; have := (h_35).1; have := (h_35).2; omega))).2; rw [show (10 : Int32).toNatClampNeg = 10 from rfl, hWD.2] at q9; exact q9)]; rfl)), rfl⟩, by rw [ht]; exact hP, va_K.moved hW.alike hK, hD⟩, hS.F ht⟩) hS.2.2 dX13_weight_171
            · have h_36 : iv 1 1 r_32 := iv_neL c_34 hr_32 (by decide)
              refine lv_iconst (v := 1) hx hb dX13_weight_166 (by decide) ?_
              refine lv_goto (tgt := 171) hx hb dX13_weight_167 (by decide) ?_
              exact W.iret (v := 1) hx hb hr (fun t ht hW => ⟨⟨1, (sg, gm, lg), rfl, ⟨(iv_w (iv_k (by decide) : iv 1 1 1) (by decide)), ((by rw [wC_7 h25, show ty.toInt = 1 from (by have := i32_0; have := i32_1; have := i32_2; have := i32_m1; have := (h_14).1; have := (h_14).2; have := (hvvl).1; have := (hvvl).2; have := (h_26).1; have := (h_26).2; have := (h_31).1; have := (h_31).2; have := (h_36).1; have := (h_36).2; omega), wT_1 hX9, tr_f hT9.2.1 (by have q9 := (fi_r_32.resolve_right (fun q => absurd q.1 (by have := i32_0; have := i32_1; have := i32_2; have := i32_m1; have := (h_14).1; have := (h_14).2; have := (hvvl).1; have := (hvvl).2; have := (h_26).1; have := (h_26).2; have := (h_31).1; have := (h_31).2; have := (h_36).1; have := (h_36).2; omega))).2; rw [show (10 : Int32).toNatClampNeg = 10 from rfl, hWD.2] at q9; exact q9)]; rfl)), rfl⟩, by rw [ht]; exact hP, va_K.moved hW.alike hK, hD⟩, hS.F ht⟩) hS.2.2 dX13_weight_171
        by_cases c_37 : (ty : Int32).toInt = 2
        · refine lv_tableIn (tgt := 172) hx hb dX13_weight_97 (by rw [c_37]; decide) (by rw [c_37]; decide) (by rw [c_37]; rfl) (by decide) ?_
          have h_38 : iv 2 2 ty := iv_at c_37
          refine lv_aload_n hx hb dX13_weight_172 rfl (lv_at hl 0 rfl) ?_
          refine lv_iload_n hx hb dX13_weight_173 rfl (lv_at hl 2 rfl) ?_
          refine mr_calli (rest := []) ⟨hx, hb, hml, hown, htb⟩ (f_length9 l dC dI h0 ad cid sg gm lg vl rg T9 hI hvvl hRW hT9) (cwV 1 htb (gd_V kw_1294 kw_1295 kw_135 kw_160 kw_1645) rfl rfl rfl (by decide +kernel) ⟨Nat.le_of_ble_eq_true rfl, Nat.le_of_ble_eq_true rfl⟩) rfl hl.1 rfl (Nat.le_of_ble_eq_true rfl) dX13_weight_174 ⟨Nat.zero_le _, Nat.zero_le _⟩ hK hP hD hS hA (fun r_39 u_40 H locs hw hP hD hS => ?_)
          obtain ⟨hr_39, fl_r_39, rfl⟩ := hw
          have hP : va_P (dC, dI) vwCl (mW h0 ad cid sg gm lg) H := hP
          have hD : va_D A (mW h0 ad cid sg gm lg) := hD
          refine lv_iconst (v := 1) hx hb dX13_weight_177 (by decide) ?_
          refine lv_icmp_ne (tgt := 185) hx hb dX13_weight_178 (by decide) (fun c_41 => ?_) (fun c_41 => ?_)
          · have d_42 : ¬ (r_39 : Int32).toInt = 1 := lv_neT c_41 rfl
            refine lv_iconst (v := (-1)) hx hb dX13_weight_185 (by decide) ?_
            exact W.iret (v := (-1)) hx hb hr (fun t ht hW => ⟨⟨(-1), (sg, gm, lg), rfl, ⟨(iv_w (iv_k (by decide) : iv (-1) (-1) (-1)) (by decide)), ((by have q9 := fl_r_39; rw [wC_7 h25, show ty.toInt = 2 from (by have := i32_0; have := i32_1; have := i32_2; have := i32_m1; have := (h_14).1; have := (h_14).2; have := (hvvl).1; have := (hvvl).2; have := (h_38).1; have := (h_38).2; have := (hr_39).1; have := (hr_39).2; omega), wT_2 hX9, if_neg (by have := i32_0; have := i32_1; have := i32_2; have := i32_m1; have := (h_14).1; have := (h_14).2; have := (hvvl).1; have := (hvvl).2; have := (h_38).1; have := (h_38).2; have := (hr_39).1; have := (hr_39).2; omega)]; rfl)), rfl⟩, by rw [ht]; exact hP, va_K.moved hW.alike hK, hD⟩, hS.F ht⟩) hS.2.2 dX13_weight_186
          · have h_43 : iv 1 1 r_39 := iv_eq c_41 hr_39 (iv_k (by decide) : iv 1 1 1) (by decide)
            refine lv_iconst (v := 2) hx hb dX13_weight_181 (by decide) ?_
            refine lv_goto (tgt := 186) hx hb dX13_weight_182 (by decide) ?_
            exact W.iret (v := 2) hx hb hr (fun t ht hW => ⟨⟨2, (sg, gm, lg), rfl, ⟨(iv_w (iv_k (by decide) : iv 2 2 2) (by decide)), ((by have q9 := fl_r_39; rw [wC_7 h25, show ty.toInt = 2 from (by have := i32_0; have := i32_1; have := i32_2; have := i32_m1; have := (h_14).1; have := (h_14).2; have := (hvvl).1; have := (hvvl).2; have := (h_38).1; have := (h_38).2; have := (h_43).1; have := (h_43).2; omega), wT_2 hX9, if_pos (by have := i32_0; have := i32_1; have := i32_2; have := i32_m1; have := (h_14).1; have := (h_14).2; have := (hvvl).1; have := (hvvl).2; have := (h_38).1; have := (h_38).2; have := (h_43).1; have := (h_43).2; omega)]; rfl)), rfl⟩, by rw [ht]; exact hP, va_K.moved hW.alike hK, hD⟩, hS.F ht⟩) hS.2.2 dX13_weight_186
        by_cases c_44 : (ty : Int32).toInt = 3
        · refine lv_tableIn (tgt := 187) hx hb dX13_weight_97 (by rw [c_44]; decide) (by rw [c_44]; decide) (by rw [c_44]; rfl) (by decide) ?_
          have h_45 : iv 3 3 ty := iv_at c_44
          refine lv_iconst (v := 3) hx hb dX13_weight_187 (by decide) ?_
          exact W.iret (v := 3) hx hb hr (fun t ht hW => ⟨⟨3, (sg, gm, lg), rfl, ⟨(iv_w (iv_k (by decide) : iv 3 3 3) (by decide)), ((by rw [wC_7 h25, show ty.toInt = 3 from (by have := i32_0; have := i32_1; have := i32_2; have := i32_m1; have := (h_14).1; have := (h_14).2; have := (hvvl).1; have := (hvvl).2; have := (h_45).1; have := (h_45).2; omega), wT_3]; rfl)), rfl⟩, by rw [ht]; exact hP, va_K.moved hW.alike hK, hD⟩, hS.F ht⟩) hS.2.2 dX13_weight_188
        refine lv_tableOut (tgt := 189) hx hb dX13_weight_97 (by have q1 := ((iv_all ty)).1; have q2 := ((iv_all ty)).2; omega) (by decide) ?_
        refine lv_iconst (v := (-1)) hx hb dX13_weight_189 (by decide) ?_
        exact W.iret (v := (-1)) hx hb hr (fun t ht hW => ⟨⟨(-1), (sg, gm, lg), rfl, ⟨(iv_w (iv_k (by decide) : iv (-1) (-1) (-1)) (by decide)), ((by rw [wC_7 h25, wT_o (by have := i32_0; have := i32_1; have := i32_2; have := i32_m1; have := (h_14).1; have := (h_14).2; have := (hvvl).1; have := (hvvl).2; omega)]; rfl)), rfl⟩, by rw [ht]; exact hP, va_K.moved hW.alike hK, hD⟩, hS.F ht⟩) hS.2.2 dX13_weight_190
      · have h_46 : iv 1 1 kd := iv_eq c_15 h_14 (iv_k (by decide) : iv 1 1 1) (by decide)
        have hv51 : iv 0 59 vl := ⟨(hvvl).1, hvo.1 (by have := i32_0; have := i32_1; have := i32_2; have := i32_m1; have := (h_46).1; have := (h_46).2; have := (hvvl).1; have := (hvvl).2; omega)⟩
        refine lv_iconst (v := 0) hx hb dX13_weight_48 (by decide) ?_
        refine lv_istore (lv' := [(4, .int 0), (0, .ref h0), (1, .int kd), (2, .int vl), (3, .int ty)]) hx hb dX13_weight_49 hl (by decide) rfl (fun ls hl => ?_)
        refine lv_aload_n hx hb dX13_weight_51 rfl (lv_at hl 1 rfl) ?_
        refine mr_get (v := .ref (ad 53)) hx hb htb inX13 hown hK hP 53 (by decide) (htb _ kw_1080) rfl dX13_weight_52 ?_
        refine lv_iload_n hx hb dX13_weight_55 rfl (lv_at hl 3 rfl) ?_
        refine mr_iald hx hb hK hP 39 (k := 53) rfl rfl rfl (show vp_in vl 60 from (iv_in hv51 (by decide))) dX13_weight_56 ?_
        refine lv_topi (fun z_47 ez_47 => ?_)
        have hz_47 : iv 0 7 z_47 := iv_of ez_47 (MI_a hI 53 hv51 (by decide))
        refine lv_istore (lv' := [(5, .int z_47), (4, .int 0), (0, .ref h0), (1, .int kd), (2, .int vl), (3, .int ty)]) hx hb dX13_weight_57 hl (by decide) rfl (fun ls hl => ?_)
        exact hj59 _ z_47 0 rfl (iv_w hz_47 (by decide)) (iv_w (iv_k (by decide) : iv 0 0 0) (by decide)) h_46 hv51 ((show kd.toInt = 1 from (by have := i32_0; have := i32_1; have := i32_2; have := i32_m1; have := (h_46).1; have := (h_46).2; have := (hv51).1; have := (hv51).2; have := (hz_47).1; have := (hz_47).2; omega))) ((RR_cl hRR (show 0 ≤ vl.toInt from (by have := i32_0; have := i32_1; have := i32_2; have := i32_m1; have := (h_46).1; have := (h_46).2; have := (hv51).1; have := (hv51).2; have := (hz_47).1; have := (hz_47).2; omega)) (VR_1 hV (by have := i32_0; have := i32_1; have := i32_2; have := i32_m1; have := (h_46).1; have := (h_46).2; have := (hv51).1; have := (hv51).2; have := (hz_47).1; have := (hz_47).2; omega)).2.2.2).1) ((by rw [← ez_47]; exact stR_0 hCL hRW hPR (show iv (-1) 7 z_47 from (iv_w hz_47 (by decide))))) (⟨(by decide), (by have q9 := ((show iv (-1) 7 z_47 from (iv_w hz_47 (by decide)))).2; have := i32_0; have := i32_1; have := i32_2; have := i32_m1; have := (h_46).1; have := (h_46).2; have := (hv51).1; have := (hv51).2; have := (hz_47).1; have := (hz_47).2; omega)⟩) _ _ _ hP hD hS (lv_sub hl [0, 1, 2, 3, 4, 5] rfl)
    · have h_48 : iv 3 3 kd := iv_eq c_13 hvkd (iv_k (by decide) : iv 3 3 3) (by decide)
      refine lv_iload_n hx hb dX13_weight_32 rfl (lv_at hl 3 rfl) ?_
      refine lv_iconst (v := 4) hx hb dX13_weight_33 (by decide) ?_
      refine lv_icmp_ne (tgt := 41) hx hb dX13_weight_34 (by decide) (fun c_49 => ?_) (fun c_49 => ?_)
      · have d_50 : ¬ (ty : Int32).toInt = 4 := lv_neT c_49 rfl
        refine lv_iconst (v := (-1)) hx hb dX13_weight_41 (by decide) ?_
        exact W.iret (v := (-1)) hx hb hr (fun t ht hW => ⟨⟨(-1), (sg, gm, lg), rfl, ⟨(iv_w (iv_k (by decide) : iv (-1) (-1) (-1)) (by decide)), ((by rw [wC_6 (VR_3 hV (show kd.toInt = 3 from (by have := i32_0; have := i32_1; have := i32_2; have := i32_m1; have := (h_48).1; have := (h_48).2; have := (hvvl).1; have := (hvvl).2; omega))).1, if_neg (by have := i32_0; have := i32_1; have := i32_2; have := i32_m1; have := (h_48).1; have := (h_48).2; have := (hvvl).1; have := (hvvl).2; omega)]; rfl)), rfl⟩, by rw [ht]; exact hP, va_K.moved hW.alike hK, hD⟩, hS.F ht⟩) hS.2.2 dX13_weight_42
      · have h_51 : iv 4 4 ty := iv_eq c_49 (iv_all ty) (iv_k (by decide) : iv 4 4 4) (by decide)
        refine lv_iconst (v := 0) hx hb dX13_weight_37 (by decide) ?_
        refine lv_goto (tgt := 42) hx hb dX13_weight_38 (by decide) ?_
        exact W.iret (v := 0) hx hb hr (fun t ht hW => ⟨⟨0, (sg, gm, lg), rfl, ⟨(iv_w (iv_k (by decide) : iv 0 0 0) (by decide)), ((by rw [wC_6 (VR_3 hV (show kd.toInt = 3 from (by have := i32_0; have := i32_1; have := i32_2; have := i32_m1; have := (h_48).1; have := (h_48).2; have := (hvvl).1; have := (hvvl).2; have := (h_51).1; have := (h_51).2; omega))).1, if_pos (by have := i32_0; have := i32_1; have := i32_2; have := i32_m1; have := (h_48).1; have := (h_48).2; have := (hvvl).1; have := (hvvl).2; have := (h_51).1; have := (h_51).2; omega)]; rfl)), rfl⟩, by rw [ht]; exact hP, va_K.moved hW.alike hK, hD⟩, hS.F ht⟩) hS.2.2 dX13_weight_42
  · have h_52 : iv 2 2 kd := iv_eq c_11 hvkd (iv_k (by decide) : iv 2 2 2) (by decide)
    refine lv_iload_n hx hb dX13_weight_5 rfl (lv_at hl 3 rfl) ?_
    refine lv_iconst (v := 3) hx hb dX13_weight_6 (by decide) ?_
    refine lv_icmp_eq (tgt := 21) hx hb dX13_weight_7 (by decide) (fun c_53 => ?_) (fun c_53 => ?_)
    · have h_54 : iv 3 3 ty := iv_eq c_53 (iv_all ty) (iv_k (by decide) : iv 3 3 3) (by decide)
      refine lv_iconst (v := 0) hx hb dX13_weight_21 (by decide) ?_
      refine lv_goto (tgt := 26) hx hb dX13_weight_22 (by decide) ?_
      exact W.iret (v := 0) hx hb hr (fun t ht hW => ⟨⟨0, (sg, gm, lg), rfl, ⟨(iv_w (iv_k (by decide) : iv 0 0 0) (by decide)), ((by rw [wC_9 (VR_2 hV (show kd.toInt = 2 from (by have := i32_0; have := i32_1; have := i32_2; have := i32_m1; have := (h_52).1; have := (h_52).2; have := (hvvl).1; have := (hvvl).2; have := (h_54).1; have := (h_54).2; omega))), if_pos (by have := i32_0; have := i32_1; have := i32_2; have := i32_m1; have := (h_52).1; have := (h_52).2; have := (hvvl).1; have := (hvvl).2; have := (h_54).1; have := (h_54).2; omega)]; rfl)), rfl⟩, by rw [ht]; exact hP, va_K.moved hW.alike hK, hD⟩, hS.F ht⟩) hS.2.2 dX13_weight_26
    · have d_55 : ¬ (ty : Int32).toInt = 3 := lv_neT c_53 rfl
      refine lv_iload_n hx hb dX13_weight_10 rfl (lv_at hl 3 rfl) ?_
      refine lv_iconst (v := 4) hx hb dX13_weight_11 (by decide) ?_
      refine lv_icmp_eq (tgt := 21) hx hb dX13_weight_12 (by decide) (fun c_56 => ?_) (fun c_56 => ?_)
      · have h_57 : iv 4 4 ty := iv_eq c_56 (iv_all ty) (iv_k (by decide) : iv 4 4 4) (by decide)
        refine lv_iconst (v := 0) hx hb dX13_weight_21 (by decide) ?_
        refine lv_goto (tgt := 26) hx hb dX13_weight_22 (by decide) ?_
        exact W.iret (v := 0) hx hb hr (fun t ht hW => ⟨⟨0, (sg, gm, lg), rfl, ⟨(iv_w (iv_k (by decide) : iv 0 0 0) (by decide)), ((by rw [wC_9 (VR_2 hV (show kd.toInt = 2 from (by have := i32_0; have := i32_1; have := i32_2; have := i32_m1; have := (h_52).1; have := (h_52).2; have := (hvvl).1; have := (hvvl).2; have := (h_57).1; have := (h_57).2; omega))), if_pos (by have := i32_0; have := i32_1; have := i32_2; have := i32_m1; have := (h_52).1; have := (h_52).2; have := (hvvl).1; have := (hvvl).2; have := (h_57).1; have := (h_57).2; omega)]; rfl)), rfl⟩, by rw [ht]; exact hP, va_K.moved hW.alike hK, hD⟩, hS.F ht⟩) hS.2.2 dX13_weight_26
      · have d_58 : ¬ (ty : Int32).toInt = 4 := lv_neT c_56 rfl
        refine lv_iload_n hx hb dX13_weight_15 rfl (lv_at hl 3 rfl) ?_
        refine lv_bipush (v := 7) hx hb dX13_weight_16 (by decide) ?_
        refine lv_icmp_le (tgt := 25) hx hb dX13_weight_18 (by decide) (fun c_59 => ?_) (fun c_59 => ?_)
        · have h_60 : iv (-2147483648) 7 ty := iv_leL c_59 (iv_all ty) (iv_k (by decide) : iv 7 7 7) (by decide)
          refine lv_iconst (v := (-1)) hx hb dX13_weight_25 (by decide) ?_
          exact W.iret (v := (-1)) hx hb hr (fun t ht hW => ⟨⟨(-1), (sg, gm, lg), rfl, ⟨(iv_w (iv_k (by decide) : iv (-1) (-1) (-1)) (by decide)), ((by rw [wC_9 (VR_2 hV (show kd.toInt = 2 from (by have := i32_0; have := i32_1; have := i32_2; have := i32_m1; have := (h_52).1; have := (h_52).2; have := (hvvl).1; have := (hvvl).2; have := (h_60).1; have := (h_60).2; omega))), if_neg (by have := hty; have := i32_0; have := i32_1; have := i32_2; have := i32_m1; have := (h_52).1; have := (h_52).2; have := (hvvl).1; have := (hvvl).2; have := (h_60).1; have := (h_60).2; omega)]; rfl)), rfl⟩, by rw [ht]; exact hP, va_K.moved hW.alike hK, hD⟩, hS.F ht⟩) hS.2.2 dX13_weight_26
        · have h_61 : iv 8 2147483647 ty := iv_ltR (i32_lt c_59) (iv_k (by decide) : iv 7 7 7) (iv_all ty) (by decide)
          refine lv_iconst (v := 0) hx hb dX13_weight_21 (by decide) ?_
          refine lv_goto (tgt := 26) hx hb dX13_weight_22 (by decide) ?_
          exact W.iret (v := 0) hx hb hr (fun t ht hW => ⟨⟨0, (sg, gm, lg), rfl, ⟨(iv_w (iv_k (by decide) : iv 0 0 0) (by decide)), ((by rw [wC_9 (VR_2 hV (show kd.toInt = 2 from (by have := i32_0; have := i32_1; have := i32_2; have := i32_m1; have := (h_52).1; have := (h_52).2; have := (hvvl).1; have := (hvvl).2; have := (h_61).1; have := (h_61).2; omega))), if_pos (by have := i32_0; have := i32_1; have := i32_2; have := i32_m1; have := (h_52).1; have := (h_52).2; have := (hvvl).1; have := (hvvl).2; have := (h_61).1; have := (h_61).2; omega)]; rfl)), rfl⟩, by rw [ht]; exact hP, va_K.moved hW.alike hK, hD⟩, hS.F ht⟩) hS.2.2 dX13_weight_26
end
