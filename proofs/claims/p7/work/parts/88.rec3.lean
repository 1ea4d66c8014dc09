set_option maxHeartbeats 4000000 in
set_option maxRecDepth 100000 in
theorem d_applySets (l : Launch) (dC : Nat → ClassId) (dI : Nat → Nat → Nat) (ad : Nat → Nat → Nat) (cid : Nat → ClassId) (a2 : Nat → Nat) (lx : List Nat) (sg : Nat → Int32) (gm : Nat → Nat → Int32) (lg : Nat → Nat → Int64) (hl9 : l.stackTraces = false) (n9 : Nat) (HO : PO l dC dI ad cid a2 lx n9) (HM : PM l dC dI ad cid a2 lx n9) (x : Int32) (b : Int32) (dp : Int32) (hI : CI sg gm) (hvx : iv 0 0 x) (hvb : iv 0 79 b) (hvdp : iv 0 39 dp) (hW : WRD sg gm lg) (hLD : LDI lx gm) (hMO : MOK sg gm lg) (hFN : FND9 sg gm) (hb12 : b.toInt < (sg 12).toInt) (h37 : ¬ gm 37 b.toNatClampNeg = 0) (h39 : 0 ≤ (gm 39 b.toNatClampNeg).toInt) (hdp : dp.toInt + ((n9 + 1 : Nat) : Int) = 40) : CMt dC dI ad cid a2 lx l yX5_applySets wm_X5_applySets ({ frames := 27 + 8 * n9, cells := 1, slots := 6, locals := 800 + 260 * n9 }) [eV (ad 6) x, eV (ad 10) b, .int dp] sg gm lg (fun v u => v = none ∧ ∃ (sg2 : Nat → Int32) (gm2 : Nat → Nat → Int32) (lg2 : Nat → Nat → Int64), u = (sg2, gm2, lg2) ∧ CI sg2 gm2 ∧ KS [13, 14, 15, 16, 17, 18] sg sg2 ∧ KS [37, 38, 39, 48, 49, 50, 51, 52, 53] gm gm2 ∧ KS [] lg lg2 ∧ (MOK sg2 gm2 lg2) ∧ (FND9 sg2 gm2) ∧ (BMK gm gm2) ∧ (WFR (24 * dp.toNatClampNeg) gm gm2)) (fun E u => (E = "java/lang/UnsupportedOperationException") ∧ ∃ (sg2 : Nat → Int32) (gm2 : Nat → Nat → Int32) (lg2 : Nat → Nat → Int64), u = (sg2, gm2, lg2) ∧ CI sg2 gm2 ∧ KS [13, 14, 15, 16, 17, 18] sg sg2 ∧ KS [37, 38, 39, 48, 49, 50, 51, 52, 53] gm gm2 ∧ KS [] lg lg2 ∧ (MOK sg2 gm2 lg2) ∧ (FND9 sg2 gm2)) := by
  intro sz
  refine vx_ofW (cc := cX5_applySets) (maxL := 8) (ret := none) (by decide) rfl ?_
  intro p e s m args below meth c s₁ B hml hxt hv
  obtain ⟨rfl, hsz, hP, hK, hD0, hG⟩ := hv
  have hx := B.exec
  have hb := B.bytes
  have hr := B.returns
  have hts := atoms_spec (ws := wm_X5_applySets) B.pre
  have htb := fun (w : Cond) (h : w ∈ tb) => hts w (List.mem_cons_of_mem _ h)
  have hown : s.vm.findClass RX5 = some m.cls := findClass_of_methodNamed B.named
  have hlocks := B.notSynchronized
  subst hsz
  have hD := hD0.self (sz := s.heap.size)
  generalize hAe : va_A (cW ad cid a2 lx sg gm lg) s.heap.size = A at hD hG ⊢
  have hA : ∀ q : Nat, s.heap.size ≤ q → A q := fun q h => by rw [← hAe]; exact Or.inr h
  have hS : va_S A s.heap s.heap [] := va_S.rf
  have hl := lv_entry ([eV (ad 6) x, eV (ad 10) b, .int dp]) (n := 8) (by rw [show (lg_sl ([eV (ad 6) x, eV (ad 10) b, .int dp])).length = 3 from by simp [lg_sl, eV_cat, cat_i, cat_l]]; exact Nat.le_of_ble_eq_true rfl)
  rw [lg_entry_eq]
  generalize (lg_sl ([eV (ad 6) x, eV (ad 10) b, .int dp]) ++ List.replicate (8 - (lg_sl ([eV (ad 6) x, eV (ad 10) b, .int dp])).length) Slot.unset).toArray = ls at hl ⊢
  have hl : lv_has ls 8 [(0, eV (ad 6) x), (1, eV (ad 10) b), (2, .int dp)] := by simp [lv_args, eV_cat, cat_i, cat_l] at hl; exact hl
  have hj15 : ∀ (n : Nat) (sg_j15 : Nat → Int32) (gm_j15 : Nat → Nat → Int32) (x5_15 : Int32) (x4_15 : Int32) (x3_15 : Int32) (_ : (80 - x5_15.toInt).toNat = n) (_ : iv 0 80 x5_15) (_ : iv 0 954 x4_15) (_ : iv 0 59 x3_15) (_ : iv 0 0 x) (_ : iv 0 79 b) (_ : iv 0 39 dp) (_ : KS [13, 14, 15, 16, 17, 18] sg sg_j15) (_ : KS [37, 38, 39, 48, 49, 50, 51, 52, 53] gm gm_j15) (_ : CI sg_j15 gm_j15) (_ : MOK sg_j15 gm_j15 lg) (_ : FND9 sg_j15 gm_j15) (_ : BMK gm gm_j15) (_ : WFR (24 * dp.toNatClampNeg) gm gm_j15) (_ : x4_15.toInt = 24 * dp.toInt) (H : Heap) (locs : List Loc) (ls : Array Slot), va_P (dC, dI) vwCl (cW ad cid a2 lx sg_j15 gm_j15 lg) H → va_D A (cW ad cid a2 lx sg_j15 gm_j15 lg) → va_S A s.heap H locs → lv_has ls 8 [(5, .int x5_15), (4, .int x4_15), (3, .int x3_15), (0, eV (ad 6) x), (1, eV (ad 10) b), (2, .int dp)] → W p l e (headSpec wm_X5_applySets ({ frames := 27 + 8 * n9, cells := 1, slots := 6, locals := 800 + 260 * n9 })).room s m ([eV (ad 6) x, eV (ad 10) b, .int dp] : List Value).toArray below meth c H locs 0 0 (vx_MQ below (cQx dC dI ad cid a2 lx (fun v u => v = none ∧ ∃ (sg2 : Nat → Int32) (gm2 : Nat → Nat → Int32) (lg2 : Nat → Nat → Int64), u = (sg2, gm2, lg2) ∧ CI sg2 gm2 ∧ KS [13, 14, 15, 16, 17, 18] sg sg2 ∧ KS [37, 38, 39, 48, 49, 50, 51, 52, 53] gm gm2 ∧ KS [] lg lg2 ∧ (MOK sg2 gm2 lg2) ∧ (FND9 sg2 gm2) ∧ (BMK gm gm2) ∧ (WFR (24 * dp.toNatClampNeg) gm gm2)) A) (cX dC dI ad cid a2 lx (fun E u => (E = "java/lang/UnsupportedOperationException") ∧ ∃ (sg2 : Nat → Int32) (gm2 : Nat → Nat → Int32) (lg2 : Nat → Nat → Int64), u = (sg2, gm2, lg2) ∧ CI sg2 gm2 ∧ KS [13, 14, 15, 16, 17, 18] sg sg2 ∧ KS [37, 38, 39, 48, 49, 50, 51, 52, 53] gm gm2 ∧ KS [] lg lg2 ∧ (MOK sg2 gm2 lg2) ∧ (FND9 sg2 gm2)) A) ([eV (ad 6) x, eV (ad 10) b, .int dp] : List Value).toArray s 1 6 A) (F0 m 15 ls []) := by
    intro n
    induction n using Nat.strongRecOn with
    | ind n ih15 =>
      intro sg_j15 gm_j15 x5_15 x4_15 x3_15 hn15 hx5_15 hx4_15 hx3_15 hsx0_15 hsx1_15 hsx2_15 hks_j15 hkg_j15 hI_j15 hMOj hFNj hBMj hWFj h4s H locs ls hP hD hS hl
      refine lv_iload hx hb dX5_applySets_15 (lv_at hl 0 rfl) ?_
      refine ec_aload_n hx hb dX5_applySets_17 rfl (lv_at hl 4 rfl) ?_
      obtain ⟨q_1, hq_1, nq_1, tq_1⟩ := ix_mk (3 * b.toNatClampNeg + 1) 239 (by have q1 := iv_cl hsx1_15 (by decide); have q2 := (hsx1_15).2; omega) (by decide)
      refine cr_get (t := 10) (j := 2) (C := RX1) (T := TX1) (N := 19) (v := eV (ad 11) q_1) hx hb htb inX1 hown hK hP hsx1_15 (by decide) (by decide) (by decide) rfl (by decide) (htb _ kw_1026) (cV_c rfl hq_1.1 nq_1) dX5_applySets_18 ?_
      refine cm_callV (t := 11) (C := RJx4a65c) (T := TJx4a65c) (N := 3) (rest := [.int x5_15]) (as := []) ⟨hx, hb, hml, hown, htb⟩ (d_lsize l dC dI ad cid a2 lx sg_j15 gm_j15 lg q_1 hI_j15 hq_1) (cwV 0 htb (gd_V kw_1032 kw_791 kw_792 kw_98 kw_1511) rfl rfl rfl (by decide +kernel) ⟨(show 0 + 1 ≤ 27 + 8 * n9 from by omega), (show 8 + (1 + 11) + (0) ≤ 800 + 260 * n9 from by omega)⟩) hq_1 (by decide) (by decide) rfl rfl hl.1 rfl (Nat.le_trans (cs_c (cat_i _) cs_n) (by decide)) dX5_applySets_21 ⟨Nat.le_of_ble_eq_true rfl, Nat.le_of_ble_eq_true rfl⟩ hK hP hD hS hA hG (fun E ce q9 u_3 H locs hw hP hD hS hce hcv hcl => ?_) (fun v9 u_3 H locs hw hP hD hS => ?_)
      · exact hw.elim
      obtain ⟨r_2, rfl, rfl, hr_2, fr_r_2⟩ := hw
      have hP : va_P (dC, dI) vwCl (cW ad cid a2 lx sg_j15 gm_j15 lg) H := hP
      have hD : va_D A (cW ad cid a2 lx sg_j15 gm_j15 lg) := hD
      refine W.eq (g2 := F0 m 24 ls [.int r_2, .int x5_15]) rfl ?_
      have fr_r_2 := fr_r_2.trans (congrFun (show gm_j15 41 = gm 41 from (hkg_j15 41 (by decide))) _)
      refine lv_icmp_ge (tgt := 137) hx hb dX5_applySets_24 (by decide) (fun c_5 => ?_) (fun c_5 => ?_)
      · have d_6 : (r_2 : Int32).toInt ≤ (x5_15 : Int32).toInt := Int32.le_iff_toInt_le.mp c_5
        exact W.nb (fun hN => W.widen (k := 1) (n := 6) (by decide) (by decide) (vx_ret (W.vret hx hb hr (fun t ht hW => ⟨⟨none, (sg_j15, gm_j15, lg), rfl, ⟨rfl, sg_j15, gm_j15, lg, rfl, hI_j15, (KS_tr (L := [13, 14, 15, 16, 17, 18]) KS_rf hks_j15 (by decide)), (KS_tr (L := [37, 38, 39, 48, 49, 50, 51, 52, 53]) KS_rf hkg_j15 (by decide)), KS_rf, (hMOj), (hFNj), (hBMj), (hWFj)⟩, by rw [ht]; exact hP, va_K.moved hW.alike hK, hD⟩, hS.F ht, by rw [ht]; exact hN⟩) hS.2.2 dX5_applySets_137)))
      · have d_7 : (x5_15 : Int32).toInt < (r_2 : Int32).toInt := Int32.lt_iff_toInt_lt.mp (i32_lt c_5)
        have h_8 : iv 0 79 x5_15 := iv_ltL (i32_lt c_5) hx5_15 hr_2 (by decide)
        have h_9 : iv 1 80 r_2 := iv_ltR (i32_lt c_5) hx5_15 hr_2 (by decide)
        refine ec_aload_n hx hb dX5_applySets_27 rfl (lv_at hl 4 rfl) ?_
        refine cr_get (t := 10) (j := 2) (C := RX1) (T := TX1) (N := 19) (v := eV (ad 11) q_1) hx hb htb inX1 hown hK hP hsx1_15 (by decide) (by decide) (by decide) rfl (by decide) (htb _ kw_1026) (cV_c rfl hq_1.1 nq_1) dX5_applySets_28 ?_
        refine lv_iload hx hb dX5_applySets_31 (lv_at hl 0 rfl) ?_
        refine cm_callV (t := 11) (C := RJx4a65c) (T := TJx4a65c) (N := 3) (rest := []) (as := [.int x5_15]) ⟨hx, hb, hml, hown, htb⟩ (d_lget l dC dI ad cid a2 lx sg_j15 gm_j15 lg q_1 x5_15 hI_j15 hq_1 (LDI_e hLD (hkg_j15 41 (by decide)) (hkg_j15 42 (by decide)) (hkg_j15 57 (by decide))) (by have := i32_0; have := i32_1; have := i32_2; have := i32_m1; have := (hsx0_15).1; have := (hsx0_15).2; have := (hsx1_15).1; have := (hsx1_15).2; have := (hsx2_15).1; have := (hsx2_15).2; have := (h_8).1; have := (h_8).2; have := (hx4_15).1; have := (hx4_15).2; have := (hx3_15).1; have := (hx3_15).2; have := (hq_1).1; have := (hq_1).2; have := (h_9).1; have := (h_9).2; omega) (by rw [show gm_j15 41 = gm 41 from (hkg_j15 41 (by decide)), ← fr_r_2]; have := i32_0; have := i32_1; have := i32_2; have := i32_m1; have := (hsx0_15).1; have := (hsx0_15).2; have := (hsx1_15).1; have := (hsx1_15).2; have := (hsx2_15).1; have := (hsx2_15).2; have := (h_8).1; have := (h_8).2; have := (hx4_15).1; have := (hx4_15).2; have := (hx3_15).1; have := (hx3_15).2; have := (hq_1).1; have := (hq_1).2; have := (h_9).1; have := (h_9).2; omega)) (cwV 1 htb (gd_V kw_1033 kw_794 kw_795 kw_98 kw_1512) rfl rfl rfl (by decide +kernel) ⟨(show 2 + 1 ≤ 27 + 8 * n9 from by omega), (show 8 + (2 + 11) + (43) ≤ 800 + 260 * n9 from by omega)⟩) hq_1 (by decide) (by decide) rfl rfl hl.1 rfl (Nat.le_trans cs_n (by decide)) dX5_applySets_33 ⟨Nat.le_of_ble_eq_true rfl, Nat.le_of_ble_eq_true rfl⟩ hK hP hD hS hA hG (fun E ce q9 u_11 H locs hw hP hD hS hce hcv hcl => ?_) (fun v9 u_11 H locs hw hP hD hS => ?_)
        · exact hw.elim
        obtain ⟨r_10, rfl, rfl, hr_10, fr_r_10⟩ := hw
        have hP : va_P (dC, dI) vwCl (cW ad cid a2 lx sg_j15 gm_j15 lg) H := hP
        have hD : va_D A (cW ad cid a2 lx sg_j15 gm_j15 lg) := hD
        refine W.eq (g2 := F0 m 36 ls [eV (ad 9) r_10]) rfl ?_
        have fr_r_10 := fr_r_10.trans (congrFun (show gm_j15 57 = gm 57 from (hkg_j15 57 (by decide))) _)
        have fa_r_10 : r_10 = gm 57 (128 * (3 * b.toNatClampNeg + 1) + x5_15.toNatClampNeg) := by rw [fr_r_10, show q_1.toNatClampNeg = 3 * b.toNatClampNeg + 1 from nq_1]
        have hai_r_10 : x5_15.toNatClampNeg < (gm 41 (3 * b.toNatClampNeg + 1)).toNatClampNeg := (by have q1 := congrArg Int32.toInt fr_r_2; rw [show q_1.toNatClampNeg = 3 * b.toNatClampNeg + 1 from nq_1] at q1; have k9 : (gm 41 (3 * b.toNatClampNeg + 1)).toNatClampNeg = (gm 41 (3 * b.toNatClampNeg + 1)).toInt.toNat := rfl; have q1 : x5_15.toNatClampNeg = x5_15.toInt.toNat := rfl; have := i32_0; have := i32_1; have := i32_2; have := i32_m1; have := (hsx0_15).1; have := (hsx0_15).2; have := (hsx1_15).1; have := (hsx1_15).2; have := (hsx2_15).1; have := (hsx2_15).2; have := (h_8).1; have := (h_8).2; have := (hx4_15).1; have := (hx4_15).2; have := (hx3_15).1; have := (hx3_15).2; have := (hq_1).1; have := (hq_1).2; have := (h_9).1; have := (h_9).2; have := (hr_10).1; have := (hr_10).2; omega)
        have hct_r_10 := arg_in (k := 1) (w := 4) hI hW hLD (Or.inr ⟨rfl, rfl⟩) (lt_cl hvb (show iv 0 80 (sg 12) from CI_s hI 12) (by decide) (by decide) hb12) hai_r_10
        rw [← fa_r_10] at hct_r_10
        refine cl_cast hx hb hG hown (htb _ kw_1027) hK hP hr_10 (by decide) dX5_applySets_36 ?_
        refine ec_astore (i := 6) (lv' := [(6, eV (ad 9) r_10), (5, .int x5_15), (4, .int x4_15), (3, .int x3_15), (0, eV (ad 6) x), (1, eV (ad 10) b), (2, .int dp)]) hx hb dX5_applySets_39 hl (by decide) rfl (fun ls hl => ?_)
        refine ec_aload_n hx hb dX5_applySets_41 rfl (lv_at hl 4 rfl) ?_
        refine ec_aload hx hb dX5_applySets_42 (lv_at hl 0 rfl) ?_
        refine cr_get (t := 9) (j := 19) (C := RX3) (T := TX3) (N := 21) (v := eV (ad 9) (gm_j15 26 r_10.toNatClampNeg)) hx hb htb inX3 hown hK hP hr_10 (by decide) (by decide) (by decide) rfl (by decide) (htb _ kw_1028) rfl dX5_applySets_44 ?_
        obtain ⟨z_13, ez_13⟩ : ∃ z : Int32, z = (gm_j15 26 r_10.toNatClampNeg) := ⟨_, rfl⟩
        refine W.eq (g2 := F0 m 47 ls [eV (ad 9) z_13, eV (ad 6) x]) (by rw [ez_13]) ?_
        have hz_13 : iv (-1) 79 z_13 := iv_of ez_13 (CI_a hI_j15 26 hr_10 (by decide))
        have ez_13 := ez_13.trans (congrFun (hkg_j15 26 (by decide)) _)
        have h_14 : iv 0 79 z_13 := ⟨by rw [ez_13]; exact hct_r_10.1.1, (hz_13).2⟩
        refine lv_iload hx hb dX5_applySets_47 (lv_at hl 2 rfl) ?_
        refine lv_iload_n hx hb dX5_applySets_49 rfl (lv_at hl 6 rfl) ?_
        refine cm_callV (t := 6) (C := RX5) (T := TX5) (N := 13) (rest := []) (as := [eV (ad 9) z_13, .int x4_15, .int dp]) ⟨hx, hb, hml, hown, htb⟩ (d_workOut l dC dI ad cid a2 lx sg_j15 gm_j15 lg hl9 n9 HO HM x z_13 x4_15 dp hI_j15 hsx0_15 h_14 hx4_15 hsx2_15 (WRD_e hW (hks_j15 4 (by decide)) (hks_j15 12 (by decide)) (hkg_j15 14 (by decide)) (hkg_j15 15 (by decide)) (hkg_j15 16 (by decide)) (hkg_j15 17 (by decide)) (hkg_j15 19 (by decide)) (hkg_j15 20 (by decide)) (hkg_j15 22 (by decide)) (hkg_j15 25 (by decide)) (hkg_j15 26 (by decide)) (hkg_j15 27 (by decide)) (hkg_j15 29 (by decide)) (hkg_j15 41 (by decide)) (hkg_j15 44 (by decide)) (hkg_j15 45 (by decide)) (hkg_j15 46 (by decide)) (hkg_j15 57 (by decide)) rfl rfl) (LDI_e hLD (hkg_j15 41 (by decide)) (hkg_j15 42 (by decide)) (hkg_j15 57 (by decide))) hMOj hFNj (CTO_k (show CTO sg gm lg z_13 from (by rw [ez_13]; exact hct_r_10.1)) (hks_j15 4 (by decide)) (hks_j15 12 (by decide)) (hkg_j15 14 (by decide)) (hkg_j15 25 (by decide)) (hkg_j15 27 (by decide)) rfl) (by have q1 := h4s; have := i32_0; have := i32_1; have := i32_2; have := i32_m1; have := (hsx0_15).1; have := (hsx0_15).2; have := (hsx1_15).1; have := (hsx1_15).2; have := (hsx2_15).1; have := (hsx2_15).2; have := (h_8).1; have := (h_8).2; have := (hx4_15).1; have := (hx4_15).2; have := (hx3_15).1; have := (hx3_15).2; have := (hq_1).1; have := (hq_1).2; have := (h_9).1; have := (h_9).2; have := (hr_10).1; have := (hr_10).2; have := (h_14).1; have := (h_14).2; omega) (by have := i32_0; have := i32_1; have := i32_2; have := i32_m1; have := (hsx0_15).1; have := (hsx0_15).2; have := (hsx1_15).1; have := (hsx1_15).2; have := (hsx2_15).1; have := (hsx2_15).2; have := (h_8).1; have := (h_8).2; have := (hx4_15).1; have := (hx4_15).2; have := (hx3_15).1; have := (hx3_15).2; have := (hq_1).1; have := (hq_1).2; have := (h_9).1; have := (h_9).2; have := (hr_10).1; have := (hr_10).2; have := (h_14).1; have := (h_14).2; omega)) (cwV 3 htb (gd_V kw_1034 kw_1035 kw_1036 kw_40 kw_1595) rfl rfl rfl (by decide +kernel) ⟨(show 26 + 8 * n9 + 1 ≤ 27 + 8 * n9 from by omega), (show 8 + (6 + 11) + (760 + 260 * n9) ≤ 800 + 260 * n9 from by omega)⟩) hsx0_15 (by decide) (by decide) rfl rfl hl.1 rfl (Nat.le_trans cs_n (by decide)) dX5_applySets_50 ⟨Nat.le_of_ble_eq_true rfl, Nat.le_of_ble_eq_true rfl⟩ hK hP hD hS hA hG (fun E ce q9 u_16 H locs hw hP hD hS hce hcv hcl => ?_) (fun v9 u_16 H locs hw hP hD hS => ?_)
        · obtain ⟨hE, hw⟩ := hw
          obtain ⟨sgv_17, gmv_17, lgv_17, rfl, hIv_17, ksv_17, kgv_17, klv_17, xMO_v_17, xFN_v_17⟩ := hw
          obtain rfl := KS_nil klv_17
          have hP : va_P (dC, dI) vwCl (cW ad cid a2 lx sgv_17 gmv_17 lg) H := hP
          have hD : va_D A (cW ad cid a2 lx sgv_17 gmv_17 lg) := hD
          exact vx_out (fun x hx9 => (hxt x hx9).elim) hlocks hce hcv hcl (fun t ht hal => ⟨⟨(sgv_17, gmv_17, lg), ⟨hE, sgv_17, gmv_17, lg, rfl, hIv_17, (KS_tr (L := [13, 14, 15, 16, 17, 18]) (KS_tr (L := [13, 14, 15, 16, 17, 18]) KS_rf hks_j15 (by decide)) ksv_17 (by decide)), (KS_tr (L := [37, 38, 39, 48, 49, 50, 51, 52, 53]) (KS_tr (L := [37, 38, 39, 48, 49, 50, 51, 52, 53]) KS_rf hkg_j15 (by decide)) kgv_17 (by decide)), KS_rf, (xMO_v_17), (xFN_v_17)⟩, by rw [ht]; exact hP, va_K.moved hal hK, hD⟩, hS.F ht⟩) hS.2.2 (Nat.le_of_ble_eq_true rfl) (Nat.le_of_ble_eq_true rfl)
        obtain ⟨rfl, sgv_18, gmv_18, lgv_18, rfl, hIv_18, ksv_18, kgv_18, klv_18, fMO_r_15, fFN_r_15, fBM_r_15, fWF_r_15, fWO_r_15⟩ := hw
        obtain rfl := KS_nil klv_18
        have hP : va_P (dC, dI) vwCl (cW ad cid a2 lx sgv_18 gmv_18 lg) H := hP
        have hD : va_D A (cW ad cid a2 lx sgv_18 gmv_18 lg) := hD
        refine W.eq (g2 := F0 m 53 ls []) rfl ?_
        have bm_r_15 := BMK_t hBMj fBM_r_15
        have wf_r_15 : WFR (24 * dp.toNatClampNeg) gm gmv_18 := WFR_t hWFj fWF_r_15 (by have q1 := h4s; have q3 : x4_15.toNatClampNeg = x4_15.toInt.toNat := rfl; have qd : dp.toNatClampNeg = dp.toInt.toNat := rfl; have := i32_0; have := i32_1; have := i32_2; have := i32_m1; have := (hsx0_15).1; have := (hsx0_15).2; have := (hsx1_15).1; have := (hsx1_15).2; have := (hsx2_15).1; have := (hsx2_15).2; have := (h_8).1; have := (h_8).2; have := (hx4_15).1; have := (hx4_15).2; have := (hx3_15).1; have := (hx3_15).2; have := (hq_1).1; have := (hq_1).2; have := (h_9).1; have := (h_9).2; have := (hr_10).1; have := (hr_10).2; have := (h_14).1; have := (h_14).2; omega)
        refine ec_aload_n hx hb dX5_applySets_53 rfl (lv_at hl 4 rfl) ?_
        refine cr_get (t := 6) (j := 1) (C := RX5) (T := TX5) (N := 13) (v := eV (ad 12) 0) hx hb htb inX5 hown hK hP hsx0_15 (by decide) (by decide) (by decide) rfl (by decide) (htb _ kw_122) (cV_c rfl (by decide) (by rw [show cMu 6 1 = 0 from rfl, Nat.zero_mul]; rfl)) dX5_applySets_54 ?_
        refine ec_aload_n hx hb dX5_applySets_57 rfl (lv_at hl 4 rfl) ?_
        refine cr_get (t := 6) (j := 3) (C := RX5) (T := TX5) (N := 13) (v := eV (ad 22) 0) hx hb htb inX5 hown hK hP hsx0_15 (by decide) (by decide) (by decide) rfl (by decide) (htb _ kw_124) (cV_c rfl (by decide) (by rw [show cMu 6 3 = 0 from rfl, Nat.zero_mul]; rfl)) dX5_applySets_58 ?_
        refine lv_iload_n hx hb dX5_applySets_61 rfl (lv_at hl 3 rfl) ?_
        refine cr_iald (t := 22) (z := (gmv_18 49 (x3_15 : Int32).toNatClampNeg)) hx hb hK hP (iv_k (by decide) : iv 0 0 0) (by decide) (by decide) (by decide) rfl rfl (show vp_in x3_15 (cLen 22) from (show vp_in x3_15 60 from (iv_in hx3_15 (by decide)))) rfl dX5_applySets_62 ?_
        obtain ⟨z_19, ez_19⟩ : ∃ z : Int32, z = (gmv_18 49 (x3_15 : Int32).toNatClampNeg) := ⟨_, rfl⟩
        refine W.eq (g2 := F0 m 63 ls [.int z_19, eV (ad 12) 0]) (by rw [ez_19]) ?_
        have hz_19 : iv 0 7 z_19 := iv_of ez_19 (CI_a hIv_18 49 hx3_15 (by decide))
        refine cr_aald (t := 12) (C := RX2) (v := eV (ad 7) z_19) hx hb hK hP (iv_k (by decide) : iv 0 0 0) (by decide) (by decide) (by decide) (by decide) (by decide) rfl (show vp_in z_19 (cLen 12) from (show vp_in z_19 8 from (iv_in hz_19 (by decide)))) (cAr_c (by decide) (hz_19).1 (by rw [show cAm 12 = 0 from rfl, Nat.zero_mul, show cAo 12 = 0 from rfl]; omega)) dX5_applySets_63 ?_
        refine ec_aload hx hb dX5_applySets_64 (lv_at hl 0 rfl) ?_
        refine cr_get (t := 9) (j := 15) (C := RX3) (T := TX3) (N := 21) (v := .int (gmv_18 22 r_10.toNatClampNeg)) hx hb htb inX3 hown hK hP hr_10 (by decide) (by decide) (by decide) rfl (by decide) (htb _ kw_1029) rfl dX5_applySets_66 ?_
        obtain ⟨z_20, ez_20⟩ : ∃ z : Int32, z = (gmv_18 22 r_10.toNatClampNeg) := ⟨_, rfl⟩
        refine W.eq (g2 := F0 m 69 ls [.int z_20, eV (ad 7) z_19]) (by rw [ez_20]) ?_
        have hz_20 : iv (-1) 25 z_20 := iv_of ez_20 (CI_a hIv_18 22 hr_10 (by decide))
        have ez_20 := ez_20.trans (congrFun (Eq.trans (kgv_18 22 (by decide)) (hkg_j15 22 (by decide))) _)
        have h_21 : iv 0 25 z_20 := ⟨by rw [ez_20]; exact set_let hW hct_r_10.2.2.1 hct_r_10.2.2.2 hct_r_10.2.1, (hz_20).2⟩
        refine cm_callV (t := 7) (C := RX2) (T := TX2) (N := 8) (rest := []) (as := [.int z_20]) ⟨hx, hb, hml, hown, htb⟩ (d_setterType l dC dI ad cid a2 lx sgv_18 gmv_18 lg z_19 z_20 hIv_18 hz_19 h_21) (cwV 1 htb (gd_V kw_1037 kw_1038 kw_1039 kw_15 kw_1574) rfl rfl rfl (by decide +kernel) ⟨(show 0 + 1 ≤ 27 + 8 * n9 from by omega), (show 8 + (4 + 11) + (0) ≤ 800 + 260 * n9 from by omega)⟩) hz_19 (by decide) (by decide) rfl rfl hl.1 rfl (Nat.le_trans cs_n (by decide)) dX5_applySets_69 ⟨Nat.le_of_ble_eq_true rfl, Nat.le_of_ble_eq_true rfl⟩ hK hP hD hS hA hG (fun E ce q9 u_23 H locs hw hP hD hS hce hcv hcl => ?_) (fun v9 u_23 H locs hw hP hD hS => ?_)
        · exact hw.elim
        obtain ⟨r_22, rfl, rfl, hr_22⟩ := hw
        have hP : va_P (dC, dI) vwCl (cW ad cid a2 lx sgv_18 gmv_18 lg) H := hP
        have hD : va_D A (cW ad cid a2 lx sgv_18 gmv_18 lg) := hD
        refine W.eq (g2 := F0 m 72 ls [.int r_22]) rfl ?_
        refine lv_istore (i := 7) (lv' := [(7, .int r_22), (6, eV (ad 9) r_10), (5, .int x5_15), (4, .int x4_15), (3, .int x3_15), (0, eV (ad 6) x), (1, eV (ad 10) b), (2, .int dp)]) hx hb dX5_applySets_72 hl (by decide) (by simp [List.filter, eV_cat, cat_i, cat_l]) (fun ls hl => ?_)
        refine lv_iload hx hb dX5_applySets_74 (lv_at hl 0 rfl) ?_
        refine lv_iconst (v := (-1)) hx hb dX5_applySets_76 (by decide) ?_
        refine lv_icmp_ne (tgt := 87) hx hb dX5_applySets_77 (by decide) (fun c_25 => ?_) (fun c_25 => ?_)
        · have h_26 : iv 0 15 r_22 := iv_neL c_25 hr_22 (by decide)
          refine ec_aload_n hx hb dX5_applySets_87 rfl (lv_at hl 5 rfl) ?_
          refine ec_aload hx hb dX5_applySets_88 (lv_at hl 1 rfl) ?_
          refine cr_get (t := 9) (j := 19) (C := RX3) (T := TX3) (N := 21) (v := eV (ad 9) (gmv_18 26 r_10.toNatClampNeg)) hx hb htb inX3 hown hK hP hr_10 (by decide) (by decide) (by decide) rfl (by decide) (htb _ kw_1028) rfl dX5_applySets_90 ?_
          refine W.eq (g2 := F0 m 93 ls [eV (ad 9) z_13, eV (ad 6) x]) (by rw [show (gmv_18 26 r_10.toNatClampNeg) = z_13 from (Eq.trans (congrFun (Eq.trans (kgv_18 26 (by decide)) (hkg_j15 26 (by decide))) _) ez_13.symm)]) ?_
          refine lv_iload hx hb dX5_applySets_93 (lv_at hl 3 rfl) ?_
          refine lv_iload hx hb dX5_applySets_95 (lv_at hl 0 rfl) ?_
          refine cm_callV (t := 6) (C := RX5) (T := TX5) (N := 13) (rest := []) (as := [eV (ad 9) z_13, .int x4_15, .int r_22]) ⟨hx, hb, hml, hown, htb⟩ (d_weightOf l dC dI ad cid a2 lx sgv_18 gmv_18 lg x z_13 x4_15 r_22 hIv_18 hsx0_15 h_14 hx4_15 (by rw [(show gmv_18 25 = gm 25 from (Eq.trans (kgv_18 25 (by decide)) (hkg_j15 25 (by decide)))), ez_13]; have := hct_r_10.1.2.2.1; omega) (by rw [(show gmv_18 25 = gm_j15 25 from (kgv_18 25 (by decide)))]; exact fWO_r_15)) (cwV 3 htb (gd_V kw_1040 kw_1041 kw_1042 kw_40 kw_1575) rfl rfl rfl (by decide +kernel) ⟨(show 2 + 1 ≤ 27 + 8 * n9 from by omega), (show 8 + (4 + 11) + (46) ≤ 800 + 260 * n9 from by omega)⟩) hsx0_15 (by decide) (by decide) rfl rfl hl.1 rfl (Nat.le_trans cs_n (by decide)) dX5_applySets_97 ⟨Nat.le_of_ble_eq_true rfl, Nat.le_of_ble_eq_true rfl⟩ hK hP hD hS hA hG (fun E ce q9 u_28 H locs hw hP hD hS hce hcv hcl => ?_) (fun v9 u_28 H locs hw hP hD hS => ?_)
          · exact hw.elim
          obtain ⟨r_27, rfl, rfl, hr_27⟩ := hw
          have hP : va_P (dC, dI) vwCl (cW ad cid a2 lx sgv_18 gmv_18 lg) H := hP
          have hD : va_D A (cW ad cid a2 lx sgv_18 gmv_18 lg) := hD
          refine W.eq (g2 := F0 m 100 ls [.int r_27]) rfl ?_
          refine lv_iconst (v := (-1)) hx hb dX5_applySets_100 (by decide) ?_
          refine lv_icmp_ne (tgt := 111) hx hb dX5_applySets_101 (by decide) (fun c_30 => ?_) (fun c_30 => ?_)
          · have h_31 : iv 0 14 r_27 := iv_neL c_30 hr_27 (by decide)
            refine ec_aload_n hx hb dX5_applySets_111 rfl (lv_at hl 5 rfl) ?_
            refine lv_iconst (v := 4) hx hb dX5_applySets_112 (by decide) ?_
            refine lv_iload_n hx hb dX5_applySets_113 rfl (lv_at hl 4 rfl) ?_
            refine ec_aload hx hb dX5_applySets_114 (lv_at hl 1 rfl) ?_
            refine cr_get (t := 9) (j := 15) (C := RX3) (T := TX3) (N := 21) (v := .int (gmv_18 22 r_10.toNatClampNeg)) hx hb htb inX3 hown hK hP hr_10 (by decide) (by decide) (by decide) rfl (by decide) (htb _ kw_1029) rfl dX5_applySets_116 ?_
            refine W.eq (g2 := F0 m 119 ls [.int z_20, .int x3_15, .int 4, eV (ad 6) x]) (by rw [show (gmv_18 22 r_10.toNatClampNeg) = z_20 from (Eq.trans (congrFun (Eq.trans (kgv_18 22 (by decide)) (hkg_j15 22 (by decide))) _) ez_20.symm)]) ?_
            refine ec_aload hx hb dX5_applySets_119 (lv_at hl 1 rfl) ?_
            refine cr_get (t := 9) (j := 19) (C := RX3) (T := TX3) (N := 21) (v := eV (ad 9) (gmv_18 26 r_10.toNatClampNeg)) hx hb htb inX3 hown hK hP hr_10 (by decide) (by decide) (by decide) rfl (by decide) (htb _ kw_1028) rfl dX5_applySets_121 ?_
            refine W.eq (g2 := F0 m 124 ls [eV (ad 9) z_13, .int z_20, .int x3_15, .int 4, eV (ad 6) x]) (by rw [show (gmv_18 26 r_10.toNatClampNeg) = z_13 from (Eq.trans (congrFun (Eq.trans (kgv_18 26 (by decide)) (hkg_j15 26 (by decide))) _) ez_13.symm)]) ?_
            refine lv_iload hx hb dX5_applySets_124 (lv_at hl 3 rfl) ?_
            refine lv_iload hx hb dX5_applySets_126 (lv_at hl 0 rfl) ?_
            refine cm_callV (t := 6) (C := RX5) (T := TX5) (N := 13) (rest := []) (as := [.int 4, .int x3_15, .int z_20, eV (ad 9) z_13, .int x4_15, .int r_22]) ⟨hx, hb, hml, hown, htb⟩ (d_tellValue l dC dI ad cid a2 lx sgv_18 gmv_18 lg x 4 x3_15 z_20 z_13 x4_15 r_22 hIv_18 hsx0_15 h_14 hx4_15 (by rw [(show gmv_18 25 = gm 25 from (Eq.trans (kgv_18 25 (by decide)) (hkg_j15 25 (by decide)))), ez_13]; have := hct_r_10.1.2.2.1; omega)) (cwV 6 htb (gd_V kw_1058 kw_1059 kw_1060 kw_40 kw_1579) rfl rfl rfl (by decide +kernel) ⟨(show 2 + 1 ≤ 27 + 8 * n9 from by omega), (show 8 + (8 + 11) + (44) ≤ 800 + 260 * n9 from by omega)⟩) hsx0_15 (by decide) (by decide) rfl rfl hl.1 rfl (Nat.le_trans cs_n (by decide)) dX5_applySets_128 ⟨Nat.le_of_ble_eq_true rfl, Nat.le_of_ble_eq_true rfl⟩ hK hP hD hS hA hG (fun E ce q9 u_33 H locs hw hP hD hS hce hcv hcl => ?_) (fun v9 u_33 H locs hw hP hD hS => ?_)
            · exact hw.elim
            obtain ⟨rfl, sgv_34, gmv_34, lgv_34, rfl, hIv_34, ksv_34, kgv_34, klv_34⟩ := hw
            obtain rfl := KS_nil klv_34
            have hP : va_P (dC, dI) vwCl (cW ad cid a2 lx sgv_34 gmv_34 lg) H := hP
            have hD : va_D A (cW ad cid a2 lx sgv_34 gmv_34 lg) := hD
            refine W.eq (g2 := F0 m 131 ls []) rfl ?_
            obtain ⟨z_35, ez_35⟩ : ∃ z : Int32, z = x5_15 + 1 := ⟨_, rfl⟩
            have hz_35 : iv 1 80 z_35 := iv_of ez_35 (iv_add h_8 (iv_k (by decide) : iv 1 1 1) (by decide))
            have tz_35 : z_35.toInt = x5_15.toInt + 1 := by rw [ez_35]; exact iv_addE h_8 (iv_k (by decide) : iv 1 1 1) (by decide)
            refine lv_iinc (v := z_35) (lv' := [(5, .int z_35), (7, .int r_22), (6, eV (ad 9) r_10), (4, .int x4_15), (3, .int x3_15), (0, eV (ad 6) x), (1, eV (ad 10) b), (2, .int dp)]) hx hb dX5_applySets_131 hl (k := 2) rfl ez_35.symm (by decide) rfl (fun ls hl => ?_)
            refine lv_goto (tgt := 15) hx hb dX5_applySets_134 (by decide) ?_
            exact ih15 _ (by rw [← hn15]; exact (iv_meas tz_35 h_8 (by decide))) sgv_34 gmv_34 z_35 x4_15 x3_15 rfl (iv_w hz_35 (by decide)) hx4_15 hx3_15 hsx0_15 hsx1_15 hsx2_15 (KS_tr (L := [13, 14, 15, 16, 17, 18]) (KS_tr (L := [13, 14, 15, 16, 17, 18]) (KS_tr (L := [13, 14, 15, 16, 17, 18]) KS_rf hks_j15 (by decide)) ksv_18 (by decide)) ksv_34 (by decide)) (KS_tr (L := [37, 38, 39, 48, 49, 50, 51, 52, 53]) (KS_tr (L := [37, 38, 39, 48, 49, 50, 51, 52, 53]) (KS_tr (L := [37, 38, 39, 48, 49, 50, 51, 52, 53]) KS_rf hkg_j15 (by decide)) kgv_18 (by decide)) kgv_34 (by decide)) hIv_34 ((MOK_e fMO_r_15 (show sgv_34 12 = sgv_18 12 from (ksv_34 12 (by decide))) (show gmv_34 35 = gmv_18 35 from (kgv_34 35 (by decide))) (show gmv_34 38 = gmv_18 38 from (kgv_34 38 (by decide))) (show gmv_34 39 = gmv_18 39 from (kgv_34 39 (by decide))) rfl)) ((FND9_e fFN_r_15 (show sgv_34 15 = sgv_18 15 from (ksv_34 15 (by decide))) (show gmv_34 51 = gmv_18 51 from (kgv_34 51 (by decide))))) ((BMK_t bm_r_15 (BMK_e (show gmv_34 37 = gmv_18 37 from (kgv_34 37 (by decide))) (show gmv_34 39 = gmv_18 39 from (kgv_34 39 (by decide)))))) ((WFR_t wf_r_15 (WFR_e (d := 24 * dp.toNatClampNeg) (show gmv_34 52 = gmv_18 52 from (kgv_34 52 (by decide)))) (Nat.le_refl _))) (h4s) _ _ _ hP hD hS (lv_sub hl [0, 3, 4, 5, 6, 7] rfl)
          · have h_36 : iv (-1) (-1) r_27 := iv_eq c_30 hr_27 (iv_k (by decide) : iv (-1) (-1) (-1)) (by decide)
            refine ec_aload_n hx hb dX5_applySets_104 rfl (lv_at hl 5 rfl) ?_
            refine lv_bipush (v := 8) hx hb dX5_applySets_105 (by decide) ?_
            refine cm_callV (t := 6) (C := RX5) (T := TX5) (N := 13) (rest := []) (as := [.int 8]) ⟨hx, hb, hml, hown, htb⟩ (d_failWith l dC dI ad cid a2 lx sgv_18 gmv_18 lg hl9 x 8 hIv_18 hsx0_15 (iv_w (iv_k (by decide) : iv 8 8 8) (by decide))) (cwV 1 htb (gd_V kw_1018 kw_1019 kw_1020 kw_40 kw_1571) rfl rfl rfl (by decide +kernel) ⟨(show 6 + 1 ≤ 27 + 8 * n9 from by omega), (show 8 + (2 + 11) + (120) ≤ 800 + 260 * n9 from by omega)⟩) hsx0_15 (by decide) (by decide) rfl rfl hl.1 rfl (Nat.le_trans cs_n (by decide)) dX5_applySets_107 ⟨Nat.le_of_ble_eq_true rfl, Nat.le_of_ble_eq_true rfl⟩ hK hP hD hS hA hG (fun E ce q9 u_38 H locs hw hP hD hS hce hcv hcl => ?_) (fun v9 u_38 H locs hw hP hD hS => ?_)
            · obtain ⟨hE, hw⟩ := hw
              obtain ⟨sgv_39, gmv_39, lgv_39, rfl, hIv_39, ksv_39, kgv_39, klv_39⟩ := hw
              obtain rfl := KS_nil kgv_39
              obtain rfl := KS_nil klv_39
              have hP : va_P (dC, dI) vwCl (cW ad cid a2 lx sgv_39 gmv_18 lg) H := hP
              have hD : va_D A (cW ad cid a2 lx sgv_39 gmv_18 lg) := hD
              exact vx_out (fun x hx9 => (hxt x hx9).elim) hlocks hce hcv hcl (fun t ht hal => ⟨⟨(sgv_39, gmv_18, lg), ⟨hE, sgv_39, gmv_18, lg, rfl, hIv_39, (KS_tr (L := [13, 14, 15, 16, 17, 18]) (KS_tr (L := [13, 14, 15, 16, 17, 18]) (KS_tr (L := [13, 14, 15, 16, 17, 18]) KS_rf hks_j15 (by decide)) ksv_18 (by decide)) ksv_39 (by decide)), (KS_tr (L := [37, 38, 39, 48, 49, 50, 51, 52, 53]) (KS_tr (L := [37, 38, 39, 48, 49, 50, 51, 52, 53]) KS_rf hkg_j15 (by decide)) kgv_18 (by decide)), KS_rf, ((MOK_e fMO_r_15 (show sgv_39 12 = sgv_18 12 from (ksv_39 12 (by decide))) rfl rfl rfl rfl)), ((FND9_e fFN_r_15 (show sgv_39 15 = sgv_18 15 from (ksv_39 15 (by decide))) rfl))⟩, by rw [ht]; exact hP, va_K.moved hal hK, hD⟩, hS.F ht⟩) hS.2.2 (Nat.le_of_ble_eq_true rfl) (Nat.le_of_ble_eq_true rfl)
            obtain ⟨r_37, rfl, sgv_40, gmv_40, lgv_40, rfl, hIv_40, ksv_40, kgv_40, klv_40, fF_r_37⟩ := hw
            obtain rfl := KS_nil kgv_40
            obtain rfl := KS_nil klv_40
            have hP : va_P (dC, dI) vwCl (cW ad cid a2 lx sgv_40 gmv_18 lg) H := hP
            have hD : va_D A (cW ad cid a2 lx sgv_40 gmv_18 lg) := hD
            exact fF_r_37.elim
        · have h_41 : iv (-1) (-1) r_22 := iv_eq c_25 hr_22 (iv_k (by decide) : iv (-1) (-1) (-1)) (by decide)
          refine ec_aload_n hx hb dX5_applySets_80 rfl (lv_at hl 5 rfl) ?_
          refine lv_bipush (v := 7) hx hb dX5_applySets_81 (by decide) ?_
          refine cm_callV (t := 6) (C := RX5) (T := TX5) (N := 13) (rest := []) (as := [.int 7]) ⟨hx, hb, hml, hown, htb⟩ (d_failWith l dC dI ad cid a2 lx sgv_18 gmv_18 lg hl9 x 7 hIv_18 hsx0_15 (iv_w (iv_k (by decide) : iv 7 7 7) (by decide))) (cwV 1 htb (gd_V kw_1018 kw_1019 kw_1020 kw_40 kw_1571) rfl rfl rfl (by decide +kernel) ⟨(show 6 + 1 ≤ 27 + 8 * n9 from by omega), (show 8 + (2 + 11) + (120) ≤ 800 + 260 * n9 from by omega)⟩) hsx0_15 (by decide) (by decide) rfl rfl hl.1 rfl (Nat.le_trans cs_n (by decide)) dX5_applySets_83 ⟨Nat.le_of_ble_eq_true rfl, Nat.le_of_ble_eq_true rfl⟩ hK hP hD hS hA hG (fun E ce q9 u_43 H locs hw hP hD hS hce hcv hcl => ?_) (fun v9 u_43 H locs hw hP hD hS => ?_)
          · obtain ⟨hE, hw⟩ := hw
            obtain ⟨sgv_44, gmv_44, lgv_44, rfl, hIv_44, ksv_44, kgv_44, klv_44⟩ := hw
            obtain rfl := KS_nil kgv_44
            obtain rfl := KS_nil klv_44
            have hP : va_P (dC, dI) vwCl (cW ad cid a2 lx sgv_44 gmv_18 lg) H := hP
            have hD : va_D A (cW ad cid a2 lx sgv_44 gmv_18 lg) := hD
            exact vx_out (fun x hx9 => (hxt x hx9).elim) hlocks hce hcv hcl (fun t ht hal => ⟨⟨(sgv_44, gmv_18, lg), ⟨hE, sgv_44, gmv_18, lg, rfl, hIv_44, (KS_tr (L := [13, 14, 15, 16, 17, 18]) (KS_tr (L := [13, 14, 15, 16, 17, 18]) (KS_tr (L := [13, 14, 15, 16, 17, 18]) KS_rf hks_j15 (by decide)) ksv_18 (by decide)) ksv_44 (by decide)), (KS_tr (L := [37, 38, 39, 48, 49, 50, 51, 52, 53]) (KS_tr (L := [37, 38, 39, 48, 49, 50, 51, 52, 53]) KS_rf hkg_j15 (by decide)) kgv_18 (by decide)), KS_rf, ((MOK_e fMO_r_15 (show sgv_44 12 = sgv_18 12 from (ksv_44 12 (by decide))) rfl rfl rfl rfl)), ((FND9_e fFN_r_15 (show sgv_44 15 = sgv_18 15 from (ksv_44 15 (by decide))) rfl))⟩, by rw [ht]; exact hP, va_K.moved hal hK, hD⟩, hS.F ht⟩) hS.2.2 (Nat.le_of_ble_eq_true rfl) (Nat.le_of_ble_eq_true rfl)
          obtain ⟨r_42, rfl, sgv_45, gmv_45, lgv_45, rfl, hIv_45, ksv_45, kgv_45, klv_45, fF_r_42⟩ := hw
          obtain rfl := KS_nil kgv_45
          obtain rfl := KS_nil klv_45
          have hP : va_P (dC, dI) vwCl (cW ad cid a2 lx sgv_45 gmv_18 lg) H := hP
          have hD : va_D A (cW ad cid a2 lx sgv_45 gmv_18 lg) := hD
          exact fF_r_42.elim
  refine ec_aload_n hx hb dX5_applySets_0 rfl (lv_at hl 1 rfl) ?_
  refine cr_get (t := 10) (j := 18) (C := RX1) (T := TX1) (N := 19) (v := .int (gm 39 b.toNatClampNeg)) hx hb htb inX1 hown hK hP hvb (by decide) (by decide) (by decide) rfl (by decide) (htb _ kw_1010) rfl dX5_applySets_1 ?_
  obtain ⟨z_46, ez_46⟩ : ∃ z : Int32, z = (gm 39 b.toNatClampNeg) := ⟨_, rfl⟩
  refine W.eq (g2 := F0 m 4 ls [.int z_46]) (by rw [ez_46]) ?_
  have hz_46 : iv (-1) 59 z_46 := iv_of ez_46 (CI_a hI 39 hvb (by decide))
  have h_47 : iv 0 59 z_46 := ⟨by rw [ez_46]; exact h39, (hz_46).2⟩
  refine lv_istore_n (i := 3) (lv' := [(3, .int z_46), (0, eV (ad 6) x), (1, eV (ad 10) b), (2, .int dp)]) hx hb dX5_applySets_4 rfl hl (by decide) rfl (fun ls hl => ?_)
  refine lv_iload_n hx hb dX5_applySets_5 rfl (lv_at hl 3 rfl) ?_
  refine lv_iconst (v := 0) hx hb dX5_applySets_6 (by decide) ?_
  refine cm_callS (rest := []) (as := [.int dp, .int 0]) ⟨hx, hb, hml, hown, htb⟩ (d_slot l dC dI ad cid a2 lx sg gm lg dp 0 hI hvdp (iv_w (iv_k (by decide) : iv 0 0 0) (by decide))) (va_cwS 2 htb (gd_S kw_1030 kw_1031 kw_40 kw_1573) rfl rfl rfl (by decide +kernel) ⟨(show 0 + 1 ≤ 27 + 8 * n9 from by omega), (show 8 + (2 + 11) + (0) ≤ 800 + 260 * n9 from by omega)⟩)  rfl hl.1 rfl (Nat.le_trans cs_n (by decide)) dX5_applySets_7 ⟨Nat.le_of_ble_eq_true rfl, Nat.le_of_ble_eq_true rfl⟩ hK hP hD hS hA hG (fun E ce q9 u_49 H locs hw hP hD hS hce hcv hcl => ?_) (fun v9 u_49 H locs hw hP hD hS => ?_)
  · exact hw.elim
  obtain ⟨r_48, rfl, rfl, hr_48, fs_r_48⟩ := hw
  have hP : va_P (dC, dI) vwCl (cW ad cid a2 lx sg gm lg) H := hP
  have hD : va_D A (cW ad cid a2 lx sg gm lg) := hD
  refine W.eq (g2 := F0 m 10 ls [.int r_48]) rfl ?_
  refine lv_istore (i := 4) (lv' := [(4, .int r_48), (3, .int z_46), (0, eV (ad 6) x), (1, eV (ad 10) b), (2, .int dp)]) hx hb dX5_applySets_10 hl (by decide) rfl (fun ls hl => ?_)
  refine lv_iconst (v := 0) hx hb dX5_applySets_12 (by decide) ?_
  refine lv_istore (i := 5) (lv' := [(5, .int 0), (4, .int r_48), (3, .int z_46), (0, eV (ad 6) x), (1, eV (ad 10) b), (2, .int dp)]) hx hb dX5_applySets_13 hl (by decide) rfl (fun ls hl => ?_)
  exact hj15 _ sg gm 0 r_48 z_46 rfl (iv_w (iv_k (by decide) : iv 0 0 0) (by decide)) hr_48 h_47 hvx hvb hvdp KS_rf KS_rf hI (hMO) (hFN) (BMK_rf) (WFR_rf) ((by have q1 := fs_r_48; have q2 : (0 : Int32).toInt = 0 := (by decide); have := i32_0; have := i32_1; have := i32_2; have := i32_m1; have := (hvx).1; have := (hvx).2; have := (hvb).1; have := (hvb).2; have := (hvdp).1; have := (hvdp).2; have := (h_47).1; have := (h_47).2; have := (hr_48).1; have := (hr_48).2; omega)) _ _ _ hP hD hS (lv_sub hl [0, 1, 2, 3, 4, 5] rfl)
