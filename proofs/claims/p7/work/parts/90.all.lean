set_option maxHeartbeats 4000000 in
set_option maxRecDepth 100000 in
theorem d_make0 (l : Launch) (dC : Nat → ClassId) (dI : Nat → Nat → Nat) (ad : Nat → Nat → Nat) (cid : Nat → ClassId) (a2 : Nat → Nat) (lx : List Nat) (sg : Nat → Int32) (gm : Nat → Nat → Int32) (lg : Nat → Nat → Int64) (hl9 : l.stackTraces = false) (n9 : Nat) (x : Int32) (b : Int32) (dp : Int32) (hI : CI sg gm) (hvx : iv 0 0 x) (hvb : iv 0 79 b) (hvdp : iv 0 40 dp) (hW : WRD sg gm lg) (hLD : LDI lx gm) (hMO : MOK sg gm lg) (hFN : FND9 sg gm) (hb12 : b.toInt < (sg 12).toInt) (hnm : ¬ lg 4 b.toNatClampNeg = 0 → gm 35 b.toNatClampNeg = 0 → gm 38 b.toNatClampNeg = 0) (hdp : dp.toInt = 40) : CMt dC dI ad cid a2 lx l yX5_make wm_X5_make ({ frames := 20 + 8 * n9, cells := 1, slots := 6, locals := 600 + 260 * n9 }) [eV (ad 6) x, eV (ad 10) b, .int dp] sg gm lg (fun v u => ∃ r : Int32, v = some (.int r) ∧ ∃ (sg2 : Nat → Int32) (gm2 : Nat → Nat → Int32) (lg2 : Nat → Nat → Int64), u = (sg2, gm2, lg2) ∧ CI sg2 gm2 ∧ KS [13, 14, 15, 16, 17, 18] sg sg2 ∧ KS [37, 38, 39, 48, 49, 50, 51, 52, 53] gm gm2 ∧ KS [] lg lg2 ∧ (iv 0 59 r) ∧ (MOK sg2 gm2 lg2) ∧ (FND9 sg2 gm2) ∧ (BMK gm gm2) ∧ (WFR (24 * dp.toNatClampNeg) gm gm2)) (fun E u => (E = "java/lang/UnsupportedOperationException") ∧ ∃ (sg2 : Nat → Int32) (gm2 : Nat → Nat → Int32) (lg2 : Nat → Nat → Int64), u = (sg2, gm2, lg2) ∧ CI sg2 gm2 ∧ KS [13, 14, 15, 16, 17, 18] sg sg2 ∧ KS [37, 38, 39, 48, 49, 50, 51, 52, 53] gm gm2 ∧ KS [] lg lg2 ∧ (MOK sg2 gm2 lg2) ∧ (FND9 sg2 gm2)) := by
  intro sz
  refine vx_ofW (cc := cX5_make) (maxL := 5) (ret := (some .int)) (by decide) rfl ?_
  intro p e s m args below meth c s₁ B hml hxt hv
  obtain ⟨rfl, hsz, hP, hK, hD0, hG⟩ := hv
  have hx := B.exec
  have hb := B.bytes
  have hr := B.returns
  have hts := atoms_spec (ws := wm_X5_make) B.pre
  have htb := fun (w : Cond) (h : w ∈ tb) => hts w (List.mem_cons_of_mem _ h)
  have hown : s.vm.findClass RX5 = some m.cls := findClass_of_methodNamed B.named
  have hlocks := B.notSynchronized
  subst hsz
  have hD := hD0.self (sz := s.heap.size)
  generalize hAe : va_A (cW ad cid a2 lx sg gm lg) s.heap.size = A at hD hG ⊢
  have hA : ∀ q : Nat, s.heap.size ≤ q → A q := fun q h => by rw [← hAe]; exact Or.inr h
  have hS : va_S A s.heap s.heap [] := va_S.rf
  have hl := lv_entry ([eV (ad 6) x, eV (ad 10) b, .int dp]) (n := 5) (by rw [show (lg_sl ([eV (ad 6) x, eV (ad 10) b, .int dp])).length = 3 from by simp [lg_sl, eV_cat, cat_i, cat_l]]; exact Nat.le_of_ble_eq_true rfl)
  rw [lg_entry_eq]
  generalize (lg_sl ([eV (ad 6) x, eV (ad 10) b, .int dp]) ++ List.replicate (5 - (lg_sl ([eV (ad 6) x, eV (ad 10) b, .int dp])).length) Slot.unset).toArray = ls at hl ⊢
  have hl : lv_has ls 5 [(0, eV (ad 6) x), (1, eV (ad 10) b), (2, .int dp)] := by simp [lv_args, eV_cat, cat_i, cat_l] at hl; exact hl
  refine ec_aload_n hx hb dX5_make_0 rfl (lv_at hl 1 rfl) ?_
  refine cr_get (t := 10) (j := 16) (C := RX1) (T := TX1) (N := 19) (v := .int (gm 37 b.toNatClampNeg)) hx hb htb inX1 hown hK hP hvb (by decide) (by decide) (by decide) rfl (by decide) (htb _ kw_1009) rfl dX5_make_1 ?_
  obtain ⟨z_1, ez_1⟩ : ∃ z : Int32, z = (gm 37 b.toNatClampNeg) := ⟨_, rfl⟩
  refine W.eq (g2 := F0 m 4 ls [.int z_1]) (by rw [ez_1]) ?_
  have hz_1 : iv 0 1 z_1 := iv_of ez_1 (CI_a hI 37 hvb (by decide))
  refine lv_if_ne (tgt := 13) hx hb dX5_make_4 (by decide) (fun c_2 => ?_) (fun c_2 => ?_)
  · have h_3 : iv 1 1 z_1 := iv_neL c_2 hz_1 (by decide)
    refine ec_aload_n hx hb dX5_make_13 rfl (lv_at hl 0 rfl) ?_
    refine lv_iconst (v := 3) hx hb dX5_make_14 (by decide) ?_
    refine cm_callV (t := 6) (C := RX5) (T := TX5) (N := 13) (rest := []) (as := [.int 3]) ⟨hx, hb, hml, hown, htb⟩ (d_failWith l dC dI ad cid a2 lx sg gm lg hl9 x 3 hI hvx (iv_w (iv_k (by decide) : iv 3 3 3) (by decide))) (cwV 1 htb (gd_V kw_1018 kw_1019 kw_1020 kw_40 kw_1571) rfl rfl rfl (by decide +kernel) ⟨(show 6 + 1 ≤ 20 + 8 * n9 from by omega), (show 8 + (2 + 11) + (120) ≤ 600 + 260 * n9 from by omega)⟩) hvx (by decide) (by decide) rfl rfl hl.1 rfl (Nat.le_trans cs_n (by decide)) dX5_make_15 ⟨Nat.le_of_ble_eq_true rfl, Nat.le_of_ble_eq_true rfl⟩ hK hP hD hS hA hG (fun E ce q9 u_5 H locs hw hP hD hS hce hcv hcl => ?_) (fun v9 u_5 H locs hw hP hD hS => ?_)
    · obtain ⟨hE, hw⟩ := hw
      obtain ⟨sgv_6, gmv_6, lgv_6, rfl, hIv_6, ksv_6, kgv_6, klv_6⟩ := hw
      obtain rfl := KS_nil kgv_6
      obtain rfl := KS_nil klv_6
      have hP : va_P (dC, dI) vwCl (cW ad cid a2 lx sgv_6 gm lg) H := hP
      have hD : va_D A (cW ad cid a2 lx sgv_6 gm lg) := hD
      exact vx_out (fun x hx9 => (hxt x hx9).elim) hlocks hce hcv hcl (fun t ht hal => ⟨⟨(sgv_6, gm, lg), ⟨hE, sgv_6, gm, lg, rfl, hIv_6, (KS_tr (L := [13, 14, 15, 16, 17, 18]) KS_rf ksv_6 (by decide)), KS_rf, KS_rf, ((MOK_e hMO (show sgv_6 12 = sg 12 from (ksv_6 12 (by decide))) rfl rfl rfl rfl)), ((FND9_e hFN (show sgv_6 15 = sg 15 from (ksv_6 15 (by decide))) rfl))⟩, by rw [ht]; exact hP, va_K.moved hal hK, hD⟩, hS.F ht⟩) hS.2.2 (Nat.le_of_ble_eq_true rfl) (Nat.le_of_ble_eq_true rfl)
    obtain ⟨r_4, rfl, sgv_7, gmv_7, lgv_7, rfl, hIv_7, ksv_7, kgv_7, klv_7, fF_r_4⟩ := hw
    obtain rfl := KS_nil kgv_7
    obtain rfl := KS_nil klv_7
    have hP : va_P (dC, dI) vwCl (cW ad cid a2 lx sgv_7 gm lg) H := hP
    have hD : va_D A (cW ad cid a2 lx sgv_7 gm lg) := hD
    exact fF_r_4.elim
  · have h_8 : iv 0 0 z_1 := iv_eq c_2 hz_1 (iv_k (by decide) : iv 0 0 0) (by decide)
    refine lv_iload_n hx hb dX5_make_7 rfl (lv_at hl 2 rfl) ?_
    refine lv_bipush (v := 40) hx hb dX5_make_8 (by decide) ?_
    refine lv_icmp_lt (tgt := 19) hx hb dX5_make_10 (by decide) (fun c_9 => ?_) (fun c_9 => ?_)
    · have h_10 : iv 0 39 dp := iv_ltL c_9 hvdp (iv_k (by decide) : iv 40 40 40) (by decide)
      exact absurd hdp (by have := i32_0; have := i32_1; have := i32_2; have := i32_m1; have := (hvx).1; have := (hvx).2; have := (hvb).1; have := (hvb).2; have := (h_10).1; have := (h_10).2; have := (h_8).1; have := (h_8).2; omega)
    · have h_11 : iv 40 40 dp := iv_leR (i32_ge c_9) (iv_k (by decide) : iv 40 40 40) hvdp (by decide)
      refine ec_aload_n hx hb dX5_make_13 rfl (lv_at hl 0 rfl) ?_
      refine lv_iconst (v := 3) hx hb dX5_make_14 (by decide) ?_
      refine cm_callV (t := 6) (C := RX5) (T := TX5) (N := 13) (rest := []) (as := [.int 3]) ⟨hx, hb, hml, hown, htb⟩ (d_failWith l dC dI ad cid a2 lx sg gm lg hl9 x 3 hI hvx (iv_w (iv_k (by decide) : iv 3 3 3) (by decide))) (cwV 1 htb (gd_V kw_1018 kw_1019 kw_1020 kw_40 kw_1571) rfl rfl rfl (by decide +kernel) ⟨(show 6 + 1 ≤ 20 + 8 * n9 from by omega), (show 8 + (2 + 11) + (120) ≤ 600 + 260 * n9 from by omega)⟩) hvx (by decide) (by decide) rfl rfl hl.1 rfl (Nat.le_trans cs_n (by decide)) dX5_make_15 ⟨Nat.le_of_ble_eq_true rfl, Nat.le_of_ble_eq_true rfl⟩ hK hP hD hS hA hG (fun E ce q9 u_13 H locs hw hP hD hS hce hcv hcl => ?_) (fun v9 u_13 H locs hw hP hD hS => ?_)
      · obtain ⟨hE, hw⟩ := hw
        obtain ⟨sgv_14, gmv_14, lgv_14, rfl, hIv_14, ksv_14, kgv_14, klv_14⟩ := hw
        obtain rfl := KS_nil kgv_14
        obtain rfl := KS_nil klv_14
        have hP : va_P (dC, dI) vwCl (cW ad cid a2 lx sgv_14 gm lg) H := hP
        have hD : va_D A (cW ad cid a2 lx sgv_14 gm lg) := hD
        exact vx_out (fun x hx9 => (hxt x hx9).elim) hlocks hce hcv hcl (fun t ht hal => ⟨⟨(sgv_14, gm, lg), ⟨hE, sgv_14, gm, lg, rfl, hIv_14, (KS_tr (L := [13, 14, 15, 16, 17, 18]) KS_rf ksv_14 (by decide)), KS_rf, KS_rf, ((MOK_e hMO (show sgv_14 12 = sg 12 from (ksv_14 12 (by decide))) rfl rfl rfl rfl)), ((FND9_e hFN (show sgv_14 15 = sg 15 from (ksv_14 15 (by decide))) rfl))⟩, by rw [ht]; exact hP, va_K.moved hal hK, hD⟩, hS.F ht⟩) hS.2.2 (Nat.le_of_ble_eq_true rfl) (Nat.le_of_ble_eq_true rfl)
      obtain ⟨r_12, rfl, sgv_15, gmv_15, lgv_15, rfl, hIv_15, ksv_15, kgv_15, klv_15, fF_r_12⟩ := hw
      obtain rfl := KS_nil kgv_15
      obtain rfl := KS_nil klv_15
      have hP : va_P (dC, dI) vwCl (cW ad cid a2 lx sgv_15 gm lg) H := hP
      have hD : va_D A (cW ad cid a2 lx sgv_15 gm lg) := hD
      exact fF_r_12.elim

set_option maxHeartbeats 4000000 in
set_option maxRecDepth 100000 in
theorem d_obtain (l : Launch) (dC : Nat → ClassId) (dI : Nat → Nat → Nat) (ad : Nat → Nat → Nat) (cid : Nat → ClassId) (a2 : Nat → Nat) (lx : List Nat) (sg : Nat → Int32) (gm : Nat → Nat → Int32) (lg : Nat → Nat → Int64) (hl9 : l.stackTraces = false) (n9 : Nat) (HM : PM l dC dI ad cid a2 lx n9) (x : Int32) (nm : Int64) (dp : Int32) (hI : CI sg gm) (hvx : iv 0 0 x) (hvdp : iv 0 40 dp) (hW : WRD sg gm lg) (hLD : LDI lx gm) (hMO : MOK sg gm lg) (hFN : FND9 sg gm) (hdp : dp.toInt + ((n9 : Nat) : Int) = 40) : CMt dC dI ad cid a2 lx l yX5_obtain wm_X5_obtain ({ frames := 22 + 8 * n9, cells := 1, slots := 6, locals := 640 + 260 * n9 }) [eV (ad 6) x, .long nm, .int dp] sg gm lg (fun v u => ∃ r : Int32, v = some (.int r) ∧ ∃ (sg2 : Nat → Int32) (gm2 : Nat → Nat → Int32) (lg2 : Nat → Nat → Int64), u = (sg2, gm2, lg2) ∧ CI sg2 gm2 ∧ KS [13, 14, 15, 16, 17, 18] sg sg2 ∧ KS [37, 38, 39, 48, 49, 50, 51, 52, 53] gm gm2 ∧ KS [] lg lg2 ∧ (iv 0 59 r) ∧ (MOK sg2 gm2 lg2) ∧ (FND9 sg2 gm2) ∧ (BMK gm gm2) ∧ (WFR (24 * dp.toNatClampNeg) gm gm2)) (fun E u => (E = "java/lang/UnsupportedOperationException") ∧ ∃ (sg2 : Nat → Int32) (gm2 : Nat → Nat → Int32) (lg2 : Nat → Nat → Int64), u = (sg2, gm2, lg2) ∧ CI sg2 gm2 ∧ KS [13, 14, 15, 16, 17, 18] sg sg2 ∧ KS [37, 38, 39, 48, 49, 50, 51, 52, 53] gm gm2 ∧ KS [] lg lg2 ∧ (MOK sg2 gm2 lg2) ∧ (FND9 sg2 gm2)) := by
  intro sz
  refine vx_ofW (cc := cX5_obtain) (maxL := 5) (ret := (some .int)) (by decide) rfl ?_
  intro p e s m args below meth c s₁ B hml hxt hv
  obtain ⟨rfl, hsz, hP, hK, hD0, hG⟩ := hv
  have hx := B.exec
  have hb := B.bytes
  have hr := B.returns
  have hts := atoms_spec (ws := wm_X5_obtain) B.pre
  have htb := fun (w : Cond) (h : w ∈ tb) => hts w (List.mem_cons_of_mem _ h)
  have hown : s.vm.findClass RX5 = some m.cls := findClass_of_methodNamed B.named
  have hlocks := B.notSynchronized
  subst hsz
  have hD := hD0.self (sz := s.heap.size)
  generalize hAe : va_A (cW ad cid a2 lx sg gm lg) s.heap.size = A at hD hG ⊢
  have hA : ∀ q : Nat, s.heap.size ≤ q → A q := fun q h => by rw [← hAe]; exact Or.inr h
  have hS : va_S A s.heap s.heap [] := va_S.rf
  have hl := lv_entry ([eV (ad 6) x, .long nm, .int dp]) (n := 5) (by rw [show (lg_sl ([eV (ad 6) x, .long nm, .int dp])).length = 4 from by simp [lg_sl, eV_cat, cat_i, cat_l]]; exact Nat.le_of_ble_eq_true rfl)
  rw [lg_entry_eq]
  generalize (lg_sl ([eV (ad 6) x, .long nm, .int dp]) ++ List.replicate (5 - (lg_sl ([eV (ad 6) x, .long nm, .int dp])).length) Slot.unset).toArray = ls at hl ⊢
  have hl : lv_has ls 5 [(0, eV (ad 6) x), (1, .long nm), (3, .int dp)] := by simp [lv_args, eV_cat, cat_i, cat_l] at hl; exact hl
  have hj74 : ∀ (x4_74 : Int32) (_ : iv 0 79 x4_74) (_ : iv 0 0 x) (_ : iv 0 40 dp) (_ : ¬ lg 4 x4_74.toNatClampNeg = 0 → gm 35 x4_74.toNatClampNeg = 0 → gm 38 x4_74.toNatClampNeg = 0) (_ : x4_74.toInt < (sg 12).toInt) (H : Heap) (locs : List Loc) (ls : Array Slot), va_P (dC, dI) vwCl (cW ad cid a2 lx sg gm lg) H → va_D A (cW ad cid a2 lx sg gm lg) → va_S A s.heap H locs → lv_has ls 5 [(4, eV (ad 10) x4_74), (0, eV (ad 6) x), (1, .long nm), (3, .int dp)] → W p l e (headSpec wm_X5_obtain ({ frames := 22 + 8 * n9, cells := 1, slots := 6, locals := 640 + 260 * n9 })).room s m ([eV (ad 6) x, .long nm, .int dp] : List Value).toArray below meth c H locs 0 0 (vx_MQ below (cQx dC dI ad cid a2 lx (fun v u => ∃ r : Int32, v = some (.int r) ∧ ∃ (sg2 : Nat → Int32) (gm2 : Nat → Nat → Int32) (lg2 : Nat → Nat → Int64), u = (sg2, gm2, lg2) ∧ CI sg2 gm2 ∧ KS [13, 14, 15, 16, 17, 18] sg sg2 ∧ KS [37, 38, 39, 48, 49, 50, 51, 52, 53] gm gm2 ∧ KS [] lg lg2 ∧ (iv 0 59 r) ∧ (MOK sg2 gm2 lg2) ∧ (FND9 sg2 gm2) ∧ (BMK gm gm2) ∧ (WFR (24 * dp.toNatClampNeg) gm gm2)) A) (cX dC dI ad cid a2 lx (fun E u => (E = "java/lang/UnsupportedOperationException") ∧ ∃ (sg2 : Nat → Int32) (gm2 : Nat → Nat → Int32) (lg2 : Nat → Nat → Int64), u = (sg2, gm2, lg2) ∧ CI sg2 gm2 ∧ KS [13, 14, 15, 16, 17, 18] sg sg2 ∧ KS [37, 38, 39, 48, 49, 50, 51, 52, 53] gm gm2 ∧ KS [] lg lg2 ∧ (MOK sg2 gm2 lg2) ∧ (FND9 sg2 gm2)) A) ([eV (ad 6) x, .long nm, .int dp] : List Value).toArray s 1 6 A) (F0 m 74 ls []) := by
    intro x4_74 hx4_74 hsx0_74 hsx3_74 h74 h74b H locs ls hP hD hS hl
    refine ec_aload_n hx hb dX5_obtain_74 rfl (lv_at hl 1 rfl) ?_
    refine ec_aload hx hb dX5_obtain_75 (lv_at hl 0 rfl) ?_
    refine lv_iload_n hx hb dX5_obtain_77 rfl (lv_at hl 3 rfl) ?_
    refine cm_callV (t := 6) (C := RX5) (T := TX5) (N := 13) (rest := []) (as := [eV (ad 10) x4_74, .int dp]) ⟨hx, hb, hml, hown, htb⟩ (HM sg gm lg x x4_74 dp hI hsx0_74 hx4_74 hsx3_74 hW hLD hMO hFN h74b h74 (by have := i32_0; have := i32_1; have := i32_2; have := i32_m1; have := (hsx0_74).1; have := (hsx0_74).2; have := (hsx3_74).1; have := (hsx3_74).2; have := (hx4_74).1; have := (hx4_74).2; omega)) (cwV 2 htb (gd_V kw_1023 kw_1024 kw_1025 kw_40 kw_1584) rfl rfl rfl (by decide +kernel) ⟨(show 20 + 8 * n9 + 1 ≤ 22 + 8 * n9 from by omega), (show 8 + (5 + 11) + (600 + 260 * n9) ≤ 640 + 260 * n9 from by omega)⟩) hsx0_74 (by decide) (by decide) rfl rfl hl.1 rfl (Nat.le_trans cs_n (by decide)) dX5_obtain_78 ⟨Nat.le_of_ble_eq_true rfl, Nat.le_of_ble_eq_true rfl⟩ hK hP hD hS hA hG (fun E ce q9 u_2 H locs hw hP hD hS hce hcv hcl => ?_) (fun v9 u_2 H locs hw hP hD hS => ?_)
    · obtain ⟨hE, hw⟩ := hw
      obtain ⟨sgv_3, gmv_3, lgv_3, rfl, hIv_3, ksv_3, kgv_3, klv_3, xMO_v_3, xFN_v_3⟩ := hw
      obtain rfl := KS_nil klv_3
      have hP : va_P (dC, dI) vwCl (cW ad cid a2 lx sgv_3 gmv_3 lg) H := hP
      have hD : va_D A (cW ad cid a2 lx sgv_3 gmv_3 lg) := hD
      exact vx_out (fun x hx9 => (hxt x hx9).elim) hlocks hce hcv hcl (fun t ht hal => ⟨⟨(sgv_3, gmv_3, lg), ⟨hE, sgv_3, gmv_3, lg, rfl, hIv_3, (KS_tr (L := [13, 14, 15, 16, 17, 18]) KS_rf ksv_3 (by decide)), (KS_tr (L := [37, 38, 39, 48, 49, 50, 51, 52, 53]) KS_rf kgv_3 (by decide)), KS_rf, (xMO_v_3), (xFN_v_3)⟩, by rw [ht]; exact hP, va_K.moved hal hK, hD⟩, hS.F ht⟩) hS.2.2 (Nat.le_of_ble_eq_true rfl) (Nat.le_of_ble_eq_true rfl)
    obtain ⟨r_1, rfl, sgv_4, gmv_4, lgv_4, rfl, hIv_4, ksv_4, kgv_4, klv_4, hr_1, fMO_r_1, fFN_r_1, fBM_r_1, fWF_r_1⟩ := hw
    obtain rfl := KS_nil klv_4
    have hP : va_P (dC, dI) vwCl (cW ad cid a2 lx sgv_4 gmv_4 lg) H := hP
    have hD : va_D A (cW ad cid a2 lx sgv_4 gmv_4 lg) := hD
    refine W.eq (g2 := F0 m 81 ls [.int r_1]) rfl ?_
    have bm_r_1 := BMK_t BMK_rf fBM_r_1
    have wf_r_1 : WFR (24 * dp.toNatClampNeg) gm gmv_4 := WFR_t WFR_rf fWF_r_1 (Nat.le_refl _)
    exact W.nb (fun hN => W.widen (k := 1) (n := 6) (by decide) (by decide) (vx_ret (W.iret (v := r_1) hx hb hr (fun t ht hW => ⟨⟨some (.int r_1), (sgv_4, gmv_4, lg), rfl, ⟨r_1, rfl, sgv_4, gmv_4, lg, rfl, hIv_4, (KS_tr (L := [13, 14, 15, 16, 17, 18]) KS_rf ksv_4 (by decide)), (KS_tr (L := [37, 38, 39, 48, 49, 50, 51, 52, 53]) KS_rf kgv_4 (by decide)), KS_rf, hr_1, (fMO_r_1), (fFN_r_1), (bm_r_1), (wf_r_1)⟩, by rw [ht]; exact hP, va_K.moved hW.alike hK, hD⟩, hS.F ht, by rw [ht]; exact hN⟩) hS.2.2 dX5_obtain_81)))
  have hj68 : ∀ (x4_68 : Int32) (_ : iv 0 79 x4_68) (_ : iv 0 0 x) (_ : iv 0 40 dp) (_ : 0 ≤ (gm 39 x4_68.toNatClampNeg).toInt) (H : Heap) (locs : List Loc) (ls : Array Slot), va_P (dC, dI) vwCl (cW ad cid a2 lx sg gm lg) H → va_D A (cW ad cid a2 lx sg gm lg) → va_S A s.heap H locs → lv_has ls 5 [(4, eV (ad 10) x4_68), (0, eV (ad 6) x), (1, .long nm), (3, .int dp)] → W p l e (headSpec wm_X5_obtain ({ frames := 22 + 8 * n9, cells := 1, slots := 6, locals := 640 + 260 * n9 })).room s m ([eV (ad 6) x, .long nm, .int dp] : List Value).toArray below meth c H locs 0 0 (vx_MQ below (cQx dC dI ad cid a2 lx (fun v u => ∃ r : Int32, v = some (.int r) ∧ ∃ (sg2 : Nat → Int32) (gm2 : Nat → Nat → Int32) (lg2 : Nat → Nat → Int64), u = (sg2, gm2, lg2) ∧ CI sg2 gm2 ∧ KS [13, 14, 15, 16, 17, 18] sg sg2 ∧ KS [37, 38, 39, 48, 49, 50, 51, 52, 53] gm gm2 ∧ KS [] lg lg2 ∧ (iv 0 59 r) ∧ (MOK sg2 gm2 lg2) ∧ (FND9 sg2 gm2) ∧ (BMK gm gm2) ∧ (WFR (24 * dp.toNatClampNeg) gm gm2)) A) (cX dC dI ad cid a2 lx (fun E u => (E = "java/lang/UnsupportedOperationException") ∧ ∃ (sg2 : Nat → Int32) (gm2 : Nat → Nat → Int32) (lg2 : Nat → Nat → Int64), u = (sg2, gm2, lg2) ∧ CI sg2 gm2 ∧ KS [13, 14, 15, 16, 17, 18] sg sg2 ∧ KS [37, 38, 39, 48, 49, 50, 51, 52, 53] gm gm2 ∧ KS [] lg lg2 ∧ (MOK sg2 gm2 lg2) ∧ (FND9 sg2 gm2)) A) ([eV (ad 6) x, .long nm, .int dp] : List Value).toArray s 1 6 A) (F0 m 68 ls []) := by
    intro x4_68 hx4_68 hsx0_68 hsx3_68 h68 H locs ls hP hD hS hl
    refine ec_aload hx hb dX5_obtain_68 (lv_at hl 0 rfl) ?_
    refine cr_get (t := 10) (j := 18) (C := RX1) (T := TX1) (N := 19) (v := .int (gm 39 x4_68.toNatClampNeg)) hx hb htb inX1 hown hK hP hx4_68 (by decide) (by decide) (by decide) rfl (by decide) (htb _ kw_1010) rfl dX5_obtain_70 ?_
    obtain ⟨z_5, ez_5⟩ : ∃ z : Int32, z = (gm 39 x4_68.toNatClampNeg) := ⟨_, rfl⟩
    refine W.eq (g2 := F0 m 73 ls [.int z_5]) (by rw [ez_5]) ?_
    have hz_5 : iv (-1) 59 z_5 := iv_of ez_5 (CI_a hI 39 hx4_68 (by decide))
    have h_6 : iv 0 59 z_5 := ⟨by rw [ez_5]; exact h68, (hz_5).2⟩
    exact W.nb (fun hN => W.widen (k := 1) (n := 6) (by decide) (by decide) (vx_ret (W.iret (v := z_5) hx hb hr (fun t ht hW => ⟨⟨some (.int z_5), (sg, gm, lg), rfl, ⟨z_5, rfl, sg, gm, lg, rfl, hI, KS_rf, KS_rf, KS_rf, h_6, (hMO), (hFN), (BMK_rf), (WFR_rf)⟩, by rw [ht]; exact hP, va_K.moved hW.alike hK, hD⟩, hS.F ht, by rw [ht]; exact hN⟩) hS.2.2 dX5_obtain_73)))
  refine ec_aload_n hx hb dX5_obtain_0 rfl (lv_at hl 0 rfl) ?_
  refine cr_get (t := 6) (j := 0) (C := RX5) (T := TX5) (N := 13) (v := eV (ad 4) 0) hx hb htb inX5 hown hK hP hvx (by decide) (by decide) (by decide) rfl (by decide) (htb _ kw_121) (cV_c rfl (by decide) (by rw [show cMu 6 0 = 0 from rfl, Nat.zero_mul]; rfl)) dX5_obtain_1 ?_
  refine lv_lload_n hx hb dX5_obtain_4 rfl (lv_at hl 1 rfl) ?_
  refine cm_callV (t := 4) (C := RX10) (T := TX10) (N := 4) (rest := []) (as := [.long nm]) ⟨hx, hb, hml, hown, htb⟩ (d_called l dC dI ad cid a2 lx sg gm lg 0 nm hI (iv_k (by decide) : iv 0 0 0)) (cwV 1 htb (gd_V kw_1011 kw_1012 kw_1013 kw_32 kw_1569) rfl rfl rfl (by decide +kernel) ⟨(show 2 + 1 ≤ 22 + 8 * n9 from by omega), (show 8 + (7 + 11) + (45) ≤ 640 + 260 * n9 from by omega)⟩) (iv_k (by decide) : iv 0 0 0) (by decide) (by decide) rfl rfl hl.1 rfl (Nat.le_trans cs_n (by decide)) dX5_obtain_5 ⟨Nat.le_of_ble_eq_true rfl, Nat.le_of_ble_eq_true rfl⟩ hK hP hD hS hA hG (fun E ce q9 u_8 H locs hw hP hD hS hce hcv hcl => ?_) (fun v9 u_8 H locs hw hP hD hS => ?_)
  · exact hw.elim
  obtain ⟨r_7, rfl, rfl, hr_7, fI_r_7⟩ := hw
  have hP : va_P (dC, dI) vwCl (cW ad cid a2 lx sg gm lg) H := hP
  have hD : va_D A (cW ad cid a2 lx sg gm lg) := hD
  refine W.eq (g2 := F0 m 8 ls [eV (ad 10) r_7]) rfl ?_
  refine ec_astore (i := 4) (lv' := [(4, eV (ad 10) r_7), (0, eV (ad 6) x), (1, .long nm), (3, .int dp)]) hx hb dX5_obtain_8 hl (by decide) rfl (fun ls hl => ?_)
  refine ec_aload hx hb dX5_obtain_10 (lv_at hl 0 rfl) ?_
  refine ec_ifnonnull (tgt := 21) hx hb dX5_obtain_12 (by decide) (fun c_10 => ?_) (fun c_10 => ?_)
  · have h_11 : iv 0 79 r_7 := ⟨c_10, (hr_7).2⟩
    refine ec_aload hx hb dX5_obtain_21 (lv_at hl 0 rfl) ?_
    refine cr_get (t := 10) (j := 13) (C := RX1) (T := TX1) (N := 19) (v := .int (gm 34 r_7.toNatClampNeg)) hx hb htb inX1 hown hK hP h_11 (by decide) (by decide) (by decide) rfl (by decide) (htb _ kw_1003) rfl dX5_obtain_23 ?_
    obtain ⟨z_12, ez_12⟩ : ∃ z : Int32, z = (gm 34 r_7.toNatClampNeg) := ⟨_, rfl⟩
    refine W.eq (g2 := F0 m 26 ls [.int z_12]) (by rw [ez_12]) ?_
    have hz_12 : iv 0 1 z_12 := iv_of ez_12 (CI_a hI 34 h_11 (by decide))
    refine lv_if_eq (tgt := 35) hx hb dX5_obtain_26 (by decide) (fun c_13 => ?_) (fun c_13 => ?_)
    · have h_14 : iv 0 0 z_12 := iv_eq c_13 hz_12 (iv_k (by decide) : iv 0 0 0) (by decide)
      refine ec_aload hx hb dX5_obtain_35 (lv_at hl 0 rfl) ?_
      refine cr_get (t := 10) (j := 14) (C := RX1) (T := TX1) (N := 19) (v := .int (gm 35 r_7.toNatClampNeg)) hx hb htb inX1 hown hK hP h_11 (by decide) (by decide) (by decide) rfl (by decide) (htb _ kw_1004) rfl dX5_obtain_37 ?_
      obtain ⟨z_15, ez_15⟩ : ∃ z : Int32, z = (gm 35 r_7.toNatClampNeg) := ⟨_, rfl⟩
      refine W.eq (g2 := F0 m 40 ls [.int z_15]) (by rw [ez_15]) ?_
      have hz_15 : iv 0 1 z_15 := iv_of ez_15 (CI_a hI 35 h_11 (by decide))
      refine lv_if_ne (tgt := 74) hx hb dX5_obtain_40 (by decide) (fun c_16 => ?_) (fun c_16 => ?_)
      · have h_17 : iv 1 1 z_15 := iv_neL c_16 hz_15 (by decide)
        exact hj74 r_7 h_11 hvx hvdp (fun _ q9 => absurd q9 (fun q9 => absurd (congrArg Int32.toInt (show z_15 = 0 from ez_15.trans q9)) (by have := i32_0; have := i32_0; have := i32_1; have := i32_2; have := i32_m1; have := (hvx).1; have := (hvx).2; have := (hvdp).1; have := (hvdp).2; have := (h_11).1; have := (h_11).2; have := (h_14).1; have := (h_14).2; have := (h_17).1; have := (h_17).2; omega))) ((fI_r_7.resolve_left (by have := i32_0; have := i32_1; have := i32_2; have := i32_m1; have := (hvx).1; have := (hvx).2; have := (hvdp).1; have := (hvdp).2; have := (h_11).1; have := (h_11).2; have := (h_14).1; have := (h_14).2; have := (h_17).1; have := (h_17).2; have := (h_11).1; omega)).1) _ _ _ hP hD hS (lv_sub hl [0, 1, 2, 3] rfl)
      · have h_18 : iv 0 0 z_15 := iv_eq c_16 hz_15 (iv_k (by decide) : iv 0 0 0) (by decide)
        refine ec_aload hx hb dX5_obtain_43 (lv_at hl 0 rfl) ?_
        refine cr_get (t := 10) (j := 17) (C := RX1) (T := TX1) (N := 19) (v := .int (gm 38 r_7.toNatClampNeg)) hx hb htb inX1 hown hK hP h_11 (by decide) (by decide) (by decide) rfl (by decide) (htb _ kw_320) rfl dX5_obtain_45 ?_
        obtain ⟨z_19, ez_19⟩ : ∃ z : Int32, z = (gm 38 r_7.toNatClampNeg) := ⟨_, rfl⟩
        refine W.eq (g2 := F0 m 48 ls [.int z_19]) (by rw [ez_19]) ?_
        have hz_19 : iv 0 1 z_19 := iv_of ez_19 (CI_a hI 38 h_11 (by decide))
        refine lv_if_ne (tgt := 68) hx hb dX5_obtain_48 (by decide) (fun c_20 => ?_) (fun c_20 => ?_)
        · have h_21 : iv 1 1 z_19 := iv_neL c_20 hz_19 (by decide)
          exact hj68 r_7 h_11 hvx hvdp (hMO _ (lt_cl h_11 (show iv 0 80 (sg 12) from CI_s hI 12) (by decide) (by decide) (fI_r_7.resolve_left (by have := i32_0; have := i32_1; have := i32_2; have := i32_m1; have := (hvx).1; have := (hvx).2; have := (hvdp).1; have := (hvdp).2; have := (h_11).1; have := (h_11).2; have := (h_14).1; have := (h_14).2; have := (h_18).1; have := (h_18).2; have := (h_21).1; have := (h_21).2; have := (h_11).1; omega)).1) (fun q9 => absurd (congrArg Int32.toInt (show z_19 = 0 from ez_19.trans q9)) (by have := i32_0; have := i32_0; have := i32_1; have := i32_2; have := i32_m1; have := (hvx).1; have := (hvx).2; have := (hvdp).1; have := (hvdp).2; have := (h_11).1; have := (h_11).2; have := (h_14).1; have := (h_14).2; have := (h_18).1; have := (h_18).2; have := (h_21).1; have := (h_21).2; omega)) (fI_r_7.resolve_left (by have := i32_0; have := i32_1; have := i32_2; have := i32_m1; have := (hvx).1; have := (hvx).2; have := (hvdp).1; have := (hvdp).2; have := (h_11).1; have := (h_11).2; have := (h_14).1; have := (h_14).2; have := (h_18).1; have := (h_18).2; have := (h_21).1; have := (h_21).2; have := (h_11).1; omega)).2 (show gm 35 r_7.toNatClampNeg = 0 from ez_15.symm.trans (Int32.toInt_inj.mp (by have := i32_0; have := i32_0; have := i32_1; have := i32_2; have := i32_m1; have := (hvx).1; have := (hvx).2; have := (hvdp).1; have := (hvdp).2; have := (h_11).1; have := (h_11).2; have := (h_14).1; have := (h_14).2; have := (h_18).1; have := (h_18).2; have := (h_21).1; have := (h_21).2; omega)))) _ _ _ hP hD hS (lv_sub hl [0, 1, 2, 3] rfl)
        · have h_22 : iv 0 0 z_19 := iv_eq c_20 hz_19 (iv_k (by decide) : iv 0 0 0) (by decide)
          refine ec_aload hx hb dX5_obtain_51 (lv_at hl 0 rfl) ?_
          refine cr_get (t := 10) (j := 16) (C := RX1) (T := TX1) (N := 19) (v := .int (gm 37 r_7.toNatClampNeg)) hx hb htb inX1 hown hK hP h_11 (by decide) (by decide) (by decide) rfl (by decide) (htb _ kw_1009) rfl dX5_obtain_53 ?_
          obtain ⟨z_23, ez_23⟩ : ∃ z : Int32, z = (gm 37 r_7.toNatClampNeg) := ⟨_, rfl⟩
          refine W.eq (g2 := F0 m 56 ls [.int z_23]) (by rw [ez_23]) ?_
          have hz_23 : iv 0 1 z_23 := iv_of ez_23 (CI_a hI 37 h_11 (by decide))
          refine lv_if_eq (tgt := 74) hx hb dX5_obtain_56 (by decide) (fun c_24 => ?_) (fun c_24 => ?_)
          · have h_25 : iv 0 0 z_23 := iv_eq c_24 hz_23 (iv_k (by decide) : iv 0 0 0) (by decide)
            exact hj74 r_7 h_11 hvx hvdp (fun _ _ => (show gm 38 r_7.toNatClampNeg = 0 from ez_19.symm.trans (Int32.toInt_inj.mp (by have := i32_0; have := i32_0; have := i32_1; have := i32_2; have := i32_m1; have := (hvx).1; have := (hvx).2; have := (hvdp).1; have := (hvdp).2; have := (h_11).1; have := (h_11).2; have := (h_14).1; have := (h_14).2; have := (h_18).1; have := (h_18).2; have := (h_22).1; have := (h_22).2; have := (h_25).1; have := (h_25).2; omega)))) ((fI_r_7.resolve_left (by have := i32_0; have := i32_1; have := i32_2; have := i32_m1; have := (hvx).1; have := (hvx).2; have := (hvdp).1; have := (hvdp).2; have := (h_11).1; have := (h_11).2; have := (h_14).1; have := (h_14).2; have := (h_18).1; have := (h_18).2; have := (h_22).1; have := (h_22).2; have := (h_25).1; have := (h_25).2; have := (h_11).1; omega)).1) _ _ _ hP hD hS (lv_sub hl [0, 1, 2, 3] rfl)
          · have h_26 : iv 1 1 z_23 := iv_neL c_24 hz_23 (by decide)
            refine ec_aload hx hb dX5_obtain_59 (lv_at hl 0 rfl) ?_
            refine cr_get (t := 10) (j := 18) (C := RX1) (T := TX1) (N := 19) (v := .int (gm 39 r_7.toNatClampNeg)) hx hb htb inX1 hown hK hP h_11 (by decide) (by decide) (by decide) rfl (by decide) (htb _ kw_1010) rfl dX5_obtain_61 ?_
            obtain ⟨z_27, ez_27⟩ : ∃ z : Int32, z = (gm 39 r_7.toNatClampNeg) := ⟨_, rfl⟩
            refine W.eq (g2 := F0 m 64 ls [.int z_27]) (by rw [ez_27]) ?_
            have hz_27 : iv (-1) 59 z_27 := iv_of ez_27 (CI_a hI 39 h_11 (by decide))
            refine lv_iconst (v := (-1)) hx hb dX5_obtain_64 (by decide) ?_
            refine lv_icmp_eq (tgt := 74) hx hb dX5_obtain_65 (by decide) (fun c_28 => ?_) (fun c_28 => ?_)
            · have h_29 : iv (-1) (-1) z_27 := iv_eq c_28 hz_27 (iv_k (by decide) : iv (-1) (-1) (-1)) (by decide)
              exact hj74 r_7 h_11 hvx hvdp (fun _ _ => (show gm 38 r_7.toNatClampNeg = 0 from ez_19.symm.trans (Int32.toInt_inj.mp (by have := i32_0; have := i32_0; have := i32_1; have := i32_2; have := i32_m1; have := (hvx).1; have := (hvx).2; have := (hvdp).1; have := (hvdp).2; have := (h_11).1; have := (h_11).2; have := (h_14).1; have := (h_14).2; have := (h_18).1; have := (h_18).2; have := (h_22).1; have := (h_22).2; have := (h_26).1; have := (h_26).2; have := (h_29).1; have := (h_29).2; omega)))) ((fI_r_7.resolve_left (by have := i32_0; have := i32_1; have := i32_2; have := i32_m1; have := (hvx).1; have := (hvx).2; have := (hvdp).1; have := (hvdp).2; have := (h_11).1; have := (h_11).2; have := (h_14).1; have := (h_14).2; have := (h_18).1; have := (h_18).2; have := (h_22).1; have := (h_22).2; have := (h_26).1; have := (h_26).2; have := (h_29).1; have := (h_29).2; have := (h_11).1; omega)).1) _ _ _ hP hD hS (lv_sub hl [0, 1, 2, 3] rfl)
            · have h_30 : iv 0 59 z_27 := iv_neL c_28 hz_27 (by decide)
              exact hj68 r_7 h_11 hvx hvdp ((by rw [← ez_27]; have := i32_0; have := i32_1; have := i32_2; have := i32_m1; have := (hvx).1; have := (hvx).2; have := (hvdp).1; have := (hvdp).2; have := (h_11).1; have := (h_11).2; have := (h_14).1; have := (h_14).2; have := (h_18).1; have := (h_18).2; have := (h_22).1; have := (h_22).2; have := (h_26).1; have := (h_26).2; have := (h_30).1; have := (h_30).2; have := (h_30).1; omega)) _ _ _ hP hD hS (lv_sub hl [0, 1, 2, 3] rfl)
    · have h_31 : iv 1 1 z_12 := iv_neL c_13 hz_12 (by decide)
      refine ec_aload_n hx hb dX5_obtain_29 rfl (lv_at hl 1 rfl) ?_
      refine lv_iconst (v := 2) hx hb dX5_obtain_30 (by decide) ?_
      refine cm_callV (t := 6) (C := RX5) (T := TX5) (N := 13) (rest := []) (as := [.int 2]) ⟨hx, hb, hml, hown, htb⟩ (d_failWith l dC dI ad cid a2 lx sg gm lg hl9 x 2 hI hvx (iv_w (iv_k (by decide) : iv 2 2 2) (by decide))) (cwV 1 htb (gd_V kw_1018 kw_1019 kw_1020 kw_40 kw_1571) rfl rfl rfl (by decide +kernel) ⟨(show 6 + 1 ≤ 22 + 8 * n9 from by omega), (show 8 + (2 + 11) + (120) ≤ 640 + 260 * n9 from by omega)⟩) hvx (by decide) (by decide) rfl rfl hl.1 rfl (Nat.le_trans cs_n (by decide)) dX5_obtain_31 ⟨Nat.le_of_ble_eq_true rfl, Nat.le_of_ble_eq_true rfl⟩ hK hP hD hS hA hG (fun E ce q9 u_33 H locs hw hP hD hS hce hcv hcl => ?_) (fun v9 u_33 H locs hw hP hD hS => ?_)
      · obtain ⟨hE, hw⟩ := hw
        obtain ⟨sgv_34, gmv_34, lgv_34, rfl, hIv_34, ksv_34, kgv_34, klv_34⟩ := hw
        obtain rfl := KS_nil kgv_34
        obtain rfl := KS_nil klv_34
        have hP : va_P (dC, dI) vwCl (cW ad cid a2 lx sgv_34 gm lg) H := hP
        have hD : va_D A (cW ad cid a2 lx sgv_34 gm lg) := hD
        exact vx_out (fun x hx9 => (hxt x hx9).elim) hlocks hce hcv hcl (fun t ht hal => ⟨⟨(sgv_34, gm, lg), ⟨hE, sgv_34, gm, lg, rfl, hIv_34, (KS_tr (L := [13, 14, 15, 16, 17, 18]) KS_rf ksv_34 (by decide)), KS_rf, KS_rf, ((MOK_e hMO (show sgv_34 12 = sg 12 from (ksv_34 12 (by decide))) rfl rfl rfl rfl)), ((FND9_e hFN (show sgv_34 15 = sg 15 from (ksv_34 15 (by decide))) rfl))⟩, by rw [ht]; exact hP, va_K.moved hal hK, hD⟩, hS.F ht⟩) hS.2.2 (Nat.le_of_ble_eq_true rfl) (Nat.le_of_ble_eq_true rfl)
      obtain ⟨r_32, rfl, sgv_35, gmv_35, lgv_35, rfl, hIv_35, ksv_35, kgv_35, klv_35, fF_r_32⟩ := hw
      obtain rfl := KS_nil kgv_35
      obtain rfl := KS_nil klv_35
      have hP : va_P (dC, dI) vwCl (cW ad cid a2 lx sgv_35 gm lg) H := hP
      have hD : va_D A (cW ad cid a2 lx sgv_35 gm lg) := hD
      exact fF_r_32.elim
  · have h_36 : iv (-1) (-1) r_7 := ⟨(hr_7).1, by omega⟩
    refine ec_aload_n hx hb dX5_obtain_15 rfl (lv_at hl 1 rfl) ?_
    refine lv_iconst (v := 1) hx hb dX5_obtain_16 (by decide) ?_
    refine cm_callV (t := 6) (C := RX5) (T := TX5) (N := 13) (rest := []) (as := [.int 1]) ⟨hx, hb, hml, hown, htb⟩ (d_failWith l dC dI ad cid a2 lx sg gm lg hl9 x 1 hI hvx (iv_w (iv_k (by decide) : iv 1 1 1) (by decide))) (cwV 1 htb (gd_V kw_1018 kw_1019 kw_1020 kw_40 kw_1571) rfl rfl rfl (by decide +kernel) ⟨(show 6 + 1 ≤ 22 + 8 * n9 from by omega), (show 8 + (2 + 11) + (120) ≤ 640 + 260 * n9 from by omega)⟩) hvx (by decide) (by decide) rfl rfl hl.1 rfl (Nat.le_trans cs_n (by decide)) dX5_obtain_17 ⟨Nat.le_of_ble_eq_true rfl, Nat.le_of_ble_eq_true rfl⟩ hK hP hD hS hA hG (fun E ce q9 u_38 H locs hw hP hD hS hce hcv hcl => ?_) (fun v9 u_38 H locs hw hP hD hS => ?_)
    · obtain ⟨hE, hw⟩ := hw
      obtain ⟨sgv_39, gmv_39, lgv_39, rfl, hIv_39, ksv_39, kgv_39, klv_39⟩ := hw
      obtain rfl := KS_nil kgv_39
      obtain rfl := KS_nil klv_39
      have hP : va_P (dC, dI) vwCl (cW ad cid a2 lx sgv_39 gm lg) H := hP
      have hD : va_D A (cW ad cid a2 lx sgv_39 gm lg) := hD
      exact vx_out (fun x hx9 => (hxt x hx9).elim) hlocks hce hcv hcl (fun t ht hal => ⟨⟨(sgv_39, gm, lg), ⟨hE, sgv_39, gm, lg, rfl, hIv_39, (KS_tr (L := [13, 14, 15, 16, 17, 18]) KS_rf ksv_39 (by decide)), KS_rf, KS_rf, ((MOK_e hMO (show sgv_39 12 = sg 12 from (ksv_39 12 (by decide))) rfl rfl rfl rfl)), ((FND9_e hFN (show sgv_39 15 = sg 15 from (ksv_39 15 (by decide))) rfl))⟩, by rw [ht]; exact hP, va_K.moved hal hK, hD⟩, hS.F ht⟩) hS.2.2 (Nat.le_of_ble_eq_true rfl) (Nat.le_of_ble_eq_true rfl)
    obtain ⟨r_37, rfl, sgv_40, gmv_40, lgv_40, rfl, hIv_40, ksv_40, kgv_40, klv_40, fF_r_37⟩ := hw
    obtain rfl := KS_nil kgv_40
    obtain rfl := KS_nil klv_40
    have hP : va_P (dC, dI) vwCl (cW ad cid a2 lx sgv_40 gm lg) H := hP
    have hD : va_D A (cW ad cid a2 lx sgv_40 gm lg) := hD
    exact fF_r_37.elim

theorem d_rec (l : Launch) (dC : Nat → ClassId) (dI : Nat → Nat → Nat) (ad : Nat → Nat → Nat) (cid : Nat → ClassId) (a2 : Nat → Nat) (lx : List Nat) (hl9 : l.stackTraces = false) : ∀ n9, PM l dC dI ad cid a2 lx n9 ∧ PO l dC dI ad cid a2 lx n9 := by
  intro n9
  induction n9 with
  | zero =>
    have hm : PM l dC dI ad cid a2 lx 0 := fun sg gm lg x b dp hI hvx hvb hvdp hW hLD hMO hFN hb12 hnm hdp => d_make0 l dC dI ad cid a2 lx sg gm lg hl9 0 x b dp hI hvx hvb hvdp hW hLD hMO hFN hb12 hnm (by omega)
    exact ⟨hm, fun sg gm lg x nm dp hI hvx hvdp hW hLD hMO hFN hdp => d_obtain l dC dI ad cid a2 lx sg gm lg hl9 0 hm x nm dp hI hvx hvdp hW hLD hMO hFN hdp⟩
  | succ n9 ih =>
    have hm : PM l dC dI ad cid a2 lx (n9 + 1) := fun sg gm lg x b dp hI hvx hvb hvdp hW hLD hMO hFN hb12 hnm hdp => d_make l dC dI ad cid a2 lx sg gm lg hl9 n9 ih.2 ih.1 x b dp hI hvx hvb hvdp hW hLD hMO hFN hb12 hnm hdp
    exact ⟨hm, fun sg gm lg x nm dp hI hvx hvdp hW hLD hMO hFN hdp => d_obtain l dC dI ad cid a2 lx sg gm lg hl9 (n9 + 1) hm x nm dp hI hvx hvdp hW hLD hMO hFN hdp⟩
