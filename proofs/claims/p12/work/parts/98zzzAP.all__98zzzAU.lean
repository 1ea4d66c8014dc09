section
set_option maxHeartbeats 4000000 in
set_option maxRecDepth 100000 in
theorem d_make09 (l : Launch) (dC : Nat → ClassId) (dI : Nat → Nat → Nat) (ad : Nat → Nat → Nat) (cid : Nat → ClassId) (a2 : Nat → Nat) (lx : List Nat) (sg : Nat → Int32) (gm : Nat → Nat → Int32) (lg : Nat → Nat → Int64) (hl9 : l.stackTraces = false) (n9 : Nat) (x : Int32) (b : Int32) (dp : Int32) (wg : Nat → Nat → Int32) (ws : Nat → Int32) (S : S9) (hI : CI sg gm) (hvx : iv 0 0 x) (hvb : iv 0 79 b) (hvdp : iv 0 40 dp) (hW : WRD sg gm lg) (hLD : LDI lx gm) (hMO : MOK sg gm lg) (hFN : FND9 sg gm) (hb12 : b.toInt < (sg 12).toInt) (hnm : ¬ lg 4 b.toNatClampNeg = 0 → gm 35 b.toNatClampNeg = 0 → gm 38 b.toNatClampNeg = 0) (hdp : dp.toInt = 40) (hSW : st9 gm = wg) (hSS : ss9 sg = ws) (hSV : SV ws wg lg) (hRC : RC wg lg S sg gm) : CMt dC dI ad cid a2 lx l yX5_make wm_X5_make ({ frames := 20 + 8 * n9, cells := 1, slots := 6, locals := 600 + 260 * n9 }) [eV (ad 6) x, eV (ad 10) b, .int dp] sg gm lg (fun v u => ∃ r : Int32, v = some (.int r) ∧ ∃ (sg2 : Nat → Int32) (gm2 : Nat → Nat → Int32) (lg2 : Nat → Nat → Int64), u = (sg2, gm2, lg2) ∧ CI sg2 gm2 ∧ KS [13, 14, 15, 16, 17, 18] sg sg2 ∧ KS [37, 38, 39, 48, 49, 50, 51, 52, 53] gm gm2 ∧ KS [] lg lg2 ∧ (iv 0 59 r) ∧ (MOK sg2 gm2 lg2) ∧ (FND9 sg2 gm2) ∧ (BMK gm gm2) ∧ (WFR (24 * dp.toNatClampNeg) gm gm2) ∧ ((sg 14).toInt ≤ (sg2 14).toInt) ∧ (r.toInt < (sg2 14).toInt) ∧ (∃ S2, oMK ws wg lg 0 b.toNatClampNeg S = (some r.toInt, S2) ∧ RC wg lg S2 sg2 gm2)) (fun E u => (E = "java/lang/UnsupportedOperationException") ∧ ∃ (sg2 : Nat → Int32) (gm2 : Nat → Nat → Int32) (lg2 : Nat → Nat → Int64), u = (sg2, gm2, lg2) ∧ CI sg2 gm2 ∧ KS [13, 14, 15, 16, 17, 18] sg sg2 ∧ KS [37, 38, 39, 48, 49, 50, 51, 52, 53] gm gm2 ∧ KS [] lg lg2 ∧ (MOK sg2 gm2 lg2) ∧ (FND9 sg2 gm2) ∧ (∃ S2, oMK ws wg lg 0 b.toNatClampNeg S = (none, S2) ∧ RC wg lg S2 sg2 gm2)) := by
  intro sz
  refine vx_ofW (cc := cX5_make) (maxL := 5) (ret := (some .int)) (by decide) rfl ?_
  intro p e s m args below meth c s₁ B hml hxt hv
  obtain ⟨rfl, hsz, hP, hK, hD0, hG⟩ := hv
  have hx := B.exec
  have hb := B.bytes
  have hr := B.returns
  have hts := atoms_spec (ws := wm_X5_make) B.pre
  have htb := fun (w : Cond) (h : w ∈ tb) => hts w (List.mem_cons_of_mem _ h)
  have hown : s.vm.findClass RX5 = some m.cls := findClass_of_methodNamed B.named
  have hlocks := B.notSynchronized
  subst hsz
  have hD := hD0.self (sz := s.heap.size)
  generalize hAe : va_A (cW ad cid a2 lx sg gm lg) s.heap.size = A at hD hG ⊢
  have hA : ∀ q : Nat, s.heap.size ≤ q → A q := fun q h => by rw [← hAe]; exact Or.inr h
  have hS : va_S A s.heap s.heap [] := va_S.rf
  have hl := lv_entry ([eV (ad 6) x, eV (ad 10) b, .int dp]) (n := 5) (by rw [show (lg_sl ([eV (ad 6) x, eV (ad 10) b, .int dp])).length = 3 from by simp [lg_sl, eV_cat, cat_i, cat_l]]; exact Nat.le_of_ble_eq_true rfl)
  rw [lg_entry_eq]
  generalize (lg_sl ([eV (ad 6) x, eV (ad 10) b, .int dp]) ++ List.replicate (5 - (lg_sl ([eV (ad 6) x, eV (ad 10) b, .int dp])).length) Slot.unset).toArray = ls at hl ⊢
  have hl : lv_has ls 5 [(0, eV (ad 6) x), (1, eV (ad 10) b), (2, .int dp)] := by simp [lv_args, eV_cat, cat_i, cat_l] at hl; exact hl
  refine ec_aload_n hx hb dX5_make_0 rfl (lv_at hl 1 rfl) ?_
  refine cr_get (t := 10) (j := 16) (C := RX1) (T := TX1) (N := 19) (v := .int (gm 37 b.toNatClampNeg)) hx hb htb inX1 hown hK hP hvb (by decide) (by decide) (by decide) rfl (by decide) (htb _ kw_1006) rfl dX5_make_1 ?_
  obtain ⟨z_1, ez_1⟩ : ∃ z : Int32, z = (gm 37 b.toNatClampNeg) := ⟨_, rfl⟩
  refine W.eq (g2 := F0 m 4 ls [.int z_1]) (by rw [ez_1]) ?_
  have hz_1 : iv 0 1 z_1 := iv_of ez_1 (CI_a hI 37 hvb (by decide))
  refine lv_if_ne (tgt := 13) hx hb dX5_make_4 (by decide) (fun c_2 => ?_) (fun c_2 => ?_)
  · have h_3 : iv 1 1 z_1 := iv_neL c_2 hz_1 (by decide)
    refine ec_aload_n hx hb dX5_make_13 rfl (lv_at hl 0 rfl) ?_
    refine lv_iconst (v := 3) hx hb dX5_make_14 (by decide) ?_
    refine cm_callV (t := 6) (C := RX5) (T := TX5) (N := 13) (rest := []) (as := [.int 3]) ⟨hx, hb, hml, hown, htb⟩ (d_failWith l dC dI ad cid a2 lx sg gm lg hl9 x 3 hI hvx (iv_w (iv_k (by decide) : iv 3 3 3) (by decide))) (cwV 1 htb (gd_V kw_1015 kw_1016 kw_1017 kw_40 kw_1570) rfl rfl rfl (by decide +kernel) ⟨(show 6 + 1 ≤ 20 + 8 * n9 from by omega), (show 8 + (2 + 11) + (120) ≤ 600 + 260 * n9 from by omega)⟩) hvx (by decide) (by decide) rfl rfl hl.1 rfl (Nat.le_trans cs_n (by decide)) dX5_make_15 ⟨Nat.le_of_ble_eq_true rfl, Nat.le_of_ble_eq_true rfl⟩ hK hP hD hS hA hG (fun E ce q9 u_5 H locs hw hP hD hS hce hcv hcl => ?_) (fun v9 u_5 H locs hw hP hD hS => ?_)
    · obtain ⟨hE, hw⟩ := hw
      obtain ⟨sgv_6, gmv_6, lgv_6, rfl, hIv_6, ksv_6, kgv_6, klv_6⟩ := hw
      obtain rfl := KS_nil kgv_6
      obtain rfl := KS_nil klv_6
      have hP : va_P (dC, dI) vwCl (cW ad cid a2 lx sgv_6 gm lg) H := hP
      have hD : va_D A (cW ad cid a2 lx sgv_6 gm lg) := hD
      exact vx_out (fun x hx9 => (hxt x hx9).elim) hlocks hce hcv hcl (fun t ht hal => ⟨⟨(sgv_6, gm, lg), ⟨hE, sgv_6, gm, lg, rfl, hIv_6, (KS_tr (L := [13, 14, 15, 16, 17, 18]) KS_rf ksv_6 (by decide)), KS_rf, KS_rf, ((MOK_e hMO (show sgv_6 12 = sg 12 from (ksv_6 12 (by decide))) rfl rfl rfl rfl)), ((FND9_e hFN (show sgv_6 15 = sg 15 from (ksv_6 15 (by decide))) rfl)), (⟨S, rfl, (RC_ks (L := [17, 18]) (M := []) hRC (KS_tr (L := [17, 18]) KS_rf ksv_6 (by decide)) KS_rf (by decide) (by decide))⟩)⟩, by rw [ht]; exact hP, va_K.moved hal hK, hD⟩, hS.F ht⟩) hS.2.2 (Nat.le_of_ble_eq_true rfl) (Nat.le_of_ble_eq_true rfl)
    obtain ⟨r_4, rfl, sgv_7, gmv_7, lgv_7, rfl, hIv_7, ksv_7, kgv_7, klv_7, fF_r_4⟩ := hw
    obtain rfl := KS_nil kgv_7
    obtain rfl := KS_nil klv_7
    have hP : va_P (dC, dI) vwCl (cW ad cid a2 lx sgv_7 gm lg) H := hP
    have hD : va_D A (cW ad cid a2 lx sgv_7 gm lg) := hD
    exact fF_r_4.elim
  · have h_8 : iv 0 0 z_1 := iv_eq c_2 hz_1 (iv_k (by decide) : iv 0 0 0) (by decide)
    refine lv_iload_n hx hb dX5_make_7 rfl (lv_at hl 2 rfl) ?_
    refine lv_bipush (v := 40) hx hb dX5_make_8 (by decide) ?_
    refine lv_icmp_lt (tgt := 19) hx hb dX5_make_10 (by decide) (fun c_9 => ?_) (fun c_9 => ?_)
    · have h_10 : iv 0 39 dp := iv_ltL c_9 hvdp (iv_k (by decide) : iv 40 40 40) (by decide)
      exact absurd hdp (by have := i32_0; have := i32_1; have := i32_2; have := i32_m1; have := (hvx).1; have := (hvx).2; have := (hvb).1; have := (hvb).2; have := (h_10).1; have := (h_10).2; have := (h_8).1; have := (h_8).2; omega)
    · have h_11 : iv 40 40 dp := iv_leR (i32_ge c_9) (iv_k (by decide) : iv 40 40 40) hvdp (by decide)
      refine ec_aload_n hx hb dX5_make_13 rfl (lv_at hl 0 rfl) ?_
      refine lv_iconst (v := 3) hx hb dX5_make_14 (by decide) ?_
      refine cm_callV (t := 6) (C := RX5) (T := TX5) (N := 13) (rest := []) (as := [.int 3]) ⟨hx, hb, hml, hown, htb⟩ (d_failWith l dC dI ad cid a2 lx sg gm lg hl9 x 3 hI hvx (iv_w (iv_k (by decide) : iv 3 3 3) (by decide))) (cwV 1 htb (gd_V kw_1015 kw_1016 kw_1017 kw_40 kw_1570) rfl rfl rfl (by decide +kernel) ⟨(show 6 + 1 ≤ 20 + 8 * n9 from by omega), (show 8 + (2 + 11) + (120) ≤ 600 + 260 * n9 from by omega)⟩) hvx (by decide) (by decide) rfl rfl hl.1 rfl (Nat.le_trans cs_n (by decide)) dX5_make_15 ⟨Nat.le_of_ble_eq_true rfl, Nat.le_of_ble_eq_true rfl⟩ hK hP hD hS hA hG (fun E ce q9 u_13 H locs hw hP hD hS hce hcv hcl => ?_) (fun v9 u_13 H locs hw hP hD hS => ?_)
      · obtain ⟨hE, hw⟩ := hw
        obtain ⟨sgv_14, gmv_14, lgv_14, rfl, hIv_14, ksv_14, kgv_14, klv_14⟩ := hw
        obtain rfl := KS_nil kgv_14
        obtain rfl := KS_nil klv_14
        have hP : va_P (dC, dI) vwCl (cW ad cid a2 lx sgv_14 gm lg) H := hP
        have hD : va_D A (cW ad cid a2 lx sgv_14 gm lg) := hD
        exact vx_out (fun x hx9 => (hxt x hx9).elim) hlocks hce hcv hcl (fun t ht hal => ⟨⟨(sgv_14, gm, lg), ⟨hE, sgv_14, gm, lg, rfl, hIv_14, (KS_tr (L := [13, 14, 15, 16, 17, 18]) KS_rf ksv_14 (by decide)), KS_rf, KS_rf, ((MOK_e hMO (show sgv_14 12 = sg 12 from (ksv_14 12 (by decide))) rfl rfl rfl rfl)), ((FND9_e hFN (show sgv_14 15 = sg 15 from (ksv_14 15 (by decide))) rfl)), (⟨S, rfl, (RC_ks (L := [17, 18]) (M := []) hRC (KS_tr (L := [17, 18]) KS_rf ksv_14 (by decide)) KS_rf (by decide) (by decide))⟩)⟩, by rw [ht]; exact hP, va_K.moved hal hK, hD⟩, hS.F ht⟩) hS.2.2 (Nat.le_of_ble_eq_true rfl) (Nat.le_of_ble_eq_true rfl)
      obtain ⟨r_12, rfl, sgv_15, gmv_15, lgv_15, rfl, hIv_15, ksv_15, kgv_15, klv_15, fF_r_12⟩ := hw
      obtain rfl := KS_nil kgv_15
      obtain rfl := KS_nil klv_15
      have hP : va_P (dC, dI) vwCl (cW ad cid a2 lx sgv_15 gm lg) H := hP
      have hD : va_D A (cW ad cid a2 lx sgv_15 gm lg) := hD
      exact fF_r_12.elim

set_option maxHeartbeats 4000000 in
set_option maxRecDepth 100000 in
theorem d_obtain9 (l : Launch) (dC : Nat → ClassId) (dI : Nat → Nat → Nat) (ad : Nat → Nat → Nat) (cid : Nat → ClassId) (a2 : Nat → Nat) (lx : List Nat) (sg : Nat → Int32) (gm : Nat → Nat → Int32) (lg : Nat → Nat → Int64) (hl9 : l.stackTraces = false) (n9 : Nat) (HM : PM9 l dC dI ad cid a2 lx n9) (x : Int32) (nm : Int64) (dp : Int32) (wg : Nat → Nat → Int32) (ws : Nat → Int32) (S : S9) (hI : CI sg gm) (hvx : iv 0 0 x) (hvdp : iv 0 40 dp) (hW : WRD sg gm lg) (hLD : LDI lx gm) (hMO : MOK sg gm lg) (hFN : FND9 sg gm) (hdp : dp.toInt + ((n9 : Nat) : Int) = 40) (hSW : st9 gm = wg) (hSS : ss9 sg = ws) (hSV : SV ws wg lg) (hRC : RC wg lg S sg gm) : CMt dC dI ad cid a2 lx l yX5_obtain wm_X5_obtain ({ frames := 22 + 8 * n9, cells := 1, slots := 6, locals := 640 + 260 * n9 }) [eV (ad 6) x, .long nm, .int dp] sg gm lg (fun v u => ∃ r : Int32, v = some (.int r) ∧ ∃ (sg2 : Nat → Int32) (gm2 : Nat → Nat → Int32) (lg2 : Nat → Nat → Int64), u = (sg2, gm2, lg2) ∧ CI sg2 gm2 ∧ KS [13, 14, 15, 16, 17, 18] sg sg2 ∧ KS [37, 38, 39, 48, 49, 50, 51, 52, 53] gm gm2 ∧ KS [] lg lg2 ∧ (iv 0 59 r) ∧ (MOK sg2 gm2 lg2) ∧ (FND9 sg2 gm2) ∧ (BMK gm gm2) ∧ (WFR (24 * dp.toNatClampNeg) gm gm2) ∧ ((sg 14).toInt ≤ (sg2 14).toInt) ∧ (r.toInt < (sg2 14).toInt) ∧ (∃ S2, oGet wg (oMK ws wg lg n9) (caN ws wg lg nm) S = (some r.toInt, S2) ∧ RC wg lg S2 sg2 gm2)) (fun E u => (E = "java/lang/UnsupportedOperationException") ∧ ∃ (sg2 : Nat → Int32) (gm2 : Nat → Nat → Int32) (lg2 : Nat → Nat → Int64), u = (sg2, gm2, lg2) ∧ CI sg2 gm2 ∧ KS [13, 14, 15, 16, 17, 18] sg sg2 ∧ KS [37, 38, 39, 48, 49, 50, 51, 52, 53] gm gm2 ∧ KS [] lg lg2 ∧ (MOK sg2 gm2 lg2) ∧ (FND9 sg2 gm2) ∧ (∃ S2, oGet wg (oMK ws wg lg n9) (caN ws wg lg nm) S = (none, S2) ∧ RC wg lg S2 sg2 gm2)) := by
  intro sz
  refine vx_ofW (cc := cX5_obtain) (maxL := 5) (ret := (some .int)) (by decide) rfl ?_
  intro p e s m args below meth c s₁ B hml hxt hv
  obtain ⟨rfl, hsz, hP, hK, hD0, hG⟩ := hv
  have hx := B.exec
  have hb := B.bytes
  have hr := B.returns
  have hts := atoms_spec (ws := wm_X5_obtain) B.pre
  have htb := fun (w : Cond) (h : w ∈ tb) => hts w (List.mem_cons_of_mem _ h)
  have hown : s.vm.findClass RX5 = some m.cls := findClass_of_methodNamed B.named
  have hlocks := B.notSynchronized
  subst hsz
  have hD := hD0.self (sz := s.heap.size)
  generalize hAe : va_A (cW ad cid a2 lx sg gm lg) s.heap.size = A at hD hG ⊢
  have hA : ∀ q : Nat, s.heap.size ≤ q → A q := fun q h => by rw [← hAe]; exact Or.inr h
  have hS : va_S A s.heap s.heap [] := va_S.rf
  have hl := lv_entry ([eV (ad 6) x, .long nm, .int dp]) (n := 5) (by rw [show (lg_sl ([eV (ad 6) x, .long nm, .int dp])).length = 4 from by simp [lg_sl, eV_cat, cat_i, cat_l]]; exact Nat.le_of_ble_eq_true rfl)
  rw [lg_entry_eq]
  generalize (lg_sl ([eV (ad 6) x, .long nm, .int dp]) ++ List.replicate (5 - (lg_sl ([eV (ad 6) x, .long nm, .int dp])).length) Slot.unset).toArray = ls at hl ⊢
  have hl : lv_has ls 5 [(0, eV (ad 6) x), (1, .long nm), (3, .int dp)] := by simp [lv_args, eV_cat, cat_i, cat_l] at hl; exact hl
  have hj74 : ∀ (x4_74 : Int32) (_ : iv 0 79 x4_74) (_ : iv 0 0 x) (_ : iv 0 40 dp) (_ : ¬ lg 4 x4_74.toNatClampNeg = 0 → gm 35 x4_74.toNatClampNeg = 0 → gm 38 x4_74.toNatClampNeg = 0) (_ : x4_74.toInt < (sg 12).toInt) (_ : oGet wg (oMK ws wg lg n9) (caN ws wg lg nm) S = (oMK ws wg lg n9) x4_74.toNatClampNeg S) (H : Heap) (locs : List Loc) (ls : Array Slot), va_P (dC, dI) vwCl (cW ad cid a2 lx sg gm lg) H → va_D A (cW ad cid a2 lx sg gm lg) → va_S A s.heap H locs → lv_has ls 5 [(4, eV (ad 10) x4_74), (0, eV (ad 6) x), (1, .long nm), (3, .int dp)] → W p l e (headSpec wm_X5_obtain ({ frames := 22 + 8 * n9, cells := 1, slots := 6, locals := 640 + 260 * n9 })).room s m ([eV (ad 6) x, .long nm, .int dp] : List Value).toArray below meth c H locs 0 0 (vx_MQ below (cQx dC dI ad cid a2 lx (fun v u => ∃ r : Int32, v = some (.int r) ∧ ∃ (sg2 : Nat → Int32) (gm2 : Nat → Nat → Int32) (lg2 : Nat → Nat → Int64), u = (sg2, gm2, lg2) ∧ CI sg2 gm2 ∧ KS [13, 14, 15, 16, 17, 18] sg sg2 ∧ KS [37, 38, 39, 48, 49, 50, 51, 52, 53] gm gm2 ∧ KS [] lg lg2 ∧ (iv 0 59 r) ∧ (MOK sg2 gm2 lg2) ∧ (FND9 sg2 gm2) ∧ (BMK gm gm2) ∧ (WFR (24 * dp.toNatClampNeg) gm gm2) ∧ ((sg 14).toInt ≤ (sg2 14).toInt) ∧ (r.toInt < (sg2 14).toInt) ∧ (∃ S2, oGet wg (oMK ws wg lg n9) (caN ws wg lg nm) S = (some r.toInt, S2) ∧ RC wg lg S2 sg2 gm2)) A) (cX dC dI ad cid a2 lx (fun E u => (E = "java/lang/UnsupportedOperationException") ∧ ∃ (sg2 : Nat → Int32) (gm2 : Nat → Nat → Int32) (lg2 : Nat → Nat → Int64), u = (sg2, gm2, lg2) ∧ CI sg2 gm2 ∧ KS [13, 14, 15, 16, 17, 18] sg sg2 ∧ KS [37, 38, 39, 48, 49, 50, 51, 52, 53] gm gm2 ∧ KS [] lg lg2 ∧ (MOK sg2 gm2 lg2) ∧ (FND9 sg2 gm2) ∧ (∃ S2, oGet wg (oMK ws wg lg n9) (caN ws wg lg nm) S = (none, S2) ∧ RC wg lg S2 sg2 gm2)) A) ([eV (ad 6) x, .long nm, .int dp] : List Value).toArray s 1 6 A) (F0 m 74 ls []) := by
    intro x4_74 hx4_74 hsx0_74 hsx3_74 h74 h74b hG74 H locs ls hP hD hS hl
    refine ec_aload_n hx hb dX5_obtain_74 rfl (lv_at hl 1 rfl) ?_
    refine ec_aload hx hb dX5_obtain_75 (lv_at hl 0 rfl) ?_
    refine lv_iload_n hx hb dX5_obtain_77 rfl (lv_at hl 3 rfl) ?_
    refine cm_callV (t := 6) (C := RX5) (T := TX5) (N := 13) (rest := []) (as := [eV (ad 10) x4_74, .int dp]) ⟨hx, hb, hml, hown, htb⟩ (HM sg gm lg x x4_74 dp wg ws S hI hsx0_74 hx4_74 hsx3_74 hW hLD hMO hFN h74b h74 (by have := i32_0; have := i32_1; have := i32_2; have := i32_m1; have := (hsx0_74).1; have := (hsx0_74).2; have := (hsx3_74).1; have := (hsx3_74).2; have := (hx4_74).1; have := (hx4_74).2; omega) hSW hSS hSV hRC) (cwV 2 htb (gd_V kw_1020 kw_1021 kw_1022 kw_40 kw_1583) rfl rfl rfl (by decide +kernel) ⟨(show 20 + 8 * n9 + 1 ≤ 22 + 8 * n9 from by omega), (show 8 + (5 + 11) + (600 + 260 * n9) ≤ 640 + 260 * n9 from by omega)⟩) hsx0_74 (by decide) (by decide) rfl rfl hl.1 rfl (Nat.le_trans cs_n (by decide)) dX5_obtain_78 ⟨Nat.le_of_ble_eq_true rfl, Nat.le_of_ble_eq_true rfl⟩ hK hP hD hS hA hG (fun E ce q9 u_2 H locs hw hP hD hS hce hcv hcl => ?_) (fun v9 u_2 H locs hw hP hD hS => ?_)
    · obtain ⟨hE, hw⟩ := hw
      obtain ⟨sgv_3, gmv_3, lgv_3, rfl, hIv_3, ksv_3, kgv_3, klv_3, xMO_v_3, xFN_v_3, xM_v_3⟩ := hw
      obtain rfl := KS_nil klv_3
      have hP : va_P (dC, dI) vwCl (cW ad cid a2 lx sgv_3 gmv_3 lg) H := hP
      have hD : va_D A (cW ad cid a2 lx sgv_3 gmv_3 lg) := hD
      exact vx_out (fun x hx9 => (hxt x hx9).elim) hlocks hce hcv hcl (fun t ht hal => ⟨⟨(sgv_3, gmv_3, lg), ⟨hE, sgv_3, gmv_3, lg, rfl, hIv_3, (KS_tr (L := [13, 14, 15, 16, 17, 18]) KS_rf ksv_3 (by decide)), (KS_tr (L := [37, 38, 39, 48, 49, 50, 51, 52, 53]) KS_rf kgv_3 (by decide)), KS_rf, (xMO_v_3), (xFN_v_3), ((by obtain ⟨S2, h1, h2⟩ := xM_v_3; exact ⟨S2, (by rw [hG74]; exact h1), h2⟩))⟩, by rw [ht]; exact hP, va_K.moved hal hK, hD⟩, hS.F ht⟩) hS.2.2 (Nat.le_of_ble_eq_true rfl) (Nat.le_of_ble_eq_true rfl)
    obtain ⟨r_1, rfl, sgv_4, gmv_4, lgv_4, rfl, hIv_4, ksv_4, kgv_4, klv_4, hr_1, fMO_r_1, fFN_r_1, fBM_r_1, fWF_r_1, f14_r_1, fr_r_1, fM_r_1⟩ := hw
    obtain rfl := KS_nil klv_4
    have hP : va_P (dC, dI) vwCl (cW ad cid a2 lx sgv_4 gmv_4 lg) H := hP
    have hD : va_D A (cW ad cid a2 lx sgv_4 gmv_4 lg) := hD
    refine W.eq (g2 := F0 m 81 ls [.int r_1]) rfl ?_
    have bm_r_1 := BMK_t BMK_rf fBM_r_1
    have wf_r_1 : WFR (24 * dp.toNatClampNeg) gm gmv_4 := WFR_t WFR_rf fWF_r_1 (Nat.le_refl _)
    have m14_r_1 : (sg 14).toInt ≤ (sgv_4 14).toInt := Int.le_trans (Int.le_refl _) f14_r_1
    exact W.nb (fun hN => W.widen (k := 1) (n := 6) (by decide) (by decide) (vx_ret (W.iret (v := r_1) hx hb hr (fun t ht hW => ⟨⟨some (.int r_1), (sgv_4, gmv_4, lg), rfl, ⟨r_1, rfl, sgv_4, gmv_4, lg, rfl, hIv_4, (KS_tr (L := [13, 14, 15, 16, 17, 18]) KS_rf ksv_4 (by decide)), (KS_tr (L := [37, 38, 39, 48, 49, 50, 51, 52, 53]) KS_rf kgv_4 (by decide)), KS_rf, hr_1, (fMO_r_1), (fFN_r_1), (bm_r_1), (wf_r_1), (m14_r_1), (fr_r_1), ((by obtain ⟨S2, h1, h2⟩ := fM_r_1; exact ⟨S2, (by rw [hG74]; exact h1), h2⟩))⟩, by rw [ht]; exact hP, va_K.moved hW.alike hK, hD⟩, hS.F ht, by rw [ht]; exact hN⟩) hS.2.2 dX5_obtain_81)))
  have hj68 : ∀ (x4_68 : Int32) (_ : iv 0 79 x4_68) (_ : iv 0 0 x) (_ : iv 0 40 dp) (_ : 0 ≤ (gm 39 x4_68.toNatClampNeg).toInt) (_ : oGet wg (oMK ws wg lg n9) (caN ws wg lg nm) S = (some (gm 39 x4_68.toNatClampNeg).toInt, S) ∧ (gm 39 x4_68.toNatClampNeg).toInt < (sg 14).toInt) (H : Heap) (locs : List Loc) (ls : Array Slot), va_P (dC, dI) vwCl (cW ad cid a2 lx sg gm lg) H → va_D A (cW ad cid a2 lx sg gm lg) → va_S A s.heap H locs → lv_has ls 5 [(4, eV (ad 10) x4_68), (0, eV (ad 6) x), (1, .long nm), (3, .int dp)] → W p l e (headSpec wm_X5_obtain ({ frames := 22 + 8 * n9, cells := 1, slots := 6, locals := 640 + 260 * n9 })).room s m ([eV (ad 6) x, .long nm, .int dp] : List Value).toArray below meth c H locs 0 0 (vx_MQ below (cQx dC dI ad cid a2 lx (fun v u => ∃ r : Int32, v = some (.int r) ∧ ∃ (sg2 : Nat → Int32) (gm2 : Nat → Nat → Int32) (lg2 : Nat → Nat → Int64), u = (sg2, gm2, lg2) ∧ CI sg2 gm2 ∧ KS [13, 14, 15, 16, 17, 18] sg sg2 ∧ KS [37, 38, 39, 48, 49, 50, 51, 52, 53] gm gm2 ∧ KS [] lg lg2 ∧ (iv 0 59 r) ∧ (MOK sg2 gm2 lg2) ∧ (FND9 sg2 gm2) ∧ (BMK gm gm2) ∧ (WFR (24 * dp.toNatClampNeg) gm gm2) ∧ ((sg 14).toInt ≤ (sg2 14).toInt) ∧ (r.toInt < (sg2 14).toInt) ∧ (∃ S2, oGet wg (oMK ws wg lg n9) (caN ws wg lg nm) S = (some r.toInt, S2) ∧ RC wg lg S2 sg2 gm2)) A) (cX dC dI ad cid a2 lx (fun E u => (E = "java/lang/UnsupportedOperationException") ∧ ∃ (sg2 : Nat → Int32) (gm2 : Nat → Nat → Int32) (lg2 : Nat → Nat → Int64), u = (sg2, gm2, lg2) ∧ CI sg2 gm2 ∧ KS [13, 14, 15, 16, 17, 18] sg sg2 ∧ KS [37, 38, 39, 48, 49, 50, 51, 52, 53] gm gm2 ∧ KS [] lg lg2 ∧ (MOK sg2 gm2 lg2) ∧ (FND9 sg2 gm2) ∧ (∃ S2, oGet wg (oMK ws wg lg n9) (caN ws wg lg nm) S = (none, S2) ∧ RC wg lg S2 sg2 gm2)) A) ([eV (ad 6) x, .long nm, .int dp] : List Value).toArray s 1 6 A) (F0 m 68 ls []) := by
    intro x4_68 hx4_68 hsx0_68 hsx3_68 h68 hG68 H locs ls hP hD hS hl
    refine ec_aload hx hb dX5_obtain_68 (lv_at hl 0 rfl) ?_
    refine cr_get (t := 10) (j := 18) (C := RX1) (T := TX1) (N := 19) (v := .int (gm 39 x4_68.toNatClampNeg)) hx hb htb inX1 hown hK hP hx4_68 (by decide) (by decide) (by decide) rfl (by decide) (htb _ kw_1007) rfl dX5_obtain_70 ?_
    obtain ⟨z_5, ez_5⟩ : ∃ z : Int32, z = (gm 39 x4_68.toNatClampNeg) := ⟨_, rfl⟩
    refine W.eq (g2 := F0 m 73 ls [.int z_5]) (by rw [ez_5]) ?_
    have hz_5 : iv (-1) 59 z_5 := iv_of ez_5 (CI_a hI 39 hx4_68 (by decide))
    have h_6 : iv 0 59 z_5 := ⟨by rw [ez_5]; exact h68, (hz_5).2⟩
    exact W.nb (fun hN => W.widen (k := 1) (n := 6) (by decide) (by decide) (vx_ret (W.iret (v := z_5) hx hb hr (fun t ht hW => ⟨⟨some (.int z_5), (sg, gm, lg), rfl, ⟨z_5, rfl, sg, gm, lg, rfl, hI, KS_rf, KS_rf, KS_rf, h_6, (hMO), (hFN), (BMK_rf), (WFR_rf), ((Int.le_refl _)), ((by rw [show z_5.toInt = (gm 39 x4_68.toNatClampNeg).toInt from congrArg Int32.toInt ez_5]; exact hG68.2)), (⟨S, (by rw [show z_5.toInt = (gm 39 x4_68.toNatClampNeg).toInt from congrArg Int32.toInt ez_5]; exact hG68.1), hRC⟩)⟩, by rw [ht]; exact hP, va_K.moved hW.alike hK, hD⟩, hS.F ht, by rw [ht]; exact hN⟩) hS.2.2 dX5_obtain_73)))
  refine ec_aload_n hx hb dX5_obtain_0 rfl (lv_at hl 0 rfl) ?_
  refine cr_get (t := 6) (j := 0) (C := RX5) (T := TX5) (N := 13) (v := eV (ad 4) 0) hx hb htb inX5 hown hK hP hvx (by decide) (by decide) (by decide) rfl (by decide) (htb _ kw_121) (cV_c rfl (by decide) (by rw [show cMu 6 0 = 0 from rfl, Nat.zero_mul]; rfl)) dX5_obtain_1 ?_
  refine lv_lload_n hx hb dX5_obtain_4 rfl (lv_at hl 1 rfl) ?_
  refine cm_callV (t := 4) (C := RX10) (T := TX10) (N := 4) (rest := []) (as := [.long nm]) ⟨hx, hb, hml, hown, htb⟩ (d_called9 l dC dI ad cid a2 lx sg gm lg 0 nm wg ws hI (iv_k (by decide) : iv 0 0 0) hSW hSS) (cwV 1 htb (gd_V kw_1008 kw_1009 kw_1010 kw_32 kw_1568) rfl rfl rfl (by decide +kernel) ⟨(show 2 + 1 ≤ 22 + 8 * n9 from by omega), (show 8 + (7 + 11) + (45) ≤ 640 + 260 * n9 from by omega)⟩) (iv_k (by decide) : iv 0 0 0) (by decide) (by decide) rfl rfl hl.1 rfl (Nat.le_trans cs_n (by decide)) dX5_obtain_5 ⟨Nat.le_of_ble_eq_true rfl, Nat.le_of_ble_eq_true rfl⟩ hK hP hD hS hA hG (fun E ce q9 u_8 H locs hw hP hD hS hce hcv hcl => ?_) (fun v9 u_8 H locs hw hP hD hS => ?_)
  · exact hw.elim
  obtain ⟨r_7, rfl, rfl, hr_7, fI_r_7, fC_r_7⟩ := hw
  have hP : va_P (dC, dI) vwCl (cW ad cid a2 lx sg gm lg) H := hP
  have hD : va_D A (cW ad cid a2 lx sg gm lg) := hD
  refine W.eq (g2 := F0 m 8 ls [eV (ad 10) r_7]) rfl ?_
  refine ec_astore (i := 4) (lv' := [(4, eV (ad 10) r_7), (0, eV (ad 6) x), (1, .long nm), (3, .int dp)]) hx hb dX5_obtain_8 hl (by decide) rfl (fun ls hl => ?_)
  refine ec_aload hx hb dX5_obtain_10 (lv_at hl 0 rfl) ?_
  refine ec_ifnonnull (tgt := 21) hx hb dX5_obtain_12 (by decide) (fun c_10 => ?_) (fun c_10 => ?_)
  · have h_11 : iv 0 79 r_7 := ⟨c_10, (hr_7).2⟩
    refine ec_aload hx hb dX5_obtain_21 (lv_at hl 0 rfl) ?_
    refine cr_get (t := 10) (j := 13) (C := RX1) (T := TX1) (N := 19) (v := .int (gm 34 r_7.toNatClampNeg)) hx hb htb inX1 hown hK hP h_11 (by decide) (by decide) (by decide) rfl (by decide) (htb _ kw_1000) rfl dX5_obtain_23 ?_
    obtain ⟨z_12, ez_12⟩ : ∃ z : Int32, z = (gm 34 r_7.toNatClampNeg) := ⟨_, rfl⟩
    refine W.eq (g2 := F0 m 26 ls [.int z_12]) (by rw [ez_12]) ?_
    have hz_12 : iv 0 1 z_12 := iv_of ez_12 (CI_a hI 34 h_11 (by decide))
    refine lv_if_eq (tgt := 35) hx hb dX5_obtain_26 (by decide) (fun c_13 => ?_) (fun c_13 => ?_)
    · have h_14 : iv 0 0 z_12 := iv_eq c_13 hz_12 (iv_k (by decide) : iv 0 0 0) (by decide)
      refine ec_aload hx hb dX5_obtain_35 (lv_at hl 0 rfl) ?_
      refine cr_get (t := 10) (j := 14) (C := RX1) (T := TX1) (N := 19) (v := .int (gm 35 r_7.toNatClampNeg)) hx hb htb inX1 hown hK hP h_11 (by decide) (by decide) (by decide) rfl (by decide) (htb _ kw_1001) rfl dX5_obtain_37 ?_
      obtain ⟨z_15, ez_15⟩ : ∃ z : Int32, z = (gm 35 r_7.toNatClampNeg) := ⟨_, rfl⟩
      refine W.eq (g2 := F0 m 40 ls [.int z_15]) (by rw [ez_15]) ?_
      have hz_15 : iv 0 1 z_15 := iv_of ez_15 (CI_a hI 35 h_11 (by decide))
      refine lv_if_ne (tgt := 74) hx hb dX5_obtain_40 (by decide) (fun c_16 => ?_) (fun c_16 => ?_)
      · have h_17 : iv 1 1 z_15 := iv_neL c_16 hz_15 (by decide)
        exact hj74 r_7 h_11 hvx hvdp (fun _ q9 => absurd q9 (fun q9 => absurd (congrArg Int32.toInt (show z_15 = 0 from ez_15.trans q9)) (by have := i32_0; have := i32_0; have := i32_1; have := i32_2; have := i32_m1; have := (hvx).1; have := (hvx).2; have := (hvdp).1; have := (hvdp).2; have := (h_11).1; have := (h_11).2; have := (h_14).1; have := (h_14).2; have := (h_17).1; have := (h_17).2; omega))) ((fI_r_7.resolve_left (by have := i32_0; have := i32_1; have := i32_2; have := i32_m1; have := (hvx).1; have := (hvx).2; have := (hvdp).1; have := (hvdp).2; have := (h_11).1; have := (h_11).2; have := (h_14).1; have := (h_14).2; have := (h_17).1; have := (h_17).2; have := (h_11).1; omega)).1) ((by rw [(show caN ws wg lg nm = r_7.toInt from fC_r_7.symm)]; exact oGet_m (h_11).1 (show wg 34 r_7.toNatClampNeg = 0 from (by rw [show wg 34 r_7.toNatClampNeg = gm 34 r_7.toNatClampNeg from sw9 hSW 34 rfl _]; exact (show gm 34 r_7.toNatClampNeg = 0 from ez_12.symm.trans (Int32.toInt_inj.mp (by have := i32_0; have := i32_0; have := i32_1; have := i32_2; have := i32_m1; have := (hvx).1; have := (hvx).2; have := (hvdp).1; have := (hvdp).2; have := (h_11).1; have := (h_11).2; have := (h_14).1; have := (h_14).2; have := (h_17).1; have := (h_17).2; omega))))) (fun q => absurd q.1 (show ¬ wg 35 r_7.toNatClampNeg = 0 from (by rw [show wg 35 r_7.toNatClampNeg = gm 35 r_7.toNatClampNeg from sw9 hSW 35 rfl _]; exact (fun q9 => absurd (congrArg Int32.toInt (show z_15 = 0 from ez_15.trans q9)) (by have := i32_0; have := i32_0; have := i32_1; have := i32_2; have := i32_m1; have := (hvx).1; have := (hvx).2; have := (hvdp).1; have := (hvdp).2; have := (h_11).1; have := (h_11).2; have := (h_14).1; have := (h_14).2; have := (h_17).1; have := (h_17).2; omega))))))) _ _ _ hP hD hS (lv_sub hl [0, 1, 2, 3] rfl)
      · have h_18 : iv 0 0 z_15 := iv_eq c_16 hz_15 (iv_k (by decide) : iv 0 0 0) (by decide)
        refine ec_aload hx hb dX5_obtain_43 (lv_at hl 0 rfl) ?_
        refine cr_get (t := 10) (j := 17) (C := RX1) (T := TX1) (N := 19) (v := .int (gm 38 r_7.toNatClampNeg)) hx hb htb inX1 hown hK hP h_11 (by decide) (by decide) (by decide) rfl (by decide) (htb _ kw_320) rfl dX5_obtain_45 ?_
        obtain ⟨z_19, ez_19⟩ : ∃ z : Int32, z = (gm 38 r_7.toNatClampNeg) := ⟨_, rfl⟩
        refine W.eq (g2 := F0 m 48 ls [.int z_19]) (by rw [ez_19]) ?_
        have hz_19 : iv 0 1 z_19 := iv_of ez_19 (CI_a hI 38 h_11 (by decide))
        refine lv_if_ne (tgt := 68) hx hb dX5_obtain_48 (by decide) (fun c_20 => ?_) (fun c_20 => ?_)
        · have h_21 : iv 1 1 z_19 := iv_neL c_20 hz_19 (by decide)
          exact hj68 r_7 h_11 hvx hvdp (hMO _ (lt_cl h_11 (show iv 0 80 (sg 12) from CI_s hI 12) (by decide) (by decide) (fI_r_7.resolve_left (by have := i32_0; have := i32_1; have := i32_2; have := i32_m1; have := (hvx).1; have := (hvx).2; have := (hvdp).1; have := (hvdp).2; have := (h_11).1; have := (h_11).2; have := (h_14).1; have := (h_14).2; have := (h_18).1; have := (h_18).2; have := (h_21).1; have := (h_21).2; have := (h_11).1; omega)).1) (fun q9 => absurd (congrArg Int32.toInt (show z_19 = 0 from ez_19.trans q9)) (by have := i32_0; have := i32_0; have := i32_1; have := i32_2; have := i32_m1; have := (hvx).1; have := (hvx).2; have := (hvdp).1; have := (hvdp).2; have := (h_11).1; have := (h_11).2; have := (h_14).1; have := (h_14).2; have := (h_18).1; have := (h_18).2; have := (h_21).1; have := (h_21).2; omega)) (fI_r_7.resolve_left (by have := i32_0; have := i32_1; have := i32_2; have := i32_m1; have := (hvx).1; have := (hvx).2; have := (hvdp).1; have := (hvdp).2; have := (h_11).1; have := (h_11).2; have := (h_14).1; have := (h_14).2; have := (h_18).1; have := (h_18).2; have := (h_21).1; have := (h_21).2; have := (h_11).1; omega)).2 (show gm 35 r_7.toNatClampNeg = 0 from ez_15.symm.trans (Int32.toInt_inj.mp (by have := i32_0; have := i32_0; have := i32_1; have := i32_2; have := i32_m1; have := (hvx).1; have := (hvx).2; have := (hvdp).1; have := (hvdp).2; have := (h_11).1; have := (h_11).2; have := (h_14).1; have := (h_14).2; have := (h_18).1; have := (h_18).2; have := (h_21).1; have := (h_21).2; omega)))) ((by have g := RC_g2 hRC (lt_cl h_11 (show iv 0 80 (sg 12) from CI_s hI 12) (by decide) (by decide) (fI_r_7.resolve_left (by have := i32_0; have := i32_1; have := i32_2; have := i32_m1; have := (hvx).1; have := (hvx).2; have := (hvdp).1; have := (hvdp).2; have := (h_11).1; have := (h_11).2; have := (h_14).1; have := (h_14).2; have := (h_18).1; have := (h_18).2; have := (h_21).1; have := (h_21).2; have := (h_11).1; omega)).1) (fI_r_7.resolve_left (by have := i32_0; have := i32_1; have := i32_2; have := i32_m1; have := (hvx).1; have := (hvx).2; have := (hvdp).1; have := (hvdp).2; have := (h_11).1; have := (h_11).2; have := (h_14).1; have := (h_14).2; have := (h_18).1; have := (h_18).2; have := (h_21).1; have := (h_21).2; have := (h_11).1; omega)).2 (show wg 35 r_7.toNatClampNeg = 0 from (by rw [show wg 35 r_7.toNatClampNeg = gm 35 r_7.toNatClampNeg from sw9 hSW 35 rfl _]; exact (show gm 35 r_7.toNatClampNeg = 0 from ez_15.symm.trans (Int32.toInt_inj.mp (by have := i32_0; have := i32_0; have := i32_1; have := i32_2; have := i32_m1; have := (hvx).1; have := (hvx).2; have := (hvdp).1; have := (hvdp).2; have := (h_11).1; have := (h_11).2; have := (h_14).1; have := (h_14).2; have := (h_18).1; have := (h_18).2; have := (h_21).1; have := (h_21).2; omega))))) (fun q9 => absurd (congrArg Int32.toInt (show z_19 = 0 from ez_19.trans q9)) (by have := i32_0; have := i32_0; have := i32_1; have := i32_2; have := i32_m1; have := (hvx).1; have := (hvx).2; have := (hvdp).1; have := (hvdp).2; have := (h_11).1; have := (h_11).2; have := (h_14).1; have := (h_14).2; have := (h_18).1; have := (h_18).2; have := (h_21).1; have := (h_21).2; omega)); have l14 := hRC.1.1; rw [(show caN ws wg lg nm = r_7.toInt from fC_r_7.symm)]; refine ⟨?_, by have := g.2.1; have := g.2.2; omega⟩; rw [← g.2.1]; exact oGet_h (h_11).1 (show wg 34 r_7.toNatClampNeg = 0 from (by rw [show wg 34 r_7.toNatClampNeg = gm 34 r_7.toNatClampNeg from sw9 hSW 34 rfl _]; exact (show gm 34 r_7.toNatClampNeg = 0 from ez_12.symm.trans (Int32.toInt_inj.mp (by have := i32_0; have := i32_0; have := i32_1; have := i32_2; have := i32_m1; have := (hvx).1; have := (hvx).2; have := (hvdp).1; have := (hvdp).2; have := (h_11).1; have := (h_11).2; have := (h_14).1; have := (h_14).2; have := (h_18).1; have := (h_18).2; have := (h_21).1; have := (h_21).2; omega))))) (show wg 35 r_7.toNatClampNeg = 0 from (by rw [show wg 35 r_7.toNatClampNeg = gm 35 r_7.toNatClampNeg from sw9 hSW 35 rfl _]; exact (show gm 35 r_7.toNatClampNeg = 0 from ez_15.symm.trans (Int32.toInt_inj.mp (by have := i32_0; have := i32_0; have := i32_1; have := i32_2; have := i32_m1; have := (hvx).1; have := (hvx).2; have := (hvdp).1; have := (hvdp).2; have := (h_11).1; have := (h_11).2; have := (h_14).1; have := (h_14).2; have := (h_18).1; have := (h_18).2; have := (h_21).1; have := (h_21).2; omega))))) (Or.inl g.1))) _ _ _ hP hD hS (lv_sub hl [0, 1, 2, 3] rfl)
        · have h_22 : iv 0 0 z_19 := iv_eq c_20 hz_19 (iv_k (by decide) : iv 0 0 0) (by decide)
          refine ec_aload hx hb dX5_obtain_51 (lv_at hl 0 rfl) ?_
          refine cr_get (t := 10) (j := 16) (C := RX1) (T := TX1) (N := 19) (v := .int (gm 37 r_7.toNatClampNeg)) hx hb htb inX1 hown hK hP h_11 (by decide) (by decide) (by decide) rfl (by decide) (htb _ kw_1006) rfl dX5_obtain_53 ?_
          obtain ⟨z_23, ez_23⟩ : ∃ z : Int32, z = (gm 37 r_7.toNatClampNeg) := ⟨_, rfl⟩
          refine W.eq (g2 := F0 m 56 ls [.int z_23]) (by rw [ez_23]) ?_
          have hz_23 : iv 0 1 z_23 := iv_of ez_23 (CI_a hI 37 h_11 (by decide))
          refine lv_if_eq (tgt := 74) hx hb dX5_obtain_56 (by decide) (fun c_24 => ?_) (fun c_24 => ?_)
          · have h_25 : iv 0 0 z_23 := iv_eq c_24 hz_23 (iv_k (by decide) : iv 0 0 0) (by decide)
            exact hj74 r_7 h_11 hvx hvdp (fun _ _ => (show gm 38 r_7.toNatClampNeg = 0 from ez_19.symm.trans (Int32.toInt_inj.mp (by have := i32_0; have := i32_0; have := i32_1; have := i32_2; have := i32_m1; have := (hvx).1; have := (hvx).2; have := (hvdp).1; have := (hvdp).2; have := (h_11).1; have := (h_11).2; have := (h_14).1; have := (h_14).2; have := (h_18).1; have := (h_18).2; have := (h_22).1; have := (h_22).2; have := (h_25).1; have := (h_25).2; omega)))) ((fI_r_7.resolve_left (by have := i32_0; have := i32_1; have := i32_2; have := i32_m1; have := (hvx).1; have := (hvx).2; have := (hvdp).1; have := (hvdp).2; have := (h_11).1; have := (h_11).2; have := (h_14).1; have := (h_14).2; have := (h_18).1; have := (h_18).2; have := (h_22).1; have := (h_22).2; have := (h_25).1; have := (h_25).2; have := (h_11).1; omega)).1) ((by rw [(show caN ws wg lg nm = r_7.toInt from fC_r_7.symm)]; exact oGet_m (h_11).1 (show wg 34 r_7.toNatClampNeg = 0 from (by rw [show wg 34 r_7.toNatClampNeg = gm 34 r_7.toNatClampNeg from sw9 hSW 34 rfl _]; exact (show gm 34 r_7.toNatClampNeg = 0 from ez_12.symm.trans (Int32.toInt_inj.mp (by have := i32_0; have := i32_0; have := i32_1; have := i32_2; have := i32_m1; have := (hvx).1; have := (hvx).2; have := (hvdp).1; have := (hvdp).2; have := (h_11).1; have := (h_11).2; have := (h_14).1; have := (h_14).2; have := (h_18).1; have := (h_18).2; have := (h_22).1; have := (h_22).2; have := (h_25).1; have := (h_25).2; omega))))) (fun q => q.2.elim (RC_n2 hRC (lt_cl h_11 (show iv 0 80 (sg 12) from CI_s hI 12) (by decide) (by decide) (fI_r_7.resolve_left (by have := i32_0; have := i32_1; have := i32_2; have := i32_m1; have := (hvx).1; have := (hvx).2; have := (hvdp).1; have := (hvdp).2; have := (h_11).1; have := (h_11).2; have := (h_14).1; have := (h_14).2; have := (h_18).1; have := (h_18).2; have := (h_22).1; have := (h_22).2; have := (h_25).1; have := (h_25).2; have := (h_11).1; omega)).1) (fI_r_7.resolve_left (by have := i32_0; have := i32_1; have := i32_2; have := i32_m1; have := (hvx).1; have := (hvx).2; have := (hvdp).1; have := (hvdp).2; have := (h_11).1; have := (h_11).2; have := (h_14).1; have := (h_14).2; have := (h_18).1; have := (h_18).2; have := (h_22).1; have := (h_22).2; have := (h_25).1; have := (h_25).2; have := (h_11).1; omega)).2 q.1 (show gm 38 r_7.toNatClampNeg = 0 from ez_19.symm.trans (Int32.toInt_inj.mp (by have := i32_0; have := i32_0; have := i32_1; have := i32_2; have := i32_m1; have := (hvx).1; have := (hvx).2; have := (hvdp).1; have := (hvdp).2; have := (h_11).1; have := (h_11).2; have := (h_14).1; have := (h_14).2; have := (h_18).1; have := (h_18).2; have := (h_22).1; have := (h_22).2; have := (h_25).1; have := (h_25).2; omega)))) (fun q2 => RC_z0 hRC (lt_cl h_11 (show iv 0 80 (sg 12) from CI_s hI 12) (by decide) (by decide) (fI_r_7.resolve_left (by have := i32_0; have := i32_1; have := i32_2; have := i32_m1; have := (hvx).1; have := (hvx).2; have := (hvdp).1; have := (hvdp).2; have := (h_11).1; have := (h_11).2; have := (h_14).1; have := (h_14).2; have := (h_18).1; have := (h_18).2; have := (h_22).1; have := (h_22).2; have := (h_25).1; have := (h_25).2; have := (h_11).1; omega)).1) (show gm 37 r_7.toNatClampNeg = 0 from ez_23.symm.trans (Int32.toInt_inj.mp (by have := i32_0; have := i32_0; have := i32_1; have := i32_2; have := i32_m1; have := (hvx).1; have := (hvx).2; have := (hvdp).1; have := (hvdp).2; have := (h_11).1; have := (h_11).2; have := (h_14).1; have := (h_14).2; have := (h_18).1; have := (h_18).2; have := (h_22).1; have := (h_22).2; have := (h_25).1; have := (h_25).2; omega))) q2.1)))) _ _ _ hP hD hS (lv_sub hl [0, 1, 2, 3] rfl)
          · have h_26 : iv 1 1 z_23 := iv_neL c_24 hz_23 (by decide)
            refine ec_aload hx hb dX5_obtain_59 (lv_at hl 0 rfl) ?_
            refine cr_get (t := 10) (j := 18) (C := RX1) (T := TX1) (N := 19) (v := .int (gm 39 r_7.toNatClampNeg)) hx hb htb inX1 hown hK hP h_11 (by decide) (by decide) (by decide) rfl (by decide) (htb _ kw_1007) rfl dX5_obtain_61 ?_
            obtain ⟨z_27, ez_27⟩ : ∃ z : Int32, z = (gm 39 r_7.toNatClampNeg) := ⟨_, rfl⟩
            refine W.eq (g2 := F0 m 64 ls [.int z_27]) (by rw [ez_27]) ?_
            have hz_27 : iv (-1) 59 z_27 := iv_of ez_27 (CI_a hI 39 h_11 (by decide))
            refine lv_iconst (v := (-1)) hx hb dX5_obtain_64 (by decide) ?_
            refine lv_icmp_eq (tgt := 74) hx hb dX5_obtain_65 (by decide) (fun c_28 => ?_) (fun c_28 => ?_)
            · have h_29 : iv (-1) (-1) z_27 := iv_eq c_28 hz_27 (iv_k (by decide) : iv (-1) (-1) (-1)) (by decide)
              exact hj74 r_7 h_11 hvx hvdp (fun _ _ => (show gm 38 r_7.toNatClampNeg = 0 from ez_19.symm.trans (Int32.toInt_inj.mp (by have := i32_0; have := i32_0; have := i32_1; have := i32_2; have := i32_m1; have := (hvx).1; have := (hvx).2; have := (hvdp).1; have := (hvdp).2; have := (h_11).1; have := (h_11).2; have := (h_14).1; have := (h_14).2; have := (h_18).1; have := (h_18).2; have := (h_22).1; have := (h_22).2; have := (h_26).1; have := (h_26).2; have := (h_29).1; have := (h_29).2; omega)))) ((fI_r_7.resolve_left (by have := i32_0; have := i32_1; have := i32_2; have := i32_m1; have := (hvx).1; have := (hvx).2; have := (hvdp).1; have := (hvdp).2; have := (h_11).1; have := (h_11).2; have := (h_14).1; have := (h_14).2; have := (h_18).1; have := (h_18).2; have := (h_22).1; have := (h_22).2; have := (h_26).1; have := (h_26).2; have := (h_29).1; have := (h_29).2; have := (h_11).1; omega)).1) ((by rw [(show caN ws wg lg nm = r_7.toInt from fC_r_7.symm)]; exact oGet_m (h_11).1 (show wg 34 r_7.toNatClampNeg = 0 from (by rw [show wg 34 r_7.toNatClampNeg = gm 34 r_7.toNatClampNeg from sw9 hSW 34 rfl _]; exact (show gm 34 r_7.toNatClampNeg = 0 from ez_12.symm.trans (Int32.toInt_inj.mp (by have := i32_0; have := i32_0; have := i32_1; have := i32_2; have := i32_m1; have := (hvx).1; have := (hvx).2; have := (hvdp).1; have := (hvdp).2; have := (h_11).1; have := (h_11).2; have := (h_14).1; have := (h_14).2; have := (h_18).1; have := (h_18).2; have := (h_22).1; have := (h_22).2; have := (h_26).1; have := (h_26).2; have := (h_29).1; have := (h_29).2; omega))))) (fun q => q.2.elim (RC_n2 hRC (lt_cl h_11 (show iv 0 80 (sg 12) from CI_s hI 12) (by decide) (by decide) (fI_r_7.resolve_left (by have := i32_0; have := i32_1; have := i32_2; have := i32_m1; have := (hvx).1; have := (hvx).2; have := (hvdp).1; have := (hvdp).2; have := (h_11).1; have := (h_11).2; have := (h_14).1; have := (h_14).2; have := (h_18).1; have := (h_18).2; have := (h_22).1; have := (h_22).2; have := (h_26).1; have := (h_26).2; have := (h_29).1; have := (h_29).2; have := (h_11).1; omega)).1) (fI_r_7.resolve_left (by have := i32_0; have := i32_1; have := i32_2; have := i32_m1; have := (hvx).1; have := (hvx).2; have := (hvdp).1; have := (hvdp).2; have := (h_11).1; have := (h_11).2; have := (h_14).1; have := (h_14).2; have := (h_18).1; have := (h_18).2; have := (h_22).1; have := (h_22).2; have := (h_26).1; have := (h_26).2; have := (h_29).1; have := (h_29).2; have := (h_11).1; omega)).2 q.1 (show gm 38 r_7.toNatClampNeg = 0 from ez_19.symm.trans (Int32.toInt_inj.mp (by have := i32_0; have := i32_0; have := i32_1; have := i32_2; have := i32_m1; have := (hvx).1; have := (hvx).2; have := (hvdp).1; have := (hvdp).2; have := (h_11).1; have := (h_11).2; have := (h_14).1; have := (h_14).2; have := (h_18).1; have := (h_18).2; have := (h_22).1; have := (h_22).2; have := (h_26).1; have := (h_26).2; have := (h_29).1; have := (h_29).2; omega)))) (fun q2 => q2.2 (by have g := RC_g1 hRC (lt_cl h_11 (show iv 0 80 (sg 12) from CI_s hI 12) (by decide) (by decide) (fI_r_7.resolve_left (by have := i32_0; have := i32_1; have := i32_2; have := i32_m1; have := (hvx).1; have := (hvx).2; have := (hvdp).1; have := (hvdp).2; have := (h_11).1; have := (h_11).2; have := (h_14).1; have := (h_14).2; have := (h_18).1; have := (h_18).2; have := (h_22).1; have := (h_22).2; have := (h_26).1; have := (h_26).2; have := (h_29).1; have := (h_29).2; have := (h_11).1; omega)).1) (fI_r_7.resolve_left (by have := i32_0; have := i32_1; have := i32_2; have := i32_m1; have := (hvx).1; have := (hvx).2; have := (hvdp).1; have := (hvdp).2; have := (h_11).1; have := (h_11).2; have := (h_14).1; have := (h_14).2; have := (h_18).1; have := (h_18).2; have := (h_22).1; have := (h_22).2; have := (h_26).1; have := (h_26).2; have := (h_29).1; have := (h_29).2; have := (h_11).1; omega)).2 q.1 (fun q9 => absurd (congrArg Int32.toInt (show z_23 = 0 from ez_23.trans q9)) (by have := i32_0; have := i32_0; have := i32_1; have := i32_2; have := i32_m1; have := (hvx).1; have := (hvx).2; have := (hvdp).1; have := (hvdp).2; have := (h_11).1; have := (h_11).2; have := (h_14).1; have := (h_14).2; have := (h_18).1; have := (h_18).2; have := (h_22).1; have := (h_22).2; have := (h_26).1; have := (h_26).2; have := (h_29).1; have := (h_29).2; omega)); show zW S r_7.toNatClampNeg = -1; rw [g.2.1, ← ez_27]; have := i32_0; have := i32_1; have := i32_2; have := i32_m1; have := (hvx).1; have := (hvx).2; have := (hvdp).1; have := (hvdp).2; have := (h_11).1; have := (h_11).2; have := (h_14).1; have := (h_14).2; have := (h_18).1; have := (h_18).2; have := (h_22).1; have := (h_22).2; have := (h_26).1; have := (h_26).2; have := (h_29).1; have := (h_29).2; omega))))) _ _ _ hP hD hS (lv_sub hl [0, 1, 2, 3] rfl)
            · have h_30 : iv 0 59 z_27 := iv_neL c_28 hz_27 (by decide)
              exact hj68 r_7 h_11 hvx hvdp ((by rw [← ez_27]; have := i32_0; have := i32_1; have := i32_2; have := i32_m1; have := (hvx).1; have := (hvx).2; have := (hvdp).1; have := (hvdp).2; have := (h_11).1; have := (h_11).2; have := (h_14).1; have := (h_14).2; have := (h_18).1; have := (h_18).2; have := (h_22).1; have := (h_22).2; have := (h_26).1; have := (h_26).2; have := (h_30).1; have := (h_30).2; have := (h_30).1; omega)) ((by have g := RC_g1 hRC (lt_cl h_11 (show iv 0 80 (sg 12) from CI_s hI 12) (by decide) (by decide) (fI_r_7.resolve_left (by have := i32_0; have := i32_1; have := i32_2; have := i32_m1; have := (hvx).1; have := (hvx).2; have := (hvdp).1; have := (hvdp).2; have := (h_11).1; have := (h_11).2; have := (h_14).1; have := (h_14).2; have := (h_18).1; have := (h_18).2; have := (h_22).1; have := (h_22).2; have := (h_26).1; have := (h_26).2; have := (h_30).1; have := (h_30).2; have := (h_11).1; omega)).1) (fI_r_7.resolve_left (by have := i32_0; have := i32_1; have := i32_2; have := i32_m1; have := (hvx).1; have := (hvx).2; have := (hvdp).1; have := (hvdp).2; have := (h_11).1; have := (h_11).2; have := (h_14).1; have := (h_14).2; have := (h_18).1; have := (h_18).2; have := (h_22).1; have := (h_22).2; have := (h_26).1; have := (h_26).2; have := (h_30).1; have := (h_30).2; have := (h_11).1; omega)).2 (show wg 35 r_7.toNatClampNeg = 0 from (by rw [show wg 35 r_7.toNatClampNeg = gm 35 r_7.toNatClampNeg from sw9 hSW 35 rfl _]; exact (show gm 35 r_7.toNatClampNeg = 0 from ez_15.symm.trans (Int32.toInt_inj.mp (by have := i32_0; have := i32_0; have := i32_1; have := i32_2; have := i32_m1; have := (hvx).1; have := (hvx).2; have := (hvdp).1; have := (hvdp).2; have := (h_11).1; have := (h_11).2; have := (h_14).1; have := (h_14).2; have := (h_18).1; have := (h_18).2; have := (h_22).1; have := (h_22).2; have := (h_26).1; have := (h_26).2; have := (h_30).1; have := (h_30).2; omega))))) (fun q9 => absurd (congrArg Int32.toInt (show z_23 = 0 from ez_23.trans q9)) (by have := i32_0; have := i32_0; have := i32_1; have := i32_2; have := i32_m1; have := (hvx).1; have := (hvx).2; have := (hvdp).1; have := (hvdp).2; have := (h_11).1; have := (h_11).2; have := (h_14).1; have := (h_14).2; have := (h_18).1; have := (h_18).2; have := (h_22).1; have := (h_22).2; have := (h_26).1; have := (h_26).2; have := (h_30).1; have := (h_30).2; omega)); have l14 := hRC.1.1; rw [(show caN ws wg lg nm = r_7.toInt from fC_r_7.symm)]; refine ⟨?_, by have := g.2.1; have := g.2.2; omega⟩; rw [← g.2.1]; exact oGet_h (h_11).1 (show wg 34 r_7.toNatClampNeg = 0 from (by rw [show wg 34 r_7.toNatClampNeg = gm 34 r_7.toNatClampNeg from sw9 hSW 34 rfl _]; exact (show gm 34 r_7.toNatClampNeg = 0 from ez_12.symm.trans (Int32.toInt_inj.mp (by have := i32_0; have := i32_0; have := i32_1; have := i32_2; have := i32_m1; have := (hvx).1; have := (hvx).2; have := (hvdp).1; have := (hvdp).2; have := (h_11).1; have := (h_11).2; have := (h_14).1; have := (h_14).2; have := (h_18).1; have := (h_18).2; have := (h_22).1; have := (h_22).2; have := (h_26).1; have := (h_26).2; have := (h_30).1; have := (h_30).2; omega))))) (show wg 35 r_7.toNatClampNeg = 0 from (by rw [show wg 35 r_7.toNatClampNeg = gm 35 r_7.toNatClampNeg from sw9 hSW 35 rfl _]; exact (show gm 35 r_7.toNatClampNeg = 0 from ez_15.symm.trans (Int32.toInt_inj.mp (by have := i32_0; have := i32_0; have := i32_1; have := i32_2; have := i32_m1; have := (hvx).1; have := (hvx).2; have := (hvdp).1; have := (hvdp).2; have := (h_11).1; have := (h_11).2; have := (h_14).1; have := (h_14).2; have := (h_18).1; have := (h_18).2; have := (h_22).1; have := (h_22).2; have := (h_26).1; have := (h_26).2; have := (h_30).1; have := (h_30).2; omega))))) (Or.inr ⟨g.1, (by show ¬ zW S r_7.toNatClampNeg = -1; rw [g.2.1, ← ez_27]; have := i32_0; have := i32_1; have := i32_2; have := i32_m1; have := (hvx).1; have := (hvx).2; have := (hvdp).1; have := (hvdp).2; have := (h_11).1; have := (h_11).2; have := (h_14).1; have := (h_14).2; have := (h_18).1; have := (h_18).2; have := (h_22).1; have := (h_22).2; have := (h_26).1; have := (h_26).2; have := (h_30).1; have := (h_30).2; omega)⟩))) _ _ _ hP hD hS (lv_sub hl [0, 1, 2, 3] rfl)
    · have h_31 : iv 1 1 z_12 := iv_neL c_13 hz_12 (by decide)
      refine ec_aload_n hx hb dX5_obtain_29 rfl (lv_at hl 1 rfl) ?_
      refine lv_iconst (v := 2) hx hb dX5_obtain_30 (by decide) ?_
      refine cm_callV (t := 6) (C := RX5) (T := TX5) (N := 13) (rest := []) (as := [.int 2]) ⟨hx, hb, hml, hown, htb⟩ (d_failWith l dC dI ad cid a2 lx sg gm lg hl9 x 2 hI hvx (iv_w (iv_k (by decide) : iv 2 2 2) (by decide))) (cwV 1 htb (gd_V kw_1015 kw_1016 kw_1017 kw_40 kw_1570) rfl rfl rfl (by decide +kernel) ⟨(show 6 + 1 ≤ 22 + 8 * n9 from by omega), (show 8 + (2 + 11) + (120) ≤ 640 + 260 * n9 from by omega)⟩) hvx (by decide) (by decide) rfl rfl hl.1 rfl (Nat.le_trans cs_n (by decide)) dX5_obtain_31 ⟨Nat.le_of_ble_eq_true rfl, Nat.le_of_ble_eq_true rfl⟩ hK hP hD hS hA hG (fun E ce q9 u_33 H locs hw hP hD hS hce hcv hcl => ?_) (fun v9 u_33 H locs hw hP hD hS => ?_)
      · obtain ⟨hE, hw⟩ := hw
        obtain ⟨sgv_34, gmv_34, lgv_34, rfl, hIv_34, ksv_34, kgv_34, klv_34⟩ := hw
        obtain rfl := KS_nil kgv_34
        obtain rfl := KS_nil klv_34
        have hP : va_P (dC, dI) vwCl (cW ad cid a2 lx sgv_34 gm lg) H := hP
        have hD : va_D A (cW ad cid a2 lx sgv_34 gm lg) := hD
        exact vx_out (fun x hx9 => (hxt x hx9).elim) hlocks hce hcv hcl (fun t ht hal => ⟨⟨(sgv_34, gm, lg), ⟨hE, sgv_34, gm, lg, rfl, hIv_34, (KS_tr (L := [13, 14, 15, 16, 17, 18]) KS_rf ksv_34 (by decide)), KS_rf, KS_rf, ((MOK_e hMO (show sgv_34 12 = sg 12 from (ksv_34 12 (by decide))) rfl rfl rfl rfl)), ((FND9_e hFN (show sgv_34 15 = sg 15 from (ksv_34 15 (by decide))) rfl)), (⟨S, (by rw [(show caN ws wg lg nm = r_7.toInt from fC_r_7.symm)]; exact oGet_a (h_11).1 (show ¬ wg 34 r_7.toNatClampNeg = 0 from (by rw [show wg 34 r_7.toNatClampNeg = gm 34 r_7.toNatClampNeg from sw9 hSW 34 rfl _]; exact (fun q9 => absurd (congrArg Int32.toInt (show z_12 = 0 from ez_12.trans q9)) (by have := i32_0; have := i32_0; have := i32_1; have := i32_2; have := i32_m1; have := (hvx).1; have := (hvx).2; have := (hvdp).1; have := (hvdp).2; have := (h_11).1; have := (h_11).2; have := (h_31).1; have := (h_31).2; omega))))), (RC_ks (L := [17, 18]) (M := []) hRC (KS_tr (L := [17, 18]) KS_rf ksv_34 (by decide)) KS_rf (by decide) (by decide))⟩)⟩, by rw [ht]; exact hP, va_K.moved hal hK, hD⟩, hS.F ht⟩) hS.2.2 (Nat.le_of_ble_eq_true rfl) (Nat.le_of_ble_eq_true rfl)
      obtain ⟨r_32, rfl, sgv_35, gmv_35, lgv_35, rfl, hIv_35, ksv_35, kgv_35, klv_35, fF_r_32⟩ := hw
      obtain rfl := KS_nil kgv_35
      obtain rfl := KS_nil klv_35
      have hP : va_P (dC, dI) vwCl (cW ad cid a2 lx sgv_35 gm lg) H := hP
      have hD : va_D A (cW ad cid a2 lx sgv_35 gm lg) := hD
      exact fF_r_32.elim
  · have h_36 : iv (-1) (-1) r_7 := ⟨(hr_7).1, by omega⟩
    refine ec_aload_n hx hb dX5_obtain_15 rfl (lv_at hl 1 rfl) ?_
    refine lv_iconst (v := 1) hx hb dX5_obtain_16 (by decide) ?_
    refine cm_callV (t := 6) (C := RX5) (T := TX5) (N := 13) (rest := []) (as := [.int 1]) ⟨hx, hb, hml, hown, htb⟩ (d_failWith l dC dI ad cid a2 lx sg gm lg hl9 x 1 hI hvx (iv_w (iv_k (by decide) : iv 1 1 1) (by decide))) (cwV 1 htb (gd_V kw_1015 kw_1016 kw_1017 kw_40 kw_1570) rfl rfl rfl (by decide +kernel) ⟨(show 6 + 1 ≤ 22 + 8 * n9 from by omega), (show 8 + (2 + 11) + (120) ≤ 640 + 260 * n9 from by omega)⟩) hvx (by decide) (by decide) rfl rfl hl.1 rfl (Nat.le_trans cs_n (by decide)) dX5_obtain_17 ⟨Nat.le_of_ble_eq_true rfl, Nat.le_of_ble_eq_true rfl⟩ hK hP hD hS hA hG (fun E ce q9 u_38 H locs hw hP hD hS hce hcv hcl => ?_) (fun v9 u_38 H locs hw hP hD hS => ?_)
    · obtain ⟨hE, hw⟩ := hw
      obtain ⟨sgv_39, gmv_39, lgv_39, rfl, hIv_39, ksv_39, kgv_39, klv_39⟩ := hw
      obtain rfl := KS_nil kgv_39
      obtain rfl := KS_nil klv_39
      have hP : va_P (dC, dI) vwCl (cW ad cid a2 lx sgv_39 gm lg) H := hP
      have hD : va_D A (cW ad cid a2 lx sgv_39 gm lg) := hD
      exact vx_out (fun x hx9 => (hxt x hx9).elim) hlocks hce hcv hcl (fun t ht hal => ⟨⟨(sgv_39, gm, lg), ⟨hE, sgv_39, gm, lg, rfl, hIv_39, (KS_tr (L := [13, 14, 15, 16, 17, 18]) KS_rf ksv_39 (by decide)), KS_rf, KS_rf, ((MOK_e hMO (show sgv_39 12 = sg 12 from (ksv_39 12 (by decide))) rfl rfl rfl rfl)), ((FND9_e hFN (show sgv_39 15 = sg 15 from (ksv_39 15 (by decide))) rfl)), (⟨S, oGet_n (by rw [(show caN ws wg lg nm = r_7.toInt from fC_r_7.symm)]; have := i32_0; have := i32_1; have := i32_2; have := i32_m1; have := (hvx).1; have := (hvx).2; have := (hvdp).1; have := (hvdp).2; have := (h_36).1; have := (h_36).2; have := (h_36).2; omega), (RC_ks (L := [17, 18]) (M := []) hRC (KS_tr (L := [17, 18]) KS_rf ksv_39 (by decide)) KS_rf (by decide) (by decide))⟩)⟩, by rw [ht]; exact hP, va_K.moved hal hK, hD⟩, hS.F ht⟩) hS.2.2 (Nat.le_of_ble_eq_true rfl) (Nat.le_of_ble_eq_true rfl)
    obtain ⟨r_37, rfl, sgv_40, gmv_40, lgv_40, rfl, hIv_40, ksv_40, kgv_40, klv_40, fF_r_37⟩ := hw
    obtain rfl := KS_nil kgv_40
    obtain rfl := KS_nil klv_40
    have hP : va_P (dC, dI) vwCl (cW ad cid a2 lx sgv_40 gm lg) H := hP
    have hD : va_D A (cW ad cid a2 lx sgv_40 gm lg) := hD
    exact fF_r_37.elim

theorem d_rec9 (l : Launch) (dC : Nat → ClassId) (dI : Nat → Nat → Nat) (ad : Nat → Nat → Nat) (cid : Nat → ClassId) (a2 : Nat → Nat) (lx : List Nat) (hl9 : l.stackTraces = false) : ∀ n9, PM9 l dC dI ad cid a2 lx n9 ∧ PO9 l dC dI ad cid a2 lx n9 := by
  intro n9
  induction n9 with
  | zero =>
    have hm : PM9 l dC dI ad cid a2 lx 0 := fun sg gm lg x b dp wg ws S hI hvx hvb hvdp hW hLD hMO hFN hb12 hnm hdp hSW hSS hSV hRC => d_make09 l dC dI ad cid a2 lx sg gm lg hl9 0 x b dp wg ws S hI hvx hvb hvdp hW hLD hMO hFN hb12 hnm (by omega) hSW hSS hSV hRC
    exact ⟨hm, fun sg gm lg x nm dp wg ws S hI hvx hvdp hW hLD hMO hFN hdp hSW hSS hSV hRC => d_obtain9 l dC dI ad cid a2 lx sg gm lg hl9 0 hm x nm dp wg ws S hI hvx hvdp hW hLD hMO hFN hdp hSW hSS hSV hRC⟩
  | succ n9 ih =>
    have hm : PM9 l dC dI ad cid a2 lx (n9 + 1) := fun sg gm lg x b dp wg ws S hI hvx hvb hvdp hW hLD hMO hFN hb12 hnm hdp hSW hSS hSV hRC => d_make9 l dC dI ad cid a2 lx sg gm lg hl9 n9 ih.2 ih.1 x b dp wg ws S hI hvx hvb hvdp hW hLD hMO hFN hb12 hnm hdp hSW hSS hSV hRC
    exact ⟨hm, fun sg gm lg x nm dp wg ws S hI hvx hvdp hW hLD hMO hFN hdp hSW hSS hSV hRC => d_obtain9 l dC dI ad cid a2 lx sg gm lg hl9 (n9 + 1) hm x nm dp wg ws S hI hvx hvdp hW hLD hMO hFN hdp hSW hSS hSV hRC⟩
end
section
section CL9
variable {wg : Nat → Nat → Int32} {lg : Nat → Nat → Int64} {S : S9} {sg sg2 : Nat → Int32} {gm gm2 : Nat → Nat → Int32}
theorem RC_fo (h : RC wg lg S sg gm) (hs : KS [15] sg sg2) (hg : KS [38] gm gm2) (hM : ∀ c, c < (sg 12).toNatClampNeg → gm2 38 c = 0) (h15 : (sg2 15).toInt = 0) : RC wg lg (zFo S) sg2 gm2 := by
  obtain ⟨ho, he, hb, hf⟩ := h
  have s12 := hs 12 (by decide); have s13 := hs 13 (by decide); have s14 := hs 14 (by decide)
  have g37 := hg 37 (by decide); have g39 := hg 39 (by decide); have g48 := hg 48 (by decide); have g49 := hg 49 (by decide); have g50 := hg 50 (by decide)
  refine ⟨?_, ?_, ?_, ?_⟩
  · unfold RCo; rw [s14, g49, g50]; exact ho
  · unfold RCe; rw [s13, g48]; exact he
  · unfold RCb; rw [s12, g37, g39]
    intro x hx
    show ((if zS S x = 2 then 0 else zS S x) = 1 ↔ _) ∧ (_ → _ → ((if zS S x = 2 then 0 else zS S x) = 2 ↔ _) ∧ (¬ (if zS S x = 2 then 0 else zS S x) = 0 → _ = zW S x ∧ zW S x < ((zO S).length : Int))) ∧ (if zS S x = 2 then 0 else zS S x) ≤ 2
    have hx1 := hb x hx
    by_cases e : zS S x = 2
    · rw [if_pos e]
      exact ⟨⟨fun q => absurd q (by decide), fun q => absurd (hx1.1.mpr q) (by omega)⟩, fun _ _ => ⟨⟨fun q => absurd q (by decide), fun q => absurd (hM x hx) q⟩, fun q => absurd rfl q⟩, by omega⟩
    · rw [if_neg e]
      exact ⟨hx1.1, fun q1 q2 => ⟨⟨fun q => absurd q e, fun q => absurd (hM x hx) q⟩, (hx1.2.1 q1 q2).2⟩, hx1.2.2⟩
  · exact ⟨h15, fun k b hk => (by cases hk), List.nodup_nil⟩
theorem RC_stp (h : RC wg lg S sg gm) (hs : KS [16] sg sg2) (hg : KS [37] gm gm2) (hM : ∀ c, c < (sg 12).toNatClampNeg → gm2 37 c = 0) : RC wg lg (zSt S) sg2 gm2 := by
  obtain ⟨ho, he, hb, hf⟩ := h
  have s12 := hs 12 (by decide); have s13 := hs 13 (by decide); have s14 := hs 14 (by decide); have s15 := hs 15 (by decide)
  have g38 := hg 38 (by decide); have g39 := hg 39 (by decide); have g48 := hg 48 (by decide); have g49 := hg 49 (by decide); have g50 := hg 50 (by decide); have g51 := hg 51 (by decide)
  refine ⟨?_, ?_, ?_, ?_⟩
  · unfold RCo; rw [s14, g49, g50]; exact ho
  · unfold RCe; rw [s13, g48]; exact he
  · unfold RCb; rw [s12, g38, g39]
    intro x hx
    show ((if zS S x = 1 then 0 else zS S x) = 1 ↔ _) ∧ (_ → _ → ((if zS S x = 1 then 0 else zS S x) = 2 ↔ _) ∧ (¬ (if zS S x = 1 then 0 else zS S x) = 0 → _ = zW S x ∧ zW S x < ((zO S).length : Int))) ∧ (if zS S x = 1 then 0 else zS S x) ≤ 2
    have hx1 := hb x hx
    by_cases e : zS S x = 1
    · rw [if_pos e]
      exact ⟨⟨fun q => absurd q (by decide), fun q => absurd (hM x hx) q⟩, fun q1 q2 => ⟨⟨fun q => absurd q (by decide), fun q => absurd ((hx1.2.1 q1 q2).1.mpr q) (by omega)⟩, fun q => absurd rfl q⟩, by omega⟩
    · rw [if_neg e]
      exact ⟨⟨fun q => absurd q e, fun q => absurd (hM x hx) q⟩, hx1.2.1, hx1.2.2⟩
  · refine ⟨by rw [s15]; exact hf.1, fun k b hk => ?_, hf.2.2⟩
    have := hf.2.1 k b hk
    rw [s12, g51]
    refine ⟨this.1, this.2.1, this.2.2.1, this.2.2.2.1, ?_⟩
    show (if zS S b = 1 then 0 else zS S b) = 2
    rw [if_neg (by have := this.2.2.2.2; omega)]; exact this.2.2.2.2
theorem RC_ce (h : RC wg lg S sg gm) (hs : KS [13] sg sg2) (hg : KS [] gm gm2) (h13 : (sg2 13).toInt = 0) : RC wg lg (zCe S) sg2 gm2 := by
  obtain ⟨ho, he, hb, hf⟩ := h
  have hg2 : ∀ k, gm2 k = gm k := fun k => hg k rfl
  have s12 := hs 12 (by decide); have s14 := hs 14 (by decide); have s15 := hs 15 (by decide)
  refine ⟨?_, ⟨h13, fun k e hk => by cases hk⟩, ?_, ?_⟩
  · unfold RCo; rw [s14, hg2, hg2]; exact ho
  · unfold RCb; rw [s12, hg2, hg2, hg2]; exact hb
  · unfold RCf; rw [s12, s15, hg2]; exact hf
/-- the last of the finished ones first -/
theorem rvt9 {l : List Nat} {k x : Nat} (h : l[k]? = some x) : (l.take (k + 1)).reverse = x :: (l.take k).reverse := by
  have hk : k < l.length := gl9 h
  rw [List.getElem?_eq_getElem hk] at h
  rw [List.take_succ_eq_append_getElem hk, List.reverse_append, Option.some.inj h]; rfl
def DSR (wg : Nat → Nat → Int32) (S : S9) (n : Nat) (S2 : S9) : Prop := zCl wg S = zFo (dsL wg ((zF S).take n).reverse S2) ∧ zF S2 = zF S ∧ zS S2 = zS S ∧ zW S2 = zW S
theorem DSR_0 {n : Nat} (h : (zF S).length ≤ n) : DSR wg S n S := ⟨by unfold zCl; rw [List.take_of_length_le h], rfl, rfl, rfl⟩
theorem DSR_n {S2 : S9} {k b : Nat} (h : DSR wg S (k + 1) S2) (hk : (zF S)[k]? = some b) (hd : (wg 33 b).toInt = -1) : DSR wg S k S2 := by
  refine ⟨?_, h.2⟩
  rw [h.1, rvt9 hk]
  show zFo (dsL wg (zF S |>.take k).reverse (if (wg 33 b).toInt = -1 then S2 else _)) = _
  rw [if_pos hd]
theorem DSR_y {S2 : S9} {k b : Nat} {w o d z : Int} (h : DSR wg S (k + 1) S2) (hk : (zF S)[k]? = some b) (hw : w = 7) (ho : zW S b = o) (hdd : (wg 33 b).toInt = d) (hd : ¬ d = -1) (hz : z = 0) : DSR wg S k (zAdd S2 (w, o, d, z)) := by
  subst hw; subst ho; subst hdd; subst hz
  refine ⟨?_, by rw [zAdd_F]; exact h.2.1, by rw [zAdd_S]; exact h.2.2.1, by rw [zAdd_W]; exact h.2.2.2⟩
  rw [h.1, rvt9 hk]
  show zFo (dsL wg (zF S |>.take k).reverse (if (wg 33 b).toInt = -1 then S2 else _)) = _
  rw [if_neg hd, h.2.2.2]
theorem DSR_e {S2 : S9} (h : DSR wg S 0 S2) : zCl wg S = zFo S2 := h.1
end CL9
end
section
set_option maxHeartbeats 4000000 in
set_option maxRecDepth 100000 in
theorem d_stopMaking9 (l : Launch) (dC : Nat → ClassId) (dI : Nat → Nat → Nat) (ad : Nat → Nat → Nat) (cid : Nat → ClassId) (a2 : Nat → Nat) (lx : List Nat) (sg : Nat → Int32) (gm : Nat → Nat → Int32) (lg : Nat → Nat → Int64) (x : Int32) (hI : CI sg gm) (hvx : iv 0 0 x) : CMt dC dI ad cid a2 lx l yX5_stopMaking wm_X5_stopMaking ({ frames := 1, cells := 1, slots := 6, locals := 21 }) [eV (ad 6) x] sg gm lg (fun v u => v = none ∧ ∃ (sg2 : Nat → Int32) (gm2 : Nat → Nat → Int32) (lg2 : Nat → Nat → Int64), u = (sg2, gm2, lg2) ∧ CI sg2 gm2 ∧ KS [16] sg sg2 ∧ KS [37] gm gm2 ∧ KS [] lg lg2 ∧ (∀ j9, j9 < (sg 12).toNatClampNeg → gm2 37 j9 = 0)) (fun _ _ => False) := by
  intro sz
  refine vx_ofW (cc := cX5_stopMaking) (maxL := 2) (ret := none) (by decide) rfl ?_
  intro p e s m args below meth c s₁ B hml hxt hv
  obtain ⟨rfl, hsz, hP, hK, hD0, hG⟩ := hv
  have hx := B.exec
  have hb := B.bytes
  have hr := B.returns
  have hts := atoms_spec (ws := wm_X5_stopMaking) B.pre
  have htb := fun (w : Cond) (h : w ∈ tb) => hts w (List.mem_cons_of_mem _ h)
  have hown : s.vm.findClass RX5 = some m.cls := findClass_of_methodNamed B.named
  have hlocks := B.notSynchronized
  subst hsz
  have hD := hD0.self (sz := s.heap.size)
  generalize hAe : va_A (cW ad cid a2 lx sg gm lg) s.heap.size = A at hD hG ⊢
  have hA : ∀ q : Nat, s.heap.size ≤ q → A q := fun q h => by rw [← hAe]; exact Or.inr h
  have hS : va_S A s.heap s.heap [] := va_S.rf
  have hl := lv_entry ([eV (ad 6) x]) (n := 2) (by rw [show (lg_sl ([eV (ad 6) x])).length = 1 from by simp [lg_sl, eV_cat, cat_i, cat_l]]; exact Nat.le_of_ble_eq_true rfl)
  rw [lg_entry_eq]
  generalize (lg_sl ([eV (ad 6) x]) ++ List.replicate (2 - (lg_sl ([eV (ad 6) x])).length) Slot.unset).toArray = ls at hl ⊢
  have hl : lv_has ls 2 [(0, eV (ad 6) x)] := by simp [lv_args, eV_cat, cat_i, cat_l] at hl; exact hl
  have hj2 : ∀ (n : Nat) (gm_j2 : Nat → Nat → Int32) (x1_2 : Int32) (_ : (80 - x1_2.toInt).toNat = n) (_ : iv 0 80 x1_2) (_ : iv 0 0 x) (_ : KS [37] gm gm_j2) (_ : CI sg gm_j2) (_ : ∀ j9, j9 < x1_2.toNatClampNeg → gm_j2 37 j9 = 0) (H : Heap) (locs : List Loc) (ls : Array Slot), va_P (dC, dI) vwCl (cW ad cid a2 lx sg gm_j2 lg) H → va_D A (cW ad cid a2 lx sg gm_j2 lg) → va_S A s.heap H locs → lv_has ls 2 [(1, .int x1_2), (0, eV (ad 6) x)] → W p l e (headSpec wm_X5_stopMaking ({ frames := 1, cells := 1, slots := 6, locals := 21 })).room s m ([eV (ad 6) x] : List Value).toArray below meth c H locs 0 0 (vx_MQ below (cQx dC dI ad cid a2 lx (fun v u => v = none ∧ ∃ (sg2 : Nat → Int32) (gm2 : Nat → Nat → Int32) (lg2 : Nat → Nat → Int64), u = (sg2, gm2, lg2) ∧ CI sg2 gm2 ∧ KS [16] sg sg2 ∧ KS [37] gm gm2 ∧ KS [] lg lg2 ∧ (∀ j9, j9 < (sg 12).toNatClampNeg → gm2 37 j9 = 0)) A) (cX dC dI ad cid a2 lx (fun _ _ => False) A) ([eV (ad 6) x] : List Value).toArray s 1 6 A) (F0 m 2 ls []) := by
    intro n
    induction n using Nat.strongRecOn with
    | ind n ih2 =>
      intro gm_j2 x1_2 hn2 hx1_2 hsx0_2 hkg_j2 hI_j2 hall H locs ls hP hD hS hl
      refine lv_iload_n hx hb dX5_stopMaking_2 rfl (lv_at hl 0 rfl) ?_
      refine ec_aload_n hx hb dX5_stopMaking_3 rfl (lv_at hl 1 rfl) ?_
      refine cr_get (t := 6) (j := 0) (C := RX5) (T := TX5) (N := 13) (v := eV (ad 4) 0) hx hb htb inX5 hown hK hP hsx0_2 (by decide) (by decide) (by decide) rfl (by decide) (htb _ kw_121) (cV_c rfl (by decide) (by rw [show cMu 6 0 = 0 from rfl, Nat.zero_mul]; rfl)) dX5_stopMaking_4 ?_
      refine cm_callV (t := 4) (C := RX10) (T := TX10) (N := 4) (rest := [.int x1_2]) (as := []) ⟨hx, hb, hml, hown, htb⟩ (d_countWi l dC dI ad cid a2 lx sg gm_j2 lg 0 hI_j2 (iv_k (by decide) : iv 0 0 0)) (cwV 0 htb (gd_V kw_322 kw_323 kw_324 kw_32 kw_1413) rfl rfl rfl (by decide +kernel) ⟨Nat.le_of_ble_eq_true rfl, Nat.le_of_ble_eq_true rfl⟩) (iv_k (by decide) : iv 0 0 0) (by decide) (by decide) rfl rfl hl.1 rfl (Nat.le_trans (cs_c (cat_i _) cs_n) (by decide)) dX5_stopMaking_7 ⟨Nat.le_of_ble_eq_true rfl, Nat.le_of_ble_eq_true rfl⟩ hK hP hD hS hA hG (fun E ce q9 u_2 H locs hw hP hD hS hce hcv hcl => ?_) (fun v9 u_2 H locs hw hP hD hS => ?_)
      · exact hw.elim
      obtain ⟨r_1, rfl, rfl, hr_1, fr_r_1⟩ := hw
      have hP : va_P (dC, dI) vwCl (cW ad cid a2 lx sg gm_j2 lg) H := hP
      have hD : va_D A (cW ad cid a2 lx sg gm_j2 lg) := hD
      refine W.eq (g2 := F0 m 10 ls [.int r_1, .int x1_2]) rfl ?_
      refine lv_icmp_ge (tgt := 31) hx hb dX5_stopMaking_10 (by decide) (fun c_4 => ?_) (fun c_4 => ?_)
      · have d_5 : (r_1 : Int32).toInt ≤ (x1_2 : Int32).toInt := Int32.le_iff_toInt_le.mp c_4
        refine ec_aload_n hx hb dX5_stopMaking_31 rfl (lv_at hl 1 rfl) ?_
        refine ec_null (a := ad 10) hx hb dX5_stopMaking_32 ?_
        refine cr_puts (t := 6) (j := 10) (C := RX5) (T := TX5) (N := 13) (ty0 := tyX5) (k := 16) (y := (-1)) hx hb htb inX5 tyX5_ok nmX5 hown hK hP hD hS hsx0_2 (by decide) (by decide) (by decide) (by decide) rfl rfl rfl (by decide) (htb _ kw_1018) rfl (by show eV (ad 10) (-1) = eV (ad 10) (va_up sg 16 (-1) 16); rw [va_up_self]) (ev_n _) (ev_f _) dX5_stopMaking_33 (fun sg_6 H locs esg_6 hP hD hS => ?_)
        have hI_sg_6 := CI_put hI_j2 esg_6 (iv_k (by decide) : iv (-1) (-1) (-1)) (by decide)
        exact W.nb (fun hN => W.widen (k := 1) (n := 6) (by decide) (by decide) (vx_ret (W.vret hx hb hr (fun t ht hW => ⟨⟨none, (sg_6, gm_j2, lg), rfl, ⟨rfl, sg_6, gm_j2, lg, rfl, hI_sg_6, (KS_up KS_rf esg_6 (by decide)), (KS_tr (L := [37]) KS_rf hkg_j2 (by decide)), KS_rf, (fun j9 q9 => hall j9 (by have q1 : (sg 12).toNatClampNeg = (sg 12).toInt.toNat := rfl; have q2 : x1_2.toNatClampNeg = x1_2.toInt.toNat := rfl; have q3 := congrArg Int32.toInt fr_r_1; have := i32_0; have := i32_1; have := i32_2; have := i32_m1; have := congrArg Int32.toInt (show sg_6 12 = sg 12 from up_ne esg_6 (by decide)); have := (show iv 0 80 (sg 12) from CI_s hI 12).1; have := (show iv 0 80 (sg 12) from CI_s hI 12).2; have := (hsx0_2).1; have := (hsx0_2).2; have := (hx1_2).1; have := (hx1_2).2; have := (hr_1).1; have := (hr_1).2; omega))⟩, by rw [ht]; exact hP, va_K.moved hW.alike hK, hD⟩, hS.F ht, by rw [ht]; exact hN⟩) hS.2.2 dX5_stopMaking_36)))
      · have d_7 : (x1_2 : Int32).toInt < (r_1 : Int32).toInt := Int32.lt_iff_toInt_lt.mp (i32_lt c_4)
        have h_8 : iv 0 79 x1_2 := iv_ltL (i32_lt c_4) hx1_2 hr_1 (by decide)
        have h_9 : iv 1 80 r_1 := iv_ltR (i32_lt c_4) hx1_2 hr_1 (by decide)
        refine ec_aload_n hx hb dX5_stopMaking_13 rfl (lv_at hl 1 rfl) ?_
        refine cr_get (t := 6) (j := 0) (C := RX5) (T := TX5) (N := 13) (v := eV (ad 4) 0) hx hb htb inX5 hown hK hP hsx0_2 (by decide) (by decide) (by decide) rfl (by decide) (htb _ kw_121) (cV_c rfl (by decide) (by rw [show cMu 6 0 = 0 from rfl, Nat.zero_mul]; rfl)) dX5_stopMaking_14 ?_
        refine lv_iload_n hx hb dX5_stopMaking_17 rfl (lv_at hl 0 rfl) ?_
        refine cm_callV (t := 4) (C := RX10) (T := TX10) (N := 4) (rest := []) (as := [.int x1_2]) ⟨hx, hb, hml, hown, htb⟩ (d_numbered l dC dI ad cid a2 lx sg gm_j2 lg 0 x1_2 hI_j2 (iv_k (by decide) : iv 0 0 0) h_8) (cwV 1 htb (gd_V kw_326 kw_327 kw_328 kw_32 kw_1414) rfl rfl rfl (by decide +kernel) ⟨Nat.le_of_ble_eq_true rfl, Nat.le_of_ble_eq_true rfl⟩) (iv_k (by decide) : iv 0 0 0) (by decide) (by decide) rfl rfl hl.1 rfl (Nat.le_trans cs_n (by decide)) dX5_stopMaking_18 ⟨Nat.le_of_ble_eq_true rfl, Nat.le_of_ble_eq_true rfl⟩ hK hP hD hS hA hG (fun E ce q9 u_11 H locs hw hP hD hS hce hcv hcl => ?_) (fun v9 u_11 H locs hw hP hD hS => ?_)
        · exact hw.elim
        obtain ⟨r_10, rfl, rfl, hr_10, fr_r_10⟩ := hw
        have hP : va_P (dC, dI) vwCl (cW ad cid a2 lx sg gm_j2 lg) H := hP
        have hD : va_D A (cW ad cid a2 lx sg gm_j2 lg) := hD
        refine W.eq (g2 := F0 m 21 ls [eV (ad 10) r_10]) rfl ?_
        refine lv_iconst (v := 0) hx hb dX5_stopMaking_21 (by decide) ?_
        refine cr_putg (t := 10) (j := 16) (C := RX1) (T := TX1) (N := 19) (ty0 := tyX1) (k := 37) (y := 0) hx hb htb inX1 tyX1_ok nmX1 hown hK hP hD hS hr_10 (by decide) (by decide) (by decide) (by decide) rfl rfl (by decide) (htb _ kw_1006) rfl (by show Value.int 0 = Value.int (va_up gm_j2 37 (upd (gm_j2 37) r_10.toNatClampNeg 0) 37 r_10.toNatClampNeg); rw [va_up_self, upd_at]) (iv_nb (iv_w (iv_k (by decide) : iv 0 0 0) (by decide))) (iv_fb (iv_w (iv_k (by decide) : iv 0 0 0) (by decide))) dX5_stopMaking_22 (fun gm_13 H locs egm_13 hP hD hS => ?_)
        have hI_gm_13 := CI_st hI_j2 egm_13 (iv_k (by decide) : iv 0 0 0) (by decide)
        obtain ⟨z_14, ez_14⟩ : ∃ z : Int32, z = x1_2 + 1 := ⟨_, rfl⟩
        have hz_14 : iv 1 80 z_14 := iv_of ez_14 (iv_add h_8 (iv_k (by decide) : iv 1 1 1) (by decide))
        have tz_14 : z_14.toInt = x1_2.toInt + 1 := by rw [ez_14]; exact iv_addE h_8 (iv_k (by decide) : iv 1 1 1) (by decide)
        refine lv_iinc (v := z_14) (lv' := [(1, .int z_14), (0, eV (ad 6) x)]) hx hb dX5_stopMaking_25 hl (k := 0) rfl ez_14.symm (by decide) (by simp [List.filter, eV_cat, cat_i, cat_l]) (fun ls hl => ?_)
        refine lv_goto (tgt := 2) hx hb dX5_stopMaking_28 (by decide) ?_
        exact ih2 _ (by rw [← hn2]; exact (iv_meas tz_14 h_8 (by decide))) gm_13 z_14 rfl (iv_w hz_14 (by decide)) hsx0_2 (KS_up (KS_tr (L := [37]) KS_rf hkg_j2 (by decide)) egm_13 (by decide)) hI_gm_13 (fun j9 q9 => by { rw [show gm_13 37 = _ from up_at egm_13]; by_cases q8 : j9 = r_10.toNatClampNeg; { rw [q8, upd_at] }; { rw [upd_ne q8]; exact hall j9 (by have q1 : z_14.toNatClampNeg = z_14.toInt.toNat := rfl; have q2 : x1_2.toNatClampNeg = x1_2.toInt.toNat := rfl; rw [fr_r_10] at q8; have := i32_0; have := i32_1; have := i32_2; have := i32_m1; have := (hsx0_2).1; have := (hsx0_2).2; have := (h_8).1; have := (h_8).2; have := (h_9).1; have := (h_9).2; have := (hr_10).1; have := (hr_10).2; have := (hz_14).1; have := (hz_14).2; omega) } }) _ _ _ hP hD hS (lv_sub hl [0, 1] rfl)
  refine lv_iconst (v := 0) hx hb dX5_stopMaking_0 (by decide) ?_
  refine lv_istore_n (i := 1) (lv' := [(1, .int 0), (0, eV (ad 6) x)]) hx hb dX5_stopMaking_1 rfl hl (by decide) (by simp [List.filter, eV_cat, cat_i, cat_l]) (fun ls hl => ?_)
  exact hj2 _ gm 0 rfl (iv_w (iv_k (by decide) : iv 0 0 0) (by decide)) hvx KS_rf hI (fun _ q9 => absurd q9 (Nat.not_lt_zero _)) _ _ _ hP hD hS (lv_sub hl [0, 1] rfl)

set_option maxHeartbeats 4000000 in
set_option maxRecDepth 100000 in
theorem d_clearEv9 (l : Launch) (dC : Nat → ClassId) (dI : Nat → Nat → Nat) (ad : Nat → Nat → Nat) (cid : Nat → ClassId) (a2 : Nat → Nat) (lx : List Nat) (sg : Nat → Int32) (gm : Nat → Nat → Int32) (lg : Nat → Nat → Int64) (x : Int32) (hI : CI sg gm) (hvx : iv 0 0 x) : CMt dC dI ad cid a2 lx l yX4_clear wm_X4_clear ({ frames := 0, cells := 1, slots := 6, locals := 0 }) [eV (ad 5) x] sg gm lg (fun v u => v = none ∧ ∃ (sg2 : Nat → Int32) (gm2 : Nat → Nat → Int32) (lg2 : Nat → Nat → Int64), u = (sg2, gm2, lg2) ∧ CI sg2 gm2 ∧ KS [13] sg sg2 ∧ KS [] gm gm2 ∧ KS [] lg lg2 ∧ ((sg2 13).toInt = 0)) (fun _ _ => False) := by
  intro sz
  refine vx_ofW (cc := cX4_clear) (maxL := 1) (ret := none) (by decide) rfl ?_
  intro p e s m args below meth c s₁ B hml hxt hv
  obtain ⟨rfl, hsz, hP, hK, hD0, hG⟩ := hv
  have hx := B.exec
  have hb := B.bytes
  have hr := B.returns
  have hts := atoms_spec (ws := wm_X4_clear) B.pre
  have htb := fun (w : Cond) (h : w ∈ tb) => hts w (List.mem_cons_of_mem _ h)
  have hown : s.vm.findClass RX4 = some m.cls := findClass_of_methodNamed B.named
  have hlocks := B.notSynchronized
  subst hsz
  have hD := hD0.self (sz := s.heap.size)
  generalize hAe : va_A (cW ad cid a2 lx sg gm lg) s.heap.size = A at hD hG ⊢
  have hA : ∀ q : Nat, s.heap.size ≤ q → A q := fun q h => by rw [← hAe]; exact Or.inr h
  have hS : va_S A s.heap s.heap [] := va_S.rf
  have hl := lv_entry ([eV (ad 5) x]) (n := 1) (by rw [show (lg_sl ([eV (ad 5) x])).length = 1 from by simp [lg_sl, eV_cat, cat_i, cat_l]]; exact Nat.le_of_ble_eq_true rfl)
  rw [lg_entry_eq]
  generalize (lg_sl ([eV (ad 5) x]) ++ List.replicate (1 - (lg_sl ([eV (ad 5) x])).length) Slot.unset).toArray = ls at hl ⊢
  have hl : lv_has ls 1 [(0, eV (ad 5) x)] := by simp [lv_args, eV_cat, cat_i, cat_l] at hl; exact hl
  refine ec_aload_n hx hb dX4_clear_0 rfl (lv_at hl 0 rfl) ?_
  refine lv_iconst (v := 0) hx hb dX4_clear_1 (by decide) ?_
  refine cr_puts (t := 5) (j := 1) (C := RX4) (T := TX4) (N := 2) (ty0 := tyX4) (k := 13) (y := 0) hx hb htb inX4 tyX4_ok nmX4 hown hK hP hD hS hvx (by decide) (by decide) (by decide) (by decide) rfl rfl rfl (by decide) (htb _ kw_332) rfl (by show Value.int 0 = Value.int (va_up sg 13 0 13); rw [va_up_self]) rfl rfl dX4_clear_2 (fun sg_1 H locs esg_1 hP hD hS => ?_)
  have hI_sg_1 := CI_put hI esg_1 (iv_k (by decide) : iv 0 0 0) (by decide)
  exact W.nb (fun hN => W.widen (k := 1) (n := 6) (by decide) (by decide) (vx_ret (W.vret hx hb hr (fun t ht hW => ⟨⟨none, (sg_1, gm, lg), rfl, ⟨rfl, sg_1, gm, lg, rfl, hI_sg_1, (KS_up KS_rf esg_1 (by decide)), KS_rf, KS_rf, (by have := i32_0; have := i32_1; have := i32_2; have := i32_m1; have : (sg_1 13).toInt = 0 := (by rw [up_at esg_1]; rfl); have := (hvx).1; have := (hvx).2; omega)⟩, by rw [ht]; exact hP, va_K.moved hW.alike hK, hD⟩, hS.F ht, by rw [ht]; exact hN⟩) hS.2.2 dX4_clear_5)))

set_option maxHeartbeats 4000000 in
set_option maxRecDepth 100000 in
theorem d_countEv9 (l : Launch) (dC : Nat → ClassId) (dI : Nat → Nat → Nat) (ad : Nat → Nat → Nat) (cid : Nat → ClassId) (a2 : Nat → Nat) (lx : List Nat) (sg : Nat → Int32) (gm : Nat → Nat → Int32) (lg : Nat → Nat → Int64) (x : Int32) (hI : CI sg gm) (hvx : iv 0 0 x) : CMt dC dI ad cid a2 lx l yX4_count wm_X4_count ({ frames := 0, cells := 1, slots := 6, locals := 0 }) [eV (ad 5) x] sg gm lg (fun v u => ∃ r : Int32, v = some (.int r) ∧ u = (sg, gm, lg) ∧ (iv 0 400 r) ∧ (r = sg 13)) (fun _ _ => False) := by
  intro sz
  refine vx_ofW (cc := cX4_count) (maxL := 1) (ret := (some .int)) (by decide) rfl ?_
  intro p e s m args below meth c s₁ B hml hxt hv
  obtain ⟨rfl, hsz, hP, hK, hD0, hG⟩ := hv
  have hx := B.exec
  have hb := B.bytes
  have hr := B.returns
  have hts := atoms_spec (ws := wm_X4_count) B.pre
  have htb := fun (w : Cond) (h : w ∈ tb) => hts w (List.mem_cons_of_mem _ h)
  have hown : s.vm.findClass RX4 = some m.cls := findClass_of_methodNamed B.named
  have hlocks := B.notSynchronized
  subst hsz
  have hD := hD0.self (sz := s.heap.size)
  generalize hAe : va_A (cW ad cid a2 lx sg gm lg) s.heap.size = A at hD hG ⊢
  have hA : ∀ q : Nat, s.heap.size ≤ q → A q := fun q h => by rw [← hAe]; exact Or.inr h
  have hS : va_S A s.heap s.heap [] := va_S.rf
  have hl := lv_entry ([eV (ad 5) x]) (n := 1) (by rw [show (lg_sl ([eV (ad 5) x])).length = 1 from by simp [lg_sl, eV_cat, cat_i, cat_l]]; exact Nat.le_of_ble_eq_true rfl)
  rw [lg_entry_eq]
  generalize (lg_sl ([eV (ad 5) x]) ++ List.replicate (1 - (lg_sl ([eV (ad 5) x])).length) Slot.unset).toArray = ls at hl ⊢
  have hl : lv_has ls 1 [(0, eV (ad 5) x)] := by simp [lv_args, eV_cat, cat_i, cat_l] at hl; exact hl
  refine ec_aload_n hx hb dX4_count_0 rfl (lv_at hl 0 rfl) ?_
  refine cr_get (t := 5) (j := 1) (C := RX4) (T := TX4) (N := 2) (v := .int (sg 13)) hx hb htb inX4 hown hK hP hvx (by decide) (by decide) (by decide) rfl (by decide) (htb _ kw_332) rfl dX4_count_1 ?_
  exact W.nb (fun hN => W.widen (k := 1) (n := 6) (by decide) (by decide) (vx_ret (W.iret (v := (sg 13)) hx hb hr (fun t ht hW => ⟨⟨some (.int (sg 13)), (sg, gm, lg), rfl, ⟨(sg 13), rfl, rfl, (show iv 0 400 (sg 13) from CI_s hI 13), (rfl)⟩, by rw [ht]; exact hP, va_K.moved hW.alike hK, hD⟩, hS.F ht, by rw [ht]; exact hN⟩) hS.2.2 dX4_count_4)))

set_option maxHeartbeats 4000000 in
set_option maxRecDepth 100000 in
theorem d_objectCount9 (l : Launch) (dC : Nat → ClassId) (dI : Nat → Nat → Nat) (ad : Nat → Nat → Nat) (cid : Nat → ClassId) (a2 : Nat → Nat) (lx : List Nat) (sg : Nat → Int32) (gm : Nat → Nat → Int32) (lg : Nat → Nat → Int64) (x : Int32) (hI : CI sg gm) (hvx : iv 0 0 x) : CMt dC dI ad cid a2 lx l yX5_objectCount wm_X5_objectCount ({ frames := 0, cells := 1, slots := 6, locals := 0 }) [eV (ad 6) x] sg gm lg (fun v u => ∃ r : Int32, v = some (.int r) ∧ u = (sg, gm, lg) ∧ (iv 0 60 r) ∧ (r = sg 14)) (fun _ _ => False) := by
  intro sz
  refine vx_ofW (cc := cX5_objectCount) (maxL := 1) (ret := (some .int)) (by decide) rfl ?_
  intro p e s m args below meth c s₁ B hml hxt hv
  obtain ⟨rfl, hsz, hP, hK, hD0, hG⟩ := hv
  have hx := B.exec
  have hb := B.bytes
  have hr := B.returns
  have hts := atoms_spec (ws := wm_X5_objectCount) B.pre
  have htb := fun (w : Cond) (h : w ∈ tb) => hts w (List.mem_cons_of_mem _ h)
  have hown : s.vm.findClass RX5 = some m.cls := findClass_of_methodNamed B.named
  have hlocks := B.notSynchronized
  subst hsz
  have hD := hD0.self (sz := s.heap.size)
  generalize hAe : va_A (cW ad cid a2 lx sg gm lg) s.heap.size = A at hD hG ⊢
  have hA : ∀ q : Nat, s.heap.size ≤ q → A q := fun q h => by rw [← hAe]; exact Or.inr h
  have hS : va_S A s.heap s.heap [] := va_S.rf
  have hl := lv_entry ([eV (ad 6) x]) (n := 1) (by rw [show (lg_sl ([eV (ad 6) x])).length = 1 from by simp [lg_sl, eV_cat, cat_i, cat_l]]; exact Nat.le_of_ble_eq_true rfl)
  rw [lg_entry_eq]
  generalize (lg_sl ([eV (ad 6) x]) ++ List.replicate (1 - (lg_sl ([eV (ad 6) x])).length) Slot.unset).toArray = ls at hl ⊢
  have hl : lv_has ls 1 [(0, eV (ad 6) x)] := by simp [lv_args, eV_cat, cat_i, cat_l] at hl; exact hl
  refine ec_aload_n hx hb dX5_objectCount_0 rfl (lv_at hl 0 rfl) ?_
  refine cr_get (t := 6) (j := 5) (C := RX5) (T := TX5) (N := 13) (v := .int (sg 14)) hx hb htb inX5 hown hK hP hvx (by decide) (by decide) (by decide) rfl (by decide) (htb _ kw_316) rfl dX5_objectCount_1 ?_
  exact W.nb (fun hN => W.widen (k := 1) (n := 6) (by decide) (by decide) (vx_ret (W.iret (v := (sg 14)) hx hb hr (fun t ht hW => ⟨⟨some (.int (sg 14)), (sg, gm, lg), rfl, ⟨(sg 14), rfl, rfl, (show iv 0 60 (sg 14) from CI_s hI 14), (rfl)⟩, by rw [ht]; exact hP, va_K.moved hW.alike hK, hD⟩, hS.F ht, by rw [ht]; exact hN⟩) hS.2.2 dX5_objectCount_4)))

theorem fin_9 {wg : Nat → Nat → Int32} {lg : Nat → Nat → Int64} {S : S9} {sg : Nat → Int32} {gm : Nat → Nat → Int32} {k : Nat} (h : RC wg lg S sg gm) (hk : k < (zF S).length) : ∃ b, (zF S)[k]? = some b ∧ (gm 51 k).toInt = (b : Int) ∧ (gm 39 b).toInt = zW S b := by
  have hk2 := List.getElem?_eq_getElem hk
  have a := h.2.2.2.2.1 k _ hk2
  have w := ((h.2.2.1 _ a.2.1).2.1 a.2.2.1 a.2.2.2.1).2 (by rw [a.2.2.2.2]; decide)
  exact ⟨_, hk2, a.1, w.1⟩

set_option maxHeartbeats 4000000 in
set_option maxRecDepth 100000 in
theorem d_destroyAll9 (l : Launch) (dC : Nat → ClassId) (dI : Nat → Nat → Nat) (ad : Nat → Nat → Nat) (cid : Nat → ClassId) (a2 : Nat → Nat) (lx : List Nat) (sg : Nat → Int32) (gm : Nat → Nat → Int32) (lg : Nat → Nat → Int64) (x : Int32) (wg : Nat → Nat → Int32) (S : S9) (hI : CI sg gm) (hvx : iv 0 0 x) (hFND9 : FND9 sg gm) (hSW : st9 gm = wg) (hRC : RC wg lg S sg gm) : CMt dC dI ad cid a2 lx l yX5_destroyAll wm_X5_destroyAll ({ frames := 2, cells := 1, slots := 6, locals := 42 }) [eV (ad 6) x] sg gm lg (fun v u => v = none ∧ ∃ (sg2 : Nat → Int32) (gm2 : Nat → Nat → Int32) (lg2 : Nat → Nat → Int64), u = (sg2, gm2, lg2) ∧ CI sg2 gm2 ∧ KS [13, 15] sg sg2 ∧ KS [38, 48] gm gm2 ∧ KS [] lg lg2 ∧ (∀ j9, j9 < (sg 12).toNatClampNeg → gm2 38 j9 = 0) ∧ ((sg2 15).toInt = 0) ∧ (RC wg lg (zCl wg S) sg2 gm2)) (fun _ _ => False) := by
  intro sz
  refine vx_ofW (cc := cX5_destroyAll) (maxL := 2) (ret := none) (by decide) rfl ?_
  intro p e s m args below meth c s₁ B hml hxt hv
  obtain ⟨rfl, hsz, hP, hK, hD0, hG⟩ := hv
  have hx := B.exec
  have hb := B.bytes
  have hr := B.returns
  have hts := atoms_spec (ws := wm_X5_destroyAll) B.pre
  have htb := fun (w : Cond) (h : w ∈ tb) => hts w (List.mem_cons_of_mem _ h)
  have hown : s.vm.findClass RX5 = some m.cls := findClass_of_methodNamed B.named
  have hlocks := B.notSynchronized
  subst hsz
  have hD := hD0.self (sz := s.heap.size)
  generalize hAe : va_A (cW ad cid a2 lx sg gm lg) s.heap.size = A at hD hG ⊢
  have hA : ∀ q : Nat, s.heap.size ≤ q → A q := fun q h => by rw [← hAe]; exact Or.inr h
  have hS : va_S A s.heap s.heap [] := va_S.rf
  have hl := lv_entry ([eV (ad 6) x]) (n := 2) (by rw [show (lg_sl ([eV (ad 6) x])).length = 1 from by simp [lg_sl, eV_cat, cat_i, cat_l]]; exact Nat.le_of_ble_eq_true rfl)
  rw [lg_entry_eq]
  generalize (lg_sl ([eV (ad 6) x]) ++ List.replicate (2 - (lg_sl ([eV (ad 6) x])).length) Slot.unset).toArray = ls at hl ⊢
  have hl : lv_has ls 2 [(0, eV (ad 6) x)] := by simp [lv_args, eV_cat, cat_i, cat_l] at hl; exact hl
  have hj7 : ∀ (n : Nat) (sg_j7 : Nat → Int32) (gm_j7 : Nat → Nat → Int32) (x1_7 : Int32) (_ : (x1_7.toInt + 1).toNat = n) (_ : iv (-1) 79 x1_7) (_ : iv 0 0 x) (_ : KS [13] sg sg_j7) (_ : KS [48] gm gm_j7) (_ : CI sg_j7 gm_j7) (_ : x1_7.toInt < (sg 15).toInt) (_ : ∃ S2, RC wg lg S2 sg_j7 gm_j7 ∧ DSR wg S (x1_7.toInt + 1).toNat S2) (H : Heap) (locs : List Loc) (ls : Array Slot), va_P (dC, dI) vwCl (cW ad cid a2 lx sg_j7 gm_j7 lg) H → va_D A (cW ad cid a2 lx sg_j7 gm_j7 lg) → va_S A s.heap H locs → lv_has ls 2 [(1, .int x1_7), (0, eV (ad 6) x)] → W p l e (headSpec wm_X5_destroyAll ({ frames := 2, cells := 1, slots := 6, locals := 42 })).room s m ([eV (ad 6) x] : List Value).toArray below meth c H locs 0 0 (vx_MQ below (cQx dC dI ad cid a2 lx (fun v u => v = none ∧ ∃ (sg2 : Nat → Int32) (gm2 : Nat → Nat → Int32) (lg2 : Nat → Nat → Int64), u = (sg2, gm2, lg2) ∧ CI sg2 gm2 ∧ KS [13, 15] sg sg2 ∧ KS [38, 48] gm gm2 ∧ KS [] lg lg2 ∧ (∀ j9, j9 < (sg 12).toNatClampNeg → gm2 38 j9 = 0) ∧ ((sg2 15).toInt = 0) ∧ (RC wg lg (zCl wg S) sg2 gm2)) A) (cX dC dI ad cid a2 lx (fun _ _ => False) A) ([eV (ad 6) x] : List Value).toArray s 1 6 A) (F0 m 7 ls []) := by
    intro n
    induction n using Nat.strongRecOn with
    | ind n ih7 =>
      intro sg_j7 gm_j7 x1_7 hn7 hx1_7 hsx0_7 hks_j7 hkg_j7 hI_j7 h1l hDS H locs ls hP hD hS hl
      have hj52 : ∀ (sg_j52 : Nat → Int32) (gm_j52 : Nat → Nat → Int32) (_ : iv 0 79 x1_7) (_ : iv 0 0 x) (_ : KS [13] sg sg_j52) (_ : KS [48] gm gm_j52) (_ : CI sg_j52 gm_j52) (_ : x1_7.toInt < (sg 15).toInt) (_ : ∃ S2, RC wg lg S2 sg_j52 gm_j52 ∧ DSR wg S x1_7.toInt.toNat S2) (H : Heap) (locs : List Loc) (ls : Array Slot), va_P (dC, dI) vwCl (cW ad cid a2 lx sg_j52 gm_j52 lg) H → va_D A (cW ad cid a2 lx sg_j52 gm_j52 lg) → va_S A s.heap H locs → lv_has ls 2 [(1, .int x1_7), (0, eV (ad 6) x)] → W p l e (headSpec wm_X5_destroyAll ({ frames := 2, cells := 1, slots := 6, locals := 42 })).room s m ([eV (ad 6) x] : List Value).toArray below meth c H locs 0 0 (vx_MQ below (cQx dC dI ad cid a2 lx (fun v u => v = none ∧ ∃ (sg2 : Nat → Int32) (gm2 : Nat → Nat → Int32) (lg2 : Nat → Nat → Int64), u = (sg2, gm2, lg2) ∧ CI sg2 gm2 ∧ KS [13, 15] sg sg2 ∧ KS [38, 48] gm gm2 ∧ KS [] lg lg2 ∧ (∀ j9, j9 < (sg 12).toNatClampNeg → gm2 38 j9 = 0) ∧ ((sg2 15).toInt = 0) ∧ (RC wg lg (zCl wg S) sg2 gm2)) A) (cX dC dI ad cid a2 lx (fun _ _ => False) A) ([eV (ad 6) x] : List Value).toArray s 1 6 A) (F0 m 52 ls []) := by
        intro sg_j52 gm_j52 hsx1_52 hsx0_52 hks_j52 hkg_j52 hI_j52 h1l hD52 H locs ls hP hD hS hl
        obtain ⟨z_1, ez_1⟩ : ∃ z : Int32, z = x1_7 + (-1) := ⟨_, rfl⟩
        have hz_1 : iv (-1) 78 z_1 := iv_of ez_1 (iv_add hsx1_52 (iv_k (by decide) : iv (-1) (-1) (-1)) (by decide))
        have tz_1 : z_1.toInt = x1_7.toInt - 1 := by rw [ez_1]; exact iv_addE hsx1_52 (iv_k (by decide) : iv (-1) (-1) (-1)) (by decide)
        refine lv_iinc (v := z_1) (lv' := [(1, .int z_1), (0, eV (ad 6) x)]) hx hb dX5_destroyAll_52 hl (k := 0) rfl ez_1.symm (by decide) (by simp [List.filter, eV_cat, cat_i, cat_l]) (fun ls hl => ?_)
        refine lv_goto (tgt := 7) hx hb dX5_destroyAll_55 (by decide) ?_
        exact ih7 _ (by rw [← hn7]; exact (by have := i32_0; have := i32_1; have := i32_2; have := i32_m1; have := (hsx0_52).1; have := (hsx0_52).2; have := (hsx1_52).1; have := (hsx1_52).2; have := (hz_1).1; have := (hz_1).2; omega)) sg_j52 gm_j52 z_1 rfl (iv_w hz_1 (by decide)) hsx0_52 (KS_tr (L := [13]) KS_rf hks_j52 (by decide)) (KS_tr (L := [48]) KS_rf hkg_j52 (by decide)) hI_j52 (by have := i32_0; have := i32_1; have := i32_2; have := i32_m1; have := congrArg Int32.toInt (show sg_j52 15 = sg 15 from hks_j52 15 (by decide)); have := (show iv 0 80 (sg 15) from CI_s hI 15).1; have := (show iv 0 80 (sg 15) from CI_s hI 15).2; have := congrArg Int32.toInt (show sg_j7 15 = sg 15 from hks_j7 15 (by decide)); have := (hsx0_52).1; have := (hsx0_52).2; have := (hsx1_52).1; have := (hsx1_52).2; have := (hz_1).1; have := (hz_1).2; omega) ((by obtain ⟨S3, h1, h2⟩ := hD52; exact ⟨S3, h1, (by rw [show (z_1.toInt + 1).toNat = x1_7.toInt.toNat from (by have := i32_0; have := i32_1; have := i32_2; have := i32_m1; have := (hsx0_52).1; have := (hsx0_52).2; have := (hsx1_52).1; have := (hsx1_52).2; have := (hz_1).1; have := (hz_1).2; omega)]; exact h2)⟩)) _ _ _ hP hD hS (lv_sub hl [0, 1] rfl)
      obtain ⟨S2, hR2, hD2⟩ := hDS
      refine lv_iload_n hx hb dX5_destroyAll_7 rfl (lv_at hl 0 rfl) ?_
      refine lv_if_lt (tgt := 58) hx hb dX5_destroyAll_8 (by decide) (fun c_2 => ?_) (fun c_2 => ?_)
      · have h_3 : iv (-1) (-1) x1_7 := iv_ltL c_2 hx1_7 (iv_k (by decide) : iv 0 0 0) (by decide)
        refine ec_aload_n hx hb dX5_destroyAll_58 rfl (lv_at hl 1 rfl) ?_
        refine cm_callV (t := 6) (C := RX5) (T := TX5) (N := 13) (rest := []) (as := []) ⟨hx, hb, hml, hown, htb⟩ (d_forgetMade l dC dI ad cid a2 lx sg_j7 gm_j7 lg x hI_j7 hsx0_7) (cwV 0 htb (gd_V kw_317 kw_318 kw_319 kw_40 kw_1412) rfl rfl rfl (by decide +kernel) ⟨Nat.le_of_ble_eq_true rfl, Nat.le_of_ble_eq_true rfl⟩) hsx0_7 (by decide) (by decide) rfl rfl hl.1 rfl (Nat.le_trans cs_n (by decide)) dX5_destroyAll_59 ⟨Nat.le_of_ble_eq_true rfl, Nat.le_of_ble_eq_true rfl⟩ hK hP hD hS hA hG (fun E ce q9 u_5 H locs hw hP hD hS hce hcv hcl => ?_) (fun v9 u_5 H locs hw hP hD hS => ?_)
        · exact hw.elim
        obtain ⟨rfl, sgv_6, gmv_6, lgv_6, rfl, hIv_6, ksv_6, kgv_6, klv_6, fM_r_4, f15_r_4⟩ := hw
        obtain rfl := KS_nil klv_6
        have hP : va_P (dC, dI) vwCl (cW ad cid a2 lx sgv_6 gmv_6 lg) H := hP
        have hD : va_D A (cW ad cid a2 lx sgv_6 gmv_6 lg) := hD
        refine W.eq (g2 := F0 m 62 ls []) rfl ?_
        exact W.nb (fun hN => W.widen (k := 1) (n := 6) (by decide) (by decide) (vx_ret (W.vret hx hb hr (fun t ht hW => ⟨⟨none, (sgv_6, gmv_6, lg), rfl, ⟨rfl, sgv_6, gmv_6, lg, rfl, hIv_6, (KS_tr (L := [13, 15]) (KS_tr (L := [13, 15]) KS_rf hks_j7 (by decide)) ksv_6 (by decide)), (KS_tr (L := [38, 48]) (KS_tr (L := [38, 48]) KS_rf hkg_j7 (by decide)) kgv_6 (by decide)), KS_rf, (fun j9 q9 => by { rw [show gmv_6 38 = gmv_6 38 from rfl]; exact fM_r_4 j9 (by rw [show sg_j7 12 = sg 12 from ((show KS [13] sg sg_j7 from (KS_tr (L := [13]) KS_rf hks_j7 (by decide))) 12 (by decide))]; exact q9) }), (by have := i32_0; have := i32_1; have := i32_2; have := i32_m1; have := (show iv 0 80 (sgv_6 15) from CI_s hIv_6 15).1; have := (show iv 0 80 (sgv_6 15) from CI_s hIv_6 15).2; have := congrArg Int32.toInt (show sg_j7 15 = sg 15 from hks_j7 15 (by decide)); have := (show iv 0 80 (sg 15) from CI_s hI 15).1; have := (show iv 0 80 (sg 15) from CI_s hI 15).2; have := congrArg Int32.toInt (show sg_j7 15 = sg 15 from hks_j7 15 (by decide)); have := (hsx0_7).1; have := (hsx0_7).2; have := (h_3).1; have := (h_3).2; have := f15_r_4; omega), ((by rw [DSR_e (show DSR wg S 0 S2 from (by rw [show (x1_7.toInt + 1).toNat = 0 from (by have := i32_0; have := i32_1; have := i32_2; have := i32_m1; have := (hsx0_7).1; have := (hsx0_7).2; have := (h_3).1; have := (h_3).2; omega)] at hD2; exact hD2))]; exact RC_fo hR2 (KS_tr (L := [15]) KS_rf ksv_6 (by decide)) (KS_tr (L := [38]) KS_rf kgv_6 (by decide)) (fun c9 q9 => fM_r_4 c9 q9) f15_r_4))⟩, by rw [ht]; exact hP, va_K.moved hW.alike hK, hD⟩, hS.F ht, by rw [ht]; exact hN⟩) hS.2.2 dX5_destroyAll_62)))
      · have h_7 : iv 0 79 x1_7 := iv_leR (i32_ge c_2) (iv_k (by decide) : iv 0 0 0) hx1_7 (by decide)
        refine ec_aload_n hx hb dX5_destroyAll_11 rfl (lv_at hl 1 rfl) ?_
        refine cr_get (t := 6) (j := 6) (C := RX5) (T := TX5) (N := 13) (v := eV (ad 24) 0) hx hb htb inX5 hown hK hP hsx0_7 (by decide) (by decide) (by decide) rfl (by decide) (htb _ kw_127) (cV_c rfl (by decide) (by rw [show cMu 6 6 = 0 from rfl, Nat.zero_mul]; rfl)) dX5_destroyAll_12 ?_
        refine lv_iload_n hx hb dX5_destroyAll_15 rfl (lv_at hl 0 rfl) ?_
        refine cr_aald (t := 24) (C := RX1) (v := eV (ad 10) (gm_j7 51 (x1_7 : Int32).toNatClampNeg)) hx hb hK hP (iv_k (by decide) : iv 0 0 0) (by decide) (by decide) (by decide) (by decide) (by decide) rfl (show vp_in x1_7 (cLen 24) from (show vp_in x1_7 80 from (iv_in h_7 (by decide)))) rfl dX5_destroyAll_16 ?_
        obtain ⟨z_8, ez_8⟩ : ∃ z : Int32, z = (gm_j7 51 (x1_7 : Int32).toNatClampNeg) := ⟨_, rfl⟩
        refine W.eq (g2 := F0 m 17 ls [eV (ad 10) z_8]) (by rw [ez_8]) ?_
        have hz_8 : iv (-1) 79 z_8 := iv_of ez_8 (CI_a hI_j7 51 h_7 (by decide))
        have ez_8 := ez_8.trans (congrFun (hkg_j7 51 (by decide)) _)
        have h_9 : iv 0 79 z_8 := ⟨by rw [ez_8]; exact hFND9 _ (lt_cl h_7 (show iv 0 80 (sg 15) from CI_s hI 15) (by decide) (by decide) (by have := i32_0; have := i32_1; have := i32_2; have := i32_m1; have := congrArg Int32.toInt (show sg_j7 15 = sg 15 from hks_j7 15 (by decide)); have := (show iv 0 80 (sg 15) from CI_s hI 15).1; have := (show iv 0 80 (sg 15) from CI_s hI 15).2; have := (hsx0_7).1; have := (hsx0_7).2; have := (h_7).1; have := (h_7).2; have := (hz_8).1; have := (hz_8).2; omega)), (hz_8).2⟩
        refine cr_get (t := 10) (j := 12) (C := RX1) (T := TX1) (N := 19) (v := .int (gm_j7 33 z_8.toNatClampNeg)) hx hb htb inX1 hown hK hP h_9 (by decide) (by decide) (by decide) rfl (by decide) (htb _ kw_1141) rfl dX5_destroyAll_17 ?_
        obtain ⟨z_10, ez_10⟩ : ∃ z : Int32, z = (gm_j7 33 z_8.toNatClampNeg) := ⟨_, rfl⟩
        refine W.eq (g2 := F0 m 20 ls [.int z_10]) (by rw [ez_10]) ?_
        have hz_10 : iv (-1) 25 z_10 := iv_of ez_10 (CI_a hI_j7 33 h_9 (by decide))
        have ez_10 := ez_10.trans (congrFun (hkg_j7 33 (by decide)) _)
        refine lv_iconst (v := (-1)) hx hb dX5_destroyAll_20 (by decide) ?_
        refine lv_icmp_eq (tgt := 52) hx hb dX5_destroyAll_21 (by decide) (fun c_11 => ?_) (fun c_11 => ?_)
        · have h_12 : iv (-1) (-1) z_10 := iv_eq c_11 hz_10 (iv_k (by decide) : iv (-1) (-1) (-1)) (by decide)
          exact hj52 sg_j7 gm_j7 h_7 hsx0_7 (KS_tr (L := [13]) KS_rf hks_j7 (by decide)) (KS_tr (L := [48]) KS_rf hkg_j7 (by decide)) hI_j7 (by have := i32_0; have := i32_1; have := i32_2; have := i32_m1; have := congrArg Int32.toInt (show sg_j7 15 = sg 15 from hks_j7 15 (by decide)); have := (show iv 0 80 (sg 15) from CI_s hI 15).1; have := (show iv 0 80 (sg 15) from CI_s hI 15).2; have := (hsx0_7).1; have := (hsx0_7).2; have := (h_7).1; have := (h_7).2; have := (h_9).1; have := (h_9).2; have := (h_12).1; have := (h_12).2; omega) ((by obtain ⟨b9, hb9, hbz, hbw⟩ := (fin_9 hRC (k := x1_7.toNatClampNeg) (by have q1 : x1_7.toNatClampNeg = x1_7.toInt.toNat := rfl; have := hRC.2.2.2.1; have := i32_0; have := i32_1; have := i32_2; have := i32_m1; have := congrArg Int32.toInt (show sg_j7 15 = sg 15 from hks_j7 15 (by decide)); have := (show iv 0 80 (sg 15) from CI_s hI 15).1; have := (show iv 0 80 (sg 15) from CI_s hI 15).2; have := (hsx0_7).1; have := (hsx0_7).2; have := (h_7).1; have := (h_7).2; have := (h_9).1; have := (h_9).2; have := (h_12).1; have := (h_12).2; have := h1l; omega)); have hbb : z_8.toNatClampNeg = b9 := (by have q1 := (congrArg Int32.toInt ez_8).trans hbz; have q2 : z_8.toNatClampNeg = z_8.toInt.toNat := rfl; omega); have hw33 : (wg 33 b9).toInt = z_10.toInt := (by rw [← hbb]; exact congrArg Int32.toInt (swt9 hSW ez_10 rfl)); have hs1 : (x1_7.toInt + 1).toNat = x1_7.toInt.toNat + 1 := (by have := i32_0; have := i32_1; have := i32_2; have := i32_m1; have := (hsx0_7).1; have := (hsx0_7).2; have := (h_7).1; have := (h_7).2; have := (h_9).1; have := (h_9).2; have := (h_12).1; have := (h_12).2; omega); exact ⟨S2, hR2, DSR_n (by rw [← hs1]; exact hD2) hb9 (by rw [hw33]; have := i32_0; have := i32_1; have := i32_2; have := i32_m1; have := (hsx0_7).1; have := (hsx0_7).2; have := (h_7).1; have := (h_7).2; have := (h_9).1; have := (h_9).2; have := (h_12).1; have := (h_12).2; omega)⟩)) _ _ _ hP hD hS (lv_sub hl [0, 1] rfl)
        · have h_13 : iv 0 25 z_10 := iv_neL c_11 hz_10 (by decide)
          refine ec_aload_n hx hb dX5_destroyAll_24 rfl (lv_at hl 1 rfl) ?_
          refine cr_get (t := 6) (j := 2) (C := RX5) (T := TX5) (N := 13) (v := eV (ad 5) 0) hx hb htb inX5 hown hK hP hsx0_7 (by decide) (by decide) (by decide) rfl (by decide) (htb _ kw_123) (cV_c rfl (by decide) (by rw [show cMu 6 2 = 0 from rfl, Nat.zero_mul]; rfl)) dX5_destroyAll_25 ?_
          refine lv_bipush (v := 7) hx hb dX5_destroyAll_28 (by decide) ?_
          refine ec_aload_n hx hb dX5_destroyAll_30 rfl (lv_at hl 1 rfl) ?_
          refine cr_get (t := 6) (j := 6) (C := RX5) (T := TX5) (N := 13) (v := eV (ad 24) 0) hx hb htb inX5 hown hK hP hsx0_7 (by decide) (by decide) (by decide) rfl (by decide) (htb _ kw_127) (cV_c rfl (by decide) (by rw [show cMu 6 6 = 0 from rfl, Nat.zero_mul]; rfl)) dX5_destroyAll_31 ?_
          refine lv_iload_n hx hb dX5_destroyAll_34 rfl (lv_at hl 0 rfl) ?_
          refine cr_aald (t := 24) (C := RX1) (v := eV (ad 10) (gm_j7 51 (x1_7 : Int32).toNatClampNeg)) hx hb hK hP (iv_k (by decide) : iv 0 0 0) (by decide) (by decide) (by decide) (by decide) (by decide) rfl (show vp_in x1_7 (cLen 24) from (show vp_in x1_7 80 from (iv_in h_7 (by decide)))) rfl dX5_destroyAll_35 ?_
          refine W.eq (g2 := F0 m 36 ls [eV (ad 10) z_8, .int 7, eV (ad 5) 0]) (by rw [show (gm_j7 51 (x1_7 : Int32).toNatClampNeg) = z_8 from (Eq.trans (congrFun (hkg_j7 51 (by decide)) _) ez_8.symm)]) ?_
          refine cr_get (t := 10) (j := 18) (C := RX1) (T := TX1) (N := 19) (v := .int (gm_j7 39 z_8.toNatClampNeg)) hx hb htb inX1 hown hK hP h_9 (by decide) (by decide) (by decide) rfl (by decide) (htb _ kw_1007) rfl dX5_destroyAll_36 ?_
          obtain ⟨z_15, ez_15⟩ : ∃ z : Int32, z = (gm_j7 39 z_8.toNatClampNeg) := ⟨_, rfl⟩
          refine W.eq (g2 := F0 m 39 ls [.int z_15, .int 7, eV (ad 5) 0]) (by rw [ez_15]) ?_
          have hz_15 : iv (-1) 59 z_15 := iv_of ez_15 (CI_a hI_j7 39 h_9 (by decide))
          have ez_15 := ez_15.trans (congrFun (hkg_j7 39 (by decide)) _)
          refine ec_aload_n hx hb dX5_destroyAll_39 rfl (lv_at hl 1 rfl) ?_
          refine cr_get (t := 6) (j := 6) (C := RX5) (T := TX5) (N := 13) (v := eV (ad 24) 0) hx hb htb inX5 hown hK hP hsx0_7 (by decide) (by decide) (by decide) rfl (by decide) (htb _ kw_127) (cV_c rfl (by decide) (by rw [show cMu 6 6 = 0 from rfl, Nat.zero_mul]; rfl)) dX5_destroyAll_40 ?_
          refine lv_iload_n hx hb dX5_destroyAll_43 rfl (lv_at hl 0 rfl) ?_
          refine cr_aald (t := 24) (C := RX1) (v := eV (ad 10) (gm_j7 51 (x1_7 : Int32).toNatClampNeg)) hx hb hK hP (iv_k (by decide) : iv 0 0 0) (by decide) (by decide) (by decide) (by decide) (by decide) rfl (show vp_in x1_7 (cLen 24) from (show vp_in x1_7 80 from (iv_in h_7 (by decide)))) rfl dX5_destroyAll_44 ?_
          refine W.eq (g2 := F0 m 45 ls [eV (ad 10) z_8, .int z_15, .int 7, eV (ad 5) 0]) (by rw [show (gm_j7 51 (x1_7 : Int32).toNatClampNeg) = z_8 from (Eq.trans (congrFun (hkg_j7 51 (by decide)) _) ez_8.symm)]) ?_
          refine cr_get (t := 10) (j := 12) (C := RX1) (T := TX1) (N := 19) (v := .int (gm_j7 33 z_8.toNatClampNeg)) hx hb htb inX1 hown hK hP h_9 (by decide) (by decide) (by decide) rfl (by decide) (htb _ kw_1141) rfl dX5_destroyAll_45 ?_
          refine W.eq (g2 := F0 m 48 ls [.int z_10, .int z_15, .int 7, eV (ad 5) 0]) (by rw [show (gm_j7 33 z_8.toNatClampNeg) = z_10 from (Eq.trans (congrFun (hkg_j7 33 (by decide)) _) ez_10.symm)]) ?_
          refine lv_iconst (v := 0) hx hb dX5_destroyAll_48 (by decide) ?_
          refine cm_callV (t := 5) (C := RX4) (T := TX4) (N := 2) (rest := []) (as := [.int 7, .int z_15, .int z_10, .int 0]) ⟨hx, hb, hml, hown, htb⟩ (d_addEv9 l dC dI ad cid a2 lx sg_j7 gm_j7 lg 0 7 z_15 z_10 0 wg S2 hI_j7 (iv_k (by decide) : iv 0 0 0) hR2) (cwV 4 htb (gd_V kw_1066 kw_1067 kw_1068 kw_36 kw_1581) rfl rfl rfl (by decide +kernel) ⟨Nat.le_of_ble_eq_true rfl, Nat.le_of_ble_eq_true rfl⟩) (iv_k (by decide) : iv 0 0 0) (by decide) (by decide) rfl rfl hl.1 rfl (Nat.le_trans cs_n (by decide)) dX5_destroyAll_49 ⟨Nat.le_of_ble_eq_true rfl, Nat.le_of_ble_eq_true rfl⟩ hK hP hD hS hA hG (fun E ce q9 u_18 H locs hw hP hD hS hce hcv hcl => ?_) (fun v9 u_18 H locs hw hP hD hS => ?_)
          · exact hw.elim
          obtain ⟨rfl, sgv_19, gmv_19, lgv_19, rfl, hIv_19, ksv_19, kgv_19, klv_19, fR_r_17⟩ := hw
          obtain rfl := KS_nil klv_19
          have hP : va_P (dC, dI) vwCl (cW ad cid a2 lx sgv_19 gmv_19 lg) H := hP
          have hD : va_D A (cW ad cid a2 lx sgv_19 gmv_19 lg) := hD
          refine W.eq (g2 := F0 m 52 ls []) rfl ?_
          exact hj52 sgv_19 gmv_19 h_7 hsx0_7 (KS_tr (L := [13]) (KS_tr (L := [13]) KS_rf hks_j7 (by decide)) ksv_19 (by decide)) (KS_tr (L := [48]) (KS_tr (L := [48]) KS_rf hkg_j7 (by decide)) kgv_19 (by decide)) hIv_19 (by have := i32_0; have := i32_1; have := i32_2; have := i32_m1; have := congrArg Int32.toInt (show sgv_19 15 = sg_j7 15 from ksv_19 15 (by decide)); have := congrArg Int32.toInt (show sg_j7 15 = sg 15 from hks_j7 15 (by decide)); have := (show iv 0 80 (sg 15) from CI_s hI 15).1; have := (show iv 0 80 (sg 15) from CI_s hI 15).2; have := congrArg Int32.toInt (show sg_j7 15 = sg 15 from hks_j7 15 (by decide)); have := (hsx0_7).1; have := (hsx0_7).2; have := (h_7).1; have := (h_7).2; have := (h_9).1; have := (h_9).2; have := (h_13).1; have := (h_13).2; have := (hz_15).1; have := (hz_15).2; omega) ((by obtain ⟨b9, hb9, hbz, hbw⟩ := (fin_9 hRC (k := x1_7.toNatClampNeg) (by have q1 : x1_7.toNatClampNeg = x1_7.toInt.toNat := rfl; have := hRC.2.2.2.1; have := i32_0; have := i32_1; have := i32_2; have := i32_m1; have := congrArg Int32.toInt (show sgv_19 15 = sg_j7 15 from ksv_19 15 (by decide)); have := congrArg Int32.toInt (show sg_j7 15 = sg 15 from hks_j7 15 (by decide)); have := (show iv 0 80 (sg 15) from CI_s hI 15).1; have := (show iv 0 80 (sg 15) from CI_s hI 15).2; have := congrArg Int32.toInt (show sg_j7 15 = sg 15 from hks_j7 15 (by decide)); have := (hsx0_7).1; have := (hsx0_7).2; have := (h_7).1; have := (h_7).2; have := (h_9).1; have := (h_9).2; have := (h_13).1; have := (h_13).2; have := (hz_15).1; have := (hz_15).2; have := h1l; omega)); have hbb : z_8.toNatClampNeg = b9 := (by have q1 := (congrArg Int32.toInt ez_8).trans hbz; have q2 : z_8.toNatClampNeg = z_8.toInt.toNat := rfl; omega); have hw33 : (wg 33 b9).toInt = z_10.toInt := (by rw [← hbb]; exact congrArg Int32.toInt (swt9 hSW ez_10 rfl)); have hs1 : (x1_7.toInt + 1).toNat = x1_7.toInt.toNat + 1 := (by have := i32_0; have := i32_1; have := i32_2; have := i32_m1; have := (hsx0_7).1; have := (hsx0_7).2; have := (h_7).1; have := (h_7).2; have := (h_9).1; have := (h_9).2; have := (h_13).1; have := (h_13).2; have := (hz_15).1; have := (hz_15).2; omega); exact ⟨_, fR_r_17, DSR_y (by rw [← hs1]; exact hD2) hb9 (by decide) (by rw [← hbw, ← hbb]; exact (congrArg Int32.toInt ez_15).symm) hw33 (by have := i32_0; have := i32_1; have := i32_2; have := i32_m1; have := (hsx0_7).1; have := (hsx0_7).2; have := (h_7).1; have := (h_7).2; have := (h_9).1; have := (h_9).2; have := (h_13).1; have := (h_13).2; have := (hz_15).1; have := (hz_15).2; omega) (by decide)⟩)) _ _ _ hP hD hS (lv_sub hl [0, 1] rfl)
  refine ec_aload_n hx hb dX5_destroyAll_0 rfl (lv_at hl 0 rfl) ?_
  refine cr_get (t := 6) (j := 7) (C := RX5) (T := TX5) (N := 13) (v := .int (sg 15)) hx hb htb inX5 hown hK hP hvx (by decide) (by decide) (by decide) rfl (by decide) (htb _ kw_321) rfl dX5_destroyAll_1 ?_
  refine lv_iconst (v := 1) hx hb dX5_destroyAll_4 (by decide) ?_
  refine lv_isub hx hb dX5_destroyAll_5 ?_
  refine lv_topi (fun z_20 ez_20 => ?_)
  have hz_20 : iv (-1) 79 z_20 := iv_of ez_20 (iv_sub (show iv 0 80 (sg 15) from CI_s hI 15) (iv_k (by decide) : iv 1 1 1) (by decide))
  have tz_20 : z_20.toInt = ((sg 15) : Int32).toInt - 1 := by rw [ez_20]; exact iv_subE (show iv 0 80 (sg 15) from CI_s hI 15) (iv_k (by decide) : iv 1 1 1) (by decide)
  refine lv_istore_n (i := 1) (lv' := [(1, .int z_20), (0, eV (ad 6) x)]) hx hb dX5_destroyAll_6 rfl hl (by decide) (by simp [List.filter, eV_cat, cat_i, cat_l]) (fun ls hl => ?_)
  exact hj7 _ sg gm z_20 rfl hz_20 hvx KS_rf KS_rf hI (by have := i32_0; have := i32_1; have := i32_2; have := i32_m1; have := (show iv 0 80 (sg 15) from CI_s hI 15).1; have := (show iv 0 80 (sg 15) from CI_s hI 15).2; have := (hvx).1; have := (hvx).2; have := ((show iv 0 80 (sg 15) from CI_s hI 15)).1; have := ((show iv 0 80 (sg 15) from CI_s hI 15)).2; have := (hz_20).1; have := (hz_20).2; omega) (⟨S, hRC, DSR_0 (by have := hRC.2.2.2.1; have := i32_0; have := i32_1; have := i32_2; have := i32_m1; have := (show iv 0 80 (sg 15) from CI_s hI 15).1; have := (show iv 0 80 (sg 15) from CI_s hI 15).2; have := (hvx).1; have := (hvx).2; have := ((show iv 0 80 (sg 15) from CI_s hI 15)).1; have := ((show iv 0 80 (sg 15) from CI_s hI 15)).2; have := (hz_20).1; have := (hz_20).2; omega)⟩) _ _ _ hP hD hS (lv_sub hl [0, 1] rfl)
end
section
section RF9
variable {ws : Nat → Int32} {wg : Nat → Nat → Int32} {wl : Nat → Nat → Int64} {n N i : Nat} {R : Option Int × S9} {S S2 : S9}
theorem rfL_n (hR : R = rfL ws wg wl n (N - i) i S) (hi : i < N) (hc : ¬ (¬ wl 4 i = 0 ∧ wg 34 i = 0 ∧ wg 35 i = 0 ∧ wg 36 i = 0)) : R = rfL ws wg wl n (N - (i + 1)) (i + 1) S := by
  rw [show N - i = (N - (i + 1)) + 1 by omega] at hR
  rw [hR]
  show (if _ then _ else _) = _
  rw [if_neg hc]
theorem rfL_y {o : Int} (hR : R = rfL ws wg wl n (N - i) i S) (hi : i < N) (hc : ¬ wl 4 i = 0 ∧ wg 34 i = 0 ∧ wg 35 i = 0 ∧ wg 36 i = 0) (hg : oGet wg (oMK ws wg wl n) (i : Int) S = (some o, S2)) : R = rfL ws wg wl n (N - (i + 1)) (i + 1) S2 := by
  rw [show N - i = (N - (i + 1)) + 1 by omega] at hR
  rw [hR]
  show (if _ then _ else _) = _
  rw [if_pos hc, hg]; rfl
theorem rfL_x (hR : R = rfL ws wg wl n (N - i) i S) (hi : i < N) (hc : ¬ wl 4 i = 0 ∧ wg 34 i = 0 ∧ wg 35 i = 0 ∧ wg 36 i = 0) (hg : oGet wg (oMK ws wg wl n) (i : Int) S = (none, S2)) : R = (none, S2) := by
  rw [show N - i = (N - (i + 1)) + 1 by omega] at hR
  rw [hR]
  show (if _ then _ else _) = _
  rw [if_pos hc, hg]; rfl
theorem rfL_e (hR : R = rfL ws wg wl n (N - i) i S) (hi : N ≤ i) : R = (some 0, S) := by
  rw [show N - i = 0 by omega] at hR; exact hR
theorem zRf_s (h : rfL ws wg wl n (ws 12).toNatClampNeg 0 (zCe (zFo S)) = (some 0, S2)) : zRf ws wg wl n S = (some ((zO S2).length : Int), S2) := by unfold zRf; rw [h]
theorem zRf_x (h : rfL ws wg wl n (ws 12).toNatClampNeg 0 (zCe (zFo S)) = (none, S2)) : zRf ws wg wl n S = (none, zCl wg (zSt S2)) := by unfold zRf; rw [h]
theorem zGt_s {v : Int64} {o : Int} (h : oGet wg (oMK ws wg wl n) (caN ws wg wl v) S = (some o, S2)) : zGt ws wg wl n v S = (some o, S2) := by unfold zGt; rw [h]; rfl
theorem zGt_x {v : Int64} (h : oGet wg (oMK ws wg wl n) (caN ws wg wl v) S = (none, S2)) : zGt ws wg wl n v S = (none, zSt S2) := by unfold zGt; rw [h]; rfl
end RF9
end
section
set_option maxHeartbeats 4000000 in
set_option maxRecDepth 100000 in
theorem d_objectCalled9 (l : Launch) (dC : Nat → ClassId) (dI : Nat → Nat → Nat) (ad : Nat → Nat → Nat) (cid : Nat → ClassId) (a2 : Nat → Nat) (lx : List Nat) (sg : Nat → Int32) (gm : Nat → Nat → Int32) (lg : Nat → Nat → Int64) (hl9 : l.stackTraces = false) (x : Int32) (nm : Int64) (wg : Nat → Nat → Int32) (ws : Nat → Int32) (S : S9) (hI : CI sg gm) (hvx : iv 0 0 x) (hW : WRD sg gm lg) (hLD : LDI lx gm) (hMO : MOK sg gm lg) (hFN : FND9 sg gm) (hSW : st9 gm = wg) (hSS : ss9 sg = ws) (hSV : SV ws wg lg) (hRC : RC wg lg S sg gm) : CMg dC dI ad cid l yX5_objectCalled wm_X5_objectCalled ({ frames := 343, cells := 30482, slots := 121932, locals := 11064 }) [eV (ad 6) x, .long nm] a2 lx sg gm lg 1 30482 121932 (fun v u => ∃ r : Int32, v = some (.int r) ∧ ∃ (sg2 : Nat → Int32) (gm2 : Nat → Nat → Int32) (lg2 : Nat → Nat → Int64), u = (a2, lx, sg2, gm2, lg2) ∧ CI sg2 gm2 ∧ KS [13, 14, 15, 16, 17, 18] sg sg2 ∧ KS [37, 38, 39, 48, 49, 50, 51, 52, 53] gm gm2 ∧ KS [] lg lg2 ∧ (iv (-1) 59 r) ∧ (MOK sg2 gm2 lg2) ∧ (FND9 sg2 gm2) ∧ ((∃ S2, zGt ws wg lg 40 nm S = (some r.toInt, S2) ∧ RC wg lg S2 sg2 gm2 ∧ 0 ≤ r.toInt) ∨ (r.toInt = -1 ∧ ∃ S2, zGt ws wg lg 40 nm S = (none, S2) ∧ RC wg lg S2 sg2 gm2))) (fun _ _ => False) := by
  intro sz
  refine vx_ofWH (cc := cX5_objectCalled) (maxL := 4) (ret := (some .int)) (by decide) rfl ?_
  intro p e s m args below meth c s₁ B hml hv
  obtain ⟨rfl, hsz, hP, hK, hD0, hG⟩ := hv
  have hx := B.exec
  have hb := B.bytes
  have hr := B.returns
  have hts := atoms_spec (ws := wm_X5_objectCalled) B.pre
  have htb := fun (w : Cond) (h : w ∈ tb) => hts w (List.mem_cons_of_mem _ h)
  have hown : s.vm.findClass RX5 = some m.cls := findClass_of_methodNamed B.named
  have hlocks := B.notSynchronized
  have hxt := vx_table (x := yX5_objectCalled) B (hts _ List.mem_cons_self)
  subst hsz
  have hD := hD0.self (sz := s.heap.size)
  generalize hAe : va_A (cW ad cid a2 lx sg gm lg) s.heap.size = A at hD hG ⊢
  have hA : ∀ q : Nat, s.heap.size ≤ q → A q := fun q h => by rw [← hAe]; exact Or.inr h
  have hS : va_S A s.heap s.heap [] := va_S.rf
  have hl := lv_entry ([eV (ad 6) x, .long nm]) (n := 4) (by rw [show (lg_sl ([eV (ad 6) x, .long nm])).length = 3 from by simp [lg_sl, eV_cat, cat_i, cat_l]]; exact Nat.le_of_ble_eq_true rfl)
  rw [lg_entry_eq]
  generalize (lg_sl ([eV (ad 6) x, .long nm]) ++ List.replicate (4 - (lg_sl ([eV (ad 6) x, .long nm])).length) Slot.unset).toArray = ls at hl ⊢
  have hl : lv_has ls 4 [(0, eV (ad 6) x), (1, .long nm)] := by simp [lv_args, eV_cat, cat_i, cat_l] at hl; exact hl
  refine W.widen (k := gc gm gm 0) (n := gs gm gm 0) (Nat.zero_le _) (Nat.zero_le _) ?_
  refine ec_aload_n hx hb dX5_objectCalled_0 rfl (lv_at hl 0 rfl) ?_
  refine lv_lload_n hx hb dX5_objectCalled_1 rfl (lv_at hl 1 rfl) ?_
  refine lv_iconst (v := 0) hx hb dX5_objectCalled_2 (by decide) ?_
  refine cm_callTV (t := 6) (C := RX5) (T := TX5) (N := 13) (rest := []) (as := [.long nm, .int 0]) ⟨hx, hb, hml, hown, htb⟩ ((d_rec9 l dC dI ad cid a2 lx hl9 40).2 sg gm lg x nm 0 wg ws S hI hvx (iv_w (iv_k (by decide) : iv 0 0 0) (by decide)) hW hLD hMO hFN (by decide) hSW hSS hSV hRC) (cwV 2 htb (gd_V kw_1003 kw_1004 kw_1005 kw_40 kw_1567) rfl rfl rfl (by decide +kernel) ⟨Nat.le_of_ble_eq_true rfl, Nat.le_of_ble_eq_true rfl⟩) hvx (by decide) (by decide) rfl rfl hl.1 rfl (Nat.le_trans cs_n (by decide)) dX5_objectCalled_3 ⟨Nat.le_trans (gc_le hI) (Nat.le_of_ble_eq_true rfl), Nat.le_trans (gs_le hI) (Nat.le_of_ble_eq_true rfl)⟩ hK hP hD hS hA hG (fun E ce q9 u_2 H locs hw hP hD hS hce hcv hcl => ?_) (fun v9 u_2 H locs hw hP hD hS => ?_)
  · obtain ⟨hE, hw⟩ := hw
    obtain ⟨sgv_3, gmv_3, lgv_3, rfl, hIv_3, ksv_3, kgv_3, klv_3, xMO_v_3, xFN_v_3, xG_v_3⟩ := hw
    obtain rfl := KS_nil klv_3
    have hP : va_P (dC, dI) vwCl (cW ad cid a2 lx sgv_3 gmv_3 lg) H := hP
    have hD : va_D A (cW ad cid a2 lx sgv_3 gmv_3 lg) := hD
    refine vx_widen (k := gc gm gm 1) (n := gs gm gm 1) (by unfold gc; omega) (by unfold gs; omega) ?_
    obtain ⟨Sx, hEx, hRx⟩ := xG_v_3
    subst hE
    refine mc_catch (own := RX5) (name := "java/lang/UnsupportedOperationException") hown ⟨0, 6, 7, 103⟩ [] hxt (by decide) (by decide) (htb _ kw_998) (va_Nw.use rfl hG.2.1.1) hce hcv hcl ?_
    refine lv_astore_n (i := 3) (lv' := [(3, .ref q9), (0, eV (ad 6) x), (1, .long nm)]) hx hb dX5_objectCalled_7 rfl hl (by decide) rfl (fun ls hl => ?_)
    refine ec_aload_n hx hb dX5_objectCalled_8 rfl (lv_at hl 1 rfl) ?_
    refine cm_callTV (t := 6) (C := RX5) (T := TX5) (N := 13) (rest := []) (as := []) ⟨hx, hb, hml, hown, htb⟩ (d_stopMaking9 l dC dI ad cid a2 lx sgv_3 gmv_3 lg x hIv_3 hvx) (cwV 0 htb (gd_V kw_1135 kw_1136 kw_1137 kw_40 kw_1596) rfl rfl rfl (by decide +kernel) ⟨Nat.le_of_ble_eq_true rfl, Nat.le_of_ble_eq_true rfl⟩) hvx (by decide) (by decide) rfl rfl hl.1 rfl (Nat.le_trans cs_n (by decide)) dX5_objectCalled_9 ⟨Nat.le_trans (gc_le hI) (Nat.le_of_ble_eq_true rfl), Nat.le_trans (gs_le hI) (Nat.le_of_ble_eq_true rfl)⟩ hK hP hD hS hA hG (fun E ce q9 u_5 H locs hw hP hD hS hce hcv hcl => ?_) (fun v9 u_5 H locs hw hP hD hS => ?_)
    · exact hw.elim
    obtain ⟨rfl, sgv_6, gmv_6, lgv_6, rfl, hIv_6, ksv_6, kgv_6, klv_6, fM_r_4⟩ := hw
    obtain rfl := KS_nil klv_6
    have hP : va_P (dC, dI) vwCl (cW ad cid a2 lx sgv_6 gmv_6 lg) H := hP
    have hD : va_D A (cW ad cid a2 lx sgv_6 gmv_6 lg) := hD
    refine W.eq (g2 := F0 m 12 ls []) rfl ?_
    have hRs : RC wg lg (zSt Sx) sgv_6 gmv_6 := RC_stp hRx (KS_tr (L := [16]) KS_rf ksv_6 (by decide)) (KS_tr (L := [37]) KS_rf kgv_6 (by decide)) (fun c9 q9 => fM_r_4 c9 q9)
    refine lv_iconst (v := (-1)) hx hb dX5_objectCalled_12 (by decide) ?_
    refine W.widen (k := gc gm gmv_6 1) (n := gs gm gmv_6 1) (gc_e (show gmv_6 42 = gm 42 from (Eq.trans (kgv_6 42 (by decide)) (kgv_3 42 (by decide)))) (by decide)) (gs_e (show gmv_6 42 = gm 42 from (Eq.trans (kgv_6 42 (by decide)) (kgv_3 42 (by decide)))) (by decide)) ?_
    have hm_7 : PHs gm ≤ PHs gmv_6 := by rw [PHs_e (show gmv_6 42 = gm 42 from (Eq.trans (kgv_6 42 (by decide)) (kgv_3 42 (by decide))))]; exact (Nat.le_refl _)
    exact W.nb (fun hN => W.widen (k := 30482) (n := 121932) (Nat.le_trans (gc_l0 (gm := gm) (k := 1) hIv_6) (Nat.le_of_ble_eq_true rfl)) (Nat.le_trans (gs_l0 (gm := gm) (k := 1) hIv_6) (Nat.le_of_ble_eq_true rfl)) (vx_ret (W.iret (v := (-1)) hx hb hr (fun t ht hW => ⟨⟨some (.int (-1)), (a2, lx, sgv_6, gmv_6, lg), rfl, ⟨(-1), rfl, sgv_6, gmv_6, lg, rfl, hIv_6, (KS_tr (L := [13, 14, 15, 16, 17, 18]) (KS_tr (L := [13, 14, 15, 16, 17, 18]) KS_rf ksv_3 (by decide)) ksv_6 (by decide)), (KS_tr (L := [37, 38, 39, 48, 49, 50, 51, 52, 53]) (KS_tr (L := [37, 38, 39, 48, 49, 50, 51, 52, 53]) KS_rf kgv_3 (by decide)) kgv_6 (by decide)), KS_rf, (iv_w (iv_k (by decide) : iv (-1) (-1) (-1)) (by decide)), ((MOK_e xMO_v_3 (show sgv_6 12 = sgv_3 12 from (ksv_6 12 (by decide))) (show gmv_6 35 = gmv_3 35 from (kgv_6 35 (by decide))) (show gmv_6 38 = gmv_3 38 from (kgv_6 38 (by decide))) (show gmv_6 39 = gmv_3 39 from (kgv_6 39 (by decide))) rfl)), ((FND9_e xFN_v_3 (show sgv_6 15 = sgv_3 15 from (ksv_6 15 (by decide))) (show gmv_6 51 = gmv_3 51 from (kgv_6 51 (by decide))))), (Or.inr ⟨rfl, _, zGt_x hEx, hRs⟩)⟩, ⟨by rw [ht]; exact hP, va_K.moved hW.alike hK, hD⟩, hm_7, by rw [ht]; exact hN⟩, hS.F ht⟩) hS.2.2 dX5_objectCalled_13)))
  obtain ⟨r_1, rfl, sgv_8, gmv_8, lgv_8, rfl, hIv_8, ksv_8, kgv_8, klv_8, hr_1, fMO_r_1, fFN_r_1, fBM_r_1, fWF_r_1, f14_r_1, fr_r_1, fG_r_1⟩ := hw
  obtain rfl := KS_nil klv_8
  have hP : va_P (dC, dI) vwCl (cW ad cid a2 lx sgv_8 gmv_8 lg) H := hP
  have hD : va_D A (cW ad cid a2 lx sgv_8 gmv_8 lg) := hD
  refine W.eq (g2 := F0 m 6 ls [.int r_1]) rfl ?_
  obtain ⟨S_r_1, hE_r_1, hR_r_1⟩ := fG_r_1
  refine W.widen (k := gc gm gmv_8 1) (n := gs gm gmv_8 1) (gc_e (show gmv_8 42 = gm 42 from (kgv_8 42 (by decide))) (by decide)) (gs_e (show gmv_8 42 = gm 42 from (kgv_8 42 (by decide))) (by decide)) ?_
  have hm_9 : PHs gm ≤ PHs gmv_8 := by rw [PHs_e (show gmv_8 42 = gm 42 from (kgv_8 42 (by decide)))]; exact (Nat.le_refl _)
  exact W.nb (fun hN => W.widen (k := 30482) (n := 121932) (Nat.le_trans (gc_l0 (gm := gm) (k := 1) hIv_8) (Nat.le_of_ble_eq_true rfl)) (Nat.le_trans (gs_l0 (gm := gm) (k := 1) hIv_8) (Nat.le_of_ble_eq_true rfl)) (vx_ret (W.iret (v := r_1) hx hb hr (fun t ht hW => ⟨⟨some (.int r_1), (a2, lx, sgv_8, gmv_8, lg), rfl, ⟨r_1, rfl, sgv_8, gmv_8, lg, rfl, hIv_8, (KS_tr (L := [13, 14, 15, 16, 17, 18]) KS_rf ksv_8 (by decide)), (KS_tr (L := [37, 38, 39, 48, 49, 50, 51, 52, 53]) KS_rf kgv_8 (by decide)), KS_rf, (iv_w hr_1 (by decide)), (fMO_r_1), (fFN_r_1), (Or.inl ⟨S_r_1, zGt_s hE_r_1, hR_r_1, (hr_1).1⟩)⟩, ⟨by rw [ht]; exact hP, va_K.moved hW.alike hK, hD⟩, hm_9, by rw [ht]; exact hN⟩, hS.F ht⟩) hS.2.2 dX5_objectCalled_6)))

set_option maxHeartbeats 4000000 in
set_option maxRecDepth 100000 in
theorem d_renewsAll9 (l : Launch) (dC : Nat → ClassId) (dI : Nat → Nat → Nat) (ad : Nat → Nat → Nat) (cid : Nat → ClassId) (a2 : Nat → Nat) (lx : List Nat) (sg : Nat → Int32) (gm : Nat → Nat → Int32) (lg : Nat → Nat → Int64) (hl9 : l.stackTraces = false) (x : Int32) (wg : Nat → Nat → Int32) (ws : Nat → Int32) (S : S9) (hI : CI sg gm) (hvx : iv 0 0 x) (hW : WRD sg gm lg) (hLD : LDI lx gm) (hSW : st9 gm = wg) (hSS : ss9 sg = ws) (hSV : SV ws wg lg) (hRC : RC wg lg S sg gm) : CMg dC dI ad cid l yX5_renewsAll wm_X5_renewsAll ({ frames := 343, cells := 30482, slots := 121932, locals := 11064 }) [eV (ad 6) x] a2 lx sg gm lg 1 30482 121932 (fun v u => ∃ r : Int32, v = some (.int r) ∧ ∃ (sg2 : Nat → Int32) (gm2 : Nat → Nat → Int32) (lg2 : Nat → Nat → Int64), u = (a2, lx, sg2, gm2, lg2) ∧ CI sg2 gm2 ∧ KS [13, 14, 15, 16, 17, 18] sg sg2 ∧ KS [37, 38, 39, 48, 49, 50, 51, 52, 53] gm gm2 ∧ KS [] lg lg2 ∧ (iv 0 1 r) ∧ (MOK sg2 gm2 lg2) ∧ (FND9 sg2 gm2) ∧ ((r.toInt = 1 ∧ ∃ S2, zRf ws wg lg 40 S = (some (sg2 14).toInt, S2) ∧ RC wg lg S2 sg2 gm2) ∨ (r.toInt = 0 ∧ ∃ S2, zRf ws wg lg 40 S = (none, S2) ∧ RC wg lg S2 sg2 gm2))) (fun _ _ => False) := by
  intro sz
  refine vx_ofWH (cc := cX5_renewsAll) (maxL := 3) (ret := (some .boolean)) (by decide) rfl ?_
  intro p e s m args below meth c s₁ B hml hv
  obtain ⟨rfl, hsz, hP, hK, hD0, hG⟩ := hv
  have hx := B.exec
  have hb := B.bytes
  have hr := B.returns
  have hts := atoms_spec (ws := wm_X5_renewsAll) B.pre
  have htb := fun (w : Cond) (h : w ∈ tb) => hts w (List.mem_cons_of_mem _ h)
  have hown : s.vm.findClass RX5 = some m.cls := findClass_of_methodNamed B.named
  have hlocks := B.notSynchronized
  have hxt := vx_table (x := yX5_renewsAll) B (hts _ List.mem_cons_self)
  subst hsz
  have hD := hD0.self (sz := s.heap.size)
  generalize hAe : va_A (cW ad cid a2 lx sg gm lg) s.heap.size = A at hD hG ⊢
  have hA : ∀ q : Nat, s.heap.size ≤ q → A q := fun q h => by rw [← hAe]; exact Or.inr h
  have hS : va_S A s.heap s.heap [] := va_S.rf
  have hl := lv_entry ([eV (ad 6) x]) (n := 3) (by rw [show (lg_sl ([eV (ad 6) x])).length = 1 from by simp [lg_sl, eV_cat, cat_i, cat_l]]; exact Nat.le_of_ble_eq_true rfl)
  rw [lg_entry_eq]
  generalize (lg_sl ([eV (ad 6) x]) ++ List.replicate (3 - (lg_sl ([eV (ad 6) x])).length) Slot.unset).toArray = ls at hl ⊢
  have hl : lv_has ls 3 [(0, eV (ad 6) x)] := by simp [lv_args, eV_cat, cat_i, cat_l] at hl; exact hl
  refine W.widen (k := gc gm gm 0) (n := gs gm gm 0) (Nat.zero_le _) (Nat.zero_le _) ?_
  have hj13 : ∀ (n : Nat) (sg_j13 : Nat → Int32) (gm_j13 : Nat → Nat → Int32) (x1_13 : Int32) (_ : (80 - x1_13.toInt).toNat = n) (_ : iv 0 80 x1_13) (_ : iv 0 0 x) (_ : KS [13, 14, 15, 16, 17, 18] sg sg_j13) (_ : KS [37, 38, 39, 48, 49, 50, 51, 52, 53] gm gm_j13) (_ : CI sg_j13 gm_j13) (_ : MOK sg_j13 gm_j13 lg) (_ : FND9 sg_j13 gm_j13) (_ : ∃ S2, RC wg lg S2 sg_j13 gm_j13 ∧ rfL ws wg lg 40 (ws 12).toNatClampNeg 0 (zCe (zFo S)) = rfL ws wg lg 40 ((ws 12).toNatClampNeg - x1_13.toNatClampNeg) x1_13.toNatClampNeg S2) (_ : PHs gm ≤ PHs gm_j13) (H : Heap) (locs : List Loc) (ls : Array Slot), va_P (dC, dI) vwCl (cW ad cid a2 lx sg_j13 gm_j13 lg) H → va_D A (cW ad cid a2 lx sg_j13 gm_j13 lg) → va_S A s.heap H locs → lv_has ls 3 [(1, .int x1_13), (0, eV (ad 6) x)] → W p l e (headSpec wm_X5_renewsAll ({ frames := 343, cells := 30482, slots := 121932, locals := 11064 })).room s m ([eV (ad 6) x] : List Value).toArray below meth c H locs (gc gm gm_j13 0) (gs gm gm_j13 0) (vx_MQ below (cQg dC dI ad cid (fun v u => ∃ r : Int32, v = some (.int r) ∧ ∃ (sg2 : Nat → Int32) (gm2 : Nat → Nat → Int32) (lg2 : Nat → Nat → Int64), u = (a2, lx, sg2, gm2, lg2) ∧ CI sg2 gm2 ∧ KS [13, 14, 15, 16, 17, 18] sg sg2 ∧ KS [37, 38, 39, 48, 49, 50, 51, 52, 53] gm gm2 ∧ KS [] lg lg2 ∧ (iv 0 1 r) ∧ (MOK sg2 gm2 lg2) ∧ (FND9 sg2 gm2) ∧ ((r.toInt = 1 ∧ ∃ S2, zRf ws wg lg 40 S = (some (sg2 14).toInt, S2) ∧ RC wg lg S2 sg2 gm2) ∨ (r.toInt = 0 ∧ ∃ S2, zRf ws wg lg 40 S = (none, S2) ∧ RC wg lg S2 sg2 gm2))) 1 gm A) (cXg dC dI ad cid (fun _ _ => False) 1 gm A) ([eV (ad 6) x] : List Value).toArray s 30482 121932 A) (F0 m 13 ls []) := by
    intro n
    induction n using Nat.strongRecOn with
    | ind n ih13 =>
      intro sg_j13 gm_j13 x1_13 hn13 hx1_13 hsx0_13 hks_j13 hkg_j13 hI_j13 hMOj hFNj hX13 hm_j13 H locs ls hP hD hS hl
      have hj73 : ∀ (sg_j73 : Nat → Int32) (gm_j73 : Nat → Nat → Int32) (x2_73 : Int32) (_ : iv 0 79 x2_73) (_ : iv 0 79 x1_13) (_ : iv 0 0 x) (_ : KS [13, 14, 15, 16, 17, 18] sg sg_j73) (_ : KS [37, 38, 39, 48, 49, 50, 51, 52, 53] gm gm_j73) (_ : CI sg_j73 gm_j73) (_ : MOK sg_j73 gm_j73 lg) (_ : FND9 sg_j73 gm_j73) (_ : ∃ S2, RC wg lg S2 sg_j73 gm_j73 ∧ rfL ws wg lg 40 (ws 12).toNatClampNeg 0 (zCe (zFo S)) = rfL ws wg lg 40 ((ws 12).toNatClampNeg - (x1_13.toNatClampNeg + 1)) (x1_13.toNatClampNeg + 1) S2) (_ : PHs gm ≤ PHs gm_j73) (H : Heap) (locs : List Loc) (ls : Array Slot), va_P (dC, dI) vwCl (cW ad cid a2 lx sg_j73 gm_j73 lg) H → va_D A (cW ad cid a2 lx sg_j73 gm_j73 lg) → va_S A s.heap H locs → lv_has ls 3 [(2, eV (ad 10) x2_73), (1, .int x1_13), (0, eV (ad 6) x)] → W p l e (headSpec wm_X5_renewsAll ({ frames := 343, cells := 30482, slots := 121932, locals := 11064 })).room s m ([eV (ad 6) x] : List Value).toArray below meth c H locs (gc gm gm_j73 0) (gs gm gm_j73 0) (vx_MQ below (cQg dC dI ad cid (fun v u => ∃ r : Int32, v = some (.int r) ∧ ∃ (sg2 : Nat → Int32) (gm2 : Nat → Nat → Int32) (lg2 : Nat → Nat → Int64), u = (a2, lx, sg2, gm2, lg2) ∧ CI sg2 gm2 ∧ KS [13, 14, 15, 16, 17, 18] sg sg2 ∧ KS [37, 38, 39, 48, 49, 50, 51, 52, 53] gm gm2 ∧ KS [] lg lg2 ∧ (iv 0 1 r) ∧ (MOK sg2 gm2 lg2) ∧ (FND9 sg2 gm2) ∧ ((r.toInt = 1 ∧ ∃ S2, zRf ws wg lg 40 S = (some (sg2 14).toInt, S2) ∧ RC wg lg S2 sg2 gm2) ∨ (r.toInt = 0 ∧ ∃ S2, zRf ws wg lg 40 S = (none, S2) ∧ RC wg lg S2 sg2 gm2))) 1 gm A) (cXg dC dI ad cid (fun _ _ => False) 1 gm A) ([eV (ad 6) x] : List Value).toArray s 30482 121932 A) (F0 m 73 ls []) := by
        intro sg_j73 gm_j73 x2_73 hx2_73 hsx1_73 hsx0_73 hks_j73 hkg_j73 hI_j73 hMOk hFNk hX73 hm_j73 H locs ls hP hD hS hl
        obtain ⟨z_1, ez_1⟩ : ∃ z : Int32, z = x1_13 + 1 := ⟨_, rfl⟩
        have hz_1 : iv 1 80 z_1 := iv_of ez_1 (iv_add hsx1_73 (iv_k (by decide) : iv 1 1 1) (by decide))
        have tz_1 : z_1.toInt = x1_13.toInt + 1 := by rw [ez_1]; exact iv_addE hsx1_73 (iv_k (by decide) : iv 1 1 1) (by decide)
        refine lv_iinc (v := z_1) (lv' := [(1, .int z_1), (2, eV (ad 10) x2_73), (0, eV (ad 6) x)]) hx hb dX5_renewsAll_73 hl (k := 1) rfl ez_1.symm (by decide) (by simp [List.filter, eV_cat, cat_i, cat_l]) (fun ls hl => ?_)
        refine lv_goto (tgt := 13) hx hb dX5_renewsAll_76 (by decide) ?_
        exact ih13 _ (by rw [← hn13]; exact (iv_meas tz_1 hsx1_73 (by decide))) sg_j73 gm_j73 z_1 rfl (iv_w hz_1 (by decide)) hsx0_73 (KS_tr (L := [13, 14, 15, 16, 17, 18]) KS_rf hks_j73 (by decide)) (KS_tr (L := [37, 38, 39, 48, 49, 50, 51, 52, 53]) KS_rf hkg_j73 (by decide)) hI_j73 (hMOk) (hFNk) ((by rw [show z_1.toNatClampNeg = x1_13.toNatClampNeg + 1 from (by have q1 : z_1.toNatClampNeg = z_1.toInt.toNat := rfl; have q1 : x1_13.toNatClampNeg = x1_13.toInt.toNat := rfl; have := i32_0; have := i32_1; have := i32_2; have := i32_m1; have := (hsx0_73).1; have := (hsx0_73).2; have := (hsx1_73).1; have := (hsx1_73).2; have := (hx2_73).1; have := (hx2_73).2; have := (hz_1).1; have := (hz_1).2; omega)]; exact hX73)) hm_j73 _ _ _ hP hD hS (lv_sub hl [0, 2] rfl)
      obtain ⟨Sj, hRj, hIj⟩ := hX13
      refine lv_iload_n hx hb dX5_renewsAll_13 rfl (lv_at hl 0 rfl) ?_
      refine ec_aload_n hx hb dX5_renewsAll_14 rfl (lv_at hl 1 rfl) ?_
      refine cr_get (t := 6) (j := 0) (C := RX5) (T := TX5) (N := 13) (v := eV (ad 4) 0) hx hb htb inX5 hown hK hP hsx0_13 (by decide) (by decide) (by decide) rfl (by decide) (htb _ kw_121) (cV_c rfl (by decide) (by rw [show cMu 6 0 = 0 from rfl, Nat.zero_mul]; rfl)) dX5_renewsAll_15 ?_
      refine cm_callTV (t := 4) (C := RX10) (T := TX10) (N := 4) (rest := [.int x1_13]) (as := []) ⟨hx, hb, hml, hown, htb⟩ (d_countWi l dC dI ad cid a2 lx sg_j13 gm_j13 lg 0 hI_j13 (iv_k (by decide) : iv 0 0 0)) (cwV 0 htb (gd_V kw_322 kw_323 kw_324 kw_32 kw_1413) rfl rfl rfl (by decide +kernel) ⟨Nat.le_of_ble_eq_true rfl, Nat.le_of_ble_eq_true rfl⟩) (iv_k (by decide) : iv 0 0 0) (by decide) (by decide) rfl rfl hl.1 rfl (Nat.le_trans (cs_c (cat_i _) cs_n) (by decide)) dX5_renewsAll_18 ⟨Nat.le_trans (gc_le hI_j13) (Nat.le_of_ble_eq_true rfl), Nat.le_trans (gs_le hI_j13) (Nat.le_of_ble_eq_true rfl)⟩ hK hP hD hS hA hG (fun E ce q9 u_3 H locs hw hP hD hS hce hcv hcl => ?_) (fun v9 u_3 H locs hw hP hD hS => ?_)
      · exact hw.elim
      obtain ⟨r_2, rfl, rfl, hr_2, fr_r_2⟩ := hw
      have hP : va_P (dC, dI) vwCl (cW ad cid a2 lx sg_j13 gm_j13 lg) H := hP
      have hD : va_D A (cW ad cid a2 lx sg_j13 gm_j13 lg) := hD
      refine W.eq (g2 := F0 m 21 ls [.int r_2, .int x1_13]) rfl ?_
      refine lv_icmp_ge (tgt := 79) hx hb dX5_renewsAll_21 (by decide) (fun c_5 => ?_) (fun c_5 => ?_)
      · have d_6 : (r_2 : Int32).toInt ≤ (x1_13 : Int32).toInt := Int32.le_iff_toInt_le.mp c_5
        refine lv_goto (tgt := 93) hx hb dX5_renewsAll_79 (by decide) ?_
        refine lv_iconst (v := 1) hx hb dX5_renewsAll_93 (by decide) ?_
        refine W.widen (k := gc gm gm_j13 1) (n := gs gm gm_j13 1) (gc_e rfl (by decide)) (gs_e rfl (by decide)) ?_
        exact W.nb (fun hN => W.widen (k := 30482) (n := 121932) (Nat.le_trans (gc_l0 (gm := gm) (k := 1) hI_j13) (Nat.le_of_ble_eq_true rfl)) (Nat.le_trans (gs_l0 (gm := gm) (k := 1) hI_j13) (Nat.le_of_ble_eq_true rfl)) (vx_ret (W.zret (v := 1) hx hb hr (iv_nb (iv_w (iv_k (by decide) : iv 1 1 1) (by decide))) (fun t ht hW => ⟨⟨some (.int 1), (a2, lx, sg_j13, gm_j13, lg), rfl, ⟨1, rfl, sg_j13, gm_j13, lg, rfl, hI_j13, (KS_tr (L := [13, 14, 15, 16, 17, 18]) KS_rf hks_j13 (by decide)), (KS_tr (L := [37, 38, 39, 48, 49, 50, 51, 52, 53]) KS_rf hkg_j13 (by decide)), KS_rf, (iv_w (iv_k (by decide) : iv 1 1 1) (by decide)), (hMOj), (hFNj), (Or.inl ⟨rfl, Sj, (by have q9 := zRf_s (rfL_e hIj (by have q1 := congrArg Int32.toInt (ss9_12 hSS); have q2 := congrArg Int32.toInt fr_r_2; have q3 : (ws 12).toNatClampNeg = (ws 12).toInt.toNat := rfl; have q4 : x1_13.toNatClampNeg = x1_13.toInt.toNat := rfl; have := i32_0; have := i32_1; have := i32_2; have := i32_m1; have := congrArg Int32.toInt (show sg_j13 12 = sg 12 from hks_j13 12 (by decide)); have := (show iv 0 80 (sg 12) from CI_s hI 12).1; have := (show iv 0 80 (sg 12) from CI_s hI 12).2; have := (hsx0_13).1; have := (hsx0_13).2; have := (hx1_13).1; have := (hx1_13).2; have := (hr_2).1; have := (hr_2).2; omega)); rw [← hRj.1.1] at q9; exact q9), hRj⟩)⟩, ⟨by rw [ht]; exact hP, va_K.moved hW.alike hK, hD⟩, hm_j13, by rw [ht]; exact hN⟩, hS.F ht⟩) hS.2.2 dX5_renewsAll_94)))
      · have d_7 : (x1_13 : Int32).toInt < (r_2 : Int32).toInt := Int32.lt_iff_toInt_lt.mp (i32_lt c_5)
        have h_8 : iv 0 79 x1_13 := iv_ltL (i32_lt c_5) hx1_13 hr_2 (by decide)
        have h_9 : iv 1 80 r_2 := iv_ltR (i32_lt c_5) hx1_13 hr_2 (by decide)
        refine ec_aload_n hx hb dX5_renewsAll_24 rfl (lv_at hl 1 rfl) ?_
        refine cr_get (t := 6) (j := 0) (C := RX5) (T := TX5) (N := 13) (v := eV (ad 4) 0) hx hb htb inX5 hown hK hP hsx0_13 (by decide) (by decide) (by decide) rfl (by decide) (htb _ kw_121) (cV_c rfl (by decide) (by rw [show cMu 6 0 = 0 from rfl, Nat.zero_mul]; rfl)) dX5_renewsAll_25 ?_
        refine lv_iload_n hx hb dX5_renewsAll_28 rfl (lv_at hl 0 rfl) ?_
        refine cm_callTV (t := 4) (C := RX10) (T := TX10) (N := 4) (rest := []) (as := [.int x1_13]) ⟨hx, hb, hml, hown, htb⟩ (d_numbered l dC dI ad cid a2 lx sg_j13 gm_j13 lg 0 x1_13 hI_j13 (iv_k (by decide) : iv 0 0 0) h_8) (cwV 1 htb (gd_V kw_326 kw_327 kw_328 kw_32 kw_1414) rfl rfl rfl (by decide +kernel) ⟨Nat.le_of_ble_eq_true rfl, Nat.le_of_ble_eq_true rfl⟩) (iv_k (by decide) : iv 0 0 0) (by decide) (by decide) rfl rfl hl.1 rfl (Nat.le_trans cs_n (by decide)) dX5_renewsAll_29 ⟨Nat.le_trans (gc_le hI_j13) (Nat.le_of_ble_eq_true rfl), Nat.le_trans (gs_le hI_j13) (Nat.le_of_ble_eq_true rfl)⟩ hK hP hD hS hA hG (fun E ce q9 u_11 H locs hw hP hD hS hce hcv hcl => ?_) (fun v9 u_11 H locs hw hP hD hS => ?_)
        · exact hw.elim
        obtain ⟨r_10, rfl, rfl, hr_10, fr_r_10⟩ := hw
        have hP : va_P (dC, dI) vwCl (cW ad cid a2 lx sg_j13 gm_j13 lg) H := hP
        have hD : va_D A (cW ad cid a2 lx sg_j13 gm_j13 lg) := hD
        refine W.eq (g2 := F0 m 32 ls [eV (ad 10) r_10]) rfl ?_
        refine ec_astore_n (i := 2) (lv' := [(2, eV (ad 10) r_10), (1, .int x1_13), (0, eV (ad 6) x)]) hx hb dX5_renewsAll_32 rfl hl (by decide) rfl (fun ls hl => ?_)
        refine ec_aload_n hx hb dX5_renewsAll_33 rfl (lv_at hl 0 rfl) ?_
        refine cr_get (t := 10) (j := 5) (C := RX1) (T := TX1) (N := 19) (v := .long (lg 4 r_10.toNatClampNeg)) hx hb htb inX1 hown hK hP hr_10 (by decide) (by decide) (by decide) rfl (by decide) (htb _ kw_999) rfl dX5_renewsAll_34 ?_
        refine lv_topl (fun z_13 ez_13 => ?_)
        refine lv_lconst (v := 0) hx hb dX5_renewsAll_37 (by decide) ?_
        refine W.lcmp hx hb dX5_renewsAll_38 ?_
        refine lv_topi (fun z_14 ez_14 => ?_)
        have hz_14 : iv (-1) 1 z_14 := iv_of ez_14 (iv_cmp _ _)
        refine lv_if_eq (tgt := 73) hx hb dX5_renewsAll_39 (by decide) (fun c_15 => ?_) (fun c_15 => ?_)
        · have h_16 : iv 0 0 z_14 := iv_eq c_15 hz_14 (iv_k (by decide) : iv 0 0 0) (by decide)
          exact hj73 sg_j13 gm_j13 r_10 hr_10 h_8 hsx0_13 (KS_tr (L := [13, 14, 15, 16, 17, 18]) KS_rf hks_j13 (by decide)) (KS_tr (L := [37, 38, 39, 48, 49, 50, 51, 52, 53]) KS_rf hkg_j13 (by decide)) hI_j13 (hMOj) (hFNj) (⟨Sj, hRj, rfL_n hIj (show x1_13.toNatClampNeg < (ws 12).toNatClampNeg from (by have q1 := congrArg Int32.toInt (ss9_12 hSS); have q2 := congrArg Int32.toInt fr_r_2; have q3 : (ws 12).toNatClampNeg = (ws 12).toInt.toNat := rfl; have q4 : x1_13.toNatClampNeg = x1_13.toInt.toNat := rfl; have := i32_0; have := i32_1; have := i32_2; have := i32_m1; have := congrArg Int32.toInt (show sg_j13 12 = sg 12 from hks_j13 12 (by decide)); have := (show iv 0 80 (sg 12) from CI_s hI 12).1; have := (show iv 0 80 (sg 12) from CI_s hI 12).2; have := (hsx0_13).1; have := (hsx0_13).2; have := (h_8).1; have := (h_8).2; have := (h_9).1; have := (h_9).2; have := (hr_10).1; have := (hr_10).2; have := (h_16).1; have := (h_16).2; omega)) (fun q => q.1 (show lg 4 x1_13.toNatClampNeg = 0 from (by rw [← fr_r_10, ← ez_13]; exact (lg_cmp_eq _ _).mp (by rw [← ez_14]; exact c_15))))⟩) hm_j13 _ _ _ hP hD hS (lv_sub hl [0, 1, 2] rfl)
        · have d_17 : ¬ (z_14 : Int32).toInt = 0 := lv_neT c_15 rfl
          refine ec_aload_n hx hb dX5_renewsAll_42 rfl (lv_at hl 0 rfl) ?_
          refine cr_get (t := 10) (j := 13) (C := RX1) (T := TX1) (N := 19) (v := .int (gm_j13 34 r_10.toNatClampNeg)) hx hb htb inX1 hown hK hP hr_10 (by decide) (by decide) (by decide) rfl (by decide) (htb _ kw_1000) rfl dX5_renewsAll_43 ?_
          obtain ⟨z_18, ez_18⟩ : ∃ z : Int32, z = (gm_j13 34 r_10.toNatClampNeg) := ⟨_, rfl⟩
          refine W.eq (g2 := F0 m 46 ls [.int z_18]) (by rw [ez_18]) ?_
          have hz_18 : iv 0 1 z_18 := iv_of ez_18 (CI_a hI_j13 34 hr_10 (by decide))
          have ez_18 := ez_18.trans (congrFun (hkg_j13 34 (by decide)) _)
          refine lv_if_ne (tgt := 73) hx hb dX5_renewsAll_46 (by decide) (fun c_19 => ?_) (fun c_19 => ?_)
          · have h_20 : iv 1 1 z_18 := iv_neL c_19 hz_18 (by decide)
            exact hj73 sg_j13 gm_j13 r_10 hr_10 h_8 hsx0_13 (KS_tr (L := [13, 14, 15, 16, 17, 18]) KS_rf hks_j13 (by decide)) (KS_tr (L := [37, 38, 39, 48, 49, 50, 51, 52, 53]) KS_rf hkg_j13 (by decide)) hI_j13 (hMOj) (hFNj) (⟨Sj, hRj, rfL_n hIj (show x1_13.toNatClampNeg < (ws 12).toNatClampNeg from (by have q1 := congrArg Int32.toInt (ss9_12 hSS); have q2 := congrArg Int32.toInt fr_r_2; have q3 : (ws 12).toNatClampNeg = (ws 12).toInt.toNat := rfl; have q4 : x1_13.toNatClampNeg = x1_13.toInt.toNat := rfl; have := i32_0; have := i32_1; have := i32_2; have := i32_m1; have := congrArg Int32.toInt (show sg_j13 12 = sg 12 from hks_j13 12 (by decide)); have := (show iv 0 80 (sg 12) from CI_s hI 12).1; have := (show iv 0 80 (sg 12) from CI_s hI 12).2; have := (hsx0_13).1; have := (hsx0_13).2; have := (h_8).1; have := (h_8).2; have := (h_9).1; have := (h_9).2; have := (hr_10).1; have := (hr_10).2; have := (hz_14).1; have := (hz_14).2; have := (h_20).1; have := (h_20).2; omega)) (fun q => absurd q.2.1 (fun q7 => absurd (congrArg Int32.toInt ((show wg 34 x1_13.toNatClampNeg = z_18 from (by rw [← fr_r_10]; exact (swt9 hSW ez_18 rfl))).symm.trans q7)) (by have := i32_0; have := i32_0; have := i32_1; have := i32_2; have := i32_m1; have := (hsx0_13).1; have := (hsx0_13).2; have := (h_8).1; have := (h_8).2; have := (h_9).1; have := (h_9).2; have := (hr_10).1; have := (hr_10).2; have := (hz_14).1; have := (hz_14).2; have := (h_20).1; have := (h_20).2; omega)))⟩) hm_j13 _ _ _ hP hD hS (lv_sub hl [0, 1, 2] rfl)
          · have h_21 : iv 0 0 z_18 := iv_eq c_19 hz_18 (iv_k (by decide) : iv 0 0 0) (by decide)
            refine ec_aload_n hx hb dX5_renewsAll_49 rfl (lv_at hl 0 rfl) ?_
            refine cr_get (t := 10) (j := 14) (C := RX1) (T := TX1) (N := 19) (v := .int (gm_j13 35 r_10.toNatClampNeg)) hx hb htb inX1 hown hK hP hr_10 (by decide) (by decide) (by decide) rfl (by decide) (htb _ kw_1001) rfl dX5_renewsAll_50 ?_
            obtain ⟨z_22, ez_22⟩ : ∃ z : Int32, z = (gm_j13 35 r_10.toNatClampNeg) := ⟨_, rfl⟩
            refine W.eq (g2 := F0 m 53 ls [.int z_22]) (by rw [ez_22]) ?_
            have hz_22 : iv 0 1 z_22 := iv_of ez_22 (CI_a hI_j13 35 hr_10 (by decide))
            have ez_22 := ez_22.trans (congrFun (hkg_j13 35 (by decide)) _)
            refine lv_if_ne (tgt := 73) hx hb dX5_renewsAll_53 (by decide) (fun c_23 => ?_) (fun c_23 => ?_)
            · have h_24 : iv 1 1 z_22 := iv_neL c_23 hz_22 (by decide)
              exact hj73 sg_j13 gm_j13 r_10 hr_10 h_8 hsx0_13 (KS_tr (L := [13, 14, 15, 16, 17, 18]) KS_rf hks_j13 (by decide)) (KS_tr (L := [37, 38, 39, 48, 49, 50, 51, 52, 53]) KS_rf hkg_j13 (by decide)) hI_j13 (hMOj) (hFNj) (⟨Sj, hRj, rfL_n hIj (show x1_13.toNatClampNeg < (ws 12).toNatClampNeg from (by have q1 := congrArg Int32.toInt (ss9_12 hSS); have q2 := congrArg Int32.toInt fr_r_2; have q3 : (ws 12).toNatClampNeg = (ws 12).toInt.toNat := rfl; have q4 : x1_13.toNatClampNeg = x1_13.toInt.toNat := rfl; have := i32_0; have := i32_1; have := i32_2; have := i32_m1; have := congrArg Int32.toInt (show sg_j13 12 = sg 12 from hks_j13 12 (by decide)); have := (show iv 0 80 (sg 12) from CI_s hI 12).1; have := (show iv 0 80 (sg 12) from CI_s hI 12).2; have := (hsx0_13).1; have := (hsx0_13).2; have := (h_8).1; have := (h_8).2; have := (h_9).1; have := (h_9).2; have := (hr_10).1; have := (hr_10).2; have := (hz_14).1; have := (hz_14).2; have := (h_21).1; have := (h_21).2; have := (h_24).1; have := (h_24).2; omega)) (fun q => absurd q.2.2.1 (fun q7 => absurd (congrArg Int32.toInt ((show wg 35 x1_13.toNatClampNeg = z_22 from (by rw [← fr_r_10]; exact (swt9 hSW ez_22 rfl))).symm.trans q7)) (by have := i32_0; have := i32_0; have := i32_1; have := i32_2; have := i32_m1; have := (hsx0_13).1; have := (hsx0_13).2; have := (h_8).1; have := (h_8).2; have := (h_9).1; have := (h_9).2; have := (hr_10).1; have := (hr_10).2; have := (hz_14).1; have := (hz_14).2; have := (h_21).1; have := (h_21).2; have := (h_24).1; have := (h_24).2; omega)))⟩) hm_j13 _ _ _ hP hD hS (lv_sub hl [0, 1, 2] rfl)
            · have h_25 : iv 0 0 z_22 := iv_eq c_23 hz_22 (iv_k (by decide) : iv 0 0 0) (by decide)
              refine ec_aload_n hx hb dX5_renewsAll_56 rfl (lv_at hl 0 rfl) ?_
              refine cr_get (t := 10) (j := 15) (C := RX1) (T := TX1) (N := 19) (v := .int (gm_j13 36 r_10.toNatClampNeg)) hx hb htb inX1 hown hK hP hr_10 (by decide) (by decide) (by decide) rfl (by decide) (htb _ kw_1002) rfl dX5_renewsAll_57 ?_
              obtain ⟨z_26, ez_26⟩ : ∃ z : Int32, z = (gm_j13 36 r_10.toNatClampNeg) := ⟨_, rfl⟩
              refine W.eq (g2 := F0 m 60 ls [.int z_26]) (by rw [ez_26]) ?_
              have hz_26 : iv 0 1 z_26 := iv_of ez_26 (CI_a hI_j13 36 hr_10 (by decide))
              have ez_26 := ez_26.trans (congrFun (hkg_j13 36 (by decide)) _)
              refine lv_if_ne (tgt := 73) hx hb dX5_renewsAll_60 (by decide) (fun c_27 => ?_) (fun c_27 => ?_)
              · have h_28 : iv 1 1 z_26 := iv_neL c_27 hz_26 (by decide)
                exact hj73 sg_j13 gm_j13 r_10 hr_10 h_8 hsx0_13 (KS_tr (L := [13, 14, 15, 16, 17, 18]) KS_rf hks_j13 (by decide)) (KS_tr (L := [37, 38, 39, 48, 49, 50, 51, 52, 53]) KS_rf hkg_j13 (by decide)) hI_j13 (hMOj) (hFNj) (⟨Sj, hRj, rfL_n hIj (show x1_13.toNatClampNeg < (ws 12).toNatClampNeg from (by have q1 := congrArg Int32.toInt (ss9_12 hSS); have q2 := congrArg Int32.toInt fr_r_2; have q3 : (ws 12).toNatClampNeg = (ws 12).toInt.toNat := rfl; have q4 : x1_13.toNatClampNeg = x1_13.toInt.toNat := rfl; have := i32_0; have := i32_1; have := i32_2; have := i32_m1; have := congrArg Int32.toInt (show sg_j13 12 = sg 12 from hks_j13 12 (by decide)); have := (show iv 0 80 (sg 12) from CI_s hI 12).1; have := (show iv 0 80 (sg 12) from CI_s hI 12).2; have := (hsx0_13).1; have := (hsx0_13).2; have := (h_8).1; have := (h_8).2; have := (h_9).1; have := (h_9).2; have := (hr_10).1; have := (hr_10).2; have := (hz_14).1; have := (hz_14).2; have := (h_21).1; have := (h_21).2; have := (h_25).1; have := (h_25).2; have := (h_28).1; have := (h_28).2; omega)) (fun q => absurd q.2.2.2 (fun q7 => absurd (congrArg Int32.toInt ((show wg 36 x1_13.toNatClampNeg = z_26 from (by rw [← fr_r_10]; exact (swt9 hSW ez_26 rfl))).symm.trans q7)) (by have := i32_0; have := i32_0; have := i32_1; have := i32_2; have := i32_m1; have := (hsx0_13).1; have := (hsx0_13).2; have := (h_8).1; have := (h_8).2; have := (h_9).1; have := (h_9).2; have := (hr_10).1; have := (hr_10).2; have := (hz_14).1; have := (hz_14).2; have := (h_21).1; have := (h_21).2; have := (h_25).1; have := (h_25).2; have := (h_28).1; have := (h_28).2; omega)))⟩) hm_j13 _ _ _ hP hD hS (lv_sub hl [0, 1, 2] rfl)
              · have h_29 : iv 0 0 z_26 := iv_eq c_27 hz_26 (iv_k (by decide) : iv 0 0 0) (by decide)
                refine ec_aload_n hx hb dX5_renewsAll_63 rfl (lv_at hl 2 rfl) ?_
                refine ec_aload_n hx hb dX5_renewsAll_64 rfl (lv_at hl 0 rfl) ?_
                refine cr_get (t := 10) (j := 5) (C := RX1) (T := TX1) (N := 19) (v := .long (lg 4 r_10.toNatClampNeg)) hx hb htb inX1 hown hK hP hr_10 (by decide) (by decide) (by decide) rfl (by decide) (htb _ kw_999) rfl dX5_renewsAll_65 ?_
                refine lv_topl (fun z_30 ez_30 => ?_)
                refine lv_iconst (v := 0) hx hb dX5_renewsAll_68 (by decide) ?_
                refine cm_callTV (t := 6) (C := RX5) (T := TX5) (N := 13) (rest := []) (as := [.long z_30, .int 0]) ⟨hx, hb, hml, hown, htb⟩ ((d_rec9 l dC dI ad cid a2 lx hl9 40).2 sg_j13 gm_j13 lg x z_30 0 wg ws Sj hI_j13 hsx0_13 (iv_w (iv_k (by decide) : iv 0 0 0) (by decide)) (WRD_e hW (hks_j13 4 (by decide)) (hks_j13 12 (by decide)) (hkg_j13 14 (by decide)) (hkg_j13 15 (by decide)) (hkg_j13 16 (by decide)) (hkg_j13 17 (by decide)) (hkg_j13 19 (by decide)) (hkg_j13 20 (by decide)) (hkg_j13 22 (by decide)) (hkg_j13 25 (by decide)) (hkg_j13 26 (by decide)) (hkg_j13 27 (by decide)) (hkg_j13 29 (by decide)) (hkg_j13 41 (by decide)) (hkg_j13 44 (by decide)) (hkg_j13 45 (by decide)) (hkg_j13 46 (by decide)) (hkg_j13 57 (by decide)) rfl rfl) (LDI_e hLD (hkg_j13 41 (by decide)) (hkg_j13 42 (by decide)) (hkg_j13 57 (by decide))) hMOj hFNj (by decide) ((st9_ks (L := [37, 38, 39, 48, 49, 50, 51, 52, 53]) (KS_tr (L := [37, 38, 39, 48, 49, 50, 51, 52, 53]) KS_rf hkg_j13 (by decide)) (by decide)).trans hSW) ((ss9_ks (L := [13, 14, 15, 16, 17, 18]) (KS_tr (L := [13, 14, 15, 16, 17, 18]) KS_rf hks_j13 (by decide)) rfl rfl).trans hSS) hSV hRj) (cwV 2 htb (gd_V kw_1003 kw_1004 kw_1005 kw_40 kw_1567) rfl rfl rfl (by decide +kernel) ⟨Nat.le_of_ble_eq_true rfl, Nat.le_of_ble_eq_true rfl⟩) hsx0_13 (by decide) (by decide) rfl rfl hl.1 rfl (Nat.le_trans cs_n (by decide)) dX5_renewsAll_69 ⟨Nat.le_trans (gc_le hI_j13) (Nat.le_of_ble_eq_true rfl), Nat.le_trans (gs_le hI_j13) (Nat.le_of_ble_eq_true rfl)⟩ hK hP hD hS hA hG (fun E ce q9 u_32 H locs hw hP hD hS hce hcv hcl => ?_) (fun v9 u_32 H locs hw hP hD hS => ?_)
                · obtain ⟨hE, hw⟩ := hw
                  obtain ⟨sgv_33, gmv_33, lgv_33, rfl, hIv_33, ksv_33, kgv_33, klv_33, xMO_v_33, xFN_v_33, xG_v_33⟩ := hw
                  obtain rfl := KS_nil klv_33
                  have hP : va_P (dC, dI) vwCl (cW ad cid a2 lx sgv_33 gmv_33 lg) H := hP
                  have hD : va_D A (cW ad cid a2 lx sgv_33 gmv_33 lg) := hD
                  refine vx_widen (k := gc gm gm_j13 1) (n := gs gm gm_j13 1) (by unfold gc; omega) (by unfold gs; omega) ?_
                  obtain ⟨Sx, hEx, hRx⟩ := xG_v_33
                  subst hE
                  refine mc_catch (own := RX5) (name := "java/lang/UnsupportedOperationException") hown ⟨11, 79, 82, 103⟩ [] hxt (by decide) (by decide) (htb _ kw_998) (va_Nw.use rfl hG.2.1.1) hce hcv hcl ?_
                  refine lv_astore_n (i := 1) (lv' := [(1, .ref q9), (2, eV (ad 10) r_10), (0, eV (ad 6) x)]) hx hb dX5_renewsAll_82 rfl hl (by decide) (by simp [List.filter, eV_cat, cat_i, cat_l]) (fun ls hl => ?_)
                  refine ec_aload_n hx hb dX5_renewsAll_83 rfl (lv_at hl 2 rfl) ?_
                  refine cm_callTV (t := 6) (C := RX5) (T := TX5) (N := 13) (rest := []) (as := []) ⟨hx, hb, hml, hown, htb⟩ (d_stopMaking9 l dC dI ad cid a2 lx sgv_33 gmv_33 lg x hIv_33 hsx0_13) (cwV 0 htb (gd_V kw_1135 kw_1136 kw_1137 kw_40 kw_1596) rfl rfl rfl (by decide +kernel) ⟨Nat.le_of_ble_eq_true rfl, Nat.le_of_ble_eq_true rfl⟩) hsx0_13 (by decide) (by decide) rfl rfl hl.1 rfl (Nat.le_trans cs_n (by decide)) dX5_renewsAll_84 ⟨Nat.le_trans (gc_le hI_j13) (Nat.le_of_ble_eq_true rfl), Nat.le_trans (gs_le hI_j13) (Nat.le_of_ble_eq_true rfl)⟩ hK hP hD hS hA hG (fun E ce q9 u_35 H locs hw hP hD hS hce hcv hcl => ?_) (fun v9 u_35 H locs hw hP hD hS => ?_)
                  · exact hw.elim
                  obtain ⟨rfl, sgv_36, gmv_36, lgv_36, rfl, hIv_36, ksv_36, kgv_36, klv_36, fM_r_34⟩ := hw
                  obtain rfl := KS_nil klv_36
                  have hP : va_P (dC, dI) vwCl (cW ad cid a2 lx sgv_36 gmv_36 lg) H := hP
                  have hD : va_D A (cW ad cid a2 lx sgv_36 gmv_36 lg) := hD
                  refine W.eq (g2 := F0 m 87 ls []) rfl ?_
                  have hRs : RC wg lg (zSt Sx) sgv_36 gmv_36 := RC_stp hRx (KS_tr (L := [16]) KS_rf ksv_36 (by decide)) (KS_tr (L := [37]) KS_rf kgv_36 (by decide)) (fun c9 q9 => fM_r_34 c9 q9)
                  refine ec_aload_n hx hb dX5_renewsAll_87 rfl (lv_at hl 2 rfl) ?_
                  refine cm_callTV (t := 6) (C := RX5) (T := TX5) (N := 13) (rest := []) (as := []) ⟨hx, hb, hml, hown, htb⟩ (d_destroyAll9 l dC dI ad cid a2 lx sgv_36 gmv_36 lg x wg (zSt Sx) hIv_36 hsx0_13 (FND9_e xFN_v_33 (show sgv_36 15 = sgv_33 15 from (ksv_36 15 (by decide))) (show gmv_36 51 = gmv_33 51 from (kgv_36 51 (by decide)))) ((st9_ks (L := [37, 38, 39, 48, 49, 50, 51, 52, 53]) (KS_tr (L := [37, 38, 39, 48, 49, 50, 51, 52, 53]) (KS_tr (L := [37, 38, 39, 48, 49, 50, 51, 52, 53]) (KS_tr (L := [37, 38, 39, 48, 49, 50, 51, 52, 53]) KS_rf hkg_j13 (by decide)) kgv_33 (by decide)) kgv_36 (by decide)) (by decide)).trans hSW) hRs) (cwV 0 htb (gd_V kw_1138 kw_1139 kw_1140 kw_40 kw_1597) rfl rfl rfl (by decide +kernel) ⟨Nat.le_of_ble_eq_true rfl, Nat.le_of_ble_eq_true rfl⟩) hsx0_13 (by decide) (by decide) rfl rfl hl.1 rfl (Nat.le_trans cs_n (by decide)) dX5_renewsAll_88 ⟨Nat.le_trans (gc_le hI_j13) (Nat.le_of_ble_eq_true rfl), Nat.le_trans (gs_le hI_j13) (Nat.le_of_ble_eq_true rfl)⟩ hK hP hD hS hA hG (fun E ce q9 u_38 H locs hw hP hD hS hce hcv hcl => ?_) (fun v9 u_38 H locs hw hP hD hS => ?_)
                  · exact hw.elim
                  obtain ⟨rfl, sgv_39, gmv_39, lgv_39, rfl, hIv_39, ksv_39, kgv_39, klv_39, fM_r_37, f15_r_37, fR_r_37⟩ := hw
                  obtain rfl := KS_nil klv_39
                  have hP : va_P (dC, dI) vwCl (cW ad cid a2 lx sgv_39 gmv_39 lg) H := hP
                  have hD : va_D A (cW ad cid a2 lx sgv_39 gmv_39 lg) := hD
                  refine W.eq (g2 := F0 m 91 ls []) rfl ?_
                  have hMO_r_37 : MOK sgv_39 gmv_39 lg := MOK_0 (fun c9 q9 => fM_r_37 c9 (by rw [← (show sgv_39 12 = sgv_36 12 from (show sgv_39 12 = sgv_36 12 from (ksv_39 12 (by decide))))]; exact q9))
                  refine lv_iconst (v := 0) hx hb dX5_renewsAll_91 (by decide) ?_
                  refine W.widen (k := gc gm gmv_39 1) (n := gs gm gmv_39 1) (gc_e (show gmv_39 42 = gm_j13 42 from (Eq.trans (kgv_39 42 (by decide)) (Eq.trans (kgv_36 42 (by decide)) (kgv_33 42 (by decide))))) (by decide)) (gs_e (show gmv_39 42 = gm_j13 42 from (Eq.trans (kgv_39 42 (by decide)) (Eq.trans (kgv_36 42 (by decide)) (kgv_33 42 (by decide))))) (by decide)) ?_
                  have hm_40 : PHs gm ≤ PHs gmv_39 := by rw [PHs_e (show gmv_39 42 = gm_j13 42 from (Eq.trans (kgv_39 42 (by decide)) (Eq.trans (kgv_36 42 (by decide)) (kgv_33 42 (by decide)))))]; exact hm_j13
                  exact W.nb (fun hN => W.widen (k := 30482) (n := 121932) (Nat.le_trans (gc_l0 (gm := gm) (k := 1) hIv_39) (Nat.le_of_ble_eq_true rfl)) (Nat.le_trans (gs_l0 (gm := gm) (k := 1) hIv_39) (Nat.le_of_ble_eq_true rfl)) (vx_ret (W.zret (v := 0) hx hb hr (iv_nb (iv_w (iv_k (by decide) : iv 0 0 0) (by decide))) (fun t ht hW => ⟨⟨some (.int 0), (a2, lx, sgv_39, gmv_39, lg), rfl, ⟨0, rfl, sgv_39, gmv_39, lg, rfl, hIv_39, (KS_tr (L := [13, 14, 15, 16, 17, 18]) (KS_tr (L := [13, 14, 15, 16, 17, 18]) (KS_tr (L := [13, 14, 15, 16, 17, 18]) (KS_tr (L := [13, 14, 15, 16, 17, 18]) KS_rf hks_j13 (by decide)) ksv_33 (by decide)) ksv_36 (by decide)) ksv_39 (by decide)), (KS_tr (L := [37, 38, 39, 48, 49, 50, 51, 52, 53]) (KS_tr (L := [37, 38, 39, 48, 49, 50, 51, 52, 53]) (KS_tr (L := [37, 38, 39, 48, 49, 50, 51, 52, 53]) (KS_tr (L := [37, 38, 39, 48, 49, 50, 51, 52, 53]) KS_rf hkg_j13 (by decide)) kgv_33 (by decide)) kgv_36 (by decide)) kgv_39 (by decide)), KS_rf, (iv_w (iv_k (by decide) : iv 0 0 0) (by decide)), (hMO_r_37), ((FND9_0 f15_r_37)), (Or.inr ⟨rfl, _, zRf_x (rfL_x hIj (show x1_13.toNatClampNeg < (ws 12).toNatClampNeg from (by have q1 := congrArg Int32.toInt (ss9_12 hSS); have q2 := congrArg Int32.toInt fr_r_2; have q3 : (ws 12).toNatClampNeg = (ws 12).toInt.toNat := rfl; have q4 : x1_13.toNatClampNeg = x1_13.toInt.toNat := rfl; have := i32_0; have := i32_1; have := i32_2; have := i32_m1; have := congrArg Int32.toInt (show sgv_39 12 = sgv_36 12 from ksv_39 12 (by decide)); have := congrArg Int32.toInt (show sgv_36 12 = sgv_33 12 from ksv_36 12 (by decide)); have := congrArg Int32.toInt (show sgv_33 12 = sg_j13 12 from ksv_33 12 (by decide)); have := congrArg Int32.toInt (show sg_j13 12 = sg 12 from hks_j13 12 (by decide)); have := (show iv 0 80 (sg 12) from CI_s hI 12).1; have := (show iv 0 80 (sg 12) from CI_s hI 12).2; have := congrArg Int32.toInt (show sg_j13 12 = sg 12 from hks_j13 12 (by decide)); have := (hsx0_13).1; have := (hsx0_13).2; have := (h_8).1; have := (h_8).2; have := (h_9).1; have := (h_9).2; have := (hr_10).1; have := (hr_10).2; have := (hz_14).1; have := (hz_14).2; have := (h_21).1; have := (h_21).2; have := (h_25).1; have := (h_25).2; have := (h_29).1; have := (h_29).2; omega)) ⟨(show ¬ lg 4 x1_13.toNatClampNeg = 0 from (fun q9 => c_15 (by rw [ez_14]; exact (lg_cmp_eq _ _).mpr (by rw [ez_13, fr_r_10]; exact q9)))), ((show wg 34 x1_13.toNatClampNeg = z_18 from (by rw [← fr_r_10]; exact (swt9 hSW ez_18 rfl))).trans (Int32.toInt_inj.mp (by have := i32_0; have := i32_0; have := i32_1; have := i32_2; have := i32_m1; have := (hsx0_13).1; have := (hsx0_13).2; have := (h_8).1; have := (h_8).2; have := (h_9).1; have := (h_9).2; have := (hr_10).1; have := (hr_10).2; have := (hz_14).1; have := (hz_14).2; have := (h_21).1; have := (h_21).2; have := (h_25).1; have := (h_25).2; have := (h_29).1; have := (h_29).2; omega))), ((show wg 35 x1_13.toNatClampNeg = z_22 from (by rw [← fr_r_10]; exact (swt9 hSW ez_22 rfl))).trans (Int32.toInt_inj.mp (by have := i32_0; have := i32_0; have := i32_1; have := i32_2; have := i32_m1; have := (hsx0_13).1; have := (hsx0_13).2; have := (h_8).1; have := (h_8).2; have := (h_9).1; have := (h_9).2; have := (hr_10).1; have := (hr_10).2; have := (hz_14).1; have := (hz_14).2; have := (h_21).1; have := (h_21).2; have := (h_25).1; have := (h_25).2; have := (h_29).1; have := (h_29).2; omega))), ((show wg 36 x1_13.toNatClampNeg = z_26 from (by rw [← fr_r_10]; exact (swt9 hSW ez_26 rfl))).trans (Int32.toInt_inj.mp (by have := i32_0; have := i32_0; have := i32_1; have := i32_2; have := i32_m1; have := (hsx0_13).1; have := (hsx0_13).2; have := (h_8).1; have := (h_8).2; have := (h_9).1; have := (h_9).2; have := (hr_10).1; have := (hr_10).2; have := (hz_14).1; have := (hz_14).2; have := (h_21).1; have := (h_21).2; have := (h_25).1; have := (h_25).2; have := (h_29).1; have := (h_29).2; omega)))⟩ (by have q9 := hEx; rw [show z_30 = lg 4 x1_13.toNatClampNeg from (by rw [ez_30, fr_r_10]), (hSV.2 _ (show x1_13.toNatClampNeg < (ws 12).toNatClampNeg from (by have q1 := congrArg Int32.toInt (ss9_12 hSS); have q2 := congrArg Int32.toInt fr_r_2; have q3 : (ws 12).toNatClampNeg = (ws 12).toInt.toNat := rfl; have q4 : x1_13.toNatClampNeg = x1_13.toInt.toNat := rfl; have := i32_0; have := i32_1; have := i32_2; have := i32_m1; have := congrArg Int32.toInt (show sgv_39 12 = sgv_36 12 from ksv_39 12 (by decide)); have := congrArg Int32.toInt (show sgv_36 12 = sgv_33 12 from ksv_36 12 (by decide)); have := congrArg Int32.toInt (show sgv_33 12 = sg_j13 12 from ksv_33 12 (by decide)); have := congrArg Int32.toInt (show sg_j13 12 = sg 12 from hks_j13 12 (by decide)); have := (show iv 0 80 (sg 12) from CI_s hI 12).1; have := (show iv 0 80 (sg 12) from CI_s hI 12).2; have := congrArg Int32.toInt (show sg_j13 12 = sg 12 from hks_j13 12 (by decide)); have := (hsx0_13).1; have := (hsx0_13).2; have := (h_8).1; have := (h_8).2; have := (h_9).1; have := (h_9).2; have := (hr_10).1; have := (hr_10).2; have := (hz_14).1; have := (hz_14).2; have := (h_21).1; have := (h_21).2; have := (h_25).1; have := (h_25).2; have := (h_29).1; have := (h_29).2; omega))).2 (show ¬ lg 4 x1_13.toNatClampNeg = 0 from (fun q9 => c_15 (by rw [ez_14]; exact (lg_cmp_eq _ _).mpr (by rw [ez_13, fr_r_10]; exact q9))))] at q9; exact q9)), fR_r_37⟩)⟩, ⟨by rw [ht]; exact hP, va_K.moved hW.alike hK, hD⟩, hm_40, by rw [ht]; exact hN⟩, hS.F ht⟩) hS.2.2 dX5_renewsAll_92)))
                obtain ⟨r_31, rfl, sgv_41, gmv_41, lgv_41, rfl, hIv_41, ksv_41, kgv_41, klv_41, hr_31, fMO_r_31, fFN_r_31, fBM_r_31, fWF_r_31, f14_r_31, fr_r_31, fG_r_31⟩ := hw
                obtain rfl := KS_nil klv_41
                have hP : va_P (dC, dI) vwCl (cW ad cid a2 lx sgv_41 gmv_41 lg) H := hP
                have hD : va_D A (cW ad cid a2 lx sgv_41 gmv_41 lg) := hD
                refine W.eq (g2 := F0 m 72 ls [.int r_31]) rfl ?_
                obtain ⟨S_r_31, hE_r_31, hR_r_31⟩ := fG_r_31
                refine lv_pop hx hb dX5_renewsAll_72 rfl ?_
                refine W.widen (k := gc gm gmv_41 0) (n := gs gm gmv_41 0) (gc_e (show gmv_41 42 = gm_j13 42 from (kgv_41 42 (by decide))) (by decide)) (gs_e (show gmv_41 42 = gm_j13 42 from (kgv_41 42 (by decide))) (by decide)) ?_
                have hm_42 : PHs gm ≤ PHs gmv_41 := by rw [PHs_e (show gmv_41 42 = gm_j13 42 from (kgv_41 42 (by decide)))]; exact hm_j13
                exact hj73 sgv_41 gmv_41 r_10 hr_10 h_8 hsx0_13 (KS_tr (L := [13, 14, 15, 16, 17, 18]) (KS_tr (L := [13, 14, 15, 16, 17, 18]) KS_rf hks_j13 (by decide)) ksv_41 (by decide)) (KS_tr (L := [37, 38, 39, 48, 49, 50, 51, 52, 53]) (KS_tr (L := [37, 38, 39, 48, 49, 50, 51, 52, 53]) KS_rf hkg_j13 (by decide)) kgv_41 (by decide)) hIv_41 (fMO_r_31) (fFN_r_31) (⟨S_r_31, hR_r_31, rfL_y hIj (show x1_13.toNatClampNeg < (ws 12).toNatClampNeg from (by have q1 := congrArg Int32.toInt (ss9_12 hSS); have q2 := congrArg Int32.toInt fr_r_2; have q3 : (ws 12).toNatClampNeg = (ws 12).toInt.toNat := rfl; have q4 : x1_13.toNatClampNeg = x1_13.toInt.toNat := rfl; have := i32_0; have := i32_1; have := i32_2; have := i32_m1; have := congrArg Int32.toInt (show sgv_41 12 = sg_j13 12 from ksv_41 12 (by decide)); have := congrArg Int32.toInt (show sg_j13 12 = sg 12 from hks_j13 12 (by decide)); have := (show iv 0 80 (sg 12) from CI_s hI 12).1; have := (show iv 0 80 (sg 12) from CI_s hI 12).2; have := congrArg Int32.toInt (show sg_j13 12 = sg 12 from hks_j13 12 (by decide)); have := (hsx0_13).1; have := (hsx0_13).2; have := (h_8).1; have := (h_8).2; have := (h_9).1; have := (h_9).2; have := (hr_10).1; have := (hr_10).2; have := (hz_14).1; have := (hz_14).2; have := (h_21).1; have := (h_21).2; have := (h_25).1; have := (h_25).2; have := (h_29).1; have := (h_29).2; have := (hr_31).1; have := (hr_31).2; omega)) ⟨(show ¬ lg 4 x1_13.toNatClampNeg = 0 from (fun q9 => c_15 (by rw [ez_14]; exact (lg_cmp_eq _ _).mpr (by rw [ez_13, fr_r_10]; exact q9)))), ((show wg 34 x1_13.toNatClampNeg = z_18 from (by rw [← fr_r_10]; exact (swt9 hSW ez_18 rfl))).trans (Int32.toInt_inj.mp (by have := i32_0; have := i32_0; have := i32_1; have := i32_2; have := i32_m1; have := (hsx0_13).1; have := (hsx0_13).2; have := (h_8).1; have := (h_8).2; have := (h_9).1; have := (h_9).2; have := (hr_10).1; have := (hr_10).2; have := (hz_14).1; have := (hz_14).2; have := (h_21).1; have := (h_21).2; have := (h_25).1; have := (h_25).2; have := (h_29).1; have := (h_29).2; have := (hr_31).1; have := (hr_31).2; omega))), ((show wg 35 x1_13.toNatClampNeg = z_22 from (by rw [← fr_r_10]; exact (swt9 hSW ez_22 rfl))).trans (Int32.toInt_inj.mp (by have := i32_0; have := i32_0; have := i32_1; have := i32_2; have := i32_m1; have := (hsx0_13).1; have := (hsx0_13).2; have := (h_8).1; have := (h_8).2; have := (h_9).1; have := (h_9).2; have := (hr_10).1; have := (hr_10).2; have := (hz_14).1; have := (hz_14).2; have := (h_21).1; have := (h_21).2; have := (h_25).1; have := (h_25).2; have := (h_29).1; have := (h_29).2; have := (hr_31).1; have := (hr_31).2; omega))), ((show wg 36 x1_13.toNatClampNeg = z_26 from (by rw [← fr_r_10]; exact (swt9 hSW ez_26 rfl))).trans (Int32.toInt_inj.mp (by have := i32_0; have := i32_0; have := i32_1; have := i32_2; have := i32_m1; have := (hsx0_13).1; have := (hsx0_13).2; have := (h_8).1; have := (h_8).2; have := (h_9).1; have := (h_9).2; have := (hr_10).1; have := (hr_10).2; have := (hz_14).1; have := (hz_14).2; have := (h_21).1; have := (h_21).2; have := (h_25).1; have := (h_25).2; have := (h_29).1; have := (h_29).2; have := (hr_31).1; have := (hr_31).2; omega)))⟩ (by have q9 := hE_r_31; rw [show z_30 = lg 4 x1_13.toNatClampNeg from (by rw [ez_30, fr_r_10]), (hSV.2 _ (show x1_13.toNatClampNeg < (ws 12).toNatClampNeg from (by have q1 := congrArg Int32.toInt (ss9_12 hSS); have q2 := congrArg Int32.toInt fr_r_2; have q3 : (ws 12).toNatClampNeg = (ws 12).toInt.toNat := rfl; have q4 : x1_13.toNatClampNeg = x1_13.toInt.toNat := rfl; have := i32_0; have := i32_1; have := i32_2; have := i32_m1; have := congrArg Int32.toInt (show sgv_41 12 = sg_j13 12 from ksv_41 12 (by decide)); have := congrArg Int32.toInt (show sg_j13 12 = sg 12 from hks_j13 12 (by decide)); have := (show iv 0 80 (sg 12) from CI_s hI 12).1; have := (show iv 0 80 (sg 12) from CI_s hI 12).2; have := congrArg Int32.toInt (show sg_j13 12 = sg 12 from hks_j13 12 (by decide)); have := (hsx0_13).1; have := (hsx0_13).2; have := (h_8).1; have := (h_8).2; have := (h_9).1; have := (h_9).2; have := (hr_10).1; have := (hr_10).2; have := (hz_14).1; have := (hz_14).2; have := (h_21).1; have := (h_21).2; have := (h_25).1; have := (h_25).2; have := (h_29).1; have := (h_29).2; have := (hr_31).1; have := (hr_31).2; omega))).2 (show ¬ lg 4 x1_13.toNatClampNeg = 0 from (fun q9 => c_15 (by rw [ez_14]; exact (lg_cmp_eq _ _).mpr (by rw [ez_13, fr_r_10]; exact q9))))] at q9; exact q9)⟩) hm_42 _ _ _ hP hD hS (lv_sub hl [0, 1, 2] rfl)
  refine ec_aload_n hx hb dX5_renewsAll_0 rfl (lv_at hl 0 rfl) ?_
  refine cm_callTV (t := 6) (C := RX5) (T := TX5) (N := 13) (rest := []) (as := []) ⟨hx, hb, hml, hown, htb⟩ (d_forgetMade l dC dI ad cid a2 lx sg gm lg x hI hvx) (cwV 0 htb (gd_V kw_317 kw_318 kw_319 kw_40 kw_1412) rfl rfl rfl (by decide +kernel) ⟨Nat.le_of_ble_eq_true rfl, Nat.le_of_ble_eq_true rfl⟩) hvx (by decide) (by decide) rfl rfl hl.1 rfl (Nat.le_trans cs_n (by decide)) dX5_renewsAll_1 ⟨Nat.le_trans (gc_le hI) (Nat.le_of_ble_eq_true rfl), Nat.le_trans (gs_le hI) (Nat.le_of_ble_eq_true rfl)⟩ hK hP hD hS hA hG (fun E ce q9 u_44 H locs hw hP hD hS hce hcv hcl => ?_) (fun v9 u_44 H locs hw hP hD hS => ?_)
  · exact hw.elim
  obtain ⟨rfl, sgv_45, gmv_45, lgv_45, rfl, hIv_45, ksv_45, kgv_45, klv_45, fM_r_43, f15_r_43⟩ := hw
  obtain rfl := KS_nil klv_45
  have hP : va_P (dC, dI) vwCl (cW ad cid a2 lx sgv_45 gmv_45 lg) H := hP
  have hD : va_D A (cW ad cid a2 lx sgv_45 gmv_45 lg) := hD
  refine W.eq (g2 := F0 m 4 ls []) rfl ?_
  have hMO_r_43 : MOK sgv_45 gmv_45 lg := MOK_0 (fun c9 q9 => fM_r_43 c9 (by rw [← (show sgv_45 12 = sg 12 from (show sgv_45 12 = sg 12 from (ksv_45 12 (by decide))))]; exact q9))
  have hRf : RC wg lg (zFo S) sgv_45 gmv_45 := RC_fo hRC (KS_tr (L := [15]) KS_rf ksv_45 (by decide)) (KS_tr (L := [38]) KS_rf kgv_45 (by decide)) (fun c9 q9 => fM_r_43 c9 q9) f15_r_43
  refine ec_aload_n hx hb dX5_renewsAll_4 rfl (lv_at hl 0 rfl) ?_
  refine cr_get (t := 6) (j := 2) (C := RX5) (T := TX5) (N := 13) (v := eV (ad 5) 0) hx hb htb inX5 hown hK hP hvx (by decide) (by decide) (by decide) rfl (by decide) (htb _ kw_123) (cV_c rfl (by decide) (by rw [show cMu 6 2 = 0 from rfl, Nat.zero_mul]; rfl)) dX5_renewsAll_5 ?_
  refine cm_callTV (t := 5) (C := RX4) (T := TX4) (N := 2) (rest := []) (as := []) ⟨hx, hb, hml, hown, htb⟩ (d_clearEv9 l dC dI ad cid a2 lx sgv_45 gmv_45 lg 0 hIv_45 (iv_k (by decide) : iv 0 0 0)) (cwV 0 htb (gd_V kw_329 kw_330 kw_331 kw_36 kw_1415) rfl rfl rfl (by decide +kernel) ⟨Nat.le_of_ble_eq_true rfl, Nat.le_of_ble_eq_true rfl⟩) (iv_k (by decide) : iv 0 0 0) (by decide) (by decide) rfl rfl hl.1 rfl (Nat.le_trans cs_n (by decide)) dX5_renewsAll_8 ⟨Nat.le_trans (gc_le hI) (Nat.le_of_ble_eq_true rfl), Nat.le_trans (gs_le hI) (Nat.le_of_ble_eq_true rfl)⟩ hK hP hD hS hA hG (fun E ce q9 u_47 H locs hw hP hD hS hce hcv hcl => ?_) (fun v9 u_47 H locs hw hP hD hS => ?_)
  · exact hw.elim
  obtain ⟨rfl, sgv_48, gmv_48, lgv_48, rfl, hIv_48, ksv_48, kgv_48, klv_48, f13_r_46⟩ := hw
  obtain rfl := KS_nil kgv_48
  obtain rfl := KS_nil klv_48
  have hP : va_P (dC, dI) vwCl (cW ad cid a2 lx sgv_48 gmv_45 lg) H := hP
  have hD : va_D A (cW ad cid a2 lx sgv_48 gmv_45 lg) := hD
  refine W.eq (g2 := F0 m 11 ls []) rfl ?_
  have hRe : RC wg lg (zCe (zFo S)) sgv_48 gmv_45 := RC_ce hRf (KS_tr (L := [13]) KS_rf ksv_48 (by decide)) KS_rf f13_r_46
  refine lv_iconst (v := 0) hx hb dX5_renewsAll_11 (by decide) ?_
  refine lv_istore_n (i := 1) (lv' := [(1, .int 0), (0, eV (ad 6) x)]) hx hb dX5_renewsAll_12 rfl hl (by decide) (by simp [List.filter, eV_cat, cat_i, cat_l]) (fun ls hl => ?_)
  refine W.widen (k := gc gm gmv_45 0) (n := gs gm gmv_45 0) (gc_e (show gmv_45 42 = gm 42 from (kgv_45 42 (by decide))) (by decide)) (gs_e (show gmv_45 42 = gm 42 from (kgv_45 42 (by decide))) (by decide)) ?_
  have hm_49 : PHs gm ≤ PHs gmv_45 := by rw [PHs_e (show gmv_45 42 = gm 42 from (kgv_45 42 (by decide)))]; exact (Nat.le_refl _)
  exact hj13 _ sgv_48 gmv_45 0 rfl (iv_w (iv_k (by decide) : iv 0 0 0) (by decide)) hvx (KS_tr (L := [13, 14, 15, 16, 17, 18]) (KS_tr (L := [13, 14, 15, 16, 17, 18]) KS_rf ksv_45 (by decide)) ksv_48 (by decide)) (KS_tr (L := [37, 38, 39, 48, 49, 50, 51, 52, 53]) KS_rf kgv_45 (by decide)) hIv_48 ((MOK_e hMO_r_43 (show sgv_48 12 = sgv_45 12 from (ksv_48 12 (by decide))) rfl rfl rfl rfl)) ((FND9_e (FND9_0 f15_r_43) (show sgv_48 15 = sgv_45 15 from (ksv_48 15 (by decide))) rfl)) (⟨_, hRe, rfl⟩) hm_49 _ _ _ hP hD hS (lv_sub hl [0, 1] rfl)
end
section
theorem wzG_u (v a : Int64) (s : Int32) (f : Nat) : wzG v (f + 1) s a = if s.toInt < 0 then a else wzG v f (s + (-8)) (if by9 v s = 0 then a else (a <<< ((8 : Int32).toInt64 &&& 63)) ||| by9 v s) := by rw [wzG]
theorem wzG_e {v a : Int64} {s : Int32} {f : Nat} (h : s.toInt < 0) : wzG v f s a = a := by
  cases f with
  | zero => rw [wzG]
  | succ f => rw [wzG_u, if_pos h]
theorem wzG_0 {v a R : Int64} {s s2 : Int32} (hR : R = wzG v ((s.toInt + 8) / 8).toNat s a) (h : 0 ≤ s.toInt) (h2 : s2 = s + (-8)) (t2 : s2.toInt = s.toInt - 8) (hz : by9 v s = 0) : R = wzG v ((s2.toInt + 8) / 8).toNat s2 a := by
  rw [show ((s.toInt + 8) / 8).toNat = ((s2.toInt + 8) / 8).toNat + 1 by omega, wzG_u, if_neg (by omega), if_pos hz, ← h2] at hR
  exact hR
theorem wzG_1 {v a a2 R : Int64} {s s2 : Int32} (hR : R = wzG v ((s.toInt + 8) / 8).toNat s a) (h : 0 ≤ s.toInt) (h2 : s2 = s + (-8)) (t2 : s2.toInt = s.toInt - 8) (hz : ¬ by9 v s = 0) (ha : a2 = (a <<< ((8 : Int32).toInt64 &&& 63)) ||| by9 v s) : R = wzG v ((s2.toInt + 8) / 8).toNat s2 a2 := by
  rw [show ((s.toInt + 8) / 8).toNat = ((s2.toInt + 8) / 8).toNat + 1 by omega, wzG_u, if_neg (by omega), if_neg hz, ← h2, ← ha] at hR
  exact hR
theorem lkL_st {wg : Nat → Nat → Int32} {R nm : Int} {l : List Nat} {i e : Nat} (hR : R = lkL wg nm (l.drop i)) (he : l[i]? = some e) (hn : ¬ (wg 22 e).toInt = nm) : R = lkL wg nm (l.drop (i + 1)) := by
  rw [dro9 he] at hR
  rw [hR]; show (if _ then _ else _) = _; rw [if_neg hn]
theorem lkL_h {wg : Nat → Nat → Int32} {R nm : Int} {l : List Nat} {i e : Nat} (hR : R = lkL wg nm (l.drop i)) (he : l[i]? = some e) (hn : (wg 22 e).toInt = nm) : R = (e : Int) := by
  rw [dro9 he] at hR
  rw [hR]; show (if _ then _ else _) = _; rw [if_pos hn]
theorem lkL_e {wg : Nat → Nat → Int32} {R nm : Int} {l : List Nat} {i : Nat} (hR : R = lkL wg nm (l.drop i)) (h : l.length ≤ i) : R = -1 := by
  rw [List.drop_eq_nil_of_le h] at hR; exact hR
section PB9
variable {wg : Nat → Nat → Int32} {lg : Nat → Nat → Int64} {S : S9} {sg : Nat → Int32} {gm : Nat → Nat → Int32} {k : Int32}
theorem RC_o? (h : RC wg lg S sg gm) (h0 : 0 ≤ k.toInt) (hl : k.toInt < (sg 14).toInt) : (zO S)[k.toInt.toNat]? = some ((gm 49 k.toNatClampNeg).toInt, (gm 50 k.toNatClampNeg).toInt) := by
  have h1 := h.1.1
  have hk : k.toInt.toNat < (zO S).length := by omega
  rw [List.getElem?_eq_getElem hk]
  have h2 := h.1.2 k.toInt.toNat _ (List.getElem?_eq_getElem hk)
  have : (zO S)[k.toInt.toNat] = ((gm 49 k.toInt.toNat).toInt, (gm 50 k.toInt.toNat).toInt) := by rw [h2.1, h2.2]
  rw [this]; rfl
theorem RC_on (h : RC wg lg S sg gm) (hl : ¬ (0 ≤ k.toInt ∧ k.toInt < (sg 14).toInt)) : k.toInt < 0 ∨ (zO S)[k.toInt.toNat]? = none := by
  have h1 := h.1.1
  by_cases h0 : k.toInt < 0
  · exact Or.inl h0
  · exact Or.inr (List.getElem?_eq_none (by omega))
theorem zOb_n {w : Int} (h : RC wg lg S sg gm) (hl : ¬ (0 ≤ k.toInt ∧ k.toInt < (sg 14).toInt)) : zOb k.toInt w S = -1 := by
  unfold zOb
  rcases RC_on h hl with q | q
  · rw [if_pos q]
  · split
    · rfl
    · rw [q]
theorem zOb_y {w : Int} (h : RC wg lg S sg gm) (h0 : 0 ≤ k.toInt) (hl : k.toInt < (sg 14).toInt) : zOb k.toInt w S = if w = 0 then (gm 49 k.toNatClampNeg).toInt else if w = 1 then (gm 50 k.toNatClampNeg).toInt else -1 := by
  unfold zOb; rw [if_neg (by omega), RC_o? h h0 hl]
theorem zOb_w {w : Int} (hw : ¬ w = 0) (hw1 : ¬ w = 1) : zOb k.toInt w S = -1 := by
  unfold zOb; split
  · rfl
  · split
    · rfl
    · first
      | rfl
      | rw [if_neg hw, if_neg hw1]
theorem zLk_n {nm : Int} (h : RC wg lg S sg gm) (hl : ¬ (0 ≤ k.toInt ∧ k.toInt < (sg 14).toInt)) : zLk wg k.toInt nm S = -1 := by
  unfold zLk
  rcases RC_on h hl with q | q
  · rw [if_pos q]
  · split
    · rfl
    · rw [q]
theorem zLk_y {nm : Int} (h : RC wg lg S sg gm) (h0 : 0 ≤ k.toInt) (hl : k.toInt < (sg 14).toInt) : zLk wg k.toInt nm S = lkL wg nm (liL wg (3 * (gm 50 k.toNatClampNeg).toNatClampNeg + 2)) := by
  unfold zLk; rw [if_neg (by omega), RC_o? h h0 hl]; rfl
theorem zEv_n {w : Int} (h : RC wg lg S sg gm) (hl : ¬ (0 ≤ k.toInt ∧ k.toInt < (sg 13).toInt ∧ 0 ≤ w ∧ w < 4)) : zEv k.toInt w S = -1 := by
  unfold zEv
  have h1 := h.2.1.1
  split
  · rfl
  · rename_i hk
    cases q : (zE S)[k.toInt.toNat]? with
    | none => rfl
    | some e =>
      have := gl9 q
      show (if w = 0 then e.1 else if w = 1 then e.2.1 else if w = 2 then e.2.2.1 else if w = 3 then e.2.2.2 else -1) = -1
      rw [if_neg (by omega), if_neg (by omega), if_neg (by omega), if_neg (by omega)]
theorem zEv_y {w x : Int32} {i : Nat} (h : RC wg lg S sg gm) (h0 : 0 ≤ k.toInt) (hl : k.toInt < (sg 13).toInt) (w0 : 0 ≤ w.toInt) (w4 : w.toInt < 4) (hx : x = gm 48 i) (hi : (i : Int) = 4 * k.toInt + w.toInt) : x.toInt = zEv k.toInt w.toInt S := by
  have h1 := h.2.1.1
  have hk : k.toInt.toNat < (zE S).length := by omega
  have h2 := h.2.1.2 k.toInt.toNat _ (List.getElem?_eq_getElem hk)
  unfold zEv
  rw [if_neg (by omega), List.getElem?_eq_getElem hk]
  show x.toInt = (if w.toInt = 0 then _ else if w.toInt = 1 then _ else if w.toInt = 2 then _ else if w.toInt = 3 then _ else -1)
  rw [hx]
  by_cases e0 : w.toInt = 0
  · rw [if_pos e0, ← h2.1, show i = 4 * k.toInt.toNat by omega]
  · by_cases e1 : w.toInt = 1
    · rw [if_neg e0, if_pos e1, ← h2.2.1, show i = 4 * k.toInt.toNat + 1 by omega]
    · by_cases e2 : w.toInt = 2
      · rw [if_neg e0, if_neg e1, if_pos e2, ← h2.2.2.1, show i = 4 * k.toInt.toNat + 2 by omega]
      · rw [if_neg e0, if_neg e1, if_neg e2, if_pos (by omega), ← h2.2.2.2, show i = 4 * k.toInt.toNat + 3 by omega]
end PB9
end
