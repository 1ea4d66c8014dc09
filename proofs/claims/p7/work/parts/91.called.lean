
theorem MOK_0 {sg : Nat → Int32} {gm : Nat → Nat → Int32} {lg : Nat → Nat → Int64} (h : ∀ c, c < (sg 12).toNatClampNeg → gm 38 c = 0) : MOK sg gm lg := fun c hc q => absurd (h c hc) q
theorem FND9_0 {sg : Nat → Int32} {gm : Nat → Nat → Int32} (h : (sg 15).toInt = 0) : FND9 sg gm := fun i hi => by
  have k : (sg 15).toNatClampNeg = (sg 15).toInt.toNat := rfl
  omega

set_option maxHeartbeats 4000000 in
set_option maxRecDepth 100000 in
theorem d_objectCalled (l : Launch) (dC : Nat → ClassId) (dI : Nat → Nat → Nat) (ad : Nat → Nat → Nat) (cid : Nat → ClassId) (a2 : Nat → Nat) (lx : List Nat) (sg : Nat → Int32) (gm : Nat → Nat → Int32) (lg : Nat → Nat → Int64) (hl9 : l.stackTraces = false) (x : Int32) (nm : Int64) (hI : CI sg gm) (hvx : iv 0 0 x) (hW : WRD sg gm lg) (hLD : LDI lx gm) (hMO : MOK sg gm lg) (hFN : FND9 sg gm) : CMg dC dI ad cid l yX5_objectCalled wm_X5_objectCalled ({ frames := 343, cells := 30482, slots := 121932, locals := 11064 }) [eV (ad 6) x, .long nm] a2 lx sg gm lg 1 30482 121932 (fun v u => ∃ r : Int32, v = some (.int r) ∧ ∃ (sg2 : Nat → Int32) (gm2 : Nat → Nat → Int32) (lg2 : Nat → Nat → Int64), u = (a2, lx, sg2, gm2, lg2) ∧ CI sg2 gm2 ∧ KS [13, 14, 15, 16, 17, 18] sg sg2 ∧ KS [37, 38, 39, 48, 49, 50, 51, 52, 53] gm gm2 ∧ KS [] lg lg2 ∧ (iv (-1) 59 r) ∧ (MOK sg2 gm2 lg2) ∧ (FND9 sg2 gm2)) (fun _ _ => False) := by
  intro sz
  refine vx_ofWH (cc := cX5_objectCalled) (maxL := 4) (ret := (some .int)) (by decide) rfl ?_
  intro p e s m args below meth c s₁ B hml hv
  obtain ⟨rfl, hsz, hP, hK, hD0, hG⟩ := hv
  have hx := B.exec
  have hb := B.bytes
  have hr := B.returns
  have hts := atoms_spec (ws := wm_X5_objectCalled) B.pre
  have htb := fun (w : Cond) (h : w ∈ tb) => hts w (List.mem_cons_of_mem _ h)
  have hown : s.vm.findClass RX5 = some m.cls := findClass_of_methodNamed B.named
  have hlocks := B.notSynchronized
  have hxt := vx_table (x := yX5_objectCalled) B (hts _ List.mem_cons_self)
  subst hsz
  have hD := hD0.self (sz := s.heap.size)
  generalize hAe : va_A (cW ad cid a2 lx sg gm lg) s.heap.size = A at hD hG ⊢
  have hA : ∀ q : Nat, s.heap.size ≤ q → A q := fun q h => by rw [← hAe]; exact Or.inr h
  have hS : va_S A s.heap s.heap [] := va_S.rf
  have hl := lv_entry ([eV (ad 6) x, .long nm]) (n := 4) (by rw [show (lg_sl ([eV (ad 6) x, .long nm])).length = 3 from by simp [lg_sl, eV_cat, cat_i, cat_l]]; exact Nat.le_of_ble_eq_true rfl)
  rw [lg_entry_eq]
  generalize (lg_sl ([eV (ad 6) x, .long nm]) ++ List.replicate (4 - (lg_sl ([eV (ad 6) x, .long nm])).length) Slot.unset).toArray = ls at hl ⊢
  have hl : lv_has ls 4 [(0, eV (ad 6) x), (1, .long nm)] := by simp [lv_args, eV_cat, cat_i, cat_l] at hl; exact hl
  refine W.widen (k := gc gm gm 0) (n := gs gm gm 0) (Nat.zero_le _) (Nat.zero_le _) ?_
  refine ec_aload_n hx hb dX5_objectCalled_0 rfl (lv_at hl 0 rfl) ?_
  refine lv_lload_n hx hb dX5_objectCalled_1 rfl (lv_at hl 1 rfl) ?_
  refine lv_iconst (v := 0) hx hb dX5_objectCalled_2 (by decide) ?_
  refine cm_callTV (t := 6) (C := RX5) (T := TX5) (N := 13) (rest := []) (as := [.long nm, .int 0]) ⟨hx, hb, hml, hown, htb⟩ ((d_rec l dC dI ad cid a2 lx hl9 40).2 sg gm lg x nm 0 hI hvx (iv_w (iv_k (by decide) : iv 0 0 0) (by decide)) hW hLD hMO hFN (by decide)) (cwV 2 htb (gd_V kw_1006 kw_1007 kw_1008 kw_40 kw_1568) rfl rfl rfl (by decide +kernel) ⟨Nat.le_of_ble_eq_true rfl, Nat.le_of_ble_eq_true rfl⟩) hvx (by decide) (by decide) rfl rfl hl.1 rfl (Nat.le_trans cs_n (by decide)) dX5_objectCalled_3 ⟨Nat.le_trans (gc_le hI) (Nat.le_of_ble_eq_true rfl), Nat.le_trans (gs_le hI) (Nat.le_of_ble_eq_true rfl)⟩ hK hP hD hS hA hG (fun E ce q9 u_2 H locs hw hP hD hS hce hcv hcl => ?_) (fun v9 u_2 H locs hw hP hD hS => ?_)
  · obtain ⟨hE, hw⟩ := hw
    obtain ⟨sgv_3, gmv_3, lgv_3, rfl, hIv_3, ksv_3, kgv_3, klv_3, xMO_v_3, xFN_v_3⟩ := hw
    obtain rfl := KS_nil klv_3
    have hP : va_P (dC, dI) vwCl (cW ad cid a2 lx sgv_3 gmv_3 lg) H := hP
    have hD : va_D A (cW ad cid a2 lx sgv_3 gmv_3 lg) := hD
    refine vx_widen (k := gc gm gm 1) (n := gs gm gm 1) (by unfold gc; omega) (by unfold gs; omega) ?_
    subst hE
    refine mc_catch (own := RX5) (name := "java/lang/UnsupportedOperationException") hown ⟨0, 6, 7, 103⟩ [] hxt (by decide) (by decide) (htb _ kw_1001) (va_Nw.use rfl hG.2.1.1) hce hcv hcl ?_
    refine lv_astore_n (i := 3) (lv' := [(3, .ref q9), (0, eV (ad 6) x), (1, .long nm)]) hx hb dX5_objectCalled_7 rfl hl (by decide) rfl (fun ls hl => ?_)
    refine ec_aload_n hx hb dX5_objectCalled_8 rfl (lv_at hl 1 rfl) ?_
    refine cm_callTV (t := 6) (C := RX5) (T := TX5) (N := 13) (rest := []) (as := []) ⟨hx, hb, hml, hown, htb⟩ (d_stopMaking l dC dI ad cid a2 lx sgv_3 gmv_3 lg x hIv_3 hvx) (cwV 0 htb (gd_V kw_1138 kw_1139 kw_1140 kw_40 kw_1597) rfl rfl rfl (by decide +kernel) ⟨Nat.le_of_ble_eq_true rfl, Nat.le_of_ble_eq_true rfl⟩) hvx (by decide) (by decide) rfl rfl hl.1 rfl (Nat.le_trans cs_n (by decide)) dX5_objectCalled_9 ⟨Nat.le_trans (gc_le hI) (Nat.le_of_ble_eq_true rfl), Nat.le_trans (gs_le hI) (Nat.le_of_ble_eq_true rfl)⟩ hK hP hD hS hA hG (fun E ce q9 u_5 H locs hw hP hD hS hce hcv hcl => ?_) (fun v9 u_5 H locs hw hP hD hS => ?_)
    · exact hw.elim
    obtain ⟨rfl, sgv_6, gmv_6, lgv_6, rfl, hIv_6, ksv_6, kgv_6, klv_6⟩ := hw
    obtain rfl := KS_nil klv_6
    have hP : va_P (dC, dI) vwCl (cW ad cid a2 lx sgv_6 gmv_6 lg) H := hP
    have hD : va_D A (cW ad cid a2 lx sgv_6 gmv_6 lg) := hD
    refine W.eq (g2 := F0 m 12 ls []) rfl ?_
    refine lv_iconst (v := (-1)) hx hb dX5_objectCalled_12 (by decide) ?_
    refine W.widen (k := gc gm gmv_6 1) (n := gs gm gmv_6 1) (gc_e (show gmv_6 42 = gm 42 from (Eq.trans (kgv_6 42 (by decide)) (kgv_3 42 (by decide)))) (by decide)) (gs_e (show gmv_6 42 = gm 42 from (Eq.trans (kgv_6 42 (by decide)) (kgv_3 42 (by decide)))) (by decide)) ?_
    have hm_7 : PHs gm ≤ PHs gmv_6 := by rw [PHs_e (show gmv_6 42 = gm 42 from (Eq.trans (kgv_6 42 (by decide)) (kgv_3 42 (by decide))))]; exact (Nat.le_refl _)
    exact W.nb (fun hN => W.widen (k := 30482) (n := 121932) (Nat.le_trans (gc_l0 (gm := gm) (k := 1) hIv_6) (Nat.le_of_ble_eq_true rfl)) (Nat.le_trans (gs_l0 (gm := gm) (k := 1) hIv_6) (Nat.le_of_ble_eq_true rfl)) (vx_ret (W.iret (v := (-1)) hx hb hr (fun t ht hW => ⟨⟨some (.int (-1)), (a2, lx, sgv_6, gmv_6, lg), rfl, ⟨(-1), rfl, sgv_6, gmv_6, lg, rfl, hIv_6, (KS_tr (L := [13, 14, 15, 16, 17, 18]) (KS_tr (L := [13, 14, 15, 16, 17, 18]) KS_rf ksv_3 (by decide)) ksv_6 (by decide)), (KS_tr (L := [37, 38, 39, 48, 49, 50, 51, 52, 53]) (KS_tr (L := [37, 38, 39, 48, 49, 50, 51, 52, 53]) KS_rf kgv_3 (by decide)) kgv_6 (by decide)), KS_rf, (iv_w (iv_k (by decide) : iv (-1) (-1) (-1)) (by decide)), ((MOK_e xMO_v_3 (show sgv_6 12 = sgv_3 12 from (ksv_6 12 (by decide))) (show gmv_6 35 = gmv_3 35 from (kgv_6 35 (by decide))) (show gmv_6 38 = gmv_3 38 from (kgv_6 38 (by decide))) (show gmv_6 39 = gmv_3 39 from (kgv_6 39 (by decide))) rfl)), ((FND9_e xFN_v_3 (show sgv_6 15 = sgv_3 15 from (ksv_6 15 (by decide))) (show gmv_6 51 = gmv_3 51 from (kgv_6 51 (by decide)))))⟩, ⟨by rw [ht]; exact hP, va_K.moved hW.alike hK, hD⟩, hm_7, by rw [ht]; exact hN⟩, hS.F ht⟩) hS.2.2 dX5_objectCalled_13)))
  obtain ⟨r_1, rfl, sgv_8, gmv_8, lgv_8, rfl, hIv_8, ksv_8, kgv_8, klv_8, hr_1, fMO_r_1, fFN_r_1, fBM_r_1, fWF_r_1⟩ := hw
  obtain rfl := KS_nil klv_8
  have hP : va_P (dC, dI) vwCl (cW ad cid a2 lx sgv_8 gmv_8 lg) H := hP
  have hD : va_D A (cW ad cid a2 lx sgv_8 gmv_8 lg) := hD
  refine W.eq (g2 := F0 m 6 ls [.int r_1]) rfl ?_
  refine W.widen (k := gc gm gmv_8 1) (n := gs gm gmv_8 1) (gc_e (show gmv_8 42 = gm 42 from (kgv_8 42 (by decide))) (by decide)) (gs_e (show gmv_8 42 = gm 42 from (kgv_8 42 (by decide))) (by decide)) ?_
  have hm_9 : PHs gm ≤ PHs gmv_8 := by rw [PHs_e (show gmv_8 42 = gm 42 from (kgv_8 42 (by decide)))]; exact (Nat.le_refl _)
  exact W.nb (fun hN => W.widen (k := 30482) (n := 121932) (Nat.le_trans (gc_l0 (gm := gm) (k := 1) hIv_8) (Nat.le_of_ble_eq_true rfl)) (Nat.le_trans (gs_l0 (gm := gm) (k := 1) hIv_8) (Nat.le_of_ble_eq_true rfl)) (vx_ret (W.iret (v := r_1) hx hb hr (fun t ht hW => ⟨⟨some (.int r_1), (a2, lx, sgv_8, gmv_8, lg), rfl, ⟨r_1, rfl, sgv_8, gmv_8, lg, rfl, hIv_8, (KS_tr (L := [13, 14, 15, 16, 17, 18]) KS_rf ksv_8 (by decide)), (KS_tr (L := [37, 38, 39, 48, 49, 50, 51, 52, 53]) KS_rf kgv_8 (by decide)), KS_rf, (iv_w hr_1 (by decide)), (fMO_r_1), (fFN_r_1)⟩, ⟨by rw [ht]; exact hP, va_K.moved hW.alike hK, hD⟩, hm_9, by rw [ht]; exact hN⟩, hS.F ht⟩) hS.2.2 dX5_objectCalled_6)))

set_option maxHeartbeats 4000000 in
set_option maxRecDepth 100000 in
theorem d_renewsAll (l : Launch) (dC : Nat → ClassId) (dI : Nat → Nat → Nat) (ad : Nat → Nat → Nat) (cid : Nat → ClassId) (a2 : Nat → Nat) (lx : List Nat) (sg : Nat → Int32) (gm : Nat → Nat → Int32) (lg : Nat → Nat → Int64) (hl9 : l.stackTraces = false) (x : Int32) (hI : CI sg gm) (hvx : iv 0 0 x) (hW : WRD sg gm lg) (hLD : LDI lx gm) : CMg dC dI ad cid l yX5_renewsAll wm_X5_renewsAll ({ frames := 343, cells := 30482, slots := 121932, locals := 11064 }) [eV (ad 6) x] a2 lx sg gm lg 1 30482 121932 (fun v u => ∃ r : Int32, v = some (.int r) ∧ ∃ (sg2 : Nat → Int32) (gm2 : Nat → Nat → Int32) (lg2 : Nat → Nat → Int64), u = (a2, lx, sg2, gm2, lg2) ∧ CI sg2 gm2 ∧ KS [13, 14, 15, 16, 17, 18] sg sg2 ∧ KS [37, 38, 39, 48, 49, 50, 51, 52, 53] gm gm2 ∧ KS [] lg lg2 ∧ (iv 0 1 r) ∧ (MOK sg2 gm2 lg2) ∧ (FND9 sg2 gm2)) (fun _ _ => False) := by
  intro sz
  refine vx_ofWH (cc := cX5_renewsAll) (maxL := 3) (ret := (some .boolean)) (by decide) rfl ?_
  intro p e s m args below meth c s₁ B hml hv
  obtain ⟨rfl, hsz, hP, hK, hD0, hG⟩ := hv
  have hx := B.exec
  have hb := B.bytes
  have hr := B.returns
  have hts := atoms_spec (ws := wm_X5_renewsAll) B.pre
  have htb := fun (w : Cond) (h : w ∈ tb) => hts w (List.mem_cons_of_mem _ h)
  have hown : s.vm.findClass RX5 = some m.cls := findClass_of_methodNamed B.named
  have hlocks := B.notSynchronized
  have hxt := vx_table (x := yX5_renewsAll) B (hts _ List.mem_cons_self)
  subst hsz
  have hD := hD0.self (sz := s.heap.size)
  generalize hAe : va_A (cW ad cid a2 lx sg gm lg) s.heap.size = A at hD hG ⊢
  have hA : ∀ q : Nat, s.heap.size ≤ q → A q := fun q h => by rw [← hAe]; exact Or.inr h
  have hS : va_S A s.heap s.heap [] := va_S.rf
  have hl := lv_entry ([eV (ad 6) x]) (n := 3) (by rw [show (lg_sl ([eV (ad 6) x])).length = 1 from by simp [lg_sl, eV_cat, cat_i, cat_l]]; exact Nat.le_of_ble_eq_true rfl)
  rw [lg_entry_eq]
  generalize (lg_sl ([eV (ad 6) x]) ++ List.replicate (3 - (lg_sl ([eV (ad 6) x])).length) Slot.unset).toArray = ls at hl ⊢
  have hl : lv_has ls 3 [(0, eV (ad 6) x)] := by simp [lv_args, eV_cat, cat_i, cat_l] at hl; exact hl
  refine W.widen (k := gc gm gm 0) (n := gs gm gm 0) (Nat.zero_le _) (Nat.zero_le _) ?_
  have hj13 : ∀ (n : Nat) (sg_j13 : Nat → Int32) (gm_j13 : Nat → Nat → Int32) (x1_13 : Int32) (_ : (80 - x1_13.toInt).toNat = n) (_ : iv 0 80 x1_13) (_ : iv 0 0 x) (_ : KS [13, 14, 15, 16, 17, 18] sg sg_j13) (_ : KS [37, 38, 39, 48, 49, 50, 51, 52, 53] gm gm_j13) (_ : CI sg_j13 gm_j13) (_ : MOK sg_j13 gm_j13 lg) (_ : FND9 sg_j13 gm_j13) (_ : PHs gm ≤ PHs gm_j13) (H : Heap) (locs : List Loc) (ls : Array Slot), va_P (dC, dI) vwCl (cW ad cid a2 lx sg_j13 gm_j13 lg) H → va_D A (cW ad cid a2 lx sg_j13 gm_j13 lg) → va_S A s.heap H locs → lv_has ls 3 [(1, .int x1_13), (0, eV (ad 6) x)] → W p l e (headSpec wm_X5_renewsAll ({ frames := 343, cells := 30482, slots := 121932, locals := 11064 })).room s m ([eV (ad 6) x] : List Value).toArray below meth c H locs (gc gm gm_j13 0) (gs gm gm_j13 0) (vx_MQ below (cQg dC dI ad cid (fun v u => ∃ r : Int32, v = some (.int r) ∧ ∃ (sg2 : Nat → Int32) (gm2 : Nat → Nat → Int32) (lg2 : Nat → Nat → Int64), u = (a2, lx, sg2, gm2, lg2) ∧ CI sg2 gm2 ∧ KS [13, 14, 15, 16, 17, 18] sg sg2 ∧ KS [37, 38, 39, 48, 49, 50, 51, 52, 53] gm gm2 ∧ KS [] lg lg2 ∧ (iv 0 1 r) ∧ (MOK sg2 gm2 lg2) ∧ (FND9 sg2 gm2)) 1 gm A) (cXg dC dI ad cid (fun _ _ => False) 1 gm A) ([eV (ad 6) x] : List Value).toArray s 30482 121932 A) (F0 m 13 ls []) := by
    intro n
    induction n using Nat.strongRecOn with
    | ind n ih13 =>
      intro sg_j13 gm_j13 x1_13 hn13 hx1_13 hsx0_13 hks_j13 hkg_j13 hI_j13 hMOj hFNj hm_j13 H locs ls hP hD hS hl
      have hj73 : ∀ (sg_j73 : Nat → Int32) (gm_j73 : Nat → Nat → Int32) (x2_73 : Int32) (_ : iv 0 79 x2_73) (_ : iv 0 79 x1_13) (_ : iv 0 0 x) (_ : KS [13, 14, 15, 16, 17, 18] sg sg_j73) (_ : KS [37, 38, 39, 48, 49, 50, 51, 52, 53] gm gm_j73) (_ : CI sg_j73 gm_j73) (_ : MOK sg_j73 gm_j73 lg) (_ : FND9 sg_j73 gm_j73) (_ : PHs gm ≤ PHs gm_j73) (H : Heap) (locs : List Loc) (ls : Array Slot), va_P (dC, dI) vwCl (cW ad cid a2 lx sg_j73 gm_j73 lg) H → va_D A (cW ad cid a2 lx sg_j73 gm_j73 lg) → va_S A s.heap H locs → lv_has ls 3 [(2, eV (ad 10) x2_73), (1, .int x1_13), (0, eV (ad 6) x)] → W p l e (headSpec wm_X5_renewsAll ({ frames := 343, cells := 30482, slots := 121932, locals := 11064 })).room s m ([eV (ad 6) x] : List Value).toArray below meth c H locs (gc gm gm_j73 0) (gs gm gm_j73 0) (vx_MQ below (cQg dC dI ad cid (fun v u => ∃ r : Int32, v = some (.int r) ∧ ∃ (sg2 : Nat → Int32) (gm2 : Nat → Nat → Int32) (lg2 : Nat → Nat → Int64), u = (a2, lx, sg2, gm2, lg2) ∧ CI sg2 gm2 ∧ KS [13, 14, 15, 16, 17, 18] sg sg2 ∧ KS [37, 38, 39, 48, 49, 50, 51, 52, 53] gm gm2 ∧ KS [] lg lg2 ∧ (iv 0 1 r) ∧ (MOK sg2 gm2 lg2) ∧ (FND9 sg2 gm2)) 1 gm A) (cXg dC dI ad cid (fun _ _ => False) 1 gm A) ([eV (ad 6) x] : List Value).toArray s 30482 121932 A) (F0 m 73 ls []) := by
        intro sg_j73 gm_j73 x2_73 hx2_73 hsx1_73 hsx0_73 hks_j73 hkg_j73 hI_j73 hMOk hFNk hm_j73 H locs ls hP hD hS hl
        obtain ⟨z_1, ez_1⟩ : ∃ z : Int32, z = x1_13 + 1 := ⟨_, rfl⟩
        have hz_1 : iv 1 80 z_1 := iv_of ez_1 (iv_add hsx1_73 (iv_k (by decide) : iv 1 1 1) (by decide))
        have tz_1 : z_1.toInt = x1_13.toInt + 1 := by rw [ez_1]; exact iv_addE hsx1_73 (iv_k (by decide) : iv 1 1 1) (by decide)
        refine lv_iinc (v := z_1) (lv' := [(1, .int z_1), (2, eV (ad 10) x2_73), (0, eV (ad 6) x)]) hx hb dX5_renewsAll_73 hl (k := 1) rfl ez_1.symm (by decide) (by simp [List.filter, eV_cat, cat_i, cat_l]) (fun ls hl => ?_)
        refine lv_goto (tgt := 13) hx hb dX5_renewsAll_76 (by decide) ?_
        exact ih13 _ (by rw [← hn13]; exact (iv_meas tz_1 hsx1_73 (by decide))) sg_j73 gm_j73 z_1 rfl (iv_w hz_1 (by decide)) hsx0_73 (KS_tr (L := [13, 14, 15, 16, 17, 18]) KS_rf hks_j73 (by decide)) (KS_tr (L := [37, 38, 39, 48, 49, 50, 51, 52, 53]) KS_rf hkg_j73 (by decide)) hI_j73 (hMOk) (hFNk) hm_j73 _ _ _ hP hD hS (lv_sub hl [0, 2] rfl)
      refine lv_iload_n hx hb dX5_renewsAll_13 rfl (lv_at hl 0 rfl) ?_
      refine ec_aload_n hx hb dX5_renewsAll_14 rfl (lv_at hl 1 rfl) ?_
      refine cr_get (t := 6) (j := 0) (C := RX5) (T := TX5) (N := 13) (v := eV (ad 4) 0) hx hb htb inX5 hown hK hP hsx0_13 (by decide) (by decide) (by decide) rfl (by decide) (htb _ kw_121) (cV_c rfl (by decide) (by rw [show cMu 6 0 = 0 from rfl, Nat.zero_mul]; rfl)) dX5_renewsAll_15 ?_
      refine cm_callTV (t := 4) (C := RX10) (T := TX10) (N := 4) (rest := [.int x1_13]) (as := []) ⟨hx, hb, hml, hown, htb⟩ (d_countWi l dC dI ad cid a2 lx sg_j13 gm_j13 lg 0 hI_j13 (iv_k (by decide) : iv 0 0 0)) (cwV 0 htb (gd_V kw_322 kw_323 kw_324 kw_32 kw_1413) rfl rfl rfl (by decide +kernel) ⟨Nat.le_of_ble_eq_true rfl, Nat.le_of_ble_eq_true rfl⟩) (iv_k (by decide) : iv 0 0 0) (by decide) (by decide) rfl rfl hl.1 rfl (Nat.le_trans (cs_c (cat_i _) cs_n) (by decide)) dX5_renewsAll_18 ⟨Nat.le_trans (gc_le hI_j13) (Nat.le_of_ble_eq_true rfl), Nat.le_trans (gs_le hI_j13) (Nat.le_of_ble_eq_true rfl)⟩ hK hP hD hS hA hG (fun E ce q9 u_3 H locs hw hP hD hS hce hcv hcl => ?_) (fun v9 u_3 H locs hw hP hD hS => ?_)
      · exact hw.elim
      obtain ⟨r_2, rfl, rfl, hr_2, fr_r_2⟩ := hw
      have hP : va_P (dC, dI) vwCl (cW ad cid a2 lx sg_j13 gm_j13 lg) H := hP
      have hD : va_D A (cW ad cid a2 lx sg_j13 gm_j13 lg) := hD
      refine W.eq (g2 := F0 m 21 ls [.int r_2, .int x1_13]) rfl ?_
      refine lv_icmp_ge (tgt := 79) hx hb dX5_renewsAll_21 (by decide) (fun c_5 => ?_) (fun c_5 => ?_)
      · have d_6 : (r_2 : Int32).toInt ≤ (x1_13 : Int32).toInt := Int32.le_iff_toInt_le.mp c_5
        refine lv_goto (tgt := 93) hx hb dX5_renewsAll_79 (by decide) ?_
        refine lv_iconst (v := 1) hx hb dX5_renewsAll_93 (by decide) ?_
        refine W.widen (k := gc gm gm_j13 1) (n := gs gm gm_j13 1) (gc_e rfl (by decide)) (gs_e rfl (by decide)) ?_
        exact W.nb (fun hN => W.widen (k := 30482) (n := 121932) (Nat.le_trans (gc_l0 (gm := gm) (k := 1) hI_j13) (Nat.le_of_ble_eq_true rfl)) (Nat.le_trans (gs_l0 (gm := gm) (k := 1) hI_j13) (Nat.le_of_ble_eq_true rfl)) (vx_ret (W.zret (v := 1) hx hb hr (iv_nb (iv_w (iv_k (by decide) : iv 1 1 1) (by decide))) (fun t ht hW => ⟨⟨some (.int 1), (a2, lx, sg_j13, gm_j13, lg), rfl, ⟨1, rfl, sg_j13, gm_j13, lg, rfl, hI_j13, (KS_tr (L := [13, 14, 15, 16, 17, 18]) KS_rf hks_j13 (by decide)), (KS_tr (L := [37, 38, 39, 48, 49, 50, 51, 52, 53]) KS_rf hkg_j13 (by decide)), KS_rf, (iv_w (iv_k (by decide) : iv 1 1 1) (by decide)), (hMOj), (hFNj)⟩, ⟨by rw [ht]; exact hP, va_K.moved hW.alike hK, hD⟩, hm_j13, by rw [ht]; exact hN⟩, hS.F ht⟩) hS.2.2 dX5_renewsAll_94)))
      · have d_7 : (x1_13 : Int32).toInt < (r_2 : Int32).toInt := Int32.lt_iff_toInt_lt.mp (i32_lt c_5)
        have h_8 : iv 0 79 x1_13 := iv_ltL (i32_lt c_5) hx1_13 hr_2 (by decide)
        have h_9 : iv 1 80 r_2 := iv_ltR (i32_lt c_5) hx1_13 hr_2 (by decide)
        refine ec_aload_n hx hb dX5_renewsAll_24 rfl (lv_at hl 1 rfl) ?_
        refine cr_get (t := 6) (j := 0) (C := RX5) (T := TX5) (N := 13) (v := eV (ad 4) 0) hx hb htb inX5 hown hK hP hsx0_13 (by decide) (by decide) (by decide) rfl (by decide) (htb _ kw_121) (cV_c rfl (by decide) (by rw [show cMu 6 0 = 0 from rfl, Nat.zero_mul]; rfl)) dX5_renewsAll_25 ?_
        refine lv_iload_n hx hb dX5_renewsAll_28 rfl (lv_at hl 0 rfl) ?_
        refine cm_callTV (t := 4) (C := RX10) (T := TX10) (N := 4) (rest := []) (as := [.int x1_13]) ⟨hx, hb, hml, hown, htb⟩ (d_numbered l dC dI ad cid a2 lx sg_j13 gm_j13 lg 0 x1_13 hI_j13 (iv_k (by decide) : iv 0 0 0) h_8) (cwV 1 htb (gd_V kw_326 kw_327 kw_328 kw_32 kw_1414) rfl rfl rfl (by decide +kernel) ⟨Nat.le_of_ble_eq_true rfl, Nat.le_of_ble_eq_true rfl⟩) (iv_k (by decide) : iv 0 0 0) (by decide) (by decide) rfl rfl hl.1 rfl (Nat.le_trans cs_n (by decide)) dX5_renewsAll_29 ⟨Nat.le_trans (gc_le hI_j13) (Nat.le_of_ble_eq_true rfl), Nat.le_trans (gs_le hI_j13) (Nat.le_of_ble_eq_true rfl)⟩ hK hP hD hS hA hG (fun E ce q9 u_11 H locs hw hP hD hS hce hcv hcl => ?_) (fun v9 u_11 H locs hw hP hD hS => ?_)
        · exact hw.elim
        obtain ⟨r_10, rfl, rfl, hr_10, fr_r_10⟩ := hw
        have hP : va_P (dC, dI) vwCl (cW ad cid a2 lx sg_j13 gm_j13 lg) H := hP
        have hD : va_D A (cW ad cid a2 lx sg_j13 gm_j13 lg) := hD
        refine W.eq (g2 := F0 m 32 ls [eV (ad 10) r_10]) rfl ?_
        refine ec_astore_n (i := 2) (lv' := [(2, eV (ad 10) r_10), (1, .int x1_13), (0, eV (ad 6) x)]) hx hb dX5_renewsAll_32 rfl hl (by decide) rfl (fun ls hl => ?_)
        refine ec_aload_n hx hb dX5_renewsAll_33 rfl (lv_at hl 0 rfl) ?_
        refine cr_get (t := 10) (j := 5) (C := RX1) (T := TX1) (N := 19) (v := .long (lg 4 r_10.toNatClampNeg)) hx hb htb inX1 hown hK hP hr_10 (by decide) (by decide) (by decide) rfl (by decide) (htb _ kw_1002) rfl dX5_renewsAll_34 ?_
        refine lv_topl (fun z_13 ez_13 => ?_)
        refine lv_lconst (v := 0) hx hb dX5_renewsAll_37 (by decide) ?_
        refine W.lcmp hx hb dX5_renewsAll_38 ?_
        refine lv_topi (fun z_14 ez_14 => ?_)
        have hz_14 : iv (-1) 1 z_14 := iv_of ez_14 (iv_cmp _ _)
        refine lv_if_eq (tgt := 73) hx hb dX5_renewsAll_39 (by decide) (fun c_15 => ?_) (fun c_15 => ?_)
        · have h_16 : iv 0 0 z_14 := iv_eq c_15 hz_14 (iv_k (by decide) : iv 0 0 0) (by decide)
          exact hj73 sg_j13 gm_j13 r_10 hr_10 h_8 hsx0_13 (KS_tr (L := [13, 14, 15, 16, 17, 18]) KS_rf hks_j13 (by decide)) (KS_tr (L := [37, 38, 39, 48, 49, 50, 51, 52, 53]) KS_rf hkg_j13 (by decide)) hI_j13 (hMOj) (hFNj) hm_j13 _ _ _ hP hD hS (lv_sub hl [0, 1, 2] rfl)
        · have d_17 : ¬ (z_14 : Int32).toInt = 0 := lv_neT c_15 rfl
          refine ec_aload_n hx hb dX5_renewsAll_42 rfl (lv_at hl 0 rfl) ?_
          refine cr_get (t := 10) (j := 13) (C := RX1) (T := TX1) (N := 19) (v := .int (gm_j13 34 r_10.toNatClampNeg)) hx hb htb inX1 hown hK hP hr_10 (by decide) (by decide) (by decide) rfl (by decide) (htb _ kw_1003) rfl dX5_renewsAll_43 ?_
          obtain ⟨z_18, ez_18⟩ : ∃ z : Int32, z = (gm_j13 34 r_10.toNatClampNeg) := ⟨_, rfl⟩
          refine W.eq (g2 := F0 m 46 ls [.int z_18]) (by rw [ez_18]) ?_
          have hz_18 : iv 0 1 z_18 := iv_of ez_18 (CI_a hI_j13 34 hr_10 (by decide))
          have ez_18 := ez_18.trans (congrFun (hkg_j13 34 (by decide)) _)
          refine lv_if_ne (tgt := 73) hx hb dX5_renewsAll_46 (by decide) (fun c_19 => ?_) (fun c_19 => ?_)
          · have h_20 : iv 1 1 z_18 := iv_neL c_19 hz_18 (by decide)
            exact hj73 sg_j13 gm_j13 r_10 hr_10 h_8 hsx0_13 (KS_tr (L := [13, 14, 15, 16, 17, 18]) KS_rf hks_j13 (by decide)) (KS_tr (L := [37, 38, 39, 48, 49, 50, 51, 52, 53]) KS_rf hkg_j13 (by decide)) hI_j13 (hMOj) (hFNj) hm_j13 _ _ _ hP hD hS (lv_sub hl [0, 1, 2] rfl)
          · have h_21 : iv 0 0 z_18 := iv_eq c_19 hz_18 (iv_k (by decide) : iv 0 0 0) (by decide)
            refine ec_aload_n hx hb dX5_renewsAll_49 rfl (lv_at hl 0 rfl) ?_
            refine cr_get (t := 10) (j := 14) (C := RX1) (T := TX1) (N := 19) (v := .int (gm_j13 35 r_10.toNatClampNeg)) hx hb htb inX1 hown hK hP hr_10 (by decide) (by decide) (by decide) rfl (by decide) (htb _ kw_1004) rfl dX5_renewsAll_50 ?_
            obtain ⟨z_22, ez_22⟩ : ∃ z : Int32, z = (gm_j13 35 r_10.toNatClampNeg) := ⟨_, rfl⟩
            refine W.eq (g2 := F0 m 53 ls [.int z_22]) (by rw [ez_22]) ?_
            have hz_22 : iv 0 1 z_22 := iv_of ez_22 (CI_a hI_j13 35 hr_10 (by decide))
            have ez_22 := ez_22.trans (congrFun (hkg_j13 35 (by decide)) _)
            refine lv_if_ne (tgt := 73) hx hb dX5_renewsAll_53 (by decide) (fun c_23 => ?_) (fun c_23 => ?_)
            · have h_24 : iv 1 1 z_22 := iv_neL c_23 hz_22 (by decide)
              exact hj73 sg_j13 gm_j13 r_10 hr_10 h_8 hsx0_13 (KS_tr (L := [13, 14, 15, 16, 17, 18]) KS_rf hks_j13 (by decide)) (KS_tr (L := [37, 38, 39, 48, 49, 50, 51, 52, 53]) KS_rf hkg_j13 (by decide)) hI_j13 (hMOj) (hFNj) hm_j13 _ _ _ hP hD hS (lv_sub hl [0, 1, 2] rfl)
            · have h_25 : iv 0 0 z_22 := iv_eq c_23 hz_22 (iv_k (by decide) : iv 0 0 0) (by decide)
              refine ec_aload_n hx hb dX5_renewsAll_56 rfl (lv_at hl 0 rfl) ?_
              refine cr_get (t := 10) (j := 15) (C := RX1) (T := TX1) (N := 19) (v := .int (gm_j13 36 r_10.toNatClampNeg)) hx hb htb inX1 hown hK hP hr_10 (by decide) (by decide) (by decide) rfl (by decide) (htb _ kw_1005) rfl dX5_renewsAll_57 ?_
              obtain ⟨z_26, ez_26⟩ : ∃ z : Int32, z = (gm_j13 36 r_10.toNatClampNeg) := ⟨_, rfl⟩
              refine W.eq (g2 := F0 m 60 ls [.int z_26]) (by rw [ez_26]) ?_
              have hz_26 : iv 0 1 z_26 := iv_of ez_26 (CI_a hI_j13 36 hr_10 (by decide))
              have ez_26 := ez_26.trans (congrFun (hkg_j13 36 (by decide)) _)
              refine lv_if_ne (tgt := 73) hx hb dX5_renewsAll_60 (by decide) (fun c_27 => ?_) (fun c_27 => ?_)
              · have h_28 : iv 1 1 z_26 := iv_neL c_27 hz_26 (by decide)
                exact hj73 sg_j13 gm_j13 r_10 hr_10 h_8 hsx0_13 (KS_tr (L := [13, 14, 15, 16, 17, 18]) KS_rf hks_j13 (by decide)) (KS_tr (L := [37, 38, 39, 48, 49, 50, 51, 52, 53]) KS_rf hkg_j13 (by decide)) hI_j13 (hMOj) (hFNj) hm_j13 _ _ _ hP hD hS (lv_sub hl [0, 1, 2] rfl)
              · have h_29 : iv 0 0 z_26 := iv_eq c_27 hz_26 (iv_k (by decide) : iv 0 0 0) (by decide)
                refine ec_aload_n hx hb dX5_renewsAll_63 rfl (lv_at hl 2 rfl) ?_
                refine ec_aload_n hx hb dX5_renewsAll_64 rfl (lv_at hl 0 rfl) ?_
                refine cr_get (t := 10) (j := 5) (C := RX1) (T := TX1) (N := 19) (v := .long (lg 4 r_10.toNatClampNeg)) hx hb htb inX1 hown hK hP hr_10 (by decide) (by decide) (by decide) rfl (by decide) (htb _ kw_1002) rfl dX5_renewsAll_65 ?_
                refine lv_topl (fun z_30 ez_30 => ?_)
                refine lv_iconst (v := 0) hx hb dX5_renewsAll_68 (by decide) ?_
                refine cm_callTV (t := 6) (C := RX5) (T := TX5) (N := 13) (rest := []) (as := [.long z_30, .int 0]) ⟨hx, hb, hml, hown, htb⟩ ((d_rec l dC dI ad cid a2 lx hl9 40).2 sg_j13 gm_j13 lg x z_30 0 hI_j13 hsx0_13 (iv_w (iv_k (by decide) : iv 0 0 0) (by decide)) (WRD_e hW (hks_j13 4 (by decide)) (hks_j13 12 (by decide)) (hkg_j13 14 (by decide)) (hkg_j13 15 (by decide)) (hkg_j13 16 (by decide)) (hkg_j13 17 (by decide)) (hkg_j13 19 (by decide)) (hkg_j13 20 (by decide)) (hkg_j13 22 (by decide)) (hkg_j13 25 (by decide)) (hkg_j13 26 (by decide)) (hkg_j13 27 (by decide)) (hkg_j13 29 (by decide)) (hkg_j13 41 (by decide)) (hkg_j13 44 (by decide)) (hkg_j13 45 (by decide)) (hkg_j13 46 (by decide)) (hkg_j13 57 (by decide)) rfl rfl) (LDI_e hLD (hkg_j13 41 (by decide)) (hkg_j13 42 (by decide)) (hkg_j13 57 (by decide))) hMOj hFNj (by decide)) (cwV 2 htb (gd_V kw_1006 kw_1007 kw_1008 kw_40 kw_1568) rfl rfl rfl (by decide +kernel) ⟨Nat.le_of_ble_eq_true rfl, Nat.le_of_ble_eq_true rfl⟩) hsx0_13 (by decide) (by decide) rfl rfl hl.1 rfl (Nat.le_trans cs_n (by decide)) dX5_renewsAll_69 ⟨Nat.le_trans (gc_le hI_j13) (Nat.le_of_ble_eq_true rfl), Nat.le_trans (gs_le hI_j13) (Nat.le_of_ble_eq_true rfl)⟩ hK hP hD hS hA hG (fun E ce q9 u_32 H locs hw hP hD hS hce hcv hcl => ?_) (fun v9 u_32 H locs hw hP hD hS => ?_)
                · obtain ⟨hE, hw⟩ := hw
                  obtain ⟨sgv_33, gmv_33, lgv_33, rfl, hIv_33, ksv_33, kgv_33, klv_33, xMO_v_33, xFN_v_33⟩ := hw
                  obtain rfl := KS_nil klv_33
                  have hP : va_P (dC, dI) vwCl (cW ad cid a2 lx sgv_33 gmv_33 lg) H := hP
                  have hD : va_D A (cW ad cid a2 lx sgv_33 gmv_33 lg) := hD
                  refine vx_widen (k := gc gm gm_j13 1) (n := gs gm gm_j13 1) (by unfold gc; omega) (by unfold gs; omega) ?_
                  subst hE
                  refine mc_catch (own := RX5) (name := "java/lang/UnsupportedOperationException") hown ⟨11, 79, 82, 103⟩ [] hxt (by decide) (by decide) (htb _ kw_1001) (va_Nw.use rfl hG.2.1.1) hce hcv hcl ?_
                  refine lv_astore_n (i := 1) (lv' := [(1, .ref q9), (2, eV (ad 10) r_10), (0, eV (ad 6) x)]) hx hb dX5_renewsAll_82 rfl hl (by decide) (by simp [List.filter, eV_cat, cat_i, cat_l]) (fun ls hl => ?_)
                  refine ec_aload_n hx hb dX5_renewsAll_83 rfl (lv_at hl 2 rfl) ?_
                  refine cm_callTV (t := 6) (C := RX5) (T := TX5) (N := 13) (rest := []) (as := []) ⟨hx, hb, hml, hown, htb⟩ (d_stopMaking l dC dI ad cid a2 lx sgv_33 gmv_33 lg x hIv_33 hsx0_13) (cwV 0 htb (gd_V kw_1138 kw_1139 kw_1140 kw_40 kw_1597) rfl rfl rfl (by decide +kernel) ⟨Nat.le_of_ble_eq_true rfl, Nat.le_of_ble_eq_true rfl⟩) hsx0_13 (by decide) (by decide) rfl rfl hl.1 rfl (Nat.le_trans cs_n (by decide)) dX5_renewsAll_84 ⟨Nat.le_trans (gc_le hI_j13) (Nat.le_of_ble_eq_true rfl), Nat.le_trans (gs_le hI_j13) (Nat.le_of_ble_eq_true rfl)⟩ hK hP hD hS hA hG (fun E ce q9 u_35 H locs hw hP hD hS hce hcv hcl => ?_) (fun v9 u_35 H locs hw hP hD hS => ?_)
                  · exact hw.elim
                  obtain ⟨rfl, sgv_36, gmv_36, lgv_36, rfl, hIv_36, ksv_36, kgv_36, klv_36⟩ := hw
                  obtain rfl := KS_nil klv_36
                  have hP : va_P (dC, dI) vwCl (cW ad cid a2 lx sgv_36 gmv_36 lg) H := hP
                  have hD : va_D A (cW ad cid a2 lx sgv_36 gmv_36 lg) := hD
                  refine W.eq (g2 := F0 m 87 ls []) rfl ?_
                  refine ec_aload_n hx hb dX5_renewsAll_87 rfl (lv_at hl 2 rfl) ?_
                  refine cm_callTV (t := 6) (C := RX5) (T := TX5) (N := 13) (rest := []) (as := []) ⟨hx, hb, hml, hown, htb⟩ (d_destroyAll l dC dI ad cid a2 lx sgv_36 gmv_36 lg x hIv_36 hsx0_13 (FND9_e xFN_v_33 (show sgv_36 15 = sgv_33 15 from (ksv_36 15 (by decide))) (show gmv_36 51 = gmv_33 51 from (kgv_36 51 (by decide))))) (cwV 0 htb (gd_V kw_1141 kw_1142 kw_1143 kw_40 kw_1598) rfl rfl rfl (by decide +kernel) ⟨Nat.le_of_ble_eq_true rfl, Nat.le_of_ble_eq_true rfl⟩) hsx0_13 (by decide) (by decide) rfl rfl hl.1 rfl (Nat.le_trans cs_n (by decide)) dX5_renewsAll_88 ⟨Nat.le_trans (gc_le hI_j13) (Nat.le_of_ble_eq_true rfl), Nat.le_trans (gs_le hI_j13) (Nat.le_of_ble_eq_true rfl)⟩ hK hP hD hS hA hG (fun E ce q9 u_38 H locs hw hP hD hS hce hcv hcl => ?_) (fun v9 u_38 H locs hw hP hD hS => ?_)
                  · exact hw.elim
                  obtain ⟨rfl, sgv_39, gmv_39, lgv_39, rfl, hIv_39, ksv_39, kgv_39, klv_39, fM_r_37, f15_r_37⟩ := hw
                  obtain rfl := KS_nil klv_39
                  have hP : va_P (dC, dI) vwCl (cW ad cid a2 lx sgv_39 gmv_39 lg) H := hP
                  have hD : va_D A (cW ad cid a2 lx sgv_39 gmv_39 lg) := hD
                  refine W.eq (g2 := F0 m 91 ls []) rfl ?_
                  have hMO_r_37 : MOK sgv_39 gmv_39 lg := MOK_0 (fun c9 q9 => fM_r_37 c9 (by rw [← (show sgv_39 12 = sgv_36 12 from (show sgv_39 12 = sgv_36 12 from (ksv_39 12 (by decide))))]; exact q9))
                  refine lv_iconst (v := 0) hx hb dX5_renewsAll_91 (by decide) ?_
                  refine W.widen (k := gc gm gmv_39 1) (n := gs gm gmv_39 1) (gc_e (show gmv_39 42 = gm_j13 42 from (Eq.trans (kgv_39 42 (by decide)) (Eq.trans (kgv_36 42 (by decide)) (kgv_33 42 (by decide))))) (by decide)) (gs_e (show gmv_39 42 = gm_j13 42 from (Eq.trans (kgv_39 42 (by decide)) (Eq.trans (kgv_36 42 (by decide)) (kgv_33 42 (by decide))))) (by decide)) ?_
                  have hm_40 : PHs gm ≤ PHs gmv_39 := by rw [PHs_e (show gmv_39 42 = gm_j13 42 from (Eq.trans (kgv_39 42 (by decide)) (Eq.trans (kgv_36 42 (by decide)) (kgv_33 42 (by decide)))))]; exact hm_j13
                  exact W.nb (fun hN => W.widen (k := 30482) (n := 121932) (Nat.le_trans (gc_l0 (gm := gm) (k := 1) hIv_39) (Nat.le_of_ble_eq_true rfl)) (Nat.le_trans (gs_l0 (gm := gm) (k := 1) hIv_39) (Nat.le_of_ble_eq_true rfl)) (vx_ret (W.zret (v := 0) hx hb hr (iv_nb (iv_w (iv_k (by decide) : iv 0 0 0) (by decide))) (fun t ht hW => ⟨⟨some (.int 0), (a2, lx, sgv_39, gmv_39, lg), rfl, ⟨0, rfl, sgv_39, gmv_39, lg, rfl, hIv_39, (KS_tr (L := [13, 14, 15, 16, 17, 18]) (KS_tr (L := [13, 14, 15, 16, 17, 18]) (KS_tr (L := [13, 14, 15, 16, 17, 18]) (KS_tr (L := [13, 14, 15, 16, 17, 18]) KS_rf hks_j13 (by decide)) ksv_33 (by decide)) ksv_36 (by decide)) ksv_39 (by decide)), (KS_tr (L := [37, 38, 39, 48, 49, 50, 51, 52, 53]) (KS_tr (L := [37, 38, 39, 48, 49, 50, 51, 52, 53]) (KS_tr (L := [37, 38, 39, 48, 49, 50, 51, 52, 53]) (KS_tr (L := [37, 38, 39, 48, 49, 50, 51, 52, 53]) KS_rf hkg_j13 (by decide)) kgv_33 (by decide)) kgv_36 (by decide)) kgv_39 (by decide)), KS_rf, (iv_w (iv_k (by decide) : iv 0 0 0) (by decide)), (hMO_r_37), ((FND9_0 f15_r_37))⟩, ⟨by rw [ht]; exact hP, va_K.moved hW.alike hK, hD⟩, hm_40, by rw [ht]; exact hN⟩, hS.F ht⟩) hS.2.2 dX5_renewsAll_92)))
                obtain ⟨r_31, rfl, sgv_41, gmv_41, lgv_41, rfl, hIv_41, ksv_41, kgv_41, klv_41, hr_31, fMO_r_31, fFN_r_31, fBM_r_31, fWF_r_31⟩ := hw
                obtain rfl := KS_nil klv_41
                have hP : va_P (dC, dI) vwCl (cW ad cid a2 lx sgv_41 gmv_41 lg) H := hP
                have hD : va_D A (cW ad cid a2 lx sgv_41 gmv_41 lg) := hD
                refine W.eq (g2 := F0 m 72 ls [.int r_31]) rfl ?_
                refine lv_pop hx hb dX5_renewsAll_72 rfl ?_
                refine W.widen (k := gc gm gmv_41 0) (n := gs gm gmv_41 0) (gc_e (show gmv_41 42 = gm_j13 42 from (kgv_41 42 (by decide))) (by decide)) (gs_e (show gmv_41 42 = gm_j13 42 from (kgv_41 42 (by decide))) (by decide)) ?_
                have hm_42 : PHs gm ≤ PHs gmv_41 := by rw [PHs_e (show gmv_41 42 = gm_j13 42 from (kgv_41 42 (by decide)))]; exact hm_j13
                exact hj73 sgv_41 gmv_41 r_10 hr_10 h_8 hsx0_13 (KS_tr (L := [13, 14, 15, 16, 17, 18]) (KS_tr (L := [13, 14, 15, 16, 17, 18]) KS_rf hks_j13 (by decide)) ksv_41 (by decide)) (KS_tr (L := [37, 38, 39, 48, 49, 50, 51, 52, 53]) (KS_tr (L := [37, 38, 39, 48, 49, 50, 51, 52, 53]) KS_rf hkg_j13 (by decide)) kgv_41 (by decide)) hIv_41 (fMO_r_31) (fFN_r_31) hm_42 _ _ _ hP hD hS (lv_sub hl [0, 1, 2] rfl)
  refine ec_aload_n hx hb dX5_renewsAll_0 rfl (lv_at hl 0 rfl) ?_
  refine cm_callTV (t := 6) (C := RX5) (T := TX5) (N := 13) (rest := []) (as := []) ⟨hx, hb, hml, hown, htb⟩ (d_forgetMade l dC dI ad cid a2 lx sg gm lg x hI hvx) (cwV 0 htb (gd_V kw_317 kw_318 kw_319 kw_40 kw_1412) rfl rfl rfl (by decide +kernel) ⟨Nat.le_of_ble_eq_true rfl, Nat.le_of_ble_eq_true rfl⟩) hvx (by decide) (by decide) rfl rfl hl.1 rfl (Nat.le_trans cs_n (by decide)) dX5_renewsAll_1 ⟨Nat.le_trans (gc_le hI) (Nat.le_of_ble_eq_true rfl), Nat.le_trans (gs_le hI) (Nat.le_of_ble_eq_true rfl)⟩ hK hP hD hS hA hG (fun E ce q9 u_44 H locs hw hP hD hS hce hcv hcl => ?_) (fun v9 u_44 H locs hw hP hD hS => ?_)
  · exact hw.elim
  obtain ⟨rfl, sgv_45, gmv_45, lgv_45, rfl, hIv_45, ksv_45, kgv_45, klv_45, fM_r_43, f15_r_43⟩ := hw
  obtain rfl := KS_nil klv_45
  have hP : va_P (dC, dI) vwCl (cW ad cid a2 lx sgv_45 gmv_45 lg) H := hP
  have hD : va_D A (cW ad cid a2 lx sgv_45 gmv_45 lg) := hD
  refine W.eq (g2 := F0 m 4 ls []) rfl ?_
  have hMO_r_43 : MOK sgv_45 gmv_45 lg := MOK_0 (fun c9 q9 => fM_r_43 c9 (by rw [← (show sgv_45 12 = sg 12 from (show sgv_45 12 = sg 12 from (ksv_45 12 (by decide))))]; exact q9))
  refine ec_aload_n hx hb dX5_renewsAll_4 rfl (lv_at hl 0 rfl) ?_
  refine cr_get (t := 6) (j := 2) (C := RX5) (T := TX5) (N := 13) (v := eV (ad 5) 0) hx hb htb inX5 hown hK hP hvx (by decide) (by decide) (by decide) rfl (by decide) (htb _ kw_123) (cV_c rfl (by decide) (by rw [show cMu 6 2 = 0 from rfl, Nat.zero_mul]; rfl)) dX5_renewsAll_5 ?_
  refine cm_callTV (t := 5) (C := RX4) (T := TX4) (N := 2) (rest := []) (as := []) ⟨hx, hb, hml, hown, htb⟩ (d_clearEv l dC dI ad cid a2 lx sgv_45 gmv_45 lg 0 hIv_45 (iv_k (by decide) : iv 0 0 0)) (cwV 0 htb (gd_V kw_329 kw_330 kw_331 kw_36 kw_1415) rfl rfl rfl (by decide +kernel) ⟨Nat.le_of_ble_eq_true rfl, Nat.le_of_ble_eq_true rfl⟩) (iv_k (by decide) : iv 0 0 0) (by decide) (by decide) rfl rfl hl.1 rfl (Nat.le_trans cs_n (by decide)) dX5_renewsAll_8 ⟨Nat.le_trans (gc_le hI) (Nat.le_of_ble_eq_true rfl), Nat.le_trans (gs_le hI) (Nat.le_of_ble_eq_true rfl)⟩ hK hP hD hS hA hG (fun E ce q9 u_47 H locs hw hP hD hS hce hcv hcl => ?_) (fun v9 u_47 H locs hw hP hD hS => ?_)
  · exact hw.elim
  obtain ⟨rfl, sgv_48, gmv_48, lgv_48, rfl, hIv_48, ksv_48, kgv_48, klv_48⟩ := hw
  obtain rfl := KS_nil kgv_48
  obtain rfl := KS_nil klv_48
  have hP : va_P (dC, dI) vwCl (cW ad cid a2 lx sgv_48 gmv_45 lg) H := hP
  have hD : va_D A (cW ad cid a2 lx sgv_48 gmv_45 lg) := hD
  refine W.eq (g2 := F0 m 11 ls []) rfl ?_
  refine lv_iconst (v := 0) hx hb dX5_renewsAll_11 (by decide) ?_
  refine lv_istore_n (i := 1) (lv' := [(1, .int 0), (0, eV (ad 6) x)]) hx hb dX5_renewsAll_12 rfl hl (by decide) (by simp [List.filter, eV_cat, cat_i, cat_l]) (fun ls hl => ?_)
  refine W.widen (k := gc gm gmv_45 0) (n := gs gm gmv_45 0) (gc_e (show gmv_45 42 = gm 42 from (kgv_45 42 (by decide))) (by decide)) (gs_e (show gmv_45 42 = gm 42 from (kgv_45 42 (by decide))) (by decide)) ?_
  have hm_49 : PHs gm ≤ PHs gmv_45 := by rw [PHs_e (show gmv_45 42 = gm 42 from (kgv_45 42 (by decide)))]; exact (Nat.le_refl _)
  exact hj13 _ sgv_48 gmv_45 0 rfl (iv_w (iv_k (by decide) : iv 0 0 0) (by decide)) hvx (KS_tr (L := [13, 14, 15, 16, 17, 18]) (KS_tr (L := [13, 14, 15, 16, 17, 18]) KS_rf ksv_45 (by decide)) ksv_48 (by decide)) (KS_tr (L := [37, 38, 39, 48, 49, 50, 51, 52, 53]) KS_rf kgv_45 (by decide)) hIv_48 ((MOK_e hMO_r_43 (show sgv_48 12 = sgv_45 12 from (ksv_48 12 (by decide))) rfl rfl rfl rfl)) ((FND9_e (FND9_0 f15_r_43) (show sgv_48 15 = sgv_45 15 from (ksv_48 15 (by decide))) rfl)) hm_49 _ _ _ hP hD hS (lv_sub hl [0, 1] rfl)
