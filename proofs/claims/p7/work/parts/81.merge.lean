
theorem OVS_k {b : Nat} {gm gm2 : Nat → Nat → Int32} (h41 : gm2 41 = gm 41) (h57 : gm2 57 = gm 57) : OVS b gm gm2 := fun q2 _ _ _ => ⟨by rw [h41], fun j _ => by rw [h57]⟩

set_option maxHeartbeats 4000000 in
set_option maxRecDepth 100000 in
theorem d_merge (l : Launch) (dC : Nat → ClassId) (dI : Nat → Nat → Nat) (ad : Nat → Nat → Nat) (cid : Nat → ClassId) (a2 : Nat → Nat) (lx : List Nat) (sg : Nat → Int32) (gm : Nat → Nat → Int32) (lg : Nat → Nat → Int64) (x : Int32) (b : Int32) (hI : CI sg gm) (hvx : iv 0 0 x) (hvb : iv 0 79 b) (hFA : FA sg gm) (hVS : VS sg gm) (hLK : LK sg gm) (hLD : LDI lx gm) (hBL : BLI sg gm b.toNatClampNeg) (hBE : BEE sg gm) (hb12 : b.toInt < (sg 12).toInt) : CMg dC dI ad cid l yX10_merge wm_X10_merge ({ frames := 14, cells := 243841, slots := 975487, locals := 336 }) [eV (ad 4) x, eV (ad 10) b] a2 lx sg gm lg 0 243841 975487 (fun v u => v = none ∧ ∃ (a22 : Nat → Nat) (lx2 : List Nat), ∃ (sg2 : Nat → Int32) (gm2 : Nat → Nat → Int32) (lg2 : Nat → Nat → Int64), u = (a22, lx2, sg2, gm2, lg2) ∧ CI sg2 gm2 ∧ KS [] sg sg2 ∧ KS [30, 31, 32, 33, 40, 41, 42, 47, 57] gm gm2 ∧ KS [7] lg lg2 ∧ (LDI lx2 gm2) ∧ (BLI sg gm2 b.toNatClampNeg) ∧ (OVS b.toNatClampNeg gm gm2)) (fun _ _ => False) := by
  intro sz
  refine vx_ofW (cc := cX10_merge) (maxL := 5) (ret := none) (by decide) rfl ?_
  intro p e s m args below meth c s₁ B hml hxt hv
  obtain ⟨rfl, hsz, hP, hK, hD0, hG⟩ := hv
  have hx := B.exec
  have hb := B.bytes
  have hr := B.returns
  have hts := atoms_spec (ws := wm_X10_merge) B.pre
  have htb := fun (w : Cond) (h : w ∈ tb) => hts w (List.mem_cons_of_mem _ h)
  have hown : s.vm.findClass RX10 = some m.cls := findClass_of_methodNamed B.named
  have hlocks := B.notSynchronized
  subst hsz
  have hD := hD0.self (sz := s.heap.size)
  generalize hAe : va_A (cW ad cid a2 lx sg gm lg) s.heap.size = A at hD hG ⊢
  have hA : ∀ q : Nat, s.heap.size ≤ q → A q := fun q h => by rw [← hAe]; exact Or.inr h
  have hS : va_S A s.heap s.heap [] := va_S.rf
  have hl := lv_entry ([eV (ad 4) x, eV (ad 10) b]) (n := 5) (by rw [show (lg_sl ([eV (ad 4) x, eV (ad 10) b])).length = 2 from by simp [lg_sl, eV_cat, cat_i, cat_l]]; exact Nat.le_of_ble_eq_true rfl)
  rw [lg_entry_eq]
  generalize (lg_sl ([eV (ad 4) x, eV (ad 10) b]) ++ List.replicate (5 - (lg_sl ([eV (ad 4) x, eV (ad 10) b])).length) Slot.unset).toArray = ls at hl ⊢
  have hl : lv_has ls 5 [(0, eV (ad 4) x), (1, eV (ad 10) b)] := by simp [lv_args, eV_cat, cat_i, cat_l] at hl; exact hl
  refine W.widen (k := gc gm gm 0) (n := gs gm gm 0) (Nat.zero_le _) (Nat.zero_le _) ?_
  have hj44 : ∀ (n : Nat) (a2_j44 : Nat → Nat) (lx_j44 : List Nat) (gm_j44 : Nat → Nat → Int32) (lg_j44 : Nat → Nat → Int64) (x4_44 : Int32) (x3_44 : Int32) (x2_44 : Int32) (_ : (x4_44.toInt + 1).toNat = n) (_ : iv (-1) 79 x4_44) (_ : iv (-1) 79 x3_44) (_ : iv 0 80 x2_44) (_ : iv 0 0 x) (_ : iv 0 79 b) (_ : KS [30, 31, 32, 33, 40, 41, 42, 47, 57] gm gm_j44) (_ : KS [7] lg lg_j44) (_ : CI sg gm_j44) (_ : ∀ k9, k9 < x2_44.toNatClampNeg → 0 ≤ (gm_j44 47 k9).toInt ∧ (gm_j44 47 k9).toInt < (sg 12).toInt) (_ : x4_44.toInt < x2_44.toInt) (_ : LDI lx_j44 gm_j44) (_ : BLI sg gm_j44 b.toNatClampNeg) (_ : OVS b.toNatClampNeg gm gm_j44) (_ : PHs gm ≤ PHs gm_j44) (H : Heap) (locs : List Loc) (ls : Array Slot), va_P (dC, dI) vwCl (cW ad cid a2_j44 lx_j44 sg gm_j44 lg_j44) H → va_D A (cW ad cid a2_j44 lx_j44 sg gm_j44 lg_j44) → va_S A s.heap H locs → lv_has ls 5 [(4, .int x4_44), (3, eV (ad 10) x3_44), (2, .int x2_44), (0, eV (ad 4) x), (1, eV (ad 10) b)] → W p l e (headSpec wm_X10_merge ({ frames := 14, cells := 243841, slots := 975487, locals := 336 })).room s m ([eV (ad 4) x, eV (ad 10) b] : List Value).toArray below meth c H locs (gc gm gm_j44 0) (gs gm gm_j44 0) (vx_MQ below (cQg dC dI ad cid (fun v u => v = none ∧ ∃ (a22 : Nat → Nat) (lx2 : List Nat), ∃ (sg2 : Nat → Int32) (gm2 : Nat → Nat → Int32) (lg2 : Nat → Nat → Int64), u = (a22, lx2, sg2, gm2, lg2) ∧ CI sg2 gm2 ∧ KS [] sg sg2 ∧ KS [30, 31, 32, 33, 40, 41, 42, 47, 57] gm gm2 ∧ KS [7] lg lg2 ∧ (LDI lx2 gm2) ∧ (BLI sg gm2 b.toNatClampNeg) ∧ (OVS b.toNatClampNeg gm gm2)) 0 gm A) (cXg dC dI ad cid (fun _ _ => False) 0 gm A) ([eV (ad 4) x, eV (ad 10) b] : List Value).toArray s 243841 975487 A) (F0 m 44 ls []) := by
    intro n
    induction n using Nat.strongRecOn with
    | ind n ih44 =>
      intro a2_j44 lx_j44 gm_j44 lg_j44 x4_44 x3_44 x2_44 hn44 hx4_44 hx3_44 hx2_44 hsx0_44 hsx1_44 hkg_j44 hkl_j44 hI_j44 hCH44 h44l hLDj hBLj hOVj hm_j44 H locs ls hP hD hS hl
      refine lv_iload hx hb dX10_merge_44 (lv_at hl 0 rfl) ?_
      refine lv_if_lt (tgt := 73) hx hb dX10_merge_46 (by decide) (fun c_1 => ?_) (fun c_1 => ?_)
      · have h_2 : iv (-1) (-1) x4_44 := iv_ltL c_1 hx4_44 (iv_k (by decide) : iv 0 0 0) (by decide)
        exact W.nb (fun hN => W.widen (k := 243841) (n := 975487) (Nat.le_trans (gc_l0 (gm := gm) (k := 0) hI_j44) (Nat.le_of_ble_eq_true rfl)) (Nat.le_trans (gs_l0 (gm := gm) (k := 0) hI_j44) (Nat.le_of_ble_eq_true rfl)) (vx_ret (W.vret hx hb hr (fun t ht hW => ⟨⟨none, (a2_j44, lx_j44, sg, gm_j44, lg_j44), rfl, ⟨rfl, a2_j44, lx_j44, sg, gm_j44, lg_j44, rfl, hI_j44, KS_rf, (KS_tr (L := [30, 31, 32, 33, 40, 41, 42, 47, 57]) KS_rf hkg_j44 (by decide)), (KS_tr (L := [7]) KS_rf hkl_j44 (by decide)), (hLDj), (hBLj), (hOVj)⟩, ⟨by rw [ht]; exact hP, va_K.moved hW.alike hK, hD⟩, hm_j44, by rw [ht]; exact hN⟩, hS.F ht⟩) hS.2.2 dX10_merge_73)))
      · have h_3 : iv 0 79 x4_44 := iv_leR (i32_ge c_1) (iv_k (by decide) : iv 0 0 0) hx4_44 (by decide)
        refine ec_aload_n hx hb dX10_merge_49 rfl (lv_at hl 4 rfl) ?_
        refine ec_aload_n hx hb dX10_merge_50 rfl (lv_at hl 3 rfl) ?_
        refine cr_get (t := 4) (j := 2) (C := RX10) (T := TX10) (N := 4) (v := eV (ad 20) 0) hx hb htb inX10 hown hK hP hsx0_44 (by decide) (by decide) (by decide) rfl (by decide) (htb _ kw_91) (cV_c rfl (by decide) (by rw [show cMu 4 2 = 0 from rfl, Nat.zero_mul]; rfl)) dX10_merge_51 ?_
        refine lv_iload hx hb dX10_merge_54 (lv_at hl 0 rfl) ?_
        refine cr_aald (t := 20) (C := RX1) (v := eV (ad 10) (gm_j44 47 (x4_44 : Int32).toNatClampNeg)) hx hb hK hP (iv_k (by decide) : iv 0 0 0) (by decide) (by decide) (by decide) (by decide) (by decide) rfl (show vp_in x4_44 (cLen 20) from (show vp_in x4_44 80 from (iv_in h_3 (by decide)))) rfl dX10_merge_56 ?_
        obtain ⟨z_4, ez_4⟩ : ∃ z : Int32, z = (gm_j44 47 (x4_44 : Int32).toNatClampNeg) := ⟨_, rfl⟩
        refine W.eq (g2 := F0 m 57 ls [eV (ad 10) z_4, eV (ad 10) b]) (by rw [ez_4]) ?_
        have hz_4 : iv (-1) 79 z_4 := iv_of ez_4 (CI_a hI_j44 47 h_3 (by decide))
        have h_5 : iv 0 79 z_4 := ⟨by rw [ez_4]; exact (hCH44 _ (by have q1 : x4_44.toNatClampNeg = x4_44.toInt.toNat := rfl; have q2 : x2_44.toNatClampNeg = x2_44.toInt.toNat := rfl; have := i32_0; have := i32_1; have := i32_2; have := i32_m1; have := (hsx0_44).1; have := (hsx0_44).2; have := (hsx1_44).1; have := (hsx1_44).2; have := (h_3).1; have := (h_3).2; have := (hx3_44).1; have := (hx3_44).2; have := (hx2_44).1; have := (hx2_44).2; have := (hz_4).1; have := (hz_4).2; omega)).1, (hz_4).2⟩
        refine cr_get (t := 10) (j := 4) (C := RX1) (T := TX1) (N := 19) (v := eV (ad 9) (gm_j44 29 z_4.toNatClampNeg)) hx hb htb inX1 hown hK hP h_5 (by decide) (by decide) (by decide) rfl (by decide) (htb _ kw_726) rfl dX10_merge_57 ?_
        obtain ⟨z_6, ez_6⟩ : ∃ z : Int32, z = (gm_j44 29 z_4.toNatClampNeg) := ⟨_, rfl⟩
        refine W.eq (g2 := F0 m 60 ls [eV (ad 9) z_6, eV (ad 10) b]) (by rw [ez_6]) ?_
        have hz_6 : iv (-1) 79 z_6 := iv_of ez_6 (CI_a hI_j44 29 h_5 (by decide))
        have ez_6 := ez_6.trans (congrFun (hkg_j44 29 (by decide)) _)
        have hbe9 : 0 ≤ z_6.toInt ∧ z_6.toInt < (sg 4).toInt := by { rw [ez_6]; exact hBE _ (lt_cl h_5 (show iv 0 80 (sg 12) from CI_s hI 12) (by decide) (by decide) (by rw [ez_4]; exact (hCH44 _ (by have q1 : x4_44.toNatClampNeg = x4_44.toInt.toNat := rfl; have q2 : x2_44.toNatClampNeg = x2_44.toInt.toNat := rfl; have := i32_0; have := i32_1; have := i32_2; have := i32_m1; have := (hsx0_44).1; have := (hsx0_44).2; have := (hsx1_44).1; have := (hsx1_44).2; have := (h_3).1; have := (h_3).2; have := (hx3_44).1; have := (hx3_44).2; have := (hx2_44).1; have := (hx2_44).2; have := (h_5).1; have := (h_5).2; have := (hz_6).1; have := (hz_6).2; omega)).2)) }
        have h_7 : iv 0 79 z_6 := ⟨hbe9.1, (hz_6).2⟩
        refine ec_aload_n hx hb dX10_merge_60 rfl (lv_at hl 3 rfl) ?_
        refine cr_get (t := 4) (j := 0) (C := RX10) (T := TX10) (N := 4) (v := eV (ad 1) 0) hx hb htb inX10 hown hK hP hsx0_44 (by decide) (by decide) (by decide) rfl (by decide) (htb _ kw_86) (cV_c rfl (by decide) (by rw [show cMu 4 0 = 0 from rfl, Nat.zero_mul]; rfl)) dX10_merge_61 ?_
        refine cm_callGV (t := 10) (C := RX1) (T := TX1) (N := 19) (rest := []) (as := [eV (ad 9) z_6, eV (ad 1) 0]) ⟨hx, hb, hml, hown, htb⟩ (d_overlay l dC dI ad cid a2_j44 lx_j44 sg gm_j44 lg_j44 b z_6 0 hI_j44 hsx1_44 h_7 (iv_k (by decide) : iv 0 0 0) (FA_e hFA rfl rfl (hkg_j44 19 (by decide)) (hkg_j44 20 (by decide))) hbe9.2 (VS_e hVS rfl rfl (hkg_j44 44 (by decide)) (hkg_j44 45 (by decide))) (LK_e2 hLK rfl (hkg_j44 15 (by decide)) (hkg_j44 16 (by decide)) (hkg_j44 17 (by decide))) (hLDj) (hBLj)) (cwV 2 htb (gd_V kw_727 kw_728 kw_729 kw_90 kw_1498) rfl rfl rfl (by decide +kernel) ⟨Nat.le_of_ble_eq_true rfl, Nat.le_of_ble_eq_true rfl⟩) hsx1_44 (by decide) (by decide) rfl rfl hl.1 rfl (Nat.le_trans cs_n (by decide)) dX10_merge_64 ⟨Nat.le_trans (gc_le hI_j44) (Nat.le_of_ble_eq_true rfl), Nat.le_trans (gs_le hI_j44) (Nat.le_of_ble_eq_true rfl)⟩ hK hP hD hS hA hG (fun E ce q9 u_9 H locs hw hmu hP hD hS hce hcv hcl => ?_) (fun v9 u_9 H locs hw hmu hP hD hS => ?_)
        · exact hw.elim
        obtain ⟨rfl, a2v_10, lxv_10, sgv_10, gmv_10, lgv_10, rfl, hIv_10, ksv_10, kgv_10, klv_10, fLD_r_8, fBL_r_8, fOV_r_8⟩ := hw
        obtain rfl := KS_nil ksv_10
        have hP : va_P (dC, dI) vwCl (cW ad cid a2v_10 lxv_10 sg gmv_10 lgv_10) H := hP
        have hD : va_D A (cW ad cid a2v_10 lxv_10 sg gmv_10 lgv_10) := hD
        have hmu : PHs gm_j44 ≤ PHs gmv_10 := hmu
        rw [show (gc gm gm_j44 0 + gc gm_j44 gmv_10 0) = gc gm gmv_10 0 from gc_t hm_j44 hmu, show (gs gm gm_j44 0 + gs gm_j44 gmv_10 0) = gs gm gmv_10 0 from gs_t hm_j44 hmu]
        have hm_11 : PHs gm ≤ PHs gmv_10 := Nat.le_trans hm_j44 hmu
        refine W.eq (g2 := F0 m 67 ls []) rfl ?_
        have hOV_mr_8 : OVS b.toNatClampNeg gm gmv_10 := OVS_t hOVj fOV_r_8
        obtain ⟨z_12, ez_12⟩ : ∃ z : Int32, z = x4_44 + (-1) := ⟨_, rfl⟩
        have hz_12 : iv (-1) 78 z_12 := iv_of ez_12 (iv_add h_3 (iv_k (by decide) : iv (-1) (-1) (-1)) (by decide))
        have tz_12 : z_12.toInt = x4_44.toInt - 1 := by rw [ez_12]; exact iv_addE h_3 (iv_k (by decide) : iv (-1) (-1) (-1)) (by decide)
        refine lv_iinc (v := z_12) (lv' := [(4, .int z_12), (3, eV (ad 10) x3_44), (2, .int x2_44), (0, eV (ad 4) x), (1, eV (ad 10) b)]) hx hb dX10_merge_67 hl (k := 0) rfl ez_12.symm (by decide) (by simp [List.filter, eV_cat, cat_i, cat_l]) (fun ls hl => ?_)
        refine lv_goto (tgt := 44) hx hb dX10_merge_70 (by decide) ?_
        exact ih44 _ (by rw [← hn44]; exact (by have := i32_0; have := i32_1; have := i32_2; have := i32_m1; have := (hsx0_44).1; have := (hsx0_44).2; have := (hsx1_44).1; have := (hsx1_44).2; have := (h_3).1; have := (h_3).2; have := (hx3_44).1; have := (hx3_44).2; have := (hx2_44).1; have := (hx2_44).2; have := (h_5).1; have := (h_5).2; have := (h_7).1; have := (h_7).2; have := (hz_12).1; have := (hz_12).2; omega)) a2v_10 lxv_10 gmv_10 lgv_10 z_12 x3_44 x2_44 rfl (iv_w hz_12 (by decide)) hx3_44 hx2_44 hsx0_44 hsx1_44 (KS_tr (L := [30, 31, 32, 33, 40, 41, 42, 47, 57]) (KS_tr (L := [30, 31, 32, 33, 40, 41, 42, 47, 57]) KS_rf hkg_j44 (by decide)) kgv_10 (by decide)) (KS_tr (L := [7]) (KS_tr (L := [7]) KS_rf hkl_j44 (by decide)) klv_10 (by decide)) hIv_10 ((by rw [(show gmv_10 47 = gm_j44 47 from (kgv_10 47 (by decide)))]; exact hCH44)) (by have := i32_0; have := i32_1; have := i32_2; have := i32_m1; have := (hsx0_44).1; have := (hsx0_44).2; have := (hsx1_44).1; have := (hsx1_44).2; have := (h_3).1; have := (h_3).2; have := (hx3_44).1; have := (hx3_44).2; have := (hx2_44).1; have := (hx2_44).2; have := (h_5).1; have := (h_5).2; have := (h_7).1; have := (h_7).2; have := (hz_12).1; have := (hz_12).2; omega) ((fLD_r_8)) ((fBL_r_8)) ((hOV_mr_8)) hm_11 _ _ _ hP hD hS (lv_sub hl [0, 1, 2, 3, 4] rfl)
  have hj39 : ∀ (gm_j39 : Nat → Nat → Int32) (x3_39 : Int32) (x2_39 : Int32) (_ : iv (-1) 79 x3_39) (_ : iv 0 80 x2_39) (_ : iv 0 0 x) (_ : iv 0 79 b) (_ : KS [47] gm gm_j39) (_ : CI sg gm_j39) (_ : ∀ k9, k9 < x2_39.toNatClampNeg → 0 ≤ (gm_j39 47 k9).toInt ∧ (gm_j39 47 k9).toInt < (sg 12).toInt) (_ : PHs gm ≤ PHs gm_j39) (H : Heap) (locs : List Loc) (ls : Array Slot), va_P (dC, dI) vwCl (cW ad cid a2 lx sg gm_j39 lg) H → va_D A (cW ad cid a2 lx sg gm_j39 lg) → va_S A s.heap H locs → lv_has ls 5 [(3, eV (ad 10) x3_39), (2, .int x2_39), (0, eV (ad 4) x), (1, eV (ad 10) b)] → W p l e (headSpec wm_X10_merge ({ frames := 14, cells := 243841, slots := 975487, locals := 336 })).room s m ([eV (ad 4) x, eV (ad 10) b] : List Value).toArray below meth c H locs (gc gm gm_j39 0) (gs gm gm_j39 0) (vx_MQ below (cQg dC dI ad cid (fun v u => v = none ∧ ∃ (a22 : Nat → Nat) (lx2 : List Nat), ∃ (sg2 : Nat → Int32) (gm2 : Nat → Nat → Int32) (lg2 : Nat → Nat → Int64), u = (a22, lx2, sg2, gm2, lg2) ∧ CI sg2 gm2 ∧ KS [] sg sg2 ∧ KS [30, 31, 32, 33, 40, 41, 42, 47, 57] gm gm2 ∧ KS [7] lg lg2 ∧ (LDI lx2 gm2) ∧ (BLI sg gm2 b.toNatClampNeg) ∧ (OVS b.toNatClampNeg gm gm2)) 0 gm A) (cXg dC dI ad cid (fun _ _ => False) 0 gm A) ([eV (ad 4) x, eV (ad 10) b] : List Value).toArray s 243841 975487 A) (F0 m 39 ls []) := by
    intro gm_j39 x3_39 x2_39 hx3_39 hx2_39 hsx0_39 hsx1_39 hkg_j39 hI_j39 hCH39 hm_j39 H locs ls hP hD hS hl
    refine lv_iload_n hx hb dX10_merge_39 rfl (lv_at hl 1 rfl) ?_
    refine lv_iconst (v := 1) hx hb dX10_merge_40 (by decide) ?_
    refine lv_isub hx hb dX10_merge_41 ?_
    refine lv_topi (fun z_13 ez_13 => ?_)
    have hz_13 : iv (-1) 79 z_13 := iv_of ez_13 (iv_sub hx2_39 (iv_k (by decide) : iv 1 1 1) (by decide))
    have tz_13 : z_13.toInt = (x2_39 : Int32).toInt - 1 := by rw [ez_13]; exact iv_subE hx2_39 (iv_k (by decide) : iv 1 1 1) (by decide)
    refine lv_istore (i := 4) (lv' := [(4, .int z_13), (3, eV (ad 10) x3_39), (2, .int x2_39), (0, eV (ad 4) x), (1, eV (ad 10) b)]) hx hb dX10_merge_42 hl (by decide) (by simp [List.filter, eV_cat, cat_i, cat_l]) (fun ls hl => ?_)
    exact hj44 _ a2 lx gm_j39 lg z_13 x3_39 x2_39 rfl hz_13 hx3_39 hx2_39 hsx0_39 hsx1_39 (KS_tr (L := [30, 31, 32, 33, 40, 41, 42, 47, 57]) KS_rf hkg_j39 (by decide)) KS_rf hI_j39 (hCH39) (by have := i32_0; have := i32_1; have := i32_2; have := i32_m1; have := (hsx0_39).1; have := (hsx0_39).2; have := (hsx1_39).1; have := (hsx1_39).2; have := (hx3_39).1; have := (hx3_39).2; have := (hx2_39).1; have := (hx2_39).2; have := (hz_13).1; have := (hz_13).2; omega) (((LDI_e hLD (show gm_j39 41 = gm 41 from (hkg_j39 41 (by decide))) (show gm_j39 42 = gm 42 from (hkg_j39 42 (by decide))) (show gm_j39 57 = gm 57 from (hkg_j39 57 (by decide)))))) (((BLI_e hBL rfl (show gm_j39 14 = gm 14 from (hkg_j39 14 (by decide))) (show gm_j39 22 = gm 22 from (hkg_j39 22 (by decide))) (show gm_j39 41 = gm 41 from (hkg_j39 41 (by decide))) (show gm_j39 57 = gm 57 from (hkg_j39 57 (by decide)))))) (((OVS_k (show gm_j39 41 = gm 41 from (hkg_j39 41 (by decide))) (show gm_j39 57 = gm 57 from (hkg_j39 57 (by decide)))))) hm_j39 _ _ _ hP hD hS (lv_sub hl [0, 1, 2, 3, 4] rfl)
  have hj4 : ∀ (n : Nat) (gm_j4 : Nat → Nat → Int32) (x3_4 : Int32) (x2_4 : Int32) (_ : (80 - x2_4.toInt).toNat = n) (_ : iv (-1) 79 x3_4) (_ : iv 0 80 x2_4) (_ : iv 0 0 x) (_ : iv 0 79 b) (_ : KS [47] gm gm_j4) (_ : CI sg gm_j4) (_ : ∀ k9, k9 < x2_4.toNatClampNeg → 0 ≤ (gm_j4 47 k9).toInt ∧ (gm_j4 47 k9).toInt < (sg 12).toInt) (_ : x3_4.toInt < (sg 12).toInt) (_ : PHs gm ≤ PHs gm_j4) (H : Heap) (locs : List Loc) (ls : Array Slot), va_P (dC, dI) vwCl (cW ad cid a2 lx sg gm_j4 lg) H → va_D A (cW ad cid a2 lx sg gm_j4 lg) → va_S A s.heap H locs → lv_has ls 5 [(3, eV (ad 10) x3_4), (2, .int x2_4), (0, eV (ad 4) x), (1, eV (ad 10) b)] → W p l e (headSpec wm_X10_merge ({ frames := 14, cells := 243841, slots := 975487, locals := 336 })).room s m ([eV (ad 4) x, eV (ad 10) b] : List Value).toArray below meth c H locs (gc gm gm_j4 0) (gs gm gm_j4 0) (vx_MQ below (cQg dC dI ad cid (fun v u => v = none ∧ ∃ (a22 : Nat → Nat) (lx2 : List Nat), ∃ (sg2 : Nat → Int32) (gm2 : Nat → Nat → Int32) (lg2 : Nat → Nat → Int64), u = (a22, lx2, sg2, gm2, lg2) ∧ CI sg2 gm2 ∧ KS [] sg sg2 ∧ KS [30, 31, 32, 33, 40, 41, 42, 47, 57] gm gm2 ∧ KS [7] lg lg2 ∧ (LDI lx2 gm2) ∧ (BLI sg gm2 b.toNatClampNeg) ∧ (OVS b.toNatClampNeg gm gm2)) 0 gm A) (cXg dC dI ad cid (fun _ _ => False) 0 gm A) ([eV (ad 4) x, eV (ad 10) b] : List Value).toArray s 243841 975487 A) (F0 m 4 ls []) := by
    intro n
    induction n using Nat.strongRecOn with
    | ind n ih4 =>
      intro gm_j4 x3_4 x2_4 hn4 hx3_4 hx2_4 hsx0_4 hsx1_4 hkg_j4 hI_j4 hCH4 hlk4 hm_j4 H locs ls hP hD hS hl
      refine lv_iload_n hx hb dX10_merge_4 rfl (lv_at hl 1 rfl) ?_
      refine ec_aload_n hx hb dX10_merge_5 rfl (lv_at hl 2 rfl) ?_
      refine cr_get (t := 4) (j := 2) (C := RX10) (T := TX10) (N := 4) (v := eV (ad 20) 0) hx hb htb inX10 hown hK hP hsx0_4 (by decide) (by decide) (by decide) rfl (by decide) (htb _ kw_91) (cV_c rfl (by decide) (by rw [show cMu 4 2 = 0 from rfl, Nat.zero_mul]; rfl)) dX10_merge_6 ?_
      refine cr_alen (t := 20) (z := 80) hx hb hK hP (iv_k (by decide) : iv 0 0 0) (by decide) (by decide) (by decide) rfl dX10_merge_9 ?_
      refine lv_icmp_ge (tgt := 39) hx hb dX10_merge_10 (by decide) (fun c_14 => ?_) (fun c_14 => ?_)
      · have h_15 : iv 80 80 x2_4 := iv_leR c_14 (iv_k (by decide) : iv 80 80 80) hx2_4 (by decide)
        exact hj39 gm_j4 x3_4 x2_4 hx3_4 (iv_w h_15 (by decide)) hsx0_4 hsx1_4 (KS_tr (L := [47]) KS_rf hkg_j4 (by decide)) hI_j4 (hCH4) hm_j4 _ _ _ hP hD hS (lv_sub hl [0, 1, 2, 3] rfl)
      · have h_16 : iv 0 79 x2_4 := iv_ltL (i32_lt c_14) hx2_4 (iv_k (by decide) : iv 80 80 80) (by decide)
        refine ec_aload_n hx hb dX10_merge_13 rfl (lv_at hl 0 rfl) ?_
        refine ec_ifnull (tgt := 39) hx hb dX10_merge_14 (by decide) (fun c_17 => ?_) (fun c_17 => ?_)
        · have h_18 : iv (-1) (-1) x3_4 := ⟨(hx3_4).1, by omega⟩
          exact hj39 gm_j4 x3_4 x2_4 (iv_w h_18 (by decide)) (iv_w h_16 (by decide)) hsx0_4 hsx1_4 (KS_tr (L := [47]) KS_rf hkg_j4 (by decide)) hI_j4 (hCH4) hm_j4 _ _ _ hP hD hS (lv_sub hl [0, 1, 2, 3] rfl)
        · have h_19 : iv 0 79 x3_4 := ⟨c_17, (hx3_4).2⟩
          refine ec_aload_n hx hb dX10_merge_17 rfl (lv_at hl 2 rfl) ?_
          refine cr_get (t := 4) (j := 2) (C := RX10) (T := TX10) (N := 4) (v := eV (ad 20) 0) hx hb htb inX10 hown hK hP hsx0_4 (by decide) (by decide) (by decide) rfl (by decide) (htb _ kw_91) (cV_c rfl (by decide) (by rw [show cMu 4 2 = 0 from rfl, Nat.zero_mul]; rfl)) dX10_merge_18 ?_
          refine lv_iload_n hx hb dX10_merge_21 rfl (lv_at hl 1 rfl) ?_
          refine ec_aload_n hx hb dX10_merge_22 rfl (lv_at hl 0 rfl) ?_
          refine cr_aast (t := 20) (k := 47) hx hb hK hP hD hS (iv_k (by decide) : iv 0 0 0) (by decide) (by decide) (by decide) rfl rfl rfl rfl (show vp_in x2_4 (cLen 20) from (show vp_in x2_4 80 from (iv_in h_16 (by decide)))) h_19 (by decide) dX10_merge_23 (fun gm_20 H locs egm_20 hP hD hS => ?_)
          have hI_gm_20 := CI_st hI_j4 egm_20 h_19 (by decide)
          obtain ⟨z_21, ez_21⟩ : ∃ z : Int32, z = x2_4 + 1 := ⟨_, rfl⟩
          have hz_21 : iv 1 80 z_21 := iv_of ez_21 (iv_add h_16 (iv_k (by decide) : iv 1 1 1) (by decide))
          have tz_21 : z_21.toInt = x2_4.toInt + 1 := by rw [ez_21]; exact iv_addE h_16 (iv_k (by decide) : iv 1 1 1) (by decide)
          refine lv_iinc (v := z_21) (lv' := [(2, .int z_21), (3, eV (ad 10) x3_4), (0, eV (ad 4) x), (1, eV (ad 10) b)]) hx hb dX10_merge_24 hl (k := 1) rfl ez_21.symm (by decide) (by simp [List.filter, eV_cat, cat_i, cat_l]) (fun ls hl => ?_)
          refine ec_aload_n hx hb dX10_merge_27 rfl (lv_at hl 2 rfl) ?_
          refine ec_aload_n hx hb dX10_merge_28 rfl (lv_at hl 1 rfl) ?_
          refine cr_get (t := 10) (j := 6) (C := RX1) (T := TX1) (N := 19) (v := .long (lg 5 x3_4.toNatClampNeg)) hx hb htb inX1 hown hK hP h_19 (by decide) (by decide) (by decide) rfl (by decide) (htb _ kw_715) rfl dX10_merge_29 ?_
          refine lv_topl (fun z_22 ez_22 => ?_)
          refine cm_callTV (t := 4) (C := RX10) (T := TX10) (N := 4) (rest := []) (as := [.long z_22]) ⟨hx, hb, hml, hown, htb⟩ (d_withId l dC dI ad cid a2 lx sg gm_20 lg x z_22 hI_gm_20 hsx0_4) (cwV 1 htb (gd_V kw_716 kw_717 kw_718 kw_32 kw_1495) rfl rfl rfl (by decide +kernel) ⟨Nat.le_of_ble_eq_true rfl, Nat.le_of_ble_eq_true rfl⟩) hsx0_4 (by decide) (by decide) rfl rfl hl.1 rfl (Nat.le_trans cs_n (by decide)) dX10_merge_32 ⟨Nat.le_trans (gc_le hI_j4) (Nat.le_of_ble_eq_true rfl), Nat.le_trans (gs_le hI_j4) (Nat.le_of_ble_eq_true rfl)⟩ hK hP hD hS hA hG (fun E ce q9 u_24 H locs hw hP hD hS hce hcv hcl => ?_) (fun v9 u_24 H locs hw hP hD hS => ?_)
          · exact hw.elim
          obtain ⟨r_23, rfl, rfl, hr_23, fI_r_23⟩ := hw
          have hP : va_P (dC, dI) vwCl (cW ad cid a2 lx sg gm_20 lg) H := hP
          have hD : va_D A (cW ad cid a2 lx sg gm_20 lg) := hD
          refine W.eq (g2 := F0 m 35 ls [eV (ad 10) r_23]) rfl ?_
          refine ec_astore_n (i := 3) (lv' := [(3, eV (ad 10) r_23), (2, .int z_21), (0, eV (ad 4) x), (1, eV (ad 10) b)]) hx hb dX10_merge_35 rfl hl (by decide) rfl (fun ls hl => ?_)
          refine lv_goto (tgt := 4) hx hb dX10_merge_36 (by decide) ?_
          refine W.widen (k := gc gm gm_20 0) (n := gs gm gm_20 0) (gc_e (show gm_20 42 = gm_j4 42 from (up_ne egm_20 (by decide))) (by decide)) (gs_e (show gm_20 42 = gm_j4 42 from (up_ne egm_20 (by decide))) (by decide)) ?_
          have hm_26 : PHs gm ≤ PHs gm_20 := by rw [PHs_e (show gm_20 42 = gm_j4 42 from (up_ne egm_20 (by decide)))]; exact hm_j4
          exact ih4 _ (by rw [← hn4]; exact (by have := i32_0; have := i32_1; have := i32_2; have := i32_m1; have := (hsx0_4).1; have := (hsx0_4).2; have := (hsx1_4).1; have := (hsx1_4).2; have := (h_19).1; have := (h_19).2; have := (h_16).1; have := (h_16).2; have := (hz_21).1; have := (hz_21).2; have := (hr_23).1; have := (hr_23).2; omega)) gm_20 r_23 z_21 rfl hr_23 (iv_w hz_21 (by decide)) hsx0_4 hsx1_4 (KS_up (KS_tr (L := [47]) KS_rf hkg_j4 (by decide)) egm_20 (by decide)) hI_gm_20 (fun k9 q9 => by { rw [show gm_20 47 = _ from up_at egm_20]; by_cases q8 : k9 = x2_4.toNatClampNeg; { rw [q8, upd_at]; exact ⟨(h_19).1, hlk4⟩ }; { rw [upd_ne q8]; exact hCH4 k9 (by have q1 : z_21.toNatClampNeg = z_21.toInt.toNat := rfl; have q2 : x2_4.toNatClampNeg = x2_4.toInt.toNat := rfl; have := i32_0; have := i32_1; have := i32_2; have := i32_m1; have := (hsx0_4).1; have := (hsx0_4).2; have := (hsx1_4).1; have := (hsx1_4).2; have := (h_19).1; have := (h_19).2; have := (h_16).1; have := (h_16).2; have := (hz_21).1; have := (hz_21).2; have := (hr_23).1; have := (hr_23).2; omega) } }) ((by rcases fI_r_23 with q9 | q9; (have := (show iv 0 80 (sg 12) from CI_s hI 12).1; omega); (exact q9.1))) hm_26 _ _ _ hP hD hS (lv_sub hl [0, 1, 2, 3] rfl)
  refine lv_iconst (v := 0) hx hb dX10_merge_0 (by decide) ?_
  refine lv_istore_n (i := 2) (lv' := [(2, .int 0), (0, eV (ad 4) x), (1, eV (ad 10) b)]) hx hb dX10_merge_1 rfl hl (by decide) (by simp [List.filter, eV_cat, cat_i, cat_l]) (fun ls hl => ?_)
  refine ec_aload_n hx hb dX10_merge_2 rfl (lv_at hl 2 rfl) ?_
  refine ec_astore_n (i := 3) (lv' := [(3, eV (ad 10) b), (2, .int 0), (0, eV (ad 4) x), (1, eV (ad 10) b)]) hx hb dX10_merge_3 rfl hl (by decide) rfl (fun ls hl => ?_)
  exact hj4 _ gm b 0 rfl (iv_w hvb (by decide)) (iv_w (iv_k (by decide) : iv 0 0 0) (by decide)) hvx hvb KS_rf hI (fun _ q9 => absurd q9 (Nat.not_lt_zero _)) (hb12) (Nat.le_refl _) _ _ _ hP hD hS (lv_sub hl [0, 1, 2, 3] rfl)
