set_option maxHeartbeats 4000000 in
set_option maxRecDepth 100000 in
theorem f_shut (l : Launch) (dC : Nat → ClassId) (dI : Nat → Nat → Nat) (h0 : Nat) (ad : Nat → Nat) (cid : Nat → ClassId) (sg : Nat → Int32) (gm : Nat → Nat → Int32) (lg : Nat → Nat → Int64) (hI : MI sg gm) (hdoc : DOC sg gm lg) (hgi : GI0 sg gm lg) (hmo : MO sg gm) : MMv l dC dI yX13_shut wm_X13_shut ({ frames := 6, cells := 0, slots := 0, locals := 143 }) h0 ad cid [] sg gm lg (fun v => ∃ (sg2 : Nat → Int32) (gm2 : Nat → Nat → Int32) (lg2 : Nat → Nat → Int64), v = (sg2, gm2, lg2) ∧ MI sg2 gm2 ∧ KS [49, 50] sg sg2 ∧ KS [55, 56, 57, 58, 60, 61] gm gm2 ∧ KS [] lg lg2 ∧ (GI0 sg2 gm2 lg2) ∧ (MO sg2 gm2)) := by
  intro sz
  refine Met.ofW (cc := cX13_shut) (maxL := 3) (ret := none) (by decide) rfl ?_
  intro p e s m args below meth c s₁ B hml hv
  obtain ⟨rfl, hsz, hP, hK, hD0⟩ := hv
  have hx := B.exec
  have hb := B.bytes
  have hr := B.returns
  have hts := atoms_spec (ws := wm_X13_shut) B.pre
  have htb := fun (w : Cond) (h : w ∈ tb) => hts w (List.mem_cons_of_mem _ h)
  have hown : s.vm.findClass RX13 = some m.cls := findClass_of_methodNamed B.named
  have hlocks := B.notSynchronized
  subst hsz
  have hD := hD0.self (sz := s.heap.size)
  generalize hAe : va_A (mW h0 ad cid sg gm lg) s.heap.size = A at hD ⊢
  have hA : ∀ q : Nat, s.heap.size ≤ q → A q := fun q h => by rw [← hAe]; exact Or.inr h
  have hS : va_S A s.heap s.heap [] := va_S.rf
  have hl := lv_entry ([.ref h0]) (n := 3) (Nat.le_of_ble_eq_true rfl)
  rw [lg_entry_eq]
  generalize (lg_sl ([.ref h0]) ++ List.replicate (3 - (lg_sl ([.ref h0])).length) Slot.unset).toArray = ls at hl ⊢
  have hl : lv_has ls 3 [(0, .ref h0)] := hl
  have hj7 : ∀ (n : Nat) (sg_j7 : Nat → Int32) (gm_j7 : Nat → Nat → Int32) (x1_7 : Int32) (_ : (x1_7.toInt - (-1)).toNat = n) (_ : iv (-1) 79 x1_7) (_ : KS [49] sg sg_j7) (_ : KS [55, 56, 57, 58, 60, 61] gm gm_j7) (_ : MI sg_j7 gm_j7) (_ : VB gm_j7 lg) (_ : x1_7.toInt < (sg 50).toInt) (H : Heap) (locs : List Loc) (ls : Array Slot), va_P (dC, dI) vwCl (mW h0 ad cid sg_j7 gm_j7 lg) H → va_D A (mW h0 ad cid sg_j7 gm_j7 lg) → va_S A s.heap H locs → lv_has ls 3 [(1, .int x1_7), (0, .ref h0)] → W p l e (headSpec wm_X13_shut ({ frames := 6, cells := 0, slots := 0, locals := 143 })).room s m ([.ref h0] : List Value).toArray below meth c H locs 0 0 (MQ below (va_Qv (fun v => ∃ (sg2 : Nat → Int32) (gm2 : Nat → Nat → Int32) (lg2 : Nat → Nat → Int64), v = (sg2, gm2, lg2) ∧ MI sg2 gm2 ∧ KS [49, 50] sg sg2 ∧ KS [55, 56, 57, 58, 60, 61] gm gm2 ∧ KS [] lg lg2 ∧ (GI0 sg2 gm2 lg2) ∧ (MO sg2 gm2)) (MB dC dI h0 ad cid A) A) ([.ref h0] : List Value).toArray s 0 0 A) (F0 m 7 ls []) := by
    intro n
    induction n using Nat.strongRecOn with
    | ind n ih7 =>
      intro sg_j7 gm_j7 x1_7 hn7 hx1_7 hks_j7 hkg_j7 hI_j7 hvb hlm H locs ls hP hD hS hl
      have hj51 : ∀ (sg_j51 : Nat → Int32) (gm_j51 : Nat → Nat → Int32) (x2_51 : Int32) (_ : iv 0 79 x2_51) (_ : iv 0 79 x1_7) (_ : KS [49] sg sg_j51) (_ : KS [55, 56, 57, 58, 60, 61] gm gm_j51) (_ : MI sg_j51 gm_j51) (_ : VB gm_j51 lg) (_ : x1_7.toInt < (sg 50).toInt) (H : Heap) (locs : List Loc) (ls : Array Slot), va_P (dC, dI) vwCl (mW h0 ad cid sg_j51 gm_j51 lg) H → va_D A (mW h0 ad cid sg_j51 gm_j51 lg) → va_S A s.heap H locs → lv_has ls 3 [(2, .int x2_51), (1, .int x1_7), (0, .ref h0)] → W p l e (headSpec wm_X13_shut ({ frames := 6, cells := 0, slots := 0, locals := 143 })).room s m ([.ref h0] : List Value).toArray below meth c H locs 0 0 (MQ below (va_Qv (fun v => ∃ (sg2 : Nat → Int32) (gm2 : Nat → Nat → Int32) (lg2 : Nat → Nat → Int64), v = (sg2, gm2, lg2) ∧ MI sg2 gm2 ∧ KS [49, 50] sg sg2 ∧ KS [55, 56, 57, 58, 60, 61] gm gm2 ∧ KS [] lg lg2 ∧ (GI0 sg2 gm2 lg2) ∧ (MO sg2 gm2)) (MB dC dI h0 ad cid A) A) ([.ref h0] : List Value).toArray s 0 0 A) (F0 m 51 ls []) := by
        intro sg_j51 gm_j51 x2_51 hx2_51 hsx1_51 hks_j51 hkg_j51 hI_j51 hvb hlm H locs ls hP hD hS hl
        refine lv_aload_n hx hb dX13_shut_51 rfl (lv_at hl 2 rfl) ?_
        refine mr_get (v := .ref (ad 61)) hx hb htb inX13 hown hK hP 61 (by decide) (htb _ kw_211) rfl dX13_shut_52 ?_
        refine lv_iload_n hx hb dX13_shut_55 rfl (lv_at hl 0 rfl) ?_
        refine lv_iconst (v := 0) hx hb dX13_shut_56 (by decide) ?_
        refine ma_zast (x := 0) hx hb hK hP hD hS 47 (k := 61) rfl rfl rfl (show vp_in x2_51 80 from (iv_in hx2_51 (by decide))) dX13_shut_57 (fun gm_1 H locs egm_1 hP hD hS => ?_)
        have hI_gm_1 := MI_st hI_j51 egm_1 (iv_of (iv_vb (iv_w (iv_k (by decide) : iv 0 0 0) (by decide))) (iv_k (by decide) : iv 0 0 0)) (by decide)
        refine lv_aload_n hx hb dX13_shut_58 rfl (lv_at hl 2 rfl) ?_
        refine mr_get (v := .ref (ad 60)) hx hb htb inX13 hown hK hP 60 (by decide) (htb _ kw_210) rfl dX13_shut_59 ?_
        refine lv_iload_n hx hb dX13_shut_62 rfl (lv_at hl 0 rfl) ?_
        refine lv_iconst (v := (-1)) hx hb dX13_shut_63 (by decide) ?_
        refine ma_iast (x := (-1)) hx hb hK hP hD hS 46 (k := 60) rfl rfl rfl (show vp_in x2_51 80 from (iv_in hx2_51 (by decide))) dX13_shut_64 (fun gm_2 H locs egm_2 hP hD hS => ?_)
        have hI_gm_2 := MI_st hI_gm_1 egm_2 (iv_k (by decide) : iv (-1) (-1) (-1)) (by decide)
        obtain ⟨z_3, ez_3⟩ : ∃ z : Int32, z = x1_7 + (-1) := ⟨_, rfl⟩
        have hz_3 : iv (-1) 78 z_3 := iv_of ez_3 (iv_add hsx1_51 (iv_k (by decide) : iv (-1) (-1) (-1)) (by decide))
        have tz_3 : z_3.toInt = x1_7.toInt - 1 := by rw [ez_3]; exact iv_addE hsx1_51 (iv_k (by decide) : iv (-1) (-1) (-1)) (by decide)
        refine lv_iinc (v := z_3) (lv' := [(1, .int z_3), (2, .int x2_51), (0, .ref h0)]) hx hb dX13_shut_65 hl (k := 1) rfl ez_3.symm (by decide) rfl (fun ls hl => ?_)
        refine lv_goto (tgt := 7) hx hb dX13_shut_68 (by decide) ?_
        exact ih7 _ (by rw [← hn7]; exact (iv_measDn tz_3 (by decide) hsx1_51 (by decide))) sg_j51 gm_2 z_3 rfl (iv_w hz_3 (by decide)) (KS_tr (L := [49]) KS_rf hks_j51 (by decide)) (KS_up (KS_up (KS_tr (L := [55, 56, 57, 58, 60, 61]) KS_rf hkg_j51 (by decide)) egm_1 (by decide)) egm_2 (by decide)) hI_gm_2 (VB_sh hvb (DK_of (show KS [] sg_j51 sg_j51 from KS_rf) (show KS [60, 61] gm_j51 gm_2 from (KS_up (KS_up KS_rf egm_1 (by decide)) egm_2 (by decide))) (show KS [] lg lg from KS_rf) (by decide) (by decide) (by decide)) ((show KS [] lg lg from KS_rf) 1 (by decide)) (show gm_2 60 = upd (gm_j51 60) _ _ from (Eq.trans (up_at egm_2) (by rw [(up_ne egm_1 (by decide))]))) (show gm_2 61 = upd (gm_j51 61) _ _ from (Eq.trans (up_ne egm_2 (by decide)) (up_at egm_1))) rfl ((show KS [60, 61] gm_j51 gm_2 from (KS_up (KS_up KS_rf egm_1 (by decide)) egm_2 (by decide))) 62 (by decide)) ((show KS [60, 61] gm_j51 gm_2 from (KS_up (KS_up KS_rf egm_1 (by decide)) egm_2 (by decide))) 70 (by decide)) ((show KS [60, 61] gm_j51 gm_2 from (KS_up (KS_up KS_rf egm_1 (by decide)) egm_2 (by decide))) 71 (by decide)) ((show KS [60, 61] gm_j51 gm_2 from (KS_up (KS_up KS_rf egm_1 (by decide)) egm_2 (by decide))) 72 (by decide)) ((show KS [60, 61] gm_j51 gm_2 from (KS_up (KS_up KS_rf egm_1 (by decide)) egm_2 (by decide))) 73 (by decide))) (by have := i32_0; have := i32_1; have := i32_2; have := i32_m1; have := congrArg Int32.toInt (show sg_j51 50 = sg 50 from hks_j51 50 (by decide)); have := (show iv 0 80 (sg 50) from MI_s hI 50).1; have := (show iv 0 80 (sg 50) from MI_s hI 50).2; have := congrArg Int32.toInt (show sg_j7 50 = sg 50 from hks_j7 50 (by decide)); have := (hsx1_51).1; have := (hsx1_51).2; have := (hx2_51).1; have := (hx2_51).2; have := (hz_3).1; have := (hz_3).2; omega) _ _ _ hP hD hS (lv_sub hl [0, 2] rfl)
      refine lv_iload_n hx hb dX13_shut_7 rfl (lv_at hl 0 rfl) ?_
      refine lv_if_lt (tgt := 71) hx hb dX13_shut_8 (by decide) (fun c_4 => ?_) (fun c_4 => ?_)
      · have h_5 : iv (-1) (-1) x1_7 := iv_ltL c_4 hx1_7 (iv_k (by decide) : iv 0 0 0) (by decide)
        refine lv_aload_n hx hb dX13_shut_71 rfl (lv_at hl 1 rfl) ?_
        refine lv_iconst (v := 0) hx hb dX13_shut_72 (by decide) ?_
        refine ma_put (x := 0) hx hb htb inX13 hown hK hP hD hS 50 (by decide) (by decide) (htb _ kw_824) rfl rfl rfl dX13_shut_73 (fun sg_6 H locs esg_6 hP hD hS => ?_)
        have hI_sg_6 := MI_put hI_j7 esg_6 (iv_k (by decide) : iv 0 0 0) (by decide)
        exact W.vret hx hb hr (fun t ht hW => ⟨⟨(sg_6, gm_j7, lg), rfl, ⟨sg_6, gm_j7, lg, rfl, hI_sg_6, (KS_up (KS_tr (L := [49, 50]) KS_rf hks_j7 (by decide)) esg_6 (by decide)), (KS_tr (L := [55, 56, 57, 58, 60, 61]) KS_rf hkg_j7 (by decide)), KS_rf, (GI0_vb (VB_of hvb (show KS [50] sg_j7 sg_6 from (KS_up KS_rf esg_6 (by decide))) (show KS [] gm_j7 gm_j7 from KS_rf) (show KS [] lg lg from KS_rf) (by decide) (by decide) (by decide) (by decide) (by decide)) (by have := i32_0; have := i32_1; have := i32_2; have := i32_m1; have : (sg_6 50).toInt = 0 := (by rw [up_at esg_6]; rfl); have := congrArg Int32.toInt (show sg_j7 50 = sg 50 from hks_j7 50 (by decide)); have := (h_5).1; have := (h_5).2; omega)), (MO_0 (by have := i32_0; have := i32_1; have := i32_2; have := i32_m1; have : (sg_6 50).toInt = 0 := (by rw [up_at esg_6]; rfl); have := congrArg Int32.toInt (show sg_j7 50 = sg 50 from hks_j7 50 (by decide)); have := (h_5).1; have := (h_5).2; omega))⟩, by rw [ht]; exact hP, va_K.moved hW.alike hK, hD⟩, hS.F ht⟩) hS.2.2 dX13_shut_76
      · have h_7 : iv 0 79 x1_7 := iv_leR (i32_ge c_4) (iv_k (by decide) : iv 0 0 0) hx1_7 (by decide)
        refine lv_aload_n hx hb dX13_shut_11 rfl (lv_at hl 1 rfl) ?_
        refine mr_get (v := .ref (ad 59)) hx hb htb inX13 hown hK hP 59 (by decide) (htb _ kw_209) rfl dX13_shut_12 ?_
        refine lv_iload_n hx hb dX13_shut_15 rfl (lv_at hl 0 rfl) ?_
        refine mr_iald hx hb hK hP 45 (k := 59) rfl rfl rfl (show vp_in x1_7 80 from (iv_in h_7 (by decide))) dX13_shut_16 ?_
        refine lv_topi (fun z_8 ez_8 => ?_)
        have hz_8 : iv 0 79 z_8 := iv_of ez_8 (MI_a hI_j7 59 h_7 (by decide))
        have ez_8 := ez_8.trans (congrFun (hkg_j7 59 (by decide)) _)
        refine lv_istore_n (lv' := [(2, .int z_8), (1, .int x1_7), (0, .ref h0)]) hx hb dX13_shut_17 rfl hl (by decide) rfl (fun ls hl => ?_)
        have hl2 : z_8.toInt < (sg 41).toInt := by rw [ez_8]; exact hmo _ (lt_cl h_7 (show iv 0 80 (sg 50) from MI_s hI 50) (by decide) (by decide) hlm)
        refine lv_aload_n hx hb dX13_shut_18 rfl (lv_at hl 2 rfl) ?_
        refine lv_iload_n hx hb dX13_shut_19 rfl (lv_at hl 0 rfl) ?_
        refine lv_ldc2 (own := RX13) (v := 28259044220366713) hx hb hown (htb _ kw_908) dX13_shut_20 ?_
        refine mr_calli (rest := []) ⟨hx, hb, hml, hown, htb⟩ (a_letter l dC dI h0 ad cid sg_j7 gm_j7 lg z_8 28259044220366713 hI_j7 (iv_w hz_8 (by decide)) (by rw [(hks_j7 41 (by decide))]; exact hl2) ((DOC_of hdoc (show KS [49] sg sg_j7 from (KS_tr (L := [49]) KS_rf hks_j7 (by decide))) (show KS [55, 56, 57, 58, 60, 61] gm gm_j7 from (KS_tr (L := [55, 56, 57, 58, 60, 61]) KS_rf hkg_j7 (by decide))) (show KS [] lg lg from KS_rf) (by decide) (by decide) (by decide) (by decide)).1.2.2.2)) (cwV 2 htb (gd_V kw_1204 kw_1205 kw_1206 kw_5 kw_1618) rfl rfl rfl (by decide +kernel) ⟨Nat.le_of_ble_eq_true rfl, Nat.le_of_ble_eq_true rfl⟩) rfl hl.1 rfl (Nat.le_of_ble_eq_true rfl) dX13_shut_23 ⟨Nat.zero_le _, Nat.zero_le _⟩ hK hP hD hS hA (fun r_9 u_10 H locs hw hP hD hS => ?_)
        obtain rfl := hw
        have hP : va_P (dC, dI) vwCl (mW h0 ad cid sg_j7 gm_j7 lg) H := hP
        have hD : va_D A (mW h0 ad cid sg_j7 gm_j7 lg) := hD
        refine lv_iconst (v := (-1)) hx hb dX13_shut_26 (by decide) ?_
        refine lv_icmp_eq (tgt := 51) hx hb dX13_shut_27 (by decide) (fun c_11 => ?_) (fun c_11 => ?_)
        · have h_12 : iv (-1) (-1) r_9 := iv_eq c_11 (iv_all r_9) (iv_k (by decide) : iv (-1) (-1) (-1)) (by decide)
          exact hj51 sg_j7 gm_j7 z_8 hz_8 h_7 (KS_tr (L := [49]) KS_rf hks_j7 (by decide)) (KS_tr (L := [55, 56, 57, 58, 60, 61]) KS_rf hkg_j7 (by decide)) hI_j7 (hvb) (hlm) _ _ _ hP hD hS (lv_sub hl [0, 1, 2] rfl)
        · have d_13 : ¬ (r_9 : Int32).toInt = (-1) := lv_neT c_11 rfl
          refine lv_aload_n hx hb dX13_shut_30 rfl (lv_at hl 2 rfl) ?_
          refine lv_bipush (v := 7) hx hb dX13_shut_31 (by decide) ?_
          refine lv_aload_n hx hb dX13_shut_33 rfl (lv_at hl 2 rfl) ?_
          refine mr_get (v := .ref (ad 60)) hx hb htb inX13 hown hK hP 60 (by decide) (htb _ kw_210) rfl dX13_shut_34 ?_
          refine lv_iload_n hx hb dX13_shut_37 rfl (lv_at hl 0 rfl) ?_
          refine mr_iald hx hb hK hP 46 (k := 60) rfl rfl rfl (show vp_in z_8 80 from (iv_in hz_8 (by decide))) dX13_shut_38 ?_
          refine lv_topi (fun z_14 ez_14 => ?_)
          have hz_14 : iv (-1) 59 z_14 := iv_of ez_14 (MI_a hI_j7 60 hz_8 (by decide))
          refine lv_aload_n hx hb dX13_shut_39 rfl (lv_at hl 2 rfl) ?_
          refine lv_iload_n hx hb dX13_shut_40 rfl (lv_at hl 0 rfl) ?_
          refine lv_ldc2 (own := RX13) (v := 28259044220366713) hx hb hown (htb _ kw_908) dX13_shut_41 ?_
          refine mr_calli (rest := [.int z_14, .int 7, .ref h0]) ⟨hx, hb, hml, hown, htb⟩ (a_letter l dC dI h0 ad cid sg_j7 gm_j7 lg z_8 28259044220366713 hI_j7 (iv_w hz_8 (by decide)) (by rw [(hks_j7 41 (by decide))]; exact hl2) ((DOC_of hdoc (show KS [49] sg sg_j7 from (KS_tr (L := [49]) KS_rf hks_j7 (by decide))) (show KS [55, 56, 57, 58, 60, 61] gm gm_j7 from (KS_tr (L := [55, 56, 57, 58, 60, 61]) KS_rf hkg_j7 (by decide))) (show KS [] lg lg from KS_rf) (by decide) (by decide) (by decide) (by decide)).1.2.2.2)) (cwV 2 htb (gd_V kw_1204 kw_1205 kw_1206 kw_5 kw_1618) rfl rfl rfl (by decide +kernel) ⟨Nat.le_of_ble_eq_true rfl, Nat.le_of_ble_eq_true rfl⟩) rfl hl.1 rfl (Nat.le_of_ble_eq_true rfl) dX13_shut_44 ⟨Nat.zero_le _, Nat.zero_le _⟩ hK hP hD hS hA (fun r_15 u_16 H locs hw hP hD hS => ?_)
          obtain rfl := hw
          have hP : va_P (dC, dI) vwCl (mW h0 ad cid sg_j7 gm_j7 lg) H := hP
          have hD : va_D A (mW h0 ad cid sg_j7 gm_j7 lg) := hD
          refine lv_iconst (v := 0) hx hb dX13_shut_47 (by decide) ?_
          refine mr_callv (rest := []) ⟨hx, hb, hml, hown, htb⟩ (a_happens l dC dI h0 ad cid sg_j7 gm_j7 lg 7 z_14 r_15 0 hI_j7) (cwV 4 htb (gd_V kw_1245 kw_1246 kw_1247 kw_5 kw_1630) rfl rfl rfl (by decide +kernel) ⟨Nat.le_of_ble_eq_true rfl, Nat.le_of_ble_eq_true rfl⟩) rfl hl.1 rfl (Nat.le_of_ble_eq_true rfl) dX13_shut_48 ⟨Nat.zero_le _, Nat.zero_le _⟩ hK hP hD hS hA (fun u_18 H locs hw hP hD hS => ?_)
          obtain ⟨sgv_19, gmv_19, lgv_19, rfl, hIv_19, ksv_19, kgv_19, klv_19⟩ := hw
          obtain rfl := KS_nil klv_19
          have hP : va_P (dC, dI) vwCl (mW h0 ad cid sgv_19 gmv_19 lg) H := hP
          have hD : va_D A (mW h0 ad cid sgv_19 gmv_19 lg) := hD
          exact hj51 sgv_19 gmv_19 z_8 hz_8 h_7 (KS_tr (L := [49]) (KS_tr (L := [49]) KS_rf hks_j7 (by decide)) ksv_19 (by decide)) (KS_tr (L := [55, 56, 57, 58, 60, 61]) (KS_tr (L := [55, 56, 57, 58, 60, 61]) KS_rf hkg_j7 (by decide)) kgv_19 (by decide)) hIv_19 (VB_of hvb (show KS [49] sg_j7 sgv_19 from (KS_tr (L := [49]) KS_rf ksv_19 (by decide))) (show KS [55, 56, 57, 58] gm_j7 gmv_19 from (KS_tr (L := [55, 56, 57, 58]) KS_rf kgv_19 (by decide))) (show KS [] lg lg from KS_rf) (by decide) (by decide) (by decide) (by decide) (by decide)) (hlm) _ _ _ hP hD hS (lv_sub hl [0, 1, 2] rfl)
  refine lv_aload_n hx hb dX13_shut_0 rfl (lv_at hl 0 rfl) ?_
  refine mr_get (v := .int (sg 50)) hx hb htb inX13 hown hK hP 50 (by decide) (htb _ kw_824) rfl dX13_shut_1 ?_
  refine lv_iconst (v := 1) hx hb dX13_shut_4 (by decide) ?_
  refine lv_isub hx hb dX13_shut_5 ?_
  refine lv_topi (fun z_20 ez_20 => ?_)
  have hz_20 : iv (-1) 79 z_20 := iv_of ez_20 (iv_sub (show iv 0 80 (sg 50) from MI_s hI 50) (iv_k (by decide) : iv 1 1 1) (by decide))
  have tz_20 : z_20.toInt = ((sg 50) : Int32).toInt - 1 := by rw [ez_20]; exact iv_subE (show iv 0 80 (sg 50) from MI_s hI 50) (iv_k (by decide) : iv 1 1 1) (by decide)
  refine lv_istore_n (lv' := [(1, .int z_20), (0, .ref h0)]) hx hb dX13_shut_6 rfl hl (by decide) rfl (fun ls hl => ?_)
  exact hj7 _ sg gm z_20 rfl hz_20 KS_rf KS_rf hI (⟨hgi.1, hgi.2.1⟩) (by have := i32_0; have := i32_1; have := i32_2; have := i32_m1; have := (show iv 0 80 (sg 50) from MI_s hI 50).1; have := (show iv 0 80 (sg 50) from MI_s hI 50).2; have := ((show iv 0 80 (sg 50) from MI_s hI 50)).1; have := ((show iv 0 80 (sg 50) from MI_s hI 50)).2; have := (hz_20).1; have := (hz_20).2; omega) _ _ _ hP hD hS (lv_sub hl [0, 1] rfl)

set_option maxHeartbeats 4000000 in
set_option maxRecDepth 100000 in
theorem f_refresh (l : Launch) (dC : Nat → ClassId) (dI : Nat → Nat → Nat) (h0 : Nat) (ad : Nat → Nat) (cid : Nat → ClassId) (sg : Nat → Int32) (gm : Nat → Nat → Int32) (lg : Nat → Nat → Int64) (hI : MI sg gm) (hgi : GI0 sg gm lg) (hPR : PR gm) (hmo : MO sg gm) (hdd : (sg 40).toInt = 0 ∨ DOC sg gm lg) : MMi l dC dI yX13_refresh wm_X13_refresh ({ frames := 12, cells := 0, slots := 0, locals := 300 }) h0 ad cid [] sg gm lg (fun r v => ∃ (sg2 : Nat → Int32) (gm2 : Nat → Nat → Int32) (lg2 : Nat → Nat → Int64), v = (sg2, gm2, lg2) ∧ MI sg2 gm2 ∧ KS [5, 48, 49, 50, 51, 52, 63, 74] sg sg2 ∧ KS [53, 54, 55, 56, 57, 58, 59, 60, 61, 62, 64, 65, 66, 67, 68, 69, 70, 71, 72, 73, 75] gm gm2 ∧ KS [] lg lg2 ∧ (GI0 sg2 gm2 lg2) ∧ (MO sg2 gm2)) := by
  intro sz
  refine Met.ofW (cc := cX13_refresh) (maxL := 4) (ret := (some .int)) (by decide) rfl ?_
  intro p e s m args below meth c s₁ B hml hv
  obtain ⟨rfl, hsz, hP, hK, hD0⟩ := hv
  have hx := B.exec
  have hb := B.bytes
  have hr := B.returns
  have hts := atoms_spec (ws := wm_X13_refresh) B.pre
  have htb := fun (w : Cond) (h : w ∈ tb) => hts w (List.mem_cons_of_mem _ h)
  have hown : s.vm.findClass RX13 = some m.cls := findClass_of_methodNamed B.named
  have hlocks := B.notSynchronized
  subst hsz
  have hD := hD0.self (sz := s.heap.size)
  generalize hAe : va_A (mW h0 ad cid sg gm lg) s.heap.size = A at hD ⊢
  have hA : ∀ q : Nat, s.heap.size ≤ q → A q := fun q h => by rw [← hAe]; exact Or.inr h
  have hS : va_S A s.heap s.heap [] := va_S.rf
  have hl := lv_entry ([.ref h0]) (n := 4) (Nat.le_of_ble_eq_true rfl)
  rw [lg_entry_eq]
  generalize (lg_sl ([.ref h0]) ++ List.replicate (4 - (lg_sl ([.ref h0])).length) Slot.unset).toArray = ls at hl ⊢
  have hl : lv_has ls 4 [(0, .ref h0)] := hl
  have hj150 : ∀ (sg_j150 : Nat → Int32) (gm_j150 : Nat → Nat → Int32) (x2_150 : Int32) (x1_150 : Int32) (y0_150 : Int32) (_ : iv 0 80 x2_150) (_ : iv 0 1 x1_150) (_ : iv 0 60 y0_150) (_ : KS [5, 48, 49, 50, 51, 52, 63, 74] sg sg_j150) (_ : KS [53, 54, 55, 56, 57, 58, 59, 60, 61, 62, 64, 65, 66, 67, 68, 69, 70, 71, 72, 73, 75] gm gm_j150) (_ : MI sg_j150 gm_j150) (_ : GI0 sg_j150 gm_j150 lg) (_ : MO sg_j150 gm_j150) (_ : DOC sg gm lg) (H : Heap) (locs : List Loc) (ls : Array Slot), va_P (dC, dI) vwCl (mW h0 ad cid sg_j150 gm_j150 lg) H → va_D A (mW h0 ad cid sg_j150 gm_j150 lg) → va_S A s.heap H locs → lv_has ls 4 [(2, .int x2_150), (1, .int x1_150), (0, .ref h0)] → W p l e (headSpec wm_X13_refresh ({ frames := 12, cells := 0, slots := 0, locals := 300 })).room s m ([.ref h0] : List Value).toArray below meth c H locs 0 0 (MQ below (va_Qi (fun r v => ∃ (sg2 : Nat → Int32) (gm2 : Nat → Nat → Int32) (lg2 : Nat → Nat → Int64), v = (sg2, gm2, lg2) ∧ MI sg2 gm2 ∧ KS [5, 48, 49, 50, 51, 52, 63, 74] sg sg2 ∧ KS [53, 54, 55, 56, 57, 58, 59, 60, 61, 62, 64, 65, 66, 67, 68, 69, 70, 71, 72, 73, 75] gm gm2 ∧ KS [] lg lg2 ∧ (GI0 sg2 gm2 lg2) ∧ (MO sg2 gm2)) (MB dC dI h0 ad cid A) A) ([.ref h0] : List Value).toArray s 0 0 A) (F0 m 150 ls [.int y0_150]) := by
    intro sg_j150 gm_j150 x2_150 x1_150 y0_150 hx2_150 hx1_150 hy0_150 hks_j150 hkg_j150 hI_j150 hgi hmo hdoc H locs ls hP hD hS hl
    exact W.iret (v := y0_150) hx hb hr (fun t ht hW => ⟨⟨y0_150, (sg_j150, gm_j150, lg), rfl, ⟨sg_j150, gm_j150, lg, rfl, hI_j150, (KS_tr (L := [5, 48, 49, 50, 51, 52, 63, 74]) KS_rf hks_j150 (by decide)), (KS_tr (L := [53, 54, 55, 56, 57, 58, 59, 60, 61, 62, 64, 65, 66, 67, 68, 69, 70, 71, 72, 73, 75]) KS_rf hkg_j150 (by decide)), KS_rf, (hgi), (hmo)⟩, by rw [ht]; exact hP, va_K.moved hW.alike hK, hD⟩, hS.F ht⟩) hS.2.2 dX13_refresh_150
  have hj135 : ∀ (sg_j135 : Nat → Int32) (gm_j135 : Nat → Nat → Int32) (x2_135 : Int32) (x1_135 : Int32) (y0_135 : Int32) (_ : iv 0 80 x2_135) (_ : iv 0 1 x1_135) (_ : iv 0 2 y0_135) (_ : KS [5, 48, 49, 50, 51, 52, 63, 74] sg sg_j135) (_ : KS [53, 54, 55, 56, 57, 58, 59, 60, 61, 62, 64, 65, 66, 67, 68, 69, 70, 71, 72, 73, 75] gm gm_j135) (_ : MI sg_j135 gm_j135) (_ : GI0 sg_j135 gm_j135 lg) (_ : MO sg_j135 gm_j135) (_ : DOC sg gm lg) (H : Heap) (locs : List Loc) (ls : Array Slot), va_P (dC, dI) vwCl (mW h0 ad cid sg_j135 gm_j135 lg) H → va_D A (mW h0 ad cid sg_j135 gm_j135 lg) → va_S A s.heap H locs → lv_has ls 4 [(2, .int x2_135), (1, .int x1_135), (0, .ref h0)] → W p l e (headSpec wm_X13_refresh ({ frames := 12, cells := 0, slots := 0, locals := 300 })).room s m ([.ref h0] : List Value).toArray below meth c H locs 0 0 (MQ below (va_Qi (fun r v => ∃ (sg2 : Nat → Int32) (gm2 : Nat → Nat → Int32) (lg2 : Nat → Nat → Int64), v = (sg2, gm2, lg2) ∧ MI sg2 gm2 ∧ KS [5, 48, 49, 50, 51, 52, 63, 74] sg sg2 ∧ KS [53, 54, 55, 56, 57, 58, 59, 60, 61, 62, 64, 65, 66, 67, 68, 69, 70, 71, 72, 73, 75] gm gm2 ∧ KS [] lg lg2 ∧ (GI0 sg2 gm2 lg2) ∧ (MO sg2 gm2)) (MB dC dI h0 ad cid A) A) ([.ref h0] : List Value).toArray s 0 0 A) (F0 m 135 ls [.int y0_135, .ref h0]) := by
    intro sg_j135 gm_j135 x2_135 x1_135 y0_135 hx2_135 hx1_135 hy0_135 hks_j135 hkg_j135 hI_j135 hgi hmo hdoc H locs ls hP hD hS hl
    refine ma_put (x := y0_135) hx hb htb inX13 hown hK hP hD hS 5 (by decide) (by decide) (htb _ kw_239) rfl rfl rfl dX13_refresh_135 (fun sg_1 H locs esg_1 hP hD hS => ?_)
    have hI_sg_1 := MI_put hI_j135 esg_1 hy0_135 (by decide)
    refine lv_iload_n hx hb dX13_refresh_138 rfl (lv_at hl 1 rfl) ?_
    refine lv_if_eq (tgt := 149) hx hb dX13_refresh_139 (by decide) (fun c_2 => ?_) (fun c_2 => ?_)
    · have h_3 : iv 0 0 x1_135 := iv_eq c_2 hx1_135 (iv_k (by decide) : iv 0 0 0) (by decide)
      refine lv_iconst (v := 0) hx hb dX13_refresh_149 (by decide) ?_
      exact hj150 sg_1 gm_j135 x2_135 x1_135 0 hx2_135 (iv_w h_3 (by decide)) (iv_w (iv_k (by decide) : iv 0 0 0) (by decide)) (KS_up (KS_tr (L := [5, 48, 49, 50, 51, 52, 63, 74]) KS_rf hks_j135 (by decide)) esg_1 (by decide)) (KS_tr (L := [53, 54, 55, 56, 57, 58, 59, 60, 61, 62, 64, 65, 66, 67, 68, 69, 70, 71, 72, 73, 75]) KS_rf hkg_j135 (by decide)) hI_sg_1 ((GI0_of hgi (show KS [5] sg_j135 sg_1 from (KS_up KS_rf esg_1 (by decide))) (show KS [] gm_j135 gm_j135 from KS_rf) (show KS [] lg lg from KS_rf) (by decide) (by decide) (by decide) (by decide) (by decide) (by decide))) ((MO_of hmo (show KS [5] sg_j135 sg_1 from (KS_up KS_rf esg_1 (by decide))) (show KS [] gm_j135 gm_j135 from KS_rf) (by decide) (by decide))) (hdoc) _ _ _ hP hD hS (lv_sub hl [0, 1, 2] rfl)
    · have h_4 : iv 1 1 x1_135 := iv_neL c_2 hx1_135 (by decide)
      refine lv_aload_n hx hb dX13_refresh_142 rfl (lv_at hl 2 rfl) ?_
      refine mr_get (v := .int (sg_1 48)) hx hb htb inX13 hown hK hP 48 (by decide) (htb _ kw_819) rfl dX13_refresh_143 ?_
      refine lv_topi (fun z_5 ez_5 => ?_)
      obtain rfl : (sg_j135 48) = z_5 := (ez_5.trans (up_ne esg_1 (by decide))).symm
      refine lv_goto (tgt := 150) hx hb dX13_refresh_146 (by decide) ?_
      exact hj150 sg_1 gm_j135 x2_135 x1_135 (sg_j135 48) hx2_135 (iv_w h_4 (by decide)) (show iv 0 60 (sg_j135 48) from MI_s hI_j135 48) (KS_up (KS_tr (L := [5, 48, 49, 50, 51, 52, 63, 74]) KS_rf hks_j135 (by decide)) esg_1 (by decide)) (KS_tr (L := [53, 54, 55, 56, 57, 58, 59, 60, 61, 62, 64, 65, 66, 67, 68, 69, 70, 71, 72, 73, 75]) KS_rf hkg_j135 (by decide)) hI_sg_1 ((GI0_of hgi (show KS [5] sg_j135 sg_1 from (KS_up KS_rf esg_1 (by decide))) (show KS [] gm_j135 gm_j135 from KS_rf) (show KS [] lg lg from KS_rf) (by decide) (by decide) (by decide) (by decide) (by decide) (by decide))) ((MO_of hmo (show KS [5] sg_j135 sg_1 from (KS_up KS_rf esg_1 (by decide))) (show KS [] gm_j135 gm_j135 from KS_rf) (by decide) (by decide))) (hdoc) _ _ _ hP hD hS (lv_sub hl [0, 1, 2] rfl)
  have hj125 : ∀ (sg_j125 : Nat → Int32) (gm_j125 : Nat → Nat → Int32) (x2_125 : Int32) (x1_125 : Int32) (_ : iv 0 80 x2_125) (_ : iv 0 1 x1_125) (_ : KS [5, 48, 49, 50, 51, 52, 63, 74] sg sg_j125) (_ : KS [53, 54, 55, 56, 57, 58, 59, 60, 61, 62, 64, 65, 66, 67, 68, 69, 70, 71, 72, 73, 75] gm gm_j125) (_ : MI sg_j125 gm_j125) (_ : GI0 sg_j125 gm_j125 lg) (_ : MO sg_j125 gm_j125) (_ : DOC sg gm lg) (H : Heap) (locs : List Loc) (ls : Array Slot), va_P (dC, dI) vwCl (mW h0 ad cid sg_j125 gm_j125 lg) H → va_D A (mW h0 ad cid sg_j125 gm_j125 lg) → va_S A s.heap H locs → lv_has ls 4 [(2, .int x2_125), (1, .int x1_125), (0, .ref h0)] → W p l e (headSpec wm_X13_refresh ({ frames := 12, cells := 0, slots := 0, locals := 300 })).room s m ([.ref h0] : List Value).toArray below meth c H locs 0 0 (MQ below (va_Qi (fun r v => ∃ (sg2 : Nat → Int32) (gm2 : Nat → Nat → Int32) (lg2 : Nat → Nat → Int64), v = (sg2, gm2, lg2) ∧ MI sg2 gm2 ∧ KS [5, 48, 49, 50, 51, 52, 63, 74] sg sg2 ∧ KS [53, 54, 55, 56, 57, 58, 59, 60, 61, 62, 64, 65, 66, 67, 68, 69, 70, 71, 72, 73, 75] gm gm2 ∧ KS [] lg lg2 ∧ (GI0 sg2 gm2 lg2) ∧ (MO sg2 gm2)) (MB dC dI h0 ad cid A) A) ([.ref h0] : List Value).toArray s 0 0 A) (F0 m 125 ls []) := by
    intro sg_j125 gm_j125 x2_125 x1_125 hx2_125 hx1_125 hks_j125 hkg_j125 hI_j125 hgi hmo hdoc H locs ls hP hD hS hl
    refine lv_aload_n hx hb dX13_refresh_125 rfl (lv_at hl 2 rfl) ?_
    refine lv_iload_n hx hb dX13_refresh_126 rfl (lv_at hl 1 rfl) ?_
    refine lv_if_eq (tgt := 134) hx hb dX13_refresh_127 (by decide) (fun c_6 => ?_) (fun c_6 => ?_)
    · have h_7 : iv 0 0 x1_125 := iv_eq c_6 hx1_125 (iv_k (by decide) : iv 0 0 0) (by decide)
      refine lv_iconst (v := 2) hx hb dX13_refresh_134 (by decide) ?_
      exact hj135 sg_j125 gm_j125 x2_125 x1_125 2 hx2_125 (iv_w h_7 (by decide)) (iv_w (iv_k (by decide) : iv 2 2 2) (by decide)) (KS_tr (L := [5, 48, 49, 50, 51, 52, 63, 74]) KS_rf hks_j125 (by decide)) (KS_tr (L := [53, 54, 55, 56, 57, 58, 59, 60, 61, 62, 64, 65, 66, 67, 68, 69, 70, 71, 72, 73, 75]) KS_rf hkg_j125 (by decide)) hI_j125 (hgi) (hmo) (hdoc) _ _ _ hP hD hS (lv_sub hl [0, 1, 2] rfl)
    · have h_8 : iv 1 1 x1_125 := iv_neL c_6 hx1_125 (by decide)
      refine lv_iconst (v := 0) hx hb dX13_refresh_130 (by decide) ?_
      refine lv_goto (tgt := 135) hx hb dX13_refresh_131 (by decide) ?_
      exact hj135 sg_j125 gm_j125 x2_125 x1_125 0 hx2_125 (iv_w h_8 (by decide)) (iv_w (iv_k (by decide) : iv 0 0 0) (by decide)) (KS_tr (L := [5, 48, 49, 50, 51, 52, 63, 74]) KS_rf hks_j125 (by decide)) (KS_tr (L := [53, 54, 55, 56, 57, 58, 59, 60, 61, 62, 64, 65, 66, 67, 68, 69, 70, 71, 72, 73, 75]) KS_rf hkg_j125 (by decide)) hI_j125 (hgi) (hmo) (hdoc) _ _ _ hP hD hS (lv_sub hl [0, 1, 2] rfl)
  have hj117 : ∀ (sg_j117 : Nat → Int32) (gm_j117 : Nat → Nat → Int32) (x2_117 : Int32) (x1_117 : Int32) (_ : iv 0 80 x2_117) (_ : iv 0 1 x1_117) (_ : KS [5, 48, 49, 50, 51, 52, 63, 74] sg sg_j117) (_ : KS [53, 54, 55, 56, 57, 58, 59, 60, 61, 62, 64, 65, 66, 67, 68, 69, 70, 71, 72, 73, 75] gm gm_j117) (_ : MI sg_j117 gm_j117) (_ : GI0 sg_j117 gm_j117 lg) (_ : MO sg_j117 gm_j117) (_ : DOC sg gm lg) (H : Heap) (locs : List Loc) (ls : Array Slot), va_P (dC, dI) vwCl (mW h0 ad cid sg_j117 gm_j117 lg) H → va_D A (mW h0 ad cid sg_j117 gm_j117 lg) → va_S A s.heap H locs → lv_has ls 4 [(2, .int x2_117), (1, .int x1_117), (0, .ref h0)] → W p l e (headSpec wm_X13_refresh ({ frames := 12, cells := 0, slots := 0, locals := 300 })).room s m ([.ref h0] : List Value).toArray below meth c H locs 0 0 (MQ below (va_Qi (fun r v => ∃ (sg2 : Nat → Int32) (gm2 : Nat → Nat → Int32) (lg2 : Nat → Nat → Int64), v = (sg2, gm2, lg2) ∧ MI sg2 gm2 ∧ KS [5, 48, 49, 50, 51, 52, 63, 74] sg sg2 ∧ KS [53, 54, 55, 56, 57, 58, 59, 60, 61, 62, 64, 65, 66, 67, 68, 69, 70, 71, 72, 73, 75] gm gm2 ∧ KS [] lg lg2 ∧ (GI0 sg2 gm2 lg2) ∧ (MO sg2 gm2)) (MB dC dI h0 ad cid A) A) ([.ref h0] : List Value).toArray s 0 0 A) (F0 m 117 ls []) := by
    intro sg_j117 gm_j117 x2_117 x1_117 hx2_117 hx1_117 hks_j117 hkg_j117 hI_j117 hgi hmo hdoc H locs ls hP hD hS hl
    refine lv_iload_n hx hb dX13_refresh_117 rfl (lv_at hl 1 rfl) ?_
    refine lv_if_ne (tgt := 125) hx hb dX13_refresh_118 (by decide) (fun c_9 => ?_) (fun c_9 => ?_)
    · have h_10 : iv 1 1 x1_117 := iv_neL c_9 hx1_117 (by decide)
      exact hj125 sg_j117 gm_j117 x2_117 x1_117 hx2_117 (iv_w h_10 (by decide)) (KS_tr (L := [5, 48, 49, 50, 51, 52, 63, 74]) KS_rf hks_j117 (by decide)) (KS_tr (L := [53, 54, 55, 56, 57, 58, 59, 60, 61, 62, 64, 65, 66, 67, 68, 69, 70, 71, 72, 73, 75]) KS_rf hkg_j117 (by decide)) hI_j117 (hgi) (hmo) (hdoc) _ _ _ hP hD hS (lv_sub hl [0, 1, 2] rfl)
    · have h_11 : iv 0 0 x1_117 := iv_eq c_9 hx1_117 (iv_k (by decide) : iv 0 0 0) (by decide)
      refine lv_aload_n hx hb dX13_refresh_121 rfl (lv_at hl 2 rfl) ?_
      refine mr_callv (rest := []) ⟨hx, hb, hml, hown, htb⟩ (f_shut l dC dI h0 ad cid sg_j117 gm_j117 lg hI_j117 (DOC_of hdoc (show KS [5, 48, 49, 50, 51, 52, 63, 74] sg sg_j117 from (KS_tr (L := [5, 48, 49, 50, 51, 52, 63, 74]) KS_rf hks_j117 (by decide))) (show KS [53, 54, 55, 56, 57, 58, 59, 60, 61, 62, 64, 65, 66, 67, 68, 69, 70, 71, 72, 73, 75] gm gm_j117 from (KS_tr (L := [53, 54, 55, 56, 57, 58, 59, 60, 61, 62, 64, 65, 66, 67, 68, 69, 70, 71, 72, 73, 75]) KS_rf hkg_j117 (by decide))) (show KS [] lg lg from KS_rf) (by decide) (by decide) (by decide) (by decide)) hgi hmo) (cwV 0 htb (gd_V kw_1263 kw_1264 kw_1265 kw_5 kw_1636) rfl rfl rfl (by decide +kernel) ⟨Nat.le_of_ble_eq_true rfl, Nat.le_of_ble_eq_true rfl⟩) rfl hl.1 rfl (Nat.le_of_ble_eq_true rfl) dX13_refresh_122 ⟨Nat.zero_le _, Nat.zero_le _⟩ hK hP hD hS hA (fun u_13 H locs hw hP hD hS => ?_)
      obtain ⟨sgv_14, gmv_14, lgv_14, rfl, hIv_14, ksv_14, kgv_14, klv_14, fGI_r_12, fMo_r_12⟩ := hw
      obtain rfl := KS_nil klv_14
      have hP : va_P (dC, dI) vwCl (mW h0 ad cid sgv_14 gmv_14 lg) H := hP
      have hD : va_D A (mW h0 ad cid sgv_14 gmv_14 lg) := hD
      exact hj125 sgv_14 gmv_14 x2_117 x1_117 hx2_117 (iv_w h_11 (by decide)) (KS_tr (L := [5, 48, 49, 50, 51, 52, 63, 74]) (KS_tr (L := [5, 48, 49, 50, 51, 52, 63, 74]) KS_rf hks_j117 (by decide)) ksv_14 (by decide)) (KS_tr (L := [53, 54, 55, 56, 57, 58, 59, 60, 61, 62, 64, 65, 66, 67, 68, 69, 70, 71, 72, 73, 75]) (KS_tr (L := [53, 54, 55, 56, 57, 58, 59, 60, 61, 62, 64, 65, 66, 67, 68, 69, 70, 71, 72, 73, 75]) KS_rf hkg_j117 (by decide)) kgv_14 (by decide)) hIv_14 (fGI_r_12) (fMo_r_12) (hdoc) _ _ _ hP hD hS (lv_sub hl [0, 1, 2] rfl)
  have hj43 : ∀ (n : Nat) (sg_j43 : Nat → Int32) (gm_j43 : Nat → Nat → Int32) (x2_43 : Int32) (x1_43 : Int32) (_ : (80 - x2_43.toInt).toNat = n) (_ : iv 0 80 x2_43) (_ : iv 0 1 x1_43) (_ : KS [5, 48, 49, 50, 51, 52, 63, 74] sg sg_j43) (_ : KS [53, 54, 55, 56, 57, 58, 59, 60, 61, 62, 64, 65, 66, 67, 68, 69, 70, 71, 72, 73, 75] gm gm_j43) (_ : MI sg_j43 gm_j43) (_ : GI0 sg_j43 gm_j43 lg) (_ : MO sg_j43 gm_j43) (_ : DOC sg gm lg) (H : Heap) (locs : List Loc) (ls : Array Slot), va_P (dC, dI) vwCl (mW h0 ad cid sg_j43 gm_j43 lg) H → va_D A (mW h0 ad cid sg_j43 gm_j43 lg) → va_S A s.heap H locs → lv_has ls 4 [(2, .int x2_43), (1, .int x1_43), (0, .ref h0)] → W p l e (headSpec wm_X13_refresh ({ frames := 12, cells := 0, slots := 0, locals := 300 })).room s m ([.ref h0] : List Value).toArray below meth c H locs 0 0 (MQ below (va_Qi (fun r v => ∃ (sg2 : Nat → Int32) (gm2 : Nat → Nat → Int32) (lg2 : Nat → Nat → Int64), v = (sg2, gm2, lg2) ∧ MI sg2 gm2 ∧ KS [5, 48, 49, 50, 51, 52, 63, 74] sg sg2 ∧ KS [53, 54, 55, 56, 57, 58, 59, 60, 61, 62, 64, 65, 66, 67, 68, 69, 70, 71, 72, 73, 75] gm gm2 ∧ KS [] lg lg2 ∧ (GI0 sg2 gm2 lg2) ∧ (MO sg2 gm2)) (MB dC dI h0 ad cid A) A) ([.ref h0] : List Value).toArray s 0 0 A) (F0 m 43 ls []) := by
    intro n
    induction n using Nat.strongRecOn with
    | ind n ih43 =>
      intro sg_j43 gm_j43 x2_43 x1_43 hn43 hx2_43 hx1_43 hks_j43 hkg_j43 hI_j43 hgi hmo hdoc H locs ls hP hD hS hl
      have hj111 : ∀ (sg_j111 : Nat → Int32) (gm_j111 : Nat → Nat → Int32) (x3_111 : Int32) (x1_111 : Int32) (_ : iv 0 79 x3_111) (_ : iv 0 79 x2_43) (_ : iv 0 1 x1_111) (_ : KS [5, 48, 49, 50, 51, 52, 63, 74] sg sg_j111) (_ : KS [53, 54, 55, 56, 57, 58, 59, 60, 61, 62, 64, 65, 66, 67, 68, 69, 70, 71, 72, 73, 75] gm gm_j111) (_ : MI sg_j111 gm_j111) (_ : GI0 sg_j111 gm_j111 lg) (_ : MO sg_j111 gm_j111) (_ : DOC sg gm lg) (H : Heap) (locs : List Loc) (ls : Array Slot), va_P (dC, dI) vwCl (mW h0 ad cid sg_j111 gm_j111 lg) H → va_D A (mW h0 ad cid sg_j111 gm_j111 lg) → va_S A s.heap H locs → lv_has ls 4 [(3, .int x3_111), (2, .int x2_43), (1, .int x1_111), (0, .ref h0)] → W p l e (headSpec wm_X13_refresh ({ frames := 12, cells := 0, slots := 0, locals := 300 })).room s m ([.ref h0] : List Value).toArray below meth c H locs 0 0 (MQ below (va_Qi (fun r v => ∃ (sg2 : Nat → Int32) (gm2 : Nat → Nat → Int32) (lg2 : Nat → Nat → Int64), v = (sg2, gm2, lg2) ∧ MI sg2 gm2 ∧ KS [5, 48, 49, 50, 51, 52, 63, 74] sg sg2 ∧ KS [53, 54, 55, 56, 57, 58, 59, 60, 61, 62, 64, 65, 66, 67, 68, 69, 70, 71, 72, 73, 75] gm gm2 ∧ KS [] lg lg2 ∧ (GI0 sg2 gm2 lg2) ∧ (MO sg2 gm2)) (MB dC dI h0 ad cid A) A) ([.ref h0] : List Value).toArray s 0 0 A) (F0 m 111 ls []) := by
        intro sg_j111 gm_j111 x3_111 x1_111 hx3_111 hsx2_111 hx1_111 hks_j111 hkg_j111 hI_j111 hgi hmo hdoc H locs ls hP hD hS hl
        obtain ⟨z_15, ez_15⟩ : ∃ z : Int32, z = x2_43 + 1 := ⟨_, rfl⟩
        have hz_15 : iv 1 80 z_15 := iv_of ez_15 (iv_add hsx2_111 (iv_k (by decide) : iv 1 1 1) (by decide))
        have tz_15 : z_15.toInt = x2_43.toInt + 1 := by rw [ez_15]; exact iv_addE hsx2_111 (iv_k (by decide) : iv 1 1 1) (by decide)
        refine lv_iinc (v := z_15) (lv' := [(2, .int z_15), (3, .int x3_111), (1, .int x1_111), (0, .ref h0)]) hx hb dX13_refresh_111 hl (k := 1) rfl ez_15.symm (by decide) rfl (fun ls hl => ?_)
        refine lv_goto (tgt := 43) hx hb dX13_refresh_114 (by decide) ?_
        exact ih43 _ (by rw [← hn43]; exact (iv_meas tz_15 hsx2_111 (by decide))) sg_j111 gm_j111 z_15 x1_111 rfl (iv_w hz_15 (by decide)) hx1_111 (KS_tr (L := [5, 48, 49, 50, 51, 52, 63, 74]) KS_rf hks_j111 (by decide)) (KS_tr (L := [53, 54, 55, 56, 57, 58, 59, 60, 61, 62, 64, 65, 66, 67, 68, 69, 70, 71, 72, 73, 75]) KS_rf hkg_j111 (by decide)) hI_j111 (hgi) (hmo) (hdoc) _ _ _ hP hD hS (lv_sub hl [0, 2, 3] rfl)
      refine lv_iload_n hx hb dX13_refresh_43 rfl (lv_at hl 0 rfl) ?_
      refine lv_aload_n hx hb dX13_refresh_44 rfl (lv_at hl 2 rfl) ?_
      refine mr_get (v := .int (sg_j43 41)) hx hb htb inX13 hown hK hP 41 (by decide) (htb _ kw_817) rfl dX13_refresh_45 ?_
      refine lv_topi (fun z_16 ez_16 => ?_)
      obtain rfl : (sg 41) = z_16 := (ez_16.trans (hks_j43 41 (by decide))).symm
      refine lv_icmp_ge (tgt := 117) hx hb dX13_refresh_48 (by decide) (fun c_17 => ?_) (fun c_17 => ?_)
      · have d_18 : ((sg 41) : Int32).toInt ≤ (x2_43 : Int32).toInt := Int32.le_iff_toInt_le.mp c_17
        exact hj117 sg_j43 gm_j43 x2_43 x1_43 hx2_43 hx1_43 (KS_tr (L := [5, 48, 49, 50, 51, 52, 63, 74]) KS_rf hks_j43 (by decide)) (KS_tr (L := [53, 54, 55, 56, 57, 58, 59, 60, 61, 62, 64, 65, 66, 67, 68, 69, 70, 71, 72, 73, 75]) KS_rf hkg_j43 (by decide)) hI_j43 (hgi) (hmo) (hdoc) _ _ _ hP hD hS (lv_sub hl [0, 1, 2] rfl)
      · have d_19 : (x2_43 : Int32).toInt < ((sg 41) : Int32).toInt := Int32.lt_iff_toInt_lt.mp (i32_lt c_17)
        have h_20 : iv 0 79 x2_43 := iv_ltL (i32_lt c_17) hx2_43 (show iv 0 80 (sg 41) from MI_s hI 41) (by decide)
        have h_21 : iv 1 80 (sg 41) := iv_ltR (i32_lt c_17) hx2_43 (show iv 0 80 (sg 41) from MI_s hI 41) (by decide)
        refine lv_iload_n hx hb dX13_refresh_51 rfl (lv_at hl 1 rfl) ?_
        refine lv_if_eq (tgt := 117) hx hb dX13_refresh_52 (by decide) (fun c_22 => ?_) (fun c_22 => ?_)
        · have h_23 : iv 0 0 x1_43 := iv_eq c_22 hx1_43 (iv_k (by decide) : iv 0 0 0) (by decide)
          exact hj117 sg_j43 gm_j43 x2_43 x1_43 (iv_w h_20 (by decide)) (iv_w h_23 (by decide)) (KS_tr (L := [5, 48, 49, 50, 51, 52, 63, 74]) KS_rf hks_j43 (by decide)) (KS_tr (L := [53, 54, 55, 56, 57, 58, 59, 60, 61, 62, 64, 65, 66, 67, 68, 69, 70, 71, 72, 73, 75]) KS_rf hkg_j43 (by decide)) hI_j43 (hgi) (hmo) (hdoc) _ _ _ hP hD hS (lv_sub hl [0, 1, 2] rfl)
        · have h_24 : iv 1 1 x1_43 := iv_neL c_22 hx1_43 (by decide)
          refine lv_aload_n hx hb dX13_refresh_55 rfl (lv_at hl 2 rfl) ?_
          refine mr_get (v := .ref (ad 42)) hx hb htb inX13 hown hK hP 42 (by decide) (htb _ kw_196) rfl dX13_refresh_56 ?_
          refine lv_iload_n hx hb dX13_refresh_59 rfl (lv_at hl 0 rfl) ?_
          refine mr_iald hx hb hK hP 33 (k := 42) rfl rfl rfl (show vp_in x2_43 80 from (iv_in h_20 (by decide))) dX13_refresh_60 ?_
          refine lv_topi (fun z_25 ez_25 => ?_)
          have hz_25 : iv 0 79 z_25 := iv_of ez_25 (MI_a hI_j43 42 h_20 (by decide))
          have ez_25 := ez_25.trans (congrFun (hkg_j43 42 (by decide)) _)
          refine lv_istore_n (lv' := [(3, .int z_25), (2, .int x2_43), (1, .int x1_43), (0, .ref h0)]) hx hb dX13_refresh_61 rfl hl (by decide) rfl (fun ls hl => ?_)
          refine lv_aload_n hx hb dX13_refresh_62 rfl (lv_at hl 3 rfl) ?_
          refine mr_get (v := .ref (ad 28)) hx hb htb inX13 hown hK hP 28 (by decide) (htb _ kw_184) rfl dX13_refresh_63 ?_
          refine lv_iload_n hx hb dX13_refresh_66 rfl (lv_at hl 0 rfl) ?_
          refine mr_iald hx hb hK hP 21 (k := 28) rfl rfl rfl (show vp_in z_25 80 from (iv_in hz_25 (by decide))) dX13_refresh_67 ?_
          refine lv_topi (fun z_26 ez_26 => ?_)
          have hz_26 : iv (-1) 79 z_26 := iv_of ez_26 (MI_a hI_j43 28 hz_25 (by decide))
          have ez_26 := ez_26.trans (congrFun (hkg_j43 28 (by decide)) _)
          refine lv_if_ne (tgt := 111) hx hb dX13_refresh_68 (by decide) (fun c_27 => ?_) (fun c_27 => ?_)
          · have d_28 : ¬ (z_26 : Int32).toInt = 0 := lv_neT c_27 rfl
            exact hj111 sg_j43 gm_j43 z_25 x1_43 hz_25 h_20 (iv_w h_24 (by decide)) (KS_tr (L := [5, 48, 49, 50, 51, 52, 63, 74]) KS_rf hks_j43 (by decide)) (KS_tr (L := [53, 54, 55, 56, 57, 58, 59, 60, 61, 62, 64, 65, 66, 67, 68, 69, 70, 71, 72, 73, 75]) KS_rf hkg_j43 (by decide)) hI_j43 (hgi) (hmo) (hdoc) _ _ _ hP hD hS (lv_sub hl [0, 1, 2, 3] rfl)
          · have h_29 : iv 0 0 z_26 := iv_eq c_27 hz_26 (iv_k (by decide) : iv 0 0 0) (by decide)
            refine lv_aload_n hx hb dX13_refresh_71 rfl (lv_at hl 3 rfl) ?_
            refine lv_iload_n hx hb dX13_refresh_72 rfl (lv_at hl 1 rfl) ?_
            refine mr_calli (rest := []) ⟨hx, hb, hml, hown, htb⟩ (a_isAbstract l dC dI h0 ad cid sg_j43 gm_j43 lg x2_43 hI_j43 h_20) (cwV 1 htb (gd_V kw_1151 kw_1152 kw_1153 kw_5 kw_1601) rfl rfl rfl (by decide +kernel) ⟨Nat.le_of_ble_eq_true rfl, Nat.le_of_ble_eq_true rfl⟩) rfl hl.1 rfl (Nat.le_of_ble_eq_true rfl) dX13_refresh_73 ⟨Nat.zero_le _, Nat.zero_le _⟩ hK hP hD hS hA (fun r_30 u_31 H locs hw hP hD hS => ?_)
            obtain ⟨hr_30, rfl⟩ := hw
            have hP : va_P (dC, dI) vwCl (mW h0 ad cid sg_j43 gm_j43 lg) H := hP
            have hD : va_D A (mW h0 ad cid sg_j43 gm_j43 lg) := hD
            refine lv_if_ne (tgt := 111) hx hb dX13_refresh_76 (by decide) (fun c_32 => ?_) (fun c_32 => ?_)
            · have h_33 : iv 1 1 r_30 := iv_neL c_32 hr_30 (by decide)
              exact hj111 sg_j43 gm_j43 z_25 x1_43 hz_25 h_20 (iv_w h_24 (by decide)) (KS_tr (L := [5, 48, 49, 50, 51, 52, 63, 74]) KS_rf hks_j43 (by decide)) (KS_tr (L := [53, 54, 55, 56, 57, 58, 59, 60, 61, 62, 64, 65, 66, 67, 68, 69, 70, 71, 72, 73, 75]) KS_rf hkg_j43 (by decide)) hI_j43 (hgi) (hmo) (hdoc) _ _ _ hP hD hS (lv_sub hl [0, 1, 2, 3] rfl)
            · have h_34 : iv 0 0 r_30 := iv_eq c_32 hr_30 (iv_k (by decide) : iv 0 0 0) (by decide)
              refine lv_aload_n hx hb dX13_refresh_79 rfl (lv_at hl 3 rfl) ?_
              refine lv_iload_n hx hb dX13_refresh_80 rfl (lv_at hl 1 rfl) ?_
              refine mr_calli (rest := []) ⟨hx, hb, hml, hown, htb⟩ (f_isMany l dC dI h0 ad cid sg_j43 gm_j43 lg x2_43 hI_j43 h_20) (cwV 1 htb (gd_V kw_1154 kw_1155 kw_1156 kw_5 kw_1602) rfl rfl rfl (by decide +kernel) ⟨Nat.le_of_ble_eq_true rfl, Nat.le_of_ble_eq_true rfl⟩) rfl hl.1 rfl (Nat.le_of_ble_eq_true rfl) dX13_refresh_81 ⟨Nat.zero_le _, Nat.zero_le _⟩ hK hP hD hS hA (fun r_35 u_36 H locs hw hP hD hS => ?_)
              obtain ⟨hr_35, fY_r_35, rfl⟩ := hw
              have hP : va_P (dC, dI) vwCl (mW h0 ad cid sg_j43 gm_j43 lg) H := hP
              have hD : va_D A (mW h0 ad cid sg_j43 gm_j43 lg) := hD
              refine lv_if_ne (tgt := 111) hx hb dX13_refresh_84 (by decide) (fun c_37 => ?_) (fun c_37 => ?_)
              · have h_38 : iv 1 1 r_35 := iv_neL c_37 hr_35 (by decide)
                exact hj111 sg_j43 gm_j43 z_25 x1_43 hz_25 h_20 (iv_w h_24 (by decide)) (KS_tr (L := [5, 48, 49, 50, 51, 52, 63, 74]) KS_rf hks_j43 (by decide)) (KS_tr (L := [53, 54, 55, 56, 57, 58, 59, 60, 61, 62, 64, 65, 66, 67, 68, 69, 70, 71, 72, 73, 75]) KS_rf hkg_j43 (by decide)) hI_j43 (hgi) (hmo) (hdoc) _ _ _ hP hD hS (lv_sub hl [0, 1, 2, 3] rfl)
              · have h_39 : iv 0 0 r_35 := iv_eq c_37 hr_35 (iv_k (by decide) : iv 0 0 0) (by decide)
                refine lv_aload_n hx hb dX13_refresh_87 rfl (lv_at hl 3 rfl) ?_
                refine lv_iload_n hx hb dX13_refresh_88 rfl (lv_at hl 0 rfl) ?_
                refine lv_ldc2 (own := RX13) (v := 1818327673) hx hb hown (htb _ kw_904) dX13_refresh_89 ?_
                refine mr_calll (rest := []) ⟨hx, hb, hml, hown, htb⟩ (f_word l dC dI h0 ad cid sg_j43 gm_j43 lg z_25 1818327673 hI_j43 hz_25) (cwV 2 htb (gd_V kw_923 kw_924 kw_925 kw_5 kw_1545) rfl rfl rfl (by decide +kernel) ⟨Nat.le_of_ble_eq_true rfl, Nat.le_of_ble_eq_true rfl⟩) rfl hl.1 rfl (Nat.le_of_ble_eq_true rfl) dX13_refresh_92 ⟨Nat.zero_le _, Nat.zero_le _⟩ hK hP hD hS hA (fun r_40 u_41 H locs hw hP hD hS => ?_)
                obtain ⟨fW_r_40, rfl⟩ := hw
                have hP : va_P (dC, dI) vwCl (mW h0 ad cid sg_j43 gm_j43 lg) H := hP
                have hD : va_D A (mW h0 ad cid sg_j43 gm_j43 lg) := hD
                refine lv_aload_n hx hb dX13_refresh_95 rfl (lv_at hl 3 rfl) ?_
                refine mr_get (v := .ref (ad 1)) hx hb htb inX13 hown hK hP 1 (by decide) (htb _ kw_156) rfl dX13_refresh_96 ?_
                refine lv_iconst (v := 0) hx hb dX13_refresh_99 (by decide) ?_
                refine mr_lald hx hb hK hP 1 (k := 1) rfl rfl rfl (show vp_in 0 11 from (iv_in (iv_k (by decide) : iv 0 0 0) (by decide))) dX13_refresh_100 ?_
                refine lv_topl (fun z_42 ez_42 => ?_)
                refine W.lcmp hx hb dX13_refresh_101 ?_
                refine lv_topi (fun z_43 ez_43 => ?_)
                have hz_43 : iv (-1) 1 z_43 := iv_of ez_43 (iv_cmp _ _)
                refine lv_if_eq (tgt := 111) hx hb dX13_refresh_102 (by decide) (fun c_44 => ?_) (fun c_44 => ?_)
                · have h_45 : iv 0 0 z_43 := iv_eq c_44 hz_43 (iv_k (by decide) : iv 0 0 0) (by decide)
                  exact hj111 sg_j43 gm_j43 z_25 x1_43 hz_25 h_20 (iv_w h_24 (by decide)) (KS_tr (L := [5, 48, 49, 50, 51, 52, 63, 74]) KS_rf hks_j43 (by decide)) (KS_tr (L := [53, 54, 55, 56, 57, 58, 59, 60, 61, 62, 64, 65, 66, 67, 68, 69, 70, 71, 72, 73, 75]) KS_rf hkg_j43 (by decide)) hI_j43 (hgi) (hmo) (hdoc) _ _ _ hP hD hS (lv_sub hl [0, 1, 2, 3] rfl)
                · have d_46 : ¬ (z_43 : Int32).toInt = 0 := lv_neT c_44 rfl
                  refine lv_aload_n hx hb dX13_refresh_105 rfl (lv_at hl 3 rfl) ?_
                  refine lv_iload_n hx hb dX13_refresh_106 rfl (lv_at hl 1 rfl) ?_
                  refine mr_calli (rest := []) ⟨hx, hb, hml, hown, htb⟩ (f_run l dC dI h0 ad cid sg_j43 gm_j43 lg x2_43 hI_j43 (iv_w h_20 (by decide)) (DOC_of hdoc (show KS [5, 48, 49, 50, 51, 52, 63, 74] sg sg_j43 from (KS_tr (L := [5, 48, 49, 50, 51, 52, 63, 74]) KS_rf hks_j43 (by decide))) (show KS [53, 54, 55, 56, 57, 58, 59, 60, 61, 62, 64, 65, 66, 67, 68, 69, 70, 71, 72, 73, 75] gm gm_j43 from (KS_tr (L := [53, 54, 55, 56, 57, 58, 59, 60, 61, 62, 64, 65, 66, 67, 68, 69, 70, 71, 72, 73, 75]) KS_rf hkg_j43 (by decide))) (show KS [] lg lg from KS_rf) (by decide) (by decide) (by decide) (by decide)) hgi (by have q9 : PR gm := hPR; unfold PR at *; rw [(hkg_j43 6 (by decide))]; exact q9) hmo (by have := i32_0; have := i32_1; have := i32_2; have := i32_m1; have := congrArg Int32.toInt (show sg_j43 41 = sg 41 from hks_j43 41 (by decide)); have := (show iv 0 80 (sg 41) from MI_s hI 41).1; have := (show iv 0 80 (sg 41) from MI_s hI 41).2; have := (h_20).1; have := (h_20).2; have := (h_24).1; have := (h_24).2; have := (h_21).1; have := (h_21).2; have := (hz_25).1; have := (hz_25).2; have := (h_29).1; have := (h_29).2; have := (h_34).1; have := (h_34).2; have := (h_39).1; have := (h_39).2; have := (hz_43).1; have := (hz_43).2; omega)) (cwV 1 htb (gd_V kw_1157 kw_1158 kw_1159 kw_5 kw_1603) rfl rfl rfl (by decide +kernel) ⟨Nat.le_of_ble_eq_true rfl, Nat.le_of_ble_eq_true rfl⟩) rfl hl.1 rfl (Nat.le_of_ble_eq_true rfl) dX13_refresh_107 ⟨Nat.zero_le _, Nat.zero_le _⟩ hK hP hD hS hA (fun r_47 u_48 H locs hw hP hD hS => ?_)
                  obtain ⟨sgv_49, gmv_49, lgv_49, rfl, hIv_49, ksv_49, kgv_49, klv_49, hr_47, fGI_r_47, fMo_r_47⟩ := hw
                  obtain rfl := KS_nil klv_49
                  have hP : va_P (dC, dI) vwCl (mW h0 ad cid sgv_49 gmv_49 lg) H := hP
                  have hD : va_D A (mW h0 ad cid sgv_49 gmv_49 lg) := hD
                  refine lv_istore_n (lv' := [(1, .int r_47), (3, .int z_25), (2, .int x2_43), (0, .ref h0)]) hx hb dX13_refresh_110 rfl hl (by decide) rfl (fun ls hl => ?_)
                  exact hj111 sgv_49 gmv_49 z_25 r_47 hz_25 h_20 hr_47 (KS_tr (L := [5, 48, 49, 50, 51, 52, 63, 74]) (KS_tr (L := [5, 48, 49, 50, 51, 52, 63, 74]) KS_rf hks_j43 (by decide)) ksv_49 (by decide)) (KS_tr (L := [53, 54, 55, 56, 57, 58, 59, 60, 61, 62, 64, 65, 66, 67, 68, 69, 70, 71, 72, 73, 75]) (KS_tr (L := [53, 54, 55, 56, 57, 58, 59, 60, 61, 62, 64, 65, 66, 67, 68, 69, 70, 71, 72, 73, 75]) KS_rf hkg_j43 (by decide)) kgv_49 (by decide)) hIv_49 (fGI_r_47) (fMo_r_47) (hdoc) _ _ _ hP hD hS (lv_sub hl [1, 2, 0, 3] rfl)
  have hj23 : ∀ (sg_j23 : Nat → Int32) (y0_23 : Int32) (_ : iv 0 1 y0_23) (_ : KS [51, 52] sg sg_j23) (_ : MI sg_j23 gm) (_ : 1 ≤ y0_23.toInt ∨ DOC sg gm lg) (H : Heap) (locs : List Loc) (ls : Array Slot), va_P (dC, dI) vwCl (mW h0 ad cid sg_j23 gm lg) H → va_D A (mW h0 ad cid sg_j23 gm lg) → va_S A s.heap H locs → lv_has ls 4 [(0, .ref h0)] → W p l e (headSpec wm_X13_refresh ({ frames := 12, cells := 0, slots := 0, locals := 300 })).room s m ([.ref h0] : List Value).toArray below meth c H locs 0 0 (MQ below (va_Qi (fun r v => ∃ (sg2 : Nat → Int32) (gm2 : Nat → Nat → Int32) (lg2 : Nat → Nat → Int64), v = (sg2, gm2, lg2) ∧ MI sg2 gm2 ∧ KS [5, 48, 49, 50, 51, 52, 63, 74] sg sg2 ∧ KS [53, 54, 55, 56, 57, 58, 59, 60, 61, 62, 64, 65, 66, 67, 68, 69, 70, 71, 72, 73, 75] gm gm2 ∧ KS [] lg lg2 ∧ (GI0 sg2 gm2 lg2) ∧ (MO sg2 gm2)) (MB dC dI h0 ad cid A) A) ([.ref h0] : List Value).toArray s 0 0 A) (F0 m 23 ls [.int y0_23, .ref h0]) := by
    intro sg_j23 y0_23 hy0_23 hks_j23 hI_j23 hd23 H locs ls hP hD hS hl
    refine ma_put (x := y0_23) hx hb htb inX13 hown hK hP hD hS 5 (by decide) (by decide) (htb _ kw_239) rfl rfl rfl dX13_refresh_23 (fun sg_50 H locs esg_50 hP hD hS => ?_)
    have hI_sg_50 := MI_put hI_j23 esg_50 hy0_23 (by decide)
    refine lv_aload_n hx hb dX13_refresh_26 rfl (lv_at hl 0 rfl) ?_
    refine mr_get (v := .int (sg_50 5)) hx hb htb inX13 hown hK hP 5 (by decide) (htb _ kw_239) rfl dX13_refresh_27 ?_
    refine lv_topi (fun z_51 ez_51 => ?_)
    obtain rfl : y0_23 = z_51 := (ez_51.trans (up_at esg_50)).symm
    refine lv_if_le (tgt := 35) hx hb dX13_refresh_30 (by decide) (fun c_52 => ?_) (fun c_52 => ?_)
    · have h_53 : iv 0 0 y0_23 := iv_leL c_52 hy0_23 (iv_k (by decide) : iv 0 0 0) (by decide)
      have hdoc := hd23.resolve_left (by have := i32_0; have := i32_1; have := i32_2; have := i32_m1; have := (h_53).1; have := (h_53).2; omega)
      refine lv_aload_n hx hb dX13_refresh_35 rfl (lv_at hl 0 rfl) ?_
      refine mr_callv (rest := []) ⟨hx, hb, hml, hown, htb⟩ (f_clear l dC dI h0 ad cid sg_50 gm lg hI_sg_50) (cwV 0 htb (gd_V kw_820 kw_821 kw_822 kw_5 kw_1518) rfl rfl rfl (by decide +kernel) ⟨Nat.le_of_ble_eq_true rfl, Nat.le_of_ble_eq_true rfl⟩) rfl hl.1 rfl (Nat.le_of_ble_eq_true rfl) dX13_refresh_36 ⟨Nat.zero_le _, Nat.zero_le _⟩ hK hP hD hS hA (fun u_55 H locs hw hP hD hS => ?_)
      obtain ⟨sgv_56, gmv_56, lgv_56, rfl, hIv_56, ksv_56, kgv_56, klv_56, fCl_r_54⟩ := hw
      obtain rfl := KS_nil klv_56
      have hP : va_P (dC, dI) vwCl (mW h0 ad cid sgv_56 gmv_56 lg) H := hP
      have hD : va_D A (mW h0 ad cid sgv_56 gmv_56 lg) := hD
      refine lv_iconst (v := 1) hx hb dX13_refresh_39 (by decide) ?_
      refine lv_istore_n (lv' := [(1, .int 1), (0, .ref h0)]) hx hb dX13_refresh_40 rfl hl (by decide) rfl (fun ls hl => ?_)
      refine lv_iconst (v := 0) hx hb dX13_refresh_41 (by decide) ?_
      refine lv_istore_n (lv' := [(2, .int 0), (1, .int 1), (0, .ref h0)]) hx hb dX13_refresh_42 rfl hl (by decide) rfl (fun ls hl => ?_)
      exact hj43 _ sgv_56 gmv_56 0 1 rfl (iv_w (iv_k (by decide) : iv 0 0 0) (by decide)) (iv_w (iv_k (by decide) : iv 1 1 1) (by decide)) (KS_tr (L := [5, 48, 49, 50, 51, 52, 63, 74]) (KS_up (KS_tr (L := [5, 48, 49, 50, 51, 52, 63, 74]) KS_rf hks_j23 (by decide)) esg_50 (by decide)) ksv_56 (by decide)) (KS_tr (L := [53, 54, 55, 56, 57, 58, 59, 60, 61, 62, 64, 65, 66, 67, 68, 69, 70, 71, 72, 73, 75]) KS_rf kgv_56 (by decide)) hIv_56 ((GI0_clr (VAL_k (kgv_56 70 (by decide)) (kgv_56 71 (by decide)) (kgv_56 72 (by decide)) (kgv_56 73 (by decide)) hgi.1) fCl_r_54)) ((MO_0 fCl_r_54.1)) (hdoc) _ _ _ hP hD hS (lv_sub hl [0, 1, 2] rfl)
    · have h_57 : iv 1 1 y0_23 := iv_ltR (i32_lt c_52) (iv_k (by decide) : iv 0 0 0) hy0_23 (by decide)
      refine lv_iconst (v := 0) hx hb dX13_refresh_33 (by decide) ?_
      exact W.iret (v := 0) hx hb hr (fun t ht hW => ⟨⟨0, (sg_50, gm, lg), rfl, ⟨sg_50, gm, lg, rfl, hI_sg_50, (KS_up (KS_tr (L := [5, 48, 49, 50, 51, 52, 63, 74]) KS_rf hks_j23 (by decide)) esg_50 (by decide)), KS_rf, KS_rf, ((GI0_of hgi (show KS [5, 51, 52] sg sg_50 from (KS_up (KS_tr (L := [5, 51, 52]) KS_rf hks_j23 (by decide)) esg_50 (by decide))) (show KS [] gm gm from KS_rf) (show KS [] lg lg from KS_rf) (by decide) (by decide) (by decide) (by decide) (by decide) (by decide))), ((MO_of hmo (show KS [5, 51, 52] sg sg_50 from (KS_up (KS_tr (L := [5, 51, 52]) KS_rf hks_j23 (by decide)) esg_50 (by decide))) (show KS [] gm gm from KS_rf) (by decide) (by decide)))⟩, by rw [ht]; exact hP, va_K.moved hW.alike hK, hD⟩, hS.F ht⟩) hS.2.2 dX13_refresh_34
  refine lv_aload_n hx hb dX13_refresh_0 rfl (lv_at hl 0 rfl) ?_
  refine lv_iconst (v := 0) hx hb dX13_refresh_1 (by decide) ?_
  refine ma_put (x := 0) hx hb htb inX13 hown hK hP hD hS 51 (by decide) (by decide) (htb _ kw_983) rfl rfl rfl dX13_refresh_2 (fun sg_58 H locs esg_58 hP hD hS => ?_)
  have hI_sg_58 := MI_put hI esg_58 (iv_k (by decide) : iv 0 0 0) (by decide)
  refine lv_aload_n hx hb dX13_refresh_5 rfl (lv_at hl 0 rfl) ?_
  refine lv_iconst (v := (-1)) hx hb dX13_refresh_6 (by decide) ?_
  refine ma_put (x := (-1)) hx hb htb inX13 hown hK hP hD hS 52 (by decide) (by decide) (htb _ kw_202) rfl rfl rfl dX13_refresh_7 (fun sg_59 H locs esg_59 hP hD hS => ?_)
  have hI_sg_59 := MI_put hI_sg_58 esg_59 (iv_k (by decide) : iv (-1) (-1) (-1)) (by decide)
  refine lv_aload_n hx hb dX13_refresh_10 rfl (lv_at hl 0 rfl) ?_
  refine lv_aload_n hx hb dX13_refresh_11 rfl (lv_at hl 0 rfl) ?_
  refine mr_get (v := .int (sg_59 40)) hx hb htb inX13 hown hK hP 40 (by decide) (htb _ kw_818) rfl dX13_refresh_12 ?_
  refine lv_topi (fun z_60 ez_60 => ?_)
  obtain rfl : (sg 40) = z_60 := (ez_60.trans (Eq.trans (up_ne esg_59 (by decide)) (up_ne esg_58 (by decide)))).symm
  refine lv_if_eq (tgt := 22) hx hb dX13_refresh_15 (by decide) (fun c_61 => ?_) (fun c_61 => ?_)
  · have h_62 : iv 0 0 (sg 40) := iv_eq c_61 (show iv 0 1 (sg 40) from MI_s hI 40) (iv_k (by decide) : iv 0 0 0) (by decide)
    refine lv_iconst (v := 1) hx hb dX13_refresh_22 (by decide) ?_
    exact hj23 sg_59 1 (iv_w (iv_k (by decide) : iv 1 1 1) (by decide)) (KS_up (KS_up KS_rf esg_58 (by decide)) esg_59 (by decide)) hI_sg_59 (Or.inl (by decide)) _ _ _ hP hD hS (lv_sub hl [0] rfl)
  · have h_63 : iv 1 1 (sg 40) := iv_neL c_61 (show iv 0 1 (sg 40) from MI_s hI 40) (by decide)
    refine lv_iconst (v := 0) hx hb dX13_refresh_18 (by decide) ?_
    refine lv_goto (tgt := 23) hx hb dX13_refresh_19 (by decide) ?_
    exact hj23 sg_59 0 (iv_w (iv_k (by decide) : iv 0 0 0) (by decide)) (KS_up (KS_up KS_rf esg_58 (by decide)) esg_59 (by decide)) hI_sg_59 (Or.inr (hdd.resolve_left (by have := i32_0; have := i32_1; have := i32_2; have := i32_m1; have := congrArg Int32.toInt (show sg_59 40 = sg_58 40 from up_ne esg_59 (by decide)); have := congrArg Int32.toInt (show sg_58 40 = sg 40 from up_ne esg_58 (by decide)); have := (show iv 0 1 (sg 40) from MI_s hI 40).1; have := (show iv 0 1 (sg 40) from MI_s hI 40).2; have := (h_63).1; have := (h_63).2; omega))) _ _ _ hP hD hS (lv_sub hl [0] rfl)

set_option maxHeartbeats 4000000 in
set_option maxRecDepth 100000 in
theorem f_get (l : Launch) (dC : Nat → ClassId) (dI : Nat → Nat → Nat) (h0 : Nat) (ad : Nat → Nat) (cid : Nat → ClassId) (sg : Nat → Int32) (gm : Nat → Nat → Int32) (lg : Nat → Nat → Int64) (nn : Int64) (hI : MI sg gm) (hgi : GI0 sg gm lg) (hPR : PR gm) (hmo : MO sg gm) (hdd : (sg 40).toInt = 0 ∨ DOC sg gm lg) : MMi l dC dI yX13_get wm_X13_get ({ frames := 12, cells := 0, slots := 0, locals := 300 }) h0 ad cid [.long nn] sg gm lg (fun r v => ∃ (sg2 : Nat → Int32) (gm2 : Nat → Nat → Int32) (lg2 : Nat → Nat → Int64), v = (sg2, gm2, lg2) ∧ MI sg2 gm2 ∧ KS [5, 48, 49, 50, 51, 52, 63, 74] sg sg2 ∧ KS [53, 54, 55, 56, 57, 58, 59, 60, 61, 62, 64, 65, 66, 67, 68, 69, 70, 71, 72, 73, 75] gm gm2 ∧ KS [] lg lg2 ∧ (GI0 sg2 gm2 lg2) ∧ (MO sg2 gm2)) := by
  intro sz
  refine Met.ofW (cc := cX13_get) (maxL := 3) (ret := (some .int)) (by decide) rfl ?_
  intro p e s m args below meth c s₁ B hml hv
  obtain ⟨rfl, hsz, hP, hK, hD0⟩ := hv
  have hx := B.exec
  have hb := B.bytes
  have hr := B.returns
  have hts := atoms_spec (ws := wm_X13_get) B.pre
  have htb := fun (w : Cond) (h : w ∈ tb) => hts w (List.mem_cons_of_mem _ h)
  have hown : s.vm.findClass RX13 = some m.cls := findClass_of_methodNamed B.named
  have hlocks := B.notSynchronized
  subst hsz
  have hD := hD0.self (sz := s.heap.size)
  generalize hAe : va_A (mW h0 ad cid sg gm lg) s.heap.size = A at hD ⊢
  have hA : ∀ q : Nat, s.heap.size ≤ q → A q := fun q h => by rw [← hAe]; exact Or.inr h
  have hS : va_S A s.heap s.heap [] := va_S.rf
  have hl := lv_entry ([.ref h0, .long nn]) (n := 3) (Nat.le_of_ble_eq_true rfl)
  rw [lg_entry_eq]
  generalize (lg_sl ([.ref h0, .long nn]) ++ List.replicate (3 - (lg_sl ([.ref h0, .long nn])).length) Slot.unset).toArray = ls at hl ⊢
  have hl : lv_has ls 3 [(0, .ref h0), (1, .long nn)] := hl
  have hj74 : ∀ (sg_j74 : Nat → Int32) (gm_j74 : Nat → Nat → Int32) (y0_74 : Int32) (_ : iv (-1) 59 y0_74) (_ : KS [5, 48, 49, 50, 51, 52, 63, 74] sg sg_j74) (_ : KS [53, 54, 55, 56, 57, 58, 59, 60, 61, 62, 64, 65, 66, 67, 68, 69, 70, 71, 72, 73, 75] gm gm_j74) (_ : MI sg_j74 gm_j74) (_ : GI0 sg_j74 gm_j74 lg) (_ : MO sg_j74 gm_j74) (H : Heap) (locs : List Loc) (ls : Array Slot), va_P (dC, dI) vwCl (mW h0 ad cid sg_j74 gm_j74 lg) H → va_D A (mW h0 ad cid sg_j74 gm_j74 lg) → va_S A s.heap H locs → lv_has ls 3 [(0, .ref h0), (1, .long nn)] → W p l e (headSpec wm_X13_get ({ frames := 12, cells := 0, slots := 0, locals := 300 })).room s m ([.ref h0, .long nn] : List Value).toArray below meth c H locs 0 0 (MQ below (va_Qi (fun r v => ∃ (sg2 : Nat → Int32) (gm2 : Nat → Nat → Int32) (lg2 : Nat → Nat → Int64), v = (sg2, gm2, lg2) ∧ MI sg2 gm2 ∧ KS [5, 48, 49, 50, 51, 52, 63, 74] sg sg2 ∧ KS [53, 54, 55, 56, 57, 58, 59, 60, 61, 62, 64, 65, 66, 67, 68, 69, 70, 71, 72, 73, 75] gm gm2 ∧ KS [] lg lg2 ∧ (GI0 sg2 gm2 lg2) ∧ (MO sg2 gm2)) (MB dC dI h0 ad cid A) A) ([.ref h0, .long nn] : List Value).toArray s 0 0 A) (F0 m 74 ls [.int y0_74]) := by
    intro sg_j74 gm_j74 y0_74 hy0_74 hks_j74 hkg_j74 hI_j74 hgi hmo H locs ls hP hD hS hl
    exact W.iret (v := y0_74) hx hb hr (fun t ht hW => ⟨⟨y0_74, (sg_j74, gm_j74, lg), rfl, ⟨sg_j74, gm_j74, lg, rfl, hI_j74, (KS_tr (L := [5, 48, 49, 50, 51, 52, 63, 74]) KS_rf hks_j74 (by decide)), (KS_tr (L := [53, 54, 55, 56, 57, 58, 59, 60, 61, 62, 64, 65, 66, 67, 68, 69, 70, 71, 72, 73, 75]) KS_rf hkg_j74 (by decide)), KS_rf, (hgi), (hmo)⟩, by rw [ht]; exact hP, va_K.moved hW.alike hK, hD⟩, hS.F ht⟩) hS.2.2 dX13_get_74
  have hj56 : ∀ (sg_j56 : Nat → Int32) (gm_j56 : Nat → Nat → Int32) (y0_56 : Int32) (_ : iv 0 2 y0_56) (_ : KS [5, 48, 49, 50, 51, 52, 63, 74] sg sg_j56) (_ : KS [53, 54, 55, 56, 57, 58, 59, 60, 61, 62, 64, 65, 66, 67, 68, 69, 70, 71, 72, 73, 75] gm gm_j56) (_ : MI sg_j56 gm_j56) (_ : GI0 sg_j56 gm_j56 lg) (_ : MO sg_j56 gm_j56) (H : Heap) (locs : List Loc) (ls : Array Slot), va_P (dC, dI) vwCl (mW h0 ad cid sg_j56 gm_j56 lg) H → va_D A (mW h0 ad cid sg_j56 gm_j56 lg) → va_S A s.heap H locs → lv_has ls 3 [(0, .ref h0), (1, .long nn)] → W p l e (headSpec wm_X13_get ({ frames := 12, cells := 0, slots := 0, locals := 300 })).room s m ([.ref h0, .long nn] : List Value).toArray below meth c H locs 0 0 (MQ below (va_Qi (fun r v => ∃ (sg2 : Nat → Int32) (gm2 : Nat → Nat → Int32) (lg2 : Nat → Nat → Int64), v = (sg2, gm2, lg2) ∧ MI sg2 gm2 ∧ KS [5, 48, 49, 50, 51, 52, 63, 74] sg sg2 ∧ KS [53, 54, 55, 56, 57, 58, 59, 60, 61, 62, 64, 65, 66, 67, 68, 69, 70, 71, 72, 73, 75] gm gm2 ∧ KS [] lg lg2 ∧ (GI0 sg2 gm2 lg2) ∧ (MO sg2 gm2)) (MB dC dI h0 ad cid A) A) ([.ref h0, .long nn] : List Value).toArray s 0 0 A) (F0 m 56 ls [.int y0_56, .ref h0]) := by
    intro sg_j56 gm_j56 y0_56 hy0_56 hks_j56 hkg_j56 hI_j56 hgi hmo H locs ls hP hD hS hl
    refine ma_put (x := y0_56) hx hb htb inX13 hown hK hP hD hS 5 (by decide) (by decide) (htb _ kw_239) rfl rfl rfl dX13_get_56 (fun sg_1 H locs esg_1 hP hD hS => ?_)
    have hI_sg_1 := MI_put hI_j56 esg_1 hy0_56 (by decide)
    refine lv_aload_n hx hb dX13_get_59 rfl (lv_at hl 0 rfl) ?_
    refine mr_get (v := .int (sg_1 5)) hx hb htb inX13 hown hK hP 5 (by decide) (htb _ kw_239) rfl dX13_get_60 ?_
    refine lv_topi (fun z_2 ez_2 => ?_)
    obtain rfl : y0_56 = z_2 := (ez_2.trans (up_at esg_1)).symm
    refine lv_if_le (tgt := 70) hx hb dX13_get_63 (by decide) (fun c_3 => ?_) (fun c_3 => ?_)
    · have h_4 : iv 0 0 y0_56 := iv_leL c_3 hy0_56 (iv_k (by decide) : iv 0 0 0) (by decide)
      refine lv_aload_n hx hb dX13_get_70 rfl (lv_at hl 0 rfl) ?_
      refine mr_get (v := .int (sg_1 74)) hx hb htb inX13 hown hK hP 74 (by decide) (htb _ kw_1164) rfl dX13_get_71 ?_
      refine lv_topi (fun z_5 ez_5 => ?_)
      obtain rfl : (sg_j56 74) = z_5 := (ez_5.trans (up_ne esg_1 (by decide))).symm
      exact hj74 sg_1 gm_j56 (sg_j56 74) (show iv (-1) 59 (sg_j56 74) from MI_s hI_j56 74) (KS_up (KS_tr (L := [5, 48, 49, 50, 51, 52, 63, 74]) KS_rf hks_j56 (by decide)) esg_1 (by decide)) (KS_tr (L := [53, 54, 55, 56, 57, 58, 59, 60, 61, 62, 64, 65, 66, 67, 68, 69, 70, 71, 72, 73, 75]) KS_rf hkg_j56 (by decide)) hI_sg_1 ((GI0_of hgi (show KS [5] sg_j56 sg_1 from (KS_up KS_rf esg_1 (by decide))) (show KS [] gm_j56 gm_j56 from KS_rf) (show KS [] lg lg from KS_rf) (by decide) (by decide) (by decide) (by decide) (by decide) (by decide))) ((MO_of hmo (show KS [5] sg_j56 sg_1 from (KS_up KS_rf esg_1 (by decide))) (show KS [] gm_j56 gm_j56 from KS_rf) (by decide) (by decide))) _ _ _ hP hD hS (lv_sub hl [0, 1] rfl)
    · have h_6 : iv 1 2 y0_56 := iv_ltR (i32_lt c_3) (iv_k (by decide) : iv 0 0 0) hy0_56 (by decide)
      refine lv_iconst (v := 0) hx hb dX13_get_66 (by decide) ?_
      refine lv_goto (tgt := 74) hx hb dX13_get_67 (by decide) ?_
      exact hj74 sg_1 gm_j56 0 (iv_w (iv_k (by decide) : iv 0 0 0) (by decide)) (KS_up (KS_tr (L := [5, 48, 49, 50, 51, 52, 63, 74]) KS_rf hks_j56 (by decide)) esg_1 (by decide)) (KS_tr (L := [53, 54, 55, 56, 57, 58, 59, 60, 61, 62, 64, 65, 66, 67, 68, 69, 70, 71, 72, 73, 75]) KS_rf hkg_j56 (by decide)) hI_sg_1 ((GI0_of hgi (show KS [5] sg_j56 sg_1 from (KS_up KS_rf esg_1 (by decide))) (show KS [] gm_j56 gm_j56 from KS_rf) (show KS [] lg lg from KS_rf) (by decide) (by decide) (by decide) (by decide) (by decide) (by decide))) ((MO_of hmo (show KS [5] sg_j56 sg_1 from (KS_up KS_rf esg_1 (by decide))) (show KS [] gm_j56 gm_j56 from KS_rf) (by decide) (by decide))) _ _ _ hP hD hS (lv_sub hl [0, 1] rfl)
  have hj23 : ∀ (sg_j23 : Nat → Int32) (y0_23 : Int32) (_ : iv 0 1 y0_23) (_ : KS [51, 52] sg sg_j23) (_ : MI sg_j23 gm) (_ : 1 ≤ y0_23.toInt ∨ DOC sg gm lg) (H : Heap) (locs : List Loc) (ls : Array Slot), va_P (dC, dI) vwCl (mW h0 ad cid sg_j23 gm lg) H → va_D A (mW h0 ad cid sg_j23 gm lg) → va_S A s.heap H locs → lv_has ls 3 [(0, .ref h0), (1, .long nn)] → W p l e (headSpec wm_X13_get ({ frames := 12, cells := 0, slots := 0, locals := 300 })).room s m ([.ref h0, .long nn] : List Value).toArray below meth c H locs 0 0 (MQ below (va_Qi (fun r v => ∃ (sg2 : Nat → Int32) (gm2 : Nat → Nat → Int32) (lg2 : Nat → Nat → Int64), v = (sg2, gm2, lg2) ∧ MI sg2 gm2 ∧ KS [5, 48, 49, 50, 51, 52, 63, 74] sg sg2 ∧ KS [53, 54, 55, 56, 57, 58, 59, 60, 61, 62, 64, 65, 66, 67, 68, 69, 70, 71, 72, 73, 75] gm gm2 ∧ KS [] lg lg2 ∧ (GI0 sg2 gm2 lg2) ∧ (MO sg2 gm2)) (MB dC dI h0 ad cid A) A) ([.ref h0, .long nn] : List Value).toArray s 0 0 A) (F0 m 23 ls [.int y0_23, .ref h0]) := by
    intro sg_j23 y0_23 hy0_23 hks_j23 hI_j23 hd23 H locs ls hP hD hS hl
    refine ma_put (x := y0_23) hx hb htb inX13 hown hK hP hD hS 5 (by decide) (by decide) (htb _ kw_239) rfl rfl rfl dX13_get_23 (fun sg_7 H locs esg_7 hP hD hS => ?_)
    have hI_sg_7 := MI_put hI_j23 esg_7 hy0_23 (by decide)
    refine lv_aload_n hx hb dX13_get_26 rfl (lv_at hl 0 rfl) ?_
    refine mr_get (v := .int (sg_7 5)) hx hb htb inX13 hown hK hP 5 (by decide) (htb _ kw_239) rfl dX13_get_27 ?_
    refine lv_topi (fun z_8 ez_8 => ?_)
    obtain rfl : y0_23 = z_8 := (ez_8.trans (up_at esg_7)).symm
    refine lv_if_le (tgt := 35) hx hb dX13_get_30 (by decide) (fun c_9 => ?_) (fun c_9 => ?_)
    · have h_10 : iv 0 0 y0_23 := iv_leL c_9 hy0_23 (iv_k (by decide) : iv 0 0 0) (by decide)
      have hdoc := hd23.resolve_left (by have := i32_0; have := i32_1; have := i32_2; have := i32_m1; have := (h_10).1; have := (h_10).2; omega)
      refine lv_aload_n hx hb dX13_get_35 rfl (lv_at hl 0 rfl) ?_
      refine lv_aload_n hx hb dX13_get_36 rfl (lv_at hl 0 rfl) ?_
      refine lv_aload_n hx hb dX13_get_37 rfl (lv_at hl 0 rfl) ?_
      refine lv_lload_n hx hb dX13_get_38 rfl (lv_at hl 1 rfl) ?_
      have hPc := hP.sub (ws' := []) [] rfl
      have hDc := hD.sub (ws' := []) [] (by decide) rfl
      have hKc := hK.sub (tys' := []) [] rfl
      have hFc := va_free (wc := []) hD hS hA [] rfl
      refine va_calll (va_runS (As := [.long nn]) (rest := [.ref h0, .ref h0, .ref h0]) ⟨hx, hb, hml, hown, htb⟩ (a_letters l dC dI H.size nn) (va_cwS 1 htb (gd_S kw_1280 kw_1281 kw_5 kw_1642) rfl rfl rfl (by decide +kernel) ⟨Nat.le_of_ble_eq_true rfl, Nat.le_of_ble_eq_true rfl⟩) ⟨fun a U g mk q => by obtain ⟨q0, q1, qP, qK, qD⟩ := q; exact ⟨q0, q1, qP, va_K.moved (u := U) (U := U.calling g mk a) (Vm.Alike.refl U.vm) qK, qD⟩, fun U hU hW => ⟨rfl, by rw [hU], by rw [hU]; exact hPc, va_K.moved hW.alike hKc, hDc.weaken (fun _ _ _ _ => trivial)⟩⟩ rfl rfl hl.1 rfl (lv_room (Nat.le_of_ble_eq_true rfl)) dX13_get_39 ⟨Nat.zero_le _, Nat.zero_le _⟩) hS (fun q _ h => hFc q h) hFc (fun r_11 u9 t H1 locs ht hvm hw hB hz1 hk1 hS => ?_)
      have hP := ms_kept hP hz1 hk1
      generalize H1 = H at hP hS ⊢
      refine mr_calli (rest := [.ref h0, .ref h0]) ⟨hx, hb, hml, hown, htb⟩ (f_called l dC dI h0 ad cid sg_7 gm lg r_11 hI_sg_7) (cwV 1 htb (gd_V kw_1171 kw_1172 kw_1173 kw_5 kw_1607) rfl rfl rfl (by decide +kernel) ⟨Nat.le_of_ble_eq_true rfl, Nat.le_of_ble_eq_true rfl⟩) rfl hl.1 rfl (Nat.le_of_ble_eq_true rfl) dX13_get_42 ⟨Nat.zero_le _, Nat.zero_le _⟩ hK hP hD hS hA (fun r_12 u_13 H locs hw hP hD hS => ?_)
      obtain ⟨hr_12, fLt_r_12, rfl⟩ := hw
      have hP : va_P (dC, dI) vwCl (mW h0 ad cid sg_7 gm lg) H := hP
      have hD : va_D A (mW h0 ad cid sg_7 gm lg) := hD
      refine mr_calli (rest := [.ref h0]) ⟨hx, hb, hml, hown, htb⟩ (f_run l dC dI h0 ad cid sg_7 gm lg r_12 hI_sg_7 hr_12 (DOC_of hdoc (show KS [5, 51, 52] sg sg_7 from (KS_up (KS_tr (L := [5, 51, 52]) KS_rf hks_j23 (by decide)) esg_7 (by decide))) (show KS [] gm gm from KS_rf) (show KS [] lg lg from KS_rf) (by decide) (by decide) (by decide) (by decide)) (GI0_of hgi (show KS [5, 51, 52] sg sg_7 from (KS_up (KS_tr (L := [5, 51, 52]) KS_rf hks_j23 (by decide)) esg_7 (by decide))) (show KS [] gm gm from KS_rf) (show KS [] lg lg from KS_rf) (by decide) (by decide) (by decide) (by decide) (by decide) (by decide)) hPR (MO_of hmo (show KS [5, 51, 52] sg sg_7 from (KS_up (KS_tr (L := [5, 51, 52]) KS_rf hks_j23 (by decide)) esg_7 (by decide))) (show KS [] gm gm from KS_rf) (by decide) (by decide)) fLt_r_12) (cwV 1 htb (gd_V kw_1157 kw_1158 kw_1159 kw_5 kw_1603) rfl rfl rfl (by decide +kernel) ⟨Nat.le_of_ble_eq_true rfl, Nat.le_of_ble_eq_true rfl⟩) rfl hl.1 rfl (Nat.le_of_ble_eq_true rfl) dX13_get_45 ⟨Nat.zero_le _, Nat.zero_le _⟩ hK hP hD hS hA (fun r_14 u_15 H locs hw hP hD hS => ?_)
      obtain ⟨sgv_16, gmv_16, lgv_16, rfl, hIv_16, ksv_16, kgv_16, klv_16, hr_14, fGI_r_14, fMo_r_14⟩ := hw
      obtain rfl := KS_nil klv_16
      have hP : va_P (dC, dI) vwCl (mW h0 ad cid sgv_16 gmv_16 lg) H := hP
      have hD : va_D A (mW h0 ad cid sgv_16 gmv_16 lg) := hD
      refine lv_if_eq (tgt := 55) hx hb dX13_get_48 (by decide) (fun c_17 => ?_) (fun c_17 => ?_)
      · have h_18 : iv 0 0 r_14 := iv_eq c_17 hr_14 (iv_k (by decide) : iv 0 0 0) (by decide)
        refine lv_iconst (v := 2) hx hb dX13_get_55 (by decide) ?_
        exact hj56 sgv_16 gmv_16 2 (iv_w (iv_k (by decide) : iv 2 2 2) (by decide)) (KS_tr (L := [5, 48, 49, 50, 51, 52, 63, 74]) (KS_up (KS_tr (L := [5, 48, 49, 50, 51, 52, 63, 74]) KS_rf hks_j23 (by decide)) esg_7 (by decide)) ksv_16 (by decide)) (KS_tr (L := [53, 54, 55, 56, 57, 58, 59, 60, 61, 62, 64, 65, 66, 67, 68, 69, 70, 71, 72, 73, 75]) KS_rf kgv_16 (by decide)) hIv_16 (fGI_r_14) (fMo_r_14) _ _ _ hP hD hS (lv_sub hl [0, 1] rfl)
      · have h_19 : iv 1 1 r_14 := iv_neL c_17 hr_14 (by decide)
        refine lv_iconst (v := 0) hx hb dX13_get_51 (by decide) ?_
        refine lv_goto (tgt := 56) hx hb dX13_get_52 (by decide) ?_
        exact hj56 sgv_16 gmv_16 0 (iv_w (iv_k (by decide) : iv 0 0 0) (by decide)) (KS_tr (L := [5, 48, 49, 50, 51, 52, 63, 74]) (KS_up (KS_tr (L := [5, 48, 49, 50, 51, 52, 63, 74]) KS_rf hks_j23 (by decide)) esg_7 (by decide)) ksv_16 (by decide)) (KS_tr (L := [53, 54, 55, 56, 57, 58, 59, 60, 61, 62, 64, 65, 66, 67, 68, 69, 70, 71, 72, 73, 75]) KS_rf kgv_16 (by decide)) hIv_16 (fGI_r_14) (fMo_r_14) _ _ _ hP hD hS (lv_sub hl [0, 1] rfl)
    · have h_20 : iv 1 1 y0_23 := iv_ltR (i32_lt c_9) (iv_k (by decide) : iv 0 0 0) hy0_23 (by decide)
      refine lv_iconst (v := 0) hx hb dX13_get_33 (by decide) ?_
      exact W.iret (v := 0) hx hb hr (fun t ht hW => ⟨⟨0, (sg_7, gm, lg), rfl, ⟨sg_7, gm, lg, rfl, hI_sg_7, (KS_up (KS_tr (L := [5, 48, 49, 50, 51, 52, 63, 74]) KS_rf hks_j23 (by decide)) esg_7 (by decide)), KS_rf, KS_rf, ((GI0_of hgi (show KS [5, 51, 52] sg sg_7 from (KS_up (KS_tr (L := [5, 51, 52]) KS_rf hks_j23 (by decide)) esg_7 (by decide))) (show KS [] gm gm from KS_rf) (show KS [] lg lg from KS_rf) (by decide) (by decide) (by decide) (by decide) (by decide) (by decide))), ((MO_of hmo (show KS [5, 51, 52] sg sg_7 from (KS_up (KS_tr (L := [5, 51, 52]) KS_rf hks_j23 (by decide)) esg_7 (by decide))) (show KS [] gm gm from KS_rf) (by decide) (by decide)))⟩, by rw [ht]; exact hP, va_K.moved hW.alike hK, hD⟩, hS.F ht⟩) hS.2.2 dX13_get_34
  refine lv_aload_n hx hb dX13_get_0 rfl (lv_at hl 0 rfl) ?_
  refine lv_iconst (v := 0) hx hb dX13_get_1 (by decide) ?_
  refine ma_put (x := 0) hx hb htb inX13 hown hK hP hD hS 51 (by decide) (by decide) (htb _ kw_983) rfl rfl rfl dX13_get_2 (fun sg_21 H locs esg_21 hP hD hS => ?_)
  have hI_sg_21 := MI_put hI esg_21 (iv_k (by decide) : iv 0 0 0) (by decide)
  refine lv_aload_n hx hb dX13_get_5 rfl (lv_at hl 0 rfl) ?_
  refine lv_iconst (v := (-1)) hx hb dX13_get_6 (by decide) ?_
  refine ma_put (x := (-1)) hx hb htb inX13 hown hK hP hD hS 52 (by decide) (by decide) (htb _ kw_202) rfl rfl rfl dX13_get_7 (fun sg_22 H locs esg_22 hP hD hS => ?_)
  have hI_sg_22 := MI_put hI_sg_21 esg_22 (iv_k (by decide) : iv (-1) (-1) (-1)) (by decide)
  refine lv_aload_n hx hb dX13_get_10 rfl (lv_at hl 0 rfl) ?_
  refine lv_aload_n hx hb dX13_get_11 rfl (lv_at hl 0 rfl) ?_
  refine mr_get (v := .int (sg_22 40)) hx hb htb inX13 hown hK hP 40 (by decide) (htb _ kw_818) rfl dX13_get_12 ?_
  refine lv_topi (fun z_23 ez_23 => ?_)
  obtain rfl : (sg 40) = z_23 := (ez_23.trans (Eq.trans (up_ne esg_22 (by decide)) (up_ne esg_21 (by decide)))).symm
  refine lv_if_eq (tgt := 22) hx hb dX13_get_15 (by decide) (fun c_24 => ?_) (fun c_24 => ?_)
  · have h_25 : iv 0 0 (sg 40) := iv_eq c_24 (show iv 0 1 (sg 40) from MI_s hI 40) (iv_k (by decide) : iv 0 0 0) (by decide)
    refine lv_iconst (v := 1) hx hb dX13_get_22 (by decide) ?_
    exact hj23 sg_22 1 (iv_w (iv_k (by decide) : iv 1 1 1) (by decide)) (KS_up (KS_up KS_rf esg_21 (by decide)) esg_22 (by decide)) hI_sg_22 (Or.inl (by decide)) _ _ _ hP hD hS (lv_sub hl [0, 1] rfl)
  · have h_26 : iv 1 1 (sg 40) := iv_neL c_24 (show iv 0 1 (sg 40) from MI_s hI 40) (by decide)
    refine lv_iconst (v := 0) hx hb dX13_get_18 (by decide) ?_
    refine lv_goto (tgt := 23) hx hb dX13_get_19 (by decide) ?_
    exact hj23 sg_22 0 (iv_w (iv_k (by decide) : iv 0 0 0) (by decide)) (KS_up (KS_up KS_rf esg_21 (by decide)) esg_22 (by decide)) hI_sg_22 (Or.inr (hdd.resolve_left (by have := i32_0; have := i32_1; have := i32_2; have := i32_m1; have := congrArg Int32.toInt (show sg_22 40 = sg_21 40 from up_ne esg_22 (by decide)); have := congrArg Int32.toInt (show sg_21 40 = sg 40 from up_ne esg_21 (by decide)); have := (show iv 0 1 (sg 40) from MI_s hI 40).1; have := (show iv 0 1 (sg 40) from MI_s hI 40).2; have := (h_26).1; have := (h_26).2; omega))) _ _ _ hP hD hS (lv_sub hl [0, 1] rfl)

set_option maxHeartbeats 4000000 in
set_option maxRecDepth 100000 in
theorem f_call (l : Launch) (dC : Nat → ClassId) (dI : Nat → Nat → Nat) (h0 : Nat) (ad : Nat → Nat) (cid : Nat → ClassId) (sg : Nat → Int32) (gm : Nat → Nat → Int32) (lg : Nat → Nat → Int64) (o : Int32) (nm : Int32) (hI : MI sg gm) (hgi : GI0 sg gm lg) (hPR : PR gm) (hmo : MO sg gm) (hdd : (sg 40).toInt = 0 ∨ DOC sg gm lg) : MMi l dC dI yX13_call wm_X13_call ({ frames := 12, cells := 0, slots := 0, locals := 300 }) h0 ad cid [.int o, .int nm] sg gm lg (fun r v => ∃ (sg2 : Nat → Int32) (gm2 : Nat → Nat → Int32) (lg2 : Nat → Nat → Int64), v = (sg2, gm2, lg2) ∧ MI sg2 gm2 ∧ KS [5, 48, 49, 50, 51, 52, 63, 74] sg sg2 ∧ KS [53, 54, 55, 56, 57, 58, 59, 60, 61, 62, 64, 65, 66, 67, 68, 69, 70, 71, 72, 73, 75] gm gm2 ∧ KS [] lg lg2 ∧ (GI0 sg2 gm2 lg2) ∧ (MO sg2 gm2)) := by
  intro sz
  refine Met.ofW (cc := cX13_call) (maxL := 7) (ret := (some .int)) (by decide) rfl ?_
  intro p e s m args below meth c s₁ B hml hv
  obtain ⟨rfl, hsz, hP, hK, hD0⟩ := hv
  have hx := B.exec
  have hb := B.bytes
  have hr := B.returns
  have hts := atoms_spec (ws := wm_X13_call) B.pre
  have htb := fun (w : Cond) (h : w ∈ tb) => hts w (List.mem_cons_of_mem _ h)
  have hown : s.vm.findClass RX13 = some m.cls := findClass_of_methodNamed B.named
  have hlocks := B.notSynchronized
  subst hsz
  have hD := hD0.self (sz := s.heap.size)
  generalize hAe : va_A (mW h0 ad cid sg gm lg) s.heap.size = A at hD ⊢
  have hA : ∀ q : Nat, s.heap.size ≤ q → A q := fun q h => by rw [← hAe]; exact Or.inr h
  have hS : va_S A s.heap s.heap [] := va_S.rf
  have hl := lv_entry ([.ref h0, .int o, .int nm]) (n := 7) (Nat.le_of_ble_eq_true rfl)
  rw [lg_entry_eq]
  generalize (lg_sl ([.ref h0, .int o, .int nm]) ++ List.replicate (7 - (lg_sl ([.ref h0, .int o, .int nm])).length) Slot.unset).toArray = ls at hl ⊢
  have hl : lv_has ls 7 [(0, .ref h0), (1, .int o), (2, .int nm)] := hl
  have hj195 : ∀ (sg_j195 : Nat → Int32) (gm_j195 : Nat → Nat → Int32) (x5_195 : Int32) (x4_195 : Int32) (x3_195 : Int32) (y0_195 : Int32) (_ : iv 0 26 x5_195) (_ : iv 0 1 x4_195) (_ : iv 0 79 x3_195) (_ : iv (-1) 59 y0_195) (_ : KS [5, 48, 49, 50, 51, 52, 63, 74] sg sg_j195) (_ : KS [53, 54, 55, 56, 57, 58, 59, 60, 61, 62, 64, 65, 66, 67, 68, 69, 70, 71, 72, 73, 75] gm gm_j195) (_ : MI sg_j195 gm_j195) (_ : GI0 sg_j195 gm_j195 lg) (_ : MO sg_j195 gm_j195) (H : Heap) (locs : List Loc) (ls : Array Slot), va_P (dC, dI) vwCl (mW h0 ad cid sg_j195 gm_j195 lg) H → va_D A (mW h0 ad cid sg_j195 gm_j195 lg) → va_S A s.heap H locs → lv_has ls 7 [(5, .int x5_195), (4, .int x4_195), (3, .int x3_195), (0, .ref h0), (1, .int o), (2, .int nm)] → W p l e (headSpec wm_X13_call ({ frames := 12, cells := 0, slots := 0, locals := 300 })).room s m ([.ref h0, .int o, .int nm] : List Value).toArray below meth c H locs 0 0 (MQ below (va_Qi (fun r v => ∃ (sg2 : Nat → Int32) (gm2 : Nat → Nat → Int32) (lg2 : Nat → Nat → Int64), v = (sg2, gm2, lg2) ∧ MI sg2 gm2 ∧ KS [5, 48, 49, 50, 51, 52, 63, 74] sg sg2 ∧ KS [53, 54, 55, 56, 57, 58, 59, 60, 61, 62, 64, 65, 66, 67, 68, 69, 70, 71, 72, 73, 75] gm gm2 ∧ KS [] lg lg2 ∧ (GI0 sg2 gm2 lg2) ∧ (MO sg2 gm2)) (MB dC dI h0 ad cid A) A) ([.ref h0, .int o, .int nm] : List Value).toArray s 0 0 A) (F0 m 195 ls [.int y0_195]) := by
    intro sg_j195 gm_j195 x5_195 x4_195 x3_195 y0_195 hx5_195 hx4_195 hx3_195 hy0_195 hks_j195 hkg_j195 hI_j195 hgi hmo H locs ls hP hD hS hl
    exact W.iret (v := y0_195) hx hb hr (fun t ht hW => ⟨⟨y0_195, (sg_j195, gm_j195, lg), rfl, ⟨sg_j195, gm_j195, lg, rfl, hI_j195, (KS_tr (L := [5, 48, 49, 50, 51, 52, 63, 74]) KS_rf hks_j195 (by decide)), (KS_tr (L := [53, 54, 55, 56, 57, 58, 59, 60, 61, 62, 64, 65, 66, 67, 68, 69, 70, 71, 72, 73, 75]) KS_rf hkg_j195 (by decide)), KS_rf, (hgi), (hmo)⟩, by rw [ht]; exact hP, va_K.moved hW.alike hK, hD⟩, hS.F ht⟩) hS.2.2 dX13_call_195
  have hj177 : ∀ (sg_j177 : Nat → Int32) (gm_j177 : Nat → Nat → Int32) (x5_177 : Int32) (x4_177 : Int32) (x3_177 : Int32) (y0_177 : Int32) (_ : iv 0 26 x5_177) (_ : iv 0 1 x4_177) (_ : iv 0 79 x3_177) (_ : iv 0 3 y0_177) (_ : KS [5, 48, 49, 50, 51, 52, 63, 74] sg sg_j177) (_ : KS [53, 54, 55, 56, 57, 58, 59, 60, 61, 62, 64, 65, 66, 67, 68, 69, 70, 71, 72, 73, 75] gm gm_j177) (_ : MI sg_j177 gm_j177) (_ : GI0 sg_j177 gm_j177 lg) (_ : MO sg_j177 gm_j177) (H : Heap) (locs : List Loc) (ls : Array Slot), va_P (dC, dI) vwCl (mW h0 ad cid sg_j177 gm_j177 lg) H → va_D A (mW h0 ad cid sg_j177 gm_j177 lg) → va_S A s.heap H locs → lv_has ls 7 [(5, .int x5_177), (4, .int x4_177), (3, .int x3_177), (0, .ref h0), (1, .int o), (2, .int nm)] → W p l e (headSpec wm_X13_call ({ frames := 12, cells := 0, slots := 0, locals := 300 })).room s m ([.ref h0, .int o, .int nm] : List Value).toArray below meth c H locs 0 0 (MQ below (va_Qi (fun r v => ∃ (sg2 : Nat → Int32) (gm2 : Nat → Nat → Int32) (lg2 : Nat → Nat → Int64), v = (sg2, gm2, lg2) ∧ MI sg2 gm2 ∧ KS [5, 48, 49, 50, 51, 52, 63, 74] sg sg2 ∧ KS [53, 54, 55, 56, 57, 58, 59, 60, 61, 62, 64, 65, 66, 67, 68, 69, 70, 71, 72, 73, 75] gm gm2 ∧ KS [] lg lg2 ∧ (GI0 sg2 gm2 lg2) ∧ (MO sg2 gm2)) (MB dC dI h0 ad cid A) A) ([.ref h0, .int o, .int nm] : List Value).toArray s 0 0 A) (F0 m 177 ls [.int y0_177, .ref h0]) := by
    intro sg_j177 gm_j177 x5_177 x4_177 x3_177 y0_177 hx5_177 hx4_177 hx3_177 hy0_177 hks_j177 hkg_j177 hI_j177 hgi hmo H locs ls hP hD hS hl
    refine ma_put (x := y0_177) hx hb htb inX13 hown hK hP hD hS 5 (by decide) (by decide) (htb _ kw_239) rfl rfl rfl dX13_call_177 (fun sg_1 H locs esg_1 hP hD hS => ?_)
    have hI_sg_1 := MI_put hI_j177 esg_1 hy0_177 (by decide)
    refine lv_aload_n hx hb dX13_call_180 rfl (lv_at hl 3 rfl) ?_
    refine mr_get (v := .int (sg_1 5)) hx hb htb inX13 hown hK hP 5 (by decide) (htb _ kw_239) rfl dX13_call_181 ?_
    refine lv_topi (fun z_2 ez_2 => ?_)
    obtain rfl : y0_177 = z_2 := (ez_2.trans (up_at esg_1)).symm
    refine lv_if_le (tgt := 191) hx hb dX13_call_184 (by decide) (fun c_3 => ?_) (fun c_3 => ?_)
    · have h_4 : iv 0 0 y0_177 := iv_leL c_3 hy0_177 (iv_k (by decide) : iv 0 0 0) (by decide)
      refine lv_aload_n hx hb dX13_call_191 rfl (lv_at hl 3 rfl) ?_
      refine mr_get (v := .int (sg_1 74)) hx hb htb inX13 hown hK hP 74 (by decide) (htb _ kw_1164) rfl dX13_call_192 ?_
      refine lv_topi (fun z_5 ez_5 => ?_)
      obtain rfl : (sg_j177 74) = z_5 := (ez_5.trans (up_ne esg_1 (by decide))).symm
      exact hj195 sg_1 gm_j177 x5_177 x4_177 x3_177 (sg_j177 74) hx5_177 hx4_177 hx3_177 (show iv (-1) 59 (sg_j177 74) from MI_s hI_j177 74) (KS_up (KS_tr (L := [5, 48, 49, 50, 51, 52, 63, 74]) KS_rf hks_j177 (by decide)) esg_1 (by decide)) (KS_tr (L := [53, 54, 55, 56, 57, 58, 59, 60, 61, 62, 64, 65, 66, 67, 68, 69, 70, 71, 72, 73, 75]) KS_rf hkg_j177 (by decide)) hI_sg_1 ((GI0_of hgi (show KS [5] sg_j177 sg_1 from (KS_up KS_rf esg_1 (by decide))) (show KS [] gm_j177 gm_j177 from KS_rf) (show KS [] lg lg from KS_rf) (by decide) (by decide) (by decide) (by decide) (by decide) (by decide))) ((MO_of hmo (show KS [5] sg_j177 sg_1 from (KS_up KS_rf esg_1 (by decide))) (show KS [] gm_j177 gm_j177 from KS_rf) (by decide) (by decide))) _ _ _ hP hD hS (lv_sub hl [0, 1, 2, 3, 4, 5] rfl)
    · have h_6 : iv 1 3 y0_177 := iv_ltR (i32_lt c_3) (iv_k (by decide) : iv 0 0 0) hy0_177 (by decide)
      refine lv_iconst (v := 0) hx hb dX13_call_187 (by decide) ?_
      refine lv_goto (tgt := 195) hx hb dX13_call_188 (by decide) ?_
      exact hj195 sg_1 gm_j177 x5_177 x4_177 x3_177 0 hx5_177 hx4_177 hx3_177 (iv_w (iv_k (by decide) : iv 0 0 0) (by decide)) (KS_up (KS_tr (L := [5, 48, 49, 50, 51, 52, 63, 74]) KS_rf hks_j177 (by decide)) esg_1 (by decide)) (KS_tr (L := [53, 54, 55, 56, 57, 58, 59, 60, 61, 62, 64, 65, 66, 67, 68, 69, 70, 71, 72, 73, 75]) KS_rf hkg_j177 (by decide)) hI_sg_1 ((GI0_of hgi (show KS [5] sg_j177 sg_1 from (KS_up KS_rf esg_1 (by decide))) (show KS [] gm_j177 gm_j177 from KS_rf) (show KS [] lg lg from KS_rf) (by decide) (by decide) (by decide) (by decide) (by decide) (by decide))) ((MO_of hmo (show KS [5] sg_j177 sg_1 from (KS_up KS_rf esg_1 (by decide))) (show KS [] gm_j177 gm_j177 from KS_rf) (by decide) (by decide))) _ _ _ hP hD hS (lv_sub hl [0, 1, 2, 3, 4, 5] rfl)
  have hj140 : ∀ (sg_j140 : Nat → Int32) (x5_140 : Int32) (x4_140 : Int32) (x3_140 : Int32) (y0_140 : Int32) (_ : iv 0 26 x5_140) (_ : iv 0 1 x4_140) (_ : iv (-1) 79 x3_140) (_ : iv 0 2 y0_140) (_ : KS [5, 51, 52] sg sg_j140) (_ : MI sg_j140 gm) (_ : DOC sg gm lg) (_ : 1 ≤ y0_140.toInt ∨ ¬ x3_140 = -1) (H : Heap) (locs : List Loc) (ls : Array Slot), va_P (dC, dI) vwCl (mW h0 ad cid sg_j140 gm lg) H → va_D A (mW h0 ad cid sg_j140 gm lg) → va_S A s.heap H locs → lv_has ls 7 [(5, .int x5_140), (4, .int x4_140), (3, .int x3_140), (0, .ref h0), (1, .int o), (2, .int nm)] → W p l e (headSpec wm_X13_call ({ frames := 12, cells := 0, slots := 0, locals := 300 })).room s m ([.ref h0, .int o, .int nm] : List Value).toArray below meth c H locs 0 0 (MQ below (va_Qi (fun r v => ∃ (sg2 : Nat → Int32) (gm2 : Nat → Nat → Int32) (lg2 : Nat → Nat → Int64), v = (sg2, gm2, lg2) ∧ MI sg2 gm2 ∧ KS [5, 48, 49, 50, 51, 52, 63, 74] sg sg2 ∧ KS [53, 54, 55, 56, 57, 58, 59, 60, 61, 62, 64, 65, 66, 67, 68, 69, 70, 71, 72, 73, 75] gm gm2 ∧ KS [] lg lg2 ∧ (GI0 sg2 gm2 lg2) ∧ (MO sg2 gm2)) (MB dC dI h0 ad cid A) A) ([.ref h0, .int o, .int nm] : List Value).toArray s 0 0 A) (F0 m 140 ls [.int y0_140, .ref h0]) := by
    intro sg_j140 x5_140 x4_140 x3_140 y0_140 hx5_140 hx4_140 hx3_140 hy0_140 hks_j140 hI_j140 hdoc h3n H locs ls hP hD hS hl
    refine ma_put (x := y0_140) hx hb htb inX13 hown hK hP hD hS 5 (by decide) (by decide) (htb _ kw_239) rfl rfl rfl dX13_call_140 (fun sg_7 H locs esg_7 hP hD hS => ?_)
    have hI_sg_7 := MI_put hI_j140 esg_7 hy0_140 (by decide)
    refine lv_aload_n hx hb dX13_call_143 rfl (lv_at hl 3 rfl) ?_
    refine mr_get (v := .int (sg_7 5)) hx hb htb inX13 hown hK hP 5 (by decide) (htb _ kw_239) rfl dX13_call_144 ?_
    refine lv_topi (fun z_8 ez_8 => ?_)
    obtain rfl : y0_140 = z_8 := (ez_8.trans (up_at esg_7)).symm
    refine lv_if_le (tgt := 152) hx hb dX13_call_147 (by decide) (fun c_9 => ?_) (fun c_9 => ?_)
    · have h_10 : iv 0 0 y0_140 := iv_leL c_9 hy0_140 (iv_k (by decide) : iv 0 0 0) (by decide)
      have h152 : iv 0 79 x3_140 := iv_neL (b := 79) (h3n.resolve_left (by have := i32_0; have := i32_1; have := i32_2; have := i32_m1; have := congrArg Int32.toInt (show sg_7 5 = y0_140 from up_at esg_7); have := (h_10).1; have := (h_10).2; have := (hx5_140).1; have := (hx5_140).2; have := (hx4_140).1; have := (hx4_140).2; have := (hx3_140).1; have := (hx3_140).2; omega)) hx3_140 (by decide)
      refine lv_aload_n hx hb dX13_call_152 rfl (lv_at hl 3 rfl) ?_
      refine lv_aload_n hx hb dX13_call_153 rfl (lv_at hl 3 rfl) ?_
      refine lv_aload_n hx hb dX13_call_154 rfl (lv_at hl 3 rfl) ?_
      refine lv_aload_n hx hb dX13_call_155 rfl (lv_at hl 3 rfl) ?_
      refine lv_iload_n hx hb dX13_call_156 rfl (lv_at hl 2 rfl) ?_
      refine lv_ldc2 (own := RX13) (v := 1650811246) hx hb hown (htb _ kw_136) dX13_call_157 ?_
      refine mr_calll (rest := [.ref h0, .ref h0, .ref h0]) ⟨hx, hb, hml, hown, htb⟩ (f_word l dC dI h0 ad cid sg_7 gm lg x3_140 1650811246 hI_sg_7 h152) (cwV 2 htb (gd_V kw_923 kw_924 kw_925 kw_5 kw_1545) rfl rfl rfl (by decide +kernel) ⟨Nat.le_of_ble_eq_true rfl, Nat.le_of_ble_eq_true rfl⟩) rfl hl.1 rfl (Nat.le_of_ble_eq_true rfl) dX13_call_160 ⟨Nat.zero_le _, Nat.zero_le _⟩ hK hP hD hS hA (fun r_11 u_12 H locs hw hP hD hS => ?_)
      obtain ⟨fW_r_11, rfl⟩ := hw
      have hP : va_P (dC, dI) vwCl (mW h0 ad cid sg_7 gm lg) H := hP
      have hD : va_D A (mW h0 ad cid sg_7 gm lg) := hD
      refine mr_calli (rest := [.ref h0, .ref h0]) ⟨hx, hb, hml, hown, htb⟩ (f_called l dC dI h0 ad cid sg_7 gm lg r_11 hI_sg_7) (cwV 1 htb (gd_V kw_1171 kw_1172 kw_1173 kw_5 kw_1607) rfl rfl rfl (by decide +kernel) ⟨Nat.le_of_ble_eq_true rfl, Nat.le_of_ble_eq_true rfl⟩) rfl hl.1 rfl (Nat.le_of_ble_eq_true rfl) dX13_call_163 ⟨Nat.zero_le _, Nat.zero_le _⟩ hK hP hD hS hA (fun r_13 u_14 H locs hw hP hD hS => ?_)
      obtain ⟨hr_13, fLt_r_13, rfl⟩ := hw
      have hP : va_P (dC, dI) vwCl (mW h0 ad cid sg_7 gm lg) H := hP
      have hD : va_D A (mW h0 ad cid sg_7 gm lg) := hD
      refine mr_calli (rest := [.ref h0]) ⟨hx, hb, hml, hown, htb⟩ (f_run l dC dI h0 ad cid sg_7 gm lg r_13 hI_sg_7 hr_13 (DOC_of hdoc (show KS [5, 51, 52] sg sg_7 from (KS_up (KS_tr (L := [5, 51, 52]) KS_rf hks_j140 (by decide)) esg_7 (by decide))) (show KS [] gm gm from KS_rf) (show KS [] lg lg from KS_rf) (by decide) (by decide) (by decide) (by decide)) (GI0_of hgi (show KS [5, 51, 52] sg sg_7 from (KS_up (KS_tr (L := [5, 51, 52]) KS_rf hks_j140 (by decide)) esg_7 (by decide))) (show KS [] gm gm from KS_rf) (show KS [] lg lg from KS_rf) (by decide) (by decide) (by decide) (by decide) (by decide) (by decide)) hPR (MO_of hmo (show KS [5, 51, 52] sg sg_7 from (KS_up (KS_tr (L := [5, 51, 52]) KS_rf hks_j140 (by decide)) esg_7 (by decide))) (show KS [] gm gm from KS_rf) (by decide) (by decide)) fLt_r_13) (cwV 1 htb (gd_V kw_1157 kw_1158 kw_1159 kw_5 kw_1603) rfl rfl rfl (by decide +kernel) ⟨Nat.le_of_ble_eq_true rfl, Nat.le_of_ble_eq_true rfl⟩) rfl hl.1 rfl (Nat.le_of_ble_eq_true rfl) dX13_call_166 ⟨Nat.zero_le _, Nat.zero_le _⟩ hK hP hD hS hA (fun r_15 u_16 H locs hw hP hD hS => ?_)
      obtain ⟨sgv_17, gmv_17, lgv_17, rfl, hIv_17, ksv_17, kgv_17, klv_17, hr_15, fGI_r_15, fMo_r_15⟩ := hw
      obtain rfl := KS_nil klv_17
      have hP : va_P (dC, dI) vwCl (mW h0 ad cid sgv_17 gmv_17 lg) H := hP
      have hD : va_D A (mW h0 ad cid sgv_17 gmv_17 lg) := hD
      refine lv_if_eq (tgt := 176) hx hb dX13_call_169 (by decide) (fun c_18 => ?_) (fun c_18 => ?_)
      · have h_19 : iv 0 0 r_15 := iv_eq c_18 hr_15 (iv_k (by decide) : iv 0 0 0) (by decide)
        refine lv_iconst (v := 3) hx hb dX13_call_176 (by decide) ?_
        exact hj177 sgv_17 gmv_17 x5_140 x4_140 x3_140 3 hx5_140 hx4_140 h152 (iv_w (iv_k (by decide) : iv 3 3 3) (by decide)) (KS_tr (L := [5, 48, 49, 50, 51, 52, 63, 74]) (KS_up (KS_tr (L := [5, 48, 49, 50, 51, 52, 63, 74]) KS_rf hks_j140 (by decide)) esg_7 (by decide)) ksv_17 (by decide)) (KS_tr (L := [53, 54, 55, 56, 57, 58, 59, 60, 61, 62, 64, 65, 66, 67, 68, 69, 70, 71, 72, 73, 75]) KS_rf kgv_17 (by decide)) hIv_17 (fGI_r_15) (fMo_r_15) _ _ _ hP hD hS (lv_sub hl [0, 1, 2, 3, 4, 5] rfl)
      · have h_20 : iv 1 1 r_15 := iv_neL c_18 hr_15 (by decide)
        refine lv_iconst (v := 0) hx hb dX13_call_172 (by decide) ?_
        refine lv_goto (tgt := 177) hx hb dX13_call_173 (by decide) ?_
        exact hj177 sgv_17 gmv_17 x5_140 x4_140 x3_140 0 hx5_140 hx4_140 h152 (iv_w (iv_k (by decide) : iv 0 0 0) (by decide)) (KS_tr (L := [5, 48, 49, 50, 51, 52, 63, 74]) (KS_up (KS_tr (L := [5, 48, 49, 50, 51, 52, 63, 74]) KS_rf hks_j140 (by decide)) esg_7 (by decide)) ksv_17 (by decide)) (KS_tr (L := [53, 54, 55, 56, 57, 58, 59, 60, 61, 62, 64, 65, 66, 67, 68, 69, 70, 71, 72, 73, 75]) KS_rf kgv_17 (by decide)) hIv_17 (fGI_r_15) (fMo_r_15) _ _ _ hP hD hS (lv_sub hl [0, 1, 2, 3, 4, 5] rfl)
    · have h_21 : iv 1 2 y0_140 := iv_ltR (i32_lt c_9) (iv_k (by decide) : iv 0 0 0) hy0_140 (by decide)
      refine lv_iconst (v := 0) hx hb dX13_call_150 (by decide) ?_
      exact W.iret (v := 0) hx hb hr (fun t ht hW => ⟨⟨0, (sg_7, gm, lg), rfl, ⟨sg_7, gm, lg, rfl, hI_sg_7, (KS_up (KS_tr (L := [5, 48, 49, 50, 51, 52, 63, 74]) KS_rf hks_j140 (by decide)) esg_7 (by decide)), KS_rf, KS_rf, ((GI0_of hgi (show KS [5, 51, 52] sg sg_7 from (KS_up (KS_tr (L := [5, 51, 52]) KS_rf hks_j140 (by decide)) esg_7 (by decide))) (show KS [] gm gm from KS_rf) (show KS [] lg lg from KS_rf) (by decide) (by decide) (by decide) (by decide) (by decide) (by decide))), ((MO_of hmo (show KS [5, 51, 52] sg sg_7 from (KS_up (KS_tr (L := [5, 51, 52]) KS_rf hks_j140 (by decide)) esg_7 (by decide))) (show KS [] gm gm from KS_rf) (by decide) (by decide)))⟩, by rw [ht]; exact hP, va_K.moved hW.alike hK, hD⟩, hS.F ht⟩) hS.2.2 dX13_call_151
  have hj129 : ∀ (sg_j129 : Nat → Int32) (x5_129 : Int32) (x4_129 : Int32) (x3_129 : Int32) (_ : iv 0 26 x5_129) (_ : iv 0 1 x4_129) (_ : iv (-1) 79 x3_129) (_ : KS [5, 51, 52] sg sg_j129) (_ : MI sg_j129 gm) (_ : DOC sg gm lg) (H : Heap) (locs : List Loc) (ls : Array Slot), va_P (dC, dI) vwCl (mW h0 ad cid sg_j129 gm lg) H → va_D A (mW h0 ad cid sg_j129 gm lg) → va_S A s.heap H locs → lv_has ls 7 [(5, .int x5_129), (4, .int x4_129), (3, .int x3_129), (0, .ref h0), (1, .int o), (2, .int nm)] → W p l e (headSpec wm_X13_call ({ frames := 12, cells := 0, slots := 0, locals := 300 })).room s m ([.ref h0, .int o, .int nm] : List Value).toArray below meth c H locs 0 0 (MQ below (va_Qi (fun r v => ∃ (sg2 : Nat → Int32) (gm2 : Nat → Nat → Int32) (lg2 : Nat → Nat → Int64), v = (sg2, gm2, lg2) ∧ MI sg2 gm2 ∧ KS [5, 48, 49, 50, 51, 52, 63, 74] sg sg2 ∧ KS [53, 54, 55, 56, 57, 58, 59, 60, 61, 62, 64, 65, 66, 67, 68, 69, 70, 71, 72, 73, 75] gm gm2 ∧ KS [] lg lg2 ∧ (GI0 sg2 gm2 lg2) ∧ (MO sg2 gm2)) (MB dC dI h0 ad cid A) A) ([.ref h0, .int o, .int nm] : List Value).toArray s 0 0 A) (F0 m 129 ls []) := by
    intro sg_j129 x5_129 x4_129 x3_129 hx5_129 hx4_129 hx3_129 hks_j129 hI_j129 hdoc H locs ls hP hD hS hl
    refine lv_aload_n hx hb dX13_call_129 rfl (lv_at hl 3 rfl) ?_
    refine lv_iload_n hx hb dX13_call_130 rfl (lv_at hl 2 rfl) ?_
    refine lv_iconst (v := (-1)) hx hb dX13_call_131 (by decide) ?_
    refine lv_icmp_ne (tgt := 139) hx hb dX13_call_132 (by decide) (fun c_22 => ?_) (fun c_22 => ?_)
    · have h_23 : iv 0 79 x3_129 := iv_neL c_22 hx3_129 (by decide)
      refine lv_iconst (v := 0) hx hb dX13_call_139 (by decide) ?_
      exact hj140 sg_j129 x5_129 x4_129 x3_129 0 hx5_129 hx4_129 (iv_w h_23 (by decide)) (iv_w (iv_k (by decide) : iv 0 0 0) (by decide)) (KS_tr (L := [5, 51, 52]) KS_rf hks_j129 (by decide)) hI_j129 (hdoc) (Or.inr c_22) _ _ _ hP hD hS (lv_sub hl [0, 1, 2, 3, 4, 5] rfl)
    · have h_24 : iv (-1) (-1) x3_129 := iv_eq c_22 hx3_129 (iv_k (by decide) : iv (-1) (-1) (-1)) (by decide)
      refine lv_iconst (v := 2) hx hb dX13_call_135 (by decide) ?_
      refine lv_goto (tgt := 140) hx hb dX13_call_136 (by decide) ?_
      exact hj140 sg_j129 x5_129 x4_129 x3_129 2 hx5_129 hx4_129 (iv_w h_24 (by decide)) (iv_w (iv_k (by decide) : iv 2 2 2) (by decide)) (KS_tr (L := [5, 51, 52]) KS_rf hks_j129 (by decide)) hI_j129 (hdoc) (Or.inl (by decide)) _ _ _ hP hD hS (lv_sub hl [0, 1, 2, 3, 4, 5] rfl)
  have hj59 : ∀ (n : Nat) (sg_j59 : Nat → Int32) (x5_59 : Int32) (x4_59 : Int32) (x3_59 : Int32) (_ : (26 - x5_59.toInt).toNat = n) (_ : iv 0 26 x5_59) (_ : iv 0 1 x4_59) (_ : iv (-1) 79 x3_59) (_ : KS [5, 51, 52] sg sg_j59) (_ : MI sg_j59 gm) (_ : x4_59.toInt = 0 ∨ iv 0 59 o) (_ : DOC sg gm lg) (H : Heap) (locs : List Loc) (ls : Array Slot), va_P (dC, dI) vwCl (mW h0 ad cid sg_j59 gm lg) H → va_D A (mW h0 ad cid sg_j59 gm lg) → va_S A s.heap H locs → lv_has ls 7 [(5, .int x5_59), (4, .int x4_59), (3, .int x3_59), (0, .ref h0), (1, .int o), (2, .int nm)] → W p l e (headSpec wm_X13_call ({ frames := 12, cells := 0, slots := 0, locals := 300 })).room s m ([.ref h0, .int o, .int nm] : List Value).toArray below meth c H locs 0 0 (MQ below (va_Qi (fun r v => ∃ (sg2 : Nat → Int32) (gm2 : Nat → Nat → Int32) (lg2 : Nat → Nat → Int64), v = (sg2, gm2, lg2) ∧ MI sg2 gm2 ∧ KS [5, 48, 49, 50, 51, 52, 63, 74] sg sg2 ∧ KS [53, 54, 55, 56, 57, 58, 59, 60, 61, 62, 64, 65, 66, 67, 68, 69, 70, 71, 72, 73, 75] gm gm2 ∧ KS [] lg lg2 ∧ (GI0 sg2 gm2 lg2) ∧ (MO sg2 gm2)) (MB dC dI h0 ad cid A) A) ([.ref h0, .int o, .int nm] : List Value).toArray s 0 0 A) (F0 m 59 ls []) := by
    intro n
    induction n using Nat.strongRecOn with
    | ind n ih59 =>
      intro sg_j59 x5_59 x4_59 x3_59 hn59 hx5_59 hx4_59 hx3_59 hks_j59 hI_j59 h4o hdoc H locs ls hP hD hS hl
      have hj122 : ∀ (sg_j122 : Nat → Int32) (x6_122 : Int32) (y0_122 : Int32) (_ : iv 0 79 x6_122) (_ : iv 0 25 x5_59) (_ : iv 1 1 x4_59) (_ : iv (-1) 79 x3_59) (_ : iv 0 59 o) (_ : iv (-1) 79 y0_122) (_ : KS [5, 51, 52] sg sg_j122) (_ : MI sg_j122 gm) (_ : DOC sg gm lg) (_ : x4_59.toInt = 0 ∨ iv 0 59 o) (H : Heap) (locs : List Loc) (ls : Array Slot), va_P (dC, dI) vwCl (mW h0 ad cid sg_j122 gm lg) H → va_D A (mW h0 ad cid sg_j122 gm lg) → va_S A s.heap H locs → lv_has ls 7 [(6, .int x6_122), (5, .int x5_59), (4, .int x4_59), (3, .int x3_59), (0, .ref h0), (1, .int o), (2, .int nm)] → W p l e (headSpec wm_X13_call ({ frames := 12, cells := 0, slots := 0, locals := 300 })).room s m ([.ref h0, .int o, .int nm] : List Value).toArray below meth c H locs 0 0 (MQ below (va_Qi (fun r v => ∃ (sg2 : Nat → Int32) (gm2 : Nat → Nat → Int32) (lg2 : Nat → Nat → Int64), v = (sg2, gm2, lg2) ∧ MI sg2 gm2 ∧ KS [5, 48, 49, 50, 51, 52, 63, 74] sg sg2 ∧ KS [53, 54, 55, 56, 57, 58, 59, 60, 61, 62, 64, 65, 66, 67, 68, 69, 70, 71, 72, 73, 75] gm gm2 ∧ KS [] lg lg2 ∧ (GI0 sg2 gm2 lg2) ∧ (MO sg2 gm2)) (MB dC dI h0 ad cid A) A) ([.ref h0, .int o, .int nm] : List Value).toArray s 0 0 A) (F0 m 122 ls [.int y0_122]) := by
        intro sg_j122 x6_122 y0_122 hx6_122 hsx5_122 hsx4_122 hsx3_122 hsx1_122 hy0_122 hks_j122 hI_j122 hdoc h4o H locs ls hP hD hS hl
        refine lv_istore_n (lv' := [(3, .int y0_122), (6, .int x6_122), (5, .int x5_59), (4, .int x4_59), (0, .ref h0), (1, .int o), (2, .int nm)]) hx hb dX13_call_122 rfl hl (by decide) rfl (fun ls hl => ?_)
        obtain ⟨z_25, ez_25⟩ : ∃ z : Int32, z = x5_59 + 1 := ⟨_, rfl⟩
        have hz_25 : iv 1 26 z_25 := iv_of ez_25 (iv_add hsx5_122 (iv_k (by decide) : iv 1 1 1) (by decide))
        have tz_25 : z_25.toInt = x5_59.toInt + 1 := by rw [ez_25]; exact iv_addE hsx5_122 (iv_k (by decide) : iv 1 1 1) (by decide)
        refine lv_iinc (v := z_25) (lv' := [(5, .int z_25), (3, .int y0_122), (6, .int x6_122), (4, .int x4_59), (0, .ref h0), (1, .int o), (2, .int nm)]) hx hb dX13_call_123 hl (k := 2) rfl ez_25.symm (by decide) rfl (fun ls hl => ?_)
        refine lv_goto (tgt := 59) hx hb dX13_call_126 (by decide) ?_
        exact ih59 _ (by rw [← hn59]; exact (iv_meas tz_25 hsx5_122 (by decide))) sg_j122 z_25 x4_59 y0_122 rfl (iv_w hz_25 (by decide)) (iv_w hsx4_122 (by decide)) hy0_122 (KS_tr (L := [5, 51, 52]) KS_rf hks_j122 (by decide)) hI_j122 (h4o) (hdoc) _ _ _ hP hD hS (lv_sub hl [0, 3, 1, 4, 5, 6] rfl)
      refine lv_iload hx hb dX13_call_59 (lv_at hl 1 rfl) ?_
      refine lv_if_eq (tgt := 129) hx hb dX13_call_61 (by decide) (fun c_26 => ?_) (fun c_26 => ?_)
      · have h_27 : iv 0 0 x4_59 := iv_eq c_26 hx4_59 (iv_k (by decide) : iv 0 0 0) (by decide)
        exact hj129 sg_j59 x5_59 x4_59 x3_59 hx5_59 (iv_w h_27 (by decide)) hx3_59 (KS_tr (L := [5, 51, 52]) KS_rf hks_j59 (by decide)) hI_j59 (hdoc) _ _ _ hP hD hS (lv_sub hl [0, 1, 2, 3, 4, 5] rfl)
      · have h_28 : iv 1 1 x4_59 := iv_neL c_26 hx4_59 (by decide)
        have h64o : iv 0 59 o := h4o.resolve_left (fun q9 => c_26 (Int32.toInt_inj.mp q9))
        refine lv_iload hx hb dX13_call_64 (lv_at hl 0 rfl) ?_
        refine lv_aload_n hx hb dX13_call_66 rfl (lv_at hl 3 rfl) ?_
        refine mr_get (v := .ref (ad 46)) hx hb htb inX13 hown hK hP 46 (by decide) (htb _ kw_200) rfl dX13_call_67 ?_
        refine lv_aload_n hx hb dX13_call_70 rfl (lv_at hl 3 rfl) ?_
        refine mr_get (v := .ref (ad 54)) hx hb htb inX13 hown hK hP 54 (by decide) (htb _ kw_204) rfl dX13_call_71 ?_
        refine lv_iload_n hx hb dX13_call_74 rfl (lv_at hl 4 rfl) ?_
        refine mr_iald hx hb hK hP 40 (k := 54) rfl rfl rfl (show vp_in o 60 from (iv_in h64o (by decide))) dX13_call_75 ?_
        refine lv_topi (fun z_29 ez_29 => ?_)
        have hz_29 : iv 0 79 z_29 := iv_of ez_29 (MI_a hI_j59 54 h64o (by decide))
        refine mr_iald hx hb hK hP 37 (k := 46) rfl rfl rfl (show vp_in z_29 80 from (iv_in hz_29 (by decide))) dX13_call_76 ?_
        refine lv_topi (fun z_30 ez_30 => ?_)
        have hz_30 : iv 0 26 z_30 := iv_of ez_30 (MI_a hI_j59 46 hz_29 (by decide))
        refine lv_icmp_ge (tgt := 129) hx hb dX13_call_77 (by decide) (fun c_31 => ?_) (fun c_31 => ?_)
        · have d_32 : (z_30 : Int32).toInt ≤ (x5_59 : Int32).toInt := Int32.le_iff_toInt_le.mp c_31
          exact hj129 sg_j59 x5_59 x4_59 x3_59 hx5_59 (iv_w h_28 (by decide)) hx3_59 (KS_tr (L := [5, 51, 52]) KS_rf hks_j59 (by decide)) hI_j59 (hdoc) _ _ _ hP hD hS (lv_sub hl [0, 1, 2, 3, 4, 5] rfl)
        · have d_33 : (x5_59 : Int32).toInt < (z_30 : Int32).toInt := Int32.lt_iff_toInt_lt.mp (i32_lt c_31)
          have h_34 : iv 0 25 x5_59 := iv_ltL (i32_lt c_31) hx5_59 hz_30 (by decide)
          have h_35 : iv 1 26 z_30 := iv_ltR (i32_lt c_31) hx5_59 hz_30 (by decide)
          refine lv_aload_n hx hb dX13_call_80 rfl (lv_at hl 3 rfl) ?_
          refine mr_get (v := .ref (ad 47)) hx hb htb inX13 hown hK hP 47 (by decide) (htb _ kw_201) rfl dX13_call_81 ?_
          refine lv_bipush (v := 26) hx hb dX13_call_84 (by decide) ?_
          refine lv_aload_n hx hb dX13_call_86 rfl (lv_at hl 3 rfl) ?_
          refine mr_get (v := .ref (ad 54)) hx hb htb inX13 hown hK hP 54 (by decide) (htb _ kw_204) rfl dX13_call_87 ?_
          refine lv_iload_n hx hb dX13_call_90 rfl (lv_at hl 4 rfl) ?_
          refine mr_iald hx hb hK hP 40 (k := 54) rfl rfl rfl (show vp_in o 60 from (iv_in h64o (by decide))) dX13_call_91 ?_
          refine lv_topi (fun z_36 ez_36 => ?_)
          obtain rfl : z_29 = z_36 := ez_29.trans ez_36.symm
          refine lv_imul hx hb dX13_call_92 ?_
          refine lv_topi (fun z_37 ez_37 => ?_)
          have hz_37 : iv 0 2054 z_37 := iv_of ez_37 (iv_mul (iv_k (by decide) : iv 26 26 26) hz_29 (by decide))
          have tz_37 : z_37.toInt = 26 * (z_29 : Int32).toInt := by rw [ez_37]; exact iv_mulE (iv_k (by decide) : iv 26 26 26) hz_29 (by decide)
          refine lv_iload hx hb dX13_call_93 (lv_at hl 0 rfl) ?_
          refine lv_iadd hx hb dX13_call_95 ?_
          refine lv_topi (fun z_38 ez_38 => ?_)
          have hz_38 : iv 0 2079 z_38 := iv_of ez_38 (iv_add hz_37 h_34 (by decide))
          have tz_38 : z_38.toInt = (z_37 : Int32).toInt + (x5_59 : Int32).toInt := by rw [ez_38]; exact iv_addE hz_37 h_34 (by decide)
          refine mr_iald hx hb hK hP 38 (k := 47) rfl rfl rfl (show vp_in z_38 2080 from (iv_in hz_38 (by decide))) dX13_call_96 ?_
          refine lv_topi (fun z_39 ez_39 => ?_)
          have hz_39 : iv 0 79 z_39 := iv_of ez_39 (MI_a hI_j59 47 hz_38 (by decide))
          refine lv_istore (lv' := [(6, .int z_39), (5, .int x5_59), (4, .int x4_59), (3, .int x3_59), (0, .ref h0), (1, .int o), (2, .int nm)]) hx hb dX13_call_97 hl (by decide) rfl (fun ls hl => ?_)
          refine lv_aload_n hx hb dX13_call_99 rfl (lv_at hl 4 rfl) ?_
          refine lv_iload hx hb dX13_call_100 (lv_at hl 0 rfl) ?_
          refine lv_ldc2 (own := RX13) (v := 1851878757) hx hb hown (htb _ kw_887) dX13_call_102 ?_
          refine mr_calll (rest := []) ⟨hx, hb, hml, hown, htb⟩ (f_word l dC dI h0 ad cid sg_j59 gm lg z_39 1851878757 hI_j59 hz_39) (cwV 2 htb (gd_V kw_923 kw_924 kw_925 kw_5 kw_1545) rfl rfl rfl (by decide +kernel) ⟨Nat.le_of_ble_eq_true rfl, Nat.le_of_ble_eq_true rfl⟩) rfl hl.1 rfl (Nat.le_of_ble_eq_true rfl) dX13_call_105 ⟨Nat.zero_le _, Nat.zero_le _⟩ hK hP hD hS hA (fun r_40 u_41 H locs hw hP hD hS => ?_)
          obtain ⟨fW_r_40, rfl⟩ := hw
          have hP : va_P (dC, dI) vwCl (mW h0 ad cid sg_j59 gm lg) H := hP
          have hD : va_D A (mW h0 ad cid sg_j59 gm lg) := hD
          refine lv_l2i (v := (r_40).toInt32) hx hb dX13_call_108 rfl ?_
          refine lv_topi (fun z_42 ez_42 => ?_)
          refine lv_bipush (v := 97) hx hb dX13_call_109 (by decide) ?_
          refine lv_isub hx hb dX13_call_111 ?_
          refine lv_topi (fun z_43 ez_43 => ?_)
          refine lv_iload_n hx hb dX13_call_112 rfl (lv_at hl 6 rfl) ?_
          refine lv_icmp_ne (tgt := 121) hx hb dX13_call_113 (by decide) (fun c_44 => ?_) (fun c_44 => ?_)
          · refine lv_iload_n hx hb dX13_call_121 rfl (lv_at hl 3 rfl) ?_
            exact hj122 sg_j59 z_39 x3_59 hz_39 h_34 h_28 hx3_59 h64o hx3_59 (KS_tr (L := [5, 51, 52]) KS_rf hks_j59 (by decide)) hI_j59 (hdoc) (h4o) _ _ _ hP hD hS (lv_sub hl [0, 1, 2, 3, 4, 5, 6] rfl)
          · have d_45 : (z_43 : Int32).toInt = (nm : Int32).toInt := congrArg Int32.toInt c_44
            refine lv_iload hx hb dX13_call_116 (lv_at hl 0 rfl) ?_
            refine lv_goto (tgt := 122) hx hb dX13_call_118 (by decide) ?_
            exact hj122 sg_j59 z_39 z_39 hz_39 h_34 h_28 hx3_59 h64o (iv_w hz_39 (by decide)) (KS_tr (L := [5, 51, 52]) KS_rf hks_j59 (by decide)) hI_j59 (hdoc) (h4o) _ _ _ hP hD hS (lv_sub hl [0, 1, 2, 3, 4, 5, 6] rfl)
  have hj54 : ∀ (sg_j54 : Nat → Int32) (y0_54 : Int32) (_ : iv 0 1 y0_54) (_ : KS [5, 51, 52] sg sg_j54) (_ : MI sg_j54 gm) (_ : y0_54.toInt = 0 ∨ iv 0 59 o) (_ : DOC sg gm lg) (H : Heap) (locs : List Loc) (ls : Array Slot), va_P (dC, dI) vwCl (mW h0 ad cid sg_j54 gm lg) H → va_D A (mW h0 ad cid sg_j54 gm lg) → va_S A s.heap H locs → lv_has ls 7 [(3, .int (-1)), (0, .ref h0), (1, .int o), (2, .int nm)] → W p l e (headSpec wm_X13_call ({ frames := 12, cells := 0, slots := 0, locals := 300 })).room s m ([.ref h0, .int o, .int nm] : List Value).toArray below meth c H locs 0 0 (MQ below (va_Qi (fun r v => ∃ (sg2 : Nat → Int32) (gm2 : Nat → Nat → Int32) (lg2 : Nat → Nat → Int64), v = (sg2, gm2, lg2) ∧ MI sg2 gm2 ∧ KS [5, 48, 49, 50, 51, 52, 63, 74] sg sg2 ∧ KS [53, 54, 55, 56, 57, 58, 59, 60, 61, 62, 64, 65, 66, 67, 68, 69, 70, 71, 72, 73, 75] gm gm2 ∧ KS [] lg lg2 ∧ (GI0 sg2 gm2 lg2) ∧ (MO sg2 gm2)) (MB dC dI h0 ad cid A) A) ([.ref h0, .int o, .int nm] : List Value).toArray s 0 0 A) (F0 m 54 ls [.int y0_54]) := by
    intro sg_j54 y0_54 hy0_54 hks_j54 hI_j54 h4o hdoc H locs ls hP hD hS hl
    refine lv_istore (lv' := [(4, .int y0_54), (3, .int (-1)), (0, .ref h0), (1, .int o), (2, .int nm)]) hx hb dX13_call_54 hl (by decide) rfl (fun ls hl => ?_)
    refine lv_iconst (v := 0) hx hb dX13_call_56 (by decide) ?_
    refine lv_istore (lv' := [(5, .int 0), (4, .int y0_54), (3, .int (-1)), (0, .ref h0), (1, .int o), (2, .int nm)]) hx hb dX13_call_57 hl (by decide) rfl (fun ls hl => ?_)
    exact hj59 _ sg_j54 0 y0_54 (-1) rfl (iv_w (iv_k (by decide) : iv 0 0 0) (by decide)) hy0_54 (iv_w (iv_k (by decide) : iv (-1) (-1) (-1)) (by decide)) (KS_tr (L := [5, 51, 52]) KS_rf hks_j54 (by decide)) hI_j54 (h4o) (hdoc) _ _ _ hP hD hS (lv_sub hl [0, 1, 2, 3, 4, 5] rfl)
  have hj53 : ∀ (sg_j53 : Nat → Int32) (_ : KS [5, 51, 52] sg sg_j53) (_ : MI sg_j53 gm) (_ : DOC sg gm lg) (H : Heap) (locs : List Loc) (ls : Array Slot), va_P (dC, dI) vwCl (mW h0 ad cid sg_j53 gm lg) H → va_D A (mW h0 ad cid sg_j53 gm lg) → va_S A s.heap H locs → lv_has ls 7 [(3, .int (-1)), (0, .ref h0), (1, .int o), (2, .int nm)] → W p l e (headSpec wm_X13_call ({ frames := 12, cells := 0, slots := 0, locals := 300 })).room s m ([.ref h0, .int o, .int nm] : List Value).toArray below meth c H locs 0 0 (MQ below (va_Qi (fun r v => ∃ (sg2 : Nat → Int32) (gm2 : Nat → Nat → Int32) (lg2 : Nat → Nat → Int64), v = (sg2, gm2, lg2) ∧ MI sg2 gm2 ∧ KS [5, 48, 49, 50, 51, 52, 63, 74] sg sg2 ∧ KS [53, 54, 55, 56, 57, 58, 59, 60, 61, 62, 64, 65, 66, 67, 68, 69, 70, 71, 72, 73, 75] gm gm2 ∧ KS [] lg lg2 ∧ (GI0 sg2 gm2 lg2) ∧ (MO sg2 gm2)) (MB dC dI h0 ad cid A) A) ([.ref h0, .int o, .int nm] : List Value).toArray s 0 0 A) (F0 m 53 ls []) := by
    intro sg_j53 hks_j53 hI_j53 hdoc H locs ls hP hD hS hl
    refine lv_iconst (v := 0) hx hb dX13_call_53 (by decide) ?_
    exact hj54 sg_j53 0 (iv_w (iv_k (by decide) : iv 0 0 0) (by decide)) (KS_tr (L := [5, 51, 52]) KS_rf hks_j53 (by decide)) hI_j53 (Or.inl rfl) (hdoc) _ _ _ hP hD hS (lv_sub hl [0, 1, 2, 3] rfl)
  have hj23 : ∀ (sg_j23 : Nat → Int32) (y0_23 : Int32) (_ : iv 0 1 y0_23) (_ : KS [51, 52] sg sg_j23) (_ : MI sg_j23 gm) (_ : 1 ≤ y0_23.toInt ∨ DOC sg gm lg) (H : Heap) (locs : List Loc) (ls : Array Slot), va_P (dC, dI) vwCl (mW h0 ad cid sg_j23 gm lg) H → va_D A (mW h0 ad cid sg_j23 gm lg) → va_S A s.heap H locs → lv_has ls 7 [(0, .ref h0), (1, .int o), (2, .int nm)] → W p l e (headSpec wm_X13_call ({ frames := 12, cells := 0, slots := 0, locals := 300 })).room s m ([.ref h0, .int o, .int nm] : List Value).toArray below meth c H locs 0 0 (MQ below (va_Qi (fun r v => ∃ (sg2 : Nat → Int32) (gm2 : Nat → Nat → Int32) (lg2 : Nat → Nat → Int64), v = (sg2, gm2, lg2) ∧ MI sg2 gm2 ∧ KS [5, 48, 49, 50, 51, 52, 63, 74] sg sg2 ∧ KS [53, 54, 55, 56, 57, 58, 59, 60, 61, 62, 64, 65, 66, 67, 68, 69, 70, 71, 72, 73, 75] gm gm2 ∧ KS [] lg lg2 ∧ (GI0 sg2 gm2 lg2) ∧ (MO sg2 gm2)) (MB dC dI h0 ad cid A) A) ([.ref h0, .int o, .int nm] : List Value).toArray s 0 0 A) (F0 m 23 ls [.int y0_23, .ref h0]) := by
    intro sg_j23 y0_23 hy0_23 hks_j23 hI_j23 hd23 H locs ls hP hD hS hl
    refine ma_put (x := y0_23) hx hb htb inX13 hown hK hP hD hS 5 (by decide) (by decide) (htb _ kw_239) rfl rfl rfl dX13_call_23 (fun sg_46 H locs esg_46 hP hD hS => ?_)
    have hI_sg_46 := MI_put hI_j23 esg_46 hy0_23 (by decide)
    refine lv_aload_n hx hb dX13_call_26 rfl (lv_at hl 0 rfl) ?_
    refine mr_get (v := .int (sg_46 5)) hx hb htb inX13 hown hK hP 5 (by decide) (htb _ kw_239) rfl dX13_call_27 ?_
    refine lv_topi (fun z_47 ez_47 => ?_)
    obtain rfl : y0_23 = z_47 := (ez_47.trans (up_at esg_46)).symm
    refine lv_if_le (tgt := 35) hx hb dX13_call_30 (by decide) (fun c_48 => ?_) (fun c_48 => ?_)
    · have h_49 : iv 0 0 y0_23 := iv_leL c_48 hy0_23 (iv_k (by decide) : iv 0 0 0) (by decide)
      have hdoc := hd23.resolve_left (by have := i32_0; have := i32_1; have := i32_2; have := i32_m1; have := (h_49).1; have := (h_49).2; omega)
      refine lv_iconst (v := (-1)) hx hb dX13_call_35 (by decide) ?_
      refine lv_istore_n (lv' := [(3, .int (-1)), (0, .ref h0), (1, .int o), (2, .int nm)]) hx hb dX13_call_36 rfl hl (by decide) rfl (fun ls hl => ?_)
      refine lv_iload_n hx hb dX13_call_37 rfl (lv_at hl 2 rfl) ?_
      refine lv_if_lt (tgt := 53) hx hb dX13_call_38 (by decide) (fun c_50 => ?_) (fun c_50 => ?_)
      · have h_51 : iv (-2147483648) (-1) o := iv_ltL c_50 (iv_all o) (iv_k (by decide) : iv 0 0 0) (by decide)
        exact hj53 sg_46 (KS_up (KS_tr (L := [5, 51, 52]) KS_rf hks_j23 (by decide)) esg_46 (by decide)) hI_sg_46 (hdoc) _ _ _ hP hD hS (lv_sub hl [0, 1, 2, 3] rfl)
      · have h_52 : iv 0 2147483647 o := iv_leR (i32_ge c_50) (iv_k (by decide) : iv 0 0 0) (iv_all o) (by decide)
        refine lv_iload_n hx hb dX13_call_41 rfl (lv_at hl 2 rfl) ?_
        refine lv_aload_n hx hb dX13_call_42 rfl (lv_at hl 1 rfl) ?_
        refine mr_get (v := .int (sg_46 48)) hx hb htb inX13 hown hK hP 48 (by decide) (htb _ kw_819) rfl dX13_call_43 ?_
        refine lv_topi (fun z_53 ez_53 => ?_)
        obtain rfl : (sg 48) = z_53 := (ez_53.trans (Eq.trans (up_ne esg_46 (by decide)) (hks_j23 48 (by decide)))).symm
        refine lv_icmp_ge (tgt := 53) hx hb dX13_call_46 (by decide) (fun c_54 => ?_) (fun c_54 => ?_)
        · have d_55 : ((sg 48) : Int32).toInt ≤ (o : Int32).toInt := Int32.le_iff_toInt_le.mp c_54
          exact hj53 sg_46 (KS_up (KS_tr (L := [5, 51, 52]) KS_rf hks_j23 (by decide)) esg_46 (by decide)) hI_sg_46 (hdoc) _ _ _ hP hD hS (lv_sub hl [0, 1, 2, 3] rfl)
        · have d_56 : (o : Int32).toInt < ((sg 48) : Int32).toInt := Int32.lt_iff_toInt_lt.mp (i32_lt c_54)
          have h_57 : iv 0 59 o := iv_ltL (i32_lt c_54) h_52 (show iv 0 60 (sg 48) from MI_s hI 48) (by decide)
          have h_58 : iv 1 60 (sg 48) := iv_ltR (i32_lt c_54) h_52 (show iv 0 60 (sg 48) from MI_s hI 48) (by decide)
          refine lv_iconst (v := 1) hx hb dX13_call_49 (by decide) ?_
          refine lv_goto (tgt := 54) hx hb dX13_call_50 (by decide) ?_
          exact hj54 sg_46 1 (iv_w (iv_k (by decide) : iv 1 1 1) (by decide)) (KS_up (KS_tr (L := [5, 51, 52]) KS_rf hks_j23 (by decide)) esg_46 (by decide)) hI_sg_46 (Or.inr ⟨by have := i32_0; have := i32_1; have := i32_2; have := i32_m1; have := congrArg Int32.toInt (show sg_46 48 = sg_j23 48 from up_ne esg_46 (by decide)); have := congrArg Int32.toInt (show sg_j23 48 = sg 48 from hks_j23 48 (by decide)); have := (show iv 0 60 (sg 48) from MI_s hI 48).1; have := (show iv 0 60 (sg 48) from MI_s hI 48).2; have := (h_49).1; have := (h_49).2; have := (h_57).1; have := (h_57).2; have := (h_58).1; have := (h_58).2; omega, by have := i32_0; have := i32_1; have := i32_2; have := i32_m1; have := congrArg Int32.toInt (show sg_46 48 = sg_j23 48 from up_ne esg_46 (by decide)); have := congrArg Int32.toInt (show sg_j23 48 = sg 48 from hks_j23 48 (by decide)); have := (show iv 0 60 (sg 48) from MI_s hI 48).1; have := (show iv 0 60 (sg 48) from MI_s hI 48).2; have := (h_49).1; have := (h_49).2; have := (h_57).1; have := (h_57).2; have := (h_58).1; have := (h_58).2; omega⟩) (hdoc) _ _ _ hP hD hS (lv_sub hl [0, 1, 2, 3] rfl)
    · have h_59 : iv 1 1 y0_23 := iv_ltR (i32_lt c_48) (iv_k (by decide) : iv 0 0 0) hy0_23 (by decide)
      refine lv_iconst (v := 0) hx hb dX13_call_33 (by decide) ?_
      exact W.iret (v := 0) hx hb hr (fun t ht hW => ⟨⟨0, (sg_46, gm, lg), rfl, ⟨sg_46, gm, lg, rfl, hI_sg_46, (KS_up (KS_tr (L := [5, 48, 49, 50, 51, 52, 63, 74]) KS_rf hks_j23 (by decide)) esg_46 (by decide)), KS_rf, KS_rf, ((GI0_of hgi (show KS [5, 51, 52] sg sg_46 from (KS_up (KS_tr (L := [5, 51, 52]) KS_rf hks_j23 (by decide)) esg_46 (by decide))) (show KS [] gm gm from KS_rf) (show KS [] lg lg from KS_rf) (by decide) (by decide) (by decide) (by decide) (by decide) (by decide))), ((MO_of hmo (show KS [5, 51, 52] sg sg_46 from (KS_up (KS_tr (L := [5, 51, 52]) KS_rf hks_j23 (by decide)) esg_46 (by decide))) (show KS [] gm gm from KS_rf) (by decide) (by decide)))⟩, by rw [ht]; exact hP, va_K.moved hW.alike hK, hD⟩, hS.F ht⟩) hS.2.2 dX13_call_34
  refine lv_aload_n hx hb dX13_call_0 rfl (lv_at hl 0 rfl) ?_
  refine lv_iconst (v := 0) hx hb dX13_call_1 (by decide) ?_
  refine ma_put (x := 0) hx hb htb inX13 hown hK hP hD hS 51 (by decide) (by decide) (htb _ kw_983) rfl rfl rfl dX13_call_2 (fun sg_60 H locs esg_60 hP hD hS => ?_)
  have hI_sg_60 := MI_put hI esg_60 (iv_k (by decide) : iv 0 0 0) (by decide)
  refine lv_aload_n hx hb dX13_call_5 rfl (lv_at hl 0 rfl) ?_
  refine lv_iconst (v := (-1)) hx hb dX13_call_6 (by decide) ?_
  refine ma_put (x := (-1)) hx hb htb inX13 hown hK hP hD hS 52 (by decide) (by decide) (htb _ kw_202) rfl rfl rfl dX13_call_7 (fun sg_61 H locs esg_61 hP hD hS => ?_)
  have hI_sg_61 := MI_put hI_sg_60 esg_61 (iv_k (by decide) : iv (-1) (-1) (-1)) (by decide)
  refine lv_aload_n hx hb dX13_call_10 rfl (lv_at hl 0 rfl) ?_
  refine lv_aload_n hx hb dX13_call_11 rfl (lv_at hl 0 rfl) ?_
  refine mr_get (v := .int (sg_61 40)) hx hb htb inX13 hown hK hP 40 (by decide) (htb _ kw_818) rfl dX13_call_12 ?_
  refine lv_topi (fun z_62 ez_62 => ?_)
  obtain rfl : (sg 40) = z_62 := (ez_62.trans (Eq.trans (up_ne esg_61 (by decide)) (up_ne esg_60 (by decide)))).symm
  refine lv_if_eq (tgt := 22) hx hb dX13_call_15 (by decide) (fun c_63 => ?_) (fun c_63 => ?_)
  · have h_64 : iv 0 0 (sg 40) := iv_eq c_63 (show iv 0 1 (sg 40) from MI_s hI 40) (iv_k (by decide) : iv 0 0 0) (by decide)
    refine lv_iconst (v := 1) hx hb dX13_call_22 (by decide) ?_
    exact hj23 sg_61 1 (iv_w (iv_k (by decide) : iv 1 1 1) (by decide)) (KS_up (KS_up KS_rf esg_60 (by decide)) esg_61 (by decide)) hI_sg_61 (Or.inl (by decide)) _ _ _ hP hD hS (lv_sub hl [0, 1, 2] rfl)
  · have h_65 : iv 1 1 (sg 40) := iv_neL c_63 (show iv 0 1 (sg 40) from MI_s hI 40) (by decide)
    refine lv_iconst (v := 0) hx hb dX13_call_18 (by decide) ?_
    refine lv_goto (tgt := 23) hx hb dX13_call_19 (by decide) ?_
    exact hj23 sg_61 0 (iv_w (iv_k (by decide) : iv 0 0 0) (by decide)) (KS_up (KS_up KS_rf esg_60 (by decide)) esg_61 (by decide)) hI_sg_61 (Or.inr (hdd.resolve_left (by have := i32_0; have := i32_1; have := i32_2; have := i32_m1; have := congrArg Int32.toInt (show sg_61 40 = sg_60 40 from up_ne esg_61 (by decide)); have := congrArg Int32.toInt (show sg_60 40 = sg 40 from up_ne esg_60 (by decide)); have := (show iv 0 1 (sg 40) from MI_s hI 40).1; have := (show iv 0 1 (sg 40) from MI_s hI 40).2; have := (h_65).1; have := (h_65).2; omega))) _ _ _ hP hD hS (lv_sub hl [0, 1, 2] rfl)

set_option maxHeartbeats 4000000 in
set_option maxRecDepth 100000 in
theorem f_close (l : Launch) (dC : Nat → ClassId) (dI : Nat → Nat → Nat) (h0 : Nat) (ad : Nat → Nat) (cid : Nat → ClassId) (sg : Nat → Int32) (gm : Nat → Nat → Int32) (lg : Nat → Nat → Int64) (hI : MI sg gm) (hgi : GI0 sg gm lg) (hPR : PR gm) (hmo : MO sg gm) (hdd : (sg 40).toInt = 0 ∨ DOC sg gm lg) : MMi l dC dI yX13_close wm_X13_close ({ frames := 7, cells := 0, slots := 0, locals := 165 }) h0 ad cid [] sg gm lg (fun r v => ∃ (sg2 : Nat → Int32) (gm2 : Nat → Nat → Int32) (lg2 : Nat → Nat → Int64), v = (sg2, gm2, lg2) ∧ MI sg2 gm2 ∧ KS [5, 49, 50] sg sg2 ∧ KS [55, 56, 57, 58, 60, 61] gm gm2 ∧ KS [] lg lg2 ∧ (GI0 sg2 gm2 lg2) ∧ (MO sg2 gm2)) := by
  intro sz
  refine Met.ofW (cc := cX13_close) (maxL := 1) (ret := (some .int)) (by decide) rfl ?_
  intro p e s m args below meth c s₁ B hml hv
  obtain ⟨rfl, hsz, hP, hK, hD0⟩ := hv
  have hx := B.exec
  have hb := B.bytes
  have hr := B.returns
  have hts := atoms_spec (ws := wm_X13_close) B.pre
  have htb := fun (w : Cond) (h : w ∈ tb) => hts w (List.mem_cons_of_mem _ h)
  have hown : s.vm.findClass RX13 = some m.cls := findClass_of_methodNamed B.named
  have hlocks := B.notSynchronized
  subst hsz
  have hD := hD0.self (sz := s.heap.size)
  generalize hAe : va_A (mW h0 ad cid sg gm lg) s.heap.size = A at hD ⊢
  have hA : ∀ q : Nat, s.heap.size ≤ q → A q := fun q h => by rw [← hAe]; exact Or.inr h
  have hS : va_S A s.heap s.heap [] := va_S.rf
  have hl := lv_entry ([.ref h0]) (n := 1) (Nat.le_of_ble_eq_true rfl)
  rw [lg_entry_eq]
  generalize (lg_sl ([.ref h0]) ++ List.replicate (1 - (lg_sl ([.ref h0])).length) Slot.unset).toArray = ls at hl ⊢
  have hl : lv_has ls 1 [(0, .ref h0)] := hl
  have hj16 : ∀ (sg_j16 : Nat → Int32) (gm_j16 : Nat → Nat → Int32) (_ : KS [5, 49, 50] sg sg_j16) (_ : KS [55, 56, 57, 58, 60, 61] gm gm_j16) (_ : MI sg_j16 gm_j16) (_ : GI0 sg_j16 gm_j16 lg) (_ : MO sg_j16 gm_j16) (H : Heap) (locs : List Loc) (ls : Array Slot), va_P (dC, dI) vwCl (mW h0 ad cid sg_j16 gm_j16 lg) H → va_D A (mW h0 ad cid sg_j16 gm_j16 lg) → va_S A s.heap H locs → lv_has ls 1 [(0, .ref h0)] → W p l e (headSpec wm_X13_close ({ frames := 7, cells := 0, slots := 0, locals := 165 })).room s m ([.ref h0] : List Value).toArray below meth c H locs 0 0 (MQ below (va_Qi (fun r v => ∃ (sg2 : Nat → Int32) (gm2 : Nat → Nat → Int32) (lg2 : Nat → Nat → Int64), v = (sg2, gm2, lg2) ∧ MI sg2 gm2 ∧ KS [5, 49, 50] sg sg2 ∧ KS [55, 56, 57, 58, 60, 61] gm gm2 ∧ KS [] lg lg2 ∧ (GI0 sg2 gm2 lg2) ∧ (MO sg2 gm2)) (MB dC dI h0 ad cid A) A) ([.ref h0] : List Value).toArray s 0 0 A) (F0 m 16 ls []) := by
    intro sg_j16 gm_j16 hks_j16 hkg_j16 hI_j16 hgi hmo H locs ls hP hD hS hl
    refine lv_aload_n hx hb dX13_close_16 rfl (lv_at hl 0 rfl) ?_
    refine mr_get (v := .int (sg_j16 49)) hx hb htb inX13 hown hK hP 49 (by decide) (htb _ kw_823) rfl dX13_close_17 ?_
    exact W.iret (v := (sg_j16 49)) hx hb hr (fun t ht hW => ⟨⟨(sg_j16 49), (sg_j16, gm_j16, lg), rfl, ⟨sg_j16, gm_j16, lg, rfl, hI_j16, (KS_tr (L := [5, 49, 50]) KS_rf hks_j16 (by decide)), (KS_tr (L := [55, 56, 57, 58, 60, 61]) KS_rf hkg_j16 (by decide)), KS_rf, (hgi), (hmo)⟩, by rw [ht]; exact hP, va_K.moved hW.alike hK, hD⟩, hS.F ht⟩) hS.2.2 dX13_close_20
  refine lv_aload_n hx hb dX13_close_0 rfl (lv_at hl 0 rfl) ?_
  refine lv_iconst (v := 0) hx hb dX13_close_1 (by decide) ?_
  refine ma_put (x := 0) hx hb htb inX13 hown hK hP hD hS 5 (by decide) (by decide) (htb _ kw_239) rfl rfl rfl dX13_close_2 (fun sg_1 H locs esg_1 hP hD hS => ?_)
  have hI_sg_1 := MI_put hI esg_1 (iv_k (by decide) : iv 0 0 0) (by decide)
  refine lv_aload_n hx hb dX13_close_5 rfl (lv_at hl 0 rfl) ?_
  refine mr_get (v := .int (sg_1 40)) hx hb htb inX13 hown hK hP 40 (by decide) (htb _ kw_818) rfl dX13_close_6 ?_
  refine lv_topi (fun z_2 ez_2 => ?_)
  obtain rfl : (sg 40) = z_2 := (ez_2.trans (up_ne esg_1 (by decide))).symm
  refine lv_if_eq (tgt := 16) hx hb dX13_close_9 (by decide) (fun c_3 => ?_) (fun c_3 => ?_)
  · have h_4 : iv 0 0 (sg 40) := iv_eq c_3 (show iv 0 1 (sg 40) from MI_s hI 40) (iv_k (by decide) : iv 0 0 0) (by decide)
    exact hj16 sg_1 gm (KS_up KS_rf esg_1 (by decide)) KS_rf hI_sg_1 ((GI0_of hgi (show KS [5] sg sg_1 from (KS_up KS_rf esg_1 (by decide))) (show KS [] gm gm from KS_rf) (show KS [] lg lg from KS_rf) (by decide) (by decide) (by decide) (by decide) (by decide) (by decide))) ((MO_of hmo (show KS [5] sg sg_1 from (KS_up KS_rf esg_1 (by decide))) (show KS [] gm gm from KS_rf) (by decide) (by decide))) _ _ _ hP hD hS (lv_sub hl [0] rfl)
  · have h_5 : iv 1 1 (sg 40) := iv_neL c_3 (show iv 0 1 (sg 40) from MI_s hI 40) (by decide)
    refine lv_aload_n hx hb dX13_close_12 rfl (lv_at hl 0 rfl) ?_
    have hdoc := hdd.resolve_left (by have := i32_0; have := i32_1; have := i32_2; have := i32_m1; have := congrArg Int32.toInt (show sg_1 40 = sg 40 from up_ne esg_1 (by decide)); have := (show iv 0 1 (sg 40) from MI_s hI 40).1; have := (show iv 0 1 (sg 40) from MI_s hI 40).2; have := (h_5).1; have := (h_5).2; omega)
    refine mr_callv (rest := []) ⟨hx, hb, hml, hown, htb⟩ (f_shut l dC dI h0 ad cid sg_1 gm lg hI_sg_1 (DOC_of hdoc (show KS [5] sg sg_1 from (KS_up KS_rf esg_1 (by decide))) (show KS [] gm gm from KS_rf) (show KS [] lg lg from KS_rf) (by decide) (by decide) (by decide) (by decide)) (GI0_of hgi (show KS [5] sg sg_1 from (KS_up KS_rf esg_1 (by decide))) (show KS [] gm gm from KS_rf) (show KS [] lg lg from KS_rf) (by decide) (by decide) (by decide) (by decide) (by decide) (by decide)) (MO_of hmo (show KS [5] sg sg_1 from (KS_up KS_rf esg_1 (by decide))) (show KS [] gm gm from KS_rf) (by decide) (by decide))) (cwV 0 htb (gd_V kw_1263 kw_1264 kw_1265 kw_5 kw_1636) rfl rfl rfl (by decide +kernel) ⟨Nat.le_of_ble_eq_true rfl, Nat.le_of_ble_eq_true rfl⟩) rfl hl.1 rfl (Nat.le_of_ble_eq_true rfl) dX13_close_13 ⟨Nat.zero_le _, Nat.zero_le _⟩ hK hP hD hS hA (fun u_7 H locs hw hP hD hS => ?_)
    obtain ⟨sgv_8, gmv_8, lgv_8, rfl, hIv_8, ksv_8, kgv_8, klv_8, fGI_r_6, fMo_r_6⟩ := hw
    obtain rfl := KS_nil klv_8
    have hP : va_P (dC, dI) vwCl (mW h0 ad cid sgv_8 gmv_8 lg) H := hP
    have hD : va_D A (mW h0 ad cid sgv_8 gmv_8 lg) := hD
    exact hj16 sgv_8 gmv_8 (KS_tr (L := [5, 49, 50]) (KS_up KS_rf esg_1 (by decide)) ksv_8 (by decide)) (KS_tr (L := [55, 56, 57, 58, 60, 61]) KS_rf kgv_8 (by decide)) hIv_8 (fGI_r_6) (fMo_r_6) _ _ _ hP hD hS (lv_sub hl [0] rfl)

set_option maxHeartbeats 4000000 in
set_option maxRecDepth 100000 in
theorem f_bean (l : Launch) (dC : Nat → ClassId) (dI : Nat → Nat → Nat) (h0 : Nat) (ad : Nat → Nat) (cid : Nat → ClassId) (sg : Nat → Int32) (gm : Nat → Nat → Int32) (lg : Nat → Nat → Int64) (k : Int32) (w : Int32) (hI : MI sg gm) (hgi : GI0 sg gm lg) (hPR : PR gm) (hmo : MO sg gm) (hdd : (sg 40).toInt = 0 ∨ DOC sg gm lg) : MMi l dC dI yX13_bean wm_X13_bean ({ frames := 7, cells := 0, slots := 0, locals := 164 }) h0 ad cid [.int k, .int w] sg gm lg (fun r v => ∃ (sg2 : Nat → Int32) (gm2 : Nat → Nat → Int32) (lg2 : Nat → Nat → Int64), v = (sg2, gm2, lg2) ∧ MI sg2 gm2 ∧ KS [5] sg sg2 ∧ KS [] gm gm2 ∧ KS [] lg lg2 ∧ (GI0 sg2 gm2 lg2) ∧ (MO sg2 gm2)) := by
  intro sz
  refine Met.ofW (cc := cX13_bean) (maxL := 4) (ret := (some .int)) (by decide) rfl ?_
  intro p e s m args below meth c s₁ B hml hv
  obtain ⟨rfl, hsz, hP, hK, hD0⟩ := hv
  have hx := B.exec
  have hb := B.bytes
  have hr := B.returns
  have hts := atoms_spec (ws := wm_X13_bean) B.pre
  have htb := fun (w : Cond) (h : w ∈ tb) => hts w (List.mem_cons_of_mem _ h)
  have hown : s.vm.findClass RX13 = some m.cls := findClass_of_methodNamed B.named
  have hlocks := B.notSynchronized
  subst hsz
  have hD := hD0.self (sz := s.heap.size)
  generalize hAe : va_A (mW h0 ad cid sg gm lg) s.heap.size = A at hD ⊢
  have hA : ∀ q : Nat, s.heap.size ≤ q → A q := fun q h => by rw [← hAe]; exact Or.inr h
  have hS : va_S A s.heap s.heap [] := va_S.rf
  have hl := lv_entry ([.ref h0, .int k, .int w]) (n := 4) (Nat.le_of_ble_eq_true rfl)
  rw [lg_entry_eq]
  generalize (lg_sl ([.ref h0, .int k, .int w]) ++ List.replicate (4 - (lg_sl ([.ref h0, .int k, .int w])).length) Slot.unset).toArray = ls at hl ⊢
  have hl : lv_has ls 4 [(0, .ref h0), (1, .int k), (2, .int w)] := hl
  have hj24 : ∀ (sg_j24 : Nat → Int32) (_ : KS [5] sg sg_j24) (_ : MI sg_j24 gm) (H : Heap) (locs : List Loc) (ls : Array Slot), va_P (dC, dI) vwCl (mW h0 ad cid sg_j24 gm lg) H → va_D A (mW h0 ad cid sg_j24 gm lg) → va_S A s.heap H locs → lv_has ls 4 [(0, .ref h0), (1, .int k), (2, .int w)] → W p l e (headSpec wm_X13_bean ({ frames := 7, cells := 0, slots := 0, locals := 164 })).room s m ([.ref h0, .int k, .int w] : List Value).toArray below meth c H locs 0 0 (MQ below (va_Qi (fun r v => ∃ (sg2 : Nat → Int32) (gm2 : Nat → Nat → Int32) (lg2 : Nat → Nat → Int64), v = (sg2, gm2, lg2) ∧ MI sg2 gm2 ∧ KS [5] sg sg2 ∧ KS [] gm gm2 ∧ KS [] lg lg2 ∧ (GI0 sg2 gm2 lg2) ∧ (MO sg2 gm2)) (MB dC dI h0 ad cid A) A) ([.ref h0, .int k, .int w] : List Value).toArray s 0 0 A) (F0 m 24 ls []) := by
    intro sg_j24 hks_j24 hI_j24 H locs ls hP hD hS hl
    refine lv_iconst (v := (-1)) hx hb dX13_bean_24 (by decide) ?_
    exact W.iret (v := (-1)) hx hb hr (fun t ht hW => ⟨⟨(-1), (sg_j24, gm, lg), rfl, ⟨sg_j24, gm, lg, rfl, hI_j24, (KS_tr (L := [5]) KS_rf hks_j24 (by decide)), KS_rf, KS_rf, ((GI0_of hgi (show KS [5] sg sg_j24 from (KS_tr (L := [5]) KS_rf hks_j24 (by decide))) (show KS [] gm gm from KS_rf) (show KS [] lg lg from KS_rf) (by decide) (by decide) (by decide) (by decide) (by decide) (by decide))), ((MO_of hmo (show KS [5] sg sg_j24 from (KS_tr (L := [5]) KS_rf hks_j24 (by decide))) (show KS [] gm gm from KS_rf) (by decide) (by decide)))⟩, by rw [ht]; exact hP, va_K.moved hW.alike hK, hD⟩, hS.F ht⟩) hS.2.2 dX13_bean_25
  have hj162 : ∀ (sg_j162 : Nat → Int32) (x3_162 : Int32) (y0_162 : Int32) (_ : iv 0 79 x3_162) (_ : iv 0 79 k) (_ : iv 7 7 w) (_ : iv 0 1 y0_162) (_ : KS [5] sg sg_j162) (_ : MI sg_j162 gm) (H : Heap) (locs : List Loc) (ls : Array Slot), va_P (dC, dI) vwCl (mW h0 ad cid sg_j162 gm lg) H → va_D A (mW h0 ad cid sg_j162 gm lg) → va_S A s.heap H locs → lv_has ls 4 [(3, .int x3_162), (0, .ref h0), (1, .int k), (2, .int w)] → W p l e (headSpec wm_X13_bean ({ frames := 7, cells := 0, slots := 0, locals := 164 })).room s m ([.ref h0, .int k, .int w] : List Value).toArray below meth c H locs 0 0 (MQ below (va_Qi (fun r v => ∃ (sg2 : Nat → Int32) (gm2 : Nat → Nat → Int32) (lg2 : Nat → Nat → Int64), v = (sg2, gm2, lg2) ∧ MI sg2 gm2 ∧ KS [5] sg sg2 ∧ KS [] gm gm2 ∧ KS [] lg lg2 ∧ (GI0 sg2 gm2 lg2) ∧ (MO sg2 gm2)) (MB dC dI h0 ad cid A) A) ([.ref h0, .int k, .int w] : List Value).toArray s 0 0 A) (F0 m 162 ls [.int y0_162]) := by
    intro sg_j162 x3_162 y0_162 hx3_162 hsx1_162 hsx2_162 hy0_162 hks_j162 hI_j162 H locs ls hP hD hS hl
    exact W.iret (v := y0_162) hx hb hr (fun t ht hW => ⟨⟨y0_162, (sg_j162, gm, lg), rfl, ⟨sg_j162, gm, lg, rfl, hI_j162, (KS_tr (L := [5]) KS_rf hks_j162 (by decide)), KS_rf, KS_rf, ((GI0_of hgi (show KS [5] sg sg_j162 from (KS_tr (L := [5]) KS_rf hks_j162 (by decide))) (show KS [] gm gm from KS_rf) (show KS [] lg lg from KS_rf) (by decide) (by decide) (by decide) (by decide) (by decide) (by decide))), ((MO_of hmo (show KS [5] sg sg_j162 from (KS_tr (L := [5]) KS_rf hks_j162 (by decide))) (show KS [] gm gm from KS_rf) (by decide) (by decide)))⟩, by rw [ht]; exact hP, va_K.moved hW.alike hK, hD⟩, hS.F ht⟩) hS.2.2 dX13_bean_162
  have hj186 : ∀ (sg_j186 : Nat → Int32) (x3_186 : Int32) (y0_186 : Int32) (_ : iv 0 79 x3_186) (_ : iv 0 79 k) (_ : iv 8 8 w) (_ : iv 0 1 y0_186) (_ : KS [5] sg sg_j186) (_ : MI sg_j186 gm) (H : Heap) (locs : List Loc) (ls : Array Slot), va_P (dC, dI) vwCl (mW h0 ad cid sg_j186 gm lg) H → va_D A (mW h0 ad cid sg_j186 gm lg) → va_S A s.heap H locs → lv_has ls 4 [(3, .int x3_186), (0, .ref h0), (1, .int k), (2, .int w)] → W p l e (headSpec wm_X13_bean ({ frames := 7, cells := 0, slots := 0, locals := 164 })).room s m ([.ref h0, .int k, .int w] : List Value).toArray below meth c H locs 0 0 (MQ below (va_Qi (fun r v => ∃ (sg2 : Nat → Int32) (gm2 : Nat → Nat → Int32) (lg2 : Nat → Nat → Int64), v = (sg2, gm2, lg2) ∧ MI sg2 gm2 ∧ KS [5] sg sg2 ∧ KS [] gm gm2 ∧ KS [] lg lg2 ∧ (GI0 sg2 gm2 lg2) ∧ (MO sg2 gm2)) (MB dC dI h0 ad cid A) A) ([.ref h0, .int k, .int w] : List Value).toArray s 0 0 A) (F0 m 186 ls [.int y0_186]) := by
    intro sg_j186 x3_186 y0_186 hx3_186 hsx1_186 hsx2_186 hy0_186 hks_j186 hI_j186 H locs ls hP hD hS hl
    exact W.iret (v := y0_186) hx hb hr (fun t ht hW => ⟨⟨y0_186, (sg_j186, gm, lg), rfl, ⟨sg_j186, gm, lg, rfl, hI_j186, (KS_tr (L := [5]) KS_rf hks_j186 (by decide)), KS_rf, KS_rf, ((GI0_of hgi (show KS [5] sg sg_j186 from (KS_tr (L := [5]) KS_rf hks_j186 (by decide))) (show KS [] gm gm from KS_rf) (show KS [] lg lg from KS_rf) (by decide) (by decide) (by decide) (by decide) (by decide) (by decide))), ((MO_of hmo (show KS [5] sg sg_j186 from (KS_tr (L := [5]) KS_rf hks_j186 (by decide))) (show KS [] gm gm from KS_rf) (by decide) (by decide)))⟩, by rw [ht]; exact hP, va_K.moved hW.alike hK, hD⟩, hS.F ht⟩) hS.2.2 dX13_bean_186
  have hj210 : ∀ (sg_j210 : Nat → Int32) (x3_210 : Int32) (y0_210 : Int32) (_ : iv 0 79 x3_210) (_ : iv 0 79 k) (_ : iv 9 9 w) (_ : iv 0 1 y0_210) (_ : KS [5] sg sg_j210) (_ : MI sg_j210 gm) (H : Heap) (locs : List Loc) (ls : Array Slot), va_P (dC, dI) vwCl (mW h0 ad cid sg_j210 gm lg) H → va_D A (mW h0 ad cid sg_j210 gm lg) → va_S A s.heap H locs → lv_has ls 4 [(3, .int x3_210), (0, .ref h0), (1, .int k), (2, .int w)] → W p l e (headSpec wm_X13_bean ({ frames := 7, cells := 0, slots := 0, locals := 164 })).room s m ([.ref h0, .int k, .int w] : List Value).toArray below meth c H locs 0 0 (MQ below (va_Qi (fun r v => ∃ (sg2 : Nat → Int32) (gm2 : Nat → Nat → Int32) (lg2 : Nat → Nat → Int64), v = (sg2, gm2, lg2) ∧ MI sg2 gm2 ∧ KS [5] sg sg2 ∧ KS [] gm gm2 ∧ KS [] lg lg2 ∧ (GI0 sg2 gm2 lg2) ∧ (MO sg2 gm2)) (MB dC dI h0 ad cid A) A) ([.ref h0, .int k, .int w] : List Value).toArray s 0 0 A) (F0 m 210 ls [.int y0_210]) := by
    intro sg_j210 x3_210 y0_210 hx3_210 hsx1_210 hsx2_210 hy0_210 hks_j210 hI_j210 H locs ls hP hD hS hl
    exact W.iret (v := y0_210) hx hb hr (fun t ht hW => ⟨⟨y0_210, (sg_j210, gm, lg), rfl, ⟨sg_j210, gm, lg, rfl, hI_j210, (KS_tr (L := [5]) KS_rf hks_j210 (by decide)), KS_rf, KS_rf, ((GI0_of hgi (show KS [5] sg sg_j210 from (KS_tr (L := [5]) KS_rf hks_j210 (by decide))) (show KS [] gm gm from KS_rf) (show KS [] lg lg from KS_rf) (by decide) (by decide) (by decide) (by decide) (by decide) (by decide))), ((MO_of hmo (show KS [5] sg sg_j210 from (KS_tr (L := [5]) KS_rf hks_j210 (by decide))) (show KS [] gm gm from KS_rf) (by decide) (by decide)))⟩, by rw [ht]; exact hP, va_K.moved hW.alike hK, hD⟩, hS.F ht⟩) hS.2.2 dX13_bean_210
  have hj225 : ∀ (sg_j225 : Nat → Int32) (x3_225 : Int32) (y0_225 : Int32) (_ : iv 0 79 x3_225) (_ : iv 0 79 k) (_ : iv 10 10 w) (_ : iv 0 1 y0_225) (_ : KS [5] sg sg_j225) (_ : MI sg_j225 gm) (H : Heap) (locs : List Loc) (ls : Array Slot), va_P (dC, dI) vwCl (mW h0 ad cid sg_j225 gm lg) H → va_D A (mW h0 ad cid sg_j225 gm lg) → va_S A s.heap H locs → lv_has ls 4 [(3, .int x3_225), (0, .ref h0), (1, .int k), (2, .int w)] → W p l e (headSpec wm_X13_bean ({ frames := 7, cells := 0, slots := 0, locals := 164 })).room s m ([.ref h0, .int k, .int w] : List Value).toArray below meth c H locs 0 0 (MQ below (va_Qi (fun r v => ∃ (sg2 : Nat → Int32) (gm2 : Nat → Nat → Int32) (lg2 : Nat → Nat → Int64), v = (sg2, gm2, lg2) ∧ MI sg2 gm2 ∧ KS [5] sg sg2 ∧ KS [] gm gm2 ∧ KS [] lg lg2 ∧ (GI0 sg2 gm2 lg2) ∧ (MO sg2 gm2)) (MB dC dI h0 ad cid A) A) ([.ref h0, .int k, .int w] : List Value).toArray s 0 0 A) (F0 m 225 ls [.int y0_225]) := by
    intro sg_j225 x3_225 y0_225 hx3_225 hsx1_225 hsx2_225 hy0_225 hks_j225 hI_j225 H locs ls hP hD hS hl
    exact W.iret (v := y0_225) hx hb hr (fun t ht hW => ⟨⟨y0_225, (sg_j225, gm, lg), rfl, ⟨sg_j225, gm, lg, rfl, hI_j225, (KS_tr (L := [5]) KS_rf hks_j225 (by decide)), KS_rf, KS_rf, ((GI0_of hgi (show KS [5] sg sg_j225 from (KS_tr (L := [5]) KS_rf hks_j225 (by decide))) (show KS [] gm gm from KS_rf) (show KS [] lg lg from KS_rf) (by decide) (by decide) (by decide) (by decide) (by decide) (by decide))), ((MO_of hmo (show KS [5] sg sg_j225 from (KS_tr (L := [5]) KS_rf hks_j225 (by decide))) (show KS [] gm gm from KS_rf) (by decide) (by decide)))⟩, by rw [ht]; exact hP, va_K.moved hW.alike hK, hD⟩, hS.F ht⟩) hS.2.2 dX13_bean_225
  refine lv_aload_n hx hb dX13_bean_0 rfl (lv_at hl 0 rfl) ?_
  refine lv_iconst (v := 0) hx hb dX13_bean_1 (by decide) ?_
  refine ma_put (x := 0) hx hb htb inX13 hown hK hP hD hS 5 (by decide) (by decide) (htb _ kw_239) rfl rfl rfl dX13_bean_2 (fun sg_1 H locs esg_1 hP hD hS => ?_)
  have hI_sg_1 := MI_put hI esg_1 (iv_k (by decide) : iv 0 0 0) (by decide)
  refine lv_iload_n hx hb dX13_bean_5 rfl (lv_at hl 1 rfl) ?_
  refine lv_if_lt (tgt := 24) hx hb dX13_bean_6 (by decide) (fun c_2 => ?_) (fun c_2 => ?_)
  · have h_3 : iv (-2147483648) (-1) k := iv_ltL c_2 (iv_all k) (iv_k (by decide) : iv 0 0 0) (by decide)
    exact hj24 sg_1 (KS_up KS_rf esg_1 (by decide)) hI_sg_1 _ _ _ hP hD hS (lv_sub hl [0, 1, 2] rfl)
  · have h_4 : iv 0 2147483647 k := iv_leR (i32_ge c_2) (iv_k (by decide) : iv 0 0 0) (iv_all k) (by decide)
    refine lv_iload_n hx hb dX13_bean_9 rfl (lv_at hl 1 rfl) ?_
    refine lv_aload_n hx hb dX13_bean_10 rfl (lv_at hl 0 rfl) ?_
    refine mr_get (v := .int (sg_1 41)) hx hb htb inX13 hown hK hP 41 (by decide) (htb _ kw_817) rfl dX13_bean_11 ?_
    refine lv_topi (fun z_5 ez_5 => ?_)
    obtain rfl : (sg 41) = z_5 := (ez_5.trans (up_ne esg_1 (by decide))).symm
    refine lv_icmp_ge (tgt := 24) hx hb dX13_bean_14 (by decide) (fun c_6 => ?_) (fun c_6 => ?_)
    · have d_7 : ((sg 41) : Int32).toInt ≤ (k : Int32).toInt := Int32.le_iff_toInt_le.mp c_6
      exact hj24 sg_1 (KS_up KS_rf esg_1 (by decide)) hI_sg_1 _ _ _ hP hD hS (lv_sub hl [0, 1, 2] rfl)
    · have d_8 : (k : Int32).toInt < ((sg 41) : Int32).toInt := Int32.lt_iff_toInt_lt.mp (i32_lt c_6)
      have h_9 : iv 0 79 k := iv_ltL (i32_lt c_6) h_4 (show iv 0 80 (sg 41) from MI_s hI 41) (by decide)
      have h_10 : iv 1 80 (sg 41) := iv_ltR (i32_lt c_6) h_4 (show iv 0 80 (sg 41) from MI_s hI 41) (by decide)
      refine lv_aload_n hx hb dX13_bean_17 rfl (lv_at hl 0 rfl) ?_
      refine mr_get (v := .int (sg_1 40)) hx hb htb inX13 hown hK hP 40 (by decide) (htb _ kw_818) rfl dX13_bean_18 ?_
      refine lv_topi (fun z_11 ez_11 => ?_)
      obtain rfl : (sg 40) = z_11 := (ez_11.trans (up_ne esg_1 (by decide))).symm
      refine lv_if_ne (tgt := 26) hx hb dX13_bean_21 (by decide) (fun c_12 => ?_) (fun c_12 => ?_)
      · have h_13 : iv 1 1 (sg 40) := iv_neL c_12 (show iv 0 1 (sg 40) from MI_s hI 40) (by decide)
        have hdoc := hdd.resolve_left (by have := i32_0; have := i32_1; have := i32_2; have := i32_m1; have := congrArg Int32.toInt (show sg_1 40 = sg 40 from up_ne esg_1 (by decide)); have := (show iv 0 1 (sg 40) from MI_s hI 40).1; have := (show iv 0 1 (sg 40) from MI_s hI 40).2; have := (h_9).1; have := (h_9).2; have := (h_10).1; have := (h_10).2; have := (h_13).1; have := (h_13).2; omega)
        refine lv_aload_n hx hb dX13_bean_26 rfl (lv_at hl 0 rfl) ?_
        refine mr_get (v := .ref (ad 42)) hx hb htb inX13 hown hK hP 42 (by decide) (htb _ kw_196) rfl dX13_bean_27 ?_
        refine lv_iload_n hx hb dX13_bean_30 rfl (lv_at hl 1 rfl) ?_
        refine mr_iald hx hb hK hP 33 (k := 42) rfl rfl rfl (show vp_in k 80 from (iv_in h_9 (by decide))) dX13_bean_31 ?_
        refine lv_topi (fun z_14 ez_14 => ?_)
        have hz_14 : iv 0 79 z_14 := iv_of ez_14 (MI_a hI_sg_1 42 h_9 (by decide))
        refine lv_istore_n (lv' := [(3, .int z_14), (0, .ref h0), (1, .int k), (2, .int w)]) hx hb dX13_bean_32 rfl hl (by decide) rfl (fun ls hl => ?_)
        refine lv_iload_n hx hb dX13_bean_33 rfl (lv_at hl 3 rfl) ?_
        by_cases c_15 : (w : Int32).toInt = 0
        · refine lv_tableIn (tgt := 96) hx hb dX13_bean_34 (by rw [c_15]; decide) (by rw [c_15]; decide) (by rw [c_15]; rfl) (by decide) ?_
          have h_16 : iv 0 0 w := iv_at c_15
          refine lv_aload_n hx hb dX13_bean_96 rfl (lv_at hl 1 rfl) ?_
          refine lv_iload_n hx hb dX13_bean_97 rfl (lv_at hl 2 rfl) ?_
          refine mr_calli (rest := []) ⟨hx, hb, hml, hown, htb⟩ (a_classOf l dC dI h0 ad cid sg_1 gm lg k hI_sg_1 (iv_w h_9 (by decide)) (by have := i32_0; have := i32_1; have := i32_2; have := i32_m1; have := congrArg Int32.toInt (show sg_1 41 = sg 41 from up_ne esg_1 (by decide)); have := (show iv 0 80 (sg 41) from MI_s hI 41).1; have := (show iv 0 80 (sg 41) from MI_s hI 41).2; have := (h_9).1; have := (h_9).2; have := (h_10).1; have := (h_10).2; have := (h_13).1; have := (h_13).2; have := (hz_14).1; have := (hz_14).2; have := (h_16).1; have := (h_16).2; omega) ((DOC_of hdoc (show KS [5] sg sg_1 from (KS_up KS_rf esg_1 (by decide))) (show KS [] gm gm from KS_rf) (show KS [] lg lg from KS_rf) (by decide) (by decide) (by decide) (by decide)).1.2.2.2)) (cwV 1 htb (gd_V kw_1207 kw_1208 kw_1209 kw_5 kw_1619) rfl rfl rfl (by decide +kernel) ⟨Nat.le_of_ble_eq_true rfl, Nat.le_of_ble_eq_true rfl⟩) rfl hl.1 rfl (Nat.le_of_ble_eq_true rfl) dX13_bean_98 ⟨Nat.zero_le _, Nat.zero_le _⟩ hK hP hD hS hA (fun r_17 u_18 H locs hw hP hD hS => ?_)
          obtain ⟨hr_17, rfl⟩ := hw
          have hP : va_P (dC, dI) vwCl (mW h0 ad cid sg_1 gm lg) H := hP
          have hD : va_D A (mW h0 ad cid sg_1 gm lg) := hD
          exact W.iret (v := r_17) hx hb hr (fun t ht hW => ⟨⟨r_17, (sg_1, gm, lg), rfl, ⟨sg_1, gm, lg, rfl, hI_sg_1, (KS_up KS_rf esg_1 (by decide)), KS_rf, KS_rf, ((GI0_of hgi (show KS [5] sg sg_1 from (KS_up KS_rf esg_1 (by decide))) (show KS [] gm gm from KS_rf) (show KS [] lg lg from KS_rf) (by decide) (by decide) (by decide) (by decide) (by decide) (by decide))), ((MO_of hmo (show KS [5] sg sg_1 from (KS_up KS_rf esg_1 (by decide))) (show KS [] gm gm from KS_rf) (by decide) (by decide)))⟩, by rw [ht]; exact hP, va_K.moved hW.alike hK, hD⟩, hS.F ht⟩) hS.2.2 dX13_bean_101
        by_cases c_19 : (w : Int32).toInt = 1
        · refine lv_tableIn (tgt := 102) hx hb dX13_bean_34 (by rw [c_19]; decide) (by rw [c_19]; decide) (by rw [c_19]; rfl) (by decide) ?_
          have h_20 : iv 1 1 w := iv_at c_19
          refine lv_aload_n hx hb dX13_bean_102 rfl (lv_at hl 1 rfl) ?_
          refine lv_iload_n hx hb dX13_bean_103 rfl (lv_at hl 2 rfl) ?_
          refine mr_calli (rest := []) ⟨hx, hb, hml, hown, htb⟩ (f_args l dC dI h0 ad cid sg_1 gm lg k hI_sg_1 h_9 (by have := i32_0; have := i32_1; have := i32_2; have := i32_m1; have := congrArg Int32.toInt (show sg_1 41 = sg 41 from up_ne esg_1 (by decide)); have := (show iv 0 80 (sg 41) from MI_s hI 41).1; have := (show iv 0 80 (sg 41) from MI_s hI 41).2; have := (h_9).1; have := (h_9).2; have := (h_10).1; have := (h_10).2; have := (h_13).1; have := (h_13).2; have := (hz_14).1; have := (hz_14).2; have := (h_20).1; have := (h_20).2; omega) ((DOC_of hdoc (show KS [5] sg sg_1 from (KS_up KS_rf esg_1 (by decide))) (show KS [] gm gm from KS_rf) (show KS [] lg lg from KS_rf) (by decide) (by decide) (by decide) (by decide)).1.2.2.2) ((DOC_of hdoc (show KS [5] sg sg_1 from (KS_up KS_rf esg_1 (by decide))) (show KS [] gm gm from KS_rf) (show KS [] lg lg from KS_rf) (by decide) (by decide) (by decide) (by decide)).1.2.1)) (cwV 1 htb (gd_V kw_1189 kw_1190 kw_1191 kw_5 kw_1613) rfl rfl rfl (by decide +kernel) ⟨Nat.le_of_ble_eq_true rfl, Nat.le_of_ble_eq_true rfl⟩) rfl hl.1 rfl (Nat.le_of_ble_eq_true rfl) dX13_bean_104 ⟨Nat.zero_le _, Nat.zero_le _⟩ hK hP hD hS hA (fun r_21 u_22 H locs hw hP hD hS => ?_)
          obtain ⟨hr_21, fAa_r_21, fAz_r_21, rfl⟩ := hw
          have hP : va_P (dC, dI) vwCl (mW h0 ad cid sg_1 gm lg) H := hP
          have hD : va_D A (mW h0 ad cid sg_1 gm lg) := hD
          exact W.iret (v := r_21) hx hb hr (fun t ht hW => ⟨⟨r_21, (sg_1, gm, lg), rfl, ⟨sg_1, gm, lg, rfl, hI_sg_1, (KS_up KS_rf esg_1 (by decide)), KS_rf, KS_rf, ((GI0_of hgi (show KS [5] sg sg_1 from (KS_up KS_rf esg_1 (by decide))) (show KS [] gm gm from KS_rf) (show KS [] lg lg from KS_rf) (by decide) (by decide) (by decide) (by decide) (by decide) (by decide))), ((MO_of hmo (show KS [5] sg sg_1 from (KS_up KS_rf esg_1 (by decide))) (show KS [] gm gm from KS_rf) (by decide) (by decide)))⟩, by rw [ht]; exact hP, va_K.moved hW.alike hK, hD⟩, hS.F ht⟩) hS.2.2 dX13_bean_107
        by_cases c_23 : (w : Int32).toInt = 2
        · refine lv_tableIn (tgt := 108) hx hb dX13_bean_34 (by rw [c_23]; decide) (by rw [c_23]; decide) (by rw [c_23]; rfl) (by decide) ?_
          have h_24 : iv 2 2 w := iv_at c_23
          refine lv_aload_n hx hb dX13_bean_108 rfl (lv_at hl 1 rfl) ?_
          refine mr_get (v := .ref (ad 44)) hx hb htb inX13 hown hK hP 44 (by decide) (htb _ kw_198) rfl dX13_bean_109 ?_
          refine lv_iload_n hx hb dX13_bean_112 rfl (lv_at hl 2 rfl) ?_
          refine mr_iald hx hb hK hP 35 (k := 44) rfl rfl rfl (show vp_in k 80 from (iv_in h_9 (by decide))) dX13_bean_113 ?_
          refine lv_topi (fun z_25 ez_25 => ?_)
          have hz_25 : iv 0 26 z_25 := iv_of ez_25 (MI_a hI_sg_1 44 h_9 (by decide))
          exact W.iret (v := z_25) hx hb hr (fun t ht hW => ⟨⟨z_25, (sg_1, gm, lg), rfl, ⟨sg_1, gm, lg, rfl, hI_sg_1, (KS_up KS_rf esg_1 (by decide)), KS_rf, KS_rf, ((GI0_of hgi (show KS [5] sg sg_1 from (KS_up KS_rf esg_1 (by decide))) (show KS [] gm gm from KS_rf) (show KS [] lg lg from KS_rf) (by decide) (by decide) (by decide) (by decide) (by decide) (by decide))), ((MO_of hmo (show KS [5] sg sg_1 from (KS_up KS_rf esg_1 (by decide))) (show KS [] gm gm from KS_rf) (by decide) (by decide)))⟩, by rw [ht]; exact hP, va_K.moved hW.alike hK, hD⟩, hS.F ht⟩) hS.2.2 dX13_bean_114
        by_cases c_26 : (w : Int32).toInt = 3
        · refine lv_tableIn (tgt := 115) hx hb dX13_bean_34 (by rw [c_26]; decide) (by rw [c_26]; decide) (by rw [c_26]; rfl) (by decide) ?_
          have h_27 : iv 3 3 w := iv_at c_26
          refine lv_aload_n hx hb dX13_bean_115 rfl (lv_at hl 1 rfl) ?_
          refine mr_get (v := .ref (ad 46)) hx hb htb inX13 hown hK hP 46 (by decide) (htb _ kw_200) rfl dX13_bean_116 ?_
          refine lv_iload_n hx hb dX13_bean_119 rfl (lv_at hl 2 rfl) ?_
          refine mr_iald hx hb hK hP 37 (k := 46) rfl rfl rfl (show vp_in k 80 from (iv_in h_9 (by decide))) dX13_bean_120 ?_
          refine lv_topi (fun z_28 ez_28 => ?_)
          have hz_28 : iv 0 26 z_28 := iv_of ez_28 (MI_a hI_sg_1 46 h_9 (by decide))
          exact W.iret (v := z_28) hx hb hr (fun t ht hW => ⟨⟨z_28, (sg_1, gm, lg), rfl, ⟨sg_1, gm, lg, rfl, hI_sg_1, (KS_up KS_rf esg_1 (by decide)), KS_rf, KS_rf, ((GI0_of hgi (show KS [5] sg sg_1 from (KS_up KS_rf esg_1 (by decide))) (show KS [] gm gm from KS_rf) (show KS [] lg lg from KS_rf) (by decide) (by decide) (by decide) (by decide) (by decide) (by decide))), ((MO_of hmo (show KS [5] sg sg_1 from (KS_up KS_rf esg_1 (by decide))) (show KS [] gm gm from KS_rf) (by decide) (by decide)))⟩, by rw [ht]; exact hP, va_K.moved hW.alike hK, hD⟩, hS.F ht⟩) hS.2.2 dX13_bean_121
        by_cases c_29 : (w : Int32).toInt = 4
        · refine lv_tableIn (tgt := 122) hx hb dX13_bean_34 (by rw [c_29]; decide) (by rw [c_29]; decide) (by rw [c_29]; rfl) (by decide) ?_
          have h_30 : iv 4 4 w := iv_at c_29
          refine lv_aload_n hx hb dX13_bean_122 rfl (lv_at hl 1 rfl) ?_
          refine lv_iload_n hx hb dX13_bean_123 rfl (lv_at hl 2 rfl) ?_
          refine lv_ldc2 (own := RX13) (v := 120282512125796) hx hb hown (htb _ kw_906) dX13_bean_124 ?_
          refine mr_calli (rest := []) ⟨hx, hb, hml, hown, htb⟩ (a_letter l dC dI h0 ad cid sg_1 gm lg k 120282512125796 hI_sg_1 (iv_w h_9 (by decide)) (by have := i32_0; have := i32_1; have := i32_2; have := i32_m1; have := congrArg Int32.toInt (show sg_1 41 = sg 41 from up_ne esg_1 (by decide)); have := (show iv 0 80 (sg 41) from MI_s hI 41).1; have := (show iv 0 80 (sg 41) from MI_s hI 41).2; have := (h_9).1; have := (h_9).2; have := (h_10).1; have := (h_10).2; have := (h_13).1; have := (h_13).2; have := (hz_14).1; have := (hz_14).2; have := (h_30).1; have := (h_30).2; omega) ((DOC_of hdoc (show KS [5] sg sg_1 from (KS_up KS_rf esg_1 (by decide))) (show KS [] gm gm from KS_rf) (show KS [] lg lg from KS_rf) (by decide) (by decide) (by decide) (by decide)).1.2.2.2)) (cwV 2 htb (gd_V kw_1204 kw_1205 kw_1206 kw_5 kw_1618) rfl rfl rfl (by decide +kernel) ⟨Nat.le_of_ble_eq_true rfl, Nat.le_of_ble_eq_true rfl⟩) rfl hl.1 rfl (Nat.le_of_ble_eq_true rfl) dX13_bean_127 ⟨Nat.zero_le _, Nat.zero_le _⟩ hK hP hD hS hA (fun r_31 u_32 H locs hw hP hD hS => ?_)
          obtain rfl := hw
          have hP : va_P (dC, dI) vwCl (mW h0 ad cid sg_1 gm lg) H := hP
          have hD : va_D A (mW h0 ad cid sg_1 gm lg) := hD
          exact W.iret (v := r_31) hx hb hr (fun t ht hW => ⟨⟨r_31, (sg_1, gm, lg), rfl, ⟨sg_1, gm, lg, rfl, hI_sg_1, (KS_up KS_rf esg_1 (by decide)), KS_rf, KS_rf, ((GI0_of hgi (show KS [5] sg sg_1 from (KS_up KS_rf esg_1 (by decide))) (show KS [] gm gm from KS_rf) (show KS [] lg lg from KS_rf) (by decide) (by decide) (by decide) (by decide) (by decide) (by decide))), ((MO_of hmo (show KS [5] sg sg_1 from (KS_up KS_rf esg_1 (by decide))) (show KS [] gm gm from KS_rf) (by decide) (by decide)))⟩, by rw [ht]; exact hP, va_K.moved hW.alike hK, hD⟩, hS.F ht⟩) hS.2.2 dX13_bean_130
        by_cases c_33 : (w : Int32).toInt = 5
        · refine lv_tableIn (tgt := 131) hx hb dX13_bean_34 (by rw [c_33]; decide) (by rw [c_33]; decide) (by rw [c_33]; rfl) (by decide) ?_
          have h_34 : iv 5 5 w := iv_at c_33
          refine lv_aload_n hx hb dX13_bean_131 rfl (lv_at hl 1 rfl) ?_
          refine lv_iload_n hx hb dX13_bean_132 rfl (lv_at hl 2 rfl) ?_
          refine lv_ldc2 (own := RX13) (v := 1768843636) hx hb hown (htb _ kw_907) dX13_bean_133 ?_
          refine mr_calli (rest := []) ⟨hx, hb, hml, hown, htb⟩ (a_letter l dC dI h0 ad cid sg_1 gm lg k 1768843636 hI_sg_1 (iv_w h_9 (by decide)) (by have := i32_0; have := i32_1; have := i32_2; have := i32_m1; have := congrArg Int32.toInt (show sg_1 41 = sg 41 from up_ne esg_1 (by decide)); have := (show iv 0 80 (sg 41) from MI_s hI 41).1; have := (show iv 0 80 (sg 41) from MI_s hI 41).2; have := (h_9).1; have := (h_9).2; have := (h_10).1; have := (h_10).2; have := (h_13).1; have := (h_13).2; have := (hz_14).1; have := (hz_14).2; have := (h_34).1; have := (h_34).2; omega) ((DOC_of hdoc (show KS [5] sg sg_1 from (KS_up KS_rf esg_1 (by decide))) (show KS [] gm gm from KS_rf) (show KS [] lg lg from KS_rf) (by decide) (by decide) (by decide) (by decide)).1.2.2.2)) (cwV 2 htb (gd_V kw_1204 kw_1205 kw_1206 kw_5 kw_1618) rfl rfl rfl (by decide +kernel) ⟨Nat.le_of_ble_eq_true rfl, Nat.le_of_ble_eq_true rfl⟩) rfl hl.1 rfl (Nat.le_of_ble_eq_true rfl) dX13_bean_136 ⟨Nat.zero_le _, Nat.zero_le _⟩ hK hP hD hS hA (fun r_35 u_36 H locs hw hP hD hS => ?_)
          obtain rfl := hw
          have hP : va_P (dC, dI) vwCl (mW h0 ad cid sg_1 gm lg) H := hP
          have hD : va_D A (mW h0 ad cid sg_1 gm lg) := hD
          exact W.iret (v := r_35) hx hb hr (fun t ht hW => ⟨⟨r_35, (sg_1, gm, lg), rfl, ⟨sg_1, gm, lg, rfl, hI_sg_1, (KS_up KS_rf esg_1 (by decide)), KS_rf, KS_rf, ((GI0_of hgi (show KS [5] sg sg_1 from (KS_up KS_rf esg_1 (by decide))) (show KS [] gm gm from KS_rf) (show KS [] lg lg from KS_rf) (by decide) (by decide) (by decide) (by decide) (by decide) (by decide))), ((MO_of hmo (show KS [5] sg sg_1 from (KS_up KS_rf esg_1 (by decide))) (show KS [] gm gm from KS_rf) (by decide) (by decide)))⟩, by rw [ht]; exact hP, va_K.moved hW.alike hK, hD⟩, hS.F ht⟩) hS.2.2 dX13_bean_139
        by_cases c_37 : (w : Int32).toInt = 6
        · refine lv_tableIn (tgt := 140) hx hb dX13_bean_34 (by rw [c_37]; decide) (by rw [c_37]; decide) (by rw [c_37]; rfl) (by decide) ?_
          have h_38 : iv 6 6 w := iv_at c_37
          refine lv_aload_n hx hb dX13_bean_140 rfl (lv_at hl 1 rfl) ?_
          refine lv_iload_n hx hb dX13_bean_141 rfl (lv_at hl 2 rfl) ?_
          refine lv_ldc2 (own := RX13) (v := 28259044220366713) hx hb hown (htb _ kw_908) dX13_bean_142 ?_
          refine mr_calli (rest := []) ⟨hx, hb, hml, hown, htb⟩ (a_letter l dC dI h0 ad cid sg_1 gm lg k 28259044220366713 hI_sg_1 (iv_w h_9 (by decide)) (by have := i32_0; have := i32_1; have := i32_2; have := i32_m1; have := congrArg Int32.toInt (show sg_1 41 = sg 41 from up_ne esg_1 (by decide)); have := (show iv 0 80 (sg 41) from MI_s hI 41).1; have := (show iv 0 80 (sg 41) from MI_s hI 41).2; have := (h_9).1; have := (h_9).2; have := (h_10).1; have := (h_10).2; have := (h_13).1; have := (h_13).2; have := (hz_14).1; have := (hz_14).2; have := (h_38).1; have := (h_38).2; omega) ((DOC_of hdoc (show KS [5] sg sg_1 from (KS_up KS_rf esg_1 (by decide))) (show KS [] gm gm from KS_rf) (show KS [] lg lg from KS_rf) (by decide) (by decide) (by decide) (by decide)).1.2.2.2)) (cwV 2 htb (gd_V kw_1204 kw_1205 kw_1206 kw_5 kw_1618) rfl rfl rfl (by decide +kernel) ⟨Nat.le_of_ble_eq_true rfl, Nat.le_of_ble_eq_true rfl⟩) rfl hl.1 rfl (Nat.le_of_ble_eq_true rfl) dX13_bean_145 ⟨Nat.zero_le _, Nat.zero_le _⟩ hK hP hD hS hA (fun r_39 u_40 H locs hw hP hD hS => ?_)
          obtain rfl := hw
          have hP : va_P (dC, dI) vwCl (mW h0 ad cid sg_1 gm lg) H := hP
          have hD : va_D A (mW h0 ad cid sg_1 gm lg) := hD
          exact W.iret (v := r_39) hx hb hr (fun t ht hW => ⟨⟨r_39, (sg_1, gm, lg), rfl, ⟨sg_1, gm, lg, rfl, hI_sg_1, (KS_up KS_rf esg_1 (by decide)), KS_rf, KS_rf, ((GI0_of hgi (show KS [5] sg sg_1 from (KS_up KS_rf esg_1 (by decide))) (show KS [] gm gm from KS_rf) (show KS [] lg lg from KS_rf) (by decide) (by decide) (by decide) (by decide) (by decide) (by decide))), ((MO_of hmo (show KS [5] sg sg_1 from (KS_up KS_rf esg_1 (by decide))) (show KS [] gm gm from KS_rf) (by decide) (by decide)))⟩, by rw [ht]; exact hP, va_K.moved hW.alike hK, hD⟩, hS.F ht⟩) hS.2.2 dX13_bean_148
        by_cases c_41 : (w : Int32).toInt = 7
        · refine lv_tableIn (tgt := 149) hx hb dX13_bean_34 (by rw [c_41]; decide) (by rw [c_41]; decide) (by rw [c_41]; rfl) (by decide) ?_
          have h_42 : iv 7 7 w := iv_at c_41
          refine lv_aload_n hx hb dX13_bean_149 rfl (lv_at hl 1 rfl) ?_
          refine lv_iload_n hx hb dX13_bean_150 rfl (lv_at hl 2 rfl) ?_
          refine mr_calli (rest := []) ⟨hx, hb, hml, hown, htb⟩ (a_isAbstract l dC dI h0 ad cid sg_1 gm lg k hI_sg_1 h_9) (cwV 1 htb (gd_V kw_1151 kw_1152 kw_1153 kw_5 kw_1601) rfl rfl rfl (by decide +kernel) ⟨Nat.le_of_ble_eq_true rfl, Nat.le_of_ble_eq_true rfl⟩) rfl hl.1 rfl (Nat.le_of_ble_eq_true rfl) dX13_bean_151 ⟨Nat.zero_le _, Nat.zero_le _⟩ hK hP hD hS hA (fun r_43 u_44 H locs hw hP hD hS => ?_)
          obtain ⟨hr_43, rfl⟩ := hw
          have hP : va_P (dC, dI) vwCl (mW h0 ad cid sg_1 gm lg) H := hP
          have hD : va_D A (mW h0 ad cid sg_1 gm lg) := hD
          refine lv_if_eq (tgt := 161) hx hb dX13_bean_154 (by decide) (fun c_45 => ?_) (fun c_45 => ?_)
          · have h_46 : iv 0 0 r_43 := iv_eq c_45 hr_43 (iv_k (by decide) : iv 0 0 0) (by decide)
            refine lv_iconst (v := 0) hx hb dX13_bean_161 (by decide) ?_
            exact hj162 sg_1 z_14 0 hz_14 h_9 h_42 (iv_w (iv_k (by decide) : iv 0 0 0) (by decide)) (KS_up KS_rf esg_1 (by decide)) hI_sg_1 _ _ _ hP hD hS (lv_sub hl [0, 1, 2, 3] rfl)
          · have h_47 : iv 1 1 r_43 := iv_neL c_45 hr_43 (by decide)
            refine lv_iconst (v := 1) hx hb dX13_bean_157 (by decide) ?_
            refine lv_goto (tgt := 162) hx hb dX13_bean_158 (by decide) ?_
            exact hj162 sg_1 z_14 1 hz_14 h_9 h_42 (iv_w (iv_k (by decide) : iv 1 1 1) (by decide)) (KS_up KS_rf esg_1 (by decide)) hI_sg_1 _ _ _ hP hD hS (lv_sub hl [0, 1, 2, 3] rfl)
        by_cases c_48 : (w : Int32).toInt = 8
        · refine lv_tableIn (tgt := 163) hx hb dX13_bean_34 (by rw [c_48]; decide) (by rw [c_48]; decide) (by rw [c_48]; rfl) (by decide) ?_
          have h_49 : iv 8 8 w := iv_at c_48
          refine lv_aload_n hx hb dX13_bean_163 rfl (lv_at hl 1 rfl) ?_
          refine lv_iload_n hx hb dX13_bean_164 rfl (lv_at hl 0 rfl) ?_
          refine lv_ldc2 (own := RX13) (v := 495589486693) hx hb hown (htb _ kw_903) dX13_bean_165 ?_
          refine mr_calll (rest := []) ⟨hx, hb, hml, hown, htb⟩ (f_word l dC dI h0 ad cid sg_1 gm lg z_14 495589486693 hI_sg_1 hz_14) (cwV 2 htb (gd_V kw_923 kw_924 kw_925 kw_5 kw_1545) rfl rfl rfl (by decide +kernel) ⟨Nat.le_of_ble_eq_true rfl, Nat.le_of_ble_eq_true rfl⟩) rfl hl.1 rfl (Nat.le_of_ble_eq_true rfl) dX13_bean_168 ⟨Nat.zero_le _, Nat.zero_le _⟩ hK hP hD hS hA (fun r_50 u_51 H locs hw hP hD hS => ?_)
          obtain ⟨fW_r_50, rfl⟩ := hw
          have hP : va_P (dC, dI) vwCl (mW h0 ad cid sg_1 gm lg) H := hP
          have hD : va_D A (mW h0 ad cid sg_1 gm lg) := hD
          refine lv_aload_n hx hb dX13_bean_171 rfl (lv_at hl 1 rfl) ?_
          refine mr_get (v := .ref (ad 1)) hx hb htb inX13 hown hK hP 1 (by decide) (htb _ kw_156) rfl dX13_bean_172 ?_
          refine lv_iconst (v := 3) hx hb dX13_bean_175 (by decide) ?_
          refine mr_lald hx hb hK hP 1 (k := 1) rfl rfl rfl (show vp_in 3 11 from (iv_in (iv_k (by decide) : iv 3 3 3) (by decide))) dX13_bean_176 ?_
          refine lv_topl (fun z_52 ez_52 => ?_)
          refine W.lcmp hx hb dX13_bean_177 ?_
          refine lv_topi (fun z_53 ez_53 => ?_)
          have hz_53 : iv (-1) 1 z_53 := iv_of ez_53 (iv_cmp _ _)
          refine lv_if_ne (tgt := 185) hx hb dX13_bean_178 (by decide) (fun c_54 => ?_) (fun c_54 => ?_)
          · have d_55 : ¬ (z_53 : Int32).toInt = 0 := lv_neT c_54 rfl
            refine lv_iconst (v := 0) hx hb dX13_bean_185 (by decide) ?_
            exact hj186 sg_1 z_14 0 hz_14 h_9 h_49 (iv_w (iv_k (by decide) : iv 0 0 0) (by decide)) (KS_up KS_rf esg_1 (by decide)) hI_sg_1 _ _ _ hP hD hS (lv_sub hl [0, 1, 2, 3] rfl)
          · have h_56 : iv 0 0 z_53 := iv_eq c_54 hz_53 (iv_k (by decide) : iv 0 0 0) (by decide)
            refine lv_iconst (v := 1) hx hb dX13_bean_181 (by decide) ?_
            refine lv_goto (tgt := 186) hx hb dX13_bean_182 (by decide) ?_
            exact hj186 sg_1 z_14 1 hz_14 h_9 h_49 (iv_w (iv_k (by decide) : iv 1 1 1) (by decide)) (KS_up KS_rf esg_1 (by decide)) hI_sg_1 _ _ _ hP hD hS (lv_sub hl [0, 1, 2, 3] rfl)
        by_cases c_57 : (w : Int32).toInt = 9
        · refine lv_tableIn (tgt := 187) hx hb dX13_bean_34 (by rw [c_57]; decide) (by rw [c_57]; decide) (by rw [c_57]; rfl) (by decide) ?_
          have h_58 : iv 9 9 w := iv_at c_57
          refine lv_aload_n hx hb dX13_bean_187 rfl (lv_at hl 1 rfl) ?_
          refine lv_iload_n hx hb dX13_bean_188 rfl (lv_at hl 0 rfl) ?_
          refine lv_ldc2 (own := RX13) (v := 1818327673) hx hb hown (htb _ kw_904) dX13_bean_189 ?_
          refine mr_calll (rest := []) ⟨hx, hb, hml, hown, htb⟩ (f_word l dC dI h0 ad cid sg_1 gm lg z_14 1818327673 hI_sg_1 hz_14) (cwV 2 htb (gd_V kw_923 kw_924 kw_925 kw_5 kw_1545) rfl rfl rfl (by decide +kernel) ⟨Nat.le_of_ble_eq_true rfl, Nat.le_of_ble_eq_true rfl⟩) rfl hl.1 rfl (Nat.le_of_ble_eq_true rfl) dX13_bean_192 ⟨Nat.zero_le _, Nat.zero_le _⟩ hK hP hD hS hA (fun r_59 u_60 H locs hw hP hD hS => ?_)
          obtain ⟨fW_r_59, rfl⟩ := hw
          have hP : va_P (dC, dI) vwCl (mW h0 ad cid sg_1 gm lg) H := hP
          have hD : va_D A (mW h0 ad cid sg_1 gm lg) := hD
          refine lv_aload_n hx hb dX13_bean_195 rfl (lv_at hl 1 rfl) ?_
          refine mr_get (v := .ref (ad 1)) hx hb htb inX13 hown hK hP 1 (by decide) (htb _ kw_156) rfl dX13_bean_196 ?_
          refine lv_iconst (v := 0) hx hb dX13_bean_199 (by decide) ?_
          refine mr_lald hx hb hK hP 1 (k := 1) rfl rfl rfl (show vp_in 0 11 from (iv_in (iv_k (by decide) : iv 0 0 0) (by decide))) dX13_bean_200 ?_
          refine lv_topl (fun z_61 ez_61 => ?_)
          refine W.lcmp hx hb dX13_bean_201 ?_
          refine lv_topi (fun z_62 ez_62 => ?_)
          have hz_62 : iv (-1) 1 z_62 := iv_of ez_62 (iv_cmp _ _)
          refine lv_if_ne (tgt := 209) hx hb dX13_bean_202 (by decide) (fun c_63 => ?_) (fun c_63 => ?_)
          · have d_64 : ¬ (z_62 : Int32).toInt = 0 := lv_neT c_63 rfl
            refine lv_iconst (v := 0) hx hb dX13_bean_209 (by decide) ?_
            exact hj210 sg_1 z_14 0 hz_14 h_9 h_58 (iv_w (iv_k (by decide) : iv 0 0 0) (by decide)) (KS_up KS_rf esg_1 (by decide)) hI_sg_1 _ _ _ hP hD hS (lv_sub hl [0, 1, 2, 3] rfl)
          · have h_65 : iv 0 0 z_62 := iv_eq c_63 hz_62 (iv_k (by decide) : iv 0 0 0) (by decide)
            refine lv_iconst (v := 1) hx hb dX13_bean_205 (by decide) ?_
            refine lv_goto (tgt := 210) hx hb dX13_bean_206 (by decide) ?_
            exact hj210 sg_1 z_14 1 hz_14 h_9 h_58 (iv_w (iv_k (by decide) : iv 1 1 1) (by decide)) (KS_up KS_rf esg_1 (by decide)) hI_sg_1 _ _ _ hP hD hS (lv_sub hl [0, 1, 2, 3] rfl)
        by_cases c_66 : (w : Int32).toInt = 10
        · refine lv_tableIn (tgt := 211) hx hb dX13_bean_34 (by rw [c_66]; decide) (by rw [c_66]; decide) (by rw [c_66]; rfl) (by decide) ?_
          have h_67 : iv 10 10 w := iv_at c_66
          refine lv_aload_n hx hb dX13_bean_211 rfl (lv_at hl 1 rfl) ?_
          refine mr_get (v := .ref (ad 61)) hx hb htb inX13 hown hK hP 61 (by decide) (htb _ kw_211) rfl dX13_bean_212 ?_
          refine lv_iload_n hx hb dX13_bean_215 rfl (lv_at hl 2 rfl) ?_
          refine mr_zald hx hb hK hP 47 (k := 61) rfl rfl rfl (show vp_in k 80 from (iv_in h_9 (by decide))) dX13_bean_216 ?_
          refine lv_topi (fun z_68 ez_68 => ?_)
          have hz_68 : iv 0 1 z_68 := iv_of ez_68 (MI_a hI_sg_1 61 h_9 (by decide))
          refine lv_if_eq (tgt := 224) hx hb dX13_bean_217 (by decide) (fun c_69 => ?_) (fun c_69 => ?_)
          · have h_70 : iv 0 0 z_68 := iv_eq c_69 hz_68 (iv_k (by decide) : iv 0 0 0) (by decide)
            refine lv_iconst (v := 0) hx hb dX13_bean_224 (by decide) ?_
            exact hj225 sg_1 z_14 0 hz_14 h_9 h_67 (iv_w (iv_k (by decide) : iv 0 0 0) (by decide)) (KS_up KS_rf esg_1 (by decide)) hI_sg_1 _ _ _ hP hD hS (lv_sub hl [0, 1, 2, 3] rfl)
          · have h_71 : iv 1 1 z_68 := iv_neL c_69 hz_68 (by decide)
            refine lv_iconst (v := 1) hx hb dX13_bean_220 (by decide) ?_
            refine lv_goto (tgt := 225) hx hb dX13_bean_221 (by decide) ?_
            exact hj225 sg_1 z_14 1 hz_14 h_9 h_67 (iv_w (iv_k (by decide) : iv 1 1 1) (by decide)) (KS_up KS_rf esg_1 (by decide)) hI_sg_1 _ _ _ hP hD hS (lv_sub hl [0, 1, 2, 3] rfl)
        by_cases c_72 : (w : Int32).toInt = 11
        · refine lv_tableIn (tgt := 226) hx hb dX13_bean_34 (by rw [c_72]; decide) (by rw [c_72]; decide) (by rw [c_72]; rfl) (by decide) ?_
          have h_73 : iv 11 11 w := iv_at c_72
          refine lv_aload_n hx hb dX13_bean_226 rfl (lv_at hl 1 rfl) ?_
          refine mr_get (v := .ref (ad 27)) hx hb htb inX13 hown hK hP 27 (by decide) (htb _ kw_183) rfl dX13_bean_227 ?_
          refine lv_iload_n hx hb dX13_bean_230 rfl (lv_at hl 0 rfl) ?_
          refine mr_iald hx hb hK hP 20 (k := 27) rfl rfl rfl (show vp_in z_14 80 from (iv_in hz_14 (by decide))) dX13_bean_231 ?_
          refine lv_topi (fun z_74 ez_74 => ?_)
          have hz_74 : iv 0 1201 z_74 := iv_of ez_74 (MI_a hI_sg_1 27 hz_14 (by decide))
          exact W.iret (v := z_74) hx hb hr (fun t ht hW => ⟨⟨z_74, (sg_1, gm, lg), rfl, ⟨sg_1, gm, lg, rfl, hI_sg_1, (KS_up KS_rf esg_1 (by decide)), KS_rf, KS_rf, ((GI0_of hgi (show KS [5] sg sg_1 from (KS_up KS_rf esg_1 (by decide))) (show KS [] gm gm from KS_rf) (show KS [] lg lg from KS_rf) (by decide) (by decide) (by decide) (by decide) (by decide) (by decide))), ((MO_of hmo (show KS [5] sg sg_1 from (KS_up KS_rf esg_1 (by decide))) (show KS [] gm gm from KS_rf) (by decide) (by decide)))⟩, by rw [ht]; exact hP, va_K.moved hW.alike hK, hD⟩, hS.F ht⟩) hS.2.2 dX13_bean_232
        refine lv_tableOut (tgt := 233) hx hb dX13_bean_34 (by have q1 := ((iv_all w)).1; have q2 := ((iv_all w)).2; omega) (by decide) ?_
        refine lv_iconst (v := (-1)) hx hb dX13_bean_233 (by decide) ?_
        exact W.iret (v := (-1)) hx hb hr (fun t ht hW => ⟨⟨(-1), (sg_1, gm, lg), rfl, ⟨sg_1, gm, lg, rfl, hI_sg_1, (KS_up KS_rf esg_1 (by decide)), KS_rf, KS_rf, ((GI0_of hgi (show KS [5] sg sg_1 from (KS_up KS_rf esg_1 (by decide))) (show KS [] gm gm from KS_rf) (show KS [] lg lg from KS_rf) (by decide) (by decide) (by decide) (by decide) (by decide) (by decide))), ((MO_of hmo (show KS [5] sg sg_1 from (KS_up KS_rf esg_1 (by decide))) (show KS [] gm gm from KS_rf) (by decide) (by decide)))⟩, by rw [ht]; exact hP, va_K.moved hW.alike hK, hD⟩, hS.F ht⟩) hS.2.2 dX13_bean_234
      · have h_75 : iv 0 0 (sg 40) := iv_eq c_12 (show iv 0 1 (sg 40) from MI_s hI 40) (iv_k (by decide) : iv 0 0 0) (by decide)
        exact hj24 sg_1 (KS_up KS_rf esg_1 (by decide)) hI_sg_1 _ _ _ hP hD hS (lv_sub hl [0, 1, 2] rfl)
