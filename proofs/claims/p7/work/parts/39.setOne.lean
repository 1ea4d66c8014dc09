def INVo (sg : Nat → Int32) (gm : Nat → Nat → Int32) (lg : Nat → Nat → Int64) : Prop := PIL sg gm ∧ (∀ j, j + 1 < (sg 63).toNatClampNeg → FR sg gm lg j 1) ∧ ((sg 63).toInt = 0 ∨ FR sg gm lg (TOPn sg) 0)

set_option maxHeartbeats 4000000 in
set_option maxRecDepth 100000 in
theorem f_setOne (l : Launch) (dC : Nat → ClassId) (dI : Nat → Nat → Nat) (h0 : Nat) (ad : Nat → Nat) (cid : Nat → ClassId) (sg : Nat → Int32) (gm : Nat → Nat → Int32) (lg : Nat → Nat → Int64) (b : Int32) (hI : MI sg gm) (hvb : iv 0 79 b) (hdoc : DOC sg gm lg) (hva : VAL gm) (hPR : PR gm) (hh1 : 1 ≤ (sg 63).toInt) (hob : 0 ≤ (gm 69 (TOPn sg)).toInt) (hi25 : (gm 66 (TOPn sg)).toInt ≤ 25) : MMv l dC dI yX13_setOne wm_X13_setOne ({ frames := 4, cells := 0, slots := 0, locals := 98 }) h0 ad cid [.int b] sg gm lg (fun v => ∃ (sg2 : Nat → Int32) (gm2 : Nat → Nat → Int32) (lg2 : Nat → Nat → Int64), v = (sg2, gm2, lg2) ∧ MI sg2 gm2 ∧ KS [49, 51, 52] sg sg2 ∧ KS [55, 56, 57, 58] gm gm2 ∧ KS [] lg lg2) := by
  intro sz
  refine Met.ofW (cc := cX13_setOne) (maxL := 6) (ret := none) (by decide) rfl ?_
  intro p e s m args below meth c s₁ B hml hv
  obtain ⟨rfl, hsz, hP, hK, hD0⟩ := hv
  have hx := B.exec
  have hb := B.bytes
  have hr := B.returns
  have hts := atoms_spec (ws := wm_X13_setOne) B.pre
  have htb := fun (w : Cond) (h : w ∈ tb) => hts w (List.mem_cons_of_mem _ h)
  have hown : s.vm.findClass RX13 = some m.cls := findClass_of_methodNamed B.named
  have hlocks := B.notSynchronized
  subst hsz
  have hD := hD0.self (sz := s.heap.size)
  generalize hAe : va_A (mW h0 ad cid sg gm lg) s.heap.size = A at hD ⊢
  have hA : ∀ q : Nat, s.heap.size ≤ q → A q := fun q h => by rw [← hAe]; exact Or.inr h
  have hS : va_S A s.heap s.heap [] := va_S.rf
  have hl := lv_entry ([.ref h0, .int b]) (n := 6) (Nat.le_of_ble_eq_true rfl)
  rw [lg_entry_eq]
  generalize (lg_sl ([.ref h0, .int b]) ++ List.replicate (6 - (lg_sl ([.ref h0, .int b])).length) Slot.unset).toArray = ls at hl ⊢
  have hl : lv_has ls 6 [(0, .ref h0), (1, .int b)] := hl
  have h63 : iv 1 80 (sg 63) := ⟨hh1, (show iv 0 80 (sg 63) from MI_s hI 63).2⟩
  have hj134 : ∀ (sg_j134 : Nat → Int32) (gm_j134 : Nat → Nat → Int32) (x5_134 : Int32) (x4_134 : Int32) (x3_134 : Int32) (x2_134 : Int32) (_ : iv (-1) 15 x5_134) (_ : iv 0 59 x4_134) (_ : iv 0 79 x2_134) (_ : iv 0 79 b) (_ : KS [49, 51, 52] sg sg_j134) (_ : KS [55, 56, 57, 58] gm gm_j134) (_ : MI sg_j134 gm_j134) (H : Heap) (locs : List Loc) (ls : Array Slot), va_P (dC, dI) vwCl (mW h0 ad cid sg_j134 gm_j134 lg) H → va_D A (mW h0 ad cid sg_j134 gm_j134 lg) → va_S A s.heap H locs → lv_has ls 6 [(5, .int x5_134), (4, .int x4_134), (3, .int x3_134), (2, .int x2_134), (0, .ref h0), (1, .int b)] → W p l e (headSpec wm_X13_setOne ({ frames := 4, cells := 0, slots := 0, locals := 98 })).room s m ([.ref h0, .int b] : List Value).toArray below meth c H locs 0 0 (MQ below (va_Qv (fun v => ∃ (sg2 : Nat → Int32) (gm2 : Nat → Nat → Int32) (lg2 : Nat → Nat → Int64), v = (sg2, gm2, lg2) ∧ MI sg2 gm2 ∧ KS [49, 51, 52] sg sg2 ∧ KS [55, 56, 57, 58] gm gm2 ∧ KS [] lg lg2) (MB dC dI h0 ad cid A) A) ([.ref h0, .int b] : List Value).toArray s 0 0 A) (F0 m 134 ls []) := by
    intro sg_j134 gm_j134 x5_134 x4_134 x3_134 x2_134 hx5_134 hx4_134 hx2_134 hsx1_134 hks_j134 hkg_j134 hI_j134 H locs ls hP hD hS hl
    exact W.vret hx hb hr (fun t ht hW => ⟨⟨(sg_j134, gm_j134, lg), rfl, ⟨sg_j134, gm_j134, lg, rfl, hI_j134, (KS_tr (L := [49, 51, 52]) KS_rf hks_j134 (by decide)), (KS_tr (L := [55, 56, 57, 58]) KS_rf hkg_j134 (by decide)), KS_rf⟩, by rw [ht]; exact hP, va_K.moved hW.alike hK, hD⟩, hS.F ht⟩) hS.2.2 dX13_setOne_134
  have hj112 : ∀ (sg_j112 : Nat → Int32) (x5_112 : Int32) (x4_112 : Int32) (x3_112 : Int32) (x2_112 : Int32) (_ : iv (-1) 15 x5_112) (_ : iv 0 59 x4_112) (_ : iv 0 79 x2_112) (_ : iv 0 79 b) (_ : KS [51, 52] sg sg_j112) (_ : MI sg_j112 gm) (H : Heap) (locs : List Loc) (ls : Array Slot), va_P (dC, dI) vwCl (mW h0 ad cid sg_j112 gm lg) H → va_D A (mW h0 ad cid sg_j112 gm lg) → va_S A s.heap H locs → lv_has ls 6 [(5, .int x5_112), (4, .int x4_112), (3, .int x3_112), (2, .int x2_112), (0, .ref h0), (1, .int b)] → W p l e (headSpec wm_X13_setOne ({ frames := 4, cells := 0, slots := 0, locals := 98 })).room s m ([.ref h0, .int b] : List Value).toArray below meth c H locs 0 0 (MQ below (va_Qv (fun v => ∃ (sg2 : Nat → Int32) (gm2 : Nat → Nat → Int32) (lg2 : Nat → Nat → Int64), v = (sg2, gm2, lg2) ∧ MI sg2 gm2 ∧ KS [49, 51, 52] sg sg2 ∧ KS [55, 56, 57, 58] gm gm2 ∧ KS [] lg lg2) (MB dC dI h0 ad cid A) A) ([.ref h0, .int b] : List Value).toArray s 0 0 A) (F0 m 112 ls []) := by
    intro sg_j112 x5_112 x4_112 x3_112 x2_112 hx5_112 hx4_112 hx2_112 hsx1_112 hks_j112 hI_j112 H locs ls hP hD hS hl
    refine lv_aload_n hx hb dX13_setOne_112 rfl (lv_at hl 4 rfl) ?_
    refine mr_get (v := .int (sg_j112 51)) hx hb htb inX13 hown hK hP 51 (by decide) (htb _ kw_983) rfl dX13_setOne_113 ?_
    refine lv_if_ne (tgt := 134) hx hb dX13_setOne_116 (by decide) (fun c_1 => ?_) (fun c_1 => ?_)
    · have h_2 : iv 1 8 (sg_j112 51) := iv_neL c_1 (show iv 0 8 (sg_j112 51) from MI_s hI_j112 51) (by decide)
      exact hj134 sg_j112 gm x5_112 x4_112 x3_112 x2_112 hx5_112 hx4_112 hx2_112 hsx1_112 (KS_tr (L := [49, 51, 52]) KS_rf hks_j112 (by decide)) KS_rf hI_j112 _ _ _ hP hD hS (lv_sub hl [0, 1, 2, 3, 4, 5] rfl)
    · have h_3 : iv 0 0 (sg_j112 51) := iv_eq c_1 (show iv 0 8 (sg_j112 51) from MI_s hI_j112 51) (iv_k (by decide) : iv 0 0 0) (by decide)
      refine lv_aload_n hx hb dX13_setOne_119 rfl (lv_at hl 4 rfl) ?_
      refine lv_iconst (v := 4) hx hb dX13_setOne_120 (by decide) ?_
      refine lv_iload hx hb dX13_setOne_121 (lv_at hl 1 rfl) ?_
      refine lv_iload_n hx hb dX13_setOne_123 rfl (lv_at hl 2 rfl) ?_
      refine lv_iconst (v := 5) hx hb dX13_setOne_124 (by decide) ?_
      refine lv_iload_n hx hb dX13_setOne_125 rfl (lv_at hl 3 rfl) ?_
      refine lv_imul hx hb dX13_setOne_126 ?_
      refine lv_topi (fun z_4 ez_4 => ?_)
      have hz_4 : iv 0 395 z_4 := iv_of ez_4 (iv_mul (iv_k (by decide) : iv 5 5 5) hx2_112 (by decide))
      have tz_4 : z_4.toInt = 5 * (x2_112 : Int32).toInt := by rw [ez_4]; exact iv_mulE (iv_k (by decide) : iv 5 5 5) hx2_112 (by decide)
      refine lv_iconst (v := 4) hx hb dX13_setOne_127 (by decide) ?_
      refine lv_iadd hx hb dX13_setOne_128 ?_
      refine lv_topi (fun z_5 ez_5 => ?_)
      have hz_5 : iv 4 399 z_5 := iv_of ez_5 (iv_add hz_4 (iv_k (by decide) : iv 4 4 4) (by decide))
      have tz_5 : z_5.toInt = (z_4 : Int32).toInt + 4 := by rw [ez_5]; exact iv_addE hz_4 (iv_k (by decide) : iv 4 4 4) (by decide)
      refine lv_iload hx hb dX13_setOne_129 (lv_at hl 0 rfl) ?_
      refine mr_callv (rest := []) ⟨hx, hb, hml, hown, htb⟩ (f_tell l dC dI h0 ad cid sg_j112 gm lg 4 x4_112 x3_112 z_5 x5_112 hI_j112 (iv_w hz_5 (by decide)) hva) (cwV 5 htb (gd_V kw_1248 kw_1249 kw_1250 kw_5 kw_1631) rfl rfl rfl (by decide +kernel) ⟨Nat.le_of_ble_eq_true rfl, Nat.le_of_ble_eq_true rfl⟩) rfl hl.1 rfl (Nat.le_of_ble_eq_true rfl) dX13_setOne_131 ⟨Nat.zero_le _, Nat.zero_le _⟩ hK hP hD hS hA (fun u_7 H locs hw hP hD hS => ?_)
      obtain ⟨sgv_8, gmv_8, lgv_8, rfl, hIv_8, ksv_8, kgv_8, klv_8⟩ := hw
      obtain rfl := KS_nil klv_8
      have hP : va_P (dC, dI) vwCl (mW h0 ad cid sgv_8 gmv_8 lg) H := hP
      have hD : va_D A (mW h0 ad cid sgv_8 gmv_8 lg) := hD
      exact hj134 sgv_8 gmv_8 x5_112 x4_112 x3_112 x2_112 hx5_112 hx4_112 hx2_112 hsx1_112 (KS_tr (L := [49, 51, 52]) (KS_tr (L := [49, 51, 52]) KS_rf hks_j112 (by decide)) ksv_8 (by decide)) (KS_tr (L := [55, 56, 57, 58]) KS_rf kgv_8 (by decide)) hIv_8 _ _ _ hP hD hS (lv_sub hl [0, 1, 2, 3, 4, 5] rfl)
  have hj69 : ∀ (sg_j69 : Nat → Int32) (x5_69 : Int32) (x4_69 : Int32) (x3_69 : Int32) (x2_69 : Int32) (_ : iv (-1) 15 x5_69) (_ : iv 0 59 x4_69) (_ : iv 0 79 x2_69) (_ : iv 0 79 b) (_ : KS [51, 52] sg sg_j69) (_ : MI sg_j69 gm) (H : Heap) (locs : List Loc) (ls : Array Slot), va_P (dC, dI) vwCl (mW h0 ad cid sg_j69 gm lg) H → va_D A (mW h0 ad cid sg_j69 gm lg) → va_S A s.heap H locs → lv_has ls 6 [(5, .int x5_69), (4, .int x4_69), (3, .int x3_69), (2, .int x2_69), (0, .ref h0), (1, .int b)] → W p l e (headSpec wm_X13_setOne ({ frames := 4, cells := 0, slots := 0, locals := 98 })).room s m ([.ref h0, .int b] : List Value).toArray below meth c H locs 0 0 (MQ below (va_Qv (fun v => ∃ (sg2 : Nat → Int32) (gm2 : Nat → Nat → Int32) (lg2 : Nat → Nat → Int64), v = (sg2, gm2, lg2) ∧ MI sg2 gm2 ∧ KS [49, 51, 52] sg sg2 ∧ KS [55, 56, 57, 58] gm gm2 ∧ KS [] lg lg2) (MB dC dI h0 ad cid A) A) ([.ref h0, .int b] : List Value).toArray s 0 0 A) (F0 m 69 ls []) := by
    intro sg_j69 x5_69 x4_69 x3_69 x2_69 hx5_69 hx4_69 hx2_69 hsx1_69 hks_j69 hI_j69 H locs ls hP hD hS hl
    refine lv_aload_n hx hb dX13_setOne_69 rfl (lv_at hl 4 rfl) ?_
    refine mr_get (v := .int (sg_j69 51)) hx hb htb inX13 hown hK hP 51 (by decide) (htb _ kw_983) rfl dX13_setOne_70 ?_
    refine lv_if_ne (tgt := 112) hx hb dX13_setOne_73 (by decide) (fun c_9 => ?_) (fun c_9 => ?_)
    · have h_10 : iv 1 8 (sg_j69 51) := iv_neL c_9 (show iv 0 8 (sg_j69 51) from MI_s hI_j69 51) (by decide)
      exact hj112 sg_j69 x5_69 x4_69 x3_69 x2_69 hx5_69 hx4_69 hx2_69 hsx1_69 (KS_tr (L := [51, 52]) KS_rf hks_j69 (by decide)) hI_j69 _ _ _ hP hD hS (lv_sub hl [0, 1, 2, 3, 4, 5] rfl)
    · have h_11 : iv 0 0 (sg_j69 51) := iv_eq c_9 (show iv 0 8 (sg_j69 51) from MI_s hI_j69 51) (iv_k (by decide) : iv 0 0 0) (by decide)
      refine lv_aload_n hx hb dX13_setOne_76 rfl (lv_at hl 4 rfl) ?_
      refine lv_aload_n hx hb dX13_setOne_77 rfl (lv_at hl 4 rfl) ?_
      refine mr_get (v := .ref (ad 70)) hx hb htb inX13 hown hK hP 70 (by decide) (htb _ kw_219) rfl dX13_setOne_78 ?_
      refine lv_iconst (v := 5) hx hb dX13_setOne_81 (by decide) ?_
      refine lv_iload_n hx hb dX13_setOne_82 rfl (lv_at hl 3 rfl) ?_
      refine lv_imul hx hb dX13_setOne_83 ?_
      refine lv_topi (fun z_12 ez_12 => ?_)
      have hz_12 : iv 0 395 z_12 := iv_of ez_12 (iv_mul (iv_k (by decide) : iv 5 5 5) hx2_69 (by decide))
      have tz_12 : z_12.toInt = 5 * (x2_69 : Int32).toInt := by rw [ez_12]; exact iv_mulE (iv_k (by decide) : iv 5 5 5) hx2_69 (by decide)
      refine lv_iconst (v := 4) hx hb dX13_setOne_84 (by decide) ?_
      refine lv_iadd hx hb dX13_setOne_85 ?_
      refine lv_topi (fun z_13 ez_13 => ?_)
      have hz_13 : iv 4 399 z_13 := iv_of ez_13 (iv_add hz_12 (iv_k (by decide) : iv 4 4 4) (by decide))
      have tz_13 : z_13.toInt = (z_12 : Int32).toInt + 4 := by rw [ez_13]; exact iv_addE hz_12 (iv_k (by decide) : iv 4 4 4) (by decide)
      refine mr_iald hx hb hK hP 55 (k := 70) rfl rfl rfl (show vp_in z_13 405 from (iv_in hz_13 (by decide))) dX13_setOne_86 ?_
      refine lv_topi (fun z_14 ez_14 => ?_)
      have hz_14 : iv 0 3 z_14 := iv_of ez_14 (MI_a hI_j69 70 hz_13 (by decide))
      refine lv_aload_n hx hb dX13_setOne_87 rfl (lv_at hl 4 rfl) ?_
      refine mr_get (v := .ref (ad 71)) hx hb htb inX13 hown hK hP 71 (by decide) (htb _ kw_220) rfl dX13_setOne_88 ?_
      refine lv_iconst (v := 5) hx hb dX13_setOne_91 (by decide) ?_
      refine lv_iload_n hx hb dX13_setOne_92 rfl (lv_at hl 3 rfl) ?_
      refine lv_imul hx hb dX13_setOne_93 ?_
      refine lv_topi (fun z_15 ez_15 => ?_)
      obtain rfl : z_12 = z_15 := ez_12.trans ez_15.symm
      refine lv_iconst (v := 4) hx hb dX13_setOne_94 (by decide) ?_
      refine lv_iadd hx hb dX13_setOne_95 ?_
      refine lv_topi (fun z_16 ez_16 => ?_)
      obtain rfl : z_13 = z_16 := ez_13.trans ez_16.symm
      refine mr_iald hx hb hK hP 56 (k := 71) rfl rfl rfl (show vp_in z_13 405 from (iv_in hz_13 (by decide))) dX13_setOne_96 ?_
      refine lv_topi (fun z_17 ez_17 => ?_)
      have hz_17 : iv 0 1079 z_17 := iv_of ez_17 (MI_a hI_j69 71 hz_13 (by decide))
      refine lv_iload hx hb dX13_setOne_97 (lv_at hl 0 rfl) ?_
      refine mr_calli (rest := []) ⟨hx, hb, hml, hown, htb⟩ (a_weight l dC dI h0 ad cid sg_j69 gm lg z_14 z_17 x5_69 hI_j69 hz_14 hz_17 (VAL_at hva (show iv 0 404 z_13 from (iv_w hz_13 (by decide))) ez_14 ez_17) hPR) (cwV 3 htb (gd_V kw_1226 kw_1227 kw_1228 kw_5 kw_1625) rfl rfl rfl (by decide +kernel) ⟨Nat.le_of_ble_eq_true rfl, Nat.le_of_ble_eq_true rfl⟩) rfl hl.1 rfl (Nat.le_of_ble_eq_true rfl) dX13_setOne_99 ⟨Nat.zero_le _, Nat.zero_le _⟩ hK hP hD hS hA (fun r_18 u_19 H locs hw hP hD hS => ?_)
      obtain rfl := hw
      have hP : va_P (dC, dI) vwCl (mW h0 ad cid sg_j69 gm lg) H := hP
      have hD : va_D A (mW h0 ad cid sg_j69 gm lg) := hD
      refine lv_iconst (v := (-1)) hx hb dX13_setOne_102 (by decide) ?_
      refine lv_icmp_ne (tgt := 112) hx hb dX13_setOne_103 (by decide) (fun c_20 => ?_) (fun c_20 => ?_)
      · have d_21 : ¬ (r_18 : Int32).toInt = (-1) := lv_neT c_20 rfl
        exact hj112 sg_j69 x5_69 x4_69 x3_69 x2_69 hx5_69 hx4_69 hx2_69 hsx1_69 (KS_tr (L := [51, 52]) KS_rf hks_j69 (by decide)) hI_j69 _ _ _ hP hD hS (lv_sub hl [0, 1, 2, 3, 4, 5] rfl)
      · have h_22 : iv (-1) (-1) r_18 := iv_eq c_20 (iv_all r_18) (iv_k (by decide) : iv (-1) (-1) (-1)) (by decide)
        refine lv_aload_n hx hb dX13_setOne_106 rfl (lv_at hl 4 rfl) ?_
        refine lv_bipush (v := 8) hx hb dX13_setOne_107 (by decide) ?_
        refine mr_callv (rest := []) ⟨hx, hb, hml, hown, htb⟩ (f_fails l dC dI h0 ad cid sg_j69 gm lg 8 hI_j69 (iv_w (iv_k (by decide) : iv 8 8 8) (by decide))) (cwV 1 htb (gd_V kw_1165 kw_1166 kw_1167 kw_5 kw_1605) rfl rfl rfl (by decide +kernel) ⟨Nat.le_of_ble_eq_true rfl, Nat.le_of_ble_eq_true rfl⟩) rfl hl.1 rfl (Nat.le_of_ble_eq_true rfl) dX13_setOne_109 ⟨Nat.zero_le _, Nat.zero_le _⟩ hK hP hD hS hA (fun u_24 H locs hw hP hD hS => ?_)
        obtain ⟨sgv_25, gmv_25, lgv_25, rfl, hIv_25, ksv_25, kgv_25, klv_25, fFl_r_23⟩ := hw
        obtain rfl := KS_nil kgv_25
        obtain rfl := KS_nil klv_25
        have hP : va_P (dC, dI) vwCl (mW h0 ad cid sgv_25 gm lg) H := hP
        have hD : va_D A (mW h0 ad cid sgv_25 gm lg) := hD
        exact hj112 sgv_25 x5_69 x4_69 x3_69 x2_69 hx5_69 hx4_69 hx2_69 hsx1_69 (KS_tr (L := [51, 52]) (KS_tr (L := [51, 52]) KS_rf hks_j69 (by decide)) ksv_25 (by decide)) hIv_25 _ _ _ hP hD hS (lv_sub hl [0, 1, 2, 3, 4, 5] rfl)
  refine lv_aload_n hx hb dX13_setOne_0 rfl (lv_at hl 0 rfl) ?_
  refine mr_get (v := .int (sg 63)) hx hb htb inX13 hown hK hP 63 (by decide) (htb _ kw_1160) rfl dX13_setOne_1 ?_
  refine lv_iconst (v := 1) hx hb dX13_setOne_4 (by decide) ?_
  refine lv_isub hx hb dX13_setOne_5 ?_
  refine lv_topi (fun z_26 ez_26 => ?_)
  have hz_26 : iv 0 79 z_26 := iv_of ez_26 (iv_sub h63 (iv_k (by decide) : iv 1 1 1) (by decide))
  have tz_26 : z_26.toInt = ((sg 63) : Int32).toInt - 1 := by rw [ez_26]; exact iv_subE h63 (iv_k (by decide) : iv 1 1 1) (by decide)
  refine lv_istore_n (lv' := [(2, .int z_26), (0, .ref h0), (1, .int b)]) hx hb dX13_setOne_6 rfl hl (by decide) rfl (fun ls hl => ?_)
  have htop := top_n h63 tz_26
  refine lv_aload_n hx hb dX13_setOne_7 rfl (lv_at hl 1 rfl) ?_
  refine lv_aload_n hx hb dX13_setOne_8 rfl (lv_at hl 1 rfl) ?_
  refine mr_get (v := .ref (ad 45)) hx hb htb inX13 hown hK hP 45 (by decide) (htb _ kw_199) rfl dX13_setOne_9 ?_
  refine lv_bipush (v := 26) hx hb dX13_setOne_12 (by decide) ?_
  refine lv_iload_n hx hb dX13_setOne_14 rfl (lv_at hl 2 rfl) ?_
  refine lv_imul hx hb dX13_setOne_15 ?_
  refine lv_topi (fun z_27 ez_27 => ?_)
  have hz_27 : iv 0 2054 z_27 := iv_of ez_27 (iv_mul (iv_k (by decide) : iv 26 26 26) hvb (by decide))
  have tz_27 : z_27.toInt = 26 * (b : Int32).toInt := by rw [ez_27]; exact iv_mulE (iv_k (by decide) : iv 26 26 26) hvb (by decide)
  refine lv_aload_n hx hb dX13_setOne_16 rfl (lv_at hl 1 rfl) ?_
  refine mr_get (v := .ref (ad 66)) hx hb htb inX13 hown hK hP 66 (by decide) (htb _ kw_215) rfl dX13_setOne_17 ?_
  refine lv_iload_n hx hb dX13_setOne_20 rfl (lv_at hl 0 rfl) ?_
  refine mr_iald hx hb hK hP 51 (k := 66) rfl rfl rfl (show vp_in z_26 81 from (iv_in hz_26 (by decide))) dX13_setOne_21 ?_
  refine lv_topi (fun z_28 ez_28 => ?_)
  have hz_28 : iv 0 26 z_28 := iv_of ez_28 (MI_a hI 66 hz_26 (by decide))
  have h_29 : iv 0 25 z_28 := ⟨(hz_28).1, by have q9 := ez_28; rw [htop] at q9; rw [q9]; exact hi25⟩
  refine lv_iadd hx hb dX13_setOne_22 ?_
  refine lv_topi (fun z_30 ez_30 => ?_)
  have hz_30 : iv 0 2079 z_30 := iv_of ez_30 (iv_add hz_27 h_29 (by decide))
  have tz_30 : z_30.toInt = (z_27 : Int32).toInt + (z_28 : Int32).toInt := by rw [ez_30]; exact iv_addE hz_27 h_29 (by decide)
  refine mr_iald hx hb hK hP 36 (k := 45) rfl rfl rfl (show vp_in z_30 2080 from (iv_in hz_30 (by decide))) dX13_setOne_23 ?_
  refine lv_topi (fun z_31 ez_31 => ?_)
  have hz_31 : iv 0 79 z_31 := iv_of ez_31 (MI_a hI 45 hz_30 (by decide))
  refine lv_ldc2 (own := RX13) (v := 1851878757) hx hb hown (htb _ kw_887) dX13_setOne_24 ?_
  refine mr_calll (rest := []) ⟨hx, hb, hml, hown, htb⟩ (f_word l dC dI h0 ad cid sg gm lg z_31 1851878757 hI hz_31) (cwV 2 htb (gd_V kw_923 kw_924 kw_925 kw_5 kw_1545) rfl rfl rfl (by decide +kernel) ⟨Nat.le_of_ble_eq_true rfl, Nat.le_of_ble_eq_true rfl⟩) rfl hl.1 rfl (Nat.le_of_ble_eq_true rfl) dX13_setOne_27 ⟨Nat.zero_le _, Nat.zero_le _⟩ hK hP hD hS hA (fun r_32 u_33 H locs hw hP hD hS => ?_)
  obtain ⟨fW_r_32, rfl⟩ := hw
  have hP : va_P (dC, dI) vwCl (mW h0 ad cid sg gm lg) H := hP
  have hD : va_D A (mW h0 ad cid sg gm lg) := hD
  refine lv_l2i (v := (r_32).toInt32) hx hb dX13_setOne_30 rfl ?_
  refine lv_topi (fun z_34 ez_34 => ?_)
  refine lv_bipush (v := 97) hx hb dX13_setOne_31 (by decide) ?_
  refine lv_isub hx hb dX13_setOne_33 ?_
  refine lv_topi (fun z_35 ez_35 => ?_)
  refine lv_istore_n (lv' := [(3, .int z_35), (2, .int z_26), (0, .ref h0), (1, .int b)]) hx hb dX13_setOne_34 rfl hl (by decide) rfl (fun ls hl => ?_)
  refine lv_aload_n hx hb dX13_setOne_35 rfl (lv_at hl 2 rfl) ?_
  refine mr_get (v := .ref (ad 69)) hx hb htb inX13 hown hK hP 69 (by decide) (htb _ kw_218) rfl dX13_setOne_36 ?_
  refine lv_iload_n hx hb dX13_setOne_39 rfl (lv_at hl 1 rfl) ?_
  refine mr_iald hx hb hK hP 54 (k := 69) rfl rfl rfl (show vp_in z_26 81 from (iv_in hz_26 (by decide))) dX13_setOne_40 ?_
  refine lv_topi (fun z_36 ez_36 => ?_)
  have hz_36 : iv (-1) 59 z_36 := iv_of ez_36 (MI_a hI 69 hz_26 (by decide))
  have h_37 : iv 0 59 z_36 := ⟨by have q9 := ez_36; rw [htop] at q9; rw [q9]; exact hob, (hz_36).2⟩
  refine lv_istore (lv' := [(4, .int z_36), (3, .int z_35), (2, .int z_26), (0, .ref h0), (1, .int b)]) hx hb dX13_setOne_41 hl (by decide) rfl (fun ls hl => ?_)
  refine lv_aload_n hx hb dX13_setOne_43 rfl (lv_at hl 3 rfl) ?_
  refine lv_aload_n hx hb dX13_setOne_44 rfl (lv_at hl 3 rfl) ?_
  refine mr_get (v := .ref (ad 53)) hx hb htb inX13 hown hK hP 53 (by decide) (htb _ kw_203) rfl dX13_setOne_45 ?_
  refine lv_iload hx hb dX13_setOne_48 (lv_at hl 0 rfl) ?_
  refine mr_iald hx hb hK hP 39 (k := 53) rfl rfl rfl (show vp_in z_36 60 from (iv_in h_37 (by decide))) dX13_setOne_50 ?_
  refine lv_topi (fun z_38 ez_38 => ?_)
  have hz_38 : iv 0 7 z_38 := iv_of ez_38 (MI_a hI 53 h_37 (by decide))
  refine lv_iload_n hx hb dX13_setOne_51 rfl (lv_at hl 1 rfl) ?_
  refine mr_calli (rest := []) ⟨hx, hb, hml, hown, htb⟩ (a_typeOfSetter l dC dI h0 ad cid sg gm lg z_38 z_35 hI (iv_w hz_38 (by decide)) hPR) (cwV 2 htb (gd_V kw_1260 kw_1261 kw_1262 kw_5 kw_1635) rfl rfl rfl (by decide +kernel) ⟨Nat.le_of_ble_eq_true rfl, Nat.le_of_ble_eq_true rfl⟩) rfl hl.1 rfl (Nat.le_of_ble_eq_true rfl) dX13_setOne_52 ⟨Nat.zero_le _, Nat.zero_le _⟩ hK hP hD hS hA (fun r_39 u_40 H locs hw hP hD hS => ?_)
  obtain ⟨hr_39, rfl⟩ := hw
  have hP : va_P (dC, dI) vwCl (mW h0 ad cid sg gm lg) H := hP
  have hD : va_D A (mW h0 ad cid sg gm lg) := hD
  refine lv_istore (lv' := [(5, .int r_39), (4, .int z_36), (3, .int z_35), (2, .int z_26), (0, .ref h0), (1, .int b)]) hx hb dX13_setOne_55 hl (by decide) rfl (fun ls hl => ?_)
  refine lv_iload hx hb dX13_setOne_57 (lv_at hl 0 rfl) ?_
  refine lv_iconst (v := (-1)) hx hb dX13_setOne_59 (by decide) ?_
  refine lv_icmp_ne (tgt := 69) hx hb dX13_setOne_60 (by decide) (fun c_41 => ?_) (fun c_41 => ?_)
  · have h_42 : iv 0 15 r_39 := iv_neL c_41 hr_39 (by decide)
    exact hj69 sg r_39 z_36 z_35 z_26 (iv_w h_42 (by decide)) h_37 hz_26 hvb KS_rf hI _ _ _ hP hD hS (lv_sub hl [0, 1, 2, 3, 4, 5] rfl)
  · have h_43 : iv (-1) (-1) r_39 := iv_eq c_41 hr_39 (iv_k (by decide) : iv (-1) (-1) (-1)) (by decide)
    refine lv_aload_n hx hb dX13_setOne_63 rfl (lv_at hl 4 rfl) ?_
    refine lv_bipush (v := 7) hx hb dX13_setOne_64 (by decide) ?_
    refine mr_callv (rest := []) ⟨hx, hb, hml, hown, htb⟩ (f_fails l dC dI h0 ad cid sg gm lg 7 hI (iv_w (iv_k (by decide) : iv 7 7 7) (by decide))) (cwV 1 htb (gd_V kw_1165 kw_1166 kw_1167 kw_5 kw_1605) rfl rfl rfl (by decide +kernel) ⟨Nat.le_of_ble_eq_true rfl, Nat.le_of_ble_eq_true rfl⟩) rfl hl.1 rfl (Nat.le_of_ble_eq_true rfl) dX13_setOne_66 ⟨Nat.zero_le _, Nat.zero_le _⟩ hK hP hD hS hA (fun u_45 H locs hw hP hD hS => ?_)
    obtain ⟨sgv_46, gmv_46, lgv_46, rfl, hIv_46, ksv_46, kgv_46, klv_46, fFl_r_44⟩ := hw
    obtain rfl := KS_nil kgv_46
    obtain rfl := KS_nil klv_46
    have hP : va_P (dC, dI) vwCl (mW h0 ad cid sgv_46 gm lg) H := hP
    have hD : va_D A (mW h0 ad cid sgv_46 gm lg) := hD
    exact hj69 sgv_46 r_39 z_36 z_35 z_26 (iv_w h_43 (by decide)) h_37 hz_26 hvb (KS_tr (L := [51, 52]) KS_rf ksv_46 (by decide)) hIv_46 _ _ _ hP hD hS (lv_sub hl [0, 1, 2, 3, 4, 5] rfl)
