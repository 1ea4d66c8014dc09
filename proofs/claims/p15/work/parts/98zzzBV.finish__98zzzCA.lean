section
theorem DL9_k {sg sg1 : Nat → Int32} {gm gm1 gm2 : Nat → Nat → Int32} {lg : Nat → Nat → Int64} {tp : Nat} {got : Int32} (h : DL9 sg1 gm1 lg gm2 tp got) (d : DK sg gm lg sg1 gm1 lg) (e45 : gm1 45 = gm 45) (e64 : gm1 64 = gm 64) (e65 : gm1 65 = gm 65) (e66 : gm1 66 = gm 66) (e67 : gm1 67 = gm 67) (e68 : gm1 68 = gm 68) (e70 : gm1 70 = gm 70) (e71 : gm1 71 = gm 71) (e72 : gm1 72 = gm 72) (e73 : gm1 73 = gm 73) : DL9 sg gm lg gm2 tp got := by
  have eL : elR sg1 gm1 lg tp = elR sg gm lg tp := by unfold elR; rw [e65, e64, e66, e45, mArg_k d]
  have lL : liR sg1 gm1 (elR sg gm lg tp) = liR sg gm (elR sg gm lg tp) := by unfold liR; rw [mInn_k d.1, d.1.2.1, d.1.2.2.2.1]
  have sL : slR gm1 tp = slR gm tp := by unfold slR; rw [e65, e66]
  unfold DL9 KP8 at *
  rw [eL, lL, sL, e65, e67, e68, e70, e71, e72, e73] at h
  exact h
theorem oF1_zn {wg : Nat → Nat → Int32} {b : Nat} {o : Int} {S : S9} (h : (wg 32 b).toInt = -1) : oF1 wg b o S = S := by unfold oF1; rw [if_pos h]
theorem oF1_zy {wg : Nat → Nat → Int32} {b : Nat} {o : Int} {S : S9} (h : ¬ (wg 32 b).toInt = -1) : oF1 wg b o S = zAdd S (5, o, (wg 32 b).toInt, 0) := by unfold oF1; rw [if_neg h]
theorem oF1_S {wg : Nat → Nat → Int32} {b : Nat} {o : Int} {S : S9} : zS (oF1 wg b o S) = zS S := by
  unfold oF1
  by_cases h : (wg 32 b).toInt = -1
  · rw [if_pos h]
  · rw [if_neg h, zAdd_S]
theorem BR_32 {ws : Nat → Int32} {wg : Nat → Nat → Int32} {wl : Nat → Nat → Int64} {rs sg : Nat → Int32} {rg gm : Nat → Nat → Int32} {lg : Nat → Nat → Int64} {b : Int32} (h : BRG ws wg wl rs rg lg) (hRW : rt9 gm = rg) (hRS : rs9 sg = rs) (hv : iv 0 79 b) (hb : b.toInt < (sg 41).toInt) : (ltR sg gm lg b 1768843636).toInt = (wg 32 b.toNatClampNeg).toInt := by
  have q := (h.2.1 _ (BR_lt hRS hv hb)).1.2.2.2.2.2.2.2.2.2.2.1
  rw [nI_c hv, ltR_k (DK_r hRW hRS)] at q
  exact q

set_option maxHeartbeats 4000000 in
set_option maxRecDepth 100000 in
theorem f_finish9 (l : Launch) (dC : Nat → ClassId) (dI : Nat → Nat → Nat) (h0 : Nat) (ad : Nat → Nat) (cid : Nat → ClassId) (sg : Nat → Int32) (gm : Nat → Nat → Int32) (lg : Nat → Nat → Int64) (b : Int32) (ws : Nat → Int32) (wg : Nat → Nat → Int32) (wl : Nat → Nat → Int64) (rs : Nat → Int32) (rg : Nat → Nat → Int32) (S : S9) (hI : MI sg gm) (hvb : iv 0 79 b) (hdoc : DOC sg gm lg) (hgi : GI0 sg gm lg) (hh1 : 1 ≤ (sg 63).toInt) (hpi : PIL sg gm) (hmo : MO sg gm) (hb9 : b = gm 64 (TOPn sg)) (hob : 0 ≤ (gm 69 (TOPn sg)).toInt) (how : ¬ mMny gm lg b.toNatClampNeg → 0 ≤ (gm 60 b.toNatClampNeg).toInt) (hwt : (sg 63).toInt = 1 ∨ (FR sg gm lg (TOPn sg - 1) 1 ∧ 1 ≤ (gm 65 (TOPn sg - 1)).toInt)) (hRW : rt9 gm = rg) (hRS : rs9 sg = rs) (hBR : BRG ws wg wl rs rg lg) (hRR : RR wg wl S sg gm) (hzb : zS S b.toNatClampNeg = 1) : MMv l dC dI yX13_finish wm_X13_finish ({ frames := 7, cells := 0, slots := 0, locals := 166 }) h0 ad cid [.int b] sg gm lg (fun v => ∃ (sg2 : Nat → Int32) (gm2 : Nat → Nat → Int32) (lg2 : Nat → Nat → Int64), v = (sg2, gm2, lg2) ∧ MI sg2 gm2 ∧ KS [49, 50, 63, 74] sg sg2 ∧ KS [55, 56, 57, 58, 59, 61, 62, 67, 68, 70, 71, 72, 73] gm gm2 ∧ KS [] lg lg2 ∧ (GI0 sg2 gm2 lg2) ∧ (FIN sg gm b sg2 gm2) ∧ (MO sg2 gm2) ∧ (RR wg wl (oFi wg wl b.toNatClampNeg (gm 69 (TOPn sg)).toInt S) sg2 gm2) ∧ (sg2 74 = gm 69 (TOPn sg)) ∧ (((sg 63).toInt = 1 ∧ gm2 68 = gm 68 ∧ gm2 70 = gm 70 ∧ gm2 71 = gm 71 ∧ gm2 72 = gm 72 ∧ gm2 73 = gm 73) ∨ (1 < (sg 63).toInt ∧ DL9 sg gm lg gm2 ((TOPn sg) - 1) (gm 69 (TOPn sg))))) := by
  intro sz
  refine Met.ofW (cc := cX13_finish) (maxL := 3) (ret := none) (by decide) rfl ?_
  intro p e s m args below meth c s₁ B hml hv
  obtain ⟨rfl, hsz, hP, hK, hD0⟩ := hv
  have hx := B.exec
  have hb := B.bytes
  have hr := B.returns
  have hts := atoms_spec (ws := wm_X13_finish) B.pre
  have htb := fun (w : Cond) (h : w ∈ tb) => hts w (List.mem_cons_of_mem _ h)
  have hown : s.vm.findClass RX13 = some m.cls := findClass_of_methodNamed B.named
  have hlocks := B.notSynchronized
  subst hsz
  have hD := hD0.self (sz := s.heap.size)
  generalize hAe : va_A (mW h0 ad cid sg gm lg) s.heap.size = A at hD ⊢
  have hA : ∀ q : Nat, s.heap.size ≤ q → A q := fun q h => by rw [← hAe]; exact Or.inr h
  have hS : va_S A s.heap s.heap [] := va_S.rf
  have hl := lv_entry ([.ref h0, .int b]) (n := 3) (Nat.le_of_ble_eq_true rfl)
  rw [lg_entry_eq]
  generalize (lg_sl ([.ref h0, .int b]) ++ List.replicate (3 - (lg_sl ([.ref h0, .int b])).length) Slot.unset).toArray = ls at hl ⊢
  have hl : lv_has ls 3 [(0, .ref h0), (1, .int b)] := hl
  have h63 : iv 1 80 (sg 63) := ⟨hh1, (show iv 0 80 (sg 63) from MI_s hI 63).2⟩
  have hpt := PIL_top hpi hh1
  rw [← hb9] at hpt
  have hb80 : b.toNatClampNeg < 80 := (by have := iv_cl hvb (by decide); have := hvb.2; omega)
  have h610 := GI0_m0 hgi hb80 hpt.1
  have hmd : iv 0 79 (sg 50) := ⟨(show iv 0 80 (sg 50) from MI_s hI 50).1, by have := hgi.2.2; have := (cnt1_up h610 80 hb80).2; omega⟩
  have hj112 : ∀ (sg_j112 : Nat → Int32) (gm_j112 : Nat → Nat → Int32) (x2_112 : Int32) (_ : iv 0 79 x2_112) (_ : iv 0 79 b) (_ : KS [49, 50, 63, 74] sg sg_j112) (_ : KS [55, 56, 57, 58, 59, 61, 62, 67, 68, 70, 71, 72, 73] gm gm_j112) (_ : MI sg_j112 gm_j112) (_ : GI0 sg_j112 gm_j112 lg) (_ : FIN sg gm b sg_j112 gm_j112) (_ : MO sg_j112 gm_j112) (_ : RR wg wl (oFi wg wl b.toNatClampNeg (gm 69 (TOPn sg)).toInt S) sg_j112 gm_j112) (_ : sg_j112 74 = gm 69 (TOPn sg)) (_ : ((sg 63).toInt = 1 ∧ gm_j112 68 = gm 68 ∧ gm_j112 70 = gm 70 ∧ gm_j112 71 = gm 71 ∧ gm_j112 72 = gm 72 ∧ gm_j112 73 = gm 73) ∨ (1 < (sg 63).toInt ∧ DL9 sg gm lg gm_j112 ((TOPn sg) - 1) (gm 69 (TOPn sg)))) (H : Heap) (locs : List Loc) (ls : Array Slot), va_P (dC, dI) vwCl (mW h0 ad cid sg_j112 gm_j112 lg) H → va_D A (mW h0 ad cid sg_j112 gm_j112 lg) → va_S A s.heap H locs → lv_has ls 3 [(2, .int x2_112), (0, .ref h0), (1, .int b)] → W p l e (headSpec wm_X13_finish ({ frames := 7, cells := 0, slots := 0, locals := 166 })).room s m ([.ref h0, .int b] : List Value).toArray below meth c H locs 0 0 (MQ below (va_Qv (fun v => ∃ (sg2 : Nat → Int32) (gm2 : Nat → Nat → Int32) (lg2 : Nat → Nat → Int64), v = (sg2, gm2, lg2) ∧ MI sg2 gm2 ∧ KS [49, 50, 63, 74] sg sg2 ∧ KS [55, 56, 57, 58, 59, 61, 62, 67, 68, 70, 71, 72, 73] gm gm2 ∧ KS [] lg lg2 ∧ (GI0 sg2 gm2 lg2) ∧ (FIN sg gm b sg2 gm2) ∧ (MO sg2 gm2) ∧ (RR wg wl (oFi wg wl b.toNatClampNeg (gm 69 (TOPn sg)).toInt S) sg2 gm2) ∧ (sg2 74 = gm 69 (TOPn sg)) ∧ (((sg 63).toInt = 1 ∧ gm2 68 = gm 68 ∧ gm2 70 = gm 70 ∧ gm2 71 = gm 71 ∧ gm2 72 = gm 72 ∧ gm2 73 = gm 73) ∨ (1 < (sg 63).toInt ∧ DL9 sg gm lg gm2 ((TOPn sg) - 1) (gm 69 (TOPn sg))))) (MB dC dI h0 ad cid A) A) ([.ref h0, .int b] : List Value).toArray s 0 0 A) (F0 m 112 ls []) := by
    intro sg_j112 gm_j112 x2_112 hx2_112 hsx1_112 hks_j112 hkg_j112 hI_j112 hgi hfn hmo hR112 hg112 hd112 H locs ls hP hD hS hl
    exact W.vret hx hb hr (fun t ht hW => ⟨⟨(sg_j112, gm_j112, lg), rfl, ⟨sg_j112, gm_j112, lg, rfl, hI_j112, (KS_tr (L := [49, 50, 63, 74]) KS_rf hks_j112 (by decide)), (KS_tr (L := [55, 56, 57, 58, 59, 61, 62, 67, 68, 70, 71, 72, 73]) KS_rf hkg_j112 (by decide)), KS_rf, (hgi), (hfn), (hmo), (hR112), (hg112), (hd112)⟩, by rw [ht]; exact hP, va_K.moved hW.alike hK, hD⟩, hS.F ht⟩) hS.2.2 dX13_finish_112
  have hj81 : ∀ (sg_j81 : Nat → Int32) (gm_j81 : Nat → Nat → Int32) (x2_81 : Int32) (_ : iv 0 79 x2_81) (_ : iv 0 79 b) (_ : KS [49, 50] sg sg_j81) (_ : KS [55, 56, 57, 58, 59, 61, 62] gm gm_j81) (_ : MI sg_j81 gm_j81) (_ : x2_81.toNatClampNeg = TOPn sg) (_ : GI0 sg_j81 gm_j81 lg) (_ : MO sg_j81 gm_j81) (_ : gm_j81 62 = upd (gm 62) b.toNatClampNeg 0) (_ : RR wg wl (oFi wg wl b.toNatClampNeg (gm 69 (TOPn sg)).toInt S) sg_j81 gm_j81) (H : Heap) (locs : List Loc) (ls : Array Slot), va_P (dC, dI) vwCl (mW h0 ad cid sg_j81 gm_j81 lg) H → va_D A (mW h0 ad cid sg_j81 gm_j81 lg) → va_S A s.heap H locs → lv_has ls 3 [(2, .int x2_81), (0, .ref h0), (1, .int b)] → W p l e (headSpec wm_X13_finish ({ frames := 7, cells := 0, slots := 0, locals := 166 })).room s m ([.ref h0, .int b] : List Value).toArray below meth c H locs 0 0 (MQ below (va_Qv (fun v => ∃ (sg2 : Nat → Int32) (gm2 : Nat → Nat → Int32) (lg2 : Nat → Nat → Int64), v = (sg2, gm2, lg2) ∧ MI sg2 gm2 ∧ KS [49, 50, 63, 74] sg sg2 ∧ KS [55, 56, 57, 58, 59, 61, 62, 67, 68, 70, 71, 72, 73] gm gm2 ∧ KS [] lg lg2 ∧ (GI0 sg2 gm2 lg2) ∧ (FIN sg gm b sg2 gm2) ∧ (MO sg2 gm2) ∧ (RR wg wl (oFi wg wl b.toNatClampNeg (gm 69 (TOPn sg)).toInt S) sg2 gm2) ∧ (sg2 74 = gm 69 (TOPn sg)) ∧ (((sg 63).toInt = 1 ∧ gm2 68 = gm 68 ∧ gm2 70 = gm 70 ∧ gm2 71 = gm 71 ∧ gm2 72 = gm 72 ∧ gm2 73 = gm 73) ∨ (1 < (sg 63).toInt ∧ DL9 sg gm lg gm2 ((TOPn sg) - 1) (gm 69 (TOPn sg))))) (MB dC dI h0 ad cid A) A) ([.ref h0, .int b] : List Value).toArray s 0 0 A) (F0 m 81 ls []) := by
    intro sg_j81 gm_j81 x2_81 hx2_81 hsx1_81 hks_j81 hkg_j81 hI_j81 htop hgi hmo hm62 hR81 H locs ls hP hD hS hl
    refine lv_aload_n hx hb dX13_finish_81 rfl (lv_at hl 1 rfl) ?_
    refine lv_aload_n hx hb dX13_finish_82 rfl (lv_at hl 1 rfl) ?_
    refine mr_get (v := .ref (ad 69)) hx hb htb inX13 hown hK hP 69 (by decide) (htb _ kw_1096) rfl dX13_finish_83 ?_
    refine lv_iload_n hx hb dX13_finish_86 rfl (lv_at hl 0 rfl) ?_
    refine mr_iald hx hb hK hP 54 (k := 69) rfl rfl rfl (show vp_in x2_81 81 from (iv_in hx2_81 (by decide))) dX13_finish_87 ?_
    refine lv_topi (fun z_1 ez_1 => ?_)
    have hz_1 : iv (-1) 59 z_1 := iv_of ez_1 (MI_a hI_j81 69 hx2_81 (by decide))
    have ez_1 := ez_1.trans (congrFun (hkg_j81 69 (by decide)) _)
    have h_2 : iv 0 59 z_1 := ⟨by have q9 := ez_1; rw [htop] at q9; rw [q9]; exact hob, (hz_1).2⟩
    refine ma_put (x := z_1) hx hb htb inX13 hown hK hP hD hS 74 (by decide) (by decide) (htb _ kw_1101) rfl rfl rfl dX13_finish_88 (fun sg_3 H locs esg_3 hP hD hS => ?_)
    have hI_sg_3 := MI_put hI_j81 esg_3 h_2 (by decide)
    refine lv_aload_n hx hb dX13_finish_91 rfl (lv_at hl 1 rfl) ?_
    refine lv_dup hx hb dX13_finish_92 rfl ?_
    refine mr_get (v := .int (sg_3 63)) hx hb htb inX13 hown hK hP 63 (by decide) (htb _ kw_1090) rfl dX13_finish_93 ?_
    refine lv_topi (fun z_4 ez_4 => ?_)
    obtain rfl : (sg 63) = z_4 := (ez_4.trans (Eq.trans (up_ne esg_3 (by decide)) (hks_j81 63 (by decide)))).symm
    refine lv_iconst (v := 1) hx hb dX13_finish_96 (by decide) ?_
    refine lv_isub hx hb dX13_finish_97 ?_
    refine lv_topi (fun z_5 ez_5 => ?_)
    have hz_5 : iv 0 79 z_5 := iv_of ez_5 (iv_sub h63 (iv_k (by decide) : iv 1 1 1) (by decide))
    have tz_5 : z_5.toInt = ((sg 63) : Int32).toInt - 1 := by rw [ez_5]; exact iv_subE h63 (iv_k (by decide) : iv 1 1 1) (by decide)
    refine ma_put (x := z_5) hx hb htb inX13 hown hK hP hD hS 63 (by decide) (by decide) (htb _ kw_1090) rfl rfl rfl dX13_finish_98 (fun sg_6 H locs esg_6 hP hD hS => ?_)
    have hI_sg_6 := MI_put hI_sg_3 esg_6 hz_5 (by decide)
    refine lv_aload_n hx hb dX13_finish_101 rfl (lv_at hl 1 rfl) ?_
    refine mr_get (v := .int (sg_6 63)) hx hb htb inX13 hown hK hP 63 (by decide) (htb _ kw_1090) rfl dX13_finish_102 ?_
    refine lv_topi (fun z_7 ez_7 => ?_)
    obtain rfl : z_5 = z_7 := (ez_7.trans (up_at esg_6)).symm
    refine lv_if_le (tgt := 112) hx hb dX13_finish_105 (by decide) (fun c_8 => ?_) (fun c_8 => ?_)
    · have h_9 : iv 0 0 z_5 := iv_leL c_8 hz_5 (iv_k (by decide) : iv 0 0 0) (by decide)
      exact hj112 sg_6 gm_j81 x2_81 hx2_81 hsx1_81 (KS_up (KS_up (KS_tr (L := [49, 50, 63, 74]) KS_rf hks_j81 (by decide)) esg_3 (by decide)) esg_6 (by decide)) (KS_tr (L := [55, 56, 57, 58, 59, 61, 62, 67, 68, 70, 71, 72, 73]) KS_rf hkg_j81 (by decide)) hI_sg_6 (GI0_of hgi (show KS [63, 74] sg_j81 sg_6 from (KS_up (KS_up KS_rf esg_3 (by decide)) esg_6 (by decide))) (show KS [] gm_j81 gm_j81 from KS_rf) (show KS [] lg lg from KS_rf) (by decide) (by decide) (by decide) (by decide) (by decide) (by decide)) (⟨by have := i32_0; have := i32_1; have := i32_2; have := i32_m1; have := congrArg Int32.toInt (show sg_6 63 = z_5 from up_at esg_6); have := (h_9).1; have := (h_9).2; have := (hsx1_81).1; have := (hsx1_81).2; have := (h63).1; have := (h63).2; have := (hmd).1; have := (hmd).2; have := (hx2_81).1; have := (hx2_81).2; have := (h_2).1; have := (h_2).2; omega, ((show KS [] gm_j81 gm_j81 from KS_rf) 62 (by decide)).trans hm62, Or.inl ⟨by have := i32_0; have := i32_1; have := i32_2; have := i32_m1; have := congrArg Int32.toInt (show sg_6 63 = z_5 from up_at esg_6); have := (h_9).1; have := (h_9).2; have := (hsx1_81).1; have := (hsx1_81).2; have := (h63).1; have := (h63).2; have := (hmd).1; have := (hmd).2; have := (hx2_81).1; have := (hx2_81).2; have := (h_2).1; have := (h_2).2; omega, (hkg_j81 67 (by decide))⟩⟩) (MO_of hmo (show KS [63, 74] sg_j81 sg_6 from (KS_up (KS_up KS_rf esg_3 (by decide)) esg_6 (by decide))) (show KS [] gm_j81 gm_j81 from KS_rf) (by decide) (by decide)) ((RR_ks hR81 (show KS [63, 74] sg_j81 sg_6 from (KS_up (KS_up KS_rf esg_3 (by decide)) esg_6 (by decide))) (show KS [] gm_j81 gm_j81 from KS_rf) (by decide) (by decide))) (((((show KS [63] sg_3 sg_6 from (KS_up KS_rf esg_6 (by decide))) 74 (by decide)).trans (up_at esg_3)).trans (by rw [ez_1, htop]))) (Or.inl ⟨(by have := hh1; have := i32_0; have := i32_1; have := i32_2; have := i32_m1; have := congrArg Int32.toInt (show sg_6 63 = z_5 from up_at esg_6); have := (h_9).1; have := (h_9).2; have := (hsx1_81).1; have := (hsx1_81).2; have := (h63).1; have := (h63).2; have := (hmd).1; have := (hmd).2; have := (hx2_81).1; have := (hx2_81).2; have := (h_2).1; have := (h_2).2; omega), (hkg_j81 68 (by decide)), (hkg_j81 70 (by decide)), (hkg_j81 71 (by decide)), (hkg_j81 72 (by decide)), (hkg_j81 73 (by decide))⟩) _ _ _ hP hD hS (lv_sub hl [0, 1, 2] rfl)
    · have h_10 : iv 1 79 z_5 := iv_ltR (i32_lt c_8) (iv_k (by decide) : iv 0 0 0) hz_5 (by decide)
      refine lv_aload_n hx hb dX13_finish_108 rfl (lv_at hl 1 rfl) ?_
      have hT1 : TOPn sg_6 = TOPn sg - 1 := (by have := cl_0 (x := sg 63) (by omega); have q9 : (sg_6 63).toInt = (sg 63).toInt - 1 := (by have := i32_0; have := i32_1; have := i32_2; have := i32_m1; have := congrArg Int32.toInt (show sg_6 63 = z_5 from up_at esg_6); have := (h_10).1; have := (h_10).2; have := (hsx1_81).1; have := (hsx1_81).2; have := (h63).1; have := (h63).2; have := (hmd).1; have := (hmd).2; have := (hx2_81).1; have := (hx2_81).2; have := (h_2).1; have := (h_2).2; omega); have := cl_0 (x := sg_6 63) (by omega); unfold TOPn; omega)
      have hwu := hwt.resolve_left (by have := i32_0; have := i32_1; have := i32_2; have := i32_m1; have := congrArg Int32.toInt (show sg_6 63 = z_5 from up_at esg_6); have := (h_10).1; have := (h_10).2; have := (hsx1_81).1; have := (hsx1_81).2; have := (h63).1; have := (h63).2; have := (hmd).1; have := (hmd).2; have := (hx2_81).1; have := (hx2_81).2; have := (h_2).1; have := (h_2).2; omega)
      have hTl : TOPn sg - 1 < (sg 63).toNatClampNeg := (by have := cl_0 (x := sg 63) (by omega); unfold TOPn; omega)
      refine mr_callv (rest := []) ⟨hx, hb, hml, hown, htb⟩ (f_deliver9 l dC dI h0 ad cid sg_6 gm_j81 lg hI_sg_6 (DOC_of hdoc (show KS [49, 50, 63, 74] sg sg_6 from (KS_up (KS_up (KS_tr (L := [49, 50, 63, 74]) KS_rf hks_j81 (by decide)) esg_3 (by decide)) esg_6 (by decide))) (show KS [55, 56, 57, 58, 59, 61, 62] gm gm_j81 from (KS_tr (L := [55, 56, 57, 58, 59, 61, 62]) KS_rf hkg_j81 (by decide))) (show KS [] lg lg from KS_rf) (by decide) (by decide) (by decide) (by decide)) (VAL_k ((show KS [] gm_j81 gm_j81 from KS_rf) 70 (by decide)) ((show KS [] gm_j81 gm_j81 from KS_rf) 71 (by decide)) ((show KS [] gm_j81 gm_j81 from KS_rf) 72 (by decide)) ((show KS [] gm_j81 gm_j81 from KS_rf) 73 (by decide)) hgi.1) (by have := i32_0; have := i32_1; have := i32_2; have := i32_m1; have := congrArg Int32.toInt (show sg_6 63 = z_5 from up_at esg_6); have := (h_10).1; have := (h_10).2; have := (hsx1_81).1; have := (hsx1_81).2; have := (h63).1; have := (h63).2; have := (hmd).1; have := (hmd).2; have := (hx2_81).1; have := (hx2_81).2; have := (h_2).1; have := (h_2).2; omega) (by have := i32_0; have := i32_1; have := i32_2; have := i32_m1; have := congrArg Int32.toInt (show sg_6 74 = sg_3 74 from up_ne esg_6 (by decide)); have := congrArg Int32.toInt (show sg_3 74 = z_1 from up_at esg_3); have := (h_2).1; have := (h_2).2; have := (hsx1_81).1; have := (hsx1_81).2; have := (h63).1; have := (h63).2; have := (hmd).1; have := (hmd).2; have := (hx2_81).1; have := (hx2_81).2; have := (h_10).1; have := (h_10).2; omega) (by rw [hT1]; exact FR_mv hwu.1 (DK_of (show KS [49, 50, 63, 74] sg sg_6 from (KS_up (KS_up (KS_tr (L := [49, 50, 63, 74]) KS_rf hks_j81 (by decide)) esg_3 (by decide)) esg_6 (by decide))) (show KS [55, 56, 57, 58, 59, 61, 62] gm gm_j81 from (KS_tr (L := [55, 56, 57, 58, 59, 61, 62]) KS_rf hkg_j81 (by decide))) (show KS [] lg lg from KS_rf) (by decide) (by decide) (by decide)) (hkg_j81 44 (by decide)) (hkg_j81 45 (by decide)) rfl (fun k q9 => by rw [(hkg_j81 60 (by decide))]; exact q9) (congrFun (hkg_j81 64 (by decide)) _) (congrFun (hkg_j81 65 (by decide)) _) (congrFun (hkg_j81 66 (by decide)) _) (congrFun (hkg_j81 67 (by decide)) _) (congrFun (hkg_j81 69 (by decide)) _)) (by rw [hT1, (hkg_j81 65 (by decide))]; exact hwu.2) (by rw [hT1, (hkg_j81 64 (by decide)), (Eq.trans (Eq.trans (up_ne esg_6 (by decide)) (up_ne esg_3 (by decide))) (hks_j81 41 (by decide)))]; exact ⟨(hpi _ hTl).2.1, (hpi _ hTl).2.2.1⟩) ((show iv 0 6 _ from hI_sg_6.2 67 _ (show _ < 81 from by rw [hT1]; unfold TOPn; have := cl_0 (x := sg 63) (by omega); have := h63.2; omega)).1)) (cwV 0 htb (gd_V kw_1255 kw_1256 kw_116 kw_160 kw_1626) rfl rfl rfl (by decide +kernel) ⟨Nat.le_of_ble_eq_true rfl, Nat.le_of_ble_eq_true rfl⟩) rfl hl.1 rfl (Nat.le_of_ble_eq_true rfl) dX13_finish_109 ⟨Nat.zero_le _, Nat.zero_le _⟩ hK hP hD hS hA (fun u_12 H locs hw hP hD hS => ?_)
      obtain ⟨sgv_13, gmv_13, lgv_13, rfl, hIv_13, ksv_13, kgv_13, klv_13, fV2_r_11, fDl_r_11, fD9_r_11⟩ := hw
      obtain rfl := KS_nil ksv_13
      obtain rfl := KS_nil klv_13
      have hP : va_P (dC, dI) vwCl (mW h0 ad cid sg_6 gmv_13 lg) H := hP
      have hD : va_D A (mW h0 ad cid sg_6 gmv_13 lg) := hD
      exact hj112 sg_6 gmv_13 x2_81 hx2_81 hsx1_81 (KS_up (KS_up (KS_tr (L := [49, 50, 63, 74]) KS_rf hks_j81 (by decide)) esg_3 (by decide)) esg_6 (by decide)) (KS_tr (L := [55, 56, 57, 58, 59, 61, 62, 67, 68, 70, 71, 72, 73]) (KS_tr (L := [55, 56, 57, 58, 59, 61, 62, 67, 68, 70, 71, 72, 73]) KS_rf hkg_j81 (by decide)) kgv_13 (by decide)) hIv_13 (GI0_k hgi (DK_of (show KS [63, 74] sg_j81 sg_6 from (KS_up (KS_up KS_rf esg_3 (by decide)) esg_6 (by decide))) (show KS [67, 68, 70, 71, 72, 73] gm_j81 gmv_13 from (KS_tr (L := [67, 68, 70, 71, 72, 73]) KS_rf kgv_13 (by decide))) (show KS [] lg lg from KS_rf) (by decide) (by decide) (by decide)) ((show KS [] lg lg from KS_rf) 1 (by decide)) ((show KS [67, 68, 70, 71, 72, 73] gm_j81 gmv_13 from (KS_tr (L := [67, 68, 70, 71, 72, 73]) KS_rf kgv_13 (by decide))) 60 (by decide)) ((show KS [67, 68, 70, 71, 72, 73] gm_j81 gmv_13 from (KS_tr (L := [67, 68, 70, 71, 72, 73]) KS_rf kgv_13 (by decide))) 61 (by decide)) ((show KS [67, 68, 70, 71, 72, 73] gm_j81 gmv_13 from (KS_tr (L := [67, 68, 70, 71, 72, 73]) KS_rf kgv_13 (by decide))) 62 (by decide)) (fV2_r_11) ((show KS [63, 74] sg_j81 sg_6 from (KS_up (KS_up KS_rf esg_3 (by decide)) esg_6 (by decide))) 50 (by decide))) (⟨by have := i32_0; have := i32_1; have := i32_2; have := i32_m1; have := congrArg Int32.toInt (show sg_6 63 = z_5 from up_at esg_6); have := (h_10).1; have := (h_10).2; have := (hsx1_81).1; have := (hsx1_81).2; have := (h63).1; have := (h63).2; have := (hmd).1; have := (hmd).2; have := (hx2_81).1; have := (hx2_81).2; have := (h_2).1; have := (h_2).2; omega, ((show KS [67, 68, 70, 71, 72, 73] gm_j81 gmv_13 from (KS_tr (L := [67, 68, 70, 71, 72, 73]) KS_rf kgv_13 (by decide))) 62 (by decide)).trans hm62, Or.inr (DLV_k fDl_r_11 rfl (hkg_j81 65 (by decide)) (hkg_j81 67 (by decide)))⟩) (MO_of hmo (show KS [63, 74] sg_j81 sg_6 from (KS_up (KS_up KS_rf esg_3 (by decide)) esg_6 (by decide))) (show KS [67, 68, 70, 71, 72, 73] gm_j81 gmv_13 from (KS_tr (L := [67, 68, 70, 71, 72, 73]) KS_rf kgv_13 (by decide))) (by decide) (by decide)) ((RR_ks hR81 (show KS [63, 74] sg_j81 sg_6 from (KS_up (KS_up KS_rf esg_3 (by decide)) esg_6 (by decide))) (show KS [67, 68, 70, 71, 72, 73] gm_j81 gmv_13 from (KS_tr (L := [67, 68, 70, 71, 72, 73]) KS_rf kgv_13 (by decide))) (by decide) (by decide))) (((((show KS [63] sg_3 sg_6 from (KS_up KS_rf esg_6 (by decide))) 74 (by decide)).trans (up_at esg_3)).trans (by rw [ez_1, htop]))) (Or.inr ⟨(by have := i32_0; have := i32_1; have := i32_2; have := i32_m1; have := congrArg Int32.toInt (show sg_6 63 = z_5 from up_at esg_6); have := (h_10).1; have := (h_10).2; have := (hsx1_81).1; have := (hsx1_81).2; have := (h63).1; have := (h63).2; have := (hmd).1; have := (hmd).2; have := (hx2_81).1; have := (hx2_81).2; have := (h_2).1; have := (h_2).2; omega), (by have q9 := fD9_r_11; rw [hT1, (show sg_6 74 = gm 69 (TOPn sg) from ((((show KS [63] sg_3 sg_6 from (KS_up KS_rf esg_6 (by decide))) 74 (by decide)).trans (up_at esg_3)).trans (by rw [ez_1, htop])))] at q9; exact DL9_k q9 (DK_of (show KS [49, 50, 63, 74] sg sg_6 from (KS_up (KS_up (KS_tr (L := [49, 50, 63, 74]) KS_rf hks_j81 (by decide)) esg_3 (by decide)) esg_6 (by decide))) (show KS [55, 56, 57, 58, 59, 61, 62] gm gm_j81 from (KS_tr (L := [55, 56, 57, 58, 59, 61, 62]) KS_rf hkg_j81 (by decide))) (show KS [] lg lg from KS_rf) (by decide) (by decide) (by decide)) (hkg_j81 45 (by decide)) (hkg_j81 64 (by decide)) (hkg_j81 65 (by decide)) (hkg_j81 66 (by decide)) (hkg_j81 67 (by decide)) (hkg_j81 68 (by decide)) (hkg_j81 70 (by decide)) (hkg_j81 71 (by decide)) (hkg_j81 72 (by decide)) (hkg_j81 73 (by decide)))⟩) _ _ _ hP hD hS (lv_sub hl [0, 1, 2] rfl)
  have hj39 : ∀ (sg_j39 : Nat → Int32) (gm_j39 : Nat → Nat → Int32) (x2_39 : Int32) (_ : iv 0 79 x2_39) (_ : iv 0 79 b) (_ : KS [49] sg sg_j39) (_ : KS [55, 56, 57, 58] gm gm_j39) (_ : MI sg_j39 gm_j39) (_ : x2_39.toNatClampNeg = TOPn sg) (_ : RR wg wl (oF1 wg b.toNatClampNeg (gm 69 (TOPn sg)).toInt S) sg_j39 gm_j39) (H : Heap) (locs : List Loc) (ls : Array Slot), va_P (dC, dI) vwCl (mW h0 ad cid sg_j39 gm_j39 lg) H → va_D A (mW h0 ad cid sg_j39 gm_j39 lg) → va_S A s.heap H locs → lv_has ls 3 [(2, .int x2_39), (0, .ref h0), (1, .int b)] → W p l e (headSpec wm_X13_finish ({ frames := 7, cells := 0, slots := 0, locals := 166 })).room s m ([.ref h0, .int b] : List Value).toArray below meth c H locs 0 0 (MQ below (va_Qv (fun v => ∃ (sg2 : Nat → Int32) (gm2 : Nat → Nat → Int32) (lg2 : Nat → Nat → Int64), v = (sg2, gm2, lg2) ∧ MI sg2 gm2 ∧ KS [49, 50, 63, 74] sg sg2 ∧ KS [55, 56, 57, 58, 59, 61, 62, 67, 68, 70, 71, 72, 73] gm gm2 ∧ KS [] lg lg2 ∧ (GI0 sg2 gm2 lg2) ∧ (FIN sg gm b sg2 gm2) ∧ (MO sg2 gm2) ∧ (RR wg wl (oFi wg wl b.toNatClampNeg (gm 69 (TOPn sg)).toInt S) sg2 gm2) ∧ (sg2 74 = gm 69 (TOPn sg)) ∧ (((sg 63).toInt = 1 ∧ gm2 68 = gm 68 ∧ gm2 70 = gm 70 ∧ gm2 71 = gm 71 ∧ gm2 72 = gm 72 ∧ gm2 73 = gm 73) ∨ (1 < (sg 63).toInt ∧ DL9 sg gm lg gm2 ((TOPn sg) - 1) (gm 69 (TOPn sg))))) (MB dC dI h0 ad cid A) A) ([.ref h0, .int b] : List Value).toArray s 0 0 A) (F0 m 39 ls []) := by
    intro sg_j39 gm_j39 x2_39 hx2_39 hsx1_39 hks_j39 hkg_j39 hI_j39 htop hR39 H locs ls hP hD hS hl
    refine lv_aload_n hx hb dX13_finish_39 rfl (lv_at hl 1 rfl) ?_
    refine mr_get (v := .ref (ad 62)) hx hb htb inX13 hown hK hP 62 (by decide) (htb _ kw_1089) rfl dX13_finish_40 ?_
    refine lv_iload_n hx hb dX13_finish_43 rfl (lv_at hl 2 rfl) ?_
    refine lv_iconst (v := 0) hx hb dX13_finish_44 (by decide) ?_
    refine ma_zast (x := 0) hx hb hK hP hD hS 48 (k := 62) rfl rfl rfl (show vp_in b 80 from (iv_in hsx1_39 (by decide))) dX13_finish_45 (fun gm_14 H locs egm_14 hP hD hS => ?_)
    have hI_gm_14 := MI_st hI_j39 egm_14 (iv_of (iv_vb (iv_w (iv_k (by decide) : iv 0 0 0) (by decide))) (iv_k (by decide) : iv 0 0 0)) (by decide)
    refine lv_aload_n hx hb dX13_finish_46 rfl (lv_at hl 1 rfl) ?_
    refine lv_iload_n hx hb dX13_finish_47 rfl (lv_at hl 2 rfl) ?_
    refine mr_calli (rest := []) ⟨hx, hb, hml, hown, htb⟩ (f_isMany l dC dI h0 ad cid sg_j39 gm_14 lg b hI_gm_14 hsx1_39) (cwV 1 htb (gd_V kw_1243 kw_1244 kw_110 kw_160 kw_1620) rfl rfl rfl (by decide +kernel) ⟨Nat.le_of_ble_eq_true rfl, Nat.le_of_ble_eq_true rfl⟩) rfl hl.1 rfl (Nat.le_of_ble_eq_true rfl) dX13_finish_48 ⟨Nat.zero_le _, Nat.zero_le _⟩ hK hP hD hS hA (fun r_15 u_16 H locs hw hP hD hS => ?_)
    obtain ⟨hr_15, fY_r_15, rfl⟩ := hw
    have hP : va_P (dC, dI) vwCl (mW h0 ad cid sg_j39 gm_14 lg) H := hP
    have hD : va_D A (mW h0 ad cid sg_j39 gm_14 lg) := hD
    refine lv_if_ne (tgt := 81) hx hb dX13_finish_51 (by decide) (fun c_17 => ?_) (fun c_17 => ?_)
    · have h_18 : iv 1 1 r_15 := iv_neL c_17 hr_15 (by decide)
      exact hj81 sg_j39 gm_14 x2_39 hx2_39 hsx1_39 (KS_tr (L := [49, 50]) KS_rf hks_j39 (by decide)) (KS_up (KS_tr (L := [55, 56, 57, 58, 59, 61, 62]) KS_rf hkg_j39 (by decide)) egm_14 (by decide)) hI_gm_14 (htop) (GI0_un hgi (DK_of (show KS [49] sg sg_j39 from (KS_tr (L := [49]) KS_rf hks_j39 (by decide))) (show KS [55, 56, 57, 58, 62] gm gm_14 from (KS_up (KS_tr (L := [55, 56, 57, 58, 62]) KS_rf hkg_j39 (by decide)) egm_14 (by decide))) (show KS [] lg lg from KS_rf) (by decide) (by decide) (by decide)) rfl (Eq.trans (up_ne egm_14 (by decide)) (hkg_j39 60 (by decide))) (Eq.trans (up_ne egm_14 (by decide)) (hkg_j39 61 (by decide))) (show gm_14 62 = upd (gm 62) (b : Int32).toNatClampNeg (vp_nar .boolean 0) from ((up_at egm_14).trans (by rw [show gm_j39 62 = gm 62 from ((hkg_j39 62 (by decide)).trans rfl)]))) (Eq.trans (up_ne egm_14 (by decide)) (hkg_j39 70 (by decide))) (Eq.trans (up_ne egm_14 (by decide)) (hkg_j39 71 (by decide))) (Eq.trans (up_ne egm_14 (by decide)) (hkg_j39 72 (by decide))) (Eq.trans (up_ne egm_14 (by decide)) (hkg_j39 73 (by decide))) (hks_j39 50 (by decide))) (MO_k (hks_j39 50 (by decide)) (hks_j39 41 (by decide)) (Eq.trans (up_ne egm_14 (by decide)) (hkg_j39 59 (by decide))) hmo) ((show gm_14 62 = upd (gm 62) (b : Int32).toNatClampNeg (vp_nar .boolean 0) from ((up_at egm_14).trans (by rw [show gm_j39 62 = gm 62 from ((hkg_j39 62 (by decide)).trans rfl)])))) ((by unfold oFi; exact RR_fm hR39 ((show KS [] sg_j39 sg_j39 from KS_rf) 41 (by decide)) ((show KS [] sg_j39 sg_j39 from KS_rf) 48 (by decide)) ((show KS [] sg_j39 sg_j39 from KS_rf) 49 (by decide)) ((show KS [] sg_j39 sg_j39 from KS_rf) 50 (by decide)) ((show KS [62] gm_j39 gm_14 from (KS_up KS_rf egm_14 (by decide))) 53 (by decide)) ((show KS [62] gm_j39 gm_14 from (KS_up KS_rf egm_14 (by decide))) 54 (by decide)) ((show KS [62] gm_j39 gm_14 from (KS_up KS_rf egm_14 (by decide))) 55 (by decide)) ((show KS [62] gm_j39 gm_14 from (KS_up KS_rf egm_14 (by decide))) 56 (by decide)) ((show KS [62] gm_j39 gm_14 from (KS_up KS_rf egm_14 (by decide))) 57 (by decide)) ((show KS [62] gm_j39 gm_14 from (KS_up KS_rf egm_14 (by decide))) 58 (by decide)) ((show KS [62] gm_j39 gm_14 from (KS_up KS_rf egm_14 (by decide))) 59 (by decide)) ((show KS [62] gm_j39 gm_14 from (KS_up KS_rf egm_14 (by decide))) 60 (by decide)) ((show KS [62] gm_j39 gm_14 from (KS_up KS_rf egm_14 (by decide))) 61 (by decide)) ((Eq.refl _).trans (up_at egm_14)) rfl rfl ((BR_many hBR hRW hRS hvb hpt.2.2).mp (by have q9 := (fY_r_15.resolve_left (fun q8 => absurd q8.1 (by have := i32_0; have := i32_1; have := i32_2; have := i32_m1; have := (hsx1_39).1; have := (hsx1_39).2; have := (h63).1; have := (h63).2; have := (hmd).1; have := (hmd).2; have := (hx2_39).1; have := (hx2_39).2; have := (h_18).1; have := (h_18).2; omega))).2; rw [mMny_k (sg := sg) (gm := gm) (lg := lg) (DK_of (show KS [49] sg sg_j39 from (KS_tr (L := [49]) KS_rf hks_j39 (by decide))) (show KS [55, 56, 57, 58, 62] gm gm_14 from (KS_up (KS_tr (L := [55, 56, 57, 58, 62]) KS_rf hkg_j39 (by decide)) egm_14 (by decide))) (show KS [] lg lg from KS_rf) (by decide) (by decide) (by decide)) rfl] at q9; exact q9)))) _ _ _ hP hD hS (lv_sub hl [0, 1, 2] rfl)
    · have h_19 : iv 0 0 r_15 := iv_eq c_17 hr_15 (iv_k (by decide) : iv 0 0 0) (by decide)
      refine lv_aload_n hx hb dX13_finish_54 rfl (lv_at hl 1 rfl) ?_
      refine mr_get (v := .ref (ad 61)) hx hb htb inX13 hown hK hP 61 (by decide) (htb _ kw_1088) rfl dX13_finish_55 ?_
      refine lv_iload_n hx hb dX13_finish_58 rfl (lv_at hl 2 rfl) ?_
      refine lv_iconst (v := 1) hx hb dX13_finish_59 (by decide) ?_
      refine ma_zast (x := 1) hx hb hK hP hD hS 47 (k := 61) rfl rfl rfl (show vp_in b 80 from (iv_in hsx1_39 (by decide))) dX13_finish_60 (fun gm_20 H locs egm_20 hP hD hS => ?_)
      have hI_gm_20 := MI_st hI_gm_14 egm_20 (iv_of (iv_vb (iv_w (iv_k (by decide) : iv 1 1 1) (by decide))) (iv_k (by decide) : iv 1 1 1)) (by decide)
      refine lv_aload_n hx hb dX13_finish_61 rfl (lv_at hl 1 rfl) ?_
      refine mr_get (v := .ref (ad 59)) hx hb htb inX13 hown hK hP 59 (by decide) (htb _ kw_1086) rfl dX13_finish_62 ?_
      refine lv_aload_n hx hb dX13_finish_65 rfl (lv_at hl 1 rfl) ?_
      refine mr_get (v := .int (sg_j39 50)) hx hb htb inX13 hown hK hP 50 (by decide) (htb _ kw_1077) rfl dX13_finish_66 ?_
      refine lv_topi (fun z_21 ez_21 => ?_)
      obtain rfl : (sg 50) = z_21 := (ez_21.trans (hks_j39 50 (by decide))).symm
      refine lv_iload_n hx hb dX13_finish_69 rfl (lv_at hl 2 rfl) ?_
      refine ma_iast (x := b) hx hb hK hP hD hS 45 (k := 59) rfl rfl rfl (show vp_in (sg 50) 80 from (iv_in hmd (by decide))) dX13_finish_70 (fun gm_22 H locs egm_22 hP hD hS => ?_)
      have hI_gm_22 := MI_st hI_gm_20 egm_22 hsx1_39 (by decide)
      refine lv_aload_n hx hb dX13_finish_71 rfl (lv_at hl 1 rfl) ?_
      refine lv_dup hx hb dX13_finish_72 rfl ?_
      refine mr_get (v := .int (sg_j39 50)) hx hb htb inX13 hown hK hP 50 (by decide) (htb _ kw_1077) rfl dX13_finish_73 ?_
      refine lv_topi (fun z_23 ez_23 => ?_)
      obtain rfl : (sg 50) = z_23 := (ez_23.trans (hks_j39 50 (by decide))).symm
      refine lv_iconst (v := 1) hx hb dX13_finish_76 (by decide) ?_
      refine lv_iadd hx hb dX13_finish_77 ?_
      refine lv_topi (fun z_24 ez_24 => ?_)
      have hz_24 : iv 1 80 z_24 := iv_of ez_24 (iv_add hmd (iv_k (by decide) : iv 1 1 1) (by decide))
      have tz_24 : z_24.toInt = ((sg 50) : Int32).toInt + 1 := by rw [ez_24]; exact iv_addE hmd (iv_k (by decide) : iv 1 1 1) (by decide)
      refine ma_put (x := z_24) hx hb htb inX13 hown hK hP hD hS 50 (by decide) (by decide) (htb _ kw_1077) rfl rfl rfl dX13_finish_78 (fun sg_25 H locs esg_25 hP hD hS => ?_)
      have hI_sg_25 := MI_put hI_gm_22 esg_25 hz_24 (by decide)
      have hmy : ¬ mMny gm lg b.toNatClampNeg := by { rcases fY_r_15 with ⟨_, q9⟩ | ⟨q9, _⟩; (rw [mMny_k (sg := sg) (gm := gm) (lg := lg) (DK_of (show KS [49] sg sg_j39 from (KS_tr (L := [49]) KS_rf hks_j39 (by decide))) (show KS [55, 56, 57, 58, 62] gm gm_14 from (KS_up (KS_tr (L := [55, 56, 57, 58, 62]) KS_rf hkg_j39 (by decide)) egm_14 (by decide))) (show KS [] lg lg from KS_rf) (by decide) (by decide) (by decide)) rfl] at q9; exact q9); exact absurd (congrArg Int32.toInt c_17) (by rw [q9]; decide) }
      exact hj81 sg_25 gm_22 x2_39 hx2_39 hsx1_39 (KS_up (KS_tr (L := [49, 50]) KS_rf hks_j39 (by decide)) esg_25 (by decide)) (KS_up (KS_up (KS_up (KS_tr (L := [55, 56, 57, 58, 59, 61, 62]) KS_rf hkg_j39 (by decide)) egm_14 (by decide)) egm_20 (by decide)) egm_22 (by decide)) hI_sg_25 (htop) (GI0_fin hgi (DK_of (show KS [49, 50] sg sg_25 from (KS_up (KS_tr (L := [49, 50]) KS_rf hks_j39 (by decide)) esg_25 (by decide))) (show KS [55, 56, 57, 58, 59, 61, 62] gm gm_22 from (KS_up (KS_up (KS_up (KS_tr (L := [55, 56, 57, 58, 59, 61, 62]) KS_rf hkg_j39 (by decide)) egm_14 (by decide)) egm_20 (by decide)) egm_22 (by decide))) (show KS [] lg lg from KS_rf) (by decide) (by decide) (by decide)) rfl (Eq.trans (Eq.trans (Eq.trans (up_ne egm_22 (by decide)) (up_ne egm_20 (by decide))) (up_ne egm_14 (by decide))) (hkg_j39 60 (by decide))) (show gm_22 61 = upd (gm 61) (b : Int32).toNatClampNeg (vp_nar .boolean 1) from ((up_ne egm_22 (by decide)).trans ((up_at egm_20).trans (by rw [show gm_14 61 = gm 61 from ((up_ne egm_14 (by decide)).trans ((hkg_j39 61 (by decide)).trans rfl))])))) (show gm_22 62 = upd (gm 62) (b : Int32).toNatClampNeg (vp_nar .boolean 0) from ((up_ne egm_22 (by decide)).trans ((up_ne egm_20 (by decide)).trans ((up_at egm_14).trans (by rw [show gm_j39 62 = gm 62 from ((hkg_j39 62 (by decide)).trans rfl)]))))) (Eq.trans (Eq.trans (Eq.trans (up_ne egm_22 (by decide)) (up_ne egm_20 (by decide))) (up_ne egm_14 (by decide))) (hkg_j39 70 (by decide))) (Eq.trans (Eq.trans (Eq.trans (up_ne egm_22 (by decide)) (up_ne egm_20 (by decide))) (up_ne egm_14 (by decide))) (hkg_j39 71 (by decide))) (Eq.trans (Eq.trans (Eq.trans (up_ne egm_22 (by decide)) (up_ne egm_20 (by decide))) (up_ne egm_14 (by decide))) (hkg_j39 72 (by decide))) (Eq.trans (Eq.trans (Eq.trans (up_ne egm_22 (by decide)) (up_ne egm_20 (by decide))) (up_ne egm_14 (by decide))) (hkg_j39 73 (by decide))) (by have := i32_0; have := i32_1; have := i32_2; have := i32_m1; have := congrArg Int32.toInt (show sg_25 50 = z_24 from up_at esg_25); have := (hz_24).1; have := (hz_24).2; have := (hsx1_39).1; have := (hsx1_39).2; have := (h63).1; have := (h63).2; have := (hmd).1; have := (hmd).2; have := (hx2_39).1; have := (hx2_39).2; have := (h_19).1; have := (h_19).2; omega) hb80 h610 hmy (how hmy)) (MO_s hmo hpt.2.2 hmd.1 (by have := i32_0; have := i32_1; have := i32_2; have := i32_m1; have := congrArg Int32.toInt (show sg_25 50 = z_24 from up_at esg_25); have := (hz_24).1; have := (hz_24).2; have := (hsx1_39).1; have := (hsx1_39).2; have := (h63).1; have := (h63).2; have := (hmd).1; have := (hmd).2; have := (hx2_39).1; have := (hx2_39).2; have := (h_19).1; have := (h_19).2; omega) (Eq.trans (up_ne esg_25 (by decide)) (hks_j39 41 (by decide))) (show gm_22 59 = upd (gm 59) ((sg 50) : Int32).toNatClampNeg b from ((up_at egm_22).trans (by rw [show gm_20 59 = gm 59 from ((up_ne egm_20 (by decide)).trans ((up_ne egm_14 (by decide)).trans ((hkg_j39 59 (by decide)).trans rfl)))])))) ((show gm_22 62 = upd (gm 62) (b : Int32).toNatClampNeg (vp_nar .boolean 0) from ((up_ne egm_22 (by decide)).trans ((up_ne egm_20 (by decide)).trans ((up_at egm_14).trans (by rw [show gm_j39 62 = gm 62 from ((hkg_j39 62 (by decide)).trans rfl)])))))) ((by unfold oFi; exact RR_fo hR39 ((show KS [50] sg_j39 sg_25 from (KS_up KS_rf esg_25 (by decide))) 41 (by decide)) ((show KS [50] sg_j39 sg_25 from (KS_up KS_rf esg_25 (by decide))) 48 (by decide)) ((show KS [50] sg_j39 sg_25 from (KS_up KS_rf esg_25 (by decide))) 49 (by decide)) (by have q50 := congrArg Int32.toInt (show sg_j39 50 = sg 50 from hks_j39 50 (by decide)); have := i32_0; have := i32_1; have := i32_2; have := i32_m1; have := congrArg Int32.toInt (show sg_25 50 = z_24 from up_at esg_25); have := (hz_24).1; have := (hz_24).2; have := (hsx1_39).1; have := (hsx1_39).2; have := (h63).1; have := (h63).2; have := (hmd).1; have := (hmd).2; have := (hx2_39).1; have := (hx2_39).2; have := (h_19).1; have := (h_19).2; omega) ((show KS [59, 61, 62] gm_j39 gm_22 from (KS_up (KS_up (KS_up KS_rf egm_14 (by decide)) egm_20 (by decide)) egm_22 (by decide))) 53 (by decide)) ((show KS [59, 61, 62] gm_j39 gm_22 from (KS_up (KS_up (KS_up KS_rf egm_14 (by decide)) egm_20 (by decide)) egm_22 (by decide))) 54 (by decide)) ((show KS [59, 61, 62] gm_j39 gm_22 from (KS_up (KS_up (KS_up KS_rf egm_14 (by decide)) egm_20 (by decide)) egm_22 (by decide))) 55 (by decide)) ((show KS [59, 61, 62] gm_j39 gm_22 from (KS_up (KS_up (KS_up KS_rf egm_14 (by decide)) egm_20 (by decide)) egm_22 (by decide))) 56 (by decide)) ((show KS [59, 61, 62] gm_j39 gm_22 from (KS_up (KS_up (KS_up KS_rf egm_14 (by decide)) egm_20 (by decide)) egm_22 (by decide))) 57 (by decide)) ((show KS [59, 61, 62] gm_j39 gm_22 from (KS_up (KS_up (KS_up KS_rf egm_14 (by decide)) egm_20 (by decide)) egm_22 (by decide))) 58 (by decide)) ((Eq.refl _).trans ((up_at egm_22).trans (by rw [show gm_20 59 = gm_j39 59 from ((up_ne egm_20 (by decide)).trans (up_ne egm_14 (by decide)))]))) ((show KS [59, 61, 62] gm_j39 gm_22 from (KS_up (KS_up (KS_up KS_rf egm_14 (by decide)) egm_20 (by decide)) egm_22 (by decide))) 60 (by decide)) (((show KS [59] gm_20 gm_22 from (KS_up KS_rf egm_22 (by decide))) 61 (by decide)).trans ((up_at egm_20).trans (by rw [show gm_14 61 = gm_j39 61 from (up_ne egm_14 (by decide))]))) (((show KS [59, 61] gm_14 gm_22 from (KS_up (KS_up KS_rf egm_20 (by decide)) egm_22 (by decide))) 62 (by decide)).trans (up_at egm_14)) rfl rfl rfl (by decide) (by exact congrArg Int32.toNatClampNeg (show sg 50 = sg_j39 50 from (hks_j39 50 (by decide)).symm)) (by have q50 := congrArg Int32.toInt (show sg_j39 50 = sg 50 from hks_j39 50 (by decide)); have := hmd.1; have := i32_0; have := i32_1; have := i32_2; have := i32_m1; have := congrArg Int32.toInt (show sg_25 50 = z_24 from up_at esg_25); have := (hz_24).1; have := (hz_24).2; have := (hsx1_39).1; have := (hsx1_39).2; have := (h63).1; have := (h63).2; have := (hmd).1; have := (hmd).2; have := (hx2_39).1; have := (hx2_39).2; have := (h_19).1; have := (h_19).2; omega) (cln9 hvb.1).symm (by have q1 : b.toNatClampNeg = b.toInt.toNat := rfl; have q1 : (sg_j39 41).toNatClampNeg = (sg_j39 41).toInt.toNat := rfl; have := hpt.2.2; have := i32_0; have := i32_1; have := i32_2; have := i32_m1; have := congrArg Int32.toInt (show sg_25 41 = sg_j39 41 from up_ne esg_25 (by decide)); have := congrArg Int32.toInt (show sg_j39 41 = sg 41 from hks_j39 41 (by decide)); have := (show iv 0 80 (sg 41) from MI_s hI 41).1; have := (show iv 0 80 (sg 41) from MI_s hI 41).2; have := (hsx1_39).1; have := (hsx1_39).2; have := (h63).1; have := (h63).2; have := (hmd).1; have := (hmd).2; have := (hx2_39).1; have := (hx2_39).2; have := (h_19).1; have := (h_19).2; have := (hz_24).1; have := (hz_24).2; omega) (by rw [oF1_S]; exact hzb) (Decidable.byContradiction (fun q => absurd ((BR_many hBR hRW hRS hvb hpt.2.2).mpr q) (by have q9 := (fY_r_15.resolve_right (fun q8 => absurd q8.1 (by have := i32_0; have := i32_1; have := i32_2; have := i32_m1; have := (hsx1_39).1; have := (hsx1_39).2; have := (h63).1; have := (h63).2; have := (hmd).1; have := (hmd).2; have := (hx2_39).1; have := (hx2_39).2; have := (h_19).1; have := (h_19).2; have := (hz_24).1; have := (hz_24).2; omega))).2; rw [mMny_k (sg := sg) (gm := gm) (lg := lg) (DK_of (show KS [49] sg sg_j39 from (KS_tr (L := [49]) KS_rf hks_j39 (by decide))) (show KS [55, 56, 57, 58, 62] gm gm_14 from (KS_up (KS_tr (L := [55, 56, 57, 58, 62]) KS_rf hkg_j39 (by decide)) egm_14 (by decide))) (show KS [] lg lg from KS_rf) (by decide) (by decide) (by decide)) rfl] at q9; exact q9))))) _ _ _ hP hD hS (lv_sub hl [0, 1, 2] rfl)
  refine lv_aload_n hx hb dX13_finish_0 rfl (lv_at hl 0 rfl) ?_
  refine mr_get (v := .int (sg 63)) hx hb htb inX13 hown hK hP 63 (by decide) (htb _ kw_1090) rfl dX13_finish_1 ?_
  refine lv_iconst (v := 1) hx hb dX13_finish_4 (by decide) ?_
  refine lv_isub hx hb dX13_finish_5 ?_
  refine lv_topi (fun z_26 ez_26 => ?_)
  have hz_26 : iv 0 79 z_26 := iv_of ez_26 (iv_sub h63 (iv_k (by decide) : iv 1 1 1) (by decide))
  have tz_26 : z_26.toInt = ((sg 63) : Int32).toInt - 1 := by rw [ez_26]; exact iv_subE h63 (iv_k (by decide) : iv 1 1 1) (by decide)
  refine lv_istore_n (lv' := [(2, .int z_26), (0, .ref h0), (1, .int b)]) hx hb dX13_finish_6 rfl hl (by decide) rfl (fun ls hl => ?_)
  have htop := top_n h63 tz_26
  refine lv_aload_n hx hb dX13_finish_7 rfl (lv_at hl 1 rfl) ?_
  refine lv_iload_n hx hb dX13_finish_8 rfl (lv_at hl 2 rfl) ?_
  refine lv_ldc2 (own := RX13) (v := 1768843636) hx hb hown (htb _ kw_1188) dX13_finish_9 ?_
  refine mr_calli (rest := []) ⟨hx, hb, hml, hown, htb⟩ (f_letter9 l dC dI h0 ad cid sg gm lg b 1768843636 hI (iv_w hvb (by decide)) hpt.2.2 (hdoc.1.2.2.2)) (cwV 2 htb (gd_V kw_1275 kw_1276 kw_126 kw_160 kw_1636) rfl rfl rfl (by decide +kernel) ⟨Nat.le_of_ble_eq_true rfl, Nat.le_of_ble_eq_true rfl⟩) rfl hl.1 rfl (Nat.le_of_ble_eq_true rfl) dX13_finish_12 ⟨Nat.zero_le _, Nat.zero_le _⟩ hK hP hD hS hA (fun r_27 u_28 H locs hw hP hD hS => ?_)
  obtain ⟨fLt_r_27, rfl⟩ := hw
  have hP : va_P (dC, dI) vwCl (mW h0 ad cid sg gm lg) H := hP
  have hD : va_D A (mW h0 ad cid sg gm lg) := hD
  refine lv_iconst (v := (-1)) hx hb dX13_finish_15 (by decide) ?_
  refine lv_icmp_eq (tgt := 39) hx hb dX13_finish_16 (by decide) (fun c_29 => ?_) (fun c_29 => ?_)
  · have h_30 : iv (-1) (-1) r_27 := iv_eq c_29 (iv_all r_27) (iv_k (by decide) : iv (-1) (-1) (-1)) (by decide)
    exact hj39 sg gm z_26 hz_26 hvb KS_rf KS_rf hI (htop) ((by rw [oF1_zn (by rw [← (show r_27.toInt = (wg 32 b.toNatClampNeg).toInt from (by have q9 := fLt_r_27; rw [q9]; exact BR_32 hBR hRW hRS hvb hpt.2.2))]; have := i32_0; have := i32_1; have := i32_2; have := i32_m1; have := (hvb).1; have := (hvb).2; have := (h63).1; have := (h63).2; have := (hmd).1; have := (hmd).2; have := (hz_26).1; have := (hz_26).2; have := (h_30).1; have := (h_30).2; omega)]; exact hRR)) _ _ _ hP hD hS (lv_sub hl [0, 1, 2] rfl)
  · have d_31 : ¬ (r_27 : Int32).toInt = (-1) := lv_neT c_29 rfl
    refine lv_aload_n hx hb dX13_finish_19 rfl (lv_at hl 1 rfl) ?_
    refine lv_iconst (v := 5) hx hb dX13_finish_20 (by decide) ?_
    refine lv_aload_n hx hb dX13_finish_21 rfl (lv_at hl 1 rfl) ?_
    refine mr_get (v := .ref (ad 69)) hx hb htb inX13 hown hK hP 69 (by decide) (htb _ kw_1096) rfl dX13_finish_22 ?_
    refine lv_iload_n hx hb dX13_finish_25 rfl (lv_at hl 0 rfl) ?_
    refine mr_iald hx hb hK hP 54 (k := 69) rfl rfl rfl (show vp_in z_26 81 from (iv_in hz_26 (by decide))) dX13_finish_26 ?_
    refine lv_topi (fun z_32 ez_32 => ?_)
    have hz_32 : iv (-1) 59 z_32 := iv_of ez_32 (MI_a hI 69 hz_26 (by decide))
    refine lv_aload_n hx hb dX13_finish_27 rfl (lv_at hl 1 rfl) ?_
    refine lv_iload_n hx hb dX13_finish_28 rfl (lv_at hl 2 rfl) ?_
    refine lv_ldc2 (own := RX13) (v := 1768843636) hx hb hown (htb _ kw_1188) dX13_finish_29 ?_
    refine mr_calli (rest := [.int z_32, .int 5, .ref h0]) ⟨hx, hb, hml, hown, htb⟩ (f_letter9 l dC dI h0 ad cid sg gm lg b 1768843636 hI (iv_w hvb (by decide)) hpt.2.2 (hdoc.1.2.2.2)) (cwV 2 htb (gd_V kw_1275 kw_1276 kw_126 kw_160 kw_1636) rfl rfl rfl (by decide +kernel) ⟨Nat.le_of_ble_eq_true rfl, Nat.le_of_ble_eq_true rfl⟩) rfl hl.1 rfl (Nat.le_of_ble_eq_true rfl) dX13_finish_32 ⟨Nat.zero_le _, Nat.zero_le _⟩ hK hP hD hS hA (fun r_33 u_34 H locs hw hP hD hS => ?_)
    obtain ⟨fLt_r_33, rfl⟩ := hw
    have hP : va_P (dC, dI) vwCl (mW h0 ad cid sg gm lg) H := hP
    have hD : va_D A (mW h0 ad cid sg gm lg) := hD
    refine lv_iconst (v := 0) hx hb dX13_finish_35 (by decide) ?_
    refine mr_callv (rest := []) ⟨hx, hb, hml, hown, htb⟩ (f_happens9 l dC dI h0 ad cid sg gm lg 5 z_32 r_33 0 wg wl S hI hRR) (cwV 4 htb (gd_V kw_1304 kw_1305 kw_138 kw_160 kw_1648) rfl rfl rfl (by decide +kernel) ⟨Nat.le_of_ble_eq_true rfl, Nat.le_of_ble_eq_true rfl⟩) rfl hl.1 rfl (Nat.le_of_ble_eq_true rfl) dX13_finish_36 ⟨Nat.zero_le _, Nat.zero_le _⟩ hK hP hD hS hA (fun u_36 H locs hw hP hD hS => ?_)
    obtain ⟨sgv_37, gmv_37, lgv_37, rfl, hIv_37, ksv_37, kgv_37, klv_37, fR_r_35⟩ := hw
    obtain rfl := KS_nil klv_37
    have hP : va_P (dC, dI) vwCl (mW h0 ad cid sgv_37 gmv_37 lg) H := hP
    have hD : va_D A (mW h0 ad cid sgv_37 gmv_37 lg) := hD
    exact hj39 sgv_37 gmv_37 z_26 hz_26 hvb (KS_tr (L := [49]) KS_rf ksv_37 (by decide)) (KS_tr (L := [55, 56, 57, 58]) KS_rf kgv_37 (by decide)) hIv_37 (htop) ((by rw [oF1_zy (by rw [← (show r_27.toInt = (wg 32 b.toNatClampNeg).toInt from (by have q9 := fLt_r_27; rw [q9]; exact BR_32 hBR hRW hRS hvb hpt.2.2))]; exact (fun q7 => c_29 (Int32.toInt_inj.mp (q7.trans (by decide)))))]; have q9 := fR_r_35; rw [(show r_33.toInt = (wg 32 b.toNatClampNeg).toInt from (by have q9 := fLt_r_33; rw [q9]; exact BR_32 hBR hRW hRS hvb hpt.2.2)), show z_32.toInt = (gm 69 (TOPn sg)).toInt from (by rw [ez_32, htop])] at q9; exact q9)) _ _ _ hP hD hS (lv_sub hl [0, 1, 2] rfl)
end
section
theorem b255 : ∀ i : Fin 64, ¬ i.val < 8 → (255#64).getLsbD i.val = false := by decide
/-- the byte of a name, shifted with its sign or without -/
theorem sh_b (x : BitVec 64) (n : Nat) (h : n ≤ 56) : (x.sshiftRight n) &&& 255#64 = (x >>> n) &&& 255#64 := by
  ext i hi
  rw [BitVec.getElem_and, BitVec.getElem_and]
  by_cases q : i < 8
  · congr 1
    rw [BitVec.getElem_sshiftRight, BitVec.getElem_ushiftRight]
    have : n + i < 64 := by omega
    simp [this]
  · have : (255#64)[i] = false := by
      have q9 := b255 ⟨i, hi⟩ q
      rwa [BitVec.getLsbD_eq_getElem hi] at q9
    rw [this, Bool.and_false, Bool.and_false]
theorem sh_9 (v : Int64) (s : Int32) (h : s.toInt = 0 ∨ s.toInt = 8 ∨ s.toInt = 16 ∨ s.toInt = 24 ∨ s.toInt = 32 ∨ s.toInt = 40 ∨ s.toInt = 48 ∨ s.toInt = 56) : (v >>> (s.toInt64 &&& 63)) &&& 255 = by9 v s := by
  have key : ∀ n : Nat, n ≤ 56 → s.toInt64 &&& 63 = Int64.ofNat n → (s.toInt64.toUInt64 &&& Int64.toUInt64 63) = UInt64.ofNat n → ((Int64.ofNat n).toBitVec.smod 64#64).toNat = n → ((UInt64.ofNat n).toBitVec % 64#64).toNat = n → (v >>> (s.toInt64 &&& 63)) &&& 255 = by9 v s := by
    intro n hn h1 h2 h3 h4
    unfold by9
    rw [h1, h2]
    refine Int64.toBitVec_inj.mp ?_
    rw [Int64.toBitVec_and, Int64.toBitVec_and, Int64.toBitVec_shiftRight]
    show (v.toBitVec.sshiftRight ((Int64.ofNat n).toBitVec.smod 64#64).toNat) &&& 255#64 = (v.toBitVec >>> ((UInt64.ofNat n).toBitVec % 64#64).toNat) &&& 255#64
    rw [h3, h4]
    exact sh_b _ _ hn
  rcases h with q | q | q | q | q | q | q | q
  · have e : s = 0 := Int32.toInt_inj.mp q
    subst e; exact key 0 (by decide) (by decide) (by decide) (by decide) (by decide)
  · have e : s = 8 := Int32.toInt_inj.mp q
    subst e; exact key 8 (by decide) (by decide) (by decide) (by decide) (by decide)
  · have e : s = 16 := Int32.toInt_inj.mp q
    subst e; exact key 16 (by decide) (by decide) (by decide) (by decide) (by decide)
  · have e : s = 24 := Int32.toInt_inj.mp q
    subst e; exact key 24 (by decide) (by decide) (by decide) (by decide) (by decide)
  · have e : s = 32 := Int32.toInt_inj.mp q
    subst e; exact key 32 (by decide) (by decide) (by decide) (by decide) (by decide)
  · have e : s = 40 := Int32.toInt_inj.mp q
    subst e; exact key 40 (by decide) (by decide) (by decide) (by decide) (by decide)
  · have e : s = 48 := Int32.toInt_inj.mp q
    subst e; exact key 48 (by decide) (by decide) (by decide) (by decide) (by decide)
  · have e : s = 56 := Int32.toInt_inj.mp q
    subst e; exact key 56 (by decide) (by decide) (by decide) (by decide) (by decide)
end
section
set_option maxHeartbeats 4000000 in
set_option maxRecDepth 100000 in
theorem a_letters9 (l : Launch) (dC : Nat → ClassId) (dI : Nat → Nat → Nat) (sz : Nat) (w : Int64) : Met l yX13_letters wm_X13_letters ({ frames := 0, cells := 0, slots := 0, locals := 0 }) (va_Pc [.long w] (fun U => U.heap.size = sz ∧ va_P (dC, dI) vwCl [] U.heap ∧ va_K (dC, dI) vwCl [] U ∧ va_D (fun _ => True) [])) (va_Ql (fun (r : Int64) (_ : Unit) => r = r ∧ (r = wz9 w)) (fun _ t => va_P (dC, dI) vwCl [] t.heap ∧ va_K (dC, dI) vwCl [] t ∧ va_D (va_A [] sz) []) (va_A [] sz)) 0 0 (va_A [] sz) := by
  refine Met.ofW (cc := cX13_letters) (maxL := 5) (ret := (some .long)) (by decide) rfl ?_
  intro p e s m args below meth c s₁ B hml hv
  obtain ⟨rfl, hsz, hP, hK, hD0⟩ := hv
  have hx := B.exec
  have hb := B.bytes
  have hr := B.returns
  have hts := atoms_spec (ws := wm_X13_letters) B.pre
  have htb := fun (w : Cond) (h : w ∈ tb) => hts w (List.mem_cons_of_mem _ h)
  have hown : s.vm.findClass RX13 = some m.cls := findClass_of_methodNamed B.named
  have hlocks := B.notSynchronized
  subst hsz
  have hD := hD0.self (sz := s.heap.size)
  generalize hAe : va_A [] s.heap.size = A at hD ⊢
  have hA : ∀ q : Nat, s.heap.size ≤ q → A q := fun q h => by rw [← hAe]; exact Or.inr h
  have hS : va_S A s.heap s.heap [] := va_S.rf
  have hP : va_P (dC, dI) vwCl [] s.heap := hP
  have hl := lv_entry ([.long w]) (n := 5) (Nat.le_of_ble_eq_true rfl)
  rw [lg_entry_eq]
  generalize (lg_sl ([.long w]) ++ List.replicate (5 - (lg_sl ([.long w])).length) Slot.unset).toArray = ls at hl ⊢
  have hl : lv_has ls 5 [(0, .long w)] := hl
  have hj6 : ∀ (n : Nat) (x4_6 : Int32) (x2_6 : Int64) (_ : (x4_6.toInt + 8).toNat = n) (_ : iv (-8) 56 x4_6) (_ : wz9 w = wzG w ((x4_6.toInt + 8) / 8).toNat x4_6 x2_6) (_ : x4_6.toInt % 8 = 0) (H : Heap) (locs : List Loc) (ls : Array Slot), va_P (dC, dI) vwCl [] H → va_D A [] → va_S A s.heap H locs → lv_has ls 5 [(4, .int x4_6), (2, .long x2_6), (0, .long w)] → W p l e (headSpec wm_X13_letters ({ frames := 0, cells := 0, slots := 0, locals := 0 })).room s m ([.long w] : List Value).toArray below meth c H locs 0 0 (MQ below (va_Ql (fun (r : Int64) (_ : Unit) => r = r ∧ (r = wz9 w)) (fun _ t => va_P (dC, dI) vwCl [] t.heap ∧ va_K (dC, dI) vwCl [] t ∧ va_D A []) A) ([.long w] : List Value).toArray s 0 0 A) (F0 m 6 ls []) := by
    intro n
    induction n using Nat.strongRecOn with
    | ind n ih6 =>
      intro x4_6 x2_6 hn6 hx4_6 hwz hm8 H locs ls hP hD hS hl
      refine lv_iload hx hb dX13_letters_6 (lv_at hl 0 rfl) ?_
      refine lv_if_lt (tgt := 48) hx hb dX13_letters_8 (by decide) (fun c_1 => ?_) (fun c_1 => ?_)
      · have h_2 : iv (-8) (-1) x4_6 := iv_ltL c_1 hx4_6 (iv_k (by decide) : iv 0 0 0) (by decide)
        refine lv_lload_n hx hb dX13_letters_48 rfl (lv_at hl 1 rfl) ?_
        exact W.lret (v := x2_6) hx hb hr (fun t ht hW => ⟨⟨x2_6, (), rfl, ⟨rfl, ((by rw [hwz, wzG_e (by have := i32_0; have := i32_1; have := i32_2; have := i32_m1; have := (h_2).1; have := (h_2).2; omega)]))⟩, by rw [ht]; exact hP, va_K.moved hW.alike hK, hD⟩, hS.F ht⟩) hS.2.2 dX13_letters_49
      · have h_3 : iv 0 56 x4_6 := iv_leR (i32_ge c_1) (iv_k (by decide) : iv 0 0 0) hx4_6 (by decide)
        refine lv_lload_n hx hb dX13_letters_11 rfl (lv_at hl 2 rfl) ?_
        refine lv_iload hx hb dX13_letters_12 (lv_at hl 0 rfl) ?_
        refine lv_lshr (v := w >>> ((x4_6 : Int32).toInt64 &&& 63)) hx hb dX13_letters_14 rfl ?_
        refine lv_topl (fun z_4 ez_4 => ?_)
        refine lv_ldc2 (own := RX13) (v := 255) hx hb hown (htb _ kw_1165) dX13_letters_15 ?_
        refine lv_land hx hb dX13_letters_18 ?_
        refine lv_topl (fun z_5 ez_5 => ?_)
        refine lv_lconst (v := 0) hx hb dX13_letters_19 (by decide) ?_
        refine W.lcmp hx hb dX13_letters_20 ?_
        refine lv_topi (fun z_6 ez_6 => ?_)
        have hz_6 : iv (-1) 1 z_6 := iv_of ez_6 (iv_cmp _ _)
        refine lv_if_ne (tgt := 28) hx hb dX13_letters_21 (by decide) (fun c_7 => ?_) (fun c_7 => ?_)
        · have d_8 : ¬ (z_6 : Int32).toInt = 0 := lv_neT c_7 rfl
          refine lv_lload_n hx hb dX13_letters_28 rfl (lv_at hl 1 rfl) ?_
          refine lv_bipush (v := 8) hx hb dX13_letters_29 (by decide) ?_
          refine lv_lshl (v := x2_6 <<< ((8 : Int32).toInt64 &&& 63)) hx hb dX13_letters_31 rfl ?_
          refine lv_topl (fun z_9 ez_9 => ?_)
          refine lv_lload_n hx hb dX13_letters_32 rfl (lv_at hl 2 rfl) ?_
          refine lv_iload hx hb dX13_letters_33 (lv_at hl 0 rfl) ?_
          refine lv_lshr (v := w >>> ((x4_6 : Int32).toInt64 &&& 63)) hx hb dX13_letters_35 rfl ?_
          refine lv_topl (fun z_10 ez_10 => ?_)
          refine lv_ldc2 (own := RX13) (v := 255) hx hb hown (htb _ kw_1165) dX13_letters_36 ?_
          refine lv_land hx hb dX13_letters_39 ?_
          refine lv_topl (fun z_11 ez_11 => ?_)
          refine lv_lor hx hb dX13_letters_40 ?_
          refine lv_topl (fun z_12 ez_12 => ?_)
          refine lv_lstore_n (lv' := [(2, .long z_12), (4, .int x4_6), (0, .long w)]) hx hb dX13_letters_41 rfl hl (by decide) rfl (fun ls hl => ?_)
          obtain ⟨z_13, ez_13⟩ : ∃ z : Int32, z = x4_6 + (-8) := ⟨_, rfl⟩
          have hz_13 : iv (-8) 48 z_13 := iv_of ez_13 (iv_add h_3 (iv_k (by decide) : iv (-8) (-8) (-8)) (by decide))
          have tz_13 : z_13.toInt = x4_6.toInt - 8 := by rw [ez_13]; exact iv_addE h_3 (iv_k (by decide) : iv (-8) (-8) (-8)) (by decide)
          refine lv_iinc (v := z_13) (lv' := [(4, .int z_13), (2, .long z_12), (0, .long w)]) hx hb dX13_letters_42 hl (k := 1) rfl ez_13.symm (by decide) rfl (fun ls hl => ?_)
          refine lv_goto (tgt := 6) hx hb dX13_letters_45 (by decide) ?_
          exact ih6 _ (by rw [← hn6]; exact (by have := i32_0; have := i32_1; have := i32_2; have := i32_m1; have := (h_3).1; have := (h_3).2; have := (hz_6).1; have := (hz_6).2; have := (hz_13).1; have := (hz_13).2; omega)) z_13 z_12 rfl (iv_w hz_13 (by decide)) (wzG_1 hwz (h_3).1 ez_13 tz_13 (fun q9 => c_7 (by rw [ez_6]; exact (lg_cmp_eq _ _).mpr ((show by9 w x4_6 = z_5 from (by rw [ez_5, ez_4]; exact (sh_9 w x4_6 (show x4_6.toInt = 0 ∨ x4_6.toInt = 8 ∨ x4_6.toInt = 16 ∨ x4_6.toInt = 24 ∨ x4_6.toInt = 32 ∨ x4_6.toInt = 40 ∨ x4_6.toInt = 48 ∨ x4_6.toInt = 56 from (by have := hm8; have := i32_0; have := i32_1; have := i32_2; have := i32_m1; have := (h_3).1; have := (h_3).2; have := (hz_6).1; have := (hz_6).2; have := (hz_13).1; have := (hz_13).2; omega))).symm)).symm.trans q9))) (by rw [(show by9 w x4_6 = z_11 from (by rw [ez_11, ez_10]; exact (sh_9 w x4_6 (show x4_6.toInt = 0 ∨ x4_6.toInt = 8 ∨ x4_6.toInt = 16 ∨ x4_6.toInt = 24 ∨ x4_6.toInt = 32 ∨ x4_6.toInt = 40 ∨ x4_6.toInt = 48 ∨ x4_6.toInt = 56 from (by have := hm8; have := i32_0; have := i32_1; have := i32_2; have := i32_m1; have := (h_3).1; have := (h_3).2; have := (hz_6).1; have := (hz_6).2; have := (hz_13).1; have := (hz_13).2; omega))).symm)), ez_12, ez_9])) ((by have := hm8; have := i32_0; have := i32_1; have := i32_2; have := i32_m1; have := (h_3).1; have := (h_3).2; have := (hz_6).1; have := (hz_6).2; have := (hz_13).1; have := (hz_13).2; omega)) _ _ _ hP hD hS (lv_sub hl [0, 1, 2] rfl)
        · have h_14 : iv 0 0 z_6 := iv_eq c_7 hz_6 (iv_k (by decide) : iv 0 0 0) (by decide)
          refine lv_lload_n hx hb dX13_letters_24 rfl (lv_at hl 1 rfl) ?_
          refine lv_goto (tgt := 41) hx hb dX13_letters_25 (by decide) ?_
          refine lv_lstore_n (lv' := [(2, .long x2_6), (4, .int x4_6), (0, .long w)]) hx hb dX13_letters_41 rfl hl (by decide) rfl (fun ls hl => ?_)
          obtain ⟨z_15, ez_15⟩ : ∃ z : Int32, z = x4_6 + (-8) := ⟨_, rfl⟩
          have hz_15 : iv (-8) 48 z_15 := iv_of ez_15 (iv_add h_3 (iv_k (by decide) : iv (-8) (-8) (-8)) (by decide))
          have tz_15 : z_15.toInt = x4_6.toInt - 8 := by rw [ez_15]; exact iv_addE h_3 (iv_k (by decide) : iv (-8) (-8) (-8)) (by decide)
          refine lv_iinc (v := z_15) (lv' := [(4, .int z_15), (2, .long x2_6), (0, .long w)]) hx hb dX13_letters_42 hl (k := 1) rfl ez_15.symm (by decide) rfl (fun ls hl => ?_)
          refine lv_goto (tgt := 6) hx hb dX13_letters_45 (by decide) ?_
          exact ih6 _ (by rw [← hn6]; exact (by have := i32_0; have := i32_1; have := i32_2; have := i32_m1; have := (h_3).1; have := (h_3).2; have := (h_14).1; have := (h_14).2; have := (hz_15).1; have := (hz_15).2; omega)) z_15 x2_6 rfl (iv_w hz_15 (by decide)) (wzG_0 hwz (h_3).1 ez_15 tz_15 ((show by9 w x4_6 = z_5 from (by rw [ez_5, ez_4]; exact (sh_9 w x4_6 (show x4_6.toInt = 0 ∨ x4_6.toInt = 8 ∨ x4_6.toInt = 16 ∨ x4_6.toInt = 24 ∨ x4_6.toInt = 32 ∨ x4_6.toInt = 40 ∨ x4_6.toInt = 48 ∨ x4_6.toInt = 56 from (by have := hm8; have := i32_0; have := i32_1; have := i32_2; have := i32_m1; have := (h_3).1; have := (h_3).2; have := (h_14).1; have := (h_14).2; have := (hz_15).1; have := (hz_15).2; omega))).symm)).trans ((lg_cmp_eq _ _).mp (by rw [← ez_6]; exact c_7)))) ((by have := hm8; have := i32_0; have := i32_1; have := i32_2; have := i32_m1; have := (h_3).1; have := (h_3).2; have := (h_14).1; have := (h_14).2; have := (hz_15).1; have := (hz_15).2; omega)) _ _ _ hP hD hS (lv_sub hl [0, 1, 2] rfl)
  refine lv_lconst (v := 0) hx hb dX13_letters_0 (by decide) ?_
  refine lv_lstore_n (lv' := [(2, .long 0), (0, .long w)]) hx hb dX13_letters_1 rfl hl (by decide) rfl (fun ls hl => ?_)
  refine lv_bipush (v := 56) hx hb dX13_letters_2 (by decide) ?_
  refine lv_istore (lv' := [(4, .int 56), (2, .long 0), (0, .long w)]) hx hb dX13_letters_4 hl (by decide) rfl (fun ls hl => ?_)
  exact hj6 _ 56 0 rfl (iv_w (iv_k (by decide) : iv 56 56 56) (by decide)) ((by unfold wz9; rfl)) ((by decide)) _ _ _ hP hD hS (lv_sub hl [0, 1, 2] rfl)
end
section
theorem zEv_z {k w : Int} {S : S9} (h : k < 0 ∨ ((zE S).length : Int) ≤ k) : zEv k w S = -1 := by
  unfold zEv
  by_cases q : k < 0
  · rw [if_pos q]
  · rw [if_neg q, List.getElem?_eq_none (by omega)]
theorem zOb_z {k w : Int} {S : S9} (h : k < 0 ∨ ((zO S).length : Int) ≤ k) : zOb k w S = -1 := by
  unfold zOb
  by_cases q : k < 0
  · rw [if_pos q]
  · rw [if_neg q, List.getElem?_eq_none (by omega)]
theorem zEv_r {wg : Nat → Nat → Int32} {wl : Nat → Nat → Int64} {S : S9} {sg : Nat → Int32} {gm : Nat → Nat → Int32} {k : Int32} {w : Int} (h : RR wg wl S sg gm) (h0 : 0 ≤ k.toInt) (hl : k.toInt < (sg 49).toInt) : zEv k.toInt w S = if w = 0 then (gm 55 k.toNatClampNeg).toInt else if w = 1 then (gm 56 k.toNatClampNeg).toInt else if w = 2 then (gm 57 k.toNatClampNeg).toInt else if w = 3 then (gm 58 k.toNatClampNeg).toInt else -1 := by
  have hk : k.toInt.toNat < (zE S).length := by have := h.2.1.1; omega
  have q := h.2.1.2 k.toInt.toNat _ (List.getElem?_eq_getElem hk)
  unfold zEv
  rw [if_neg (by omega), List.getElem?_eq_getElem hk]
  show (if w = 0 then _ else if w = 1 then _ else if w = 2 then _ else if w = 3 then _ else _) = _
  rw [← q.1, ← q.2.1, ← q.2.2.1, ← q.2.2.2]; rfl
theorem zOb_r {wg : Nat → Nat → Int32} {wl : Nat → Nat → Int64} {S : S9} {sg : Nat → Int32} {gm : Nat → Nat → Int32} {k : Int32} {w : Int} (h : RR wg wl S sg gm) (h0 : 0 ≤ k.toInt) (hl : k.toInt < (sg 48).toInt) : zOb k.toInt w S = if w = 0 then (gm 53 k.toNatClampNeg).toInt else if w = 1 then (gm 54 k.toNatClampNeg).toInt else -1 := by
  have hk : k.toInt.toNat < (zO S).length := by have := h.1.1; omega
  have q := h.1.2 k.toInt.toNat _ (List.getElem?_eq_getElem hk)
  unfold zOb
  rw [if_neg (by omega), List.getElem?_eq_getElem hk]
  show (if w = 0 then _ else if w = 1 then _ else _) = _
  rw [← q.1, ← q.2]; rfl

set_option maxHeartbeats 4000000 in
set_option maxRecDepth 100000 in
theorem f_events9 (l : Launch) (dC : Nat → ClassId) (dI : Nat → Nat → Nat) (h0 : Nat) (ad : Nat → Nat) (cid : Nat → ClassId) (sg : Nat → Int32) (gm : Nat → Nat → Int32) (lg : Nat → Nat → Int64) (wg : Nat → Nat → Int32) (wl : Nat → Nat → Int64) (S : S9) (hI : MI sg gm) (hRR : RR wg wl S sg gm) : MMi l dC dI yX13_events wm_X13_events ({ frames := 0, cells := 0, slots := 0, locals := 0 }) h0 ad cid [] sg gm lg (fun r v => ∃ (sg2 : Nat → Int32) (gm2 : Nat → Nat → Int32) (lg2 : Nat → Nat → Int64), v = (sg2, gm2, lg2) ∧ MI sg2 gm2 ∧ KS [5] sg sg2 ∧ KS [] gm gm2 ∧ KS [] lg lg2 ∧ (r.toInt = ((zE S).length : Int)) ∧ (RR wg wl S sg2 gm2)) := by
  intro sz
  refine Met.ofW (cc := cX13_events) (maxL := 1) (ret := (some .int)) (by decide) rfl ?_
  intro p e s m args below meth c s₁ B hml hv
  obtain ⟨rfl, hsz, hP, hK, hD0⟩ := hv
  have hx := B.exec
  have hb := B.bytes
  have hr := B.returns
  have hts := atoms_spec (ws := wm_X13_events) B.pre
  have htb := fun (w : Cond) (h : w ∈ tb) => hts w (List.mem_cons_of_mem _ h)
  have hown : s.vm.findClass RX13 = some m.cls := findClass_of_methodNamed B.named
  have hlocks := B.notSynchronized
  subst hsz
  have hD := hD0.self (sz := s.heap.size)
  generalize hAe : va_A (mW h0 ad cid sg gm lg) s.heap.size = A at hD ⊢
  have hA : ∀ q : Nat, s.heap.size ≤ q → A q := fun q h => by rw [← hAe]; exact Or.inr h
  have hS : va_S A s.heap s.heap [] := va_S.rf
  have hl := lv_entry ([.ref h0]) (n := 1) (Nat.le_of_ble_eq_true rfl)
  rw [lg_entry_eq]
  generalize (lg_sl ([.ref h0]) ++ List.replicate (1 - (lg_sl ([.ref h0])).length) Slot.unset).toArray = ls at hl ⊢
  have hl : lv_has ls 1 [(0, .ref h0)] := hl
  refine lv_aload_n hx hb dX13_events_0 rfl (lv_at hl 0 rfl) ?_
  refine lv_iconst (v := 0) hx hb dX13_events_1 (by decide) ?_
  refine ma_put (x := 0) hx hb htb inX13 hown hK hP hD hS 5 (by decide) (by decide) (htb _ kw_1032) rfl rfl rfl dX13_events_2 (fun sg_1 H locs esg_1 hP hD hS => ?_)
  have hI_sg_1 := MI_put hI esg_1 (iv_k (by decide) : iv 0 0 0) (by decide)
  refine lv_aload_n hx hb dX13_events_5 rfl (lv_at hl 0 rfl) ?_
  refine mr_get (v := .int (sg_1 49)) hx hb htb inX13 hown hK hP 49 (by decide) (htb _ kw_1076) rfl dX13_events_6 ?_
  refine lv_topi (fun z_2 ez_2 => ?_)
  obtain rfl : (sg 49) = z_2 := (ez_2.trans (up_ne esg_1 (by decide))).symm
  exact W.iret (v := (sg 49)) hx hb hr (fun t ht hW => ⟨⟨(sg 49), (sg_1, gm, lg), rfl, ⟨sg_1, gm, lg, rfl, hI_sg_1, (KS_up KS_rf esg_1 (by decide)), KS_rf, KS_rf, (hRR.2.1.1), ((RR_ks (L := [5]) (M := []) hRR (KS_up KS_rf esg_1 (by decide)) KS_rf (by decide) (by decide)))⟩, by rw [ht]; exact hP, va_K.moved hW.alike hK, hD⟩, hS.F ht⟩) hS.2.2 dX13_events_9

set_option maxHeartbeats 4000000 in
set_option maxRecDepth 100000 in
theorem f_event9 (l : Launch) (dC : Nat → ClassId) (dI : Nat → Nat → Nat) (h0 : Nat) (ad : Nat → Nat) (cid : Nat → ClassId) (sg : Nat → Int32) (gm : Nat → Nat → Int32) (lg : Nat → Nat → Int64) (k : Int32) (w : Int32) (wg : Nat → Nat → Int32) (wl : Nat → Nat → Int64) (S : S9) (hI : MI sg gm) (hRR : RR wg wl S sg gm) : MMi l dC dI yX13_event wm_X13_event ({ frames := 0, cells := 0, slots := 0, locals := 0 }) h0 ad cid [.int k, .int w] sg gm lg (fun r v => ∃ (sg2 : Nat → Int32) (gm2 : Nat → Nat → Int32) (lg2 : Nat → Nat → Int64), v = (sg2, gm2, lg2) ∧ MI sg2 gm2 ∧ KS [5] sg sg2 ∧ KS [] gm gm2 ∧ KS [] lg lg2 ∧ (r.toInt = zEv k.toInt w.toInt S) ∧ (RR wg wl S sg2 gm2)) := by
  intro sz
  refine Met.ofW (cc := cX13_event) (maxL := 3) (ret := (some .int)) (by decide) rfl ?_
  intro p e s m args below meth c s₁ B hml hv
  obtain ⟨rfl, hsz, hP, hK, hD0⟩ := hv
  have hx := B.exec
  have hb := B.bytes
  have hr := B.returns
  have hts := atoms_spec (ws := wm_X13_event) B.pre
  have htb := fun (w : Cond) (h : w ∈ tb) => hts w (List.mem_cons_of_mem _ h)
  have hown : s.vm.findClass RX13 = some m.cls := findClass_of_methodNamed B.named
  have hlocks := B.notSynchronized
  subst hsz
  have hD := hD0.self (sz := s.heap.size)
  generalize hAe : va_A (mW h0 ad cid sg gm lg) s.heap.size = A at hD ⊢
  have hA : ∀ q : Nat, s.heap.size ≤ q → A q := fun q h => by rw [← hAe]; exact Or.inr h
  have hS : va_S A s.heap s.heap [] := va_S.rf
  have hl := lv_entry ([.ref h0, .int k, .int w]) (n := 3) (Nat.le_of_ble_eq_true rfl)
  rw [lg_entry_eq]
  generalize (lg_sl ([.ref h0, .int k, .int w]) ++ List.replicate (3 - (lg_sl ([.ref h0, .int k, .int w])).length) Slot.unset).toArray = ls at hl ⊢
  have hl : lv_has ls 3 [(0, .ref h0), (1, .int k), (2, .int w)] := hl
  refine lv_aload_n hx hb dX13_event_0 rfl (lv_at hl 0 rfl) ?_
  refine lv_iconst (v := 0) hx hb dX13_event_1 (by decide) ?_
  refine ma_put (x := 0) hx hb htb inX13 hown hK hP hD hS 5 (by decide) (by decide) (htb _ kw_1032) rfl rfl rfl dX13_event_2 (fun sg_1 H locs esg_1 hP hD hS => ?_)
  have hI_sg_1 := MI_put hI esg_1 (iv_k (by decide) : iv 0 0 0) (by decide)
  refine lv_iload_n hx hb dX13_event_5 rfl (lv_at hl 1 rfl) ?_
  refine lv_if_lt (tgt := 17) hx hb dX13_event_6 (by decide) (fun c_2 => ?_) (fun c_2 => ?_)
  · have h_3 : iv (-2147483648) (-1) k := iv_ltL c_2 (iv_all k) (iv_k (by decide) : iv 0 0 0) (by decide)
    refine lv_iconst (v := (-1)) hx hb dX13_event_17 (by decide) ?_
    exact W.iret (v := (-1)) hx hb hr (fun t ht hW => ⟨⟨(-1), (sg_1, gm, lg), rfl, ⟨sg_1, gm, lg, rfl, hI_sg_1, (KS_up KS_rf esg_1 (by decide)), KS_rf, KS_rf, ((by rw [zEv_z (by have := hRR.2.1.1; have := i32_0; have := i32_1; have := i32_2; have := i32_m1; have := congrArg Int32.toInt (show sg_1 49 = sg 49 from up_ne esg_1 (by decide)); have := (show iv 0 400 (sg 49) from MI_s hI 49).1; have := (show iv 0 400 (sg 49) from MI_s hI 49).2; have := (h_3).1; have := (h_3).2; omega)]; rfl)), ((RR_ks (L := [5]) (M := []) hRR (KS_up KS_rf esg_1 (by decide)) KS_rf (by decide) (by decide)))⟩, by rw [ht]; exact hP, va_K.moved hW.alike hK, hD⟩, hS.F ht⟩) hS.2.2 dX13_event_18
  · have h_4 : iv 0 2147483647 k := iv_leR (i32_ge c_2) (iv_k (by decide) : iv 0 0 0) (iv_all k) (by decide)
    refine lv_iload_n hx hb dX13_event_9 rfl (lv_at hl 1 rfl) ?_
    refine lv_aload_n hx hb dX13_event_10 rfl (lv_at hl 0 rfl) ?_
    refine mr_get (v := .int (sg_1 49)) hx hb htb inX13 hown hK hP 49 (by decide) (htb _ kw_1076) rfl dX13_event_11 ?_
    refine lv_topi (fun z_5 ez_5 => ?_)
    obtain rfl : (sg 49) = z_5 := (ez_5.trans (up_ne esg_1 (by decide))).symm
    refine lv_icmp_lt (tgt := 19) hx hb dX13_event_14 (by decide) (fun c_6 => ?_) (fun c_6 => ?_)
    · have d_7 : (k : Int32).toInt < ((sg 49) : Int32).toInt := Int32.lt_iff_toInt_lt.mp c_6
      have h_8 : iv 0 399 k := iv_ltL c_6 h_4 (show iv 0 400 (sg 49) from MI_s hI 49) (by decide)
      have h_9 : iv 1 400 (sg 49) := iv_ltR c_6 h_4 (show iv 0 400 (sg 49) from MI_s hI 49) (by decide)
      refine lv_iload_n hx hb dX13_event_19 rfl (lv_at hl 2 rfl) ?_
      by_cases c_10 : (w : Int32).toInt = 0
      · refine lv_tableIn (tgt := 52) hx hb dX13_event_20 (by rw [c_10]; decide) (by rw [c_10]; decide) (by rw [c_10]; rfl) (by decide) ?_
        have h_11 : iv 0 0 w := iv_at c_10
        refine lv_aload_n hx hb dX13_event_52 rfl (lv_at hl 0 rfl) ?_
        refine mr_get (v := .ref (ad 55)) hx hb htb inX13 hown hK hP 55 (by decide) (htb _ kw_1082) rfl dX13_event_53 ?_
        refine lv_iload_n hx hb dX13_event_56 rfl (lv_at hl 1 rfl) ?_
        refine mr_iald hx hb hK hP 41 (k := 55) rfl rfl rfl (show vp_in k 400 from (iv_in h_8 (by decide))) dX13_event_57 ?_
        refine lv_topi (fun z_12 ez_12 => ?_)
        exact W.iret (v := z_12) hx hb hr (fun t ht hW => ⟨⟨z_12, (sg_1, gm, lg), rfl, ⟨sg_1, gm, lg, rfl, hI_sg_1, (KS_up KS_rf esg_1 (by decide)), KS_rf, KS_rf, ((by rw [zEv_r hRR (by have := i32_0; have := i32_1; have := i32_2; have := i32_m1; have := (h_8).1; have := (h_8).2; have := (h_9).1; have := (h_9).2; have := (h_11).1; have := (h_11).2; omega) (by have := i32_0; have := i32_1; have := i32_2; have := i32_m1; have := congrArg Int32.toInt (show sg_1 49 = sg 49 from up_ne esg_1 (by decide)); have := (show iv 0 400 (sg 49) from MI_s hI 49).1; have := (show iv 0 400 (sg 49) from MI_s hI 49).2; have := (h_8).1; have := (h_8).2; have := (h_9).1; have := (h_9).2; have := (h_11).1; have := (h_11).2; omega), if_pos (by have := i32_0; have := i32_1; have := i32_2; have := i32_m1; have := (h_8).1; have := (h_8).2; have := (h_9).1; have := (h_9).2; have := (h_11).1; have := (h_11).2; omega), ez_12])), ((RR_ks (L := [5]) (M := []) hRR (KS_up KS_rf esg_1 (by decide)) KS_rf (by decide) (by decide)))⟩, by rw [ht]; exact hP, va_K.moved hW.alike hK, hD⟩, hS.F ht⟩) hS.2.2 dX13_event_58
      by_cases c_13 : (w : Int32).toInt = 1
      · refine lv_tableIn (tgt := 59) hx hb dX13_event_20 (by rw [c_13]; decide) (by rw [c_13]; decide) (by rw [c_13]; rfl) (by decide) ?_
        have h_14 : iv 1 1 w := iv_at c_13
        refine lv_aload_n hx hb dX13_event_59 rfl (lv_at hl 0 rfl) ?_
        refine mr_get (v := .ref (ad 56)) hx hb htb inX13 hown hK hP 56 (by decide) (htb _ kw_1083) rfl dX13_event_60 ?_
        refine lv_iload_n hx hb dX13_event_63 rfl (lv_at hl 1 rfl) ?_
        refine mr_iald hx hb hK hP 42 (k := 56) rfl rfl rfl (show vp_in k 400 from (iv_in h_8 (by decide))) dX13_event_64 ?_
        refine lv_topi (fun z_15 ez_15 => ?_)
        exact W.iret (v := z_15) hx hb hr (fun t ht hW => ⟨⟨z_15, (sg_1, gm, lg), rfl, ⟨sg_1, gm, lg, rfl, hI_sg_1, (KS_up KS_rf esg_1 (by decide)), KS_rf, KS_rf, ((by rw [zEv_r hRR (by have := i32_0; have := i32_1; have := i32_2; have := i32_m1; have := (h_8).1; have := (h_8).2; have := (h_9).1; have := (h_9).2; have := (h_14).1; have := (h_14).2; omega) (by have := i32_0; have := i32_1; have := i32_2; have := i32_m1; have := congrArg Int32.toInt (show sg_1 49 = sg 49 from up_ne esg_1 (by decide)); have := (show iv 0 400 (sg 49) from MI_s hI 49).1; have := (show iv 0 400 (sg 49) from MI_s hI 49).2; have := (h_8).1; have := (h_8).2; have := (h_9).1; have := (h_9).2; have := (h_14).1; have := (h_14).2; omega), if_neg (by have := i32_0; have := i32_1; have := i32_2; have := i32_m1; have := (h_8).1; have := (h_8).2; have := (h_9).1; have := (h_9).2; have := (h_14).1; have := (h_14).2; omega), if_pos (by have := i32_0; have := i32_1; have := i32_2; have := i32_m1; have := (h_8).1; have := (h_8).2; have := (h_9).1; have := (h_9).2; have := (h_14).1; have := (h_14).2; omega), ez_15])), ((RR_ks (L := [5]) (M := []) hRR (KS_up KS_rf esg_1 (by decide)) KS_rf (by decide) (by decide)))⟩, by rw [ht]; exact hP, va_K.moved hW.alike hK, hD⟩, hS.F ht⟩) hS.2.2 dX13_event_65
      by_cases c_16 : (w : Int32).toInt = 2
      · refine lv_tableIn (tgt := 66) hx hb dX13_event_20 (by rw [c_16]; decide) (by rw [c_16]; decide) (by rw [c_16]; rfl) (by decide) ?_
        have h_17 : iv 2 2 w := iv_at c_16
        refine lv_aload_n hx hb dX13_event_66 rfl (lv_at hl 0 rfl) ?_
        refine mr_get (v := .ref (ad 57)) hx hb htb inX13 hown hK hP 57 (by decide) (htb _ kw_1084) rfl dX13_event_67 ?_
        refine lv_iload_n hx hb dX13_event_70 rfl (lv_at hl 1 rfl) ?_
        refine mr_iald hx hb hK hP 43 (k := 57) rfl rfl rfl (show vp_in k 400 from (iv_in h_8 (by decide))) dX13_event_71 ?_
        refine lv_topi (fun z_18 ez_18 => ?_)
        exact W.iret (v := z_18) hx hb hr (fun t ht hW => ⟨⟨z_18, (sg_1, gm, lg), rfl, ⟨sg_1, gm, lg, rfl, hI_sg_1, (KS_up KS_rf esg_1 (by decide)), KS_rf, KS_rf, ((by rw [zEv_r hRR (by have := i32_0; have := i32_1; have := i32_2; have := i32_m1; have := (h_8).1; have := (h_8).2; have := (h_9).1; have := (h_9).2; have := (h_17).1; have := (h_17).2; omega) (by have := i32_0; have := i32_1; have := i32_2; have := i32_m1; have := congrArg Int32.toInt (show sg_1 49 = sg 49 from up_ne esg_1 (by decide)); have := (show iv 0 400 (sg 49) from MI_s hI 49).1; have := (show iv 0 400 (sg 49) from MI_s hI 49).2; have := (h_8).1; have := (h_8).2; have := (h_9).1; have := (h_9).2; have := (h_17).1; have := (h_17).2; omega), if_neg (by have := i32_0; have := i32_1; have := i32_2; have := i32_m1; have := (h_8).1; have := (h_8).2; have := (h_9).1; have := (h_9).2; have := (h_17).1; have := (h_17).2; omega), if_neg (by have := i32_0; have := i32_1; have := i32_2; have := i32_m1; have := (h_8).1; have := (h_8).2; have := (h_9).1; have := (h_9).2; have := (h_17).1; have := (h_17).2; omega), if_pos (by have := i32_0; have := i32_1; have := i32_2; have := i32_m1; have := (h_8).1; have := (h_8).2; have := (h_9).1; have := (h_9).2; have := (h_17).1; have := (h_17).2; omega), ez_18])), ((RR_ks (L := [5]) (M := []) hRR (KS_up KS_rf esg_1 (by decide)) KS_rf (by decide) (by decide)))⟩, by rw [ht]; exact hP, va_K.moved hW.alike hK, hD⟩, hS.F ht⟩) hS.2.2 dX13_event_72
      by_cases c_19 : (w : Int32).toInt = 3
      · refine lv_tableIn (tgt := 73) hx hb dX13_event_20 (by rw [c_19]; decide) (by rw [c_19]; decide) (by rw [c_19]; rfl) (by decide) ?_
        have h_20 : iv 3 3 w := iv_at c_19
        refine lv_aload_n hx hb dX13_event_73 rfl (lv_at hl 0 rfl) ?_
        refine mr_get (v := .ref (ad 58)) hx hb htb inX13 hown hK hP 58 (by decide) (htb _ kw_1085) rfl dX13_event_74 ?_
        refine lv_iload_n hx hb dX13_event_77 rfl (lv_at hl 1 rfl) ?_
        refine mr_iald hx hb hK hP 44 (k := 58) rfl rfl rfl (show vp_in k 400 from (iv_in h_8 (by decide))) dX13_event_78 ?_
        refine lv_topi (fun z_21 ez_21 => ?_)
        exact W.iret (v := z_21) hx hb hr (fun t ht hW => ⟨⟨z_21, (sg_1, gm, lg), rfl, ⟨sg_1, gm, lg, rfl, hI_sg_1, (KS_up KS_rf esg_1 (by decide)), KS_rf, KS_rf, ((by rw [zEv_r hRR (by have := i32_0; have := i32_1; have := i32_2; have := i32_m1; have := (h_8).1; have := (h_8).2; have := (h_9).1; have := (h_9).2; have := (h_20).1; have := (h_20).2; omega) (by have := i32_0; have := i32_1; have := i32_2; have := i32_m1; have := congrArg Int32.toInt (show sg_1 49 = sg 49 from up_ne esg_1 (by decide)); have := (show iv 0 400 (sg 49) from MI_s hI 49).1; have := (show iv 0 400 (sg 49) from MI_s hI 49).2; have := (h_8).1; have := (h_8).2; have := (h_9).1; have := (h_9).2; have := (h_20).1; have := (h_20).2; omega), if_neg (by have := i32_0; have := i32_1; have := i32_2; have := i32_m1; have := (h_8).1; have := (h_8).2; have := (h_9).1; have := (h_9).2; have := (h_20).1; have := (h_20).2; omega), if_neg (by have := i32_0; have := i32_1; have := i32_2; have := i32_m1; have := (h_8).1; have := (h_8).2; have := (h_9).1; have := (h_9).2; have := (h_20).1; have := (h_20).2; omega), if_neg (by have := i32_0; have := i32_1; have := i32_2; have := i32_m1; have := (h_8).1; have := (h_8).2; have := (h_9).1; have := (h_9).2; have := (h_20).1; have := (h_20).2; omega), if_pos (by have := i32_0; have := i32_1; have := i32_2; have := i32_m1; have := (h_8).1; have := (h_8).2; have := (h_9).1; have := (h_9).2; have := (h_20).1; have := (h_20).2; omega), ez_21])), ((RR_ks (L := [5]) (M := []) hRR (KS_up KS_rf esg_1 (by decide)) KS_rf (by decide) (by decide)))⟩, by rw [ht]; exact hP, va_K.moved hW.alike hK, hD⟩, hS.F ht⟩) hS.2.2 dX13_event_79
      refine lv_tableOut (tgt := 80) hx hb dX13_event_20 (by have q1 := ((iv_all w)).1; have q2 := ((iv_all w)).2; omega) (by decide) ?_
      refine lv_iconst (v := (-1)) hx hb dX13_event_80 (by decide) ?_
      exact W.iret (v := (-1)) hx hb hr (fun t ht hW => ⟨⟨(-1), (sg_1, gm, lg), rfl, ⟨sg_1, gm, lg, rfl, hI_sg_1, (KS_up KS_rf esg_1 (by decide)), KS_rf, KS_rf, ((by rw [zEv_r hRR (by have := i32_0; have := i32_1; have := i32_2; have := i32_m1; have := (h_8).1; have := (h_8).2; have := (h_9).1; have := (h_9).2; omega) (by have := i32_0; have := i32_1; have := i32_2; have := i32_m1; have := congrArg Int32.toInt (show sg_1 49 = sg 49 from up_ne esg_1 (by decide)); have := (show iv 0 400 (sg 49) from MI_s hI 49).1; have := (show iv 0 400 (sg 49) from MI_s hI 49).2; have := (h_8).1; have := (h_8).2; have := (h_9).1; have := (h_9).2; omega), if_neg (by have := i32_0; have := i32_1; have := i32_2; have := i32_m1; have := (h_8).1; have := (h_8).2; have := (h_9).1; have := (h_9).2; omega), if_neg (by have := i32_0; have := i32_1; have := i32_2; have := i32_m1; have := (h_8).1; have := (h_8).2; have := (h_9).1; have := (h_9).2; omega), if_neg (by have := i32_0; have := i32_1; have := i32_2; have := i32_m1; have := (h_8).1; have := (h_8).2; have := (h_9).1; have := (h_9).2; omega), if_neg (by have := i32_0; have := i32_1; have := i32_2; have := i32_m1; have := (h_8).1; have := (h_8).2; have := (h_9).1; have := (h_9).2; omega)]; rfl)), ((RR_ks (L := [5]) (M := []) hRR (KS_up KS_rf esg_1 (by decide)) KS_rf (by decide) (by decide)))⟩, by rw [ht]; exact hP, va_K.moved hW.alike hK, hD⟩, hS.F ht⟩) hS.2.2 dX13_event_81
    · have d_22 : ((sg 49) : Int32).toInt ≤ (k : Int32).toInt := Int32.le_iff_toInt_le.mp (i32_ge c_6)
      refine lv_iconst (v := (-1)) hx hb dX13_event_17 (by decide) ?_
      exact W.iret (v := (-1)) hx hb hr (fun t ht hW => ⟨⟨(-1), (sg_1, gm, lg), rfl, ⟨sg_1, gm, lg, rfl, hI_sg_1, (KS_up KS_rf esg_1 (by decide)), KS_rf, KS_rf, ((by rw [zEv_z (by have := hRR.2.1.1; have := i32_0; have := i32_1; have := i32_2; have := i32_m1; have := congrArg Int32.toInt (show sg_1 49 = sg 49 from up_ne esg_1 (by decide)); have := (show iv 0 400 (sg 49) from MI_s hI 49).1; have := (show iv 0 400 (sg 49) from MI_s hI 49).2; have := (h_4).1; have := (h_4).2; have := ((show iv 0 400 (sg 49) from MI_s hI 49)).1; have := ((show iv 0 400 (sg 49) from MI_s hI 49)).2; omega)]; rfl)), ((RR_ks (L := [5]) (M := []) hRR (KS_up KS_rf esg_1 (by decide)) KS_rf (by decide) (by decide)))⟩, by rw [ht]; exact hP, va_K.moved hW.alike hK, hD⟩, hS.F ht⟩) hS.2.2 dX13_event_18

set_option maxHeartbeats 4000000 in
set_option maxRecDepth 100000 in
theorem f_object9 (l : Launch) (dC : Nat → ClassId) (dI : Nat → Nat → Nat) (h0 : Nat) (ad : Nat → Nat) (cid : Nat → ClassId) (sg : Nat → Int32) (gm : Nat → Nat → Int32) (lg : Nat → Nat → Int64) (k : Int32) (w : Int32) (wg : Nat → Nat → Int32) (wl : Nat → Nat → Int64) (S : S9) (hI : MI sg gm) (hRR : RR wg wl S sg gm) : MMi l dC dI yX13_object wm_X13_object ({ frames := 0, cells := 0, slots := 0, locals := 0 }) h0 ad cid [.int k, .int w] sg gm lg (fun r v => ∃ (sg2 : Nat → Int32) (gm2 : Nat → Nat → Int32) (lg2 : Nat → Nat → Int64), v = (sg2, gm2, lg2) ∧ MI sg2 gm2 ∧ KS [5] sg sg2 ∧ KS [] gm gm2 ∧ KS [] lg lg2 ∧ (r.toInt = zOb k.toInt w.toInt S) ∧ (RR wg wl S sg2 gm2)) := by
  intro sz
  refine Met.ofW (cc := cX13_object) (maxL := 3) (ret := (some .int)) (by decide) rfl ?_
  intro p e s m args below meth c s₁ B hml hv
  obtain ⟨rfl, hsz, hP, hK, hD0⟩ := hv
  have hx := B.exec
  have hb := B.bytes
  have hr := B.returns
  have hts := atoms_spec (ws := wm_X13_object) B.pre
  have htb := fun (w : Cond) (h : w ∈ tb) => hts w (List.mem_cons_of_mem _ h)
  have hown : s.vm.findClass RX13 = some m.cls := findClass_of_methodNamed B.named
  have hlocks := B.notSynchronized
  subst hsz
  have hD := hD0.self (sz := s.heap.size)
  generalize hAe : va_A (mW h0 ad cid sg gm lg) s.heap.size = A at hD ⊢
  have hA : ∀ q : Nat, s.heap.size ≤ q → A q := fun q h => by rw [← hAe]; exact Or.inr h
  have hS : va_S A s.heap s.heap [] := va_S.rf
  have hl := lv_entry ([.ref h0, .int k, .int w]) (n := 3) (Nat.le_of_ble_eq_true rfl)
  rw [lg_entry_eq]
  generalize (lg_sl ([.ref h0, .int k, .int w]) ++ List.replicate (3 - (lg_sl ([.ref h0, .int k, .int w])).length) Slot.unset).toArray = ls at hl ⊢
  have hl : lv_has ls 3 [(0, .ref h0), (1, .int k), (2, .int w)] := hl
  refine lv_aload_n hx hb dX13_object_0 rfl (lv_at hl 0 rfl) ?_
  refine lv_iconst (v := 0) hx hb dX13_object_1 (by decide) ?_
  refine ma_put (x := 0) hx hb htb inX13 hown hK hP hD hS 5 (by decide) (by decide) (htb _ kw_1032) rfl rfl rfl dX13_object_2 (fun sg_1 H locs esg_1 hP hD hS => ?_)
  have hI_sg_1 := MI_put hI esg_1 (iv_k (by decide) : iv 0 0 0) (by decide)
  refine lv_iload_n hx hb dX13_object_5 rfl (lv_at hl 1 rfl) ?_
  refine lv_if_lt (tgt := 26) hx hb dX13_object_6 (by decide) (fun c_2 => ?_) (fun c_2 => ?_)
  · have h_3 : iv (-2147483648) (-1) k := iv_ltL c_2 (iv_all k) (iv_k (by decide) : iv 0 0 0) (by decide)
    refine lv_iconst (v := (-1)) hx hb dX13_object_26 (by decide) ?_
    refine lv_goto (tgt := 49) hx hb dX13_object_27 (by decide) ?_
    exact W.iret (v := (-1)) hx hb hr (fun t ht hW => ⟨⟨(-1), (sg_1, gm, lg), rfl, ⟨sg_1, gm, lg, rfl, hI_sg_1, (KS_up KS_rf esg_1 (by decide)), KS_rf, KS_rf, ((by rw [zOb_z (by have := hRR.1.1; have := i32_0; have := i32_1; have := i32_2; have := i32_m1; have := congrArg Int32.toInt (show sg_1 48 = sg 48 from up_ne esg_1 (by decide)); have := (show iv 0 60 (sg 48) from MI_s hI 48).1; have := (show iv 0 60 (sg 48) from MI_s hI 48).2; have := (h_3).1; have := (h_3).2; omega)]; rfl)), ((RR_ks (L := [5]) (M := []) hRR (KS_up KS_rf esg_1 (by decide)) KS_rf (by decide) (by decide)))⟩, by rw [ht]; exact hP, va_K.moved hW.alike hK, hD⟩, hS.F ht⟩) hS.2.2 dX13_object_49
  · have h_4 : iv 0 2147483647 k := iv_leR (i32_ge c_2) (iv_k (by decide) : iv 0 0 0) (iv_all k) (by decide)
    refine lv_iload_n hx hb dX13_object_9 rfl (lv_at hl 1 rfl) ?_
    refine lv_aload_n hx hb dX13_object_10 rfl (lv_at hl 0 rfl) ?_
    refine mr_get (v := .int (sg_1 48)) hx hb htb inX13 hown hK hP 48 (by decide) (htb _ kw_1075) rfl dX13_object_11 ?_
    refine lv_topi (fun z_5 ez_5 => ?_)
    obtain rfl : (sg 48) = z_5 := (ez_5.trans (up_ne esg_1 (by decide))).symm
    refine lv_icmp_ge (tgt := 26) hx hb dX13_object_14 (by decide) (fun c_6 => ?_) (fun c_6 => ?_)
    · have d_7 : ((sg 48) : Int32).toInt ≤ (k : Int32).toInt := Int32.le_iff_toInt_le.mp c_6
      refine lv_iconst (v := (-1)) hx hb dX13_object_26 (by decide) ?_
      refine lv_goto (tgt := 49) hx hb dX13_object_27 (by decide) ?_
      exact W.iret (v := (-1)) hx hb hr (fun t ht hW => ⟨⟨(-1), (sg_1, gm, lg), rfl, ⟨sg_1, gm, lg, rfl, hI_sg_1, (KS_up KS_rf esg_1 (by decide)), KS_rf, KS_rf, ((by rw [zOb_z (by have := hRR.1.1; have := i32_0; have := i32_1; have := i32_2; have := i32_m1; have := congrArg Int32.toInt (show sg_1 48 = sg 48 from up_ne esg_1 (by decide)); have := (show iv 0 60 (sg 48) from MI_s hI 48).1; have := (show iv 0 60 (sg 48) from MI_s hI 48).2; have := (h_4).1; have := (h_4).2; have := ((show iv 0 60 (sg 48) from MI_s hI 48)).1; have := ((show iv 0 60 (sg 48) from MI_s hI 48)).2; omega)]; rfl)), ((RR_ks (L := [5]) (M := []) hRR (KS_up KS_rf esg_1 (by decide)) KS_rf (by decide) (by decide)))⟩, by rw [ht]; exact hP, va_K.moved hW.alike hK, hD⟩, hS.F ht⟩) hS.2.2 dX13_object_49
    · have d_8 : (k : Int32).toInt < ((sg 48) : Int32).toInt := Int32.lt_iff_toInt_lt.mp (i32_lt c_6)
      have h_9 : iv 0 59 k := iv_ltL (i32_lt c_6) h_4 (show iv 0 60 (sg 48) from MI_s hI 48) (by decide)
      have h_10 : iv 1 60 (sg 48) := iv_ltR (i32_lt c_6) h_4 (show iv 0 60 (sg 48) from MI_s hI 48) (by decide)
      refine lv_iload_n hx hb dX13_object_17 rfl (lv_at hl 2 rfl) ?_
      refine lv_if_lt (tgt := 26) hx hb dX13_object_18 (by decide) (fun c_11 => ?_) (fun c_11 => ?_)
      · have h_12 : iv (-2147483648) (-1) w := iv_ltL c_11 (iv_all w) (iv_k (by decide) : iv 0 0 0) (by decide)
        refine lv_iconst (v := (-1)) hx hb dX13_object_26 (by decide) ?_
        refine lv_goto (tgt := 49) hx hb dX13_object_27 (by decide) ?_
        exact W.iret (v := (-1)) hx hb hr (fun t ht hW => ⟨⟨(-1), (sg_1, gm, lg), rfl, ⟨sg_1, gm, lg, rfl, hI_sg_1, (KS_up KS_rf esg_1 (by decide)), KS_rf, KS_rf, ((by rw [zOb_r hRR (by have := i32_0; have := i32_1; have := i32_2; have := i32_m1; have := (h_9).1; have := (h_9).2; have := (h_10).1; have := (h_10).2; have := (h_12).1; have := (h_12).2; omega) (by have := i32_0; have := i32_1; have := i32_2; have := i32_m1; have := congrArg Int32.toInt (show sg_1 48 = sg 48 from up_ne esg_1 (by decide)); have := (show iv 0 60 (sg 48) from MI_s hI 48).1; have := (show iv 0 60 (sg 48) from MI_s hI 48).2; have := (h_9).1; have := (h_9).2; have := (h_10).1; have := (h_10).2; have := (h_12).1; have := (h_12).2; omega), if_neg (by have := i32_0; have := i32_1; have := i32_2; have := i32_m1; have := (h_9).1; have := (h_9).2; have := (h_10).1; have := (h_10).2; have := (h_12).1; have := (h_12).2; omega), if_neg (by have := i32_0; have := i32_1; have := i32_2; have := i32_m1; have := (h_9).1; have := (h_9).2; have := (h_10).1; have := (h_10).2; have := (h_12).1; have := (h_12).2; omega)]; rfl)), ((RR_ks (L := [5]) (M := []) hRR (KS_up KS_rf esg_1 (by decide)) KS_rf (by decide) (by decide)))⟩, by rw [ht]; exact hP, va_K.moved hW.alike hK, hD⟩, hS.F ht⟩) hS.2.2 dX13_object_49
      · have h_13 : iv 0 2147483647 w := iv_leR (i32_ge c_11) (iv_k (by decide) : iv 0 0 0) (iv_all w) (by decide)
        refine lv_iload_n hx hb dX13_object_21 rfl (lv_at hl 2 rfl) ?_
        refine lv_iconst (v := 1) hx hb dX13_object_22 (by decide) ?_
        refine lv_icmp_le (tgt := 30) hx hb dX13_object_23 (by decide) (fun c_14 => ?_) (fun c_14 => ?_)
        · have h_15 : iv 0 1 w := iv_leL c_14 h_13 (iv_k (by decide) : iv 1 1 1) (by decide)
          refine lv_iload_n hx hb dX13_object_30 rfl (lv_at hl 2 rfl) ?_
          refine lv_if_ne (tgt := 43) hx hb dX13_object_31 (by decide) (fun c_16 => ?_) (fun c_16 => ?_)
          · have h_17 : iv 1 1 w := iv_neL c_16 h_15 (by decide)
            refine lv_aload_n hx hb dX13_object_43 rfl (lv_at hl 0 rfl) ?_
            refine mr_get (v := .ref (ad 54)) hx hb htb inX13 hown hK hP 54 (by decide) (htb _ kw_1081) rfl dX13_object_44 ?_
            refine lv_iload_n hx hb dX13_object_47 rfl (lv_at hl 1 rfl) ?_
            refine mr_iald hx hb hK hP 40 (k := 54) rfl rfl rfl (show vp_in k 60 from (iv_in h_9 (by decide))) dX13_object_48 ?_
            refine lv_topi (fun z_18 ez_18 => ?_)
            have hz_18 : iv 0 79 z_18 := iv_of ez_18 (MI_a hI_sg_1 54 h_9 (by decide))
            exact W.iret (v := z_18) hx hb hr (fun t ht hW => ⟨⟨z_18, (sg_1, gm, lg), rfl, ⟨sg_1, gm, lg, rfl, hI_sg_1, (KS_up KS_rf esg_1 (by decide)), KS_rf, KS_rf, ((by rw [zOb_r hRR (by have := i32_0; have := i32_1; have := i32_2; have := i32_m1; have := (h_9).1; have := (h_9).2; have := (h_10).1; have := (h_10).2; have := (h_17).1; have := (h_17).2; have := (hz_18).1; have := (hz_18).2; omega) (by have := i32_0; have := i32_1; have := i32_2; have := i32_m1; have := congrArg Int32.toInt (show sg_1 48 = sg 48 from up_ne esg_1 (by decide)); have := (show iv 0 60 (sg 48) from MI_s hI 48).1; have := (show iv 0 60 (sg 48) from MI_s hI 48).2; have := (h_9).1; have := (h_9).2; have := (h_10).1; have := (h_10).2; have := (h_17).1; have := (h_17).2; have := (hz_18).1; have := (hz_18).2; omega), if_neg (by have := i32_0; have := i32_1; have := i32_2; have := i32_m1; have := (h_9).1; have := (h_9).2; have := (h_10).1; have := (h_10).2; have := (h_17).1; have := (h_17).2; have := (hz_18).1; have := (hz_18).2; omega), if_pos (by have := i32_0; have := i32_1; have := i32_2; have := i32_m1; have := (h_9).1; have := (h_9).2; have := (h_10).1; have := (h_10).2; have := (h_17).1; have := (h_17).2; have := (hz_18).1; have := (hz_18).2; omega), ez_18])), ((RR_ks (L := [5]) (M := []) hRR (KS_up KS_rf esg_1 (by decide)) KS_rf (by decide) (by decide)))⟩, by rw [ht]; exact hP, va_K.moved hW.alike hK, hD⟩, hS.F ht⟩) hS.2.2 dX13_object_49
          · have h_19 : iv 0 0 w := iv_eq c_16 h_15 (iv_k (by decide) : iv 0 0 0) (by decide)
            refine lv_aload_n hx hb dX13_object_34 rfl (lv_at hl 0 rfl) ?_
            refine mr_get (v := .ref (ad 53)) hx hb htb inX13 hown hK hP 53 (by decide) (htb _ kw_1080) rfl dX13_object_35 ?_
            refine lv_iload_n hx hb dX13_object_38 rfl (lv_at hl 1 rfl) ?_
            refine mr_iald hx hb hK hP 39 (k := 53) rfl rfl rfl (show vp_in k 60 from (iv_in h_9 (by decide))) dX13_object_39 ?_
            refine lv_topi (fun z_20 ez_20 => ?_)
            have hz_20 : iv 0 7 z_20 := iv_of ez_20 (MI_a hI_sg_1 53 h_9 (by decide))
            refine lv_goto (tgt := 49) hx hb dX13_object_40 (by decide) ?_
            exact W.iret (v := z_20) hx hb hr (fun t ht hW => ⟨⟨z_20, (sg_1, gm, lg), rfl, ⟨sg_1, gm, lg, rfl, hI_sg_1, (KS_up KS_rf esg_1 (by decide)), KS_rf, KS_rf, ((by rw [zOb_r hRR (by have := i32_0; have := i32_1; have := i32_2; have := i32_m1; have := (h_9).1; have := (h_9).2; have := (h_10).1; have := (h_10).2; have := (h_19).1; have := (h_19).2; have := (hz_20).1; have := (hz_20).2; omega) (by have := i32_0; have := i32_1; have := i32_2; have := i32_m1; have := congrArg Int32.toInt (show sg_1 48 = sg 48 from up_ne esg_1 (by decide)); have := (show iv 0 60 (sg 48) from MI_s hI 48).1; have := (show iv 0 60 (sg 48) from MI_s hI 48).2; have := (h_9).1; have := (h_9).2; have := (h_10).1; have := (h_10).2; have := (h_19).1; have := (h_19).2; have := (hz_20).1; have := (hz_20).2; omega), if_pos (by have := i32_0; have := i32_1; have := i32_2; have := i32_m1; have := (h_9).1; have := (h_9).2; have := (h_10).1; have := (h_10).2; have := (h_19).1; have := (h_19).2; have := (hz_20).1; have := (hz_20).2; omega), ez_20])), ((RR_ks (L := [5]) (M := []) hRR (KS_up KS_rf esg_1 (by decide)) KS_rf (by decide) (by decide)))⟩, by rw [ht]; exact hP, va_K.moved hW.alike hK, hD⟩, hS.F ht⟩) hS.2.2 dX13_object_49
        · have h_21 : iv 2 2147483647 w := iv_ltR (i32_lt c_14) (iv_k (by decide) : iv 1 1 1) h_13 (by decide)
          refine lv_iconst (v := (-1)) hx hb dX13_object_26 (by decide) ?_
          refine lv_goto (tgt := 49) hx hb dX13_object_27 (by decide) ?_
          exact W.iret (v := (-1)) hx hb hr (fun t ht hW => ⟨⟨(-1), (sg_1, gm, lg), rfl, ⟨sg_1, gm, lg, rfl, hI_sg_1, (KS_up KS_rf esg_1 (by decide)), KS_rf, KS_rf, ((by rw [zOb_r hRR (by have := i32_0; have := i32_1; have := i32_2; have := i32_m1; have := (h_9).1; have := (h_9).2; have := (h_10).1; have := (h_10).2; have := (h_21).1; have := (h_21).2; omega) (by have := i32_0; have := i32_1; have := i32_2; have := i32_m1; have := congrArg Int32.toInt (show sg_1 48 = sg 48 from up_ne esg_1 (by decide)); have := (show iv 0 60 (sg 48) from MI_s hI 48).1; have := (show iv 0 60 (sg 48) from MI_s hI 48).2; have := (h_9).1; have := (h_9).2; have := (h_10).1; have := (h_10).2; have := (h_21).1; have := (h_21).2; omega), if_neg (by have := i32_0; have := i32_1; have := i32_2; have := i32_m1; have := (h_9).1; have := (h_9).2; have := (h_10).1; have := (h_10).2; have := (h_21).1; have := (h_21).2; omega), if_neg (by have := i32_0; have := i32_1; have := i32_2; have := i32_m1; have := (h_9).1; have := (h_9).2; have := (h_10).1; have := (h_10).2; have := (h_21).1; have := (h_21).2; omega)]; rfl)), ((RR_ks (L := [5]) (M := []) hRR (KS_up KS_rf esg_1 (by decide)) KS_rf (by decide) (by decide)))⟩, by rw [ht]; exact hP, va_K.moved hW.alike hK, hD⟩, hS.F ht⟩) hS.2.2 dX13_object_49
end
section
/-- before a refresh: nothing is made, nothing is being made, no event -/
theorem RR_cr {wg : Nat → Nat → Int32} {wl : Nat → Nat → Int64} {S : S9} {sg sg2 : Nat → Int32} {gm gm2 : Nat → Nat → Int32} (h : RR wg wl S sg gm) (h1 : ∀ b, ¬ zS S b = 1) (hn : (sg 41).toNatClampNeg ≤ 80) (hc : CLR sg2 gm2) (h49 : (sg2 49).toInt = 0) (e41 : sg2 41 = sg 41) (e48 : sg2 48 = sg 48) (e53 : gm2 53 = gm 53) (e54 : gm2 54 = gm 54) : RR wg wl (zCe (zFo S)) sg2 gm2 := by
  obtain ⟨hO, hE, hB, hF⟩ := h
  refine ⟨?_, ?_, ?_, ?_⟩
  · unfold RRo; rw [e48, e53, e54]; exact hO
  · exact ⟨h49, fun k e hk => by have hk : ([] : List Ev9)[k]? = some e := hk; simp at hk⟩
  · intro b hb
    rw [e41] at hb
    have q := hB b hb
    have c := hc.2 b (Nat.zero_le _) (by omega)
    show ((if zS S b = 2 then 0 else zS S b) = 1 ↔ _) ∧ (_ → ((if zS S b = 2 then 0 else zS S b) = 2 ↔ _) ∧ (gm2 60 b).toInt = (if (if zS S b = 2 then 0 else zS S b) = 0 then -1 else zW S b)) ∧ (if zS S b = 2 then 0 else zS S b) ≤ 2
    have z : (if zS S b = 2 then 0 else zS S b) = 0 := by
      by_cases e : zS S b = 2
      · rw [if_pos e]
      · rw [if_neg e]; have := h1 b; have := q.2.2; omega
    rw [z, c.1, c.2.1, c.2.2]
    exact ⟨⟨fun p => absurd p (by decide), fun p => absurd rfl p⟩, fun _ => ⟨⟨fun p => absurd p (by decide), fun p => absurd rfl p⟩, by rw [if_pos rfl]; decide⟩, by omega⟩
  · exact ⟨hc.1, fun k b hk => by have hk : ([] : List Nat)[k]? = some b := hk; simp at hk, List.nodup_nil⟩

set_option maxHeartbeats 4000000 in
set_option maxRecDepth 100000 in
theorem f_clear9 (l : Launch) (dC : Nat → ClassId) (dI : Nat → Nat → Nat) (h0 : Nat) (ad : Nat → Nat) (cid : Nat → ClassId) (sg : Nat → Int32) (gm : Nat → Nat → Int32) (lg : Nat → Nat → Int64) (wg : Nat → Nat → Int32) (wl : Nat → Nat → Int64) (S : S9) (hI : MI sg gm) (hRR : RR wg wl S sg gm) (hn1 : ∀ b, ¬ zS S b = 1) : MMv l dC dI yX13_clear wm_X13_clear ({ frames := 0, cells := 0, slots := 0, locals := 0 }) h0 ad cid [] sg gm lg (fun v => ∃ (sg2 : Nat → Int32) (gm2 : Nat → Nat → Int32) (lg2 : Nat → Nat → Int64), v = (sg2, gm2, lg2) ∧ MI sg2 gm2 ∧ KS [49, 50] sg sg2 ∧ KS [60, 61, 62] gm gm2 ∧ KS [] lg lg2 ∧ (CLR sg2 gm2) ∧ (RR wg wl (zCe (zFo S)) sg2 gm2)) := by
  intro sz
  refine Met.ofW (cc := cX13_clear) (maxL := 2) (ret := none) (by decide) rfl ?_
  intro p e s m args below meth c s₁ B hml hv
  obtain ⟨rfl, hsz, hP, hK, hD0⟩ := hv
  have hx := B.exec
  have hb := B.bytes
  have hr := B.returns
  have hts := atoms_spec (ws := wm_X13_clear) B.pre
  have htb := fun (w : Cond) (h : w ∈ tb) => hts w (List.mem_cons_of_mem _ h)
  have hown : s.vm.findClass RX13 = some m.cls := findClass_of_methodNamed B.named
  have hlocks := B.notSynchronized
  subst hsz
  have hD := hD0.self (sz := s.heap.size)
  generalize hAe : va_A (mW h0 ad cid sg gm lg) s.heap.size = A at hD ⊢
  have hA : ∀ q : Nat, s.heap.size ≤ q → A q := fun q h => by rw [← hAe]; exact Or.inr h
  have hS : va_S A s.heap s.heap [] := va_S.rf
  have hl := lv_entry ([.ref h0]) (n := 2) (Nat.le_of_ble_eq_true rfl)
  rw [lg_entry_eq]
  generalize (lg_sl ([.ref h0]) ++ List.replicate (2 - (lg_sl ([.ref h0])).length) Slot.unset).toArray = ls at hl ⊢
  have hl : lv_has ls 2 [(0, .ref h0)] := hl
  have hj12 : ∀ (n : Nat) (sg_j12 : Nat → Int32) (gm_j12 : Nat → Nat → Int32) (x1_12 : Int32) (_ : (80 - x1_12.toInt).toNat = n) (_ : iv 0 80 x1_12) (_ : KS [49, 50] sg sg_j12) (_ : KS [60, 61, 62] gm gm_j12) (_ : MI sg_j12 gm_j12) (_ : CLn gm_j12 x1_12.toNatClampNeg) (_ : (sg_j12 50).toInt = 0) (_ : (sg_j12 49).toInt = 0) (H : Heap) (locs : List Loc) (ls : Array Slot), va_P (dC, dI) vwCl (mW h0 ad cid sg_j12 gm_j12 lg) H → va_D A (mW h0 ad cid sg_j12 gm_j12 lg) → va_S A s.heap H locs → lv_has ls 2 [(1, .int x1_12), (0, .ref h0)] → W p l e (headSpec wm_X13_clear ({ frames := 0, cells := 0, slots := 0, locals := 0 })).room s m ([.ref h0] : List Value).toArray below meth c H locs 0 0 (MQ below (va_Qv (fun v => ∃ (sg2 : Nat → Int32) (gm2 : Nat → Nat → Int32) (lg2 : Nat → Nat → Int64), v = (sg2, gm2, lg2) ∧ MI sg2 gm2 ∧ KS [49, 50] sg sg2 ∧ KS [60, 61, 62] gm gm2 ∧ KS [] lg lg2 ∧ (CLR sg2 gm2) ∧ (RR wg wl (zCe (zFo S)) sg2 gm2)) (MB dC dI h0 ad cid A) A) ([.ref h0] : List Value).toArray s 0 0 A) (F0 m 12 ls []) := by
    intro n
    induction n using Nat.strongRecOn with
    | ind n ih12 =>
      intro sg_j12 gm_j12 x1_12 hn12 hx1_12 hks_j12 hkg_j12 hI_j12 hcn h50 h49 H locs ls hP hD hS hl
      refine lv_iload_n hx hb dX13_clear_12 rfl (lv_at hl 0 rfl) ?_
      refine lv_bipush (v := 80) hx hb dX13_clear_13 (by decide) ?_
      refine lv_icmp_ge (tgt := 45) hx hb dX13_clear_15 (by decide) (fun c_1 => ?_) (fun c_1 => ?_)
      · have h_2 : iv 80 80 x1_12 := iv_leR c_1 (iv_k (by decide) : iv 80 80 80) hx1_12 (by decide)
        exact W.vret hx hb hr (fun t ht hW => ⟨⟨(sg_j12, gm_j12, lg), rfl, ⟨sg_j12, gm_j12, lg, rfl, hI_j12, (KS_tr (L := [49, 50]) KS_rf hks_j12 (by decide)), (KS_tr (L := [60, 61, 62]) KS_rf hkg_j12 (by decide)), KS_rf, (⟨by have := i32_0; have := i32_1; have := i32_2; have := i32_m1; have := (show iv 0 80 (sg_j12 50) from MI_s hI_j12 50).1; have := (show iv 0 80 (sg_j12 50) from MI_s hI_j12 50).2; have := (show iv 0 80 (sg 50) from MI_s hI 50).1; have := (show iv 0 80 (sg 50) from MI_s hI 50).2; have := (show iv 0 400 (sg_j12 49) from MI_s hI_j12 49).1; have := (show iv 0 400 (sg_j12 49) from MI_s hI_j12 49).2; have := (show iv 0 400 (sg 49) from MI_s hI 49).1; have := (show iv 0 400 (sg 49) from MI_s hI 49).2; have := (h_2).1; have := (h_2).2; omega, by have q9 : x1_12.toNatClampNeg = 80 := (by have := iv_cl h_2 (by decide); have := (h_2).1; have := (h_2).2; omega); rw [q9] at hcn; exact hcn⟩), (RR_cr hRR hn1 (by have q5 := (show iv 0 80 (sg 41) from MI_s hI 41); have q6 := cln9 q5.1; have := q5.2; omega) ⟨by have := i32_0; have := i32_1; have := i32_2; have := i32_m1; have := (show iv 0 80 (sg_j12 50) from MI_s hI_j12 50).1; have := (show iv 0 80 (sg_j12 50) from MI_s hI_j12 50).2; have := (show iv 0 80 (sg 50) from MI_s hI 50).1; have := (show iv 0 80 (sg 50) from MI_s hI 50).2; have := (show iv 0 400 (sg_j12 49) from MI_s hI_j12 49).1; have := (show iv 0 400 (sg_j12 49) from MI_s hI_j12 49).2; have := (show iv 0 400 (sg 49) from MI_s hI 49).1; have := (show iv 0 400 (sg 49) from MI_s hI 49).2; have := (h_2).1; have := (h_2).2; omega, by have q9 : x1_12.toNatClampNeg = 80 := (by have := iv_cl h_2 (by decide); have := (h_2).1; have := (h_2).2; omega); rw [q9] at hcn; exact hcn⟩ h49 (hks_j12 41 (by decide)) (hks_j12 48 (by decide)) (hkg_j12 53 (by decide)) (hkg_j12 54 (by decide)))⟩, by rw [ht]; exact hP, va_K.moved hW.alike hK, hD⟩, hS.F ht⟩) hS.2.2 dX13_clear_45
      · have h_3 : iv 0 79 x1_12 := iv_ltL (i32_lt c_1) hx1_12 (iv_k (by decide) : iv 80 80 80) (by decide)
        refine lv_aload_n hx hb dX13_clear_18 rfl (lv_at hl 1 rfl) ?_
        refine mr_get (v := .ref (ad 61)) hx hb htb inX13 hown hK hP 61 (by decide) (htb _ kw_1088) rfl dX13_clear_19 ?_
        refine lv_iload_n hx hb dX13_clear_22 rfl (lv_at hl 0 rfl) ?_
        refine lv_iconst (v := 0) hx hb dX13_clear_23 (by decide) ?_
        refine ma_zast (x := 0) hx hb hK hP hD hS 47 (k := 61) rfl rfl rfl (show vp_in x1_12 80 from (iv_in h_3 (by decide))) dX13_clear_24 (fun gm_4 H locs egm_4 hP hD hS => ?_)
        have hI_gm_4 := MI_st hI_j12 egm_4 (iv_of (iv_vb (iv_w (iv_k (by decide) : iv 0 0 0) (by decide))) (iv_k (by decide) : iv 0 0 0)) (by decide)
        refine lv_aload_n hx hb dX13_clear_25 rfl (lv_at hl 1 rfl) ?_
        refine mr_get (v := .ref (ad 62)) hx hb htb inX13 hown hK hP 62 (by decide) (htb _ kw_1089) rfl dX13_clear_26 ?_
        refine lv_iload_n hx hb dX13_clear_29 rfl (lv_at hl 0 rfl) ?_
        refine lv_iconst (v := 0) hx hb dX13_clear_30 (by decide) ?_
        refine ma_zast (x := 0) hx hb hK hP hD hS 48 (k := 62) rfl rfl rfl (show vp_in x1_12 80 from (iv_in h_3 (by decide))) dX13_clear_31 (fun gm_5 H locs egm_5 hP hD hS => ?_)
        have hI_gm_5 := MI_st hI_gm_4 egm_5 (iv_of (iv_vb (iv_w (iv_k (by decide) : iv 0 0 0) (by decide))) (iv_k (by decide) : iv 0 0 0)) (by decide)
        refine lv_aload_n hx hb dX13_clear_32 rfl (lv_at hl 1 rfl) ?_
        refine mr_get (v := .ref (ad 60)) hx hb htb inX13 hown hK hP 60 (by decide) (htb _ kw_1087) rfl dX13_clear_33 ?_
        refine lv_iload_n hx hb dX13_clear_36 rfl (lv_at hl 0 rfl) ?_
        refine lv_iconst (v := (-1)) hx hb dX13_clear_37 (by decide) ?_
        refine ma_iast (x := (-1)) hx hb hK hP hD hS 46 (k := 60) rfl rfl rfl (show vp_in x1_12 80 from (iv_in h_3 (by decide))) dX13_clear_38 (fun gm_6 H locs egm_6 hP hD hS => ?_)
        have hI_gm_6 := MI_st hI_gm_5 egm_6 (iv_k (by decide) : iv (-1) (-1) (-1)) (by decide)
        obtain ⟨z_7, ez_7⟩ : ∃ z : Int32, z = x1_12 + 1 := ⟨_, rfl⟩
        have hz_7 : iv 1 80 z_7 := iv_of ez_7 (iv_add h_3 (iv_k (by decide) : iv 1 1 1) (by decide))
        have tz_7 : z_7.toInt = x1_12.toInt + 1 := by rw [ez_7]; exact iv_addE h_3 (iv_k (by decide) : iv 1 1 1) (by decide)
        refine lv_iinc (v := z_7) (lv' := [(1, .int z_7), (0, .ref h0)]) hx hb dX13_clear_39 hl (k := 0) rfl ez_7.symm (by decide) rfl (fun ls hl => ?_)
        refine lv_goto (tgt := 12) hx hb dX13_clear_42 (by decide) ?_
        exact ih12 _ (by rw [← hn12]; exact (iv_meas tz_7 h_3 (by decide))) sg_j12 gm_6 z_7 rfl (iv_w hz_7 (by decide)) (KS_tr (L := [49, 50]) KS_rf hks_j12 (by decide)) (KS_up (KS_up (KS_up (KS_tr (L := [60, 61, 62]) KS_rf hkg_j12 (by decide)) egm_4 (by decide)) egm_5 (by decide)) egm_6 (by decide)) hI_gm_6 (by rw [s_cl h_3 (by decide) tz_7]; exact CLn_s hcn (show gm_6 61 = upd (gm_j12 61) (x1_12 : Int32).toNatClampNeg (vp_nar .boolean 0) from ((up_ne egm_6 (by decide)).trans ((up_ne egm_5 (by decide)).trans ((up_at egm_4).trans (by rw [show gm_j12 61 = gm_j12 61 from rfl]))))) (show gm_6 62 = upd (gm_j12 62) (x1_12 : Int32).toNatClampNeg (vp_nar .boolean 0) from ((up_ne egm_6 (by decide)).trans ((up_at egm_5).trans (by rw [show gm_4 62 = gm_j12 62 from ((up_ne egm_4 (by decide)).trans rfl)])))) (show gm_6 60 = upd (gm_j12 60) (x1_12 : Int32).toNatClampNeg (-1) from ((up_at egm_6).trans (by rw [show gm_5 60 = gm_j12 60 from ((up_ne egm_5 (by decide)).trans ((up_ne egm_4 (by decide)).trans rfl))]))) rfl rfl rfl) (by have := i32_0; have := i32_1; have := i32_2; have := i32_m1; have := (show iv 0 80 (sg_j12 50) from MI_s hI_j12 50).1; have := (show iv 0 80 (sg_j12 50) from MI_s hI_j12 50).2; have := (show iv 0 80 (sg 50) from MI_s hI 50).1; have := (show iv 0 80 (sg 50) from MI_s hI 50).2; have := (show iv 0 400 (sg_j12 49) from MI_s hI_j12 49).1; have := (show iv 0 400 (sg_j12 49) from MI_s hI_j12 49).2; have := (show iv 0 400 (sg 49) from MI_s hI 49).1; have := (show iv 0 400 (sg 49) from MI_s hI 49).2; have := (h_3).1; have := (h_3).2; have := (hz_7).1; have := (hz_7).2; omega) (by have := i32_0; have := i32_1; have := i32_2; have := i32_m1; have := (show iv 0 80 (sg_j12 50) from MI_s hI_j12 50).1; have := (show iv 0 80 (sg_j12 50) from MI_s hI_j12 50).2; have := (show iv 0 80 (sg 50) from MI_s hI 50).1; have := (show iv 0 80 (sg 50) from MI_s hI 50).2; have := (show iv 0 400 (sg_j12 49) from MI_s hI_j12 49).1; have := (show iv 0 400 (sg_j12 49) from MI_s hI_j12 49).2; have := (show iv 0 400 (sg 49) from MI_s hI 49).1; have := (show iv 0 400 (sg 49) from MI_s hI 49).2; have := (h_3).1; have := (h_3).2; have := (hz_7).1; have := (hz_7).2; omega) _ _ _ hP hD hS (lv_sub hl [0, 1] rfl)
  refine lv_aload_n hx hb dX13_clear_0 rfl (lv_at hl 0 rfl) ?_
  refine lv_iconst (v := 0) hx hb dX13_clear_1 (by decide) ?_
  refine ma_put (x := 0) hx hb htb inX13 hown hK hP hD hS 49 (by decide) (by decide) (htb _ kw_1076) rfl rfl rfl dX13_clear_2 (fun sg_8 H locs esg_8 hP hD hS => ?_)
  have hI_sg_8 := MI_put hI esg_8 (iv_k (by decide) : iv 0 0 0) (by decide)
  refine lv_aload_n hx hb dX13_clear_5 rfl (lv_at hl 0 rfl) ?_
  refine lv_iconst (v := 0) hx hb dX13_clear_6 (by decide) ?_
  refine ma_put (x := 0) hx hb htb inX13 hown hK hP hD hS 50 (by decide) (by decide) (htb _ kw_1077) rfl rfl rfl dX13_clear_7 (fun sg_9 H locs esg_9 hP hD hS => ?_)
  have hI_sg_9 := MI_put hI_sg_8 esg_9 (iv_k (by decide) : iv 0 0 0) (by decide)
  refine lv_iconst (v := 0) hx hb dX13_clear_10 (by decide) ?_
  refine lv_istore_n (lv' := [(1, .int 0), (0, .ref h0)]) hx hb dX13_clear_11 rfl hl (by decide) rfl (fun ls hl => ?_)
  exact hj12 _ sg_9 gm 0 rfl (iv_w (iv_k (by decide) : iv 0 0 0) (by decide)) (KS_up (KS_up KS_rf esg_8 (by decide)) esg_9 (by decide)) KS_rf hI_sg_9 (fun j9 _ h9 => absurd h9 (Nat.not_lt_zero _)) (by have := i32_0; have := i32_1; have := i32_2; have := i32_m1; have : (sg_9 50).toInt = 0 := (by rw [up_at esg_9]; rfl); have := congrArg Int32.toInt (show sg_9 49 = sg_8 49 from up_ne esg_9 (by decide)); have : (sg_8 49).toInt = 0 := (by rw [up_at esg_8]; rfl); omega) (by have := i32_0; have := i32_1; have := i32_2; have := i32_m1; have : (sg_9 50).toInt = 0 := (by rw [up_at esg_9]; rfl); have := congrArg Int32.toInt (show sg_9 49 = sg_8 49 from up_ne esg_9 (by decide)); have : (sg_8 49).toInt = 0 := (by rw [up_at esg_8]; rfl); omega) _ _ _ hP hD hS (lv_sub hl [0, 1] rfl)
end
section
section SD9
variable {wg gm gm2 : Nat → Nat → Int32} {wl : Nat → Nat → Int64} {sg sg2 : Nat → Int32} {S S2 : S9}
/-- the beans while the finished ones are taken back, n of them left -/
def SHB (wg : Nat → Nat → Int32) (wl : Nat → Nat → Int64) (S : S9) (nb n : Nat) (gm : Nat → Nat → Int32) : Prop := ∀ b, b < nb → (zS S b = 1 ↔ ¬ gm 62 b = 0) ∧ zS S b ≤ 2 ∧ (one9 wg wl b → (b ∈ (zF S).take n → ¬ gm 61 b = 0 ∧ (gm 60 b).toInt = zW S b) ∧ (¬ b ∈ (zF S).take n → gm 61 b = 0 ∧ (gm 60 b).toInt = (if zS S b = 1 then zW S b else -1)))
/-- what is made once is among the finished -/
def WZ9 (wg : Nat → Nat → Int32) (wl : Nat → Nat → Int64) (S : S9) : Prop := ∀ b, one9 wg wl b → zS S b = 2 → b ∈ zF S
theorem SHB_0 {n : Nat} (h : RR wg wl S sg gm) (hz : WZ9 wg wl S) (hn : (zF S).length ≤ n) : SHB wg wl S (sg 41).toNatClampNeg n gm := by
  intro b hb
  have q := h.2.2.1 b hb
  refine ⟨q.1, q.2.2, fun o => ?_⟩
  rw [List.take_of_length_le hn]
  have q9 := q.2.1 o
  refine ⟨fun hm => ?_, fun hm => ?_⟩
  · obtain ⟨k, hk⟩ := List.getElem?_of_mem hm
    have z2 := (h.2.2.2.2.1 k b hk).2.2.2
    exact ⟨q9.1.mp z2, by rw [q9.2, if_neg (by omega)]⟩
  · have z2 : ¬ zS S b = 2 := fun e => hm (hz b o e)
    refine ⟨Decidable.byContradiction (fun e => z2 (q9.1.mpr e)), ?_⟩
    rw [q9.2]
    by_cases e : zS S b = 1
    · rw [if_pos e, if_neg (by omega)]
    · rw [if_neg e, if_pos (by have := q.2.2; omega)]
theorem SHB_s {nb k b : Nat} {v w : Int32} (h : SHB wg wl S nb (k + 1) gm) (hb : (zF S)[k]? = some b) (hnd : (zF S).Nodup) (h2 : zS S b = 2) (e61 : gm2 61 = upd (gm 61) b v) (e60 : gm2 60 = upd (gm 60) b w) (e62 : gm2 62 = gm 62) (hv : v = 0) (hw : w.toInt = -1) : SHB wg wl S nb k gm2 := by
  intro i hi
  have q := h i hi
  have ht : (zF S).take (k + 1) = (zF S).take k ++ [b] := by rw [List.take_add_one, hb]; rfl
  have hn : ¬ b ∈ (zF S).take k := fun hm => by
    have : ((zF S).take (k + 1)).Nodup := List.Nodup.sublist (List.take_sublist _ _) hnd
    rw [ht, List.nodup_append] at this
    exact this.2.2 b hm b (by simp) rfl
  rw [e60, e61, e62]
  refine ⟨q.1, q.2.1, fun o => ?_⟩
  by_cases e : i = b
  · subst e
    rw [upd_at, upd_at]
    exact ⟨fun hm => absurd hm hn, fun _ => ⟨hv, by rw [if_neg (by omega)]; exact hw⟩⟩
  · rw [upd_ne e, upd_ne e]
    have q9 := q.2.2 o
    rw [ht] at q9
    exact ⟨fun hm => q9.1 (List.mem_append.mpr (Or.inl hm)), fun hm => q9.2 (fun hx => (List.mem_append.mp hx).elim hm (fun hx => e (by simpa using hx)))⟩
/-- all are taken back -/
theorem RR_sh (h : SHB wg wl S (sg2 41).toNatClampNeg 0 gm2) (hO : RRo S2 sg2 gm2) (hE : RRe S2 sg2 gm2) (hS : zS S2 = zS S) (hW : zW S2 = zW S) (h50 : (sg2 50).toInt = 0) : RR wg wl (zFo S2) sg2 gm2 := by
  refine ⟨hO, hE, ?_, ?_⟩
  · intro b hb
    have q := h b hb
    show ((if zS S2 b = 2 then 0 else zS S2 b) = 1 ↔ _) ∧ (_ → ((if zS S2 b = 2 then 0 else zS S2 b) = 2 ↔ _) ∧ (gm2 60 b).toInt = (if (if zS S2 b = 2 then 0 else zS S2 b) = 0 then -1 else zW S2 b)) ∧ (if zS S2 b = 2 then 0 else zS S2 b) ≤ 2
    rw [hS, hW]
    have l := q.2.1
    refine ⟨?_, fun o => ?_, ?_⟩
    · rw [← q.1]
      by_cases e : zS S b = 2
      · rw [if_pos e, e]; exact ⟨fun p => absurd p (by decide), fun p => absurd p (by decide)⟩
      · rw [if_neg e]
    · have c := (q.2.2 o).2 (by simp)
      rw [c.1, c.2]
      refine ⟨⟨fun p => ?_, fun p => absurd rfl p⟩, ?_⟩
      · by_cases e : zS S b = 2
        · rw [if_pos e] at p; exact absurd p (by decide)
        · rw [if_neg e] at p; exact absurd p e
      · by_cases e : zS S b = 1
        · rw [if_pos e, if_neg (show ¬ (if zS S b = 2 then 0 else zS S b) = 0 by rw [if_neg (by omega)]; omega)]
        · have : (if zS S b = 2 then 0 else zS S b) = 0 := by
            by_cases e2 : zS S b = 2
            · rw [if_pos e2]
            · rw [if_neg e2]; omega
          rw [if_neg e, if_pos this]
    · by_cases e : zS S b = 2
      · rw [if_pos e]; omega
      · rw [if_neg e]; exact l
  · exact ⟨h50, fun k b hk => by have hk : ([] : List Nat)[k]? = some b := hk; simp at hk, List.nodup_nil⟩
end SD9
end
section
theorem chF_k9 {sg sg2 : Nat → Int32} {gm gm2 : Nat → Nat → Int32} {lg lg2 : Nat → Nat → Int64} (h : DK sg gm lg sg2 gm2 lg2) (a : Int32) : ∀ n, chF sg2 gm2 a n = chF sg gm a n
  | 0 => by show mInn sg2 gm2 a 0 a = mInn sg gm a 0 a; rw [mInn_k h.1]
  | n + 1 => by
    show (if chF sg2 gm2 a n = -1 then -1 else mInn sg2 gm2 a 0 (chF sg2 gm2 a n)) = if chF sg gm a n = -1 then -1 else mInn sg gm a 0 (chF sg gm a n)
    rw [chF_k9 h a n, mInn_k h.1]
section WP9
variable {ws : Nat → Int32} {wg rg gm gm1 gm2 : Nat → Nat → Int32} {wl : Nat → Nat → Int64} {rs sg sg1 sg2 : Nat → Int32} {lg : Nat → Nat → Int64} {S : S9} {e c sl : Nat} {acc ac2 : List Int}
/-- what is left of a holder's content, with what stands already -/
def reW (ws : Nat → Int32) (wg : Nat → Nat → Int32) (wl : Nat → Nat → Int64) (n : Nat) (c : Nat) (acc : List Int) (S : S9) : Option (List Int) × S9 :=
  if (wg 25 c).toInt = 6 then oIts ws wg wl (oMK ws wg wl n) ((itC wg c).drop acc.length) acc S else if acc = [] then oCon ws wg wl (oMK ws wg wl n) c S else (some acc, S)
def dlI (wg : Nat → Nat → Int32) (c : Nat) (o : Int) : Int := if (wg 25 c).toInt = 6 then 3000 + o else o
theorem reW_6 {n : Nat} (h : (wg 25 c).toInt = 6) : reW ws wg wl n c acc S = oIts ws wg wl (oMK ws wg wl n) ((itC wg c).drop acc.length) acc S := by unfold reW; rw [if_pos h]
theorem reW_0 {n : Nat} : reW ws wg wl n c [] S = oCon ws wg wl (oMK ws wg wl n) c S := by
  unfold reW
  by_cases h : (wg 25 c).toInt = 6
  · rw [if_pos h]; unfold oCon; rw [if_pos h]; rfl
  · rw [if_neg h, if_pos rfl]
theorem reW_1 {n : Nat} (h : ¬ (wg 25 c).toInt = 6) (ha : ¬ acc = []) : reW ws wg wl n c acc S = (some acc, S) := by unfold reW; rw [if_neg h, if_neg ha]
/-- what stands of it in the slot -/
def PT9 (wg : Nat → Nat → Int32) (wl : Nat → Nat → Int64) (rg gm : Nat → Nat → Int32) (ob : List Ob9) (c sl : Nat) (acc : List Int) : Prop :=
  ((wg 25 c).toInt = 6 ∧ acc.length ≤ (itC wg c).length ∧ PIT9 rg gm sl acc) ∨ (¬ (wg 25 c).toInt = 6 ∧ (acc = [] ∨ VR9 wg wl rg ob c acc (gm 70 sl) (gm 71 sl)))
/-- an object is waited for -/
def AW9 (wg : Nat → Nat → Int32) (c : Nat) (acc : List Int) : Prop := ((wg 25 c).toInt = 6 ∧ acc.length < (itC wg c).length) ∨ (¬ (wg 25 c).toInt = 6 ∧ kd8 wg c ∧ acc = [])
/-- only the slot's rows change -/
def KPS (gm gm2 : Nat → Nat → Int32) (sl : Nat) : Prop := (∀ j, ¬ j = sl → gm2 70 j = gm 70 j ∧ gm2 71 j = gm 71 j) ∧ (∀ j, (j < 6 * sl ∨ 6 * sl + 6 ≤ j) → gm2 72 j = gm 72 j ∧ gm2 73 j = gm 73 j)
theorem KPS_rf : KPS gm gm sl := ⟨fun _ _ => ⟨rfl, rfl⟩, fun _ _ => ⟨rfl, rfl⟩⟩
theorem KPS_tr (h : KPS gm gm1 sl) (h2 : KPS gm1 gm2 sl) : KPS gm gm2 sl := ⟨fun j hj => ⟨(h2.1 j hj).1.trans (h.1 j hj).1, (h2.1 j hj).2.trans (h.1 j hj).2⟩, fun j hj => ⟨(h2.2 j hj).1.trans (h.2 j hj).1, (h2.2 j hj).2.trans (h.2 j hj).2⟩⟩
theorem KPS_4 (h : SV4 gm gm2) : KPS gm gm2 sl := ⟨fun j _ => ⟨by rw [h.1], by rw [h.2.1]⟩, fun j _ => ⟨by rw [h.2.2.1], by rw [h.2.2.2]⟩⟩
theorem KPS_8 {it kd vl : Int32} (h : KP8 gm gm2 sl it kd vl) (hi : it.toInt ≤ 5) : KPS gm gm2 sl := by
  rcases h with ⟨h0, e0, e1, e2, e3⟩ | ⟨h0, e0, e1, e2, e3⟩
  · exact ⟨fun j hj => ⟨by rw [e0, upd_ne hj], by rw [e1, upd_ne hj]⟩, fun j _ => ⟨by rw [e2], by rw [e3]⟩⟩
  · have c1 := cln9 h0
    exact ⟨fun j hj => ⟨by rw [e0], by rw [e1]⟩, fun j hj => ⟨by rw [e2, upd_ne (by omega)], by rw [e3, upd_ne (by omega)]⟩⟩
theorem KPS_k (h : KPS gm gm1 sl) (h0 : gm2 70 = gm1 70) (h1 : gm2 71 = gm1 71) (h2 : gm2 72 = gm1 72) (h3 : gm2 73 = gm1 73) : KPS gm gm2 sl := KPS_tr h (KPS_4 ⟨h0, h1, h2, h3⟩)
/-- what worked tells -/
abbrev FWK (ws : Nat → Int32) (wg : Nat → Nat → Int32) (wl : Nat → Nat → Int64) (rg : Nat → Nat → Int32) (S : S9) (e sl : Nat) (it : Int32) (sg : Nat → Int32) (gm : Nat → Nat → Int32) (sg2 : Nat → Int32) (gm2 : Nat → Nat → Int32) (r : Int32) : Prop := (r.toInt = 1 ∧ (sg2 51).toInt = 0 ∧ RR wg wl S sg2 gm2 ∧ VAL9 ws wg wl rg gm2 S e sl it ∧ ∃ k9 v9, KP8 gm gm2 sl it k9 v9) ∨ (r.toInt = 0 ∧ 1 ≤ (sg2 51).toInt ∧ RR wg wl S sg2 gm2 ∧ kd8 wg e ∧ ∀ n9, oObj ws wg wl (oMK ws wg wl n9) e S = (none, S)) ∨ (r.toInt = 0 ∧ SV4 gm gm2 ∧ (sg2 51).toInt = 0 ∧ kd8 wg e ∧ ∃ t9 : Int32, iv 0 79 t9 ∧ t9.toInt < (sg 41).toInt ∧ RR wg wl (oBe t9.toNatClampNeg S) sg2 gm2 ∧ ¬ zS S t9.toNatClampNeg = 1 ∧ (∀ n9, oObj ws wg wl (oMK ws wg wl n9) e S = oMK ws wg wl n9 t9.toNatClampNeg S) ∧ gm2 64 = upd (gm 64) (sg 63).toNatClampNeg t9 ∧ gm2 68 = upd (gm 68) (sg 63).toNatClampNeg (-1))
/-- what workedOut tells -/
def WO9 (ws : Nat → Int32) (wg : Nat → Nat → Int32) (wl : Nat → Nat → Int64) (rg : Nat → Nat → Int32) (c sl : Nat) (acc : List Int) (S : S9) (sg : Nat → Int32) (gm : Nat → Nat → Int32) (sg2 : Nat → Int32) (gm2 : Nat → Nat → Int32) (r : Int32) : Prop :=
  (r.toInt = 1 ∧ (sg2 51).toInt = 0 ∧ RR wg wl S sg2 gm2 ∧ KPS gm gm2 sl ∧ ∃ V, (∀ n, reW ws wg wl n c acc S = (some V, S)) ∧ VR9 wg wl rg (zO S) c V (gm2 70 sl) (gm2 71 sl) ∧ ITS9 wg rg gm2 c sl V)
  ∨ (r.toInt = 0 ∧ 1 ≤ (sg2 51).toInt ∧ RR wg wl S sg2 gm2 ∧ ∀ n, reW ws wg wl n c acc S = (none, S))
  ∨ (r.toInt = 0 ∧ (sg2 51).toInt = 0 ∧ KPS gm gm2 sl ∧ ∃ (t : Int32) (ac2 : List Int), iv 0 79 t ∧ t.toInt < (sg 41).toInt ∧ RR wg wl (oBe t.toNatClampNeg S) sg2 gm2 ∧ ¬ zS S t.toNatClampNeg = 1 ∧ AW9 wg c ac2 ∧ (∀ n, reW ws wg wl n c acc S = bd9 (oMK ws wg wl n t.toNatClampNeg S) (fun o S2 => reW ws wg wl n c (ac2 ++ [dlI wg c o]) S2)) ∧ (gm2 67 (TOPn sg)).toInt = (ac2.length : Int) ∧ PT9 wg wl rg gm2 (zO S) c sl ac2 ∧ gm2 64 = upd (gm 64) (sg 63).toNatClampNeg t ∧ gm2 68 = upd (gm 68) (sg 63).toNatClampNeg (-1))
/-- no list, worked out before -/
theorem WO_1 {r : Int32} (hr : r.toInt = 1) (h5 : (sg 51).toInt = 0) (hR : RR wg wl S sg gm) (h6 : ¬ (wg 25 c).toInt = 6) (hp : PT9 wg wl rg gm (zO S) c sl acc) (ha : 0 < (acc.length : Int)) : WO9 ws wg wl rg c sl acc S sg gm sg gm r := by
  have hn : ¬ acc = [] := fun q => by rw [q] at ha; exact absurd ha (by decide)
  refine Or.inl ⟨hr, h5, hR, KPS_rf, acc, fun n => reW_1 h6 hn, ?_, fun q => absurd q h6⟩
  rcases hp with q | ⟨_, q | q⟩
  · exact absurd q.1 h6
  · exact absurd q hn
  · exact q
/-- no list, worked out now -/
theorem WO_w {r : Int32} (h6 : ¬ (wg 25 c).toInt = 6) (ha : ¬ 0 < (acc.length : Int)) (h : FWK ws wg wl rg S c sl (-1) sg gm sg2 gm2 r) (h67 : r.toInt = 0 → (sg2 51).toInt = 0 → (gm2 67 (TOPn sg)).toInt = 0) : WO9 ws wg wl rg c sl acc S sg gm sg2 gm2 r := by
  have hn : acc = [] := List.eq_nil_of_length_eq_zero (by omega)
  subst hn
  rcases h with ⟨h1, h2, h3, h4, k9, v9, h5⟩ | ⟨h1, h2, h3, h4, h5⟩ | ⟨h1, h2, h3, h4, t, h5, h7, h8, h9, hA, hB, hC⟩
  · refine Or.inl ⟨h1, h2, h3, KPS_8 h5 (by decide), ?_⟩
    rcases h4 with ⟨_, V, q1, q2⟩ | ⟨q, _⟩
    · exact ⟨V, fun n => reW_0.trans (q1 n), q2, fun q => absurd q h6⟩
    · exact absurd q (by decide)
  · exact Or.inr (Or.inl ⟨h1, h2, h3, fun n => reW_0.trans (oCon_f h4 (h5 n))⟩)
  · refine Or.inr (Or.inr ⟨h1, h3, KPS_4 h2, t, [], h5, h7, h8, h9, Or.inr ⟨h6, h4, rfl⟩, fun n => ?_, h67 h1 h3, Or.inr ⟨h6, Or.inl rfl⟩, hB, hC⟩)
    rw [reW_0, oCon_p h4 (hA n)]
    congr 1
    funext o S2
    show _ = reW ws wg wl n c [dlI wg c o] S2
    rw [reW_1 h6 (by simp)]
    unfold dlI; rw [if_neg h6]
/-- within a list -/
def LP9 (ws : Nat → Int32) (wg : Nat → Nat → Int32) (wl : Nat → Nat → Int64) (rg : Nat → Nat → Int32) (c sl : Nat) (acc : List Int) (S : S9) (gm : Nat → Nat → Int32) (sg2 : Nat → Int32) (gm2 : Nat → Nat → Int32) (i : Int32) : Prop :=
  ∃ ac9 : List Int, (ac9.length : Int) = i.toInt ∧ ac9.length ≤ (itC wg c).length ∧ (∀ n, reW ws wg wl n c acc S = reW ws wg wl n c ac9 S) ∧ PIT9 rg gm2 sl ac9 ∧ RR wg wl S sg2 gm2 ∧ (sg2 51).toInt = 0 ∧ KPS gm gm2 sl
theorem LP_0 {i : Int32} (h6 : (wg 25 c).toInt = 6) (hp : PT9 wg wl rg gm (zO S) c sl acc) (hi : i.toInt = (acc.length : Int)) (hR : RR wg wl S sg gm) (h5 : (sg 51).toInt = 0) : LP9 ws wg wl rg c sl acc S gm sg gm i := by
  rcases hp with q | q
  · exact ⟨acc, hi.symm, q.2.1, fun _ => rfl, q.2.2, hR, h5, KPS_rf⟩
  · exact absurd h6 q.1
theorem LP_k {i : Int32} (h : LP9 ws wg wl rg c sl acc S gm sg1 gm1 i) (hR : RR wg wl S sg2 gm2) (h5 : sg2 51 = sg1 51) (h0 : gm2 70 = gm1 70) (h1 : gm2 71 = gm1 71) (h2 : gm2 72 = gm1 72) (h3 : gm2 73 = gm1 73) : LP9 ws wg wl rg c sl acc S gm sg2 gm2 i := by
  obtain ⟨ac9, a, b, d, f, _, g, k⟩ := h
  exact ⟨ac9, a, b, d, PIT_k f h2 h3, hR, by rw [h5]; exact g, KPS_k k h0 h1 h2 h3⟩
theorem LS_k {k i : Int32} (hL : LSB ws wg wl rs rg lg c) (h : LP9 ws wg wl rg c sl acc S gm sg1 gm1 i) (hk : k = chF rs rg (nI c) i.toNatClampNeg) (hv : iv 0 79 k) : (itC wg c)[i.toNatClampNeg]? = some k.toNatClampNeg ∧ WKB ws wg wl rs rg lg k.toNatClampNeg := by
  obtain ⟨ac9, a, b, _⟩ := h
  have c1 := cln9 (u := i) (by omega)
  have hlt : i.toNatClampNeg < (itC wg c).length := by
    rcases Nat.lt_or_ge i.toNatClampNeg (itC wg c).length with q | q
    · exact q
    · have : i.toNatClampNeg = (itC wg c).length := by omega
      rw [this, hL.2.2.2.2.2] at hk
      rw [hk] at hv; exact absurd hv.1 (by decide)
  have q := hL.2.2.2.2.1 _ _ (List.getElem?_eq_getElem hlt)
  have e : k = nI ((itC wg c)[i.toNatClampNeg]'hlt) := hk.trans q.1
  have e2 : k.toNatClampNeg = (itC wg c)[i.toNatClampNeg]'hlt := by
    have h1 := cln9 hv.1
    have h2 := nI_toInt (n := (itC wg c)[i.toNatClampNeg]'hlt) (by omega)
    rw [← e] at h2; omega
  rw [e2]
  exact ⟨List.getElem?_eq_getElem hlt, q.2.2⟩
/-- the next item is there -/
theorem LP_s {i i2 r : Int32} (h6 : (wg 25 c).toInt = 6) (h : LP9 ws wg wl rg c sl acc S gm sg1 gm1 i) (he : (itC wg c)[i.toNatClampNeg]? = some e) (hf : FWK ws wg wl rg S e sl i sg1 gm1 sg2 gm2 r) (hr : ¬ r.toInt = 0) (hi : i2.toInt = i.toInt + 1) (h5 : i.toInt ≤ 5) : LP9 ws wg wl rg c sl acc S gm sg2 gm2 i2 := by
  obtain ⟨ac9, a, b, d, f, _, g, k⟩ := h
  have c1 := cln9 (u := i) (by omega)
  have hl : i.toNatClampNeg < (itC wg c).length := (List.getElem?_eq_some_iff.mp he).1
  rcases hf with ⟨h1, h2, h3, h4, k9, v9, h7⟩ | q | q
  · rcases h4 with ⟨q, _⟩ | ⟨_, x, q1, q2⟩
    · omega
    · refine ⟨ac9 ++ [x], by rw [List.length_append]; show ((ac9.length + 1 : Nat) : Int) = _; omega, by rw [List.length_append]; show ac9.length + 1 ≤ _; omega, fun n => ?_, PIT_s f h7 a.symm q2, h3, h2, KPS_tr k (KPS_8 h7 h5)⟩
      rw [d n, reW_6 h6, reW_6 h6, show ac9.length = i.toNatClampNeg by omega, dro9 he, oIts_v (q1 n), List.length_append, show ac9.length + [x].length = i.toNatClampNeg + 1 by show ac9.length + 1 = _; omega]
  · exact absurd q.1 hr
  · exact absurd q.1 hr
/-- an item fails, or waits -/
theorem WO_i {i r : Int32} (h6 : (wg 25 c).toInt = 6) (h : LP9 ws wg wl rg c sl acc S gm sg1 gm1 i) (he : (itC wg c)[i.toNatClampNeg]? = some e) (hf : FWK ws wg wl rg S e sl i sg1 gm1 sg2 gm2 r) (hr : r.toInt = 0) (h41 : sg1 41 = sg 41) (h63 : sg1 63 = sg 63) (h64 : gm1 64 = gm 64) (h68 : gm1 68 = gm 68) (h67 : (sg2 51).toInt = 0 → (gm2 67 (TOPn sg)).toInt = i.toInt) : WO9 ws wg wl rg c sl acc S sg gm sg2 gm2 r := by
  obtain ⟨ac9, a, b, d, f, _, g, k⟩ := h
  have c1 := cln9 (u := i) (by omega)
  have hl : i.toNatClampNeg < (itC wg c).length := (List.getElem?_eq_some_iff.mp he).1
  have hre : ∀ n, reW ws wg wl n c acc S = oIts ws wg wl (oMK ws wg wl n) (e :: (itC wg c).drop (i.toNatClampNeg + 1)) ac9 S := fun n => by
    rw [d n, reW_6 h6, show ac9.length = i.toNatClampNeg by omega, dro9 he]
  rcases hf with q | ⟨h1, h2, h3, h4, h5⟩ | ⟨h1, h2, h3, h4, t, h5, h7, h8, h9, hA, hB, hC⟩
  · rw [hr] at q; exact absurd q.1 (by decide)
  · exact Or.inr (Or.inl ⟨hr, h2, h3, fun n => (hre n).trans (oIts_f (oItm_f h4 (h5 n)))⟩)
  · refine Or.inr (Or.inr ⟨hr, h3, KPS_tr k (KPS_4 h2), t, ac9, h5, by rw [← h41]; exact h7, h8, h9, Or.inl ⟨h6, by omega⟩, fun n => ?_, by rw [h67 h3]; exact a.symm, Or.inl ⟨h6, b, PIT_k f h2.2.2.1 h2.2.2.2⟩, by rw [hB, h64, h63], by rw [hC, h68, h63]⟩)
    rw [hre n, oIts_p h4 (hA n)]
    congr 1
    funext o S2
    rw [reW_6 h6, List.length_append, show ac9.length + [dlI wg c o].length = i.toNatClampNeg + 1 by show ac9.length + 1 = _; omega]
    unfold dlI; rw [if_pos h6]
/-- all items are there -/
theorem WO_e {i r w : Int32} (hL : LSB ws wg wl rs rg lg c) (h : LP9 ws wg wl rg c sl acc S gm sg1 gm1 i) (hk : chF rs rg (nI c) i.toNatClampNeg = -1) (hr : r.toInt = 1) (hR : RR wg wl S sg2 gm2) (h5 : sg2 51 = sg1 51) (h0 : gm2 70 = upd (gm1 70) sl 3) (h1 : gm2 71 = upd (gm1 71) sl w) (h2 : gm2 72 = gm1 72) (h3 : gm2 73 = gm1 73) (hw : w = rg 29 c) : WO9 ws wg wl rg c sl acc S sg gm sg2 gm2 r := by
  obtain ⟨ac9, a, b, d, f, _, g, k⟩ := h
  obtain ⟨h6, l1, l2, l3, l4, _⟩ := hL
  have c1 := cln9 (u := i) (by omega)
  have hl : ac9.length = (itC wg c).length := by
    rcases Nat.lt_or_ge ac9.length (itC wg c).length with q | q
    · have q2 := l4 _ _ (List.getElem?_eq_getElem q)
      rw [show i.toNatClampNeg = ac9.length by omega, q2.1] at hk
      have := nI_toInt (n := (itC wg c)[ac9.length]'q) (by have := q2.2.1; omega)
      rw [hk] at this
      exact absurd this (by have := q2.2.1; intro q9; have q8 : (-1 : Int) = ((itC wg c)[ac9.length]'q : Int) := q9; omega)
    · omega
  have hks : KPS gm1 gm2 sl := ⟨fun j hj => ⟨by rw [h0, upd_ne hj], by rw [h1, upd_ne hj]⟩, fun j _ => ⟨by rw [h2], by rw [h3]⟩⟩
  refine Or.inl ⟨hr, by rw [h5]; exact g, hR, KPS_tr k hks, ac9, fun n => ?_, Or.inr (Or.inr (Or.inl ⟨h6, by rw [h0, upd_at]; rfl, by rw [h1, upd_at, hw]; exact l1⟩)), fun _ => ⟨by omega, by omega, ?_⟩⟩
  · rw [d n, reW_6 h6, hl, List.drop_length]; rfl
  · intro j x hx
    exact PIT_k f h2 h3 j x hx
theorem WO_r {r r2 : Int32} (h : WO9 ws wg wl rg c sl acc S sg gm sg2 gm2 r) (e : r2.toInt = r.toInt) : WO9 ws wg wl rg c sl acc S sg gm sg2 gm2 r2 := by unfold WO9 at *; rw [e]; exact h
theorem WKB_6 (h : WKB ws wg wl rs rg lg c) : ¬ (wg 25 c).toInt = 6 := by
  by_cases hv : hva9 rg lg c
  · have := (h.1 hv).1; omega
  · by_cases h7 : rg 26 c = 7
    · have := (h.2.1 hv h7).1; omega
    · by_cases h9 : rg 26 c = 9
      · have := h.2.2.1 hv h9; omega
      · by_cases h3 : rg 26 c = 3
        · have := (h.2.2.2.1 hv h3).1; omega
        · have := (h.2.2.2.2 hv h7 h9 h3).1; omega
theorem WK_67 {r : Int32} (hw : WRK sg1 gm1 sg2 gm2 r) (hr : r.toInt = 0) (h63 : sg1 63 = sg 63) (hh1 : 1 ≤ (sg 63).toInt) (h0 : (sg2 51).toInt = 0) : gm2 67 (TOPn sg) = gm1 67 (TOPn sg) := by
  rcases hw with q | ⟨_, q | ⟨b, q⟩⟩
  · rw [hr] at q; exact absurd q.1 (by decide)
  · omega
  · have c1 := cln9 (u := sg 63) (by omega)
    rw [q.2.2.2.2.2.1, h63, upd_ne (by unfold TOPn; omega)]
end WP9
end
section
set_option maxHeartbeats 4000000 in
set_option maxRecDepth 100000 in
theorem f_workedOut9 (l : Launch) (dC : Nat → ClassId) (dI : Nat → Nat → Nat) (h0 : Nat) (ad : Nat → Nat) (cid : Nat → ClassId) (sg : Nat → Int32) (gm : Nat → Nat → Int32) (lg : Nat → Nat → Int64) (x : Int32) (sl : Int32) (ws : Nat → Int32) (wg : Nat → Nat → Int32) (wl : Nat → Nat → Int64) (rs : Nat → Int32) (rg : Nat → Nat → Int32) (S : S9) (ACC : List Int) (hI : MI sg gm) (hvx : iv 0 79 x) (hvsl : iv 0 404 sl) (hdoc : DOC sg gm lg) (hxe : x.toNatClampNeg < (sg 24).toNatClampNeg) (hgi : GI0 sg gm lg) (hpi : PIL sg gm) (hh1 : 1 ≤ (sg 63).toInt) (hxk : (gm 26 x.toNatClampNeg).toInt = 4 ∨ (gm 26 x.toNatClampNeg).toInt = 5) (hit : (gm 67 (TOPn sg)).toInt ≤ LIM sg gm x) (hRW : rt9 gm = rg) (hRS : rs9 sg = rs) (hBR : BRG ws wg wl rs rg lg) (hRR : RR wg wl S sg gm) (hHL : HLB ws wg wl rs rg lg x.toNatClampNeg) (hPT : PT9 wg wl rg gm (zO S) (ctE wg x.toNatClampNeg) sl.toNatClampNeg ACC) (hAL : (gm 67 (TOPn sg)).toInt = (ACC.length : Int)) (hWF : WF9 S) (h510 : (sg 51).toInt = 0) : MMi l dC dI yX13_workedOut wm_X13_workedOut ({ frames := 5, cells := 0, slots := 0, locals := 128 }) h0 ad cid [.int x, .int sl] sg gm lg (fun r v => ∃ (sg2 : Nat → Int32) (gm2 : Nat → Nat → Int32) (lg2 : Nat → Nat → Int64), v = (sg2, gm2, lg2) ∧ MI sg2 gm2 ∧ KS [51, 52, 63, 74] sg sg2 ∧ KS [62, 64, 65, 66, 67, 68, 69, 70, 71, 72, 73] gm gm2 ∧ KS [] lg lg2 ∧ (iv 0 1 r) ∧ (GI0 sg2 gm2 lg2) ∧ (WOUT sg gm (LIM sg gm x) sg2 gm2 r) ∧ (WO9 ws wg wl rg (ctE wg x.toNatClampNeg) sl.toNatClampNeg ACC S sg gm sg2 gm2 r)) := by
  intro sz
  refine Met.ofW (cc := cX13_workedOut) (maxL := 8) (ret := (some .boolean)) (by decide) rfl ?_
  intro p e s m args below meth c s₁ B hml hv
  obtain ⟨rfl, hsz, hP, hK, hD0⟩ := hv
  have hx := B.exec
  have hb := B.bytes
  have hr := B.returns
  have hts := atoms_spec (ws := wm_X13_workedOut) B.pre
  have htb := fun (w : Cond) (h : w ∈ tb) => hts w (List.mem_cons_of_mem _ h)
  have hown : s.vm.findClass RX13 = some m.cls := findClass_of_methodNamed B.named
  have hlocks := B.notSynchronized
  subst hsz
  have hD := hD0.self (sz := s.heap.size)
  generalize hAe : va_A (mW h0 ad cid sg gm lg) s.heap.size = A at hD ⊢
  have hA : ∀ q : Nat, s.heap.size ≤ q → A q := fun q h => by rw [← hAe]; exact Or.inr h
  have hS : va_S A s.heap s.heap [] := va_S.rf
  have hl := lv_entry ([.ref h0, .int x, .int sl]) (n := 8) (Nat.le_of_ble_eq_true rfl)
  rw [lg_entry_eq]
  generalize (lg_sl ([.ref h0, .int x, .int sl]) ++ List.replicate (8 - (lg_sl ([.ref h0, .int x, .int sl])).length) Slot.unset).toArray = ls at hl ⊢
  have hl : lv_has ls 8 [(0, .ref h0), (1, .int x), (2, .int sl)] := hl
  have h63 : iv 1 80 (sg 63) := ⟨hh1, (show iv 0 80 (sg 63) from MI_s hI 63).2⟩
  have hj126 : ∀ (n : Nat) (sg_j126 : Nat → Int32) (gm_j126 : Nat → Nat → Int32) (x7_126 : Int32) (x6_126 : Int32) (x5_126 : Int32) (x4_126 : Int32) (x3_126 : Int32) (_ : mE x6_126 = n) (_ : iv 0 6 x7_126) (_ : iv (-1) 79 x6_126) (_ : iv 0 6 x5_126) (_ : iv 0 79 x4_126) (_ : iv 0 79 x3_126) (_ : iv 0 79 x) (_ : iv 0 404 sl) (_ : KS [51, 52, 63, 74] sg sg_j126) (_ : KS [62, 64, 65, 66, 67, 68, 69, 70, 71, 72, 73] gm gm_j126) (_ : MI sg_j126 gm_j126) (_ : LST sg gm x x4_126) (_ : x3_126.toNatClampNeg = TOPn sg) (_ : x6_126 = chF sg gm x4_126 x5_126.toNatClampNeg) (_ : (gm 67 (TOPn sg)).toInt ≤ x5_126.toInt ∧ x5_126.toInt ≤ (gm 29 x4_126.toNatClampNeg).toInt) (_ : SAMEQ sg gm sg_j126 gm_j126) (_ : gm_j126 67 (TOPn sg) = x5_126) (_ : GI0 sg_j126 gm_j126 lg) (_ : ctE wg x.toNatClampNeg = x4_126.toNatClampNeg) (_ : LSB ws wg wl rs rg lg (ctE wg x.toNatClampNeg)) (_ : LP9 ws wg wl rg (ctE wg x.toNatClampNeg) sl.toNatClampNeg ACC S gm sg_j126 gm_j126 x5_126) (H : Heap) (locs : List Loc) (ls : Array Slot), va_P (dC, dI) vwCl (mW h0 ad cid sg_j126 gm_j126 lg) H → va_D A (mW h0 ad cid sg_j126 gm_j126 lg) → va_S A s.heap H locs → lv_has ls 8 [(7, .int x7_126), (6, .int x6_126), (5, .int x5_126), (4, .int x4_126), (3, .int x3_126), (0, .ref h0), (1, .int x), (2, .int sl)] → W p l e (headSpec wm_X13_workedOut ({ frames := 5, cells := 0, slots := 0, locals := 128 })).room s m ([.ref h0, .int x, .int sl] : List Value).toArray below meth c H locs 0 0 (MQ below (va_Qi (fun r v => ∃ (sg2 : Nat → Int32) (gm2 : Nat → Nat → Int32) (lg2 : Nat → Nat → Int64), v = (sg2, gm2, lg2) ∧ MI sg2 gm2 ∧ KS [51, 52, 63, 74] sg sg2 ∧ KS [62, 64, 65, 66, 67, 68, 69, 70, 71, 72, 73] gm gm2 ∧ KS [] lg lg2 ∧ (iv 0 1 r) ∧ (GI0 sg2 gm2 lg2) ∧ (WOUT sg gm (LIM sg gm x) sg2 gm2 r) ∧ (WO9 ws wg wl rg (ctE wg x.toNatClampNeg) sl.toNatClampNeg ACC S sg gm sg2 gm2 r)) (MB dC dI h0 ad cid A) A) ([.ref h0, .int x, .int sl] : List Value).toArray s 0 0 A) (F0 m 126 ls []) := by
    intro n
    induction n using Nat.strongRecOn with
    | ind n ih126 =>
      intro sg_j126 gm_j126 x7_126 x6_126 x5_126 x4_126 x3_126 hn126 hx7_126 hx6_126 hx5_126 hx4_126 hx3_126 hsx1_126 hsx2_126 hks_j126 hkg_j126 hI_j126 hLS htop hk9 hil hsq h67 hgi hct hLB hL9 H locs ls hP hD hS hl
      refine lv_iload hx hb dX13_workedOut_126 (lv_at hl 1 rfl) ?_
      refine lv_iconst (v := (-1)) hx hb dX13_workedOut_128 (by decide) ?_
      refine lv_icmp_eq (tgt := 171) hx hb dX13_workedOut_129 (by decide) (fun c_1 => ?_) (fun c_1 => ?_)
      · have h_2 : iv (-1) (-1) x6_126 := iv_eq c_1 hx6_126 (iv_k (by decide) : iv (-1) (-1) (-1)) (by decide)
        refine lv_aload_n hx hb dX13_workedOut_171 rfl (lv_at hl 5 rfl) ?_
        refine mr_get (v := .ref (ad 70)) hx hb htb inX13 hown hK hP 70 (by decide) (htb _ kw_1097) rfl dX13_workedOut_172 ?_
        refine lv_iload_n hx hb dX13_workedOut_175 rfl (lv_at hl 7 rfl) ?_
        refine lv_iconst (v := 3) hx hb dX13_workedOut_176 (by decide) ?_
        refine ma_iast (x := 3) hx hb hK hP hD hS 55 (k := 70) rfl rfl rfl (show vp_in sl 405 from (iv_in hsx2_126 (by decide))) dX13_workedOut_177 (fun gm_3 H locs egm_3 hP hD hS => ?_)
        have hI_gm_3 := MI_st hI_j126 egm_3 (iv_k (by decide) : iv 3 3 3) (by decide)
        refine lv_aload_n hx hb dX13_workedOut_178 rfl (lv_at hl 5 rfl) ?_
        refine mr_get (v := .ref (ad 71)) hx hb htb inX13 hown hK hP 71 (by decide) (htb _ kw_1098) rfl dX13_workedOut_179 ?_
        refine lv_iload_n hx hb dX13_workedOut_182 rfl (lv_at hl 7 rfl) ?_
        refine lv_aload_n hx hb dX13_workedOut_183 rfl (lv_at hl 5 rfl) ?_
        refine mr_get (v := .ref (ad 29)) hx hb htb inX13 hown hK hP 29 (by decide) (htb _ kw_1056) rfl dX13_workedOut_184 ?_
        refine lv_iload hx hb dX13_workedOut_187 (lv_at hl 3 rfl) ?_
        refine mr_iald hx hb hK hP 22 (k := 29) rfl rfl rfl (show vp_in x4_126 80 from (iv_in hx4_126 (by decide))) dX13_workedOut_189 ?_
        refine lv_topi (fun z_4 ez_4 => ?_)
        have hz_4 : iv 0 80 z_4 := iv_of ez_4 (MI_a hI_gm_3 29 hx4_126 (by decide))
        have ez_4 := ez_4.trans (congrFun (Eq.trans (up_ne egm_3 (by decide)) (hkg_j126 29 (by decide))) _)
        refine ma_iast (x := z_4) hx hb hK hP hD hS 56 (k := 71) rfl rfl rfl (show vp_in sl 405 from (iv_in hsx2_126 (by decide))) dX13_workedOut_190 (fun gm_5 H locs egm_5 hP hD hS => ?_)
        have hI_gm_5 := MI_st hI_gm_3 egm_5 hz_4 (by decide)
        refine lv_iconst (v := 1) hx hb dX13_workedOut_191 (by decide) ?_
        exact W.zret (v := 1) hx hb hr (iv_nb (iv_w (iv_k (by decide) : iv 1 1 1) (by decide))) (fun t ht hW => ⟨⟨1, (sg_j126, gm_5, lg), rfl, ⟨sg_j126, gm_5, lg, rfl, hI_gm_5, (KS_tr (L := [51, 52, 63, 74]) KS_rf hks_j126 (by decide)), (KS_up (KS_up (KS_tr (L := [62, 64, 65, 66, 67, 68, 69, 70, 71, 72, 73]) KS_rf hkg_j126 (by decide)) egm_3 (by decide)) egm_5 (by decide)), KS_rf, (iv_w (iv_k (by decide) : iv 1 1 1) (by decide)), (GI0_k hgi (DK_of (show KS [] sg_j126 sg_j126 from KS_rf) (show KS [70, 71] gm_j126 gm_5 from (KS_up (KS_up KS_rf egm_3 (by decide)) egm_5 (by decide))) (show KS [] lg lg from KS_rf) (by decide) (by decide) (by decide)) ((show KS [] lg lg from KS_rf) 1 (by decide)) ((show KS [70, 71] gm_j126 gm_5 from (KS_up (KS_up KS_rf egm_3 (by decide)) egm_5 (by decide))) 60 (by decide)) ((show KS [70, 71] gm_j126 gm_5 from (KS_up (KS_up KS_rf egm_3 (by decide)) egm_5 (by decide))) 61 (by decide)) ((show KS [70, 71] gm_j126 gm_5 from (KS_up (KS_up KS_rf egm_3 (by decide)) egm_5 (by decide))) 62 (by decide)) (VAL_v hgi.1 (show gm_5 70 = upd (gm_j126 70) (sl : Int32).toNatClampNeg 3 from ((up_ne egm_5 (by decide)).trans ((up_at egm_3).trans (by rw [show gm_j126 70 = gm_j126 70 from rfl])))) (show gm_5 71 = upd (gm_j126 71) (sl : Int32).toNatClampNeg z_4 from ((up_at egm_5).trans (by rw [show gm_3 71 = gm_j126 71 from ((up_ne egm_3 (by decide)).trans rfl)]))) ((show KS [70, 71] gm_j126 gm_5 from (KS_up (KS_up KS_rf egm_3 (by decide)) egm_5 (by decide))) 72 (by decide)) ((show KS [70, 71] gm_j126 gm_5 from (KS_up (KS_up KS_rf egm_3 (by decide)) egm_5 (by decide))) 73 (by decide)) rfl (vok_3 (by rw [ez_4]; exact hLS.2.2.2))) ((show KS [] sg_j126 sg_j126 from KS_rf) 50 (by decide))), (Or.inl ⟨rfl, SAMEQ_v hsq ((show KS [70, 71] gm_j126 gm_5 from (KS_up (KS_up KS_rf egm_3 (by decide)) egm_5 (by decide))) 62 (by decide)) ((show KS [70, 71] gm_j126 gm_5 from (KS_up (KS_up KS_rf egm_3 (by decide)) egm_5 (by decide))) 64 (by decide)) ((show KS [70, 71] gm_j126 gm_5 from (KS_up (KS_up KS_rf egm_3 (by decide)) egm_5 (by decide))) 65 (by decide)) ((show KS [70, 71] gm_j126 gm_5 from (KS_up (KS_up KS_rf egm_3 (by decide)) egm_5 (by decide))) 66 (by decide)) ((show KS [70, 71] gm_j126 gm_5 from (KS_up (KS_up KS_rf egm_3 (by decide)) egm_5 (by decide))) 67 (by decide)) ((show KS [70, 71] gm_j126 gm_5 from (KS_up (KS_up KS_rf egm_3 (by decide)) egm_5 (by decide))) 68 (by decide)) ((show KS [70, 71] gm_j126 gm_5 from (KS_up (KS_up KS_rf egm_3 (by decide)) egm_5 (by decide))) 69 (by decide))⟩), ((WO_e hLB hL9 (by rw [hct, nI_c hLS.1, chF_k9 (DK_r (lg := lg) hRW hRS)]; exact (hk9.symm.trans c_1)) rfl (by obtain ⟨_, _, _, _, _, q9, _⟩ := id hL9; exact RR_ks (L := []) (M := [70, 71]) q9 KS_rf (show KS [70, 71] gm_j126 gm_5 from (KS_up (KS_up KS_rf egm_3 (by decide)) egm_5 (by decide))) (by decide) (by decide)) rfl (show gm_5 70 = upd (gm_j126 70) (sl : Int32).toNatClampNeg 3 from ((up_ne egm_5 (by decide)).trans ((up_at egm_3).trans (by rw [show gm_j126 70 = gm_j126 70 from rfl])))) (show gm_5 71 = upd (gm_j126 71) (sl : Int32).toNatClampNeg z_4 from ((up_at egm_5).trans (by rw [show gm_3 71 = gm_j126 71 from ((up_ne egm_3 (by decide)).trans rfl)]))) ((show KS [70, 71] gm_j126 gm_5 from (KS_up (KS_up KS_rf egm_3 (by decide)) egm_5 (by decide))) 72 (by decide)) ((show KS [70, 71] gm_j126 gm_5 from (KS_up (KS_up KS_rf egm_3 (by decide)) egm_5 (by decide))) 73 (by decide)) (by rw [hct]; exact (rwz9 hRW (by decide) ez_4).symm)))⟩, by rw [ht]; exact hP, va_K.moved hW.alike hK, hD⟩, hS.F ht⟩) hS.2.2 dX13_workedOut_192
      · have h_6 : iv 0 79 x6_126 := iv_neL c_1 hx6_126 (by decide)
        obtain ⟨hc1, hc2, hc3⟩ := chF_lt hdoc.1.1 (show iv 0 80 (sg 24) from MI_s hI 24) hLS.1 hLS.2.1 hk9 c_1
        have h132 : iv 0 5 x5_126 := ⟨(hx5_126).1, by have := hLS.2.2.2; have := iv_cl hx5_126 (by decide); omega⟩
        have hit9 := LS_k (k := x6_126) hLB hL9 (by rw [hct, nI_c hLS.1, chF_k9 (DK_r (lg := lg) hRW hRS)]; exact hk9) hc2
        obtain ⟨_, _, _, _, _, hR9, h519, _⟩ := id hL9
        refine lv_aload_n hx hb dX13_workedOut_132 rfl (lv_at hl 5 rfl) ?_
        refine lv_iload hx hb dX13_workedOut_133 (lv_at hl 1 rfl) ?_
        refine lv_iload_n hx hb dX13_workedOut_135 rfl (lv_at hl 7 rfl) ?_
        refine lv_iload hx hb dX13_workedOut_136 (lv_at hl 2 rfl) ?_
        refine mr_calli (rest := []) ⟨hx, hb, hml, hown, htb⟩ (f_worked9 l dC dI h0 ad cid sg_j126 gm_j126 lg x6_126 sl x5_126 ws wg wl rs rg S hI_j126 hc2 hsx2_126 (iv_w h132 (by decide)) (DOC_of hdoc (show KS [51, 52, 63, 74] sg sg_j126 from (KS_tr (L := [51, 52, 63, 74]) KS_rf hks_j126 (by decide))) (show KS [62, 64, 65, 66, 67, 68, 69, 70, 71, 72, 73] gm gm_j126 from (KS_tr (L := [62, 64, 65, 66, 67, 68, 69, 70, 71, 72, 73]) KS_rf hkg_j126 (by decide))) (show KS [] lg lg from KS_rf) (by decide) (by decide) (by decide) (by decide)) (by rw [(hks_j126 24 (by decide))]; exact hc3) hgi (PIL_k hsq.1 (hks_j126 41 (by decide)) hsq.2.1 hsq.2.2.1 hpi) ((rt9_ks (L := [62, 64, 65, 66, 67, 68, 69, 70, 71, 72, 73]) (KS_tr (L := [62, 64, 65, 66, 67, 68, 69, 70, 71, 72, 73]) KS_rf hkg_j126 (by decide)) (by decide)).trans hRW) ((rs9_ks (L := [51, 52, 63, 74]) (KS_tr (L := [51, 52, 63, 74]) KS_rf hks_j126 (by decide)) rfl rfl).trans hRS) hBR hR9 hit9.2 hWF h519) (cwV 3 htb (gd_V kw_1269 kw_1270 kw_123 kw_160 kw_1633) rfl rfl rfl (by decide +kernel) ⟨Nat.le_of_ble_eq_true rfl, Nat.le_of_ble_eq_true rfl⟩) rfl hl.1 rfl (Nat.le_of_ble_eq_true rfl) dX13_workedOut_138 ⟨Nat.zero_le _, Nat.zero_le _⟩ hK hP hD hS hA (fun r_7 u_8 H locs hw hP hD hS => ?_)
        obtain ⟨sgv_9, gmv_9, lgv_9, rfl, hIv_9, ksv_9, kgv_9, klv_9, hr_7, fGI_r_7, fWk_r_7, fW9_r_7⟩ := hw
        obtain rfl := KS_nil klv_9
        have hP : va_P (dC, dI) vwCl (mW h0 ad cid sgv_9 gmv_9 lg) H := hP
        have hD : va_D A (mW h0 ad cid sgv_9 gmv_9 lg) := hD
        refine lv_if_ne (tgt := 146) hx hb dX13_workedOut_141 (by decide) (fun c_10 => ?_) (fun c_10 => ?_)
        · have h_11 : iv 1 1 r_7 := iv_neL c_10 hr_7 (by decide)
          obtain ⟨z_12, ez_12⟩ : ∃ z : Int32, z = x5_126 + 1 := ⟨_, rfl⟩
          have hz_12 : iv 1 6 z_12 := iv_of ez_12 (iv_add h132 (iv_k (by decide) : iv 1 1 1) (by decide))
          have tz_12 : z_12.toInt = x5_126.toInt + 1 := by rw [ez_12]; exact iv_addE h132 (iv_k (by decide) : iv 1 1 1) (by decide)
          refine lv_iinc (v := z_12) (lv' := [(5, .int z_12), (7, .int x7_126), (6, .int x6_126), (4, .int x4_126), (3, .int x3_126), (0, .ref h0), (1, .int x), (2, .int sl)]) hx hb dX13_workedOut_146 hl (k := 2) rfl ez_12.symm (by decide) rfl (fun ls hl => ?_)
          have hLs : LP9 ws wg wl rg (ctE wg x.toNatClampNeg) sl.toNatClampNeg ACC S gm sgv_9 gmv_9 z_12 := LP_s hLB.1 hL9 hit9.1 fW9_r_7 (fun q9 => c_10 (Int32.toInt_inj.mp q9)) (by have := tz_12; omega) h132.2
          refine lv_aload_n hx hb dX13_workedOut_149 rfl (lv_at hl 5 rfl) ?_
          refine mr_get (v := .ref (ad 67)) hx hb htb inX13 hown hK hP 67 (by decide) (htb _ kw_1094) rfl dX13_workedOut_150 ?_
          refine lv_iload_n hx hb dX13_workedOut_153 rfl (lv_at hl 4 rfl) ?_
          refine lv_iload hx hb dX13_workedOut_154 (lv_at hl 0 rfl) ?_
          refine ma_iast (x := z_12) hx hb hK hP hD hS 52 (k := 67) rfl rfl rfl (show vp_in x3_126 81 from (iv_in hx3_126 (by decide))) dX13_workedOut_156 (fun gm_13 H locs egm_13 hP hD hS => ?_)
          have hI_gm_13 := MI_st hIv_9 egm_13 hz_12 (by decide)
          refine lv_aload_n hx hb dX13_workedOut_157 rfl (lv_at hl 5 rfl) ?_
          refine lv_iload hx hb dX13_workedOut_158 (lv_at hl 3 rfl) ?_
          refine lv_iconst (v := 0) hx hb dX13_workedOut_160 (by decide) ?_
          refine lv_iload hx hb dX13_workedOut_161 (lv_at hl 2 rfl) ?_
          refine mr_calli (rest := []) ⟨hx, hb, hml, hown, htb⟩ (f_inner l dC dI h0 ad cid sgv_9 gm_13 lg x4_126 0 x6_126 hI_gm_13 (iv_w hx4_126 (by decide)) (iv_w (iv_k (by decide) : iv 0 0 0) (by decide)) hc2) (cwV 3 htb (gd_V kw_1231 kw_1232 kw_107 kw_160 kw_1615) rfl rfl rfl (by decide +kernel) ⟨Nat.le_of_ble_eq_true rfl, Nat.le_of_ble_eq_true rfl⟩) rfl hl.1 rfl (Nat.le_of_ble_eq_true rfl) dX13_workedOut_163 ⟨Nat.zero_le _, Nat.zero_le _⟩ hK hP hD hS hA (fun r_14 u_15 H locs hw hP hD hS => ?_)
          obtain ⟨hr_14, fN_r_14, rfl⟩ := hw
          have hP : va_P (dC, dI) vwCl (mW h0 ad cid sgv_9 gm_13 lg) H := hP
          have hD : va_D A (mW h0 ad cid sgv_9 gm_13 lg) := hD
          refine lv_istore (lv' := [(6, .int r_14), (5, .int z_12), (7, .int x7_126), (4, .int x4_126), (3, .int x3_126), (0, .ref h0), (1, .int x), (2, .int sl)]) hx hb dX13_workedOut_166 hl (by decide) rfl (fun ls hl => ?_)
          refine lv_goto (tgt := 126) hx hb dX13_workedOut_168 (by decide) ?_
          exact ih126 _ (by rw [← hn126]; exact (mE_lt hc2 hr_14 (by rcases mInn_or (gm := gm) (a := x4_126) (kd := 0) (bh := x6_126) (show iv 0 80 (sg 24) from MI_s hI 24) with q9 | q9; exact Or.inl ((fN_r_14.trans (mInn_k (DK_of (show KS [51, 52, 63, 74] sg sgv_9 from (KS_tr (L := [51, 52, 63, 74]) (KS_tr (L := [51, 52, 63, 74]) KS_rf hks_j126 (by decide)) ksv_9 (by decide))) (show KS [62, 64, 65, 66, 67, 68, 69, 70, 71, 72, 73] gm gm_13 from (KS_up (KS_tr (L := [62, 64, 65, 66, 67, 68, 69, 70, 71, 72, 73]) (KS_tr (L := [62, 64, 65, 66, 67, 68, 69, 70, 71, 72, 73]) KS_rf hkg_j126 (by decide)) kgv_9 (by decide)) egm_13 (by decide))) (show KS [] lg lg from KS_rf) (by decide) (by decide) (by decide)).1 _ _ _)).trans q9.1); exact Or.inr (by rw [fN_r_14.trans (mInn_k (DK_of (show KS [51, 52, 63, 74] sg sgv_9 from (KS_tr (L := [51, 52, 63, 74]) (KS_tr (L := [51, 52, 63, 74]) KS_rf hks_j126 (by decide)) ksv_9 (by decide))) (show KS [62, 64, 65, 66, 67, 68, 69, 70, 71, 72, 73] gm gm_13 from (KS_up (KS_tr (L := [62, 64, 65, 66, 67, 68, 69, 70, 71, 72, 73]) (KS_tr (L := [62, 64, 65, 66, 67, 68, 69, 70, 71, 72, 73]) KS_rf hkg_j126 (by decide)) kgv_9 (by decide)) egm_13 (by decide))) (show KS [] lg lg from KS_rf) (by decide) (by decide) (by decide)).1 _ _ _)]; exact q9.2.1)))) sgv_9 gm_13 x7_126 r_14 z_12 x4_126 x3_126 rfl hx7_126 hr_14 (iv_w hz_12 (by decide)) hx4_126 hx3_126 hsx1_126 hsx2_126 (KS_tr (L := [51, 52, 63, 74]) (KS_tr (L := [51, 52, 63, 74]) KS_rf hks_j126 (by decide)) ksv_9 (by decide)) (KS_up (KS_tr (L := [62, 64, 65, 66, 67, 68, 69, 70, 71, 72, 73]) (KS_tr (L := [62, 64, 65, 66, 67, 68, 69, 70, 71, 72, 73]) KS_rf hkg_j126 (by decide)) kgv_9 (by decide)) egm_13 (by decide)) hI_gm_13 (hLS) (htop) (by rw [s_cl h132 (by decide) tz_12]; exact chF_s hk9 c_1 (fN_r_14.trans (mInn_k (DK_of (show KS [51, 52, 63, 74] sg sgv_9 from (KS_tr (L := [51, 52, 63, 74]) (KS_tr (L := [51, 52, 63, 74]) KS_rf hks_j126 (by decide)) ksv_9 (by decide))) (show KS [62, 64, 65, 66, 67, 68, 69, 70, 71, 72, 73] gm gm_13 from (KS_up (KS_tr (L := [62, 64, 65, 66, 67, 68, 69, 70, 71, 72, 73]) (KS_tr (L := [62, 64, 65, 66, 67, 68, 69, 70, 71, 72, 73]) KS_rf hkg_j126 (by decide)) kgv_9 (by decide)) egm_13 (by decide))) (show KS [] lg lg from KS_rf) (by decide) (by decide) (by decide)).1 _ _ _))) (⟨by have := hil.1; have := tz_12; omega, by have := tz_12; have := iv_cl h132 (by decide); omega⟩) (SAMEQ_u (SAMEQ_p hsq (WRK_1 fWk_r_7 (fun q9 => c_10 (Int32.toInt_inj.mp q9)))) (show gm_13 67 = upd (gmv_9 67) _ _ from up_at egm_13) htop ((show KS [67] gmv_9 gm_13 from (KS_up KS_rf egm_13 (by decide))) 62 (by decide)) ((show KS [67] gmv_9 gm_13 from (KS_up KS_rf egm_13 (by decide))) 64 (by decide)) ((show KS [67] gmv_9 gm_13 from (KS_up KS_rf egm_13 (by decide))) 65 (by decide)) ((show KS [67] gmv_9 gm_13 from (KS_up KS_rf egm_13 (by decide))) 66 (by decide)) ((show KS [67] gmv_9 gm_13 from (KS_up KS_rf egm_13 (by decide))) 68 (by decide)) ((show KS [67] gmv_9 gm_13 from (KS_up KS_rf egm_13 (by decide))) 69 (by decide))) (by rw [show gm_13 67 = upd (gmv_9 67) _ _ from up_at egm_13, htop, upd_at]) (GI0_of fGI_r_7 (show KS [] sgv_9 sgv_9 from KS_rf) (show KS [67] gmv_9 gm_13 from (KS_up KS_rf egm_13 (by decide))) (show KS [] lg lg from KS_rf) (by decide) (by decide) (by decide) (by decide) (by decide) (by decide)) (hct) (hLB) ((LP_k hLs (by obtain ⟨_, _, _, _, _, q9, _⟩ := id hLs; exact RR_ks (L := []) (M := [67]) q9 KS_rf (show KS [67] gmv_9 gm_13 from (KS_up KS_rf egm_13 (by decide))) (by decide) (by decide)) rfl ((show KS [67] gmv_9 gm_13 from (KS_up KS_rf egm_13 (by decide))) 70 (by decide)) ((show KS [67] gmv_9 gm_13 from (KS_up KS_rf egm_13 (by decide))) 71 (by decide)) ((show KS [67] gmv_9 gm_13 from (KS_up KS_rf egm_13 (by decide))) 72 (by decide)) ((show KS [67] gmv_9 gm_13 from (KS_up KS_rf egm_13 (by decide))) 73 (by decide)))) _ _ _ hP hD hS (lv_sub hl [2, 0, 1, 3, 4, 5, 6, 7] rfl)
        · have h_16 : iv 0 0 r_7 := iv_eq c_10 hr_7 (iv_k (by decide) : iv 0 0 0) (by decide)
          refine lv_iconst (v := 0) hx hb dX13_workedOut_144 (by decide) ?_
          exact W.zret (v := 0) hx hb hr (iv_nb (iv_w (iv_k (by decide) : iv 0 0 0) (by decide))) (fun t ht hW => ⟨⟨0, (sgv_9, gmv_9, lg), rfl, ⟨sgv_9, gmv_9, lg, rfl, hIv_9, (KS_tr (L := [51, 52, 63, 74]) (KS_tr (L := [51, 52, 63, 74]) KS_rf hks_j126 (by decide)) ksv_9 (by decide)), (KS_tr (L := [62, 64, 65, 66, 67, 68, 69, 70, 71, 72, 73]) (KS_tr (L := [62, 64, 65, 66, 67, 68, 69, 70, 71, 72, 73]) KS_rf hkg_j126 (by decide)) kgv_9 (by decide)), KS_rf, (iv_w (iv_k (by decide) : iv 0 0 0) (by decide)), (fGI_r_7), (by have q7 := WOUT_0 (lim := LIM sg gm x) hsq (hks_j126 41 (by decide)) fWk_r_7 (congrArg Int32.toInt c_10) (by rw [h67]; exact hil.1) (by rw [h67, hLS.2.2.1]; have := iv_cl h132 (by decide); omega); rw [c_10] at q7; exact q7), ((by have q7 := WO_i hLB.1 hL9 hit9.1 fW9_r_7 (congrArg Int32.toInt c_10) (hks_j126 41 (by decide)) hsq.1 hsq.2.2.1 hsq.2.2.2.2.2.1 (fun q2 => (congrArg Int32.toInt (WK_67 fWk_r_7 (congrArg Int32.toInt c_10) hsq.1 hh1 q2)).trans (congrArg Int32.toInt h67)); rw [c_10] at q7; exact q7))⟩, by rw [ht]; exact hP, va_K.moved hW.alike hK, hD⟩, hS.F ht⟩) hS.2.2 dX13_workedOut_145
  have hj102 : ∀ (n : Nat) (x7_102 : Int32) (x6_102 : Int32) (x5_102 : Int32) (x4_102 : Int32) (x3_102 : Int32) (_ : (6 - x7_102.toInt).toNat = n) (_ : iv 0 6 x7_102) (_ : iv (-1) 79 x6_102) (_ : iv 0 6 x5_102) (_ : iv 0 79 x4_102) (_ : iv 0 79 x3_102) (_ : iv 0 79 x) (_ : iv 0 404 sl) (_ : LST sg gm x x4_102) (_ : x3_102.toNatClampNeg = TOPn sg) (_ : x6_102 = chF sg gm x4_102 x7_102.toNatClampNeg) (_ : x7_102.toInt ≤ x5_102.toInt) (_ : x5_102.toInt ≤ (gm 29 x4_102.toNatClampNeg).toInt) (_ : gm 67 (TOPn sg) = x5_102) (_ : ctE wg x.toNatClampNeg = x4_102.toNatClampNeg) (_ : LSB ws wg wl rs rg lg (ctE wg x.toNatClampNeg)) (H : Heap) (locs : List Loc) (ls : Array Slot), va_P (dC, dI) vwCl (mW h0 ad cid sg gm lg) H → va_D A (mW h0 ad cid sg gm lg) → va_S A s.heap H locs → lv_has ls 8 [(7, .int x7_102), (6, .int x6_102), (5, .int x5_102), (4, .int x4_102), (3, .int x3_102), (0, .ref h0), (1, .int x), (2, .int sl)] → W p l e (headSpec wm_X13_workedOut ({ frames := 5, cells := 0, slots := 0, locals := 128 })).room s m ([.ref h0, .int x, .int sl] : List Value).toArray below meth c H locs 0 0 (MQ below (va_Qi (fun r v => ∃ (sg2 : Nat → Int32) (gm2 : Nat → Nat → Int32) (lg2 : Nat → Nat → Int64), v = (sg2, gm2, lg2) ∧ MI sg2 gm2 ∧ KS [51, 52, 63, 74] sg sg2 ∧ KS [62, 64, 65, 66, 67, 68, 69, 70, 71, 72, 73] gm gm2 ∧ KS [] lg lg2 ∧ (iv 0 1 r) ∧ (GI0 sg2 gm2 lg2) ∧ (WOUT sg gm (LIM sg gm x) sg2 gm2 r) ∧ (WO9 ws wg wl rg (ctE wg x.toNatClampNeg) sl.toNatClampNeg ACC S sg gm sg2 gm2 r)) (MB dC dI h0 ad cid A) A) ([.ref h0, .int x, .int sl] : List Value).toArray s 0 0 A) (F0 m 102 ls []) := by
    intro n
    induction n using Nat.strongRecOn with
    | ind n ih102 =>
      intro x7_102 x6_102 x5_102 x4_102 x3_102 hn102 hx7_102 hx6_102 hx5_102 hx4_102 hx3_102 hsx1_102 hsx2_102 hLS htop hk9 hn5 h5l h5e hct hLB H locs ls hP hD hS hl
      refine lv_iload hx hb dX13_workedOut_102 (lv_at hl 0 rfl) ?_
      refine lv_iload hx hb dX13_workedOut_104 (lv_at hl 2 rfl) ?_
      refine lv_icmp_ge (tgt := 126) hx hb dX13_workedOut_106 (by decide) (fun c_17 => ?_) (fun c_17 => ?_)
      · have d_18 : (x5_102 : Int32).toInt ≤ (x7_102 : Int32).toInt := Int32.le_iff_toInt_le.mp c_17
        exact hj126 _ sg gm x7_102 x6_102 x5_102 x4_102 x3_102 rfl hx7_102 hx6_102 hx5_102 hx4_102 hx3_102 hsx1_102 hsx2_102 KS_rf KS_rf hI (hLS) (htop) (by have q9 : x7_102.toNatClampNeg = x5_102.toNatClampNeg := (by have := le_cl hx7_102 hx5_102 (by decide) (by decide) hn5; have := le_cl hx5_102 hx7_102 (by decide) (by decide) (by have := i32_0; have := i32_1; have := i32_2; have := i32_m1; have := (hsx1_102).1; have := (hsx1_102).2; have := (hsx2_102).1; have := (hsx2_102).2; have := (h63).1; have := (h63).2; have := (hx7_102).1; have := (hx7_102).2; have := (hx6_102).1; have := (hx6_102).2; have := (hx5_102).1; have := (hx5_102).2; have := (hx4_102).1; have := (hx4_102).2; have := (hx3_102).1; have := (hx3_102).2; omega); omega); rw [← q9]; exact hk9) (⟨by rw [h5e]; exact Int.le_refl _, h5l⟩) (SAMEQ_rf) (h5e) (hgi) (hct) (hLB) ((LP_0 hLB.1 hPT (by rw [← h5e]; exact hAL) hRR h510)) _ _ _ hP hD hS (lv_sub hl [0, 1, 2, 3, 4, 5, 6, 7] rfl)
      · have d_19 : (x7_102 : Int32).toInt < (x5_102 : Int32).toInt := Int32.lt_iff_toInt_lt.mp (i32_lt c_17)
        have h_20 : iv 0 5 x7_102 := iv_ltL (i32_lt c_17) hx7_102 hx5_102 (by decide)
        have h_21 : iv 1 6 x5_102 := iv_ltR (i32_lt c_17) hx7_102 hx5_102 (by decide)
        have h109 := (chF_in hdoc.1.1 (show iv 0 80 (sg 24) from MI_s hI 24) hLS.1 hLS.2.1 hk9 (by have := iv_cl h_20 (by decide); have := i32_0; have := i32_1; have := i32_2; have := i32_m1; have := (hsx1_102).1; have := (hsx1_102).2; have := (hsx2_102).1; have := (hsx2_102).2; have := (h63).1; have := (h63).2; have := (h_20).1; have := (h_20).2; have := (hx6_102).1; have := (hx6_102).2; have := (h_21).1; have := (h_21).2; have := (hx4_102).1; have := (hx4_102).2; have := (hx3_102).1; have := (hx3_102).2; omega)).1
        refine lv_aload_n hx hb dX13_workedOut_109 rfl (lv_at hl 5 rfl) ?_
        refine lv_iload hx hb dX13_workedOut_110 (lv_at hl 3 rfl) ?_
        refine lv_iconst (v := 0) hx hb dX13_workedOut_112 (by decide) ?_
        refine lv_iload hx hb dX13_workedOut_113 (lv_at hl 1 rfl) ?_
        refine mr_calli (rest := []) ⟨hx, hb, hml, hown, htb⟩ (f_inner l dC dI h0 ad cid sg gm lg x4_102 0 x6_102 hI (iv_w hx4_102 (by decide)) (iv_w (iv_k (by decide) : iv 0 0 0) (by decide)) h109) (cwV 3 htb (gd_V kw_1231 kw_1232 kw_107 kw_160 kw_1615) rfl rfl rfl (by decide +kernel) ⟨Nat.le_of_ble_eq_true rfl, Nat.le_of_ble_eq_true rfl⟩) rfl hl.1 rfl (Nat.le_of_ble_eq_true rfl) dX13_workedOut_115 ⟨Nat.zero_le _, Nat.zero_le _⟩ hK hP hD hS hA (fun r_22 u_23 H locs hw hP hD hS => ?_)
        obtain ⟨hr_22, fN_r_22, rfl⟩ := hw
        have hP : va_P (dC, dI) vwCl (mW h0 ad cid sg gm lg) H := hP
        have hD : va_D A (mW h0 ad cid sg gm lg) := hD
        refine lv_istore (lv' := [(6, .int r_22), (7, .int x7_102), (5, .int x5_102), (4, .int x4_102), (3, .int x3_102), (0, .ref h0), (1, .int x), (2, .int sl)]) hx hb dX13_workedOut_118 hl (by decide) rfl (fun ls hl => ?_)
        obtain ⟨z_24, ez_24⟩ : ∃ z : Int32, z = x7_102 + 1 := ⟨_, rfl⟩
        have hz_24 : iv 1 6 z_24 := iv_of ez_24 (iv_add h_20 (iv_k (by decide) : iv 1 1 1) (by decide))
        have tz_24 : z_24.toInt = x7_102.toInt + 1 := by rw [ez_24]; exact iv_addE h_20 (iv_k (by decide) : iv 1 1 1) (by decide)
        refine lv_iinc (v := z_24) (lv' := [(7, .int z_24), (6, .int r_22), (5, .int x5_102), (4, .int x4_102), (3, .int x3_102), (0, .ref h0), (1, .int x), (2, .int sl)]) hx hb dX13_workedOut_120 hl (k := 1) rfl ez_24.symm (by decide) rfl (fun ls hl => ?_)
        refine lv_goto (tgt := 102) hx hb dX13_workedOut_123 (by decide) ?_
        exact ih102 _ (by rw [← hn102]; exact (iv_meas tz_24 h_20 (by decide))) z_24 r_22 x5_102 x4_102 x3_102 rfl (iv_w hz_24 (by decide)) hr_22 (iv_w h_21 (by decide)) hx4_102 hx3_102 hsx1_102 hsx2_102 (hLS) (htop) (by rw [s_cl h_20 (by decide) tz_24]; exact chF_s hk9 (fun q9 => absurd h109.1 (by rw [q9]; decide)) fN_r_22) (by have := i32_0; have := i32_1; have := i32_2; have := i32_m1; have := (hsx1_102).1; have := (hsx1_102).2; have := (hsx2_102).1; have := (hsx2_102).2; have := (h63).1; have := (h63).2; have := (h_20).1; have := (h_20).2; have := (h109).1; have := (h109).2; have := (h_21).1; have := (h_21).2; have := (hx4_102).1; have := (hx4_102).2; have := (hx3_102).1; have := (hx3_102).2; have := (hr_22).1; have := (hr_22).2; have := (hz_24).1; have := (hz_24).2; omega) (h5l) (h5e) (hct) (hLB) _ _ _ hP hD hS (lv_sub hl [0, 1, 2, 3, 4, 5, 6, 7] rfl)
  have hj40 : ∀ (x3_40 : Int32) (y0_40 : Int32) (_ : iv 0 79 x3_40) (_ : iv 0 79 x) (_ : iv 0 404 sl) (_ : iv (-1) 79 y0_40) (_ : WIN sg gm x y0_40) (_ : x3_40.toNatClampNeg = TOPn sg) (_ : y0_40 = inR rs rg lg x.toNatClampNeg) (H : Heap) (locs : List Loc) (ls : Array Slot), va_P (dC, dI) vwCl (mW h0 ad cid sg gm lg) H → va_D A (mW h0 ad cid sg gm lg) → va_S A s.heap H locs → lv_has ls 8 [(3, .int x3_40), (0, .ref h0), (1, .int x), (2, .int sl)] → W p l e (headSpec wm_X13_workedOut ({ frames := 5, cells := 0, slots := 0, locals := 128 })).room s m ([.ref h0, .int x, .int sl] : List Value).toArray below meth c H locs 0 0 (MQ below (va_Qi (fun r v => ∃ (sg2 : Nat → Int32) (gm2 : Nat → Nat → Int32) (lg2 : Nat → Nat → Int64), v = (sg2, gm2, lg2) ∧ MI sg2 gm2 ∧ KS [51, 52, 63, 74] sg sg2 ∧ KS [62, 64, 65, 66, 67, 68, 69, 70, 71, 72, 73] gm gm2 ∧ KS [] lg lg2 ∧ (iv 0 1 r) ∧ (GI0 sg2 gm2 lg2) ∧ (WOUT sg gm (LIM sg gm x) sg2 gm2 r) ∧ (WO9 ws wg wl rg (ctE wg x.toNatClampNeg) sl.toNatClampNeg ACC S sg gm sg2 gm2 r)) (MB dC dI h0 ad cid A) A) ([.ref h0, .int x, .int sl] : List Value).toArray s 0 0 A) (F0 m 40 ls [.int y0_40]) := by
    intro x3_40 y0_40 hx3_40 hsx1_40 hsx2_40 hy0_40 hin htop hiR H locs ls hP hD hS hl
    refine lv_istore (lv' := [(4, .int y0_40), (3, .int x3_40), (0, .ref h0), (1, .int x), (2, .int sl)]) hx hb dX13_workedOut_40 hl (by decide) rfl (fun ls hl => ?_)
    have hct : ctE wg x.toNatClampNeg = y0_40.toNatClampNeg := (by rw [hiR]; exact hHL.2.2.1)
    have hPT4 : PT9 wg wl rg gm (zO S) y0_40.toNatClampNeg sl.toNatClampNeg ACC := (by rw [← hct]; exact hPT)
    refine lv_aload_n hx hb dX13_workedOut_42 rfl (lv_at hl 2 rfl) ?_
    refine mr_get (v := .ref (ad 26)) hx hb htb inX13 hown hK hP 26 (by decide) (htb _ kw_1053) rfl dX13_workedOut_43 ?_
    refine lv_iload hx hb dX13_workedOut_46 (lv_at hl 0 rfl) ?_
    refine mr_iald hx hb hK hP 19 (k := 26) rfl rfl rfl (show vp_in y0_40 80 from (iv_in hin.1 (by decide))) dX13_workedOut_48 ?_
    refine lv_topi (fun z_25 ez_25 => ?_)
    have hz_25 : iv 0 10 z_25 := iv_of ez_25 (MI_a hI 26 hin.1 (by decide))
    refine lv_bipush (v := 6) hx hb dX13_workedOut_49 (by decide) ?_
    refine lv_icmp_eq (tgt := 80) hx hb dX13_workedOut_51 (by decide) (fun c_26 => ?_) (fun c_26 => ?_)
    · have h_27 : iv 6 6 z_25 := iv_eq c_26 hz_25 (iv_k (by decide) : iv 6 6 6) (by decide)
      have hLS := WIN_6 hdoc.1.2.1 hxk hin (by rw [← ez_25]; exact c_26)
      have hLB : LSB ws wg wl rs rg lg (ctE wg x.toNatClampNeg) := hHL.2.2.2.2.1 (by rw [← hiR, rwz9 hRW (by decide) ez_25]; exact c_26)
      refine lv_aload_n hx hb dX13_workedOut_80 rfl (lv_at hl 2 rfl) ?_
      refine mr_get (v := .ref (ad 67)) hx hb htb inX13 hown hK hP 67 (by decide) (htb _ kw_1094) rfl dX13_workedOut_81 ?_
      refine lv_iload_n hx hb dX13_workedOut_84 rfl (lv_at hl 1 rfl) ?_
      refine mr_iald hx hb hK hP 52 (k := 67) rfl rfl rfl (show vp_in x3_40 81 from (iv_in hx3_40 (by decide))) dX13_workedOut_85 ?_
      refine lv_topi (fun z_28 ez_28 => ?_)
      have hz_28 : iv 0 6 z_28 := iv_of ez_28 (MI_a hI 67 hx3_40 (by decide))
      refine lv_istore (lv' := [(5, .int z_28), (4, .int y0_40), (3, .int x3_40), (0, .ref h0), (1, .int x), (2, .int sl)]) hx hb dX13_workedOut_86 hl (by decide) rfl (fun ls hl => ?_)
      refine lv_aload_n hx hb dX13_workedOut_88 rfl (lv_at hl 3 rfl) ?_
      refine lv_iload hx hb dX13_workedOut_89 (lv_at hl 1 rfl) ?_
      refine lv_iconst (v := 0) hx hb dX13_workedOut_91 (by decide) ?_
      refine lv_iload hx hb dX13_workedOut_92 (lv_at hl 1 rfl) ?_
      refine mr_calli (rest := []) ⟨hx, hb, hml, hown, htb⟩ (f_inner l dC dI h0 ad cid sg gm lg y0_40 0 y0_40 hI (iv_w hin.1 (by decide)) (iv_w (iv_k (by decide) : iv 0 0 0) (by decide)) hin.1) (cwV 3 htb (gd_V kw_1231 kw_1232 kw_107 kw_160 kw_1615) rfl rfl rfl (by decide +kernel) ⟨Nat.le_of_ble_eq_true rfl, Nat.le_of_ble_eq_true rfl⟩) rfl hl.1 rfl (Nat.le_of_ble_eq_true rfl) dX13_workedOut_94 ⟨Nat.zero_le _, Nat.zero_le _⟩ hK hP hD hS hA (fun r_29 u_30 H locs hw hP hD hS => ?_)
      obtain ⟨hr_29, fN_r_29, rfl⟩ := hw
      have hP : va_P (dC, dI) vwCl (mW h0 ad cid sg gm lg) H := hP
      have hD : va_D A (mW h0 ad cid sg gm lg) := hD
      refine lv_istore (lv' := [(6, .int r_29), (5, .int z_28), (4, .int y0_40), (3, .int x3_40), (0, .ref h0), (1, .int x), (2, .int sl)]) hx hb dX13_workedOut_97 hl (by decide) rfl (fun ls hl => ?_)
      refine lv_iconst (v := 0) hx hb dX13_workedOut_99 (by decide) ?_
      refine lv_istore (lv' := [(7, .int 0), (6, .int r_29), (5, .int z_28), (4, .int y0_40), (3, .int x3_40), (0, .ref h0), (1, .int x), (2, .int sl)]) hx hb dX13_workedOut_100 hl (by decide) rfl (fun ls hl => ?_)
      exact hj102 _ 0 r_29 z_28 y0_40 x3_40 rfl (iv_w (iv_k (by decide) : iv 0 0 0) (by decide)) hr_29 hz_28 hin.1 hx3_40 hsx1_40 hsx2_40 (hLS) (htop) (fN_r_29) (by have := i32_0; have := i32_1; have := i32_2; have := i32_m1; have := (hsx1_40).1; have := (hsx1_40).2; have := (hsx2_40).1; have := (hsx2_40).2; have := (h63).1; have := (h63).2; have := (hx3_40).1; have := (hx3_40).2; have := (hin.1).1; have := (hin.1).2; have := (h_27).1; have := (h_27).2; have := (hz_28).1; have := (hz_28).2; have := (hr_29).1; have := (hr_29).2; omega) (by have q9 := congrArg Int32.toInt (show z_28 = gm 67 (TOPn sg) from (by have q9 := ez_28; rw [htop] at q9; exact q9)); rw [← hLS.2.2.1, q9]; exact hit) ((show z_28 = gm 67 (TOPn sg) from (by have q9 := ez_28; rw [htop] at q9; exact q9)).symm) (hct) (hLB) _ _ _ hP hD hS (lv_sub hl [0, 1, 2, 3, 4, 5, 6, 7] rfl)
    · have d_31 : ¬ (z_25 : Int32).toInt = 6 := lv_neT c_26 rfl
      have hWK4 : WKB ws wg wl rs rg lg y0_40.toNatClampNeg := (by rw [← hct]; exact hHL.2.2.2.2.2 (by rw [← hiR, rwz9 hRW (by decide) ez_25]; exact c_26))
      have h6n := WKB_6 hWK4
      refine lv_aload_n hx hb dX13_workedOut_54 rfl (lv_at hl 2 rfl) ?_
      refine mr_get (v := .ref (ad 67)) hx hb htb inX13 hown hK hP 67 (by decide) (htb _ kw_1094) rfl dX13_workedOut_55 ?_
      refine lv_iload_n hx hb dX13_workedOut_58 rfl (lv_at hl 1 rfl) ?_
      refine mr_iald hx hb hK hP 52 (k := 67) rfl rfl rfl (show vp_in x3_40 81 from (iv_in hx3_40 (by decide))) dX13_workedOut_59 ?_
      refine lv_topi (fun z_32 ez_32 => ?_)
      have hz_32 : iv 0 6 z_32 := iv_of ez_32 (MI_a hI 67 hx3_40 (by decide))
      refine lv_if_gt (tgt := 74) hx hb dX13_workedOut_60 (by decide) (fun c_33 => ?_) (fun c_33 => ?_)
      · have h_34 : iv 1 6 z_32 := iv_ltR c_33 (iv_k (by decide) : iv 0 0 0) hz_32 (by decide)
        refine lv_iconst (v := 1) hx hb dX13_workedOut_74 (by decide) ?_
        refine lv_goto (tgt := 79) hx hb dX13_workedOut_75 (by decide) ?_
        exact W.zret (v := 1) hx hb hr (iv_nb (iv_w (iv_k (by decide) : iv 1 1 1) (by decide))) (fun t ht hW => ⟨⟨1, (sg, gm, lg), rfl, ⟨sg, gm, lg, rfl, hI, KS_rf, KS_rf, KS_rf, (iv_w (iv_k (by decide) : iv 1 1 1) (by decide)), (hgi), (Or.inl ⟨rfl, SAMEQ_rf⟩), ((by rw [hct]; exact WO_1 rfl h510 hRR h6n hPT4 (by have q8 := congrArg Int32.toInt (show z_32 = gm 67 (TOPn sg) from (by have q9 := ez_32; rw [htop] at q9; exact q9)); have q9 := hAL; have := i32_0; have := i32_1; have := i32_2; have := i32_m1; have := (hsx1_40).1; have := (hsx1_40).2; have := (hsx2_40).1; have := (hsx2_40).2; have := (h63).1; have := (h63).2; have := (hx3_40).1; have := (hx3_40).2; have := (hin.1).1; have := (hin.1).2; have := (hz_25).1; have := (hz_25).2; have := (h_34).1; have := (h_34).2; omega)))⟩, by rw [ht]; exact hP, va_K.moved hW.alike hK, hD⟩, hS.F ht⟩) hS.2.2 dX13_workedOut_79
      · have h_35 : iv 0 0 z_32 := iv_leL (i32_ge c_33) hz_32 (iv_k (by decide) : iv 0 0 0) (by decide)
        refine lv_aload_n hx hb dX13_workedOut_63 rfl (lv_at hl 2 rfl) ?_
        refine lv_iload hx hb dX13_workedOut_64 (lv_at hl 0 rfl) ?_
        refine lv_iload_n hx hb dX13_workedOut_66 rfl (lv_at hl 4 rfl) ?_
        refine lv_iconst (v := (-1)) hx hb dX13_workedOut_67 (by decide) ?_
        refine mr_calli (rest := []) ⟨hx, hb, hml, hown, htb⟩ (f_worked9 l dC dI h0 ad cid sg gm lg y0_40 sl (-1) ws wg wl rs rg S hI hin.1 hsx2_40 (iv_w (iv_k (by decide) : iv (-1) (-1) (-1)) (by decide)) hdoc hin.2.1 hgi hpi hRW hRS hBR hRR hWK4 hWF h510) (cwV 3 htb (gd_V kw_1269 kw_1270 kw_123 kw_160 kw_1633) rfl rfl rfl (by decide +kernel) ⟨Nat.le_of_ble_eq_true rfl, Nat.le_of_ble_eq_true rfl⟩) rfl hl.1 rfl (Nat.le_of_ble_eq_true rfl) dX13_workedOut_68 ⟨Nat.zero_le _, Nat.zero_le _⟩ hK hP hD hS hA (fun r_36 u_37 H locs hw hP hD hS => ?_)
        obtain ⟨sgv_38, gmv_38, lgv_38, rfl, hIv_38, ksv_38, kgv_38, klv_38, hr_36, fGI_r_36, fWk_r_36, fW9_r_36⟩ := hw
        obtain rfl := KS_nil klv_38
        have hP : va_P (dC, dI) vwCl (mW h0 ad cid sgv_38 gmv_38 lg) H := hP
        have hD : va_D A (mW h0 ad cid sgv_38 gmv_38 lg) := hD
        refine lv_if_eq (tgt := 78) hx hb dX13_workedOut_71 (by decide) (fun c_39 => ?_) (fun c_39 => ?_)
        · have h_40 : iv 0 0 r_36 := iv_eq c_39 hr_36 (iv_k (by decide) : iv 0 0 0) (by decide)
          refine lv_iconst (v := 0) hx hb dX13_workedOut_78 (by decide) ?_
          exact W.zret (v := 0) hx hb hr (iv_nb (iv_w (iv_k (by decide) : iv 0 0 0) (by decide))) (fun t ht hW => ⟨⟨0, (sgv_38, gmv_38, lg), rfl, ⟨sgv_38, gmv_38, lg, rfl, hIv_38, (KS_tr (L := [51, 52, 63, 74]) KS_rf ksv_38 (by decide)), (KS_tr (L := [62, 64, 65, 66, 67, 68, 69, 70, 71, 72, 73]) KS_rf kgv_38 (by decide)), KS_rf, (iv_w (iv_k (by decide) : iv 0 0 0) (by decide)), (fGI_r_36), (by have q8 := congrArg Int32.toInt (show z_32 = gm 67 (TOPn sg) from (by have q9 := ez_32; rw [htop] at q9; exact q9)); have q7 := WOUT_0 (lim := LIM sg gm x) SAMEQ_rf rfl fWk_r_36 (congrArg Int32.toInt c_39) (Int.le_refl _) (by rw [WIN_1 hin (by rw [← ez_25]; exact c_26), ← q8]; have := (h_35).2; omega); rw [c_39] at q7; exact q7), ((by rw [hct]; exact WO_r (WO_w h6n (by have q8 := congrArg Int32.toInt (show z_32 = gm 67 (TOPn sg) from (by have q9 := ez_32; rw [htop] at q9; exact q9)); have q9 := hAL; have := i32_0; have := i32_1; have := i32_2; have := i32_m1; have := (hsx1_40).1; have := (hsx1_40).2; have := (hsx2_40).1; have := (hsx2_40).2; have := (h63).1; have := (h63).2; have := (hx3_40).1; have := (hx3_40).2; have := (hin.1).1; have := (hin.1).2; have := (hz_25).1; have := (hz_25).2; have := (h_35).1; have := (h_35).2; have := (h_40).1; have := (h_40).2; omega) fW9_r_36 (fun q1 q2 => (congrArg Int32.toInt (WK_67 fWk_r_36 q1 rfl hh1 q2)).trans (by have q8 := congrArg Int32.toInt (show z_32 = gm 67 (TOPn sg) from (by have q9 := ez_32; rw [htop] at q9; exact q9)); have := i32_0; have := i32_1; have := i32_2; have := i32_m1; have := (hsx1_40).1; have := (hsx1_40).2; have := (hsx2_40).1; have := (hsx2_40).2; have := (h63).1; have := (h63).2; have := (hx3_40).1; have := (hx3_40).2; have := (hin.1).1; have := (hin.1).2; have := (hz_25).1; have := (hz_25).2; have := (h_35).1; have := (h_35).2; have := (h_40).1; have := (h_40).2; omega))) (by have := i32_0; have := i32_1; have := i32_2; have := i32_m1; have := (hsx1_40).1; have := (hsx1_40).2; have := (hsx2_40).1; have := (hsx2_40).2; have := (h63).1; have := (h63).2; have := (hx3_40).1; have := (hx3_40).2; have := (hin.1).1; have := (hin.1).2; have := (hz_25).1; have := (hz_25).2; have := (h_35).1; have := (h_35).2; have := (h_40).1; have := (h_40).2; omega)))⟩, by rw [ht]; exact hP, va_K.moved hW.alike hK, hD⟩, hS.F ht⟩) hS.2.2 dX13_workedOut_79
        · have h_41 : iv 1 1 r_36 := iv_neL c_39 hr_36 (by decide)
          refine lv_iconst (v := 1) hx hb dX13_workedOut_74 (by decide) ?_
          refine lv_goto (tgt := 79) hx hb dX13_workedOut_75 (by decide) ?_
          exact W.zret (v := 1) hx hb hr (iv_nb (iv_w (iv_k (by decide) : iv 1 1 1) (by decide))) (fun t ht hW => ⟨⟨1, (sgv_38, gmv_38, lg), rfl, ⟨sgv_38, gmv_38, lg, rfl, hIv_38, (KS_tr (L := [51, 52, 63, 74]) KS_rf ksv_38 (by decide)), (KS_tr (L := [62, 64, 65, 66, 67, 68, 69, 70, 71, 72, 73]) KS_rf kgv_38 (by decide)), KS_rf, (iv_w (iv_k (by decide) : iv 1 1 1) (by decide)), (fGI_r_36), (Or.inl ⟨rfl, SAMEQ_p SAMEQ_rf (WRK_1 fWk_r_36 (fun q9 => c_39 (Int32.toInt_inj.mp q9)))⟩), ((by rw [hct]; exact WO_r (WO_w h6n (by have q8 := congrArg Int32.toInt (show z_32 = gm 67 (TOPn sg) from (by have q9 := ez_32; rw [htop] at q9; exact q9)); have q9 := hAL; have := i32_0; have := i32_1; have := i32_2; have := i32_m1; have := (hsx1_40).1; have := (hsx1_40).2; have := (hsx2_40).1; have := (hsx2_40).2; have := (h63).1; have := (h63).2; have := (hx3_40).1; have := (hx3_40).2; have := (hin.1).1; have := (hin.1).2; have := (hz_25).1; have := (hz_25).2; have := (h_35).1; have := (h_35).2; have := (h_41).1; have := (h_41).2; omega) fW9_r_36 (fun q1 q2 => (congrArg Int32.toInt (WK_67 fWk_r_36 q1 rfl hh1 q2)).trans (by have q8 := congrArg Int32.toInt (show z_32 = gm 67 (TOPn sg) from (by have q9 := ez_32; rw [htop] at q9; exact q9)); have := i32_0; have := i32_1; have := i32_2; have := i32_m1; have := (hsx1_40).1; have := (hsx1_40).2; have := (hsx2_40).1; have := (hsx2_40).2; have := (h63).1; have := (h63).2; have := (hx3_40).1; have := (hx3_40).2; have := (hin.1).1; have := (hin.1).2; have := (hz_25).1; have := (hz_25).2; have := (h_35).1; have := (h_35).2; have := (h_41).1; have := (h_41).2; omega))) (by have := i32_0; have := i32_1; have := i32_2; have := i32_m1; have := (hsx1_40).1; have := (hsx1_40).2; have := (hsx2_40).1; have := (hsx2_40).2; have := (h63).1; have := (h63).2; have := (hx3_40).1; have := (hx3_40).2; have := (hin.1).1; have := (hin.1).2; have := (hz_25).1; have := (hz_25).2; have := (h_35).1; have := (h_35).2; have := (h_41).1; have := (h_41).2; omega)))⟩, by rw [ht]; exact hP, va_K.moved hW.alike hK, hD⟩, hS.F ht⟩) hS.2.2 dX13_workedOut_79
  have hj29 : ∀ (x3_29 : Int32) (_ : iv 0 79 x3_29) (_ : iv 0 79 x) (_ : iv 0 404 sl) (_ : ¬ mHas gm lg x.toNatClampNeg 508440638821 = 0 ∨ ¬ mHas gm lg x.toNatClampNeg 7497062 = 0) (_ : x3_29.toNatClampNeg = TOPn sg) (H : Heap) (locs : List Loc) (ls : Array Slot), va_P (dC, dI) vwCl (mW h0 ad cid sg gm lg) H → va_D A (mW h0 ad cid sg gm lg) → va_S A s.heap H locs → lv_has ls 8 [(3, .int x3_29), (0, .ref h0), (1, .int x), (2, .int sl)] → W p l e (headSpec wm_X13_workedOut ({ frames := 5, cells := 0, slots := 0, locals := 128 })).room s m ([.ref h0, .int x, .int sl] : List Value).toArray below meth c H locs 0 0 (MQ below (va_Qi (fun r v => ∃ (sg2 : Nat → Int32) (gm2 : Nat → Nat → Int32) (lg2 : Nat → Nat → Int64), v = (sg2, gm2, lg2) ∧ MI sg2 gm2 ∧ KS [51, 52, 63, 74] sg sg2 ∧ KS [62, 64, 65, 66, 67, 68, 69, 70, 71, 72, 73] gm gm2 ∧ KS [] lg lg2 ∧ (iv 0 1 r) ∧ (GI0 sg2 gm2 lg2) ∧ (WOUT sg gm (LIM sg gm x) sg2 gm2 r) ∧ (WO9 ws wg wl rg (ctE wg x.toNatClampNeg) sl.toNatClampNeg ACC S sg gm sg2 gm2 r)) (MB dC dI h0 ad cid A) A) ([.ref h0, .int x, .int sl] : List Value).toArray s 0 0 A) (F0 m 29 ls []) := by
    intro x3_29 hx3_29 hsx1_29 hsx2_29 hh9 htop H locs ls hP hD hS hl
    refine lv_iload_n hx hb dX13_workedOut_29 rfl (lv_at hl 2 rfl) ?_
    refine lv_goto (tgt := 40) hx hb dX13_workedOut_30 (by decide) ?_
    exact hj40 x3_29 x hx3_29 hsx1_29 hsx2_29 (iv_w hsx1_29 (by decide)) (WIN_s hdoc.1.2.1 hvx hxe hxk hh9) (htop) ((by unfold inR; rw [if_pos (by rw [mHas_k (DK_r (lg := lg) hRW hRS).1, mHas_k (DK_r (lg := lg) hRW hRS).1]; exact hh9)]; exact (nI_c hvx).symm)) _ _ _ hP hD hS (lv_sub hl [0, 1, 2, 3] rfl)
  refine lv_aload_n hx hb dX13_workedOut_0 rfl (lv_at hl 0 rfl) ?_
  refine mr_get (v := .int (sg 63)) hx hb htb inX13 hown hK hP 63 (by decide) (htb _ kw_1090) rfl dX13_workedOut_1 ?_
  refine lv_iconst (v := 1) hx hb dX13_workedOut_4 (by decide) ?_
  refine lv_isub hx hb dX13_workedOut_5 ?_
  refine lv_topi (fun z_42 ez_42 => ?_)
  have hz_42 : iv 0 79 z_42 := iv_of ez_42 (iv_sub h63 (iv_k (by decide) : iv 1 1 1) (by decide))
  have tz_42 : z_42.toInt = ((sg 63) : Int32).toInt - 1 := by rw [ez_42]; exact iv_subE h63 (iv_k (by decide) : iv 1 1 1) (by decide)
  refine lv_istore_n (lv' := [(3, .int z_42), (0, .ref h0), (1, .int x), (2, .int sl)]) hx hb dX13_workedOut_6 rfl hl (by decide) rfl (fun ls hl => ?_)
  have htop := top_n h63 tz_42
  refine lv_aload_n hx hb dX13_workedOut_7 rfl (lv_at hl 1 rfl) ?_
  refine lv_iload_n hx hb dX13_workedOut_8 rfl (lv_at hl 2 rfl) ?_
  refine lv_ldc2 (own := RX13) (v := 508440638821) hx hb hown (htb _ kw_1007) dX13_workedOut_9 ?_
  refine mr_calli (rest := []) ⟨hx, hb, hml, hown, htb⟩ (f_has l dC dI h0 ad cid sg gm lg x 508440638821 hI hvx) (cwV 2 htb (gd_V kw_1197 kw_1198 kw_94 kw_160 kw_1601) rfl rfl rfl (by decide +kernel) ⟨Nat.le_of_ble_eq_true rfl, Nat.le_of_ble_eq_true rfl⟩) rfl hl.1 rfl (Nat.le_of_ble_eq_true rfl) dX13_workedOut_12 ⟨Nat.zero_le _, Nat.zero_le _⟩ hK hP hD hS hA (fun r_43 u_44 H locs hw hP hD hS => ?_)
  obtain ⟨hr_43, fH_r_43, rfl⟩ := hw
  have hP : va_P (dC, dI) vwCl (mW h0 ad cid sg gm lg) H := hP
  have hD : va_D A (mW h0 ad cid sg gm lg) := hD
  refine lv_if_ne (tgt := 29) hx hb dX13_workedOut_15 (by decide) (fun c_45 => ?_) (fun c_45 => ?_)
  · have h_46 : iv 1 1 r_43 := iv_neL c_45 hr_43 (by decide)
    exact hj29 z_42 hz_42 hvx hvsl (Or.inl (by rw [← fH_r_43]; exact c_45)) (htop) _ _ _ hP hD hS (lv_sub hl [0, 1, 2, 3] rfl)
  · have h_47 : iv 0 0 r_43 := iv_eq c_45 hr_43 (iv_k (by decide) : iv 0 0 0) (by decide)
    refine lv_aload_n hx hb dX13_workedOut_18 rfl (lv_at hl 1 rfl) ?_
    refine lv_iload_n hx hb dX13_workedOut_19 rfl (lv_at hl 2 rfl) ?_
    refine lv_ldc2 (own := RX13) (v := 7497062) hx hb hown (htb _ kw_1008) dX13_workedOut_20 ?_
    refine mr_calli (rest := []) ⟨hx, hb, hml, hown, htb⟩ (f_has l dC dI h0 ad cid sg gm lg x 7497062 hI hvx) (cwV 2 htb (gd_V kw_1197 kw_1198 kw_94 kw_160 kw_1601) rfl rfl rfl (by decide +kernel) ⟨Nat.le_of_ble_eq_true rfl, Nat.le_of_ble_eq_true rfl⟩) rfl hl.1 rfl (Nat.le_of_ble_eq_true rfl) dX13_workedOut_23 ⟨Nat.zero_le _, Nat.zero_le _⟩ hK hP hD hS hA (fun r_48 u_49 H locs hw hP hD hS => ?_)
    obtain ⟨hr_48, fH_r_48, rfl⟩ := hw
    have hP : va_P (dC, dI) vwCl (mW h0 ad cid sg gm lg) H := hP
    have hD : va_D A (mW h0 ad cid sg gm lg) := hD
    refine lv_if_eq (tgt := 33) hx hb dX13_workedOut_26 (by decide) (fun c_50 => ?_) (fun c_50 => ?_)
    · have h_51 : iv 0 0 r_48 := iv_eq c_50 hr_48 (iv_k (by decide) : iv 0 0 0) (by decide)
      refine lv_aload_n hx hb dX13_workedOut_33 rfl (lv_at hl 1 rfl) ?_
      refine lv_iload_n hx hb dX13_workedOut_34 rfl (lv_at hl 2 rfl) ?_
      refine lv_iconst (v := 0) hx hb dX13_workedOut_35 (by decide) ?_
      refine lv_iload_n hx hb dX13_workedOut_36 rfl (lv_at hl 2 rfl) ?_
      refine mr_calli (rest := []) ⟨hx, hb, hml, hown, htb⟩ (f_inner l dC dI h0 ad cid sg gm lg x 0 x hI (iv_w hvx (by decide)) (iv_w (iv_k (by decide) : iv 0 0 0) (by decide)) hvx) (cwV 3 htb (gd_V kw_1231 kw_1232 kw_107 kw_160 kw_1615) rfl rfl rfl (by decide +kernel) ⟨Nat.le_of_ble_eq_true rfl, Nat.le_of_ble_eq_true rfl⟩) rfl hl.1 rfl (Nat.le_of_ble_eq_true rfl) dX13_workedOut_37 ⟨Nat.zero_le _, Nat.zero_le _⟩ hK hP hD hS hA (fun r_52 u_53 H locs hw hP hD hS => ?_)
      obtain ⟨hr_52, fN_r_52, rfl⟩ := hw
      have hP : va_P (dC, dI) vwCl (mW h0 ad cid sg gm lg) H := hP
      have hD : va_D A (mW h0 ad cid sg gm lg) := hD
      exact hj40 z_42 r_52 hz_42 hvx hvsl hr_52 (WIN_i hdoc.1.1 (show iv 0 80 (sg 24) from MI_s hI 24) hdoc.1.2.1 hvx hxe hxk (by rw [← fH_r_43]; exact c_45) (by rw [← fH_r_48]; exact c_50) fN_r_52) (htop) ((by unfold inR; rw [mHas_k (DK_r (lg := lg) hRW hRS).1, mHas_k (DK_r (lg := lg) hRW hRS).1, if_neg (fun q => q.elim (fun q => q (by rw [← fH_r_43]; exact c_45)) (fun q => q (by rw [← fH_r_48]; exact c_50))), nI_c hvx, mInn_k (DK_r (lg := lg) hRW hRS).1]; exact fN_r_52)) _ _ _ hP hD hS (lv_sub hl [0, 1, 2, 3] rfl)
    · have h_54 : iv 1 1 r_48 := iv_neL c_50 hr_48 (by decide)
      exact hj29 z_42 hz_42 hvx hvsl (Or.inr (by rw [← fH_r_48]; exact c_50)) (htop) _ _ _ hP hD hS (lv_sub hl [0, 1, 2, 3] rfl)
end
section
/-- a frame of the pile: bean, phase, index, factory's object, object, values, items -/
abbrev Fr9 := Nat × Nat × Nat × Int × Int × List (List Int) × List Int
def fB (f : Fr9) : Nat := f.1
def fP (f : Fr9) : Nat := f.2.1
def fI (f : Fr9) : Nat := f.2.2.1
def fF (f : Fr9) : Int := f.2.2.2.1
def fO (f : Fr9) : Int := f.2.2.2.2.1
def fV (f : Fr9) : List (List Int) := f.2.2.2.2.2.1
def fA (f : Fr9) : List Int := f.2.2.2.2.2.2
def fQ (f : Fr9) : Nat := 3 * fB f + (fP f - 3)
def fE (wg : Nat → Nat → Int32) (f : Fr9) : Nat := (wg 57 (128 * fQ f + fI f)).toNatClampNeg
section FR9
variable (ws : Nat → Int32) (wg : Nat → Nat → Int32) (wl : Nat → Nat → Int64)
/-- what is left to do for a frame -/
def frC (n : Nat) (f : Fr9) (S : S9) : Option Int × S9 :=
  if fP f = 0 then bd9 (oDe ws wg wl (oMK ws wg wl n) (fB f) S) (fun _ S => r1 ws wg wl (oMK ws wg wl n) (fB f) S)
  else if fP f = 1 then r1 ws wg wl (oMK ws wg wl n) (fB f) S
  else if fP f = 2 then r2 ws wg wl (oMK ws wg wl n) (fB f) (fF f) (liL wg (3 * fB f)) [] S
  else if fP f = 3 then (if fI f < (wg 41 (3 * fB f)).toNatClampNeg then bd9 (reW ws wg wl n (ctE wg (fE wg f)) (fA f) S) (fun V S => r2 ws wg wl (oMK ws wg wl n) (fB f) (fF f) ((liL wg (3 * fB f)).drop (fI f + 1)) (fV f ++ [V]) S) else r3 ws wg wl (oMK ws wg wl n) (fB f) (fF f) (fV f) S)
  else if fI f < (wg 41 (3 * fB f + 1)).toNatClampNeg then bd9 (reW ws wg wl n (ctE wg (fE wg f)) (fA f) S) (fun V S => bd9 (oSe wg wl (fO f) (fE wg f) V S) (fun _ S => r4 ws wg wl (oMK ws wg wl n) (fB f) (fO f) ((liL wg (3 * fB f + 1)).drop (fI f + 1)) S)) else (some (fO f), oFi wg wl (fB f) (fO f) S)
/-- what it waited for comes -/
def dlF (f : Fr9) (o : Int) : Fr9 := if fP f ≤ 1 then f else if fP f = 2 then (fB f, 2, fI f, o, fO f, fV f, fA f) else (fB f, fP f, fI f, fF f, fO f, fV f, fA f ++ [dlI wg (ctE wg (fE wg f)) o])
def ctn (F : Nat → Fr9) : Nat → Int → S9 → Option Int × S9
  | 0, o, S => (some o, S)
  | j + 1, o, S => bd9 (frC ws wg wl (80 - j) (dlF wg (F j) o) S) (fun o S => ctn F j o S)
end FR9
section FR8
variable {ws : Nat → Int32} {wg rg gm gm1 gm2 : Nat → Nat → Int32} {wl : Nat → Nat → Int64} {rs sg sg1 sg2 : Nat → Int32} {lg : Nat → Nat → Int64} {S S2 : S9} {b ix n p j : Nat} {fo o : Int} {vs : List (List Int)} {acc : List Int} {ob ob2 : List Ob9} {R : Option Int × S9} {F : Nat → Fr9} {f : Fr9}
theorem ctn_k {F2 : Nat → Fr9} : ∀ j, (∀ i, i < j → F2 i = F i) → ctn ws wg wl F2 j = ctn ws wg wl F j
  | 0, _ => rfl
  | j + 1, h => by
    funext o S
    show bd9 (frC ws wg wl (80 - j) (dlF wg (F2 j) o) S) (fun o S => ctn ws wg wl F2 j o S) = bd9 (frC ws wg wl (80 - j) (dlF wg (F j) o) S) (fun o S => ctn ws wg wl F j o S)
    rw [h j (Nat.lt_succ_self j), ctn_k j (fun i hi => h i (Nat.lt_succ_of_lt hi))]
theorem fr_0 : frC ws wg wl n (b, 0, ix, fo, o, vs, acc) S = bd9 (oDe ws wg wl (oMK ws wg wl n) b S) (fun _ S => r1 ws wg wl (oMK ws wg wl n) b S) := rfl
theorem fr_1 : frC ws wg wl n (b, 1, ix, fo, o, vs, acc) S = r1 ws wg wl (oMK ws wg wl n) b S := rfl
theorem fr_2 : frC ws wg wl n (b, 2, ix, fo, o, vs, acc) S = r2 ws wg wl (oMK ws wg wl n) b fo (liL wg (3 * b)) [] S := rfl
theorem fr_3 (h : ix < (wg 41 (3 * b)).toNatClampNeg) : frC ws wg wl n (b, 3, ix, fo, o, vs, acc) S = bd9 (reW ws wg wl n (ctE wg (wg 57 (128 * (3 * b) + ix)).toNatClampNeg) acc S) (fun V S => r2 ws wg wl (oMK ws wg wl n) b fo ((liL wg (3 * b)).drop (ix + 1)) (vs ++ [V]) S) := if_pos h
theorem fr_3z (h : ¬ ix < (wg 41 (3 * b)).toNatClampNeg) : frC ws wg wl n (b, 3, ix, fo, o, vs, acc) S = r3 ws wg wl (oMK ws wg wl n) b fo vs S := if_neg h
theorem fr_4 (h : ix < (wg 41 (3 * b + 1)).toNatClampNeg) : frC ws wg wl n (b, 4, ix, fo, o, vs, acc) S = bd9 (reW ws wg wl n (ctE wg (wg 57 (128 * (3 * b + 1) + ix)).toNatClampNeg) acc S) (fun V S => bd9 (oSe wg wl o (wg 57 (128 * (3 * b + 1) + ix)).toNatClampNeg V S) (fun _ S => r4 ws wg wl (oMK ws wg wl n) b o ((liL wg (3 * b + 1)).drop (ix + 1)) S)) := if_pos h
theorem fr_4z (h : ¬ ix < (wg 41 (3 * b + 1)).toNatClampNeg) : frC ws wg wl n (b, 4, ix, fo, o, vs, acc) S = (some o, oFi wg wl b o S) := if_neg h
theorem liL_d {q : Nat} (h : ix < (wg 41 q).toNatClampNeg) : (liL wg q).drop ix = (wg 57 (128 * q + ix)).toNatClampNeg :: (liL wg q).drop (ix + 1) := dro9 (liL_g h)
theorem liL_z {q : Nat} (h : ¬ ix < (wg 41 q).toNatClampNeg) : (liL wg q).drop ix = [] := by
  refine List.drop_eq_nil_of_le ?_
  unfold liL; rw [List.length_map, List.length_range]; omega
/-- the args from one on, the sets from one on -/
theorem fr_3e : r2 ws wg wl (oMK ws wg wl n) b fo ((liL wg (3 * b)).drop ix) vs S = frC ws wg wl n (b, 3, ix, fo, o, vs, []) S := by
  by_cases h : ix < (wg 41 (3 * b)).toNatClampNeg
  · rw [fr_3 h, liL_d h, reW_0]
    unfold r2
    show bd9 (bd9 (oCon ws wg wl (oMK ws wg wl n) _ S) _) _ = _
    rw [bd9_a]
  · rw [fr_3z h, liL_z h]; rfl
theorem fr_4e : r4 ws wg wl (oMK ws wg wl n) b o ((liL wg (3 * b + 1)).drop ix) S = frC ws wg wl n (b, 4, ix, fo, o, vs, []) S := by
  by_cases h : ix < (wg 41 (3 * b + 1)).toNatClampNeg
  · rw [fr_4 h, liL_d h, reW_0]
    unfold r4
    show bd9 (bd9 (oCon ws wg wl (oMK ws wg wl n) _ S) _) _ = _
    rw [bd9_a]
    congr 1
    funext V S2
    rw [bd9_a]
  · rw [fr_4z h, liL_z h]; rfl
/-- a frame and its rows -/
def FM9 (wg : Nat → Nat → Int32) (wl : Nat → Nat → Int64) (rg gm : Nat → Nat → Int32) (ob : List Ob9) (j : Nat) (f : Fr9) : Prop :=
  (gm 64 j).toNatClampNeg = fB f ∧ (gm 65 j).toInt = (fP f : Int) ∧ (gm 66 j).toInt = (fI f : Int) ∧ (gm 68 j).toInt = fF f
  ∧ (fF f = -1 ∨ (0 ≤ fF f ∧ fF f < (ob.length : Int))) ∧ (fP f ≤ 1 → fF f = -1) ∧ (¬ fF f = -1 → ¬ wl 7 (fB f) = 0) ∧ (2 ≤ fP f → ¬ ((wg 30 (fB f)).toInt = -1 ∧ wl 7 (fB f) = 0))
  ∧ (3 ≤ fP f → (gm 67 j).toInt = ((fA f).length : Int) ∧ (fI f < (wg 41 (fQ f)).toNatClampNeg → PT9 wg wl rg gm ob (ctE wg (fE wg f)) (5 * j + (if fP f = 3 then fI f else 4)) (fA f)))
  ∧ (fP f = 3 → (fV f).length = fI f ∧ fI f ≤ 4 ∧ FV9 wg wl rg gm ob (fB f) j (fI f) (fV f))
  ∧ (fP f = 4 → (gm 69 j).toInt = fO f ∧ 0 ≤ fO f ∧ fO f < (ob.length : Int))
  ∧ fP f ≤ 4
/-- a frame that waits -/
def WT9 (wg : Nat → Nat → Int32) (wl : Nat → Nat → Int64) (f : Fr9) : Prop := fP f = 1 ∨ (fP f = 2 ∧ fF f = -1 ∧ ¬ wl 7 (fB f) = 0) ∨ (3 ≤ fP f ∧ fI f < (wg 41 (fQ f)).toNatClampNeg ∧ AW9 wg (ctE wg (fE wg f)) (fA f))
/-- the rows of a level are as they were -/
def KF9 (gm gm2 : Nat → Nat → Int32) (j : Nat) : Prop := gm2 64 j = gm 64 j ∧ gm2 65 j = gm 65 j ∧ gm2 66 j = gm 66 j ∧ gm2 67 j = gm 67 j ∧ gm2 68 j = gm 68 j ∧ gm2 69 j = gm 69 j ∧ (∀ i, 5 * j ≤ i → i < 5 * j + 5 → gm2 70 i = gm 70 i ∧ gm2 71 i = gm 71 i) ∧ (∀ i, 30 * j ≤ i → i < 30 * j + 30 → gm2 72 i = gm 72 i ∧ gm2 73 i = gm 73 i)
theorem VR_m {c : Nat} {V : List Int} {kd v : Int32} (h : VR9 wg wl rg ob c V kd v) (hl : ob.length ≤ ob2.length) : VR9 wg wl rg ob2 c V kd v := by
  rcases h with q | q | q | ⟨q1, q2, q3, q4, q5⟩
  · exact Or.inl q
  · exact Or.inr (Or.inl q)
  · exact Or.inr (Or.inr (Or.inl q))
  · exact Or.inr (Or.inr (Or.inr ⟨q1, q2, q3, q4, by omega⟩))
theorem PT_m {c sl : Nat} (h : PT9 wg wl rg gm ob c sl acc) (hl : ob.length ≤ ob2.length) (h0 : gm2 70 sl = gm 70 sl ∧ gm2 71 sl = gm 71 sl) (h1 : ∀ i, 6 * sl ≤ i → i < 6 * sl + 6 → gm2 72 i = gm 72 i ∧ gm2 73 i = gm 73 i) : PT9 wg wl rg gm2 ob2 c sl acc := by
  rcases h with ⟨q1, q2, q3⟩ | ⟨q1, q2⟩
  · refine Or.inl ⟨q1, q2, fun i x hx => ?_⟩
    have := (List.getElem?_eq_some_iff.mp hx).1
    have := itL_le (wg := wg) 6 (wg 16 c).toInt
    unfold itC at q2
    have e := h1 (6 * sl + i) (by omega) (by omega)
    rw [e.1, e.2]; exact q3 i x hx
  · refine Or.inr ⟨q1, q2.imp id (fun q => ?_)⟩
    rw [h0.1, h0.2]; exact VR_m q hl
theorem PT_nil {c sl : Nat} : PT9 wg wl rg gm ob c sl [] := by
  by_cases h : (wg 25 c).toInt = 6
  · exact Or.inl ⟨h, Nat.zero_le _, fun i x hx => by cases hx⟩
  · exact Or.inr ⟨h, Or.inl rfl⟩
theorem FV_m {tp : Nat} (h : FV9 wg wl rg gm ob b tp n vs) (hl : ob.length ≤ ob2.length) (h0 : ∀ i, i < n → gm2 70 (5 * tp + i) = gm 70 (5 * tp + i) ∧ gm2 71 (5 * tp + i) = gm 71 (5 * tp + i)) (h1 : ∀ i k, i < n → k < 6 → gm2 72 (6 * (5 * tp + i) + k) = gm 72 (6 * (5 * tp + i) + k) ∧ gm2 73 (6 * (5 * tp + i) + k) = gm 73 (6 * (5 * tp + i) + k)) : FV9 wg wl rg gm2 ob2 b tp n vs := by
  intro i hi
  have q := h i hi
  refine ⟨?_, fun q6 => ?_⟩
  · rw [(h0 i hi).1, (h0 i hi).2]; exact VR_m q.1 hl
  · have q9 := q.2 q6
    refine ⟨q9.1, q9.2.1, fun k x hx => ?_⟩
    have := (List.getElem?_eq_some_iff.mp hx).1
    have e := h1 i k hi (by have := q9.2.1; omega)
    rw [e.1, e.2]; exact q9.2.2 k x hx
theorem FM_k (h : FM9 wg wl rg gm ob j f) (hk : KF9 gm gm2 j) (hl : ob.length ≤ ob2.length) : FM9 wg wl rg gm2 ob2 j f := by
  obtain ⟨a1, a2, a3, a4, a5, a6, a7, a8, a9, a10, a11, a12⟩ := h
  obtain ⟨k4, k5, k6, k7, k8, k9, k10, k12⟩ := hk
  refine ⟨by rw [k4]; exact a1, by rw [k5]; exact a2, by rw [k6]; exact a3, by rw [k8]; exact a4, a5.imp id (fun q => ⟨q.1, by omega⟩), a6, a7, a8, fun q => ⟨by rw [k7]; exact (a9 q).1, fun q2 => ?_⟩, fun q => ⟨(a10 q).1, (a10 q).2.1, ?_⟩, fun q => ⟨by rw [k9]; exact (a11 q).1, (a11 q).2.1, by have := (a11 q).2.2; omega⟩, a12⟩
  · have h4 : (if fP f = 3 then fI f else 4) ≤ 4 := by
      by_cases e : fP f = 3
      · rw [if_pos e]; exact (a10 e).2.1
      · rw [if_neg e]; exact Nat.le_refl _
    exact PT_m ((a9 q).2 q2) hl (k10 _ (by omega) (by omega)) (fun i h1 h2 => k12 i (by omega) (by omega))
  · have h4 := (a10 q).2.1
    exact FV_m (a10 q).2.2 hl (fun i hi => k10 _ (by omega) (by omega)) (fun i k hi hk => k12 _ (by omega) (by omega))
/-- the run's answer, and the pile -/
def IV9 (ws : Nat → Int32) (wg : Nat → Nat → Int32) (wl : Nat → Nat → Int64) (rg : Nat → Nat → Int32) (R : Option Int × S9) (S : S9) (sg : Nat → Int32) (gm : Nat → Nat → Int32) (F : Nat → Fr9) : Prop :=
  WF9 S ∧ R = bd9 (frC ws wg wl (80 - TOPn sg) (F (TOPn sg)) S) (fun o S => ctn ws wg wl F (TOPn sg) o S) ∧ (∀ j, j < (sg 63).toNatClampNeg → FM9 wg wl rg gm (zO S) j (F j)) ∧ (∀ j, j + 1 < (sg 63).toNatClampNeg → WT9 wg wl (F j))
theorem TOP_e (h : 1 ≤ (sg 63).toInt) : (sg 63).toNatClampNeg = TOPn sg + 1 := by
  have := cln9 (u := sg 63) (by omega)
  unfold TOPn; omega
/-- the one on top goes on -/
theorem IV_top (h : IV9 ws wg wl rg R S sg gm F) (hh : 1 ≤ (sg 63).toInt) (h63 : sg2 63 = sg 63) (hW : WF9 S2) (hO : (zO S).length ≤ (zO S2).length) (hk : ∀ j, j < TOPn sg → KF9 gm gm2 j) (hf : FM9 wg wl rg gm2 (zO S2) (TOPn sg) f) (he : frC ws wg wl (80 - TOPn sg) (F (TOPn sg)) S = frC ws wg wl (80 - TOPn sg) f S2) : IV9 ws wg wl rg R S2 sg2 gm2 (fu9 F (TOPn sg) f) := by
  obtain ⟨_, hR, hM, hw⟩ := h
  have ht : TOPn sg2 = TOPn sg := by unfold TOPn; rw [h63]
  have e := TOP_e hh
  refine ⟨hW, ?_, fun j hj => ?_, fun j hj => ?_⟩
  · rw [ht, fu9_at, ctn_k (F := F) (TOPn sg) (fun i hi => fu9_ne (by omega)), ← he]; exact hR
  · rw [h63] at hj
    by_cases q : j = TOPn sg
    · rw [q, fu9_at]; exact hf
    · rw [fu9_ne q]; exact FM_k (hM j hj) (hk j (by omega)) hO
  · rw [h63] at hj
    rw [fu9_ne (by omega)]; exact hw j hj
theorem WF_be (h : WF9 S) : WF9 (oBe b S) := by
  intro t ht
  by_cases q : t = b
  · subst q
    have h1 : zS (oBe t S) t = 1 := fu9_at
    have h2 : zW (oBe t S) t = -1 := fu9_at
    rcases ht with q | q
    · omega
    · exact absurd h2 q.2
  · have h1 : zS (oBe b S) t = zS S t := fu9_ne q
    have h2 : zW (oBe b S) t = zW S t := fu9_ne q
    rw [h1, h2] at ht
    rw [h2]; exact h t ht
/-- the one on top waits, another one comes on top -/
theorem IV_push {t : Int32} (h : IV9 ws wg wl rg R S sg gm F) (hh : 1 ≤ (sg 63).toInt) (h63 : (sg2 63).toInt = (sg 63).toInt + 1) (h79 : (sg 63).toInt ≤ 79) (hk : ∀ j, j < TOPn sg → KF9 gm gm2 j) (hf : FM9 wg wl rg gm2 (zO S) (TOPn sg) f) (hw : WT9 wg wl f) (hz : ¬ zS S t.toNatClampNeg = 1) (e64 : gm2 64 (sg 63).toNatClampNeg = t) (e65 : (gm2 65 (sg 63).toNatClampNeg).toInt = 0) (e66 : (gm2 66 (sg 63).toNatClampNeg).toInt = 0) (e68 : (gm2 68 (sg 63).toNatClampNeg).toInt = -1)
    (he : ∀ n, frC ws wg wl n (F (TOPn sg)) S = bd9 (oMK ws wg wl n t.toNatClampNeg S) (fun o S => frC ws wg wl n (dlF wg f o) S)) : ∃ F2, IV9 ws wg wl rg R (oBe t.toNatClampNeg S) sg2 gm2 F2 := by
  obtain ⟨hW, hR, hM, hwt⟩ := h
  have e := TOP_e hh
  have c1 := cln9 (u := sg 63) (by omega)
  have c2 := cln9 (u := sg2 63) (by omega)
  have ht : TOPn sg2 = TOPn sg + 1 := by unfold TOPn; omega
  refine ⟨fu9 (fu9 F (TOPn sg) f) (TOPn sg + 1) (t.toNatClampNeg, 0, 0, -1, -1, [], []), WF_be hW, ?_, fun j hj => ?_, fun j hj => ?_⟩
  · rw [ht, fu9_at, hR, he, bd9_a]
    obtain ⟨m, hm⟩ : ∃ m, 80 - TOPn sg = m + 1 := ⟨79 - TOPn sg, by omega⟩
    rw [show 80 - (TOPn sg + 1) = m by omega, hm, oMK_2 hz]
    show bd9 (bd9 (oDe ws wg wl (oMK ws wg wl m) _ _) _) _ = bd9 (bd9 (oDe ws wg wl (oMK ws wg wl m) _ _) _) _
    congr 1
    funext o S3
    show _ = bd9 (frC ws wg wl (80 - TOPn sg) (dlF wg (fu9 (fu9 F (TOPn sg) f) (TOPn sg + 1) _ (TOPn sg)) o) S3) (fun o S => ctn ws wg wl _ (TOPn sg) o S)
    rw [fu9_ne (by omega), fu9_at, hm, ctn_k (F2 := fu9 (fu9 F (TOPn sg) f) (TOPn sg + 1) (t.toNatClampNeg, 0, 0, -1, -1, [], [])) (F := F) (TOPn sg) (fun i hi => by rw [fu9_ne (by omega), fu9_ne (by omega)])]
  · by_cases q : j = TOPn sg + 1
    · rw [q, fu9_at, ← e]
      exact ⟨by rw [e64]; rfl, e65, e66, e68, Or.inl rfl, fun _ => rfl, fun q => absurd rfl q, fun q => absurd q (by show ¬ 2 ≤ 0; omega), fun q => absurd q (by show ¬ 3 ≤ 0; omega), fun q => absurd q (by show ¬ 0 = 3; omega), fun q => absurd q (by show ¬ 0 = 4; omega), Nat.zero_le _⟩
    · rw [fu9_ne q]
      by_cases q2 : j = TOPn sg
      · rw [q2, fu9_at]; exact hf
      · rw [fu9_ne q2]; exact FM_k (hM j (by omega)) (hk j (by omega)) (Nat.le_refl _)
  · rw [fu9_ne (by omega)]
    by_cases q2 : j = TOPn sg
    · rw [q2, fu9_at]; exact hw
    · rw [fu9_ne q2]; exact hwt j (by omega)
theorem IV_n (h : IV9 ws wg wl rg R S sg gm F) (he : ∀ n, frC ws wg wl n (F (TOPn sg)) S = (none, S2)) : R = (none, S2) := by rw [h.2.1, he]; rfl
/-- the one on top is done -/
theorem IV_pop (h : IV9 ws wg wl rg R S sg gm F) (hh : 1 < (sg 63).toInt) (h63 : (sg2 63).toInt = (sg 63).toInt - 1) (hW : WF9 S2) (hO : (zO S).length ≤ (zO S2).length) (hk : ∀ j, j < TOPn sg - 1 → KF9 gm gm2 j) (hf : FM9 wg wl rg gm2 (zO S2) (TOPn sg - 1) (dlF wg (F (TOPn sg - 1)) o)) (he : ∀ n, frC ws wg wl n (F (TOPn sg)) S = (some o, S2)) : ∃ F2, IV9 ws wg wl rg R S2 sg2 gm2 F2 := by
  obtain ⟨_, hR, hM, hw⟩ := h
  have e := TOP_e (sg := sg) (by omega)
  have c1 := cln9 (u := sg 63) (by omega)
  have c2 := cln9 (u := sg2 63) (by omega)
  have ht : TOPn sg2 = TOPn sg - 1 := by unfold TOPn; omega
  refine ⟨fu9 F (TOPn sg - 1) (dlF wg (F (TOPn sg - 1)) o), hW, ?_, fun j hj => ?_, fun j hj => ?_⟩
  · rw [hR, he, ht, fu9_at, ctn_k (F := F) (TOPn sg - 1) (fun i hi => fu9_ne (by omega))]
    obtain ⟨m, hm⟩ : ∃ m, TOPn sg = m + 1 := ⟨TOPn sg - 1, by omega⟩
    rw [hm]; rfl
  · by_cases q : j = TOPn sg - 1
    · rw [q, fu9_at]; exact hf
    · rw [fu9_ne q]; exact FM_k (hM j (by omega)) (hk j (by omega)) hO
  · rw [fu9_ne (by omega)]; exact hw j (by omega)
theorem IV_e (h : IV9 ws wg wl rg R S sg gm F) (hh : (sg 63).toInt = 1) (he : ∀ n, frC ws wg wl n (F (TOPn sg)) S = (some o, S2)) : R = (some o, S2) := by
  have c1 := cln9 (u := sg 63) (by omega)
  rw [h.2.1, he, show TOPn sg = 0 by unfold TOPn; omega]; rfl
end FR8
end
section
section ST9
variable {ws : Nat → Int32} {wg rg gm gm1 gm2 : Nat → Nat → Int32} {wl : Nat → Nat → Int64} {rs sg sg1 sg2 : Nat → Int32} {lg : Nat → Nat → Int64} {S S2 : S9} {b ix n p j c sl : Nat} {fo o : Int} {vs : List (List Int)} {acc ac2 : List Int} {ob ob2 : List Ob9} {R : Option Int × S9} {F : Nat → Fr9} {f : Fr9}
theorem tlI_S {V : List Int} : ∀ k i S, zS (tlI V k i S) = zS S ∧ zW (tlI V k i S) = zW S
  | 0, i, S => ⟨rfl, rfl⟩
  | k + 1, i, S => by
    show zS (tlI V k (i + 1) (zAdd S _)) = _ ∧ zW (tlI V k (i + 1) (zAdd S _)) = _
    have q := tlI_S (V := V) k (i + 1) (zAdd S (6, -1, (i : Int), (V[i]?).getD 0))
    rw [q.1, q.2, zAdd_S, zAdd_W]; exact ⟨rfl, rfl⟩
theorem tlV_S {wh ab sc t : Int} {V : List Int} : zS (tlV wg wl wh ab sc c V t S) = zS S ∧ zW (tlV wg wl wh ab sc c V t S) = zW S := by
  by_cases h : (wg 25 c).toInt = 6
  · rw [tlV_l h, (tlI_S _ _ _).1, (tlI_S _ _ _).2, zAdd_S, zAdd_W]; exact ⟨rfl, rfl⟩
  · rw [tlV_n h, zAdd_S, zAdd_W]; exact ⟨rfl, rfl⟩
theorem tlA_S {g : Nat → Int} {s : Nat} : ∀ k p S, zO (tlA wg wl b o vs g s k p S) = zO S ∧ zS (tlA wg wl b o vs g s k p S) = zS S ∧ zW (tlA wg wl b o vs g s k p S) = zW S
  | 0, p, S => ⟨rfl, rfl, rfl⟩
  | k + 1, p, S => by
    show zO (tlA wg wl b o vs g s k (p + 1) (tlV wg wl 3 o (p : Int) _ _ _ S)) = _ ∧ zS (tlA wg wl b o vs g s k (p + 1) (tlV wg wl 3 o (p : Int) _ _ _ S)) = _ ∧ zW (tlA wg wl b o vs g s k (p + 1) (tlV wg wl 3 o (p : Int) _ _ _ S)) = _
    have q := tlA_S (g := g) (s := s) k (p + 1) (tlV wg wl 3 o (p : Int) (ctE wg (((liL wg (3 * b))[(g p).toNat]?).getD 0)) ((vs[(g p).toNat]?).getD []) (wg 54 (3 * s + p)).toInt S)
    rw [q.1, q.2.1, q.2.2, tlV_O, tlV_S.1, tlV_S.2]; exact ⟨rfl, rfl, rfl⟩
theorem oB2_S {s : Nat} : zS (oB2 wg b s S) = zS S ∧ zW (oB2 wg b s S) = fu9 (zW S) b ((zO S).length : Int) := by
  unfold oB2
  by_cases h : (wg 8 s).toInt = -1
  · rw [if_pos h, zAdd_S, zAdd_W]; exact ⟨rfl, rfl⟩
  · rw [if_neg h, zAdd_S, zAdd_W]; exact ⟨rfl, rfl⟩
theorem oBr_w (h : oBr wg wl b fo vs S = (some o, S2)) : o = ((zO S).length : Int) ∧ (zO S2).length = (zO S).length + 1 ∧ zS S2 = zS S ∧ zW S2 = fu9 (zW S) b ((zO S).length : Int) := by
  cases hc : chS wg wl b fo (zO S) vs with
  | none => rw [oBr_n hc] at h; exact absurd h (by simp)
  | some q =>
    obtain ⟨s, g⟩ := q
    by_cases h6 : 60 ≤ (zO S).length
    · rw [oBr_6 hc h6] at h; exact absurd h (by simp)
    · rw [oBr_s hc h6] at h
      have e1 := Option.some.inj (congrArg Prod.fst h)
      have e2 : tlA wg wl b ((zO S).length : Int) vs g s (wg 7 s).toNatClampNeg 0 (oB2 wg b s S) = S2 := congrArg Prod.snd h
      rw [← e2, (tlA_S _ _ _).1, (tlA_S _ _ _).2.1, (tlA_S _ _ _).2.2, oB2_O, oB2_S.1, oB2_S.2]
      exact ⟨e1.symm, rfl, rfl, rfl⟩
theorem WF_br (hW : WF9 S) (h : oBr wg wl b fo vs S = (some o, S2)) : WF9 S2 := by
  obtain ⟨_, e1, e2, e3⟩ := oBr_w h
  intro t ht
  rw [e2, e3] at ht
  rw [e3, e1]
  by_cases q : t = b
  · subst q; rw [fu9_at]; omega
  · rw [fu9_ne q] at ht ⊢
    have := hW t ht; omega
theorem oSe_e {u : Int} {h : Nat} {V : List Int} (q : oSe wg wl o h V S = (some u, S2)) : zO S2 = zO S ∧ zS S2 = zS S ∧ zW S2 = zW S := by
  unfold oSe at q
  simp only [] at q
  by_cases h1 : sgF wg (wg 22 h).toNatClampNeg 8 (((zO S)[o.toNat]?).getD (0, 0)).1 = -1
  · rw [if_pos h1] at q; exact absurd q (by simp)
  · rw [if_neg h1] at q
    by_cases h2 : wCo wg wl (zO S) (ctE wg h) V (sgF wg (wg 22 h).toNatClampNeg 8 (((zO S)[o.toNat]?).getD (0, 0)).1) = -1
    · rw [if_pos h2] at q; exact absurd q (by simp)
    · rw [if_neg h2] at q
      have e := congrArg Prod.snd q
      simp only [] at e
      rw [← e, tlV_O, tlV_S.1, tlV_S.2]; exact ⟨rfl, rfl, rfl⟩
theorem WF_e (hW : WF9 S) (h0 : zO S2 = zO S) (h1 : zS S2 = zS S) (h2 : zW S2 = zW S) : WF9 S2 := by unfold WF9 at *; rw [h0, h1, h2]; exact hW
theorem oF1_w : zO (oF1 wg b o S) = zO S ∧ zS (oF1 wg b o S) = zS S ∧ zW (oF1 wg b o S) = zW S := by
  unfold oF1
  by_cases h : (wg 32 b).toInt = -1
  · rw [if_pos h]; exact ⟨rfl, rfl, rfl⟩
  · rw [if_neg h, zAdd_O, zAdd_S, zAdd_W]; exact ⟨rfl, rfl, rfl⟩
theorem oFi_O : zO (oFi wg wl b o S) = zO S := by
  unfold oFi oF2
  by_cases h : ¬ wl 4 b = 0 ∧ wg 35 b = 0
  · rw [if_pos h]; exact oF1_w.1
  · rw [if_neg h]; exact oF1_w.1
theorem WF_fi (hW : WF9 S) (hz : zS S b = 1) (ho : one9 wg wl b → ¬ zW S b = -1) : WF9 (oFi wg wl b o S) := by
  intro t ht
  rw [oFi_O]
  have e2 : zW (oFi wg wl b o S) = zW S := by
    unfold oFi oF2
    by_cases h : ¬ wl 4 b = 0 ∧ wg 35 b = 0
    · rw [if_pos h]; exact oF1_w.2.2
    · rw [if_neg h]; exact oF1_w.2.2
  rw [e2] at ht ⊢
  unfold oFi oF2 at ht
  by_cases h : ¬ wl 4 b = 0 ∧ wg 35 b = 0
  · rw [if_pos h] at ht
    by_cases q : t = b
    · subst q; exact hW t (Or.inr ⟨hz, ho h⟩)
    · refine hW t ?_
      have e : zS (zO (oF1 wg b o S), zE (oF1 wg b o S), fu9 (zS (oF1 wg b o S)) b 2, zW (oF1 wg b o S), zF (oF1 wg b o S) ++ [b]) t = zS S t := (fu9_ne q).trans (by rw [oF1_w.2.1])
      rw [e] at ht; exact ht
  · rw [if_neg h] at ht
    by_cases q : t = b
    · subst q
      have e : zS (zO (oF1 wg t o S), zE (oF1 wg t o S), fu9 (zS (oF1 wg t o S)) t 0, zW (oF1 wg t o S), zF (oF1 wg t o S)) t = 0 := fu9_at
      rw [e] at ht; omega
    · refine hW t ?_
      have e : zS (zO (oF1 wg b o S), zE (oF1 wg b o S), fu9 (zS (oF1 wg b o S)) b 0, zW (oF1 wg b o S), zF (oF1 wg b o S)) t = zS S t := (fu9_ne q).trans (by rw [oF1_w.2.1])
      rw [e] at ht; exact ht
/-- what a step tells -/
def OUT9 (ws : Nat → Int32) (wg : Nat → Nat → Int32) (wl : Nat → Nat → Int64) (rg : Nat → Nat → Int32) (R : Option Int × S9) (sg : Nat → Int32) (gm : Nat → Nat → Int32) : Prop :=
  ∃ S2, RR wg wl S2 sg gm ∧ WF9 S2 ∧ ((1 ≤ (sg 51).toInt ∧ R = (none, S2)) ∨ ((sg 51).toInt = 0 ∧ (((sg 63).toInt = 0 ∧ R = (some (sg 74).toInt, S2)) ∨ (1 ≤ (sg 63).toInt ∧ ∃ F2, IV9 ws wg wl rg R S2 sg gm F2))))
/-- the rows of the levels below are as they were, by rows -/
theorem KF_k (h4 : gm2 64 j = gm 64 j) (h5 : gm2 65 j = gm 65 j) (h6 : gm2 66 j = gm 66 j) (h7 : gm2 67 j = gm 67 j) (h8 : gm2 68 j = gm 68 j) (h9 : gm2 69 j = gm 69 j) (hv : SV4 gm gm2) : KF9 gm gm2 j := ⟨h4, h5, h6, h7, h8, h9, fun i _ _ => ⟨by rw [hv.1], by rw [hv.2.1]⟩, fun i _ _ => ⟨by rw [hv.2.2.1], by rw [hv.2.2.2]⟩⟩
theorem KF_s {t i : Nat} (h4 : gm2 64 j = gm 64 j) (h5 : gm2 65 j = gm 65 j) (h6 : gm2 66 j = gm 66 j) (h7 : gm2 67 j = gm 67 j) (h8 : gm2 68 j = gm 68 j) (h9 : gm2 69 j = gm 69 j) (hv : KPS gm gm2 sl) (hsl : sl = 5 * t + i) (hi : i ≤ 4) (hj : ¬ j = t) : KF9 gm gm2 j :=
  ⟨h4, h5, h6, h7, h8, h9, fun k h1 h2 => hv.1 k (by omega), fun k h1 h2 => hv.2 k (by omega)⟩
/-- depends -/
theorem oDe_0 (h : wl 6 b = 0) : oDe ws wg wl (oMK ws wg wl n) b S = (some (-1), S) := by unfold oDe; rw [if_pos h]
theorem oDe_g (hn : iv 0 80 (ws 12)) (h : ¬ wl 6 b = 0) : oDe ws wg wl (oMK ws wg wl n) b S = gtR ws wg wl n (caN ws wg wl (wl 6 b)) S := by unfold oDe; rw [if_neg h, gt_nm hn]
theorem oFa_g (hn : iv 0 80 (ws 12)) (h : ¬ wl 7 b = 0) : oFa ws wg wl (oMK ws wg wl n) b S = gtR ws wg wl n (caN ws wg wl (wl 7 b)) S := by unfold oFa; rw [if_neg h, gt_nm hn]
theorem fP0 (h : FM9 wg wl rg gm ob j f) (hp : (gm 65 j).toInt = (p : Int)) : f = (fB f, p, fI f, fF f, fO f, fV f, fA f) := by
  have : fP f = p := by have := h.2.1; omega
  obtain ⟨a, b, c, d, e, g, k⟩ := f
  have : b = p := this
  subst this; rfl
theorem FM_1 (h : FM9 wg wl rg gm ob j f) (hp : (gm 65 j).toInt = 0) (hk : ∀ k, k = 64 ∨ k = 66 ∨ k = 68 → gm2 k j = gm k j) (h5 : (gm2 65 j).toInt = 1) : FM9 wg wl rg gm2 ob j (fB f, 1, fI f, fF f, fO f, fV f, fA f) := by
  obtain ⟨a1, a2, a3, a4, a5, a6, a7, a8, a9, a10, a11, a12⟩ := h
  have e0 : fP f = 0 := by omega
  exact ⟨by rw [hk 64 (Or.inl rfl)]; exact a1, h5, by rw [hk 66 (Or.inr (Or.inl rfl))]; exact a3, by rw [hk 68 (Or.inr (Or.inr rfl))]; exact a4, a5, fun _ => a6 (by omega), a7, fun q => absurd q (by show ¬ 2 ≤ 1; omega), fun q => absurd q (by show ¬ 3 ≤ 1; omega), fun q => absurd q (by show ¬ 1 = 3; omega), fun q => absurd q (by show ¬ 1 = 4; omega), by show 1 ≤ 4; omega⟩
theorem FM_2 (h : FM9 wg wl rg gm ob j f) (hp : (gm 65 j).toInt = 1) (h4 : gm2 64 j = gm 64 j) (h5 : (gm2 65 j).toInt = 2) (h6 : gm2 66 j = gm 66 j) (h8 : (gm2 68 j).toInt = fo) (hfo : fo = -1 ∨ (0 ≤ fo ∧ fo < (ob.length : Int) ∧ ¬ wl 7 (fB f) = 0)) (hc : ¬ ((wg 30 (fB f)).toInt = -1 ∧ wl 7 (fB f) = 0)) : FM9 wg wl rg gm2 ob j (fB f, 2, fI f, fo, fO f, fV f, fA f) := by
  obtain ⟨a1, a2, a3, a4, a5, a6, a7, a8, a9, a10, a11, a12⟩ := h
  exact ⟨by rw [h4]; exact a1, h5, by rw [h6]; exact a3, h8, hfo.imp id (fun q => ⟨q.1, q.2.1⟩), fun q => absurd q (by show ¬ 2 ≤ 1; omega), fun q => (hfo.resolve_left q).2.2, fun _ => hc, fun q => absurd q (by show ¬ 3 ≤ 2; omega), fun q => absurd q (by show ¬ 2 = 3; omega), fun q => absurd q (by show ¬ 2 = 4; omega), by show 2 ≤ 4; omega⟩
theorem FM_3 (h : FM9 wg wl rg gm ob j f) (hp : (gm 65 j).toInt = 2) (h4 : gm2 64 j = gm 64 j) (h5 : (gm2 65 j).toInt = 3) (h6 : (gm2 66 j).toInt = 0) (h7 : (gm2 67 j).toInt = 0) (h8 : gm2 68 j = gm 68 j) : FM9 wg wl rg gm2 ob j (fB f, 3, 0, fF f, fO f, [], []) := by
  obtain ⟨a1, a2, a3, a4, a5, a6, a7, a8, a9, a10, a11, a12⟩ := h
  exact ⟨by rw [h4]; exact a1, h5, h6, by rw [h8]; exact a4, a5, fun q => absurd q (by show ¬ 3 ≤ 1; omega), a7, fun _ => a8 (by omega), fun _ => ⟨h7, fun _ => PT_nil⟩, fun _ => ⟨rfl, Nat.zero_le _, fun i hi => absurd hi (Nat.not_lt_zero _)⟩, fun q => absurd q (by show ¬ 3 = 4; omega), by show 3 ≤ 4; omega⟩
/-- an arg is there -/
theorem FM_3s {V : List Int} (h : FM9 wg wl rg gm ob j f) (hp : (gm 65 j).toInt = 3) (hx : fI f < (wg 41 (3 * fB f)).toNatClampNeg) (h44 : (wg 41 (3 * fB f)).toNatClampNeg ≤ 4) (h4 : gm2 64 j = gm 64 j) (h5 : gm2 65 j = gm 65 j) (h6 : (gm2 66 j).toInt = (gm 66 j).toInt + 1) (h7 : (gm2 67 j).toInt = 0) (h8 : gm2 68 j = gm 68 j) (hs : sl = 5 * j + fI f) (hk : KPS gm gm2 sl)
    (hV : VR9 wg wl rg ob (ctE wg (wg 57 (128 * (3 * fB f) + fI f)).toNatClampNeg) V (gm2 70 sl) (gm2 71 sl)) (hI : ITS9 wg rg gm2 (ctE wg (wg 57 (128 * (3 * fB f) + fI f)).toNatClampNeg) sl V) : FM9 wg wl rg gm2 ob j (fB f, 3, fI f + 1, fF f, fO f, fV f ++ [V], []) := by
  obtain ⟨a1, a2, a3, a4, a5, a6, a7, a8, a9, a10, a11, a12⟩ := h
  have e3 : fP f = 3 := by omega
  obtain ⟨b1, b2, b3⟩ := a10 e3
  subst hs
  refine ⟨by rw [h4]; exact a1, by rw [h5]; exact hp, by rw [h6, a3]; rfl, by rw [h8]; exact a4, a5, fun q => absurd q (by show ¬ 3 ≤ 1; omega), a7, fun _ => a8 (by omega), fun _ => ⟨h7, fun _ => PT_nil⟩, fun _ => ⟨by show (fV f ++ [V]).length = fI f + 1; rw [List.length_append, b1]; rfl, by show fI f + 1 ≤ 4; omega, ?_⟩, fun q => absurd q (by show ¬ 3 = 4; omega), by show 3 ≤ 4; omega⟩
  intro i hi
  have hi : i < fI f + 1 := hi
  show VR9 wg wl rg ob (ctE wg (wg 57 (128 * (3 * fB f) + i)).toNatClampNeg) (((fV f ++ [V])[i]?).getD []) _ _ ∧ ITS9 wg rg gm2 (ctE wg (wg 57 (128 * (3 * fB f) + i)).toNatClampNeg) _ (((fV f ++ [V])[i]?).getD [])
  by_cases q : i < fI f
  · rw [List.getElem?_append_left (by omega)]
    have q1 := FV_m (gm2 := gm2) (ob2 := ob) b3 (Nat.le_refl _) (fun k hk2 => hk.1 _ (by omega)) (fun k m hk2 hm => hk.2 _ (by omega)) i q
    exact q1
  · have e : i = fI f := by omega
    subst e
    rw [List.getElem?_append_right (by omega), b1, Nat.sub_self]
    exact ⟨hV, hI⟩
/-- an item is waited for -/
theorem FM_w (h : FM9 wg wl rg gm ob j f) (hp : 3 ≤ (gm 65 j).toInt) (hx : fI f < (wg 41 (fQ f)).toNatClampNeg) (h4 : gm2 64 j = gm 64 j) (h5 : gm2 65 j = gm 65 j) (h6 : gm2 66 j = gm 66 j) (h7 : (gm2 67 j).toInt = (ac2.length : Int)) (h8 : gm2 68 j = gm 68 j) (h9 : gm2 69 j = gm 69 j) (hs : sl = 5 * j + (if fP f = 3 then fI f else 4)) (hk : KPS gm gm2 sl) (hP : PT9 wg wl rg gm2 ob (ctE wg (fE wg f)) sl ac2) : FM9 wg wl rg gm2 ob j (fB f, fP f, fI f, fF f, fO f, fV f, ac2) := by
  obtain ⟨a1, a2, a3, a4, a5, a6, a7, a8, a9, a10, a11, a12⟩ := h
  subst hs
  refine ⟨by rw [h4]; exact a1, by rw [h5]; exact a2, by rw [h6]; exact a3, by rw [h8]; exact a4, a5, a6, a7, a8, fun _ => ⟨h7, fun _ => hP⟩, fun q => ?_, fun q => by rw [h9]; exact a11 q, a12⟩
  have q : fP f = 3 := q
  obtain ⟨b1, b2, b3⟩ := a10 q
  rw [if_pos q] at hk
  exact ⟨b1, b2, FV_m b3 (Nat.le_refl _) (fun k hk2 => hk.1 _ (by have hk2 : k < fI f := hk2; omega)) (fun k m hk2 hm => hk.2 _ (by have hk2 : k < fI f := hk2; omega))⟩
/-- the object is there -/
theorem FM_4 (h : FM9 wg wl rg gm ob j f) (hp : (gm 65 j).toInt = 3) (h4 : gm2 64 j = gm 64 j) (h5 : (gm2 65 j).toInt = 4) (h6 : (gm2 66 j).toInt = 0) (h7 : (gm2 67 j).toInt = 0) (h8 : gm2 68 j = gm 68 j) (h9 : (gm2 69 j).toInt = o) (ho : 0 ≤ o ∧ o < (ob2.length : Int)) (hl : ob.length ≤ ob2.length) : FM9 wg wl rg gm2 ob2 j (fB f, 4, 0, fF f, o, [], []) := by
  obtain ⟨a1, a2, a3, a4, a5, a6, a7, a8, a9, a10, a11, a12⟩ := h
  exact ⟨by rw [h4]; exact a1, h5, h6, by rw [h8]; exact a4, a5.imp id (fun q => ⟨q.1, Int.lt_of_lt_of_le q.2 (Int.ofNat_le.mpr hl)⟩), fun q => absurd q (by show ¬ 4 ≤ 1; omega), a7, fun _ => a8 (by omega), fun _ => ⟨h7, fun _ => PT_nil⟩, fun q => absurd q (by show ¬ 4 = 3; omega), fun _ => ⟨h9, ho⟩, Nat.le_refl _⟩
/-- a set is done -/
theorem FM_4s (h : FM9 wg wl rg gm ob j f) (hp : (gm 65 j).toInt = 4) (h4 : gm2 64 j = gm 64 j) (h5 : gm2 65 j = gm 65 j) (h6 : (gm2 66 j).toInt = (gm 66 j).toInt + 1) (h7 : (gm2 67 j).toInt = 0) (h8 : gm2 68 j = gm 68 j) (h9 : gm2 69 j = gm 69 j) (hl : ob.length ≤ ob2.length) : FM9 wg wl rg gm2 ob2 j (fB f, 4, fI f + 1, fF f, fO f, [], []) := by
  obtain ⟨a1, a2, a3, a4, a5, a6, a7, a8, a9, a10, a11, a12⟩ := h
  have q4 := a11 (by omega)
  exact ⟨by rw [h4]; exact a1, by rw [h5]; exact hp, by rw [h6, a3]; rfl, by rw [h8]; exact a4, a5.imp id (fun q => ⟨q.1, Int.lt_of_lt_of_le q.2 (Int.ofNat_le.mpr hl)⟩), fun q => absurd q (by show ¬ 4 ≤ 1; omega), a7, fun _ => a8 (by omega), fun _ => ⟨h7, fun _ => PT_nil⟩, fun q => absurd q (by show ¬ 4 = 3; omega), fun _ => ⟨by rw [h9]; exact q4.1, q4.2.1, by have := q4.2.2; show fO f < _; omega⟩, Nat.le_refl _⟩
/-- the steps of what is left -/
theorem he_3p {t : Nat} (hx : ix < (wg 41 (3 * b)).toNatClampNeg) (h : ∀ n, reW ws wg wl n (ctE wg (wg 57 (128 * (3 * b) + ix)).toNatClampNeg) acc S = bd9 (oMK ws wg wl n t S) (fun o S2 => reW ws wg wl n (ctE wg (wg 57 (128 * (3 * b) + ix)).toNatClampNeg) (ac2 ++ [dlI wg (ctE wg (wg 57 (128 * (3 * b) + ix)).toNatClampNeg) o]) S2)) (n : Nat) : frC ws wg wl n (b, 3, ix, fo, o, vs, acc) S = bd9 (oMK ws wg wl n t S) (fun u S => frC ws wg wl n (dlF wg (b, 3, ix, fo, o, vs, ac2) u) S) := by
  rw [fr_3 hx, h n, bd9_a]
  congr 1
  funext u S3
  show _ = frC ws wg wl n (b, 3, ix, fo, o, vs, ac2 ++ [dlI wg (ctE wg (wg 57 (128 * (3 * b) + ix)).toNatClampNeg) u]) S3
  rw [fr_3 hx]
theorem he_4p {t : Nat} (hx : ix < (wg 41 (3 * b + 1)).toNatClampNeg) (h : ∀ n, reW ws wg wl n (ctE wg (wg 57 (128 * (3 * b + 1) + ix)).toNatClampNeg) acc S = bd9 (oMK ws wg wl n t S) (fun o S2 => reW ws wg wl n (ctE wg (wg 57 (128 * (3 * b + 1) + ix)).toNatClampNeg) (ac2 ++ [dlI wg (ctE wg (wg 57 (128 * (3 * b + 1) + ix)).toNatClampNeg) o]) S2)) (n : Nat) : frC ws wg wl n (b, 4, ix, fo, o, vs, acc) S = bd9 (oMK ws wg wl n t S) (fun u S => frC ws wg wl n (dlF wg (b, 4, ix, fo, o, vs, ac2) u) S) := by
  rw [fr_4 hx, h n, bd9_a]
  congr 1
  funext u S3
  show _ = frC ws wg wl n (b, 4, ix, fo, o, vs, ac2 ++ [dlI wg (ctE wg (wg 57 (128 * (3 * b + 1) + ix)).toNatClampNeg) u]) S3
  rw [fr_4 hx]
theorem he_0p {t : Nat} (h : ∀ n, oDe ws wg wl (oMK ws wg wl n) b S = oMK ws wg wl n t S) (n : Nat) : frC ws wg wl n (b, 0, ix, fo, o, vs, acc) S = bd9 (oMK ws wg wl n t S) (fun u S => frC ws wg wl n (dlF wg (b, 1, ix, fo, o, vs, acc) u) S) := by
  rw [fr_0, h n]; rfl
theorem he_1p {t : Nat} (hc : ¬ wl 7 b = 0) (h : ∀ n, oFa ws wg wl (oMK ws wg wl n) b S = oMK ws wg wl n t S) (n : Nat) : frC ws wg wl n (b, 1, ix, fo, o, vs, acc) S = bd9 (oMK ws wg wl n t S) (fun u S => frC ws wg wl n (dlF wg (b, 2, ix, fo, o, vs, acc) u) S) := by
  rw [fr_1]; unfold r1; rw [if_neg (fun q => hc q.2), h n]; rfl
theorem he_1s (hc : ¬ ((wg 30 b).toInt = -1 ∧ wl 7 b = 0)) {u : Int} (h : ∀ n, oFa ws wg wl (oMK ws wg wl n) b S = (some u, S)) (n : Nat) : frC ws wg wl n (b, 1, ix, fo, o, vs, acc) S = frC ws wg wl n (b, 2, ix, u, o, vs, acc) S := by
  rw [fr_1]; unfold r1; rw [if_neg hc, h n]; rfl
theorem oFa_0 (h : wl 7 b = 0) : oFa ws wg wl (oMK ws wg wl n) b S = (some (-1), S) := by unfold oFa; rw [if_pos h]
end ST9
end
section
/-- what gets tells -/
abbrev FGT (ws : Nat → Int32) (wg : Nat → Nat → Int32) (wl : Nat → Nat → Int64) (S : S9) (b : Int32) (sg : Nat → Int32) (gm : Nat → Nat → Int32) (sg2 : Nat → Int32) (gm2 : Nat → Nat → Int32) (r : Int32) : Prop := (r.toInt = 0 ∧ 1 ≤ (sg2 51).toInt ∧ RR wg wl S sg2 gm2 ∧ ∀ n9, gtR ws wg wl n9 b.toInt S = (none, S)) ∨ (r.toInt = 1 ∧ (sg2 51).toInt = 0 ∧ RR wg wl S sg2 gm2 ∧ ∀ n9, gtR ws wg wl n9 b.toInt S = (some (sg2 74).toInt, S)) ∨ (r.toInt = 0 ∧ (sg2 51).toInt = 0 ∧ 0 ≤ b.toInt ∧ RR wg wl (oBe b.toNatClampNeg S) sg2 gm2 ∧ ¬ zS S b.toNatClampNeg = 1 ∧ (∀ n9, gtR ws wg wl n9 b.toInt S = oMK ws wg wl n9 b.toNatClampNeg S) ∧ gm2 64 = upd (gm 64) (sg 63).toNatClampNeg b ∧ gm2 68 = upd (gm 68) (sg 63).toNatClampNeg (-1))
section SU9
variable {ws : Nat → Int32} {wg rg gm gm1 gm2 : Nat → Nat → Int32} {wl : Nat → Nat → Int64} {rs sg sg1 sg2 : Nat → Int32} {lg : Nat → Nat → Int64} {S S2 : S9} {b j sl : Nat} {R : Option Int × S9} {F : Nat → Fr9}
theorem OUT_x (h : IV9 ws wg wl rg R S sg gm F) (he : ∀ n, frC ws wg wl n (F (TOPn sg)) S = (none, S2)) (hR : RR wg wl S2 sg2 gm2) (hW : WF9 S2) (h5 : 1 ≤ (sg2 51).toInt) : OUT9 ws wg wl rg R sg2 gm2 := ⟨S2, hR, hW, Or.inl ⟨h5, IV_n h he⟩⟩
theorem IV_m (h : IV9 ws wg wl rg R S sg gm F) (hh : 1 ≤ (sg 63).toInt) : FM9 wg wl rg gm (zO S) (TOPn sg) (F (TOPn sg)) := h.2.2.1 _ (by rw [TOP_e hh]; omega)
/-- phase 0 is over -/
theorem OUT_01 {t : Nat} {v : Int32} {u : Int} (h : IV9 ws wg wl rg R S sg gm F) (hh : 1 ≤ (sg 63).toInt) (hp : (gm 65 (TOPn sg)).toInt = 0) (hd : ∀ n, oDe ws wg wl (oMK ws wg wl n) (gm 64 (TOPn sg)).toNatClampNeg S = (some u, S)) (hR : RR wg wl S sg2 gm2) (h5 : (sg2 51).toInt = 0) (h63 : sg2 63 = sg 63) (ht : t = TOPn sg) (e65 : gm2 65 = upd (gm 65) t v) (ev : v.toInt = 1) (e64 : gm2 64 = gm 64) (e66 : gm2 66 = gm 66) (e67 : gm2 67 = gm 67) (e68 : gm2 68 = gm 68) (e69 : gm2 69 = gm 69) (hs : SV4 gm gm2) : OUT9 ws wg wl rg R sg2 gm2 := by
  subst ht
  have hm := IV_m h hh
  refine ⟨S, hR, h.1, Or.inr ⟨h5, Or.inr ⟨by rw [h63]; exact hh, _, IV_top h hh h63 h.1 (Nat.le_refl _) (fun j hj => KF_k (by rw [e64]) (by rw [e65, upd_ne (by omega)]) (by rw [e66]) (by rw [e67]) (by rw [e68]) (by rw [e69]) hs) (FM_1 hm hp (fun k hk => ?_) (by rw [e65, upd_at]; exact ev)) ?_⟩⟩⟩
  · rcases hk with rfl | rfl | rfl
    · rw [e64]
    · rw [e66]
    · rw [e68]
  · rw [hm.1] at hd
    conv => lhs; rw [fP0 (p := 0) hm hp]
    rw [fr_0, hd, fr_1]; rfl
theorem FG_0 {b : Int32} {r : Int32} (h : FGT ws wg wl S b sg1 gm1 sg2 gm2 r) (hr : r.toInt = 0) : (1 ≤ (sg2 51).toInt ∧ RR wg wl S sg2 gm2 ∧ ∀ n, gtR ws wg wl n b.toInt S = (none, S)) ∨ ((sg2 51).toInt = 0 ∧ RR wg wl (oBe b.toNatClampNeg S) sg2 gm2 ∧ ¬ zS S b.toNatClampNeg = 1 ∧ (∀ n, gtR ws wg wl n b.toInt S = oMK ws wg wl n b.toNatClampNeg S) ∧ gm2 64 = upd (gm1 64) (sg1 63).toNatClampNeg b ∧ gm2 68 = upd (gm1 68) (sg1 63).toNatClampNeg (-1)) := by
  rcases h with q | q | q
  · exact Or.inl ⟨q.2.1, q.2.2.1, q.2.2.2⟩
  · omega
  · exact Or.inr ⟨q.2.1, q.2.2.2.1, q.2.2.2.2.1, q.2.2.2.2.2.1, q.2.2.2.2.2.2.1, q.2.2.2.2.2.2.2⟩
theorem FG_1 {b : Int32} {r : Int32} (h : FGT ws wg wl S b sg1 gm1 sg2 gm2 r) (hr : ¬ r.toInt = 0) : (sg2 51).toInt = 0 ∧ RR wg wl S sg2 gm2 ∧ ∀ n, gtR ws wg wl n b.toInt S = (some (sg2 74).toInt, S) := by
  rcases h with q | q | q
  · exact absurd q.1 hr
  · exact q.2
  · exact absurd q.1 hr
/-- what a push does to the pile's rows -/
theorem GT_p {r : Int32} (h : GETS sg1 gm1 sg2 gm2 r) (hr : r.toInt = 0) (h5 : (sg2 51).toInt = 0) : (sg2 63).toInt = (sg1 63).toInt + 1 ∧ (sg1 63).toInt ≤ 79 ∧ gm2 65 = upd (gm1 65) (sg1 63).toNatClampNeg 0 ∧ gm2 66 = upd (gm1 66) (sg1 63).toNatClampNeg 0 ∧ gm2 67 = upd (gm1 67) (sg1 63).toNatClampNeg 0 ∧ gm2 69 = upd (gm1 69) (sg1 63).toNatClampNeg (-1) := by
  rcases h with q | ⟨_, q | ⟨b, q⟩⟩
  · omega
  · omega
  · exact ⟨q.1, q.2.1, q.2.2.2.1, q.2.2.2.2.1, q.2.2.2.2.2.1, q.2.2.2.2.2.2.1⟩
/-- depends fails, or is waited for -/
theorem OUT_0g {t : Nat} {v b r : Int32} (h : IV9 ws wg wl rg R S sg gm F) (hh : 1 ≤ (sg 63).toInt) (hp : (gm 65 (TOPn sg)).toInt = 0) (hn : iv 0 80 (ws 12)) (h6 : ¬ wl 6 (gm 64 (TOPn sg)).toNatClampNeg = 0) (hb : b.toInt = caN ws wg wl (wl 6 (gm 64 (TOPn sg)).toNatClampNeg)) (hg : FGT ws wg wl S b sg1 gm1 sg2 gm2 r) (hG : GETS sg1 gm1 sg2 gm2 r) (hr : r.toInt = 0) (h63 : sg1 63 = sg 63) (ht : t = TOPn sg) (e65 : gm1 65 = upd (gm 65) t v) (ev : v.toInt = 1) (e64 : gm1 64 = gm 64) (e66 : gm1 66 = gm 66) (e67 : gm1 67 = gm 67) (e68 : gm1 68 = gm 68) (e69 : gm1 69 = gm 69) (hs : SV4 gm gm2) : OUT9 ws wg wl rg R sg2 gm2 := by
  subst ht
  have hm := IV_m h hh
  have ef := fP0 (p := 0) hm hp
  have hde : ∀ n, oDe ws wg wl (oMK ws wg wl n) (fB (F (TOPn sg))) S = gtR ws wg wl n b.toInt S := fun n => by rw [← hm.1, oDe_g hn h6, hb]
  have e := TOP_e hh
  rcases FG_0 hg hr with ⟨q1, q2, q3⟩ | ⟨q1, q2, q3, q4, q5, q6⟩
  · refine OUT_x h (fun n => ?_) q2 h.1 q1
    rw [ef, fr_0, hde, q3]; rfl
  · obtain ⟨g1, g2, g3, g4, g5, g6⟩ := GT_p hG hr q1
    rw [h63] at g1 g2 g3 g4 g5 g6 q5 q6
    refine ⟨_, q2, WF_be h.1, Or.inr ⟨q1, Or.inr ⟨by omega, ?_⟩⟩⟩
    refine IV_push (f := (fB (F (TOPn sg)), 1, fI (F (TOPn sg)), fF (F (TOPn sg)), fO (F (TOPn sg)), fV (F (TOPn sg)), fA (F (TOPn sg)))) h hh g1 g2 (fun j hj => KF_k (by rw [q5, upd_ne (by omega), e64]) (by rw [g3, upd_ne (by omega), e65, upd_ne (by omega)]) (by rw [g4, upd_ne (by omega), e66]) (by rw [g5, upd_ne (by omega), e67]) (by rw [q6, upd_ne (by omega), e68]) (by rw [g6, upd_ne (by omega), e69]) hs) (FM_1 hm hp (fun k hk => ?_) (by rw [g3, upd_ne (by omega), e65, upd_at]; exact ev)) (Or.inl rfl) q3 (by rw [q5, upd_at]) (by rw [g3, upd_at]; rfl) (by rw [g4, upd_at]; rfl) (by rw [q6, upd_at]; rfl) (fun n => ?_)
    · rcases hk with rfl | rfl | rfl
      · rw [q5, upd_ne (by omega), e64]
      · rw [g4, upd_ne (by omega), e66]
      · rw [q6, upd_ne (by omega), e68]
    · have q := he_0p (ws := ws) (wg := wg) (wl := wl) (b := fB (F (TOPn sg))) (ix := fI (F (TOPn sg))) (fo := fF (F (TOPn sg))) (o := fO (F (TOPn sg))) (vs := fV (F (TOPn sg))) (acc := fA (F (TOPn sg))) (S := S) (fun n => (hde n).trans (q4 n)) n
      rw [← ef] at q; exact q
/-- phase 1 is over -/
theorem OUT_14 (h : IV9 ws wg wl rg R S sg gm F) (hh : 1 ≤ (sg 63).toInt) (hp : (gm 65 (TOPn sg)).toInt = 1) (h4 : (wg 30 (gm 64 (TOPn sg)).toNatClampNeg).toInt = -1 ∧ wl 7 (gm 64 (TOPn sg)).toNatClampNeg = 0) (hR : RR wg wl S sg2 gm2) (h5 : 1 ≤ (sg2 51).toInt) : OUT9 ws wg wl rg R sg2 gm2 := by
  have hm := IV_m h hh
  refine OUT_x h (fun n => ?_) hR h.1 h5
  rw [fP0 (p := 1) hm hp, fr_1, ← hm.1, r1_4 h4]
theorem OUT_12 {t : Nat} {v : Int32} {u : Int} (h : IV9 ws wg wl rg R S sg gm F) (hh : 1 ≤ (sg 63).toInt) (hp : (gm 65 (TOPn sg)).toInt = 1) (hc : ¬ ((wg 30 (gm 64 (TOPn sg)).toNatClampNeg).toInt = -1 ∧ wl 7 (gm 64 (TOPn sg)).toNatClampNeg = 0)) (hd : ∀ n, oFa ws wg wl (oMK ws wg wl n) (gm 64 (TOPn sg)).toNatClampNeg S = (some u, S)) (hu : u = -1 ∨ (0 ≤ u ∧ u < ((zO S).length : Int) ∧ ¬ wl 7 (gm 64 (TOPn sg)).toNatClampNeg = 0)) (hR : RR wg wl S sg2 gm2) (h5 : (sg2 51).toInt = 0) (h63 : sg2 63 = sg 63) (ht : t = TOPn sg) (e65 : gm2 65 = upd (gm 65) t v) (ev : v.toInt = 2) (e64 : gm2 64 = gm 64) (e66 : gm2 66 = gm 66) (e67 : gm2 67 = gm 67) (e68 : ∀ j, j < TOPn sg → gm2 68 j = gm 68 j) (e68t : (gm2 68 (TOPn sg)).toInt = u) (e69 : gm2 69 = gm 69) (hs : SV4 gm gm2) : OUT9 ws wg wl rg R sg2 gm2 := by
  subst ht
  have hm := IV_m h hh
  rw [hm.1] at hc hd hu
  refine ⟨S, hR, h.1, Or.inr ⟨h5, Or.inr ⟨by rw [h63]; exact hh, _, IV_top h hh h63 h.1 (Nat.le_refl _) (fun j hj => KF_k (by rw [e64]) (by rw [e65, upd_ne (by omega)]) (by rw [e66]) (by rw [e67]) (e68 j hj) (by rw [e69]) hs) (FM_2 (fo := u) hm hp (by rw [e64]) (by rw [e65, upd_at]; exact ev) (by rw [e66]) e68t hu hc) ?_⟩⟩⟩
  conv => lhs; rw [fP0 (p := 1) hm hp]
  exact he_1s hc hd _
theorem OUT_1g {t : Nat} {v b r : Int32} (h : IV9 ws wg wl rg R S sg gm F) (hh : 1 ≤ (sg 63).toInt) (hp : (gm 65 (TOPn sg)).toInt = 1) (hn : iv 0 80 (ws 12)) (h7 : ¬ wl 7 (gm 64 (TOPn sg)).toNatClampNeg = 0) (hb : b.toInt = caN ws wg wl (wl 7 (gm 64 (TOPn sg)).toNatClampNeg)) (hg : FGT ws wg wl S b sg1 gm1 sg2 gm2 r) (hG : GETS sg1 gm1 sg2 gm2 r) (hr : r.toInt = 0) (h63 : sg1 63 = sg 63) (ht : t = TOPn sg) (e65 : gm1 65 = upd (gm 65) t v) (ev : v.toInt = 2) (e64 : gm1 64 = gm 64) (e66 : gm1 66 = gm 66) (e67 : gm1 67 = gm 67) (e68 : gm1 68 = gm 68) (e69 : gm1 69 = gm 69) (hs : SV4 gm gm2) : OUT9 ws wg wl rg R sg2 gm2 := by
  subst ht
  have hm := IV_m h hh
  have ef := fP0 (p := 1) hm hp
  have hde : ∀ n, oFa ws wg wl (oMK ws wg wl n) (fB (F (TOPn sg))) S = gtR ws wg wl n b.toInt S := fun n => by rw [← hm.1, oFa_g hn h7, hb]
  have e := TOP_e hh
  rw [hm.1] at h7
  have ef1 : fF (F (TOPn sg)) = -1 := hm.2.2.2.2.2.1 (by have := hm.2.1; omega)
  rcases FG_0 hg hr with ⟨q1, q2, q3⟩ | ⟨q1, q2, q3, q4, q5, q6⟩
  · refine OUT_x h (fun n => ?_) q2 h.1 q1
    rw [ef, fr_1]; unfold r1; rw [if_neg (fun q => h7 q.2), hde, q3]; rfl
  · obtain ⟨g1, g2, g3, g4, g5, g6⟩ := GT_p hG hr q1
    rw [h63] at g1 g2 g3 g4 g5 g6 q5 q6
    refine ⟨_, q2, WF_be h.1, Or.inr ⟨q1, Or.inr ⟨by omega, ?_⟩⟩⟩
    refine IV_push (f := (fB (F (TOPn sg)), 2, fI (F (TOPn sg)), fF (F (TOPn sg)), fO (F (TOPn sg)), fV (F (TOPn sg)), fA (F (TOPn sg)))) h hh g1 g2 (fun j hj => KF_k (by rw [q5, upd_ne (by omega), e64]) (by rw [g3, upd_ne (by omega), e65, upd_ne (by omega)]) (by rw [g4, upd_ne (by omega), e66]) (by rw [g5, upd_ne (by omega), e67]) (by rw [q6, upd_ne (by omega), e68]) (by rw [g6, upd_ne (by omega), e69]) hs) (FM_2 hm hp (by rw [q5, upd_ne (by omega), e64]) (by rw [g3, upd_ne (by omega), e65, upd_at]; exact ev) (by rw [g4, upd_ne (by omega), e66]) (by rw [q6, upd_ne (by omega), e68]; exact hm.2.2.2.1) (Or.inl ef1) (fun q => h7 q.2)) (Or.inr (Or.inl ⟨rfl, ef1, h7⟩)) q3 (by rw [q5, upd_at]) (by rw [g3, upd_at]; rfl) (by rw [g4, upd_at]; rfl) (by rw [q6, upd_at]; rfl) (fun n => ?_)
    have q := he_1p (ws := ws) (wg := wg) (wl := wl) (b := fB (F (TOPn sg))) (ix := fI (F (TOPn sg))) (fo := fF (F (TOPn sg))) (o := fO (F (TOPn sg))) (vs := fV (F (TOPn sg))) (acc := fA (F (TOPn sg))) (S := S) h7 (fun n => (hde n).trans (q4 n)) n
    rw [← ef] at q; exact q
/-- phase 2 is over -/
theorem OUT_23 {t : Nat} {v : Int32} (h : IV9 ws wg wl rg R S sg gm F) (hh : 1 ≤ (sg 63).toInt) (hp : (gm 65 (TOPn sg)).toInt = 2) (h0 : (gm 66 (TOPn sg)).toInt = 0 ∧ (gm 67 (TOPn sg)).toInt = 0) (hR : RR wg wl S sg2 gm2) (h5 : (sg2 51).toInt = 0) (h63 : sg2 63 = sg 63) (ht : t = TOPn sg) (e65 : gm2 65 = upd (gm 65) t v) (ev : v.toInt = 3) (e64 : gm2 64 = gm 64) (e66 : gm2 66 = gm 66) (e67 : gm2 67 = gm 67) (e68 : gm2 68 = gm 68) (e69 : gm2 69 = gm 69) (hs : SV4 gm gm2) : OUT9 ws wg wl rg R sg2 gm2 := by
  subst ht
  have hm := IV_m h hh
  refine ⟨S, hR, h.1, Or.inr ⟨h5, Or.inr ⟨by rw [h63]; exact hh, _, IV_top h hh h63 h.1 (Nat.le_refl _) (fun j hj => KF_k (by rw [e64]) (by rw [e65, upd_ne (by omega)]) (by rw [e66]) (by rw [e67]) (by rw [e68]) (by rw [e69]) hs) (FM_3 hm hp (by rw [e64]) (by rw [e65, upd_at]; exact ev) (by rw [e66]; exact h0.1) (by rw [e67]; exact h0.2) (by rw [e68])) ?_⟩⟩⟩
  conv => lhs; rw [fP0 (p := 2) hm hp]
  rw [fr_2]
  have q := fr_3e (ws := ws) (wg := wg) (wl := wl) (n := 80 - TOPn sg) (b := fB (F (TOPn sg))) (fo := fF (F (TOPn sg))) (o := fO (F (TOPn sg))) (ix := 0) (vs := []) (S := S)
  exact q
/-- what workedOut does to the pile's rows -/
theorem WO_p {lim : Int} {r : Int32} (h : WOUT sg gm lim sg1 gm1 r) (hr : r.toInt = 0) (h5 : (sg1 51).toInt = 0) : (sg1 63).toInt = (sg 63).toInt + 1 ∧ (sg 63).toInt ≤ 79 ∧ gm1 65 = upd (gm 65) (sg 63).toNatClampNeg 0 ∧ gm1 66 = upd (gm 66) (sg 63).toNatClampNeg 0 ∧ (∀ j, ¬ j = TOPn sg → ¬ j = (sg 63).toNatClampNeg → gm1 67 j = gm 67 j) ∧ gm1 69 = upd (gm 69) (sg 63).toNatClampNeg (-1) := by
  rcases h with q | ⟨_, q | ⟨b, g67, q, q67, _⟩⟩
  · omega
  · omega
  · exact ⟨q.1, q.2.1, q.2.2.2.1, q.2.2.2.2.1, fun j h1 h2 => by rw [q.2.2.2.2.2.1, upd_ne h2]; exact q67 j h1, q.2.2.2.2.2.2.1⟩
/-- an arg, a set: it fails, or waits -/
theorem OUT_w {lim : Int} {r : Int32} {a : Nat} (h : IV9 ws wg wl rg R S sg gm F) (hh : 1 ≤ (sg 63).toInt) (hp : 3 ≤ (gm 65 (TOPn sg)).toInt) (ha : a = (wg 57 (128 * (3 * (gm 64 (TOPn sg)).toNatClampNeg + ((gm 65 (TOPn sg)).toNatClampNeg - 3)) + (gm 66 (TOPn sg)).toNatClampNeg)).toNatClampNeg) (hx : (gm 66 (TOPn sg)).toNatClampNeg < (wg 41 (3 * (gm 64 (TOPn sg)).toNatClampNeg + ((gm 65 (TOPn sg)).toNatClampNeg - 3))).toNatClampNeg) (hs : sl = 5 * TOPn sg + (if (gm 65 (TOPn sg)).toInt = 3 then (gm 66 (TOPn sg)).toNatClampNeg else 4)) (hw : WO9 ws wg wl rg (ctE wg a) sl (fA (F (TOPn sg))) S sg gm sg2 gm2 r) (hW : WOUT sg gm lim sg2 gm2 r) (hr : r.toInt = 0) : OUT9 ws wg wl rg R sg2 gm2 := by
  have hm := IV_m h hh
  have e := TOP_e hh
  have c6 := cln9 (u := gm 66 (TOPn sg)) (by have := hm.2.2.1; omega)
  have c5 := cln9 (u := gm 65 (TOPn sg)) (by omega)
  have hb := hm.1
  have hi : (gm 66 (TOPn sg)).toNatClampNeg = fI (F (TOPn sg)) := by have := hm.2.2.1; omega
  have hpp : (gm 65 (TOPn sg)).toNatClampNeg = fP (F (TOPn sg)) := by have := hm.2.1; omega
  rw [hb, hi, hpp] at ha hx
  have ha : a = fE wg (F (TOPn sg)) := ha
  have hx : fI (F (TOPn sg)) < (wg 41 (fQ (F (TOPn sg)))).toNatClampNeg := hx
  have hs : sl = 5 * TOPn sg + (if fP (F (TOPn sg)) = 3 then fI (F (TOPn sg)) else 4) := by
    rw [hs, hi]
    by_cases q : fP (F (TOPn sg)) = 3
    · rw [if_pos q, if_pos (by omega)]
    · rw [if_neg q, if_neg (by omega)]
  have h4 : (if fP (F (TOPn sg)) = 3 then fI (F (TOPn sg)) else 4) ≤ 4 := by
    by_cases q : fP (F (TOPn sg)) = 3
    · rw [if_pos q]; exact (hm.2.2.2.2.2.2.2.2.2.1 q).2.1
    · rw [if_neg q]; exact Nat.le_refl _
  have hp4 := hm.2.2.2.2.2.2.2.2.2.2.2
  have p34 : fP (F (TOPn sg)) = 3 ∨ fP (F (TOPn sg)) = 4 := by omega
  subst ha
  rcases hw with q | ⟨_, q1, q2, q3⟩ | ⟨_, q1, qk, t, ac2, q2, q3, q4, q5, q6, q7, q8, q9, qA, qB⟩
  · omega
  · refine OUT_x h (fun n => ?_) q2 h.1 q1
    rcases p34 with p | p
    · have p5 : (gm 65 (TOPn sg)).toInt = ((3 : Nat) : Int) := by omega
      unfold fE fQ at q3 hx; rw [p] at q3 hx
      rw [fP0 (p := 3) hm p5, fr_3 hx]
      show bd9 (reW ws wg wl n (ctE wg (wg 57 (128 * (3 * fB (F (TOPn sg)) + 0) + fI (F (TOPn sg)))).toNatClampNeg) (fA (F (TOPn sg))) S) _ = _
      rw [q3]; rfl
    · have p5 : (gm 65 (TOPn sg)).toInt = ((4 : Nat) : Int) := by omega
      unfold fE fQ at q3 hx; rw [p] at q3 hx
      rw [fP0 (p := 4) hm p5, fr_4 hx]
      show bd9 (reW ws wg wl n (ctE wg (wg 57 (128 * (3 * fB (F (TOPn sg)) + 1) + fI (F (TOPn sg)))).toNatClampNeg) (fA (F (TOPn sg))) S) _ = _
      rw [q3]; rfl
  · obtain ⟨g1, g2, g3, g4, g5, g6⟩ := WO_p hW hr q1
    refine ⟨_, q4, WF_be h.1, Or.inr ⟨q1, Or.inr ⟨by omega, ?_⟩⟩⟩
    refine IV_push (f := (fB (F (TOPn sg)), fP (F (TOPn sg)), fI (F (TOPn sg)), fF (F (TOPn sg)), fO (F (TOPn sg)), fV (F (TOPn sg)), ac2)) h hh g1 g2 (fun j hj => KF_s (t := TOPn sg) (by rw [qA, upd_ne (by omega)]) (by rw [g3, upd_ne (by omega)]) (by rw [g4, upd_ne (by omega)]) (g5 j (by omega) (by omega)) (by rw [qB, upd_ne (by omega)]) (by rw [g6, upd_ne (by omega)]) qk hs h4 (by omega)) (FM_w hm hp hx (by rw [qA, upd_ne (by omega)]) (by rw [g3, upd_ne (by omega)]) (by rw [g4, upd_ne (by omega)]) q8 (by rw [qB, upd_ne (by omega)]) (by rw [g6, upd_ne (by omega)]) hs qk q9) (Or.inr (Or.inr ⟨by show 3 ≤ fP (F (TOPn sg)); omega, hx, q6⟩)) q5 (by rw [qA, upd_at]) (by rw [g3, upd_at]; rfl) (by rw [g4, upd_at]; rfl) (by rw [qB, upd_at]; rfl) (fun n => ?_)
    rcases p34 with p | p
    · have p5 : (gm 65 (TOPn sg)).toInt = ((3 : Nat) : Int) := by omega
      unfold fE fQ at q7 hx; rw [p] at q7 hx ⊢
      have q := he_3p (fo := fF (F (TOPn sg))) (o := fO (F (TOPn sg))) (vs := fV (F (TOPn sg))) hx q7 n
      have ef := fP0 (p := 3) hm p5
      rw [← ef] at q; exact q
    · have p5 : (gm 65 (TOPn sg)).toInt = ((4 : Nat) : Int) := by omega
      unfold fE fQ at q7 hx; rw [p] at q7 hx ⊢
      have q := he_4p (fo := fF (F (TOPn sg))) (o := fO (F (TOPn sg))) (vs := fV (F (TOPn sg))) hx q7 n
      have ef := fP0 (p := 4) hm p5
      rw [← ef] at q; exact q
/-- an arg is there -/
theorem OUT_3s {r v w : Int32} {t : Nat} (h : IV9 ws wg wl rg R S sg gm F) (hh : 1 ≤ (sg 63).toInt) (hp : (gm 65 (TOPn sg)).toInt = 3) (hx : (gm 66 (TOPn sg)).toNatClampNeg < (wg 41 (3 * (gm 64 (TOPn sg)).toNatClampNeg)).toNatClampNeg) (h44 : (wg 41 (3 * (gm 64 (TOPn sg)).toNatClampNeg)).toNatClampNeg ≤ 4) (hs : sl = 5 * TOPn sg + (gm 66 (TOPn sg)).toNatClampNeg) (hw : WO9 ws wg wl rg (ctE wg (wg 57 (128 * (3 * (gm 64 (TOPn sg)).toNatClampNeg) + (gm 66 (TOPn sg)).toNatClampNeg)).toNatClampNeg) sl (fA (F (TOPn sg))) S sg gm sg1 gm1 r) (hq : SAMEQ sg gm sg1 gm1) (hr : ¬ r.toInt = 0) (ht : t = TOPn sg)
    (x63 : sg2 63 = sg1 63) (x51 : sg2 51 = sg1 51) (x64 : gm2 64 = gm1 64) (x65 : gm2 65 = gm1 65) (x66 : gm2 66 = upd (gm1 66) t v) (ev : v.toInt = (gm1 66 t).toInt + 1) (x67 : gm2 67 = upd (gm1 67) t w) (ew : w.toInt = 0) (x68 : gm2 68 = gm1 68) (x69 : gm2 69 = gm1 69) (hv : SV4 gm1 gm2) (hR : RR wg wl S sg1 gm1 → RR wg wl S sg2 gm2) : OUT9 ws wg wl rg R sg2 gm2 := by
  subst ht
  have hm := IV_m h hh
  have e := TOP_e hh
  have c6 := cln9 (u := gm 66 (TOPn sg)) (by have := hm.2.2.1; omega)
  have hi : (gm 66 (TOPn sg)).toNatClampNeg = fI (F (TOPn sg)) := by have := hm.2.2.1; omega
  rw [hm.1, hi] at hx hw
  rw [hm.1] at h44
  rw [hi] at hs
  obtain ⟨s63, s62, s64, s65, s66, s68, s69, s51, s67⟩ := hq
  rcases hw with ⟨_, q1, q2, qk, V, q3, q4, q5⟩ | q | q
  · have hks : KPS gm gm2 sl := KPS_k qk hv.1 hv.2.1 hv.2.2.1 hv.2.2.2
    refine ⟨S, hR q2, h.1, Or.inr ⟨by rw [x51]; exact q1, Or.inr ⟨by rw [x63, s63]; exact hh, _, IV_top h hh (x63.trans s63) h.1 (Nat.le_refl _) (fun j hj => KF_s (t := TOPn sg) (by rw [x64, s64]) (by rw [x65, s65]) (by rw [x66, upd_ne (by omega), s66]) (by rw [x67, upd_ne (by omega), s67 j (by omega)]) (by rw [x68, s68]) (by rw [x69, s69]) hks hs (by omega) (by omega)) (FM_3s hm hp hx h44 (by rw [x64, s64]) (by rw [x65, s65]) (by rw [x66, upd_at, ev, s66]) (by rw [x67, upd_at]; exact ew) (by rw [x68, s68]) hs hks (V := V) (by rw [hv.1, hv.2.1]; exact q4) (by unfold ITS9 at *; rw [hv.2.2.1, hv.2.2.2]; exact q5)) ?_⟩⟩⟩
    conv => lhs; rw [fP0 (p := 3) hm hp]
    rw [fr_3 hx, q3, ← fr_3e]; rfl
  · exact absurd q.1 hr
  · exact absurd q.1 hr
/-- the object comes to be -/
theorem OUT_3m {t : Nat} {v w : Int32} (h : IV9 ws wg wl rg R S sg gm F) (hh : 1 ≤ (sg 63).toInt) (hp : (gm 65 (TOPn sg)).toInt = 3) (hx : ¬ (gm 66 (TOPn sg)).toNatClampNeg < (wg 41 (3 * (gm 64 (TOPn sg)).toNatClampNeg)).toNatClampNeg) (h67 : (gm 67 (TOPn sg)).toInt = 0) (hb : (1 ≤ (sg1 51).toInt ∧ ∃ S2, oBr wg wl (gm 64 (TOPn sg)).toNatClampNeg (fF (F (TOPn sg))) (fV (F (TOPn sg))) S = (none, S2) ∧ RR wg wl S2 sg1 gm1) ∨ ((sg1 51).toInt = 0 ∧ ∃ S2, oBr wg wl (gm 64 (TOPn sg)).toNatClampNeg (fF (F (TOPn sg))) (fV (F (TOPn sg))) S = (some (gm1 69 (TOPn sg)).toInt, S2) ∧ RR wg wl S2 sg1 gm1)) (ht : t = TOPn sg)
    (x63 : sg2 63 = sg 63) (x51 : sg2 51 = sg1 51) (x64 : gm2 64 = gm 64) (x65 : gm2 65 = upd (gm 65) t v) (ev : v.toInt = 4) (x66 : gm2 66 = upd (gm 66) t w) (ew : w.toInt = 0) (x67 : gm2 67 = gm 67) (x68 : gm2 68 = gm 68) (x69 : gm2 69 = gm1 69) (x69b : (sg1 51).toInt = 0 → ∀ j, j < TOPn sg → gm2 69 j = gm 69 j) (hv : SV4 gm gm2) (hR : ∀ S2, RR wg wl S2 sg1 gm1 → RR wg wl S2 sg2 gm2) : OUT9 ws wg wl rg R sg2 gm2 := by
  subst ht
  have hm := IV_m h hh
  have c6 := cln9 (u := gm 66 (TOPn sg)) (by have := hm.2.2.1; omega)
  have hi : (gm 66 (TOPn sg)).toNatClampNeg = fI (F (TOPn sg)) := by have := hm.2.2.1; omega
  rw [hm.1] at hb
  rw [hm.1, hi] at hx
  rcases hb with ⟨q1, S2, q2, q3⟩ | ⟨q1, S2, q2, q3⟩
  · refine OUT_x h (fun n => ?_) (hR S2 q3) ?_ (by rw [x51]; exact q1)
    · rw [fP0 (p := 3) hm hp, fr_3z hx, r3_x q2]
    · cases hc : chS wg wl (fB (F (TOPn sg))) (fF (F (TOPn sg))) (zO S) (fV (F (TOPn sg))) with
      | none => rw [oBr_n hc] at q2; have e : S = S2 := congrArg Prod.snd q2; rw [← e]; exact h.1
      | some q =>
        obtain ⟨s, g⟩ := q
        by_cases h6 : 60 ≤ (zO S).length
        · rw [oBr_6 hc h6] at q2; have e : S = S2 := congrArg Prod.snd q2; rw [← e]; exact h.1
        · rw [oBr_s hc h6] at q2; exact absurd q2 (by simp)
  · obtain ⟨w1, w2, w3, w4⟩ := oBr_w q2
    refine ⟨S2, hR S2 q3, WF_br h.1 q2, Or.inr ⟨by rw [x51]; exact q1, Or.inr ⟨by rw [x63]; exact hh, _, IV_top h hh x63 (WF_br h.1 q2) (by omega) (fun j hj => KF_k (by rw [x64]) (by rw [x65, upd_ne (by omega)]) (by rw [x66, upd_ne (by omega)]) (by rw [x67]) (by rw [x68]) (x69b q1 j hj) hv) (FM_4 hm hp (by rw [x64]) (by rw [x65, upd_at]; exact ev) (by rw [x66, upd_at]; exact ew) (by rw [x67]; exact h67) (by rw [x68]) (by rw [x69]) ⟨by omega, by omega⟩ (by omega)) ?_⟩⟩⟩
    conv => lhs; rw [fP0 (p := 3) hm hp]
    rw [fr_3z hx, r3_b q2]
    have q := fr_4e (ws := ws) (wg := wg) (wl := wl) (n := 80 - TOPn sg) (b := fB (F (TOPn sg))) (fo := fF (F (TOPn sg))) (o := (gm1 69 (TOPn sg)).toInt) (ix := 0) (vs := []) (S := S2)
    exact q
/-- a set is done, or fails -/
theorem OUT_4s {v : Int32} {t : Nat} {V : List Int} (h : IV9 ws wg wl rg R S sg gm F) (hh : 1 ≤ (sg 63).toInt) (hp : (gm 65 (TOPn sg)).toInt = 4) (hx : (gm 66 (TOPn sg)).toNatClampNeg < (wg 41 (3 * (gm 64 (TOPn sg)).toNatClampNeg + 1)).toNatClampNeg) (hs : sl = 5 * TOPn sg + 4) (hV : ∀ n, reW ws wg wl n (ctE wg (wg 57 (128 * (3 * (gm 64 (TOPn sg)).toNatClampNeg + 1) + (gm 66 (TOPn sg)).toNatClampNeg)).toNatClampNeg) (fA (F (TOPn sg))) S = (some V, S)) (hk : KPS gm gm2 sl)
    (hb : (1 ≤ (sg2 51).toInt ∧ ∃ S2, oSe wg wl (gm 69 (TOPn sg)).toInt (wg 57 (128 * (3 * (gm 64 (TOPn sg)).toNatClampNeg + 1) + (gm 66 (TOPn sg)).toNatClampNeg)).toNatClampNeg V S = (none, S2) ∧ RR wg wl S2 sg2 gm2) ∨ ((sg2 51).toInt = 0 ∧ ∃ S2, oSe wg wl (gm 69 (TOPn sg)).toInt (wg 57 (128 * (3 * (gm 64 (TOPn sg)).toNatClampNeg + 1) + (gm 66 (TOPn sg)).toNatClampNeg)).toNatClampNeg V S = (some 0, S2) ∧ RR wg wl S2 sg2 gm2)) (ht : t = TOPn sg)
    (x63 : sg2 63 = sg 63) (x64 : gm2 64 = gm 64) (x65 : gm2 65 = gm 65) (x66 : gm2 66 = upd (gm 66) t v) (ev : v.toInt = (gm 66 t).toInt + 1) (x67 : ∀ j, j < TOPn sg → gm2 67 j = gm 67 j) (x67t : (gm2 67 (TOPn sg)).toInt = 0) (x68 : gm2 68 = gm 68) (x69 : gm2 69 = gm 69) : OUT9 ws wg wl rg R sg2 gm2 := by
  subst ht
  have hm := IV_m h hh
  have c6 := cln9 (u := gm 66 (TOPn sg)) (by have := hm.2.2.1; omega)
  have hi : (gm 66 (TOPn sg)).toNatClampNeg = fI (F (TOPn sg)) := by have := hm.2.2.1; omega
  have ho : (gm 69 (TOPn sg)).toInt = fO (F (TOPn sg)) := (hm.2.2.2.2.2.2.2.2.2.2.1 (by have := hm.2.1; omega)).1
  rw [hm.1, hi] at hx hV
  rw [hm.1, hi, ho] at hb
  have ef := fP0 (p := 4) hm hp
  rcases hb with ⟨q1, S2, q2, q3⟩ | ⟨q1, S2, q2, q3⟩
  · refine OUT_x h (fun n => ?_) q3 ?_ q1
    · rw [ef, fr_4 hx, hV]; show bd9 (oSe _ _ _ _ _ _) _ = _; rw [q2]; rfl
    · unfold oSe at q2
      simp only [] at q2
      by_cases h1 : sgF wg (wg 22 (wg 57 (128 * (3 * fB (F (TOPn sg)) + 1) + fI (F (TOPn sg)))).toNatClampNeg).toNatClampNeg 8 (((zO S)[(fO (F (TOPn sg))).toNat]?).getD (0, 0)).1 = -1
      · rw [if_pos h1] at q2; have e : S = S2 := congrArg Prod.snd q2; rw [← e]; exact h.1
      · rw [if_neg h1] at q2
        by_cases h2 : wCo wg wl (zO S) (ctE wg (wg 57 (128 * (3 * fB (F (TOPn sg)) + 1) + fI (F (TOPn sg)))).toNatClampNeg) V (sgF wg (wg 22 (wg 57 (128 * (3 * fB (F (TOPn sg)) + 1) + fI (F (TOPn sg)))).toNatClampNeg).toNatClampNeg 8 (((zO S)[(fO (F (TOPn sg))).toNat]?).getD (0, 0)).1) = -1
        · rw [if_pos h2] at q2; have e : S = S2 := congrArg Prod.snd q2; rw [← e]; exact h.1
        · rw [if_neg h2] at q2; exact absurd q2 (by simp)
  · obtain ⟨w1, w2, w3⟩ := oSe_e q2
    refine ⟨S2, q3, WF_e h.1 w1 w2 w3, Or.inr ⟨q1, Or.inr ⟨by rw [x63]; exact hh, _, IV_top h hh x63 (WF_e h.1 w1 w2 w3) (by rw [w1]; exact Nat.le_refl _) (fun j hj => KF_s (t := TOPn sg) (by rw [x64]) (by rw [x65]) (by rw [x66, upd_ne (by omega)]) (x67 j hj) (by rw [x68]) (by rw [x69]) hk hs (Nat.le_refl _) (by omega)) (FM_4s hm hp (by rw [x64]) (by rw [x65]) (by rw [x66, upd_at, ev]) x67t (by rw [x68]) (by rw [x69]) (by rw [w1]; exact Nat.le_refl _)) ?_⟩⟩⟩
    conv => lhs; rw [ef]
    rw [fr_4 hx, hV]
    show bd9 (oSe _ _ _ _ _ _) _ = _
    rw [q2]
    exact fr_4e
end SU9
end
section
section PO9
variable {ws : Nat → Int32} {wg rg gm gm1 gm2 : Nat → Nat → Int32} {wl : Nat → Nat → Int64} {rs sg sg1 sg2 : Nat → Int32} {lg : Nat → Nat → Int64} {S S2 : S9} {b j sl : Nat} {R : Option Int × S9} {F : Nat → Fr9} {f : Fr9} {ob ob2 : List Ob9} {got : Int32}
theorem LI_b {x : Int32} {a : Nat} (hH : HLB ws wg wl rs rg lg a) (hv : iv 0 79 x) (hx : x.toNatClampNeg = a) (hRW : rt9 gm = rg) (hRS : rs9 sg = rs) : liR sg gm x ↔ (wg 25 (ctE wg a)).toInt = 6 := by
  have e : nI a = x := by rw [← hx]; exact nI_c hv
  have d := DK_r (lg := lg) hRW hRS
  have q := hH.2.2.2.1
  rw [e, mInn_k d.1, rw9 hRW 29 rfl, rw9 hRW 26 rfl, ← hx] at q
  rw [show liR sg gm x ↔ rg 26 (inR rs rg lg x.toNatClampNeg).toNatClampNeg = 6 from q]
  rw [hx]
  constructor
  · exact fun p => (hH.2.2.2.2.1 p).1
  · intro p
    exact Decidable.byContradiction (fun p2 => WKB_6 (hH.2.2.2.2.2 p2) p)
theorem DL_it {it : Int32} (h3 : 3 ≤ fP f) (h : FM9 wg wl rg gm ob j f) (hw : WT9 wg wl f) (hl : liR sg gm (elR sg gm lg j) ↔ (wg 25 (ctE wg (fE wg f))).toInt = 6) (hd : (liR sg gm (elR sg gm lg j) ∧ it = gm 67 j) ∨ (¬ liR sg gm (elR sg gm lg j) ∧ it.toInt = -1)) : it.toInt ≤ 5 ∧ (((wg 25 (ctE wg (fE wg f))).toInt = 6 ∧ it.toInt = ((fA f).length : Int) ∧ (fA f).length < (itC wg (ctE wg (fE wg f))).length) ∨ (¬ (wg 25 (ctE wg (fE wg f))).toInt = 6 ∧ it.toInt = -1 ∧ kd8 wg (ctE wg (fE wg f)) ∧ fA f = [])) := by
  have hA : AW9 wg (ctE wg (fE wg f)) (fA f) := by
    rcases hw with q | q | q
    · omega
    · omega
    · exact q.2.2
  have h67 := (h.2.2.2.2.2.2.2.2.1 h3).1
  have h6 := itL_le (wg := wg) 6 (wg 16 (ctE wg (fE wg f))).toInt
  rcases hd with ⟨q1, q2⟩ | ⟨q1, q2⟩
  · rcases hA with p | p
    · unfold itC at *
      exact ⟨by rw [q2]; omega, Or.inl ⟨p.1, by rw [q2]; exact h67, p.2⟩⟩
    · exact absurd (hl.mp q1) p.1
  · rcases hA with p | p
    · exact absurd (hl.mpr p.1) q1
    · exact ⟨by omega, Or.inr ⟨p.1, q2, p.2.1, p.2.2⟩⟩
theorem slR_e (h : FM9 wg wl rg gm ob j f) (h3 : 3 ≤ fP f) : slR gm j = 5 * j + (if fP f = 3 then fI f else 4) := by
  unfold slR
  have a2 := h.2.1; have a3 := h.2.2.1
  have c6 := cln9 (u := gm 66 j) (by omega)
  by_cases q : fP f = 3
  · rw [if_pos q, if_pos (by omega)]; omega
  · rw [if_neg q, if_neg (by omega)]
theorem sl_4 (h : FM9 wg wl rg gm ob j f) : (if fP f = 3 then fI f else 4) ≤ 4 := by
  by_cases q : fP f = 3
  · rw [if_pos q]; exact (h.2.2.2.2.2.2.2.2.2.1 q).2.1
  · rw [if_neg q]; exact Nat.le_refl _
/-- what was waited for is there -/
theorem FM_dl (h : FM9 wg wl rg gm ob j f) (hw : WT9 wg wl f) (hd : DL9 sg gm lg gm2 j got) (hl : 3 ≤ fP f → (liR sg gm (elR sg gm lg j) ↔ (wg 25 (ctE wg (fE wg f))).toInt = 6)) (e64 : gm2 64 j = gm 64 j) (e65 : gm2 65 j = gm 65 j) (e66 : gm2 66 j = gm 66 j) (e69 : gm2 69 j = gm 69 j) (e67 : 3 ≤ fP f → (gm2 67 j).toInt = (gm 67 j).toInt + 1) (ho : 0 ≤ got.toInt ∧ got.toInt < (ob2.length : Int)) (hO : ob.length ≤ ob2.length) : FM9 wg wl rg gm2 ob2 j (dlF wg f got.toInt) := by
  have h0 := h
  obtain ⟨a1, a2, a3, a4, a5, a6, a7, a8, a9, a10, a11, a12⟩ := h
  have a5' : fF f = -1 ∨ (0 ≤ fF f ∧ fF f < (ob2.length : Int)) := a5.imp id (fun q => ⟨q.1, Int.lt_of_lt_of_le q.2 (Int.ofNat_le.mpr hO)⟩)
  rcases hd with ⟨p, d68, d70, d71, d72, d73⟩ | ⟨p, d68, d70, d71, d72, d73⟩ | ⟨p, d68, it, dk, di⟩
  · have e1 : fP f = 1 := by omega
    unfold dlF; rw [if_pos (by omega)]
    exact ⟨by rw [e64]; exact a1, by rw [e65]; exact a2, by rw [e66]; exact a3, by rw [d68]; exact a4, a5', a6, a7, a8, fun q => by omega, fun q => by omega, fun q => by omega, a12⟩
  · have e1 : fP f = 2 := by omega
    have w7 : ¬ wl 7 (fB f) = 0 := by
      rcases hw with q | q | q
      · omega
      · exact q.2.2
      · omega
    unfold dlF; rw [if_neg (by omega), if_pos e1]
    exact ⟨by rw [e64]; exact a1, by rw [e65]; exact p, by rw [e66]; exact a3, by rw [d68, upd_at]; rfl, Or.inr ho, fun q => absurd q (by show ¬ 2 ≤ 1; omega), fun _ => w7, fun _ q => w7 q.2, fun q => absurd q (by show ¬ 3 ≤ 2; omega), fun q => absurd q (by show ¬ 2 = 3; omega), fun q => absurd q (by show ¬ 2 = 4; omega), by show 2 ≤ 4; omega⟩
  · have e1 : 3 ≤ fP f := by omega
    obtain ⟨i5, hc⟩ := DL_it e1 h0 hw (hl e1) di
    have hks : KPS gm gm2 (slR gm j) := KPS_8 dk i5
    have hsl := slR_e h0 e1
    unfold dlF; rw [if_neg (by omega), if_neg (by omega)]
    refine ⟨by rw [e64]; exact a1, by rw [e65]; exact a2, by rw [e66]; exact a3, by rw [d68]; exact a4, a5', fun q => absurd (show fP f ≤ 1 from q) (by omega), a7, fun _ => a8 (by omega), fun _ => ⟨?_, fun hq => ?_⟩, fun q => ?_, fun q => ?_, a12⟩
    · rw [e67 e1, (a9 e1).1]; show _ = ((fA f ++ [_]).length : Int); rw [List.length_append]; rfl
    · show PT9 wg wl rg gm2 ob2 (ctE wg (fE wg f)) (5 * j + (if fP f = 3 then fI f else 4)) (fA f ++ [dlI wg (ctE wg (fE wg f)) got.toInt])
      rw [← hsl]
      rcases hc with ⟨c1, c2, c3⟩ | ⟨c1, c2, c3, c4⟩
      · have hp := (a9 e1).2 hq
        rw [← hsl] at hp
        rcases hp with ⟨_, _, hp⟩ | ⟨q, _⟩
        · refine Or.inl ⟨c1, by rw [List.length_append]; show (fA f).length + 1 ≤ _; omega, PIT_s hp dk c2 (Or.inr (Or.inr ?_))⟩
          unfold dlI; rw [if_pos c1]
          rcases dk with k | k
          · omega
          · rw [k.2.2.2.1, k.2.2.2.2, upd_at, upd_at]; exact ⟨rfl, rfl⟩
        · exact absurd c1 q
      · refine Or.inr ⟨c1, Or.inr ?_⟩
        rw [c4]; unfold dlI; rw [if_neg c1]
        rcases dk with k | k
        · rw [k.2.1, k.2.2.1, upd_at, upd_at]; exact Or.inr (Or.inr (Or.inr ⟨c3, rfl, rfl, ho⟩))
        · omega
    · have q : fP f = 3 := q
      obtain ⟨b1, b2, b3⟩ := a10 q
      rw [hsl, if_pos q] at hks
      exact ⟨b1, b2, FV_m b3 hO (fun k hk2 => hks.1 _ (by have hk2 : k < fI f := hk2; omega)) (fun k m hk2 hm => hks.2 _ (by have hk2 : k < fI f := hk2; omega))⟩
    · have q : fP f = 4 := q
      exact ⟨by rw [e69]; exact (a11 q).1, (a11 q).2.1, Int.lt_of_lt_of_le (a11 q).2.2 (Int.ofNat_le.mpr hO)⟩
/-- the levels below do not feel it -/
theorem KF_dl {t : Nat} (h : FM9 wg wl rg gm ob t f) (hw : WT9 wg wl f) (hd : DL9 sg gm lg gm2 t got) (hl : 3 ≤ fP f → (liR sg gm (elR sg gm lg t) ↔ (wg 25 (ctE wg (fE wg f))).toInt = 6)) (e64 : gm2 64 = gm 64) (e65 : gm2 65 = gm 65) (e66 : gm2 66 = gm 66) (e69 : gm2 69 = gm 69) (e67 : ∀ j, ¬ j = t → gm2 67 j = gm 67 j) (hj : ¬ j = t) : KF9 gm gm2 j := by
  rcases hd with ⟨p, d68, dv⟩ | ⟨p, d68, dv⟩ | ⟨p, d68, it, dk, di⟩
  · exact KF_k (by rw [e64]) (by rw [e65]) (by rw [e66]) (e67 j hj) (by rw [d68]) (by rw [e69]) dv
  · exact KF_k (by rw [e64]) (by rw [e65]) (by rw [e66]) (e67 j hj) (by rw [d68, upd_ne hj]) (by rw [e69]) dv
  · have e1 : 3 ≤ fP f := by have := h.2.1; omega
    exact KF_s (t := t) (by rw [e64]) (by rw [e65]) (by rw [e66]) (e67 j hj) (by rw [d68]) (by rw [e69]) (KPS_8 dk (DL_it e1 h hw (hl e1) di).1) (slR_e h e1) (sl_4 h) hj
/-- the element in hand, on both sides -/
theorem EL_b (hBR : BRG ws wg wl rs rg lg) (hRW : rt9 gm = rg) (hRS : rs9 sg = rs) (hv : iv 0 79 (gm 64 j)) (hb : (gm 64 j).toInt < (sg 41).toInt) (h : FM9 wg wl rg gm ob j f) (h3 : 3 ≤ fP f) (hx : fI f < (wg 41 (fQ f)).toNatClampNeg) : elR sg gm lg j = wg 57 (128 * fQ f + fI f) ∧ HLB ws wg wl rs rg lg (fE wg f) := by
  have a2 := h.2.1; have a3 := h.2.2.1; have a12 := h.2.2.2.2.2.2.2.2.2.2.2
  have c6 := cln9 (u := gm 66 j) (by omega)
  have hi : (gm 66 j).toNatClampNeg = fI f := by omega
  unfold elR
  by_cases q : fP f = 3
  · have eq : fQ f = 3 * fB f := by unfold fQ; rw [q]; rfl
    rw [if_pos (by omega), hi]
    have qa := (BR_a hBR hRW hRS hv hb).2.2.2 (fI f) (by rw [h.1, ← eq]; exact hx)
    rw [h.1, ← eq] at qa
    exact ⟨qa.1, qa.2.2.1⟩
  · have q4 : fP f = 4 := by omega
    have eq : fQ f = 3 * fB f + 1 := by unfold fQ; rw [q4]
    rw [if_neg (by omega), hi]
    have qa := (BR_e hBR hRW hRS hv hb).2 (fI f) (by rw [h.1, ← eq]; exact hx)
    rw [h.1, ← eq] at qa
    rw [h.1]
    exact ⟨qa.1, qa.2.1⟩
theorem LI_f (hBR : BRG ws wg wl rs rg lg) (hRW : rt9 gm = rg) (hRS : rs9 sg = rs) (hv : iv 0 79 (gm 64 j)) (hb : (gm 64 j).toInt < (sg 41).toInt) (h : FM9 wg wl rg gm ob j f) (hw : WT9 wg wl f) (he : 3 ≤ fP f → iv 0 79 (elR sg gm lg j)) (h3 : 3 ≤ fP f) : liR sg gm (elR sg gm lg j) ↔ (wg 25 (ctE wg (fE wg f))).toInt = 6 := by
  have hx : fI f < (wg 41 (fQ f)).toNatClampNeg := by
    rcases hw with q | q | q
    · omega
    · omega
    · exact q.2.1
  obtain ⟨q1, q2⟩ := EL_b hBR hRW hRS hv hb h h3 hx
  exact LI_b q2 (he h3) (by rw [q1]; rfl) hRW hRS
/-- the one on top is finished -/
theorem OUT_q (h : IV9 ws wg wl rg R S sg gm F) (hh : 1 ≤ (sg 63).toInt) (hp : (gm 65 (TOPn sg)).toInt = 4) (hx : ¬ (gm 66 (TOPn sg)).toNatClampNeg < (wg 41 (3 * (gm 64 (TOPn sg)).toNatClampNeg + 1)).toNatClampNeg) (hBR : BRG ws wg wl rs rg lg) (hRW : rt9 gm = rg) (hRS : rs9 sg = rs) (hpi : PIL sg gm) (hRR : RR wg wl S sg gm) (how : ¬ mMny gm lg (gm 64 (TOPn sg)).toNatClampNeg → 0 ≤ (gm 60 (gm 64 (TOPn sg)).toNatClampNeg).toInt)
    (hel : 1 < (sg 63).toInt → 3 ≤ (gm 65 (TOPn sg - 1)).toInt → iv 0 79 (elR sg gm lg (TOPn sg - 1))) (hF : FIN sg gm (gm 64 (TOPn sg)) sg2 gm2) (hR : RR wg wl (oFi wg wl (gm 64 (TOPn sg)).toNatClampNeg (gm 69 (TOPn sg)).toInt S) sg2 gm2) (hG : sg2 74 = gm 69 (TOPn sg)) (hD : ((sg 63).toInt = 1 ∧ gm2 68 = gm 68 ∧ gm2 70 = gm 70 ∧ gm2 71 = gm 71 ∧ gm2 72 = gm 72 ∧ gm2 73 = gm 73) ∨ (1 < (sg 63).toInt ∧ DL9 sg gm lg gm2 (TOPn sg - 1) (gm 69 (TOPn sg)))) (h5 : (sg2 51).toInt = 0) (e64 : gm2 64 = gm 64) (e65 : gm2 65 = gm 65) (e66 : gm2 66 = gm 66) (e69 : gm2 69 = gm 69) : OUT9 ws wg wl rg R sg2 gm2 := by
  have hm := IV_m h hh
  have e := TOP_e hh
  have c6 := cln9 (u := gm 66 (TOPn sg)) (by have := hm.2.2.1; omega)
  have hi : (gm 66 (TOPn sg)).toNatClampNeg = fI (F (TOPn sg)) := by have := hm.2.2.1; omega
  have hob := hm.2.2.2.2.2.2.2.2.2.2.1 (by have := hm.2.1; omega)
  have hpt := PIL_top hpi hh
  have hlt : (gm 64 (TOPn sg)).toNatClampNeg < (sg 41).toNatClampNeg := by
    have := cln9 hpt.2.1.1
    have := cln9 (u := sg 41) (by have := hpt.2.1.1; have := hpt.2.2; omega)
    have := hpt.2.2; omega
  have hz : zS S (gm 64 (TOPn sg)).toNatClampNeg = 1 := (hRR.2.2.1 _ hlt).1.mpr hpt.1
  have hW : WF9 (oFi wg wl (gm 64 (TOPn sg)).toNatClampNeg (gm 69 (TOPn sg)).toInt S) := WF_fi h.1 hz (fun o9 => by
    have q := ((hRR.2.2.1 _ hlt).2.1 o9).2
    rw [if_neg (by omega)] at q
    have := how (fun q9 => (BR_many hBR hRW hRS hpt.2.1 hpt.2.2).mp q9 o9)
    omega)
  have he : ∀ n, frC ws wg wl n (F (TOPn sg)) S = (some (gm 69 (TOPn sg)).toInt, oFi wg wl (gm 64 (TOPn sg)).toNatClampNeg (gm 69 (TOPn sg)).toInt S) := fun n => by
    rw [hi, hm.1] at hx
    rw [fP0 (p := 4) hm hp, fr_4z hx, hob.1, hm.1]
  refine ⟨_, hR, hW, Or.inr ⟨h5, ?_⟩⟩
  rcases hD with ⟨q1, _⟩ | ⟨q1, q2⟩
  · refine Or.inl ⟨by have := hF.1; omega, ?_⟩
    rw [IV_e h q1 he, hG]
  · refine Or.inr ⟨by have := hF.1; omega, ?_⟩
    have hT : TOPn sg2 = TOPn sg - 1 := by
      have c1 := cln9 (u := sg 63) (by omega)
      have c2 := cln9 (u := sg2 63) (by have := hF.1; omega)
      have := hF.1; unfold TOPn; omega
    have c1 := cln9 (u := sg 63) (by omega)
    have hj : TOPn sg - 1 < (sg 63).toNatClampNeg := by omega
    have hm1 := h.2.2.1 _ hj
    have hw1 := h.2.2.2 (TOPn sg - 1) (by omega)
    have hpj := hpi _ hj
    have hl := LI_f hBR hRW hRS hpj.2.1 hpj.2.2.1 hm1 hw1 (fun q => hel q1 (by have := hm1.2.1; omega))
    have h67 : (∀ j, ¬ j = TOPn sg - 1 → gm2 67 j = gm 67 j) ∧ (3 ≤ fP (F (TOPn sg - 1)) → (gm2 67 (TOPn sg - 1)).toInt = (gm 67 (TOPn sg - 1)).toInt + 1) := by
      rcases hF.2.2 with ⟨q, _⟩ | q
      · omega
      · unfold DLV at q; rw [hT] at q
        rcases q with ⟨p1, p2⟩ | ⟨p1, v, p2, p3⟩
        · exact ⟨fun j _ => by rw [p2], fun p => by have := hm1.2.1; omega⟩
        · exact ⟨fun j hj => by rw [p2, upd_ne hj], fun _ => by rw [p2, upd_at]; exact p3⟩
    exact IV_pop h q1 hF.1 hW (by rw [oFi_O]; exact Nat.le_refl _) (fun j hj => KF_dl hm1 hw1 q2 hl e64 e65 e66 e69 h67.1 (by omega)) (FM_dl hm1 hw1 q2 hl (by rw [e64]) (by rw [e65]) (by rw [e66]) (by rw [e69]) h67.2 (by rw [oFi_O, hob.1]; exact hob.2) (by rw [oFi_O]; exact Nat.le_refl _)) he
end PO9
end
section
section SV9
variable {ws : Nat → Int32} {wg rg gm gm1 gm2 : Nat → Nat → Int32} {wl : Nat → Nat → Int64} {rs sg sg1 sg2 : Nat → Int32} {lg : Nat → Nat → Int64} {S S2 : S9} {j sl a : Nat} {R : Option Int × S9} {F : Nat → Fr9} {b got : Int32} {ob : List Ob9} {f : Fr9}
theorem BR_6 (h : BRG ws wg wl rs rg lg) (hRW : rt9 gm = rg) (hRS : rs9 sg = rs) (hv : iv 0 79 b) (hb : b.toInt < (sg 41).toInt) : (mHas gm lg (gm 42 b.toNatClampNeg).toNatClampNeg 28259031083541619 = 0 ↔ wl 6 b.toNatClampNeg = 0) ∧ (¬ wl 6 b.toNatClampNeg = 0 → (cdR sg gm lg (mWord gm lg (gm 42 b.toNatClampNeg).toNatClampNeg 28259031083541619)).toInt = caN ws wg wl (wl 6 b.toNatClampNeg)) := by
  have q := BR_s h hRS hv hb
  have d := DK_r (lg := lg) hRW hRS
  have q1 := q.2.2.2.1
  have q2 := q.2.2.2.2.1
  rw [mHas_k d.1, rw9 hRW 42 rfl] at q1
  rw [mWord_k d.1, rw9 hRW 42 rfl] at q2
  unfold cdR at *
  rw [cdF_k d] at q2
  exact ⟨q1, q2⟩
theorem BR_7 (h : BRG ws wg wl rs rg lg) (hRW : rt9 gm = rg) (hRS : rs9 sg = rs) (hv : iv 0 79 b) (hb : b.toInt < (sg 41).toInt) : ((mTel sg gm lg b 427020088179 = -1 ∧ mTel sg gm lg b 28817527407604345 = -1) ↔ ((wg 30 b.toNatClampNeg).toInt = -1 ∧ wl 7 b.toNatClampNeg = 0))
    ∧ ((¬ mTel sg gm lg b 28817527407604345 = -1 ∧ ¬ mTel sg gm lg b 120282512125796 = -1) ↔ ¬ wl 7 b.toNatClampNeg = 0) ∧ (¬ wl 7 b.toNatClampNeg = 0 → (cdR sg gm lg (mWord gm lg (mTel sg gm lg b 28817527407604345).toNatClampNeg 28817527407604345)).toInt = caN ws wg wl (wl 7 b.toNatClampNeg)) := by
  have q := BR_s h hRS hv hb
  have d := DK_r (lg := lg) hRW hRS
  have q1 := q.2.2.2.2.2.1
  have q2 := q.2.2.2.2.2.2.1
  have q3 := q.2.2.2.2.2.2.2.1
  rw [nI_c hv, mTel_k d, mTel_k d] at q1
  rw [nI_c hv, mTel_k d, mTel_k d] at q2
  rw [nI_c hv, mTel_k d, mWord_k d.1] at q3
  unfold cdR at *
  rw [cdF_k d] at q3
  exact ⟨q1, q2, q3⟩
theorem DL_1 {tp : Nat} (h : DL9 sg gm lg gm2 tp got) (hp : (gm 65 tp).toInt = 1) : gm2 68 = gm 68 ∧ SV4 gm gm2 := by
  rcases h with q | q | q
  · exact ⟨q.2.1, q.2.2⟩
  · omega
  · omega
theorem DL_2 {tp : Nat} (h : DL9 sg gm lg gm2 tp got) (hp : (gm 65 tp).toInt = 2) : gm2 68 = upd (gm 68) tp got ∧ SV4 gm gm2 := by
  rcases h with q | q | q
  · omega
  · exact ⟨q.2.1, q.2.2⟩
  · omega
theorem KS_eq (h : KS [66, 67] gm gm2) (h6 : gm2 66 = gm 66) (h7 : gm2 67 = gm 67) : gm2 = gm := by
  funext k
  by_cases q : k = 66
  · rw [q]; exact h6
  · by_cases q2 : k = 67
    · rw [q2]; exact h7
    · refine h k ?_
      show ([66, 67] : List Nat).contains k = false
      rw [List.contains_cons, List.contains_cons]
      simp [q, q2]
theorem OUT_k (h : OUT9 ws wg wl rg R sg gm) (hk : KS [66, 67] gm gm2) (h6 : gm2 66 = gm 66) (h7 : gm2 67 = gm 67) : OUT9 ws wg wl rg R sg gm2 := by rw [KS_eq hk h6 h7]; exact h
/-- the element in hand is one -/
theorem EL_v (hI : MI sg gm) (hd : DOC sg gm lg) (hj : j < 81) (hv : iv 0 79 (gm 64 j)) (hb : (gm 64 j).toInt < (sg 41).toInt) (h : FR sg gm lg j 1) (h3 : 3 ≤ (gm 65 j).toInt) : iv 0 79 (elR sg gm lg j) := by
  have w4 := show iv 0 4 (gm 65 j) from hI.2 65 _ hj
  have w26 := show iv 0 26 (gm 66 j) from hI.2 66 _ hj
  have w6 := show iv 0 6 (gm 67 j) from hI.2 67 _ hj
  have n24 : iv 0 80 (sg 24) := MI_s hI 24
  unfold elR
  by_cases q : (gm 65 j).toInt = 3
  · rw [if_pos q]
    exact (FR_3 n24 hd.1.2.1 h q w6.1 rfl).1.1
  · rw [if_neg q]
    have q4 : (gm 65 j).toInt = 4 := by have := w4.2; omega
    have f4 := FR_4 h q4 w6.1
    have k1 := cl_0 (x := sg 41) (by have := hv.1; omega)
    have k2 := iv_cl hv (by decide)
    have k3 := cl_0 (x := gm 66 j) w26.1
    have k4 := cl_0 (x := gm 44 (gm 64 j).toNatClampNeg) (by have := w26.1; omega)
    exact (hd.2 _ (by omega) _ (by omega)).1
theorem HP_3 (h : IV9 ws wg wl rg R S sg gm F) (hh : 1 ≤ (sg 63).toInt) (hp : (gm 65 (TOPn sg)).toInt = 3) (hx : (gm 66 (TOPn sg)).toNatClampNeg < (wg 41 (3 * (gm 64 (TOPn sg)).toNatClampNeg)).toNatClampNeg) (ha : a = (wg 57 (128 * (3 * (gm 64 (TOPn sg)).toNatClampNeg) + (gm 66 (TOPn sg)).toNatClampNeg)).toNatClampNeg) (hs : sl = 5 * TOPn sg + (gm 66 (TOPn sg)).toNatClampNeg) : PT9 wg wl rg gm (zO S) (ctE wg a) sl (fA (F (TOPn sg))) ∧ (gm 67 (TOPn sg)).toInt = ((fA (F (TOPn sg))).length : Int) := by
  have hm := IV_m h hh
  have e3 : fP (F (TOPn sg)) = 3 := by have := hm.2.1; omega
  have c6 := cln9 (u := gm 66 (TOPn sg)) (by have := hm.2.2.1; omega)
  have hi : (gm 66 (TOPn sg)).toNatClampNeg = fI (F (TOPn sg)) := by have := hm.2.2.1; omega
  have q := hm.2.2.2.2.2.2.2.2.1 (by omega)
  refine ⟨?_, q.1⟩
  rw [hm.1, hi] at hx ha
  rw [hi] at hs
  have q2 := q.2 (by unfold fQ; rw [e3]; exact hx)
  unfold fE fQ at q2
  rw [e3, if_pos rfl] at q2
  rw [ha, hs]; exact q2
theorem HP_4 (h : IV9 ws wg wl rg R S sg gm F) (hh : 1 ≤ (sg 63).toInt) (hp : (gm 65 (TOPn sg)).toInt = 4) (hx : (gm 66 (TOPn sg)).toNatClampNeg < (wg 41 (3 * (gm 64 (TOPn sg)).toNatClampNeg + 1)).toNatClampNeg) (ha : a = (wg 57 (128 * (3 * (gm 64 (TOPn sg)).toNatClampNeg + 1) + (gm 66 (TOPn sg)).toNatClampNeg)).toNatClampNeg) (hs : sl = 5 * TOPn sg + 4) : PT9 wg wl rg gm (zO S) (ctE wg a) sl (fA (F (TOPn sg))) ∧ (gm 67 (TOPn sg)).toInt = ((fA (F (TOPn sg))).length : Int) := by
  have hm := IV_m h hh
  have e3 : fP (F (TOPn sg)) = 4 := by have := hm.2.1; omega
  have c6 := cln9 (u := gm 66 (TOPn sg)) (by have := hm.2.2.1; omega)
  have hi : (gm 66 (TOPn sg)).toNatClampNeg = fI (F (TOPn sg)) := by have := hm.2.2.1; omega
  have q := hm.2.2.2.2.2.2.2.2.1 (by omega)
  refine ⟨?_, q.1⟩
  rw [hm.1, hi] at hx ha
  have q2 := q.2 (by unfold fQ; rw [e3]; exact hx)
  unfold fE fQ at q2
  rw [e3, if_neg (by decide)] at q2
  rw [ha, hs]; exact q2
/-- a bean's class is there if it has no method -/
def SB9 (ws : Nat → Int32) (wg : Nat → Nat → Int32) (wl : Nat → Nat → Int64) : Prop := ∀ b, b < (ws 12).toNatClampNeg → -1 ≤ (wg 30 b).toInt ∧ (¬ wl 7 b = 0 → ¬ (wg 31 b).toInt = -1)
theorem HM_3 (h : IV9 ws wg wl rg R S sg gm F) (hh : 1 ≤ (sg 63).toInt) (hp : (gm 65 (TOPn sg)).toInt = 3) (hx : ¬ (gm 66 (TOPn sg)).toNatClampNeg < (wg 41 (3 * (gm 64 (TOPn sg)).toNatClampNeg)).toNatClampNeg) (hb : b = gm 64 (TOPn sg)) (hS : SB9 ws wg wl) (hlt : b.toNatClampNeg < (ws 12).toNatClampNeg) : FV9 wg wl rg gm (zO S) b.toNatClampNeg (TOPn sg) (wg 41 (3 * b.toNatClampNeg)).toNatClampNeg (fV (F (TOPn sg))) ∧ (gm 68 (TOPn sg)).toInt = fF (F (TOPn sg)) ∧ ((wg 31 b.toNatClampNeg).toInt = -1 → 0 ≤ clsF wg b.toNatClampNeg (fF (F (TOPn sg))) (zO S)) ∧ (fF (F (TOPn sg)) = -1 ∨ (0 ≤ fF (F (TOPn sg)) ∧ fF (F (TOPn sg)) < ((zO S).length : Int))) := by
  subst hb
  have hm := IV_m h hh
  have e3 : fP (F (TOPn sg)) = 3 := by have := hm.2.1; omega
  have c6 := cln9 (u := gm 66 (TOPn sg)) (by have := hm.2.2.1; omega)
  have hi : (gm 66 (TOPn sg)).toNatClampNeg = fI (F (TOPn sg)) := by have := hm.2.2.1; omega
  rw [hi] at hx
  have q := hm.2.2.2.2.2.2.2.2.2.1 e3
  refine ⟨fun i hi2 => ?_, hm.2.2.2.1, fun h31 => ?_, hm.2.2.2.2.1⟩
  · have q2 := q.2.2 i (by omega)
    rw [← hm.1] at q2; exact q2
  · have s := hS _ hlt
    have w7 : wl 7 (gm 64 (TOPn sg)).toNatClampNeg = 0 := Decidable.byContradiction (fun p => s.2 p h31)
    have f1 : fF (F (TOPn sg)) = -1 := Decidable.byContradiction (fun p => hm.2.2.2.2.2.2.1 p (by rw [← hm.1]; exact w7))
    have c := hm.2.2.2.2.2.2.2.1 (by omega)
    rw [← hm.1] at c
    unfold clsF; rw [if_pos f1]
    have : ¬ (wg 30 (gm 64 (TOPn sg)).toNatClampNeg).toInt = -1 := fun p => c ⟨p, w7⟩
    omega
theorem RR_z1 (hR : RR wg wl S sg gm) (hp : PIL sg gm) (hh : 1 ≤ (sg 63).toInt) (hb : b = gm 64 (TOPn sg)) : zS S b.toNatClampNeg = 1 := by
  subst hb
  have hpt := PIL_top hp hh
  have := cln9 hpt.2.1.1
  have := cln9 (u := sg 41) (by have := hpt.2.1.1; have := hpt.2.2; omega)
  exact (hR.2.2.1 _ (by have := hpt.2.2; omega)).1.mpr hpt.1
theorem WO_1v {r : Int32} {c : Nat} {acc : List Int} (h : WO9 ws wg wl rg c sl acc S sg gm sg2 gm2 r) (hr : ¬ r.toInt = 0) : (sg2 51).toInt = 0 ∧ RR wg wl S sg2 gm2 ∧ KPS gm gm2 sl ∧ ∃ V, (∀ n, reW ws wg wl n c acc S = (some V, S)) ∧ VR9 wg wl rg (zO S) c V (gm2 70 sl) (gm2 71 sl) ∧ ITS9 wg rg gm2 c sl V := by
  rcases h with q | q | q
  · exact q.2
  · exact absurd q.1 hr
  · exact absurd q.1 hr
end SV9
end
section
set_option maxHeartbeats 4000000 in
set_option maxRecDepth 100000 in
theorem f_step9 (l : Launch) (dC : Nat → ClassId) (dI : Nat → Nat → Nat) (h0 : Nat) (ad : Nat → Nat) (cid : Nat → ClassId) (sg : Nat → Int32) (gm : Nat → Nat → Int32) (lg : Nat → Nat → Int64) (ws : Nat → Int32) (wg : Nat → Nat → Int32) (wl : Nat → Nat → Int64) (rs : Nat → Int32) (rg : Nat → Nat → Int32) (S : S9) (R9 : Option Int × S9) (F9 : Nat → Fr9) (hI : MI sg gm) (hdoc : DOC sg gm lg) (hgi : GI0 sg gm lg) (hPR : PR gm) (hmo : MO sg gm) (hh1 : 1 ≤ (sg 63).toInt) (hinv : INVp sg gm lg) (hf0 : (sg 51).toInt = 0) (hRW : rt9 gm = rg) (hRS : rs9 sg = rs) (hBR : BRG ws wg wl rs rg lg) (hCL : CLS9 wg rg) (hRR : RR wg wl S sg gm) (hWD : WD9 lg) (hST : STY9 wg) (hST2 : ∀ c n, c < 8 → n < 26 → (wg 55 (26 * c + n)).toInt = -1 ∨ ty9 (wg 55 (26 * c + n)).toInt) (hSB : SB9 ws wg wl) (hIV : IV9 ws wg wl rg R9 S sg gm F9) : MMv l dC dI yX13_step wm_X13_step ({ frames := 10, cells := 0, slots := 0, locals := 254 }) h0 ad cid [] sg gm lg (fun v => ∃ (sg2 : Nat → Int32) (gm2 : Nat → Nat → Int32) (lg2 : Nat → Nat → Int64), v = (sg2, gm2, lg2) ∧ MI sg2 gm2 ∧ KS [48, 49, 50, 51, 52, 63, 74] sg sg2 ∧ KS [53, 54, 55, 56, 57, 58, 59, 60, 61, 62, 64, 65, 66, 67, 68, 69, 70, 71, 72, 73, 75] gm gm2 ∧ KS [] lg lg2 ∧ (GI0 sg2 gm2 lg2) ∧ (MO sg2 gm2) ∧ (1 ≤ (sg2 51).toInt ∨ STEP sg gm sg2 gm2 lg2) ∧ (OUT9 ws wg wl rg R9 sg2 gm2)) := by
  intro sz
  refine Met.ofW (cc := cX13_step) (maxL := 4) (ret := none) (by decide) rfl ?_
  intro p e s m args below meth c s₁ B hml hv
  obtain ⟨rfl, hsz, hP, hK, hD0⟩ := hv
  have hx := B.exec
  have hb := B.bytes
  have hr := B.returns
  have hts := atoms_spec (ws := wm_X13_step) B.pre
  have htb := fun (w : Cond) (h : w ∈ tb) => hts w (List.mem_cons_of_mem _ h)
  have hown : s.vm.findClass RX13 = some m.cls := findClass_of_methodNamed B.named
  have hlocks := B.notSynchronized
  subst hsz
  have hD := hD0.self (sz := s.heap.size)
  generalize hAe : va_A (mW h0 ad cid sg gm lg) s.heap.size = A at hD ⊢
  have hA : ∀ q : Nat, s.heap.size ≤ q → A q := fun q h => by rw [← hAe]; exact Or.inr h
  have hS : va_S A s.heap s.heap [] := va_S.rf
  have hl := lv_entry ([.ref h0]) (n := 4) (Nat.le_of_ble_eq_true rfl)
  rw [lg_entry_eq]
  generalize (lg_sl ([.ref h0]) ++ List.replicate (4 - (lg_sl ([.ref h0])).length) Slot.unset).toArray = ls at hl ⊢
  have hl : lv_has ls 4 [(0, .ref h0)] := hl
  have h63 : iv 1 80 (sg 63) := ⟨hh1, (show iv 0 80 (sg 63) from MI_s hI 63).2⟩
  have hpi := hinv.1.1
  have hpt := PIL_top hpi hh1
  have hfr0 := hinv.1.2.2.resolve_left (by omega)
  have tl := tlt81 hI
  refine lv_aload_n hx hb dX13_step_0 rfl (lv_at hl 0 rfl) ?_
  refine mr_get (v := .int (sg 63)) hx hb htb inX13 hown hK hP 63 (by decide) (htb _ kw_1090) rfl dX13_step_1 ?_
  refine lv_iconst (v := 1) hx hb dX13_step_4 (by decide) ?_
  refine lv_isub hx hb dX13_step_5 ?_
  refine lv_topi (fun z_1 ez_1 => ?_)
  have hz_1 : iv 0 79 z_1 := iv_of ez_1 (iv_sub h63 (iv_k (by decide) : iv 1 1 1) (by decide))
  have tz_1 : z_1.toInt = ((sg 63) : Int32).toInt - 1 := by rw [ez_1]; exact iv_subE h63 (iv_k (by decide) : iv 1 1 1) (by decide)
  refine lv_istore_n (lv' := [(1, .int z_1), (0, .ref h0)]) hx hb dX13_step_6 rfl hl (by decide) rfl (fun ls hl => ?_)
  have htop := top_n h63 tz_1
  refine lv_aload_n hx hb dX13_step_7 rfl (lv_at hl 1 rfl) ?_
  refine mr_get (v := .ref (ad 64)) hx hb htb inX13 hown hK hP 64 (by decide) (htb _ kw_1091) rfl dX13_step_8 ?_
  refine lv_iload_n hx hb dX13_step_11 rfl (lv_at hl 0 rfl) ?_
  refine mr_iald hx hb hK hP 49 (k := 64) rfl rfl rfl (show vp_in z_1 81 from (iv_in hz_1 (by decide))) dX13_step_12 ?_
  refine lv_topi (fun z_2 ez_2 => ?_)
  have hz_2 : iv 0 79 z_2 := iv_of ez_2 (MI_a hI 64 hz_1 (by decide))
  refine lv_istore_n (lv' := [(2, .int z_2), (1, .int z_1), (0, .ref h0)]) hx hb dX13_step_13 rfl hl (by decide) rfl (fun ls hl => ?_)
  have heb : z_2 = gm 64 (TOPn sg) := (show z_2 = gm 64 (TOPn sg) from (by have q9 := ez_2; rw [htop] at q9; exact q9))
  have hbl9 : (z_2).toInt < (sg 41).toInt := by rw [heb]; exact hpt.2.2
  refine lv_aload_n hx hb dX13_step_14 rfl (lv_at hl 2 rfl) ?_
  refine mr_get (v := .ref (ad 65)) hx hb htb inX13 hown hK hP 65 (by decide) (htb _ kw_1092) rfl dX13_step_15 ?_
  refine lv_iload_n hx hb dX13_step_18 rfl (lv_at hl 1 rfl) ?_
  refine mr_iald hx hb hK hP 50 (k := 65) rfl rfl rfl (show vp_in z_1 81 from (iv_in hz_1 (by decide))) dX13_step_19 ?_
  refine lv_topi (fun z_3 ez_3 => ?_)
  have hz_3 : iv 0 4 z_3 := iv_of ez_3 (MI_a hI 65 hz_1 (by decide))
  by_cases c_4 : (z_3 : Int32).toInt = 0
  · refine lv_tableIn (tgt := 52) hx hb dX13_step_20 (by rw [c_4]; decide) (by rw [c_4]; decide) (by rw [c_4]; rfl) (by decide) ?_
    have h_5 : iv 0 0 z_3 := iv_at c_4
    have hph9 : (gm 65 (TOPn sg)).toInt = 0 := by rw [← (show z_3 = gm 65 (TOPn sg) from (by have q9 := ez_3; rw [htop] at q9; exact q9))]; exact c_4
    refine lv_aload_n hx hb dX13_step_52 rfl (lv_at hl 2 rfl) ?_
    refine mr_get (v := .ref (ad 65)) hx hb htb inX13 hown hK hP 65 (by decide) (htb _ kw_1092) rfl dX13_step_53 ?_
    refine lv_iload_n hx hb dX13_step_56 rfl (lv_at hl 1 rfl) ?_
    refine lv_iconst (v := 1) hx hb dX13_step_57 (by decide) ?_
    refine ma_iast (x := 1) hx hb hK hP hD hS 50 (k := 65) rfl rfl rfl (show vp_in z_1 81 from (iv_in hz_1 (by decide))) dX13_step_58 (fun gm_6 H locs egm_6 hP hD hS => ?_)
    have hI_gm_6 := MI_st hI egm_6 (iv_k (by decide) : iv 1 1 1) (by decide)
    refine lv_aload_n hx hb dX13_step_59 rfl (lv_at hl 2 rfl) ?_
    refine lv_aload_n hx hb dX13_step_60 rfl (lv_at hl 2 rfl) ?_
    refine mr_get (v := .ref (ad 42)) hx hb htb inX13 hown hK hP 42 (by decide) (htb _ kw_1069) rfl dX13_step_61 ?_
    refine lv_iload_n hx hb dX13_step_64 rfl (lv_at hl 0 rfl) ?_
    refine mr_iald hx hb hK hP 33 (k := 42) rfl rfl rfl (show vp_in z_2 80 from (iv_in hz_2 (by decide))) dX13_step_65 ?_
    refine lv_topi (fun z_7 ez_7 => ?_)
    have hz_7 : iv 0 79 z_7 := iv_of ez_7 (MI_a hI_gm_6 42 hz_2 (by decide))
    have ez_7 := ez_7.trans (congrFun (up_ne egm_6 (by decide)) _)
    refine lv_ldc2 (own := RX13) (v := 28259031083541619) hx hb hown (htb _ kw_1190) dX13_step_66 ?_
    refine mr_calli (rest := []) ⟨hx, hb, hml, hown, htb⟩ (f_has l dC dI h0 ad cid sg gm_6 lg z_7 28259031083541619 hI_gm_6 hz_7) (cwV 2 htb (gd_V kw_1197 kw_1198 kw_94 kw_160 kw_1601) rfl rfl rfl (by decide +kernel) ⟨Nat.le_of_ble_eq_true rfl, Nat.le_of_ble_eq_true rfl⟩) rfl hl.1 rfl (Nat.le_of_ble_eq_true rfl) dX13_step_69 ⟨Nat.zero_le _, Nat.zero_le _⟩ hK hP hD hS hA (fun r_8 u_9 H locs hw hP hD hS => ?_)
    obtain ⟨hr_8, fH_r_8, rfl⟩ := hw
    have hP : va_P (dC, dI) vwCl (mW h0 ad cid sg gm_6 lg) H := hP
    have hD : va_D A (mW h0 ad cid sg gm_6 lg) := hD
    refine lv_if_eq (tgt := 349) hx hb dX13_step_72 (by decide) (fun c_10 => ?_) (fun c_10 => ?_)
    · have h_11 : iv 0 0 r_8 := iv_eq c_10 hr_8 (iv_k (by decide) : iv 0 0 0) (by decide)
      exact W.vret hx hb hr (fun t ht hW => ⟨⟨(sg, gm_6, lg), rfl, ⟨sg, gm_6, lg, rfl, hI_gm_6, KS_rf, (KS_up KS_rf egm_6 (by decide)), KS_rf, (GI0_of hgi (show KS [] sg sg from KS_rf) (show KS [65] gm gm_6 from (KS_up KS_rf egm_6 (by decide))) (show KS [] lg lg from KS_rf) (by decide) (by decide) (by decide) (by decide) (by decide) (by decide)), (MO_of hmo (show KS [] sg sg from KS_rf) (show KS [65] gm gm_6 from (KS_up KS_rf egm_6 (by decide))) (by decide) (by decide)), (Or.inr (ST_ph hI hdoc hinv hh1 (DK_of (show KS [] sg sg from KS_rf) (show KS [65] gm gm_6 from (KS_up KS_rf egm_6 (by decide))) (show KS [] lg lg from KS_rf) (by decide) (by decide) (by decide)) (up_ne egm_6 (by decide)) (up_ne egm_6 (by decide)) rfl (up_ne egm_6 (by decide)) rfl (up_ne egm_6 (by decide)) (up_ne egm_6 (by decide)) (show gm_6 65 = upd (gm 65) (z_1 : Int32).toNatClampNeg 1 from ((up_at egm_6).trans (by rw [show gm 65 = gm 65 from rfl]))) htop (up_ne egm_6 (by decide)) (up_ne egm_6 (by decide)) (up_ne egm_6 (by decide)) (by omega) (by rw [hph9]; rfl))), ((OUT_01 hIV hh1 hph9 (fun n9 => oDe_0 ((BR_6 hBR hRW hRS hpt.2.1 hpt.2.2).1.mp (by rw [← (show r_8 = mHas gm lg (gm 42 (gm 64 (TOPn sg)).toNatClampNeg).toNatClampNeg 28259031083541619 from (by have q9 := fH_r_8; rw [(show z_7 = gm 42 (gm 64 (TOPn sg)).toNatClampNeg from (by rw [ez_7, heb])), mHas_k (DK_of (show KS [] sg sg from KS_rf) (show KS [65] gm gm_6 from (KS_up KS_rf egm_6 (by decide))) (show KS [] lg lg from KS_rf) (by decide) (by decide) (by decide)).1] at q9; exact q9))]; exact c_10))) (RR_ks (L := []) (M := [65]) hRR KS_rf (KS_up KS_rf egm_6 (by decide)) (by decide) (by decide)) (by have := hf0; have := i32_0; have := i32_1; have := i32_2; have := i32_m1; have := (show iv 0 8 (sg 51) from MI_s hI 51).1; have := (show iv 0 8 (sg 51) from MI_s hI 51).2; have := (h63).1; have := (h63).2; have := (hz_1).1; have := (hz_1).2; have := (hz_2).1; have := (hz_2).2; have := (h_5).1; have := (h_5).2; have := (hz_7).1; have := (hz_7).2; have := (h_11).1; have := (h_11).2; omega) rfl htop (show gm_6 65 = upd (gm 65) (z_1 : Int32).toNatClampNeg 1 from ((up_at egm_6).trans (by rw [show gm 65 = gm 65 from rfl]))) rfl (up_ne egm_6 (by decide)) (up_ne egm_6 (by decide)) (up_ne egm_6 (by decide)) (up_ne egm_6 (by decide)) (up_ne egm_6 (by decide)) ⟨(up_ne egm_6 (by decide)), (up_ne egm_6 (by decide)), (up_ne egm_6 (by decide)), (up_ne egm_6 (by decide))⟩))⟩, by rw [ht]; exact hP, va_K.moved hW.alike hK, hD⟩, hS.F ht⟩) hS.2.2 dX13_step_349
    · have h_12 : iv 1 1 r_8 := iv_neL c_10 hr_8 (by decide)
      refine lv_aload_n hx hb dX13_step_75 rfl (lv_at hl 2 rfl) ?_
      have h6n : ¬ wl 6 (gm 64 (TOPn sg)).toNatClampNeg = 0 := (fun q => absurd ((BR_6 hBR hRW hRS hpt.2.1 hpt.2.2).1.mpr q) (by rw [← (show r_8 = mHas gm lg (gm 42 (gm 64 (TOPn sg)).toNatClampNeg).toNatClampNeg 28259031083541619 from (by have q9 := fH_r_8; rw [(show z_7 = gm 42 (gm 64 (TOPn sg)).toNatClampNeg from (by rw [ez_7, heb])), mHas_k (DK_of (show KS [] sg sg from KS_rf) (show KS [65] gm gm_6 from (KS_up KS_rf egm_6 (by decide))) (show KS [] lg lg from KS_rf) (by decide) (by decide) (by decide)).1] at q9; exact q9))]; exact c_10))
      refine lv_aload_n hx hb dX13_step_76 rfl (lv_at hl 2 rfl) ?_
      refine lv_aload_n hx hb dX13_step_77 rfl (lv_at hl 2 rfl) ?_
      refine lv_aload_n hx hb dX13_step_78 rfl (lv_at hl 2 rfl) ?_
      refine mr_get (v := .ref (ad 42)) hx hb htb inX13 hown hK hP 42 (by decide) (htb _ kw_1069) rfl dX13_step_79 ?_
      refine lv_iload_n hx hb dX13_step_82 rfl (lv_at hl 0 rfl) ?_
      refine mr_iald hx hb hK hP 33 (k := 42) rfl rfl rfl (show vp_in z_2 80 from (iv_in hz_2 (by decide))) dX13_step_83 ?_
      refine lv_topi (fun z_13 ez_13 => ?_)
      obtain rfl : z_7 = z_13 := ez_7.trans (ez_13.trans (congrFun (up_ne egm_6 (by decide)) _)).symm
      refine lv_ldc2 (own := RX13) (v := 28259031083541619) hx hb hown (htb _ kw_1190) dX13_step_84 ?_
      refine mr_calll (rest := [.ref h0, .ref h0]) ⟨hx, hb, hml, hown, htb⟩ (f_word l dC dI h0 ad cid sg gm_6 lg z_7 28259031083541619 hI_gm_6 hz_7) (cwV 2 htb (gd_V kw_1201 kw_1202 kw_96 kw_160 kw_1603) rfl rfl rfl (by decide +kernel) ⟨Nat.le_of_ble_eq_true rfl, Nat.le_of_ble_eq_true rfl⟩) rfl hl.1 rfl (Nat.le_of_ble_eq_true rfl) dX13_step_87 ⟨Nat.zero_le _, Nat.zero_le _⟩ hK hP hD hS hA (fun r_14 u_15 H locs hw hP hD hS => ?_)
      obtain ⟨fW_r_14, rfl⟩ := hw
      have hP : va_P (dC, dI) vwCl (mW h0 ad cid sg gm_6 lg) H := hP
      have hD : va_D A (mW h0 ad cid sg gm_6 lg) := hD
      refine mr_calli (rest := [.ref h0]) ⟨hx, hb, hml, hown, htb⟩ (f_called9 l dC dI h0 ad cid sg gm_6 lg r_14 hI_gm_6) (cwV 1 htb (gd_V kw_1253 kw_1254 kw_115 kw_160 kw_1625) rfl rfl rfl (by decide +kernel) ⟨Nat.le_of_ble_eq_true rfl, Nat.le_of_ble_eq_true rfl⟩) rfl hl.1 rfl (Nat.le_of_ble_eq_true rfl) dX13_step_90 ⟨Nat.zero_le _, Nat.zero_le _⟩ hK hP hD hS hA (fun r_16 u_17 H locs hw hP hD hS => ?_)
      obtain ⟨hr_16, fLt_r_16, fCd_r_16, rfl⟩ := hw
      have hP : va_P (dC, dI) vwCl (mW h0 ad cid sg gm_6 lg) H := hP
      have hD : va_D A (mW h0 ad cid sg gm_6 lg) := hD
      have hcb : r_16.toInt = caN ws wg wl (wl 6 (gm 64 (TOPn sg)).toNatClampNeg) := (by rw [← (BR_6 hBR hRW hRS hpt.2.1 hpt.2.2).2 h6n, fCd_r_16, fW_r_14, show z_7 = gm 42 (gm 64 (TOPn sg)).toNatClampNeg from (by rw [ez_7, heb])]; unfold cdR; rw [cdF_k (DK_of (show KS [] sg sg from KS_rf) (show KS [65] gm gm_6 from (KS_up KS_rf egm_6 (by decide))) (show KS [] lg lg from KS_rf) (by decide) (by decide) (by decide)), mWord_k (DK_of (show KS [] sg sg from KS_rf) (show KS [65] gm gm_6 from (KS_up KS_rf egm_6 (by decide))) (show KS [] lg lg from KS_rf) (by decide) (by decide) (by decide)).1])
      refine mr_calli (rest := []) ⟨hx, hb, hml, hown, htb⟩ (f_gets9 l dC dI h0 ad cid sg gm_6 lg r_16 ws wg wl rs rg S hI_gm_6 hr_16 fLt_r_16 (GI0_of hgi (show KS [] sg sg from KS_rf) (show KS [65] gm gm_6 from (KS_up KS_rf egm_6 (by decide))) (show KS [] lg lg from KS_rf) (by decide) (by decide) (by decide) (by decide) (by decide) (by decide)) (PIL_k rfl rfl (up_ne egm_6 (by decide)) (up_ne egm_6 (by decide)) hpi) ((rt9_ks (L := [65]) (KS_up KS_rf egm_6 (by decide)) (by decide)).trans hRW) hRS hBR (RR_ks (L := []) (M := [65]) hRR KS_rf (KS_up KS_rf egm_6 (by decide)) (by decide) (by decide)) hf0) (cwV 1 htb (gd_V kw_1247 kw_1248 kw_112 kw_160 kw_1622) rfl rfl rfl (by decide +kernel) ⟨Nat.le_of_ble_eq_true rfl, Nat.le_of_ble_eq_true rfl⟩) rfl hl.1 rfl (Nat.le_of_ble_eq_true rfl) dX13_step_93 ⟨Nat.zero_le _, Nat.zero_le _⟩ hK hP hD hS hA (fun r_18 u_19 H locs hw hP hD hS => ?_)
      obtain ⟨sgv_20, gmv_20, lgv_20, rfl, hIv_20, ksv_20, kgv_20, klv_20, hr_18, fGI_r_18, fGt_r_18, fG9_r_18⟩ := hw
      obtain rfl := KS_nil klv_20
      have hP : va_P (dC, dI) vwCl (mW h0 ad cid sgv_20 gmv_20 lg) H := hP
      have hD : va_D A (mW h0 ad cid sgv_20 gmv_20 lg) := hD
      refine lv_if_eq (tgt := 349) hx hb dX13_step_96 (by decide) (fun c_21 => ?_) (fun c_21 => ?_)
      · have h_22 : iv 0 0 r_18 := iv_eq c_21 hr_18 (iv_k (by decide) : iv 0 0 0) (by decide)
        have hst9 : 1 ≤ (sgv_20 51).toInt ∨ STEP sg gm sgv_20 gmv_20 lg := by
          rcases fGt_r_18 with ⟨q9, _⟩ | ⟨_, q9 | ⟨b9, q9⟩⟩
          · exact absurd (congrArg Int32.toInt c_21) (by rw [q9]; decide)
          · exact Or.inl q9
          · exact Or.inr (ST_phP hI hinv hh1 (DK_of (show KS [51, 52, 63, 74] sg sgv_20 from (KS_tr (L := [51, 52, 63, 74]) KS_rf ksv_20 (by decide))) (show KS [62, 64, 65, 66, 67, 68, 69] gm gmv_20 from (KS_tr (L := [62, 64, 65, 66, 67, 68, 69]) (KS_up KS_rf egm_6 (by decide)) kgv_20 (by decide))) (show KS [] lg lg from KS_rf) (by decide) (by decide) (by decide)) (Eq.trans (kgv_20 44 (by decide)) (up_ne egm_6 (by decide))) (Eq.trans (kgv_20 45 (by decide)) (up_ne egm_6 (by decide))) rfl (Eq.trans (kgv_20 60 (by decide)) (up_ne egm_6 (by decide))) rfl rfl (up_ne egm_6 (by decide)) (up_ne egm_6 (by decide)) (show gm_6 65 = upd (gm 65) (z_1 : Int32).toNatClampNeg 1 from ((up_at egm_6).trans (by rw [show gm 65 = gm 65 from rfl]))) htop (up_ne egm_6 (by decide)) (up_ne egm_6 (by decide)) (up_ne egm_6 (by decide)) (by omega) (by rw [hph9]; rfl) (by decide) q9)
        exact W.vret hx hb hr (fun t ht hW => ⟨⟨(sgv_20, gmv_20, lg), rfl, ⟨sgv_20, gmv_20, lg, rfl, hIv_20, (KS_tr (L := [48, 49, 50, 51, 52, 63, 74]) KS_rf ksv_20 (by decide)), (KS_tr (L := [53, 54, 55, 56, 57, 58, 59, 60, 61, 62, 64, 65, 66, 67, 68, 69, 70, 71, 72, 73, 75]) (KS_up KS_rf egm_6 (by decide)) kgv_20 (by decide)), KS_rf, (fGI_r_18), (MO_of hmo (show KS [51, 52, 63, 74] sg sgv_20 from (KS_tr (L := [51, 52, 63, 74]) KS_rf ksv_20 (by decide))) (show KS [62, 64, 65, 66, 67, 68, 69] gm gmv_20 from (KS_tr (L := [62, 64, 65, 66, 67, 68, 69]) (KS_up KS_rf egm_6 (by decide)) kgv_20 (by decide))) (by decide) (by decide)), (hst9), ((OUT_0g hIV hh1 hph9 (show iv 0 80 (ws 12) from (by have q5 := hBR.1; rw [rs9_41 hRS] at q5; have q6 := (show iv 0 80 (sg 41) from MI_s hI 41); exact ⟨by rw [← q5]; exact q6.1, by rw [← q5]; exact q6.2⟩)) h6n hcb fG9_r_18 fGt_r_18 (congrArg Int32.toInt c_21) rfl htop (show gm_6 65 = upd (gm 65) (z_1 : Int32).toNatClampNeg 1 from ((up_at egm_6).trans (by rw [show gm 65 = gm 65 from rfl]))) rfl (up_ne egm_6 (by decide)) (up_ne egm_6 (by decide)) (up_ne egm_6 (by decide)) (up_ne egm_6 (by decide)) (up_ne egm_6 (by decide)) ⟨(Eq.trans (kgv_20 70 (by decide)) (up_ne egm_6 (by decide))), (Eq.trans (kgv_20 71 (by decide)) (up_ne egm_6 (by decide))), (Eq.trans (kgv_20 72 (by decide)) (up_ne egm_6 (by decide))), (Eq.trans (kgv_20 73 (by decide)) (up_ne egm_6 (by decide)))⟩))⟩, by rw [ht]; exact hP, va_K.moved hW.alike hK, hD⟩, hS.F ht⟩) hS.2.2 dX13_step_349
      · have h_23 : iv 1 1 r_18 := iv_neL c_21 hr_18 (by decide)
        refine lv_aload_n hx hb dX13_step_99 rfl (lv_at hl 2 rfl) ?_
        obtain ⟨hgo9, hsmA⟩ : 0 ≤ (sgv_20 74).toInt ∧ SAMEP sg gm_6 sgv_20 gmv_20 := by { rcases fGt_r_18 with ⟨_, q8, q9⟩ | ⟨q9, _⟩; exact ⟨q8, q9⟩; exact absurd (Int32.toInt_inj.mp q9) c_21 }
        have htA : TOPn sgv_20 = TOPn sg := by unfold TOPn; rw [hsmA.1]
        have h65A : gmv_20 65 = upd (gm 65) _ _ := hsmA.2.2.2.1.trans (show gm_6 65 = upd (gm 65) (z_1 : Int32).toNatClampNeg 1 from ((up_at egm_6).trans (by rw [show gm 65 = gm 65 from rfl])))
        have h64A : gmv_20 64 = gm 64 := hsmA.2.2.1.trans (up_ne egm_6 (by decide))
        have h66A : gmv_20 66 = gm 66 := hsmA.2.2.2.2.1.trans (up_ne egm_6 (by decide))
        have h67A : gmv_20 67 = gm 67 := hsmA.2.2.2.2.2.1.trans (up_ne egm_6 (by decide))
        have h69A : gmv_20 69 = gm 69 := hsmA.2.2.2.2.2.2.2.1.trans (up_ne egm_6 (by decide))
        have h41A : sgv_20 41 = sg 41 := (ksv_20 41 (by decide))
        have hfrA : FR sgv_20 gmv_20 lg (TOPn sgv_20) 1 := by
          unfold FR; rw [htA, h64A, h65A, h66A, h67A, h69A, htop, upd_at]
          exact FRv_k (DK_of (show KS [51, 52, 63, 74] sg sgv_20 from (KS_tr (L := [51, 52, 63, 74]) KS_rf ksv_20 (by decide))) (show KS [62, 64, 65, 66, 67, 68, 69] gm gmv_20 from (KS_tr (L := [62, 64, 65, 66, 67, 68, 69]) (KS_up KS_rf egm_6 (by decide)) kgv_20 (by decide))) (show KS [] lg lg from KS_rf) (by decide) (by decide) (by decide)) (Eq.trans (kgv_20 44 (by decide)) (up_ne egm_6 (by decide))) (Eq.trans (kgv_20 45 (by decide)) (up_ne egm_6 (by decide))) rfl (fun k q9 => by rw [(Eq.trans (kgv_20 60 (by decide)) (up_ne egm_6 (by decide)))]; exact q9) (FRv_p hfr0 (by omega) (by decide))
        have hsvA : SV4 gm gmv_20 := ⟨(Eq.trans (kgv_20 70 (by decide)) (up_ne egm_6 (by decide))), (Eq.trans (kgv_20 71 (by decide)) (up_ne egm_6 (by decide))), (Eq.trans (kgv_20 72 (by decide)) (up_ne egm_6 (by decide))), (Eq.trans (kgv_20 73 (by decide)) (up_ne egm_6 (by decide)))⟩
        refine mr_callv (rest := []) ⟨hx, hb, hml, hown, htb⟩ (f_deliver9 l dC dI h0 ad cid sgv_20 gmv_20 lg hIv_20 (DOC_of hdoc (show KS [51, 52, 63, 74] sg sgv_20 from (KS_tr (L := [51, 52, 63, 74]) KS_rf ksv_20 (by decide))) (show KS [62, 64, 65, 66, 67, 68, 69] gm gmv_20 from (KS_tr (L := [62, 64, 65, 66, 67, 68, 69]) (KS_up KS_rf egm_6 (by decide)) kgv_20 (by decide))) (show KS [] lg lg from KS_rf) (by decide) (by decide) (by decide) (by decide)) (fGI_r_18.1) (by have q9 := hsmA.1.trans rfl; rw [q9]; exact hh1) hgo9 hfrA (by rw [htA, h65A, htop, upd_at]; decide) (by rw [htA, h64A, h41A]; exact ⟨hpt.2.1, hpt.2.2⟩) ((show iv 0 6 _ from hIv_20.2 67 _ (show _ < 81 from by rw [htA]; exact tl)).1)) (cwV 0 htb (gd_V kw_1255 kw_1256 kw_116 kw_160 kw_1626) rfl rfl rfl (by decide +kernel) ⟨Nat.le_of_ble_eq_true rfl, Nat.le_of_ble_eq_true rfl⟩) rfl hl.1 rfl (Nat.le_of_ble_eq_true rfl) dX13_step_100 ⟨Nat.zero_le _, Nat.zero_le _⟩ hK hP hD hS hA (fun u_25 H locs hw hP hD hS => ?_)
        obtain ⟨sgv_26, gmv_26, lgv_26, rfl, hIv_26, ksv_26, kgv_26, klv_26, fV2_r_24, fDl_r_24, fD9_r_24⟩ := hw
        obtain rfl := KS_nil ksv_26
        obtain rfl := KS_nil klv_26
        have hP : va_P (dC, dI) vwCl (mW h0 ad cid sgv_20 gmv_26 lg) H := hP
        have hD : va_D A (mW h0 ad cid sgv_20 gmv_26 lg) := hD
        have hd1 := DL_1 fD9_r_24 (by rw [htA, h65A, htop, upd_at]; rfl)
        have h67a : gmv_26 67 = gm 67 := (DLV_2 fDl_r_24 (by rw [htA, h65A, htop, upd_at]; decide)).trans h67A
        refine lv_goto (tgt := 349) hx hb dX13_step_103 (by decide) ?_
        have h67a : gmv_26 67 = gm 67 := (DLV_2 fDl_r_24 (by rw [htA, h65A, htop, upd_at]; decide)).trans h67A
        exact W.vret hx hb hr (fun t ht hW => ⟨⟨(sgv_20, gmv_26, lg), rfl, ⟨sgv_20, gmv_26, lg, rfl, hIv_26, (KS_tr (L := [48, 49, 50, 51, 52, 63, 74]) KS_rf ksv_20 (by decide)), (KS_tr (L := [53, 54, 55, 56, 57, 58, 59, 60, 61, 62, 64, 65, 66, 67, 68, 69, 70, 71, 72, 73, 75]) (KS_tr (L := [53, 54, 55, 56, 57, 58, 59, 60, 61, 62, 64, 65, 66, 67, 68, 69, 70, 71, 72, 73, 75]) (KS_up KS_rf egm_6 (by decide)) kgv_20 (by decide)) kgv_26 (by decide)), KS_rf, (GI0_k fGI_r_18 (DK_of (show KS [] sgv_20 sgv_20 from KS_rf) (show KS [67, 68, 70, 71, 72, 73] gmv_20 gmv_26 from (KS_tr (L := [67, 68, 70, 71, 72, 73]) KS_rf kgv_26 (by decide))) (show KS [] lg lg from KS_rf) (by decide) (by decide) (by decide)) ((show KS [] lg lg from KS_rf) 1 (by decide)) ((show KS [67, 68, 70, 71, 72, 73] gmv_20 gmv_26 from (KS_tr (L := [67, 68, 70, 71, 72, 73]) KS_rf kgv_26 (by decide))) 60 (by decide)) ((show KS [67, 68, 70, 71, 72, 73] gmv_20 gmv_26 from (KS_tr (L := [67, 68, 70, 71, 72, 73]) KS_rf kgv_26 (by decide))) 61 (by decide)) ((show KS [67, 68, 70, 71, 72, 73] gmv_20 gmv_26 from (KS_tr (L := [67, 68, 70, 71, 72, 73]) KS_rf kgv_26 (by decide))) 62 (by decide)) (fV2_r_24) ((show KS [] sgv_20 sgv_20 from KS_rf) 50 (by decide))), (MO_of hmo (show KS [51, 52, 63, 74] sg sgv_20 from (KS_tr (L := [51, 52, 63, 74]) KS_rf ksv_20 (by decide))) (show KS [62, 64, 65, 66, 67, 68, 69, 70, 71, 72, 73] gm gmv_26 from (KS_tr (L := [62, 64, 65, 66, 67, 68, 69, 70, 71, 72, 73]) (KS_tr (L := [62, 64, 65, 66, 67, 68, 69, 70, 71, 72, 73]) (KS_up KS_rf egm_6 (by decide)) kgv_20 (by decide)) kgv_26 (by decide))) (by decide) (by decide)), (Or.inr (ST_ph hI hdoc hinv hh1 (DK_of (show KS [51, 52, 63, 74] sg sgv_20 from (KS_tr (L := [51, 52, 63, 74]) KS_rf ksv_20 (by decide))) (show KS [62, 64, 65, 66, 67, 68, 69, 70, 71, 72, 73] gm gmv_26 from (KS_tr (L := [62, 64, 65, 66, 67, 68, 69, 70, 71, 72, 73]) (KS_tr (L := [62, 64, 65, 66, 67, 68, 69, 70, 71, 72, 73]) (KS_up KS_rf egm_6 (by decide)) kgv_20 (by decide)) kgv_26 (by decide))) (show KS [] lg lg from KS_rf) (by decide) (by decide) (by decide)) (Eq.trans (Eq.trans (kgv_26 44 (by decide)) (kgv_20 44 (by decide))) (up_ne egm_6 (by decide))) (Eq.trans (Eq.trans (kgv_26 45 (by decide)) (kgv_20 45 (by decide))) (up_ne egm_6 (by decide))) rfl (Eq.trans (Eq.trans (kgv_26 60 (by decide)) (kgv_20 60 (by decide))) (up_ne egm_6 (by decide))) (((show KS [] sgv_20 sgv_20 from KS_rf) 63 (by decide)).trans (hsmA.1.trans rfl)) (((show KS [67, 68, 70, 71, 72, 73] gmv_20 gmv_26 from (KS_tr (L := [67, 68, 70, 71, 72, 73]) KS_rf kgv_26 (by decide))) 62 (by decide)).trans (hsmA.2.1.trans (up_ne egm_6 (by decide)))) (((show KS [67, 68, 70, 71, 72, 73] gmv_20 gmv_26 from (KS_tr (L := [67, 68, 70, 71, 72, 73]) KS_rf kgv_26 (by decide))) 64 (by decide)).trans (hsmA.2.2.1.trans (up_ne egm_6 (by decide)))) (((show KS [67, 68, 70, 71, 72, 73] gmv_20 gmv_26 from (KS_tr (L := [67, 68, 70, 71, 72, 73]) KS_rf kgv_26 (by decide))) 65 (by decide)).trans h65A) htop (((show KS [67, 68, 70, 71, 72, 73] gmv_20 gmv_26 from (KS_tr (L := [67, 68, 70, 71, 72, 73]) KS_rf kgv_26 (by decide))) 66 (by decide)).trans (hsmA.2.2.2.2.1.trans (up_ne egm_6 (by decide)))) h67a (((show KS [67, 68, 70, 71, 72, 73] gmv_20 gmv_26 from (KS_tr (L := [67, 68, 70, 71, 72, 73]) KS_rf kgv_26 (by decide))) 69 (by decide)).trans (hsmA.2.2.2.2.2.2.2.1.trans (up_ne egm_6 (by decide)))) (by omega) (by rw [hph9]; rfl))), ((OUT_01 hIV hh1 hph9 (fun n9 => (oDe_g (show iv 0 80 (ws 12) from (by have q5 := hBR.1; rw [rs9_41 hRS] at q5; have q6 := (show iv 0 80 (sg 41) from MI_s hI 41); exact ⟨by rw [← q5]; exact q6.1, by rw [← q5]; exact q6.2⟩)) h6n).trans (by rw [← hcb]; exact (FG_1 fG9_r_18 (fun q9 => c_21 (Int32.toInt_inj.mp q9))).2.2 n9)) (RR_ks (FG_1 fG9_r_18 (fun q9 => c_21 (Int32.toInt_inj.mp q9))).2.1 (KS_rf (L := [])) (show KS [67, 68, 70, 71, 72, 73] gmv_20 gmv_26 from (KS_tr (L := [67, 68, 70, 71, 72, 73]) KS_rf kgv_26 (by decide))) (by decide) (by decide)) (FG_1 fG9_r_18 (fun q9 => c_21 (Int32.toInt_inj.mp q9))).1 (hsmA.1.trans rfl) htop (((show KS [67, 68, 70, 71, 72, 73] gmv_20 gmv_26 from (KS_tr (L := [67, 68, 70, 71, 72, 73]) KS_rf kgv_26 (by decide))) 65 (by decide)).trans h65A) rfl (((show KS [67, 68, 70, 71, 72, 73] gmv_20 gmv_26 from (KS_tr (L := [67, 68, 70, 71, 72, 73]) KS_rf kgv_26 (by decide))) 64 (by decide)).trans (hsmA.2.2.1.trans (up_ne egm_6 (by decide)))) (((show KS [67, 68, 70, 71, 72, 73] gmv_20 gmv_26 from (KS_tr (L := [67, 68, 70, 71, 72, 73]) KS_rf kgv_26 (by decide))) 66 (by decide)).trans (hsmA.2.2.2.2.1.trans (up_ne egm_6 (by decide)))) h67a (hd1.1.trans (hsmA.2.2.2.2.2.2.1.trans (up_ne egm_6 (by decide)))) (((show KS [67, 68, 70, 71, 72, 73] gmv_20 gmv_26 from (KS_tr (L := [67, 68, 70, 71, 72, 73]) KS_rf kgv_26 (by decide))) 69 (by decide)).trans (hsmA.2.2.2.2.2.2.2.1.trans (up_ne egm_6 (by decide)))) (⟨hd1.2.1.trans hsvA.1, hd1.2.2.1.trans hsvA.2.1, hd1.2.2.2.1.trans hsvA.2.2.1, hd1.2.2.2.2.trans hsvA.2.2.2⟩)))⟩, by rw [ht]; exact hP, va_K.moved hW.alike hK, hD⟩, hS.F ht⟩) hS.2.2 dX13_step_349
  by_cases c_27 : (z_3 : Int32).toInt = 1
  · refine lv_tableIn (tgt := 106) hx hb dX13_step_20 (by rw [c_27]; decide) (by rw [c_27]; decide) (by rw [c_27]; rfl) (by decide) ?_
    have h_28 : iv 1 1 z_3 := iv_at c_27
    have hph9 : (gm 65 (TOPn sg)).toInt = 1 := by rw [← (show z_3 = gm 65 (TOPn sg) from (by have q9 := ez_3; rw [htop] at q9; exact q9))]; exact c_27
    refine lv_aload_n hx hb dX13_step_106 rfl (lv_at hl 2 rfl) ?_
    refine lv_iload_n hx hb dX13_step_107 rfl (lv_at hl 0 rfl) ?_
    refine lv_ldc2 (own := RX13) (v := 427020088179) hx hb hown (htb _ kw_1181) dX13_step_108 ?_
    refine mr_calli (rest := []) ⟨hx, hb, hml, hown, htb⟩ (f_tells l dC dI h0 ad cid sg gm lg z_2 427020088179 hI (iv_w hz_2 (by decide)) hbl9 (hdoc.1.2.2.2)) (cwV 2 htb (gd_V kw_1263 kw_1264 kw_120 kw_160 kw_1630) rfl rfl rfl (by decide +kernel) ⟨Nat.le_of_ble_eq_true rfl, Nat.le_of_ble_eq_true rfl⟩) rfl hl.1 rfl (Nat.le_of_ble_eq_true rfl) dX13_step_111 ⟨Nat.zero_le _, Nat.zero_le _⟩ hK hP hD hS hA (fun r_29 u_30 H locs hw hP hD hS => ?_)
    obtain ⟨hr_29, fL_r_29, rfl⟩ := hw
    have hP : va_P (dC, dI) vwCl (mW h0 ad cid sg gm lg) H := hP
    have hD : va_D A (mW h0 ad cid sg gm lg) := hD
    refine lv_iconst (v := (-1)) hx hb dX13_step_114 (by decide) ?_
    refine lv_icmp_ne (tgt := 135) hx hb dX13_step_115 (by decide) (fun c_31 => ?_) (fun c_31 => ?_)
    · have h_32 : iv 0 79 r_29 := iv_neL c_31 hr_29 (by decide)
      refine lv_aload_n hx hb dX13_step_135 rfl (lv_at hl 2 rfl) ?_
      refine mr_get (v := .ref (ad 65)) hx hb htb inX13 hown hK hP 65 (by decide) (htb _ kw_1092) rfl dX13_step_136 ?_
      refine lv_iload_n hx hb dX13_step_139 rfl (lv_at hl 1 rfl) ?_
      refine lv_iconst (v := 2) hx hb dX13_step_140 (by decide) ?_
      refine ma_iast (x := 2) hx hb hK hP hD hS 50 (k := 65) rfl rfl rfl (show vp_in z_1 81 from (iv_in hz_1 (by decide))) dX13_step_141 (fun gm_33 H locs egm_33 hP hD hS => ?_)
      have hI_gm_33 := MI_st hI egm_33 (iv_k (by decide) : iv 2 2 2) (by decide)
      refine lv_aload_n hx hb dX13_step_142 rfl (lv_at hl 2 rfl) ?_
      refine mr_get (v := .int (sg 51)) hx hb htb inX13 hown hK hP 51 (by decide) (htb _ kw_1078) rfl dX13_step_143 ?_
      refine lv_if_ne (tgt := 349) hx hb dX13_step_146 (by decide) (fun c_34 => ?_) (fun c_34 => ?_)
      · have h_35 : iv 1 8 (sg 51) := iv_neL c_34 (show iv 0 8 (sg 51) from MI_s hI 51) (by decide)
        exfalso; have := hf0; have := i32_0; have := i32_1; have := i32_2; have := i32_m1; have := (show iv 0 8 (sg 51) from MI_s hI 51).1; have := (show iv 0 8 (sg 51) from MI_s hI 51).2; have := (h63).1; have := (h63).2; have := (hz_1).1; have := (hz_1).2; have := (hz_2).1; have := (hz_2).2; have := (h_28).1; have := (h_28).2; have := (h_32).1; have := (h_32).2; have := (h_35).1; have := (h_35).2; omega
      · have h_36 : iv 0 0 (sg 51) := iv_eq c_34 (show iv 0 8 (sg 51) from MI_s hI 51) (iv_k (by decide) : iv 0 0 0) (by decide)
        refine lv_aload_n hx hb dX13_step_149 rfl (lv_at hl 2 rfl) ?_
        refine lv_iload_n hx hb dX13_step_150 rfl (lv_at hl 0 rfl) ?_
        refine lv_ldc2 (own := RX13) (v := 28817527407604345) hx hb hown (htb _ kw_1186) dX13_step_151 ?_
        refine mr_calli (rest := []) ⟨hx, hb, hml, hown, htb⟩ (f_tells l dC dI h0 ad cid sg gm_33 lg z_2 28817527407604345 hI_gm_33 (iv_w hz_2 (by decide)) hbl9 ((DOC_of hdoc (show KS [] sg sg from KS_rf) (show KS [65] gm gm_33 from (KS_up KS_rf egm_33 (by decide))) (show KS [] lg lg from KS_rf) (by decide) (by decide) (by decide) (by decide)).1.2.2.2)) (cwV 2 htb (gd_V kw_1263 kw_1264 kw_120 kw_160 kw_1630) rfl rfl rfl (by decide +kernel) ⟨Nat.le_of_ble_eq_true rfl, Nat.le_of_ble_eq_true rfl⟩) rfl hl.1 rfl (Nat.le_of_ble_eq_true rfl) dX13_step_154 ⟨Nat.zero_le _, Nat.zero_le _⟩ hK hP hD hS hA (fun r_37 u_38 H locs hw hP hD hS => ?_)
        obtain ⟨hr_37, fL_r_37, rfl⟩ := hw
        have hP : va_P (dC, dI) vwCl (mW h0 ad cid sg gm_33 lg) H := hP
        have hD : va_D A (mW h0 ad cid sg gm_33 lg) := hD
        refine lv_iconst (v := (-1)) hx hb dX13_step_157 (by decide) ?_
        refine lv_icmp_eq (tgt := 349) hx hb dX13_step_158 (by decide) (fun c_39 => ?_) (fun c_39 => ?_)
        · have h_40 : iv (-1) (-1) r_37 := iv_eq c_39 hr_37 (iv_k (by decide) : iv (-1) (-1) (-1)) (by decide)
          exact W.vret hx hb hr (fun t ht hW => ⟨⟨(sg, gm_33, lg), rfl, ⟨sg, gm_33, lg, rfl, hI_gm_33, KS_rf, (KS_up KS_rf egm_33 (by decide)), KS_rf, (GI0_of hgi (show KS [] sg sg from KS_rf) (show KS [65] gm gm_33 from (KS_up KS_rf egm_33 (by decide))) (show KS [] lg lg from KS_rf) (by decide) (by decide) (by decide) (by decide) (by decide) (by decide)), (MO_of hmo (show KS [] sg sg from KS_rf) (show KS [65] gm gm_33 from (KS_up KS_rf egm_33 (by decide))) (by decide) (by decide)), (Or.inr (ST_ph hI hdoc hinv hh1 (DK_of (show KS [] sg sg from KS_rf) (show KS [65] gm gm_33 from (KS_up KS_rf egm_33 (by decide))) (show KS [] lg lg from KS_rf) (by decide) (by decide) (by decide)) (up_ne egm_33 (by decide)) (up_ne egm_33 (by decide)) rfl (up_ne egm_33 (by decide)) rfl (up_ne egm_33 (by decide)) (up_ne egm_33 (by decide)) (show gm_33 65 = upd (gm 65) (z_1 : Int32).toNatClampNeg 2 from ((up_at egm_33).trans (by rw [show gm 65 = gm 65 from rfl]))) htop (up_ne egm_33 (by decide)) (up_ne egm_33 (by decide)) (up_ne egm_33 (by decide)) (by omega) (by rw [hph9]; rfl))), ((OUT_12 hIV hh1 hph9 (fun q => absurd ((BR_7 hBR hRW hRS hpt.2.1 hpt.2.2).1.mpr q).1 (by rw [← (show r_29 = mTel sg gm lg (gm 64 (TOPn sg)) 427020088179 from (by have q9 := fL_r_29; rw [heb] at q9; exact q9))]; exact c_31)) (fun n9 => oFa_0 (Decidable.byContradiction (fun q => absurd (((BR_7 hBR hRW hRS hpt.2.1 hpt.2.2).2.1.mpr q).1) (fun q8 => q8 (by rw [← (show r_37 = mTel sg gm lg (gm 64 (TOPn sg)) 28817527407604345 from (by have q9 := fL_r_37; rw [heb, mTel_k (DK_of (show KS [] sg sg from KS_rf) (show KS [65] gm gm_33 from (KS_up KS_rf egm_33 (by decide))) (show KS [] lg lg from KS_rf) (by decide) (by decide) (by decide))] at q9; exact q9))]; exact c_39))))) (Or.inl rfl) (RR_ks (L := []) (M := [65]) hRR KS_rf (KS_up KS_rf egm_33 (by decide)) (by decide) (by decide)) (by have := hf0; have := i32_0; have := i32_1; have := i32_2; have := i32_m1; have := (show iv 0 8 (sg 51) from MI_s hI 51).1; have := (show iv 0 8 (sg 51) from MI_s hI 51).2; have := (h63).1; have := (h63).2; have := (hz_1).1; have := (hz_1).2; have := (hz_2).1; have := (hz_2).2; have := (h_28).1; have := (h_28).2; have := (h_32).1; have := (h_32).2; have := (h_36).1; have := (h_36).2; have := (h_40).1; have := (h_40).2; omega) rfl htop (show gm_33 65 = upd (gm 65) (z_1 : Int32).toNatClampNeg 2 from ((up_at egm_33).trans (by rw [show gm 65 = gm 65 from rfl]))) rfl (up_ne egm_33 (by decide)) (up_ne egm_33 (by decide)) (up_ne egm_33 (by decide)) (fun j hj => by rw [(up_ne egm_33 (by decide))]) (by rw [(up_ne egm_33 (by decide))]; have hm := IV_m hIV hh1; rw [hm.2.2.2.1]; exact hm.2.2.2.2.2.1 (by have := hm.2.1; omega)) (up_ne egm_33 (by decide)) ⟨(up_ne egm_33 (by decide)), (up_ne egm_33 (by decide)), (up_ne egm_33 (by decide)), (up_ne egm_33 (by decide))⟩))⟩, by rw [ht]; exact hP, va_K.moved hW.alike hK, hD⟩, hS.F ht⟩) hS.2.2 dX13_step_349
        · have h_41 : iv 0 79 r_37 := iv_neL c_39 hr_37 (by decide)
          refine lv_aload_n hx hb dX13_step_161 rfl (lv_at hl 2 rfl) ?_
          refine lv_iload_n hx hb dX13_step_162 rfl (lv_at hl 0 rfl) ?_
          refine lv_ldc2 (own := RX13) (v := 120282512125796) hx hb hown (htb _ kw_1187) dX13_step_163 ?_
          refine mr_calli (rest := []) ⟨hx, hb, hml, hown, htb⟩ (f_tells l dC dI h0 ad cid sg gm_33 lg z_2 120282512125796 hI_gm_33 (iv_w hz_2 (by decide)) hbl9 ((DOC_of hdoc (show KS [] sg sg from KS_rf) (show KS [65] gm gm_33 from (KS_up KS_rf egm_33 (by decide))) (show KS [] lg lg from KS_rf) (by decide) (by decide) (by decide) (by decide)).1.2.2.2)) (cwV 2 htb (gd_V kw_1263 kw_1264 kw_120 kw_160 kw_1630) rfl rfl rfl (by decide +kernel) ⟨Nat.le_of_ble_eq_true rfl, Nat.le_of_ble_eq_true rfl⟩) rfl hl.1 rfl (Nat.le_of_ble_eq_true rfl) dX13_step_166 ⟨Nat.zero_le _, Nat.zero_le _⟩ hK hP hD hS hA (fun r_42 u_43 H locs hw hP hD hS => ?_)
          obtain ⟨hr_42, fL_r_42, rfl⟩ := hw
          have hP : va_P (dC, dI) vwCl (mW h0 ad cid sg gm_33 lg) H := hP
          have hD : va_D A (mW h0 ad cid sg gm_33 lg) := hD
          refine lv_iconst (v := (-1)) hx hb dX13_step_169 (by decide) ?_
          refine lv_icmp_eq (tgt := 349) hx hb dX13_step_170 (by decide) (fun c_44 => ?_) (fun c_44 => ?_)
          · have h_45 : iv (-1) (-1) r_42 := iv_eq c_44 hr_42 (iv_k (by decide) : iv (-1) (-1) (-1)) (by decide)
            exact W.vret hx hb hr (fun t ht hW => ⟨⟨(sg, gm_33, lg), rfl, ⟨sg, gm_33, lg, rfl, hI_gm_33, KS_rf, (KS_up KS_rf egm_33 (by decide)), KS_rf, (GI0_of hgi (show KS [] sg sg from KS_rf) (show KS [65] gm gm_33 from (KS_up KS_rf egm_33 (by decide))) (show KS [] lg lg from KS_rf) (by decide) (by decide) (by decide) (by decide) (by decide) (by decide)), (MO_of hmo (show KS [] sg sg from KS_rf) (show KS [65] gm gm_33 from (KS_up KS_rf egm_33 (by decide))) (by decide) (by decide)), (Or.inr (ST_ph hI hdoc hinv hh1 (DK_of (show KS [] sg sg from KS_rf) (show KS [65] gm gm_33 from (KS_up KS_rf egm_33 (by decide))) (show KS [] lg lg from KS_rf) (by decide) (by decide) (by decide)) (up_ne egm_33 (by decide)) (up_ne egm_33 (by decide)) rfl (up_ne egm_33 (by decide)) rfl (up_ne egm_33 (by decide)) (up_ne egm_33 (by decide)) (show gm_33 65 = upd (gm 65) (z_1 : Int32).toNatClampNeg 2 from ((up_at egm_33).trans (by rw [show gm 65 = gm 65 from rfl]))) htop (up_ne egm_33 (by decide)) (up_ne egm_33 (by decide)) (up_ne egm_33 (by decide)) (by omega) (by rw [hph9]; rfl))), ((OUT_12 hIV hh1 hph9 (fun q => absurd ((BR_7 hBR hRW hRS hpt.2.1 hpt.2.2).1.mpr q).1 (by rw [← (show r_29 = mTel sg gm lg (gm 64 (TOPn sg)) 427020088179 from (by have q9 := fL_r_29; rw [heb] at q9; exact q9))]; exact c_31)) (fun n9 => oFa_0 (Decidable.byContradiction (fun q => absurd (((BR_7 hBR hRW hRS hpt.2.1 hpt.2.2).2.1.mpr q).2) (fun q8 => q8 (by rw [← (show r_42 = mTel sg gm lg (gm 64 (TOPn sg)) 120282512125796 from (by have q9 := fL_r_42; rw [heb, mTel_k (DK_of (show KS [] sg sg from KS_rf) (show KS [65] gm gm_33 from (KS_up KS_rf egm_33 (by decide))) (show KS [] lg lg from KS_rf) (by decide) (by decide) (by decide))] at q9; exact q9))]; exact c_44))))) (Or.inl rfl) (RR_ks (L := []) (M := [65]) hRR KS_rf (KS_up KS_rf egm_33 (by decide)) (by decide) (by decide)) (by have := hf0; have := i32_0; have := i32_1; have := i32_2; have := i32_m1; have := (show iv 0 8 (sg 51) from MI_s hI 51).1; have := (show iv 0 8 (sg 51) from MI_s hI 51).2; have := (h63).1; have := (h63).2; have := (hz_1).1; have := (hz_1).2; have := (hz_2).1; have := (hz_2).2; have := (h_28).1; have := (h_28).2; have := (h_32).1; have := (h_32).2; have := (h_36).1; have := (h_36).2; have := (h_41).1; have := (h_41).2; have := (h_45).1; have := (h_45).2; omega) rfl htop (show gm_33 65 = upd (gm 65) (z_1 : Int32).toNatClampNeg 2 from ((up_at egm_33).trans (by rw [show gm 65 = gm 65 from rfl]))) rfl (up_ne egm_33 (by decide)) (up_ne egm_33 (by decide)) (up_ne egm_33 (by decide)) (fun j hj => by rw [(up_ne egm_33 (by decide))]) (by rw [(up_ne egm_33 (by decide))]; have hm := IV_m hIV hh1; rw [hm.2.2.2.1]; exact hm.2.2.2.2.2.1 (by have := hm.2.1; omega)) (up_ne egm_33 (by decide)) ⟨(up_ne egm_33 (by decide)), (up_ne egm_33 (by decide)), (up_ne egm_33 (by decide)), (up_ne egm_33 (by decide))⟩))⟩, by rw [ht]; exact hP, va_K.moved hW.alike hK, hD⟩, hS.F ht⟩) hS.2.2 dX13_step_349
          · have h_46 : iv 0 79 r_42 := iv_neL c_44 hr_42 (by decide)
            have h7n : ¬ wl 7 (gm 64 (TOPn sg)).toNatClampNeg = 0 := (BR_7 hBR hRW hRS hpt.2.1 hpt.2.2).2.1.mp ⟨(by rw [← (show r_37 = mTel sg gm lg (gm 64 (TOPn sg)) 28817527407604345 from (by have q9 := fL_r_37; rw [heb, mTel_k (DK_of (show KS [] sg sg from KS_rf) (show KS [65] gm gm_33 from (KS_up KS_rf egm_33 (by decide))) (show KS [] lg lg from KS_rf) (by decide) (by decide) (by decide))] at q9; exact q9))]; exact c_39), (by rw [← (show r_42 = mTel sg gm lg (gm 64 (TOPn sg)) 120282512125796 from (by have q9 := fL_r_42; rw [heb, mTel_k (DK_of (show KS [] sg sg from KS_rf) (show KS [65] gm gm_33 from (KS_up KS_rf egm_33 (by decide))) (show KS [] lg lg from KS_rf) (by decide) (by decide) (by decide))] at q9; exact q9))]; exact c_44)⟩
            refine lv_aload_n hx hb dX13_step_173 rfl (lv_at hl 2 rfl) ?_
            refine lv_aload_n hx hb dX13_step_174 rfl (lv_at hl 2 rfl) ?_
            refine lv_aload_n hx hb dX13_step_175 rfl (lv_at hl 2 rfl) ?_
            refine lv_aload_n hx hb dX13_step_176 rfl (lv_at hl 2 rfl) ?_
            refine lv_iload_n hx hb dX13_step_177 rfl (lv_at hl 0 rfl) ?_
            refine lv_ldc2 (own := RX13) (v := 28817527407604345) hx hb hown (htb _ kw_1186) dX13_step_178 ?_
            refine mr_calli (rest := [.ref h0, .ref h0, .ref h0]) ⟨hx, hb, hml, hown, htb⟩ (f_tells l dC dI h0 ad cid sg gm_33 lg z_2 28817527407604345 hI_gm_33 (iv_w hz_2 (by decide)) hbl9 ((DOC_of hdoc (show KS [] sg sg from KS_rf) (show KS [65] gm gm_33 from (KS_up KS_rf egm_33 (by decide))) (show KS [] lg lg from KS_rf) (by decide) (by decide) (by decide) (by decide)).1.2.2.2)) (cwV 2 htb (gd_V kw_1263 kw_1264 kw_120 kw_160 kw_1630) rfl rfl rfl (by decide +kernel) ⟨Nat.le_of_ble_eq_true rfl, Nat.le_of_ble_eq_true rfl⟩) rfl hl.1 rfl (Nat.le_of_ble_eq_true rfl) dX13_step_181 ⟨Nat.zero_le _, Nat.zero_le _⟩ hK hP hD hS hA (fun r_47 u_48 H locs hw hP hD hS => ?_)
            obtain ⟨hr_47, fL_r_47, rfl⟩ := hw
            have hP : va_P (dC, dI) vwCl (mW h0 ad cid sg gm_33 lg) H := hP
            have hD : va_D A (mW h0 ad cid sg gm_33 lg) := hD
            have h184 : iv 0 79 r_47 := iv_neL (b := 79) (by rw [fL_r_47, ← fL_r_37]; exact c_39) hr_47 (by decide)
            refine lv_ldc2 (own := RX13) (v := 28817527407604345) hx hb hown (htb _ kw_1186) dX13_step_184 ?_
            refine mr_calll (rest := [.ref h0, .ref h0]) ⟨hx, hb, hml, hown, htb⟩ (f_word l dC dI h0 ad cid sg gm_33 lg r_47 28817527407604345 hI_gm_33 h184) (cwV 2 htb (gd_V kw_1201 kw_1202 kw_96 kw_160 kw_1603) rfl rfl rfl (by decide +kernel) ⟨Nat.le_of_ble_eq_true rfl, Nat.le_of_ble_eq_true rfl⟩) rfl hl.1 rfl (Nat.le_of_ble_eq_true rfl) dX13_step_187 ⟨Nat.zero_le _, Nat.zero_le _⟩ hK hP hD hS hA (fun r_49 u_50 H locs hw hP hD hS => ?_)
            obtain ⟨fW_r_49, rfl⟩ := hw
            have hP : va_P (dC, dI) vwCl (mW h0 ad cid sg gm_33 lg) H := hP
            have hD : va_D A (mW h0 ad cid sg gm_33 lg) := hD
            refine mr_calli (rest := [.ref h0]) ⟨hx, hb, hml, hown, htb⟩ (f_called9 l dC dI h0 ad cid sg gm_33 lg r_49 hI_gm_33) (cwV 1 htb (gd_V kw_1253 kw_1254 kw_115 kw_160 kw_1625) rfl rfl rfl (by decide +kernel) ⟨Nat.le_of_ble_eq_true rfl, Nat.le_of_ble_eq_true rfl⟩) rfl hl.1 rfl (Nat.le_of_ble_eq_true rfl) dX13_step_190 ⟨Nat.zero_le _, Nat.zero_le _⟩ hK hP hD hS hA (fun r_51 u_52 H locs hw hP hD hS => ?_)
            obtain ⟨hr_51, fLt_r_51, fCd_r_51, rfl⟩ := hw
            have hP : va_P (dC, dI) vwCl (mW h0 ad cid sg gm_33 lg) H := hP
            have hD : va_D A (mW h0 ad cid sg gm_33 lg) := hD
            have hcb : r_51.toInt = caN ws wg wl (wl 7 (gm 64 (TOPn sg)).toNatClampNeg) := (by rw [← (BR_7 hBR hRW hRS hpt.2.1 hpt.2.2).2.2 h7n, fCd_r_51, fW_r_49, (show r_47 = mTel sg gm lg (gm 64 (TOPn sg)) 28817527407604345 from (by have q9 := fL_r_47; rw [heb, mTel_k (DK_of (show KS [] sg sg from KS_rf) (show KS [65] gm gm_33 from (KS_up KS_rf egm_33 (by decide))) (show KS [] lg lg from KS_rf) (by decide) (by decide) (by decide))] at q9; exact q9))]; unfold cdR; rw [cdF_k (DK_of (show KS [] sg sg from KS_rf) (show KS [65] gm gm_33 from (KS_up KS_rf egm_33 (by decide))) (show KS [] lg lg from KS_rf) (by decide) (by decide) (by decide)), mWord_k (DK_of (show KS [] sg sg from KS_rf) (show KS [65] gm gm_33 from (KS_up KS_rf egm_33 (by decide))) (show KS [] lg lg from KS_rf) (by decide) (by decide) (by decide)).1])
            refine mr_calli (rest := []) ⟨hx, hb, hml, hown, htb⟩ (f_gets9 l dC dI h0 ad cid sg gm_33 lg r_51 ws wg wl rs rg S hI_gm_33 hr_51 fLt_r_51 (GI0_of hgi (show KS [] sg sg from KS_rf) (show KS [65] gm gm_33 from (KS_up KS_rf egm_33 (by decide))) (show KS [] lg lg from KS_rf) (by decide) (by decide) (by decide) (by decide) (by decide) (by decide)) (PIL_k rfl rfl (up_ne egm_33 (by decide)) (up_ne egm_33 (by decide)) hpi) ((rt9_ks (L := [65]) (KS_up KS_rf egm_33 (by decide)) (by decide)).trans hRW) hRS hBR (RR_ks (L := []) (M := [65]) hRR KS_rf (KS_up KS_rf egm_33 (by decide)) (by decide) (by decide)) hf0) (cwV 1 htb (gd_V kw_1247 kw_1248 kw_112 kw_160 kw_1622) rfl rfl rfl (by decide +kernel) ⟨Nat.le_of_ble_eq_true rfl, Nat.le_of_ble_eq_true rfl⟩) rfl hl.1 rfl (Nat.le_of_ble_eq_true rfl) dX13_step_193 ⟨Nat.zero_le _, Nat.zero_le _⟩ hK hP hD hS hA (fun r_53 u_54 H locs hw hP hD hS => ?_)
            obtain ⟨sgv_55, gmv_55, lgv_55, rfl, hIv_55, ksv_55, kgv_55, klv_55, hr_53, fGI_r_53, fGt_r_53, fG9_r_53⟩ := hw
            obtain rfl := KS_nil klv_55
            have hP : va_P (dC, dI) vwCl (mW h0 ad cid sgv_55 gmv_55 lg) H := hP
            have hD : va_D A (mW h0 ad cid sgv_55 gmv_55 lg) := hD
            refine lv_if_eq (tgt := 349) hx hb dX13_step_196 (by decide) (fun c_56 => ?_) (fun c_56 => ?_)
            · have h_57 : iv 0 0 r_53 := iv_eq c_56 hr_53 (iv_k (by decide) : iv 0 0 0) (by decide)
              have hst9 : 1 ≤ (sgv_55 51).toInt ∨ STEP sg gm sgv_55 gmv_55 lg := by
                rcases fGt_r_53 with ⟨q9, _⟩ | ⟨_, q9 | ⟨b9, q9⟩⟩
                · exact absurd (congrArg Int32.toInt c_56) (by rw [q9]; decide)
                · exact Or.inl q9
                · exact Or.inr (ST_phP hI hinv hh1 (DK_of (show KS [51, 52, 63, 74] sg sgv_55 from (KS_tr (L := [51, 52, 63, 74]) KS_rf ksv_55 (by decide))) (show KS [62, 64, 65, 66, 67, 68, 69] gm gmv_55 from (KS_tr (L := [62, 64, 65, 66, 67, 68, 69]) (KS_up KS_rf egm_33 (by decide)) kgv_55 (by decide))) (show KS [] lg lg from KS_rf) (by decide) (by decide) (by decide)) (Eq.trans (kgv_55 44 (by decide)) (up_ne egm_33 (by decide))) (Eq.trans (kgv_55 45 (by decide)) (up_ne egm_33 (by decide))) rfl (Eq.trans (kgv_55 60 (by decide)) (up_ne egm_33 (by decide))) rfl rfl (up_ne egm_33 (by decide)) (up_ne egm_33 (by decide)) (show gm_33 65 = upd (gm 65) (z_1 : Int32).toNatClampNeg 2 from ((up_at egm_33).trans (by rw [show gm 65 = gm 65 from rfl]))) htop (up_ne egm_33 (by decide)) (up_ne egm_33 (by decide)) (up_ne egm_33 (by decide)) (by omega) (by rw [hph9]; rfl) (by decide) q9)
              exact W.vret hx hb hr (fun t ht hW => ⟨⟨(sgv_55, gmv_55, lg), rfl, ⟨sgv_55, gmv_55, lg, rfl, hIv_55, (KS_tr (L := [48, 49, 50, 51, 52, 63, 74]) KS_rf ksv_55 (by decide)), (KS_tr (L := [53, 54, 55, 56, 57, 58, 59, 60, 61, 62, 64, 65, 66, 67, 68, 69, 70, 71, 72, 73, 75]) (KS_up KS_rf egm_33 (by decide)) kgv_55 (by decide)), KS_rf, (fGI_r_53), (MO_of hmo (show KS [51, 52, 63, 74] sg sgv_55 from (KS_tr (L := [51, 52, 63, 74]) KS_rf ksv_55 (by decide))) (show KS [62, 64, 65, 66, 67, 68, 69] gm gmv_55 from (KS_tr (L := [62, 64, 65, 66, 67, 68, 69]) (KS_up KS_rf egm_33 (by decide)) kgv_55 (by decide))) (by decide) (by decide)), (hst9), ((OUT_1g hIV hh1 hph9 (show iv 0 80 (ws 12) from (by have q5 := hBR.1; rw [rs9_41 hRS] at q5; have q6 := (show iv 0 80 (sg 41) from MI_s hI 41); exact ⟨by rw [← q5]; exact q6.1, by rw [← q5]; exact q6.2⟩)) h7n hcb fG9_r_53 fGt_r_53 (congrArg Int32.toInt c_56) rfl htop (show gm_33 65 = upd (gm 65) (z_1 : Int32).toNatClampNeg 2 from ((up_at egm_33).trans (by rw [show gm 65 = gm 65 from rfl]))) rfl (up_ne egm_33 (by decide)) (up_ne egm_33 (by decide)) (up_ne egm_33 (by decide)) (up_ne egm_33 (by decide)) (up_ne egm_33 (by decide)) ⟨(Eq.trans (kgv_55 70 (by decide)) (up_ne egm_33 (by decide))), (Eq.trans (kgv_55 71 (by decide)) (up_ne egm_33 (by decide))), (Eq.trans (kgv_55 72 (by decide)) (up_ne egm_33 (by decide))), (Eq.trans (kgv_55 73 (by decide)) (up_ne egm_33 (by decide)))⟩))⟩, by rw [ht]; exact hP, va_K.moved hW.alike hK, hD⟩, hS.F ht⟩) hS.2.2 dX13_step_349
            · have h_58 : iv 1 1 r_53 := iv_neL c_56 hr_53 (by decide)
              refine lv_aload_n hx hb dX13_step_199 rfl (lv_at hl 2 rfl) ?_
              obtain ⟨hgo9, hsmA⟩ : 0 ≤ (sgv_55 74).toInt ∧ SAMEP sg gm_33 sgv_55 gmv_55 := by { rcases fGt_r_53 with ⟨_, q8, q9⟩ | ⟨q9, _⟩; exact ⟨q8, q9⟩; exact absurd (Int32.toInt_inj.mp q9) c_56 }
              have htA : TOPn sgv_55 = TOPn sg := by unfold TOPn; rw [hsmA.1]
              have h65A : gmv_55 65 = upd (gm 65) _ _ := hsmA.2.2.2.1.trans (show gm_33 65 = upd (gm 65) (z_1 : Int32).toNatClampNeg 2 from ((up_at egm_33).trans (by rw [show gm 65 = gm 65 from rfl])))
              have h64A : gmv_55 64 = gm 64 := hsmA.2.2.1.trans (up_ne egm_33 (by decide))
              have h66A : gmv_55 66 = gm 66 := hsmA.2.2.2.2.1.trans (up_ne egm_33 (by decide))
              have h67A : gmv_55 67 = gm 67 := hsmA.2.2.2.2.2.1.trans (up_ne egm_33 (by decide))
              have h69A : gmv_55 69 = gm 69 := hsmA.2.2.2.2.2.2.2.1.trans (up_ne egm_33 (by decide))
              have h41A : sgv_55 41 = sg 41 := (ksv_55 41 (by decide))
              have hfrA : FR sgv_55 gmv_55 lg (TOPn sgv_55) 1 := by
                unfold FR; rw [htA, h64A, h65A, h66A, h67A, h69A, htop, upd_at]
                exact FRv_k (DK_of (show KS [51, 52, 63, 74] sg sgv_55 from (KS_tr (L := [51, 52, 63, 74]) KS_rf ksv_55 (by decide))) (show KS [62, 64, 65, 66, 67, 68, 69] gm gmv_55 from (KS_tr (L := [62, 64, 65, 66, 67, 68, 69]) (KS_up KS_rf egm_33 (by decide)) kgv_55 (by decide))) (show KS [] lg lg from KS_rf) (by decide) (by decide) (by decide)) (Eq.trans (kgv_55 44 (by decide)) (up_ne egm_33 (by decide))) (Eq.trans (kgv_55 45 (by decide)) (up_ne egm_33 (by decide))) rfl (fun k q9 => by rw [(Eq.trans (kgv_55 60 (by decide)) (up_ne egm_33 (by decide)))]; exact q9) (FRv_p hfr0 (by omega) (by decide))
              have hsvA : SV4 gm gmv_55 := ⟨(Eq.trans (kgv_55 70 (by decide)) (up_ne egm_33 (by decide))), (Eq.trans (kgv_55 71 (by decide)) (up_ne egm_33 (by decide))), (Eq.trans (kgv_55 72 (by decide)) (up_ne egm_33 (by decide))), (Eq.trans (kgv_55 73 (by decide)) (up_ne egm_33 (by decide)))⟩
              refine mr_callv (rest := []) ⟨hx, hb, hml, hown, htb⟩ (f_deliver9 l dC dI h0 ad cid sgv_55 gmv_55 lg hIv_55 (DOC_of hdoc (show KS [51, 52, 63, 74] sg sgv_55 from (KS_tr (L := [51, 52, 63, 74]) KS_rf ksv_55 (by decide))) (show KS [62, 64, 65, 66, 67, 68, 69] gm gmv_55 from (KS_tr (L := [62, 64, 65, 66, 67, 68, 69]) (KS_up KS_rf egm_33 (by decide)) kgv_55 (by decide))) (show KS [] lg lg from KS_rf) (by decide) (by decide) (by decide) (by decide)) (fGI_r_53.1) (by have q9 := hsmA.1.trans rfl; rw [q9]; exact hh1) hgo9 hfrA (by rw [htA, h65A, htop, upd_at]; decide) (by rw [htA, h64A, h41A]; exact ⟨hpt.2.1, hpt.2.2⟩) ((show iv 0 6 _ from hIv_55.2 67 _ (show _ < 81 from by rw [htA]; exact tl)).1)) (cwV 0 htb (gd_V kw_1255 kw_1256 kw_116 kw_160 kw_1626) rfl rfl rfl (by decide +kernel) ⟨Nat.le_of_ble_eq_true rfl, Nat.le_of_ble_eq_true rfl⟩) rfl hl.1 rfl (Nat.le_of_ble_eq_true rfl) dX13_step_200 ⟨Nat.zero_le _, Nat.zero_le _⟩ hK hP hD hS hA (fun u_60 H locs hw hP hD hS => ?_)
              obtain ⟨sgv_61, gmv_61, lgv_61, rfl, hIv_61, ksv_61, kgv_61, klv_61, fV2_r_59, fDl_r_59, fD9_r_59⟩ := hw
              obtain rfl := KS_nil ksv_61
              obtain rfl := KS_nil klv_61
              have hP : va_P (dC, dI) vwCl (mW h0 ad cid sgv_55 gmv_61 lg) H := hP
              have hD : va_D A (mW h0 ad cid sgv_55 gmv_61 lg) := hD
              have hd1 := DL_2 fD9_r_59 (by rw [htA, h65A, htop, upd_at]; rfl)
              have h67a : gmv_61 67 = gm 67 := (DLV_2 fDl_r_59 (by rw [htA, h65A, htop, upd_at]; decide)).trans h67A
              refine lv_goto (tgt := 349) hx hb dX13_step_203 (by decide) ?_
              have h67a : gmv_61 67 = gm 67 := (DLV_2 fDl_r_59 (by rw [htA, h65A, htop, upd_at]; decide)).trans h67A
              exact W.vret hx hb hr (fun t ht hW => ⟨⟨(sgv_55, gmv_61, lg), rfl, ⟨sgv_55, gmv_61, lg, rfl, hIv_61, (KS_tr (L := [48, 49, 50, 51, 52, 63, 74]) KS_rf ksv_55 (by decide)), (KS_tr (L := [53, 54, 55, 56, 57, 58, 59, 60, 61, 62, 64, 65, 66, 67, 68, 69, 70, 71, 72, 73, 75]) (KS_tr (L := [53, 54, 55, 56, 57, 58, 59, 60, 61, 62, 64, 65, 66, 67, 68, 69, 70, 71, 72, 73, 75]) (KS_up KS_rf egm_33 (by decide)) kgv_55 (by decide)) kgv_61 (by decide)), KS_rf, (GI0_k fGI_r_53 (DK_of (show KS [] sgv_55 sgv_55 from KS_rf) (show KS [67, 68, 70, 71, 72, 73] gmv_55 gmv_61 from (KS_tr (L := [67, 68, 70, 71, 72, 73]) KS_rf kgv_61 (by decide))) (show KS [] lg lg from KS_rf) (by decide) (by decide) (by decide)) ((show KS [] lg lg from KS_rf) 1 (by decide)) ((show KS [67, 68, 70, 71, 72, 73] gmv_55 gmv_61 from (KS_tr (L := [67, 68, 70, 71, 72, 73]) KS_rf kgv_61 (by decide))) 60 (by decide)) ((show KS [67, 68, 70, 71, 72, 73] gmv_55 gmv_61 from (KS_tr (L := [67, 68, 70, 71, 72, 73]) KS_rf kgv_61 (by decide))) 61 (by decide)) ((show KS [67, 68, 70, 71, 72, 73] gmv_55 gmv_61 from (KS_tr (L := [67, 68, 70, 71, 72, 73]) KS_rf kgv_61 (by decide))) 62 (by decide)) (fV2_r_59) ((show KS [] sgv_55 sgv_55 from KS_rf) 50 (by decide))), (MO_of hmo (show KS [51, 52, 63, 74] sg sgv_55 from (KS_tr (L := [51, 52, 63, 74]) KS_rf ksv_55 (by decide))) (show KS [62, 64, 65, 66, 67, 68, 69, 70, 71, 72, 73] gm gmv_61 from (KS_tr (L := [62, 64, 65, 66, 67, 68, 69, 70, 71, 72, 73]) (KS_tr (L := [62, 64, 65, 66, 67, 68, 69, 70, 71, 72, 73]) (KS_up KS_rf egm_33 (by decide)) kgv_55 (by decide)) kgv_61 (by decide))) (by decide) (by decide)), (Or.inr (ST_ph hI hdoc hinv hh1 (DK_of (show KS [51, 52, 63, 74] sg sgv_55 from (KS_tr (L := [51, 52, 63, 74]) KS_rf ksv_55 (by decide))) (show KS [62, 64, 65, 66, 67, 68, 69, 70, 71, 72, 73] gm gmv_61 from (KS_tr (L := [62, 64, 65, 66, 67, 68, 69, 70, 71, 72, 73]) (KS_tr (L := [62, 64, 65, 66, 67, 68, 69, 70, 71, 72, 73]) (KS_up KS_rf egm_33 (by decide)) kgv_55 (by decide)) kgv_61 (by decide))) (show KS [] lg lg from KS_rf) (by decide) (by decide) (by decide)) (Eq.trans (Eq.trans (kgv_61 44 (by decide)) (kgv_55 44 (by decide))) (up_ne egm_33 (by decide))) (Eq.trans (Eq.trans (kgv_61 45 (by decide)) (kgv_55 45 (by decide))) (up_ne egm_33 (by decide))) rfl (Eq.trans (Eq.trans (kgv_61 60 (by decide)) (kgv_55 60 (by decide))) (up_ne egm_33 (by decide))) (((show KS [] sgv_55 sgv_55 from KS_rf) 63 (by decide)).trans (hsmA.1.trans rfl)) (((show KS [67, 68, 70, 71, 72, 73] gmv_55 gmv_61 from (KS_tr (L := [67, 68, 70, 71, 72, 73]) KS_rf kgv_61 (by decide))) 62 (by decide)).trans (hsmA.2.1.trans (up_ne egm_33 (by decide)))) (((show KS [67, 68, 70, 71, 72, 73] gmv_55 gmv_61 from (KS_tr (L := [67, 68, 70, 71, 72, 73]) KS_rf kgv_61 (by decide))) 64 (by decide)).trans (hsmA.2.2.1.trans (up_ne egm_33 (by decide)))) (((show KS [67, 68, 70, 71, 72, 73] gmv_55 gmv_61 from (KS_tr (L := [67, 68, 70, 71, 72, 73]) KS_rf kgv_61 (by decide))) 65 (by decide)).trans h65A) htop (((show KS [67, 68, 70, 71, 72, 73] gmv_55 gmv_61 from (KS_tr (L := [67, 68, 70, 71, 72, 73]) KS_rf kgv_61 (by decide))) 66 (by decide)).trans (hsmA.2.2.2.2.1.trans (up_ne egm_33 (by decide)))) h67a (((show KS [67, 68, 70, 71, 72, 73] gmv_55 gmv_61 from (KS_tr (L := [67, 68, 70, 71, 72, 73]) KS_rf kgv_61 (by decide))) 69 (by decide)).trans (hsmA.2.2.2.2.2.2.2.1.trans (up_ne egm_33 (by decide)))) (by omega) (by rw [hph9]; rfl))), ((OUT_12 hIV hh1 hph9 (fun q => h7n q.2) (fun n9 => (oFa_g (show iv 0 80 (ws 12) from (by have q5 := hBR.1; rw [rs9_41 hRS] at q5; have q6 := (show iv 0 80 (sg 41) from MI_s hI 41); exact ⟨by rw [← q5]; exact q6.1, by rw [← q5]; exact q6.2⟩)) h7n).trans (by rw [← hcb]; exact (FG_1 fG9_r_53 (fun q9 => c_56 (Int32.toInt_inj.mp q9))).2.2 n9)) (Or.inr ⟨(gt_v hIV.1 ((FG_1 fG9_r_53 (fun q9 => c_56 (Int32.toInt_inj.mp q9))).2.2 0)).1, (gt_v hIV.1 ((FG_1 fG9_r_53 (fun q9 => c_56 (Int32.toInt_inj.mp q9))).2.2 0)).2, h7n⟩) (RR_ks (FG_1 fG9_r_53 (fun q9 => c_56 (Int32.toInt_inj.mp q9))).2.1 (KS_rf (L := [])) (show KS [67, 68, 70, 71, 72, 73] gmv_55 gmv_61 from (KS_tr (L := [67, 68, 70, 71, 72, 73]) KS_rf kgv_61 (by decide))) (by decide) (by decide)) (FG_1 fG9_r_53 (fun q9 => c_56 (Int32.toInt_inj.mp q9))).1 (hsmA.1.trans rfl) htop (((show KS [67, 68, 70, 71, 72, 73] gmv_55 gmv_61 from (KS_tr (L := [67, 68, 70, 71, 72, 73]) KS_rf kgv_61 (by decide))) 65 (by decide)).trans h65A) rfl (((show KS [67, 68, 70, 71, 72, 73] gmv_55 gmv_61 from (KS_tr (L := [67, 68, 70, 71, 72, 73]) KS_rf kgv_61 (by decide))) 64 (by decide)).trans (hsmA.2.2.1.trans (up_ne egm_33 (by decide)))) (((show KS [67, 68, 70, 71, 72, 73] gmv_55 gmv_61 from (KS_tr (L := [67, 68, 70, 71, 72, 73]) KS_rf kgv_61 (by decide))) 66 (by decide)).trans (hsmA.2.2.2.2.1.trans (up_ne egm_33 (by decide)))) h67a (fun j hj => by rw [hd1.1, upd_ne (by rw [htA]; omega), hsmA.2.2.2.2.2.2.1, show gm_33 68 = gm 68 from (up_ne egm_33 (by decide))]) (by rw [hd1.1, htA, upd_at]) (((show KS [67, 68, 70, 71, 72, 73] gmv_55 gmv_61 from (KS_tr (L := [67, 68, 70, 71, 72, 73]) KS_rf kgv_61 (by decide))) 69 (by decide)).trans (hsmA.2.2.2.2.2.2.2.1.trans (up_ne egm_33 (by decide)))) (⟨hd1.2.1.trans hsvA.1, hd1.2.2.1.trans hsvA.2.1, hd1.2.2.2.1.trans hsvA.2.2.1, hd1.2.2.2.2.trans hsvA.2.2.2⟩)))⟩, by rw [ht]; exact hP, va_K.moved hW.alike hK, hD⟩, hS.F ht⟩) hS.2.2 dX13_step_349
    · have h_62 : iv (-1) (-1) r_29 := iv_eq c_31 hr_29 (iv_k (by decide) : iv (-1) (-1) (-1)) (by decide)
      refine lv_aload_n hx hb dX13_step_118 rfl (lv_at hl 2 rfl) ?_
      refine lv_iload_n hx hb dX13_step_119 rfl (lv_at hl 0 rfl) ?_
      refine lv_ldc2 (own := RX13) (v := 28817527407604345) hx hb hown (htb _ kw_1186) dX13_step_120 ?_
      refine mr_calli (rest := []) ⟨hx, hb, hml, hown, htb⟩ (f_tells l dC dI h0 ad cid sg gm lg z_2 28817527407604345 hI (iv_w hz_2 (by decide)) hbl9 (hdoc.1.2.2.2)) (cwV 2 htb (gd_V kw_1263 kw_1264 kw_120 kw_160 kw_1630) rfl rfl rfl (by decide +kernel) ⟨Nat.le_of_ble_eq_true rfl, Nat.le_of_ble_eq_true rfl⟩) rfl hl.1 rfl (Nat.le_of_ble_eq_true rfl) dX13_step_123 ⟨Nat.zero_le _, Nat.zero_le _⟩ hK hP hD hS hA (fun r_63 u_64 H locs hw hP hD hS => ?_)
      obtain ⟨hr_63, fL_r_63, rfl⟩ := hw
      have hP : va_P (dC, dI) vwCl (mW h0 ad cid sg gm lg) H := hP
      have hD : va_D A (mW h0 ad cid sg gm lg) := hD
      refine lv_iconst (v := (-1)) hx hb dX13_step_126 (by decide) ?_
      refine lv_icmp_ne (tgt := 135) hx hb dX13_step_127 (by decide) (fun c_65 => ?_) (fun c_65 => ?_)
      · have h_66 : iv 0 79 r_63 := iv_neL c_65 hr_63 (by decide)
        refine lv_aload_n hx hb dX13_step_135 rfl (lv_at hl 2 rfl) ?_
        refine mr_get (v := .ref (ad 65)) hx hb htb inX13 hown hK hP 65 (by decide) (htb _ kw_1092) rfl dX13_step_136 ?_
        refine lv_iload_n hx hb dX13_step_139 rfl (lv_at hl 1 rfl) ?_
        refine lv_iconst (v := 2) hx hb dX13_step_140 (by decide) ?_
        refine ma_iast (x := 2) hx hb hK hP hD hS 50 (k := 65) rfl rfl rfl (show vp_in z_1 81 from (iv_in hz_1 (by decide))) dX13_step_141 (fun gm_67 H locs egm_67 hP hD hS => ?_)
        have hI_gm_67 := MI_st hI egm_67 (iv_k (by decide) : iv 2 2 2) (by decide)
        refine lv_aload_n hx hb dX13_step_142 rfl (lv_at hl 2 rfl) ?_
        refine mr_get (v := .int (sg 51)) hx hb htb inX13 hown hK hP 51 (by decide) (htb _ kw_1078) rfl dX13_step_143 ?_
        refine lv_if_ne (tgt := 349) hx hb dX13_step_146 (by decide) (fun c_68 => ?_) (fun c_68 => ?_)
        · have h_69 : iv 1 8 (sg 51) := iv_neL c_68 (show iv 0 8 (sg 51) from MI_s hI 51) (by decide)
          exfalso; have := hf0; have := i32_0; have := i32_1; have := i32_2; have := i32_m1; have := (show iv 0 8 (sg 51) from MI_s hI 51).1; have := (show iv 0 8 (sg 51) from MI_s hI 51).2; have := (h63).1; have := (h63).2; have := (hz_1).1; have := (hz_1).2; have := (hz_2).1; have := (hz_2).2; have := (h_28).1; have := (h_28).2; have := (h_62).1; have := (h_62).2; have := (h_66).1; have := (h_66).2; have := (h_69).1; have := (h_69).2; omega
        · have h_70 : iv 0 0 (sg 51) := iv_eq c_68 (show iv 0 8 (sg 51) from MI_s hI 51) (iv_k (by decide) : iv 0 0 0) (by decide)
          refine lv_aload_n hx hb dX13_step_149 rfl (lv_at hl 2 rfl) ?_
          refine lv_iload_n hx hb dX13_step_150 rfl (lv_at hl 0 rfl) ?_
          refine lv_ldc2 (own := RX13) (v := 28817527407604345) hx hb hown (htb _ kw_1186) dX13_step_151 ?_
          refine mr_calli (rest := []) ⟨hx, hb, hml, hown, htb⟩ (f_tells l dC dI h0 ad cid sg gm_67 lg z_2 28817527407604345 hI_gm_67 (iv_w hz_2 (by decide)) hbl9 ((DOC_of hdoc (show KS [] sg sg from KS_rf) (show KS [65] gm gm_67 from (KS_up KS_rf egm_67 (by decide))) (show KS [] lg lg from KS_rf) (by decide) (by decide) (by decide) (by decide)).1.2.2.2)) (cwV 2 htb (gd_V kw_1263 kw_1264 kw_120 kw_160 kw_1630) rfl rfl rfl (by decide +kernel) ⟨Nat.le_of_ble_eq_true rfl, Nat.le_of_ble_eq_true rfl⟩) rfl hl.1 rfl (Nat.le_of_ble_eq_true rfl) dX13_step_154 ⟨Nat.zero_le _, Nat.zero_le _⟩ hK hP hD hS hA (fun r_71 u_72 H locs hw hP hD hS => ?_)
          obtain ⟨hr_71, fL_r_71, rfl⟩ := hw
          have hP : va_P (dC, dI) vwCl (mW h0 ad cid sg gm_67 lg) H := hP
          have hD : va_D A (mW h0 ad cid sg gm_67 lg) := hD
          refine lv_iconst (v := (-1)) hx hb dX13_step_157 (by decide) ?_
          refine lv_icmp_eq (tgt := 349) hx hb dX13_step_158 (by decide) (fun c_73 => ?_) (fun c_73 => ?_)
          · have h_74 : iv (-1) (-1) r_71 := iv_eq c_73 hr_71 (iv_k (by decide) : iv (-1) (-1) (-1)) (by decide)
            exact W.vret hx hb hr (fun t ht hW => ⟨⟨(sg, gm_67, lg), rfl, ⟨sg, gm_67, lg, rfl, hI_gm_67, KS_rf, (KS_up KS_rf egm_67 (by decide)), KS_rf, (GI0_of hgi (show KS [] sg sg from KS_rf) (show KS [65] gm gm_67 from (KS_up KS_rf egm_67 (by decide))) (show KS [] lg lg from KS_rf) (by decide) (by decide) (by decide) (by decide) (by decide) (by decide)), (MO_of hmo (show KS [] sg sg from KS_rf) (show KS [65] gm gm_67 from (KS_up KS_rf egm_67 (by decide))) (by decide) (by decide)), (Or.inr (ST_ph hI hdoc hinv hh1 (DK_of (show KS [] sg sg from KS_rf) (show KS [65] gm gm_67 from (KS_up KS_rf egm_67 (by decide))) (show KS [] lg lg from KS_rf) (by decide) (by decide) (by decide)) (up_ne egm_67 (by decide)) (up_ne egm_67 (by decide)) rfl (up_ne egm_67 (by decide)) rfl (up_ne egm_67 (by decide)) (up_ne egm_67 (by decide)) (show gm_67 65 = upd (gm 65) (z_1 : Int32).toNatClampNeg 2 from ((up_at egm_67).trans (by rw [show gm 65 = gm 65 from rfl]))) htop (up_ne egm_67 (by decide)) (up_ne egm_67 (by decide)) (up_ne egm_67 (by decide)) (by omega) (by rw [hph9]; rfl))), ((OUT_12 hIV hh1 hph9 (fun q => absurd ((BR_7 hBR hRW hRS hpt.2.1 hpt.2.2).1.mpr q).2 (by rw [← (show r_63 = mTel sg gm lg (gm 64 (TOPn sg)) 28817527407604345 from (by have q9 := fL_r_63; rw [heb] at q9; exact q9))]; exact c_65)) (fun n9 => oFa_0 (Decidable.byContradiction (fun q => absurd (((BR_7 hBR hRW hRS hpt.2.1 hpt.2.2).2.1.mpr q).1) (fun q8 => q8 (by rw [← (show r_71 = mTel sg gm lg (gm 64 (TOPn sg)) 28817527407604345 from (by have q9 := fL_r_71; rw [heb, mTel_k (DK_of (show KS [] sg sg from KS_rf) (show KS [65] gm gm_67 from (KS_up KS_rf egm_67 (by decide))) (show KS [] lg lg from KS_rf) (by decide) (by decide) (by decide))] at q9; exact q9))]; exact c_73))))) (Or.inl rfl) (RR_ks (L := []) (M := [65]) hRR KS_rf (KS_up KS_rf egm_67 (by decide)) (by decide) (by decide)) (by have := hf0; have := i32_0; have := i32_1; have := i32_2; have := i32_m1; have := (show iv 0 8 (sg 51) from MI_s hI 51).1; have := (show iv 0 8 (sg 51) from MI_s hI 51).2; have := (h63).1; have := (h63).2; have := (hz_1).1; have := (hz_1).2; have := (hz_2).1; have := (hz_2).2; have := (h_28).1; have := (h_28).2; have := (h_62).1; have := (h_62).2; have := (h_66).1; have := (h_66).2; have := (h_70).1; have := (h_70).2; have := (h_74).1; have := (h_74).2; omega) rfl htop (show gm_67 65 = upd (gm 65) (z_1 : Int32).toNatClampNeg 2 from ((up_at egm_67).trans (by rw [show gm 65 = gm 65 from rfl]))) rfl (up_ne egm_67 (by decide)) (up_ne egm_67 (by decide)) (up_ne egm_67 (by decide)) (fun j hj => by rw [(up_ne egm_67 (by decide))]) (by rw [(up_ne egm_67 (by decide))]; have hm := IV_m hIV hh1; rw [hm.2.2.2.1]; exact hm.2.2.2.2.2.1 (by have := hm.2.1; omega)) (up_ne egm_67 (by decide)) ⟨(up_ne egm_67 (by decide)), (up_ne egm_67 (by decide)), (up_ne egm_67 (by decide)), (up_ne egm_67 (by decide))⟩))⟩, by rw [ht]; exact hP, va_K.moved hW.alike hK, hD⟩, hS.F ht⟩) hS.2.2 dX13_step_349
          · have h_75 : iv 0 79 r_71 := iv_neL c_73 hr_71 (by decide)
            refine lv_aload_n hx hb dX13_step_161 rfl (lv_at hl 2 rfl) ?_
            refine lv_iload_n hx hb dX13_step_162 rfl (lv_at hl 0 rfl) ?_
            refine lv_ldc2 (own := RX13) (v := 120282512125796) hx hb hown (htb _ kw_1187) dX13_step_163 ?_
            refine mr_calli (rest := []) ⟨hx, hb, hml, hown, htb⟩ (f_tells l dC dI h0 ad cid sg gm_67 lg z_2 120282512125796 hI_gm_67 (iv_w hz_2 (by decide)) hbl9 ((DOC_of hdoc (show KS [] sg sg from KS_rf) (show KS [65] gm gm_67 from (KS_up KS_rf egm_67 (by decide))) (show KS [] lg lg from KS_rf) (by decide) (by decide) (by decide) (by decide)).1.2.2.2)) (cwV 2 htb (gd_V kw_1263 kw_1264 kw_120 kw_160 kw_1630) rfl rfl rfl (by decide +kernel) ⟨Nat.le_of_ble_eq_true rfl, Nat.le_of_ble_eq_true rfl⟩) rfl hl.1 rfl (Nat.le_of_ble_eq_true rfl) dX13_step_166 ⟨Nat.zero_le _, Nat.zero_le _⟩ hK hP hD hS hA (fun r_76 u_77 H locs hw hP hD hS => ?_)
            obtain ⟨hr_76, fL_r_76, rfl⟩ := hw
            have hP : va_P (dC, dI) vwCl (mW h0 ad cid sg gm_67 lg) H := hP
            have hD : va_D A (mW h0 ad cid sg gm_67 lg) := hD
            refine lv_iconst (v := (-1)) hx hb dX13_step_169 (by decide) ?_
            refine lv_icmp_eq (tgt := 349) hx hb dX13_step_170 (by decide) (fun c_78 => ?_) (fun c_78 => ?_)
            · have h_79 : iv (-1) (-1) r_76 := iv_eq c_78 hr_76 (iv_k (by decide) : iv (-1) (-1) (-1)) (by decide)
              exact W.vret hx hb hr (fun t ht hW => ⟨⟨(sg, gm_67, lg), rfl, ⟨sg, gm_67, lg, rfl, hI_gm_67, KS_rf, (KS_up KS_rf egm_67 (by decide)), KS_rf, (GI0_of hgi (show KS [] sg sg from KS_rf) (show KS [65] gm gm_67 from (KS_up KS_rf egm_67 (by decide))) (show KS [] lg lg from KS_rf) (by decide) (by decide) (by decide) (by decide) (by decide) (by decide)), (MO_of hmo (show KS [] sg sg from KS_rf) (show KS [65] gm gm_67 from (KS_up KS_rf egm_67 (by decide))) (by decide) (by decide)), (Or.inr (ST_ph hI hdoc hinv hh1 (DK_of (show KS [] sg sg from KS_rf) (show KS [65] gm gm_67 from (KS_up KS_rf egm_67 (by decide))) (show KS [] lg lg from KS_rf) (by decide) (by decide) (by decide)) (up_ne egm_67 (by decide)) (up_ne egm_67 (by decide)) rfl (up_ne egm_67 (by decide)) rfl (up_ne egm_67 (by decide)) (up_ne egm_67 (by decide)) (show gm_67 65 = upd (gm 65) (z_1 : Int32).toNatClampNeg 2 from ((up_at egm_67).trans (by rw [show gm 65 = gm 65 from rfl]))) htop (up_ne egm_67 (by decide)) (up_ne egm_67 (by decide)) (up_ne egm_67 (by decide)) (by omega) (by rw [hph9]; rfl))), ((OUT_12 hIV hh1 hph9 (fun q => absurd ((BR_7 hBR hRW hRS hpt.2.1 hpt.2.2).1.mpr q).2 (by rw [← (show r_63 = mTel sg gm lg (gm 64 (TOPn sg)) 28817527407604345 from (by have q9 := fL_r_63; rw [heb] at q9; exact q9))]; exact c_65)) (fun n9 => oFa_0 (Decidable.byContradiction (fun q => absurd (((BR_7 hBR hRW hRS hpt.2.1 hpt.2.2).2.1.mpr q).2) (fun q8 => q8 (by rw [← (show r_76 = mTel sg gm lg (gm 64 (TOPn sg)) 120282512125796 from (by have q9 := fL_r_76; rw [heb, mTel_k (DK_of (show KS [] sg sg from KS_rf) (show KS [65] gm gm_67 from (KS_up KS_rf egm_67 (by decide))) (show KS [] lg lg from KS_rf) (by decide) (by decide) (by decide))] at q9; exact q9))]; exact c_78))))) (Or.inl rfl) (RR_ks (L := []) (M := [65]) hRR KS_rf (KS_up KS_rf egm_67 (by decide)) (by decide) (by decide)) (by have := hf0; have := i32_0; have := i32_1; have := i32_2; have := i32_m1; have := (show iv 0 8 (sg 51) from MI_s hI 51).1; have := (show iv 0 8 (sg 51) from MI_s hI 51).2; have := (h63).1; have := (h63).2; have := (hz_1).1; have := (hz_1).2; have := (hz_2).1; have := (hz_2).2; have := (h_28).1; have := (h_28).2; have := (h_62).1; have := (h_62).2; have := (h_66).1; have := (h_66).2; have := (h_70).1; have := (h_70).2; have := (h_75).1; have := (h_75).2; have := (h_79).1; have := (h_79).2; omega) rfl htop (show gm_67 65 = upd (gm 65) (z_1 : Int32).toNatClampNeg 2 from ((up_at egm_67).trans (by rw [show gm 65 = gm 65 from rfl]))) rfl (up_ne egm_67 (by decide)) (up_ne egm_67 (by decide)) (up_ne egm_67 (by decide)) (fun j hj => by rw [(up_ne egm_67 (by decide))]) (by rw [(up_ne egm_67 (by decide))]; have hm := IV_m hIV hh1; rw [hm.2.2.2.1]; exact hm.2.2.2.2.2.1 (by have := hm.2.1; omega)) (up_ne egm_67 (by decide)) ⟨(up_ne egm_67 (by decide)), (up_ne egm_67 (by decide)), (up_ne egm_67 (by decide)), (up_ne egm_67 (by decide))⟩))⟩, by rw [ht]; exact hP, va_K.moved hW.alike hK, hD⟩, hS.F ht⟩) hS.2.2 dX13_step_349
            · have h_80 : iv 0 79 r_76 := iv_neL c_78 hr_76 (by decide)
              have h7n : ¬ wl 7 (gm 64 (TOPn sg)).toNatClampNeg = 0 := (BR_7 hBR hRW hRS hpt.2.1 hpt.2.2).2.1.mp ⟨(by rw [← (show r_71 = mTel sg gm lg (gm 64 (TOPn sg)) 28817527407604345 from (by have q9 := fL_r_71; rw [heb, mTel_k (DK_of (show KS [] sg sg from KS_rf) (show KS [65] gm gm_67 from (KS_up KS_rf egm_67 (by decide))) (show KS [] lg lg from KS_rf) (by decide) (by decide) (by decide))] at q9; exact q9))]; exact c_73), (by rw [← (show r_76 = mTel sg gm lg (gm 64 (TOPn sg)) 120282512125796 from (by have q9 := fL_r_76; rw [heb, mTel_k (DK_of (show KS [] sg sg from KS_rf) (show KS [65] gm gm_67 from (KS_up KS_rf egm_67 (by decide))) (show KS [] lg lg from KS_rf) (by decide) (by decide) (by decide))] at q9; exact q9))]; exact c_78)⟩
              refine lv_aload_n hx hb dX13_step_173 rfl (lv_at hl 2 rfl) ?_
              refine lv_aload_n hx hb dX13_step_174 rfl (lv_at hl 2 rfl) ?_
              refine lv_aload_n hx hb dX13_step_175 rfl (lv_at hl 2 rfl) ?_
              refine lv_aload_n hx hb dX13_step_176 rfl (lv_at hl 2 rfl) ?_
              refine lv_iload_n hx hb dX13_step_177 rfl (lv_at hl 0 rfl) ?_
              refine lv_ldc2 (own := RX13) (v := 28817527407604345) hx hb hown (htb _ kw_1186) dX13_step_178 ?_
              refine mr_calli (rest := [.ref h0, .ref h0, .ref h0]) ⟨hx, hb, hml, hown, htb⟩ (f_tells l dC dI h0 ad cid sg gm_67 lg z_2 28817527407604345 hI_gm_67 (iv_w hz_2 (by decide)) hbl9 ((DOC_of hdoc (show KS [] sg sg from KS_rf) (show KS [65] gm gm_67 from (KS_up KS_rf egm_67 (by decide))) (show KS [] lg lg from KS_rf) (by decide) (by decide) (by decide) (by decide)).1.2.2.2)) (cwV 2 htb (gd_V kw_1263 kw_1264 kw_120 kw_160 kw_1630) rfl rfl rfl (by decide +kernel) ⟨Nat.le_of_ble_eq_true rfl, Nat.le_of_ble_eq_true rfl⟩) rfl hl.1 rfl (Nat.le_of_ble_eq_true rfl) dX13_step_181 ⟨Nat.zero_le _, Nat.zero_le _⟩ hK hP hD hS hA (fun r_81 u_82 H locs hw hP hD hS => ?_)
              obtain ⟨hr_81, fL_r_81, rfl⟩ := hw
              have hP : va_P (dC, dI) vwCl (mW h0 ad cid sg gm_67 lg) H := hP
              have hD : va_D A (mW h0 ad cid sg gm_67 lg) := hD
              have h184 : iv 0 79 r_81 := iv_neL (b := 79) (by rw [fL_r_81, ← fL_r_71]; exact c_73) hr_81 (by decide)
              refine lv_ldc2 (own := RX13) (v := 28817527407604345) hx hb hown (htb _ kw_1186) dX13_step_184 ?_
              refine mr_calll (rest := [.ref h0, .ref h0]) ⟨hx, hb, hml, hown, htb⟩ (f_word l dC dI h0 ad cid sg gm_67 lg r_81 28817527407604345 hI_gm_67 h184) (cwV 2 htb (gd_V kw_1201 kw_1202 kw_96 kw_160 kw_1603) rfl rfl rfl (by decide +kernel) ⟨Nat.le_of_ble_eq_true rfl, Nat.le_of_ble_eq_true rfl⟩) rfl hl.1 rfl (Nat.le_of_ble_eq_true rfl) dX13_step_187 ⟨Nat.zero_le _, Nat.zero_le _⟩ hK hP hD hS hA (fun r_83 u_84 H locs hw hP hD hS => ?_)
              obtain ⟨fW_r_83, rfl⟩ := hw
              have hP : va_P (dC, dI) vwCl (mW h0 ad cid sg gm_67 lg) H := hP
              have hD : va_D A (mW h0 ad cid sg gm_67 lg) := hD
              refine mr_calli (rest := [.ref h0]) ⟨hx, hb, hml, hown, htb⟩ (f_called9 l dC dI h0 ad cid sg gm_67 lg r_83 hI_gm_67) (cwV 1 htb (gd_V kw_1253 kw_1254 kw_115 kw_160 kw_1625) rfl rfl rfl (by decide +kernel) ⟨Nat.le_of_ble_eq_true rfl, Nat.le_of_ble_eq_true rfl⟩) rfl hl.1 rfl (Nat.le_of_ble_eq_true rfl) dX13_step_190 ⟨Nat.zero_le _, Nat.zero_le _⟩ hK hP hD hS hA (fun r_85 u_86 H locs hw hP hD hS => ?_)
              obtain ⟨hr_85, fLt_r_85, fCd_r_85, rfl⟩ := hw
              have hP : va_P (dC, dI) vwCl (mW h0 ad cid sg gm_67 lg) H := hP
              have hD : va_D A (mW h0 ad cid sg gm_67 lg) := hD
              have hcb : r_85.toInt = caN ws wg wl (wl 7 (gm 64 (TOPn sg)).toNatClampNeg) := (by rw [← (BR_7 hBR hRW hRS hpt.2.1 hpt.2.2).2.2 h7n, fCd_r_85, fW_r_83, (show r_81 = mTel sg gm lg (gm 64 (TOPn sg)) 28817527407604345 from (by have q9 := fL_r_81; rw [heb, mTel_k (DK_of (show KS [] sg sg from KS_rf) (show KS [65] gm gm_67 from (KS_up KS_rf egm_67 (by decide))) (show KS [] lg lg from KS_rf) (by decide) (by decide) (by decide))] at q9; exact q9))]; unfold cdR; rw [cdF_k (DK_of (show KS [] sg sg from KS_rf) (show KS [65] gm gm_67 from (KS_up KS_rf egm_67 (by decide))) (show KS [] lg lg from KS_rf) (by decide) (by decide) (by decide)), mWord_k (DK_of (show KS [] sg sg from KS_rf) (show KS [65] gm gm_67 from (KS_up KS_rf egm_67 (by decide))) (show KS [] lg lg from KS_rf) (by decide) (by decide) (by decide)).1])
              refine mr_calli (rest := []) ⟨hx, hb, hml, hown, htb⟩ (f_gets9 l dC dI h0 ad cid sg gm_67 lg r_85 ws wg wl rs rg S hI_gm_67 hr_85 fLt_r_85 (GI0_of hgi (show KS [] sg sg from KS_rf) (show KS [65] gm gm_67 from (KS_up KS_rf egm_67 (by decide))) (show KS [] lg lg from KS_rf) (by decide) (by decide) (by decide) (by decide) (by decide) (by decide)) (PIL_k rfl rfl (up_ne egm_67 (by decide)) (up_ne egm_67 (by decide)) hpi) ((rt9_ks (L := [65]) (KS_up KS_rf egm_67 (by decide)) (by decide)).trans hRW) hRS hBR (RR_ks (L := []) (M := [65]) hRR KS_rf (KS_up KS_rf egm_67 (by decide)) (by decide) (by decide)) hf0) (cwV 1 htb (gd_V kw_1247 kw_1248 kw_112 kw_160 kw_1622) rfl rfl rfl (by decide +kernel) ⟨Nat.le_of_ble_eq_true rfl, Nat.le_of_ble_eq_true rfl⟩) rfl hl.1 rfl (Nat.le_of_ble_eq_true rfl) dX13_step_193 ⟨Nat.zero_le _, Nat.zero_le _⟩ hK hP hD hS hA (fun r_87 u_88 H locs hw hP hD hS => ?_)
              obtain ⟨sgv_89, gmv_89, lgv_89, rfl, hIv_89, ksv_89, kgv_89, klv_89, hr_87, fGI_r_87, fGt_r_87, fG9_r_87⟩ := hw
              obtain rfl := KS_nil klv_89
              have hP : va_P (dC, dI) vwCl (mW h0 ad cid sgv_89 gmv_89 lg) H := hP
              have hD : va_D A (mW h0 ad cid sgv_89 gmv_89 lg) := hD
              refine lv_if_eq (tgt := 349) hx hb dX13_step_196 (by decide) (fun c_90 => ?_) (fun c_90 => ?_)
              · have h_91 : iv 0 0 r_87 := iv_eq c_90 hr_87 (iv_k (by decide) : iv 0 0 0) (by decide)
                have hst9 : 1 ≤ (sgv_89 51).toInt ∨ STEP sg gm sgv_89 gmv_89 lg := by
                  rcases fGt_r_87 with ⟨q9, _⟩ | ⟨_, q9 | ⟨b9, q9⟩⟩
                  · exact absurd (congrArg Int32.toInt c_90) (by rw [q9]; decide)
                  · exact Or.inl q9
                  · exact Or.inr (ST_phP hI hinv hh1 (DK_of (show KS [51, 52, 63, 74] sg sgv_89 from (KS_tr (L := [51, 52, 63, 74]) KS_rf ksv_89 (by decide))) (show KS [62, 64, 65, 66, 67, 68, 69] gm gmv_89 from (KS_tr (L := [62, 64, 65, 66, 67, 68, 69]) (KS_up KS_rf egm_67 (by decide)) kgv_89 (by decide))) (show KS [] lg lg from KS_rf) (by decide) (by decide) (by decide)) (Eq.trans (kgv_89 44 (by decide)) (up_ne egm_67 (by decide))) (Eq.trans (kgv_89 45 (by decide)) (up_ne egm_67 (by decide))) rfl (Eq.trans (kgv_89 60 (by decide)) (up_ne egm_67 (by decide))) rfl rfl (up_ne egm_67 (by decide)) (up_ne egm_67 (by decide)) (show gm_67 65 = upd (gm 65) (z_1 : Int32).toNatClampNeg 2 from ((up_at egm_67).trans (by rw [show gm 65 = gm 65 from rfl]))) htop (up_ne egm_67 (by decide)) (up_ne egm_67 (by decide)) (up_ne egm_67 (by decide)) (by omega) (by rw [hph9]; rfl) (by decide) q9)
                exact W.vret hx hb hr (fun t ht hW => ⟨⟨(sgv_89, gmv_89, lg), rfl, ⟨sgv_89, gmv_89, lg, rfl, hIv_89, (KS_tr (L := [48, 49, 50, 51, 52, 63, 74]) KS_rf ksv_89 (by decide)), (KS_tr (L := [53, 54, 55, 56, 57, 58, 59, 60, 61, 62, 64, 65, 66, 67, 68, 69, 70, 71, 72, 73, 75]) (KS_up KS_rf egm_67 (by decide)) kgv_89 (by decide)), KS_rf, (fGI_r_87), (MO_of hmo (show KS [51, 52, 63, 74] sg sgv_89 from (KS_tr (L := [51, 52, 63, 74]) KS_rf ksv_89 (by decide))) (show KS [62, 64, 65, 66, 67, 68, 69] gm gmv_89 from (KS_tr (L := [62, 64, 65, 66, 67, 68, 69]) (KS_up KS_rf egm_67 (by decide)) kgv_89 (by decide))) (by decide) (by decide)), (hst9), ((OUT_1g hIV hh1 hph9 (show iv 0 80 (ws 12) from (by have q5 := hBR.1; rw [rs9_41 hRS] at q5; have q6 := (show iv 0 80 (sg 41) from MI_s hI 41); exact ⟨by rw [← q5]; exact q6.1, by rw [← q5]; exact q6.2⟩)) h7n hcb fG9_r_87 fGt_r_87 (congrArg Int32.toInt c_90) rfl htop (show gm_67 65 = upd (gm 65) (z_1 : Int32).toNatClampNeg 2 from ((up_at egm_67).trans (by rw [show gm 65 = gm 65 from rfl]))) rfl (up_ne egm_67 (by decide)) (up_ne egm_67 (by decide)) (up_ne egm_67 (by decide)) (up_ne egm_67 (by decide)) (up_ne egm_67 (by decide)) ⟨(Eq.trans (kgv_89 70 (by decide)) (up_ne egm_67 (by decide))), (Eq.trans (kgv_89 71 (by decide)) (up_ne egm_67 (by decide))), (Eq.trans (kgv_89 72 (by decide)) (up_ne egm_67 (by decide))), (Eq.trans (kgv_89 73 (by decide)) (up_ne egm_67 (by decide)))⟩))⟩, by rw [ht]; exact hP, va_K.moved hW.alike hK, hD⟩, hS.F ht⟩) hS.2.2 dX13_step_349
              · have h_92 : iv 1 1 r_87 := iv_neL c_90 hr_87 (by decide)
                refine lv_aload_n hx hb dX13_step_199 rfl (lv_at hl 2 rfl) ?_
                obtain ⟨hgo9, hsmA⟩ : 0 ≤ (sgv_89 74).toInt ∧ SAMEP sg gm_67 sgv_89 gmv_89 := by { rcases fGt_r_87 with ⟨_, q8, q9⟩ | ⟨q9, _⟩; exact ⟨q8, q9⟩; exact absurd (Int32.toInt_inj.mp q9) c_90 }
                have htA : TOPn sgv_89 = TOPn sg := by unfold TOPn; rw [hsmA.1]
                have h65A : gmv_89 65 = upd (gm 65) _ _ := hsmA.2.2.2.1.trans (show gm_67 65 = upd (gm 65) (z_1 : Int32).toNatClampNeg 2 from ((up_at egm_67).trans (by rw [show gm 65 = gm 65 from rfl])))
                have h64A : gmv_89 64 = gm 64 := hsmA.2.2.1.trans (up_ne egm_67 (by decide))
                have h66A : gmv_89 66 = gm 66 := hsmA.2.2.2.2.1.trans (up_ne egm_67 (by decide))
                have h67A : gmv_89 67 = gm 67 := hsmA.2.2.2.2.2.1.trans (up_ne egm_67 (by decide))
                have h69A : gmv_89 69 = gm 69 := hsmA.2.2.2.2.2.2.2.1.trans (up_ne egm_67 (by decide))
                have h41A : sgv_89 41 = sg 41 := (ksv_89 41 (by decide))
                have hfrA : FR sgv_89 gmv_89 lg (TOPn sgv_89) 1 := by
                  unfold FR; rw [htA, h64A, h65A, h66A, h67A, h69A, htop, upd_at]
                  exact FRv_k (DK_of (show KS [51, 52, 63, 74] sg sgv_89 from (KS_tr (L := [51, 52, 63, 74]) KS_rf ksv_89 (by decide))) (show KS [62, 64, 65, 66, 67, 68, 69] gm gmv_89 from (KS_tr (L := [62, 64, 65, 66, 67, 68, 69]) (KS_up KS_rf egm_67 (by decide)) kgv_89 (by decide))) (show KS [] lg lg from KS_rf) (by decide) (by decide) (by decide)) (Eq.trans (kgv_89 44 (by decide)) (up_ne egm_67 (by decide))) (Eq.trans (kgv_89 45 (by decide)) (up_ne egm_67 (by decide))) rfl (fun k q9 => by rw [(Eq.trans (kgv_89 60 (by decide)) (up_ne egm_67 (by decide)))]; exact q9) (FRv_p hfr0 (by omega) (by decide))
                have hsvA : SV4 gm gmv_89 := ⟨(Eq.trans (kgv_89 70 (by decide)) (up_ne egm_67 (by decide))), (Eq.trans (kgv_89 71 (by decide)) (up_ne egm_67 (by decide))), (Eq.trans (kgv_89 72 (by decide)) (up_ne egm_67 (by decide))), (Eq.trans (kgv_89 73 (by decide)) (up_ne egm_67 (by decide)))⟩
                refine mr_callv (rest := []) ⟨hx, hb, hml, hown, htb⟩ (f_deliver9 l dC dI h0 ad cid sgv_89 gmv_89 lg hIv_89 (DOC_of hdoc (show KS [51, 52, 63, 74] sg sgv_89 from (KS_tr (L := [51, 52, 63, 74]) KS_rf ksv_89 (by decide))) (show KS [62, 64, 65, 66, 67, 68, 69] gm gmv_89 from (KS_tr (L := [62, 64, 65, 66, 67, 68, 69]) (KS_up KS_rf egm_67 (by decide)) kgv_89 (by decide))) (show KS [] lg lg from KS_rf) (by decide) (by decide) (by decide) (by decide)) (fGI_r_87.1) (by have q9 := hsmA.1.trans rfl; rw [q9]; exact hh1) hgo9 hfrA (by rw [htA, h65A, htop, upd_at]; decide) (by rw [htA, h64A, h41A]; exact ⟨hpt.2.1, hpt.2.2⟩) ((show iv 0 6 _ from hIv_89.2 67 _ (show _ < 81 from by rw [htA]; exact tl)).1)) (cwV 0 htb (gd_V kw_1255 kw_1256 kw_116 kw_160 kw_1626) rfl rfl rfl (by decide +kernel) ⟨Nat.le_of_ble_eq_true rfl, Nat.le_of_ble_eq_true rfl⟩) rfl hl.1 rfl (Nat.le_of_ble_eq_true rfl) dX13_step_200 ⟨Nat.zero_le _, Nat.zero_le _⟩ hK hP hD hS hA (fun u_94 H locs hw hP hD hS => ?_)
                obtain ⟨sgv_95, gmv_95, lgv_95, rfl, hIv_95, ksv_95, kgv_95, klv_95, fV2_r_93, fDl_r_93, fD9_r_93⟩ := hw
                obtain rfl := KS_nil ksv_95
                obtain rfl := KS_nil klv_95
                have hP : va_P (dC, dI) vwCl (mW h0 ad cid sgv_89 gmv_95 lg) H := hP
                have hD : va_D A (mW h0 ad cid sgv_89 gmv_95 lg) := hD
                have hd1 := DL_2 fD9_r_93 (by rw [htA, h65A, htop, upd_at]; rfl)
                have h67a : gmv_95 67 = gm 67 := (DLV_2 fDl_r_93 (by rw [htA, h65A, htop, upd_at]; decide)).trans h67A
                refine lv_goto (tgt := 349) hx hb dX13_step_203 (by decide) ?_
                have h67a : gmv_95 67 = gm 67 := (DLV_2 fDl_r_93 (by rw [htA, h65A, htop, upd_at]; decide)).trans h67A
                exact W.vret hx hb hr (fun t ht hW => ⟨⟨(sgv_89, gmv_95, lg), rfl, ⟨sgv_89, gmv_95, lg, rfl, hIv_95, (KS_tr (L := [48, 49, 50, 51, 52, 63, 74]) KS_rf ksv_89 (by decide)), (KS_tr (L := [53, 54, 55, 56, 57, 58, 59, 60, 61, 62, 64, 65, 66, 67, 68, 69, 70, 71, 72, 73, 75]) (KS_tr (L := [53, 54, 55, 56, 57, 58, 59, 60, 61, 62, 64, 65, 66, 67, 68, 69, 70, 71, 72, 73, 75]) (KS_up KS_rf egm_67 (by decide)) kgv_89 (by decide)) kgv_95 (by decide)), KS_rf, (GI0_k fGI_r_87 (DK_of (show KS [] sgv_89 sgv_89 from KS_rf) (show KS [67, 68, 70, 71, 72, 73] gmv_89 gmv_95 from (KS_tr (L := [67, 68, 70, 71, 72, 73]) KS_rf kgv_95 (by decide))) (show KS [] lg lg from KS_rf) (by decide) (by decide) (by decide)) ((show KS [] lg lg from KS_rf) 1 (by decide)) ((show KS [67, 68, 70, 71, 72, 73] gmv_89 gmv_95 from (KS_tr (L := [67, 68, 70, 71, 72, 73]) KS_rf kgv_95 (by decide))) 60 (by decide)) ((show KS [67, 68, 70, 71, 72, 73] gmv_89 gmv_95 from (KS_tr (L := [67, 68, 70, 71, 72, 73]) KS_rf kgv_95 (by decide))) 61 (by decide)) ((show KS [67, 68, 70, 71, 72, 73] gmv_89 gmv_95 from (KS_tr (L := [67, 68, 70, 71, 72, 73]) KS_rf kgv_95 (by decide))) 62 (by decide)) (fV2_r_93) ((show KS [] sgv_89 sgv_89 from KS_rf) 50 (by decide))), (MO_of hmo (show KS [51, 52, 63, 74] sg sgv_89 from (KS_tr (L := [51, 52, 63, 74]) KS_rf ksv_89 (by decide))) (show KS [62, 64, 65, 66, 67, 68, 69, 70, 71, 72, 73] gm gmv_95 from (KS_tr (L := [62, 64, 65, 66, 67, 68, 69, 70, 71, 72, 73]) (KS_tr (L := [62, 64, 65, 66, 67, 68, 69, 70, 71, 72, 73]) (KS_up KS_rf egm_67 (by decide)) kgv_89 (by decide)) kgv_95 (by decide))) (by decide) (by decide)), (Or.inr (ST_ph hI hdoc hinv hh1 (DK_of (show KS [51, 52, 63, 74] sg sgv_89 from (KS_tr (L := [51, 52, 63, 74]) KS_rf ksv_89 (by decide))) (show KS [62, 64, 65, 66, 67, 68, 69, 70, 71, 72, 73] gm gmv_95 from (KS_tr (L := [62, 64, 65, 66, 67, 68, 69, 70, 71, 72, 73]) (KS_tr (L := [62, 64, 65, 66, 67, 68, 69, 70, 71, 72, 73]) (KS_up KS_rf egm_67 (by decide)) kgv_89 (by decide)) kgv_95 (by decide))) (show KS [] lg lg from KS_rf) (by decide) (by decide) (by decide)) (Eq.trans (Eq.trans (kgv_95 44 (by decide)) (kgv_89 44 (by decide))) (up_ne egm_67 (by decide))) (Eq.trans (Eq.trans (kgv_95 45 (by decide)) (kgv_89 45 (by decide))) (up_ne egm_67 (by decide))) rfl (Eq.trans (Eq.trans (kgv_95 60 (by decide)) (kgv_89 60 (by decide))) (up_ne egm_67 (by decide))) (((show KS [] sgv_89 sgv_89 from KS_rf) 63 (by decide)).trans (hsmA.1.trans rfl)) (((show KS [67, 68, 70, 71, 72, 73] gmv_89 gmv_95 from (KS_tr (L := [67, 68, 70, 71, 72, 73]) KS_rf kgv_95 (by decide))) 62 (by decide)).trans (hsmA.2.1.trans (up_ne egm_67 (by decide)))) (((show KS [67, 68, 70, 71, 72, 73] gmv_89 gmv_95 from (KS_tr (L := [67, 68, 70, 71, 72, 73]) KS_rf kgv_95 (by decide))) 64 (by decide)).trans (hsmA.2.2.1.trans (up_ne egm_67 (by decide)))) (((show KS [67, 68, 70, 71, 72, 73] gmv_89 gmv_95 from (KS_tr (L := [67, 68, 70, 71, 72, 73]) KS_rf kgv_95 (by decide))) 65 (by decide)).trans h65A) htop (((show KS [67, 68, 70, 71, 72, 73] gmv_89 gmv_95 from (KS_tr (L := [67, 68, 70, 71, 72, 73]) KS_rf kgv_95 (by decide))) 66 (by decide)).trans (hsmA.2.2.2.2.1.trans (up_ne egm_67 (by decide)))) h67a (((show KS [67, 68, 70, 71, 72, 73] gmv_89 gmv_95 from (KS_tr (L := [67, 68, 70, 71, 72, 73]) KS_rf kgv_95 (by decide))) 69 (by decide)).trans (hsmA.2.2.2.2.2.2.2.1.trans (up_ne egm_67 (by decide)))) (by omega) (by rw [hph9]; rfl))), ((OUT_12 hIV hh1 hph9 (fun q => h7n q.2) (fun n9 => (oFa_g (show iv 0 80 (ws 12) from (by have q5 := hBR.1; rw [rs9_41 hRS] at q5; have q6 := (show iv 0 80 (sg 41) from MI_s hI 41); exact ⟨by rw [← q5]; exact q6.1, by rw [← q5]; exact q6.2⟩)) h7n).trans (by rw [← hcb]; exact (FG_1 fG9_r_87 (fun q9 => c_90 (Int32.toInt_inj.mp q9))).2.2 n9)) (Or.inr ⟨(gt_v hIV.1 ((FG_1 fG9_r_87 (fun q9 => c_90 (Int32.toInt_inj.mp q9))).2.2 0)).1, (gt_v hIV.1 ((FG_1 fG9_r_87 (fun q9 => c_90 (Int32.toInt_inj.mp q9))).2.2 0)).2, h7n⟩) (RR_ks (FG_1 fG9_r_87 (fun q9 => c_90 (Int32.toInt_inj.mp q9))).2.1 (KS_rf (L := [])) (show KS [67, 68, 70, 71, 72, 73] gmv_89 gmv_95 from (KS_tr (L := [67, 68, 70, 71, 72, 73]) KS_rf kgv_95 (by decide))) (by decide) (by decide)) (FG_1 fG9_r_87 (fun q9 => c_90 (Int32.toInt_inj.mp q9))).1 (hsmA.1.trans rfl) htop (((show KS [67, 68, 70, 71, 72, 73] gmv_89 gmv_95 from (KS_tr (L := [67, 68, 70, 71, 72, 73]) KS_rf kgv_95 (by decide))) 65 (by decide)).trans h65A) rfl (((show KS [67, 68, 70, 71, 72, 73] gmv_89 gmv_95 from (KS_tr (L := [67, 68, 70, 71, 72, 73]) KS_rf kgv_95 (by decide))) 64 (by decide)).trans (hsmA.2.2.1.trans (up_ne egm_67 (by decide)))) (((show KS [67, 68, 70, 71, 72, 73] gmv_89 gmv_95 from (KS_tr (L := [67, 68, 70, 71, 72, 73]) KS_rf kgv_95 (by decide))) 66 (by decide)).trans (hsmA.2.2.2.2.1.trans (up_ne egm_67 (by decide)))) h67a (fun j hj => by rw [hd1.1, upd_ne (by rw [htA]; omega), hsmA.2.2.2.2.2.2.1, show gm_67 68 = gm 68 from (up_ne egm_67 (by decide))]) (by rw [hd1.1, htA, upd_at]) (((show KS [67, 68, 70, 71, 72, 73] gmv_89 gmv_95 from (KS_tr (L := [67, 68, 70, 71, 72, 73]) KS_rf kgv_95 (by decide))) 69 (by decide)).trans (hsmA.2.2.2.2.2.2.2.1.trans (up_ne egm_67 (by decide)))) (⟨hd1.2.1.trans hsvA.1, hd1.2.2.1.trans hsvA.2.1, hd1.2.2.2.1.trans hsvA.2.2.1, hd1.2.2.2.2.trans hsvA.2.2.2⟩)))⟩, by rw [ht]; exact hP, va_K.moved hW.alike hK, hD⟩, hS.F ht⟩) hS.2.2 dX13_step_349
      · have h_96 : iv (-1) (-1) r_63 := iv_eq c_65 hr_63 (iv_k (by decide) : iv (-1) (-1) (-1)) (by decide)
        refine lv_aload_n hx hb dX13_step_130 rfl (lv_at hl 2 rfl) ?_
        refine lv_iconst (v := 4) hx hb dX13_step_131 (by decide) ?_
        refine mr_callv (rest := []) ⟨hx, hb, hml, hown, htb⟩ (f_fails l dC dI h0 ad cid sg gm lg 4 hI (iv_w (iv_k (by decide) : iv 4 4 4) (by decide))) (cwV 1 htb (gd_V kw_1249 kw_1250 kw_113 kw_160 kw_1623) rfl rfl rfl (by decide +kernel) ⟨Nat.le_of_ble_eq_true rfl, Nat.le_of_ble_eq_true rfl⟩) rfl hl.1 rfl (Nat.le_of_ble_eq_true rfl) dX13_step_132 ⟨Nat.zero_le _, Nat.zero_le _⟩ hK hP hD hS hA (fun u_98 H locs hw hP hD hS => ?_)
        obtain ⟨sgv_99, gmv_99, lgv_99, rfl, hIv_99, ksv_99, kgv_99, klv_99, fFl_r_97⟩ := hw
        obtain rfl := KS_nil kgv_99
        obtain rfl := KS_nil klv_99
        have hP : va_P (dC, dI) vwCl (mW h0 ad cid sgv_99 gm lg) H := hP
        have hD : va_D A (mW h0 ad cid sgv_99 gm lg) := hD
        refine lv_aload_n hx hb dX13_step_135 rfl (lv_at hl 2 rfl) ?_
        refine mr_get (v := .ref (ad 65)) hx hb htb inX13 hown hK hP 65 (by decide) (htb _ kw_1092) rfl dX13_step_136 ?_
        refine lv_iload_n hx hb dX13_step_139 rfl (lv_at hl 1 rfl) ?_
        refine lv_iconst (v := 2) hx hb dX13_step_140 (by decide) ?_
        refine ma_iast (x := 2) hx hb hK hP hD hS 50 (k := 65) rfl rfl rfl (show vp_in z_1 81 from (iv_in hz_1 (by decide))) dX13_step_141 (fun gm_100 H locs egm_100 hP hD hS => ?_)
        have hI_gm_100 := MI_st hIv_99 egm_100 (iv_k (by decide) : iv 2 2 2) (by decide)
        refine lv_aload_n hx hb dX13_step_142 rfl (lv_at hl 2 rfl) ?_
        refine mr_get (v := .int (sgv_99 51)) hx hb htb inX13 hown hK hP 51 (by decide) (htb _ kw_1078) rfl dX13_step_143 ?_
        refine lv_if_ne (tgt := 349) hx hb dX13_step_146 (by decide) (fun c_101 => ?_) (fun c_101 => ?_)
        · have h_102 : iv 1 8 (sgv_99 51) := iv_neL c_101 (show iv 0 8 (sgv_99 51) from MI_s hIv_99 51) (by decide)
          exact W.vret hx hb hr (fun t ht hW => ⟨⟨(sgv_99, gm_100, lg), rfl, ⟨sgv_99, gm_100, lg, rfl, hI_gm_100, (KS_tr (L := [48, 49, 50, 51, 52, 63, 74]) KS_rf ksv_99 (by decide)), (KS_up KS_rf egm_100 (by decide)), KS_rf, (GI0_of hgi (show KS [51, 52] sg sgv_99 from (KS_tr (L := [51, 52]) KS_rf ksv_99 (by decide))) (show KS [65] gm gm_100 from (KS_up KS_rf egm_100 (by decide))) (show KS [] lg lg from KS_rf) (by decide) (by decide) (by decide) (by decide) (by decide) (by decide)), (MO_of hmo (show KS [51, 52] sg sgv_99 from (KS_tr (L := [51, 52]) KS_rf ksv_99 (by decide))) (show KS [65] gm gm_100 from (KS_up KS_rf egm_100 (by decide))) (by decide) (by decide)), (Or.inl (by have := i32_0; have := i32_1; have := i32_2; have := i32_m1; have := (show iv 0 8 (sgv_99 51) from MI_s hIv_99 51).1; have := (show iv 0 8 (sgv_99 51) from MI_s hIv_99 51).2; have := (show iv 0 8 (sg 51) from MI_s hI 51).1; have := (show iv 0 8 (sg 51) from MI_s hI 51).2; have := (h63).1; have := (h63).2; have := (hz_1).1; have := (hz_1).2; have := (hz_2).1; have := (hz_2).2; have := (h_28).1; have := (h_28).2; have := (h_62).1; have := (h_62).2; have := (h_96).1; have := (h_96).2; have := (h_102).1; have := (h_102).2; omega)), ((OUT_14 hIV hh1 hph9 ((BR_7 hBR hRW hRS hpt.2.1 hpt.2.2).1.mp ⟨(by rw [← (show r_29 = mTel sg gm lg (gm 64 (TOPn sg)) 427020088179 from (by have q9 := fL_r_29; rw [heb] at q9; exact q9))]; exact c_31), (by rw [← (show r_63 = mTel sg gm lg (gm 64 (TOPn sg)) 28817527407604345 from (by have q9 := fL_r_63; rw [heb] at q9; exact q9))]; exact c_65)⟩) (RR_ks (L := [51, 52]) (M := [65]) hRR (KS_tr (L := [51, 52]) KS_rf ksv_99 (by decide)) (KS_up KS_rf egm_100 (by decide)) (by decide) (by decide)) (by have := i32_0; have := i32_1; have := i32_2; have := i32_m1; have := (show iv 0 8 (sgv_99 51) from MI_s hIv_99 51).1; have := (show iv 0 8 (sgv_99 51) from MI_s hIv_99 51).2; have := (show iv 0 8 (sg 51) from MI_s hI 51).1; have := (show iv 0 8 (sg 51) from MI_s hI 51).2; have := (h63).1; have := (h63).2; have := (hz_1).1; have := (hz_1).2; have := (hz_2).1; have := (hz_2).2; have := (h_28).1; have := (h_28).2; have := (h_62).1; have := (h_62).2; have := (h_96).1; have := (h_96).2; have := (h_102).1; have := (h_102).2; omega)))⟩, by rw [ht]; exact hP, va_K.moved hW.alike hK, hD⟩, hS.F ht⟩) hS.2.2 dX13_step_349
        · have h_103 : iv 0 0 (sgv_99 51) := iv_eq c_101 (show iv 0 8 (sgv_99 51) from MI_s hIv_99 51) (iv_k (by decide) : iv 0 0 0) (by decide)
          exact absurd (show (1 : Int) ≤ _ from fFl_r_97) (by have := i32_0; have := i32_1; have := i32_2; have := i32_m1; have := (show iv 0 8 (sgv_99 51) from MI_s hIv_99 51).1; have := (show iv 0 8 (sgv_99 51) from MI_s hIv_99 51).2; have := (show iv 0 8 (sg 51) from MI_s hI 51).1; have := (show iv 0 8 (sg 51) from MI_s hI 51).2; have := (h63).1; have := (h63).2; have := (hz_1).1; have := (hz_1).2; have := (hz_2).1; have := (hz_2).2; have := (h_28).1; have := (h_28).2; have := (h_62).1; have := (h_62).2; have := (h_96).1; have := (h_96).2; have := (h_103).1; have := (h_103).2; omega)
  by_cases c_104 : (z_3 : Int32).toInt = 2
  · refine lv_tableIn (tgt := 206) hx hb dX13_step_20 (by rw [c_104]; decide) (by rw [c_104]; decide) (by rw [c_104]; rfl) (by decide) ?_
    have h_105 : iv 2 2 z_3 := iv_at c_104
    have hph9 : (gm 65 (TOPn sg)).toInt = 2 := by rw [← (show z_3 = gm 65 (TOPn sg) from (by have q9 := ez_3; rw [htop] at q9; exact q9))]; exact c_104
    refine lv_aload_n hx hb dX13_step_206 rfl (lv_at hl 2 rfl) ?_
    refine mr_get (v := .ref (ad 65)) hx hb htb inX13 hown hK hP 65 (by decide) (htb _ kw_1092) rfl dX13_step_207 ?_
    refine lv_iload_n hx hb dX13_step_210 rfl (lv_at hl 1 rfl) ?_
    refine lv_iconst (v := 3) hx hb dX13_step_211 (by decide) ?_
    refine ma_iast (x := 3) hx hb hK hP hD hS 50 (k := 65) rfl rfl rfl (show vp_in z_1 81 from (iv_in hz_1 (by decide))) dX13_step_212 (fun gm_106 H locs egm_106 hP hD hS => ?_)
    have hI_gm_106 := MI_st hI egm_106 (iv_k (by decide) : iv 3 3 3) (by decide)
    refine lv_goto (tgt := 349) hx hb dX13_step_213 (by decide) ?_
    exact W.vret hx hb hr (fun t ht hW => ⟨⟨(sg, gm_106, lg), rfl, ⟨sg, gm_106, lg, rfl, hI_gm_106, KS_rf, (KS_up KS_rf egm_106 (by decide)), KS_rf, (GI0_of hgi (show KS [] sg sg from KS_rf) (show KS [65] gm gm_106 from (KS_up KS_rf egm_106 (by decide))) (show KS [] lg lg from KS_rf) (by decide) (by decide) (by decide) (by decide) (by decide) (by decide)), (MO_of hmo (show KS [] sg sg from KS_rf) (show KS [65] gm gm_106 from (KS_up KS_rf egm_106 (by decide))) (by decide) (by decide)), (Or.inr (ST_ph hI hdoc hinv hh1 (DK_of (show KS [] sg sg from KS_rf) (show KS [65] gm gm_106 from (KS_up KS_rf egm_106 (by decide))) (show KS [] lg lg from KS_rf) (by decide) (by decide) (by decide)) (up_ne egm_106 (by decide)) (up_ne egm_106 (by decide)) rfl (up_ne egm_106 (by decide)) rfl (up_ne egm_106 (by decide)) (up_ne egm_106 (by decide)) (show gm_106 65 = upd (gm 65) (z_1 : Int32).toNatClampNeg 3 from ((up_at egm_106).trans (by rw [show gm 65 = gm 65 from rfl]))) htop (up_ne egm_106 (by decide)) (up_ne egm_106 (by decide)) (up_ne egm_106 (by decide)) (by omega) (by rw [hph9]; rfl))), ((OUT_23 hIV hh1 hph9 (hfr0.2.1 (by omega)) (RR_ks (L := []) (M := [65]) hRR KS_rf (KS_up KS_rf egm_106 (by decide)) (by decide) (by decide)) (by have := hf0; have := i32_0; have := i32_1; have := i32_2; have := i32_m1; have := (show iv 0 8 (sg 51) from MI_s hI 51).1; have := (show iv 0 8 (sg 51) from MI_s hI 51).2; have := (h63).1; have := (h63).2; have := (hz_1).1; have := (hz_1).2; have := (hz_2).1; have := (hz_2).2; have := (h_105).1; have := (h_105).2; omega) rfl htop (show gm_106 65 = upd (gm 65) (z_1 : Int32).toNatClampNeg 3 from ((up_at egm_106).trans (by rw [show gm 65 = gm 65 from rfl]))) rfl (up_ne egm_106 (by decide)) (up_ne egm_106 (by decide)) (up_ne egm_106 (by decide)) (up_ne egm_106 (by decide)) (up_ne egm_106 (by decide)) ⟨(up_ne egm_106 (by decide)), (up_ne egm_106 (by decide)), (up_ne egm_106 (by decide)), (up_ne egm_106 (by decide))⟩))⟩, by rw [ht]; exact hP, va_K.moved hW.alike hK, hD⟩, hS.F ht⟩) hS.2.2 dX13_step_349
  by_cases c_107 : (z_3 : Int32).toInt = 3
  · refine lv_tableIn (tgt := 216) hx hb dX13_step_20 (by rw [c_107]; decide) (by rw [c_107]; decide) (by rw [c_107]; rfl) (by decide) ?_
    have h_108 : iv 3 3 z_3 := iv_at c_107
    have hph9 : (gm 65 (TOPn sg)).toInt = 3 := by rw [← (show z_3 = gm 65 (TOPn sg) from (by have q9 := ez_3; rw [htop] at q9; exact q9))]; exact c_107
    refine lv_aload_n hx hb dX13_step_216 rfl (lv_at hl 2 rfl) ?_
    refine mr_get (v := .ref (ad 66)) hx hb htb inX13 hown hK hP 66 (by decide) (htb _ kw_1093) rfl dX13_step_217 ?_
    refine lv_iload_n hx hb dX13_step_220 rfl (lv_at hl 1 rfl) ?_
    refine mr_iald hx hb hK hP 51 (k := 66) rfl rfl rfl (show vp_in z_1 81 from (iv_in hz_1 (by decide))) dX13_step_221 ?_
    refine lv_topi (fun z_109 ez_109 => ?_)
    have hz_109 : iv 0 26 z_109 := iv_of ez_109 (MI_a hI 66 hz_1 (by decide))
    refine lv_aload_n hx hb dX13_step_222 rfl (lv_at hl 2 rfl) ?_
    refine lv_iload_n hx hb dX13_step_223 rfl (lv_at hl 0 rfl) ?_
    refine mr_calli (rest := [.int z_109]) ⟨hx, hb, hml, hown, htb⟩ (f_args l dC dI h0 ad cid sg gm lg z_2 hI hz_2 hbl9 (hdoc.1.2.2.2) (hdoc.1.2.1)) (cwV 1 htb (gd_V kw_1265 kw_1266 kw_121 kw_160 kw_1631) rfl rfl rfl (by decide +kernel) ⟨Nat.le_of_ble_eq_true rfl, Nat.le_of_ble_eq_true rfl⟩) rfl hl.1 rfl (Nat.le_of_ble_eq_true rfl) dX13_step_224 ⟨Nat.zero_le _, Nat.zero_le _⟩ hK hP hD hS hA (fun r_110 u_111 H locs hw hP hD hS => ?_)
    obtain ⟨hr_110, fAa_r_110, fAz_r_110, rfl⟩ := hw
    have hP : va_P (dC, dI) vwCl (mW h0 ad cid sg gm lg) H := hP
    have hD : va_D A (mW h0 ad cid sg gm lg) := hD
    refine lv_icmp_ge (tgt := 263) hx hb dX13_step_227 (by decide) (fun c_112 => ?_) (fun c_112 => ?_)
    · have d_113 : (r_110 : Int32).toInt ≤ (z_109 : Int32).toInt := Int32.le_iff_toInt_le.mp c_112
      have hix9 : z_109 = gm 66 (TOPn sg) := (show z_109 = gm 66 (TOPn sg) from (by have q9 := ez_109; rw [htop] at q9; exact q9))
      have hma9 : mArg sg gm lg (gm 64 (TOPn sg)) (gm 66 (TOPn sg)).toNatClampNeg = -1 := by
        have k1 := iv_cl hz_109 (by decide)
        have k2 := iv_cl hr_110 (by decide)
        have k3 : r_110.toInt ≤ z_109.toInt := by have := i32_0; have := i32_1; have := i32_2; have := i32_m1; have := (h63).1; have := (h63).2; have := (hz_1).1; have := (hz_1).2; have := (hz_2).1; have := (hz_2).2; have := (h_108).1; have := (h_108).2; have := (hz_109).1; have := (hz_109).2; have := (hr_110).1; have := (hr_110).2; omega
        have q8 := fAz_r_110
        rw [heb] at q8
        have q7 : ¬ r_110.toNatClampNeg < (gm 66 (TOPn sg)).toNatClampNeg := fun q6 => hfr0.2.2.1 hph9 _ (Nat.zero_le _) q6 q8
        rw [← hix9] at q7 ⊢
        rw [show z_109.toNatClampNeg = r_110.toNatClampNeg by omega]; exact q8
      have hn41 : r_110.toInt = (wg 41 (3 * (gm 64 (TOPn sg)).toNatClampNeg)).toInt := (by have q9 := BR_n hBR hRW hRS (b := z_2) hz_2 hbl9 (hr_110).1 fAa_r_110 fAz_r_110; rw [heb] at q9; exact q9)
      have hx9 : ¬ (gm 66 (TOPn sg)).toNatClampNeg < (wg 41 (3 * (gm 64 (TOPn sg)).toNatClampNeg)).toNatClampNeg := (by rw [← hix9]; have q1 := cln9 (hz_109).1; have q2 := cln9 (u := wg 41 (3 * (gm 64 (TOPn sg)).toNatClampNeg)) (by rw [← hn41]; exact (hr_110).1); have := i32_0; have := i32_1; have := i32_2; have := i32_m1; have := (h63).1; have := (h63).2; have := (hz_1).1; have := (hz_1).2; have := (hz_2).1; have := (hz_2).2; have := (h_108).1; have := (h_108).2; have := (hz_109).1; have := (hz_109).2; have := (hr_110).1; have := (hr_110).2; omega)
      have h670 : (gm 67 (TOPn sg)).toInt = 0 := (by have q1 := hfr0.1 (Or.inl hph9); unfold LM at q1; rw [if_pos hph9, if_pos hma9] at q1; have q2 := (show iv 0 6 (gm 67 (TOPn sg)) from hI.2 67 _ tl).1; omega)
      have hb12 : z_2.toNatClampNeg < (ws 12).toNatClampNeg := (by have q5 := hBR.1; rw [rs9_41 hRS] at q5; have q1 := cln9 (hz_2).1; have q2 := cln9 (u := ws 12) (by rw [← q5]; exact (show iv 0 80 (sg 41) from MI_s hI 41).1); have := hbl9; omega)
      have hHM := HM_3 hIV hh1 hph9 hx9 heb hSB hb12
      refine lv_aload_n hx hb dX13_step_263 rfl (lv_at hl 2 rfl) ?_
      refine lv_iload_n hx hb dX13_step_264 rfl (lv_at hl 0 rfl) ?_
      refine mr_callv (rest := []) ⟨hx, hb, hml, hown, htb⟩ (f_makeObject9 l dC dI h0 ad cid sg gm lg z_2 ws wg wl rs rg S (fV (F9 (TOPn sg))) (fF (F9 (TOPn sg))) hI hz_2 hdoc hgi hPR hh1 hbl9 hRW hRS hBR hCL hRR hWD hHM.1 hHM.2.1 hST (RR_z1 hRR hpi hh1 heb) hf0 hHM.2.2.1 hHM.2.2.2) (cwV 1 htb (gd_V kw_1273 kw_1274 kw_125 kw_160 kw_1635) rfl rfl rfl (by decide +kernel) ⟨Nat.le_of_ble_eq_true rfl, Nat.le_of_ble_eq_true rfl⟩) rfl hl.1 rfl (Nat.le_of_ble_eq_true rfl) dX13_step_265 ⟨Nat.zero_le _, Nat.zero_le _⟩ hK hP hD hS hA (fun u_115 H locs hw hP hD hS => ?_)
      obtain ⟨sgv_116, gmv_116, lgv_116, rfl, hIv_116, ksv_116, kgv_116, klv_116, fGI_r_114, fMk_r_114, fB9_r_114⟩ := hw
      obtain rfl := KS_nil klv_116
      have hP : va_P (dC, dI) vwCl (mW h0 ad cid sgv_116 gmv_116 lg) H := hP
      have hD : va_D A (mW h0 ad cid sgv_116 gmv_116 lg) := hD
      refine lv_aload_n hx hb dX13_step_268 rfl (lv_at hl 2 rfl) ?_
      refine mr_get (v := .ref (ad 65)) hx hb htb inX13 hown hK hP 65 (by decide) (htb _ kw_1092) rfl dX13_step_269 ?_
      refine lv_iload_n hx hb dX13_step_272 rfl (lv_at hl 1 rfl) ?_
      refine lv_iconst (v := 4) hx hb dX13_step_273 (by decide) ?_
      refine ma_iast (x := 4) hx hb hK hP hD hS 50 (k := 65) rfl rfl rfl (show vp_in z_1 81 from (iv_in hz_1 (by decide))) dX13_step_274 (fun gm_117 H locs egm_117 hP hD hS => ?_)
      have hI_gm_117 := MI_st hIv_116 egm_117 (iv_k (by decide) : iv 4 4 4) (by decide)
      refine lv_aload_n hx hb dX13_step_275 rfl (lv_at hl 2 rfl) ?_
      refine mr_get (v := .ref (ad 66)) hx hb htb inX13 hown hK hP 66 (by decide) (htb _ kw_1093) rfl dX13_step_276 ?_
      refine lv_iload_n hx hb dX13_step_279 rfl (lv_at hl 1 rfl) ?_
      refine lv_iconst (v := 0) hx hb dX13_step_280 (by decide) ?_
      refine ma_iast (x := 0) hx hb hK hP hD hS 51 (k := 66) rfl rfl rfl (show vp_in z_1 81 from (iv_in hz_1 (by decide))) dX13_step_281 (fun gm_118 H locs egm_118 hP hD hS => ?_)
      have hI_gm_118 := MI_st hI_gm_117 egm_118 (iv_k (by decide) : iv 0 0 0) (by decide)
      refine lv_goto (tgt := 349) hx hb dX13_step_282 (by decide) ?_
      have hst9 : 1 ≤ (sgv_116 51).toInt ∨ STEP sg gm sgv_116 gm_118 lg := by
        rcases fMk_r_114 with q9 | q9
        · exact Or.inl (by rw [((show KS [] sgv_116 sgv_116 from KS_rf) 51 (by decide))]; exact q9)
        · refine Or.inr (ST_mk hI hdoc hinv hh1 (DK_of (show KS [48, 49, 51, 52] sg sgv_116 from (KS_tr (L := [48, 49, 51, 52]) KS_rf ksv_116 (by decide))) (show KS [53, 54, 55, 56, 57, 58, 60, 65, 66, 69, 75] gm gm_118 from (KS_up (KS_up (KS_tr (L := [53, 54, 55, 56, 57, 58, 60, 65, 66, 69, 75]) KS_rf kgv_116 (by decide)) egm_117 (by decide)) egm_118 (by decide))) (show KS [] lg lg from KS_rf) (by decide) (by decide) (by decide)) (Eq.trans (Eq.trans (up_ne egm_118 (by decide)) (up_ne egm_117 (by decide))) (kgv_116 44 (by decide))) (Eq.trans (Eq.trans (up_ne egm_118 (by decide)) (up_ne egm_117 (by decide))) (kgv_116 45 (by decide))) rfl ?_ (ksv_116 63 (by decide)) (Eq.trans (Eq.trans (up_ne egm_118 (by decide)) (up_ne egm_117 (by decide))) (kgv_116 62 (by decide))) (Eq.trans (Eq.trans (up_ne egm_118 (by decide)) (up_ne egm_117 (by decide))) (kgv_116 64 (by decide))) (show gm_118 65 = upd (gm 65) (z_1 : Int32).toNatClampNeg 4 from ((up_ne egm_118 (by decide)).trans ((up_at egm_117).trans (by rw [show gmv_116 65 = gm 65 from ((kgv_116 65 (by decide)).trans rfl)])))) (show gm_118 66 = upd (gm 66) (z_1 : Int32).toNatClampNeg 0 from ((up_at egm_118).trans (by rw [show gm_117 66 = gm 66 from ((up_ne egm_117 (by decide)).trans ((kgv_116 66 (by decide)).trans rfl))]))) rfl rfl htop (Eq.trans (Eq.trans (up_ne egm_118 (by decide)) (up_ne egm_117 (by decide))) (kgv_116 67 (by decide))) hph9 hma9)
          rw [← heb]; exact MKO_k q9 ((show KS [65, 66] gmv_116 gm_118 from (KS_up (KS_up KS_rf egm_117 (by decide)) egm_118 (by decide))) 69 (by decide)) ((show KS [65, 66] gmv_116 gm_118 from (KS_up (KS_up KS_rf egm_117 (by decide)) egm_118 (by decide))) 60 (by decide))
      exact W.vret hx hb hr (fun t ht hW => ⟨⟨(sgv_116, gm_118, lg), rfl, ⟨sgv_116, gm_118, lg, rfl, hI_gm_118, (KS_tr (L := [48, 49, 50, 51, 52, 63, 74]) KS_rf ksv_116 (by decide)), (KS_up (KS_up (KS_tr (L := [53, 54, 55, 56, 57, 58, 59, 60, 61, 62, 64, 65, 66, 67, 68, 69, 70, 71, 72, 73, 75]) KS_rf kgv_116 (by decide)) egm_117 (by decide)) egm_118 (by decide)), KS_rf, (GI0_of fGI_r_114 (show KS [] sgv_116 sgv_116 from KS_rf) (show KS [65, 66] gmv_116 gm_118 from (KS_up (KS_up KS_rf egm_117 (by decide)) egm_118 (by decide))) (show KS [] lg lg from KS_rf) (by decide) (by decide) (by decide) (by decide) (by decide) (by decide)), (MO_of hmo (show KS [48, 49, 51, 52] sg sgv_116 from (KS_tr (L := [48, 49, 51, 52]) KS_rf ksv_116 (by decide))) (show KS [53, 54, 55, 56, 57, 58, 60, 65, 66, 69, 75] gm gm_118 from (KS_up (KS_up (KS_tr (L := [53, 54, 55, 56, 57, 58, 60, 65, 66, 69, 75]) KS_rf kgv_116 (by decide)) egm_117 (by decide)) egm_118 (by decide))) (by decide) (by decide)), (hst9), ((OUT_3m hIV hh1 hph9 hx9 h670 (by have q7 := fB9_r_114; rw [heb] at q7; exact q7) htop (ksv_116 63 (by decide)) rfl (Eq.trans (Eq.trans (up_ne egm_118 (by decide)) (up_ne egm_117 (by decide))) (kgv_116 64 (by decide))) (show gm_118 65 = upd (gm 65) (z_1 : Int32).toNatClampNeg 4 from ((up_ne egm_118 (by decide)).trans ((up_at egm_117).trans (by rw [show gmv_116 65 = gm 65 from ((kgv_116 65 (by decide)).trans rfl)])))) rfl (show gm_118 66 = upd (gm 66) (z_1 : Int32).toNatClampNeg 0 from ((up_at egm_118).trans (by rw [show gm_117 66 = gm 66 from ((up_ne egm_117 (by decide)).trans ((kgv_116 66 (by decide)).trans rfl))]))) rfl (Eq.trans (Eq.trans (up_ne egm_118 (by decide)) (up_ne egm_117 (by decide))) (kgv_116 67 (by decide))) (Eq.trans (Eq.trans (up_ne egm_118 (by decide)) (up_ne egm_117 (by decide))) (kgv_116 68 (by decide))) ((show KS [65, 66] gmv_116 gm_118 from (KS_up (KS_up KS_rf egm_117 (by decide)) egm_118 (by decide))) 69 (by decide)) (fun q8 j hj => by rw [((show KS [65, 66] gmv_116 gm_118 from (KS_up (KS_up KS_rf egm_117 (by decide)) egm_118 (by decide))) 69 (by decide))]; exact ((fMk_r_114.resolve_left (fun q6 => by omega)).2.2.1) j (by omega)) ⟨(Eq.trans (Eq.trans (up_ne egm_118 (by decide)) (up_ne egm_117 (by decide))) (kgv_116 70 (by decide))), (Eq.trans (Eq.trans (up_ne egm_118 (by decide)) (up_ne egm_117 (by decide))) (kgv_116 71 (by decide))), (Eq.trans (Eq.trans (up_ne egm_118 (by decide)) (up_ne egm_117 (by decide))) (kgv_116 72 (by decide))), (Eq.trans (Eq.trans (up_ne egm_118 (by decide)) (up_ne egm_117 (by decide))) (kgv_116 73 (by decide)))⟩ (fun S9_ q8 => RR_ks q8 (KS_rf (L := [])) (show KS [65, 66] gmv_116 gm_118 from (KS_up (KS_up KS_rf egm_117 (by decide)) egm_118 (by decide))) (by decide) (by decide))))⟩, by rw [ht]; exact hP, va_K.moved hW.alike hK, hD⟩, hS.F ht⟩) hS.2.2 dX13_step_349
    · have d_119 : (z_109 : Int32).toInt < (r_110 : Int32).toInt := Int32.lt_iff_toInt_lt.mp (i32_lt c_112)
      have h_120 : iv 0 3 z_109 := iv_ltL (i32_lt c_112) hz_109 hr_110 (by decide)
      have h_121 : iv 1 4 r_110 := iv_ltR (i32_lt c_112) hz_109 hr_110 (by decide)
      refine lv_aload_n hx hb dX13_step_230 rfl (lv_at hl 2 rfl) ?_
      refine lv_aload_n hx hb dX13_step_231 rfl (lv_at hl 2 rfl) ?_
      refine lv_aload_n hx hb dX13_step_232 rfl (lv_at hl 2 rfl) ?_
      refine lv_iload_n hx hb dX13_step_233 rfl (lv_at hl 0 rfl) ?_
      refine lv_aload_n hx hb dX13_step_234 rfl (lv_at hl 2 rfl) ?_
      refine mr_get (v := .ref (ad 66)) hx hb htb inX13 hown hK hP 66 (by decide) (htb _ kw_1093) rfl dX13_step_235 ?_
      refine lv_iload_n hx hb dX13_step_238 rfl (lv_at hl 1 rfl) ?_
      refine mr_iald hx hb hK hP 51 (k := 66) rfl rfl rfl (show vp_in z_1 81 from (iv_in hz_1 (by decide))) dX13_step_239 ?_
      refine lv_topi (fun z_122 ez_122 => ?_)
      obtain rfl : z_109 = z_122 := ez_109.trans ez_122.symm
      refine mr_calli (rest := [.ref h0, .ref h0]) ⟨hx, hb, hml, hown, htb⟩ (f_arg l dC dI h0 ad cid sg gm lg z_2 z_109 hI hz_2 (iv_w h_120 (by decide)) hbl9 (hdoc.1.2.2.2)) (cwV 2 htb (gd_V kw_1257 kw_1258 kw_117 kw_160 kw_1627) rfl rfl rfl (by decide +kernel) ⟨Nat.le_of_ble_eq_true rfl, Nat.le_of_ble_eq_true rfl⟩) rfl hl.1 rfl (Nat.le_of_ble_eq_true rfl) dX13_step_240 ⟨Nat.zero_le _, Nat.zero_le _⟩ hK hP hD hS hA (fun r_123 u_124 H locs hw hP hD hS => ?_)
      obtain ⟨hr_123, fR_r_123, rfl⟩ := hw
      have hP : va_P (dC, dI) vwCl (mW h0 ad cid sg gm lg) H := hP
      have hD : va_D A (mW h0 ad cid sg gm lg) := hD
      have hix9 : z_109 = gm 66 (TOPn sg) := (show z_109 = gm 66 (TOPn sg) from (by have q9 := ez_109; rw [htop] at q9; exact q9))
      have hra9 := fR_r_123
      have hne9 : ¬ r_123 = -1 := by rw [hra9]; exact fAa_r_110 _ (Nat.zero_le _) (lt_cl h_120 hr_110 (by decide) (by decide) (by have := i32_0; have := i32_1; have := i32_2; have := i32_m1; have := (h63).1; have := (h63).2; have := (hz_1).1; have := (hz_1).2; have := (hz_2).1; have := (hz_2).2; have := (h_108).1; have := (h_108).2; have := (h_120).1; have := (h_120).2; have := (h_121).1; have := (h_121).2; have := (hr_123).1; have := (hr_123).2; omega))
      obtain ⟨ha1, ha2, ha3⟩ := arg_el (show iv 0 80 (sg 24) from MI_s hI 24) hra9 (by rw [← hra9]; exact hne9)
      have hn41 : r_110.toInt = (wg 41 (3 * (gm 64 (TOPn sg)).toNatClampNeg)).toInt := (by have q9 := BR_n hBR hRW hRS (b := z_2) hz_2 hbl9 (hr_110).1 fAa_r_110 fAz_r_110; rw [heb] at q9; exact q9)
      have hx9 : (gm 66 (TOPn sg)).toNatClampNeg < (wg 41 (3 * (gm 64 (TOPn sg)).toNatClampNeg)).toNatClampNeg := (by rw [← hix9]; have q1 := cln9 (h_120).1; have q2 := cln9 (u := wg 41 (3 * (gm 64 (TOPn sg)).toNatClampNeg)) (by rw [← hn41]; exact (hr_110).1); have := i32_0; have := i32_1; have := i32_2; have := i32_m1; have := (h63).1; have := (h63).2; have := (hz_1).1; have := (hz_1).2; have := (hz_2).1; have := (hz_2).2; have := (h_108).1; have := (h_108).2; have := (h_120).1; have := (h_120).2; have := (h_121).1; have := (h_121).2; have := (ha1).1; have := (ha1).2; omega)
      have hae9 : r_123.toNatClampNeg = (wg 57 (128 * (3 * (gm 64 (TOPn sg)).toNatClampNeg) + (gm 66 (TOPn sg)).toNatClampNeg)).toNatClampNeg := (by rw [hra9, heb, hix9, ((BR_a hBR hRW hRS hpt.2.1 hpt.2.2).2.2.2 _ hx9).1])
      have hph9n : (gm 65 (TOPn sg)).toNatClampNeg = 3 := (by have q1 := cln9 (u := gm 65 (TOPn sg)) (by omega); omega)
      refine lv_iconst (v := 5) hx hb dX13_step_243 (by decide) ?_
      refine lv_iload_n hx hb dX13_step_244 rfl (lv_at hl 1 rfl) ?_
      refine lv_imul hx hb dX13_step_245 ?_
      refine lv_topi (fun z_125 ez_125 => ?_)
      have hz_125 : iv 0 395 z_125 := iv_of ez_125 (iv_mul (iv_k (by decide) : iv 5 5 5) hz_1 (by decide))
      have tz_125 : z_125.toInt = 5 * (z_1 : Int32).toInt := by rw [ez_125]; exact iv_mulE (iv_k (by decide) : iv 5 5 5) hz_1 (by decide)
      refine lv_aload_n hx hb dX13_step_246 rfl (lv_at hl 2 rfl) ?_
      refine mr_get (v := .ref (ad 66)) hx hb htb inX13 hown hK hP 66 (by decide) (htb _ kw_1093) rfl dX13_step_247 ?_
      refine lv_iload_n hx hb dX13_step_250 rfl (lv_at hl 1 rfl) ?_
      refine mr_iald hx hb hK hP 51 (k := 66) rfl rfl rfl (show vp_in z_1 81 from (iv_in hz_1 (by decide))) dX13_step_251 ?_
      refine lv_topi (fun z_126 ez_126 => ?_)
      obtain rfl : z_109 = z_126 := ez_109.trans ez_126.symm
      refine lv_iadd hx hb dX13_step_252 ?_
      refine lv_topi (fun z_127 ez_127 => ?_)
      have hz_127 : iv 0 398 z_127 := iv_of ez_127 (iv_add hz_125 h_120 (by decide))
      have tz_127 : z_127.toInt = (z_125 : Int32).toInt + (z_109 : Int32).toInt := by rw [ez_127]; exact iv_addE hz_125 h_120 (by decide)
      have hsl9 : z_127.toNatClampNeg = 5 * (TOPn sg) + (gm 66 (TOPn sg)).toNatClampNeg := (by rw [← hix9, ← htop]; have q1 : z_127.toNatClampNeg = z_127.toInt.toNat := rfl; have q1 : z_109.toNatClampNeg = z_109.toInt.toNat := rfl; have q1 : z_1.toNatClampNeg = z_1.toInt.toNat := rfl; have := i32_0; have := i32_1; have := i32_2; have := i32_m1; have := (h63).1; have := (h63).2; have := (hz_1).1; have := (hz_1).2; have := (hz_2).1; have := (hz_2).2; have := (h_108).1; have := (h_108).2; have := (h_120).1; have := (h_120).2; have := (h_121).1; have := (h_121).2; have := (ha1).1; have := (ha1).2; have := (hz_125).1; have := (hz_125).2; have := (hz_127).1; have := (hz_127).2; omega)
      have hHP := HP_3 hIV hh1 hph9 hx9 hae9 hsl9
      refine mr_calli (rest := [.ref h0]) ⟨hx, hb, hml, hown, htb⟩ (f_workedOut9 l dC dI h0 ad cid sg gm lg r_123 z_127 ws wg wl rs rg S (fA (F9 (TOPn sg))) hI ha1 (iv_w hz_127 (by decide)) hdoc ha2 hgi hpi hh1 (Or.inl (by rw [ha3]; rfl)) ((FR_30 hfr0 hph9 (by rw [← heb, ← hix9]; exact hra9) hne9).1) hRW hRS hBR hRR (by rw [hae9]; exact ((BR_a hBR hRW hRS hpt.2.1 hpt.2.2).2.2.2 _ hx9).2.2.1) hHP.1 hHP.2 hIV.1 hf0) (cwV 2 htb (gd_V kw_1267 kw_1268 kw_122 kw_160 kw_1632) rfl rfl rfl (by decide +kernel) ⟨Nat.le_of_ble_eq_true rfl, Nat.le_of_ble_eq_true rfl⟩) rfl hl.1 rfl (Nat.le_of_ble_eq_true rfl) dX13_step_253 ⟨Nat.zero_le _, Nat.zero_le _⟩ hK hP hD hS hA (fun r_128 u_129 H locs hw hP hD hS => ?_)
      obtain ⟨sgv_130, gmv_130, lgv_130, rfl, hIv_130, ksv_130, kgv_130, klv_130, hr_128, fGI_r_128, fWo_r_128, fW9_r_128⟩ := hw
      obtain rfl := KS_nil klv_130
      have hP : va_P (dC, dI) vwCl (mW h0 ad cid sgv_130 gmv_130 lg) H := hP
      have hD : va_D A (mW h0 ad cid sgv_130 gmv_130 lg) := hD
      refine lv_iload_n hx hb dX13_step_256 rfl (lv_at hl 1 rfl) ?_
      refine mr_callv (rest := []) ⟨hx, hb, hml, hown, htb⟩ (f_next l dC dI h0 ad cid sgv_130 gmv_130 lg r_128 z_1 hIv_130 hr_128 hz_1 (by rcases fWo_r_128 with ⟨_, q8⟩ | ⟨q8, _⟩; (exact Or.inl (by rw [htop, q8.2.2.2.2.1]; have := congrArg Int32.toInt hix9; have := (h_120).2; omega)); exact Or.inr q8)) (cwV 2 htb (gd_V kw_1271 kw_1272 kw_124 kw_160 kw_1634) rfl rfl rfl (by decide +kernel) ⟨Nat.le_of_ble_eq_true rfl, Nat.le_of_ble_eq_true rfl⟩) rfl hl.1 rfl (Nat.le_of_ble_eq_true rfl) dX13_step_257 ⟨Nat.zero_le _, Nat.zero_le _⟩ hK hP hD hS hA (fun u_132 H locs hw hP hD hS => ?_)
      obtain ⟨sgv_133, gmv_133, lgv_133, rfl, hIv_133, ksv_133, kgv_133, klv_133, fNx_r_131⟩ := hw
      obtain rfl := KS_nil ksv_133
      obtain rfl := KS_nil klv_133
      have hP : va_P (dC, dI) vwCl (mW h0 ad cid sgv_130 gmv_133 lg) H := hP
      have hD : va_D A (mW h0 ad cid sgv_130 gmv_133 lg) := hD
      refine lv_goto (tgt := 349) hx hb dX13_step_260 (by decide) ?_
      exact W.vret hx hb hr (fun t ht hW => ⟨⟨(sgv_130, gmv_133, lg), rfl, ⟨sgv_130, gmv_133, lg, rfl, hIv_133, (KS_tr (L := [48, 49, 50, 51, 52, 63, 74]) KS_rf ksv_130 (by decide)), (KS_tr (L := [53, 54, 55, 56, 57, 58, 59, 60, 61, 62, 64, 65, 66, 67, 68, 69, 70, 71, 72, 73, 75]) (KS_tr (L := [53, 54, 55, 56, 57, 58, 59, 60, 61, 62, 64, 65, 66, 67, 68, 69, 70, 71, 72, 73, 75]) KS_rf kgv_130 (by decide)) kgv_133 (by decide)), KS_rf, (GI0_of fGI_r_128 (show KS [] sgv_130 sgv_130 from KS_rf) (show KS [66, 67] gmv_130 gmv_133 from (KS_tr (L := [66, 67]) KS_rf kgv_133 (by decide))) (show KS [] lg lg from KS_rf) (by decide) (by decide) (by decide) (by decide) (by decide) (by decide)), (MO_of hmo (show KS [51, 52, 63, 74] sg sgv_130 from (KS_tr (L := [51, 52, 63, 74]) KS_rf ksv_130 (by decide))) (show KS [62, 64, 65, 66, 67, 68, 69, 70, 71, 72, 73] gm gmv_133 from (KS_tr (L := [62, 64, 65, 66, 67, 68, 69, 70, 71, 72, 73]) (KS_tr (L := [62, 64, 65, 66, 67, 68, 69, 70, 71, 72, 73]) KS_rf kgv_130 (by decide)) kgv_133 (by decide))) (by decide) (by decide)), (ST_wox hI hdoc hinv hh1 (DK_of (show KS [51, 52, 63, 74] sg sgv_130 from (KS_tr (L := [51, 52, 63, 74]) KS_rf ksv_130 (by decide))) (show KS [62, 64, 65, 66, 67, 68, 69, 70, 71, 72, 73] gm gmv_133 from (KS_tr (L := [62, 64, 65, 66, 67, 68, 69, 70, 71, 72, 73]) (KS_tr (L := [62, 64, 65, 66, 67, 68, 69, 70, 71, 72, 73]) KS_rf kgv_130 (by decide)) kgv_133 (by decide))) (show KS [] lg lg from KS_rf) (by decide) (by decide) (by decide)) (Eq.trans (kgv_133 44 (by decide)) (kgv_130 44 (by decide))) (Eq.trans (kgv_133 45 (by decide)) (kgv_130 45 (by decide))) rfl (Eq.trans (kgv_133 60 (by decide)) (kgv_130 60 (by decide))) (WOX_0 fWo_r_128) (by have q9 := (FR_30 hfr0 hph9 (by rw [← heb, ← hix9]; exact hra9) hne9).2; exact q9) (by omega) htop ((show KS [] sgv_130 sgv_130 from KS_rf) 63 (by decide)) ((show KS [66, 67] gmv_130 gmv_133 from (KS_tr (L := [66, 67]) KS_rf kgv_133 (by decide))) 62 (by decide)) ((show KS [66, 67] gmv_130 gmv_133 from (KS_tr (L := [66, 67]) KS_rf kgv_133 (by decide))) 64 (by decide)) ((show KS [66, 67] gmv_130 gmv_133 from (KS_tr (L := [66, 67]) KS_rf kgv_133 (by decide))) 65 (by decide)) ((show KS [66, 67] gmv_130 gmv_133 from (KS_tr (L := [66, 67]) KS_rf kgv_133 (by decide))) 69 (by decide)) ((show KS [] sgv_130 sgv_130 from KS_rf) 51 (by decide)) (fNx_r_131) (by have := congrArg Int32.toInt hix9; have := (h_120).2; omega) (fun _ => by rw [← heb, ← hix9, ← hra9]; exact hne9) (fun q9 => by omega)), ((by by_cases hr9 : r_128.toInt = 0; exact (by have q7 := OUT_w (a := r_123.toNatClampNeg) hIV hh1 (by omega) (by rw [hph9n]; exact hae9) (by rw [hph9n]; exact hx9) (by rw [if_pos hph9]; exact hsl9) fW9_r_128 fWo_r_128 hr9; rcases fNx_r_131 with q9 | q9; (exact OUT_k q7 (show KS [66, 67] gmv_130 gmv_133 from (KS_tr (L := [66, 67]) KS_rf kgv_133 (by decide))) q9.2.1 q9.2.2); (exact absurd hr9 (by rw [q9.1]; decide))); exact (by rcases fNx_r_131 with q9 | ⟨q1, q2, v9, q3, q4⟩; (exact absurd q9.1 hr9); exact OUT_3s hIV hh1 hph9 hx9 (BR_a hBR hRW hRS hpt.2.1 hpt.2.2).1 hsl9 (by rw [← hae9]; exact fW9_r_128) (WOUT_1 fWo_r_128 (fun q8 => hr9 (congrArg Int32.toInt q8))) hr9 htop rfl rfl ((show KS [66, 67] gmv_130 gmv_133 from (KS_tr (L := [66, 67]) KS_rf kgv_133 (by decide))) 64 (by decide)) ((show KS [66, 67] gmv_130 gmv_133 from (KS_tr (L := [66, 67]) KS_rf kgv_133 (by decide))) 65 (by decide)) q3 q4 q2 (by decide) ((show KS [66, 67] gmv_130 gmv_133 from (KS_tr (L := [66, 67]) KS_rf kgv_133 (by decide))) 68 (by decide)) ((show KS [66, 67] gmv_130 gmv_133 from (KS_tr (L := [66, 67]) KS_rf kgv_133 (by decide))) 69 (by decide)) ⟨((show KS [66, 67] gmv_130 gmv_133 from (KS_tr (L := [66, 67]) KS_rf kgv_133 (by decide))) 70 (by decide)), ((show KS [66, 67] gmv_130 gmv_133 from (KS_tr (L := [66, 67]) KS_rf kgv_133 (by decide))) 71 (by decide)), ((show KS [66, 67] gmv_130 gmv_133 from (KS_tr (L := [66, 67]) KS_rf kgv_133 (by decide))) 72 (by decide)), ((show KS [66, 67] gmv_130 gmv_133 from (KS_tr (L := [66, 67]) KS_rf kgv_133 (by decide))) 73 (by decide))⟩ (fun q8 => RR_ks q8 (KS_rf (L := [])) (show KS [66, 67] gmv_130 gmv_133 from (KS_tr (L := [66, 67]) KS_rf kgv_133 (by decide))) (by decide) (by decide)))))⟩, by rw [ht]; exact hP, va_K.moved hW.alike hK, hD⟩, hS.F ht⟩) hS.2.2 dX13_step_349
  refine lv_tableOut (tgt := 285) hx hb dX13_step_20 (by have q1 := (hz_3).1; have q2 := (hz_3).2; omega) (by decide) ?_
  have h_134 : iv 4 4 z_3 := ⟨by have q1 := (hz_3).1; have q2 := (hz_3).2; omega, by have q1 := (hz_3).1; have q2 := (hz_3).2; omega⟩
  have hph9 : (gm 65 (TOPn sg)).toInt = 4 := by rw [← (show z_3 = gm 65 (TOPn sg) from (by have q9 := ez_3; rw [htop] at q9; exact q9))]; have := (h_134).1; have := (h_134).2; omega
  refine lv_aload_n hx hb dX13_step_285 rfl (lv_at hl 2 rfl) ?_
  refine mr_get (v := .ref (ad 66)) hx hb htb inX13 hown hK hP 66 (by decide) (htb _ kw_1093) rfl dX13_step_286 ?_
  refine lv_iload_n hx hb dX13_step_289 rfl (lv_at hl 1 rfl) ?_
  refine mr_iald hx hb hK hP 51 (k := 66) rfl rfl rfl (show vp_in z_1 81 from (iv_in hz_1 (by decide))) dX13_step_290 ?_
  refine lv_topi (fun z_135 ez_135 => ?_)
  have hz_135 : iv 0 26 z_135 := iv_of ez_135 (MI_a hI 66 hz_1 (by decide))
  refine lv_aload_n hx hb dX13_step_291 rfl (lv_at hl 2 rfl) ?_
  refine mr_get (v := .ref (ad 44)) hx hb htb inX13 hown hK hP 44 (by decide) (htb _ kw_1071) rfl dX13_step_292 ?_
  refine lv_iload_n hx hb dX13_step_295 rfl (lv_at hl 0 rfl) ?_
  refine mr_iald hx hb hK hP 35 (k := 44) rfl rfl rfl (show vp_in z_2 80 from (iv_in hz_2 (by decide))) dX13_step_296 ?_
  refine lv_topi (fun z_136 ez_136 => ?_)
  have hz_136 : iv 0 26 z_136 := iv_of ez_136 (MI_a hI 44 hz_2 (by decide))
  refine lv_icmp_ne (tgt := 308) hx hb dX13_step_297 (by decide) (fun c_137 => ?_) (fun c_137 => ?_)
  · have hix9 : z_135 = gm 66 (TOPn sg) := (show z_135 = gm 66 (TOPn sg) from (by have q9 := ez_135; rw [htop] at q9; exact q9))
    have h44e : z_136 = gm 44 (gm 64 (TOPn sg)).toNatClampNeg := by rw [← heb]; exact ez_136
    have h4l : (gm 66 (TOPn sg)).toInt < (gm 44 (gm 64 (TOPn sg)).toNatClampNeg).toInt := by
      have q9 := (hfr0.2.2.2 hph9).1
      have q8 : ¬ (gm 66 (TOPn sg)).toInt = (gm 44 (gm 64 (TOPn sg)).toNatClampNeg).toInt := fun q7 => c_137 (by rw [hix9, h44e]; exact Int32.toInt_inj.mp q7)
      omega
    have h308 : iv 0 25 z_135 := ⟨(hz_135).1, by have q9 := congrArg Int32.toInt hix9; have q8 := congrArg Int32.toInt h44e; have := (hz_136).2; omega⟩
    refine lv_aload_n hx hb dX13_step_308 rfl (lv_at hl 2 rfl) ?_
    refine lv_aload_n hx hb dX13_step_309 rfl (lv_at hl 2 rfl) ?_
    refine mr_get (v := .ref (ad 45)) hx hb htb inX13 hown hK hP 45 (by decide) (htb _ kw_1072) rfl dX13_step_310 ?_
    refine lv_bipush (v := 26) hx hb dX13_step_313 (by decide) ?_
    refine lv_iload_n hx hb dX13_step_315 rfl (lv_at hl 0 rfl) ?_
    refine lv_imul hx hb dX13_step_316 ?_
    refine lv_topi (fun z_138 ez_138 => ?_)
    have hz_138 : iv 0 2054 z_138 := iv_of ez_138 (iv_mul (iv_k (by decide) : iv 26 26 26) hz_2 (by decide))
    have tz_138 : z_138.toInt = 26 * (z_2 : Int32).toInt := by rw [ez_138]; exact iv_mulE (iv_k (by decide) : iv 26 26 26) hz_2 (by decide)
    refine lv_aload_n hx hb dX13_step_317 rfl (lv_at hl 2 rfl) ?_
    refine mr_get (v := .ref (ad 66)) hx hb htb inX13 hown hK hP 66 (by decide) (htb _ kw_1093) rfl dX13_step_318 ?_
    refine lv_iload_n hx hb dX13_step_321 rfl (lv_at hl 1 rfl) ?_
    refine mr_iald hx hb hK hP 51 (k := 66) rfl rfl rfl (show vp_in z_1 81 from (iv_in hz_1 (by decide))) dX13_step_322 ?_
    refine lv_topi (fun z_139 ez_139 => ?_)
    obtain rfl : z_135 = z_139 := ez_135.trans ez_139.symm
    refine lv_iadd hx hb dX13_step_323 ?_
    refine lv_topi (fun z_140 ez_140 => ?_)
    have hz_140 : iv 0 2079 z_140 := iv_of ez_140 (iv_add hz_138 h308 (by decide))
    have tz_140 : z_140.toInt = (z_138 : Int32).toInt + (z_135 : Int32).toInt := by rw [ez_140]; exact iv_addE hz_138 h308 (by decide)
    refine mr_iald hx hb hK hP 36 (k := 45) rfl rfl rfl (show vp_in z_140 2080 from (iv_in hz_140 (by decide))) dX13_step_324 ?_
    refine lv_topi (fun z_141 ez_141 => ?_)
    have hz_141 : iv 0 79 z_141 := iv_of ez_141 (MI_a hI 45 hz_140 (by decide))
    refine lv_iconst (v := 5) hx hb dX13_step_325 (by decide) ?_
    refine lv_iload_n hx hb dX13_step_326 rfl (lv_at hl 1 rfl) ?_
    refine lv_imul hx hb dX13_step_327 ?_
    refine lv_topi (fun z_142 ez_142 => ?_)
    have hz_142 : iv 0 395 z_142 := iv_of ez_142 (iv_mul (iv_k (by decide) : iv 5 5 5) hz_1 (by decide))
    have tz_142 : z_142.toInt = 5 * (z_1 : Int32).toInt := by rw [ez_142]; exact iv_mulE (iv_k (by decide) : iv 5 5 5) hz_1 (by decide)
    refine lv_iconst (v := 4) hx hb dX13_step_328 (by decide) ?_
    refine lv_iadd hx hb dX13_step_329 ?_
    refine lv_topi (fun z_143 ez_143 => ?_)
    have hz_143 : iv 4 399 z_143 := iv_of ez_143 (iv_add hz_142 (iv_k (by decide) : iv 4 4 4) (by decide))
    have tz_143 : z_143.toInt = (z_142 : Int32).toInt + 4 := by rw [ez_143]; exact iv_addE hz_142 (iv_k (by decide) : iv 4 4 4) (by decide)
    have he45 : z_141 = gm 45 (26 * (gm 64 (TOPn sg)).toNatClampNeg + (gm 66 (TOPn sg)).toNatClampNeg) := by rw [ez_141, cl_add hz_138 h308 (by decide) (by decide) tz_140, cl26 hz_2 tz_138, heb, hix9]
    have hsek : SEK sg gm 5 z_141 := by
      rw [he45]
      have k1 := cl_0 (x := sg 41) (by have := hpt.2.1.1; have := hpt.2.2; omega)
      have k2 := iv_cl hpt.2.1 (by decide)
      have k3 := cl_0 (x := gm 66 (TOPn sg)) (by have := congrArg Int32.toInt hix9; have := h308.1; omega)
      have k4 := cl_0 (x := gm 44 (gm 64 (TOPn sg)).toNatClampNeg) (by omega)
      exact hdoc.2 _ (by have := hpt.2.2; omega) _ (by omega)
    obtain ⟨hlit, hlim9⟩ := FR_40 hfr0 hph9 h4l he45
    have hx9 : (gm 66 (TOPn sg)).toNatClampNeg < (wg 41 (3 * (gm 64 (TOPn sg)).toNatClampNeg + 1)).toNatClampNeg := (by have q5 := (BR_e hBR hRW hRS hpt.2.1 hpt.2.2).1; have q4 := h4l; rw [q5] at q4; have q6 : (gm 66 (TOPn sg)).toNatClampNeg = (gm 66 (TOPn sg)).toInt.toNat := rfl; have q7 : (wg 41 (3 * (gm 64 (TOPn sg)).toNatClampNeg + 1)).toNatClampNeg = (wg 41 (3 * (gm 64 (TOPn sg)).toNatClampNeg + 1)).toInt.toNat := rfl; have q8 := congrArg Int32.toInt hix9; have q9 := h308.1; omega)
    have hae9 : z_141.toNatClampNeg = (wg 57 (128 * (3 * (gm 64 (TOPn sg)).toNatClampNeg + 1) + (gm 66 (TOPn sg)).toNatClampNeg)).toNatClampNeg := (by rw [he45, ((BR_e hBR hRW hRS hpt.2.1 hpt.2.2).2 _ hx9).1])
    have hph9n : (gm 65 (TOPn sg)).toNatClampNeg = 4 := (by have q1 := cln9 (u := gm 65 (TOPn sg)) (by omega); omega)
    have hsl9 : z_143.toNatClampNeg = 5 * (TOPn sg) + 4 := (by rw [← htop]; have q1 : z_143.toNatClampNeg = z_143.toInt.toNat := rfl; have q1 : z_1.toNatClampNeg = z_1.toInt.toNat := rfl; have := i32_0; have := i32_1; have := i32_2; have := i32_m1; have := (h63).1; have := (h63).2; have := (hz_1).1; have := (hz_1).2; have := (hz_2).1; have := (hz_2).2; have := (h_134).1; have := (h_134).2; have := (h308).1; have := (h308).2; have := (hz_136).1; have := (hz_136).2; have := (hz_138).1; have := (hz_138).2; have := (hz_140).1; have := (hz_140).2; have := (hz_141).1; have := (hz_141).2; have := (hz_142).1; have := (hz_142).2; have := (hz_143).1; have := (hz_143).2; omega)
    have hHP := HP_4 hIV hh1 hph9 hx9 hae9 hsl9
    refine mr_calli (rest := []) ⟨hx, hb, hml, hown, htb⟩ (f_workedOut9 l dC dI h0 ad cid sg gm lg z_141 z_143 ws wg wl rs rg S (fA (F9 (TOPn sg))) hI hz_141 (iv_w hz_143 (by decide)) hdoc hsek.2.2 hgi hpi hh1 (Or.inr (by rw [hsek.2.1]; rfl)) hlit hRW hRS hBR hRR (by rw [hae9]; exact ((BR_e hBR hRW hRS hpt.2.1 hpt.2.2).2 _ hx9).2.1) hHP.1 hHP.2 hIV.1 hf0) (cwV 2 htb (gd_V kw_1267 kw_1268 kw_122 kw_160 kw_1632) rfl rfl rfl (by decide +kernel) ⟨Nat.le_of_ble_eq_true rfl, Nat.le_of_ble_eq_true rfl⟩) rfl hl.1 rfl (Nat.le_of_ble_eq_true rfl) dX13_step_330 ⟨Nat.zero_le _, Nat.zero_le _⟩ hK hP hD hS hA (fun r_144 u_145 H locs hw hP hD hS => ?_)
    obtain ⟨sgv_146, gmv_146, lgv_146, rfl, hIv_146, ksv_146, kgv_146, klv_146, hr_144, fGI_r_144, fWo_r_144, fW9_r_144⟩ := hw
    obtain rfl := KS_nil klv_146
    have hP : va_P (dC, dI) vwCl (mW h0 ad cid sgv_146 gmv_146 lg) H := hP
    have hD : va_D A (mW h0 ad cid sgv_146 gmv_146 lg) := hD
    refine lv_istore_n (lv' := [(3, .int r_144), (2, .int z_2), (1, .int z_1), (0, .ref h0)]) hx hb dX13_step_333 rfl hl (by decide) rfl (fun ls hl => ?_)
    refine lv_iload_n hx hb dX13_step_334 rfl (lv_at hl 0 rfl) ?_
    refine lv_if_eq (tgt := 343) hx hb dX13_step_335 (by decide) (fun c_147 => ?_) (fun c_147 => ?_)
    · have h_148 : iv 0 0 r_144 := iv_eq c_147 hr_144 (iv_k (by decide) : iv 0 0 0) (by decide)
      have hwx : WOX sg gm (LM sg gm lg (gm 64 (TOPn sg)) (gm 65 (TOPn sg)) (gm 66 (TOPn sg))) sgv_146 gmv_146 r_144 := by rw [hlim9]; exact WOX_0 fWo_r_144
      have hgi3 : GI0 sgv_146 gmv_146 lg := fGI_r_144
      have h25m : (gm 66 (TOPn sg)).toInt ≤ 25 := (by have := congrArg Int32.toInt hix9; have := h308.2; omega)
      refine lv_aload_n hx hb dX13_step_343 rfl (lv_at hl 3 rfl) ?_
      refine lv_iload_n hx hb dX13_step_344 rfl (lv_at hl 0 rfl) ?_
      refine lv_iload_n hx hb dX13_step_345 rfl (lv_at hl 2 rfl) ?_
      refine mr_callv (rest := []) ⟨hx, hb, hml, hown, htb⟩ (f_next l dC dI h0 ad cid sgv_146 gmv_146 lg r_144 z_1 hIv_146 (iv_w h_148 (by decide)) hz_1 (by obtain ⟨sg1, gm1, q9, _, _, _, _, q5, _⟩ := hwx; rcases q9 with ⟨_, q8⟩ | ⟨q8, _⟩; (exact Or.inl (by rw [htop, q5, q8.2.2.2.2.1]; exact h25m)); exact Or.inr q8)) (cwV 2 htb (gd_V kw_1271 kw_1272 kw_124 kw_160 kw_1634) rfl rfl rfl (by decide +kernel) ⟨Nat.le_of_ble_eq_true rfl, Nat.le_of_ble_eq_true rfl⟩) rfl hl.1 rfl (Nat.le_of_ble_eq_true rfl) dX13_step_346 ⟨Nat.zero_le _, Nat.zero_le _⟩ hK hP hD hS hA (fun u_150 H locs hw hP hD hS => ?_)
      obtain ⟨sgv_151, gmv_151, lgv_151, rfl, hIv_151, ksv_151, kgv_151, klv_151, fNx_r_149⟩ := hw
      obtain rfl := KS_nil ksv_151
      obtain rfl := KS_nil klv_151
      have hP : va_P (dC, dI) vwCl (mW h0 ad cid sgv_146 gmv_151 lg) H := hP
      have hD : va_D A (mW h0 ad cid sgv_146 gmv_151 lg) := hD
      exact W.vret hx hb hr (fun t ht hW => ⟨⟨(sgv_146, gmv_151, lg), rfl, ⟨sgv_146, gmv_151, lg, rfl, hIv_151, (KS_tr (L := [48, 49, 50, 51, 52, 63, 74]) KS_rf ksv_146 (by decide)), (KS_tr (L := [53, 54, 55, 56, 57, 58, 59, 60, 61, 62, 64, 65, 66, 67, 68, 69, 70, 71, 72, 73, 75]) (KS_tr (L := [53, 54, 55, 56, 57, 58, 59, 60, 61, 62, 64, 65, 66, 67, 68, 69, 70, 71, 72, 73, 75]) KS_rf kgv_146 (by decide)) kgv_151 (by decide)), KS_rf, (GI0_of hgi3 (show KS [] sgv_146 sgv_146 from KS_rf) (show KS [66, 67] gmv_146 gmv_151 from (KS_tr (L := [66, 67]) KS_rf kgv_151 (by decide))) (show KS [] lg lg from KS_rf) (by decide) (by decide) (by decide) (by decide) (by decide) (by decide)), (MO_of hmo (show KS [51, 52, 63, 74] sg sgv_146 from (KS_tr (L := [51, 52, 63, 74]) KS_rf ksv_146 (by decide))) (show KS [62, 64, 65, 66, 67, 68, 69, 70, 71, 72, 73] gm gmv_151 from (KS_tr (L := [62, 64, 65, 66, 67, 68, 69, 70, 71, 72, 73]) (KS_tr (L := [62, 64, 65, 66, 67, 68, 69, 70, 71, 72, 73]) KS_rf kgv_146 (by decide)) kgv_151 (by decide))) (by decide) (by decide)), (ST_wox hI hdoc hinv hh1 (DK_of (show KS [51, 52, 63, 74] sg sgv_146 from (KS_tr (L := [51, 52, 63, 74]) KS_rf ksv_146 (by decide))) (show KS [62, 64, 65, 66, 67, 68, 69, 70, 71, 72, 73] gm gmv_151 from (KS_tr (L := [62, 64, 65, 66, 67, 68, 69, 70, 71, 72, 73]) (KS_tr (L := [62, 64, 65, 66, 67, 68, 69, 70, 71, 72, 73]) KS_rf kgv_146 (by decide)) kgv_151 (by decide))) (show KS [] lg lg from KS_rf) (by decide) (by decide) (by decide)) (Eq.trans (kgv_151 44 (by decide)) (kgv_146 44 (by decide))) (Eq.trans (kgv_151 45 (by decide)) (kgv_146 45 (by decide))) rfl (Eq.trans (kgv_151 60 (by decide)) (kgv_146 60 (by decide))) hwx rfl (by omega) htop rfl ((show KS [66, 67] gmv_146 gmv_151 from (KS_tr (L := [66, 67]) KS_rf kgv_151 (by decide))) 62 (by decide)) ((show KS [66, 67] gmv_146 gmv_151 from (KS_tr (L := [66, 67]) KS_rf kgv_151 (by decide))) 64 (by decide)) ((show KS [66, 67] gmv_146 gmv_151 from (KS_tr (L := [66, 67]) KS_rf kgv_151 (by decide))) 65 (by decide)) ((show KS [66, 67] gmv_146 gmv_151 from (KS_tr (L := [66, 67]) KS_rf kgv_151 (by decide))) 69 (by decide)) rfl (fNx_r_149) (by omega) (fun q9 => by omega) (fun _ => h4l)), ((by have q7 := OUT_w (a := z_141.toNatClampNeg) hIV hh1 (by omega) (by rw [hph9n]; exact hae9) (by rw [hph9n]; exact hx9) (by rw [if_neg (by omega)]; exact hsl9) fW9_r_144 fWo_r_144 (congrArg Int32.toInt c_147); rcases fNx_r_149 with q9 | q9; (exact OUT_k q7 (show KS [66, 67] gmv_146 gmv_151 from (KS_tr (L := [66, 67]) KS_rf kgv_151 (by decide))) q9.2.1 q9.2.2); (exact absurd (congrArg Int32.toInt c_147) (by rw [q9.1]; decide))))⟩, by rw [ht]; exact hP, va_K.moved hW.alike hK, hD⟩, hS.F ht⟩) hS.2.2 dX13_step_349
    · have h_152 : iv 1 1 r_144 := iv_neL c_147 hr_144 (by decide)
      refine lv_aload_n hx hb dX13_step_338 rfl (lv_at hl 3 rfl) ?_
      refine lv_iload_n hx hb dX13_step_339 rfl (lv_at hl 1 rfl) ?_
      have hsq9 := WOUT_1 fWo_r_144 c_147
      have htq9 : TOPn sgv_146 = TOPn sg := by unfold TOPn; rw [hsq9.1]
      obtain ⟨h519, hR9w, hks9, V9_, hre9, hvr9, hit9⟩ := WO_1v fW9_r_144 (fun q9 => c_147 (Int32.toInt_inj.mp q9))
      refine mr_callv (rest := []) ⟨hx, hb, hml, hown, htb⟩ (f_setOne9 l dC dI h0 ad cid sgv_146 gmv_146 lg z_2 ws wg wl rs rg S V9_ hIv_146 hz_2 (DOC_of hdoc (show KS [51, 52, 63, 74] sg sgv_146 from (KS_tr (L := [51, 52, 63, 74]) KS_rf ksv_146 (by decide))) (show KS [62, 64, 65, 66, 67, 68, 69, 70, 71, 72, 73] gm gmv_146 from (KS_tr (L := [62, 64, 65, 66, 67, 68, 69, 70, 71, 72, 73]) KS_rf kgv_146 (by decide))) (show KS [] lg lg from KS_rf) (by decide) (by decide) (by decide) (by decide)) (fGI_r_144.1) (by have q9 : PR gm := hPR; unfold PR at *; rw [(kgv_146 6 (by decide))]; exact q9) (by rw [hsq9.1]; exact hh1) (by rw [htq9, hsq9.2.2.2.2.2.2.1]; exact (hfr0.2.2.2 hph9).2.1) (by rw [htq9, hsq9.2.2.2.2.1]; have := congrArg Int32.toInt hix9; have := h308.2; omega) (by have := i32_0; have := i32_1; have := i32_2; have := i32_m1; have := congrArg Int32.toInt (show sgv_146 41 = sg 41 from ksv_146 41 (by decide)); have := (show iv 0 80 (sg 41) from MI_s hI 41).1; have := (show iv 0 80 (sg 41) from MI_s hI 41).2; have := (h63).1; have := (h63).2; have := (hz_1).1; have := (hz_1).2; have := (hz_2).1; have := (hz_2).2; have := (h_134).1; have := (h_134).2; have := (h308).1; have := (h308).2; have := (hz_136).1; have := (hz_136).2; have := (hz_138).1; have := (hz_138).2; have := (hz_140).1; have := (hz_140).2; have := (hz_141).1; have := (hz_141).2; have := (hz_142).1; have := (hz_142).2; have := (hz_143).1; have := (hz_143).2; have := (h_152).1; have := (h_152).2; omega) ((rt9_ks (L := [62, 64, 65, 66, 67, 68, 69, 70, 71, 72, 73]) (KS_tr (L := [62, 64, 65, 66, 67, 68, 69, 70, 71, 72, 73]) KS_rf kgv_146 (by decide)) (by decide)).trans hRW) ((rs9_ks (L := [51, 52, 63, 74]) (KS_tr (L := [51, 52, 63, 74]) KS_rf ksv_146 (by decide)) rfl rfl).trans hRS) hBR hCL hR9w hWD h519 (by rw [htq9, hsq9.2.2.2.2.1, heb]; exact hx9) (by rw [htq9, hsq9.2.2.2.2.1, heb, ← hae9, ← hsl9]; exact hvr9) (by rw [htq9, hsq9.2.2.2.2.1, heb, ← hae9, ← hsl9]; exact hit9) (by rw [htq9, hsq9.2.2.2.2.2.2.1]; have hm := IV_m hIV hh1; have q5 := hm.2.2.2.2.2.2.2.2.2.2.1 (by have := hm.2.1; omega); rw [q5.1]; exact q5.2.2) hST2) (cwV 1 htb (gd_V kw_1312 kw_1313 kw_142 kw_160 kw_1652) rfl rfl rfl (by decide +kernel) ⟨Nat.le_of_ble_eq_true rfl, Nat.le_of_ble_eq_true rfl⟩) rfl hl.1 rfl (Nat.le_of_ble_eq_true rfl) dX13_step_340 ⟨Nat.zero_le _, Nat.zero_le _⟩ hK hP hD hS hA (fun u_154 H locs hw hP hD hS => ?_)
      obtain ⟨sgv_155, gmv_155, lgv_155, rfl, hIv_155, ksv_155, kgv_155, klv_155, fS9_r_153⟩ := hw
      obtain rfl := KS_nil klv_155
      have hP : va_P (dC, dI) vwCl (mW h0 ad cid sgv_155 gmv_155 lg) H := hP
      have hD : va_D A (mW h0 ad cid sgv_155 gmv_155 lg) := hD
      have hwx : WOX sg gm (LM sg gm lg (gm 64 (TOPn sg)) (gm 65 (TOPn sg)) (gm 66 (TOPn sg))) sgv_155 gmv_155 r_144 := by rw [hlim9]; exact WOX_s hf0 fWo_r_144 c_147 ((show KS [49, 51, 52] sgv_146 sgv_155 from (KS_tr (L := [49, 51, 52]) KS_rf ksv_155 (by decide))) 63 (by decide)) ((show KS [55, 56, 57, 58] gmv_146 gmv_155 from (KS_tr (L := [55, 56, 57, 58]) KS_rf kgv_155 (by decide))) 62 (by decide)) ((show KS [55, 56, 57, 58] gmv_146 gmv_155 from (KS_tr (L := [55, 56, 57, 58]) KS_rf kgv_155 (by decide))) 64 (by decide)) ((show KS [55, 56, 57, 58] gmv_146 gmv_155 from (KS_tr (L := [55, 56, 57, 58]) KS_rf kgv_155 (by decide))) 65 (by decide)) ((show KS [55, 56, 57, 58] gmv_146 gmv_155 from (KS_tr (L := [55, 56, 57, 58]) KS_rf kgv_155 (by decide))) 66 (by decide)) ((show KS [55, 56, 57, 58] gmv_146 gmv_155 from (KS_tr (L := [55, 56, 57, 58]) KS_rf kgv_155 (by decide))) 67 (by decide)) ((show KS [55, 56, 57, 58] gmv_146 gmv_155 from (KS_tr (L := [55, 56, 57, 58]) KS_rf kgv_155 (by decide))) 69 (by decide))
      have hgi3 : GI0 sgv_155 gmv_155 lg := GI0_of fGI_r_144 (show KS [49, 51, 52] sgv_146 sgv_155 from (KS_tr (L := [49, 51, 52]) KS_rf ksv_155 (by decide))) (show KS [55, 56, 57, 58] gmv_146 gmv_155 from (KS_tr (L := [55, 56, 57, 58]) KS_rf kgv_155 (by decide))) (show KS [] lg lg from KS_rf) (by decide) (by decide) (by decide) (by decide) (by decide) (by decide)
      have h25m : (gm 66 (TOPn sg)).toInt ≤ 25 := (by have := congrArg Int32.toInt hix9; have := h308.2; omega)
      refine lv_aload_n hx hb dX13_step_343 rfl (lv_at hl 3 rfl) ?_
      refine lv_iload_n hx hb dX13_step_344 rfl (lv_at hl 0 rfl) ?_
      refine lv_iload_n hx hb dX13_step_345 rfl (lv_at hl 2 rfl) ?_
      refine mr_callv (rest := []) ⟨hx, hb, hml, hown, htb⟩ (f_next l dC dI h0 ad cid sgv_155 gmv_155 lg r_144 z_1 hIv_155 (iv_w h_152 (by decide)) hz_1 (by obtain ⟨sg1, gm1, q9, _, _, _, _, q5, _⟩ := hwx; rcases q9 with ⟨_, q8⟩ | ⟨q8, _⟩; (exact Or.inl (by rw [htop, q5, q8.2.2.2.2.1]; exact h25m)); exact Or.inr q8)) (cwV 2 htb (gd_V kw_1271 kw_1272 kw_124 kw_160 kw_1634) rfl rfl rfl (by decide +kernel) ⟨Nat.le_of_ble_eq_true rfl, Nat.le_of_ble_eq_true rfl⟩) rfl hl.1 rfl (Nat.le_of_ble_eq_true rfl) dX13_step_346 ⟨Nat.zero_le _, Nat.zero_le _⟩ hK hP hD hS hA (fun u_157 H locs hw hP hD hS => ?_)
      obtain ⟨sgv_158, gmv_158, lgv_158, rfl, hIv_158, ksv_158, kgv_158, klv_158, fNx_r_156⟩ := hw
      obtain rfl := KS_nil ksv_158
      obtain rfl := KS_nil klv_158
      have hP : va_P (dC, dI) vwCl (mW h0 ad cid sgv_155 gmv_158 lg) H := hP
      have hD : va_D A (mW h0 ad cid sgv_155 gmv_158 lg) := hD
      exact W.vret hx hb hr (fun t ht hW => ⟨⟨(sgv_155, gmv_158, lg), rfl, ⟨sgv_155, gmv_158, lg, rfl, hIv_158, (KS_tr (L := [48, 49, 50, 51, 52, 63, 74]) (KS_tr (L := [48, 49, 50, 51, 52, 63, 74]) KS_rf ksv_146 (by decide)) ksv_155 (by decide)), (KS_tr (L := [53, 54, 55, 56, 57, 58, 59, 60, 61, 62, 64, 65, 66, 67, 68, 69, 70, 71, 72, 73, 75]) (KS_tr (L := [53, 54, 55, 56, 57, 58, 59, 60, 61, 62, 64, 65, 66, 67, 68, 69, 70, 71, 72, 73, 75]) (KS_tr (L := [53, 54, 55, 56, 57, 58, 59, 60, 61, 62, 64, 65, 66, 67, 68, 69, 70, 71, 72, 73, 75]) KS_rf kgv_146 (by decide)) kgv_155 (by decide)) kgv_158 (by decide)), KS_rf, (GI0_of hgi3 (show KS [] sgv_155 sgv_155 from KS_rf) (show KS [66, 67] gmv_155 gmv_158 from (KS_tr (L := [66, 67]) KS_rf kgv_158 (by decide))) (show KS [] lg lg from KS_rf) (by decide) (by decide) (by decide) (by decide) (by decide) (by decide)), (MO_of hmo (show KS [49, 51, 52, 63, 74] sg sgv_155 from (KS_tr (L := [49, 51, 52, 63, 74]) (KS_tr (L := [49, 51, 52, 63, 74]) KS_rf ksv_146 (by decide)) ksv_155 (by decide))) (show KS [55, 56, 57, 58, 62, 64, 65, 66, 67, 68, 69, 70, 71, 72, 73] gm gmv_158 from (KS_tr (L := [55, 56, 57, 58, 62, 64, 65, 66, 67, 68, 69, 70, 71, 72, 73]) (KS_tr (L := [55, 56, 57, 58, 62, 64, 65, 66, 67, 68, 69, 70, 71, 72, 73]) (KS_tr (L := [55, 56, 57, 58, 62, 64, 65, 66, 67, 68, 69, 70, 71, 72, 73]) KS_rf kgv_146 (by decide)) kgv_155 (by decide)) kgv_158 (by decide))) (by decide) (by decide)), (ST_wox hI hdoc hinv hh1 (DK_of (show KS [49, 51, 52, 63, 74] sg sgv_155 from (KS_tr (L := [49, 51, 52, 63, 74]) (KS_tr (L := [49, 51, 52, 63, 74]) KS_rf ksv_146 (by decide)) ksv_155 (by decide))) (show KS [55, 56, 57, 58, 62, 64, 65, 66, 67, 68, 69, 70, 71, 72, 73] gm gmv_158 from (KS_tr (L := [55, 56, 57, 58, 62, 64, 65, 66, 67, 68, 69, 70, 71, 72, 73]) (KS_tr (L := [55, 56, 57, 58, 62, 64, 65, 66, 67, 68, 69, 70, 71, 72, 73]) (KS_tr (L := [55, 56, 57, 58, 62, 64, 65, 66, 67, 68, 69, 70, 71, 72, 73]) KS_rf kgv_146 (by decide)) kgv_155 (by decide)) kgv_158 (by decide))) (show KS [] lg lg from KS_rf) (by decide) (by decide) (by decide)) (Eq.trans (Eq.trans (kgv_158 44 (by decide)) (kgv_155 44 (by decide))) (kgv_146 44 (by decide))) (Eq.trans (Eq.trans (kgv_158 45 (by decide)) (kgv_155 45 (by decide))) (kgv_146 45 (by decide))) rfl (Eq.trans (Eq.trans (kgv_158 60 (by decide)) (kgv_155 60 (by decide))) (kgv_146 60 (by decide))) hwx rfl (by omega) htop rfl ((show KS [66, 67] gmv_155 gmv_158 from (KS_tr (L := [66, 67]) KS_rf kgv_158 (by decide))) 62 (by decide)) ((show KS [66, 67] gmv_155 gmv_158 from (KS_tr (L := [66, 67]) KS_rf kgv_158 (by decide))) 64 (by decide)) ((show KS [66, 67] gmv_155 gmv_158 from (KS_tr (L := [66, 67]) KS_rf kgv_158 (by decide))) 65 (by decide)) ((show KS [66, 67] gmv_155 gmv_158 from (KS_tr (L := [66, 67]) KS_rf kgv_158 (by decide))) 69 (by decide)) rfl (fNx_r_156) (by omega) (fun q9 => by omega) (fun _ => h4l)), ((by rcases fNx_r_156 with q9 | ⟨q1, q2, v9, q3, q4⟩; (exact absurd (Int32.toInt_inj.mp q9.1) c_147); exact OUT_4s hIV hh1 hph9 hx9 hsl9 (by rw [← hae9]; exact hre9) (KPS_k hks9 ((show KS [55, 56, 57, 58, 66, 67] gmv_146 gmv_158 from (KS_tr (L := [55, 56, 57, 58, 66, 67]) (KS_tr (L := [55, 56, 57, 58, 66, 67]) KS_rf kgv_155 (by decide)) kgv_158 (by decide))) 70 (by decide)) ((show KS [55, 56, 57, 58, 66, 67] gmv_146 gmv_158 from (KS_tr (L := [55, 56, 57, 58, 66, 67]) (KS_tr (L := [55, 56, 57, 58, 66, 67]) KS_rf kgv_155 (by decide)) kgv_158 (by decide))) 71 (by decide)) ((show KS [55, 56, 57, 58, 66, 67] gmv_146 gmv_158 from (KS_tr (L := [55, 56, 57, 58, 66, 67]) (KS_tr (L := [55, 56, 57, 58, 66, 67]) KS_rf kgv_155 (by decide)) kgv_158 (by decide))) 72 (by decide)) ((show KS [55, 56, 57, 58, 66, 67] gmv_146 gmv_158 from (KS_tr (L := [55, 56, 57, 58, 66, 67]) (KS_tr (L := [55, 56, 57, 58, 66, 67]) KS_rf kgv_155 (by decide)) kgv_158 (by decide))) 73 (by decide))) (by have q7 := fS9_r_153; rw [htq9, hsq9.2.2.2.2.1, hsq9.2.2.2.2.2.2.1, heb] at q7; rcases q7 with ⟨p1, S2, p2, p3⟩ | ⟨p1, S2, p2, p3⟩; (exact Or.inl ⟨(by exact p1), S2, p2, RR_ks p3 (KS_rf (L := [])) (show KS [66, 67] gmv_155 gmv_158 from (KS_tr (L := [66, 67]) KS_rf kgv_158 (by decide))) (by decide) (by decide)⟩); (exact Or.inr ⟨(by exact p1), S2, p2, RR_ks p3 (KS_rf (L := [])) (show KS [66, 67] gmv_155 gmv_158 from (KS_tr (L := [66, 67]) KS_rf kgv_158 (by decide))) (by decide) (by decide)⟩)) htop (((show KS [49, 51, 52] sgv_146 sgv_155 from (KS_tr (L := [49, 51, 52]) KS_rf ksv_155 (by decide))) 63 (by decide)).trans hsq9.1) (((show KS [55, 56, 57, 58, 66, 67] gmv_146 gmv_158 from (KS_tr (L := [55, 56, 57, 58, 66, 67]) (KS_tr (L := [55, 56, 57, 58, 66, 67]) KS_rf kgv_155 (by decide)) kgv_158 (by decide))) 64 (by decide)).trans hsq9.2.2.1) (((show KS [55, 56, 57, 58, 66, 67] gmv_146 gmv_158 from (KS_tr (L := [55, 56, 57, 58, 66, 67]) (KS_tr (L := [55, 56, 57, 58, 66, 67]) KS_rf kgv_155 (by decide)) kgv_158 (by decide))) 65 (by decide)).trans hsq9.2.2.2.1) (q3.trans (by rw [((show KS [55, 56, 57, 58] gmv_146 gmv_155 from (KS_tr (L := [55, 56, 57, 58]) KS_rf kgv_155 (by decide))) 66 (by decide)), hsq9.2.2.2.2.1])) (by rw [q4, ((show KS [55, 56, 57, 58] gmv_146 gmv_155 from (KS_tr (L := [55, 56, 57, 58]) KS_rf kgv_155 (by decide))) 66 (by decide)), hsq9.2.2.2.2.1]) (fun j hj => by rw [q2, upd_ne (by rw [htop]; omega), ((show KS [55, 56, 57, 58] gmv_146 gmv_155 from (KS_tr (L := [55, 56, 57, 58]) KS_rf kgv_155 (by decide))) 67 (by decide))]; exact hsq9.2.2.2.2.2.2.2.2 j (by omega)) (by rw [q2, htop, upd_at]; decide) (((show KS [55, 56, 57, 58, 66, 67] gmv_146 gmv_158 from (KS_tr (L := [55, 56, 57, 58, 66, 67]) (KS_tr (L := [55, 56, 57, 58, 66, 67]) KS_rf kgv_155 (by decide)) kgv_158 (by decide))) 68 (by decide)).trans hsq9.2.2.2.2.2.1) (((show KS [55, 56, 57, 58, 66, 67] gmv_146 gmv_158 from (KS_tr (L := [55, 56, 57, 58, 66, 67]) (KS_tr (L := [55, 56, 57, 58, 66, 67]) KS_rf kgv_155 (by decide)) kgv_158 (by decide))) 69 (by decide)).trans hsq9.2.2.2.2.2.2.1)))⟩, by rw [ht]; exact hP, va_K.moved hW.alike hK, hD⟩, hS.F ht⟩) hS.2.2 dX13_step_349
  · have d_159 : (z_135 : Int32).toInt = (z_136 : Int32).toInt := congrArg Int32.toInt c_137
    have hix9 : z_135 = gm 66 (TOPn sg) := (show z_135 = gm 66 (TOPn sg) from (by have q9 := ez_135; rw [htop] at q9; exact q9))
    have h44e : z_136 = gm 44 (gm 64 (TOPn sg)).toNatClampNeg := by rw [← heb]; exact ez_136
    have hx9 : ¬ (gm 66 (TOPn sg)).toNatClampNeg < (wg 41 (3 * (gm 64 (TOPn sg)).toNatClampNeg + 1)).toNatClampNeg := (by have q5 := (BR_e hBR hRW hRS hpt.2.1 hpt.2.2).1; rw [← h44e, ← c_137, hix9] at q5; have q6 : (gm 66 (TOPn sg)).toNatClampNeg = (gm 66 (TOPn sg)).toInt.toNat := rfl; have q7 : (wg 41 (3 * (gm 64 (TOPn sg)).toNatClampNeg + 1)).toNatClampNeg = (wg 41 (3 * (gm 64 (TOPn sg)).toNatClampNeg + 1)).toInt.toNat := rfl; omega)
    refine lv_aload_n hx hb dX13_step_300 rfl (lv_at hl 2 rfl) ?_
    refine lv_iload_n hx hb dX13_step_301 rfl (lv_at hl 0 rfl) ?_
    refine mr_callv (rest := []) ⟨hx, hb, hml, hown, htb⟩ (f_finish9 l dC dI h0 ad cid sg gm lg z_2 ws wg wl rs rg S hI hz_2 hdoc hgi hh1 hpi hmo heb ((hfr0.2.2.2 hph9).2.1) (by rw [heb]; exact (hfr0.2.2.2 hph9).2.2) (by by_cases q9 : (sg 63).toInt = 1; exact Or.inl q9; exact Or.inr ⟨hinv.1.2.1 _ (by have := cl_0 (x := sg 63) (by omega); unfold TOPn; omega), hinv.2 _ (by have := cl_0 (x := sg 63) (by omega); unfold TOPn; omega)⟩) hRW hRS hBR hRR (RR_z1 hRR hpi hh1 heb)) (cwV 1 htb (gd_V kw_1310 kw_1311 kw_141 kw_160 kw_1651) rfl rfl rfl (by decide +kernel) ⟨Nat.le_of_ble_eq_true rfl, Nat.le_of_ble_eq_true rfl⟩) rfl hl.1 rfl (Nat.le_of_ble_eq_true rfl) dX13_step_302 ⟨Nat.zero_le _, Nat.zero_le _⟩ hK hP hD hS hA (fun u_161 H locs hw hP hD hS => ?_)
    obtain ⟨sgv_162, gmv_162, lgv_162, rfl, hIv_162, ksv_162, kgv_162, klv_162, fGI_r_160, fFn_r_160, fMo_r_160, fR9_r_160, fG9_r_160, fD9_r_160⟩ := hw
    obtain rfl := KS_nil klv_162
    have hP : va_P (dC, dI) vwCl (mW h0 ad cid sgv_162 gmv_162 lg) H := hP
    have hD : va_D A (mW h0 ad cid sgv_162 gmv_162 lg) := hD
    refine lv_goto (tgt := 349) hx hb dX13_step_305 (by decide) ?_
    exact W.vret hx hb hr (fun t ht hW => ⟨⟨(sgv_162, gmv_162, lg), rfl, ⟨sgv_162, gmv_162, lg, rfl, hIv_162, (KS_tr (L := [48, 49, 50, 51, 52, 63, 74]) KS_rf ksv_162 (by decide)), (KS_tr (L := [53, 54, 55, 56, 57, 58, 59, 60, 61, 62, 64, 65, 66, 67, 68, 69, 70, 71, 72, 73, 75]) KS_rf kgv_162 (by decide)), KS_rf, (fGI_r_160), (fMo_r_160), (Or.inr (ST_pop hI hinv hh1 (DK_of (show KS [49, 50, 63, 74] sg sgv_162 from (KS_tr (L := [49, 50, 63, 74]) KS_rf ksv_162 (by decide))) (show KS [55, 56, 57, 58, 59, 61, 62, 67, 68, 70, 71, 72, 73] gm gmv_162 from (KS_tr (L := [55, 56, 57, 58, 59, 61, 62, 67, 68, 70, 71, 72, 73]) KS_rf kgv_162 (by decide))) (show KS [] lg lg from KS_rf) (by decide) (by decide) (by decide)) (kgv_162 44 (by decide)) (kgv_162 45 (by decide)) rfl (kgv_162 60 (by decide)) (by rw [← heb]; exact fFn_r_160) (kgv_162 64 (by decide)) (kgv_162 65 (by decide)) (kgv_162 66 (by decide)) (kgv_162 69 (by decide)))), ((OUT_q hIV hh1 hph9 hx9 hBR hRW hRS hpi hRR (hfr0.2.2.2 hph9).2.2 (fun q1 q3 => EL_v hI hdoc (by unfold TOPn; have := iv_cl h63 (by decide); have := h63.2; omega) (hpi _ (by unfold TOPn; have := cl_0 (x := sg 63) (by omega); omega)).2.1 (hpi _ (by unfold TOPn; have := cl_0 (x := sg 63) (by omega); omega)).2.2.1 (hinv.1.2.1 _ (by have := cl_0 (x := sg 63) (by omega); unfold TOPn; omega)) q3) (by rw [← heb]; exact fFn_r_160) (by rw [← heb]; exact fR9_r_160) fG9_r_160 fD9_r_160 (by have := hf0; have := i32_0; have := i32_1; have := i32_2; have := i32_m1; have := congrArg Int32.toInt (show sgv_162 51 = sg 51 from ksv_162 51 (by decide)); have := (show iv 0 8 (sg 51) from MI_s hI 51).1; have := (show iv 0 8 (sg 51) from MI_s hI 51).2; have := (h63).1; have := (h63).2; have := (hz_1).1; have := (hz_1).2; have := (hz_2).1; have := (hz_2).2; have := (h_134).1; have := (h_134).2; have := (hz_135).1; have := (hz_135).2; have := (hz_136).1; have := (hz_136).2; omega) (kgv_162 64 (by decide)) (kgv_162 65 (by decide)) (kgv_162 66 (by decide)) (kgv_162 69 (by decide))))⟩, by rw [ht]; exact hP, va_K.moved hW.alike hK, hD⟩, hS.F ht⟩) hS.2.2 dX13_step_349
end
section
section RN9
variable {ws : Nat → Int32} {wg rg gm gm1 gm2 : Nat → Nat → Int32} {wl : Nat → Nat → Int64} {rs sg sg1 sg2 : Nat → Int32} {lg : Nat → Nat → Int64} {S S2 : S9} {R : Option Int × S9} {b : Int32}
theorem bd9_i (x : Option Int × S9) : bd9 x (fun o S => (some o, S)) = x := by
  obtain ⟨o, S⟩ := x
  cases o <;> rfl
/-- what run tells at the head of its loop -/
def RH9 (ws : Nat → Int32) (wg : Nat → Nat → Int32) (wl : Nat → Nat → Int64) (rg : Nat → Nat → Int32) (R : Option Int × S9) (sg : Nat → Int32) (gm : Nat → Nat → Int32) (th : Int32) : Prop :=
  (th.toInt = 1 ∧ (sg 51).toInt = 0 ∧ ∃ S2, RR wg wl S2 sg gm ∧ WF9 S2 ∧ R = (some (sg 74).toInt, S2)) ∨ (th.toInt = 0 ∧ OUT9 ws wg wl rg R sg gm)
/-- behind it -/
def RE9 (wg : Nat → Nat → Int32) (wl : Nat → Nat → Int64) (R : Option Int × S9) (sg : Nat → Int32) (gm : Nat → Nat → Int32) : Prop :=
  ∃ S2, RR wg wl S2 sg gm ∧ WF9 S2 ∧ (((sg 51).toInt = 0 ∧ R = (some (sg 74).toInt, S2)) ∨ (1 ≤ (sg 51).toInt ∧ R = (none, S2)))
theorem RH_0 {r : Int32} (h0 : (sg1 63).toInt = 0) (hW : WF9 S) (hg : FGT ws wg wl S b sg1 gm1 sg2 gm2 r) (hG : GETS sg1 gm1 sg2 gm2 r) (hv : iv (-1) 79 b) (hr : iv 0 1 r) : RH9 ws wg wl rg (gtR ws wg wl 81 b.toInt S) sg2 gm2 r := by
  by_cases hz : r.toInt = 0
  · refine Or.inr ⟨hz, ?_⟩
    rcases FG_0 hg hz with ⟨q1, q2, q3⟩ | ⟨q1, q2, q3, q4, q5, q6⟩
    · exact ⟨S, q2, hW, Or.inl ⟨q1, q3 81⟩⟩
    · obtain ⟨g1, g2, g3, g4, g5, g6⟩ := GT_p hG hz q1
      have c1 : (sg1 63).toNatClampNeg = 0 := by have := cln9 (u := sg1 63) (by omega); omega
      have c2 : (sg2 63).toNatClampNeg = 1 := by have := cln9 (u := sg2 63) (by omega); omega
      rw [c1] at g3 g4 g5 g6 q5 q6
      have ht : TOPn sg2 = 0 := by unfold TOPn; omega
      refine ⟨_, q2, WF_be hW, Or.inr ⟨q1, Or.inr ⟨by omega, fun _ => (b.toNatClampNeg, 0, 0, -1, -1, [], []), WF_be hW, ?_, fun j hj => ?_, fun j hj => by omega⟩⟩⟩
      · rw [ht, q4 81, oMK_2 q3]
        show _ = bd9 (frC ws wg wl 80 (b.toNatClampNeg, 0, 0, -1, -1, [], []) (oBe b.toNatClampNeg S)) (fun o S => (some o, S))
        rw [bd9_i]; rfl
      · have ej : j = 0 := by omega
        subst ej
        exact ⟨by rw [q5, upd_at]; rfl, by rw [g3, upd_at]; rfl, by rw [g4, upd_at]; rfl, by rw [q6, upd_at]; rfl, Or.inl rfl, fun _ => rfl, fun q => absurd rfl q, fun q => absurd q (by show ¬ 2 ≤ 0; omega), fun q => absurd q (by show ¬ 3 ≤ 0; omega), fun q => absurd q (by show ¬ 0 = 3; omega), fun q => absurd q (by show ¬ 0 = 4; omega), Nat.zero_le _⟩
  · obtain ⟨q1, q2, q3⟩ := FG_1 hg hz
    exact Or.inl ⟨by have := hr.1; have := hr.2; omega, q1, S, q2, hW, q3 81⟩
theorem RH_i {th : Int32} (h : RH9 ws wg wl rg R sg gm th) (ht : th.toInt = 0) (h63 : 1 ≤ (sg 63).toInt) (h51 : (sg 51).toInt = 0) : ∃ S2 F2, RR wg wl S2 sg gm ∧ IV9 ws wg wl rg R S2 sg gm F2 := by
  rcases h with q | ⟨_, S2, q1, q2, q3⟩
  · omega
  · rcases q3 with q | ⟨_, q | ⟨_, F2, q⟩⟩
    · omega
    · omega
    · exact ⟨S2, F2, q1, q⟩
theorem RH_e {th : Int32} (h : RH9 ws wg wl rg R sg gm th) (hx : ¬ th.toInt = 0 ∨ (sg 63).toInt ≤ 0 ∨ ¬ (sg 51).toInt = 0) : RE9 wg wl R sg gm := by
  rcases h with ⟨q0, q1, S2, q2, q3, q4⟩ | ⟨q0, S2, q1, q2, q3⟩
  · exact ⟨S2, q2, q3, Or.inl ⟨q1, q4⟩⟩
  · refine ⟨S2, q1, q2, ?_⟩
    rcases q3 with q | ⟨p1, q | ⟨p2, F2, q⟩⟩
    · exact Or.inr q
    · exact Or.inl ⟨p1, q.2⟩
    · exfalso
      rcases hx with x | x | x
      · exact x q0
      · omega
      · exact x p1
/-- what was being made is not any more, up to a bean -/
def zSk (k : Nat) (S : S9) : S9 := (zO S, zE S, fun b => if b < k ∧ zS S b = 1 then 0 else zS S b, zW S, zF S)
theorem zSk_0 : zSk 0 S = S := by
  unfold zSk
  have : (fun b => if b < 0 ∧ zS S b = 1 then 0 else zS S b) = zS S := by
    funext b; rw [if_neg (fun q => Nat.not_lt_zero _ q.1)]
  rw [this]; rfl
theorem zSk_n {k : Nat} (h : ¬ zS S k = 1) : zSk (k + 1) S = zSk k S := by
  unfold zSk
  have : (fun b => if b < k + 1 ∧ zS S b = 1 then 0 else zS S b) = (fun b => if b < k ∧ zS S b = 1 then 0 else zS S b) := by
    funext b
    by_cases q : b < k ∧ zS S b = 1
    · rw [if_pos q, if_pos ⟨by omega, q.2⟩]
    · rw [if_neg q]
      by_cases q2 : b < k + 1 ∧ zS S b = 1
      · exfalso
        have : b = k := by
          have q1 : ¬ b < k := fun p => q ⟨p, q2.2⟩
          omega
        exact h (this ▸ q2.2)
      · rw [if_neg q2]
  rw [this]
theorem zSk_z {k : Nat} : zS (zSk k S) k = zS S k := by
  show (if k < k ∧ zS S k = 1 then 0 else zS S k) = _
  rw [if_neg (fun q => Nat.lt_irrefl _ q.1)]
theorem RR_sk {k i j : Nat} {v w : Int32} (h : RR wg wl (zSk k S) sg gm) (hk : k < (sg 41).toNatClampNeg) (hz : ¬ gm 62 k = 0) (e41 : sg2 41 = sg 41) (e48 : sg2 48 = sg 48) (e49 : sg2 49 = sg 49) (e50 : sg2 50 = sg 50) (e53 : gm2 53 = gm 53) (e54 : gm2 54 = gm 54) (e55 : gm2 55 = gm 55) (e56 : gm2 56 = gm 56) (e57 : gm2 57 = gm 57) (e58 : gm2 58 = gm 58) (e59 : gm2 59 = gm 59) (e60 : gm2 60 = upd (gm 60) i v) (hi : i = k) (hv : v.toInt = -1) (e61 : gm2 61 = gm 61) (e62 : gm2 62 = upd (gm 62) j w) (hj : j = k) (hw : w = 0) : RR wg wl (zSk (k + 1) S) sg2 gm2 := by
  obtain ⟨hO, hE, hB, hF⟩ := h
  subst hj; subst hi; subst hw
  have h1 : zS S i = 1 := by
    have q := (hB i hk).1.mpr hz
    rw [zSk_z] at q; exact q
  refine ⟨?_, ?_, ?_, ?_⟩
  · unfold RRo; rw [e48, e53, e54]; exact hO
  · unfold RRe; rw [e49, e55, e56, e57, e58]; exact hE
  · intro b hb
    rw [e41] at hb
    have q := hB b hb
    rw [e60, e61, e62]
    show ((if b < i + 1 ∧ zS S b = 1 then 0 else zS S b) = 1 ↔ _) ∧ (_ → ((if b < i + 1 ∧ zS S b = 1 then 0 else zS S b) = 2 ↔ _) ∧ _ = (if (if b < i + 1 ∧ zS S b = 1 then 0 else zS S b) = 0 then -1 else zW S b)) ∧ (if b < i + 1 ∧ zS S b = 1 then 0 else zS S b) ≤ 2
    have q : ((if b < i ∧ zS S b = 1 then 0 else zS S b) = 1 ↔ ¬ gm 62 b = 0) ∧ (one9 wg wl b → ((if b < i ∧ zS S b = 1 then 0 else zS S b) = 2 ↔ ¬ gm 61 b = 0) ∧ (gm 60 b).toInt = (if (if b < i ∧ zS S b = 1 then 0 else zS S b) = 0 then -1 else zW S b)) ∧ (if b < i ∧ zS S b = 1 then 0 else zS S b) ≤ 2 := q
    by_cases e : b = i
    · subst e
      rw [if_pos ⟨Nat.lt_succ_self b, h1⟩, upd_at, upd_at]
      rw [if_neg (fun p => Nat.lt_irrefl _ p.1), h1] at q
      refine ⟨⟨fun p => absurd p (by decide), fun p => absurd rfl p⟩, fun o => ⟨⟨fun p => absurd p (by decide), fun p => ?_⟩, by rw [if_pos rfl]; exact hv⟩, by omega⟩
      have := (q.2.1 o).1.mpr p
      exact absurd this (by decide)
    · rw [upd_ne e, upd_ne e]
      have e2 : (if b < i + 1 ∧ zS S b = 1 then 0 else zS S b) = (if b < i ∧ zS S b = 1 then 0 else zS S b) := by
        by_cases p : b < i ∧ zS S b = 1
        · rw [if_pos p, if_pos ⟨by omega, p.2⟩]
        · rw [if_neg p, if_neg (fun p2 => p ⟨by omega, p2.2⟩)]
      rw [e2]; exact q
  · refine ⟨by rw [e50]; exact hF.1, fun k x hx => ?_, hF.2.2⟩
    have q := hF.2.1 k x hx
    rw [e41, e59]
    refine ⟨q.1, q.2.1, q.2.2.1, ?_⟩
    have q4 : (if x < i ∧ zS S x = 1 then 0 else zS S x) = 2 := q.2.2.2
    show (if x < i + 1 ∧ zS S x = 1 then 0 else zS S x) = 2
    by_cases p : x < i ∧ zS S x = 1
    · rw [if_pos p] at q4; exact absurd q4 (by decide)
    · rw [if_neg p] at q4
      rw [if_neg (fun p2 => by omega)]; exact q4
theorem RR_st {n : Nat} (h : RR wg wl (zSk n S) sg gm) (hn : (sg 41).toNatClampNeg ≤ n) : RR wg wl (zSt S) sg gm := by
  obtain ⟨hO, hE, hB, hF⟩ := h
  have e : ∀ b, b < (sg 41).toNatClampNeg → zS (zSk n S) b = zS (zSt S) b := fun b hb => by
    show (if b < n ∧ zS S b = 1 then 0 else zS S b) = if zS S b = 1 then 0 else zS S b
    by_cases p : zS S b = 1
    · rw [if_pos p, if_pos ⟨by omega, p⟩]
    · rw [if_neg p, if_neg (fun q => p q.2)]
  refine ⟨hO, hE, fun b hb => ?_, hF.1, fun k x hx => ?_, hF.2.2⟩
  · have q := hB b hb
    rw [e b hb] at q
    exact q
  · have q := hF.2.1 k x hx
    rw [e x q.2.1] at q; exact q
theorem WF_st (h : WF9 S) : WF9 (zSt S) := by
  intro t ht
  refine h t ?_
  have e : zS (zSt S) t = if zS S t = 1 then 0 else zS S t := rfl
  by_cases p : zS S t = 1
  · rw [e, if_pos p] at ht; omega
  · rw [e, if_neg p] at ht
    rcases ht with q | q
    · exact Or.inl q
    · exact absurd q.1 p
/-- what run tells -/
def RU9 (wg : Nat → Nat → Int32) (wl : Nat → Nat → Int64) (R : Option Int × S9) (sg : Nat → Int32) (gm : Nat → Nat → Int32) (r : Int32) : Prop :=
  ∃ S2, RR wg wl S2 sg gm ∧ WF9 S2 ∧ ((r.toInt = 1 ∧ (sg 51).toInt = 0 ∧ R = (some (sg 74).toInt, S2)) ∨ (r.toInt = 0 ∧ 1 ≤ (sg 51).toInt ∧ ∃ S3, R = (none, S3) ∧ S2 = zSt S3))
theorem RU_1 {r : Int32} (h : RE9 wg wl R sg gm) (h5 : (sg 51).toInt = 0) (hr : r.toInt = 1) : RU9 wg wl R sg gm r := by
  obtain ⟨S2, a, b, c⟩ := h
  rcases c with c | c
  · exact ⟨S2, a, b, Or.inl ⟨hr, h5, c.2⟩⟩
  · omega
theorem RE_0 (h : RE9 wg wl R sg gm) (h5 : ¬ (sg 51).toInt = 0) : ∃ S3, RR wg wl (zSk 0 S3) sg gm ∧ WF9 S3 ∧ R = (none, S3) ∧ 1 ≤ (sg 51).toInt := by
  obtain ⟨S2, a, b, c⟩ := h
  rcases c with c | c
  · exact absurd c.1 h5
  · exact ⟨S2, by rw [zSk_0]; exact a, b, c.2, c.1⟩
end RN9
end
section
set_option maxHeartbeats 4000000 in
set_option maxRecDepth 100000 in
theorem f_run9 (l : Launch) (dC : Nat → ClassId) (dI : Nat → Nat → Nat) (h0 : Nat) (ad : Nat → Nat) (cid : Nat → ClassId) (sg : Nat → Int32) (gm : Nat → Nat → Int32) (lg : Nat → Nat → Int64) (b : Int32) (ws : Nat → Int32) (wg : Nat → Nat → Int32) (wl : Nat → Nat → Int64) (rs : Nat → Int32) (rg : Nat → Nat → Int32) (S : S9) (hI : MI sg gm) (hvb : iv (-1) 79 b) (hdoc : DOC sg gm lg) (hgi : GI0 sg gm lg) (hPR : PR gm) (hmo : MO sg gm) (hbl : b.toInt < (sg 41).toInt) (hRW : rt9 gm = rg) (hRS : rs9 sg = rs) (hBR : BRG ws wg wl rs rg lg) (hCL : CLS9 wg rg) (hRR : RR wg wl S sg gm) (hWD : WD9 lg) (hST : STY9 wg) (hST2 : ∀ c n, c < 8 → n < 26 → (wg 55 (26 * c + n)).toInt = -1 ∨ ty9 (wg 55 (26 * c + n)).toInt) (hSB : SB9 ws wg wl) (hWF : WF9 S) (h510 : (sg 51).toInt = 0) : MMi l dC dI yX13_run wm_X13_run ({ frames := 11, cells := 0, slots := 0, locals := 277 }) h0 ad cid [.int b] sg gm lg (fun r v => ∃ (sg2 : Nat → Int32) (gm2 : Nat → Nat → Int32) (lg2 : Nat → Nat → Int64), v = (sg2, gm2, lg2) ∧ MI sg2 gm2 ∧ KS [48, 49, 50, 51, 52, 63, 74] sg sg2 ∧ KS [53, 54, 55, 56, 57, 58, 59, 60, 61, 62, 64, 65, 66, 67, 68, 69, 70, 71, 72, 73, 75] gm gm2 ∧ KS [] lg lg2 ∧ (iv 0 1 r) ∧ (GI0 sg2 gm2 lg2) ∧ (MO sg2 gm2) ∧ (RU9 wg wl (gtR ws wg wl 81 b.toInt S) sg2 gm2 r)) := by
  intro sz
  refine Met.ofW (cc := cX13_run) (maxL := 4) (ret := (some .boolean)) (by decide) rfl ?_
  intro p e s m args below meth c s₁ B hml hv
  obtain ⟨rfl, hsz, hP, hK, hD0⟩ := hv
  have hx := B.exec
  have hb := B.bytes
  have hr := B.returns
  have hts := atoms_spec (ws := wm_X13_run) B.pre
  have htb := fun (w : Cond) (h : w ∈ tb) => hts w (List.mem_cons_of_mem _ h)
  have hown : s.vm.findClass RX13 = some m.cls := findClass_of_methodNamed B.named
  have hlocks := B.notSynchronized
  subst hsz
  have hD := hD0.self (sz := s.heap.size)
  generalize hAe : va_A (mW h0 ad cid sg gm lg) s.heap.size = A at hD ⊢
  have hA : ∀ q : Nat, s.heap.size ≤ q → A q := fun q h => by rw [← hAe]; exact Or.inr h
  have hS : va_S A s.heap s.heap [] := va_S.rf
  have hl := lv_entry ([.ref h0, .int b]) (n := 4) (Nat.le_of_ble_eq_true rfl)
  rw [lg_entry_eq]
  generalize (lg_sl ([.ref h0, .int b]) ++ List.replicate (4 - (lg_sl ([.ref h0, .int b])).length) Slot.unset).toArray = ls at hl ⊢
  have hl : lv_has ls 4 [(0, .ref h0), (1, .int b)] := hl
  have hj52 : ∀ (n : Nat) (sg_j52 : Nat → Int32) (gm_j52 : Nat → Nat → Int32) (x3_52 : Int32) (x2_52 : Int32) (_ : (80 - x3_52.toInt).toNat = n) (_ : iv 0 80 x3_52) (_ : iv 0 1 x2_52) (_ : iv (-1) 79 b) (_ : KS [48, 49, 50, 51, 52, 63, 74] sg sg_j52) (_ : KS [53, 54, 55, 56, 57, 58, 59, 60, 61, 62, 64, 65, 66, 67, 68, 69, 70, 71, 72, 73, 75] gm gm_j52) (_ : MI sg_j52 gm_j52) (_ : GI0 sg_j52 gm_j52 lg) (_ : MO sg_j52 gm_j52) (_ : ∃ S3, RR wg wl (zSk x3_52.toNatClampNeg S3) sg_j52 gm_j52 ∧ WF9 S3 ∧ (gtR ws wg wl 81 b.toInt S) = (none, S3) ∧ 1 ≤ (sg_j52 51).toInt) (H : Heap) (locs : List Loc) (ls : Array Slot), va_P (dC, dI) vwCl (mW h0 ad cid sg_j52 gm_j52 lg) H → va_D A (mW h0 ad cid sg_j52 gm_j52 lg) → va_S A s.heap H locs → lv_has ls 4 [(3, .int x3_52), (2, .int x2_52), (0, .ref h0), (1, .int b)] → W p l e (headSpec wm_X13_run ({ frames := 11, cells := 0, slots := 0, locals := 277 })).room s m ([.ref h0, .int b] : List Value).toArray below meth c H locs 0 0 (MQ below (va_Qi (fun r v => ∃ (sg2 : Nat → Int32) (gm2 : Nat → Nat → Int32) (lg2 : Nat → Nat → Int64), v = (sg2, gm2, lg2) ∧ MI sg2 gm2 ∧ KS [48, 49, 50, 51, 52, 63, 74] sg sg2 ∧ KS [53, 54, 55, 56, 57, 58, 59, 60, 61, 62, 64, 65, 66, 67, 68, 69, 70, 71, 72, 73, 75] gm gm2 ∧ KS [] lg lg2 ∧ (iv 0 1 r) ∧ (GI0 sg2 gm2 lg2) ∧ (MO sg2 gm2) ∧ (RU9 wg wl (gtR ws wg wl 81 b.toInt S) sg2 gm2 r)) (MB dC dI h0 ad cid A) A) ([.ref h0, .int b] : List Value).toArray s 0 0 A) (F0 m 52 ls []) := by
    intro n
    induction n using Nat.strongRecOn with
    | ind n ih52 =>
      intro sg_j52 gm_j52 x3_52 x2_52 hn52 hx3_52 hx2_52 hsx1_52 hks_j52 hkg_j52 hI_j52 hgi hmo h52 H locs ls hP hD hS hl
      refine lv_iload_n hx hb dX13_run_52 rfl (lv_at hl 0 rfl) ?_
      refine lv_aload_n hx hb dX13_run_53 rfl (lv_at hl 2 rfl) ?_
      refine mr_get (v := .int (sg_j52 41)) hx hb htb inX13 hown hK hP 41 (by decide) (htb _ kw_1068) rfl dX13_run_54 ?_
      refine lv_topi (fun z_1 ez_1 => ?_)
      obtain rfl : (sg 41) = z_1 := (ez_1.trans (hks_j52 41 (by decide))).symm
      refine lv_icmp_ge (tgt := 92) hx hb dX13_run_57 (by decide) (fun c_2 => ?_) (fun c_2 => ?_)
      · have d_3 : ((sg 41) : Int32).toInt ≤ (x3_52 : Int32).toInt := Int32.le_iff_toInt_le.mp c_2
        refine lv_iconst (v := 0) hx hb dX13_run_92 (by decide) ?_
        exact W.zret (v := 0) hx hb hr (iv_nb (iv_w (iv_k (by decide) : iv 0 0 0) (by decide))) (fun t ht hW => ⟨⟨0, (sg_j52, gm_j52, lg), rfl, ⟨sg_j52, gm_j52, lg, rfl, hI_j52, (KS_tr (L := [48, 49, 50, 51, 52, 63, 74]) KS_rf hks_j52 (by decide)), (KS_tr (L := [53, 54, 55, 56, 57, 58, 59, 60, 61, 62, 64, 65, 66, 67, 68, 69, 70, 71, 72, 73, 75]) KS_rf hkg_j52 (by decide)), KS_rf, (iv_w (iv_k (by decide) : iv 0 0 0) (by decide)), (hgi), (hmo), ((by obtain ⟨S3, q1, q2, q3, q4⟩ := h52; exact ⟨_, RR_st q1 (by have q1 : x3_52.toNatClampNeg = x3_52.toInt.toNat := rfl; have q1 : (sg_j52 41).toNatClampNeg = (sg_j52 41).toInt.toNat := rfl; have := i32_0; have := i32_1; have := i32_2; have := i32_m1; have := congrArg Int32.toInt (show sg_j52 41 = sg 41 from hks_j52 41 (by decide)); have := (show iv 0 80 (sg 41) from MI_s hI 41).1; have := (show iv 0 80 (sg 41) from MI_s hI 41).2; have := (hsx1_52).1; have := (hsx1_52).2; have := (hx3_52).1; have := (hx3_52).2; have := (hx2_52).1; have := (hx2_52).2; have := ((show iv 0 80 (sg 41) from MI_s hI 41)).1; have := ((show iv 0 80 (sg 41) from MI_s hI 41)).2; omega), WF_st q2, Or.inr ⟨rfl, q4, S3, q3, rfl⟩⟩))⟩, by rw [ht]; exact hP, va_K.moved hW.alike hK, hD⟩, hS.F ht⟩) hS.2.2 dX13_run_93
      · have d_4 : (x3_52 : Int32).toInt < ((sg 41) : Int32).toInt := Int32.lt_iff_toInt_lt.mp (i32_lt c_2)
        have h_5 : iv 0 79 x3_52 := iv_ltL (i32_lt c_2) hx3_52 (show iv 0 80 (sg 41) from MI_s hI 41) (by decide)
        have h_6 : iv 1 80 (sg 41) := iv_ltR (i32_lt c_2) hx3_52 (show iv 0 80 (sg 41) from MI_s hI 41) (by decide)
        refine lv_aload_n hx hb dX13_run_60 rfl (lv_at hl 2 rfl) ?_
        refine mr_get (v := .ref (ad 62)) hx hb htb inX13 hown hK hP 62 (by decide) (htb _ kw_1089) rfl dX13_run_61 ?_
        refine lv_iload_n hx hb dX13_run_64 rfl (lv_at hl 0 rfl) ?_
        refine mr_zald hx hb hK hP 48 (k := 62) rfl rfl rfl (show vp_in x3_52 80 from (iv_in h_5 (by decide))) dX13_run_65 ?_
        refine lv_topi (fun z_7 ez_7 => ?_)
        have hz_7 : iv 0 1 z_7 := iv_of ez_7 (MI_a hI_j52 62 h_5 (by decide))
        refine lv_if_ne (tgt := 72) hx hb dX13_run_66 (by decide) (fun c_8 => ?_) (fun c_8 => ?_)
        · have h_9 : iv 1 1 z_7 := iv_neL c_8 hz_7 (by decide)
          refine lv_aload_n hx hb dX13_run_72 rfl (lv_at hl 2 rfl) ?_
          refine mr_get (v := .ref (ad 62)) hx hb htb inX13 hown hK hP 62 (by decide) (htb _ kw_1089) rfl dX13_run_73 ?_
          refine lv_iload_n hx hb dX13_run_76 rfl (lv_at hl 0 rfl) ?_
          refine lv_iconst (v := 0) hx hb dX13_run_77 (by decide) ?_
          refine ma_zast (x := 0) hx hb hK hP hD hS 48 (k := 62) rfl rfl rfl (show vp_in x3_52 80 from (iv_in h_5 (by decide))) dX13_run_78 (fun gm_10 H locs egm_10 hP hD hS => ?_)
          have hI_gm_10 := MI_st hI_j52 egm_10 (iv_of (iv_vb (iv_w (iv_k (by decide) : iv 0 0 0) (by decide))) (iv_k (by decide) : iv 0 0 0)) (by decide)
          refine lv_aload_n hx hb dX13_run_79 rfl (lv_at hl 2 rfl) ?_
          refine mr_get (v := .ref (ad 60)) hx hb htb inX13 hown hK hP 60 (by decide) (htb _ kw_1087) rfl dX13_run_80 ?_
          refine lv_iload_n hx hb dX13_run_83 rfl (lv_at hl 0 rfl) ?_
          refine lv_iconst (v := (-1)) hx hb dX13_run_84 (by decide) ?_
          refine ma_iast (x := (-1)) hx hb hK hP hD hS 46 (k := 60) rfl rfl rfl (show vp_in x3_52 80 from (iv_in h_5 (by decide))) dX13_run_85 (fun gm_11 H locs egm_11 hP hD hS => ?_)
          have hI_gm_11 := MI_st hI_gm_10 egm_11 (iv_k (by decide) : iv (-1) (-1) (-1)) (by decide)
          obtain ⟨z_12, ez_12⟩ : ∃ z : Int32, z = x3_52 + 1 := ⟨_, rfl⟩
          have hz_12 : iv 1 80 z_12 := iv_of ez_12 (iv_add h_5 (iv_k (by decide) : iv 1 1 1) (by decide))
          have tz_12 : z_12.toInt = x3_52.toInt + 1 := by rw [ez_12]; exact iv_addE h_5 (iv_k (by decide) : iv 1 1 1) (by decide)
          refine lv_iinc (v := z_12) (lv' := [(3, .int z_12), (2, .int x2_52), (0, .ref h0), (1, .int b)]) hx hb dX13_run_86 hl (k := 0) rfl ez_12.symm (by decide) rfl (fun ls hl => ?_)
          refine lv_goto (tgt := 52) hx hb dX13_run_89 (by decide) ?_
          exact ih52 _ (by rw [← hn52]; exact (iv_meas tz_12 h_5 (by decide))) sg_j52 gm_11 z_12 x2_52 rfl (iv_w hz_12 (by decide)) hx2_52 hsx1_52 (KS_tr (L := [48, 49, 50, 51, 52, 63, 74]) KS_rf hks_j52 (by decide)) (KS_up (KS_up (KS_tr (L := [53, 54, 55, 56, 57, 58, 59, 60, 61, 62, 64, 65, 66, 67, 68, 69, 70, 71, 72, 73, 75]) KS_rf hkg_j52 (by decide)) egm_10 (by decide)) egm_11 (by decide)) hI_gm_11 (GI0_off hgi (DK_of (KS_rf (L := [])) (show KS [60, 62] gm_j52 gm_11 from (KS_up (KS_up KS_rf egm_10 (by decide)) egm_11 (by decide))) (KS_rf (L := [])) (by decide) (by decide) (by decide)) rfl (show gm_11 60 = upd (gm_j52 60) _ _ from (Eq.trans (up_at egm_11) (by rw [(up_ne egm_10 (by decide))]))) ((show KS [60, 62] gm_j52 gm_11 from (KS_up (KS_up KS_rf egm_10 (by decide)) egm_11 (by decide))) 61 (by decide)) (show gm_11 62 = upd (gm_j52 62) _ _ from (Eq.trans (up_ne egm_11 (by decide)) (up_at egm_10))) ((show KS [60, 62] gm_j52 gm_11 from (KS_up (KS_up KS_rf egm_10 (by decide)) egm_11 (by decide))) 70 (by decide)) ((show KS [60, 62] gm_j52 gm_11 from (KS_up (KS_up KS_rf egm_10 (by decide)) egm_11 (by decide))) 71 (by decide)) ((show KS [60, 62] gm_j52 gm_11 from (KS_up (KS_up KS_rf egm_10 (by decide)) egm_11 (by decide))) 72 (by decide)) ((show KS [60, 62] gm_j52 gm_11 from (KS_up (KS_up KS_rf egm_10 (by decide)) egm_11 (by decide))) 73 (by decide)) rfl (by rw [← ez_7]; exact c_8)) (MO_of hmo (show KS [] sg_j52 sg_j52 from KS_rf) (show KS [60, 62] gm_j52 gm_11 from (KS_up (KS_up KS_rf egm_10 (by decide)) egm_11 (by decide))) (by decide) (by decide)) ((by obtain ⟨S3, q1, q2, q3, q4⟩ := h52; exact ⟨S3, (by rw [(show z_12.toNatClampNeg = x3_52.toNatClampNeg + 1 from (by have q1 : z_12.toNatClampNeg = z_12.toInt.toNat := rfl; have q1 : x3_52.toNatClampNeg = x3_52.toInt.toNat := rfl; have := i32_0; have := i32_1; have := i32_2; have := i32_m1; have := (hsx1_52).1; have := (hsx1_52).2; have := (h_5).1; have := (h_5).2; have := (hx2_52).1; have := (hx2_52).2; have := (h_6).1; have := (h_6).2; have := (h_9).1; have := (h_9).2; have := (hz_12).1; have := (hz_12).2; omega))]; exact RR_sk q1 (by have q1 : x3_52.toNatClampNeg = x3_52.toInt.toNat := rfl; have q1 : (sg_j52 41).toNatClampNeg = (sg_j52 41).toInt.toNat := rfl; have := i32_0; have := i32_1; have := i32_2; have := i32_m1; have := congrArg Int32.toInt (show sg_j52 41 = sg 41 from hks_j52 41 (by decide)); have := (show iv 0 80 (sg 41) from MI_s hI 41).1; have := (show iv 0 80 (sg 41) from MI_s hI 41).2; have := (hsx1_52).1; have := (hsx1_52).2; have := (h_5).1; have := (h_5).2; have := (hx2_52).1; have := (hx2_52).2; have := (h_6).1; have := (h_6).2; have := (h_9).1; have := (h_9).2; have := (hz_12).1; have := (hz_12).2; omega) (by rw [← ez_7]; exact c_8) rfl rfl rfl rfl ((show KS [60, 62] gm_j52 gm_11 from (KS_up (KS_up KS_rf egm_10 (by decide)) egm_11 (by decide))) 53 (by decide)) ((show KS [60, 62] gm_j52 gm_11 from (KS_up (KS_up KS_rf egm_10 (by decide)) egm_11 (by decide))) 54 (by decide)) ((show KS [60, 62] gm_j52 gm_11 from (KS_up (KS_up KS_rf egm_10 (by decide)) egm_11 (by decide))) 55 (by decide)) ((show KS [60, 62] gm_j52 gm_11 from (KS_up (KS_up KS_rf egm_10 (by decide)) egm_11 (by decide))) 56 (by decide)) ((show KS [60, 62] gm_j52 gm_11 from (KS_up (KS_up KS_rf egm_10 (by decide)) egm_11 (by decide))) 57 (by decide)) ((show KS [60, 62] gm_j52 gm_11 from (KS_up (KS_up KS_rf egm_10 (by decide)) egm_11 (by decide))) 58 (by decide)) ((show KS [60, 62] gm_j52 gm_11 from (KS_up (KS_up KS_rf egm_10 (by decide)) egm_11 (by decide))) 59 (by decide)) (show gm_11 60 = upd (gm_j52 60) _ _ from (Eq.trans (up_at egm_11) (by rw [(up_ne egm_10 (by decide))]))) rfl (by decide) ((show KS [60, 62] gm_j52 gm_11 from (KS_up (KS_up KS_rf egm_10 (by decide)) egm_11 (by decide))) 61 (by decide)) (show gm_11 62 = upd (gm_j52 62) _ _ from (Eq.trans (up_ne egm_11 (by decide)) (up_at egm_10))) rfl rfl), q2, q3, q4⟩)) _ _ _ hP hD hS (lv_sub hl [0, 1, 2, 3] rfl)
        · have h_13 : iv 0 0 z_7 := iv_eq c_8 hz_7 (iv_k (by decide) : iv 0 0 0) (by decide)
          refine lv_goto (tgt := 86) hx hb dX13_run_69 (by decide) ?_
          obtain ⟨z_14, ez_14⟩ : ∃ z : Int32, z = x3_52 + 1 := ⟨_, rfl⟩
          have hz_14 : iv 1 80 z_14 := iv_of ez_14 (iv_add h_5 (iv_k (by decide) : iv 1 1 1) (by decide))
          have tz_14 : z_14.toInt = x3_52.toInt + 1 := by rw [ez_14]; exact iv_addE h_5 (iv_k (by decide) : iv 1 1 1) (by decide)
          refine lv_iinc (v := z_14) (lv' := [(3, .int z_14), (2, .int x2_52), (0, .ref h0), (1, .int b)]) hx hb dX13_run_86 hl (k := 0) rfl ez_14.symm (by decide) rfl (fun ls hl => ?_)
          refine lv_goto (tgt := 52) hx hb dX13_run_89 (by decide) ?_
          exact ih52 _ (by rw [← hn52]; exact (iv_meas tz_14 h_5 (by decide))) sg_j52 gm_j52 z_14 x2_52 rfl (iv_w hz_14 (by decide)) hx2_52 hsx1_52 (KS_tr (L := [48, 49, 50, 51, 52, 63, 74]) KS_rf hks_j52 (by decide)) (KS_tr (L := [53, 54, 55, 56, 57, 58, 59, 60, 61, 62, 64, 65, 66, 67, 68, 69, 70, 71, 72, 73, 75]) KS_rf hkg_j52 (by decide)) hI_j52 (hgi) (hmo) ((by obtain ⟨S3, q1, q2, q3, q4⟩ := h52; exact ⟨S3, (by rw [(show z_14.toNatClampNeg = x3_52.toNatClampNeg + 1 from (by have q1 : z_14.toNatClampNeg = z_14.toInt.toNat := rfl; have q1 : x3_52.toNatClampNeg = x3_52.toInt.toNat := rfl; have := i32_0; have := i32_1; have := i32_2; have := i32_m1; have := (hsx1_52).1; have := (hsx1_52).2; have := (h_5).1; have := (h_5).2; have := (hx2_52).1; have := (hx2_52).2; have := (h_6).1; have := (h_6).2; have := (h_13).1; have := (h_13).2; have := (hz_14).1; have := (hz_14).2; omega)), zSk_n (fun q9 => absurd ((q1.2.2.1 _ (by have q1 : x3_52.toNatClampNeg = x3_52.toInt.toNat := rfl; have q1 : (sg_j52 41).toNatClampNeg = (sg_j52 41).toInt.toNat := rfl; have := i32_0; have := i32_1; have := i32_2; have := i32_m1; have := congrArg Int32.toInt (show sg_j52 41 = sg 41 from hks_j52 41 (by decide)); have := (show iv 0 80 (sg 41) from MI_s hI 41).1; have := (show iv 0 80 (sg 41) from MI_s hI 41).2; have := (hsx1_52).1; have := (hsx1_52).2; have := (h_5).1; have := (h_5).2; have := (hx2_52).1; have := (hx2_52).2; have := (h_6).1; have := (h_6).2; have := (h_13).1; have := (h_13).2; have := (hz_14).1; have := (hz_14).2; omega)).1.mp (zSk_z.trans q9)) (fun q8 => q8 (by rw [← ez_7]; exact c_8)))]; exact q1), q2, q3, q4⟩)) _ _ _ hP hD hS (lv_sub hl [0, 1, 2, 3] rfl)
  have hj36 : ∀ (sg_j36 : Nat → Int32) (gm_j36 : Nat → Nat → Int32) (x2_36 : Int32) (_ : iv 0 1 x2_36) (_ : iv (-1) 79 b) (_ : KS [48, 49, 50, 51, 52, 63, 74] sg sg_j36) (_ : KS [53, 54, 55, 56, 57, 58, 59, 60, 61, 62, 64, 65, 66, 67, 68, 69, 70, 71, 72, 73, 75] gm gm_j36) (_ : MI sg_j36 gm_j36) (_ : GI0 sg_j36 gm_j36 lg) (_ : MO sg_j36 gm_j36) (_ : RE9 wg wl (gtR ws wg wl 81 b.toInt S) sg_j36 gm_j36) (H : Heap) (locs : List Loc) (ls : Array Slot), va_P (dC, dI) vwCl (mW h0 ad cid sg_j36 gm_j36 lg) H → va_D A (mW h0 ad cid sg_j36 gm_j36 lg) → va_S A s.heap H locs → lv_has ls 4 [(2, .int x2_36), (0, .ref h0), (1, .int b)] → W p l e (headSpec wm_X13_run ({ frames := 11, cells := 0, slots := 0, locals := 277 })).room s m ([.ref h0, .int b] : List Value).toArray below meth c H locs 0 0 (MQ below (va_Qi (fun r v => ∃ (sg2 : Nat → Int32) (gm2 : Nat → Nat → Int32) (lg2 : Nat → Nat → Int64), v = (sg2, gm2, lg2) ∧ MI sg2 gm2 ∧ KS [48, 49, 50, 51, 52, 63, 74] sg sg2 ∧ KS [53, 54, 55, 56, 57, 58, 59, 60, 61, 62, 64, 65, 66, 67, 68, 69, 70, 71, 72, 73, 75] gm gm2 ∧ KS [] lg lg2 ∧ (iv 0 1 r) ∧ (GI0 sg2 gm2 lg2) ∧ (MO sg2 gm2) ∧ (RU9 wg wl (gtR ws wg wl 81 b.toInt S) sg2 gm2 r)) (MB dC dI h0 ad cid A) A) ([.ref h0, .int b] : List Value).toArray s 0 0 A) (F0 m 36 ls []) := by
    intro sg_j36 gm_j36 x2_36 hx2_36 hsx1_36 hks_j36 hkg_j36 hI_j36 hgi hmo h36 H locs ls hP hD hS hl
    refine lv_aload_n hx hb dX13_run_36 rfl (lv_at hl 1 rfl) ?_
    refine mr_get (v := .int (sg_j36 51)) hx hb htb inX13 hown hK hP 51 (by decide) (htb _ kw_1078) rfl dX13_run_37 ?_
    refine lv_if_ne (tgt := 45) hx hb dX13_run_40 (by decide) (fun c_15 => ?_) (fun c_15 => ?_)
    · have h_16 : iv 1 8 (sg_j36 51) := iv_neL c_15 (show iv 0 8 (sg_j36 51) from MI_s hI_j36 51) (by decide)
      refine lv_aload_n hx hb dX13_run_45 rfl (lv_at hl 1 rfl) ?_
      refine lv_iconst (v := 0) hx hb dX13_run_46 (by decide) ?_
      refine ma_put (x := 0) hx hb htb inX13 hown hK hP hD hS 63 (by decide) (by decide) (htb _ kw_1090) rfl rfl rfl dX13_run_47 (fun sg_17 H locs esg_17 hP hD hS => ?_)
      have hI_sg_17 := MI_put hI_j36 esg_17 (iv_k (by decide) : iv 0 0 0) (by decide)
      refine lv_iconst (v := 0) hx hb dX13_run_50 (by decide) ?_
      refine lv_istore_n (lv' := [(3, .int 0), (2, .int x2_36), (0, .ref h0), (1, .int b)]) hx hb dX13_run_51 rfl hl (by decide) rfl (fun ls hl => ?_)
      exact hj52 _ sg_17 gm_j36 0 x2_36 rfl (iv_w (iv_k (by decide) : iv 0 0 0) (by decide)) hx2_36 hsx1_36 (KS_up (KS_tr (L := [48, 49, 50, 51, 52, 63, 74]) KS_rf hks_j36 (by decide)) esg_17 (by decide)) (KS_tr (L := [53, 54, 55, 56, 57, 58, 59, 60, 61, 62, 64, 65, 66, 67, 68, 69, 70, 71, 72, 73, 75]) KS_rf hkg_j36 (by decide)) hI_sg_17 (GI0_of hgi (show KS [63] sg_j36 sg_17 from (KS_up KS_rf esg_17 (by decide))) (show KS [] gm_j36 gm_j36 from KS_rf) (show KS [] lg lg from KS_rf) (by decide) (by decide) (by decide) (by decide) (by decide) (by decide)) (MO_of hmo (show KS [63] sg_j36 sg_17 from (KS_up KS_rf esg_17 (by decide))) (show KS [] gm_j36 gm_j36 from KS_rf) (by decide) (by decide)) ((by obtain ⟨S3, q1, q2, q3, q4⟩ := RE_0 h36 (by have := i32_0; have := i32_1; have := i32_2; have := i32_m1; have := congrArg Int32.toInt (show sg_17 51 = sg_j36 51 from up_ne esg_17 (by decide)); have := (show iv 0 8 (sg_j36 51) from MI_s hI_j36 51).1; have := (show iv 0 8 (sg_j36 51) from MI_s hI_j36 51).2; have := (show iv 0 8 (sg 51) from MI_s hI 51).1; have := (show iv 0 8 (sg 51) from MI_s hI 51).2; have := (hsx1_36).1; have := (hsx1_36).2; have := (hx2_36).1; have := (hx2_36).2; have := (h_16).1; have := (h_16).2; omega); exact ⟨S3, RR_ks q1 (show KS [63] sg_j36 sg_17 from (KS_up KS_rf esg_17 (by decide))) (KS_rf (L := [])) (by decide) (by decide), q2, q3, (by have := q4; have := i32_0; have := i32_1; have := i32_2; have := i32_m1; have := congrArg Int32.toInt (show sg_17 51 = sg_j36 51 from up_ne esg_17 (by decide)); have := (show iv 0 8 (sg_j36 51) from MI_s hI_j36 51).1; have := (show iv 0 8 (sg_j36 51) from MI_s hI_j36 51).2; have := (show iv 0 8 (sg 51) from MI_s hI 51).1; have := (show iv 0 8 (sg 51) from MI_s hI 51).2; have := (hsx1_36).1; have := (hsx1_36).2; have := (hx2_36).1; have := (hx2_36).2; have := (h_16).1; have := (h_16).2; omega)⟩)) _ _ _ hP hD hS (lv_sub hl [0, 1, 2, 3] rfl)
    · have h_18 : iv 0 0 (sg_j36 51) := iv_eq c_15 (show iv 0 8 (sg_j36 51) from MI_s hI_j36 51) (iv_k (by decide) : iv 0 0 0) (by decide)
      refine lv_iconst (v := 1) hx hb dX13_run_43 (by decide) ?_
      exact W.zret (v := 1) hx hb hr (iv_nb (iv_w (iv_k (by decide) : iv 1 1 1) (by decide))) (fun t ht hW => ⟨⟨1, (sg_j36, gm_j36, lg), rfl, ⟨sg_j36, gm_j36, lg, rfl, hI_j36, (KS_tr (L := [48, 49, 50, 51, 52, 63, 74]) KS_rf hks_j36 (by decide)), (KS_tr (L := [53, 54, 55, 56, 57, 58, 59, 60, 61, 62, 64, 65, 66, 67, 68, 69, 70, 71, 72, 73, 75]) KS_rf hkg_j36 (by decide)), KS_rf, (iv_w (iv_k (by decide) : iv 1 1 1) (by decide)), (hgi), (hmo), ((RU_1 h36 (by have := i32_0; have := i32_1; have := i32_2; have := i32_m1; have := (show iv 0 8 (sg_j36 51) from MI_s hI_j36 51).1; have := (show iv 0 8 (sg_j36 51) from MI_s hI_j36 51).2; have := (show iv 0 8 (sg 51) from MI_s hI 51).1; have := (show iv 0 8 (sg 51) from MI_s hI 51).2; have := (hsx1_36).1; have := (hsx1_36).2; have := (hx2_36).1; have := (hx2_36).2; have := (h_18).1; have := (h_18).2; omega) rfl))⟩, by rw [ht]; exact hP, va_K.moved hW.alike hK, hD⟩, hS.F ht⟩) hS.2.2 dX13_run_44
  have hj11 : ∀ (n : Nat) (sg_j11 : Nat → Int32) (gm_j11 : Nat → Nat → Int32) (x2_11 : Int32) (_ : muR sg_j11 gm_j11 = n) (_ : iv 0 1 x2_11) (_ : iv (-1) 79 b) (_ : KS [48, 49, 50, 51, 52, 63, 74] sg sg_j11) (_ : KS [53, 54, 55, 56, 57, 58, 59, 60, 61, 62, 64, 65, 66, 67, 68, 69, 70, 71, 72, 73, 75] gm gm_j11) (_ : MI sg_j11 gm_j11) (_ : GI0 sg_j11 gm_j11 lg) (_ : MO sg_j11 gm_j11) (_ : 1 ≤ (sg_j11 51).toInt ∨ INVp sg_j11 gm_j11 lg) (_ : RH9 ws wg wl rg (gtR ws wg wl 81 b.toInt S) sg_j11 gm_j11 x2_11) (H : Heap) (locs : List Loc) (ls : Array Slot), va_P (dC, dI) vwCl (mW h0 ad cid sg_j11 gm_j11 lg) H → va_D A (mW h0 ad cid sg_j11 gm_j11 lg) → va_S A s.heap H locs → lv_has ls 4 [(2, .int x2_11), (0, .ref h0), (1, .int b)] → W p l e (headSpec wm_X13_run ({ frames := 11, cells := 0, slots := 0, locals := 277 })).room s m ([.ref h0, .int b] : List Value).toArray below meth c H locs 0 0 (MQ below (va_Qi (fun r v => ∃ (sg2 : Nat → Int32) (gm2 : Nat → Nat → Int32) (lg2 : Nat → Nat → Int64), v = (sg2, gm2, lg2) ∧ MI sg2 gm2 ∧ KS [48, 49, 50, 51, 52, 63, 74] sg sg2 ∧ KS [53, 54, 55, 56, 57, 58, 59, 60, 61, 62, 64, 65, 66, 67, 68, 69, 70, 71, 72, 73, 75] gm gm2 ∧ KS [] lg lg2 ∧ (iv 0 1 r) ∧ (GI0 sg2 gm2 lg2) ∧ (MO sg2 gm2) ∧ (RU9 wg wl (gtR ws wg wl 81 b.toInt S) sg2 gm2 r)) (MB dC dI h0 ad cid A) A) ([.ref h0, .int b] : List Value).toArray s 0 0 A) (F0 m 11 ls []) := by
    intro n
    induction n using Nat.strongRecOn with
    | ind n ih11 =>
      intro sg_j11 gm_j11 x2_11 hn11 hx2_11 hsx1_11 hks_j11 hkg_j11 hI_j11 hgi hmo hiv h11 H locs ls hP hD hS hl
      refine lv_iload_n hx hb dX13_run_11 rfl (lv_at hl 0 rfl) ?_
      refine lv_if_ne (tgt := 36) hx hb dX13_run_12 (by decide) (fun c_19 => ?_) (fun c_19 => ?_)
      · have h_20 : iv 1 1 x2_11 := iv_neL c_19 hx2_11 (by decide)
        exact hj36 sg_j11 gm_j11 x2_11 (iv_w h_20 (by decide)) hsx1_11 (KS_tr (L := [48, 49, 50, 51, 52, 63, 74]) KS_rf hks_j11 (by decide)) (KS_tr (L := [53, 54, 55, 56, 57, 58, 59, 60, 61, 62, 64, 65, 66, 67, 68, 69, 70, 71, 72, 73, 75]) KS_rf hkg_j11 (by decide)) hI_j11 (hgi) (hmo) ((RH_e h11 (Or.inl (by have := i32_0; have := i32_1; have := i32_2; have := i32_m1; have := (hsx1_11).1; have := (hsx1_11).2; have := (h_20).1; have := (h_20).2; omega)))) _ _ _ hP hD hS (lv_sub hl [0, 1, 2] rfl)
      · have h_21 : iv 0 0 x2_11 := iv_eq c_19 hx2_11 (iv_k (by decide) : iv 0 0 0) (by decide)
        refine lv_aload_n hx hb dX13_run_15 rfl (lv_at hl 1 rfl) ?_
        refine mr_get (v := .int (sg_j11 63)) hx hb htb inX13 hown hK hP 63 (by decide) (htb _ kw_1090) rfl dX13_run_16 ?_
        refine lv_if_le (tgt := 36) hx hb dX13_run_19 (by decide) (fun c_22 => ?_) (fun c_22 => ?_)
        · have h_23 : iv 0 0 (sg_j11 63) := iv_leL c_22 (show iv 0 80 (sg_j11 63) from MI_s hI_j11 63) (iv_k (by decide) : iv 0 0 0) (by decide)
          exact hj36 sg_j11 gm_j11 x2_11 (iv_w h_21 (by decide)) hsx1_11 (KS_tr (L := [48, 49, 50, 51, 52, 63, 74]) KS_rf hks_j11 (by decide)) (KS_tr (L := [53, 54, 55, 56, 57, 58, 59, 60, 61, 62, 64, 65, 66, 67, 68, 69, 70, 71, 72, 73, 75]) KS_rf hkg_j11 (by decide)) hI_j11 (hgi) (hmo) ((RH_e h11 (Or.inr (Or.inl (by have := i32_0; have := i32_1; have := i32_2; have := i32_m1; have := (show iv 0 80 (sg_j11 63) from MI_s hI_j11 63).1; have := (show iv 0 80 (sg_j11 63) from MI_s hI_j11 63).2; have := (show iv 0 80 (sg 63) from MI_s hI 63).1; have := (show iv 0 80 (sg 63) from MI_s hI 63).2; have := (hsx1_11).1; have := (hsx1_11).2; have := (h_21).1; have := (h_21).2; have := (h_23).1; have := (h_23).2; omega))))) _ _ _ hP hD hS (lv_sub hl [0, 1, 2] rfl)
        · have h_24 : iv 1 80 (sg_j11 63) := iv_ltR (i32_lt c_22) (iv_k (by decide) : iv 0 0 0) (show iv 0 80 (sg_j11 63) from MI_s hI_j11 63) (by decide)
          refine lv_aload_n hx hb dX13_run_22 rfl (lv_at hl 1 rfl) ?_
          refine mr_get (v := .int (sg_j11 51)) hx hb htb inX13 hown hK hP 51 (by decide) (htb _ kw_1078) rfl dX13_run_23 ?_
          refine lv_if_ne (tgt := 36) hx hb dX13_run_26 (by decide) (fun c_25 => ?_) (fun c_25 => ?_)
          · have h_26 : iv 1 8 (sg_j11 51) := iv_neL c_25 (show iv 0 8 (sg_j11 51) from MI_s hI_j11 51) (by decide)
            exact hj36 sg_j11 gm_j11 x2_11 (iv_w h_21 (by decide)) hsx1_11 (KS_tr (L := [48, 49, 50, 51, 52, 63, 74]) KS_rf hks_j11 (by decide)) (KS_tr (L := [53, 54, 55, 56, 57, 58, 59, 60, 61, 62, 64, 65, 66, 67, 68, 69, 70, 71, 72, 73, 75]) KS_rf hkg_j11 (by decide)) hI_j11 (hgi) (hmo) ((RH_e h11 (Or.inr (Or.inr (by have := i32_0; have := i32_1; have := i32_2; have := i32_m1; have := (show iv 0 8 (sg_j11 51) from MI_s hI_j11 51).1; have := (show iv 0 8 (sg_j11 51) from MI_s hI_j11 51).2; have := (show iv 0 8 (sg 51) from MI_s hI 51).1; have := (show iv 0 8 (sg 51) from MI_s hI 51).2; have := (hsx1_11).1; have := (hsx1_11).2; have := (h_21).1; have := (h_21).2; have := (h_24).1; have := (h_24).2; have := (h_26).1; have := (h_26).2; omega))))) _ _ _ hP hD hS (lv_sub hl [0, 1, 2] rfl)
          · have h_27 : iv 0 0 (sg_j11 51) := iv_eq c_25 (show iv 0 8 (sg_j11 51) from MI_s hI_j11 51) (iv_k (by decide) : iv 0 0 0) (by decide)
            obtain ⟨S9_, F9_, hR9_, hIV9_⟩ := RH_i h11 (by have := i32_0; have := i32_1; have := i32_2; have := i32_m1; have := (hsx1_11).1; have := (hsx1_11).2; have := (h_21).1; have := (h_21).2; have := (h_24).1; have := (h_24).2; have := (h_27).1; have := (h_27).2; omega) (by have := i32_0; have := i32_1; have := i32_2; have := i32_m1; have := (show iv 0 80 (sg_j11 63) from MI_s hI_j11 63).1; have := (show iv 0 80 (sg_j11 63) from MI_s hI_j11 63).2; have := (show iv 0 80 (sg 63) from MI_s hI 63).1; have := (show iv 0 80 (sg 63) from MI_s hI 63).2; have := (hsx1_11).1; have := (hsx1_11).2; have := (h_21).1; have := (h_21).2; have := (h_24).1; have := (h_24).2; have := (h_27).1; have := (h_27).2; omega) (by have := i32_0; have := i32_1; have := i32_2; have := i32_m1; have := (show iv 0 8 (sg_j11 51) from MI_s hI_j11 51).1; have := (show iv 0 8 (sg_j11 51) from MI_s hI_j11 51).2; have := (show iv 0 8 (sg 51) from MI_s hI 51).1; have := (show iv 0 8 (sg 51) from MI_s hI 51).2; have := (hsx1_11).1; have := (hsx1_11).2; have := (h_21).1; have := (h_21).2; have := (h_24).1; have := (h_24).2; have := (h_27).1; have := (h_27).2; omega)
            refine lv_aload_n hx hb dX13_run_29 rfl (lv_at hl 1 rfl) ?_
            refine mr_callv (rest := []) ⟨hx, hb, hml, hown, htb⟩ (f_step9 l dC dI h0 ad cid sg_j11 gm_j11 lg ws wg wl rs rg S9_ (gtR ws wg wl 81 b.toInt S) F9_ hI_j11 (DOC_of hdoc (show KS [48, 49, 50, 51, 52, 63, 74] sg sg_j11 from (KS_tr (L := [48, 49, 50, 51, 52, 63, 74]) KS_rf hks_j11 (by decide))) (show KS [53, 54, 55, 56, 57, 58, 59, 60, 61, 62, 64, 65, 66, 67, 68, 69, 70, 71, 72, 73, 75] gm gm_j11 from (KS_tr (L := [53, 54, 55, 56, 57, 58, 59, 60, 61, 62, 64, 65, 66, 67, 68, 69, 70, 71, 72, 73, 75]) KS_rf hkg_j11 (by decide))) (show KS [] lg lg from KS_rf) (by decide) (by decide) (by decide) (by decide)) hgi (by have q9 : PR gm := hPR; unfold PR at *; rw [(hkg_j11 6 (by decide))]; exact q9) hmo (by have := i32_0; have := i32_1; have := i32_2; have := i32_m1; have := (show iv 0 80 (sg_j11 63) from MI_s hI_j11 63).1; have := (show iv 0 80 (sg_j11 63) from MI_s hI_j11 63).2; have := (show iv 0 80 (sg 63) from MI_s hI 63).1; have := (show iv 0 80 (sg 63) from MI_s hI 63).2; have := (hsx1_11).1; have := (hsx1_11).2; have := (h_21).1; have := (h_21).2; have := (h_24).1; have := (h_24).2; have := (h_27).1; have := (h_27).2; omega) (hiv.resolve_left (by have := i32_0; have := i32_1; have := i32_2; have := i32_m1; have := (show iv 0 8 (sg_j11 51) from MI_s hI_j11 51).1; have := (show iv 0 8 (sg_j11 51) from MI_s hI_j11 51).2; have := (show iv 0 8 (sg 51) from MI_s hI 51).1; have := (show iv 0 8 (sg 51) from MI_s hI 51).2; have := (hsx1_11).1; have := (hsx1_11).2; have := (h_21).1; have := (h_21).2; have := (h_24).1; have := (h_24).2; have := (h_27).1; have := (h_27).2; omega)) (by have := i32_0; have := i32_1; have := i32_2; have := i32_m1; have := (show iv 0 8 (sg_j11 51) from MI_s hI_j11 51).1; have := (show iv 0 8 (sg_j11 51) from MI_s hI_j11 51).2; have := (show iv 0 8 (sg 51) from MI_s hI 51).1; have := (show iv 0 8 (sg 51) from MI_s hI 51).2; have := (hsx1_11).1; have := (hsx1_11).2; have := (h_21).1; have := (h_21).2; have := (h_24).1; have := (h_24).2; have := (h_27).1; have := (h_27).2; omega) ((rt9_ks (L := [53, 54, 55, 56, 57, 58, 59, 60, 61, 62, 64, 65, 66, 67, 68, 69, 70, 71, 72, 73, 75]) (KS_tr (L := [53, 54, 55, 56, 57, 58, 59, 60, 61, 62, 64, 65, 66, 67, 68, 69, 70, 71, 72, 73, 75]) KS_rf hkg_j11 (by decide)) (by decide)).trans hRW) ((rs9_ks (L := [48, 49, 50, 51, 52, 63, 74]) (KS_tr (L := [48, 49, 50, 51, 52, 63, 74]) KS_rf hks_j11 (by decide)) rfl rfl).trans hRS) hBR hCL hR9_ hWD hST hST2 hSB hIV9_) (cwV 0 htb (gd_V kw_1251 kw_1252 kw_114 kw_160 kw_1624) rfl rfl rfl (by decide +kernel) ⟨Nat.le_of_ble_eq_true rfl, Nat.le_of_ble_eq_true rfl⟩) rfl hl.1 rfl (Nat.le_of_ble_eq_true rfl) dX13_run_30 ⟨Nat.zero_le _, Nat.zero_le _⟩ hK hP hD hS hA (fun u_29 H locs hw hP hD hS => ?_)
            obtain ⟨sgv_30, gmv_30, lgv_30, rfl, hIv_30, ksv_30, kgv_30, klv_30, fGI_r_28, fMo_r_28, fSt_r_28, f9_r_28⟩ := hw
            obtain rfl := KS_nil klv_30
            have hP : va_P (dC, dI) vwCl (mW h0 ad cid sgv_30 gmv_30 lg) H := hP
            have hD : va_D A (mW h0 ad cid sgv_30 gmv_30 lg) := hD
            refine lv_goto (tgt := 11) hx hb dX13_run_33 (by decide) ?_
            exact ih11 _ (by rw [← hn11]; exact (muR_lt (by have := i32_0; have := i32_1; have := i32_2; have := i32_m1; have := (show iv 0 8 (sgv_30 51) from MI_s hIv_30 51).1; have := (show iv 0 8 (sgv_30 51) from MI_s hIv_30 51).2; have := (show iv 0 8 (sg_j11 51) from MI_s hI_j11 51).1; have := (show iv 0 8 (sg_j11 51) from MI_s hI_j11 51).2; have := (show iv 0 8 (sg 51) from MI_s hI 51).1; have := (show iv 0 8 (sg 51) from MI_s hI 51).2; have := (show iv 0 8 (sg_j11 51) from MI_s hI_j11 51).1; have := (show iv 0 8 (sg_j11 51) from MI_s hI_j11 51).2; have := (hsx1_11).1; have := (hsx1_11).2; have := (h_21).1; have := (h_21).2; have := (h_24).1; have := (h_24).2; have := (h_27).1; have := (h_27).2; omega) fSt_r_28)) sgv_30 gmv_30 x2_11 rfl (iv_w h_21 (by decide)) hsx1_11 (KS_tr (L := [48, 49, 50, 51, 52, 63, 74]) (KS_tr (L := [48, 49, 50, 51, 52, 63, 74]) KS_rf hks_j11 (by decide)) ksv_30 (by decide)) (KS_tr (L := [53, 54, 55, 56, 57, 58, 59, 60, 61, 62, 64, 65, 66, 67, 68, 69, 70, 71, 72, 73, 75]) (KS_tr (L := [53, 54, 55, 56, 57, 58, 59, 60, 61, 62, 64, 65, 66, 67, 68, 69, 70, 71, 72, 73, 75]) KS_rf hkg_j11 (by decide)) kgv_30 (by decide)) hIv_30 (fGI_r_28) (fMo_r_28) (fSt_r_28.imp id (fun q9 => q9.1)) ((Or.inr ⟨(by have := i32_0; have := i32_1; have := i32_2; have := i32_m1; have := (hsx1_11).1; have := (hsx1_11).2; have := (h_21).1; have := (h_21).2; have := (h_24).1; have := (h_24).2; have := (h_27).1; have := (h_27).2; omega), f9_r_28⟩)) _ _ _ hP hD hS (lv_sub hl [0, 1, 2] rfl)
  refine lv_aload_n hx hb dX13_run_0 rfl (lv_at hl 0 rfl) ?_
  refine lv_iconst (v := 0) hx hb dX13_run_1 (by decide) ?_
  refine ma_put (x := 0) hx hb htb inX13 hown hK hP hD hS 63 (by decide) (by decide) (htb _ kw_1090) rfl rfl rfl dX13_run_2 (fun sg_31 H locs esg_31 hP hD hS => ?_)
  have hI_sg_31 := MI_put hI esg_31 (iv_k (by decide) : iv 0 0 0) (by decide)
  refine lv_aload_n hx hb dX13_run_5 rfl (lv_at hl 0 rfl) ?_
  refine lv_iload_n hx hb dX13_run_6 rfl (lv_at hl 1 rfl) ?_
  refine mr_calli (rest := []) ⟨hx, hb, hml, hown, htb⟩ (f_gets9 l dC dI h0 ad cid sg_31 gm lg b ws wg wl rs rg S hI_sg_31 hvb (by rw [(up_ne esg_31 (by decide))]; exact hbl) (GI0_of hgi (show KS [63] sg sg_31 from (KS_up KS_rf esg_31 (by decide))) (show KS [] gm gm from KS_rf) (show KS [] lg lg from KS_rf) (by decide) (by decide) (by decide) (by decide) (by decide) (by decide)) ((INVp_0 (lg := lg) (gm := gm) (by rw [up_at esg_31]; rfl)).1.1) hRW ((rs9_ks (L := [63]) (KS_up KS_rf esg_31 (by decide)) rfl rfl).trans hRS) hBR (RR_ks (L := [63]) (M := []) hRR (KS_up KS_rf esg_31 (by decide)) KS_rf (by decide) (by decide)) (by have := h510; have := i32_0; have := i32_1; have := i32_2; have := i32_m1; have := congrArg Int32.toInt (show sg_31 51 = sg 51 from up_ne esg_31 (by decide)); have := (show iv 0 8 (sg 51) from MI_s hI 51).1; have := (show iv 0 8 (sg 51) from MI_s hI 51).2; have := (hvb).1; have := (hvb).2; omega)) (cwV 1 htb (gd_V kw_1247 kw_1248 kw_112 kw_160 kw_1622) rfl rfl rfl (by decide +kernel) ⟨Nat.le_of_ble_eq_true rfl, Nat.le_of_ble_eq_true rfl⟩) rfl hl.1 rfl (Nat.le_of_ble_eq_true rfl) dX13_run_7 ⟨Nat.zero_le _, Nat.zero_le _⟩ hK hP hD hS hA (fun r_32 u_33 H locs hw hP hD hS => ?_)
  obtain ⟨sgv_34, gmv_34, lgv_34, rfl, hIv_34, ksv_34, kgv_34, klv_34, hr_32, fGI_r_32, fGt_r_32, fG9_r_32⟩ := hw
  obtain rfl := KS_nil klv_34
  have hP : va_P (dC, dI) vwCl (mW h0 ad cid sgv_34 gmv_34 lg) H := hP
  have hD : va_D A (mW h0 ad cid sgv_34 gmv_34 lg) := hD
  refine lv_istore_n (lv' := [(2, .int r_32), (0, .ref h0), (1, .int b)]) hx hb dX13_run_10 rfl hl (by decide) rfl (fun ls hl => ?_)
  have hiv9 : 1 ≤ (sgv_34 51).toInt ∨ INVp sgv_34 gmv_34 lg := by
    have q0 : (sg_31 63).toInt = 0 := by rw [up_at esg_31]; rfl
    rcases fGt_r_32 with ⟨_, _, q9⟩ | ⟨_, q9 | ⟨b9, q9⟩⟩
    · exact Or.inr (INVp_0 (by rw [q9.1]; exact q0))
    · exact Or.inl q9
    · exact Or.inr (INVp_1 q0 ((show KS [51, 52, 63, 74] sg_31 sgv_34 from (KS_tr (L := [51, 52, 63, 74]) KS_rf ksv_34 (by decide))) 41 (by decide)) q9)
  exact hj11 _ sgv_34 gmv_34 r_32 rfl hr_32 hvb (KS_tr (L := [48, 49, 50, 51, 52, 63, 74]) (KS_up KS_rf esg_31 (by decide)) ksv_34 (by decide)) (KS_tr (L := [53, 54, 55, 56, 57, 58, 59, 60, 61, 62, 64, 65, 66, 67, 68, 69, 70, 71, 72, 73, 75]) KS_rf kgv_34 (by decide)) hIv_34 (fGI_r_32) (MO_of hmo (show KS [51, 52, 63, 74] sg sgv_34 from (KS_tr (L := [51, 52, 63, 74]) (KS_up KS_rf esg_31 (by decide)) ksv_34 (by decide))) (show KS [62, 64, 65, 66, 67, 68, 69] gm gmv_34 from (KS_tr (L := [62, 64, 65, 66, 67, 68, 69]) KS_rf kgv_34 (by decide))) (by decide) (by decide)) (hiv9) ((RH_0 (by rw [up_at esg_31]; rfl) hWF fG9_r_32 fGt_r_32 hvb hr_32)) _ _ _ hP hD hS (lv_sub hl [0, 1, 2] rfl)
end
