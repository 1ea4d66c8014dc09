section
theorem DL9_k {sg sg1 : Nat → Int32} {gm gm1 gm2 : Nat → Nat → Int32} {lg : Nat → Nat → Int64} {tp : Nat} {got : Int32} (h : DL9 sg1 gm1 lg gm2 tp got) (d : DK sg gm lg sg1 gm1 lg) (e45 : gm1 45 = gm 45) (e64 : gm1 64 = gm 64) (e65 : gm1 65 = gm 65) (e66 : gm1 66 = gm 66) (e67 : gm1 67 = gm 67) (e68 : gm1 68 = gm 68) (e70 : gm1 70 = gm 70) (e71 : gm1 71 = gm 71) (e72 : gm1 72 = gm 72) (e73 : gm1 73 = gm 73) : DL9 sg gm lg gm2 tp got := by
  have eL : elR sg1 gm1 lg tp = elR sg gm lg tp := by unfold elR; rw [e65, e64, e66, e45, mArg_k d]
  have lL : liR sg1 gm1 (elR sg gm lg tp) = liR sg gm (elR sg gm lg tp) := by unfold liR; rw [mInn_k d.1, d.1.2.1, d.1.2.2.2.1]
  have sL : slR gm1 tp = slR gm tp := by unfold slR; rw [e65, e66]
  unfold DL9 KP8 at *
  rw [eL, lL, sL, e65, e67, e68, e70, e71, e72, e73] at h
  exact h
theorem oF1_zn {wg : Nat → Nat → Int32} {b : Nat} {o : Int} {S : S9} (h : (wg 32 b).toInt = -1) : oF1 wg b o S = S := by unfold oF1; rw [if_pos h]
theorem oF1_zy {wg : Nat → Nat → Int32} {b : Nat} {o : Int} {S : S9} (h : ¬ (wg 32 b).toInt = -1) : oF1 wg b o S = zAdd S (5, o, (wg 32 b).toInt, 0) := by unfold oF1; rw [if_neg h]
theorem oF1_S {wg : Nat → Nat → Int32} {b : Nat} {o : Int} {S : S9} : zS (oF1 wg b o S) = zS S := by
  unfold oF1
  by_cases h : (wg 32 b).toInt = -1
  · rw [if_pos h]
  · rw [if_neg h, zAdd_S]
theorem BR_32 {ws : Nat → Int32} {wg : Nat → Nat → Int32} {wl : Nat → Nat → Int64} {rs sg : Nat → Int32} {rg gm : Nat → Nat → Int32} {lg : Nat → Nat → Int64} {b : Int32} (h : BRG ws wg wl rs rg lg) (hRW : rt9 gm = rg) (hRS : rs9 sg = rs) (hv : iv 0 79 b) (hb : b.toInt < (sg 41).toInt) : (ltR sg gm lg b 1768843636).toInt = (wg 32 b.toNatClampNeg).toInt := by
  have q := (h.2.1 _ (BR_lt hRS hv hb)).1.2.2.2.2.2.2.2.2.2.2.1
  rw [nI_c hv, ltR_k (DK_r hRW hRS)] at q
  exact q

set_option maxHeartbeats 4000000 in
set_option maxRecDepth 100000 in
theorem f_finish9 (l : Launch) (dC : Nat → ClassId) (dI : Nat → Nat → Nat) (h0 : Nat) (ad : Nat → Nat) (cid : Nat → ClassId) (sg : Nat → Int32) (gm : Nat → Nat → Int32) (lg : Nat → Nat → Int64) (b : Int32) (ws : Nat → Int32) (wg : Nat → Nat → Int32) (wl : Nat → Nat → Int64) (rs : Nat → Int32) (rg : Nat → Nat → Int32) (S : S9) (hI : MI sg gm) (hvb : iv 0 79 b) (hdoc : DOC sg gm lg) (hgi : GI0 sg gm lg) (hh1 : 1 ≤ (sg 63).toInt) (hpi : PIL sg gm) (hmo : MO sg gm) (hb9 : b = gm 64 (TOPn sg)) (hob : 0 ≤ (gm 69 (TOPn sg)).toInt) (how : ¬ mMny gm lg b.toNatClampNeg → 0 ≤ (gm 60 b.toNatClampNeg).toInt) (hwt : (sg 63).toInt = 1 ∨ (FR sg gm lg (TOPn sg - 1) 1 ∧ 1 ≤ (gm 65 (TOPn sg - 1)).toInt)) (hRW : rt9 gm = rg) (hRS : rs9 sg = rs) (hBR : BRG ws wg wl rs rg lg) (hRR : RR wg wl S sg gm) (hzb : zS S b.toNatClampNeg = 1) : MMv l dC dI yX13_finish wm_X13_finish ({ frames := 7, cells := 0, slots := 0, locals := 166 }) h0 ad cid [.int b] sg gm lg (fun v => ∃ (sg2 : Nat → Int32) (gm2 : Nat → Nat → Int32) (lg2 : Nat → Nat → Int64), v = (sg2, gm2, lg2) ∧ MI sg2 gm2 ∧ KS [49, 50, 63, 74] sg sg2 ∧ KS [55, 56, 57, 58, 59, 61, 62, 67, 68, 70, 71, 72, 73] gm gm2 ∧ KS [] lg lg2 ∧ (GI0 sg2 gm2 lg2) ∧ (FIN sg gm b sg2 gm2) ∧ (MO sg2 gm2) ∧ (RR wg wl (oFi wg wl b.toNatClampNeg (gm 69 (TOPn sg)).toInt S) sg2 gm2) ∧ (sg2 74 = gm 69 (TOPn sg)) ∧ (((sg 63).toInt = 1 ∧ gm2 68 = gm 68 ∧ gm2 70 = gm 70 ∧ gm2 71 = gm 71 ∧ gm2 72 = gm 72 ∧ gm2 73 = gm 73) ∨ (1 < (sg 63).toInt ∧ DL9 sg gm lg gm2 ((TOPn sg) - 1) (gm 69 (TOPn sg))))) := by
  intro sz
  refine Met.ofW (cc := cX13_finish) (maxL := 3) (ret := none) (by decide) rfl ?_
  intro p e s m args below meth c s₁ B hml hv
  obtain ⟨rfl, hsz, hP, hK, hD0⟩ := hv
  have hx := B.exec
  have hb := B.bytes
  have hr := B.returns
  have hts := atoms_spec (ws := wm_X13_finish) B.pre
  have htb := fun (w : Cond) (h : w ∈ tb) => hts w (List.mem_cons_of_mem _ h)
  have hown : s.vm.findClass RX13 = some m.cls := findClass_of_methodNamed B.named
  have hlocks := B.notSynchronized
  subst hsz
  have hD := hD0.self (sz := s.heap.size)
  generalize hAe : va_A (mW h0 ad cid sg gm lg) s.heap.size = A at hD ⊢
  have hA : ∀ q : Nat, s.heap.size ≤ q → A q := fun q h => by rw [← hAe]; exact Or.inr h
  have hS : va_S A s.heap s.heap [] := va_S.rf
  have hl := lv_entry ([.ref h0, .int b]) (n := 3) (Nat.le_of_ble_eq_true rfl)
  rw [lg_entry_eq]
  generalize (lg_sl ([.ref h0, .int b]) ++ List.replicate (3 - (lg_sl ([.ref h0, .int b])).length) Slot.unset).toArray = ls at hl ⊢
  have hl : lv_has ls 3 [(0, .ref h0), (1, .int b)] := hl
  have h63 : iv 1 80 (sg 63) := ⟨hh1, (show iv 0 80 (sg 63) from MI_s hI 63).2⟩
  have hpt := PIL_top hpi hh1
  rw [← hb9] at hpt
  have hb80 : b.toNatClampNeg < 80 := (by have := iv_cl hvb (by decide); have := hvb.2; omega)
  have h610 := GI0_m0 hgi hb80 hpt.1
  have hmd : iv 0 79 (sg 50) := ⟨(show iv 0 80 (sg 50) from MI_s hI 50).1, by have := hgi.2.2; have := (cnt1_up h610 80 hb80).2; omega⟩
  have hj112 : ∀ (sg_j112 : Nat → Int32) (gm_j112 : Nat → Nat → Int32) (x2_112 : Int32) (_ : iv 0 79 x2_112) (_ : iv 0 79 b) (_ : KS [49, 50, 63, 74] sg sg_j112) (_ : KS [55, 56, 57, 58, 59, 61, 62, 67, 68, 70, 71, 72, 73] gm gm_j112) (_ : MI sg_j112 gm_j112) (_ : GI0 sg_j112 gm_j112 lg) (_ : FIN sg gm b sg_j112 gm_j112) (_ : MO sg_j112 gm_j112) (_ : RR wg wl (oFi wg wl b.toNatClampNeg (gm 69 (TOPn sg)).toInt S) sg_j112 gm_j112) (_ : sg_j112 74 = gm 69 (TOPn sg)) (_ : ((sg 63).toInt = 1 ∧ gm_j112 68 = gm 68 ∧ gm_j112 70 = gm 70 ∧ gm_j112 71 = gm 71 ∧ gm_j112 72 = gm 72 ∧ gm_j112 73 = gm 73) ∨ (1 < (sg 63).toInt ∧ DL9 sg gm lg gm_j112 ((TOPn sg) - 1) (gm 69 (TOPn sg)))) (H : Heap) (locs : List Loc) (ls : Array Slot), va_P (dC, dI) vwCl (mW h0 ad cid sg_j112 gm_j112 lg) H → va_D A (mW h0 ad cid sg_j112 gm_j112 lg) → va_S A s.heap H locs → lv_has ls 3 [(2, .int x2_112), (0, .ref h0), (1, .int b)] → W p l e (headSpec wm_X13_finish ({ frames := 7, cells := 0, slots := 0, locals := 166 })).room s m ([.ref h0, .int b] : List Value).toArray below meth c H locs 0 0 (MQ below (va_Qv (fun v => ∃ (sg2 : Nat → Int32) (gm2 : Nat → Nat → Int32) (lg2 : Nat → Nat → Int64), v = (sg2, gm2, lg2) ∧ MI sg2 gm2 ∧ KS [49, 50, 63, 74] sg sg2 ∧ KS [55, 56, 57, 58, 59, 61, 62, 67, 68, 70, 71, 72, 73] gm gm2 ∧ KS [] lg lg2 ∧ (GI0 sg2 gm2 lg2) ∧ (FIN sg gm b sg2 gm2) ∧ (MO sg2 gm2) ∧ (RR wg wl (oFi wg wl b.toNatClampNeg (gm 69 (TOPn sg)).toInt S) sg2 gm2) ∧ (sg2 74 = gm 69 (TOPn sg)) ∧ (((sg 63).toInt = 1 ∧ gm2 68 = gm 68 ∧ gm2 70 = gm 70 ∧ gm2 71 = gm 71 ∧ gm2 72 = gm 72 ∧ gm2 73 = gm 73) ∨ (1 < (sg 63).toInt ∧ DL9 sg gm lg gm2 ((TOPn sg) - 1) (gm 69 (TOPn sg))))) (MB dC dI h0 ad cid A) A) ([.ref h0, .int b] : List Value).toArray s 0 0 A) (F0 m 112 ls []) := by
    intro sg_j112 gm_j112 x2_112 hx2_112 hsx1_112 hks_j112 hkg_j112 hI_j112 hgi hfn hmo hR112 hg112 hd112 H locs ls hP hD hS hl
    exact W.vret hx hb hr (fun t ht hW => ⟨⟨(sg_j112, gm_j112, lg), rfl, ⟨sg_j112, gm_j112, lg, rfl, hI_j112, (KS_tr (L := [49, 50, 63, 74]) KS_rf hks_j112 (by decide)), (KS_tr (L := [55, 56, 57, 58, 59, 61, 62, 67, 68, 70, 71, 72, 73]) KS_rf hkg_j112 (by decide)), KS_rf, (hgi), (hfn), (hmo), (hR112), (hg112), (hd112)⟩, by rw [ht]; exact hP, va_K.moved hW.alike hK, hD⟩, hS.F ht⟩) hS.2.2 dX13_finish_112
  have hj81 : ∀ (sg_j81 : Nat → Int32) (gm_j81 : Nat → Nat → Int32) (x2_81 : Int32) (_ : iv 0 79 x2_81) (_ : iv 0 79 b) (_ : KS [49, 50] sg sg_j81) (_ : KS [55, 56, 57, 58, 59, 61, 62] gm gm_j81) (_ : MI sg_j81 gm_j81) (_ : x2_81.toNatClampNeg = TOPn sg) (_ : GI0 sg_j81 gm_j81 lg) (_ : MO sg_j81 gm_j81) (_ : gm_j81 62 = upd (gm 62) b.toNatClampNeg 0) (_ : RR wg wl (oFi wg wl b.toNatClampNeg (gm 69 (TOPn sg)).toInt S) sg_j81 gm_j81) (H : Heap) (locs : List Loc) (ls : Array Slot), va_P (dC, dI) vwCl (mW h0 ad cid sg_j81 gm_j81 lg) H → va_D A (mW h0 ad cid sg_j81 gm_j81 lg) → va_S A s.heap H locs → lv_has ls 3 [(2, .int x2_81), (0, .ref h0), (1, .int b)] → W p l e (headSpec wm_X13_finish ({ frames := 7, cells := 0, slots := 0, locals := 166 })).room s m ([.ref h0, .int b] : List Value).toArray below meth c H locs 0 0 (MQ below (va_Qv (fun v => ∃ (sg2 : Nat → Int32) (gm2 : Nat → Nat → Int32) (lg2 : Nat → Nat → Int64), v = (sg2, gm2, lg2) ∧ MI sg2 gm2 ∧ KS [49, 50, 63, 74] sg sg2 ∧ KS [55, 56, 57, 58, 59, 61, 62, 67, 68, 70, 71, 72, 73] gm gm2 ∧ KS [] lg lg2 ∧ (GI0 sg2 gm2 lg2) ∧ (FIN sg gm b sg2 gm2) ∧ (MO sg2 gm2) ∧ (RR wg wl (oFi wg wl b.toNatClampNeg (gm 69 (TOPn sg)).toInt S) sg2 gm2) ∧ (sg2 74 = gm 69 (TOPn sg)) ∧ (((sg 63).toInt = 1 ∧ gm2 68 = gm 68 ∧ gm2 70 = gm 70 ∧ gm2 71 = gm 71 ∧ gm2 72 = gm 72 ∧ gm2 73 = gm 73) ∨ (1 < (sg 63).toInt ∧ DL9 sg gm lg gm2 ((TOPn sg) - 1) (gm 69 (TOPn sg))))) (MB dC dI h0 ad cid A) A) ([.ref h0, .int b] : List Value).toArray s 0 0 A) (F0 m 81 ls []) := by
    intro sg_j81 gm_j81 x2_81 hx2_81 hsx1_81 hks_j81 hkg_j81 hI_j81 htop hgi hmo hm62 hR81 H locs ls hP hD hS hl
    refine lv_aload_n hx hb dX13_finish_81 rfl (lv_at hl 1 rfl) ?_
    refine lv_aload_n hx hb dX13_finish_82 rfl (lv_at hl 1 rfl) ?_
    refine mr_get (v := .ref (ad 69)) hx hb htb inX13 hown hK hP 69 (by decide) (htb _ kw_218) rfl dX13_finish_83 ?_
    refine lv_iload_n hx hb dX13_finish_86 rfl (lv_at hl 0 rfl) ?_
    refine mr_iald hx hb hK hP 54 (k := 69) rfl rfl rfl (show vp_in x2_81 81 from (iv_in hx2_81 (by decide))) dX13_finish_87 ?_
    refine lv_topi (fun z_1 ez_1 => ?_)
    have hz_1 : iv (-1) 59 z_1 := iv_of ez_1 (MI_a hI_j81 69 hx2_81 (by decide))
    have ez_1 := ez_1.trans (congrFun (hkg_j81 69 (by decide)) _)
    have h_2 : iv 0 59 z_1 := ⟨by have q9 := ez_1; rw [htop] at q9; rw [q9]; exact hob, (hz_1).2⟩
    refine ma_put (x := z_1) hx hb htb inX13 hown hK hP hD hS 74 (by decide) (by decide) (htb _ kw_1161) rfl rfl rfl dX13_finish_88 (fun sg_3 H locs esg_3 hP hD hS => ?_)
    have hI_sg_3 := MI_put hI_j81 esg_3 h_2 (by decide)
    refine lv_aload_n hx hb dX13_finish_91 rfl (lv_at hl 1 rfl) ?_
    refine lv_dup hx hb dX13_finish_92 rfl ?_
    refine mr_get (v := .int (sg_3 63)) hx hb htb inX13 hown hK hP 63 (by decide) (htb _ kw_1157) rfl dX13_finish_93 ?_
    refine lv_topi (fun z_4 ez_4 => ?_)
    obtain rfl : (sg 63) = z_4 := (ez_4.trans (Eq.trans (up_ne esg_3 (by decide)) (hks_j81 63 (by decide)))).symm
    refine lv_iconst (v := 1) hx hb dX13_finish_96 (by decide) ?_
    refine lv_isub hx hb dX13_finish_97 ?_
    refine lv_topi (fun z_5 ez_5 => ?_)
    have hz_5 : iv 0 79 z_5 := iv_of ez_5 (iv_sub h63 (iv_k (by decide) : iv 1 1 1) (by decide))
    have tz_5 : z_5.toInt = ((sg 63) : Int32).toInt - 1 := by rw [ez_5]; exact iv_subE h63 (iv_k (by decide) : iv 1 1 1) (by decide)
    refine ma_put (x := z_5) hx hb htb inX13 hown hK hP hD hS 63 (by decide) (by decide) (htb _ kw_1157) rfl rfl rfl dX13_finish_98 (fun sg_6 H locs esg_6 hP hD hS => ?_)
    have hI_sg_6 := MI_put hI_sg_3 esg_6 hz_5 (by decide)
    refine lv_aload_n hx hb dX13_finish_101 rfl (lv_at hl 1 rfl) ?_
    refine mr_get (v := .int (sg_6 63)) hx hb htb inX13 hown hK hP 63 (by decide) (htb _ kw_1157) rfl dX13_finish_102 ?_
    refine lv_topi (fun z_7 ez_7 => ?_)
    obtain rfl : z_5 = z_7 := (ez_7.trans (up_at esg_6)).symm
    refine lv_if_le (tgt := 112) hx hb dX13_finish_105 (by decide) (fun c_8 => ?_) (fun c_8 => ?_)
    · have h_9 : iv 0 0 z_5 := iv_leL c_8 hz_5 (iv_k (by decide) : iv 0 0 0) (by decide)
      exact hj112 sg_6 gm_j81 x2_81 hx2_81 hsx1_81 (KS_up (KS_up (KS_tr (L := [49, 50, 63, 74]) KS_rf hks_j81 (by decide)) esg_3 (by decide)) esg_6 (by decide)) (KS_tr (L := [55, 56, 57, 58, 59, 61, 62, 67, 68, 70, 71, 72, 73]) KS_rf hkg_j81 (by decide)) hI_sg_6 (GI0_of hgi (show KS [63, 74] sg_j81 sg_6 from (KS_up (KS_up KS_rf esg_3 (by decide)) esg_6 (by decide))) (show KS [] gm_j81 gm_j81 from KS_rf) (show KS [] lg lg from KS_rf) (by decide) (by decide) (by decide) (by decide) (by decide) (by decide)) (⟨by have := i32_0; have := i32_1; have := i32_2; have := i32_m1; have := congrArg Int32.toInt (show sg_6 63 = z_5 from up_at esg_6); have := (h_9).1; have := (h_9).2; have := (hsx1_81).1; have := (hsx1_81).2; have := (h63).1; have := (h63).2; have := (hmd).1; have := (hmd).2; have := (hx2_81).1; have := (hx2_81).2; have := (h_2).1; have := (h_2).2; omega, ((show KS [] gm_j81 gm_j81 from KS_rf) 62 (by decide)).trans hm62, Or.inl ⟨by have := i32_0; have := i32_1; have := i32_2; have := i32_m1; have := congrArg Int32.toInt (show sg_6 63 = z_5 from up_at esg_6); have := (h_9).1; have := (h_9).2; have := (hsx1_81).1; have := (hsx1_81).2; have := (h63).1; have := (h63).2; have := (hmd).1; have := (hmd).2; have := (hx2_81).1; have := (hx2_81).2; have := (h_2).1; have := (h_2).2; omega, (hkg_j81 67 (by decide))⟩⟩) (MO_of hmo (show KS [63, 74] sg_j81 sg_6 from (KS_up (KS_up KS_rf esg_3 (by decide)) esg_6 (by decide))) (show KS [] gm_j81 gm_j81 from KS_rf) (by decide) (by decide)) ((RR_ks hR81 (show KS [63, 74] sg_j81 sg_6 from (KS_up (KS_up KS_rf esg_3 (by decide)) esg_6 (by decide))) (show KS [] gm_j81 gm_j81 from KS_rf) (by decide) (by decide))) (((((show KS [63] sg_3 sg_6 from (KS_up KS_rf esg_6 (by decide))) 74 (by decide)).trans (up_at esg_3)).trans (by rw [ez_1, htop]))) (Or.inl ⟨(by have := hh1; have := i32_0; have := i32_1; have := i32_2; have := i32_m1; have := congrArg Int32.toInt (show sg_6 63 = z_5 from up_at esg_6); have := (h_9).1; have := (h_9).2; have := (hsx1_81).1; have := (hsx1_81).2; have := (h63).1; have := (h63).2; have := (hmd).1; have := (hmd).2; have := (hx2_81).1; have := (hx2_81).2; have := (h_2).1; have := (h_2).2; omega), (hkg_j81 68 (by decide)), (hkg_j81 70 (by decide)), (hkg_j81 71 (by decide)), (hkg_j81 72 (by decide)), (hkg_j81 73 (by decide))⟩) _ _ _ hP hD hS (lv_sub hl [0, 1, 2] rfl)
    · have h_10 : iv 1 79 z_5 := iv_ltR (i32_lt c_8) (iv_k (by decide) : iv 0 0 0) hz_5 (by decide)
      refine lv_aload_n hx hb dX13_finish_108 rfl (lv_at hl 1 rfl) ?_
      have hT1 : TOPn sg_6 = TOPn sg - 1 := (by have := cl_0 (x := sg 63) (by omega); have q9 : (sg_6 63).toInt = (sg 63).toInt - 1 := (by have := i32_0; have := i32_1; have := i32_2; have := i32_m1; have := congrArg Int32.toInt (show sg_6 63 = z_5 from up_at esg_6); have := (h_10).1; have := (h_10).2; have := (hsx1_81).1; have := (hsx1_81).2; have := (h63).1; have := (h63).2; have := (hmd).1; have := (hmd).2; have := (hx2_81).1; have := (hx2_81).2; have := (h_2).1; have := (h_2).2; omega); have := cl_0 (x := sg_6 63) (by omega); unfold TOPn; omega)
      have hwu := hwt.resolve_left (by have := i32_0; have := i32_1; have := i32_2; have := i32_m1; have := congrArg Int32.toInt (show sg_6 63 = z_5 from up_at esg_6); have := (h_10).1; have := (h_10).2; have := (hsx1_81).1; have := (hsx1_81).2; have := (h63).1; have := (h63).2; have := (hmd).1; have := (hmd).2; have := (hx2_81).1; have := (hx2_81).2; have := (h_2).1; have := (h_2).2; omega)
      have hTl : TOPn sg - 1 < (sg 63).toNatClampNeg := (by have := cl_0 (x := sg 63) (by omega); unfold TOPn; omega)
      refine mr_callv (rest := []) ⟨hx, hb, hml, hown, htb⟩ (f_deliver9 l dC dI h0 ad cid sg_6 gm_j81 lg hI_sg_6 (DOC_of hdoc (show KS [49, 50, 63, 74] sg sg_6 from (KS_up (KS_up (KS_tr (L := [49, 50, 63, 74]) KS_rf hks_j81 (by decide)) esg_3 (by decide)) esg_6 (by decide))) (show KS [55, 56, 57, 58, 59, 61, 62] gm gm_j81 from (KS_tr (L := [55, 56, 57, 58, 59, 61, 62]) KS_rf hkg_j81 (by decide))) (show KS [] lg lg from KS_rf) (by decide) (by decide) (by decide) (by decide)) (VAL_k ((show KS [] gm_j81 gm_j81 from KS_rf) 70 (by decide)) ((show KS [] gm_j81 gm_j81 from KS_rf) 71 (by decide)) ((show KS [] gm_j81 gm_j81 from KS_rf) 72 (by decide)) ((show KS [] gm_j81 gm_j81 from KS_rf) 73 (by decide)) hgi.1) (by have := i32_0; have := i32_1; have := i32_2; have := i32_m1; have := congrArg Int32.toInt (show sg_6 63 = z_5 from up_at esg_6); have := (h_10).1; have := (h_10).2; have := (hsx1_81).1; have := (hsx1_81).2; have := (h63).1; have := (h63).2; have := (hmd).1; have := (hmd).2; have := (hx2_81).1; have := (hx2_81).2; have := (h_2).1; have := (h_2).2; omega) (by have := i32_0; have := i32_1; have := i32_2; have := i32_m1; have := congrArg Int32.toInt (show sg_6 74 = sg_3 74 from up_ne esg_6 (by decide)); have := congrArg Int32.toInt (show sg_3 74 = z_1 from up_at esg_3); have := (h_2).1; have := (h_2).2; have := (hsx1_81).1; have := (hsx1_81).2; have := (h63).1; have := (h63).2; have := (hmd).1; have := (hmd).2; have := (hx2_81).1; have := (hx2_81).2; have := (h_10).1; have := (h_10).2; omega) (by rw [hT1]; exact FR_mv hwu.1 (DK_of (show KS [49, 50, 63, 74] sg sg_6 from (KS_up (KS_up (KS_tr (L := [49, 50, 63, 74]) KS_rf hks_j81 (by decide)) esg_3 (by decide)) esg_6 (by decide))) (show KS [55, 56, 57, 58, 59, 61, 62] gm gm_j81 from (KS_tr (L := [55, 56, 57, 58, 59, 61, 62]) KS_rf hkg_j81 (by decide))) (show KS [] lg lg from KS_rf) (by decide) (by decide) (by decide)) (hkg_j81 44 (by decide)) (hkg_j81 45 (by decide)) rfl (fun k q9 => by rw [(hkg_j81 60 (by decide))]; exact q9) (congrFun (hkg_j81 64 (by decide)) _) (congrFun (hkg_j81 65 (by decide)) _) (congrFun (hkg_j81 66 (by decide)) _) (congrFun (hkg_j81 67 (by decide)) _) (congrFun (hkg_j81 69 (by decide)) _)) (by rw [hT1, (hkg_j81 65 (by decide))]; exact hwu.2) (by rw [hT1, (hkg_j81 64 (by decide)), (Eq.trans (Eq.trans (up_ne esg_6 (by decide)) (up_ne esg_3 (by decide))) (hks_j81 41 (by decide)))]; exact ⟨(hpi _ hTl).2.1, (hpi _ hTl).2.2.1⟩) ((show iv 0 6 _ from hI_sg_6.2 67 _ (show _ < 81 from by rw [hT1]; unfold TOPn; have := cl_0 (x := sg 63) (by omega); have := h63.2; omega)).1)) (cwV 0 htb (gd_V kw_1171 kw_1172 kw_1173 kw_5 kw_1607) rfl rfl rfl (by decide +kernel) ⟨Nat.le_of_ble_eq_true rfl, Nat.le_of_ble_eq_true rfl⟩) rfl hl.1 rfl (Nat.le_of_ble_eq_true rfl) dX13_finish_109 ⟨Nat.zero_le _, Nat.zero_le _⟩ hK hP hD hS hA (fun u_12 H locs hw hP hD hS => ?_)
      obtain ⟨sgv_13, gmv_13, lgv_13, rfl, hIv_13, ksv_13, kgv_13, klv_13, fV2_r_11, fDl_r_11, fD9_r_11⟩ := hw
      obtain rfl := KS_nil ksv_13
      obtain rfl := KS_nil klv_13
      have hP : va_P (dC, dI) vwCl (mW h0 ad cid sg_6 gmv_13 lg) H := hP
      have hD : va_D A (mW h0 ad cid sg_6 gmv_13 lg) := hD
      exact hj112 sg_6 gmv_13 x2_81 hx2_81 hsx1_81 (KS_up (KS_up (KS_tr (L := [49, 50, 63, 74]) KS_rf hks_j81 (by decide)) esg_3 (by decide)) esg_6 (by decide)) (KS_tr (L := [55, 56, 57, 58, 59, 61, 62, 67, 68, 70, 71, 72, 73]) (KS_tr (L := [55, 56, 57, 58, 59, 61, 62, 67, 68, 70, 71, 72, 73]) KS_rf hkg_j81 (by decide)) kgv_13 (by decide)) hIv_13 (GI0_k hgi (DK_of (show KS [63, 74] sg_j81 sg_6 from (KS_up (KS_up KS_rf esg_3 (by decide)) esg_6 (by decide))) (show KS [67, 68, 70, 71, 72, 73] gm_j81 gmv_13 from (KS_tr (L := [67, 68, 70, 71, 72, 73]) KS_rf kgv_13 (by decide))) (show KS [] lg lg from KS_rf) (by decide) (by decide) (by decide)) ((show KS [] lg lg from KS_rf) 1 (by decide)) ((show KS [67, 68, 70, 71, 72, 73] gm_j81 gmv_13 from (KS_tr (L := [67, 68, 70, 71, 72, 73]) KS_rf kgv_13 (by decide))) 60 (by decide)) ((show KS [67, 68, 70, 71, 72, 73] gm_j81 gmv_13 from (KS_tr (L := [67, 68, 70, 71, 72, 73]) KS_rf kgv_13 (by decide))) 61 (by decide)) ((show KS [67, 68, 70, 71, 72, 73] gm_j81 gmv_13 from (KS_tr (L := [67, 68, 70, 71, 72, 73]) KS_rf kgv_13 (by decide))) 62 (by decide)) (fV2_r_11) ((show KS [63, 74] sg_j81 sg_6 from (KS_up (KS_up KS_rf esg_3 (by decide)) esg_6 (by decide))) 50 (by decide))) (⟨by have := i32_0; have := i32_1; have := i32_2; have := i32_m1; have := congrArg Int32.toInt (show sg_6 63 = z_5 from up_at esg_6); have := (h_10).1; have := (h_10).2; have := (hsx1_81).1; have := (hsx1_81).2; have := (h63).1; have := (h63).2; have := (hmd).1; have := (hmd).2; have := (hx2_81).1; have := (hx2_81).2; have := (h_2).1; have := (h_2).2; omega, ((show KS [67, 68, 70, 71, 72, 73] gm_j81 gmv_13 from (KS_tr (L := [67, 68, 70, 71, 72, 73]) KS_rf kgv_13 (by decide))) 62 (by decide)).trans hm62, Or.inr (DLV_k fDl_r_11 rfl (hkg_j81 65 (by decide)) (hkg_j81 67 (by decide)))⟩) (MO_of hmo (show KS [63, 74] sg_j81 sg_6 from (KS_up (KS_up KS_rf esg_3 (by decide)) esg_6 (by decide))) (show KS [67, 68, 70, 71, 72, 73] gm_j81 gmv_13 from (KS_tr (L := [67, 68, 70, 71, 72, 73]) KS_rf kgv_13 (by decide))) (by decide) (by decide)) ((RR_ks hR81 (show KS [63, 74] sg_j81 sg_6 from (KS_up (KS_up KS_rf esg_3 (by decide)) esg_6 (by decide))) (show KS [67, 68, 70, 71, 72, 73] gm_j81 gmv_13 from (KS_tr (L := [67, 68, 70, 71, 72, 73]) KS_rf kgv_13 (by decide))) (by decide) (by decide))) (((((show KS [63] sg_3 sg_6 from (KS_up KS_rf esg_6 (by decide))) 74 (by decide)).trans (up_at esg_3)).trans (by rw [ez_1, htop]))) (Or.inr ⟨(by have := i32_0; have := i32_1; have := i32_2; have := i32_m1; have := congrArg Int32.toInt (show sg_6 63 = z_5 from up_at esg_6); have := (h_10).1; have := (h_10).2; have := (hsx1_81).1; have := (hsx1_81).2; have := (h63).1; have := (h63).2; have := (hmd).1; have := (hmd).2; have := (hx2_81).1; have := (hx2_81).2; have := (h_2).1; have := (h_2).2; omega), (by have q9 := fD9_r_11; rw [hT1, (show sg_6 74 = gm 69 (TOPn sg) from ((((show KS [63] sg_3 sg_6 from (KS_up KS_rf esg_6 (by decide))) 74 (by decide)).trans (up_at esg_3)).trans (by rw [ez_1, htop])))] at q9; exact DL9_k q9 (DK_of (show KS [49, 50, 63, 74] sg sg_6 from (KS_up (KS_up (KS_tr (L := [49, 50, 63, 74]) KS_rf hks_j81 (by decide)) esg_3 (by decide)) esg_6 (by decide))) (show KS [55, 56, 57, 58, 59, 61, 62] gm gm_j81 from (KS_tr (L := [55, 56, 57, 58, 59, 61, 62]) KS_rf hkg_j81 (by decide))) (show KS [] lg lg from KS_rf) (by decide) (by decide) (by decide)) (hkg_j81 45 (by decide)) (hkg_j81 64 (by decide)) (hkg_j81 65 (by decide)) (hkg_j81 66 (by decide)) (hkg_j81 67 (by decide)) (hkg_j81 68 (by decide)) (hkg_j81 70 (by decide)) (hkg_j81 71 (by decide)) (hkg_j81 72 (by decide)) (hkg_j81 73 (by decide)))⟩) _ _ _ hP hD hS (lv_sub hl [0, 1, 2] rfl)
  have hj39 : ∀ (sg_j39 : Nat → Int32) (gm_j39 : Nat → Nat → Int32) (x2_39 : Int32) (_ : iv 0 79 x2_39) (_ : iv 0 79 b) (_ : KS [49] sg sg_j39) (_ : KS [55, 56, 57, 58] gm gm_j39) (_ : MI sg_j39 gm_j39) (_ : x2_39.toNatClampNeg = TOPn sg) (_ : RR wg wl (oF1 wg b.toNatClampNeg (gm 69 (TOPn sg)).toInt S) sg_j39 gm_j39) (H : Heap) (locs : List Loc) (ls : Array Slot), va_P (dC, dI) vwCl (mW h0 ad cid sg_j39 gm_j39 lg) H → va_D A (mW h0 ad cid sg_j39 gm_j39 lg) → va_S A s.heap H locs → lv_has ls 3 [(2, .int x2_39), (0, .ref h0), (1, .int b)] → W p l e (headSpec wm_X13_finish ({ frames := 7, cells := 0, slots := 0, locals := 166 })).room s m ([.ref h0, .int b] : List Value).toArray below meth c H locs 0 0 (MQ below (va_Qv (fun v => ∃ (sg2 : Nat → Int32) (gm2 : Nat → Nat → Int32) (lg2 : Nat → Nat → Int64), v = (sg2, gm2, lg2) ∧ MI sg2 gm2 ∧ KS [49, 50, 63, 74] sg sg2 ∧ KS [55, 56, 57, 58, 59, 61, 62, 67, 68, 70, 71, 72, 73] gm gm2 ∧ KS [] lg lg2 ∧ (GI0 sg2 gm2 lg2) ∧ (FIN sg gm b sg2 gm2) ∧ (MO sg2 gm2) ∧ (RR wg wl (oFi wg wl b.toNatClampNeg (gm 69 (TOPn sg)).toInt S) sg2 gm2) ∧ (sg2 74 = gm 69 (TOPn sg)) ∧ (((sg 63).toInt = 1 ∧ gm2 68 = gm 68 ∧ gm2 70 = gm 70 ∧ gm2 71 = gm 71 ∧ gm2 72 = gm 72 ∧ gm2 73 = gm 73) ∨ (1 < (sg 63).toInt ∧ DL9 sg gm lg gm2 ((TOPn sg) - 1) (gm 69 (TOPn sg))))) (MB dC dI h0 ad cid A) A) ([.ref h0, .int b] : List Value).toArray s 0 0 A) (F0 m 39 ls []) := by
    intro sg_j39 gm_j39 x2_39 hx2_39 hsx1_39 hks_j39 hkg_j39 hI_j39 htop hR39 H locs ls hP hD hS hl
    refine lv_aload_n hx hb dX13_finish_39 rfl (lv_at hl 1 rfl) ?_
    refine mr_get (v := .ref (ad 62)) hx hb htb inX13 hown hK hP 62 (by decide) (htb _ kw_212) rfl dX13_finish_40 ?_
    refine lv_iload_n hx hb dX13_finish_43 rfl (lv_at hl 2 rfl) ?_
    refine lv_iconst (v := 0) hx hb dX13_finish_44 (by decide) ?_
    refine ma_zast (x := 0) hx hb hK hP hD hS 48 (k := 62) rfl rfl rfl (show vp_in b 80 from (iv_in hsx1_39 (by decide))) dX13_finish_45 (fun gm_14 H locs egm_14 hP hD hS => ?_)
    have hI_gm_14 := MI_st hI_j39 egm_14 (iv_of (iv_vb (iv_w (iv_k (by decide) : iv 0 0 0) (by decide))) (iv_k (by decide) : iv 0 0 0)) (by decide)
    refine lv_aload_n hx hb dX13_finish_46 rfl (lv_at hl 1 rfl) ?_
    refine lv_iload_n hx hb dX13_finish_47 rfl (lv_at hl 2 rfl) ?_
    refine mr_calli (rest := []) ⟨hx, hb, hml, hown, htb⟩ (f_isMany l dC dI h0 ad cid sg_j39 gm_14 lg b hI_gm_14 hsx1_39) (cwV 1 htb (gd_V kw_1151 kw_1152 kw_1153 kw_5 kw_1601) rfl rfl rfl (by decide +kernel) ⟨Nat.le_of_ble_eq_true rfl, Nat.le_of_ble_eq_true rfl⟩) rfl hl.1 rfl (Nat.le_of_ble_eq_true rfl) dX13_finish_48 ⟨Nat.zero_le _, Nat.zero_le _⟩ hK hP hD hS hA (fun r_15 u_16 H locs hw hP hD hS => ?_)
    obtain ⟨hr_15, fY_r_15, rfl⟩ := hw
    have hP : va_P (dC, dI) vwCl (mW h0 ad cid sg_j39 gm_14 lg) H := hP
    have hD : va_D A (mW h0 ad cid sg_j39 gm_14 lg) := hD
    refine lv_if_ne (tgt := 81) hx hb dX13_finish_51 (by decide) (fun c_17 => ?_) (fun c_17 => ?_)
    · have h_18 : iv 1 1 r_15 := iv_neL c_17 hr_15 (by decide)
      exact hj81 sg_j39 gm_14 x2_39 hx2_39 hsx1_39 (KS_tr (L := [49, 50]) KS_rf hks_j39 (by decide)) (KS_up (KS_tr (L := [55, 56, 57, 58, 59, 61, 62]) KS_rf hkg_j39 (by decide)) egm_14 (by decide)) hI_gm_14 (htop) (GI0_un hgi (DK_of (show KS [49] sg sg_j39 from (KS_tr (L := [49]) KS_rf hks_j39 (by decide))) (show KS [55, 56, 57, 58, 62] gm gm_14 from (KS_up (KS_tr (L := [55, 56, 57, 58, 62]) KS_rf hkg_j39 (by decide)) egm_14 (by decide))) (show KS [] lg lg from KS_rf) (by decide) (by decide) (by decide)) rfl (Eq.trans (up_ne egm_14 (by decide)) (hkg_j39 60 (by decide))) (Eq.trans (up_ne egm_14 (by decide)) (hkg_j39 61 (by decide))) (show gm_14 62 = upd (gm 62) (b : Int32).toNatClampNeg (vp_nar .boolean 0) from ((up_at egm_14).trans (by rw [show gm_j39 62 = gm 62 from ((hkg_j39 62 (by decide)).trans rfl)]))) (Eq.trans (up_ne egm_14 (by decide)) (hkg_j39 70 (by decide))) (Eq.trans (up_ne egm_14 (by decide)) (hkg_j39 71 (by decide))) (Eq.trans (up_ne egm_14 (by decide)) (hkg_j39 72 (by decide))) (Eq.trans (up_ne egm_14 (by decide)) (hkg_j39 73 (by decide))) (hks_j39 50 (by decide))) (MO_k (hks_j39 50 (by decide)) (hks_j39 41 (by decide)) (Eq.trans (up_ne egm_14 (by decide)) (hkg_j39 59 (by decide))) hmo) ((show gm_14 62 = upd (gm 62) (b : Int32).toNatClampNeg (vp_nar .boolean 0) from ((up_at egm_14).trans (by rw [show gm_j39 62 = gm 62 from ((hkg_j39 62 (by decide)).trans rfl)])))) ((by unfold oFi; exact RR_fm hR39 ((show KS [] sg_j39 sg_j39 from KS_rf) 41 (by decide)) ((show KS [] sg_j39 sg_j39 from KS_rf) 48 (by decide)) ((show KS [] sg_j39 sg_j39 from KS_rf) 49 (by decide)) ((show KS [] sg_j39 sg_j39 from KS_rf) 50 (by decide)) ((show KS [62] gm_j39 gm_14 from (KS_up KS_rf egm_14 (by decide))) 53 (by decide)) ((show KS [62] gm_j39 gm_14 from (KS_up KS_rf egm_14 (by decide))) 54 (by decide)) ((show KS [62] gm_j39 gm_14 from (KS_up KS_rf egm_14 (by decide))) 55 (by decide)) ((show KS [62] gm_j39 gm_14 from (KS_up KS_rf egm_14 (by decide))) 56 (by decide)) ((show KS [62] gm_j39 gm_14 from (KS_up KS_rf egm_14 (by decide))) 57 (by decide)) ((show KS [62] gm_j39 gm_14 from (KS_up KS_rf egm_14 (by decide))) 58 (by decide)) ((show KS [62] gm_j39 gm_14 from (KS_up KS_rf egm_14 (by decide))) 59 (by decide)) ((show KS [62] gm_j39 gm_14 from (KS_up KS_rf egm_14 (by decide))) 60 (by decide)) ((show KS [62] gm_j39 gm_14 from (KS_up KS_rf egm_14 (by decide))) 61 (by decide)) ((Eq.refl _).trans (up_at egm_14)) rfl rfl ((BR_many hBR hRW hRS hvb hpt.2.2).mp (by have q9 := (fY_r_15.resolve_left (fun q8 => absurd q8.1 (by have := i32_0; have := i32_1; have := i32_2; have := i32_m1; have := (hsx1_39).1; have := (hsx1_39).2; have := (h63).1; have := (h63).2; have := (hmd).1; have := (hmd).2; have := (hx2_39).1; have := (hx2_39).2; have := (h_18).1; have := (h_18).2; omega))).2; rw [mMny_k (sg := sg) (gm := gm) (lg := lg) (DK_of (show KS [49] sg sg_j39 from (KS_tr (L := [49]) KS_rf hks_j39 (by decide))) (show KS [55, 56, 57, 58, 62] gm gm_14 from (KS_up (KS_tr (L := [55, 56, 57, 58, 62]) KS_rf hkg_j39 (by decide)) egm_14 (by decide))) (show KS [] lg lg from KS_rf) (by decide) (by decide) (by decide)) rfl] at q9; exact q9)))) _ _ _ hP hD hS (lv_sub hl [0, 1, 2] rfl)
    · have h_19 : iv 0 0 r_15 := iv_eq c_17 hr_15 (iv_k (by decide) : iv 0 0 0) (by decide)
      refine lv_aload_n hx hb dX13_finish_54 rfl (lv_at hl 1 rfl) ?_
      refine mr_get (v := .ref (ad 61)) hx hb htb inX13 hown hK hP 61 (by decide) (htb _ kw_211) rfl dX13_finish_55 ?_
      refine lv_iload_n hx hb dX13_finish_58 rfl (lv_at hl 2 rfl) ?_
      refine lv_iconst (v := 1) hx hb dX13_finish_59 (by decide) ?_
      refine ma_zast (x := 1) hx hb hK hP hD hS 47 (k := 61) rfl rfl rfl (show vp_in b 80 from (iv_in hsx1_39 (by decide))) dX13_finish_60 (fun gm_20 H locs egm_20 hP hD hS => ?_)
      have hI_gm_20 := MI_st hI_gm_14 egm_20 (iv_of (iv_vb (iv_w (iv_k (by decide) : iv 1 1 1) (by decide))) (iv_k (by decide) : iv 1 1 1)) (by decide)
      refine lv_aload_n hx hb dX13_finish_61 rfl (lv_at hl 1 rfl) ?_
      refine mr_get (v := .ref (ad 59)) hx hb htb inX13 hown hK hP 59 (by decide) (htb _ kw_209) rfl dX13_finish_62 ?_
      refine lv_aload_n hx hb dX13_finish_65 rfl (lv_at hl 1 rfl) ?_
      refine mr_get (v := .int (sg_j39 50)) hx hb htb inX13 hown hK hP 50 (by decide) (htb _ kw_824) rfl dX13_finish_66 ?_
      refine lv_topi (fun z_21 ez_21 => ?_)
      obtain rfl : (sg 50) = z_21 := (ez_21.trans (hks_j39 50 (by decide))).symm
      refine lv_iload_n hx hb dX13_finish_69 rfl (lv_at hl 2 rfl) ?_
      refine ma_iast (x := b) hx hb hK hP hD hS 45 (k := 59) rfl rfl rfl (show vp_in (sg 50) 80 from (iv_in hmd (by decide))) dX13_finish_70 (fun gm_22 H locs egm_22 hP hD hS => ?_)
      have hI_gm_22 := MI_st hI_gm_20 egm_22 hsx1_39 (by decide)
      refine lv_aload_n hx hb dX13_finish_71 rfl (lv_at hl 1 rfl) ?_
      refine lv_dup hx hb dX13_finish_72 rfl ?_
      refine mr_get (v := .int (sg_j39 50)) hx hb htb inX13 hown hK hP 50 (by decide) (htb _ kw_824) rfl dX13_finish_73 ?_
      refine lv_topi (fun z_23 ez_23 => ?_)
      obtain rfl : (sg 50) = z_23 := (ez_23.trans (hks_j39 50 (by decide))).symm
      refine lv_iconst (v := 1) hx hb dX13_finish_76 (by decide) ?_
      refine lv_iadd hx hb dX13_finish_77 ?_
      refine lv_topi (fun z_24 ez_24 => ?_)
      have hz_24 : iv 1 80 z_24 := iv_of ez_24 (iv_add hmd (iv_k (by decide) : iv 1 1 1) (by decide))
      have tz_24 : z_24.toInt = ((sg 50) : Int32).toInt + 1 := by rw [ez_24]; exact iv_addE hmd (iv_k (by decide) : iv 1 1 1) (by decide)
      refine ma_put (x := z_24) hx hb htb inX13 hown hK hP hD hS 50 (by decide) (by decide) (htb _ kw_824) rfl rfl rfl dX13_finish_78 (fun sg_25 H locs esg_25 hP hD hS => ?_)
      have hI_sg_25 := MI_put hI_gm_22 esg_25 hz_24 (by decide)
      have hmy : ¬ mMny gm lg b.toNatClampNeg := by { rcases fY_r_15 with ⟨_, q9⟩ | ⟨q9, _⟩; (rw [mMny_k (sg := sg) (gm := gm) (lg := lg) (DK_of (show KS [49] sg sg_j39 from (KS_tr (L := [49]) KS_rf hks_j39 (by decide))) (show KS [55, 56, 57, 58, 62] gm gm_14 from (KS_up (KS_tr (L := [55, 56, 57, 58, 62]) KS_rf hkg_j39 (by decide)) egm_14 (by decide))) (show KS [] lg lg from KS_rf) (by decide) (by decide) (by decide)) rfl] at q9; exact q9); exact absurd (congrArg Int32.toInt c_17) (by rw [q9]; decide) }
      exact hj81 sg_25 gm_22 x2_39 hx2_39 hsx1_39 (KS_up (KS_tr (L := [49, 50]) KS_rf hks_j39 (by decide)) esg_25 (by decide)) (KS_up (KS_up (KS_up (KS_tr (L := [55, 56, 57, 58, 59, 61, 62]) KS_rf hkg_j39 (by decide)) egm_14 (by decide)) egm_20 (by decide)) egm_22 (by decide)) hI_sg_25 (htop) (GI0_fin hgi (DK_of (show KS [49, 50] sg sg_25 from (KS_up (KS_tr (L := [49, 50]) KS_rf hks_j39 (by decide)) esg_25 (by decide))) (show KS [55, 56, 57, 58, 59, 61, 62] gm gm_22 from (KS_up (KS_up (KS_up (KS_tr (L := [55, 56, 57, 58, 59, 61, 62]) KS_rf hkg_j39 (by decide)) egm_14 (by decide)) egm_20 (by decide)) egm_22 (by decide))) (show KS [] lg lg from KS_rf) (by decide) (by decide) (by decide)) rfl (Eq.trans (Eq.trans (Eq.trans (up_ne egm_22 (by decide)) (up_ne egm_20 (by decide))) (up_ne egm_14 (by decide))) (hkg_j39 60 (by decide))) (show gm_22 61 = upd (gm 61) (b : Int32).toNatClampNeg (vp_nar .boolean 1) from ((up_ne egm_22 (by decide)).trans ((up_at egm_20).trans (by rw [show gm_14 61 = gm 61 from ((up_ne egm_14 (by decide)).trans ((hkg_j39 61 (by decide)).trans rfl))])))) (show gm_22 62 = upd (gm 62) (b : Int32).toNatClampNeg (vp_nar .boolean 0) from ((up_ne egm_22 (by decide)).trans ((up_ne egm_20 (by decide)).trans ((up_at egm_14).trans (by rw [show gm_j39 62 = gm 62 from ((hkg_j39 62 (by decide)).trans rfl)]))))) (Eq.trans (Eq.trans (Eq.trans (up_ne egm_22 (by decide)) (up_ne egm_20 (by decide))) (up_ne egm_14 (by decide))) (hkg_j39 70 (by decide))) (Eq.trans (Eq.trans (Eq.trans (up_ne egm_22 (by decide)) (up_ne egm_20 (by decide))) (up_ne egm_14 (by decide))) (hkg_j39 71 (by decide))) (Eq.trans (Eq.trans (Eq.trans (up_ne egm_22 (by decide)) (up_ne egm_20 (by decide))) (up_ne egm_14 (by decide))) (hkg_j39 72 (by decide))) (Eq.trans (Eq.trans (Eq.trans (up_ne egm_22 (by decide)) (up_ne egm_20 (by decide))) (up_ne egm_14 (by decide))) (hkg_j39 73 (by decide))) (by have := i32_0; have := i32_1; have := i32_2; have := i32_m1; have := congrArg Int32.toInt (show sg_25 50 = z_24 from up_at esg_25); have := (hz_24).1; have := (hz_24).2; have := (hsx1_39).1; have := (hsx1_39).2; have := (h63).1; have := (h63).2; have := (hmd).1; have := (hmd).2; have := (hx2_39).1; have := (hx2_39).2; have := (h_19).1; have := (h_19).2; omega) hb80 h610 hmy (how hmy)) (MO_s hmo hpt.2.2 hmd.1 (by have := i32_0; have := i32_1; have := i32_2; have := i32_m1; have := congrArg Int32.toInt (show sg_25 50 = z_24 from up_at esg_25); have := (hz_24).1; have := (hz_24).2; have := (hsx1_39).1; have := (hsx1_39).2; have := (h63).1; have := (h63).2; have := (hmd).1; have := (hmd).2; have := (hx2_39).1; have := (hx2_39).2; have := (h_19).1; have := (h_19).2; omega) (Eq.trans (up_ne esg_25 (by decide)) (hks_j39 41 (by decide))) (show gm_22 59 = upd (gm 59) ((sg 50) : Int32).toNatClampNeg b from ((up_at egm_22).trans (by rw [show gm_20 59 = gm 59 from ((up_ne egm_20 (by decide)).trans ((up_ne egm_14 (by decide)).trans ((hkg_j39 59 (by decide)).trans rfl)))])))) ((show gm_22 62 = upd (gm 62) (b : Int32).toNatClampNeg (vp_nar .boolean 0) from ((up_ne egm_22 (by decide)).trans ((up_ne egm_20 (by decide)).trans ((up_at egm_14).trans (by rw [show gm_j39 62 = gm 62 from ((hkg_j39 62 (by decide)).trans rfl)])))))) ((by unfold oFi; exact RR_fo hR39 ((show KS [50] sg_j39 sg_25 from (KS_up KS_rf esg_25 (by decide))) 41 (by decide)) ((show KS [50] sg_j39 sg_25 from (KS_up KS_rf esg_25 (by decide))) 48 (by decide)) ((show KS [50] sg_j39 sg_25 from (KS_up KS_rf esg_25 (by decide))) 49 (by decide)) (by have q50 := congrArg Int32.toInt (show sg_j39 50 = sg 50 from hks_j39 50 (by decide)); have := i32_0; have := i32_1; have := i32_2; have := i32_m1; have := congrArg Int32.toInt (show sg_25 50 = z_24 from up_at esg_25); have := (hz_24).1; have := (hz_24).2; have := (hsx1_39).1; have := (hsx1_39).2; have := (h63).1; have := (h63).2; have := (hmd).1; have := (hmd).2; have := (hx2_39).1; have := (hx2_39).2; have := (h_19).1; have := (h_19).2; omega) ((show KS [59, 61, 62] gm_j39 gm_22 from (KS_up (KS_up (KS_up KS_rf egm_14 (by decide)) egm_20 (by decide)) egm_22 (by decide))) 53 (by decide)) ((show KS [59, 61, 62] gm_j39 gm_22 from (KS_up (KS_up (KS_up KS_rf egm_14 (by decide)) egm_20 (by decide)) egm_22 (by decide))) 54 (by decide)) ((show KS [59, 61, 62] gm_j39 gm_22 from (KS_up (KS_up (KS_up KS_rf egm_14 (by decide)) egm_20 (by decide)) egm_22 (by decide))) 55 (by decide)) ((show KS [59, 61, 62] gm_j39 gm_22 from (KS_up (KS_up (KS_up KS_rf egm_14 (by decide)) egm_20 (by decide)) egm_22 (by decide))) 56 (by decide)) ((show KS [59, 61, 62] gm_j39 gm_22 from (KS_up (KS_up (KS_up KS_rf egm_14 (by decide)) egm_20 (by decide)) egm_22 (by decide))) 57 (by decide)) ((show KS [59, 61, 62] gm_j39 gm_22 from (KS_up (KS_up (KS_up KS_rf egm_14 (by decide)) egm_20 (by decide)) egm_22 (by decide))) 58 (by decide)) ((Eq.refl _).trans ((up_at egm_22).trans (by rw [show gm_20 59 = gm_j39 59 from ((up_ne egm_20 (by decide)).trans (up_ne egm_14 (by decide)))]))) ((show KS [59, 61, 62] gm_j39 gm_22 from (KS_up (KS_up (KS_up KS_rf egm_14 (by decide)) egm_20 (by decide)) egm_22 (by decide))) 60 (by decide)) (((show KS [59] gm_20 gm_22 from (KS_up KS_rf egm_22 (by decide))) 61 (by decide)).trans ((up_at egm_20).trans (by rw [show gm_14 61 = gm_j39 61 from (up_ne egm_14 (by decide))]))) (((show KS [59, 61] gm_14 gm_22 from (KS_up (KS_up KS_rf egm_20 (by decide)) egm_22 (by decide))) 62 (by decide)).trans (up_at egm_14)) rfl rfl rfl (by decide) (by exact congrArg Int32.toNatClampNeg (show sg 50 = sg_j39 50 from (hks_j39 50 (by decide)).symm)) (by have q50 := congrArg Int32.toInt (show sg_j39 50 = sg 50 from hks_j39 50 (by decide)); have := hmd.1; have := i32_0; have := i32_1; have := i32_2; have := i32_m1; have := congrArg Int32.toInt (show sg_25 50 = z_24 from up_at esg_25); have := (hz_24).1; have := (hz_24).2; have := (hsx1_39).1; have := (hsx1_39).2; have := (h63).1; have := (h63).2; have := (hmd).1; have := (hmd).2; have := (hx2_39).1; have := (hx2_39).2; have := (h_19).1; have := (h_19).2; omega) (cln9 hvb.1).symm (by have q1 : b.toNatClampNeg = b.toInt.toNat := rfl; have q1 : (sg_j39 41).toNatClampNeg = (sg_j39 41).toInt.toNat := rfl; have := hpt.2.2; have := i32_0; have := i32_1; have := i32_2; have := i32_m1; have := congrArg Int32.toInt (show sg_25 41 = sg_j39 41 from up_ne esg_25 (by decide)); have := congrArg Int32.toInt (show sg_j39 41 = sg 41 from hks_j39 41 (by decide)); have := (show iv 0 80 (sg 41) from MI_s hI 41).1; have := (show iv 0 80 (sg 41) from MI_s hI 41).2; have := (hsx1_39).1; have := (hsx1_39).2; have := (h63).1; have := (h63).2; have := (hmd).1; have := (hmd).2; have := (hx2_39).1; have := (hx2_39).2; have := (h_19).1; have := (h_19).2; have := (hz_24).1; have := (hz_24).2; omega) (by rw [oF1_S]; exact hzb) (Decidable.byContradiction (fun q => absurd ((BR_many hBR hRW hRS hvb hpt.2.2).mpr q) (by have q9 := (fY_r_15.resolve_right (fun q8 => absurd q8.1 (by have := i32_0; have := i32_1; have := i32_2; have := i32_m1; have := (hsx1_39).1; have := (hsx1_39).2; have := (h63).1; have := (h63).2; have := (hmd).1; have := (hmd).2; have := (hx2_39).1; have := (hx2_39).2; have := (h_19).1; have := (h_19).2; have := (hz_24).1; have := (hz_24).2; omega))).2; rw [mMny_k (sg := sg) (gm := gm) (lg := lg) (DK_of (show KS [49] sg sg_j39 from (KS_tr (L := [49]) KS_rf hks_j39 (by decide))) (show KS [55, 56, 57, 58, 62] gm gm_14 from (KS_up (KS_tr (L := [55, 56, 57, 58, 62]) KS_rf hkg_j39 (by decide)) egm_14 (by decide))) (show KS [] lg lg from KS_rf) (by decide) (by decide) (by decide)) rfl] at q9; exact q9))))) _ _ _ hP hD hS (lv_sub hl [0, 1, 2] rfl)
  refine lv_aload_n hx hb dX13_finish_0 rfl (lv_at hl 0 rfl) ?_
  refine mr_get (v := .int (sg 63)) hx hb htb inX13 hown hK hP 63 (by decide) (htb _ kw_1157) rfl dX13_finish_1 ?_
  refine lv_iconst (v := 1) hx hb dX13_finish_4 (by decide) ?_
  refine lv_isub hx hb dX13_finish_5 ?_
  refine lv_topi (fun z_26 ez_26 => ?_)
  have hz_26 : iv 0 79 z_26 := iv_of ez_26 (iv_sub h63 (iv_k (by decide) : iv 1 1 1) (by decide))
  have tz_26 : z_26.toInt = ((sg 63) : Int32).toInt - 1 := by rw [ez_26]; exact iv_subE h63 (iv_k (by decide) : iv 1 1 1) (by decide)
  refine lv_istore_n (lv' := [(2, .int z_26), (0, .ref h0), (1, .int b)]) hx hb dX13_finish_6 rfl hl (by decide) rfl (fun ls hl => ?_)
  have htop := top_n h63 tz_26
  refine lv_aload_n hx hb dX13_finish_7 rfl (lv_at hl 1 rfl) ?_
  refine lv_iload_n hx hb dX13_finish_8 rfl (lv_at hl 2 rfl) ?_
  refine lv_ldc2 (own := RX13) (v := 1768843636) hx hb hown (htb _ kw_907) dX13_finish_9 ?_
  refine mr_calli (rest := []) ⟨hx, hb, hml, hown, htb⟩ (f_letter9 l dC dI h0 ad cid sg gm lg b 1768843636 hI (iv_w hvb (by decide)) hpt.2.2 (hdoc.1.2.2.2)) (cwV 2 htb (gd_V kw_1201 kw_1202 kw_1203 kw_5 kw_1617) rfl rfl rfl (by decide +kernel) ⟨Nat.le_of_ble_eq_true rfl, Nat.le_of_ble_eq_true rfl⟩) rfl hl.1 rfl (Nat.le_of_ble_eq_true rfl) dX13_finish_12 ⟨Nat.zero_le _, Nat.zero_le _⟩ hK hP hD hS hA (fun r_27 u_28 H locs hw hP hD hS => ?_)
  obtain ⟨fLt_r_27, rfl⟩ := hw
  have hP : va_P (dC, dI) vwCl (mW h0 ad cid sg gm lg) H := hP
  have hD : va_D A (mW h0 ad cid sg gm lg) := hD
  refine lv_iconst (v := (-1)) hx hb dX13_finish_15 (by decide) ?_
  refine lv_icmp_eq (tgt := 39) hx hb dX13_finish_16 (by decide) (fun c_29 => ?_) (fun c_29 => ?_)
  · have h_30 : iv (-1) (-1) r_27 := iv_eq c_29 (iv_all r_27) (iv_k (by decide) : iv (-1) (-1) (-1)) (by decide)
    exact hj39 sg gm z_26 hz_26 hvb KS_rf KS_rf hI (htop) ((by rw [oF1_zn (by rw [← (show r_27.toInt = (wg 32 b.toNatClampNeg).toInt from (by have q9 := fLt_r_27; rw [q9]; exact BR_32 hBR hRW hRS hvb hpt.2.2))]; have := i32_0; have := i32_1; have := i32_2; have := i32_m1; have := (hvb).1; have := (hvb).2; have := (h63).1; have := (h63).2; have := (hmd).1; have := (hmd).2; have := (hz_26).1; have := (hz_26).2; have := (h_30).1; have := (h_30).2; omega)]; exact hRR)) _ _ _ hP hD hS (lv_sub hl [0, 1, 2] rfl)
  · have d_31 : ¬ (r_27 : Int32).toInt = (-1) := lv_neT c_29 rfl
    refine lv_aload_n hx hb dX13_finish_19 rfl (lv_at hl 1 rfl) ?_
    refine lv_iconst (v := 5) hx hb dX13_finish_20 (by decide) ?_
    refine lv_aload_n hx hb dX13_finish_21 rfl (lv_at hl 1 rfl) ?_
    refine mr_get (v := .ref (ad 69)) hx hb htb inX13 hown hK hP 69 (by decide) (htb _ kw_218) rfl dX13_finish_22 ?_
    refine lv_iload_n hx hb dX13_finish_25 rfl (lv_at hl 0 rfl) ?_
    refine mr_iald hx hb hK hP 54 (k := 69) rfl rfl rfl (show vp_in z_26 81 from (iv_in hz_26 (by decide))) dX13_finish_26 ?_
    refine lv_topi (fun z_32 ez_32 => ?_)
    have hz_32 : iv (-1) 59 z_32 := iv_of ez_32 (MI_a hI 69 hz_26 (by decide))
    refine lv_aload_n hx hb dX13_finish_27 rfl (lv_at hl 1 rfl) ?_
    refine lv_iload_n hx hb dX13_finish_28 rfl (lv_at hl 2 rfl) ?_
    refine lv_ldc2 (own := RX13) (v := 1768843636) hx hb hown (htb _ kw_907) dX13_finish_29 ?_
    refine mr_calli (rest := [.int z_32, .int 5, .ref h0]) ⟨hx, hb, hml, hown, htb⟩ (f_letter9 l dC dI h0 ad cid sg gm lg b 1768843636 hI (iv_w hvb (by decide)) hpt.2.2 (hdoc.1.2.2.2)) (cwV 2 htb (gd_V kw_1201 kw_1202 kw_1203 kw_5 kw_1617) rfl rfl rfl (by decide +kernel) ⟨Nat.le_of_ble_eq_true rfl, Nat.le_of_ble_eq_true rfl⟩) rfl hl.1 rfl (Nat.le_of_ble_eq_true rfl) dX13_finish_32 ⟨Nat.zero_le _, Nat.zero_le _⟩ hK hP hD hS hA (fun r_33 u_34 H locs hw hP hD hS => ?_)
    obtain ⟨fLt_r_33, rfl⟩ := hw
    have hP : va_P (dC, dI) vwCl (mW h0 ad cid sg gm lg) H := hP
    have hD : va_D A (mW h0 ad cid sg gm lg) := hD
    refine lv_iconst (v := 0) hx hb dX13_finish_35 (by decide) ?_
    refine mr_callv (rest := []) ⟨hx, hb, hml, hown, htb⟩ (f_happens9 l dC dI h0 ad cid sg gm lg 5 z_32 r_33 0 wg wl S hI hRR) (cwV 4 htb (gd_V kw_1242 kw_1243 kw_1244 kw_5 kw_1629) rfl rfl rfl (by decide +kernel) ⟨Nat.le_of_ble_eq_true rfl, Nat.le_of_ble_eq_true rfl⟩) rfl hl.1 rfl (Nat.le_of_ble_eq_true rfl) dX13_finish_36 ⟨Nat.zero_le _, Nat.zero_le _⟩ hK hP hD hS hA (fun u_36 H locs hw hP hD hS => ?_)
    obtain ⟨sgv_37, gmv_37, lgv_37, rfl, hIv_37, ksv_37, kgv_37, klv_37, fR_r_35⟩ := hw
    obtain rfl := KS_nil klv_37
    have hP : va_P (dC, dI) vwCl (mW h0 ad cid sgv_37 gmv_37 lg) H := hP
    have hD : va_D A (mW h0 ad cid sgv_37 gmv_37 lg) := hD
    exact hj39 sgv_37 gmv_37 z_26 hz_26 hvb (KS_tr (L := [49]) KS_rf ksv_37 (by decide)) (KS_tr (L := [55, 56, 57, 58]) KS_rf kgv_37 (by decide)) hIv_37 (htop) ((by rw [oF1_zy (by rw [← (show r_27.toInt = (wg 32 b.toNatClampNeg).toInt from (by have q9 := fLt_r_27; rw [q9]; exact BR_32 hBR hRW hRS hvb hpt.2.2))]; exact (fun q7 => c_29 (Int32.toInt_inj.mp (q7.trans (by decide)))))]; have q9 := fR_r_35; rw [(show r_33.toInt = (wg 32 b.toNatClampNeg).toInt from (by have q9 := fLt_r_33; rw [q9]; exact BR_32 hBR hRW hRS hvb hpt.2.2)), show z_32.toInt = (gm 69 (TOPn sg)).toInt from (by rw [ez_32, htop])] at q9; exact q9)) _ _ _ hP hD hS (lv_sub hl [0, 1, 2] rfl)
end
section
theorem b255 : ∀ i : Fin 64, ¬ i.val < 8 → (255#64).getLsbD i.val = false := by decide
/-- the byte of a name, shifted with its sign or without -/
theorem sh_b (x : BitVec 64) (n : Nat) (h : n ≤ 56) : (x.sshiftRight n) &&& 255#64 = (x >>> n) &&& 255#64 := by
  ext i hi
  rw [BitVec.getElem_and, BitVec.getElem_and]
  by_cases q : i < 8
  · congr 1
    rw [BitVec.getElem_sshiftRight, BitVec.getElem_ushiftRight]
    have : n + i < 64 := by omega
    simp [this]
  · have : (255#64)[i] = false := by
      have q9 := b255 ⟨i, hi⟩ q
      rwa [BitVec.getLsbD_eq_getElem hi] at q9
    rw [this, Bool.and_false, Bool.and_false]
theorem sh_9 (v : Int64) (s : Int32) (h : s.toInt = 0 ∨ s.toInt = 8 ∨ s.toInt = 16 ∨ s.toInt = 24 ∨ s.toInt = 32 ∨ s.toInt = 40 ∨ s.toInt = 48 ∨ s.toInt = 56) : (v >>> (s.toInt64 &&& 63)) &&& 255 = by9 v s := by
  have key : ∀ n : Nat, n ≤ 56 → s.toInt64 &&& 63 = Int64.ofNat n → (s.toInt64.toUInt64 &&& Int64.toUInt64 63) = UInt64.ofNat n → ((Int64.ofNat n).toBitVec.smod 64#64).toNat = n → ((UInt64.ofNat n).toBitVec % 64#64).toNat = n → (v >>> (s.toInt64 &&& 63)) &&& 255 = by9 v s := by
    intro n hn h1 h2 h3 h4
    unfold by9
    rw [h1, h2]
    refine Int64.toBitVec_inj.mp ?_
    rw [Int64.toBitVec_and, Int64.toBitVec_and, Int64.toBitVec_shiftRight]
    show (v.toBitVec.sshiftRight ((Int64.ofNat n).toBitVec.smod 64#64).toNat) &&& 255#64 = (v.toBitVec >>> ((UInt64.ofNat n).toBitVec % 64#64).toNat) &&& 255#64
    rw [h3, h4]
    exact sh_b _ _ hn
  rcases h with q | q | q | q | q | q | q | q
  · have e : s = 0 := Int32.toInt_inj.mp q
    subst e; exact key 0 (by decide) (by decide) (by decide) (by decide) (by decide)
  · have e : s = 8 := Int32.toInt_inj.mp q
    subst e; exact key 8 (by decide) (by decide) (by decide) (by decide) (by decide)
  · have e : s = 16 := Int32.toInt_inj.mp q
    subst e; exact key 16 (by decide) (by decide) (by decide) (by decide) (by decide)
  · have e : s = 24 := Int32.toInt_inj.mp q
    subst e; exact key 24 (by decide) (by decide) (by decide) (by decide) (by decide)
  · have e : s = 32 := Int32.toInt_inj.mp q
    subst e; exact key 32 (by decide) (by decide) (by decide) (by decide) (by decide)
  · have e : s = 40 := Int32.toInt_inj.mp q
    subst e; exact key 40 (by decide) (by decide) (by decide) (by decide) (by decide)
  · have e : s = 48 := Int32.toInt_inj.mp q
    subst e; exact key 48 (by decide) (by decide) (by decide) (by decide) (by decide)
  · have e : s = 56 := Int32.toInt_inj.mp q
    subst e; exact key 56 (by decide) (by decide) (by decide) (by decide) (by decide)
end
section
set_option maxHeartbeats 4000000 in
set_option maxRecDepth 100000 in
theorem a_letters9 (l : Launch) (dC : Nat → ClassId) (dI : Nat → Nat → Nat) (sz : Nat) (w : Int64) : Met l yX13_letters wm_X13_letters ({ frames := 0, cells := 0, slots := 0, locals := 0 }) (va_Pc [.long w] (fun U => U.heap.size = sz ∧ va_P (dC, dI) vwCl [] U.heap ∧ va_K (dC, dI) vwCl [] U ∧ va_D (fun _ => True) [])) (va_Ql (fun (r : Int64) (_ : Unit) => r = r ∧ (r = wz9 w)) (fun _ t => va_P (dC, dI) vwCl [] t.heap ∧ va_K (dC, dI) vwCl [] t ∧ va_D (va_A [] sz) []) (va_A [] sz)) 0 0 (va_A [] sz) := by
  refine Met.ofW (cc := cX13_letters) (maxL := 5) (ret := (some .long)) (by decide) rfl ?_
  intro p e s m args below meth c s₁ B hml hv
  obtain ⟨rfl, hsz, hP, hK, hD0⟩ := hv
  have hx := B.exec
  have hb := B.bytes
  have hr := B.returns
  have hts := atoms_spec (ws := wm_X13_letters) B.pre
  have htb := fun (w : Cond) (h : w ∈ tb) => hts w (List.mem_cons_of_mem _ h)
  have hown : s.vm.findClass RX13 = some m.cls := findClass_of_methodNamed B.named
  have hlocks := B.notSynchronized
  subst hsz
  have hD := hD0.self (sz := s.heap.size)
  generalize hAe : va_A [] s.heap.size = A at hD ⊢
  have hA : ∀ q : Nat, s.heap.size ≤ q → A q := fun q h => by rw [← hAe]; exact Or.inr h
  have hS : va_S A s.heap s.heap [] := va_S.rf
  have hP : va_P (dC, dI) vwCl [] s.heap := hP
  have hl := lv_entry ([.long w]) (n := 5) (Nat.le_of_ble_eq_true rfl)
  rw [lg_entry_eq]
  generalize (lg_sl ([.long w]) ++ List.replicate (5 - (lg_sl ([.long w])).length) Slot.unset).toArray = ls at hl ⊢
  have hl : lv_has ls 5 [(0, .long w)] := hl
  have hj6 : ∀ (n : Nat) (x4_6 : Int32) (x2_6 : Int64) (_ : (x4_6.toInt + 8).toNat = n) (_ : iv (-8) 56 x4_6) (_ : wz9 w = wzG w ((x4_6.toInt + 8) / 8).toNat x4_6 x2_6) (_ : x4_6.toInt % 8 = 0) (H : Heap) (locs : List Loc) (ls : Array Slot), va_P (dC, dI) vwCl [] H → va_D A [] → va_S A s.heap H locs → lv_has ls 5 [(4, .int x4_6), (2, .long x2_6), (0, .long w)] → W p l e (headSpec wm_X13_letters ({ frames := 0, cells := 0, slots := 0, locals := 0 })).room s m ([.long w] : List Value).toArray below meth c H locs 0 0 (MQ below (va_Ql (fun (r : Int64) (_ : Unit) => r = r ∧ (r = wz9 w)) (fun _ t => va_P (dC, dI) vwCl [] t.heap ∧ va_K (dC, dI) vwCl [] t ∧ va_D A []) A) ([.long w] : List Value).toArray s 0 0 A) (F0 m 6 ls []) := by
    intro n
    induction n using Nat.strongRecOn with
    | ind n ih6 =>
      intro x4_6 x2_6 hn6 hx4_6 hwz hm8 H locs ls hP hD hS hl
      refine lv_iload hx hb dX13_letters_6 (lv_at hl 0 rfl) ?_
      refine lv_if_lt (tgt := 48) hx hb dX13_letters_8 (by decide) (fun c_1 => ?_) (fun c_1 => ?_)
      · have h_2 : iv (-8) (-1) x4_6 := iv_ltL c_1 hx4_6 (iv_k (by decide) : iv 0 0 0) (by decide)
        refine lv_lload_n hx hb dX13_letters_48 rfl (lv_at hl 1 rfl) ?_
        exact W.lret (v := x2_6) hx hb hr (fun t ht hW => ⟨⟨x2_6, (), rfl, ⟨rfl, ((by rw [hwz, wzG_e (by have := i32_0; have := i32_1; have := i32_2; have := i32_m1; have := (h_2).1; have := (h_2).2; omega)]))⟩, by rw [ht]; exact hP, va_K.moved hW.alike hK, hD⟩, hS.F ht⟩) hS.2.2 dX13_letters_49
      · have h_3 : iv 0 56 x4_6 := iv_leR (i32_ge c_1) (iv_k (by decide) : iv 0 0 0) hx4_6 (by decide)
        refine lv_lload_n hx hb dX13_letters_11 rfl (lv_at hl 2 rfl) ?_
        refine lv_iload hx hb dX13_letters_12 (lv_at hl 0 rfl) ?_
        refine lv_lshr (v := w >>> ((x4_6 : Int32).toInt64 &&& 63)) hx hb dX13_letters_14 rfl ?_
        refine lv_topl (fun z_4 ez_4 => ?_)
        refine lv_ldc2 (own := RX13) (v := 255) hx hb hown (htb _ kw_874) dX13_letters_15 ?_
        refine lv_land hx hb dX13_letters_18 ?_
        refine lv_topl (fun z_5 ez_5 => ?_)
        refine lv_lconst (v := 0) hx hb dX13_letters_19 (by decide) ?_
        refine W.lcmp hx hb dX13_letters_20 ?_
        refine lv_topi (fun z_6 ez_6 => ?_)
        have hz_6 : iv (-1) 1 z_6 := iv_of ez_6 (iv_cmp _ _)
        refine lv_if_ne (tgt := 28) hx hb dX13_letters_21 (by decide) (fun c_7 => ?_) (fun c_7 => ?_)
        · have d_8 : ¬ (z_6 : Int32).toInt = 0 := lv_neT c_7 rfl
          refine lv_lload_n hx hb dX13_letters_28 rfl (lv_at hl 1 rfl) ?_
          refine lv_bipush (v := 8) hx hb dX13_letters_29 (by decide) ?_
          refine lv_lshl (v := x2_6 <<< ((8 : Int32).toInt64 &&& 63)) hx hb dX13_letters_31 rfl ?_
          refine lv_topl (fun z_9 ez_9 => ?_)
          refine lv_lload_n hx hb dX13_letters_32 rfl (lv_at hl 2 rfl) ?_
          refine lv_iload hx hb dX13_letters_33 (lv_at hl 0 rfl) ?_
          refine lv_lshr (v := w >>> ((x4_6 : Int32).toInt64 &&& 63)) hx hb dX13_letters_35 rfl ?_
          refine lv_topl (fun z_10 ez_10 => ?_)
          refine lv_ldc2 (own := RX13) (v := 255) hx hb hown (htb _ kw_874) dX13_letters_36 ?_
          refine lv_land hx hb dX13_letters_39 ?_
          refine lv_topl (fun z_11 ez_11 => ?_)
          refine lv_lor hx hb dX13_letters_40 ?_
          refine lv_topl (fun z_12 ez_12 => ?_)
          refine lv_lstore_n (lv' := [(2, .long z_12), (4, .int x4_6), (0, .long w)]) hx hb dX13_letters_41 rfl hl (by decide) rfl (fun ls hl => ?_)
          obtain ⟨z_13, ez_13⟩ : ∃ z : Int32, z = x4_6 + (-8) := ⟨_, rfl⟩
          have hz_13 : iv (-8) 48 z_13 := iv_of ez_13 (iv_add h_3 (iv_k (by decide) : iv (-8) (-8) (-8)) (by decide))
          have tz_13 : z_13.toInt = x4_6.toInt - 8 := by rw [ez_13]; exact iv_addE h_3 (iv_k (by decide) : iv (-8) (-8) (-8)) (by decide)
          refine lv_iinc (v := z_13) (lv' := [(4, .int z_13), (2, .long z_12), (0, .long w)]) hx hb dX13_letters_42 hl (k := 1) rfl ez_13.symm (by decide) rfl (fun ls hl => ?_)
          refine lv_goto (tgt := 6) hx hb dX13_letters_45 (by decide) ?_
          exact ih6 _ (by rw [← hn6]; exact (by have := i32_0; have := i32_1; have := i32_2; have := i32_m1; have := (h_3).1; have := (h_3).2; have := (hz_6).1; have := (hz_6).2; have := (hz_13).1; have := (hz_13).2; omega)) z_13 z_12 rfl (iv_w hz_13 (by decide)) (wzG_1 hwz (h_3).1 ez_13 tz_13 (fun q9 => c_7 (by rw [ez_6]; exact (lg_cmp_eq _ _).mpr ((show by9 w x4_6 = z_5 from (by rw [ez_5, ez_4]; exact (sh_9 w x4_6 (show x4_6.toInt = 0 ∨ x4_6.toInt = 8 ∨ x4_6.toInt = 16 ∨ x4_6.toInt = 24 ∨ x4_6.toInt = 32 ∨ x4_6.toInt = 40 ∨ x4_6.toInt = 48 ∨ x4_6.toInt = 56 from (by have := hm8; have := i32_0; have := i32_1; have := i32_2; have := i32_m1; have := (h_3).1; have := (h_3).2; have := (hz_6).1; have := (hz_6).2; have := (hz_13).1; have := (hz_13).2; omega))).symm)).symm.trans q9))) (by rw [(show by9 w x4_6 = z_11 from (by rw [ez_11, ez_10]; exact (sh_9 w x4_6 (show x4_6.toInt = 0 ∨ x4_6.toInt = 8 ∨ x4_6.toInt = 16 ∨ x4_6.toInt = 24 ∨ x4_6.toInt = 32 ∨ x4_6.toInt = 40 ∨ x4_6.toInt = 48 ∨ x4_6.toInt = 56 from (by have := hm8; have := i32_0; have := i32_1; have := i32_2; have := i32_m1; have := (h_3).1; have := (h_3).2; have := (hz_6).1; have := (hz_6).2; have := (hz_13).1; have := (hz_13).2; omega))).symm)), ez_12, ez_9])) ((by have := hm8; have := i32_0; have := i32_1; have := i32_2; have := i32_m1; have := (h_3).1; have := (h_3).2; have := (hz_6).1; have := (hz_6).2; have := (hz_13).1; have := (hz_13).2; omega)) _ _ _ hP hD hS (lv_sub hl [0, 1, 2] rfl)
        · have h_14 : iv 0 0 z_6 := iv_eq c_7 hz_6 (iv_k (by decide) : iv 0 0 0) (by decide)
          refine lv_lload_n hx hb dX13_letters_24 rfl (lv_at hl 1 rfl) ?_
          refine lv_goto (tgt := 41) hx hb dX13_letters_25 (by decide) ?_
          refine lv_lstore_n (lv' := [(2, .long x2_6), (4, .int x4_6), (0, .long w)]) hx hb dX13_letters_41 rfl hl (by decide) rfl (fun ls hl => ?_)
          obtain ⟨z_15, ez_15⟩ : ∃ z : Int32, z = x4_6 + (-8) := ⟨_, rfl⟩
          have hz_15 : iv (-8) 48 z_15 := iv_of ez_15 (iv_add h_3 (iv_k (by decide) : iv (-8) (-8) (-8)) (by decide))
          have tz_15 : z_15.toInt = x4_6.toInt - 8 := by rw [ez_15]; exact iv_addE h_3 (iv_k (by decide) : iv (-8) (-8) (-8)) (by decide)
          refine lv_iinc (v := z_15) (lv' := [(4, .int z_15), (2, .long x2_6), (0, .long w)]) hx hb dX13_letters_42 hl (k := 1) rfl ez_15.symm (by decide) rfl (fun ls hl => ?_)
          refine lv_goto (tgt := 6) hx hb dX13_letters_45 (by decide) ?_
          exact ih6 _ (by rw [← hn6]; exact (by have := i32_0; have := i32_1; have := i32_2; have := i32_m1; have := (h_3).1; have := (h_3).2; have := (h_14).1; have := (h_14).2; have := (hz_15).1; have := (hz_15).2; omega)) z_15 x2_6 rfl (iv_w hz_15 (by decide)) (wzG_0 hwz (h_3).1 ez_15 tz_15 ((show by9 w x4_6 = z_5 from (by rw [ez_5, ez_4]; exact (sh_9 w x4_6 (show x4_6.toInt = 0 ∨ x4_6.toInt = 8 ∨ x4_6.toInt = 16 ∨ x4_6.toInt = 24 ∨ x4_6.toInt = 32 ∨ x4_6.toInt = 40 ∨ x4_6.toInt = 48 ∨ x4_6.toInt = 56 from (by have := hm8; have := i32_0; have := i32_1; have := i32_2; have := i32_m1; have := (h_3).1; have := (h_3).2; have := (h_14).1; have := (h_14).2; have := (hz_15).1; have := (hz_15).2; omega))).symm)).trans ((lg_cmp_eq _ _).mp (by rw [← ez_6]; exact c_7)))) ((by have := hm8; have := i32_0; have := i32_1; have := i32_2; have := i32_m1; have := (h_3).1; have := (h_3).2; have := (h_14).1; have := (h_14).2; have := (hz_15).1; have := (hz_15).2; omega)) _ _ _ hP hD hS (lv_sub hl [0, 1, 2] rfl)
  refine lv_lconst (v := 0) hx hb dX13_letters_0 (by decide) ?_
  refine lv_lstore_n (lv' := [(2, .long 0), (0, .long w)]) hx hb dX13_letters_1 rfl hl (by decide) rfl (fun ls hl => ?_)
  refine lv_bipush (v := 56) hx hb dX13_letters_2 (by decide) ?_
  refine lv_istore (lv' := [(4, .int 56), (2, .long 0), (0, .long w)]) hx hb dX13_letters_4 hl (by decide) rfl (fun ls hl => ?_)
  exact hj6 _ 56 0 rfl (iv_w (iv_k (by decide) : iv 56 56 56) (by decide)) ((by unfold wz9; rfl)) ((by decide)) _ _ _ hP hD hS (lv_sub hl [0, 1, 2] rfl)
end
section
theorem zEv_z {k w : Int} {S : S9} (h : k < 0 ∨ ((zE S).length : Int) ≤ k) : zEv k w S = -1 := by
  unfold zEv
  by_cases q : k < 0
  · rw [if_pos q]
  · rw [if_neg q, List.getElem?_eq_none (by omega)]
theorem zOb_z {k w : Int} {S : S9} (h : k < 0 ∨ ((zO S).length : Int) ≤ k) : zOb k w S = -1 := by
  unfold zOb
  by_cases q : k < 0
  · rw [if_pos q]
  · rw [if_neg q, List.getElem?_eq_none (by omega)]
theorem zEv_r {wg : Nat → Nat → Int32} {wl : Nat → Nat → Int64} {S : S9} {sg : Nat → Int32} {gm : Nat → Nat → Int32} {k : Int32} {w : Int} (h : RR wg wl S sg gm) (h0 : 0 ≤ k.toInt) (hl : k.toInt < (sg 49).toInt) : zEv k.toInt w S = if w = 0 then (gm 55 k.toNatClampNeg).toInt else if w = 1 then (gm 56 k.toNatClampNeg).toInt else if w = 2 then (gm 57 k.toNatClampNeg).toInt else if w = 3 then (gm 58 k.toNatClampNeg).toInt else -1 := by
  have hk : k.toInt.toNat < (zE S).length := by have := h.2.1.1; omega
  have q := h.2.1.2 k.toInt.toNat _ (List.getElem?_eq_getElem hk)
  unfold zEv
  rw [if_neg (by omega), List.getElem?_eq_getElem hk]
  show (if w = 0 then _ else if w = 1 then _ else if w = 2 then _ else if w = 3 then _ else _) = _
  rw [← q.1, ← q.2.1, ← q.2.2.1, ← q.2.2.2]; rfl
theorem zOb_r {wg : Nat → Nat → Int32} {wl : Nat → Nat → Int64} {S : S9} {sg : Nat → Int32} {gm : Nat → Nat → Int32} {k : Int32} {w : Int} (h : RR wg wl S sg gm) (h0 : 0 ≤ k.toInt) (hl : k.toInt < (sg 48).toInt) : zOb k.toInt w S = if w = 0 then (gm 53 k.toNatClampNeg).toInt else if w = 1 then (gm 54 k.toNatClampNeg).toInt else -1 := by
  have hk : k.toInt.toNat < (zO S).length := by have := h.1.1; omega
  have q := h.1.2 k.toInt.toNat _ (List.getElem?_eq_getElem hk)
  unfold zOb
  rw [if_neg (by omega), List.getElem?_eq_getElem hk]
  show (if w = 0 then _ else if w = 1 then _ else _) = _
  rw [← q.1, ← q.2]; rfl

set_option maxHeartbeats 4000000 in
set_option maxRecDepth 100000 in
theorem f_events9 (l : Launch) (dC : Nat → ClassId) (dI : Nat → Nat → Nat) (h0 : Nat) (ad : Nat → Nat) (cid : Nat → ClassId) (sg : Nat → Int32) (gm : Nat → Nat → Int32) (lg : Nat → Nat → Int64) (wg : Nat → Nat → Int32) (wl : Nat → Nat → Int64) (S : S9) (hI : MI sg gm) (hRR : RR wg wl S sg gm) : MMi l dC dI yX13_events wm_X13_events ({ frames := 0, cells := 0, slots := 0, locals := 0 }) h0 ad cid [] sg gm lg (fun r v => ∃ (sg2 : Nat → Int32) (gm2 : Nat → Nat → Int32) (lg2 : Nat → Nat → Int64), v = (sg2, gm2, lg2) ∧ MI sg2 gm2 ∧ KS [5] sg sg2 ∧ KS [] gm gm2 ∧ KS [] lg lg2 ∧ (r.toInt = ((zE S).length : Int)) ∧ (RR wg wl S sg2 gm2)) := by
  intro sz
  refine Met.ofW (cc := cX13_events) (maxL := 1) (ret := (some .int)) (by decide) rfl ?_
  intro p e s m args below meth c s₁ B hml hv
  obtain ⟨rfl, hsz, hP, hK, hD0⟩ := hv
  have hx := B.exec
  have hb := B.bytes
  have hr := B.returns
  have hts := atoms_spec (ws := wm_X13_events) B.pre
  have htb := fun (w : Cond) (h : w ∈ tb) => hts w (List.mem_cons_of_mem _ h)
  have hown : s.vm.findClass RX13 = some m.cls := findClass_of_methodNamed B.named
  have hlocks := B.notSynchronized
  subst hsz
  have hD := hD0.self (sz := s.heap.size)
  generalize hAe : va_A (mW h0 ad cid sg gm lg) s.heap.size = A at hD ⊢
  have hA : ∀ q : Nat, s.heap.size ≤ q → A q := fun q h => by rw [← hAe]; exact Or.inr h
  have hS : va_S A s.heap s.heap [] := va_S.rf
  have hl := lv_entry ([.ref h0]) (n := 1) (Nat.le_of_ble_eq_true rfl)
  rw [lg_entry_eq]
  generalize (lg_sl ([.ref h0]) ++ List.replicate (1 - (lg_sl ([.ref h0])).length) Slot.unset).toArray = ls at hl ⊢
  have hl : lv_has ls 1 [(0, .ref h0)] := hl
  refine lv_aload_n hx hb dX13_events_0 rfl (lv_at hl 0 rfl) ?_
  refine lv_iconst (v := 0) hx hb dX13_events_1 (by decide) ?_
  refine ma_put (x := 0) hx hb htb inX13 hown hK hP hD hS 5 (by decide) (by decide) (htb _ kw_239) rfl rfl rfl dX13_events_2 (fun sg_1 H locs esg_1 hP hD hS => ?_)
  have hI_sg_1 := MI_put hI esg_1 (iv_k (by decide) : iv 0 0 0) (by decide)
  refine lv_aload_n hx hb dX13_events_5 rfl (lv_at hl 0 rfl) ?_
  refine mr_get (v := .int (sg_1 49)) hx hb htb inX13 hown hK hP 49 (by decide) (htb _ kw_823) rfl dX13_events_6 ?_
  refine lv_topi (fun z_2 ez_2 => ?_)
  obtain rfl : (sg 49) = z_2 := (ez_2.trans (up_ne esg_1 (by decide))).symm
  exact W.iret (v := (sg 49)) hx hb hr (fun t ht hW => ⟨⟨(sg 49), (sg_1, gm, lg), rfl, ⟨sg_1, gm, lg, rfl, hI_sg_1, (KS_up KS_rf esg_1 (by decide)), KS_rf, KS_rf, (hRR.2.1.1), ((RR_ks (L := [5]) (M := []) hRR (KS_up KS_rf esg_1 (by decide)) KS_rf (by decide) (by decide)))⟩, by rw [ht]; exact hP, va_K.moved hW.alike hK, hD⟩, hS.F ht⟩) hS.2.2 dX13_events_9

set_option maxHeartbeats 4000000 in
set_option maxRecDepth 100000 in
theorem f_event9 (l : Launch) (dC : Nat → ClassId) (dI : Nat → Nat → Nat) (h0 : Nat) (ad : Nat → Nat) (cid : Nat → ClassId) (sg : Nat → Int32) (gm : Nat → Nat → Int32) (lg : Nat → Nat → Int64) (k : Int32) (w : Int32) (wg : Nat → Nat → Int32) (wl : Nat → Nat → Int64) (S : S9) (hI : MI sg gm) (hRR : RR wg wl S sg gm) : MMi l dC dI yX13_event wm_X13_event ({ frames := 0, cells := 0, slots := 0, locals := 0 }) h0 ad cid [.int k, .int w] sg gm lg (fun r v => ∃ (sg2 : Nat → Int32) (gm2 : Nat → Nat → Int32) (lg2 : Nat → Nat → Int64), v = (sg2, gm2, lg2) ∧ MI sg2 gm2 ∧ KS [5] sg sg2 ∧ KS [] gm gm2 ∧ KS [] lg lg2 ∧ (r.toInt = zEv k.toInt w.toInt S) ∧ (RR wg wl S sg2 gm2)) := by
  intro sz
  refine Met.ofW (cc := cX13_event) (maxL := 3) (ret := (some .int)) (by decide) rfl ?_
  intro p e s m args below meth c s₁ B hml hv
  obtain ⟨rfl, hsz, hP, hK, hD0⟩ := hv
  have hx := B.exec
  have hb := B.bytes
  have hr := B.returns
  have hts := atoms_spec (ws := wm_X13_event) B.pre
  have htb := fun (w : Cond) (h : w ∈ tb) => hts w (List.mem_cons_of_mem _ h)
  have hown : s.vm.findClass RX13 = some m.cls := findClass_of_methodNamed B.named
  have hlocks := B.notSynchronized
  subst hsz
  have hD := hD0.self (sz := s.heap.size)
  generalize hAe : va_A (mW h0 ad cid sg gm lg) s.heap.size = A at hD ⊢
  have hA : ∀ q : Nat, s.heap.size ≤ q → A q := fun q h => by rw [← hAe]; exact Or.inr h
  have hS : va_S A s.heap s.heap [] := va_S.rf
  have hl := lv_entry ([.ref h0, .int k, .int w]) (n := 3) (Nat.le_of_ble_eq_true rfl)
  rw [lg_entry_eq]
  generalize (lg_sl ([.ref h0, .int k, .int w]) ++ List.replicate (3 - (lg_sl ([.ref h0, .int k, .int w])).length) Slot.unset).toArray = ls at hl ⊢
  have hl : lv_has ls 3 [(0, .ref h0), (1, .int k), (2, .int w)] := hl
  refine lv_aload_n hx hb dX13_event_0 rfl (lv_at hl 0 rfl) ?_
  refine lv_iconst (v := 0) hx hb dX13_event_1 (by decide) ?_
  refine ma_put (x := 0) hx hb htb inX13 hown hK hP hD hS 5 (by decide) (by decide) (htb _ kw_239) rfl rfl rfl dX13_event_2 (fun sg_1 H locs esg_1 hP hD hS => ?_)
  have hI_sg_1 := MI_put hI esg_1 (iv_k (by decide) : iv 0 0 0) (by decide)
  refine lv_iload_n hx hb dX13_event_5 rfl (lv_at hl 1 rfl) ?_
  refine lv_if_lt (tgt := 17) hx hb dX13_event_6 (by decide) (fun c_2 => ?_) (fun c_2 => ?_)
  · have h_3 : iv (-2147483648) (-1) k := iv_ltL c_2 (iv_all k) (iv_k (by decide) : iv 0 0 0) (by decide)
    refine lv_iconst (v := (-1)) hx hb dX13_event_17 (by decide) ?_
    exact W.iret (v := (-1)) hx hb hr (fun t ht hW => ⟨⟨(-1), (sg_1, gm, lg), rfl, ⟨sg_1, gm, lg, rfl, hI_sg_1, (KS_up KS_rf esg_1 (by decide)), KS_rf, KS_rf, ((by rw [zEv_z (by have := hRR.2.1.1; have := i32_0; have := i32_1; have := i32_2; have := i32_m1; have := congrArg Int32.toInt (show sg_1 49 = sg 49 from up_ne esg_1 (by decide)); have := (show iv 0 400 (sg 49) from MI_s hI 49).1; have := (show iv 0 400 (sg 49) from MI_s hI 49).2; have := (h_3).1; have := (h_3).2; omega)]; rfl)), ((RR_ks (L := [5]) (M := []) hRR (KS_up KS_rf esg_1 (by decide)) KS_rf (by decide) (by decide)))⟩, by rw [ht]; exact hP, va_K.moved hW.alike hK, hD⟩, hS.F ht⟩) hS.2.2 dX13_event_18
  · have h_4 : iv 0 2147483647 k := iv_leR (i32_ge c_2) (iv_k (by decide) : iv 0 0 0) (iv_all k) (by decide)
    refine lv_iload_n hx hb dX13_event_9 rfl (lv_at hl 1 rfl) ?_
    refine lv_aload_n hx hb dX13_event_10 rfl (lv_at hl 0 rfl) ?_
    refine mr_get (v := .int (sg_1 49)) hx hb htb inX13 hown hK hP 49 (by decide) (htb _ kw_823) rfl dX13_event_11 ?_
    refine lv_topi (fun z_5 ez_5 => ?_)
    obtain rfl : (sg 49) = z_5 := (ez_5.trans (up_ne esg_1 (by decide))).symm
    refine lv_icmp_lt (tgt := 19) hx hb dX13_event_14 (by decide) (fun c_6 => ?_) (fun c_6 => ?_)
    · have d_7 : (k : Int32).toInt < ((sg 49) : Int32).toInt := Int32.lt_iff_toInt_lt.mp c_6
      have h_8 : iv 0 399 k := iv_ltL c_6 h_4 (show iv 0 400 (sg 49) from MI_s hI 49) (by decide)
      have h_9 : iv 1 400 (sg 49) := iv_ltR c_6 h_4 (show iv 0 400 (sg 49) from MI_s hI 49) (by decide)
      refine lv_iload_n hx hb dX13_event_19 rfl (lv_at hl 2 rfl) ?_
      by_cases c_10 : (w : Int32).toInt = 0
      · refine lv_tableIn (tgt := 52) hx hb dX13_event_20 (by rw [c_10]; decide) (by rw [c_10]; decide) (by rw [c_10]; rfl) (by decide) ?_
        have h_11 : iv 0 0 w := iv_at c_10
        refine lv_aload_n hx hb dX13_event_52 rfl (lv_at hl 0 rfl) ?_
        refine mr_get (v := .ref (ad 55)) hx hb htb inX13 hown hK hP 55 (by decide) (htb _ kw_205) rfl dX13_event_53 ?_
        refine lv_iload_n hx hb dX13_event_56 rfl (lv_at hl 1 rfl) ?_
        refine mr_iald hx hb hK hP 41 (k := 55) rfl rfl rfl (show vp_in k 400 from (iv_in h_8 (by decide))) dX13_event_57 ?_
        refine lv_topi (fun z_12 ez_12 => ?_)
        exact W.iret (v := z_12) hx hb hr (fun t ht hW => ⟨⟨z_12, (sg_1, gm, lg), rfl, ⟨sg_1, gm, lg, rfl, hI_sg_1, (KS_up KS_rf esg_1 (by decide)), KS_rf, KS_rf, ((by rw [zEv_r hRR (by have := i32_0; have := i32_1; have := i32_2; have := i32_m1; have := (h_8).1; have := (h_8).2; have := (h_9).1; have := (h_9).2; have := (h_11).1; have := (h_11).2; omega) (by have := i32_0; have := i32_1; have := i32_2; have := i32_m1; have := congrArg Int32.toInt (show sg_1 49 = sg 49 from up_ne esg_1 (by decide)); have := (show iv 0 400 (sg 49) from MI_s hI 49).1; have := (show iv 0 400 (sg 49) from MI_s hI 49).2; have := (h_8).1; have := (h_8).2; have := (h_9).1; have := (h_9).2; have := (h_11).1; have := (h_11).2; omega), if_pos (by have := i32_0; have := i32_1; have := i32_2; have := i32_m1; have := (h_8).1; have := (h_8).2; have := (h_9).1; have := (h_9).2; have := (h_11).1; have := (h_11).2; omega), ez_12])), ((RR_ks (L := [5]) (M := []) hRR (KS_up KS_rf esg_1 (by decide)) KS_rf (by decide) (by decide)))⟩, by rw [ht]; exact hP, va_K.moved hW.alike hK, hD⟩, hS.F ht⟩) hS.2.2 dX13_event_58
      by_cases c_13 : (w : Int32).toInt = 1
      · refine lv_tableIn (tgt := 59) hx hb dX13_event_20 (by rw [c_13]; decide) (by rw [c_13]; decide) (by rw [c_13]; rfl) (by decide) ?_
        have h_14 : iv 1 1 w := iv_at c_13
        refine lv_aload_n hx hb dX13_event_59 rfl (lv_at hl 0 rfl) ?_
        refine mr_get (v := .ref (ad 56)) hx hb htb inX13 hown hK hP 56 (by decide) (htb _ kw_206) rfl dX13_event_60 ?_
        refine lv_iload_n hx hb dX13_event_63 rfl (lv_at hl 1 rfl) ?_
        refine mr_iald hx hb hK hP 42 (k := 56) rfl rfl rfl (show vp_in k 400 from (iv_in h_8 (by decide))) dX13_event_64 ?_
        refine lv_topi (fun z_15 ez_15 => ?_)
        exact W.iret (v := z_15) hx hb hr (fun t ht hW => ⟨⟨z_15, (sg_1, gm, lg), rfl, ⟨sg_1, gm, lg, rfl, hI_sg_1, (KS_up KS_rf esg_1 (by decide)), KS_rf, KS_rf, ((by rw [zEv_r hRR (by have := i32_0; have := i32_1; have := i32_2; have := i32_m1; have := (h_8).1; have := (h_8).2; have := (h_9).1; have := (h_9).2; have := (h_14).1; have := (h_14).2; omega) (by have := i32_0; have := i32_1; have := i32_2; have := i32_m1; have := congrArg Int32.toInt (show sg_1 49 = sg 49 from up_ne esg_1 (by decide)); have := (show iv 0 400 (sg 49) from MI_s hI 49).1; have := (show iv 0 400 (sg 49) from MI_s hI 49).2; have := (h_8).1; have := (h_8).2; have := (h_9).1; have := (h_9).2; have := (h_14).1; have := (h_14).2; omega), if_neg (by have := i32_0; have := i32_1; have := i32_2; have := i32_m1; have := (h_8).1; have := (h_8).2; have := (h_9).1; have := (h_9).2; have := (h_14).1; have := (h_14).2; omega), if_pos (by have := i32_0; have := i32_1; have := i32_2; have := i32_m1; have := (h_8).1; have := (h_8).2; have := (h_9).1; have := (h_9).2; have := (h_14).1; have := (h_14).2; omega), ez_15])), ((RR_ks (L := [5]) (M := []) hRR (KS_up KS_rf esg_1 (by decide)) KS_rf (by decide) (by decide)))⟩, by rw [ht]; exact hP, va_K.moved hW.alike hK, hD⟩, hS.F ht⟩) hS.2.2 dX13_event_65
      by_cases c_16 : (w : Int32).toInt = 2
      · refine lv_tableIn (tgt := 66) hx hb dX13_event_20 (by rw [c_16]; decide) (by rw [c_16]; decide) (by rw [c_16]; rfl) (by decide) ?_
        have h_17 : iv 2 2 w := iv_at c_16
        refine lv_aload_n hx hb dX13_event_66 rfl (lv_at hl 0 rfl) ?_
        refine mr_get (v := .ref (ad 57)) hx hb htb inX13 hown hK hP 57 (by decide) (htb _ kw_207) rfl dX13_event_67 ?_
        refine lv_iload_n hx hb dX13_event_70 rfl (lv_at hl 1 rfl) ?_
        refine mr_iald hx hb hK hP 43 (k := 57) rfl rfl rfl (show vp_in k 400 from (iv_in h_8 (by decide))) dX13_event_71 ?_
        refine lv_topi (fun z_18 ez_18 => ?_)
        exact W.iret (v := z_18) hx hb hr (fun t ht hW => ⟨⟨z_18, (sg_1, gm, lg), rfl, ⟨sg_1, gm, lg, rfl, hI_sg_1, (KS_up KS_rf esg_1 (by decide)), KS_rf, KS_rf, ((by rw [zEv_r hRR (by have := i32_0; have := i32_1; have := i32_2; have := i32_m1; have := (h_8).1; have := (h_8).2; have := (h_9).1; have := (h_9).2; have := (h_17).1; have := (h_17).2; omega) (by have := i32_0; have := i32_1; have := i32_2; have := i32_m1; have := congrArg Int32.toInt (show sg_1 49 = sg 49 from up_ne esg_1 (by decide)); have := (show iv 0 400 (sg 49) from MI_s hI 49).1; have := (show iv 0 400 (sg 49) from MI_s hI 49).2; have := (h_8).1; have := (h_8).2; have := (h_9).1; have := (h_9).2; have := (h_17).1; have := (h_17).2; omega), if_neg (by have := i32_0; have := i32_1; have := i32_2; have := i32_m1; have := (h_8).1; have := (h_8).2; have := (h_9).1; have := (h_9).2; have := (h_17).1; have := (h_17).2; omega), if_neg (by have := i32_0; have := i32_1; have := i32_2; have := i32_m1; have := (h_8).1; have := (h_8).2; have := (h_9).1; have := (h_9).2; have := (h_17).1; have := (h_17).2; omega), if_pos (by have := i32_0; have := i32_1; have := i32_2; have := i32_m1; have := (h_8).1; have := (h_8).2; have := (h_9).1; have := (h_9).2; have := (h_17).1; have := (h_17).2; omega), ez_18])), ((RR_ks (L := [5]) (M := []) hRR (KS_up KS_rf esg_1 (by decide)) KS_rf (by decide) (by decide)))⟩, by rw [ht]; exact hP, va_K.moved hW.alike hK, hD⟩, hS.F ht⟩) hS.2.2 dX13_event_72
      by_cases c_19 : (w : Int32).toInt = 3
      · refine lv_tableIn (tgt := 73) hx hb dX13_event_20 (by rw [c_19]; decide) (by rw [c_19]; decide) (by rw [c_19]; rfl) (by decide) ?_
        have h_20 : iv 3 3 w := iv_at c_19
        refine lv_aload_n hx hb dX13_event_73 rfl (lv_at hl 0 rfl) ?_
        refine mr_get (v := .ref (ad 58)) hx hb htb inX13 hown hK hP 58 (by decide) (htb _ kw_208) rfl dX13_event_74 ?_
        refine lv_iload_n hx hb dX13_event_77 rfl (lv_at hl 1 rfl) ?_
        refine mr_iald hx hb hK hP 44 (k := 58) rfl rfl rfl (show vp_in k 400 from (iv_in h_8 (by decide))) dX13_event_78 ?_
        refine lv_topi (fun z_21 ez_21 => ?_)
        exact W.iret (v := z_21) hx hb hr (fun t ht hW => ⟨⟨z_21, (sg_1, gm, lg), rfl, ⟨sg_1, gm, lg, rfl, hI_sg_1, (KS_up KS_rf esg_1 (by decide)), KS_rf, KS_rf, ((by rw [zEv_r hRR (by have := i32_0; have := i32_1; have := i32_2; have := i32_m1; have := (h_8).1; have := (h_8).2; have := (h_9).1; have := (h_9).2; have := (h_20).1; have := (h_20).2; omega) (by have := i32_0; have := i32_1; have := i32_2; have := i32_m1; have := congrArg Int32.toInt (show sg_1 49 = sg 49 from up_ne esg_1 (by decide)); have := (show iv 0 400 (sg 49) from MI_s hI 49).1; have := (show iv 0 400 (sg 49) from MI_s hI 49).2; have := (h_8).1; have := (h_8).2; have := (h_9).1; have := (h_9).2; have := (h_20).1; have := (h_20).2; omega), if_neg (by have := i32_0; have := i32_1; have := i32_2; have := i32_m1; have := (h_8).1; have := (h_8).2; have := (h_9).1; have := (h_9).2; have := (h_20).1; have := (h_20).2; omega), if_neg (by have := i32_0; have := i32_1; have := i32_2; have := i32_m1; have := (h_8).1; have := (h_8).2; have := (h_9).1; have := (h_9).2; have := (h_20).1; have := (h_20).2; omega), if_neg (by have := i32_0; have := i32_1; have := i32_2; have := i32_m1; have := (h_8).1; have := (h_8).2; have := (h_9).1; have := (h_9).2; have := (h_20).1; have := (h_20).2; omega), if_pos (by have := i32_0; have := i32_1; have := i32_2; have := i32_m1; have := (h_8).1; have := (h_8).2; have := (h_9).1; have := (h_9).2; have := (h_20).1; have := (h_20).2; omega), ez_21])), ((RR_ks (L := [5]) (M := []) hRR (KS_up KS_rf esg_1 (by decide)) KS_rf (by decide) (by decide)))⟩, by rw [ht]; exact hP, va_K.moved hW.alike hK, hD⟩, hS.F ht⟩) hS.2.2 dX13_event_79
      refine lv_tableOut (tgt := 80) hx hb dX13_event_20 (by have q1 := ((iv_all w)).1; have q2 := ((iv_all w)).2; omega) (by decide) ?_
      refine lv_iconst (v := (-1)) hx hb dX13_event_80 (by decide) ?_
      exact W.iret (v := (-1)) hx hb hr (fun t ht hW => ⟨⟨(-1), (sg_1, gm, lg), rfl, ⟨sg_1, gm, lg, rfl, hI_sg_1, (KS_up KS_rf esg_1 (by decide)), KS_rf, KS_rf, ((by rw [zEv_r hRR (by have := i32_0; have := i32_1; have := i32_2; have := i32_m1; have := (h_8).1; have := (h_8).2; have := (h_9).1; have := (h_9).2; omega) (by have := i32_0; have := i32_1; have := i32_2; have := i32_m1; have := congrArg Int32.toInt (show sg_1 49 = sg 49 from up_ne esg_1 (by decide)); have := (show iv 0 400 (sg 49) from MI_s hI 49).1; have := (show iv 0 400 (sg 49) from MI_s hI 49).2; have := (h_8).1; have := (h_8).2; have := (h_9).1; have := (h_9).2; omega), if_neg (by have := i32_0; have := i32_1; have := i32_2; have := i32_m1; have := (h_8).1; have := (h_8).2; have := (h_9).1; have := (h_9).2; omega), if_neg (by have := i32_0; have := i32_1; have := i32_2; have := i32_m1; have := (h_8).1; have := (h_8).2; have := (h_9).1; have := (h_9).2; omega), if_neg (by have := i32_0; have := i32_1; have := i32_2; have := i32_m1; have := (h_8).1; have := (h_8).2; have := (h_9).1; have := (h_9).2; omega), if_neg (by have := i32_0; have := i32_1; have := i32_2; have := i32_m1; have := (h_8).1; have := (h_8).2; have := (h_9).1; have := (h_9).2; omega)]; rfl)), ((RR_ks (L := [5]) (M := []) hRR (KS_up KS_rf esg_1 (by decide)) KS_rf (by decide) (by decide)))⟩, by rw [ht]; exact hP, va_K.moved hW.alike hK, hD⟩, hS.F ht⟩) hS.2.2 dX13_event_81
    · have d_22 : ((sg 49) : Int32).toInt ≤ (k : Int32).toInt := Int32.le_iff_toInt_le.mp (i32_ge c_6)
      refine lv_iconst (v := (-1)) hx hb dX13_event_17 (by decide) ?_
      exact W.iret (v := (-1)) hx hb hr (fun t ht hW => ⟨⟨(-1), (sg_1, gm, lg), rfl, ⟨sg_1, gm, lg, rfl, hI_sg_1, (KS_up KS_rf esg_1 (by decide)), KS_rf, KS_rf, ((by rw [zEv_z (by have := hRR.2.1.1; have := i32_0; have := i32_1; have := i32_2; have := i32_m1; have := congrArg Int32.toInt (show sg_1 49 = sg 49 from up_ne esg_1 (by decide)); have := (show iv 0 400 (sg 49) from MI_s hI 49).1; have := (show iv 0 400 (sg 49) from MI_s hI 49).2; have := (h_4).1; have := (h_4).2; have := ((show iv 0 400 (sg 49) from MI_s hI 49)).1; have := ((show iv 0 400 (sg 49) from MI_s hI 49)).2; omega)]; rfl)), ((RR_ks (L := [5]) (M := []) hRR (KS_up KS_rf esg_1 (by decide)) KS_rf (by decide) (by decide)))⟩, by rw [ht]; exact hP, va_K.moved hW.alike hK, hD⟩, hS.F ht⟩) hS.2.2 dX13_event_18

set_option maxHeartbeats 4000000 in
set_option maxRecDepth 100000 in
theorem f_object9 (l : Launch) (dC : Nat → ClassId) (dI : Nat → Nat → Nat) (h0 : Nat) (ad : Nat → Nat) (cid : Nat → ClassId) (sg : Nat → Int32) (gm : Nat → Nat → Int32) (lg : Nat → Nat → Int64) (k : Int32) (w : Int32) (wg : Nat → Nat → Int32) (wl : Nat → Nat → Int64) (S : S9) (hI : MI sg gm) (hRR : RR wg wl S sg gm) : MMi l dC dI yX13_object wm_X13_object ({ frames := 0, cells := 0, slots := 0, locals := 0 }) h0 ad cid [.int k, .int w] sg gm lg (fun r v => ∃ (sg2 : Nat → Int32) (gm2 : Nat → Nat → Int32) (lg2 : Nat → Nat → Int64), v = (sg2, gm2, lg2) ∧ MI sg2 gm2 ∧ KS [5] sg sg2 ∧ KS [] gm gm2 ∧ KS [] lg lg2 ∧ (r.toInt = zOb k.toInt w.toInt S) ∧ (RR wg wl S sg2 gm2)) := by
  intro sz
  refine Met.ofW (cc := cX13_object) (maxL := 3) (ret := (some .int)) (by decide) rfl ?_
  intro p e s m args below meth c s₁ B hml hv
  obtain ⟨rfl, hsz, hP, hK, hD0⟩ := hv
  have hx := B.exec
  have hb := B.bytes
  have hr := B.returns
  have hts := atoms_spec (ws := wm_X13_object) B.pre
  have htb := fun (w : Cond) (h : w ∈ tb) => hts w (List.mem_cons_of_mem _ h)
  have hown : s.vm.findClass RX13 = some m.cls := findClass_of_methodNamed B.named
  have hlocks := B.notSynchronized
  subst hsz
  have hD := hD0.self (sz := s.heap.size)
  generalize hAe : va_A (mW h0 ad cid sg gm lg) s.heap.size = A at hD ⊢
  have hA : ∀ q : Nat, s.heap.size ≤ q → A q := fun q h => by rw [← hAe]; exact Or.inr h
  have hS : va_S A s.heap s.heap [] := va_S.rf
  have hl := lv_entry ([.ref h0, .int k, .int w]) (n := 3) (Nat.le_of_ble_eq_true rfl)
  rw [lg_entry_eq]
  generalize (lg_sl ([.ref h0, .int k, .int w]) ++ List.replicate (3 - (lg_sl ([.ref h0, .int k, .int w])).length) Slot.unset).toArray = ls at hl ⊢
  have hl : lv_has ls 3 [(0, .ref h0), (1, .int k), (2, .int w)] := hl
  refine lv_aload_n hx hb dX13_object_0 rfl (lv_at hl 0 rfl) ?_
  refine lv_iconst (v := 0) hx hb dX13_object_1 (by decide) ?_
  refine ma_put (x := 0) hx hb htb inX13 hown hK hP hD hS 5 (by decide) (by decide) (htb _ kw_239) rfl rfl rfl dX13_object_2 (fun sg_1 H locs esg_1 hP hD hS => ?_)
  have hI_sg_1 := MI_put hI esg_1 (iv_k (by decide) : iv 0 0 0) (by decide)
  refine lv_iload_n hx hb dX13_object_5 rfl (lv_at hl 1 rfl) ?_
  refine lv_if_lt (tgt := 26) hx hb dX13_object_6 (by decide) (fun c_2 => ?_) (fun c_2 => ?_)
  · have h_3 : iv (-2147483648) (-1) k := iv_ltL c_2 (iv_all k) (iv_k (by decide) : iv 0 0 0) (by decide)
    refine lv_iconst (v := (-1)) hx hb dX13_object_26 (by decide) ?_
    refine lv_goto (tgt := 49) hx hb dX13_object_27 (by decide) ?_
    exact W.iret (v := (-1)) hx hb hr (fun t ht hW => ⟨⟨(-1), (sg_1, gm, lg), rfl, ⟨sg_1, gm, lg, rfl, hI_sg_1, (KS_up KS_rf esg_1 (by decide)), KS_rf, KS_rf, ((by rw [zOb_z (by have := hRR.1.1; have := i32_0; have := i32_1; have := i32_2; have := i32_m1; have := congrArg Int32.toInt (show sg_1 48 = sg 48 from up_ne esg_1 (by decide)); have := (show iv 0 60 (sg 48) from MI_s hI 48).1; have := (show iv 0 60 (sg 48) from MI_s hI 48).2; have := (h_3).1; have := (h_3).2; omega)]; rfl)), ((RR_ks (L := [5]) (M := []) hRR (KS_up KS_rf esg_1 (by decide)) KS_rf (by decide) (by decide)))⟩, by rw [ht]; exact hP, va_K.moved hW.alike hK, hD⟩, hS.F ht⟩) hS.2.2 dX13_object_49
  · have h_4 : iv 0 2147483647 k := iv_leR (i32_ge c_2) (iv_k (by decide) : iv 0 0 0) (iv_all k) (by decide)
    refine lv_iload_n hx hb dX13_object_9 rfl (lv_at hl 1 rfl) ?_
    refine lv_aload_n hx hb dX13_object_10 rfl (lv_at hl 0 rfl) ?_
    refine mr_get (v := .int (sg_1 48)) hx hb htb inX13 hown hK hP 48 (by decide) (htb _ kw_819) rfl dX13_object_11 ?_
    refine lv_topi (fun z_5 ez_5 => ?_)
    obtain rfl : (sg 48) = z_5 := (ez_5.trans (up_ne esg_1 (by decide))).symm
    refine lv_icmp_ge (tgt := 26) hx hb dX13_object_14 (by decide) (fun c_6 => ?_) (fun c_6 => ?_)
    · have d_7 : ((sg 48) : Int32).toInt ≤ (k : Int32).toInt := Int32.le_iff_toInt_le.mp c_6
      refine lv_iconst (v := (-1)) hx hb dX13_object_26 (by decide) ?_
      refine lv_goto (tgt := 49) hx hb dX13_object_27 (by decide) ?_
      exact W.iret (v := (-1)) hx hb hr (fun t ht hW => ⟨⟨(-1), (sg_1, gm, lg), rfl, ⟨sg_1, gm, lg, rfl, hI_sg_1, (KS_up KS_rf esg_1 (by decide)), KS_rf, KS_rf, ((by rw [zOb_z (by have := hRR.1.1; have := i32_0; have := i32_1; have := i32_2; have := i32_m1; have := congrArg Int32.toInt (show sg_1 48 = sg 48 from up_ne esg_1 (by decide)); have := (show iv 0 60 (sg 48) from MI_s hI 48).1; have := (show iv 0 60 (sg 48) from MI_s hI 48).2; have := (h_4).1; have := (h_4).2; have := ((show iv 0 60 (sg 48) from MI_s hI 48)).1; have := ((show iv 0 60 (sg 48) from MI_s hI 48)).2; omega)]; rfl)), ((RR_ks (L := [5]) (M := []) hRR (KS_up KS_rf esg_1 (by decide)) KS_rf (by decide) (by decide)))⟩, by rw [ht]; exact hP, va_K.moved hW.alike hK, hD⟩, hS.F ht⟩) hS.2.2 dX13_object_49
    · have d_8 : (k : Int32).toInt < ((sg 48) : Int32).toInt := Int32.lt_iff_toInt_lt.mp (i32_lt c_6)
      have h_9 : iv 0 59 k := iv_ltL (i32_lt c_6) h_4 (show iv 0 60 (sg 48) from MI_s hI 48) (by decide)
      have h_10 : iv 1 60 (sg 48) := iv_ltR (i32_lt c_6) h_4 (show iv 0 60 (sg 48) from MI_s hI 48) (by decide)
      refine lv_iload_n hx hb dX13_object_17 rfl (lv_at hl 2 rfl) ?_
      refine lv_if_lt (tgt := 26) hx hb dX13_object_18 (by decide) (fun c_11 => ?_) (fun c_11 => ?_)
      · have h_12 : iv (-2147483648) (-1) w := iv_ltL c_11 (iv_all w) (iv_k (by decide) : iv 0 0 0) (by decide)
        refine lv_iconst (v := (-1)) hx hb dX13_object_26 (by decide) ?_
        refine lv_goto (tgt := 49) hx hb dX13_object_27 (by decide) ?_
        exact W.iret (v := (-1)) hx hb hr (fun t ht hW => ⟨⟨(-1), (sg_1, gm, lg), rfl, ⟨sg_1, gm, lg, rfl, hI_sg_1, (KS_up KS_rf esg_1 (by decide)), KS_rf, KS_rf, ((by rw [zOb_r hRR (by have := i32_0; have := i32_1; have := i32_2; have := i32_m1; have := (h_9).1; have := (h_9).2; have := (h_10).1; have := (h_10).2; have := (h_12).1; have := (h_12).2; omega) (by have := i32_0; have := i32_1; have := i32_2; have := i32_m1; have := congrArg Int32.toInt (show sg_1 48 = sg 48 from up_ne esg_1 (by decide)); have := (show iv 0 60 (sg 48) from MI_s hI 48).1; have := (show iv 0 60 (sg 48) from MI_s hI 48).2; have := (h_9).1; have := (h_9).2; have := (h_10).1; have := (h_10).2; have := (h_12).1; have := (h_12).2; omega), if_neg (by have := i32_0; have := i32_1; have := i32_2; have := i32_m1; have := (h_9).1; have := (h_9).2; have := (h_10).1; have := (h_10).2; have := (h_12).1; have := (h_12).2; omega), if_neg (by have := i32_0; have := i32_1; have := i32_2; have := i32_m1; have := (h_9).1; have := (h_9).2; have := (h_10).1; have := (h_10).2; have := (h_12).1; have := (h_12).2; omega)]; rfl)), ((RR_ks (L := [5]) (M := []) hRR (KS_up KS_rf esg_1 (by decide)) KS_rf (by decide) (by decide)))⟩, by rw [ht]; exact hP, va_K.moved hW.alike hK, hD⟩, hS.F ht⟩) hS.2.2 dX13_object_49
      · have h_13 : iv 0 2147483647 w := iv_leR (i32_ge c_11) (iv_k (by decide) : iv 0 0 0) (iv_all w) (by decide)
        refine lv_iload_n hx hb dX13_object_21 rfl (lv_at hl 2 rfl) ?_
        refine lv_iconst (v := 1) hx hb dX13_object_22 (by decide) ?_
        refine lv_icmp_le (tgt := 30) hx hb dX13_object_23 (by decide) (fun c_14 => ?_) (fun c_14 => ?_)
        · have h_15 : iv 0 1 w := iv_leL c_14 h_13 (iv_k (by decide) : iv 1 1 1) (by decide)
          refine lv_iload_n hx hb dX13_object_30 rfl (lv_at hl 2 rfl) ?_
          refine lv_if_ne (tgt := 43) hx hb dX13_object_31 (by decide) (fun c_16 => ?_) (fun c_16 => ?_)
          · have h_17 : iv 1 1 w := iv_neL c_16 h_15 (by decide)
            refine lv_aload_n hx hb dX13_object_43 rfl (lv_at hl 0 rfl) ?_
            refine mr_get (v := .ref (ad 54)) hx hb htb inX13 hown hK hP 54 (by decide) (htb _ kw_204) rfl dX13_object_44 ?_
            refine lv_iload_n hx hb dX13_object_47 rfl (lv_at hl 1 rfl) ?_
            refine mr_iald hx hb hK hP 40 (k := 54) rfl rfl rfl (show vp_in k 60 from (iv_in h_9 (by decide))) dX13_object_48 ?_
            refine lv_topi (fun z_18 ez_18 => ?_)
            have hz_18 : iv 0 79 z_18 := iv_of ez_18 (MI_a hI_sg_1 54 h_9 (by decide))
            exact W.iret (v := z_18) hx hb hr (fun t ht hW => ⟨⟨z_18, (sg_1, gm, lg), rfl, ⟨sg_1, gm, lg, rfl, hI_sg_1, (KS_up KS_rf esg_1 (by decide)), KS_rf, KS_rf, ((by rw [zOb_r hRR (by have := i32_0; have := i32_1; have := i32_2; have := i32_m1; have := (h_9).1; have := (h_9).2; have := (h_10).1; have := (h_10).2; have := (h_17).1; have := (h_17).2; have := (hz_18).1; have := (hz_18).2; omega) (by have := i32_0; have := i32_1; have := i32_2; have := i32_m1; have := congrArg Int32.toInt (show sg_1 48 = sg 48 from up_ne esg_1 (by decide)); have := (show iv 0 60 (sg 48) from MI_s hI 48).1; have := (show iv 0 60 (sg 48) from MI_s hI 48).2; have := (h_9).1; have := (h_9).2; have := (h_10).1; have := (h_10).2; have := (h_17).1; have := (h_17).2; have := (hz_18).1; have := (hz_18).2; omega), if_neg (by have := i32_0; have := i32_1; have := i32_2; have := i32_m1; have := (h_9).1; have := (h_9).2; have := (h_10).1; have := (h_10).2; have := (h_17).1; have := (h_17).2; have := (hz_18).1; have := (hz_18).2; omega), if_pos (by have := i32_0; have := i32_1; have := i32_2; have := i32_m1; have := (h_9).1; have := (h_9).2; have := (h_10).1; have := (h_10).2; have := (h_17).1; have := (h_17).2; have := (hz_18).1; have := (hz_18).2; omega), ez_18])), ((RR_ks (L := [5]) (M := []) hRR (KS_up KS_rf esg_1 (by decide)) KS_rf (by decide) (by decide)))⟩, by rw [ht]; exact hP, va_K.moved hW.alike hK, hD⟩, hS.F ht⟩) hS.2.2 dX13_object_49
          · have h_19 : iv 0 0 w := iv_eq c_16 h_15 (iv_k (by decide) : iv 0 0 0) (by decide)
            refine lv_aload_n hx hb dX13_object_34 rfl (lv_at hl 0 rfl) ?_
            refine mr_get (v := .ref (ad 53)) hx hb htb inX13 hown hK hP 53 (by decide) (htb _ kw_203) rfl dX13_object_35 ?_
            refine lv_iload_n hx hb dX13_object_38 rfl (lv_at hl 1 rfl) ?_
            refine mr_iald hx hb hK hP 39 (k := 53) rfl rfl rfl (show vp_in k 60 from (iv_in h_9 (by decide))) dX13_object_39 ?_
            refine lv_topi (fun z_20 ez_20 => ?_)
            have hz_20 : iv 0 7 z_20 := iv_of ez_20 (MI_a hI_sg_1 53 h_9 (by decide))
            refine lv_goto (tgt := 49) hx hb dX13_object_40 (by decide) ?_
            exact W.iret (v := z_20) hx hb hr (fun t ht hW => ⟨⟨z_20, (sg_1, gm, lg), rfl, ⟨sg_1, gm, lg, rfl, hI_sg_1, (KS_up KS_rf esg_1 (by decide)), KS_rf, KS_rf, ((by rw [zOb_r hRR (by have := i32_0; have := i32_1; have := i32_2; have := i32_m1; have := (h_9).1; have := (h_9).2; have := (h_10).1; have := (h_10).2; have := (h_19).1; have := (h_19).2; have := (hz_20).1; have := (hz_20).2; omega) (by have := i32_0; have := i32_1; have := i32_2; have := i32_m1; have := congrArg Int32.toInt (show sg_1 48 = sg 48 from up_ne esg_1 (by decide)); have := (show iv 0 60 (sg 48) from MI_s hI 48).1; have := (show iv 0 60 (sg 48) from MI_s hI 48).2; have := (h_9).1; have := (h_9).2; have := (h_10).1; have := (h_10).2; have := (h_19).1; have := (h_19).2; have := (hz_20).1; have := (hz_20).2; omega), if_pos (by have := i32_0; have := i32_1; have := i32_2; have := i32_m1; have := (h_9).1; have := (h_9).2; have := (h_10).1; have := (h_10).2; have := (h_19).1; have := (h_19).2; have := (hz_20).1; have := (hz_20).2; omega), ez_20])), ((RR_ks (L := [5]) (M := []) hRR (KS_up KS_rf esg_1 (by decide)) KS_rf (by decide) (by decide)))⟩, by rw [ht]; exact hP, va_K.moved hW.alike hK, hD⟩, hS.F ht⟩) hS.2.2 dX13_object_49
        · have h_21 : iv 2 2147483647 w := iv_ltR (i32_lt c_14) (iv_k (by decide) : iv 1 1 1) h_13 (by decide)
          refine lv_iconst (v := (-1)) hx hb dX13_object_26 (by decide) ?_
          refine lv_goto (tgt := 49) hx hb dX13_object_27 (by decide) ?_
          exact W.iret (v := (-1)) hx hb hr (fun t ht hW => ⟨⟨(-1), (sg_1, gm, lg), rfl, ⟨sg_1, gm, lg, rfl, hI_sg_1, (KS_up KS_rf esg_1 (by decide)), KS_rf, KS_rf, ((by rw [zOb_r hRR (by have := i32_0; have := i32_1; have := i32_2; have := i32_m1; have := (h_9).1; have := (h_9).2; have := (h_10).1; have := (h_10).2; have := (h_21).1; have := (h_21).2; omega) (by have := i32_0; have := i32_1; have := i32_2; have := i32_m1; have := congrArg Int32.toInt (show sg_1 48 = sg 48 from up_ne esg_1 (by decide)); have := (show iv 0 60 (sg 48) from MI_s hI 48).1; have := (show iv 0 60 (sg 48) from MI_s hI 48).2; have := (h_9).1; have := (h_9).2; have := (h_10).1; have := (h_10).2; have := (h_21).1; have := (h_21).2; omega), if_neg (by have := i32_0; have := i32_1; have := i32_2; have := i32_m1; have := (h_9).1; have := (h_9).2; have := (h_10).1; have := (h_10).2; have := (h_21).1; have := (h_21).2; omega), if_neg (by have := i32_0; have := i32_1; have := i32_2; have := i32_m1; have := (h_9).1; have := (h_9).2; have := (h_10).1; have := (h_10).2; have := (h_21).1; have := (h_21).2; omega)]; rfl)), ((RR_ks (L := [5]) (M := []) hRR (KS_up KS_rf esg_1 (by decide)) KS_rf (by decide) (by decide)))⟩, by rw [ht]; exact hP, va_K.moved hW.alike hK, hD⟩, hS.F ht⟩) hS.2.2 dX13_object_49
end
section
/-- before a refresh: nothing is made, nothing is being made, no event -/
theorem RR_cr {wg : Nat → Nat → Int32} {wl : Nat → Nat → Int64} {S : S9} {sg sg2 : Nat → Int32} {gm gm2 : Nat → Nat → Int32} (h : RR wg wl S sg gm) (h1 : ∀ b, ¬ zS S b = 1) (hn : (sg 41).toNatClampNeg ≤ 80) (hc : CLR sg2 gm2) (h49 : (sg2 49).toInt = 0) (e41 : sg2 41 = sg 41) (e48 : sg2 48 = sg 48) (e53 : gm2 53 = gm 53) (e54 : gm2 54 = gm 54) : RR wg wl (zCe (zFo S)) sg2 gm2 := by
  obtain ⟨hO, hE, hB, hF⟩ := h
  refine ⟨?_, ?_, ?_, ?_⟩
  · unfold RRo; rw [e48, e53, e54]; exact hO
  · exact ⟨h49, fun k e hk => by have hk : ([] : List Ev9)[k]? = some e := hk; simp at hk⟩
  · intro b hb
    rw [e41] at hb
    have q := hB b hb
    have c := hc.2 b (Nat.zero_le _) (by omega)
    show ((if zS S b = 2 then 0 else zS S b) = 1 ↔ _) ∧ (_ → ((if zS S b = 2 then 0 else zS S b) = 2 ↔ _) ∧ (gm2 60 b).toInt = (if (if zS S b = 2 then 0 else zS S b) = 0 then -1 else zW S b)) ∧ (if zS S b = 2 then 0 else zS S b) ≤ 2
    have z : (if zS S b = 2 then 0 else zS S b) = 0 := by
      by_cases e : zS S b = 2
      · rw [if_pos e]
      · rw [if_neg e]; have := h1 b; have := q.2.2; omega
    rw [z, c.1, c.2.1, c.2.2]
    exact ⟨⟨fun p => absurd p (by decide), fun p => absurd rfl p⟩, fun _ => ⟨⟨fun p => absurd p (by decide), fun p => absurd rfl p⟩, by rw [if_pos rfl]; decide⟩, by omega⟩
  · exact ⟨hc.1, fun k b hk => by have hk : ([] : List Nat)[k]? = some b := hk; simp at hk, List.nodup_nil⟩

set_option maxHeartbeats 4000000 in
set_option maxRecDepth 100000 in
theorem f_clear9 (l : Launch) (dC : Nat → ClassId) (dI : Nat → Nat → Nat) (h0 : Nat) (ad : Nat → Nat) (cid : Nat → ClassId) (sg : Nat → Int32) (gm : Nat → Nat → Int32) (lg : Nat → Nat → Int64) (wg : Nat → Nat → Int32) (wl : Nat → Nat → Int64) (S : S9) (hI : MI sg gm) (hRR : RR wg wl S sg gm) (hn1 : ∀ b, ¬ zS S b = 1) : MMv l dC dI yX13_clear wm_X13_clear ({ frames := 0, cells := 0, slots := 0, locals := 0 }) h0 ad cid [] sg gm lg (fun v => ∃ (sg2 : Nat → Int32) (gm2 : Nat → Nat → Int32) (lg2 : Nat → Nat → Int64), v = (sg2, gm2, lg2) ∧ MI sg2 gm2 ∧ KS [49, 50] sg sg2 ∧ KS [60, 61, 62] gm gm2 ∧ KS [] lg lg2 ∧ (CLR sg2 gm2) ∧ (RR wg wl (zCe (zFo S)) sg2 gm2)) := by
  intro sz
  refine Met.ofW (cc := cX13_clear) (maxL := 2) (ret := none) (by decide) rfl ?_
  intro p e s m args below meth c s₁ B hml hv
  obtain ⟨rfl, hsz, hP, hK, hD0⟩ := hv
  have hx := B.exec
  have hb := B.bytes
  have hr := B.returns
  have hts := atoms_spec (ws := wm_X13_clear) B.pre
  have htb := fun (w : Cond) (h : w ∈ tb) => hts w (List.mem_cons_of_mem _ h)
  have hown : s.vm.findClass RX13 = some m.cls := findClass_of_methodNamed B.named
  have hlocks := B.notSynchronized
  subst hsz
  have hD := hD0.self (sz := s.heap.size)
  generalize hAe : va_A (mW h0 ad cid sg gm lg) s.heap.size = A at hD ⊢
  have hA : ∀ q : Nat, s.heap.size ≤ q → A q := fun q h => by rw [← hAe]; exact Or.inr h
  have hS : va_S A s.heap s.heap [] := va_S.rf
  have hl := lv_entry ([.ref h0]) (n := 2) (Nat.le_of_ble_eq_true rfl)
  rw [lg_entry_eq]
  generalize (lg_sl ([.ref h0]) ++ List.replicate (2 - (lg_sl ([.ref h0])).length) Slot.unset).toArray = ls at hl ⊢
  have hl : lv_has ls 2 [(0, .ref h0)] := hl
  have hj12 : ∀ (n : Nat) (sg_j12 : Nat → Int32) (gm_j12 : Nat → Nat → Int32) (x1_12 : Int32) (_ : (80 - x1_12.toInt).toNat = n) (_ : iv 0 80 x1_12) (_ : KS [49, 50] sg sg_j12) (_ : KS [60, 61, 62] gm gm_j12) (_ : MI sg_j12 gm_j12) (_ : CLn gm_j12 x1_12.toNatClampNeg) (_ : (sg_j12 50).toInt = 0) (_ : (sg_j12 49).toInt = 0) (H : Heap) (locs : List Loc) (ls : Array Slot), va_P (dC, dI) vwCl (mW h0 ad cid sg_j12 gm_j12 lg) H → va_D A (mW h0 ad cid sg_j12 gm_j12 lg) → va_S A s.heap H locs → lv_has ls 2 [(1, .int x1_12), (0, .ref h0)] → W p l e (headSpec wm_X13_clear ({ frames := 0, cells := 0, slots := 0, locals := 0 })).room s m ([.ref h0] : List Value).toArray below meth c H locs 0 0 (MQ below (va_Qv (fun v => ∃ (sg2 : Nat → Int32) (gm2 : Nat → Nat → Int32) (lg2 : Nat → Nat → Int64), v = (sg2, gm2, lg2) ∧ MI sg2 gm2 ∧ KS [49, 50] sg sg2 ∧ KS [60, 61, 62] gm gm2 ∧ KS [] lg lg2 ∧ (CLR sg2 gm2) ∧ (RR wg wl (zCe (zFo S)) sg2 gm2)) (MB dC dI h0 ad cid A) A) ([.ref h0] : List Value).toArray s 0 0 A) (F0 m 12 ls []) := by
    intro n
    induction n using Nat.strongRecOn with
    | ind n ih12 =>
      intro sg_j12 gm_j12 x1_12 hn12 hx1_12 hks_j12 hkg_j12 hI_j12 hcn h50 h49 H locs ls hP hD hS hl
      refine lv_iload_n hx hb dX13_clear_12 rfl (lv_at hl 0 rfl) ?_
      refine lv_bipush (v := 80) hx hb dX13_clear_13 (by decide) ?_
      refine lv_icmp_ge (tgt := 45) hx hb dX13_clear_15 (by decide) (fun c_1 => ?_) (fun c_1 => ?_)
      · have h_2 : iv 80 80 x1_12 := iv_leR c_1 (iv_k (by decide) : iv 80 80 80) hx1_12 (by decide)
        exact W.vret hx hb hr (fun t ht hW => ⟨⟨(sg_j12, gm_j12, lg), rfl, ⟨sg_j12, gm_j12, lg, rfl, hI_j12, (KS_tr (L := [49, 50]) KS_rf hks_j12 (by decide)), (KS_tr (L := [60, 61, 62]) KS_rf hkg_j12 (by decide)), KS_rf, (⟨by have := i32_0; have := i32_1; have := i32_2; have := i32_m1; have := (show iv 0 80 (sg_j12 50) from MI_s hI_j12 50).1; have := (show iv 0 80 (sg_j12 50) from MI_s hI_j12 50).2; have := (show iv 0 80 (sg 50) from MI_s hI 50).1; have := (show iv 0 80 (sg 50) from MI_s hI 50).2; have := (show iv 0 400 (sg_j12 49) from MI_s hI_j12 49).1; have := (show iv 0 400 (sg_j12 49) from MI_s hI_j12 49).2; have := (show iv 0 400 (sg 49) from MI_s hI 49).1; have := (show iv 0 400 (sg 49) from MI_s hI 49).2; have := (h_2).1; have := (h_2).2; omega, by have q9 : x1_12.toNatClampNeg = 80 := (by have := iv_cl h_2 (by decide); have := (h_2).1; have := (h_2).2; omega); rw [q9] at hcn; exact hcn⟩), (RR_cr hRR hn1 (by have q5 := (show iv 0 80 (sg 41) from MI_s hI 41); have q6 := cln9 q5.1; have := q5.2; omega) ⟨by have := i32_0; have := i32_1; have := i32_2; have := i32_m1; have := (show iv 0 80 (sg_j12 50) from MI_s hI_j12 50).1; have := (show iv 0 80 (sg_j12 50) from MI_s hI_j12 50).2; have := (show iv 0 80 (sg 50) from MI_s hI 50).1; have := (show iv 0 80 (sg 50) from MI_s hI 50).2; have := (show iv 0 400 (sg_j12 49) from MI_s hI_j12 49).1; have := (show iv 0 400 (sg_j12 49) from MI_s hI_j12 49).2; have := (show iv 0 400 (sg 49) from MI_s hI 49).1; have := (show iv 0 400 (sg 49) from MI_s hI 49).2; have := (h_2).1; have := (h_2).2; omega, by have q9 : x1_12.toNatClampNeg = 80 := (by have := iv_cl h_2 (by decide); have := (h_2).1; have := (h_2).2; omega); rw [q9] at hcn; exact hcn⟩ h49 (hks_j12 41 (by decide)) (hks_j12 48 (by decide)) (hkg_j12 53 (by decide)) (hkg_j12 54 (by decide)))⟩, by rw [ht]; exact hP, va_K.moved hW.alike hK, hD⟩, hS.F ht⟩) hS.2.2 dX13_clear_45
      · have h_3 : iv 0 79 x1_12 := iv_ltL (i32_lt c_1) hx1_12 (iv_k (by decide) : iv 80 80 80) (by decide)
        refine lv_aload_n hx hb dX13_clear_18 rfl (lv_at hl 1 rfl) ?_
        refine mr_get (v := .ref (ad 61)) hx hb htb inX13 hown hK hP 61 (by decide) (htb _ kw_211) rfl dX13_clear_19 ?_
        refine lv_iload_n hx hb dX13_clear_22 rfl (lv_at hl 0 rfl) ?_
        refine lv_iconst (v := 0) hx hb dX13_clear_23 (by decide) ?_
        refine ma_zast (x := 0) hx hb hK hP hD hS 47 (k := 61) rfl rfl rfl (show vp_in x1_12 80 from (iv_in h_3 (by decide))) dX13_clear_24 (fun gm_4 H locs egm_4 hP hD hS => ?_)
        have hI_gm_4 := MI_st hI_j12 egm_4 (iv_of (iv_vb (iv_w (iv_k (by decide) : iv 0 0 0) (by decide))) (iv_k (by decide) : iv 0 0 0)) (by decide)
        refine lv_aload_n hx hb dX13_clear_25 rfl (lv_at hl 1 rfl) ?_
        refine mr_get (v := .ref (ad 62)) hx hb htb inX13 hown hK hP 62 (by decide) (htb _ kw_212) rfl dX13_clear_26 ?_
        refine lv_iload_n hx hb dX13_clear_29 rfl (lv_at hl 0 rfl) ?_
        refine lv_iconst (v := 0) hx hb dX13_clear_30 (by decide) ?_
        refine ma_zast (x := 0) hx hb hK hP hD hS 48 (k := 62) rfl rfl rfl (show vp_in x1_12 80 from (iv_in h_3 (by decide))) dX13_clear_31 (fun gm_5 H locs egm_5 hP hD hS => ?_)
        have hI_gm_5 := MI_st hI_gm_4 egm_5 (iv_of (iv_vb (iv_w (iv_k (by decide) : iv 0 0 0) (by decide))) (iv_k (by decide) : iv 0 0 0)) (by decide)
        refine lv_aload_n hx hb dX13_clear_32 rfl (lv_at hl 1 rfl) ?_
        refine mr_get (v := .ref (ad 60)) hx hb htb inX13 hown hK hP 60 (by decide) (htb _ kw_210) rfl dX13_clear_33 ?_
        refine lv_iload_n hx hb dX13_clear_36 rfl (lv_at hl 0 rfl) ?_
        refine lv_iconst (v := (-1)) hx hb dX13_clear_37 (by decide) ?_
        refine ma_iast (x := (-1)) hx hb hK hP hD hS 46 (k := 60) rfl rfl rfl (show vp_in x1_12 80 from (iv_in h_3 (by decide))) dX13_clear_38 (fun gm_6 H locs egm_6 hP hD hS => ?_)
        have hI_gm_6 := MI_st hI_gm_5 egm_6 (iv_k (by decide) : iv (-1) (-1) (-1)) (by decide)
        obtain ⟨z_7, ez_7⟩ : ∃ z : Int32, z = x1_12 + 1 := ⟨_, rfl⟩
        have hz_7 : iv 1 80 z_7 := iv_of ez_7 (iv_add h_3 (iv_k (by decide) : iv 1 1 1) (by decide))
        have tz_7 : z_7.toInt = x1_12.toInt + 1 := by rw [ez_7]; exact iv_addE h_3 (iv_k (by decide) : iv 1 1 1) (by decide)
        refine lv_iinc (v := z_7) (lv' := [(1, .int z_7), (0, .ref h0)]) hx hb dX13_clear_39 hl (k := 0) rfl ez_7.symm (by decide) rfl (fun ls hl => ?_)
        refine lv_goto (tgt := 12) hx hb dX13_clear_42 (by decide) ?_
        exact ih12 _ (by rw [← hn12]; exact (iv_meas tz_7 h_3 (by decide))) sg_j12 gm_6 z_7 rfl (iv_w hz_7 (by decide)) (KS_tr (L := [49, 50]) KS_rf hks_j12 (by decide)) (KS_up (KS_up (KS_up (KS_tr (L := [60, 61, 62]) KS_rf hkg_j12 (by decide)) egm_4 (by decide)) egm_5 (by decide)) egm_6 (by decide)) hI_gm_6 (by rw [s_cl h_3 (by decide) tz_7]; exact CLn_s hcn (show gm_6 61 = upd (gm_j12 61) (x1_12 : Int32).toNatClampNeg (vp_nar .boolean 0) from ((up_ne egm_6 (by decide)).trans ((up_ne egm_5 (by decide)).trans ((up_at egm_4).trans (by rw [show gm_j12 61 = gm_j12 61 from rfl]))))) (show gm_6 62 = upd (gm_j12 62) (x1_12 : Int32).toNatClampNeg (vp_nar .boolean 0) from ((up_ne egm_6 (by decide)).trans ((up_at egm_5).trans (by rw [show gm_4 62 = gm_j12 62 from ((up_ne egm_4 (by decide)).trans rfl)])))) (show gm_6 60 = upd (gm_j12 60) (x1_12 : Int32).toNatClampNeg (-1) from ((up_at egm_6).trans (by rw [show gm_5 60 = gm_j12 60 from ((up_ne egm_5 (by decide)).trans ((up_ne egm_4 (by decide)).trans rfl))]))) rfl rfl rfl) (by have := i32_0; have := i32_1; have := i32_2; have := i32_m1; have := (show iv 0 80 (sg_j12 50) from MI_s hI_j12 50).1; have := (show iv 0 80 (sg_j12 50) from MI_s hI_j12 50).2; have := (show iv 0 80 (sg 50) from MI_s hI 50).1; have := (show iv 0 80 (sg 50) from MI_s hI 50).2; have := (show iv 0 400 (sg_j12 49) from MI_s hI_j12 49).1; have := (show iv 0 400 (sg_j12 49) from MI_s hI_j12 49).2; have := (show iv 0 400 (sg 49) from MI_s hI 49).1; have := (show iv 0 400 (sg 49) from MI_s hI 49).2; have := (h_3).1; have := (h_3).2; have := (hz_7).1; have := (hz_7).2; omega) (by have := i32_0; have := i32_1; have := i32_2; have := i32_m1; have := (show iv 0 80 (sg_j12 50) from MI_s hI_j12 50).1; have := (show iv 0 80 (sg_j12 50) from MI_s hI_j12 50).2; have := (show iv 0 80 (sg 50) from MI_s hI 50).1; have := (show iv 0 80 (sg 50) from MI_s hI 50).2; have := (show iv 0 400 (sg_j12 49) from MI_s hI_j12 49).1; have := (show iv 0 400 (sg_j12 49) from MI_s hI_j12 49).2; have := (show iv 0 400 (sg 49) from MI_s hI 49).1; have := (show iv 0 400 (sg 49) from MI_s hI 49).2; have := (h_3).1; have := (h_3).2; have := (hz_7).1; have := (hz_7).2; omega) _ _ _ hP hD hS (lv_sub hl [0, 1] rfl)
  refine lv_aload_n hx hb dX13_clear_0 rfl (lv_at hl 0 rfl) ?_
  refine lv_iconst (v := 0) hx hb dX13_clear_1 (by decide) ?_
  refine ma_put (x := 0) hx hb htb inX13 hown hK hP hD hS 49 (by decide) (by decide) (htb _ kw_823) rfl rfl rfl dX13_clear_2 (fun sg_8 H locs esg_8 hP hD hS => ?_)
  have hI_sg_8 := MI_put hI esg_8 (iv_k (by decide) : iv 0 0 0) (by decide)
  refine lv_aload_n hx hb dX13_clear_5 rfl (lv_at hl 0 rfl) ?_
  refine lv_iconst (v := 0) hx hb dX13_clear_6 (by decide) ?_
  refine ma_put (x := 0) hx hb htb inX13 hown hK hP hD hS 50 (by decide) (by decide) (htb _ kw_824) rfl rfl rfl dX13_clear_7 (fun sg_9 H locs esg_9 hP hD hS => ?_)
  have hI_sg_9 := MI_put hI_sg_8 esg_9 (iv_k (by decide) : iv 0 0 0) (by decide)
  refine lv_iconst (v := 0) hx hb dX13_clear_10 (by decide) ?_
  refine lv_istore_n (lv' := [(1, .int 0), (0, .ref h0)]) hx hb dX13_clear_11 rfl hl (by decide) rfl (fun ls hl => ?_)
  exact hj12 _ sg_9 gm 0 rfl (iv_w (iv_k (by decide) : iv 0 0 0) (by decide)) (KS_up (KS_up KS_rf esg_8 (by decide)) esg_9 (by decide)) KS_rf hI_sg_9 (fun j9 _ h9 => absurd h9 (Nat.not_lt_zero _)) (by have := i32_0; have := i32_1; have := i32_2; have := i32_m1; have : (sg_9 50).toInt = 0 := (by rw [up_at esg_9]; rfl); have := congrArg Int32.toInt (show sg_9 49 = sg_8 49 from up_ne esg_9 (by decide)); have : (sg_8 49).toInt = 0 := (by rw [up_at esg_8]; rfl); omega) (by have := i32_0; have := i32_1; have := i32_2; have := i32_m1; have : (sg_9 50).toInt = 0 := (by rw [up_at esg_9]; rfl); have := congrArg Int32.toInt (show sg_9 49 = sg_8 49 from up_ne esg_9 (by decide)); have : (sg_8 49).toInt = 0 := (by rw [up_at esg_8]; rfl); omega) _ _ _ hP hD hS (lv_sub hl [0, 1] rfl)
end
section
section SD9
variable {wg gm gm2 : Nat → Nat → Int32} {wl : Nat → Nat → Int64} {sg sg2 : Nat → Int32} {S S2 : S9}
/-- the beans while the finished ones are taken back, n of them left -/
def SHB (wg : Nat → Nat → Int32) (wl : Nat → Nat → Int64) (S : S9) (nb n : Nat) (gm : Nat → Nat → Int32) : Prop := ∀ b, b < nb → (zS S b = 1 ↔ ¬ gm 62 b = 0) ∧ zS S b ≤ 2 ∧ (one9 wg wl b → (b ∈ (zF S).take n → ¬ gm 61 b = 0 ∧ (gm 60 b).toInt = zW S b) ∧ (¬ b ∈ (zF S).take n → gm 61 b = 0 ∧ (gm 60 b).toInt = (if zS S b = 1 then zW S b else -1)))
/-- what is made once is among the finished -/
def WZ9 (wg : Nat → Nat → Int32) (wl : Nat → Nat → Int64) (S : S9) : Prop := ∀ b, one9 wg wl b → zS S b = 2 → b ∈ zF S
theorem SHB_0 {n : Nat} (h : RR wg wl S sg gm) (hz : WZ9 wg wl S) (hn : (zF S).length ≤ n) : SHB wg wl S (sg 41).toNatClampNeg n gm := by
  intro b hb
  have q := h.2.2.1 b hb
  refine ⟨q.1, q.2.2, fun o => ?_⟩
  rw [List.take_of_length_le hn]
  have q9 := q.2.1 o
  refine ⟨fun hm => ?_, fun hm => ?_⟩
  · obtain ⟨k, hk⟩ := List.getElem?_of_mem hm
    have z2 := (h.2.2.2.2.1 k b hk).2.2.2
    exact ⟨q9.1.mp z2, by rw [q9.2, if_neg (by omega)]⟩
  · have z2 : ¬ zS S b = 2 := fun e => hm (hz b o e)
    refine ⟨Decidable.byContradiction (fun e => z2 (q9.1.mpr e)), ?_⟩
    rw [q9.2]
    by_cases e : zS S b = 1
    · rw [if_pos e, if_neg (by omega)]
    · rw [if_neg e, if_pos (by have := q.2.2; omega)]
theorem SHB_s {nb k b : Nat} {v w : Int32} (h : SHB wg wl S nb (k + 1) gm) (hb : (zF S)[k]? = some b) (hnd : (zF S).Nodup) (h2 : zS S b = 2) (e61 : gm2 61 = upd (gm 61) b v) (e60 : gm2 60 = upd (gm 60) b w) (e62 : gm2 62 = gm 62) (hv : v = 0) (hw : w.toInt = -1) : SHB wg wl S nb k gm2 := by
  intro i hi
  have q := h i hi
  have ht : (zF S).take (k + 1) = (zF S).take k ++ [b] := by rw [List.take_add_one, hb]; rfl
  have hn : ¬ b ∈ (zF S).take k := fun hm => by
    have : ((zF S).take (k + 1)).Nodup := List.Nodup.sublist (List.take_sublist _ _) hnd
    rw [ht, List.nodup_append] at this
    exact this.2.2 b hm b (by simp) rfl
  rw [e60, e61, e62]
  refine ⟨q.1, q.2.1, fun o => ?_⟩
  by_cases e : i = b
  · subst e
    rw [upd_at, upd_at]
    exact ⟨fun hm => absurd hm hn, fun _ => ⟨hv, by rw [if_neg (by omega)]; exact hw⟩⟩
  · rw [upd_ne e, upd_ne e]
    have q9 := q.2.2 o
    rw [ht] at q9
    exact ⟨fun hm => q9.1 (List.mem_append.mpr (Or.inl hm)), fun hm => q9.2 (fun hx => (List.mem_append.mp hx).elim hm (fun hx => e (by simpa using hx)))⟩
/-- all are taken back -/
theorem RR_sh (h : SHB wg wl S (sg2 41).toNatClampNeg 0 gm2) (hO : RRo S2 sg2 gm2) (hE : RRe S2 sg2 gm2) (hS : zS S2 = zS S) (hW : zW S2 = zW S) (h50 : (sg2 50).toInt = 0) : RR wg wl (zFo S2) sg2 gm2 := by
  refine ⟨hO, hE, ?_, ?_⟩
  · intro b hb
    have q := h b hb
    show ((if zS S2 b = 2 then 0 else zS S2 b) = 1 ↔ _) ∧ (_ → ((if zS S2 b = 2 then 0 else zS S2 b) = 2 ↔ _) ∧ (gm2 60 b).toInt = (if (if zS S2 b = 2 then 0 else zS S2 b) = 0 then -1 else zW S2 b)) ∧ (if zS S2 b = 2 then 0 else zS S2 b) ≤ 2
    rw [hS, hW]
    have l := q.2.1
    refine ⟨?_, fun o => ?_, ?_⟩
    · rw [← q.1]
      by_cases e : zS S b = 2
      · rw [if_pos e, e]; exact ⟨fun p => absurd p (by decide), fun p => absurd p (by decide)⟩
      · rw [if_neg e]
    · have c := (q.2.2 o).2 (by simp)
      rw [c.1, c.2]
      refine ⟨⟨fun p => ?_, fun p => absurd rfl p⟩, ?_⟩
      · by_cases e : zS S b = 2
        · rw [if_pos e] at p; exact absurd p (by decide)
        · rw [if_neg e] at p; exact absurd p e
      · by_cases e : zS S b = 1
        · rw [if_pos e, if_neg (show ¬ (if zS S b = 2 then 0 else zS S b) = 0 by rw [if_neg (by omega)]; omega)]
        · have : (if zS S b = 2 then 0 else zS S b) = 0 := by
            by_cases e2 : zS S b = 2
            · rw [if_pos e2]
            · rw [if_neg e2]; omega
          rw [if_neg e, if_pos this]
    · by_cases e : zS S b = 2
      · rw [if_pos e]; omega
      · rw [if_neg e]; exact l
  · exact ⟨h50, fun k b hk => by have hk : ([] : List Nat)[k]? = some b := hk; simp at hk, List.nodup_nil⟩
end SD9
end
section
theorem chF_k9 {sg sg2 : Nat → Int32} {gm gm2 : Nat → Nat → Int32} {lg lg2 : Nat → Nat → Int64} (h : DK sg gm lg sg2 gm2 lg2) (a : Int32) : ∀ n, chF sg2 gm2 a n = chF sg gm a n
  | 0 => by show mInn sg2 gm2 a 0 a = mInn sg gm a 0 a; rw [mInn_k h.1]
  | n + 1 => by
    show (if chF sg2 gm2 a n = -1 then -1 else mInn sg2 gm2 a 0 (chF sg2 gm2 a n)) = if chF sg gm a n = -1 then -1 else mInn sg gm a 0 (chF sg gm a n)
    rw [chF_k9 h a n, mInn_k h.1]
section WP9
variable {ws : Nat → Int32} {wg rg gm gm1 gm2 : Nat → Nat → Int32} {wl : Nat → Nat → Int64} {rs sg sg1 sg2 : Nat → Int32} {lg : Nat → Nat → Int64} {S : S9} {e c sl : Nat} {acc ac2 : List Int}
/-- what is left of a holder's content, with what stands already -/
def reW (ws : Nat → Int32) (wg : Nat → Nat → Int32) (wl : Nat → Nat → Int64) (n : Nat) (c : Nat) (acc : List Int) (S : S9) : Option (List Int) × S9 :=
  if (wg 25 c).toInt = 6 then oIts ws wg wl (oMK ws wg wl n) ((itC wg c).drop acc.length) acc S else if acc = [] then oCon ws wg wl (oMK ws wg wl n) c S else (some acc, S)
def dlI (wg : Nat → Nat → Int32) (c : Nat) (o : Int) : Int := if (wg 25 c).toInt = 6 then 3000 + o else o
theorem reW_6 {n : Nat} (h : (wg 25 c).toInt = 6) : reW ws wg wl n c acc S = oIts ws wg wl (oMK ws wg wl n) ((itC wg c).drop acc.length) acc S := by unfold reW; rw [if_pos h]
theorem reW_0 {n : Nat} : reW ws wg wl n c [] S = oCon ws wg wl (oMK ws wg wl n) c S := by
  unfold reW
  by_cases h : (wg 25 c).toInt = 6
  · rw [if_pos h]; unfold oCon; rw [if_pos h]; rfl
  · rw [if_neg h, if_pos rfl]
theorem reW_1 {n : Nat} (h : ¬ (wg 25 c).toInt = 6) (ha : ¬ acc = []) : reW ws wg wl n c acc S = (some acc, S) := by unfold reW; rw [if_neg h, if_neg ha]
/-- what stands of it in the slot -/
def PT9 (wg : Nat → Nat → Int32) (wl : Nat → Nat → Int64) (rg gm : Nat → Nat → Int32) (ob : List Ob9) (c sl : Nat) (acc : List Int) : Prop :=
  ((wg 25 c).toInt = 6 ∧ acc.length ≤ (itC wg c).length ∧ PIT9 rg gm sl acc) ∨ (¬ (wg 25 c).toInt = 6 ∧ (acc = [] ∨ VR9 wg wl rg ob c acc (gm 70 sl) (gm 71 sl)))
/-- an object is waited for -/
def AW9 (wg : Nat → Nat → Int32) (c : Nat) (acc : List Int) : Prop := ((wg 25 c).toInt = 6 ∧ acc.length < (itC wg c).length) ∨ (¬ (wg 25 c).toInt = 6 ∧ kd8 wg c ∧ acc = [])
/-- only the slot's rows change -/
def KPS (gm gm2 : Nat → Nat → Int32) (sl : Nat) : Prop := (∀ j, ¬ j = sl → gm2 70 j = gm 70 j ∧ gm2 71 j = gm 71 j) ∧ (∀ j, (j < 6 * sl ∨ 6 * sl + 6 ≤ j) → gm2 72 j = gm 72 j ∧ gm2 73 j = gm 73 j)
theorem KPS_rf : KPS gm gm sl := ⟨fun _ _ => ⟨rfl, rfl⟩, fun _ _ => ⟨rfl, rfl⟩⟩
theorem KPS_tr (h : KPS gm gm1 sl) (h2 : KPS gm1 gm2 sl) : KPS gm gm2 sl := ⟨fun j hj => ⟨(h2.1 j hj).1.trans (h.1 j hj).1, (h2.1 j hj).2.trans (h.1 j hj).2⟩, fun j hj => ⟨(h2.2 j hj).1.trans (h.2 j hj).1, (h2.2 j hj).2.trans (h.2 j hj).2⟩⟩
theorem KPS_4 (h : SV4 gm gm2) : KPS gm gm2 sl := ⟨fun j _ => ⟨by rw [h.1], by rw [h.2.1]⟩, fun j _ => ⟨by rw [h.2.2.1], by rw [h.2.2.2]⟩⟩
theorem KPS_8 {it kd vl : Int32} (h : KP8 gm gm2 sl it kd vl) (hi : it.toInt ≤ 5) : KPS gm gm2 sl := by
  rcases h with ⟨h0, e0, e1, e2, e3⟩ | ⟨h0, e0, e1, e2, e3⟩
  · exact ⟨fun j hj => ⟨by rw [e0, upd_ne hj], by rw [e1, upd_ne hj]⟩, fun j _ => ⟨by rw [e2], by rw [e3]⟩⟩
  · have c1 := cln9 h0
    exact ⟨fun j hj => ⟨by rw [e0], by rw [e1]⟩, fun j hj => ⟨by rw [e2, upd_ne (by omega)], by rw [e3, upd_ne (by omega)]⟩⟩
theorem KPS_k (h : KPS gm gm1 sl) (h0 : gm2 70 = gm1 70) (h1 : gm2 71 = gm1 71) (h2 : gm2 72 = gm1 72) (h3 : gm2 73 = gm1 73) : KPS gm gm2 sl := KPS_tr h (KPS_4 ⟨h0, h1, h2, h3⟩)
/-- what worked tells -/
abbrev FWK (ws : Nat → Int32) (wg : Nat → Nat → Int32) (wl : Nat → Nat → Int64) (rg : Nat → Nat → Int32) (S : S9) (e sl : Nat) (it : Int32) (sg : Nat → Int32) (gm : Nat → Nat → Int32) (sg2 : Nat → Int32) (gm2 : Nat → Nat → Int32) (r : Int32) : Prop := (r.toInt = 1 ∧ (sg2 51).toInt = 0 ∧ RR wg wl S sg2 gm2 ∧ VAL9 ws wg wl rg gm2 S e sl it ∧ ∃ k9 v9, KP8 gm gm2 sl it k9 v9) ∨ (r.toInt = 0 ∧ 1 ≤ (sg2 51).toInt ∧ RR wg wl S sg2 gm2 ∧ kd8 wg e ∧ ∀ n9, oObj ws wg wl (oMK ws wg wl n9) e S = (none, S)) ∨ (r.toInt = 0 ∧ SV4 gm gm2 ∧ (sg2 51).toInt = 0 ∧ kd8 wg e ∧ ∃ t9 : Int32, iv 0 79 t9 ∧ t9.toInt < (sg 41).toInt ∧ RR wg wl (oBe t9.toNatClampNeg S) sg2 gm2 ∧ ¬ zS S t9.toNatClampNeg = 1 ∧ (∀ n9, oObj ws wg wl (oMK ws wg wl n9) e S = oMK ws wg wl n9 t9.toNatClampNeg S) ∧ gm2 64 = upd (gm 64) (sg 63).toNatClampNeg t9 ∧ gm2 68 = upd (gm 68) (sg 63).toNatClampNeg (-1))
/-- what workedOut tells -/
def WO9 (ws : Nat → Int32) (wg : Nat → Nat → Int32) (wl : Nat → Nat → Int64) (rg : Nat → Nat → Int32) (c sl : Nat) (acc : List Int) (S : S9) (sg : Nat → Int32) (gm : Nat → Nat → Int32) (sg2 : Nat → Int32) (gm2 : Nat → Nat → Int32) (r : Int32) : Prop :=
  (r.toInt = 1 ∧ (sg2 51).toInt = 0 ∧ RR wg wl S sg2 gm2 ∧ KPS gm gm2 sl ∧ ∃ V, (∀ n, reW ws wg wl n c acc S = (some V, S)) ∧ VR9 wg wl rg (zO S) c V (gm2 70 sl) (gm2 71 sl) ∧ ITS9 wg rg gm2 c sl V)
  ∨ (r.toInt = 0 ∧ 1 ≤ (sg2 51).toInt ∧ RR wg wl S sg2 gm2 ∧ ∀ n, reW ws wg wl n c acc S = (none, S))
  ∨ (r.toInt = 0 ∧ (sg2 51).toInt = 0 ∧ KPS gm gm2 sl ∧ ∃ (t : Int32) (ac2 : List Int), iv 0 79 t ∧ t.toInt < (sg 41).toInt ∧ RR wg wl (oBe t.toNatClampNeg S) sg2 gm2 ∧ ¬ zS S t.toNatClampNeg = 1 ∧ AW9 wg c ac2 ∧ (∀ n, reW ws wg wl n c acc S = bd9 (oMK ws wg wl n t.toNatClampNeg S) (fun o S2 => reW ws wg wl n c (ac2 ++ [dlI wg c o]) S2)) ∧ (gm2 67 (TOPn sg)).toInt = (ac2.length : Int) ∧ PT9 wg wl rg gm2 (zO S) c sl ac2 ∧ gm2 64 = upd (gm 64) (sg 63).toNatClampNeg t ∧ gm2 68 = upd (gm 68) (sg 63).toNatClampNeg (-1))
/-- no list, worked out before -/
theorem WO_1 {r : Int32} (hr : r.toInt = 1) (h5 : (sg 51).toInt = 0) (hR : RR wg wl S sg gm) (h6 : ¬ (wg 25 c).toInt = 6) (hp : PT9 wg wl rg gm (zO S) c sl acc) (ha : 0 < (acc.length : Int)) : WO9 ws wg wl rg c sl acc S sg gm sg gm r := by
  have hn : ¬ acc = [] := fun q => by rw [q] at ha; exact absurd ha (by decide)
  refine Or.inl ⟨hr, h5, hR, KPS_rf, acc, fun n => reW_1 h6 hn, ?_, fun q => absurd q h6⟩
  rcases hp with q | ⟨_, q | q⟩
  · exact absurd q.1 h6
  · exact absurd q hn
  · exact q
/-- no list, worked out now -/
theorem WO_w {r : Int32} (h6 : ¬ (wg 25 c).toInt = 6) (ha : ¬ 0 < (acc.length : Int)) (h : FWK ws wg wl rg S c sl (-1) sg gm sg2 gm2 r) (h67 : r.toInt = 0 → (sg2 51).toInt = 0 → (gm2 67 (TOPn sg)).toInt = 0) : WO9 ws wg wl rg c sl acc S sg gm sg2 gm2 r := by
  have hn : acc = [] := List.eq_nil_of_length_eq_zero (by omega)
  subst hn
  rcases h with ⟨h1, h2, h3, h4, k9, v9, h5⟩ | ⟨h1, h2, h3, h4, h5⟩ | ⟨h1, h2, h3, h4, t, h5, h7, h8, h9, hA, hB, hC⟩
  · refine Or.inl ⟨h1, h2, h3, KPS_8 h5 (by decide), ?_⟩
    rcases h4 with ⟨_, V, q1, q2⟩ | ⟨q, _⟩
    · exact ⟨V, fun n => reW_0.trans (q1 n), q2, fun q => absurd q h6⟩
    · exact absurd q (by decide)
  · exact Or.inr (Or.inl ⟨h1, h2, h3, fun n => reW_0.trans (oCon_f h4 (h5 n))⟩)
  · refine Or.inr (Or.inr ⟨h1, h3, KPS_4 h2, t, [], h5, h7, h8, h9, Or.inr ⟨h6, h4, rfl⟩, fun n => ?_, h67 h1 h3, Or.inr ⟨h6, Or.inl rfl⟩, hB, hC⟩)
    rw [reW_0, oCon_p h4 (hA n)]
    congr 1
    funext o S2
    show _ = reW ws wg wl n c [dlI wg c o] S2
    rw [reW_1 h6 (by simp)]
    unfold dlI; rw [if_neg h6]
/-- within a list -/
def LP9 (ws : Nat → Int32) (wg : Nat → Nat → Int32) (wl : Nat → Nat → Int64) (rg : Nat → Nat → Int32) (c sl : Nat) (acc : List Int) (S : S9) (gm : Nat → Nat → Int32) (sg2 : Nat → Int32) (gm2 : Nat → Nat → Int32) (i : Int32) : Prop :=
  ∃ ac9 : List Int, (ac9.length : Int) = i.toInt ∧ ac9.length ≤ (itC wg c).length ∧ (∀ n, reW ws wg wl n c acc S = reW ws wg wl n c ac9 S) ∧ PIT9 rg gm2 sl ac9 ∧ RR wg wl S sg2 gm2 ∧ (sg2 51).toInt = 0 ∧ KPS gm gm2 sl
theorem LP_0 {i : Int32} (h6 : (wg 25 c).toInt = 6) (hp : PT9 wg wl rg gm (zO S) c sl acc) (hi : i.toInt = (acc.length : Int)) (hR : RR wg wl S sg gm) (h5 : (sg 51).toInt = 0) : LP9 ws wg wl rg c sl acc S gm sg gm i := by
  rcases hp with q | q
  · exact ⟨acc, hi.symm, q.2.1, fun _ => rfl, q.2.2, hR, h5, KPS_rf⟩
  · exact absurd h6 q.1
theorem LP_k {i : Int32} (h : LP9 ws wg wl rg c sl acc S gm sg1 gm1 i) (hR : RR wg wl S sg2 gm2) (h5 : sg2 51 = sg1 51) (h0 : gm2 70 = gm1 70) (h1 : gm2 71 = gm1 71) (h2 : gm2 72 = gm1 72) (h3 : gm2 73 = gm1 73) : LP9 ws wg wl rg c sl acc S gm sg2 gm2 i := by
  obtain ⟨ac9, a, b, d, f, _, g, k⟩ := h
  exact ⟨ac9, a, b, d, PIT_k f h2 h3, hR, by rw [h5]; exact g, KPS_k k h0 h1 h2 h3⟩
theorem LS_k {k i : Int32} (hL : LSB ws wg wl rs rg lg c) (h : LP9 ws wg wl rg c sl acc S gm sg1 gm1 i) (hk : k = chF rs rg (nI c) i.toNatClampNeg) (hv : iv 0 79 k) : (itC wg c)[i.toNatClampNeg]? = some k.toNatClampNeg ∧ WKB ws wg wl rs rg lg k.toNatClampNeg := by
  obtain ⟨ac9, a, b, _⟩ := h
  have c1 := cln9 (u := i) (by omega)
  have hlt : i.toNatClampNeg < (itC wg c).length := by
    rcases Nat.lt_or_ge i.toNatClampNeg (itC wg c).length with q | q
    · exact q
    · have : i.toNatClampNeg = (itC wg c).length := by omega
      rw [this, hL.2.2.2.2.2] at hk
      rw [hk] at hv; exact absurd hv.1 (by decide)
  have q := hL.2.2.2.2.1 _ _ (List.getElem?_eq_getElem hlt)
  have e : k = nI ((itC wg c)[i.toNatClampNeg]'hlt) := hk.trans q.1
  have e2 : k.toNatClampNeg = (itC wg c)[i.toNatClampNeg]'hlt := by
    have h1 := cln9 hv.1
    have h2 := nI_toInt (n := (itC wg c)[i.toNatClampNeg]'hlt) (by omega)
    rw [← e] at h2; omega
  rw [e2]
  exact ⟨List.getElem?_eq_getElem hlt, q.2.2⟩
/-- the next item is there -/
theorem LP_s {i i2 r : Int32} (h6 : (wg 25 c).toInt = 6) (h : LP9 ws wg wl rg c sl acc S gm sg1 gm1 i) (he : (itC wg c)[i.toNatClampNeg]? = some e) (hf : FWK ws wg wl rg S e sl i sg1 gm1 sg2 gm2 r) (hr : ¬ r.toInt = 0) (hi : i2.toInt = i.toInt + 1) (h5 : i.toInt ≤ 5) : LP9 ws wg wl rg c sl acc S gm sg2 gm2 i2 := by
  obtain ⟨ac9, a, b, d, f, _, g, k⟩ := h
  have c1 := cln9 (u := i) (by omega)
  have hl : i.toNatClampNeg < (itC wg c).length := (List.getElem?_eq_some_iff.mp he).1
  rcases hf with ⟨h1, h2, h3, h4, k9, v9, h7⟩ | q | q
  · rcases h4 with ⟨q, _⟩ | ⟨_, x, q1, q2⟩
    · omega
    · refine ⟨ac9 ++ [x], by rw [List.length_append]; show ((ac9.length + 1 : Nat) : Int) = _; omega, by rw [List.length_append]; show ac9.length + 1 ≤ _; omega, fun n => ?_, PIT_s f h7 a.symm q2, h3, h2, KPS_tr k (KPS_8 h7 h5)⟩
      rw [d n, reW_6 h6, reW_6 h6, show ac9.length = i.toNatClampNeg by omega, dro9 he, oIts_v (q1 n), List.length_append, show ac9.length + [x].length = i.toNatClampNeg + 1 by show ac9.length + 1 = _; omega]
  · exact absurd q.1 hr
  · exact absurd q.1 hr
/-- an item fails, or waits -/
theorem WO_i {i r : Int32} (h6 : (wg 25 c).toInt = 6) (h : LP9 ws wg wl rg c sl acc S gm sg1 gm1 i) (he : (itC wg c)[i.toNatClampNeg]? = some e) (hf : FWK ws wg wl rg S e sl i sg1 gm1 sg2 gm2 r) (hr : r.toInt = 0) (h41 : sg1 41 = sg 41) (h63 : sg1 63 = sg 63) (h64 : gm1 64 = gm 64) (h68 : gm1 68 = gm 68) (h67 : (sg2 51).toInt = 0 → (gm2 67 (TOPn sg)).toInt = i.toInt) : WO9 ws wg wl rg c sl acc S sg gm sg2 gm2 r := by
  obtain ⟨ac9, a, b, d, f, _, g, k⟩ := h
  have c1 := cln9 (u := i) (by omega)
  have hl : i.toNatClampNeg < (itC wg c).length := (List.getElem?_eq_some_iff.mp he).1
  have hre : ∀ n, reW ws wg wl n c acc S = oIts ws wg wl (oMK ws wg wl n) (e :: (itC wg c).drop (i.toNatClampNeg + 1)) ac9 S := fun n => by
    rw [d n, reW_6 h6, show ac9.length = i.toNatClampNeg by omega, dro9 he]
  rcases hf with q | ⟨h1, h2, h3, h4, h5⟩ | ⟨h1, h2, h3, h4, t, h5, h7, h8, h9, hA, hB, hC⟩
  · rw [hr] at q; exact absurd q.1 (by decide)
  · exact Or.inr (Or.inl ⟨hr, h2, h3, fun n => (hre n).trans (oIts_f (oItm_f h4 (h5 n)))⟩)
  · refine Or.inr (Or.inr ⟨hr, h3, KPS_tr k (KPS_4 h2), t, ac9, h5, by rw [← h41]; exact h7, h8, h9, Or.inl ⟨h6, by omega⟩, fun n => ?_, by rw [h67 h3]; exact a.symm, Or.inl ⟨h6, b, PIT_k f h2.2.2.1 h2.2.2.2⟩, by rw [hB, h64, h63], by rw [hC, h68, h63]⟩)
    rw [hre n, oIts_p h4 (hA n)]
    congr 1
    funext o S2
    rw [reW_6 h6, List.length_append, show ac9.length + [dlI wg c o].length = i.toNatClampNeg + 1 by show ac9.length + 1 = _; omega]
    unfold dlI; rw [if_pos h6]
/-- all items are there -/
theorem WO_e {i r w : Int32} (hL : LSB ws wg wl rs rg lg c) (h : LP9 ws wg wl rg c sl acc S gm sg1 gm1 i) (hk : chF rs rg (nI c) i.toNatClampNeg = -1) (hr : r.toInt = 1) (hR : RR wg wl S sg2 gm2) (h5 : sg2 51 = sg1 51) (h0 : gm2 70 = upd (gm1 70) sl 3) (h1 : gm2 71 = upd (gm1 71) sl w) (h2 : gm2 72 = gm1 72) (h3 : gm2 73 = gm1 73) (hw : w = rg 29 c) : WO9 ws wg wl rg c sl acc S sg gm sg2 gm2 r := by
  obtain ⟨ac9, a, b, d, f, _, g, k⟩ := h
  obtain ⟨h6, l1, l2, l3, l4, _⟩ := hL
  have c1 := cln9 (u := i) (by omega)
  have hl : ac9.length = (itC wg c).length := by
    rcases Nat.lt_or_ge ac9.length (itC wg c).length with q | q
    · have q2 := l4 _ _ (List.getElem?_eq_getElem q)
      rw [show i.toNatClampNeg = ac9.length by omega, q2.1] at hk
      have := nI_toInt (n := (itC wg c)[ac9.length]'q) (by have := q2.2.1; omega)
      rw [hk] at this
      exact absurd this (by have := q2.2.1; intro q9; have q8 : (-1 : Int) = ((itC wg c)[ac9.length]'q : Int) := q9; omega)
    · omega
  have hks : KPS gm1 gm2 sl := ⟨fun j hj => ⟨by rw [h0, upd_ne hj], by rw [h1, upd_ne hj]⟩, fun j _ => ⟨by rw [h2], by rw [h3]⟩⟩
  refine Or.inl ⟨hr, by rw [h5]; exact g, hR, KPS_tr k hks, ac9, fun n => ?_, Or.inr (Or.inr (Or.inl ⟨h6, by rw [h0, upd_at]; rfl, by rw [h1, upd_at, hw]; exact l1⟩)), fun _ => ⟨by omega, by omega, ?_⟩⟩
  · rw [d n, reW_6 h6, hl, List.drop_length]; rfl
  · intro j x hx
    exact PIT_k f h2 h3 j x hx
theorem WO_r {r r2 : Int32} (h : WO9 ws wg wl rg c sl acc S sg gm sg2 gm2 r) (e : r2.toInt = r.toInt) : WO9 ws wg wl rg c sl acc S sg gm sg2 gm2 r2 := by unfold WO9 at *; rw [e]; exact h
theorem WKB_6 (h : WKB ws wg wl rs rg lg c) : ¬ (wg 25 c).toInt = 6 := by
  by_cases hv : hva9 rg lg c
  · have := (h.1 hv).1; omega
  · by_cases h7 : rg 26 c = 7
    · have := (h.2.1 hv h7).1; omega
    · by_cases h9 : rg 26 c = 9
      · have := h.2.2.1 hv h9; omega
      · by_cases h3 : rg 26 c = 3
        · have := (h.2.2.2.1 hv h3).1; omega
        · have := (h.2.2.2.2 hv h7 h9 h3).1; omega
theorem WK_67 {r : Int32} (hw : WRK sg1 gm1 sg2 gm2 r) (hr : r.toInt = 0) (h63 : sg1 63 = sg 63) (hh1 : 1 ≤ (sg 63).toInt) (h0 : (sg2 51).toInt = 0) : gm2 67 (TOPn sg) = gm1 67 (TOPn sg) := by
  rcases hw with q | ⟨_, q | ⟨b, q⟩⟩
  · rw [hr] at q; exact absurd q.1 (by decide)
  · omega
  · have c1 := cln9 (u := sg 63) (by omega)
    rw [q.2.2.2.2.2.1, h63, upd_ne (by unfold TOPn; omega)]
end WP9
end
section
set_option maxHeartbeats 4000000 in
set_option maxRecDepth 100000 in
theorem f_workedOut9 (l : Launch) (dC : Nat → ClassId) (dI : Nat → Nat → Nat) (h0 : Nat) (ad : Nat → Nat) (cid : Nat → ClassId) (sg : Nat → Int32) (gm : Nat → Nat → Int32) (lg : Nat → Nat → Int64) (x : Int32) (sl : Int32) (ws : Nat → Int32) (wg : Nat → Nat → Int32) (wl : Nat → Nat → Int64) (rs : Nat → Int32) (rg : Nat → Nat → Int32) (S : S9) (ACC : List Int) (hI : MI sg gm) (hvx : iv 0 79 x) (hvsl : iv 0 404 sl) (hdoc : DOC sg gm lg) (hxe : x.toNatClampNeg < (sg 24).toNatClampNeg) (hgi : GI0 sg gm lg) (hpi : PIL sg gm) (hh1 : 1 ≤ (sg 63).toInt) (hxk : (gm 26 x.toNatClampNeg).toInt = 4 ∨ (gm 26 x.toNatClampNeg).toInt = 5) (hit : (gm 67 (TOPn sg)).toInt ≤ LIM sg gm x) (hRW : rt9 gm = rg) (hRS : rs9 sg = rs) (hBR : BRG ws wg wl rs rg lg) (hRR : RR wg wl S sg gm) (hHL : HLB ws wg wl rs rg lg x.toNatClampNeg) (hPT : PT9 wg wl rg gm (zO S) (ctE wg x.toNatClampNeg) sl.toNatClampNeg ACC) (hAL : (gm 67 (TOPn sg)).toInt = (ACC.length : Int)) (hWF : WF9 S) (h510 : (sg 51).toInt = 0) : MMi l dC dI yX13_workedOut wm_X13_workedOut ({ frames := 5, cells := 0, slots := 0, locals := 128 }) h0 ad cid [.int x, .int sl] sg gm lg (fun r v => ∃ (sg2 : Nat → Int32) (gm2 : Nat → Nat → Int32) (lg2 : Nat → Nat → Int64), v = (sg2, gm2, lg2) ∧ MI sg2 gm2 ∧ KS [51, 52, 63, 74] sg sg2 ∧ KS [62, 64, 65, 66, 67, 68, 69, 70, 71, 72, 73] gm gm2 ∧ KS [] lg lg2 ∧ (iv 0 1 r) ∧ (GI0 sg2 gm2 lg2) ∧ (WOUT sg gm (LIM sg gm x) sg2 gm2 r) ∧ (WO9 ws wg wl rg (ctE wg x.toNatClampNeg) sl.toNatClampNeg ACC S sg gm sg2 gm2 r)) := by
  intro sz
  refine Met.ofW (cc := cX13_workedOut) (maxL := 8) (ret := (some .boolean)) (by decide) rfl ?_
  intro p e s m args below meth c s₁ B hml hv
  obtain ⟨rfl, hsz, hP, hK, hD0⟩ := hv
  have hx := B.exec
  have hb := B.bytes
  have hr := B.returns
  have hts := atoms_spec (ws := wm_X13_workedOut) B.pre
  have htb := fun (w : Cond) (h : w ∈ tb) => hts w (List.mem_cons_of_mem _ h)
  have hown : s.vm.findClass RX13 = some m.cls := findClass_of_methodNamed B.named
  have hlocks := B.notSynchronized
  subst hsz
  have hD := hD0.self (sz := s.heap.size)
  generalize hAe : va_A (mW h0 ad cid sg gm lg) s.heap.size = A at hD ⊢
  have hA : ∀ q : Nat, s.heap.size ≤ q → A q := fun q h => by rw [← hAe]; exact Or.inr h
  have hS : va_S A s.heap s.heap [] := va_S.rf
  have hl := lv_entry ([.ref h0, .int x, .int sl]) (n := 8) (Nat.le_of_ble_eq_true rfl)
  rw [lg_entry_eq]
  generalize (lg_sl ([.ref h0, .int x, .int sl]) ++ List.replicate (8 - (lg_sl ([.ref h0, .int x, .int sl])).length) Slot.unset).toArray = ls at hl ⊢
  have hl : lv_has ls 8 [(0, .ref h0), (1, .int x), (2, .int sl)] := hl
  have h63 : iv 1 80 (sg 63) := ⟨hh1, (show iv 0 80 (sg 63) from MI_s hI 63).2⟩
  have hj126 : ∀ (n : Nat) (sg_j126 : Nat → Int32) (gm_j126 : Nat → Nat → Int32) (x7_126 : Int32) (x6_126 : Int32) (x5_126 : Int32) (x4_126 : Int32) (x3_126 : Int32) (_ : mE x6_126 = n) (_ : iv 0 6 x7_126) (_ : iv (-1) 79 x6_126) (_ : iv 0 6 x5_126) (_ : iv 0 79 x4_126) (_ : iv 0 79 x3_126) (_ : iv 0 79 x) (_ : iv 0 404 sl) (_ : KS [51, 52, 63, 74] sg sg_j126) (_ : KS [62, 64, 65, 66, 67, 68, 69, 70, 71, 72, 73] gm gm_j126) (_ : MI sg_j126 gm_j126) (_ : LST sg gm x x4_126) (_ : x3_126.toNatClampNeg = TOPn sg) (_ : x6_126 = chF sg gm x4_126 x5_126.toNatClampNeg) (_ : (gm 67 (TOPn sg)).toInt ≤ x5_126.toInt ∧ x5_126.toInt ≤ (gm 29 x4_126.toNatClampNeg).toInt) (_ : SAMEQ sg gm sg_j126 gm_j126) (_ : gm_j126 67 (TOPn sg) = x5_126) (_ : GI0 sg_j126 gm_j126 lg) (_ : ctE wg x.toNatClampNeg = x4_126.toNatClampNeg) (_ : LSB ws wg wl rs rg lg (ctE wg x.toNatClampNeg)) (_ : LP9 ws wg wl rg (ctE wg x.toNatClampNeg) sl.toNatClampNeg ACC S gm sg_j126 gm_j126 x5_126) (H : Heap) (locs : List Loc) (ls : Array Slot), va_P (dC, dI) vwCl (mW h0 ad cid sg_j126 gm_j126 lg) H → va_D A (mW h0 ad cid sg_j126 gm_j126 lg) → va_S A s.heap H locs → lv_has ls 8 [(7, .int x7_126), (6, .int x6_126), (5, .int x5_126), (4, .int x4_126), (3, .int x3_126), (0, .ref h0), (1, .int x), (2, .int sl)] → W p l e (headSpec wm_X13_workedOut ({ frames := 5, cells := 0, slots := 0, locals := 128 })).room s m ([.ref h0, .int x, .int sl] : List Value).toArray below meth c H locs 0 0 (MQ below (va_Qi (fun r v => ∃ (sg2 : Nat → Int32) (gm2 : Nat → Nat → Int32) (lg2 : Nat → Nat → Int64), v = (sg2, gm2, lg2) ∧ MI sg2 gm2 ∧ KS [51, 52, 63, 74] sg sg2 ∧ KS [62, 64, 65, 66, 67, 68, 69, 70, 71, 72, 73] gm gm2 ∧ KS [] lg lg2 ∧ (iv 0 1 r) ∧ (GI0 sg2 gm2 lg2) ∧ (WOUT sg gm (LIM sg gm x) sg2 gm2 r) ∧ (WO9 ws wg wl rg (ctE wg x.toNatClampNeg) sl.toNatClampNeg ACC S sg gm sg2 gm2 r)) (MB dC dI h0 ad cid A) A) ([.ref h0, .int x, .int sl] : List Value).toArray s 0 0 A) (F0 m 126 ls []) := by
    intro n
    induction n using Nat.strongRecOn with
    | ind n ih126 =>
      intro sg_j126 gm_j126 x7_126 x6_126 x5_126 x4_126 x3_126 hn126 hx7_126 hx6_126 hx5_126 hx4_126 hx3_126 hsx1_126 hsx2_126 hks_j126 hkg_j126 hI_j126 hLS htop hk9 hil hsq h67 hgi hct hLB hL9 H locs ls hP hD hS hl
      refine lv_iload hx hb dX13_workedOut_126 (lv_at hl 1 rfl) ?_
      refine lv_iconst (v := (-1)) hx hb dX13_workedOut_128 (by decide) ?_
      refine lv_icmp_eq (tgt := 171) hx hb dX13_workedOut_129 (by decide) (fun c_1 => ?_) (fun c_1 => ?_)
      · have h_2 : iv (-1) (-1) x6_126 := iv_eq c_1 hx6_126 (iv_k (by decide) : iv (-1) (-1) (-1)) (by decide)
        refine lv_aload_n hx hb dX13_workedOut_171 rfl (lv_at hl 5 rfl) ?_
        refine mr_get (v := .ref (ad 70)) hx hb htb inX13 hown hK hP 70 (by decide) (htb _ kw_219) rfl dX13_workedOut_172 ?_
        refine lv_iload_n hx hb dX13_workedOut_175 rfl (lv_at hl 7 rfl) ?_
        refine lv_iconst (v := 3) hx hb dX13_workedOut_176 (by decide) ?_
        refine ma_iast (x := 3) hx hb hK hP hD hS 55 (k := 70) rfl rfl rfl (show vp_in sl 405 from (iv_in hsx2_126 (by decide))) dX13_workedOut_177 (fun gm_3 H locs egm_3 hP hD hS => ?_)
        have hI_gm_3 := MI_st hI_j126 egm_3 (iv_k (by decide) : iv 3 3 3) (by decide)
        refine lv_aload_n hx hb dX13_workedOut_178 rfl (lv_at hl 5 rfl) ?_
        refine mr_get (v := .ref (ad 71)) hx hb htb inX13 hown hK hP 71 (by decide) (htb _ kw_220) rfl dX13_workedOut_179 ?_
        refine lv_iload_n hx hb dX13_workedOut_182 rfl (lv_at hl 7 rfl) ?_
        refine lv_aload_n hx hb dX13_workedOut_183 rfl (lv_at hl 5 rfl) ?_
        refine mr_get (v := .ref (ad 29)) hx hb htb inX13 hown hK hP 29 (by decide) (htb _ kw_185) rfl dX13_workedOut_184 ?_
        refine lv_iload hx hb dX13_workedOut_187 (lv_at hl 3 rfl) ?_
        refine mr_iald hx hb hK hP 22 (k := 29) rfl rfl rfl (show vp_in x4_126 80 from (iv_in hx4_126 (by decide))) dX13_workedOut_189 ?_
        refine lv_topi (fun z_4 ez_4 => ?_)
        have hz_4 : iv 0 80 z_4 := iv_of ez_4 (MI_a hI_gm_3 29 hx4_126 (by decide))
        have ez_4 := ez_4.trans (congrFun (Eq.trans (up_ne egm_3 (by decide)) (hkg_j126 29 (by decide))) _)
        refine ma_iast (x := z_4) hx hb hK hP hD hS 56 (k := 71) rfl rfl rfl (show vp_in sl 405 from (iv_in hsx2_126 (by decide))) dX13_workedOut_190 (fun gm_5 H locs egm_5 hP hD hS => ?_)
        have hI_gm_5 := MI_st hI_gm_3 egm_5 hz_4 (by decide)
        refine lv_iconst (v := 1) hx hb dX13_workedOut_191 (by decide) ?_
        exact W.zret (v := 1) hx hb hr (iv_nb (iv_w (iv_k (by decide) : iv 1 1 1) (by decide))) (fun t ht hW => ⟨⟨1, (sg_j126, gm_5, lg), rfl, ⟨sg_j126, gm_5, lg, rfl, hI_gm_5, (KS_tr (L := [51, 52, 63, 74]) KS_rf hks_j126 (by decide)), (KS_up (KS_up (KS_tr (L := [62, 64, 65, 66, 67, 68, 69, 70, 71, 72, 73]) KS_rf hkg_j126 (by decide)) egm_3 (by decide)) egm_5 (by decide)), KS_rf, (iv_w (iv_k (by decide) : iv 1 1 1) (by decide)), (GI0_k hgi (DK_of (show KS [] sg_j126 sg_j126 from KS_rf) (show KS [70, 71] gm_j126 gm_5 from (KS_up (KS_up KS_rf egm_3 (by decide)) egm_5 (by decide))) (show KS [] lg lg from KS_rf) (by decide) (by decide) (by decide)) ((show KS [] lg lg from KS_rf) 1 (by decide)) ((show KS [70, 71] gm_j126 gm_5 from (KS_up (KS_up KS_rf egm_3 (by decide)) egm_5 (by decide))) 60 (by decide)) ((show KS [70, 71] gm_j126 gm_5 from (KS_up (KS_up KS_rf egm_3 (by decide)) egm_5 (by decide))) 61 (by decide)) ((show KS [70, 71] gm_j126 gm_5 from (KS_up (KS_up KS_rf egm_3 (by decide)) egm_5 (by decide))) 62 (by decide)) (VAL_v hgi.1 (show gm_5 70 = upd (gm_j126 70) (sl : Int32).toNatClampNeg 3 from ((up_ne egm_5 (by decide)).trans ((up_at egm_3).trans (by rw [show gm_j126 70 = gm_j126 70 from rfl])))) (show gm_5 71 = upd (gm_j126 71) (sl : Int32).toNatClampNeg z_4 from ((up_at egm_5).trans (by rw [show gm_3 71 = gm_j126 71 from ((up_ne egm_3 (by decide)).trans rfl)]))) ((show KS [70, 71] gm_j126 gm_5 from (KS_up (KS_up KS_rf egm_3 (by decide)) egm_5 (by decide))) 72 (by decide)) ((show KS [70, 71] gm_j126 gm_5 from (KS_up (KS_up KS_rf egm_3 (by decide)) egm_5 (by decide))) 73 (by decide)) rfl (vok_3 (by rw [ez_4]; exact hLS.2.2.2))) ((show KS [] sg_j126 sg_j126 from KS_rf) 50 (by decide))), (Or.inl ⟨rfl, SAMEQ_v hsq ((show KS [70, 71] gm_j126 gm_5 from (KS_up (KS_up KS_rf egm_3 (by decide)) egm_5 (by decide))) 62 (by decide)) ((show KS [70, 71] gm_j126 gm_5 from (KS_up (KS_up KS_rf egm_3 (by decide)) egm_5 (by decide))) 64 (by decide)) ((show KS [70, 71] gm_j126 gm_5 from (KS_up (KS_up KS_rf egm_3 (by decide)) egm_5 (by decide))) 65 (by decide)) ((show KS [70, 71] gm_j126 gm_5 from (KS_up (KS_up KS_rf egm_3 (by decide)) egm_5 (by decide))) 66 (by decide)) ((show KS [70, 71] gm_j126 gm_5 from (KS_up (KS_up KS_rf egm_3 (by decide)) egm_5 (by decide))) 67 (by decide)) ((show KS [70, 71] gm_j126 gm_5 from (KS_up (KS_up KS_rf egm_3 (by decide)) egm_5 (by decide))) 68 (by decide)) ((show KS [70, 71] gm_j126 gm_5 from (KS_up (KS_up KS_rf egm_3 (by decide)) egm_5 (by decide))) 69 (by decide))⟩), ((WO_e hLB hL9 (by rw [hct, nI_c hLS.1, chF_k9 (DK_r (lg := lg) hRW hRS)]; exact (hk9.symm.trans c_1)) rfl (by obtain ⟨_, _, _, _, _, q9, _⟩ := id hL9; exact RR_ks (L := []) (M := [70, 71]) q9 KS_rf (show KS [70, 71] gm_j126 gm_5 from (KS_up (KS_up KS_rf egm_3 (by decide)) egm_5 (by decide))) (by decide) (by decide)) rfl (show gm_5 70 = upd (gm_j126 70) (sl : Int32).toNatClampNeg 3 from ((up_ne egm_5 (by decide)).trans ((up_at egm_3).trans (by rw [show gm_j126 70 = gm_j126 70 from rfl])))) (show gm_5 71 = upd (gm_j126 71) (sl : Int32).toNatClampNeg z_4 from ((up_at egm_5).trans (by rw [show gm_3 71 = gm_j126 71 from ((up_ne egm_3 (by decide)).trans rfl)]))) ((show KS [70, 71] gm_j126 gm_5 from (KS_up (KS_up KS_rf egm_3 (by decide)) egm_5 (by decide))) 72 (by decide)) ((show KS [70, 71] gm_j126 gm_5 from (KS_up (KS_up KS_rf egm_3 (by decide)) egm_5 (by decide))) 73 (by decide)) (by rw [hct]; exact (rwz9 hRW (by decide) ez_4).symm)))⟩, by rw [ht]; exact hP, va_K.moved hW.alike hK, hD⟩, hS.F ht⟩) hS.2.2 dX13_workedOut_192
      · have h_6 : iv 0 79 x6_126 := iv_neL c_1 hx6_126 (by decide)
        obtain ⟨hc1, hc2, hc3⟩ := chF_lt hdoc.1.1 (show iv 0 80 (sg 24) from MI_s hI 24) hLS.1 hLS.2.1 hk9 c_1
        have h132 : iv 0 5 x5_126 := ⟨(hx5_126).1, by have := hLS.2.2.2; have := iv_cl hx5_126 (by decide); omega⟩
        have hit9 := LS_k (k := x6_126) hLB hL9 (by rw [hct, nI_c hLS.1, chF_k9 (DK_r (lg := lg) hRW hRS)]; exact hk9) hc2
        obtain ⟨_, _, _, _, _, hR9, h519, _⟩ := id hL9
        refine lv_aload_n hx hb dX13_workedOut_132 rfl (lv_at hl 5 rfl) ?_
        refine lv_iload hx hb dX13_workedOut_133 (lv_at hl 1 rfl) ?_
        refine lv_iload_n hx hb dX13_workedOut_135 rfl (lv_at hl 7 rfl) ?_
        refine lv_iload hx hb dX13_workedOut_136 (lv_at hl 2 rfl) ?_
        refine mr_calli (rest := []) ⟨hx, hb, hml, hown, htb⟩ (f_worked9 l dC dI h0 ad cid sg_j126 gm_j126 lg x6_126 sl x5_126 ws wg wl rs rg S hI_j126 hc2 hsx2_126 (iv_w h132 (by decide)) (DOC_of hdoc (show KS [51, 52, 63, 74] sg sg_j126 from (KS_tr (L := [51, 52, 63, 74]) KS_rf hks_j126 (by decide))) (show KS [62, 64, 65, 66, 67, 68, 69, 70, 71, 72, 73] gm gm_j126 from (KS_tr (L := [62, 64, 65, 66, 67, 68, 69, 70, 71, 72, 73]) KS_rf hkg_j126 (by decide))) (show KS [] lg lg from KS_rf) (by decide) (by decide) (by decide) (by decide)) (by rw [(hks_j126 24 (by decide))]; exact hc3) hgi (PIL_k hsq.1 (hks_j126 41 (by decide)) hsq.2.1 hsq.2.2.1 hpi) ((rt9_ks (L := [62, 64, 65, 66, 67, 68, 69, 70, 71, 72, 73]) (KS_tr (L := [62, 64, 65, 66, 67, 68, 69, 70, 71, 72, 73]) KS_rf hkg_j126 (by decide)) (by decide)).trans hRW) ((rs9_ks (L := [51, 52, 63, 74]) (KS_tr (L := [51, 52, 63, 74]) KS_rf hks_j126 (by decide)) rfl rfl).trans hRS) hBR hR9 hit9.2 hWF h519) (cwV 3 htb (gd_V kw_1192 kw_1193 kw_1194 kw_5 kw_1614) rfl rfl rfl (by decide +kernel) ⟨Nat.le_of_ble_eq_true rfl, Nat.le_of_ble_eq_true rfl⟩) rfl hl.1 rfl (Nat.le_of_ble_eq_true rfl) dX13_workedOut_138 ⟨Nat.zero_le _, Nat.zero_le _⟩ hK hP hD hS hA (fun r_7 u_8 H locs hw hP hD hS => ?_)
        obtain ⟨sgv_9, gmv_9, lgv_9, rfl, hIv_9, ksv_9, kgv_9, klv_9, hr_7, fGI_r_7, fWk_r_7, fW9_r_7⟩ := hw
        obtain rfl := KS_nil klv_9
        have hP : va_P (dC, dI) vwCl (mW h0 ad cid sgv_9 gmv_9 lg) H := hP
        have hD : va_D A (mW h0 ad cid sgv_9 gmv_9 lg) := hD
        refine lv_if_ne (tgt := 146) hx hb dX13_workedOut_141 (by decide) (fun c_10 => ?_) (fun c_10 => ?_)
        · have h_11 : iv 1 1 r_7 := iv_neL c_10 hr_7 (by decide)
          obtain ⟨z_12, ez_12⟩ : ∃ z : Int32, z = x5_126 + 1 := ⟨_, rfl⟩
          have hz_12 : iv 1 6 z_12 := iv_of ez_12 (iv_add h132 (iv_k (by decide) : iv 1 1 1) (by decide))
          have tz_12 : z_12.toInt = x5_126.toInt + 1 := by rw [ez_12]; exact iv_addE h132 (iv_k (by decide) : iv 1 1 1) (by decide)
          refine lv_iinc (v := z_12) (lv' := [(5, .int z_12), (7, .int x7_126), (6, .int x6_126), (4, .int x4_126), (3, .int x3_126), (0, .ref h0), (1, .int x), (2, .int sl)]) hx hb dX13_workedOut_146 hl (k := 2) rfl ez_12.symm (by decide) rfl (fun ls hl => ?_)
          have hLs : LP9 ws wg wl rg (ctE wg x.toNatClampNeg) sl.toNatClampNeg ACC S gm sgv_9 gmv_9 z_12 := LP_s hLB.1 hL9 hit9.1 fW9_r_7 (fun q9 => c_10 (Int32.toInt_inj.mp q9)) (by have := tz_12; omega) h132.2
          refine lv_aload_n hx hb dX13_workedOut_149 rfl (lv_at hl 5 rfl) ?_
          refine mr_get (v := .ref (ad 67)) hx hb htb inX13 hown hK hP 67 (by decide) (htb _ kw_216) rfl dX13_workedOut_150 ?_
          refine lv_iload_n hx hb dX13_workedOut_153 rfl (lv_at hl 4 rfl) ?_
          refine lv_iload hx hb dX13_workedOut_154 (lv_at hl 0 rfl) ?_
          refine ma_iast (x := z_12) hx hb hK hP hD hS 52 (k := 67) rfl rfl rfl (show vp_in x3_126 81 from (iv_in hx3_126 (by decide))) dX13_workedOut_156 (fun gm_13 H locs egm_13 hP hD hS => ?_)
          have hI_gm_13 := MI_st hIv_9 egm_13 hz_12 (by decide)
          refine lv_aload_n hx hb dX13_workedOut_157 rfl (lv_at hl 5 rfl) ?_
          refine lv_iload hx hb dX13_workedOut_158 (lv_at hl 3 rfl) ?_
          refine lv_iconst (v := 0) hx hb dX13_workedOut_160 (by decide) ?_
          refine lv_iload hx hb dX13_workedOut_161 (lv_at hl 2 rfl) ?_
          refine mr_calli (rest := []) ⟨hx, hb, hml, hown, htb⟩ (f_inner l dC dI h0 ad cid sgv_9 gm_13 lg x4_126 0 x6_126 hI_gm_13 (iv_w hx4_126 (by decide)) (iv_w (iv_k (by decide) : iv 0 0 0) (by decide)) hc2) (cwV 3 htb (gd_V kw_961 kw_962 kw_963 kw_5 kw_1557) rfl rfl rfl (by decide +kernel) ⟨Nat.le_of_ble_eq_true rfl, Nat.le_of_ble_eq_true rfl⟩) rfl hl.1 rfl (Nat.le_of_ble_eq_true rfl) dX13_workedOut_163 ⟨Nat.zero_le _, Nat.zero_le _⟩ hK hP hD hS hA (fun r_14 u_15 H locs hw hP hD hS => ?_)
          obtain ⟨hr_14, fN_r_14, rfl⟩ := hw
          have hP : va_P (dC, dI) vwCl (mW h0 ad cid sgv_9 gm_13 lg) H := hP
          have hD : va_D A (mW h0 ad cid sgv_9 gm_13 lg) := hD
          refine lv_istore (lv' := [(6, .int r_14), (5, .int z_12), (7, .int x7_126), (4, .int x4_126), (3, .int x3_126), (0, .ref h0), (1, .int x), (2, .int sl)]) hx hb dX13_workedOut_166 hl (by decide) rfl (fun ls hl => ?_)
          refine lv_goto (tgt := 126) hx hb dX13_workedOut_168 (by decide) ?_
          exact ih126 _ (by rw [← hn126]; exact (mE_lt hc2 hr_14 (by rcases mInn_or (gm := gm) (a := x4_126) (kd := 0) (bh := x6_126) (show iv 0 80 (sg 24) from MI_s hI 24) with q9 | q9; exact Or.inl ((fN_r_14.trans (mInn_k (DK_of (show KS [51, 52, 63, 74] sg sgv_9 from (KS_tr (L := [51, 52, 63, 74]) (KS_tr (L := [51, 52, 63, 74]) KS_rf hks_j126 (by decide)) ksv_9 (by decide))) (show KS [62, 64, 65, 66, 67, 68, 69, 70, 71, 72, 73] gm gm_13 from (KS_up (KS_tr (L := [62, 64, 65, 66, 67, 68, 69, 70, 71, 72, 73]) (KS_tr (L := [62, 64, 65, 66, 67, 68, 69, 70, 71, 72, 73]) KS_rf hkg_j126 (by decide)) kgv_9 (by decide)) egm_13 (by decide))) (show KS [] lg lg from KS_rf) (by decide) (by decide) (by decide)).1 _ _ _)).trans q9.1); exact Or.inr (by rw [fN_r_14.trans (mInn_k (DK_of (show KS [51, 52, 63, 74] sg sgv_9 from (KS_tr (L := [51, 52, 63, 74]) (KS_tr (L := [51, 52, 63, 74]) KS_rf hks_j126 (by decide)) ksv_9 (by decide))) (show KS [62, 64, 65, 66, 67, 68, 69, 70, 71, 72, 73] gm gm_13 from (KS_up (KS_tr (L := [62, 64, 65, 66, 67, 68, 69, 70, 71, 72, 73]) (KS_tr (L := [62, 64, 65, 66, 67, 68, 69, 70, 71, 72, 73]) KS_rf hkg_j126 (by decide)) kgv_9 (by decide)) egm_13 (by decide))) (show KS [] lg lg from KS_rf) (by decide) (by decide) (by decide)).1 _ _ _)]; exact q9.2.1)))) sgv_9 gm_13 x7_126 r_14 z_12 x4_126 x3_126 rfl hx7_126 hr_14 (iv_w hz_12 (by decide)) hx4_126 hx3_126 hsx1_126 hsx2_126 (KS_tr (L := [51, 52, 63, 74]) (KS_tr (L := [51, 52, 63, 74]) KS_rf hks_j126 (by decide)) ksv_9 (by decide)) (KS_up (KS_tr (L := [62, 64, 65, 66, 67, 68, 69, 70, 71, 72, 73]) (KS_tr (L := [62, 64, 65, 66, 67, 68, 69, 70, 71, 72, 73]) KS_rf hkg_j126 (by decide)) kgv_9 (by decide)) egm_13 (by decide)) hI_gm_13 (hLS) (htop) (by rw [s_cl h132 (by decide) tz_12]; exact chF_s hk9 c_1 (fN_r_14.trans (mInn_k (DK_of (show KS [51, 52, 63, 74] sg sgv_9 from (KS_tr (L := [51, 52, 63, 74]) (KS_tr (L := [51, 52, 63, 74]) KS_rf hks_j126 (by decide)) ksv_9 (by decide))) (show KS [62, 64, 65, 66, 67, 68, 69, 70, 71, 72, 73] gm gm_13 from (KS_up (KS_tr (L := [62, 64, 65, 66, 67, 68, 69, 70, 71, 72, 73]) (KS_tr (L := [62, 64, 65, 66, 67, 68, 69, 70, 71, 72, 73]) KS_rf hkg_j126 (by decide)) kgv_9 (by decide)) egm_13 (by decide))) (show KS [] lg lg from KS_rf) (by decide) (by decide) (by decide)).1 _ _ _))) (⟨by have := hil.1; have := tz_12; omega, by have := tz_12; have := iv_cl h132 (by decide); omega⟩) (SAMEQ_u (SAMEQ_p hsq (WRK_1 fWk_r_7 (fun q9 => c_10 (Int32.toInt_inj.mp q9)))) (show gm_13 67 = upd (gmv_9 67) _ _ from up_at egm_13) htop ((show KS [67] gmv_9 gm_13 from (KS_up KS_rf egm_13 (by decide))) 62 (by decide)) ((show KS [67] gmv_9 gm_13 from (KS_up KS_rf egm_13 (by decide))) 64 (by decide)) ((show KS [67] gmv_9 gm_13 from (KS_up KS_rf egm_13 (by decide))) 65 (by decide)) ((show KS [67] gmv_9 gm_13 from (KS_up KS_rf egm_13 (by decide))) 66 (by decide)) ((show KS [67] gmv_9 gm_13 from (KS_up KS_rf egm_13 (by decide))) 68 (by decide)) ((show KS [67] gmv_9 gm_13 from (KS_up KS_rf egm_13 (by decide))) 69 (by decide))) (by rw [show gm_13 67 = upd (gmv_9 67) _ _ from up_at egm_13, htop, upd_at]) (GI0_of fGI_r_7 (show KS [] sgv_9 sgv_9 from KS_rf) (show KS [67] gmv_9 gm_13 from (KS_up KS_rf egm_13 (by decide))) (show KS [] lg lg from KS_rf) (by decide) (by decide) (by decide) (by decide) (by decide) (by decide)) (hct) (hLB) ((LP_k hLs (by obtain ⟨_, _, _, _, _, q9, _⟩ := id hLs; exact RR_ks (L := []) (M := [67]) q9 KS_rf (show KS [67] gmv_9 gm_13 from (KS_up KS_rf egm_13 (by decide))) (by decide) (by decide)) rfl ((show KS [67] gmv_9 gm_13 from (KS_up KS_rf egm_13 (by decide))) 70 (by decide)) ((show KS [67] gmv_9 gm_13 from (KS_up KS_rf egm_13 (by decide))) 71 (by decide)) ((show KS [67] gmv_9 gm_13 from (KS_up KS_rf egm_13 (by decide))) 72 (by decide)) ((show KS [67] gmv_9 gm_13 from (KS_up KS_rf egm_13 (by decide))) 73 (by decide)))) _ _ _ hP hD hS (lv_sub hl [2, 0, 1, 3, 4, 5, 6, 7] rfl)
        · have h_16 : iv 0 0 r_7 := iv_eq c_10 hr_7 (iv_k (by decide) : iv 0 0 0) (by decide)
          refine lv_iconst (v := 0) hx hb dX13_workedOut_144 (by decide) ?_
          exact W.zret (v := 0) hx hb hr (iv_nb (iv_w (iv_k (by decide) : iv 0 0 0) (by decide))) (fun t ht hW => ⟨⟨0, (sgv_9, gmv_9, lg), rfl, ⟨sgv_9, gmv_9, lg, rfl, hIv_9, (KS_tr (L := [51, 52, 63, 74]) (KS_tr (L := [51, 52, 63, 74]) KS_rf hks_j126 (by decide)) ksv_9 (by decide)), (KS_tr (L := [62, 64, 65, 66, 67, 68, 69, 70, 71, 72, 73]) (KS_tr (L := [62, 64, 65, 66, 67, 68, 69, 70, 71, 72, 73]) KS_rf hkg_j126 (by decide)) kgv_9 (by decide)), KS_rf, (iv_w (iv_k (by decide) : iv 0 0 0) (by decide)), (fGI_r_7), (by have q7 := WOUT_0 (lim := LIM sg gm x) hsq (hks_j126 41 (by decide)) fWk_r_7 (congrArg Int32.toInt c_10) (by rw [h67]; exact hil.1) (by rw [h67, hLS.2.2.1]; have := iv_cl h132 (by decide); omega); rw [c_10] at q7; exact q7), ((by have q7 := WO_i hLB.1 hL9 hit9.1 fW9_r_7 (congrArg Int32.toInt c_10) (hks_j126 41 (by decide)) hsq.1 hsq.2.2.1 hsq.2.2.2.2.2.1 (fun q2 => (congrArg Int32.toInt (WK_67 fWk_r_7 (congrArg Int32.toInt c_10) hsq.1 hh1 q2)).trans (congrArg Int32.toInt h67)); rw [c_10] at q7; exact q7))⟩, by rw [ht]; exact hP, va_K.moved hW.alike hK, hD⟩, hS.F ht⟩) hS.2.2 dX13_workedOut_145
  have hj102 : ∀ (n : Nat) (x7_102 : Int32) (x6_102 : Int32) (x5_102 : Int32) (x4_102 : Int32) (x3_102 : Int32) (_ : (6 - x7_102.toInt).toNat = n) (_ : iv 0 6 x7_102) (_ : iv (-1) 79 x6_102) (_ : iv 0 6 x5_102) (_ : iv 0 79 x4_102) (_ : iv 0 79 x3_102) (_ : iv 0 79 x) (_ : iv 0 404 sl) (_ : LST sg gm x x4_102) (_ : x3_102.toNatClampNeg = TOPn sg) (_ : x6_102 = chF sg gm x4_102 x7_102.toNatClampNeg) (_ : x7_102.toInt ≤ x5_102.toInt) (_ : x5_102.toInt ≤ (gm 29 x4_102.toNatClampNeg).toInt) (_ : gm 67 (TOPn sg) = x5_102) (_ : ctE wg x.toNatClampNeg = x4_102.toNatClampNeg) (_ : LSB ws wg wl rs rg lg (ctE wg x.toNatClampNeg)) (H : Heap) (locs : List Loc) (ls : Array Slot), va_P (dC, dI) vwCl (mW h0 ad cid sg gm lg) H → va_D A (mW h0 ad cid sg gm lg) → va_S A s.heap H locs → lv_has ls 8 [(7, .int x7_102), (6, .int x6_102), (5, .int x5_102), (4, .int x4_102), (3, .int x3_102), (0, .ref h0), (1, .int x), (2, .int sl)] → W p l e (headSpec wm_X13_workedOut ({ frames := 5, cells := 0, slots := 0, locals := 128 })).room s m ([.ref h0, .int x, .int sl] : List Value).toArray below meth c H locs 0 0 (MQ below (va_Qi (fun r v => ∃ (sg2 : Nat → Int32) (gm2 : Nat → Nat → Int32) (lg2 : Nat → Nat → Int64), v = (sg2, gm2, lg2) ∧ MI sg2 gm2 ∧ KS [51, 52, 63, 74] sg sg2 ∧ KS [62, 64, 65, 66, 67, 68, 69, 70, 71, 72, 73] gm gm2 ∧ KS [] lg lg2 ∧ (iv 0 1 r) ∧ (GI0 sg2 gm2 lg2) ∧ (WOUT sg gm (LIM sg gm x) sg2 gm2 r) ∧ (WO9 ws wg wl rg (ctE wg x.toNatClampNeg) sl.toNatClampNeg ACC S sg gm sg2 gm2 r)) (MB dC dI h0 ad cid A) A) ([.ref h0, .int x, .int sl] : List Value).toArray s 0 0 A) (F0 m 102 ls []) := by
    intro n
    induction n using Nat.strongRecOn with
    | ind n ih102 =>
      intro x7_102 x6_102 x5_102 x4_102 x3_102 hn102 hx7_102 hx6_102 hx5_102 hx4_102 hx3_102 hsx1_102 hsx2_102 hLS htop hk9 hn5 h5l h5e hct hLB H locs ls hP hD hS hl
      refine lv_iload hx hb dX13_workedOut_102 (lv_at hl 0 rfl) ?_
      refine lv_iload hx hb dX13_workedOut_104 (lv_at hl 2 rfl) ?_
      refine lv_icmp_ge (tgt := 126) hx hb dX13_workedOut_106 (by decide) (fun c_17 => ?_) (fun c_17 => ?_)
      · have d_18 : (x5_102 : Int32).toInt ≤ (x7_102 : Int32).toInt := Int32.le_iff_toInt_le.mp c_17
        exact hj126 _ sg gm x7_102 x6_102 x5_102 x4_102 x3_102 rfl hx7_102 hx6_102 hx5_102 hx4_102 hx3_102 hsx1_102 hsx2_102 KS_rf KS_rf hI (hLS) (htop) (by have q9 : x7_102.toNatClampNeg = x5_102.toNatClampNeg := (by have := le_cl hx7_102 hx5_102 (by decide) (by decide) hn5; have := le_cl hx5_102 hx7_102 (by decide) (by decide) (by have := i32_0; have := i32_1; have := i32_2; have := i32_m1; have := (hsx1_102).1; have := (hsx1_102).2; have := (hsx2_102).1; have := (hsx2_102).2; have := (h63).1; have := (h63).2; have := (hx7_102).1; have := (hx7_102).2; have := (hx6_102).1; have := (hx6_102).2; have := (hx5_102).1; have := (hx5_102).2; have := (hx4_102).1; have := (hx4_102).2; have := (hx3_102).1; have := (hx3_102).2; omega); omega); rw [← q9]; exact hk9) (⟨by rw [h5e]; exact Int.le_refl _, h5l⟩) (SAMEQ_rf) (h5e) (hgi) (hct) (hLB) ((LP_0 hLB.1 hPT (by rw [← h5e]; exact hAL) hRR h510)) _ _ _ hP hD hS (lv_sub hl [0, 1, 2, 3, 4, 5, 6, 7] rfl)
      · have d_19 : (x7_102 : Int32).toInt < (x5_102 : Int32).toInt := Int32.lt_iff_toInt_lt.mp (i32_lt c_17)
        have h_20 : iv 0 5 x7_102 := iv_ltL (i32_lt c_17) hx7_102 hx5_102 (by decide)
        have h_21 : iv 1 6 x5_102 := iv_ltR (i32_lt c_17) hx7_102 hx5_102 (by decide)
        have h109 := (chF_in hdoc.1.1 (show iv 0 80 (sg 24) from MI_s hI 24) hLS.1 hLS.2.1 hk9 (by have := iv_cl h_20 (by decide); have := i32_0; have := i32_1; have := i32_2; have := i32_m1; have := (hsx1_102).1; have := (hsx1_102).2; have := (hsx2_102).1; have := (hsx2_102).2; have := (h63).1; have := (h63).2; have := (h_20).1; have := (h_20).2; have := (hx6_102).1; have := (hx6_102).2; have := (h_21).1; have := (h_21).2; have := (hx4_102).1; have := (hx4_102).2; have := (hx3_102).1; have := (hx3_102).2; omega)).1
        refine lv_aload_n hx hb dX13_workedOut_109 rfl (lv_at hl 5 rfl) ?_
        refine lv_iload hx hb dX13_workedOut_110 (lv_at hl 3 rfl) ?_
        refine lv_iconst (v := 0) hx hb dX13_workedOut_112 (by decide) ?_
        refine lv_iload hx hb dX13_workedOut_113 (lv_at hl 1 rfl) ?_
        refine mr_calli (rest := []) ⟨hx, hb, hml, hown, htb⟩ (f_inner l dC dI h0 ad cid sg gm lg x4_102 0 x6_102 hI (iv_w hx4_102 (by decide)) (iv_w (iv_k (by decide) : iv 0 0 0) (by decide)) h109) (cwV 3 htb (gd_V kw_961 kw_962 kw_963 kw_5 kw_1557) rfl rfl rfl (by decide +kernel) ⟨Nat.le_of_ble_eq_true rfl, Nat.le_of_ble_eq_true rfl⟩) rfl hl.1 rfl (Nat.le_of_ble_eq_true rfl) dX13_workedOut_115 ⟨Nat.zero_le _, Nat.zero_le _⟩ hK hP hD hS hA (fun r_22 u_23 H locs hw hP hD hS => ?_)
        obtain ⟨hr_22, fN_r_22, rfl⟩ := hw
        have hP : va_P (dC, dI) vwCl (mW h0 ad cid sg gm lg) H := hP
        have hD : va_D A (mW h0 ad cid sg gm lg) := hD
        refine lv_istore (lv' := [(6, .int r_22), (7, .int x7_102), (5, .int x5_102), (4, .int x4_102), (3, .int x3_102), (0, .ref h0), (1, .int x), (2, .int sl)]) hx hb dX13_workedOut_118 hl (by decide) rfl (fun ls hl => ?_)
        obtain ⟨z_24, ez_24⟩ : ∃ z : Int32, z = x7_102 + 1 := ⟨_, rfl⟩
        have hz_24 : iv 1 6 z_24 := iv_of ez_24 (iv_add h_20 (iv_k (by decide) : iv 1 1 1) (by decide))
        have tz_24 : z_24.toInt = x7_102.toInt + 1 := by rw [ez_24]; exact iv_addE h_20 (iv_k (by decide) : iv 1 1 1) (by decide)
        refine lv_iinc (v := z_24) (lv' := [(7, .int z_24), (6, .int r_22), (5, .int x5_102), (4, .int x4_102), (3, .int x3_102), (0, .ref h0), (1, .int x), (2, .int sl)]) hx hb dX13_workedOut_120 hl (k := 1) rfl ez_24.symm (by decide) rfl (fun ls hl => ?_)
        refine lv_goto (tgt := 102) hx hb dX13_workedOut_123 (by decide) ?_
        exact ih102 _ (by rw [← hn102]; exact (iv_meas tz_24 h_20 (by decide))) z_24 r_22 x5_102 x4_102 x3_102 rfl (iv_w hz_24 (by decide)) hr_22 (iv_w h_21 (by decide)) hx4_102 hx3_102 hsx1_102 hsx2_102 (hLS) (htop) (by rw [s_cl h_20 (by decide) tz_24]; exact chF_s hk9 (fun q9 => absurd h109.1 (by rw [q9]; decide)) fN_r_22) (by have := i32_0; have := i32_1; have := i32_2; have := i32_m1; have := (hsx1_102).1; have := (hsx1_102).2; have := (hsx2_102).1; have := (hsx2_102).2; have := (h63).1; have := (h63).2; have := (h_20).1; have := (h_20).2; have := (h109).1; have := (h109).2; have := (h_21).1; have := (h_21).2; have := (hx4_102).1; have := (hx4_102).2; have := (hx3_102).1; have := (hx3_102).2; have := (hr_22).1; have := (hr_22).2; have := (hz_24).1; have := (hz_24).2; omega) (h5l) (h5e) (hct) (hLB) _ _ _ hP hD hS (lv_sub hl [0, 1, 2, 3, 4, 5, 6, 7] rfl)
  have hj40 : ∀ (x3_40 : Int32) (y0_40 : Int32) (_ : iv 0 79 x3_40) (_ : iv 0 79 x) (_ : iv 0 404 sl) (_ : iv (-1) 79 y0_40) (_ : WIN sg gm x y0_40) (_ : x3_40.toNatClampNeg = TOPn sg) (_ : y0_40 = inR rs rg lg x.toNatClampNeg) (H : Heap) (locs : List Loc) (ls : Array Slot), va_P (dC, dI) vwCl (mW h0 ad cid sg gm lg) H → va_D A (mW h0 ad cid sg gm lg) → va_S A s.heap H locs → lv_has ls 8 [(3, .int x3_40), (0, .ref h0), (1, .int x), (2, .int sl)] → W p l e (headSpec wm_X13_workedOut ({ frames := 5, cells := 0, slots := 0, locals := 128 })).room s m ([.ref h0, .int x, .int sl] : List Value).toArray below meth c H locs 0 0 (MQ below (va_Qi (fun r v => ∃ (sg2 : Nat → Int32) (gm2 : Nat → Nat → Int32) (lg2 : Nat → Nat → Int64), v = (sg2, gm2, lg2) ∧ MI sg2 gm2 ∧ KS [51, 52, 63, 74] sg sg2 ∧ KS [62, 64, 65, 66, 67, 68, 69, 70, 71, 72, 73] gm gm2 ∧ KS [] lg lg2 ∧ (iv 0 1 r) ∧ (GI0 sg2 gm2 lg2) ∧ (WOUT sg gm (LIM sg gm x) sg2 gm2 r) ∧ (WO9 ws wg wl rg (ctE wg x.toNatClampNeg) sl.toNatClampNeg ACC S sg gm sg2 gm2 r)) (MB dC dI h0 ad cid A) A) ([.ref h0, .int x, .int sl] : List Value).toArray s 0 0 A) (F0 m 40 ls [.int y0_40]) := by
    intro x3_40 y0_40 hx3_40 hsx1_40 hsx2_40 hy0_40 hin htop hiR H locs ls hP hD hS hl
    refine lv_istore (lv' := [(4, .int y0_40), (3, .int x3_40), (0, .ref h0), (1, .int x), (2, .int sl)]) hx hb dX13_workedOut_40 hl (by decide) rfl (fun ls hl => ?_)
    have hct : ctE wg x.toNatClampNeg = y0_40.toNatClampNeg := (by rw [hiR]; exact hHL.2.2.1)
    have hPT4 : PT9 wg wl rg gm (zO S) y0_40.toNatClampNeg sl.toNatClampNeg ACC := (by rw [← hct]; exact hPT)
    refine lv_aload_n hx hb dX13_workedOut_42 rfl (lv_at hl 2 rfl) ?_
    refine mr_get (v := .ref (ad 26)) hx hb htb inX13 hown hK hP 26 (by decide) (htb _ kw_182) rfl dX13_workedOut_43 ?_
    refine lv_iload hx hb dX13_workedOut_46 (lv_at hl 0 rfl) ?_
    refine mr_iald hx hb hK hP 19 (k := 26) rfl rfl rfl (show vp_in y0_40 80 from (iv_in hin.1 (by decide))) dX13_workedOut_48 ?_
    refine lv_topi (fun z_25 ez_25 => ?_)
    have hz_25 : iv 0 10 z_25 := iv_of ez_25 (MI_a hI 26 hin.1 (by decide))
    refine lv_bipush (v := 6) hx hb dX13_workedOut_49 (by decide) ?_
    refine lv_icmp_eq (tgt := 80) hx hb dX13_workedOut_51 (by decide) (fun c_26 => ?_) (fun c_26 => ?_)
    · have h_27 : iv 6 6 z_25 := iv_eq c_26 hz_25 (iv_k (by decide) : iv 6 6 6) (by decide)
      have hLS := WIN_6 hdoc.1.2.1 hxk hin (by rw [← ez_25]; exact c_26)
      have hLB : LSB ws wg wl rs rg lg (ctE wg x.toNatClampNeg) := hHL.2.2.2.2.1 (by rw [← hiR, rwz9 hRW (by decide) ez_25]; exact c_26)
      refine lv_aload_n hx hb dX13_workedOut_80 rfl (lv_at hl 2 rfl) ?_
      refine mr_get (v := .ref (ad 67)) hx hb htb inX13 hown hK hP 67 (by decide) (htb _ kw_216) rfl dX13_workedOut_81 ?_
      refine lv_iload_n hx hb dX13_workedOut_84 rfl (lv_at hl 1 rfl) ?_
      refine mr_iald hx hb hK hP 52 (k := 67) rfl rfl rfl (show vp_in x3_40 81 from (iv_in hx3_40 (by decide))) dX13_workedOut_85 ?_
      refine lv_topi (fun z_28 ez_28 => ?_)
      have hz_28 : iv 0 6 z_28 := iv_of ez_28 (MI_a hI 67 hx3_40 (by decide))
      refine lv_istore (lv' := [(5, .int z_28), (4, .int y0_40), (3, .int x3_40), (0, .ref h0), (1, .int x), (2, .int sl)]) hx hb dX13_workedOut_86 hl (by decide) rfl (fun ls hl => ?_)
      refine lv_aload_n hx hb dX13_workedOut_88 rfl (lv_at hl 3 rfl) ?_
      refine lv_iload hx hb dX13_workedOut_89 (lv_at hl 1 rfl) ?_
      refine lv_iconst (v := 0) hx hb dX13_workedOut_91 (by decide) ?_
      refine lv_iload hx hb dX13_workedOut_92 (lv_at hl 1 rfl) ?_
      refine mr_calli (rest := []) ⟨hx, hb, hml, hown, htb⟩ (f_inner l dC dI h0 ad cid sg gm lg y0_40 0 y0_40 hI (iv_w hin.1 (by decide)) (iv_w (iv_k (by decide) : iv 0 0 0) (by decide)) hin.1) (cwV 3 htb (gd_V kw_961 kw_962 kw_963 kw_5 kw_1557) rfl rfl rfl (by decide +kernel) ⟨Nat.le_of_ble_eq_true rfl, Nat.le_of_ble_eq_true rfl⟩) rfl hl.1 rfl (Nat.le_of_ble_eq_true rfl) dX13_workedOut_94 ⟨Nat.zero_le _, Nat.zero_le _⟩ hK hP hD hS hA (fun r_29 u_30 H locs hw hP hD hS => ?_)
      obtain ⟨hr_29, fN_r_29, rfl⟩ := hw
      have hP : va_P (dC, dI) vwCl (mW h0 ad cid sg gm lg) H := hP
      have hD : va_D A (mW h0 ad cid sg gm lg) := hD
      refine lv_istore (lv' := [(6, .int r_29), (5, .int z_28), (4, .int y0_40), (3, .int x3_40), (0, .ref h0), (1, .int x), (2, .int sl)]) hx hb dX13_workedOut_97 hl (by decide) rfl (fun ls hl => ?_)
      refine lv_iconst (v := 0) hx hb dX13_workedOut_99 (by decide) ?_
      refine lv_istore (lv' := [(7, .int 0), (6, .int r_29), (5, .int z_28), (4, .int y0_40), (3, .int x3_40), (0, .ref h0), (1, .int x), (2, .int sl)]) hx hb dX13_workedOut_100 hl (by decide) rfl (fun ls hl => ?_)
      exact hj102 _ 0 r_29 z_28 y0_40 x3_40 rfl (iv_w (iv_k (by decide) : iv 0 0 0) (by decide)) hr_29 hz_28 hin.1 hx3_40 hsx1_40 hsx2_40 (hLS) (htop) (fN_r_29) (by have := i32_0; have := i32_1; have := i32_2; have := i32_m1; have := (hsx1_40).1; have := (hsx1_40).2; have := (hsx2_40).1; have := (hsx2_40).2; have := (h63).1; have := (h63).2; have := (hx3_40).1; have := (hx3_40).2; have := (hin.1).1; have := (hin.1).2; have := (h_27).1; have := (h_27).2; have := (hz_28).1; have := (hz_28).2; have := (hr_29).1; have := (hr_29).2; omega) (by have q9 := congrArg Int32.toInt (show z_28 = gm 67 (TOPn sg) from (by have q9 := ez_28; rw [htop] at q9; exact q9)); rw [← hLS.2.2.1, q9]; exact hit) ((show z_28 = gm 67 (TOPn sg) from (by have q9 := ez_28; rw [htop] at q9; exact q9)).symm) (hct) (hLB) _ _ _ hP hD hS (lv_sub hl [0, 1, 2, 3, 4, 5, 6, 7] rfl)
    · have d_31 : ¬ (z_25 : Int32).toInt = 6 := lv_neT c_26 rfl
      have hWK4 : WKB ws wg wl rs rg lg y0_40.toNatClampNeg := (by rw [← hct]; exact hHL.2.2.2.2.2 (by rw [← hiR, rwz9 hRW (by decide) ez_25]; exact c_26))
      have h6n := WKB_6 hWK4
      refine lv_aload_n hx hb dX13_workedOut_54 rfl (lv_at hl 2 rfl) ?_
      refine mr_get (v := .ref (ad 67)) hx hb htb inX13 hown hK hP 67 (by decide) (htb _ kw_216) rfl dX13_workedOut_55 ?_
      refine lv_iload_n hx hb dX13_workedOut_58 rfl (lv_at hl 1 rfl) ?_
      refine mr_iald hx hb hK hP 52 (k := 67) rfl rfl rfl (show vp_in x3_40 81 from (iv_in hx3_40 (by decide))) dX13_workedOut_59 ?_
      refine lv_topi (fun z_32 ez_32 => ?_)
      have hz_32 : iv 0 6 z_32 := iv_of ez_32 (MI_a hI 67 hx3_40 (by decide))
      refine lv_if_gt (tgt := 74) hx hb dX13_workedOut_60 (by decide) (fun c_33 => ?_) (fun c_33 => ?_)
      · have h_34 : iv 1 6 z_32 := iv_ltR c_33 (iv_k (by decide) : iv 0 0 0) hz_32 (by decide)
        refine lv_iconst (v := 1) hx hb dX13_workedOut_74 (by decide) ?_
        refine lv_goto (tgt := 79) hx hb dX13_workedOut_75 (by decide) ?_
        exact W.zret (v := 1) hx hb hr (iv_nb (iv_w (iv_k (by decide) : iv 1 1 1) (by decide))) (fun t ht hW => ⟨⟨1, (sg, gm, lg), rfl, ⟨sg, gm, lg, rfl, hI, KS_rf, KS_rf, KS_rf, (iv_w (iv_k (by decide) : iv 1 1 1) (by decide)), (hgi), (Or.inl ⟨rfl, SAMEQ_rf⟩), ((by rw [hct]; exact WO_1 rfl h510 hRR h6n hPT4 (by have q8 := congrArg Int32.toInt (show z_32 = gm 67 (TOPn sg) from (by have q9 := ez_32; rw [htop] at q9; exact q9)); have q9 := hAL; have := i32_0; have := i32_1; have := i32_2; have := i32_m1; have := (hsx1_40).1; have := (hsx1_40).2; have := (hsx2_40).1; have := (hsx2_40).2; have := (h63).1; have := (h63).2; have := (hx3_40).1; have := (hx3_40).2; have := (hin.1).1; have := (hin.1).2; have := (hz_25).1; have := (hz_25).2; have := (h_34).1; have := (h_34).2; omega)))⟩, by rw [ht]; exact hP, va_K.moved hW.alike hK, hD⟩, hS.F ht⟩) hS.2.2 dX13_workedOut_79
      · have h_35 : iv 0 0 z_32 := iv_leL (i32_ge c_33) hz_32 (iv_k (by decide) : iv 0 0 0) (by decide)
        refine lv_aload_n hx hb dX13_workedOut_63 rfl (lv_at hl 2 rfl) ?_
        refine lv_iload hx hb dX13_workedOut_64 (lv_at hl 0 rfl) ?_
        refine lv_iload_n hx hb dX13_workedOut_66 rfl (lv_at hl 4 rfl) ?_
        refine lv_iconst (v := (-1)) hx hb dX13_workedOut_67 (by decide) ?_
        refine mr_calli (rest := []) ⟨hx, hb, hml, hown, htb⟩ (f_worked9 l dC dI h0 ad cid sg gm lg y0_40 sl (-1) ws wg wl rs rg S hI hin.1 hsx2_40 (iv_w (iv_k (by decide) : iv (-1) (-1) (-1)) (by decide)) hdoc hin.2.1 hgi hpi hRW hRS hBR hRR hWK4 hWF h510) (cwV 3 htb (gd_V kw_1192 kw_1193 kw_1194 kw_5 kw_1614) rfl rfl rfl (by decide +kernel) ⟨Nat.le_of_ble_eq_true rfl, Nat.le_of_ble_eq_true rfl⟩) rfl hl.1 rfl (Nat.le_of_ble_eq_true rfl) dX13_workedOut_68 ⟨Nat.zero_le _, Nat.zero_le _⟩ hK hP hD hS hA (fun r_36 u_37 H locs hw hP hD hS => ?_)
        obtain ⟨sgv_38, gmv_38, lgv_38, rfl, hIv_38, ksv_38, kgv_38, klv_38, hr_36, fGI_r_36, fWk_r_36, fW9_r_36⟩ := hw
        obtain rfl := KS_nil klv_38
        have hP : va_P (dC, dI) vwCl (mW h0 ad cid sgv_38 gmv_38 lg) H := hP
        have hD : va_D A (mW h0 ad cid sgv_38 gmv_38 lg) := hD
        refine lv_if_eq (tgt := 78) hx hb dX13_workedOut_71 (by decide) (fun c_39 => ?_) (fun c_39 => ?_)
        · have h_40 : iv 0 0 r_36 := iv_eq c_39 hr_36 (iv_k (by decide) : iv 0 0 0) (by decide)
          refine lv_iconst (v := 0) hx hb dX13_workedOut_78 (by decide) ?_
          exact W.zret (v := 0) hx hb hr (iv_nb (iv_w (iv_k (by decide) : iv 0 0 0) (by decide))) (fun t ht hW => ⟨⟨0, (sgv_38, gmv_38, lg), rfl, ⟨sgv_38, gmv_38, lg, rfl, hIv_38, (KS_tr (L := [51, 52, 63, 74]) KS_rf ksv_38 (by decide)), (KS_tr (L := [62, 64, 65, 66, 67, 68, 69, 70, 71, 72, 73]) KS_rf kgv_38 (by decide)), KS_rf, (iv_w (iv_k (by decide) : iv 0 0 0) (by decide)), (fGI_r_36), (by have q8 := congrArg Int32.toInt (show z_32 = gm 67 (TOPn sg) from (by have q9 := ez_32; rw [htop] at q9; exact q9)); have q7 := WOUT_0 (lim := LIM sg gm x) SAMEQ_rf rfl fWk_r_36 (congrArg Int32.toInt c_39) (Int.le_refl _) (by rw [WIN_1 hin (by rw [← ez_25]; exact c_26), ← q8]; have := (h_35).2; omega); rw [c_39] at q7; exact q7), ((by rw [hct]; exact WO_r (WO_w h6n (by have q8 := congrArg Int32.toInt (show z_32 = gm 67 (TOPn sg) from (by have q9 := ez_32; rw [htop] at q9; exact q9)); have q9 := hAL; have := i32_0; have := i32_1; have := i32_2; have := i32_m1; have := (hsx1_40).1; have := (hsx1_40).2; have := (hsx2_40).1; have := (hsx2_40).2; have := (h63).1; have := (h63).2; have := (hx3_40).1; have := (hx3_40).2; have := (hin.1).1; have := (hin.1).2; have := (hz_25).1; have := (hz_25).2; have := (h_35).1; have := (h_35).2; have := (h_40).1; have := (h_40).2; omega) fW9_r_36 (fun q1 q2 => (congrArg Int32.toInt (WK_67 fWk_r_36 q1 rfl hh1 q2)).trans (by have q8 := congrArg Int32.toInt (show z_32 = gm 67 (TOPn sg) from (by have q9 := ez_32; rw [htop] at q9; exact q9)); have := i32_0; have := i32_1; have := i32_2; have := i32_m1; have := (hsx1_40).1; have := (hsx1_40).2; have := (hsx2_40).1; have := (hsx2_40).2; have := (h63).1; have := (h63).2; have := (hx3_40).1; have := (hx3_40).2; have := (hin.1).1; have := (hin.1).2; have := (hz_25).1; have := (hz_25).2; have := (h_35).1; have := (h_35).2; have := (h_40).1; have := (h_40).2; omega))) (by have := i32_0; have := i32_1; have := i32_2; have := i32_m1; have := (hsx1_40).1; have := (hsx1_40).2; have := (hsx2_40).1; have := (hsx2_40).2; have := (h63).1; have := (h63).2; have := (hx3_40).1; have := (hx3_40).2; have := (hin.1).1; have := (hin.1).2; have := (hz_25).1; have := (hz_25).2; have := (h_35).1; have := (h_35).2; have := (h_40).1; have := (h_40).2; omega)))⟩, by rw [ht]; exact hP, va_K.moved hW.alike hK, hD⟩, hS.F ht⟩) hS.2.2 dX13_workedOut_79
        · have h_41 : iv 1 1 r_36 := iv_neL c_39 hr_36 (by decide)
          refine lv_iconst (v := 1) hx hb dX13_workedOut_74 (by decide) ?_
          refine lv_goto (tgt := 79) hx hb dX13_workedOut_75 (by decide) ?_
          exact W.zret (v := 1) hx hb hr (iv_nb (iv_w (iv_k (by decide) : iv 1 1 1) (by decide))) (fun t ht hW => ⟨⟨1, (sgv_38, gmv_38, lg), rfl, ⟨sgv_38, gmv_38, lg, rfl, hIv_38, (KS_tr (L := [51, 52, 63, 74]) KS_rf ksv_38 (by decide)), (KS_tr (L := [62, 64, 65, 66, 67, 68, 69, 70, 71, 72, 73]) KS_rf kgv_38 (by decide)), KS_rf, (iv_w (iv_k (by decide) : iv 1 1 1) (by decide)), (fGI_r_36), (Or.inl ⟨rfl, SAMEQ_p SAMEQ_rf (WRK_1 fWk_r_36 (fun q9 => c_39 (Int32.toInt_inj.mp q9)))⟩), ((by rw [hct]; exact WO_r (WO_w h6n (by have q8 := congrArg Int32.toInt (show z_32 = gm 67 (TOPn sg) from (by have q9 := ez_32; rw [htop] at q9; exact q9)); have q9 := hAL; have := i32_0; have := i32_1; have := i32_2; have := i32_m1; have := (hsx1_40).1; have := (hsx1_40).2; have := (hsx2_40).1; have := (hsx2_40).2; have := (h63).1; have := (h63).2; have := (hx3_40).1; have := (hx3_40).2; have := (hin.1).1; have := (hin.1).2; have := (hz_25).1; have := (hz_25).2; have := (h_35).1; have := (h_35).2; have := (h_41).1; have := (h_41).2; omega) fW9_r_36 (fun q1 q2 => (congrArg Int32.toInt (WK_67 fWk_r_36 q1 rfl hh1 q2)).trans (by have q8 := congrArg Int32.toInt (show z_32 = gm 67 (TOPn sg) from (by have q9 := ez_32; rw [htop] at q9; exact q9)); have := i32_0; have := i32_1; have := i32_2; have := i32_m1; have := (hsx1_40).1; have := (hsx1_40).2; have := (hsx2_40).1; have := (hsx2_40).2; have := (h63).1; have := (h63).2; have := (hx3_40).1; have := (hx3_40).2; have := (hin.1).1; have := (hin.1).2; have := (hz_25).1; have := (hz_25).2; have := (h_35).1; have := (h_35).2; have := (h_41).1; have := (h_41).2; omega))) (by have := i32_0; have := i32_1; have := i32_2; have := i32_m1; have := (hsx1_40).1; have := (hsx1_40).2; have := (hsx2_40).1; have := (hsx2_40).2; have := (h63).1; have := (h63).2; have := (hx3_40).1; have := (hx3_40).2; have := (hin.1).1; have := (hin.1).2; have := (hz_25).1; have := (hz_25).2; have := (h_35).1; have := (h_35).2; have := (h_41).1; have := (h_41).2; omega)))⟩, by rw [ht]; exact hP, va_K.moved hW.alike hK, hD⟩, hS.F ht⟩) hS.2.2 dX13_workedOut_79
  have hj29 : ∀ (x3_29 : Int32) (_ : iv 0 79 x3_29) (_ : iv 0 79 x) (_ : iv 0 404 sl) (_ : ¬ mHas gm lg x.toNatClampNeg 508440638821 = 0 ∨ ¬ mHas gm lg x.toNatClampNeg 7497062 = 0) (_ : x3_29.toNatClampNeg = TOPn sg) (H : Heap) (locs : List Loc) (ls : Array Slot), va_P (dC, dI) vwCl (mW h0 ad cid sg gm lg) H → va_D A (mW h0 ad cid sg gm lg) → va_S A s.heap H locs → lv_has ls 8 [(3, .int x3_29), (0, .ref h0), (1, .int x), (2, .int sl)] → W p l e (headSpec wm_X13_workedOut ({ frames := 5, cells := 0, slots := 0, locals := 128 })).room s m ([.ref h0, .int x, .int sl] : List Value).toArray below meth c H locs 0 0 (MQ below (va_Qi (fun r v => ∃ (sg2 : Nat → Int32) (gm2 : Nat → Nat → Int32) (lg2 : Nat → Nat → Int64), v = (sg2, gm2, lg2) ∧ MI sg2 gm2 ∧ KS [51, 52, 63, 74] sg sg2 ∧ KS [62, 64, 65, 66, 67, 68, 69, 70, 71, 72, 73] gm gm2 ∧ KS [] lg lg2 ∧ (iv 0 1 r) ∧ (GI0 sg2 gm2 lg2) ∧ (WOUT sg gm (LIM sg gm x) sg2 gm2 r) ∧ (WO9 ws wg wl rg (ctE wg x.toNatClampNeg) sl.toNatClampNeg ACC S sg gm sg2 gm2 r)) (MB dC dI h0 ad cid A) A) ([.ref h0, .int x, .int sl] : List Value).toArray s 0 0 A) (F0 m 29 ls []) := by
    intro x3_29 hx3_29 hsx1_29 hsx2_29 hh9 htop H locs ls hP hD hS hl
    refine lv_iload_n hx hb dX13_workedOut_29 rfl (lv_at hl 2 rfl) ?_
    refine lv_goto (tgt := 40) hx hb dX13_workedOut_30 (by decide) ?_
    exact hj40 x3_29 x hx3_29 hsx1_29 hsx2_29 (iv_w hsx1_29 (by decide)) (WIN_s hdoc.1.2.1 hvx hxe hxk hh9) (htop) ((by unfold inR; rw [if_pos (by rw [mHas_k (DK_r (lg := lg) hRW hRS).1, mHas_k (DK_r (lg := lg) hRW hRS).1]; exact hh9)]; exact (nI_c hvx).symm)) _ _ _ hP hD hS (lv_sub hl [0, 1, 2, 3] rfl)
  refine lv_aload_n hx hb dX13_workedOut_0 rfl (lv_at hl 0 rfl) ?_
  refine mr_get (v := .int (sg 63)) hx hb htb inX13 hown hK hP 63 (by decide) (htb _ kw_1157) rfl dX13_workedOut_1 ?_
  refine lv_iconst (v := 1) hx hb dX13_workedOut_4 (by decide) ?_
  refine lv_isub hx hb dX13_workedOut_5 ?_
  refine lv_topi (fun z_42 ez_42 => ?_)
  have hz_42 : iv 0 79 z_42 := iv_of ez_42 (iv_sub h63 (iv_k (by decide) : iv 1 1 1) (by decide))
  have tz_42 : z_42.toInt = ((sg 63) : Int32).toInt - 1 := by rw [ez_42]; exact iv_subE h63 (iv_k (by decide) : iv 1 1 1) (by decide)
  refine lv_istore_n (lv' := [(3, .int z_42), (0, .ref h0), (1, .int x), (2, .int sl)]) hx hb dX13_workedOut_6 rfl hl (by decide) rfl (fun ls hl => ?_)
  have htop := top_n h63 tz_42
  refine lv_aload_n hx hb dX13_workedOut_7 rfl (lv_at hl 1 rfl) ?_
  refine lv_iload_n hx hb dX13_workedOut_8 rfl (lv_at hl 2 rfl) ?_
  refine lv_ldc2 (own := RX13) (v := 508440638821) hx hb hown (htb _ kw_140) dX13_workedOut_9 ?_
  refine mr_calli (rest := []) ⟨hx, hb, hml, hown, htb⟩ (f_has l dC dI h0 ad cid sg gm lg x 508440638821 hI hvx) (cwV 2 htb (gd_V kw_916 kw_917 kw_918 kw_5 kw_1543) rfl rfl rfl (by decide +kernel) ⟨Nat.le_of_ble_eq_true rfl, Nat.le_of_ble_eq_true rfl⟩) rfl hl.1 rfl (Nat.le_of_ble_eq_true rfl) dX13_workedOut_12 ⟨Nat.zero_le _, Nat.zero_le _⟩ hK hP hD hS hA (fun r_43 u_44 H locs hw hP hD hS => ?_)
  obtain ⟨hr_43, fH_r_43, rfl⟩ := hw
  have hP : va_P (dC, dI) vwCl (mW h0 ad cid sg gm lg) H := hP
  have hD : va_D A (mW h0 ad cid sg gm lg) := hD
  refine lv_if_ne (tgt := 29) hx hb dX13_workedOut_15 (by decide) (fun c_45 => ?_) (fun c_45 => ?_)
  · have h_46 : iv 1 1 r_43 := iv_neL c_45 hr_43 (by decide)
    exact hj29 z_42 hz_42 hvx hvsl (Or.inl (by rw [← fH_r_43]; exact c_45)) (htop) _ _ _ hP hD hS (lv_sub hl [0, 1, 2, 3] rfl)
  · have h_47 : iv 0 0 r_43 := iv_eq c_45 hr_43 (iv_k (by decide) : iv 0 0 0) (by decide)
    refine lv_aload_n hx hb dX13_workedOut_18 rfl (lv_at hl 1 rfl) ?_
    refine lv_iload_n hx hb dX13_workedOut_19 rfl (lv_at hl 2 rfl) ?_
    refine lv_ldc2 (own := RX13) (v := 7497062) hx hb hown (htb _ kw_141) dX13_workedOut_20 ?_
    refine mr_calli (rest := []) ⟨hx, hb, hml, hown, htb⟩ (f_has l dC dI h0 ad cid sg gm lg x 7497062 hI hvx) (cwV 2 htb (gd_V kw_916 kw_917 kw_918 kw_5 kw_1543) rfl rfl rfl (by decide +kernel) ⟨Nat.le_of_ble_eq_true rfl, Nat.le_of_ble_eq_true rfl⟩) rfl hl.1 rfl (Nat.le_of_ble_eq_true rfl) dX13_workedOut_23 ⟨Nat.zero_le _, Nat.zero_le _⟩ hK hP hD hS hA (fun r_48 u_49 H locs hw hP hD hS => ?_)
    obtain ⟨hr_48, fH_r_48, rfl⟩ := hw
    have hP : va_P (dC, dI) vwCl (mW h0 ad cid sg gm lg) H := hP
    have hD : va_D A (mW h0 ad cid sg gm lg) := hD
    refine lv_if_eq (tgt := 33) hx hb dX13_workedOut_26 (by decide) (fun c_50 => ?_) (fun c_50 => ?_)
    · have h_51 : iv 0 0 r_48 := iv_eq c_50 hr_48 (iv_k (by decide) : iv 0 0 0) (by decide)
      refine lv_aload_n hx hb dX13_workedOut_33 rfl (lv_at hl 1 rfl) ?_
      refine lv_iload_n hx hb dX13_workedOut_34 rfl (lv_at hl 2 rfl) ?_
      refine lv_iconst (v := 0) hx hb dX13_workedOut_35 (by decide) ?_
      refine lv_iload_n hx hb dX13_workedOut_36 rfl (lv_at hl 2 rfl) ?_
      refine mr_calli (rest := []) ⟨hx, hb, hml, hown, htb⟩ (f_inner l dC dI h0 ad cid sg gm lg x 0 x hI (iv_w hvx (by decide)) (iv_w (iv_k (by decide) : iv 0 0 0) (by decide)) hvx) (cwV 3 htb (gd_V kw_961 kw_962 kw_963 kw_5 kw_1557) rfl rfl rfl (by decide +kernel) ⟨Nat.le_of_ble_eq_true rfl, Nat.le_of_ble_eq_true rfl⟩) rfl hl.1 rfl (Nat.le_of_ble_eq_true rfl) dX13_workedOut_37 ⟨Nat.zero_le _, Nat.zero_le _⟩ hK hP hD hS hA (fun r_52 u_53 H locs hw hP hD hS => ?_)
      obtain ⟨hr_52, fN_r_52, rfl⟩ := hw
      have hP : va_P (dC, dI) vwCl (mW h0 ad cid sg gm lg) H := hP
      have hD : va_D A (mW h0 ad cid sg gm lg) := hD
      exact hj40 z_42 r_52 hz_42 hvx hvsl hr_52 (WIN_i hdoc.1.1 (show iv 0 80 (sg 24) from MI_s hI 24) hdoc.1.2.1 hvx hxe hxk (by rw [← fH_r_43]; exact c_45) (by rw [← fH_r_48]; exact c_50) fN_r_52) (htop) ((by unfold inR; rw [mHas_k (DK_r (lg := lg) hRW hRS).1, mHas_k (DK_r (lg := lg) hRW hRS).1, if_neg (fun q => q.elim (fun q => q (by rw [← fH_r_43]; exact c_45)) (fun q => q (by rw [← fH_r_48]; exact c_50))), nI_c hvx, mInn_k (DK_r (lg := lg) hRW hRS).1]; exact fN_r_52)) _ _ _ hP hD hS (lv_sub hl [0, 1, 2, 3] rfl)
    · have h_54 : iv 1 1 r_48 := iv_neL c_50 hr_48 (by decide)
      exact hj29 z_42 hz_42 hvx hvsl (Or.inr (by rw [← fH_r_48]; exact c_50)) (htop) _ _ _ hP hD hS (lv_sub hl [0, 1, 2, 3] rfl)
end
section
/-- a frame of the pile: bean, phase, index, factory's object, object, values, items -/
abbrev Fr9 := Nat × Nat × Nat × Int × Int × List (List Int) × List Int
def fB (f : Fr9) : Nat := f.1
def fP (f : Fr9) : Nat := f.2.1
def fI (f : Fr9) : Nat := f.2.2.1
def fF (f : Fr9) : Int := f.2.2.2.1
def fO (f : Fr9) : Int := f.2.2.2.2.1
def fV (f : Fr9) : List (List Int) := f.2.2.2.2.2.1
def fA (f : Fr9) : List Int := f.2.2.2.2.2.2
def fQ (f : Fr9) : Nat := 3 * fB f + (fP f - 3)
def fE (wg : Nat → Nat → Int32) (f : Fr9) : Nat := (wg 57 (128 * fQ f + fI f)).toNatClampNeg
section FR9
variable (ws : Nat → Int32) (wg : Nat → Nat → Int32) (wl : Nat → Nat → Int64)
/-- what is left to do for a frame -/
def frC (n : Nat) (f : Fr9) (S : S9) : Option Int × S9 :=
  if fP f = 0 then bd9 (oDe ws wg wl (oMK ws wg wl n) (fB f) S) (fun _ S => r1 ws wg wl (oMK ws wg wl n) (fB f) S)
  else if fP f = 1 then r1 ws wg wl (oMK ws wg wl n) (fB f) S
  else if fP f = 2 then r2 ws wg wl (oMK ws wg wl n) (fB f) (fF f) (liL wg (3 * fB f)) [] S
  else if fP f = 3 then (if fI f < (wg 41 (3 * fB f)).toNatClampNeg then bd9 (reW ws wg wl n (ctE wg (fE wg f)) (fA f) S) (fun V S => r2 ws wg wl (oMK ws wg wl n) (fB f) (fF f) ((liL wg (3 * fB f)).drop (fI f + 1)) (fV f ++ [V]) S) else r3 ws wg wl (oMK ws wg wl n) (fB f) (fF f) (fV f) S)
  else if fI f < (wg 41 (3 * fB f + 1)).toNatClampNeg then bd9 (reW ws wg wl n (ctE wg (fE wg f)) (fA f) S) (fun V S => bd9 (oSe wg wl (fO f) (fE wg f) V S) (fun _ S => r4 ws wg wl (oMK ws wg wl n) (fB f) (fO f) ((liL wg (3 * fB f + 1)).drop (fI f + 1)) S)) else (some (fO f), oFi wg wl (fB f) (fO f) S)
/-- what it waited for comes -/
def dlF (f : Fr9) (o : Int) : Fr9 := if fP f ≤ 1 then f else if fP f = 2 then (fB f, 2, fI f, o, fO f, fV f, fA f) else (fB f, fP f, fI f, fF f, fO f, fV f, fA f ++ [dlI wg (ctE wg (fE wg f)) o])
def ctn (F : Nat → Fr9) : Nat → Int → S9 → Option Int × S9
  | 0, o, S => (some o, S)
  | j + 1, o, S => bd9 (frC ws wg wl (80 - j) (dlF wg (F j) o) S) (fun o S => ctn F j o S)
end FR9
section FR8
variable {ws : Nat → Int32} {wg rg gm gm1 gm2 : Nat → Nat → Int32} {wl : Nat → Nat → Int64} {rs sg sg1 sg2 : Nat → Int32} {lg : Nat → Nat → Int64} {S S2 : S9} {b ix n p j : Nat} {fo o : Int} {vs : List (List Int)} {acc : List Int} {ob ob2 : List Ob9} {R : Option Int × S9} {F : Nat → Fr9} {f : Fr9}
theorem ctn_k {F2 : Nat → Fr9} : ∀ j, (∀ i, i < j → F2 i = F i) → ctn ws wg wl F2 j = ctn ws wg wl F j
  | 0, _ => rfl
  | j + 1, h => by
    funext o S
    show bd9 (frC ws wg wl (80 - j) (dlF wg (F2 j) o) S) (fun o S => ctn ws wg wl F2 j o S) = bd9 (frC ws wg wl (80 - j) (dlF wg (F j) o) S) (fun o S => ctn ws wg wl F j o S)
    rw [h j (Nat.lt_succ_self j), ctn_k j (fun i hi => h i (Nat.lt_succ_of_lt hi))]
theorem fr_0 : frC ws wg wl n (b, 0, ix, fo, o, vs, acc) S = bd9 (oDe ws wg wl (oMK ws wg wl n) b S) (fun _ S => r1 ws wg wl (oMK ws wg wl n) b S) := rfl
theorem fr_1 : frC ws wg wl n (b, 1, ix, fo, o, vs, acc) S = r1 ws wg wl (oMK ws wg wl n) b S := rfl
theorem fr_2 : frC ws wg wl n (b, 2, ix, fo, o, vs, acc) S = r2 ws wg wl (oMK ws wg wl n) b fo (liL wg (3 * b)) [] S := rfl
theorem fr_3 (h : ix < (wg 41 (3 * b)).toNatClampNeg) : frC ws wg wl n (b, 3, ix, fo, o, vs, acc) S = bd9 (reW ws wg wl n (ctE wg (wg 57 (128 * (3 * b) + ix)).toNatClampNeg) acc S) (fun V S => r2 ws wg wl (oMK ws wg wl n) b fo ((liL wg (3 * b)).drop (ix + 1)) (vs ++ [V]) S) := if_pos h
theorem fr_3z (h : ¬ ix < (wg 41 (3 * b)).toNatClampNeg) : frC ws wg wl n (b, 3, ix, fo, o, vs, acc) S = r3 ws wg wl (oMK ws wg wl n) b fo vs S := if_neg h
theorem fr_4 (h : ix < (wg 41 (3 * b + 1)).toNatClampNeg) : frC ws wg wl n (b, 4, ix, fo, o, vs, acc) S = bd9 (reW ws wg wl n (ctE wg (wg 57 (128 * (3 * b + 1) + ix)).toNatClampNeg) acc S) (fun V S => bd9 (oSe wg wl o (wg 57 (128 * (3 * b + 1) + ix)).toNatClampNeg V S) (fun _ S => r4 ws wg wl (oMK ws wg wl n) b o ((liL wg (3 * b + 1)).drop (ix + 1)) S)) := if_pos h
theorem fr_4z (h : ¬ ix < (wg 41 (3 * b + 1)).toNatClampNeg) : frC ws wg wl n (b, 4, ix, fo, o, vs, acc) S = (some o, oFi wg wl b o S) := if_neg h
theorem liL_d {q : Nat} (h : ix < (wg 41 q).toNatClampNeg) : (liL wg q).drop ix = (wg 57 (128 * q + ix)).toNatClampNeg :: (liL wg q).drop (ix + 1) := dro9 (liL_g h)
theorem liL_z {q : Nat} (h : ¬ ix < (wg 41 q).toNatClampNeg) : (liL wg q).drop ix = [] := by
  refine List.drop_eq_nil_of_le ?_
  unfold liL; rw [List.length_map, List.length_range]; omega
/-- the args from one on, the sets from one on -/
theorem fr_3e : r2 ws wg wl (oMK ws wg wl n) b fo ((liL wg (3 * b)).drop ix) vs S = frC ws wg wl n (b, 3, ix, fo, o, vs, []) S := by
  by_cases h : ix < (wg 41 (3 * b)).toNatClampNeg
  · rw [fr_3 h, liL_d h, reW_0]
    unfold r2
    show bd9 (bd9 (oCon ws wg wl (oMK ws wg wl n) _ S) _) _ = _
    rw [bd9_a]
  · rw [fr_3z h, liL_z h]; rfl
theorem fr_4e : r4 ws wg wl (oMK ws wg wl n) b o ((liL wg (3 * b + 1)).drop ix) S = frC ws wg wl n (b, 4, ix, fo, o, vs, []) S := by
  by_cases h : ix < (wg 41 (3 * b + 1)).toNatClampNeg
  · rw [fr_4 h, liL_d h, reW_0]
    unfold r4
    show bd9 (bd9 (oCon ws wg wl (oMK ws wg wl n) _ S) _) _ = _
    rw [bd9_a]
    congr 1
    funext V S2
    rw [bd9_a]
  · rw [fr_4z h, liL_z h]; rfl
/-- a frame and its rows -/
def FM9 (wg : Nat → Nat → Int32) (wl : Nat → Nat → Int64) (rg gm : Nat → Nat → Int32) (ob : List Ob9) (j : Nat) (f : Fr9) : Prop :=
  (gm 64 j).toNatClampNeg = fB f ∧ (gm 65 j).toInt = (fP f : Int) ∧ (gm 66 j).toInt = (fI f : Int) ∧ (gm 68 j).toInt = fF f
  ∧ (fF f = -1 ∨ (0 ≤ fF f ∧ fF f < (ob.length : Int))) ∧ (fP f ≤ 1 → fF f = -1) ∧ (¬ fF f = -1 → ¬ wl 7 (fB f) = 0) ∧ (2 ≤ fP f → ¬ ((wg 30 (fB f)).toInt = -1 ∧ wl 7 (fB f) = 0))
  ∧ (3 ≤ fP f → (gm 67 j).toInt = ((fA f).length : Int) ∧ (fI f < (wg 41 (fQ f)).toNatClampNeg → PT9 wg wl rg gm ob (ctE wg (fE wg f)) (5 * j + (if fP f = 3 then fI f else 4)) (fA f)))
  ∧ (fP f = 3 → (fV f).length = fI f ∧ fI f ≤ 4 ∧ FV9 wg wl rg gm ob (fB f) j (fI f) (fV f))
  ∧ (fP f = 4 → (gm 69 j).toInt = fO f ∧ 0 ≤ fO f ∧ fO f < (ob.length : Int))
  ∧ fP f ≤ 4
/-- a frame that waits -/
def WT9 (wg : Nat → Nat → Int32) (wl : Nat → Nat → Int64) (f : Fr9) : Prop := fP f = 1 ∨ (fP f = 2 ∧ fF f = -1 ∧ ¬ wl 7 (fB f) = 0) ∨ (3 ≤ fP f ∧ fI f < (wg 41 (fQ f)).toNatClampNeg ∧ AW9 wg (ctE wg (fE wg f)) (fA f))
/-- the rows of a level are as they were -/
def KF9 (gm gm2 : Nat → Nat → Int32) (j : Nat) : Prop := gm2 64 j = gm 64 j ∧ gm2 65 j = gm 65 j ∧ gm2 66 j = gm 66 j ∧ gm2 67 j = gm 67 j ∧ gm2 68 j = gm 68 j ∧ gm2 69 j = gm 69 j ∧ (∀ i, 5 * j ≤ i → i < 5 * j + 5 → gm2 70 i = gm 70 i ∧ gm2 71 i = gm 71 i) ∧ (∀ i, 30 * j ≤ i → i < 30 * j + 30 → gm2 72 i = gm 72 i ∧ gm2 73 i = gm 73 i)
theorem VR_m {c : Nat} {V : List Int} {kd v : Int32} (h : VR9 wg wl rg ob c V kd v) (hl : ob.length ≤ ob2.length) : VR9 wg wl rg ob2 c V kd v := by
  rcases h with q | q | q | ⟨q1, q2, q3, q4, q5⟩
  · exact Or.inl q
  · exact Or.inr (Or.inl q)
  · exact Or.inr (Or.inr (Or.inl q))
  · exact Or.inr (Or.inr (Or.inr ⟨q1, q2, q3, q4, by omega⟩))
theorem PT_m {c sl : Nat} (h : PT9 wg wl rg gm ob c sl acc) (hl : ob.length ≤ ob2.length) (h0 : gm2 70 sl = gm 70 sl ∧ gm2 71 sl = gm 71 sl) (h1 : ∀ i, 6 * sl ≤ i → i < 6 * sl + 6 → gm2 72 i = gm 72 i ∧ gm2 73 i = gm 73 i) : PT9 wg wl rg gm2 ob2 c sl acc := by
  rcases h with ⟨q1, q2, q3⟩ | ⟨q1, q2⟩
  · refine Or.inl ⟨q1, q2, fun i x hx => ?_⟩
    have := (List.getElem?_eq_some_iff.mp hx).1
    have := itL_le (wg := wg) 6 (wg 16 c).toInt
    unfold itC at q2
    have e := h1 (6 * sl + i) (by omega) (by omega)
    rw [e.1, e.2]; exact q3 i x hx
  · refine Or.inr ⟨q1, q2.imp id (fun q => ?_)⟩
    rw [h0.1, h0.2]; exact VR_m q hl
theorem PT_nil {c sl : Nat} : PT9 wg wl rg gm ob c sl [] := by
  by_cases h : (wg 25 c).toInt = 6
  · exact Or.inl ⟨h, Nat.zero_le _, fun i x hx => by cases hx⟩
  · exact Or.inr ⟨h, Or.inl rfl⟩
theorem FV_m {tp : Nat} (h : FV9 wg wl rg gm ob b tp n vs) (hl : ob.length ≤ ob2.length) (h0 : ∀ i, i < n → gm2 70 (5 * tp + i) = gm 70 (5 * tp + i) ∧ gm2 71 (5 * tp + i) = gm 71 (5 * tp + i)) (h1 : ∀ i k, i < n → k < 6 → gm2 72 (6 * (5 * tp + i) + k) = gm 72 (6 * (5 * tp + i) + k) ∧ gm2 73 (6 * (5 * tp + i) + k) = gm 73 (6 * (5 * tp + i) + k)) : FV9 wg wl rg gm2 ob2 b tp n vs := by
  intro i hi
  have q := h i hi
  refine ⟨?_, fun q6 => ?_⟩
  · rw [(h0 i hi).1, (h0 i hi).2]; exact VR_m q.1 hl
  · have q9 := q.2 q6
    refine ⟨q9.1, q9.2.1, fun k x hx => ?_⟩
    have := (List.getElem?_eq_some_iff.mp hx).1
    have e := h1 i k hi (by have := q9.2.1; omega)
    rw [e.1, e.2]; exact q9.2.2 k x hx
theorem FM_k (h : FM9 wg wl rg gm ob j f) (hk : KF9 gm gm2 j) (hl : ob.length ≤ ob2.length) : FM9 wg wl rg gm2 ob2 j f := by
  obtain ⟨a1, a2, a3, a4, a5, a6, a7, a8, a9, a10, a11, a12⟩ := h
  obtain ⟨k4, k5, k6, k7, k8, k9, k10, k12⟩ := hk
  refine ⟨by rw [k4]; exact a1, by rw [k5]; exact a2, by rw [k6]; exact a3, by rw [k8]; exact a4, a5.imp id (fun q => ⟨q.1, by omega⟩), a6, a7, a8, fun q => ⟨by rw [k7]; exact (a9 q).1, fun q2 => ?_⟩, fun q => ⟨(a10 q).1, (a10 q).2.1, ?_⟩, fun q => ⟨by rw [k9]; exact (a11 q).1, (a11 q).2.1, by have := (a11 q).2.2; omega⟩, a12⟩
  · have h4 : (if fP f = 3 then fI f else 4) ≤ 4 := by
      by_cases e : fP f = 3
      · rw [if_pos e]; exact (a10 e).2.1
      · rw [if_neg e]; exact Nat.le_refl _
    exact PT_m ((a9 q).2 q2) hl (k10 _ (by omega) (by omega)) (fun i h1 h2 => k12 i (by omega) (by omega))
  · have h4 := (a10 q).2.1
    exact FV_m (a10 q).2.2 hl (fun i hi => k10 _ (by omega) (by omega)) (fun i k hi hk => k12 _ (by omega) (by omega))
/-- the run's answer, and the pile -/
def IV9 (ws : Nat → Int32) (wg : Nat → Nat → Int32) (wl : Nat → Nat → Int64) (rg : Nat → Nat → Int32) (R : Option Int × S9) (S : S9) (sg : Nat → Int32) (gm : Nat → Nat → Int32) (F : Nat → Fr9) : Prop :=
  WF9 S ∧ R = bd9 (frC ws wg wl (80 - TOPn sg) (F (TOPn sg)) S) (fun o S => ctn ws wg wl F (TOPn sg) o S) ∧ (∀ j, j < (sg 63).toNatClampNeg → FM9 wg wl rg gm (zO S) j (F j)) ∧ (∀ j, j + 1 < (sg 63).toNatClampNeg → WT9 wg wl (F j))
theorem TOP_e (h : 1 ≤ (sg 63).toInt) : (sg 63).toNatClampNeg = TOPn sg + 1 := by
  have := cln9 (u := sg 63) (by omega)
  unfold TOPn; omega
/-- the one on top goes on -/
theorem IV_top (h : IV9 ws wg wl rg R S sg gm F) (hh : 1 ≤ (sg 63).toInt) (h63 : sg2 63 = sg 63) (hW : WF9 S2) (hO : (zO S).length ≤ (zO S2).length) (hk : ∀ j, j < TOPn sg → KF9 gm gm2 j) (hf : FM9 wg wl rg gm2 (zO S2) (TOPn sg) f) (he : frC ws wg wl (80 - TOPn sg) (F (TOPn sg)) S = frC ws wg wl (80 - TOPn sg) f S2) : IV9 ws wg wl rg R S2 sg2 gm2 (fu9 F (TOPn sg) f) := by
  obtain ⟨_, hR, hM, hw⟩ := h
  have ht : TOPn sg2 = TOPn sg := by unfold TOPn; rw [h63]
  have e := TOP_e hh
  refine ⟨hW, ?_, fun j hj => ?_, fun j hj => ?_⟩
  · rw [ht, fu9_at, ctn_k (F := F) (TOPn sg) (fun i hi => fu9_ne (by omega)), ← he]; exact hR
  · rw [h63] at hj
    by_cases q : j = TOPn sg
    · rw [q, fu9_at]; exact hf
    · rw [fu9_ne q]; exact FM_k (hM j hj) (hk j (by omega)) hO
  · rw [h63] at hj
    rw [fu9_ne (by omega)]; exact hw j hj
theorem WF_be (h : WF9 S) : WF9 (oBe b S) := by
  intro t ht
  by_cases q : t = b
  · subst q
    have h1 : zS (oBe t S) t = 1 := fu9_at
    have h2 : zW (oBe t S) t = -1 := fu9_at
    rcases ht with q | q
    · omega
    · exact absurd h2 q.2
  · have h1 : zS (oBe b S) t = zS S t := fu9_ne q
    have h2 : zW (oBe b S) t = zW S t := fu9_ne q
    rw [h1, h2] at ht
    rw [h2]; exact h t ht
/-- the one on top waits, another one comes on top -/
theorem IV_push {t : Int32} (h : IV9 ws wg wl rg R S sg gm F) (hh : 1 ≤ (sg 63).toInt) (h63 : (sg2 63).toInt = (sg 63).toInt + 1) (h79 : (sg 63).toInt ≤ 79) (hk : ∀ j, j < TOPn sg → KF9 gm gm2 j) (hf : FM9 wg wl rg gm2 (zO S) (TOPn sg) f) (hw : WT9 wg wl f) (hz : ¬ zS S t.toNatClampNeg = 1) (e64 : gm2 64 (sg 63).toNatClampNeg = t) (e65 : (gm2 65 (sg 63).toNatClampNeg).toInt = 0) (e66 : (gm2 66 (sg 63).toNatClampNeg).toInt = 0) (e68 : (gm2 68 (sg 63).toNatClampNeg).toInt = -1)
    (he : ∀ n, frC ws wg wl n (F (TOPn sg)) S = bd9 (oMK ws wg wl n t.toNatClampNeg S) (fun o S => frC ws wg wl n (dlF wg f o) S)) : ∃ F2, IV9 ws wg wl rg R (oBe t.toNatClampNeg S) sg2 gm2 F2 := by
  obtain ⟨hW, hR, hM, hwt⟩ := h
  have e := TOP_e hh
  have c1 := cln9 (u := sg 63) (by omega)
  have c2 := cln9 (u := sg2 63) (by omega)
  have ht : TOPn sg2 = TOPn sg + 1 := by unfold TOPn; omega
  refine ⟨fu9 (fu9 F (TOPn sg) f) (TOPn sg + 1) (t.toNatClampNeg, 0, 0, -1, -1, [], []), WF_be hW, ?_, fun j hj => ?_, fun j hj => ?_⟩
  · rw [ht, fu9_at, hR, he, bd9_a]
    obtain ⟨m, hm⟩ : ∃ m, 80 - TOPn sg = m + 1 := ⟨79 - TOPn sg, by omega⟩
    rw [show 80 - (TOPn sg + 1) = m by omega, hm, oMK_2 hz]
    show bd9 (bd9 (oDe ws wg wl (oMK ws wg wl m) _ _) _) _ = bd9 (bd9 (oDe ws wg wl (oMK ws wg wl m) _ _) _) _
    congr 1
    funext o S3
    show _ = bd9 (frC ws wg wl (80 - TOPn sg) (dlF wg (fu9 (fu9 F (TOPn sg) f) (TOPn sg + 1) _ (TOPn sg)) o) S3) (fun o S => ctn ws wg wl _ (TOPn sg) o S)
    rw [fu9_ne (by omega), fu9_at, hm, ctn_k (F2 := fu9 (fu9 F (TOPn sg) f) (TOPn sg + 1) (t.toNatClampNeg, 0, 0, -1, -1, [], [])) (F := F) (TOPn sg) (fun i hi => by rw [fu9_ne (by omega), fu9_ne (by omega)])]
  · by_cases q : j = TOPn sg + 1
    · rw [q, fu9_at, ← e]
      exact ⟨by rw [e64]; rfl, e65, e66, e68, Or.inl rfl, fun _ => rfl, fun q => absurd rfl q, fun q => absurd q (by show ¬ 2 ≤ 0; omega), fun q => absurd q (by show ¬ 3 ≤ 0; omega), fun q => absurd q (by show ¬ 0 = 3; omega), fun q => absurd q (by show ¬ 0 = 4; omega), Nat.zero_le _⟩
    · rw [fu9_ne q]
      by_cases q2 : j = TOPn sg
      · rw [q2, fu9_at]; exact hf
      · rw [fu9_ne q2]; exact FM_k (hM j (by omega)) (hk j (by omega)) (Nat.le_refl _)
  · rw [fu9_ne (by omega)]
    by_cases q2 : j = TOPn sg
    · rw [q2, fu9_at]; exact hw
    · rw [fu9_ne q2]; exact hwt j (by omega)
theorem IV_n (h : IV9 ws wg wl rg R S sg gm F) (he : ∀ n, frC ws wg wl n (F (TOPn sg)) S = (none, S2)) : R = (none, S2) := by rw [h.2.1, he]; rfl
/-- the one on top is done -/
theorem IV_pop (h : IV9 ws wg wl rg R S sg gm F) (hh : 1 < (sg 63).toInt) (h63 : (sg2 63).toInt = (sg 63).toInt - 1) (hW : WF9 S2) (hO : (zO S).length ≤ (zO S2).length) (hk : ∀ j, j < TOPn sg - 1 → KF9 gm gm2 j) (hf : FM9 wg wl rg gm2 (zO S2) (TOPn sg - 1) (dlF wg (F (TOPn sg - 1)) o)) (he : ∀ n, frC ws wg wl n (F (TOPn sg)) S = (some o, S2)) : ∃ F2, IV9 ws wg wl rg R S2 sg2 gm2 F2 := by
  obtain ⟨_, hR, hM, hw⟩ := h
  have e := TOP_e (sg := sg) (by omega)
  have c1 := cln9 (u := sg 63) (by omega)
  have c2 := cln9 (u := sg2 63) (by omega)
  have ht : TOPn sg2 = TOPn sg - 1 := by unfold TOPn; omega
  refine ⟨fu9 F (TOPn sg - 1) (dlF wg (F (TOPn sg - 1)) o), hW, ?_, fun j hj => ?_, fun j hj => ?_⟩
  · rw [hR, he, ht, fu9_at, ctn_k (F := F) (TOPn sg - 1) (fun i hi => fu9_ne (by omega))]
    obtain ⟨m, hm⟩ : ∃ m, TOPn sg = m + 1 := ⟨TOPn sg - 1, by omega⟩
    rw [hm]; rfl
  · by_cases q : j = TOPn sg - 1
    · rw [q, fu9_at]; exact hf
    · rw [fu9_ne q]; exact FM_k (hM j (by omega)) (hk j (by omega)) hO
  · rw [fu9_ne (by omega)]; exact hw j (by omega)
theorem IV_e (h : IV9 ws wg wl rg R S sg gm F) (hh : (sg 63).toInt = 1) (he : ∀ n, frC ws wg wl n (F (TOPn sg)) S = (some o, S2)) : R = (some o, S2) := by
  have c1 := cln9 (u := sg 63) (by omega)
  rw [h.2.1, he, show TOPn sg = 0 by unfold TOPn; omega]; rfl
end FR8
end
