set_option maxHeartbeats 4000000 in
set_option maxRecDepth 100000 in
theorem f_workedOut (l : Launch) (dC : Nat → ClassId) (dI : Nat → Nat → Nat) (h0 : Nat) (ad : Nat → Nat) (cid : Nat → ClassId) (sg : Nat → Int32) (gm : Nat → Nat → Int32) (lg : Nat → Nat → Int64) (x : Int32) (sl : Int32) (hI : MI sg gm) (hvx : iv 0 79 x) (hvsl : iv 0 404 sl) (hdoc : DOC sg gm lg) (hxe : x.toNatClampNeg < (sg 24).toNatClampNeg) (hgi : GI0 sg gm lg) (hpi : PIL sg gm) (hh1 : 1 ≤ (sg 63).toInt) (hxk : (gm 26 x.toNatClampNeg).toInt = 4 ∨ (gm 26 x.toNatClampNeg).toInt = 5) (hit : (gm 67 (TOPn sg)).toInt ≤ LIM sg gm x) : MMi l dC dI yX13_workedOut wm_X13_workedOut ({ frames := 5, cells := 0, slots := 0, locals := 128 }) h0 ad cid [.int x, .int sl] sg gm lg (fun r v => ∃ (sg2 : Nat → Int32) (gm2 : Nat → Nat → Int32) (lg2 : Nat → Nat → Int64), v = (sg2, gm2, lg2) ∧ MI sg2 gm2 ∧ KS [51, 52, 63, 74] sg sg2 ∧ KS [62, 64, 65, 66, 67, 68, 69, 70, 71, 72, 73] gm gm2 ∧ KS [] lg lg2 ∧ (iv 0 1 r) ∧ (GI0 sg2 gm2 lg2) ∧ (WOUT sg gm (LIM sg gm x) sg2 gm2 r)) := by
  intro sz
  refine Met.ofW (cc := cX13_workedOut) (maxL := 8) (ret := (some .boolean)) (by decide) rfl ?_
  intro p e s m args below meth c s₁ B hml hv
  obtain ⟨rfl, hsz, hP, hK, hD0⟩ := hv
  have hx := B.exec
  have hb := B.bytes
  have hr := B.returns
  have hts := atoms_spec (ws := wm_X13_workedOut) B.pre
  have htb := fun (w : Cond) (h : w ∈ tb) => hts w (List.mem_cons_of_mem _ h)
  have hown : s.vm.findClass RX13 = some m.cls := findClass_of_methodNamed B.named
  have hlocks := B.notSynchronized
  subst hsz
  have hD := hD0.self (sz := s.heap.size)
  generalize hAe : va_A (mW h0 ad cid sg gm lg) s.heap.size = A at hD ⊢
  have hA : ∀ q : Nat, s.heap.size ≤ q → A q := fun q h => by rw [← hAe]; exact Or.inr h
  have hS : va_S A s.heap s.heap [] := va_S.rf
  have hl := lv_entry ([.ref h0, .int x, .int sl]) (n := 8) (Nat.le_of_ble_eq_true rfl)
  rw [lg_entry_eq]
  generalize (lg_sl ([.ref h0, .int x, .int sl]) ++ List.replicate (8 - (lg_sl ([.ref h0, .int x, .int sl])).length) Slot.unset).toArray = ls at hl ⊢
  have hl : lv_has ls 8 [(0, .ref h0), (1, .int x), (2, .int sl)] := hl
  have h63 : iv 1 80 (sg 63) := ⟨hh1, (show iv 0 80 (sg 63) from MI_s hI 63).2⟩
  have hj126 : ∀ (n : Nat) (sg_j126 : Nat → Int32) (gm_j126 : Nat → Nat → Int32) (x7_126 : Int32) (x6_126 : Int32) (x5_126 : Int32) (x4_126 : Int32) (x3_126 : Int32) (_ : mE x6_126 = n) (_ : iv 0 6 x7_126) (_ : iv (-1) 79 x6_126) (_ : iv 0 6 x5_126) (_ : iv 0 79 x4_126) (_ : iv 0 79 x3_126) (_ : iv 0 79 x) (_ : iv 0 404 sl) (_ : KS [51, 52, 63, 74] sg sg_j126) (_ : KS [62, 64, 65, 66, 67, 68, 69, 70, 71, 72, 73] gm gm_j126) (_ : MI sg_j126 gm_j126) (_ : LST sg gm x x4_126) (_ : x3_126.toNatClampNeg = TOPn sg) (_ : x6_126 = chF sg gm x4_126 x5_126.toNatClampNeg) (_ : (gm 67 (TOPn sg)).toInt ≤ x5_126.toInt ∧ x5_126.toInt ≤ (gm 29 x4_126.toNatClampNeg).toInt) (_ : SAMEQ sg gm sg_j126 gm_j126) (_ : gm_j126 67 (TOPn sg) = x5_126) (_ : GI0 sg_j126 gm_j126 lg) (H : Heap) (locs : List Loc) (ls : Array Slot), va_P (dC, dI) vwCl (mW h0 ad cid sg_j126 gm_j126 lg) H → va_D A (mW h0 ad cid sg_j126 gm_j126 lg) → va_S A s.heap H locs → lv_has ls 8 [(7, .int x7_126), (6, .int x6_126), (5, .int x5_126), (4, .int x4_126), (3, .int x3_126), (0, .ref h0), (1, .int x), (2, .int sl)] → W p l e (headSpec wm_X13_workedOut ({ frames := 5, cells := 0, slots := 0, locals := 128 })).room s m ([.ref h0, .int x, .int sl] : List Value).toArray below meth c H locs 0 0 (MQ below (va_Qi (fun r v => ∃ (sg2 : Nat → Int32) (gm2 : Nat → Nat → Int32) (lg2 : Nat → Nat → Int64), v = (sg2, gm2, lg2) ∧ MI sg2 gm2 ∧ KS [51, 52, 63, 74] sg sg2 ∧ KS [62, 64, 65, 66, 67, 68, 69, 70, 71, 72, 73] gm gm2 ∧ KS [] lg lg2 ∧ (iv 0 1 r) ∧ (GI0 sg2 gm2 lg2) ∧ (WOUT sg gm (LIM sg gm x) sg2 gm2 r)) (MB dC dI h0 ad cid A) A) ([.ref h0, .int x, .int sl] : List Value).toArray s 0 0 A) (F0 m 126 ls []) := by
    intro n
    induction n using Nat.strongRecOn with
    | ind n ih126 =>
      intro sg_j126 gm_j126 x7_126 x6_126 x5_126 x4_126 x3_126 hn126 hx7_126 hx6_126 hx5_126 hx4_126 hx3_126 hsx1_126 hsx2_126 hks_j126 hkg_j126 hI_j126 hLS htop hk9 hil hsq h67 hgi H locs ls hP hD hS hl
      refine lv_iload hx hb dX13_workedOut_126 (lv_at hl 1 rfl) ?_
      refine lv_iconst (v := (-1)) hx hb dX13_workedOut_128 (by decide) ?_
      refine lv_icmp_eq (tgt := 171) hx hb dX13_workedOut_129 (by decide) (fun c_1 => ?_) (fun c_1 => ?_)
      · have h_2 : iv (-1) (-1) x6_126 := iv_eq c_1 hx6_126 (iv_k (by decide) : iv (-1) (-1) (-1)) (by decide)
        refine lv_aload_n hx hb dX13_workedOut_171 rfl (lv_at hl 5 rfl) ?_
        refine mr_get (v := .ref (ad 70)) hx hb htb inX13 hown hK hP 70 (by decide) (htb _ kw_219) rfl dX13_workedOut_172 ?_
        refine lv_iload_n hx hb dX13_workedOut_175 rfl (lv_at hl 7 rfl) ?_
        refine lv_iconst (v := 3) hx hb dX13_workedOut_176 (by decide) ?_
        refine ma_iast (x := 3) hx hb hK hP hD hS 55 (k := 70) rfl rfl rfl (show vp_in sl 405 from (iv_in hsx2_126 (by decide))) dX13_workedOut_177 (fun gm_3 H locs egm_3 hP hD hS => ?_)
        have hI_gm_3 := MI_st hI_j126 egm_3 (iv_k (by decide) : iv 3 3 3) (by decide)
        refine lv_aload_n hx hb dX13_workedOut_178 rfl (lv_at hl 5 rfl) ?_
        refine mr_get (v := .ref (ad 71)) hx hb htb inX13 hown hK hP 71 (by decide) (htb _ kw_220) rfl dX13_workedOut_179 ?_
        refine lv_iload_n hx hb dX13_workedOut_182 rfl (lv_at hl 7 rfl) ?_
        refine lv_aload_n hx hb dX13_workedOut_183 rfl (lv_at hl 5 rfl) ?_
        refine mr_get (v := .ref (ad 29)) hx hb htb inX13 hown hK hP 29 (by decide) (htb _ kw_185) rfl dX13_workedOut_184 ?_
        refine lv_iload hx hb dX13_workedOut_187 (lv_at hl 3 rfl) ?_
        refine mr_iald hx hb hK hP 22 (k := 29) rfl rfl rfl (show vp_in x4_126 80 from (iv_in hx4_126 (by decide))) dX13_workedOut_189 ?_
        refine lv_topi (fun z_4 ez_4 => ?_)
        have hz_4 : iv 0 80 z_4 := iv_of ez_4 (MI_a hI_gm_3 29 hx4_126 (by decide))
        have ez_4 := ez_4.trans (congrFun (Eq.trans (up_ne egm_3 (by decide)) (hkg_j126 29 (by decide))) _)
        refine ma_iast (x := z_4) hx hb hK hP hD hS 56 (k := 71) rfl rfl rfl (show vp_in sl 405 from (iv_in hsx2_126 (by decide))) dX13_workedOut_190 (fun gm_5 H locs egm_5 hP hD hS => ?_)
        have hI_gm_5 := MI_st hI_gm_3 egm_5 hz_4 (by decide)
        refine lv_iconst (v := 1) hx hb dX13_workedOut_191 (by decide) ?_
        exact W.zret (v := 1) hx hb hr (iv_nb (iv_w (iv_k (by decide) : iv 1 1 1) (by decide))) (fun t ht hW => ⟨⟨1, (sg_j126, gm_5, lg), rfl, ⟨sg_j126, gm_5, lg, rfl, hI_gm_5, (KS_tr (L := [51, 52, 63, 74]) KS_rf hks_j126 (by decide)), (KS_up (KS_up (KS_tr (L := [62, 64, 65, 66, 67, 68, 69, 70, 71, 72, 73]) KS_rf hkg_j126 (by decide)) egm_3 (by decide)) egm_5 (by decide)), KS_rf, (iv_w (iv_k (by decide) : iv 1 1 1) (by decide)), (GI0_k hgi (DK_of (show KS [] sg_j126 sg_j126 from KS_rf) (show KS [70, 71] gm_j126 gm_5 from (KS_up (KS_up KS_rf egm_3 (by decide)) egm_5 (by decide))) (show KS [] lg lg from KS_rf) (by decide) (by decide) (by decide)) ((show KS [] lg lg from KS_rf) 1 (by decide)) ((show KS [70, 71] gm_j126 gm_5 from (KS_up (KS_up KS_rf egm_3 (by decide)) egm_5 (by decide))) 60 (by decide)) ((show KS [70, 71] gm_j126 gm_5 from (KS_up (KS_up KS_rf egm_3 (by decide)) egm_5 (by decide))) 61 (by decide)) ((show KS [70, 71] gm_j126 gm_5 from (KS_up (KS_up KS_rf egm_3 (by decide)) egm_5 (by decide))) 62 (by decide)) (VAL_v hgi.1 (show gm_5 70 = upd (gm_j126 70) (sl : Int32).toNatClampNeg 3 from ((up_ne egm_5 (by decide)).trans ((up_at egm_3).trans (by rw [show gm_j126 70 = gm_j126 70 from rfl])))) (show gm_5 71 = upd (gm_j126 71) (sl : Int32).toNatClampNeg z_4 from ((up_at egm_5).trans (by rw [show gm_3 71 = gm_j126 71 from ((up_ne egm_3 (by decide)).trans rfl)]))) ((show KS [70, 71] gm_j126 gm_5 from (KS_up (KS_up KS_rf egm_3 (by decide)) egm_5 (by decide))) 72 (by decide)) ((show KS [70, 71] gm_j126 gm_5 from (KS_up (KS_up KS_rf egm_3 (by decide)) egm_5 (by decide))) 73 (by decide)) rfl (vok_3 (by rw [ez_4]; exact hLS.2.2.2))) ((show KS [] sg_j126 sg_j126 from KS_rf) 50 (by decide))), (Or.inl ⟨rfl, SAMEQ_v hsq ((show KS [70, 71] gm_j126 gm_5 from (KS_up (KS_up KS_rf egm_3 (by decide)) egm_5 (by decide))) 62 (by decide)) ((show KS [70, 71] gm_j126 gm_5 from (KS_up (KS_up KS_rf egm_3 (by decide)) egm_5 (by decide))) 64 (by decide)) ((show KS [70, 71] gm_j126 gm_5 from (KS_up (KS_up KS_rf egm_3 (by decide)) egm_5 (by decide))) 65 (by decide)) ((show KS [70, 71] gm_j126 gm_5 from (KS_up (KS_up KS_rf egm_3 (by decide)) egm_5 (by decide))) 66 (by decide)) ((show KS [70, 71] gm_j126 gm_5 from (KS_up (KS_up KS_rf egm_3 (by decide)) egm_5 (by decide))) 67 (by decide)) ((show KS [70, 71] gm_j126 gm_5 from (KS_up (KS_up KS_rf egm_3 (by decide)) egm_5 (by decide))) 68 (by decide)) ((show KS [70, 71] gm_j126 gm_5 from (KS_up (KS_up KS_rf egm_3 (by decide)) egm_5 (by decide))) 69 (by decide))⟩)⟩, by rw [ht]; exact hP, va_K.moved hW.alike hK, hD⟩, hS.F ht⟩) hS.2.2 dX13_workedOut_192
      · have h_6 : iv 0 79 x6_126 := iv_neL c_1 hx6_126 (by decide)
        obtain ⟨hc1, hc2, hc3⟩ := chF_lt hdoc.1.1 (show iv 0 80 (sg 24) from MI_s hI 24) hLS.1 hLS.2.1 hk9 c_1
        have h132 : iv 0 5 x5_126 := ⟨(hx5_126).1, by have := hLS.2.2.2; have := iv_cl hx5_126 (by decide); omega⟩
        refine lv_aload_n hx hb dX13_workedOut_132 rfl (lv_at hl 5 rfl) ?_
        refine lv_iload hx hb dX13_workedOut_133 (lv_at hl 1 rfl) ?_
        refine lv_iload_n hx hb dX13_workedOut_135 rfl (lv_at hl 7 rfl) ?_
        refine lv_iload hx hb dX13_workedOut_136 (lv_at hl 2 rfl) ?_
        refine mr_calli (rest := []) ⟨hx, hb, hml, hown, htb⟩ (f_worked l dC dI h0 ad cid sg_j126 gm_j126 lg x6_126 sl x5_126 hI_j126 hc2 hsx2_126 (iv_w h132 (by decide)) (DOC_of hdoc (show KS [51, 52, 63, 74] sg sg_j126 from (KS_tr (L := [51, 52, 63, 74]) KS_rf hks_j126 (by decide))) (show KS [62, 64, 65, 66, 67, 68, 69, 70, 71, 72, 73] gm gm_j126 from (KS_tr (L := [62, 64, 65, 66, 67, 68, 69, 70, 71, 72, 73]) KS_rf hkg_j126 (by decide))) (show KS [] lg lg from KS_rf) (by decide) (by decide) (by decide) (by decide)) (by rw [(hks_j126 24 (by decide))]; exact hc3) hgi (PIL_k hsq.1 (hks_j126 41 (by decide)) hsq.2.1 hsq.2.2.1 hpi)) (cwV 3 htb (gd_V kw_1195 kw_1196 kw_1197 kw_5 kw_1615) rfl rfl rfl (by decide +kernel) ⟨Nat.le_of_ble_eq_true rfl, Nat.le_of_ble_eq_true rfl⟩) rfl hl.1 rfl (Nat.le_of_ble_eq_true rfl) dX13_workedOut_138 ⟨Nat.zero_le _, Nat.zero_le _⟩ hK hP hD hS hA (fun r_7 u_8 H locs hw hP hD hS => ?_)
        obtain ⟨sgv_9, gmv_9, lgv_9, rfl, hIv_9, ksv_9, kgv_9, klv_9, hr_7, fGI_r_7, fWk_r_7⟩ := hw
        obtain rfl := KS_nil klv_9
        have hP : va_P (dC, dI) vwCl (mW h0 ad cid sgv_9 gmv_9 lg) H := hP
        have hD : va_D A (mW h0 ad cid sgv_9 gmv_9 lg) := hD
        refine lv_if_ne (tgt := 146) hx hb dX13_workedOut_141 (by decide) (fun c_10 => ?_) (fun c_10 => ?_)
        · have h_11 : iv 1 1 r_7 := iv_neL c_10 hr_7 (by decide)
          obtain ⟨z_12, ez_12⟩ : ∃ z : Int32, z = x5_126 + 1 := ⟨_, rfl⟩
          have hz_12 : iv 1 6 z_12 := iv_of ez_12 (iv_add h132 (iv_k (by decide) : iv 1 1 1) (by decide))
          have tz_12 : z_12.toInt = x5_126.toInt + 1 := by rw [ez_12]; exact iv_addE h132 (iv_k (by decide) : iv 1 1 1) (by decide)
          refine lv_iinc (v := z_12) (lv' := [(5, .int z_12), (7, .int x7_126), (6, .int x6_126), (4, .int x4_126), (3, .int x3_126), (0, .ref h0), (1, .int x), (2, .int sl)]) hx hb dX13_workedOut_146 hl (k := 2) rfl ez_12.symm (by decide) rfl (fun ls hl => ?_)
          refine lv_aload_n hx hb dX13_workedOut_149 rfl (lv_at hl 5 rfl) ?_
          refine mr_get (v := .ref (ad 67)) hx hb htb inX13 hown hK hP 67 (by decide) (htb _ kw_216) rfl dX13_workedOut_150 ?_
          refine lv_iload_n hx hb dX13_workedOut_153 rfl (lv_at hl 4 rfl) ?_
          refine lv_iload hx hb dX13_workedOut_154 (lv_at hl 0 rfl) ?_
          refine ma_iast (x := z_12) hx hb hK hP hD hS 52 (k := 67) rfl rfl rfl (show vp_in x3_126 81 from (iv_in hx3_126 (by decide))) dX13_workedOut_156 (fun gm_13 H locs egm_13 hP hD hS => ?_)
          have hI_gm_13 := MI_st hIv_9 egm_13 hz_12 (by decide)
          refine lv_aload_n hx hb dX13_workedOut_157 rfl (lv_at hl 5 rfl) ?_
          refine lv_iload hx hb dX13_workedOut_158 (lv_at hl 3 rfl) ?_
          refine lv_iconst (v := 0) hx hb dX13_workedOut_160 (by decide) ?_
          refine lv_iload hx hb dX13_workedOut_161 (lv_at hl 2 rfl) ?_
          refine mr_calli (rest := []) ⟨hx, hb, hml, hown, htb⟩ (f_inner l dC dI h0 ad cid sgv_9 gm_13 lg x4_126 0 x6_126 hI_gm_13 (iv_w hx4_126 (by decide)) (iv_w (iv_k (by decide) : iv 0 0 0) (by decide)) hc2) (cwV 3 htb (gd_V kw_961 kw_962 kw_963 kw_5 kw_1557) rfl rfl rfl (by decide +kernel) ⟨Nat.le_of_ble_eq_true rfl, Nat.le_of_ble_eq_true rfl⟩) rfl hl.1 rfl (Nat.le_of_ble_eq_true rfl) dX13_workedOut_163 ⟨Nat.zero_le _, Nat.zero_le _⟩ hK hP hD hS hA (fun r_14 u_15 H locs hw hP hD hS => ?_)
          obtain ⟨hr_14, fN_r_14, rfl⟩ := hw
          have hP : va_P (dC, dI) vwCl (mW h0 ad cid sgv_9 gm_13 lg) H := hP
          have hD : va_D A (mW h0 ad cid sgv_9 gm_13 lg) := hD
          refine lv_istore (lv' := [(6, .int r_14), (5, .int z_12), (7, .int x7_126), (4, .int x4_126), (3, .int x3_126), (0, .ref h0), (1, .int x), (2, .int sl)]) hx hb dX13_workedOut_166 hl (by decide) rfl (fun ls hl => ?_)
          refine lv_goto (tgt := 126) hx hb dX13_workedOut_168 (by decide) ?_
          exact ih126 _ (by rw [← hn126]; exact (mE_lt hc2 hr_14 (by rcases mInn_or (gm := gm) (a := x4_126) (kd := 0) (bh := x6_126) (show iv 0 80 (sg 24) from MI_s hI 24) with q9 | q9; exact Or.inl ((fN_r_14.trans (mInn_k (DK_of (show KS [51, 52, 63, 74] sg sgv_9 from (KS_tr (L := [51, 52, 63, 74]) (KS_tr (L := [51, 52, 63, 74]) KS_rf hks_j126 (by decide)) ksv_9 (by decide))) (show KS [62, 64, 65, 66, 67, 68, 69, 70, 71, 72, 73] gm gm_13 from (KS_up (KS_tr (L := [62, 64, 65, 66, 67, 68, 69, 70, 71, 72, 73]) (KS_tr (L := [62, 64, 65, 66, 67, 68, 69, 70, 71, 72, 73]) KS_rf hkg_j126 (by decide)) kgv_9 (by decide)) egm_13 (by decide))) (show KS [] lg lg from KS_rf) (by decide) (by decide) (by decide)).1 _ _ _)).trans q9.1); exact Or.inr (by rw [fN_r_14.trans (mInn_k (DK_of (show KS [51, 52, 63, 74] sg sgv_9 from (KS_tr (L := [51, 52, 63, 74]) (KS_tr (L := [51, 52, 63, 74]) KS_rf hks_j126 (by decide)) ksv_9 (by decide))) (show KS [62, 64, 65, 66, 67, 68, 69, 70, 71, 72, 73] gm gm_13 from (KS_up (KS_tr (L := [62, 64, 65, 66, 67, 68, 69, 70, 71, 72, 73]) (KS_tr (L := [62, 64, 65, 66, 67, 68, 69, 70, 71, 72, 73]) KS_rf hkg_j126 (by decide)) kgv_9 (by decide)) egm_13 (by decide))) (show KS [] lg lg from KS_rf) (by decide) (by decide) (by decide)).1 _ _ _)]; exact q9.2.1)))) sgv_9 gm_13 x7_126 r_14 z_12 x4_126 x3_126 rfl hx7_126 hr_14 (iv_w hz_12 (by decide)) hx4_126 hx3_126 hsx1_126 hsx2_126 (KS_tr (L := [51, 52, 63, 74]) (KS_tr (L := [51, 52, 63, 74]) KS_rf hks_j126 (by decide)) ksv_9 (by decide)) (KS_up (KS_tr (L := [62, 64, 65, 66, 67, 68, 69, 70, 71, 72, 73]) (KS_tr (L := [62, 64, 65, 66, 67, 68, 69, 70, 71, 72, 73]) KS_rf hkg_j126 (by decide)) kgv_9 (by decide)) egm_13 (by decide)) hI_gm_13 (hLS) (htop) (by rw [s_cl h132 (by decide) tz_12]; exact chF_s hk9 c_1 (fN_r_14.trans (mInn_k (DK_of (show KS [51, 52, 63, 74] sg sgv_9 from (KS_tr (L := [51, 52, 63, 74]) (KS_tr (L := [51, 52, 63, 74]) KS_rf hks_j126 (by decide)) ksv_9 (by decide))) (show KS [62, 64, 65, 66, 67, 68, 69, 70, 71, 72, 73] gm gm_13 from (KS_up (KS_tr (L := [62, 64, 65, 66, 67, 68, 69, 70, 71, 72, 73]) (KS_tr (L := [62, 64, 65, 66, 67, 68, 69, 70, 71, 72, 73]) KS_rf hkg_j126 (by decide)) kgv_9 (by decide)) egm_13 (by decide))) (show KS [] lg lg from KS_rf) (by decide) (by decide) (by decide)).1 _ _ _))) (⟨by have := hil.1; have := tz_12; omega, by have := tz_12; have := iv_cl h132 (by decide); omega⟩) (SAMEQ_u (SAMEQ_p hsq (WRK_1 fWk_r_7 (fun q9 => c_10 (Int32.toInt_inj.mp q9)))) (show gm_13 67 = upd (gmv_9 67) _ _ from up_at egm_13) htop ((show KS [67] gmv_9 gm_13 from (KS_up KS_rf egm_13 (by decide))) 62 (by decide)) ((show KS [67] gmv_9 gm_13 from (KS_up KS_rf egm_13 (by decide))) 64 (by decide)) ((show KS [67] gmv_9 gm_13 from (KS_up KS_rf egm_13 (by decide))) 65 (by decide)) ((show KS [67] gmv_9 gm_13 from (KS_up KS_rf egm_13 (by decide))) 66 (by decide)) ((show KS [67] gmv_9 gm_13 from (KS_up KS_rf egm_13 (by decide))) 68 (by decide)) ((show KS [67] gmv_9 gm_13 from (KS_up KS_rf egm_13 (by decide))) 69 (by decide))) (by rw [show gm_13 67 = upd (gmv_9 67) _ _ from up_at egm_13, htop, upd_at]) (GI0_of fGI_r_7 (show KS [] sgv_9 sgv_9 from KS_rf) (show KS [67] gmv_9 gm_13 from (KS_up KS_rf egm_13 (by decide))) (show KS [] lg lg from KS_rf) (by decide) (by decide) (by decide) (by decide) (by decide) (by decide)) _ _ _ hP hD hS (lv_sub hl [2, 0, 1, 3, 4, 5, 6, 7] rfl)
        · have h_16 : iv 0 0 r_7 := iv_eq c_10 hr_7 (iv_k (by decide) : iv 0 0 0) (by decide)
          refine lv_iconst (v := 0) hx hb dX13_workedOut_144 (by decide) ?_
          exact W.zret (v := 0) hx hb hr (iv_nb (iv_w (iv_k (by decide) : iv 0 0 0) (by decide))) (fun t ht hW => ⟨⟨0, (sgv_9, gmv_9, lg), rfl, ⟨sgv_9, gmv_9, lg, rfl, hIv_9, (KS_tr (L := [51, 52, 63, 74]) (KS_tr (L := [51, 52, 63, 74]) KS_rf hks_j126 (by decide)) ksv_9 (by decide)), (KS_tr (L := [62, 64, 65, 66, 67, 68, 69, 70, 71, 72, 73]) (KS_tr (L := [62, 64, 65, 66, 67, 68, 69, 70, 71, 72, 73]) KS_rf hkg_j126 (by decide)) kgv_9 (by decide)), KS_rf, (iv_w (iv_k (by decide) : iv 0 0 0) (by decide)), (fGI_r_7), (by have q7 := WOUT_0 (lim := LIM sg gm x) hsq (hks_j126 41 (by decide)) fWk_r_7 (congrArg Int32.toInt c_10) (by rw [h67]; exact hil.1) (by rw [h67, hLS.2.2.1]; have := iv_cl h132 (by decide); omega); rw [c_10] at q7; exact q7)⟩, by rw [ht]; exact hP, va_K.moved hW.alike hK, hD⟩, hS.F ht⟩) hS.2.2 dX13_workedOut_145
  have hj102 : ∀ (n : Nat) (x7_102 : Int32) (x6_102 : Int32) (x5_102 : Int32) (x4_102 : Int32) (x3_102 : Int32) (_ : (6 - x7_102.toInt).toNat = n) (_ : iv 0 6 x7_102) (_ : iv (-1) 79 x6_102) (_ : iv 0 6 x5_102) (_ : iv 0 79 x4_102) (_ : iv 0 79 x3_102) (_ : iv 0 79 x) (_ : iv 0 404 sl) (_ : LST sg gm x x4_102) (_ : x3_102.toNatClampNeg = TOPn sg) (_ : x6_102 = chF sg gm x4_102 x7_102.toNatClampNeg) (_ : x7_102.toInt ≤ x5_102.toInt) (_ : x5_102.toInt ≤ (gm 29 x4_102.toNatClampNeg).toInt) (_ : gm 67 (TOPn sg) = x5_102) (H : Heap) (locs : List Loc) (ls : Array Slot), va_P (dC, dI) vwCl (mW h0 ad cid sg gm lg) H → va_D A (mW h0 ad cid sg gm lg) → va_S A s.heap H locs → lv_has ls 8 [(7, .int x7_102), (6, .int x6_102), (5, .int x5_102), (4, .int x4_102), (3, .int x3_102), (0, .ref h0), (1, .int x), (2, .int sl)] → W p l e (headSpec wm_X13_workedOut ({ frames := 5, cells := 0, slots := 0, locals := 128 })).room s m ([.ref h0, .int x, .int sl] : List Value).toArray below meth c H locs 0 0 (MQ below (va_Qi (fun r v => ∃ (sg2 : Nat → Int32) (gm2 : Nat → Nat → Int32) (lg2 : Nat → Nat → Int64), v = (sg2, gm2, lg2) ∧ MI sg2 gm2 ∧ KS [51, 52, 63, 74] sg sg2 ∧ KS [62, 64, 65, 66, 67, 68, 69, 70, 71, 72, 73] gm gm2 ∧ KS [] lg lg2 ∧ (iv 0 1 r) ∧ (GI0 sg2 gm2 lg2) ∧ (WOUT sg gm (LIM sg gm x) sg2 gm2 r)) (MB dC dI h0 ad cid A) A) ([.ref h0, .int x, .int sl] : List Value).toArray s 0 0 A) (F0 m 102 ls []) := by
    intro n
    induction n using Nat.strongRecOn with
    | ind n ih102 =>
      intro x7_102 x6_102 x5_102 x4_102 x3_102 hn102 hx7_102 hx6_102 hx5_102 hx4_102 hx3_102 hsx1_102 hsx2_102 hLS htop hk9 hn5 h5l h5e H locs ls hP hD hS hl
      refine lv_iload hx hb dX13_workedOut_102 (lv_at hl 0 rfl) ?_
      refine lv_iload hx hb dX13_workedOut_104 (lv_at hl 2 rfl) ?_
      refine lv_icmp_ge (tgt := 126) hx hb dX13_workedOut_106 (by decide) (fun c_17 => ?_) (fun c_17 => ?_)
      · have d_18 : (x5_102 : Int32).toInt ≤ (x7_102 : Int32).toInt := Int32.le_iff_toInt_le.mp c_17
        exact hj126 _ sg gm x7_102 x6_102 x5_102 x4_102 x3_102 rfl hx7_102 hx6_102 hx5_102 hx4_102 hx3_102 hsx1_102 hsx2_102 KS_rf KS_rf hI (hLS) (htop) (by have q9 : x7_102.toNatClampNeg = x5_102.toNatClampNeg := (by have := le_cl hx7_102 hx5_102 (by decide) (by decide) hn5; have := le_cl hx5_102 hx7_102 (by decide) (by decide) (by have := i32_0; have := i32_1; have := i32_2; have := i32_m1; have := (hsx1_102).1; have := (hsx1_102).2; have := (hsx2_102).1; have := (hsx2_102).2; have := (h63).1; have := (h63).2; have := (hx7_102).1; have := (hx7_102).2; have := (hx6_102).1; have := (hx6_102).2; have := (hx5_102).1; have := (hx5_102).2; have := (hx4_102).1; have := (hx4_102).2; have := (hx3_102).1; have := (hx3_102).2; omega); omega); rw [← q9]; exact hk9) (⟨by rw [h5e]; exact Int.le_refl _, h5l⟩) (SAMEQ_rf) (h5e) (hgi) _ _ _ hP hD hS (lv_sub hl [0, 1, 2, 3, 4, 5, 6, 7] rfl)
      · have d_19 : (x7_102 : Int32).toInt < (x5_102 : Int32).toInt := Int32.lt_iff_toInt_lt.mp (i32_lt c_17)
        have h_20 : iv 0 5 x7_102 := iv_ltL (i32_lt c_17) hx7_102 hx5_102 (by decide)
        have h_21 : iv 1 6 x5_102 := iv_ltR (i32_lt c_17) hx7_102 hx5_102 (by decide)
        have h109 := (chF_in hdoc.1.1 (show iv 0 80 (sg 24) from MI_s hI 24) hLS.1 hLS.2.1 hk9 (by have := iv_cl h_20 (by decide); have := i32_0; have := i32_1; have := i32_2; have := i32_m1; have := (hsx1_102).1; have := (hsx1_102).2; have := (hsx2_102).1; have := (hsx2_102).2; have := (h63).1; have := (h63).2; have := (h_20).1; have := (h_20).2; have := (hx6_102).1; have := (hx6_102).2; have := (h_21).1; have := (h_21).2; have := (hx4_102).1; have := (hx4_102).2; have := (hx3_102).1; have := (hx3_102).2; omega)).1
        refine lv_aload_n hx hb dX13_workedOut_109 rfl (lv_at hl 5 rfl) ?_
        refine lv_iload hx hb dX13_workedOut_110 (lv_at hl 3 rfl) ?_
        refine lv_iconst (v := 0) hx hb dX13_workedOut_112 (by decide) ?_
        refine lv_iload hx hb dX13_workedOut_113 (lv_at hl 1 rfl) ?_
        refine mr_calli (rest := []) ⟨hx, hb, hml, hown, htb⟩ (f_inner l dC dI h0 ad cid sg gm lg x4_102 0 x6_102 hI (iv_w hx4_102 (by decide)) (iv_w (iv_k (by decide) : iv 0 0 0) (by decide)) h109) (cwV 3 htb (gd_V kw_961 kw_962 kw_963 kw_5 kw_1557) rfl rfl rfl (by decide +kernel) ⟨Nat.le_of_ble_eq_true rfl, Nat.le_of_ble_eq_true rfl⟩) rfl hl.1 rfl (Nat.le_of_ble_eq_true rfl) dX13_workedOut_115 ⟨Nat.zero_le _, Nat.zero_le _⟩ hK hP hD hS hA (fun r_22 u_23 H locs hw hP hD hS => ?_)
        obtain ⟨hr_22, fN_r_22, rfl⟩ := hw
        have hP : va_P (dC, dI) vwCl (mW h0 ad cid sg gm lg) H := hP
        have hD : va_D A (mW h0 ad cid sg gm lg) := hD
        refine lv_istore (lv' := [(6, .int r_22), (7, .int x7_102), (5, .int x5_102), (4, .int x4_102), (3, .int x3_102), (0, .ref h0), (1, .int x), (2, .int sl)]) hx hb dX13_workedOut_118 hl (by decide) rfl (fun ls hl => ?_)
        obtain ⟨z_24, ez_24⟩ : ∃ z : Int32, z = x7_102 + 1 := ⟨_, rfl⟩
        have hz_24 : iv 1 6 z_24 := iv_of ez_24 (iv_add h_20 (iv_k (by decide) : iv 1 1 1) (by decide))
        have tz_24 : z_24.toInt = x7_102.toInt + 1 := by rw [ez_24]; exact iv_addE h_20 (iv_k (by decide) : iv 1 1 1) (by decide)
        refine lv_iinc (v := z_24) (lv' := [(7, .int z_24), (6, .int r_22), (5, .int x5_102), (4, .int x4_102), (3, .int x3_102), (0, .ref h0), (1, .int x), (2, .int sl)]) hx hb dX13_workedOut_120 hl (k := 1) rfl ez_24.symm (by decide) rfl (fun ls hl => ?_)
        refine lv_goto (tgt := 102) hx hb dX13_workedOut_123 (by decide) ?_
        exact ih102 _ (by rw [← hn102]; exact (iv_meas tz_24 h_20 (by decide))) z_24 r_22 x5_102 x4_102 x3_102 rfl (iv_w hz_24 (by decide)) hr_22 (iv_w h_21 (by decide)) hx4_102 hx3_102 hsx1_102 hsx2_102 (hLS) (htop) (by rw [s_cl h_20 (by decide) tz_24]; exact chF_s hk9 (fun q9 => absurd h109.1 (by rw [q9]; decide)) fN_r_22) (by have := i32_0; have := i32_1; have := i32_2; have := i32_m1; have := (hsx1_102).1; have := (hsx1_102).2; have := (hsx2_102).1; have := (hsx2_102).2; have := (h63).1; have := (h63).2; have := (h_20).1; have := (h_20).2; have := (h109).1; have := (h109).2; have := (h_21).1; have := (h_21).2; have := (hx4_102).1; have := (hx4_102).2; have := (hx3_102).1; have := (hx3_102).2; have := (hr_22).1; have := (hr_22).2; have := (hz_24).1; have := (hz_24).2; omega) (h5l) (h5e) _ _ _ hP hD hS (lv_sub hl [0, 1, 2, 3, 4, 5, 6, 7] rfl)
  have hj79 : ∀ (sg_j79 : Nat → Int32) (gm_j79 : Nat → Nat → Int32) (x4_79 : Int32) (x3_79 : Int32) (y0_79 : Int32) (_ : iv 0 79 x4_79) (_ : iv 0 79 x3_79) (_ : iv 0 79 x) (_ : iv 0 404 sl) (_ : iv 0 1 y0_79) (_ : KS [51, 52, 63, 74] sg sg_j79) (_ : KS [62, 64, 65, 66, 67, 68, 69, 70, 71, 72, 73] gm gm_j79) (_ : MI sg_j79 gm_j79) (_ : WOUT sg gm (LIM sg gm x) sg_j79 gm_j79 y0_79) (_ : GI0 sg_j79 gm_j79 lg) (H : Heap) (locs : List Loc) (ls : Array Slot), va_P (dC, dI) vwCl (mW h0 ad cid sg_j79 gm_j79 lg) H → va_D A (mW h0 ad cid sg_j79 gm_j79 lg) → va_S A s.heap H locs → lv_has ls 8 [(4, .int x4_79), (3, .int x3_79), (0, .ref h0), (1, .int x), (2, .int sl)] → W p l e (headSpec wm_X13_workedOut ({ frames := 5, cells := 0, slots := 0, locals := 128 })).room s m ([.ref h0, .int x, .int sl] : List Value).toArray below meth c H locs 0 0 (MQ below (va_Qi (fun r v => ∃ (sg2 : Nat → Int32) (gm2 : Nat → Nat → Int32) (lg2 : Nat → Nat → Int64), v = (sg2, gm2, lg2) ∧ MI sg2 gm2 ∧ KS [51, 52, 63, 74] sg sg2 ∧ KS [62, 64, 65, 66, 67, 68, 69, 70, 71, 72, 73] gm gm2 ∧ KS [] lg lg2 ∧ (iv 0 1 r) ∧ (GI0 sg2 gm2 lg2) ∧ (WOUT sg gm (LIM sg gm x) sg2 gm2 r)) (MB dC dI h0 ad cid A) A) ([.ref h0, .int x, .int sl] : List Value).toArray s 0 0 A) (F0 m 79 ls [.int y0_79]) := by
    intro sg_j79 gm_j79 x4_79 x3_79 y0_79 hx4_79 hx3_79 hsx1_79 hsx2_79 hy0_79 hks_j79 hkg_j79 hI_j79 hWO hgi H locs ls hP hD hS hl
    exact W.zret (v := y0_79) hx hb hr (iv_nb hy0_79) (fun t ht hW => ⟨⟨y0_79, (sg_j79, gm_j79, lg), rfl, ⟨sg_j79, gm_j79, lg, rfl, hI_j79, (KS_tr (L := [51, 52, 63, 74]) KS_rf hks_j79 (by decide)), (KS_tr (L := [62, 64, 65, 66, 67, 68, 69, 70, 71, 72, 73]) KS_rf hkg_j79 (by decide)), KS_rf, hy0_79, (hgi), (hWO)⟩, by rw [ht]; exact hP, va_K.moved hW.alike hK, hD⟩, hS.F ht⟩) hS.2.2 dX13_workedOut_79
  have hj74 : ∀ (sg_j74 : Nat → Int32) (gm_j74 : Nat → Nat → Int32) (x4_74 : Int32) (x3_74 : Int32) (_ : iv 0 79 x4_74) (_ : iv 0 79 x3_74) (_ : iv 0 79 x) (_ : iv 0 404 sl) (_ : KS [51, 52, 63, 74] sg sg_j74) (_ : KS [62, 64, 65, 66, 67, 68, 69, 70, 71, 72, 73] gm gm_j74) (_ : MI sg_j74 gm_j74) (_ : SAMEQ sg gm sg_j74 gm_j74) (_ : GI0 sg_j74 gm_j74 lg) (H : Heap) (locs : List Loc) (ls : Array Slot), va_P (dC, dI) vwCl (mW h0 ad cid sg_j74 gm_j74 lg) H → va_D A (mW h0 ad cid sg_j74 gm_j74 lg) → va_S A s.heap H locs → lv_has ls 8 [(4, .int x4_74), (3, .int x3_74), (0, .ref h0), (1, .int x), (2, .int sl)] → W p l e (headSpec wm_X13_workedOut ({ frames := 5, cells := 0, slots := 0, locals := 128 })).room s m ([.ref h0, .int x, .int sl] : List Value).toArray below meth c H locs 0 0 (MQ below (va_Qi (fun r v => ∃ (sg2 : Nat → Int32) (gm2 : Nat → Nat → Int32) (lg2 : Nat → Nat → Int64), v = (sg2, gm2, lg2) ∧ MI sg2 gm2 ∧ KS [51, 52, 63, 74] sg sg2 ∧ KS [62, 64, 65, 66, 67, 68, 69, 70, 71, 72, 73] gm gm2 ∧ KS [] lg lg2 ∧ (iv 0 1 r) ∧ (GI0 sg2 gm2 lg2) ∧ (WOUT sg gm (LIM sg gm x) sg2 gm2 r)) (MB dC dI h0 ad cid A) A) ([.ref h0, .int x, .int sl] : List Value).toArray s 0 0 A) (F0 m 74 ls []) := by
    intro sg_j74 gm_j74 x4_74 x3_74 hx4_74 hx3_74 hsx1_74 hsx2_74 hks_j74 hkg_j74 hI_j74 hsq hgi H locs ls hP hD hS hl
    refine lv_iconst (v := 1) hx hb dX13_workedOut_74 (by decide) ?_
    refine lv_goto (tgt := 79) hx hb dX13_workedOut_75 (by decide) ?_
    exact hj79 sg_j74 gm_j74 x4_74 x3_74 1 hx4_74 hx3_74 hsx1_74 hsx2_74 (iv_w (iv_k (by decide) : iv 1 1 1) (by decide)) (KS_tr (L := [51, 52, 63, 74]) KS_rf hks_j74 (by decide)) (KS_tr (L := [62, 64, 65, 66, 67, 68, 69, 70, 71, 72, 73]) KS_rf hkg_j74 (by decide)) hI_j74 (Or.inl ⟨rfl, hsq⟩) (hgi) _ _ _ hP hD hS (lv_sub hl [0, 1, 2, 3, 4] rfl)
  have hj40 : ∀ (x3_40 : Int32) (y0_40 : Int32) (_ : iv 0 79 x3_40) (_ : iv 0 79 x) (_ : iv 0 404 sl) (_ : iv (-1) 79 y0_40) (_ : WIN sg gm x y0_40) (_ : x3_40.toNatClampNeg = TOPn sg) (H : Heap) (locs : List Loc) (ls : Array Slot), va_P (dC, dI) vwCl (mW h0 ad cid sg gm lg) H → va_D A (mW h0 ad cid sg gm lg) → va_S A s.heap H locs → lv_has ls 8 [(3, .int x3_40), (0, .ref h0), (1, .int x), (2, .int sl)] → W p l e (headSpec wm_X13_workedOut ({ frames := 5, cells := 0, slots := 0, locals := 128 })).room s m ([.ref h0, .int x, .int sl] : List Value).toArray below meth c H locs 0 0 (MQ below (va_Qi (fun r v => ∃ (sg2 : Nat → Int32) (gm2 : Nat → Nat → Int32) (lg2 : Nat → Nat → Int64), v = (sg2, gm2, lg2) ∧ MI sg2 gm2 ∧ KS [51, 52, 63, 74] sg sg2 ∧ KS [62, 64, 65, 66, 67, 68, 69, 70, 71, 72, 73] gm gm2 ∧ KS [] lg lg2 ∧ (iv 0 1 r) ∧ (GI0 sg2 gm2 lg2) ∧ (WOUT sg gm (LIM sg gm x) sg2 gm2 r)) (MB dC dI h0 ad cid A) A) ([.ref h0, .int x, .int sl] : List Value).toArray s 0 0 A) (F0 m 40 ls [.int y0_40]) := by
    intro x3_40 y0_40 hx3_40 hsx1_40 hsx2_40 hy0_40 hin htop H locs ls hP hD hS hl
    refine lv_istore (lv' := [(4, .int y0_40), (3, .int x3_40), (0, .ref h0), (1, .int x), (2, .int sl)]) hx hb dX13_workedOut_40 hl (by decide) rfl (fun ls hl => ?_)
    refine lv_aload_n hx hb dX13_workedOut_42 rfl (lv_at hl 2 rfl) ?_
    refine mr_get (v := .ref (ad 26)) hx hb htb inX13 hown hK hP 26 (by decide) (htb _ kw_182) rfl dX13_workedOut_43 ?_
    refine lv_iload hx hb dX13_workedOut_46 (lv_at hl 0 rfl) ?_
    refine mr_iald hx hb hK hP 19 (k := 26) rfl rfl rfl (show vp_in y0_40 80 from (iv_in hin.1 (by decide))) dX13_workedOut_48 ?_
    refine lv_topi (fun z_25 ez_25 => ?_)
    have hz_25 : iv 0 10 z_25 := iv_of ez_25 (MI_a hI 26 hin.1 (by decide))
    refine lv_bipush (v := 6) hx hb dX13_workedOut_49 (by decide) ?_
    refine lv_icmp_eq (tgt := 80) hx hb dX13_workedOut_51 (by decide) (fun c_26 => ?_) (fun c_26 => ?_)
    · have h_27 : iv 6 6 z_25 := iv_eq c_26 hz_25 (iv_k (by decide) : iv 6 6 6) (by decide)
      have hLS := WIN_6 hdoc.1.2.1 hxk hin (by rw [← ez_25]; exact c_26)
      refine lv_aload_n hx hb dX13_workedOut_80 rfl (lv_at hl 2 rfl) ?_
      refine mr_get (v := .ref (ad 67)) hx hb htb inX13 hown hK hP 67 (by decide) (htb _ kw_216) rfl dX13_workedOut_81 ?_
      refine lv_iload_n hx hb dX13_workedOut_84 rfl (lv_at hl 1 rfl) ?_
      refine mr_iald hx hb hK hP 52 (k := 67) rfl rfl rfl (show vp_in x3_40 81 from (iv_in hx3_40 (by decide))) dX13_workedOut_85 ?_
      refine lv_topi (fun z_28 ez_28 => ?_)
      have hz_28 : iv 0 6 z_28 := iv_of ez_28 (MI_a hI 67 hx3_40 (by decide))
      refine lv_istore (lv' := [(5, .int z_28), (4, .int y0_40), (3, .int x3_40), (0, .ref h0), (1, .int x), (2, .int sl)]) hx hb dX13_workedOut_86 hl (by decide) rfl (fun ls hl => ?_)
      refine lv_aload_n hx hb dX13_workedOut_88 rfl (lv_at hl 3 rfl) ?_
      refine lv_iload hx hb dX13_workedOut_89 (lv_at hl 1 rfl) ?_
      refine lv_iconst (v := 0) hx hb dX13_workedOut_91 (by decide) ?_
      refine lv_iload hx hb dX13_workedOut_92 (lv_at hl 1 rfl) ?_
      refine mr_calli (rest := []) ⟨hx, hb, hml, hown, htb⟩ (f_inner l dC dI h0 ad cid sg gm lg y0_40 0 y0_40 hI (iv_w hin.1 (by decide)) (iv_w (iv_k (by decide) : iv 0 0 0) (by decide)) hin.1) (cwV 3 htb (gd_V kw_961 kw_962 kw_963 kw_5 kw_1557) rfl rfl rfl (by decide +kernel) ⟨Nat.le_of_ble_eq_true rfl, Nat.le_of_ble_eq_true rfl⟩) rfl hl.1 rfl (Nat.le_of_ble_eq_true rfl) dX13_workedOut_94 ⟨Nat.zero_le _, Nat.zero_le _⟩ hK hP hD hS hA (fun r_29 u_30 H locs hw hP hD hS => ?_)
      obtain ⟨hr_29, fN_r_29, rfl⟩ := hw
      have hP : va_P (dC, dI) vwCl (mW h0 ad cid sg gm lg) H := hP
      have hD : va_D A (mW h0 ad cid sg gm lg) := hD
      refine lv_istore (lv' := [(6, .int r_29), (5, .int z_28), (4, .int y0_40), (3, .int x3_40), (0, .ref h0), (1, .int x), (2, .int sl)]) hx hb dX13_workedOut_97 hl (by decide) rfl (fun ls hl => ?_)
      refine lv_iconst (v := 0) hx hb dX13_workedOut_99 (by decide) ?_
      refine lv_istore (lv' := [(7, .int 0), (6, .int r_29), (5, .int z_28), (4, .int y0_40), (3, .int x3_40), (0, .ref h0), (1, .int x), (2, .int sl)]) hx hb dX13_workedOut_100 hl (by decide) rfl (fun ls hl => ?_)
      exact hj102 _ 0 r_29 z_28 y0_40 x3_40 rfl (iv_w (iv_k (by decide) : iv 0 0 0) (by decide)) hr_29 hz_28 hin.1 hx3_40 hsx1_40 hsx2_40 (hLS) (htop) (fN_r_29) (by have := i32_0; have := i32_1; have := i32_2; have := i32_m1; have := (hsx1_40).1; have := (hsx1_40).2; have := (hsx2_40).1; have := (hsx2_40).2; have := (h63).1; have := (h63).2; have := (hx3_40).1; have := (hx3_40).2; have := (hin.1).1; have := (hin.1).2; have := (h_27).1; have := (h_27).2; have := (hz_28).1; have := (hz_28).2; have := (hr_29).1; have := (hr_29).2; omega) (by have q9 := congrArg Int32.toInt (show z_28 = gm 67 (TOPn sg) from (by have q9 := ez_28; rw [htop] at q9; exact q9)); rw [← hLS.2.2.1, q9]; exact hit) ((show z_28 = gm 67 (TOPn sg) from (by have q9 := ez_28; rw [htop] at q9; exact q9)).symm) _ _ _ hP hD hS (lv_sub hl [0, 1, 2, 3, 4, 5, 6, 7] rfl)
    · have d_31 : ¬ (z_25 : Int32).toInt = 6 := lv_neT c_26 rfl
      refine lv_aload_n hx hb dX13_workedOut_54 rfl (lv_at hl 2 rfl) ?_
      refine mr_get (v := .ref (ad 67)) hx hb htb inX13 hown hK hP 67 (by decide) (htb _ kw_216) rfl dX13_workedOut_55 ?_
      refine lv_iload_n hx hb dX13_workedOut_58 rfl (lv_at hl 1 rfl) ?_
      refine mr_iald hx hb hK hP 52 (k := 67) rfl rfl rfl (show vp_in x3_40 81 from (iv_in hx3_40 (by decide))) dX13_workedOut_59 ?_
      refine lv_topi (fun z_32 ez_32 => ?_)
      have hz_32 : iv 0 6 z_32 := iv_of ez_32 (MI_a hI 67 hx3_40 (by decide))
      refine lv_if_gt (tgt := 74) hx hb dX13_workedOut_60 (by decide) (fun c_33 => ?_) (fun c_33 => ?_)
      · have h_34 : iv 1 6 z_32 := iv_ltR c_33 (iv_k (by decide) : iv 0 0 0) hz_32 (by decide)
        exact hj74 sg gm y0_40 x3_40 hin.1 hx3_40 hsx1_40 hsx2_40 KS_rf KS_rf hI (SAMEQ_rf) (hgi) _ _ _ hP hD hS (lv_sub hl [0, 1, 2, 3, 4] rfl)
      · have h_35 : iv 0 0 z_32 := iv_leL (i32_ge c_33) hz_32 (iv_k (by decide) : iv 0 0 0) (by decide)
        refine lv_aload_n hx hb dX13_workedOut_63 rfl (lv_at hl 2 rfl) ?_
        refine lv_iload hx hb dX13_workedOut_64 (lv_at hl 0 rfl) ?_
        refine lv_iload_n hx hb dX13_workedOut_66 rfl (lv_at hl 4 rfl) ?_
        refine lv_iconst (v := (-1)) hx hb dX13_workedOut_67 (by decide) ?_
        refine mr_calli (rest := []) ⟨hx, hb, hml, hown, htb⟩ (f_worked l dC dI h0 ad cid sg gm lg y0_40 sl (-1) hI hin.1 hsx2_40 (iv_w (iv_k (by decide) : iv (-1) (-1) (-1)) (by decide)) hdoc hin.2.1 hgi hpi) (cwV 3 htb (gd_V kw_1195 kw_1196 kw_1197 kw_5 kw_1615) rfl rfl rfl (by decide +kernel) ⟨Nat.le_of_ble_eq_true rfl, Nat.le_of_ble_eq_true rfl⟩) rfl hl.1 rfl (Nat.le_of_ble_eq_true rfl) dX13_workedOut_68 ⟨Nat.zero_le _, Nat.zero_le _⟩ hK hP hD hS hA (fun r_36 u_37 H locs hw hP hD hS => ?_)
        obtain ⟨sgv_38, gmv_38, lgv_38, rfl, hIv_38, ksv_38, kgv_38, klv_38, hr_36, fGI_r_36, fWk_r_36⟩ := hw
        obtain rfl := KS_nil klv_38
        have hP : va_P (dC, dI) vwCl (mW h0 ad cid sgv_38 gmv_38 lg) H := hP
        have hD : va_D A (mW h0 ad cid sgv_38 gmv_38 lg) := hD
        refine lv_if_eq (tgt := 78) hx hb dX13_workedOut_71 (by decide) (fun c_39 => ?_) (fun c_39 => ?_)
        · have h_40 : iv 0 0 r_36 := iv_eq c_39 hr_36 (iv_k (by decide) : iv 0 0 0) (by decide)
          refine lv_iconst (v := 0) hx hb dX13_workedOut_78 (by decide) ?_
          exact hj79 sgv_38 gmv_38 y0_40 x3_40 0 hin.1 hx3_40 hsx1_40 hsx2_40 (iv_w (iv_k (by decide) : iv 0 0 0) (by decide)) (KS_tr (L := [51, 52, 63, 74]) KS_rf ksv_38 (by decide)) (KS_tr (L := [62, 64, 65, 66, 67, 68, 69, 70, 71, 72, 73]) KS_rf kgv_38 (by decide)) hIv_38 (by have q8 := congrArg Int32.toInt (show z_32 = gm 67 (TOPn sg) from (by have q9 := ez_32; rw [htop] at q9; exact q9)); have q7 := WOUT_0 (lim := LIM sg gm x) SAMEQ_rf rfl fWk_r_36 (congrArg Int32.toInt c_39) (Int.le_refl _) (by rw [WIN_1 hin (by rw [← ez_25]; exact c_26), ← q8]; have := (h_35).2; omega); rw [c_39] at q7; exact q7) (fGI_r_36) _ _ _ hP hD hS (lv_sub hl [0, 1, 2, 3, 4] rfl)
        · have h_41 : iv 1 1 r_36 := iv_neL c_39 hr_36 (by decide)
          exact hj74 sgv_38 gmv_38 y0_40 x3_40 hin.1 hx3_40 hsx1_40 hsx2_40 (KS_tr (L := [51, 52, 63, 74]) KS_rf ksv_38 (by decide)) (KS_tr (L := [62, 64, 65, 66, 67, 68, 69, 70, 71, 72, 73]) KS_rf kgv_38 (by decide)) hIv_38 (SAMEQ_p SAMEQ_rf (WRK_1 fWk_r_36 (fun q9 => c_39 (Int32.toInt_inj.mp q9)))) (fGI_r_36) _ _ _ hP hD hS (lv_sub hl [0, 1, 2, 3, 4] rfl)
  have hj29 : ∀ (x3_29 : Int32) (_ : iv 0 79 x3_29) (_ : iv 0 79 x) (_ : iv 0 404 sl) (_ : ¬ mHas gm lg x.toNatClampNeg 508440638821 = 0 ∨ ¬ mHas gm lg x.toNatClampNeg 7497062 = 0) (_ : x3_29.toNatClampNeg = TOPn sg) (H : Heap) (locs : List Loc) (ls : Array Slot), va_P (dC, dI) vwCl (mW h0 ad cid sg gm lg) H → va_D A (mW h0 ad cid sg gm lg) → va_S A s.heap H locs → lv_has ls 8 [(3, .int x3_29), (0, .ref h0), (1, .int x), (2, .int sl)] → W p l e (headSpec wm_X13_workedOut ({ frames := 5, cells := 0, slots := 0, locals := 128 })).room s m ([.ref h0, .int x, .int sl] : List Value).toArray below meth c H locs 0 0 (MQ below (va_Qi (fun r v => ∃ (sg2 : Nat → Int32) (gm2 : Nat → Nat → Int32) (lg2 : Nat → Nat → Int64), v = (sg2, gm2, lg2) ∧ MI sg2 gm2 ∧ KS [51, 52, 63, 74] sg sg2 ∧ KS [62, 64, 65, 66, 67, 68, 69, 70, 71, 72, 73] gm gm2 ∧ KS [] lg lg2 ∧ (iv 0 1 r) ∧ (GI0 sg2 gm2 lg2) ∧ (WOUT sg gm (LIM sg gm x) sg2 gm2 r)) (MB dC dI h0 ad cid A) A) ([.ref h0, .int x, .int sl] : List Value).toArray s 0 0 A) (F0 m 29 ls []) := by
    intro x3_29 hx3_29 hsx1_29 hsx2_29 hh9 htop H locs ls hP hD hS hl
    refine lv_iload_n hx hb dX13_workedOut_29 rfl (lv_at hl 2 rfl) ?_
    refine lv_goto (tgt := 40) hx hb dX13_workedOut_30 (by decide) ?_
    exact hj40 x3_29 x hx3_29 hsx1_29 hsx2_29 (iv_w hsx1_29 (by decide)) (WIN_s hdoc.1.2.1 hvx hxe hxk hh9) (htop) _ _ _ hP hD hS (lv_sub hl [0, 1, 2, 3] rfl)
  refine lv_aload_n hx hb dX13_workedOut_0 rfl (lv_at hl 0 rfl) ?_
  refine mr_get (v := .int (sg 63)) hx hb htb inX13 hown hK hP 63 (by decide) (htb _ kw_1160) rfl dX13_workedOut_1 ?_
  refine lv_iconst (v := 1) hx hb dX13_workedOut_4 (by decide) ?_
  refine lv_isub hx hb dX13_workedOut_5 ?_
  refine lv_topi (fun z_42 ez_42 => ?_)
  have hz_42 : iv 0 79 z_42 := iv_of ez_42 (iv_sub h63 (iv_k (by decide) : iv 1 1 1) (by decide))
  have tz_42 : z_42.toInt = ((sg 63) : Int32).toInt - 1 := by rw [ez_42]; exact iv_subE h63 (iv_k (by decide) : iv 1 1 1) (by decide)
  refine lv_istore_n (lv' := [(3, .int z_42), (0, .ref h0), (1, .int x), (2, .int sl)]) hx hb dX13_workedOut_6 rfl hl (by decide) rfl (fun ls hl => ?_)
  have htop := top_n h63 tz_42
  refine lv_aload_n hx hb dX13_workedOut_7 rfl (lv_at hl 1 rfl) ?_
  refine lv_iload_n hx hb dX13_workedOut_8 rfl (lv_at hl 2 rfl) ?_
  refine lv_ldc2 (own := RX13) (v := 508440638821) hx hb hown (htb _ kw_140) dX13_workedOut_9 ?_
  refine mr_calli (rest := []) ⟨hx, hb, hml, hown, htb⟩ (f_has l dC dI h0 ad cid sg gm lg x 508440638821 hI hvx) (cwV 2 htb (gd_V kw_916 kw_917 kw_918 kw_5 kw_1543) rfl rfl rfl (by decide +kernel) ⟨Nat.le_of_ble_eq_true rfl, Nat.le_of_ble_eq_true rfl⟩) rfl hl.1 rfl (Nat.le_of_ble_eq_true rfl) dX13_workedOut_12 ⟨Nat.zero_le _, Nat.zero_le _⟩ hK hP hD hS hA (fun r_43 u_44 H locs hw hP hD hS => ?_)
  obtain ⟨hr_43, fH_r_43, rfl⟩ := hw
  have hP : va_P (dC, dI) vwCl (mW h0 ad cid sg gm lg) H := hP
  have hD : va_D A (mW h0 ad cid sg gm lg) := hD
  refine lv_if_ne (tgt := 29) hx hb dX13_workedOut_15 (by decide) (fun c_45 => ?_) (fun c_45 => ?_)
  · have h_46 : iv 1 1 r_43 := iv_neL c_45 hr_43 (by decide)
    exact hj29 z_42 hz_42 hvx hvsl (Or.inl (by rw [← fH_r_43]; exact c_45)) (htop) _ _ _ hP hD hS (lv_sub hl [0, 1, 2, 3] rfl)
  · have h_47 : iv 0 0 r_43 := iv_eq c_45 hr_43 (iv_k (by decide) : iv 0 0 0) (by decide)
    refine lv_aload_n hx hb dX13_workedOut_18 rfl (lv_at hl 1 rfl) ?_
    refine lv_iload_n hx hb dX13_workedOut_19 rfl (lv_at hl 2 rfl) ?_
    refine lv_ldc2 (own := RX13) (v := 7497062) hx hb hown (htb _ kw_141) dX13_workedOut_20 ?_
    refine mr_calli (rest := []) ⟨hx, hb, hml, hown, htb⟩ (f_has l dC dI h0 ad cid sg gm lg x 7497062 hI hvx) (cwV 2 htb (gd_V kw_916 kw_917 kw_918 kw_5 kw_1543) rfl rfl rfl (by decide +kernel) ⟨Nat.le_of_ble_eq_true rfl, Nat.le_of_ble_eq_true rfl⟩) rfl hl.1 rfl (Nat.le_of_ble_eq_true rfl) dX13_workedOut_23 ⟨Nat.zero_le _, Nat.zero_le _⟩ hK hP hD hS hA (fun r_48 u_49 H locs hw hP hD hS => ?_)
    obtain ⟨hr_48, fH_r_48, rfl⟩ := hw
    have hP : va_P (dC, dI) vwCl (mW h0 ad cid sg gm lg) H := hP
    have hD : va_D A (mW h0 ad cid sg gm lg) := hD
    refine lv_if_eq (tgt := 33) hx hb dX13_workedOut_26 (by decide) (fun c_50 => ?_) (fun c_50 => ?_)
    · have h_51 : iv 0 0 r_48 := iv_eq c_50 hr_48 (iv_k (by decide) : iv 0 0 0) (by decide)
      refine lv_aload_n hx hb dX13_workedOut_33 rfl (lv_at hl 1 rfl) ?_
      refine lv_iload_n hx hb dX13_workedOut_34 rfl (lv_at hl 2 rfl) ?_
      refine lv_iconst (v := 0) hx hb dX13_workedOut_35 (by decide) ?_
      refine lv_iload_n hx hb dX13_workedOut_36 rfl (lv_at hl 2 rfl) ?_
      refine mr_calli (rest := []) ⟨hx, hb, hml, hown, htb⟩ (f_inner l dC dI h0 ad cid sg gm lg x 0 x hI (iv_w hvx (by decide)) (iv_w (iv_k (by decide) : iv 0 0 0) (by decide)) hvx) (cwV 3 htb (gd_V kw_961 kw_962 kw_963 kw_5 kw_1557) rfl rfl rfl (by decide +kernel) ⟨Nat.le_of_ble_eq_true rfl, Nat.le_of_ble_eq_true rfl⟩) rfl hl.1 rfl (Nat.le_of_ble_eq_true rfl) dX13_workedOut_37 ⟨Nat.zero_le _, Nat.zero_le _⟩ hK hP hD hS hA (fun r_52 u_53 H locs hw hP hD hS => ?_)
      obtain ⟨hr_52, fN_r_52, rfl⟩ := hw
      have hP : va_P (dC, dI) vwCl (mW h0 ad cid sg gm lg) H := hP
      have hD : va_D A (mW h0 ad cid sg gm lg) := hD
      exact hj40 z_42 r_52 hz_42 hvx hvsl hr_52 (WIN_i hdoc.1.1 (show iv 0 80 (sg 24) from MI_s hI 24) hdoc.1.2.1 hvx hxe hxk (by rw [← fH_r_43]; exact c_45) (by rw [← fH_r_48]; exact c_50) fN_r_52) (htop) _ _ _ hP hD hS (lv_sub hl [0, 1, 2, 3] rfl)
    · have h_54 : iv 1 1 r_48 := iv_neL c_50 hr_48 (by decide)
      exact hj29 z_42 hz_42 hvx hvsl (Or.inr (by rw [← fH_r_48]; exact c_50)) (htop) _ _ _ hP hD hS (lv_sub hl [0, 1, 2, 3] rfl)
