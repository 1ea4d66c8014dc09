section
set_option maxHeartbeats 4000000 in
set_option maxRecDepth 100000 in
theorem f_happens9 (l : Launch) (dC : Nat → ClassId) (dI : Nat → Nat → Nat) (h0 : Nat) (ad : Nat → Nat) (cid : Nat → ClassId) (sg : Nat → Int32) (gm : Nat → Nat → Int32) (lg : Nat → Nat → Int64) (a : Int32) (b : Int32) (f : Int32) (g : Int32) (wg : Nat → Nat → Int32) (wl : Nat → Nat → Int64) (S : S9) (hI : MI sg gm) (hRR : RR wg wl S sg gm) : MMv l dC dI yX13_happens wm_X13_happens ({ frames := 0, cells := 0, slots := 0, locals := 0 }) h0 ad cid [.int a, .int b, .int f, .int g] sg gm lg (fun v => ∃ (sg2 : Nat → Int32) (gm2 : Nat → Nat → Int32) (lg2 : Nat → Nat → Int64), v = (sg2, gm2, lg2) ∧ MI sg2 gm2 ∧ KS [49] sg sg2 ∧ KS [55, 56, 57, 58] gm gm2 ∧ KS [] lg lg2 ∧ (RR wg wl (zAdd S (a.toInt, b.toInt, f.toInt, g.toInt)) sg2 gm2)) := by
  intro sz
  refine Met.ofW (cc := cX13_happens) (maxL := 5) (ret := none) (by decide) rfl ?_
  intro p e s m args below meth c s₁ B hml hv
  obtain ⟨rfl, hsz, hP, hK, hD0⟩ := hv
  have hx := B.exec
  have hb := B.bytes
  have hr := B.returns
  have hts := atoms_spec (ws := wm_X13_happens) B.pre
  have htb := fun (w : Cond) (h : w ∈ tb) => hts w (List.mem_cons_of_mem _ h)
  have hown : s.vm.findClass RX13 = some m.cls := findClass_of_methodNamed B.named
  have hlocks := B.notSynchronized
  subst hsz
  have hD := hD0.self (sz := s.heap.size)
  generalize hAe : va_A (mW h0 ad cid sg gm lg) s.heap.size = A at hD ⊢
  have hA : ∀ q : Nat, s.heap.size ≤ q → A q := fun q h => by rw [← hAe]; exact Or.inr h
  have hS : va_S A s.heap s.heap [] := va_S.rf
  have hl := lv_entry ([.ref h0, .int a, .int b, .int f, .int g]) (n := 5) (Nat.le_of_ble_eq_true rfl)
  rw [lg_entry_eq]
  generalize (lg_sl ([.ref h0, .int a, .int b, .int f, .int g]) ++ List.replicate (5 - (lg_sl ([.ref h0, .int a, .int b, .int f, .int g])).length) Slot.unset).toArray = ls at hl ⊢
  have hl : lv_has ls 5 [(0, .ref h0), (1, .int a), (2, .int b), (3, .int f), (4, .int g)] := hl
  refine lv_aload_n hx hb dX13_happens_0 rfl (lv_at hl 0 rfl) ?_
  refine mr_get (v := .int (sg 49)) hx hb htb inX13 hown hK hP 49 (by decide) (htb _ kw_823) rfl dX13_happens_1 ?_
  refine lv_sipush (v := 400) hx hb dX13_happens_4 (by decide) ?_
  refine lv_icmp_ne (tgt := 11) hx hb dX13_happens_7 (by decide) (fun c_1 => ?_) (fun c_1 => ?_)
  · have h_2 : iv 0 399 (sg 49) := iv_neH c_1 (show iv 0 400 (sg 49) from MI_s hI 49) (by decide)
    refine lv_aload_n hx hb dX13_happens_11 rfl (lv_at hl 0 rfl) ?_
    refine mr_get (v := .ref (ad 55)) hx hb htb inX13 hown hK hP 55 (by decide) (htb _ kw_205) rfl dX13_happens_12 ?_
    refine lv_aload_n hx hb dX13_happens_15 rfl (lv_at hl 0 rfl) ?_
    refine mr_get (v := .int (sg 49)) hx hb htb inX13 hown hK hP 49 (by decide) (htb _ kw_823) rfl dX13_happens_16 ?_
    refine lv_iload_n hx hb dX13_happens_19 rfl (lv_at hl 1 rfl) ?_
    refine ma_iast (x := a) hx hb hK hP hD hS 41 (k := 55) rfl rfl rfl (show vp_in (sg 49) 400 from (iv_in h_2 (by decide))) dX13_happens_20 (fun gm_3 H locs egm_3 hP hD hS => ?_)
    have hI_gm_3 := MI_st hI egm_3 (iv_all a) (by decide)
    refine lv_aload_n hx hb dX13_happens_21 rfl (lv_at hl 0 rfl) ?_
    refine mr_get (v := .ref (ad 56)) hx hb htb inX13 hown hK hP 56 (by decide) (htb _ kw_206) rfl dX13_happens_22 ?_
    refine lv_aload_n hx hb dX13_happens_25 rfl (lv_at hl 0 rfl) ?_
    refine mr_get (v := .int (sg 49)) hx hb htb inX13 hown hK hP 49 (by decide) (htb _ kw_823) rfl dX13_happens_26 ?_
    refine lv_iload_n hx hb dX13_happens_29 rfl (lv_at hl 2 rfl) ?_
    refine ma_iast (x := b) hx hb hK hP hD hS 42 (k := 56) rfl rfl rfl (show vp_in (sg 49) 400 from (iv_in h_2 (by decide))) dX13_happens_30 (fun gm_4 H locs egm_4 hP hD hS => ?_)
    have hI_gm_4 := MI_st hI_gm_3 egm_4 (iv_all b) (by decide)
    refine lv_aload_n hx hb dX13_happens_31 rfl (lv_at hl 0 rfl) ?_
    refine mr_get (v := .ref (ad 57)) hx hb htb inX13 hown hK hP 57 (by decide) (htb _ kw_207) rfl dX13_happens_32 ?_
    refine lv_aload_n hx hb dX13_happens_35 rfl (lv_at hl 0 rfl) ?_
    refine mr_get (v := .int (sg 49)) hx hb htb inX13 hown hK hP 49 (by decide) (htb _ kw_823) rfl dX13_happens_36 ?_
    refine lv_iload_n hx hb dX13_happens_39 rfl (lv_at hl 3 rfl) ?_
    refine ma_iast (x := f) hx hb hK hP hD hS 43 (k := 57) rfl rfl rfl (show vp_in (sg 49) 400 from (iv_in h_2 (by decide))) dX13_happens_40 (fun gm_5 H locs egm_5 hP hD hS => ?_)
    have hI_gm_5 := MI_st hI_gm_4 egm_5 (iv_all f) (by decide)
    refine lv_aload_n hx hb dX13_happens_41 rfl (lv_at hl 0 rfl) ?_
    refine mr_get (v := .ref (ad 58)) hx hb htb inX13 hown hK hP 58 (by decide) (htb _ kw_208) rfl dX13_happens_42 ?_
    refine lv_aload_n hx hb dX13_happens_45 rfl (lv_at hl 0 rfl) ?_
    refine mr_get (v := .int (sg 49)) hx hb htb inX13 hown hK hP 49 (by decide) (htb _ kw_823) rfl dX13_happens_46 ?_
    refine lv_iload hx hb dX13_happens_49 (lv_at hl 4 rfl) ?_
    refine ma_iast (x := g) hx hb hK hP hD hS 44 (k := 58) rfl rfl rfl (show vp_in (sg 49) 400 from (iv_in h_2 (by decide))) dX13_happens_51 (fun gm_6 H locs egm_6 hP hD hS => ?_)
    have hI_gm_6 := MI_st hI_gm_5 egm_6 (iv_all g) (by decide)
    refine lv_aload_n hx hb dX13_happens_52 rfl (lv_at hl 0 rfl) ?_
    refine lv_dup hx hb dX13_happens_53 rfl ?_
    refine mr_get (v := .int (sg 49)) hx hb htb inX13 hown hK hP 49 (by decide) (htb _ kw_823) rfl dX13_happens_54 ?_
    refine lv_iconst (v := 1) hx hb dX13_happens_57 (by decide) ?_
    refine lv_iadd hx hb dX13_happens_58 ?_
    refine lv_topi (fun z_7 ez_7 => ?_)
    have hz_7 : iv 1 400 z_7 := iv_of ez_7 (iv_add h_2 (iv_k (by decide) : iv 1 1 1) (by decide))
    have tz_7 : z_7.toInt = ((sg 49) : Int32).toInt + 1 := by rw [ez_7]; exact iv_addE h_2 (iv_k (by decide) : iv 1 1 1) (by decide)
    refine ma_put (x := z_7) hx hb htb inX13 hown hK hP hD hS 49 (by decide) (by decide) (htb _ kw_823) rfl rfl rfl dX13_happens_59 (fun sg_8 H locs esg_8 hP hD hS => ?_)
    have hI_sg_8 := MI_put hI_gm_6 esg_8 hz_7 (by decide)
    exact W.vret hx hb hr (fun t ht hW => ⟨⟨(sg_8, gm_6, lg), rfl, ⟨sg_8, gm_6, lg, rfl, hI_sg_8, (KS_up KS_rf esg_8 (by decide)), (KS_up (KS_up (KS_up (KS_up KS_rf egm_3 (by decide)) egm_4 (by decide)) egm_5 (by decide)) egm_6 (by decide)), KS_rf, (RR_ev hRR (KS_up KS_rf esg_8 (by decide)) (KS_up (KS_up (KS_up (KS_up KS_rf egm_3 (by decide)) egm_4 (by decide)) egm_5 (by decide)) egm_6 (by decide)) (by have := i32_0; have := i32_1; have := i32_2; have := i32_m1; have := congrArg Int32.toInt (show sg_8 49 = z_7 from up_at esg_8); have := (hz_7).1; have := (hz_7).2; have := (h_2).1; have := (h_2).2; omega) (by have := i32_0; have := i32_1; have := i32_2; have := i32_m1; have := congrArg Int32.toInt (show sg_8 49 = z_7 from up_at esg_8); have := (hz_7).1; have := (hz_7).2; have := (h_2).1; have := (h_2).2; omega) (show gm_6 55 = upd (gm 55) ((sg 49) : Int32).toNatClampNeg a from ((up_ne egm_6 (by decide)).trans ((up_ne egm_5 (by decide)).trans ((up_ne egm_4 (by decide)).trans ((up_at egm_3).trans (by rw [show gm 55 = gm 55 from rfl])))))) (show gm_6 56 = upd (gm 56) ((sg 49) : Int32).toNatClampNeg b from ((up_ne egm_6 (by decide)).trans ((up_ne egm_5 (by decide)).trans ((up_at egm_4).trans (by rw [show gm_3 56 = gm 56 from ((up_ne egm_3 (by decide)).trans rfl)]))))) (show gm_6 57 = upd (gm 57) ((sg 49) : Int32).toNatClampNeg f from ((up_ne egm_6 (by decide)).trans ((up_at egm_5).trans (by rw [show gm_4 57 = gm 57 from ((up_ne egm_4 (by decide)).trans ((up_ne egm_3 (by decide)).trans rfl))])))) (show gm_6 58 = upd (gm 58) ((sg 49) : Int32).toNatClampNeg g from ((up_at egm_6).trans (by rw [show gm_5 58 = gm 58 from ((up_ne egm_5 (by decide)).trans ((up_ne egm_4 (by decide)).trans ((up_ne egm_3 (by decide)).trans rfl)))]))) (cln9 (show iv 0 400 (sg 49) from MI_s hI 49).1) rfl rfl rfl)⟩, by rw [ht]; exact hP, va_K.moved hW.alike hK, hD⟩, hS.F ht⟩) hS.2.2 dX13_happens_62
  · have h_9 : iv 400 400 (sg 49) := iv_eq c_1 (show iv 0 400 (sg 49) from MI_s hI 49) (iv_k (by decide) : iv 400 400 400) (by decide)
    exact W.vret hx hb hr (fun t ht hW => ⟨⟨(sg, gm, lg), rfl, ⟨sg, gm, lg, rfl, hI, KS_rf, KS_rf, KS_rf, (RR_full hRR (by have := i32_0; have := i32_1; have := i32_2; have := i32_m1; have := (show iv 0 400 (sg 49) from MI_s hI 49).1; have := (show iv 0 400 (sg 49) from MI_s hI 49).2; have := (h_9).1; have := (h_9).2; omega))⟩, by rw [ht]; exact hP, va_K.moved hW.alike hK, hD⟩, hS.F ht⟩) hS.2.2 dX13_happens_10

set_option maxHeartbeats 4000000 in
set_option maxRecDepth 100000 in
theorem f_keep9 (l : Launch) (dC : Nat → ClassId) (dI : Nat → Nat → Nat) (h0 : Nat) (ad : Nat → Nat) (cid : Nat → ClassId) (sg : Nat → Int32) (gm : Nat → Nat → Int32) (lg : Nat → Nat → Int64) (sl : Int32) (it : Int32) (kd : Int32) (vl : Int32) (hI : MI sg gm) (hvsl : iv 0 404 sl) (hvit : iv (-1) 5 it) (hvkd : iv 0 3 kd) (hvvl : iv 0 1079 vl) (hva : VAL gm) (hvo : vok kd vl) : MMv l dC dI yX13_keep wm_X13_keep ({ frames := 0, cells := 0, slots := 0, locals := 0 }) h0 ad cid [.int sl, .int it, .int kd, .int vl] sg gm lg (fun v => ∃ (sg2 : Nat → Int32) (gm2 : Nat → Nat → Int32) (lg2 : Nat → Nat → Int64), v = (sg2, gm2, lg2) ∧ MI sg2 gm2 ∧ KS [] sg sg2 ∧ KS [70, 71, 72, 73] gm gm2 ∧ KS [] lg lg2 ∧ (VAL gm2) ∧ ((it.toInt < 0 ∧ gm2 70 = upd (gm 70) sl.toNatClampNeg kd ∧ gm2 71 = upd (gm 71) sl.toNatClampNeg vl ∧ gm2 72 = gm 72 ∧ gm2 73 = gm 73) ∨ (0 ≤ it.toInt ∧ gm2 70 = gm 70 ∧ gm2 71 = gm 71 ∧ gm2 72 = upd (gm 72) (6 * sl.toNatClampNeg + it.toNatClampNeg) kd ∧ gm2 73 = upd (gm 73) (6 * sl.toNatClampNeg + it.toNatClampNeg) vl))) := by
  intro sz
  refine Met.ofW (cc := cX13_keep) (maxL := 5) (ret := none) (by decide) rfl ?_
  intro p e s m args below meth c s₁ B hml hv
  obtain ⟨rfl, hsz, hP, hK, hD0⟩ := hv
  have hx := B.exec
  have hb := B.bytes
  have hr := B.returns
  have hts := atoms_spec (ws := wm_X13_keep) B.pre
  have htb := fun (w : Cond) (h : w ∈ tb) => hts w (List.mem_cons_of_mem _ h)
  have hown : s.vm.findClass RX13 = some m.cls := findClass_of_methodNamed B.named
  have hlocks := B.notSynchronized
  subst hsz
  have hD := hD0.self (sz := s.heap.size)
  generalize hAe : va_A (mW h0 ad cid sg gm lg) s.heap.size = A at hD ⊢
  have hA : ∀ q : Nat, s.heap.size ≤ q → A q := fun q h => by rw [← hAe]; exact Or.inr h
  have hS : va_S A s.heap s.heap [] := va_S.rf
  have hl := lv_entry ([.ref h0, .int sl, .int it, .int kd, .int vl]) (n := 5) (Nat.le_of_ble_eq_true rfl)
  rw [lg_entry_eq]
  generalize (lg_sl ([.ref h0, .int sl, .int it, .int kd, .int vl]) ++ List.replicate (5 - (lg_sl ([.ref h0, .int sl, .int it, .int kd, .int vl])).length) Slot.unset).toArray = ls at hl ⊢
  have hl : lv_has ls 5 [(0, .ref h0), (1, .int sl), (2, .int it), (3, .int kd), (4, .int vl)] := hl
  have hj47 : ∀ (gm_j47 : Nat → Nat → Int32) (_ : iv 0 404 sl) (_ : iv (-1) 5 it) (_ : iv 0 3 kd) (_ : iv 0 1079 vl) (_ : KS [70, 71, 72, 73] gm gm_j47) (_ : MI sg gm_j47) (_ : VAL gm_j47) (_ : (it.toInt < 0 ∧ gm_j47 70 = upd (gm 70) sl.toNatClampNeg kd ∧ gm_j47 71 = upd (gm 71) sl.toNatClampNeg vl ∧ gm_j47 72 = gm 72 ∧ gm_j47 73 = gm 73) ∨ (0 ≤ it.toInt ∧ gm_j47 70 = gm 70 ∧ gm_j47 71 = gm 71 ∧ gm_j47 72 = upd (gm 72) (6 * sl.toNatClampNeg + it.toNatClampNeg) kd ∧ gm_j47 73 = upd (gm 73) (6 * sl.toNatClampNeg + it.toNatClampNeg) vl)) (H : Heap) (locs : List Loc) (ls : Array Slot), va_P (dC, dI) vwCl (mW h0 ad cid sg gm_j47 lg) H → va_D A (mW h0 ad cid sg gm_j47 lg) → va_S A s.heap H locs → lv_has ls 5 [(0, .ref h0), (1, .int sl), (2, .int it), (3, .int kd), (4, .int vl)] → W p l e (headSpec wm_X13_keep ({ frames := 0, cells := 0, slots := 0, locals := 0 })).room s m ([.ref h0, .int sl, .int it, .int kd, .int vl] : List Value).toArray below meth c H locs 0 0 (MQ below (va_Qv (fun v => ∃ (sg2 : Nat → Int32) (gm2 : Nat → Nat → Int32) (lg2 : Nat → Nat → Int64), v = (sg2, gm2, lg2) ∧ MI sg2 gm2 ∧ KS [] sg sg2 ∧ KS [70, 71, 72, 73] gm gm2 ∧ KS [] lg lg2 ∧ (VAL gm2) ∧ ((it.toInt < 0 ∧ gm2 70 = upd (gm 70) sl.toNatClampNeg kd ∧ gm2 71 = upd (gm 71) sl.toNatClampNeg vl ∧ gm2 72 = gm 72 ∧ gm2 73 = gm 73) ∨ (0 ≤ it.toInt ∧ gm2 70 = gm 70 ∧ gm2 71 = gm 71 ∧ gm2 72 = upd (gm 72) (6 * sl.toNatClampNeg + it.toNatClampNeg) kd ∧ gm2 73 = upd (gm 73) (6 * sl.toNatClampNeg + it.toNatClampNeg) vl))) (MB dC dI h0 ad cid A) A) ([.ref h0, .int sl, .int it, .int kd, .int vl] : List Value).toArray s 0 0 A) (F0 m 47 ls []) := by
    intro gm_j47 hsx1_47 hsx2_47 hsx3_47 hsx4_47 hkg_j47 hI_j47 hV2 hK2 H locs ls hP hD hS hl
    exact W.vret hx hb hr (fun t ht hW => ⟨⟨(sg, gm_j47, lg), rfl, ⟨sg, gm_j47, lg, rfl, hI_j47, KS_rf, (KS_tr (L := [70, 71, 72, 73]) KS_rf hkg_j47 (by decide)), KS_rf, (hV2), (hK2)⟩, by rw [ht]; exact hP, va_K.moved hW.alike hK, hD⟩, hS.F ht⟩) hS.2.2 dX13_keep_47
  refine lv_iload_n hx hb dX13_keep_0 rfl (lv_at hl 2 rfl) ?_
  refine lv_if_ge (tgt := 22) hx hb dX13_keep_1 (by decide) (fun c_1 => ?_) (fun c_1 => ?_)
  · have h_2 : iv 0 5 it := iv_leR c_1 (iv_k (by decide) : iv 0 0 0) hvit (by decide)
    refine lv_aload_n hx hb dX13_keep_22 rfl (lv_at hl 0 rfl) ?_
    refine mr_get (v := .ref (ad 72)) hx hb htb inX13 hown hK hP 72 (by decide) (htb _ kw_221) rfl dX13_keep_23 ?_
    refine lv_bipush (v := 6) hx hb dX13_keep_26 (by decide) ?_
    refine lv_iload_n hx hb dX13_keep_28 rfl (lv_at hl 1 rfl) ?_
    refine lv_imul hx hb dX13_keep_29 ?_
    refine lv_topi (fun z_3 ez_3 => ?_)
    have hz_3 : iv 0 2424 z_3 := iv_of ez_3 (iv_mul (iv_k (by decide) : iv 6 6 6) hvsl (by decide))
    have tz_3 : z_3.toInt = 6 * (sl : Int32).toInt := by rw [ez_3]; exact iv_mulE (iv_k (by decide) : iv 6 6 6) hvsl (by decide)
    refine lv_iload_n hx hb dX13_keep_30 rfl (lv_at hl 2 rfl) ?_
    refine lv_iadd hx hb dX13_keep_31 ?_
    refine lv_topi (fun z_4 ez_4 => ?_)
    have hz_4 : iv 0 2429 z_4 := iv_of ez_4 (iv_add hz_3 h_2 (by decide))
    have tz_4 : z_4.toInt = (z_3 : Int32).toInt + (it : Int32).toInt := by rw [ez_4]; exact iv_addE hz_3 h_2 (by decide)
    refine lv_iload_n hx hb dX13_keep_32 rfl (lv_at hl 3 rfl) ?_
    refine ma_iast (x := kd) hx hb hK hP hD hS 57 (k := 72) rfl rfl rfl (show vp_in z_4 2430 from (iv_in hz_4 (by decide))) dX13_keep_33 (fun gm_5 H locs egm_5 hP hD hS => ?_)
    have hI_gm_5 := MI_st hI egm_5 hvkd (by decide)
    refine lv_aload_n hx hb dX13_keep_34 rfl (lv_at hl 0 rfl) ?_
    refine mr_get (v := .ref (ad 73)) hx hb htb inX13 hown hK hP 73 (by decide) (htb _ kw_222) rfl dX13_keep_35 ?_
    refine lv_bipush (v := 6) hx hb dX13_keep_38 (by decide) ?_
    refine lv_iload_n hx hb dX13_keep_40 rfl (lv_at hl 1 rfl) ?_
    refine lv_imul hx hb dX13_keep_41 ?_
    refine lv_topi (fun z_6 ez_6 => ?_)
    obtain rfl : z_3 = z_6 := ez_3.trans ez_6.symm
    refine lv_iload_n hx hb dX13_keep_42 rfl (lv_at hl 2 rfl) ?_
    refine lv_iadd hx hb dX13_keep_43 ?_
    refine lv_topi (fun z_7 ez_7 => ?_)
    obtain rfl : z_4 = z_7 := ez_4.trans ez_7.symm
    refine lv_iload hx hb dX13_keep_44 (lv_at hl 4 rfl) ?_
    refine ma_iast (x := vl) hx hb hK hP hD hS 58 (k := 73) rfl rfl rfl (show vp_in z_4 2430 from (iv_in hz_4 (by decide))) dX13_keep_46 (fun gm_8 H locs egm_8 hP hD hS => ?_)
    have hI_gm_8 := MI_st hI_gm_5 egm_8 hvvl (by decide)
    exact hj47 gm_8 hvsl (iv_w h_2 (by decide)) hvkd hvvl (KS_up (KS_up KS_rf egm_5 (by decide)) egm_8 (by decide)) hI_gm_8 (VAL_i hva (show gm_8 72 = upd (gm 72) (z_4 : Int32).toNatClampNeg kd from ((up_ne egm_8 (by decide)).trans ((up_at egm_5).trans (by rw [show gm 72 = gm 72 from rfl])))) (show gm_8 73 = upd (gm 73) (z_4 : Int32).toNatClampNeg vl from ((up_at egm_8).trans (by rw [show gm_5 73 = gm 73 from ((up_ne egm_5 (by decide)).trans rfl)]))) (Eq.trans (up_ne egm_8 (by decide)) (up_ne egm_5 (by decide))) (Eq.trans (up_ne egm_8 (by decide)) (up_ne egm_5 (by decide))) rfl hvo) (Or.inr ⟨by have := i32_0; have := i32_1; have := i32_2; have := i32_m1; have := (hvsl).1; have := (hvsl).2; have := (h_2).1; have := (h_2).2; have := (hvkd).1; have := (hvkd).2; have := (hvvl).1; have := (hvvl).2; have := (hz_3).1; have := (hz_3).2; have := (hz_4).1; have := (hz_4).2; omega, (Eq.trans (up_ne egm_8 (by decide)) (up_ne egm_5 (by decide))), (Eq.trans (up_ne egm_8 (by decide)) (up_ne egm_5 (by decide))), (by rw [← (show z_4.toNatClampNeg = 6 * sl.toNatClampNeg + it.toNatClampNeg from (by have q1 : z_4.toNatClampNeg = z_4.toInt.toNat := rfl; have q2 : sl.toNatClampNeg = sl.toInt.toNat := rfl; have q3 : it.toNatClampNeg = it.toInt.toNat := rfl; have := i32_0; have := i32_1; have := i32_2; have := i32_m1; have := (hvsl).1; have := (hvsl).2; have := (h_2).1; have := (h_2).2; have := (hvkd).1; have := (hvkd).2; have := (hvvl).1; have := (hvvl).2; have := (hz_3).1; have := (hz_3).2; have := (hz_4).1; have := (hz_4).2; omega))]; exact (show gm_8 72 = upd (gm 72) (z_4 : Int32).toNatClampNeg kd from ((up_ne egm_8 (by decide)).trans ((up_at egm_5).trans (by rw [show gm 72 = gm 72 from rfl]))))), (by rw [← (show z_4.toNatClampNeg = 6 * sl.toNatClampNeg + it.toNatClampNeg from (by have q1 : z_4.toNatClampNeg = z_4.toInt.toNat := rfl; have q2 : sl.toNatClampNeg = sl.toInt.toNat := rfl; have q3 : it.toNatClampNeg = it.toInt.toNat := rfl; have := i32_0; have := i32_1; have := i32_2; have := i32_m1; have := (hvsl).1; have := (hvsl).2; have := (h_2).1; have := (h_2).2; have := (hvkd).1; have := (hvkd).2; have := (hvvl).1; have := (hvvl).2; have := (hz_3).1; have := (hz_3).2; have := (hz_4).1; have := (hz_4).2; omega))]; exact (show gm_8 73 = upd (gm 73) (z_4 : Int32).toNatClampNeg vl from ((up_at egm_8).trans (by rw [show gm_5 73 = gm 73 from ((up_ne egm_5 (by decide)).trans rfl)]))))⟩) _ _ _ hP hD hS (lv_sub hl [0, 1, 2, 3, 4] rfl)
  · have h_9 : iv (-1) (-1) it := iv_ltL (i32_lt c_1) hvit (iv_k (by decide) : iv 0 0 0) (by decide)
    refine lv_aload_n hx hb dX13_keep_4 rfl (lv_at hl 0 rfl) ?_
    refine mr_get (v := .ref (ad 70)) hx hb htb inX13 hown hK hP 70 (by decide) (htb _ kw_219) rfl dX13_keep_5 ?_
    refine lv_iload_n hx hb dX13_keep_8 rfl (lv_at hl 1 rfl) ?_
    refine lv_iload_n hx hb dX13_keep_9 rfl (lv_at hl 3 rfl) ?_
    refine ma_iast (x := kd) hx hb hK hP hD hS 55 (k := 70) rfl rfl rfl (show vp_in sl 405 from (iv_in hvsl (by decide))) dX13_keep_10 (fun gm_10 H locs egm_10 hP hD hS => ?_)
    have hI_gm_10 := MI_st hI egm_10 hvkd (by decide)
    refine lv_aload_n hx hb dX13_keep_11 rfl (lv_at hl 0 rfl) ?_
    refine mr_get (v := .ref (ad 71)) hx hb htb inX13 hown hK hP 71 (by decide) (htb _ kw_220) rfl dX13_keep_12 ?_
    refine lv_iload_n hx hb dX13_keep_15 rfl (lv_at hl 1 rfl) ?_
    refine lv_iload hx hb dX13_keep_16 (lv_at hl 4 rfl) ?_
    refine ma_iast (x := vl) hx hb hK hP hD hS 56 (k := 71) rfl rfl rfl (show vp_in sl 405 from (iv_in hvsl (by decide))) dX13_keep_18 (fun gm_11 H locs egm_11 hP hD hS => ?_)
    have hI_gm_11 := MI_st hI_gm_10 egm_11 hvvl (by decide)
    refine lv_goto (tgt := 47) hx hb dX13_keep_19 (by decide) ?_
    exact hj47 gm_11 hvsl (iv_w h_9 (by decide)) hvkd hvvl (KS_up (KS_up KS_rf egm_10 (by decide)) egm_11 (by decide)) hI_gm_11 (VAL_v hva (show gm_11 70 = upd (gm 70) (sl : Int32).toNatClampNeg kd from ((up_ne egm_11 (by decide)).trans ((up_at egm_10).trans (by rw [show gm 70 = gm 70 from rfl])))) (show gm_11 71 = upd (gm 71) (sl : Int32).toNatClampNeg vl from ((up_at egm_11).trans (by rw [show gm_10 71 = gm 71 from ((up_ne egm_10 (by decide)).trans rfl)]))) (Eq.trans (up_ne egm_11 (by decide)) (up_ne egm_10 (by decide))) (Eq.trans (up_ne egm_11 (by decide)) (up_ne egm_10 (by decide))) rfl hvo) (Or.inl ⟨by have := i32_0; have := i32_1; have := i32_2; have := i32_m1; have := (hvsl).1; have := (hvsl).2; have := (h_9).1; have := (h_9).2; have := (hvkd).1; have := (hvkd).2; have := (hvvl).1; have := (hvvl).2; omega, (show gm_11 70 = upd (gm 70) (sl : Int32).toNatClampNeg kd from ((up_ne egm_11 (by decide)).trans ((up_at egm_10).trans (by rw [show gm 70 = gm 70 from rfl])))), (show gm_11 71 = upd (gm 71) (sl : Int32).toNatClampNeg vl from ((up_at egm_11).trans (by rw [show gm_10 71 = gm 71 from ((up_ne egm_10 (by decide)).trans rfl)]))), (Eq.trans (up_ne egm_11 (by decide)) (up_ne egm_10 (by decide))), (Eq.trans (up_ne egm_11 (by decide)) (up_ne egm_10 (by decide)))⟩) _ _ _ hP hD hS (lv_sub hl [0, 1, 2, 3, 4] rfl)

set_option maxHeartbeats 4000000 in
set_option maxRecDepth 100000 in
theorem f_isFactory9 (l : Launch) (dC : Nat → ClassId) (dI : Nat → Nat → Nat) (h0 : Nat) (ad : Nat → Nat) (cid : Nat → ClassId) (sg : Nat → Int32) (gm : Nat → Nat → Int32) (lg : Nat → Nat → Int64) (k : Int32) (b : Int32) (z : Int32) (hI : MI sg gm) (hvk : iv 0 31 k) (hvz : iv 0 1 z) : MMi l dC dI yX13_isFactory wm_X13_isFactory ({ frames := 0, cells := 0, slots := 0, locals := 0 }) h0 ad cid [.int k, .int b, .int z] sg gm lg (fun r v => (iv 0 1 r) ∧ ((r.toInt = 1 ∧ (gm 14 k.toNatClampNeg).toInt = b.toInt ∧ (gm 18 k.toNatClampNeg).toInt = z.toInt) ∨ (r.toInt = 0 ∧ ¬ ((gm 14 k.toNatClampNeg).toInt = b.toInt ∧ (gm 18 k.toNatClampNeg).toInt = z.toInt))) ∧ v = (sg, gm, lg)) := by
  intro sz
  refine Met.ofW (cc := cX13_isFactory) (maxL := 4) (ret := (some .boolean)) (by decide) rfl ?_
  intro p e s m args below meth c s₁ B hml hv
  obtain ⟨rfl, hsz, hP, hK, hD0⟩ := hv
  have hx := B.exec
  have hb := B.bytes
  have hr := B.returns
  have hts := atoms_spec (ws := wm_X13_isFactory) B.pre
  have htb := fun (w : Cond) (h : w ∈ tb) => hts w (List.mem_cons_of_mem _ h)
  have hown : s.vm.findClass RX13 = some m.cls := findClass_of_methodNamed B.named
  have hlocks := B.notSynchronized
  subst hsz
  have hD := hD0.self (sz := s.heap.size)
  generalize hAe : va_A (mW h0 ad cid sg gm lg) s.heap.size = A at hD ⊢
  have hA : ∀ q : Nat, s.heap.size ≤ q → A q := fun q h => by rw [← hAe]; exact Or.inr h
  have hS : va_S A s.heap s.heap [] := va_S.rf
  have hl := lv_entry ([.ref h0, .int k, .int b, .int z]) (n := 4) (Nat.le_of_ble_eq_true rfl)
  rw [lg_entry_eq]
  generalize (lg_sl ([.ref h0, .int k, .int b, .int z]) ++ List.replicate (4 - (lg_sl ([.ref h0, .int k, .int b, .int z])).length) Slot.unset).toArray = ls at hl ⊢
  have hl : lv_has ls 4 [(0, .ref h0), (1, .int k), (2, .int b), (3, .int z)] := hl
  have hj25 : ∀ (y0_25 : Int32) (_ : iv 0 31 k) (_ : iv 0 1 z) (_ : iv 0 1 y0_25) (_ : (y0_25.toInt = 1 ∧ (gm 14 k.toNatClampNeg).toInt = b.toInt ∧ (gm 18 k.toNatClampNeg).toInt = z.toInt) ∨ (y0_25.toInt = 0 ∧ ¬ ((gm 14 k.toNatClampNeg).toInt = b.toInt ∧ (gm 18 k.toNatClampNeg).toInt = z.toInt))) (H : Heap) (locs : List Loc) (ls : Array Slot), va_P (dC, dI) vwCl (mW h0 ad cid sg gm lg) H → va_D A (mW h0 ad cid sg gm lg) → va_S A s.heap H locs → lv_has ls 4 [(0, .ref h0), (1, .int k), (2, .int b), (3, .int z)] → W p l e (headSpec wm_X13_isFactory ({ frames := 0, cells := 0, slots := 0, locals := 0 })).room s m ([.ref h0, .int k, .int b, .int z] : List Value).toArray below meth c H locs 0 0 (MQ below (va_Qi (fun r v => (iv 0 1 r) ∧ ((r.toInt = 1 ∧ (gm 14 k.toNatClampNeg).toInt = b.toInt ∧ (gm 18 k.toNatClampNeg).toInt = z.toInt) ∨ (r.toInt = 0 ∧ ¬ ((gm 14 k.toNatClampNeg).toInt = b.toInt ∧ (gm 18 k.toNatClampNeg).toInt = z.toInt))) ∧ v = (sg, gm, lg)) (MB dC dI h0 ad cid A) A) ([.ref h0, .int k, .int b, .int z] : List Value).toArray s 0 0 A) (F0 m 25 ls [.int y0_25]) := by
    intro y0_25 hsx1_25 hsx3_25 hy0_25 u25 H locs ls hP hD hS hl
    exact W.zret (v := y0_25) hx hb hr (iv_nb hy0_25) (fun t ht hW => ⟨⟨y0_25, (sg, gm, lg), rfl, ⟨hy0_25, (u25), rfl⟩, by rw [ht]; exact hP, va_K.moved hW.alike hK, hD⟩, hS.F ht⟩) hS.2.2 dX13_isFactory_25
  have hj24 : ∀ (_ : iv 0 31 k) (_ : iv 0 1 z) (_ : ¬ ((gm 14 k.toNatClampNeg).toInt = b.toInt ∧ (gm 18 k.toNatClampNeg).toInt = z.toInt)) (H : Heap) (locs : List Loc) (ls : Array Slot), va_P (dC, dI) vwCl (mW h0 ad cid sg gm lg) H → va_D A (mW h0 ad cid sg gm lg) → va_S A s.heap H locs → lv_has ls 4 [(0, .ref h0), (1, .int k), (2, .int b), (3, .int z)] → W p l e (headSpec wm_X13_isFactory ({ frames := 0, cells := 0, slots := 0, locals := 0 })).room s m ([.ref h0, .int k, .int b, .int z] : List Value).toArray below meth c H locs 0 0 (MQ below (va_Qi (fun r v => (iv 0 1 r) ∧ ((r.toInt = 1 ∧ (gm 14 k.toNatClampNeg).toInt = b.toInt ∧ (gm 18 k.toNatClampNeg).toInt = z.toInt) ∨ (r.toInt = 0 ∧ ¬ ((gm 14 k.toNatClampNeg).toInt = b.toInt ∧ (gm 18 k.toNatClampNeg).toInt = z.toInt))) ∧ v = (sg, gm, lg)) (MB dC dI h0 ad cid A) A) ([.ref h0, .int k, .int b, .int z] : List Value).toArray s 0 0 A) (F0 m 24 ls []) := by
    intro  hsx1_24 hsx3_24 u24 H locs ls hP hD hS hl
    refine lv_iconst (v := 0) hx hb dX13_isFactory_24 (by decide) ?_
    exact hj25 0 hsx1_24 hsx3_24 (iv_w (iv_k (by decide) : iv 0 0 0) (by decide)) (Or.inr ⟨rfl, u24⟩) _ _ _ hP hD hS (lv_sub hl [0, 1, 2, 3] rfl)
  refine lv_aload_n hx hb dX13_isFactory_0 rfl (lv_at hl 0 rfl) ?_
  refine mr_get (v := .ref (ad 14)) hx hb htb inX13 hown hK hP 14 (by decide) (htb _ kw_173) rfl dX13_isFactory_1 ?_
  refine lv_iload_n hx hb dX13_isFactory_4 rfl (lv_at hl 1 rfl) ?_
  refine mr_iald hx hb hK hP 13 (k := 14) rfl rfl rfl (show vp_in k 32 from (iv_in hvk (by decide))) dX13_isFactory_5 ?_
  refine lv_topi (fun z_1 ez_1 => ?_)
  have hz_1 : iv 0 25 z_1 := iv_of ez_1 (MI_a hI 14 hvk (by decide))
  refine lv_iload_n hx hb dX13_isFactory_6 rfl (lv_at hl 2 rfl) ?_
  refine lv_icmp_ne (tgt := 24) hx hb dX13_isFactory_7 (by decide) (fun c_2 => ?_) (fun c_2 => ?_)
  · exact hj24 hvk hvz ((fun h => absurd (show z_1.toInt = b.toInt from (by rw [ez_1]; exact h.1)) (fun q7 => c_2 (Int32.toInt_inj.mp q7)))) _ _ _ hP hD hS (lv_sub hl [0, 1, 2, 3] rfl)
  · have d_3 : (z_1 : Int32).toInt = (b : Int32).toInt := congrArg Int32.toInt c_2
    have h_4 : iv 0 25 b := iv_eq (Eq.symm c_2) (iv_all b) hz_1 (by decide)
    refine lv_aload_n hx hb dX13_isFactory_10 rfl (lv_at hl 0 rfl) ?_
    refine mr_get (v := .ref (ad 18)) hx hb htb inX13 hown hK hP 18 (by decide) (htb _ kw_178) rfl dX13_isFactory_11 ?_
    refine lv_iload_n hx hb dX13_isFactory_14 rfl (lv_at hl 1 rfl) ?_
    refine mr_zald hx hb hK hP 17 (k := 18) rfl rfl rfl (show vp_in k 32 from (iv_in hvk (by decide))) dX13_isFactory_15 ?_
    refine lv_topi (fun z_5 ez_5 => ?_)
    have hz_5 : iv 0 1 z_5 := iv_of ez_5 (MI_a hI 18 hvk (by decide))
    refine lv_iload_n hx hb dX13_isFactory_16 rfl (lv_at hl 3 rfl) ?_
    refine lv_icmp_ne (tgt := 24) hx hb dX13_isFactory_17 (by decide) (fun c_6 => ?_) (fun c_6 => ?_)
    · exact hj24 hvk hvz ((fun h => absurd (show z_5.toInt = z.toInt from (by rw [ez_5]; exact h.2)) (fun q7 => c_6 (Int32.toInt_inj.mp q7)))) _ _ _ hP hD hS (lv_sub hl [0, 1, 2, 3] rfl)
    · have d_7 : (z_5 : Int32).toInt = (z : Int32).toInt := congrArg Int32.toInt c_6
      refine lv_iconst (v := 1) hx hb dX13_isFactory_20 (by decide) ?_
      refine lv_goto (tgt := 25) hx hb dX13_isFactory_21 (by decide) ?_
      exact hj25 1 hvk hvz (iv_w (iv_k (by decide) : iv 1 1 1) (by decide)) (Or.inl ⟨rfl, (by rw [← ez_1]; have := i32_0; have := i32_1; have := i32_2; have := i32_m1; have := (hvk).1; have := (hvk).2; have := (hvz).1; have := (hvz).2; have := (hz_1).1; have := (hz_1).2; have := (h_4).1; have := (h_4).2; have := (hz_5).1; have := (hz_5).2; omega), (by rw [← ez_5]; have := i32_0; have := i32_1; have := i32_2; have := i32_m1; have := (hvk).1; have := (hvk).2; have := (hvz).1; have := (hvz).2; have := (hz_1).1; have := (hz_1).2; have := (h_4).1; have := (h_4).2; have := (hz_5).1; have := (hz_5).2; omega)⟩) _ _ _ hP hD hS (lv_sub hl [0, 1, 2, 3] rfl)

set_option maxHeartbeats 4000000 in
set_option maxRecDepth 100000 in
theorem f_typeOfSetter9 (l : Launch) (dC : Nat → ClassId) (dI : Nat → Nat → Nat) (h0 : Nat) (ad : Nat → Nat) (cid : Nat → ClassId) (sg : Nat → Int32) (gm : Nat → Nat → Int32) (lg : Nat → Nat → Int64) (a : Int32) (b : Int32) (wg : Nat → Nat → Int32) (rg : Nat → Nat → Int32) (hI : MI sg gm) (hva : iv (-1) 7 a) (hvb : iv 0 25 b) (hPR : PR gm) (hRW : rt9 gm = rg) (hCL : CLS9 wg rg) : MMi l dC dI yX13_typeOfSetter wm_X13_typeOfSetter ({ frames := 0, cells := 0, slots := 0, locals := 0 }) h0 ad cid [.int a, .int b] sg gm lg (fun r v => (iv (-1) 15 r) ∧ (r.toInt = sgF wg b.toNatClampNeg 8 a.toInt) ∧ v = (sg, gm, lg)) := by
  intro sz
  refine Met.ofW (cc := cX13_typeOfSetter) (maxL := 5) (ret := (some .int)) (by decide) rfl ?_
  intro p e s m args below meth c s₁ B hml hv
  obtain ⟨rfl, hsz, hP, hK, hD0⟩ := hv
  have hx := B.exec
  have hb := B.bytes
  have hr := B.returns
  have hts := atoms_spec (ws := wm_X13_typeOfSetter) B.pre
  have htb := fun (w : Cond) (h : w ∈ tb) => hts w (List.mem_cons_of_mem _ h)
  have hown : s.vm.findClass RX13 = some m.cls := findClass_of_methodNamed B.named
  have hlocks := B.notSynchronized
  subst hsz
  have hD := hD0.self (sz := s.heap.size)
  generalize hAe : va_A (mW h0 ad cid sg gm lg) s.heap.size = A at hD ⊢
  have hA : ∀ q : Nat, s.heap.size ≤ q → A q := fun q h => by rw [← hAe]; exact Or.inr h
  have hS : va_S A s.heap s.heap [] := va_S.rf
  have hl := lv_entry ([.ref h0, .int a, .int b]) (n := 5) (Nat.le_of_ble_eq_true rfl)
  rw [lg_entry_eq]
  generalize (lg_sl ([.ref h0, .int a, .int b]) ++ List.replicate (5 - (lg_sl ([.ref h0, .int a, .int b])).length) Slot.unset).toArray = ls at hl ⊢
  have hl : lv_has ls 5 [(0, .ref h0), (1, .int a), (2, .int b)] := hl
  have hj2 : ∀ (n : Nat) (x3_2 : Int32) (_ : (x3_2.toInt + 1).toNat = n) (_ : iv (-1) 7 x3_2) (_ : iv (-1) 7 a) (_ : iv 0 25 b) (_ : sgF wg b.toNatClampNeg 8 a.toInt = sgF wg b.toNatClampNeg (x3_2.toInt + 1).toNat x3_2.toInt) (H : Heap) (locs : List Loc) (ls : Array Slot), va_P (dC, dI) vwCl (mW h0 ad cid sg gm lg) H → va_D A (mW h0 ad cid sg gm lg) → va_S A s.heap H locs → lv_has ls 5 [(3, .int x3_2), (0, .ref h0), (1, .int a), (2, .int b)] → W p l e (headSpec wm_X13_typeOfSetter ({ frames := 0, cells := 0, slots := 0, locals := 0 })).room s m ([.ref h0, .int a, .int b] : List Value).toArray below meth c H locs 0 0 (MQ below (va_Qi (fun r v => (iv (-1) 15 r) ∧ (r.toInt = sgF wg b.toNatClampNeg 8 a.toInt) ∧ v = (sg, gm, lg)) (MB dC dI h0 ad cid A) A) ([.ref h0, .int a, .int b] : List Value).toArray s 0 0 A) (F0 m 2 ls []) := by
    intro n
    induction n using Nat.strongRecOn with
    | ind n ih2 =>
      intro x3_2 hn2 hx3_2 hsx1_2 hsx2_2 hsg H locs ls hP hD hS hl
      have hj10 : ∀ (n : Nat) (x4_10 : Int32) (_ : (8 - x4_10.toInt).toNat = n) (_ : iv 0 8 x4_10) (_ : iv 0 7 x3_2) (_ : iv (-1) 7 a) (_ : iv 0 25 b) (_ : ∀ k, k < x4_10.toNatClampNeg → ¬ (rg 11 (8 * x3_2.toNatClampNeg + k)).toNatClampNeg = b.toNatClampNeg) (H : Heap) (locs : List Loc) (ls : Array Slot), va_P (dC, dI) vwCl (mW h0 ad cid sg gm lg) H → va_D A (mW h0 ad cid sg gm lg) → va_S A s.heap H locs → lv_has ls 5 [(4, .int x4_10), (3, .int x3_2), (0, .ref h0), (1, .int a), (2, .int b)] → W p l e (headSpec wm_X13_typeOfSetter ({ frames := 0, cells := 0, slots := 0, locals := 0 })).room s m ([.ref h0, .int a, .int b] : List Value).toArray below meth c H locs 0 0 (MQ below (va_Qi (fun r v => (iv (-1) 15 r) ∧ (r.toInt = sgF wg b.toNatClampNeg 8 a.toInt) ∧ v = (sg, gm, lg)) (MB dC dI h0 ad cid A) A) ([.ref h0, .int a, .int b] : List Value).toArray s 0 0 A) (F0 m 10 ls []) := by
        intro n
        induction n using Nat.strongRecOn with
        | ind n ih10 =>
          intro x4_10 hn10 hx4_10 hsx3_10 hsx1_10 hsx2_10 hno H locs ls hP hD hS hl
          refine lv_iload hx hb dX13_typeOfSetter_10 (lv_at hl 0 rfl) ?_
          refine lv_aload_n hx hb dX13_typeOfSetter_12 rfl (lv_at hl 2 rfl) ?_
          refine mr_get (v := .ref (ad 10)) hx hb htb inX13 hown hK hP 10 (by decide) (htb _ kw_169) rfl dX13_typeOfSetter_13 ?_
          refine lv_iload_n hx hb dX13_typeOfSetter_16 rfl (lv_at hl 1 rfl) ?_
          refine mr_iald hx hb hK hP 9 (k := 10) rfl rfl rfl (show vp_in x3_2 8 from (iv_in hsx3_10 (by decide))) dX13_typeOfSetter_17 ?_
          refine lv_topi (fun z_1 ez_1 => ?_)
          have hz_1 : iv 0 8 z_1 := iv_of ez_1 (MI_a hI 10 hsx3_10 (by decide))
          refine lv_icmp_ge (tgt := 56) hx hb dX13_typeOfSetter_18 (by decide) (fun c_2 => ?_) (fun c_2 => ?_)
          · have d_3 : (z_1 : Int32).toInt ≤ (x4_10 : Int32).toInt := Int32.le_iff_toInt_le.mp c_2
            refine lv_aload_n hx hb dX13_typeOfSetter_56 rfl (lv_at hl 2 rfl) ?_
            refine mr_get (v := .ref (ad 6)) hx hb htb inX13 hown hK hP 6 (by decide) (htb _ kw_165) rfl dX13_typeOfSetter_57 ?_
            refine lv_iload_n hx hb dX13_typeOfSetter_60 rfl (lv_at hl 1 rfl) ?_
            refine mr_iald hx hb hK hP 5 (k := 6) rfl rfl rfl (show vp_in x3_2 8 from (iv_in hsx3_10 (by decide))) dX13_typeOfSetter_61 ?_
            refine lv_topi (fun z_4 ez_4 => ?_)
            have hz_4 : iv (-1) 7 z_4 := iv_of ez_4 (MI_a hI 6 hsx3_10 (by decide))
            refine lv_istore_n (lv' := [(3, .int z_4), (4, .int x4_10), (0, .ref h0), (1, .int a), (2, .int b)]) hx hb dX13_typeOfSetter_62 rfl hl (by decide) rfl (fun ls hl => ?_)
            refine lv_goto (tgt := 2) hx hb dX13_typeOfSetter_63 (by decide) ?_
            exact ih2 _ (by rw [← hn2]; exact (PR_dec hPR hsx3_10 ez_4)) z_4 rfl hz_4 hsx1_10 hsx2_10 (sgR_up hCL hRW hPR hsx3_10 hsg ((hCL x3_2.toNatClampNeg (by have q1 : x3_2.toNatClampNeg = x3_2.toInt.toNat := rfl; have := i32_0; have := i32_1; have := i32_2; have := i32_m1; have := (hsx1_10).1; have := (hsx1_10).2; have := (hsx2_10).1; have := (hsx2_10).2; have := (hsx3_10).1; have := (hsx3_10).2; have := (hx4_10).1; have := (hx4_10).2; have := (hz_1).1; have := (hz_1).2; have := (hz_4).1; have := (hz_4).2; omega)).2.2.2.2.2.2.2 _ (by have q1 : b.toNatClampNeg = b.toInt.toNat := rfl; have := i32_0; have := i32_1; have := i32_2; have := i32_m1; have := (hsx1_10).1; have := (hsx1_10).2; have := (hsx2_10).1; have := (hsx2_10).2; have := (hsx3_10).1; have := (hsx3_10).2; have := (hx4_10).1; have := (hx4_10).2; have := (hz_1).1; have := (hz_1).2; have := (hz_4).1; have := (hz_4).2; omega) (fun k hk => hno k (by have q5 := congrArg Int32.toNatClampNeg (rwt9 hRW ez_1 rfl); rw [q5] at hk; have q1 : z_1.toNatClampNeg = z_1.toInt.toNat := rfl; have q1 : x4_10.toNatClampNeg = x4_10.toInt.toNat := rfl; have := i32_0; have := i32_1; have := i32_2; have := i32_m1; have := (hsx1_10).1; have := (hsx1_10).2; have := (hsx2_10).1; have := (hsx2_10).2; have := (hsx3_10).1; have := (hsx3_10).2; have := (hx4_10).1; have := (hx4_10).2; have := (hz_1).1; have := (hz_1).2; have := (hz_4).1; have := (hz_4).2; omega))) ez_4) _ _ _ hP hD hS (lv_sub hl [0, 2, 3, 4] rfl)
          · have d_5 : (x4_10 : Int32).toInt < (z_1 : Int32).toInt := Int32.lt_iff_toInt_lt.mp (i32_lt c_2)
            have h_6 : iv 0 7 x4_10 := iv_ltL (i32_lt c_2) hx4_10 hz_1 (by decide)
            have h_7 : iv 1 8 z_1 := iv_ltR (i32_lt c_2) hx4_10 hz_1 (by decide)
            refine lv_aload_n hx hb dX13_typeOfSetter_21 rfl (lv_at hl 2 rfl) ?_
            refine mr_get (v := .ref (ad 11)) hx hb htb inX13 hown hK hP 11 (by decide) (htb _ kw_170) rfl dX13_typeOfSetter_22 ?_
            refine lv_bipush (v := 8) hx hb dX13_typeOfSetter_25 (by decide) ?_
            refine lv_iload_n hx hb dX13_typeOfSetter_27 rfl (lv_at hl 1 rfl) ?_
            refine lv_imul hx hb dX13_typeOfSetter_28 ?_
            refine lv_topi (fun z_8 ez_8 => ?_)
            have hz_8 : iv 0 56 z_8 := iv_of ez_8 (iv_mul (iv_k (by decide) : iv 8 8 8) hsx3_10 (by decide))
            have tz_8 : z_8.toInt = 8 * (x3_2 : Int32).toInt := by rw [ez_8]; exact iv_mulE (iv_k (by decide) : iv 8 8 8) hsx3_10 (by decide)
            refine lv_iload hx hb dX13_typeOfSetter_29 (lv_at hl 0 rfl) ?_
            refine lv_iadd hx hb dX13_typeOfSetter_31 ?_
            refine lv_topi (fun z_9 ez_9 => ?_)
            have hz_9 : iv 0 63 z_9 := iv_of ez_9 (iv_add hz_8 h_6 (by decide))
            have tz_9 : z_9.toInt = (z_8 : Int32).toInt + (x4_10 : Int32).toInt := by rw [ez_9]; exact iv_addE hz_8 h_6 (by decide)
            refine mr_iald hx hb hK hP 10 (k := 11) rfl rfl rfl (show vp_in z_9 64 from (iv_in hz_9 (by decide))) dX13_typeOfSetter_32 ?_
            refine lv_topi (fun z_10 ez_10 => ?_)
            have hz_10 : iv 0 25 z_10 := iv_of ez_10 (MI_a hI 11 hz_9 (by decide))
            refine lv_iload_n hx hb dX13_typeOfSetter_33 rfl (lv_at hl 4 rfl) ?_
            refine lv_icmp_ne (tgt := 50) hx hb dX13_typeOfSetter_34 (by decide) (fun c_11 => ?_) (fun c_11 => ?_)
            · obtain ⟨z_12, ez_12⟩ : ∃ z : Int32, z = x4_10 + 1 := ⟨_, rfl⟩
              have hz_12 : iv 1 8 z_12 := iv_of ez_12 (iv_add h_6 (iv_k (by decide) : iv 1 1 1) (by decide))
              have tz_12 : z_12.toInt = x4_10.toInt + 1 := by rw [ez_12]; exact iv_addE h_6 (iv_k (by decide) : iv 1 1 1) (by decide)
              refine lv_iinc (v := z_12) (lv' := [(4, .int z_12), (3, .int x3_2), (0, .ref h0), (1, .int a), (2, .int b)]) hx hb dX13_typeOfSetter_50 hl (k := 0) rfl ez_12.symm (by decide) rfl (fun ls hl => ?_)
              refine lv_goto (tgt := 10) hx hb dX13_typeOfSetter_53 (by decide) ?_
              exact ih10 _ (by rw [← hn10]; exact (iv_meas tz_12 h_6 (by decide))) z_12 rfl (iv_w hz_12 (by decide)) hsx3_10 hsx1_10 hsx2_10 (fun k hk q9 => by { by_cases hq : k = x4_10.toNatClampNeg; (subst hq; exact absurd (show z_10.toInt = b.toInt from (by have q8 : rg 11 (8 * x3_2.toNatClampNeg + x4_10.toNatClampNeg) = z_10 := (by rw [← (show z_9.toNatClampNeg = 8 * x3_2.toNatClampNeg + x4_10.toNatClampNeg from (by have q1 : z_9.toNatClampNeg = z_9.toInt.toNat := rfl; have q1 : x3_2.toNatClampNeg = x3_2.toInt.toNat := rfl; have q1 : x4_10.toNatClampNeg = x4_10.toInt.toNat := rfl; have := i32_0; have := i32_1; have := i32_2; have := i32_m1; have := (hsx1_10).1; have := (hsx1_10).2; have := (hsx2_10).1; have := (hsx2_10).2; have := (hsx3_10).1; have := (hsx3_10).2; have := (h_6).1; have := (h_6).2; have := (h_7).1; have := (h_7).2; have := (hz_8).1; have := (hz_8).2; have := (hz_9).1; have := (hz_9).2; have := (hz_10).1; have := (hz_10).2; have := (hz_12).1; have := (hz_12).2; omega))]; exact (rwt9 hRW ez_10 rfl)); rw [q8] at q9; have q7 := (show iv 0 25 z_10 from hz_10).1; have q1 : z_10.toNatClampNeg = z_10.toInt.toNat := rfl; have q1 : b.toNatClampNeg = b.toInt.toNat := rfl; have := i32_0; have := i32_1; have := i32_2; have := i32_m1; have := (hsx1_10).1; have := (hsx1_10).2; have := (hsx2_10).1; have := (hsx2_10).2; have := (hsx3_10).1; have := (hsx3_10).2; have := (h_6).1; have := (h_6).2; have := (h_7).1; have := (h_7).2; have := (hz_8).1; have := (hz_8).2; have := (hz_9).1; have := (hz_9).2; have := (hz_10).1; have := (hz_10).2; have := (hz_12).1; have := (hz_12).2; omega)) (fun q7 => c_11 (Int32.toInt_inj.mp q7))); exact hno k (by have q1 : z_12.toNatClampNeg = z_12.toInt.toNat := rfl; have q1 : x4_10.toNatClampNeg = x4_10.toInt.toNat := rfl; have := i32_0; have := i32_1; have := i32_2; have := i32_m1; have := (hsx1_10).1; have := (hsx1_10).2; have := (hsx2_10).1; have := (hsx2_10).2; have := (hsx3_10).1; have := (hsx3_10).2; have := (h_6).1; have := (h_6).2; have := (h_7).1; have := (h_7).2; have := (hz_8).1; have := (hz_8).2; have := (hz_9).1; have := (hz_9).2; have := (hz_10).1; have := (hz_10).2; have := (hz_12).1; have := (hz_12).2; omega) q9 }) _ _ _ hP hD hS (lv_sub hl [0, 1, 2, 3, 4] rfl)
            · have d_13 : (z_10 : Int32).toInt = (b : Int32).toInt := congrArg Int32.toInt c_11
              refine lv_aload_n hx hb dX13_typeOfSetter_37 rfl (lv_at hl 2 rfl) ?_
              refine mr_get (v := .ref (ad 12)) hx hb htb inX13 hown hK hP 12 (by decide) (htb _ kw_171) rfl dX13_typeOfSetter_38 ?_
              refine lv_bipush (v := 8) hx hb dX13_typeOfSetter_41 (by decide) ?_
              refine lv_iload_n hx hb dX13_typeOfSetter_43 rfl (lv_at hl 1 rfl) ?_
              refine lv_imul hx hb dX13_typeOfSetter_44 ?_
              refine lv_topi (fun z_14 ez_14 => ?_)
              obtain rfl : z_8 = z_14 := ez_8.trans ez_14.symm
              refine lv_iload hx hb dX13_typeOfSetter_45 (lv_at hl 0 rfl) ?_
              refine lv_iadd hx hb dX13_typeOfSetter_47 ?_
              refine lv_topi (fun z_15 ez_15 => ?_)
              obtain rfl : z_9 = z_15 := ez_9.trans ez_15.symm
              refine mr_iald hx hb hK hP 11 (k := 12) rfl rfl rfl (show vp_in z_9 64 from (iv_in hz_9 (by decide))) dX13_typeOfSetter_48 ?_
              refine lv_topi (fun z_16 ez_16 => ?_)
              have hz_16 : iv 0 15 z_16 := iv_of ez_16 (MI_a hI 12 hz_9 (by decide))
              exact W.iret (v := z_16) hx hb hr (fun t ht hW => ⟨⟨z_16, (sg, gm, lg), rfl, ⟨(iv_w hz_16 (by decide)), ((by have e9 := (show (wg 55 (26 * x3_2.toNatClampNeg + b.toNatClampNeg)).toInt = z_16.toInt from (by have q9 := (hCL x3_2.toNatClampNeg (by have q1 : x3_2.toNatClampNeg = x3_2.toInt.toNat := rfl; have := i32_0; have := i32_1; have := i32_2; have := i32_m1; have := (hsx1_10).1; have := (hsx1_10).2; have := (hsx2_10).1; have := (hsx2_10).2; have := (hsx3_10).1; have := (hsx3_10).2; have := (h_6).1; have := (h_6).2; have := (h_7).1; have := (h_7).2; have := (hz_8).1; have := (hz_8).2; have := (hz_9).1; have := (hz_9).2; have := (hz_10).1; have := (hz_10).2; have := (hz_16).1; have := (hz_16).2; omega)).2.2.2.2.2.2.1 x4_10.toNatClampNeg (by have q5 := congrArg Int32.toNatClampNeg (rwt9 hRW ez_1 rfl); rw [q5]; have q1 : z_1.toNatClampNeg = z_1.toInt.toNat := rfl; have q1 : x4_10.toNatClampNeg = x4_10.toInt.toNat := rfl; have := i32_0; have := i32_1; have := i32_2; have := i32_m1; have := (hsx1_10).1; have := (hsx1_10).2; have := (hsx2_10).1; have := (hsx2_10).2; have := (hsx3_10).1; have := (hsx3_10).2; have := (h_6).1; have := (h_6).2; have := (h_7).1; have := (h_7).2; have := (hz_8).1; have := (hz_8).2; have := (hz_9).1; have := (hz_9).2; have := (hz_10).1; have := (hz_10).2; have := (hz_16).1; have := (hz_16).2; omega); rw [show rg 11 (8 * x3_2.toNatClampNeg + x4_10.toNatClampNeg) = z_10 from (by rw [← (show z_9.toNatClampNeg = 8 * x3_2.toNatClampNeg + x4_10.toNatClampNeg from (by have q1 : z_9.toNatClampNeg = z_9.toInt.toNat := rfl; have q1 : x3_2.toNatClampNeg = x3_2.toInt.toNat := rfl; have q1 : x4_10.toNatClampNeg = x4_10.toInt.toNat := rfl; have := i32_0; have := i32_1; have := i32_2; have := i32_m1; have := (hsx1_10).1; have := (hsx1_10).2; have := (hsx2_10).1; have := (hsx2_10).2; have := (hsx3_10).1; have := (hsx3_10).2; have := (h_6).1; have := (h_6).2; have := (h_7).1; have := (h_7).2; have := (hz_8).1; have := (hz_8).2; have := (hz_9).1; have := (hz_9).2; have := (hz_10).1; have := (hz_10).2; have := (hz_16).1; have := (hz_16).2; omega))]; exact (rwt9 hRW ez_10 rfl)), show rg 12 (8 * x3_2.toNatClampNeg + x4_10.toNatClampNeg) = z_16 from (by rw [← (show z_9.toNatClampNeg = 8 * x3_2.toNatClampNeg + x4_10.toNatClampNeg from (by have q1 : z_9.toNatClampNeg = z_9.toInt.toNat := rfl; have q1 : x3_2.toNatClampNeg = x3_2.toInt.toNat := rfl; have q1 : x4_10.toNatClampNeg = x4_10.toInt.toNat := rfl; have := i32_0; have := i32_1; have := i32_2; have := i32_m1; have := (hsx1_10).1; have := (hsx1_10).2; have := (hsx2_10).1; have := (hsx2_10).2; have := (hsx3_10).1; have := (hsx3_10).2; have := (h_6).1; have := (h_6).2; have := (h_7).1; have := (h_7).2; have := (hz_8).1; have := (hz_8).2; have := (hz_9).1; have := (hz_9).2; have := (hz_10).1; have := (hz_10).2; have := (hz_16).1; have := (hz_16).2; omega))]; exact (rwt9 hRW ez_16 rfl)), show z_10.toNatClampNeg = b.toNatClampNeg from (by have q1 : z_10.toNatClampNeg = z_10.toInt.toNat := rfl; have q1 : b.toNatClampNeg = b.toInt.toNat := rfl; have := i32_0; have := i32_1; have := i32_2; have := i32_m1; have := (hsx1_10).1; have := (hsx1_10).2; have := (hsx2_10).1; have := (hsx2_10).2; have := (hsx3_10).1; have := (hsx3_10).2; have := (h_6).1; have := (h_6).2; have := (h_7).1; have := (h_7).2; have := (hz_8).1; have := (hz_8).2; have := (hz_9).1; have := (hz_9).2; have := (hz_10).1; have := (hz_10).2; have := (hz_16).1; have := (hz_16).2; omega)] at q9; exact q9)); have q9 := sgR_h hsx3_10 hsg (by rw [e9]; have := i32_0; have := i32_1; have := i32_2; have := i32_m1; have := (hsx1_10).1; have := (hsx1_10).2; have := (hsx2_10).1; have := (hsx2_10).2; have := (hsx3_10).1; have := (hsx3_10).2; have := (h_6).1; have := (h_6).2; have := (h_7).1; have := (h_7).2; have := (hz_8).1; have := (hz_8).2; have := (hz_9).1; have := (hz_9).2; have := (hz_10).1; have := (hz_10).2; have := (hz_16).1; have := (hz_16).2; omega); rw [q9, e9])), rfl⟩, by rw [ht]; exact hP, va_K.moved hW.alike hK, hD⟩, hS.F ht⟩) hS.2.2 dX13_typeOfSetter_49
      refine lv_iload_n hx hb dX13_typeOfSetter_2 rfl (lv_at hl 0 rfl) ?_
      refine lv_iconst (v := (-1)) hx hb dX13_typeOfSetter_3 (by decide) ?_
      refine lv_icmp_eq (tgt := 66) hx hb dX13_typeOfSetter_4 (by decide) (fun c_17 => ?_) (fun c_17 => ?_)
      · have h_18 : iv (-1) (-1) x3_2 := iv_eq c_17 hx3_2 (iv_k (by decide) : iv (-1) (-1) (-1)) (by decide)
        refine lv_iconst (v := (-1)) hx hb dX13_typeOfSetter_66 (by decide) ?_
        exact W.iret (v := (-1)) hx hb hr (fun t ht hW => ⟨⟨(-1), (sg, gm, lg), rfl, ⟨(iv_w (iv_k (by decide) : iv (-1) (-1) (-1)) (by decide)), ((by rw [hsg, sgF_o (by have := i32_0; have := i32_1; have := i32_2; have := i32_m1; have := (hsx1_2).1; have := (hsx1_2).2; have := (hsx2_2).1; have := (hsx2_2).2; have := (h_18).1; have := (h_18).2; omega)]; rfl)), rfl⟩, by rw [ht]; exact hP, va_K.moved hW.alike hK, hD⟩, hS.F ht⟩) hS.2.2 dX13_typeOfSetter_67
      · have h_19 : iv 0 7 x3_2 := iv_neL c_17 hx3_2 (by decide)
        refine lv_iconst (v := 0) hx hb dX13_typeOfSetter_7 (by decide) ?_
        refine lv_istore (lv' := [(4, .int 0), (3, .int x3_2), (0, .ref h0), (1, .int a), (2, .int b)]) hx hb dX13_typeOfSetter_8 hl (by decide) rfl (fun ls hl => ?_)
        exact hj10 _ 0 rfl (iv_w (iv_k (by decide) : iv 0 0 0) (by decide)) h_19 hsx1_2 hsx2_2 (fun k hk => absurd hk (Nat.not_lt_zero _)) _ _ _ hP hD hS (lv_sub hl [0, 1, 2, 3, 4] rfl)
  refine lv_iload_n hx hb dX13_typeOfSetter_0 rfl (lv_at hl 1 rfl) ?_
  refine lv_istore_n (lv' := [(3, .int a), (0, .ref h0), (1, .int a), (2, .int b)]) hx hb dX13_typeOfSetter_1 rfl hl (by decide) rfl (fun ls hl => ?_)
  exact hj2 _ a rfl hva hva hvb (sgR_0 hCL hRW hPR hva) _ _ _ hP hD hS (lv_sub hl [0, 1, 2, 3] rfl)

set_option maxHeartbeats 4000000 in
set_option maxRecDepth 100000 in
theorem f_classWithFactory9 (l : Launch) (dC : Nat → ClassId) (dI : Nat → Nat → Nat) (h0 : Nat) (ad : Nat → Nat) (cid : Nat → ClassId) (sg : Nat → Int32) (gm : Nat → Nat → Int32) (lg : Nat → Nat → Int64) (a : Int32) (b : Int32) (z : Int32) (wg : Nat → Nat → Int32) (rg : Nat → Nat → Int32) (hI : MI sg gm) (hva : iv (-1) 7 a) (hvz : iv 0 1 z) (hPR : PR gm) (hRW : rt9 gm = rg) (hCL : CLS9 wg rg) : MMi l dC dI yX13_classWithFactory wm_X13_classWithFactory ({ frames := 1, cells := 0, slots := 0, locals := 23 }) h0 ad cid [.int a, .int b, .int z] sg gm lg (fun r v => (iv (-1) 7 r) ∧ (r.toInt = wfF wg b.toInt z.toInt 8 a.toInt) ∧ v = (sg, gm, lg)) := by
  intro sz
  refine Met.ofW (cc := cX13_classWithFactory) (maxL := 6) (ret := (some .int)) (by decide) rfl ?_
  intro p e s m args below meth c s₁ B hml hv
  obtain ⟨rfl, hsz, hP, hK, hD0⟩ := hv
  have hx := B.exec
  have hb := B.bytes
  have hr := B.returns
  have hts := atoms_spec (ws := wm_X13_classWithFactory) B.pre
  have htb := fun (w : Cond) (h : w ∈ tb) => hts w (List.mem_cons_of_mem _ h)
  have hown : s.vm.findClass RX13 = some m.cls := findClass_of_methodNamed B.named
  have hlocks := B.notSynchronized
  subst hsz
  have hD := hD0.self (sz := s.heap.size)
  generalize hAe : va_A (mW h0 ad cid sg gm lg) s.heap.size = A at hD ⊢
  have hA : ∀ q : Nat, s.heap.size ≤ q → A q := fun q h => by rw [← hAe]; exact Or.inr h
  have hS : va_S A s.heap s.heap [] := va_S.rf
  have hl := lv_entry ([.ref h0, .int a, .int b, .int z]) (n := 6) (Nat.le_of_ble_eq_true rfl)
  rw [lg_entry_eq]
  generalize (lg_sl ([.ref h0, .int a, .int b, .int z]) ++ List.replicate (6 - (lg_sl ([.ref h0, .int a, .int b, .int z])).length) Slot.unset).toArray = ls at hl ⊢
  have hl : lv_has ls 6 [(0, .ref h0), (1, .int a), (2, .int b), (3, .int z)] := hl
  have hj3 : ∀ (n : Nat) (x4_3 : Int32) (_ : (x4_3.toInt + 1).toNat = n) (_ : iv (-1) 7 x4_3) (_ : iv (-1) 7 a) (_ : iv 0 1 z) (_ : wfF wg b.toInt z.toInt 8 a.toInt = wfF wg b.toInt z.toInt (x4_3.toInt + 1).toNat x4_3.toInt) (H : Heap) (locs : List Loc) (ls : Array Slot), va_P (dC, dI) vwCl (mW h0 ad cid sg gm lg) H → va_D A (mW h0 ad cid sg gm lg) → va_S A s.heap H locs → lv_has ls 6 [(4, .int x4_3), (0, .ref h0), (1, .int a), (2, .int b), (3, .int z)] → W p l e (headSpec wm_X13_classWithFactory ({ frames := 1, cells := 0, slots := 0, locals := 23 })).room s m ([.ref h0, .int a, .int b, .int z] : List Value).toArray below meth c H locs 0 0 (MQ below (va_Qi (fun r v => (iv (-1) 7 r) ∧ (r.toInt = wfF wg b.toInt z.toInt 8 a.toInt) ∧ v = (sg, gm, lg)) (MB dC dI h0 ad cid A) A) ([.ref h0, .int a, .int b, .int z] : List Value).toArray s 0 0 A) (F0 m 3 ls []) := by
    intro n
    induction n using Nat.strongRecOn with
    | ind n ih3 =>
      intro x4_3 hn3 hx4_3 hsx1_3 hsx3_3 hwf H locs ls hP hD hS hl
      have hj12 : ∀ (n : Nat) (x5_12 : Int32) (_ : (4 - x5_12.toInt).toNat = n) (_ : iv 0 4 x5_12) (_ : iv 0 7 x4_3) (_ : iv (-1) 7 a) (_ : iv 0 1 z) (_ : ∀ k, k < x5_12.toNatClampNeg → ¬ cdS wg b.toInt z.toInt (8 * x4_3.toNatClampNeg + 4 + k)) (H : Heap) (locs : List Loc) (ls : Array Slot), va_P (dC, dI) vwCl (mW h0 ad cid sg gm lg) H → va_D A (mW h0 ad cid sg gm lg) → va_S A s.heap H locs → lv_has ls 6 [(5, .int x5_12), (4, .int x4_3), (0, .ref h0), (1, .int a), (2, .int b), (3, .int z)] → W p l e (headSpec wm_X13_classWithFactory ({ frames := 1, cells := 0, slots := 0, locals := 23 })).room s m ([.ref h0, .int a, .int b, .int z] : List Value).toArray below meth c H locs 0 0 (MQ below (va_Qi (fun r v => (iv (-1) 7 r) ∧ (r.toInt = wfF wg b.toInt z.toInt 8 a.toInt) ∧ v = (sg, gm, lg)) (MB dC dI h0 ad cid A) A) ([.ref h0, .int a, .int b, .int z] : List Value).toArray s 0 0 A) (F0 m 12 ls []) := by
        intro n
        induction n using Nat.strongRecOn with
        | ind n ih12 =>
          intro x5_12 hn12 hx5_12 hsx4_12 hsx1_12 hsx3_12 hno H locs ls hP hD hS hl
          refine lv_iload hx hb dX13_classWithFactory_12 (lv_at hl 0 rfl) ?_
          refine lv_aload_n hx hb dX13_classWithFactory_14 rfl (lv_at hl 2 rfl) ?_
          refine mr_get (v := .ref (ad 13)) hx hb htb inX13 hown hK hP 13 (by decide) (htb _ kw_172) rfl dX13_classWithFactory_15 ?_
          refine lv_iload hx hb dX13_classWithFactory_18 (lv_at hl 1 rfl) ?_
          refine mr_iald hx hb hK hP 12 (k := 13) rfl rfl rfl (show vp_in x4_3 8 from (iv_in hsx4_12 (by decide))) dX13_classWithFactory_20 ?_
          refine lv_topi (fun z_1 ez_1 => ?_)
          have hz_1 : iv 0 4 z_1 := iv_of ez_1 (MI_a hI 13 hsx4_12 (by decide))
          refine lv_icmp_ge (tgt := 49) hx hb dX13_classWithFactory_21 (by decide) (fun c_2 => ?_) (fun c_2 => ?_)
          · have d_3 : (z_1 : Int32).toInt ≤ (x5_12 : Int32).toInt := Int32.le_iff_toInt_le.mp c_2
            refine lv_aload_n hx hb dX13_classWithFactory_49 rfl (lv_at hl 2 rfl) ?_
            refine mr_get (v := .ref (ad 6)) hx hb htb inX13 hown hK hP 6 (by decide) (htb _ kw_165) rfl dX13_classWithFactory_50 ?_
            refine lv_iload hx hb dX13_classWithFactory_53 (lv_at hl 1 rfl) ?_
            refine mr_iald hx hb hK hP 5 (k := 6) rfl rfl rfl (show vp_in x4_3 8 from (iv_in hsx4_12 (by decide))) dX13_classWithFactory_55 ?_
            refine lv_topi (fun z_4 ez_4 => ?_)
            have hz_4 : iv (-1) 7 z_4 := iv_of ez_4 (MI_a hI 6 hsx4_12 (by decide))
            refine lv_istore (lv' := [(4, .int z_4), (5, .int x5_12), (0, .ref h0), (1, .int a), (2, .int b), (3, .int z)]) hx hb dX13_classWithFactory_56 hl (by decide) rfl (fun ls hl => ?_)
            refine lv_goto (tgt := 3) hx hb dX13_classWithFactory_58 (by decide) ?_
            exact ih3 _ (by rw [← hn3]; exact (PR_dec hPR hsx4_12 ez_4)) z_4 rfl hz_4 hsx1_12 hsx3_12 (wfR_up hCL hRW hPR hsx4_12 hwf (owB_f (fun i hi => hno i (by have q5 := (hCL _ (show x4_3.toNatClampNeg < 8 from (by have q1 : x4_3.toNatClampNeg = x4_3.toInt.toNat := rfl; have := i32_0; have := i32_1; have := i32_2; have := i32_m1; have := (hsx1_12).1; have := (hsx1_12).2; have := (hsx3_12).1; have := (hsx3_12).2; have := (hsx4_12).1; have := (hsx4_12).2; have := (hx5_12).1; have := (hx5_12).2; have := (hz_1).1; have := (hz_1).2; have := (hz_4).1; have := (hz_4).2; omega))).2.2.2.1; rw [(rwt9 hRW ez_1 rfl)] at q5; have q6 : (wg 1 x4_3.toNatClampNeg).toNatClampNeg = (wg 1 x4_3.toNatClampNeg).toInt.toNat := rfl; have q1 : z_1.toNatClampNeg = z_1.toInt.toNat := rfl; have q1 : x5_12.toNatClampNeg = x5_12.toInt.toNat := rfl; have := i32_0; have := i32_1; have := i32_2; have := i32_m1; have := (hsx1_12).1; have := (hsx1_12).2; have := (hsx3_12).1; have := (hsx3_12).2; have := (hsx4_12).1; have := (hsx4_12).2; have := (hx5_12).1; have := (hx5_12).2; have := (hz_1).1; have := (hz_1).2; have := (hz_4).1; have := (hz_4).2; omega))) ez_4) _ _ _ hP hD hS (lv_sub hl [0, 2, 3, 4, 5] rfl)
          · have d_5 : (x5_12 : Int32).toInt < (z_1 : Int32).toInt := Int32.lt_iff_toInt_lt.mp (i32_lt c_2)
            have h_6 : iv 0 3 x5_12 := iv_ltL (i32_lt c_2) hx5_12 hz_1 (by decide)
            have h_7 : iv 1 4 z_1 := iv_ltR (i32_lt c_2) hx5_12 hz_1 (by decide)
            refine lv_aload_n hx hb dX13_classWithFactory_24 rfl (lv_at hl 2 rfl) ?_
            refine lv_iconst (v := 4) hx hb dX13_classWithFactory_25 (by decide) ?_
            refine lv_iload hx hb dX13_classWithFactory_26 (lv_at hl 1 rfl) ?_
            refine lv_imul hx hb dX13_classWithFactory_28 ?_
            refine lv_topi (fun z_8 ez_8 => ?_)
            have hz_8 : iv 0 28 z_8 := iv_of ez_8 (iv_mul (iv_k (by decide) : iv 4 4 4) hsx4_12 (by decide))
            have tz_8 : z_8.toInt = 4 * (x4_3 : Int32).toInt := by rw [ez_8]; exact iv_mulE (iv_k (by decide) : iv 4 4 4) hsx4_12 (by decide)
            refine lv_iload hx hb dX13_classWithFactory_29 (lv_at hl 0 rfl) ?_
            refine lv_iadd hx hb dX13_classWithFactory_31 ?_
            refine lv_topi (fun z_9 ez_9 => ?_)
            have hz_9 : iv 0 31 z_9 := iv_of ez_9 (iv_add hz_8 h_6 (by decide))
            have tz_9 : z_9.toInt = (z_8 : Int32).toInt + (x5_12 : Int32).toInt := by rw [ez_9]; exact iv_addE hz_8 h_6 (by decide)
            refine lv_iload_n hx hb dX13_classWithFactory_32 rfl (lv_at hl 4 rfl) ?_
            refine lv_iload_n hx hb dX13_classWithFactory_33 rfl (lv_at hl 5 rfl) ?_
            refine mr_calli (rest := []) ⟨hx, hb, hml, hown, htb⟩ (f_isFactory9 l dC dI h0 ad cid sg gm lg z_9 b z hI hz_9 hsx3_12) (cwV 3 htb (gd_V kw_1210 kw_1211 kw_1212 kw_5 kw_1620) rfl rfl rfl (by decide +kernel) ⟨Nat.le_of_ble_eq_true rfl, Nat.le_of_ble_eq_true rfl⟩) rfl hl.1 rfl (Nat.le_of_ble_eq_true rfl) dX13_classWithFactory_34 ⟨Nat.zero_le _, Nat.zero_le _⟩ hK hP hD hS hA (fun r_10 u_11 H locs hw hP hD hS => ?_)
            obtain ⟨hr_10, fI_r_10, rfl⟩ := hw
            have hP : va_P (dC, dI) vwCl (mW h0 ad cid sg gm lg) H := hP
            have hD : va_D A (mW h0 ad cid sg gm lg) := hD
            refine lv_if_eq (tgt := 43) hx hb dX13_classWithFactory_37 (by decide) (fun c_12 => ?_) (fun c_12 => ?_)
            · have h_13 : iv 0 0 r_10 := iv_eq c_12 hr_10 (iv_k (by decide) : iv 0 0 0) (by decide)
              obtain ⟨z_14, ez_14⟩ : ∃ z : Int32, z = x5_12 + 1 := ⟨_, rfl⟩
              have hz_14 : iv 1 4 z_14 := iv_of ez_14 (iv_add h_6 (iv_k (by decide) : iv 1 1 1) (by decide))
              have tz_14 : z_14.toInt = x5_12.toInt + 1 := by rw [ez_14]; exact iv_addE h_6 (iv_k (by decide) : iv 1 1 1) (by decide)
              refine lv_iinc (v := z_14) (lv' := [(5, .int z_14), (4, .int x4_3), (0, .ref h0), (1, .int a), (2, .int b), (3, .int z)]) hx hb dX13_classWithFactory_43 hl (k := 0) rfl ez_14.symm (by decide) rfl (fun ls hl => ?_)
              refine lv_goto (tgt := 12) hx hb dX13_classWithFactory_46 (by decide) ?_
              exact ih12 _ (by rw [← hn12]; exact (iv_meas tz_14 h_6 (by decide))) z_14 rfl (iv_w hz_14 (by decide)) hsx4_12 hsx1_12 hsx3_12 (fun k hk => by { by_cases hq : k = x5_12.toNatClampNeg; (subst hq; exact (by have q9 := (fI_r_10.resolve_left (fun q8 => absurd q8.1 (by have := i32_0; have := i32_1; have := i32_2; have := i32_m1; have := (hsx1_12).1; have := (hsx1_12).2; have := (hsx3_12).1; have := (hsx3_12).2; have := (hsx4_12).1; have := (hsx4_12).2; have := (h_6).1; have := (h_6).2; have := (h_7).1; have := (h_7).2; have := (hz_8).1; have := (hz_8).2; have := (hz_9).1; have := (hz_9).2; have := (h_13).1; have := (h_13).2; have := (hz_14).1; have := (hz_14).2; omega))).2; rw [(show z_9.toNatClampNeg = 4 * x4_3.toNatClampNeg + x5_12.toNatClampNeg from (by have q1 : z_9.toNatClampNeg = z_9.toInt.toNat := rfl; have q1 : x4_3.toNatClampNeg = x4_3.toInt.toNat := rfl; have q1 : x5_12.toNatClampNeg = x5_12.toInt.toNat := rfl; have := i32_0; have := i32_1; have := i32_2; have := i32_m1; have := (hsx1_12).1; have := (hsx1_12).2; have := (hsx3_12).1; have := (hsx3_12).2; have := (hsx4_12).1; have := (hsx4_12).2; have := (h_6).1; have := (h_6).2; have := (h_7).1; have := (h_7).2; have := (hz_8).1; have := (hz_8).2; have := (hz_9).1; have := (hz_9).2; have := (h_13).1; have := (h_13).2; have := (hz_14).1; have := (hz_14).2; omega))] at q9; have f9 := (hCL _ (show x4_3.toNatClampNeg < 8 from (by have q1 : x4_3.toNatClampNeg = x4_3.toInt.toNat := rfl; have := i32_0; have := i32_1; have := i32_2; have := i32_m1; have := (hsx1_12).1; have := (hsx1_12).2; have := (hsx3_12).1; have := (hsx3_12).2; have := (hsx4_12).1; have := (hsx4_12).2; have := (h_6).1; have := (h_6).2; have := (h_7).1; have := (h_7).2; have := (hz_8).1; have := (hz_8).2; have := (hz_9).1; have := (hz_9).2; have := (h_13).1; have := (h_13).2; have := (hz_14).1; have := (hz_14).2; omega))).2.2.2.2.2.1 _ (show x5_12.toNatClampNeg < (wg 1 x4_3.toNatClampNeg).toNatClampNeg from (by have q5 := (hCL _ (show x4_3.toNatClampNeg < 8 from (by have q1 : x4_3.toNatClampNeg = x4_3.toInt.toNat := rfl; have := i32_0; have := i32_1; have := i32_2; have := i32_m1; have := (hsx1_12).1; have := (hsx1_12).2; have := (hsx3_12).1; have := (hsx3_12).2; have := (hsx4_12).1; have := (hsx4_12).2; have := (h_6).1; have := (h_6).2; have := (h_7).1; have := (h_7).2; have := (hz_8).1; have := (hz_8).2; have := (hz_9).1; have := (hz_9).2; have := (h_13).1; have := (h_13).2; have := (hz_14).1; have := (hz_14).2; omega))).2.2.2.1; rw [(rwt9 hRW ez_1 rfl)] at q5; have q6 : (wg 1 x4_3.toNatClampNeg).toNatClampNeg = (wg 1 x4_3.toNatClampNeg).toInt.toNat := rfl; have q1 : z_1.toNatClampNeg = z_1.toInt.toNat := rfl; have q1 : x5_12.toNatClampNeg = x5_12.toInt.toNat := rfl; have := i32_0; have := i32_1; have := i32_2; have := i32_m1; have := (hsx1_12).1; have := (hsx1_12).2; have := (hsx3_12).1; have := (hsx3_12).2; have := (hsx4_12).1; have := (hsx4_12).2; have := (h_6).1; have := (h_6).2; have := (h_7).1; have := (h_7).2; have := (hz_8).1; have := (hz_8).2; have := (hz_9).1; have := (hz_9).2; have := (h_13).1; have := (h_13).2; have := (hz_14).1; have := (hz_14).2; omega)); rw [rw9 hRW 14 rfl, rw9 hRW 18 rfl] at f9; exact fun q => q9 ⟨f9.1.trans q.1, f9.2.1.trans q.2⟩)); exact hno k (by have q1 : z_14.toNatClampNeg = z_14.toInt.toNat := rfl; have q1 : x5_12.toNatClampNeg = x5_12.toInt.toNat := rfl; have := i32_0; have := i32_1; have := i32_2; have := i32_m1; have := (hsx1_12).1; have := (hsx1_12).2; have := (hsx3_12).1; have := (hsx3_12).2; have := (hsx4_12).1; have := (hsx4_12).2; have := (h_6).1; have := (h_6).2; have := (h_7).1; have := (h_7).2; have := (hz_8).1; have := (hz_8).2; have := (hz_9).1; have := (hz_9).2; have := (h_13).1; have := (h_13).2; have := (hz_14).1; have := (hz_14).2; omega) }) _ _ _ hP hD hS (lv_sub hl [0, 1, 2, 3, 4, 5] rfl)
            · have h_15 : iv 1 1 r_10 := iv_neL c_12 hr_10 (by decide)
              refine lv_iload hx hb dX13_classWithFactory_40 (lv_at hl 1 rfl) ?_
              exact W.iret (v := x4_3) hx hb hr (fun t ht hW => ⟨⟨x4_3, (sg, gm, lg), rfl, ⟨(iv_w hsx4_12 (by decide)), ((wfR_h hsx4_12 hwf (owB_t (show x5_12.toNatClampNeg < (wg 1 x4_3.toNatClampNeg).toNatClampNeg from (by have q5 := (hCL _ (show x4_3.toNatClampNeg < 8 from (by have q1 : x4_3.toNatClampNeg = x4_3.toInt.toNat := rfl; have := i32_0; have := i32_1; have := i32_2; have := i32_m1; have := (hsx1_12).1; have := (hsx1_12).2; have := (hsx3_12).1; have := (hsx3_12).2; have := (hsx4_12).1; have := (hsx4_12).2; have := (h_6).1; have := (h_6).2; have := (h_7).1; have := (h_7).2; have := (hz_8).1; have := (hz_8).2; have := (hz_9).1; have := (hz_9).2; have := (h_15).1; have := (h_15).2; omega))).2.2.2.1; rw [(rwt9 hRW ez_1 rfl)] at q5; have q6 : (wg 1 x4_3.toNatClampNeg).toNatClampNeg = (wg 1 x4_3.toNatClampNeg).toInt.toNat := rfl; have q1 : z_1.toNatClampNeg = z_1.toInt.toNat := rfl; have q1 : x5_12.toNatClampNeg = x5_12.toInt.toNat := rfl; have := i32_0; have := i32_1; have := i32_2; have := i32_m1; have := (hsx1_12).1; have := (hsx1_12).2; have := (hsx3_12).1; have := (hsx3_12).2; have := (hsx4_12).1; have := (hsx4_12).2; have := (h_6).1; have := (h_6).2; have := (h_7).1; have := (h_7).2; have := (hz_8).1; have := (hz_8).2; have := (hz_9).1; have := (hz_9).2; have := (h_15).1; have := (h_15).2; omega)) (by have q9 := (fI_r_10.resolve_right (fun q8 => absurd q8.1 (by have := i32_0; have := i32_1; have := i32_2; have := i32_m1; have := (hsx1_12).1; have := (hsx1_12).2; have := (hsx3_12).1; have := (hsx3_12).2; have := (hsx4_12).1; have := (hsx4_12).2; have := (h_6).1; have := (h_6).2; have := (h_7).1; have := (h_7).2; have := (hz_8).1; have := (hz_8).2; have := (hz_9).1; have := (hz_9).2; have := (h_15).1; have := (h_15).2; omega))).2; rw [(show z_9.toNatClampNeg = 4 * x4_3.toNatClampNeg + x5_12.toNatClampNeg from (by have q1 : z_9.toNatClampNeg = z_9.toInt.toNat := rfl; have q1 : x4_3.toNatClampNeg = x4_3.toInt.toNat := rfl; have q1 : x5_12.toNatClampNeg = x5_12.toInt.toNat := rfl; have := i32_0; have := i32_1; have := i32_2; have := i32_m1; have := (hsx1_12).1; have := (hsx1_12).2; have := (hsx3_12).1; have := (hsx3_12).2; have := (hsx4_12).1; have := (hsx4_12).2; have := (h_6).1; have := (h_6).2; have := (h_7).1; have := (h_7).2; have := (hz_8).1; have := (hz_8).2; have := (hz_9).1; have := (hz_9).2; have := (h_15).1; have := (h_15).2; omega))] at q9; have f9 := (hCL _ (show x4_3.toNatClampNeg < 8 from (by have q1 : x4_3.toNatClampNeg = x4_3.toInt.toNat := rfl; have := i32_0; have := i32_1; have := i32_2; have := i32_m1; have := (hsx1_12).1; have := (hsx1_12).2; have := (hsx3_12).1; have := (hsx3_12).2; have := (hsx4_12).1; have := (hsx4_12).2; have := (h_6).1; have := (h_6).2; have := (h_7).1; have := (h_7).2; have := (hz_8).1; have := (hz_8).2; have := (hz_9).1; have := (hz_9).2; have := (h_15).1; have := (h_15).2; omega))).2.2.2.2.2.1 _ (show x5_12.toNatClampNeg < (wg 1 x4_3.toNatClampNeg).toNatClampNeg from (by have q5 := (hCL _ (show x4_3.toNatClampNeg < 8 from (by have q1 : x4_3.toNatClampNeg = x4_3.toInt.toNat := rfl; have := i32_0; have := i32_1; have := i32_2; have := i32_m1; have := (hsx1_12).1; have := (hsx1_12).2; have := (hsx3_12).1; have := (hsx3_12).2; have := (hsx4_12).1; have := (hsx4_12).2; have := (h_6).1; have := (h_6).2; have := (h_7).1; have := (h_7).2; have := (hz_8).1; have := (hz_8).2; have := (hz_9).1; have := (hz_9).2; have := (h_15).1; have := (h_15).2; omega))).2.2.2.1; rw [(rwt9 hRW ez_1 rfl)] at q5; have q6 : (wg 1 x4_3.toNatClampNeg).toNatClampNeg = (wg 1 x4_3.toNatClampNeg).toInt.toNat := rfl; have q1 : z_1.toNatClampNeg = z_1.toInt.toNat := rfl; have q1 : x5_12.toNatClampNeg = x5_12.toInt.toNat := rfl; have := i32_0; have := i32_1; have := i32_2; have := i32_m1; have := (hsx1_12).1; have := (hsx1_12).2; have := (hsx3_12).1; have := (hsx3_12).2; have := (hsx4_12).1; have := (hsx4_12).2; have := (h_6).1; have := (h_6).2; have := (h_7).1; have := (h_7).2; have := (hz_8).1; have := (hz_8).2; have := (hz_9).1; have := (hz_9).2; have := (h_15).1; have := (h_15).2; omega)); rw [rw9 hRW 14 rfl, rw9 hRW 18 rfl] at f9; exact ⟨f9.1.symm.trans q9.1, f9.2.1.symm.trans q9.2⟩))).symm), rfl⟩, by rw [ht]; exact hP, va_K.moved hW.alike hK, hD⟩, hS.F ht⟩) hS.2.2 dX13_classWithFactory_42
      refine lv_iload hx hb dX13_classWithFactory_3 (lv_at hl 0 rfl) ?_
      refine lv_iconst (v := (-1)) hx hb dX13_classWithFactory_5 (by decide) ?_
      refine lv_icmp_eq (tgt := 61) hx hb dX13_classWithFactory_6 (by decide) (fun c_16 => ?_) (fun c_16 => ?_)
      · have h_17 : iv (-1) (-1) x4_3 := iv_eq c_16 hx4_3 (iv_k (by decide) : iv (-1) (-1) (-1)) (by decide)
        refine lv_iconst (v := (-1)) hx hb dX13_classWithFactory_61 (by decide) ?_
        exact W.iret (v := (-1)) hx hb hr (fun t ht hW => ⟨⟨(-1), (sg, gm, lg), rfl, ⟨(iv_w (iv_k (by decide) : iv (-1) (-1) (-1)) (by decide)), ((by rw [hwf, wfF_o (by have := i32_0; have := i32_1; have := i32_2; have := i32_m1; have := (hsx1_3).1; have := (hsx1_3).2; have := (hsx3_3).1; have := (hsx3_3).2; have := (h_17).1; have := (h_17).2; omega)]; rfl)), rfl⟩, by rw [ht]; exact hP, va_K.moved hW.alike hK, hD⟩, hS.F ht⟩) hS.2.2 dX13_classWithFactory_62
      · have h_18 : iv 0 7 x4_3 := iv_neL c_16 hx4_3 (by decide)
        refine lv_iconst (v := 0) hx hb dX13_classWithFactory_9 (by decide) ?_
        refine lv_istore (lv' := [(5, .int 0), (4, .int x4_3), (0, .ref h0), (1, .int a), (2, .int b), (3, .int z)]) hx hb dX13_classWithFactory_10 hl (by decide) rfl (fun ls hl => ?_)
        exact hj12 _ 0 rfl (iv_w (iv_k (by decide) : iv 0 0 0) (by decide)) h_18 hsx1_3 hsx3_3 (fun k hk => absurd hk (Nat.not_lt_zero _)) _ _ _ hP hD hS (lv_sub hl [0, 1, 2, 3, 4, 5] rfl)
  refine lv_iload_n hx hb dX13_classWithFactory_0 rfl (lv_at hl 1 rfl) ?_
  refine lv_istore (lv' := [(4, .int a), (0, .ref h0), (1, .int a), (2, .int b), (3, .int z)]) hx hb dX13_classWithFactory_1 hl (by decide) rfl (fun ls hl => ?_)
  exact hj3 _ a rfl hva hva hvz (wfR_0 hCL hRW hPR hva) _ _ _ hP hD hS (lv_sub hl [0, 1, 2, 3, 4] rfl)
end
section
theorem SR_l {rg : Nat → Nat → Int32} {x : Int32} {T : List Int} (h : SRq rg x T) (hx : x.toInt < 1000) : (rg 37 x.toNatClampNeg).toInt = (T.length : Int) ∧ (∀ i y, T[i]? = some y → (rg 38 ((rg 36 x.toNatClampNeg).toNatClampNeg + i)).toInt = y) := by
  rcases h.2.2 with q | q
  · exact q.2.2
  · omega
theorem SR_t {rg : Nat → Nat → Int32} {x : Int32} {T : List Int} (h : SRq rg x T) (hx : 1000 ≤ x.toInt) : (rg 31 (x.toInt - 1000).toNat).toInt = (T.length : Int) ∧ (∀ i y, T[i]? = some y → (rg 39 (24 * (x.toInt - 1000).toNat + i)).toInt = y) := by
  rcases h.2.2 with q | q
  · omega
  · exact q.2.2
theorem SR_v {rg : Nat → Nat → Int32} {x : Int32} {T : List Int} (h : SRq rg x T) : x.toInt ≤ 959 ∨ 1000 ≤ x.toInt := by
  rcases h.2.2 with q | q
  · exact Or.inl q.2.1
  · exact Or.inr q.1
theorem gd9 {α : Type} {T : List α} {i : Nat} {d : α} (h : i < T.length) : T[i]? = some ((T[i]?).getD d) := by rw [List.getElem?_eq_getElem h]; rfl
theorem l64_bm {i : Int} (h : -9223372036854775808 ≤ i ∧ i ≤ 9223372036854775807) : i.bmod (2 ^ 64) = i := by
  have e : ((2 : Nat) ^ 64) = 18446744073709551616 := by decide
  rw [e]
  unfold Int.bmod
  by_cases q : 0 ≤ i
  · have h2 : i % (18446744073709551616 : Nat) = i := Int.emod_eq_of_lt q (by omega)
    rw [h2, if_pos (by omega)]
  · have h2 : i % (18446744073709551616 : Nat) = i + 18446744073709551616 := by
      rw [← Int.add_emod_right]
      exact Int.emod_eq_of_lt (by omega) (by omega)
    rw [h2, if_neg (by omega)]; omega
theorem c64 (c : Int32) : c.toInt64.toInt = c.toInt := Int32.toInt_toInt64 c
theorem num_s {v z1 z2 z3 cc : Int64} {c : Int32} (e1 : z1 = 10 * v) (ec : cc = c.toInt64) (e2 : z2 = z1 + cc) (e3 : z3 = z2 - 48) (hv : 0 ≤ v.toInt) (hv2 : v.toInt ≤ 10000000000) (hc : -128 ≤ c.toInt) (hc2 : c.toInt ≤ 127) : z3.toInt = v.toInt * 10 + (c.toInt - 48) := by
  have a1 : z1.toInt = 10 * v.toInt := by rw [e1, Int64.toInt_mul, show (10 : Int64).toInt = 10 from by decide]; exact l64_bm (by omega)
  have a2 : z2.toInt = 10 * v.toInt + c.toInt := by rw [e2, Int64.toInt_add, a1, ec, c64]; exact l64_bm (by omega)
  rw [e3, Int64.toInt_sub, a2, show (48 : Int64).toInt = 48 from by decide]
  rw [show 10 * v.toInt + c.toInt - 48 = v.toInt * 10 + (c.toInt - 48) by omega]
  exact l64_bm (by omega)
theorem neg64 {v w : Int64} (e : w = -v) (hv : 0 ≤ v.toInt) : w.toInt = -v.toInt := by
  rw [e, Int64.toInt_neg]
  exact l64_bm (by have h1 := v.toInt_le; rw [show Int64.maxValue.toInt = 9223372036854775807 from by decide] at h1; omega)
/-- the digits that are left -/
def fr9 (T : List Int) : Nat := if ng9 T = true then 1 else 0
def DG9 (T : List Int) (k : Nat) (v : Int) : Prop := T.length - fr9 T ≤ 10 ∧ 0 < T.length - fr9 T ∧ fr9 T ≤ k ∧ k ≤ T.length ∧ dgF (T.drop (fr9 T)) 0 = dgF (T.drop k) v ∧ 0 ≤ v ∧ v < 10 ^ (k - fr9 T)
theorem ng_y {T : List Int} (h : (T[0]?).getD 0 = 45) (hl : 0 < T.length) : ng9 T = true := by
  cases T with
  | nil => exact absurd hl (Nat.lt_irrefl _)
  | cons a l => unfold ng9; exact decide_eq_true (by show some a = some 45; have : a = 45 := h; rw [this])
theorem ng_n {T : List Int} (h : ¬ ((T[0]?).getD 0 = 45 ∧ 0 < T.length)) : ng9 T = false := by
  cases T with
  | nil => rfl
  | cons a l => unfold ng9; exact decide_eq_false (fun q => h ⟨Option.some.inj q, Nat.zero_lt_succ _⟩)
theorem nuL_len {T : List Int} (h : ¬ (T.length - fr9 T ≤ 10 ∧ 0 < T.length - fr9 T)) : nuL T = none := by
  unfold nuL
  have e : (if ng9 T = true then T.drop 1 else T).length = T.length - fr9 T := by
    unfold fr9; split
    · rw [List.length_drop]
    · rfl
  rw [if_pos (by rw [e]; omega)]
theorem drp9 {T : List Int} : (if ng9 T = true then T.drop 1 else T) = T.drop (fr9 T) := by
  unfold fr9; split <;> rfl
theorem DG_0 {T : List Int} (h1 : T.length - fr9 T ≤ 10) (h2 : 0 < T.length - fr9 T) : DG9 T (fr9 T) 0 := ⟨h1, h2, Nat.le_refl _, by omega, rfl, Int.le_refl _, by rw [Nat.sub_self]; decide⟩
theorem DG_s {T : List Int} {k : Nat} {v : Int} (h : DG9 T k v) (hk : k < T.length) (hd : 48 ≤ (T[k]?).getD 0 ∧ (T[k]?).getD 0 ≤ 57) : DG9 T (k + 1) (v * 10 + ((T[k]?).getD 0 - 48)) := by
  obtain ⟨a, b, c, d, e, f, g⟩ := h
  refine ⟨a, b, by omega, by omega, ?_, by omega, ?_⟩
  · rw [e, dro9 (gd9 (d := 0) hk)]
    show (if _ then _ else _) = _
    rw [if_pos hd]
  · rw [show k + 1 - fr9 T = (k - fr9 T) + 1 by omega, Int.pow_succ]; omega
theorem DG_x {T : List Int} {k : Nat} {v : Int} (h : DG9 T k v) (hk : k < T.length) (hd : ¬ (48 ≤ (T[k]?).getD 0 ∧ (T[k]?).getD 0 ≤ 57)) : nuL T = none := by
  obtain ⟨a, b, c, d, e, f, g⟩ := h
  unfold nuL
  rw [drp9]
  split
  · rfl
  · rw [e, dro9 (gd9 (d := 0) hk), show dgF ((T[k]?).getD 0 :: T.drop (k + 1)) v = none from if_neg hd]
theorem DG_e {T : List Int} {k : Nat} {v : Int} (h : DG9 T k v) (hk : T.length ≤ k) : nuL T = if -2147483648 ≤ (if ng9 T = true then -v else v) ∧ (if ng9 T = true then -v else v) ≤ 2147483647 then some (if ng9 T = true then -v else v) else none := by
  obtain ⟨a, b, c, d, e, f, g⟩ := h
  unfold nuL
  rw [drp9, if_neg (by rw [List.length_drop]; omega), e, List.drop_eq_nil_of_le hk]
  rfl
theorem DG_b {T : List Int} {k : Nat} {v : Int} (h : DG9 T k v) : v < 10000000000 := by
  obtain ⟨a, b, c, d, e, f, g⟩ := h
  have h1 : (10 : Nat) ^ (k - fr9 T) ≤ 10 ^ 10 := Nat.pow_le_pow_right (by decide) (by omega)
  have h2 : (10 : Nat) ^ 10 = 10000000000 := by decide
  have h3 : ((10 : Int) ^ (k - fr9 T)) = ((10 ^ (k - fr9 T) : Nat) : Int) := by rw [Int.natCast_pow]; rfl
  omega
/-- as a word -/
def fdI : List Int → Int → Int
  | [], a => a
  | c :: l, a => fdI l (256 * a + c)
theorem wdT {T : List Int} (hT : ∀ x, x ∈ T → 1 ≤ x ∧ x ≤ 126) (hl : T.length < 8) (h : fdI T 0 = 1953658213) : T = [116, 114, 117, 101] := by
  match T, hT, hl, h with
  | [], _, _, h => exact absurd h (by decide)
  | [a], hT, _, h => have := hT a (by simp); have h : 256 * 0 + a = 1953658213 := h; omega
  | [a, b], hT, _, h => have := hT a (by simp); have := hT b (by simp); have h : 256 * (256 * 0 + a) + b = 1953658213 := h; omega
  | [a, b, c], hT, _, h => have := hT a (by simp); have := hT b (by simp); have := hT c (by simp); have h : 256 * (256 * (256 * 0 + a) + b) + c = 1953658213 := h; omega
  | [a, b, c, d], hT, _, h =>
    have := hT a (by simp); have := hT b (by simp); have := hT c (by simp); have := hT d (by simp)
    have h : 256 * (256 * (256 * (256 * 0 + a) + b) + c) + d = 1953658213 := h
    have e1 : a = 116 := by omega
    have e2 : b = 114 := by omega
    have e3 : c = 117 := by omega
    have e4 : d = 101 := by omega
    rw [e1, e2, e3, e4]
  | a :: b :: c :: d :: e :: l, hT, _, h =>
    have := hT a (by simp); have := hT b (by simp); have := hT c (by simp); have := hT d (by simp); have := hT e (by simp)
    have hb : ∀ (l : List Int) (v : Int), (∀ x, x ∈ l → 1 ≤ x ∧ x ≤ 126) → 4294967296 ≤ v → 4294967296 ≤ fdI l v := by
      intro l
      induction l with
      | nil => intro v _ h; exact h
      | cons x l ih => intro v hx h; exact ih _ (fun y hy => hx y (List.mem_cons_of_mem _ hy)) (by have := hx x List.mem_cons_self; omega)
    have h : fdI l (256 * (256 * (256 * (256 * (256 * 0 + a) + b) + c) + d) + e) = 1953658213 := h
    have := hb l _ (fun x hx => hT x (by simp [hx])) (show 4294967296 ≤ 256 * (256 * (256 * (256 * (256 * 0 + a) + b) + c) + d) + e by omega)
    omega
theorem wdF {T : List Int} (hT : ∀ x, x ∈ T → 1 ≤ x ∧ x ≤ 126) (hl : T.length < 8) (h : fdI T 0 = 439721161573) : T = [102, 97, 108, 115, 101] := by
  match T, hT, hl, h with
  | [], _, _, h => exact absurd h (by decide)
  | [a], hT, _, h => have := hT a (by simp); have h : 256 * 0 + a = 439721161573 := h; omega
  | [a, b], hT, _, h => have := hT a (by simp); have := hT b (by simp); have h : 256 * (256 * 0 + a) + b = 439721161573 := h; omega
  | [a, b, c], hT, _, h => have := hT a (by simp); have := hT b (by simp); have := hT c (by simp); have h : 256 * (256 * (256 * 0 + a) + b) + c = 439721161573 := h; omega
  | [a, b, c, d], hT, _, h => have := hT a (by simp); have := hT b (by simp); have := hT c (by simp); have := hT d (by simp); have h : 256 * (256 * (256 * (256 * 0 + a) + b) + c) + d = 439721161573 := h; omega
  | [a, b, c, d, e], hT, _, h =>
    have := hT a (by simp); have := hT b (by simp); have := hT c (by simp); have := hT d (by simp); have := hT e (by simp)
    have h : 256 * (256 * (256 * (256 * (256 * 0 + a) + b) + c) + d) + e = 439721161573 := h
    have e1 : a = 102 := by omega
    have e2 : b = 97 := by omega
    have e3 : c = 108 := by omega
    have e4 : d = 115 := by omega
    have e5 : e = 101 := by omega
    rw [e1, e2, e3, e4, e5]
  | a :: b :: c :: d :: e :: f :: l, hT, _, h =>
    have := hT a (by simp); have := hT b (by simp); have := hT c (by simp); have := hT d (by simp); have := hT e (by simp); have := hT f (by simp)
    have hb : ∀ (l : List Int) (v : Int), (∀ x, x ∈ l → 1 ≤ x ∧ x ≤ 126) → 1099511627776 ≤ v → 1099511627776 ≤ fdI l v := by
      intro l
      induction l with
      | nil => intro v _ h; exact h
      | cons x l ih => intro v hx h; exact ih _ (fun y hy => hx y (List.mem_cons_of_mem _ hy)) (by have := hx x List.mem_cons_self; omega)
    have h : fdI l (256 * (256 * (256 * (256 * (256 * (256 * 0 + a) + b) + c) + d) + e) + f) = 439721161573 := h
    have := hb l _ (fun x hx => hT x (by simp [hx])) (show 1099511627776 ≤ 256 * (256 * (256 * (256 * (256 * (256 * 0 + a) + b) + c) + d) + e) + f by omega)
    omega
abbrev isq (T : List Int) (w : Int) : Prop := 0 < T.length ∧ T.length < 8 ∧ fdI T 0 = w
theorem tr_t {T : List Int} (hT : ∀ x, x ∈ T → 1 ≤ x ∧ x ≤ 126) (h : isq T 1953658213) : trL T = 1 := by rw [wdT hT h.2.1 h.2.2]; decide
theorem tr_f {T : List Int} (hT : ∀ x, x ∈ T → 1 ≤ x ∧ x ≤ 126) (h : isq T 439721161573) : trL T = 0 := by rw [wdF hT h.2.1 h.2.2]; decide
theorem tr_n {T : List Int} (h1 : ¬ isq T 1953658213) (h2 : ¬ isq T 439721161573) : trL T = -1 := by
  unfold trL
  rw [if_neg (fun q => h1 (by rw [q]; decide)), if_neg (fun q => h2 (by rw [q]; decide))]
theorem fdI_s {T : List Int} {k : Nat} {v : Int} (hk : k < T.length) : fdI (T.drop k) v = fdI (T.drop (k + 1)) (256 * v + (T[k]?).getD 0) := by rw [dro9 (gd9 (d := 0) hk)]; rfl
theorem p256 {v : Int} {k : Nat} (h : v < 256 ^ k) (hk : k ≤ 6) : v < 2 ^ 55 := by
  have h1 : (256 : Nat) ^ k ≤ 256 ^ 6 := Nat.pow_le_pow_right (by decide) hk
  have h3 : ((256 : Int) ^ k) = ((256 ^ k : Nat) : Int) := by rw [Int.natCast_pow]; rfl
  have h4 : (256 : Nat) ^ 6 = 281474976710656 := by decide
  have h5 : (2 : Int) ^ 55 = 36028797018963968 := by decide
  omega
theorem p256s {v c : Int} {k : Nat} (h : v < 256 ^ k) (hc : c ≤ 126) : 256 * v + c < 256 ^ (k + 1) := by rw [Int.pow_succ]; omega
end
section
set_option maxHeartbeats 4000000 in
set_option maxRecDepth 100000 in
theorem f_length9 (l : Launch) (dC : Nat → ClassId) (dI : Nat → Nat → Nat) (h0 : Nat) (ad : Nat → Nat) (cid : Nat → ClassId) (sg : Nat → Int32) (gm : Nat → Nat → Int32) (lg : Nat → Nat → Int64) (x : Int32) (rg : Nat → Nat → Int32) (T9 : List Int) (hI : MI sg gm) (hvx : iv 0 1079 x) (hRW : rt9 gm = rg) (hT : SRq rg x T9) : MMi l dC dI yX13_length wm_X13_length ({ frames := 0, cells := 0, slots := 0, locals := 0 }) h0 ad cid [.int x] sg gm lg (fun r v => (iv 0 24 r) ∧ (r.toInt = (T9.length : Int)) ∧ v = (sg, gm, lg)) := by
  intro sz
  refine Met.ofW (cc := cX13_length) (maxL := 2) (ret := (some .int)) (by decide) rfl ?_
  intro p e s m args below meth c s₁ B hml hv
  obtain ⟨rfl, hsz, hP, hK, hD0⟩ := hv
  have hx := B.exec
  have hb := B.bytes
  have hr := B.returns
  have hts := atoms_spec (ws := wm_X13_length) B.pre
  have htb := fun (w : Cond) (h : w ∈ tb) => hts w (List.mem_cons_of_mem _ h)
  have hown : s.vm.findClass RX13 = some m.cls := findClass_of_methodNamed B.named
  have hlocks := B.notSynchronized
  subst hsz
  have hD := hD0.self (sz := s.heap.size)
  generalize hAe : va_A (mW h0 ad cid sg gm lg) s.heap.size = A at hD ⊢
  have hA : ∀ q : Nat, s.heap.size ≤ q → A q := fun q h => by rw [← hAe]; exact Or.inr h
  have hS : va_S A s.heap s.heap [] := va_S.rf
  have hl := lv_entry ([.ref h0, .int x]) (n := 2) (Nat.le_of_ble_eq_true rfl)
  rw [lg_entry_eq]
  generalize (lg_sl ([.ref h0, .int x]) ++ List.replicate (2 - (lg_sl ([.ref h0, .int x])).length) Slot.unset).toArray = ls at hl ⊢
  have hl : lv_has ls 2 [(0, .ref h0), (1, .int x)] := hl
  refine lv_iload_n hx hb dX13_length_0 rfl (lv_at hl 1 rfl) ?_
  refine lv_sipush (v := 1000) hx hb dX13_length_1 (by decide) ?_
  refine lv_icmp_ge (tgt := 16) hx hb dX13_length_4 (by decide) (fun c_1 => ?_) (fun c_1 => ?_)
  · have h_2 : iv 1000 1079 x := iv_leR c_1 (iv_k (by decide) : iv 1000 1000 1000) hvx (by decide)
    refine lv_aload_n hx hb dX13_length_16 rfl (lv_at hl 0 rfl) ?_
    refine mr_get (v := .ref (ad 31)) hx hb htb inX13 hown hK hP 31 (by decide) (htb _ kw_187) rfl dX13_length_17 ?_
    refine lv_iload_n hx hb dX13_length_20 rfl (lv_at hl 1 rfl) ?_
    refine lv_sipush (v := 1000) hx hb dX13_length_21 (by decide) ?_
    refine lv_isub hx hb dX13_length_24 ?_
    refine lv_topi (fun z_3 ez_3 => ?_)
    have hz_3 : iv 0 79 z_3 := iv_of ez_3 (iv_sub h_2 (iv_k (by decide) : iv 1000 1000 1000) (by decide))
    have tz_3 : z_3.toInt = (x : Int32).toInt - 1000 := by rw [ez_3]; exact iv_subE h_2 (iv_k (by decide) : iv 1000 1000 1000) (by decide)
    refine mr_iald hx hb hK hP 24 (k := 31) rfl rfl rfl (show vp_in z_3 80 from (iv_in hz_3 (by decide))) dX13_length_25 ?_
    refine lv_topi (fun z_4 ez_4 => ?_)
    have hz_4 : iv 0 24 z_4 := iv_of ez_4 (MI_a hI 31 hz_3 (by decide))
    exact W.iret (v := z_4) hx hb hr (fun t ht hW => ⟨⟨z_4, (sg, gm, lg), rfl, ⟨hz_4, ((by have q9 := (SR_t hT (by have := i32_0; have := i32_1; have := i32_2; have := i32_m1; have := (h_2).1; have := (h_2).2; have := (hz_3).1; have := (hz_3).2; have := (hz_4).1; have := (hz_4).2; omega)).1; rw [show (x.toInt - 1000).toNat = z_3.toNatClampNeg from (by have q1 : z_3.toNatClampNeg = z_3.toInt.toNat := rfl; have := i32_0; have := i32_1; have := i32_2; have := i32_m1; have := (h_2).1; have := (h_2).2; have := (hz_3).1; have := (hz_3).2; have := (hz_4).1; have := (hz_4).2; omega), (rwt9 hRW ez_4 rfl)] at q9; exact q9)), rfl⟩, by rw [ht]; exact hP, va_K.moved hW.alike hK, hD⟩, hS.F ht⟩) hS.2.2 dX13_length_26
  · have h_5 : iv 0 999 x := iv_ltL (i32_lt c_1) hvx (iv_k (by decide) : iv 1000 1000 1000) (by decide)
    have hs7 : iv 0 959 x := ⟨(h_5).1, by have := SR_v hT; have := (h_5).2; omega⟩
    refine lv_aload_n hx hb dX13_length_7 rfl (lv_at hl 0 rfl) ?_
    refine mr_get (v := .ref (ad 37)) hx hb htb inX13 hown hK hP 37 (by decide) (htb _ kw_193) rfl dX13_length_8 ?_
    refine lv_iload_n hx hb dX13_length_11 rfl (lv_at hl 1 rfl) ?_
    refine mr_iald hx hb hK hP 30 (k := 37) rfl rfl rfl (show vp_in x 960 from (iv_in hs7 (by decide))) dX13_length_12 ?_
    refine lv_topi (fun z_6 ez_6 => ?_)
    have hz_6 : iv 0 24 z_6 := iv_of ez_6 (MI_a hI 37 hs7 (by decide))
    refine lv_goto (tgt := 26) hx hb dX13_length_13 (by decide) ?_
    exact W.iret (v := z_6) hx hb hr (fun t ht hW => ⟨⟨z_6, (sg, gm, lg), rfl, ⟨hz_6, ((by have q9 := (SR_l hT (by have := i32_0; have := i32_1; have := i32_2; have := i32_m1; have := (hs7).1; have := (hs7).2; have := (hz_6).1; have := (hz_6).2; omega)).1; rw [(rwt9 hRW ez_6 rfl)] at q9; exact q9)), rfl⟩, by rw [ht]; exact hP, va_K.moved hW.alike hK, hD⟩, hS.F ht⟩) hS.2.2 dX13_length_26

set_option maxHeartbeats 4000000 in
set_option maxRecDepth 100000 in
theorem f_sign9 (l : Launch) (dC : Nat → ClassId) (dI : Nat → Nat → Nat) (h0 : Nat) (ad : Nat → Nat) (cid : Nat → ClassId) (sg : Nat → Int32) (gm : Nat → Nat → Int32) (lg : Nat → Nat → Int64) (x : Int32) (y : Int32) (rg : Nat → Nat → Int32) (T9 : List Int) (hI : MI sg gm) (hvx : iv 0 1079 x) (hvy : iv 0 23 y) (hRW : rt9 gm = rg) (hT : SRq rg x T9) (hy : y.toInt < (T9.length : Int)) : MMi l dC dI yX13_sign wm_X13_sign ({ frames := 0, cells := 0, slots := 0, locals := 0 }) h0 ad cid [.int x, .int y] sg gm lg (fun r v => (iv (-128) 127 r) ∧ (r.toInt = (T9[y.toNatClampNeg]?).getD 0) ∧ v = (sg, gm, lg)) := by
  intro sz
  refine Met.ofW (cc := cX13_sign) (maxL := 3) (ret := (some .int)) (by decide) rfl ?_
  intro p e s m args below meth c s₁ B hml hv
  obtain ⟨rfl, hsz, hP, hK, hD0⟩ := hv
  have hx := B.exec
  have hb := B.bytes
  have hr := B.returns
  have hts := atoms_spec (ws := wm_X13_sign) B.pre
  have htb := fun (w : Cond) (h : w ∈ tb) => hts w (List.mem_cons_of_mem _ h)
  have hown : s.vm.findClass RX13 = some m.cls := findClass_of_methodNamed B.named
  have hlocks := B.notSynchronized
  subst hsz
  have hD := hD0.self (sz := s.heap.size)
  generalize hAe : va_A (mW h0 ad cid sg gm lg) s.heap.size = A at hD ⊢
  have hA : ∀ q : Nat, s.heap.size ≤ q → A q := fun q h => by rw [← hAe]; exact Or.inr h
  have hS : va_S A s.heap s.heap [] := va_S.rf
  have hl := lv_entry ([.ref h0, .int x, .int y]) (n := 3) (Nat.le_of_ble_eq_true rfl)
  rw [lg_entry_eq]
  generalize (lg_sl ([.ref h0, .int x, .int y]) ++ List.replicate (3 - (lg_sl ([.ref h0, .int x, .int y])).length) Slot.unset).toArray = ls at hl ⊢
  have hl : lv_has ls 3 [(0, .ref h0), (1, .int x), (2, .int y)] := hl
  refine lv_iload_n hx hb dX13_sign_0 rfl (lv_at hl 1 rfl) ?_
  refine lv_sipush (v := 1000) hx hb dX13_sign_1 (by decide) ?_
  refine lv_icmp_ge (tgt := 23) hx hb dX13_sign_4 (by decide) (fun c_1 => ?_) (fun c_1 => ?_)
  · have h_2 : iv 1000 1079 x := iv_leR c_1 (iv_k (by decide) : iv 1000 1000 1000) hvx (by decide)
    refine lv_aload_n hx hb dX13_sign_23 rfl (lv_at hl 0 rfl) ?_
    refine mr_get (v := .ref (ad 39)) hx hb htb inX13 hown hK hP 39 (by decide) (htb _ kw_195) rfl dX13_sign_24 ?_
    refine lv_bipush (v := 24) hx hb dX13_sign_27 (by decide) ?_
    refine lv_iload_n hx hb dX13_sign_29 rfl (lv_at hl 1 rfl) ?_
    refine lv_sipush (v := 1000) hx hb dX13_sign_30 (by decide) ?_
    refine lv_isub hx hb dX13_sign_33 ?_
    refine lv_topi (fun z_3 ez_3 => ?_)
    have hz_3 : iv 0 79 z_3 := iv_of ez_3 (iv_sub h_2 (iv_k (by decide) : iv 1000 1000 1000) (by decide))
    have tz_3 : z_3.toInt = (x : Int32).toInt - 1000 := by rw [ez_3]; exact iv_subE h_2 (iv_k (by decide) : iv 1000 1000 1000) (by decide)
    refine lv_imul hx hb dX13_sign_34 ?_
    refine lv_topi (fun z_4 ez_4 => ?_)
    have hz_4 : iv 0 1896 z_4 := iv_of ez_4 (iv_mul (iv_k (by decide) : iv 24 24 24) hz_3 (by decide))
    have tz_4 : z_4.toInt = 24 * (z_3 : Int32).toInt := by rw [ez_4]; exact iv_mulE (iv_k (by decide) : iv 24 24 24) hz_3 (by decide)
    refine lv_iload_n hx hb dX13_sign_35 rfl (lv_at hl 2 rfl) ?_
    refine lv_iadd hx hb dX13_sign_36 ?_
    refine lv_topi (fun z_5 ez_5 => ?_)
    have hz_5 : iv 0 1919 z_5 := iv_of ez_5 (iv_add hz_4 hvy (by decide))
    have tz_5 : z_5.toInt = (z_4 : Int32).toInt + (y : Int32).toInt := by rw [ez_5]; exact iv_addE hz_4 hvy (by decide)
    refine mr_bald hx hb hK hP 32 (k := 39) rfl rfl rfl (show vp_in z_5 1920 from (iv_in hz_5 (by decide))) dX13_sign_37 ?_
    refine lv_topi (fun z_6 ez_6 => ?_)
    have hz_6 : iv (-128) 127 z_6 := iv_of ez_6 (MI_a hI 39 hz_5 (by decide))
    exact W.iret (v := z_6) hx hb hr (fun t ht hW => ⟨⟨z_6, (sg, gm, lg), rfl, ⟨hz_6, ((by have q9 := (SR_t hT (by have := i32_0; have := i32_1; have := i32_2; have := i32_m1; have := (h_2).1; have := (h_2).2; have := (hvy).1; have := (hvy).2; have := (hz_3).1; have := (hz_3).2; have := (hz_4).1; have := (hz_4).2; have := (hz_5).1; have := (hz_5).2; have := (hz_6).1; have := (hz_6).2; omega)).2 y.toNatClampNeg _ (gd9 (d := 0) (show y.toNatClampNeg < T9.length from (by have q1 : y.toNatClampNeg = y.toInt.toNat := rfl; have := i32_0; have := i32_1; have := i32_2; have := i32_m1; have := (h_2).1; have := (h_2).2; have := (hvy).1; have := (hvy).2; have := (hz_3).1; have := (hz_3).2; have := (hz_4).1; have := (hz_4).2; have := (hz_5).1; have := (hz_5).2; have := (hz_6).1; have := (hz_6).2; have := hy; omega))); rw [show 24 * (x.toInt - 1000).toNat + y.toNatClampNeg = z_5.toNatClampNeg from (by have q1 : z_5.toNatClampNeg = z_5.toInt.toNat := rfl; have q1 : z_3.toNatClampNeg = z_3.toInt.toNat := rfl; have q1 : y.toNatClampNeg = y.toInt.toNat := rfl; have := i32_0; have := i32_1; have := i32_2; have := i32_m1; have := (h_2).1; have := (h_2).2; have := (hvy).1; have := (hvy).2; have := (hz_3).1; have := (hz_3).2; have := (hz_4).1; have := (hz_4).2; have := (hz_5).1; have := (hz_5).2; have := (hz_6).1; have := (hz_6).2; omega), (rwt9 hRW ez_6 rfl)] at q9; exact q9)), rfl⟩, by rw [ht]; exact hP, va_K.moved hW.alike hK, hD⟩, hS.F ht⟩) hS.2.2 dX13_sign_38
  · have h_7 : iv 0 999 x := iv_ltL (i32_lt c_1) hvx (iv_k (by decide) : iv 1000 1000 1000) (by decide)
    have hs7 : iv 0 959 x := ⟨(h_7).1, by have := SR_v hT; have := (h_7).2; omega⟩
    refine lv_aload_n hx hb dX13_sign_7 rfl (lv_at hl 0 rfl) ?_
    refine mr_get (v := .ref (ad 38)) hx hb htb inX13 hown hK hP 38 (by decide) (htb _ kw_194) rfl dX13_sign_8 ?_
    refine lv_aload_n hx hb dX13_sign_11 rfl (lv_at hl 0 rfl) ?_
    refine mr_get (v := .ref (ad 36)) hx hb htb inX13 hown hK hP 36 (by decide) (htb _ kw_192) rfl dX13_sign_12 ?_
    refine lv_iload_n hx hb dX13_sign_15 rfl (lv_at hl 1 rfl) ?_
    refine mr_iald hx hb hK hP 29 (k := 36) rfl rfl rfl (show vp_in x 960 from (iv_in hs7 (by decide))) dX13_sign_16 ?_
    refine lv_topi (fun z_8 ez_8 => ?_)
    have hz_8 : iv 0 1201 z_8 := iv_of ez_8 (MI_a hI 36 hs7 (by decide))
    refine lv_iload_n hx hb dX13_sign_17 rfl (lv_at hl 2 rfl) ?_
    refine lv_iadd hx hb dX13_sign_18 ?_
    refine lv_topi (fun z_9 ez_9 => ?_)
    have hz_9 : iv 0 1224 z_9 := iv_of ez_9 (iv_add hz_8 hvy (by decide))
    have tz_9 : z_9.toInt = (z_8 : Int32).toInt + (y : Int32).toInt := by rw [ez_9]; exact iv_addE hz_8 hvy (by decide)
    refine mr_bald hx hb hK hP 31 (k := 38) rfl rfl rfl (show vp_in z_9 2000 from (iv_in hz_9 (by decide))) dX13_sign_19 ?_
    refine lv_topi (fun z_10 ez_10 => ?_)
    have hz_10 : iv (-128) 127 z_10 := iv_of ez_10 (MI_a hI 38 hz_9 (by decide))
    refine lv_goto (tgt := 38) hx hb dX13_sign_20 (by decide) ?_
    exact W.iret (v := z_10) hx hb hr (fun t ht hW => ⟨⟨z_10, (sg, gm, lg), rfl, ⟨hz_10, ((by have q9 := (SR_l hT (by have := i32_0; have := i32_1; have := i32_2; have := i32_m1; have := (hs7).1; have := (hs7).2; have := (hvy).1; have := (hvy).2; have := (hz_8).1; have := (hz_8).2; have := (hz_9).1; have := (hz_9).2; have := (hz_10).1; have := (hz_10).2; omega)).2 y.toNatClampNeg _ (gd9 (d := 0) (show y.toNatClampNeg < T9.length from (by have q1 : y.toNatClampNeg = y.toInt.toNat := rfl; have := i32_0; have := i32_1; have := i32_2; have := i32_m1; have := (hs7).1; have := (hs7).2; have := (hvy).1; have := (hvy).2; have := (hz_8).1; have := (hz_8).2; have := (hz_9).1; have := (hz_9).2; have := (hz_10).1; have := (hz_10).2; have := hy; omega))); rw [show rg 36 x.toNatClampNeg = z_8 from (rwt9 hRW ez_8 rfl), show z_8.toNatClampNeg + y.toNatClampNeg = z_9.toNatClampNeg from (by have q1 : z_9.toNatClampNeg = z_9.toInt.toNat := rfl; have q1 : z_8.toNatClampNeg = z_8.toInt.toNat := rfl; have q1 : y.toNatClampNeg = y.toInt.toNat := rfl; have := i32_0; have := i32_1; have := i32_2; have := i32_m1; have := (hs7).1; have := (hs7).2; have := (hvy).1; have := (hvy).2; have := (hz_8).1; have := (hz_8).2; have := (hz_9).1; have := (hz_9).2; have := (hz_10).1; have := (hz_10).2; omega), (rwt9 hRW ez_10 rfl)] at q9; exact q9)), rfl⟩, by rw [ht]; exact hP, va_K.moved hW.alike hK, hD⟩, hS.F ht⟩) hS.2.2 dX13_sign_38

set_option maxHeartbeats 4000000 in
set_option maxRecDepth 100000 in
theorem f_numberIn9 (l : Launch) (dC : Nat → ClassId) (dI : Nat → Nat → Nat) (h0 : Nat) (ad : Nat → Nat) (cid : Nat → ClassId) (sg : Nat → Int32) (gm : Nat → Nat → Int32) (lg : Nat → Nat → Int64) (x : Int32) (rg : Nat → Nat → Int32) (T9 : List Int) (hI : MI sg gm) (hvx : iv 0 1079 x) (hRW : rt9 gm = rg) (hT : SRq rg x T9) : MMl l dC dI yX13_numberIn wm_X13_numberIn ({ frames := 1, cells := 0, slots := 0, locals := 22 }) h0 ad cid [.int x] sg gm lg (fun r v => (r.toInt = (nuL T9).getD (-9000000000000000000)) ∧ v = (sg, gm, lg)) := by
  intro sz
  refine Met.ofW (cc := cX13_numberIn) (maxL := 8) (ret := (some .long)) (by decide) rfl ?_
  intro p e s m args below meth c s₁ B hml hv
  obtain ⟨rfl, hsz, hP, hK, hD0⟩ := hv
  have hx := B.exec
  have hb := B.bytes
  have hr := B.returns
  have hts := atoms_spec (ws := wm_X13_numberIn) B.pre
  have htb := fun (w : Cond) (h : w ∈ tb) => hts w (List.mem_cons_of_mem _ h)
  have hown : s.vm.findClass RX13 = some m.cls := findClass_of_methodNamed B.named
  have hlocks := B.notSynchronized
  subst hsz
  have hD := hD0.self (sz := s.heap.size)
  generalize hAe : va_A (mW h0 ad cid sg gm lg) s.heap.size = A at hD ⊢
  have hA : ∀ q : Nat, s.heap.size ≤ q → A q := fun q h => by rw [← hAe]; exact Or.inr h
  have hS : va_S A s.heap s.heap [] := va_S.rf
  have hl := lv_entry ([.ref h0, .int x]) (n := 8) (Nat.le_of_ble_eq_true rfl)
  rw [lg_entry_eq]
  generalize (lg_sl ([.ref h0, .int x]) ++ List.replicate (8 - (lg_sl ([.ref h0, .int x])).length) Slot.unset).toArray = ls at hl ⊢
  have hl : lv_has ls 8 [(0, .ref h0), (1, .int x)] := hl
  have hj169 : ∀ (x5_169 : Int64) (x7_169 : Int32) (x4_169 : Int32) (x3_169 : Int32) (x2_169 : Int32) (y0_169 : Int64) (_ : iv 0 24 x7_169) (_ : iv 0 1 x4_169) (_ : iv 0 1 x3_169) (_ : iv 0 24 x2_169) (_ : iv 0 1079 x) (_ : (y0_169 : Int64).toInt = (nuL T9).getD (-9000000000000000000)) (H : Heap) (locs : List Loc) (ls : Array Slot), va_P (dC, dI) vwCl (mW h0 ad cid sg gm lg) H → va_D A (mW h0 ad cid sg gm lg) → va_S A s.heap H locs → lv_has ls 8 [(5, .long x5_169), (7, .int x7_169), (4, .int x4_169), (3, .int x3_169), (2, .int x2_169), (0, .ref h0), (1, .int x)] → W p l e (headSpec wm_X13_numberIn ({ frames := 1, cells := 0, slots := 0, locals := 22 })).room s m ([.ref h0, .int x] : List Value).toArray below meth c H locs 0 0 (MQ below (va_Ql (fun r v => (r.toInt = (nuL T9).getD (-9000000000000000000)) ∧ v = (sg, gm, lg)) (MB dC dI h0 ad cid A) A) ([.ref h0, .int x] : List Value).toArray s 0 0 A) (F0 m 169 ls [.long y0_169]) := by
    intro x5_169 x7_169 x4_169 x3_169 x2_169 y0_169 hx7_169 hx4_169 hx3_169 hx2_169 hsx1_169 h169 H locs ls hP hD hS hl
    exact W.lret (v := y0_169) hx hb hr (fun t ht hW => ⟨⟨y0_169, (sg, gm, lg), rfl, ⟨(h169), rfl⟩, by rw [ht]; exact hP, va_K.moved hW.alike hK, hD⟩, hS.F ht⟩) hS.2.2 dX13_numberIn_169
  have hj166 : ∀ (x5_166 : Int64) (x7_166 : Int32) (x4_166 : Int32) (x3_166 : Int32) (x2_166 : Int32) (_ : iv 0 24 x7_166) (_ : iv 0 1 x4_166) (_ : iv 0 1 x3_166) (_ : iv 0 24 x2_166) (_ : iv 0 1079 x) (_ : nuL T9 = none) (H : Heap) (locs : List Loc) (ls : Array Slot), va_P (dC, dI) vwCl (mW h0 ad cid sg gm lg) H → va_D A (mW h0 ad cid sg gm lg) → va_S A s.heap H locs → lv_has ls 8 [(5, .long x5_166), (7, .int x7_166), (4, .int x4_166), (3, .int x3_166), (2, .int x2_166), (0, .ref h0), (1, .int x)] → W p l e (headSpec wm_X13_numberIn ({ frames := 1, cells := 0, slots := 0, locals := 22 })).room s m ([.ref h0, .int x] : List Value).toArray below meth c H locs 0 0 (MQ below (va_Ql (fun r v => (r.toInt = (nuL T9).getD (-9000000000000000000)) ∧ v = (sg, gm, lg)) (MB dC dI h0 ad cid A) A) ([.ref h0, .int x] : List Value).toArray s 0 0 A) (F0 m 166 ls []) := by
    intro x5_166 x7_166 x4_166 x3_166 x2_166 hx7_166 hx4_166 hx3_166 hx2_166 hsx1_166 u166 H locs ls hP hD hS hl
    refine lv_ldc2 (own := RX13) (v := (-9000000000000000000)) hx hb hown (htb _ kw_1226) dX13_numberIn_166 ?_
    exact hj169 x5_166 x7_166 x4_166 x3_166 x2_166 (-9000000000000000000) hx7_166 hx4_166 hx3_166 hx2_166 hsx1_166 ((by rw [u166]; decide)) _ _ _ hP hD hS (lv_sub hl [0, 1, 2, 3, 4, 5, 6] rfl)
  have hj136 : ∀ (x7_136 : Int32) (x5_136 : Int64) (x4_136 : Int32) (x3_136 : Int32) (x2_136 : Int32) (y0_136 : Int64) (_ : iv 0 24 x7_136) (_ : iv 0 1 x4_136) (_ : iv 0 1 x3_136) (_ : iv 0 24 x2_136) (_ : iv 0 1079 x) (_ : (x4_136.toInt = 1 ∧ nuL T9 = (if -2147483648 ≤ (y0_136 : Int64).toInt ∧ (y0_136 : Int64).toInt ≤ 2147483647 then some (y0_136 : Int64).toInt else none)) ∨ (x4_136.toInt = 0 ∧ nuL T9 = none)) (H : Heap) (locs : List Loc) (ls : Array Slot), va_P (dC, dI) vwCl (mW h0 ad cid sg gm lg) H → va_D A (mW h0 ad cid sg gm lg) → va_S A s.heap H locs → lv_has ls 8 [(7, .int x7_136), (5, .long x5_136), (4, .int x4_136), (3, .int x3_136), (2, .int x2_136), (0, .ref h0), (1, .int x)] → W p l e (headSpec wm_X13_numberIn ({ frames := 1, cells := 0, slots := 0, locals := 22 })).room s m ([.ref h0, .int x] : List Value).toArray below meth c H locs 0 0 (MQ below (va_Ql (fun r v => (r.toInt = (nuL T9).getD (-9000000000000000000)) ∧ v = (sg, gm, lg)) (MB dC dI h0 ad cid A) A) ([.ref h0, .int x] : List Value).toArray s 0 0 A) (F0 m 136 ls [.long y0_136]) := by
    intro x7_136 x5_136 x4_136 x3_136 x2_136 y0_136 hx7_136 hx4_136 hx3_136 hx2_136 hsx1_136 h136 H locs ls hP hD hS hl
    refine lv_lstore (lv' := [(5, .long y0_136), (7, .int x7_136), (4, .int x4_136), (3, .int x3_136), (2, .int x2_136), (0, .ref h0), (1, .int x)]) hx hb dX13_numberIn_136 hl (by decide) rfl (fun ls hl => ?_)
    refine lv_iload hx hb dX13_numberIn_138 (lv_at hl 2 rfl) ?_
    refine lv_if_eq (tgt := 166) hx hb dX13_numberIn_140 (by decide) (fun c_1 => ?_) (fun c_1 => ?_)
    · have h_2 : iv 0 0 x4_136 := iv_eq c_1 hx4_136 (iv_k (by decide) : iv 0 0 0) (by decide)
      exact hj166 y0_136 x7_136 x4_136 x3_136 x2_136 hx7_136 (iv_w h_2 (by decide)) hx3_136 hx2_136 hsx1_136 ((by rcases h136 with q | q; (rw [q.2, if_neg (by have := i32_0; have := i32_1; have := i32_2; have := i32_m1; have := (hsx1_136).1; have := (hsx1_136).2; have := (hx7_136).1; have := (hx7_136).2; have := (h_2).1; have := (h_2).2; have := (hx3_136).1; have := (hx3_136).2; have := (hx2_136).1; have := (hx2_136).2; have := q.1; omega)]); (exact q.2))) _ _ _ hP hD hS (lv_sub hl [0, 1, 2, 3, 4, 5, 6] rfl)
    · have h_3 : iv 1 1 x4_136 := iv_neL c_1 hx4_136 (by decide)
      refine lv_lload hx hb dX13_numberIn_143 (lv_at hl 0 rfl) ?_
      refine lv_ldc2 (own := RX13) (v := (-2147483648)) hx hb hown (htb _ kw_1231) dX13_numberIn_145 ?_
      refine W.lcmp hx hb dX13_numberIn_148 ?_
      refine lv_topi (fun z_4 ez_4 => ?_)
      have hz_4 : iv (-1) 1 z_4 := iv_of ez_4 (iv_cmp _ _)
      have hl_z_4 := lg_tr7 ez_4
      rw [show ((-2147483648) : Int64).toInt = (-2147483648) from by decide] at hl_z_4
      refine lv_if_lt (tgt := 166) hx hb dX13_numberIn_149 (by decide) (fun c_5 => ?_) (fun c_5 => ?_)
      · have h_6 : iv (-1) (-1) z_4 := iv_ltL c_5 hz_4 (iv_k (by decide) : iv 0 0 0) (by decide)
        exact hj166 y0_136 x7_136 x4_136 x3_136 x2_136 hx7_136 (iv_w h_3 (by decide)) hx3_136 hx2_136 hsx1_136 ((by rcases h136 with q | q; (rw [q.2, if_neg (by have := i32_0; have := i32_1; have := i32_2; have := i32_m1; have := (hsx1_136).1; have := (hsx1_136).2; have := (hx7_136).1; have := (hx7_136).2; have := (h_3).1; have := (h_3).2; have := (hx3_136).1; have := (hx3_136).2; have := (hx2_136).1; have := (hx2_136).2; have := (h_6).1; have := (h_6).2; have := q.1; omega)]); (exact q.2))) _ _ _ hP hD hS (lv_sub hl [0, 1, 2, 3, 4, 5, 6] rfl)
      · have h_7 : iv 0 1 z_4 := iv_leR (i32_ge c_5) (iv_k (by decide) : iv 0 0 0) hz_4 (by decide)
        refine lv_lload hx hb dX13_numberIn_152 (lv_at hl 0 rfl) ?_
        refine lv_ldc2 (own := RX13) (v := 2147483647) hx hb hown (htb _ kw_1232) dX13_numberIn_154 ?_
        refine W.lcmp hx hb dX13_numberIn_157 ?_
        refine lv_topi (fun z_8 ez_8 => ?_)
        have hz_8 : iv (-1) 1 z_8 := iv_of ez_8 (iv_cmp _ _)
        have hl_z_8 := lg_tr7 ez_8
        rw [show (2147483647 : Int64).toInt = 2147483647 from by decide] at hl_z_8
        refine lv_if_gt (tgt := 166) hx hb dX13_numberIn_158 (by decide) (fun c_9 => ?_) (fun c_9 => ?_)
        · have h_10 : iv 1 1 z_8 := iv_ltR c_9 (iv_k (by decide) : iv 0 0 0) hz_8 (by decide)
          exact hj166 y0_136 x7_136 x4_136 x3_136 x2_136 hx7_136 (iv_w h_3 (by decide)) hx3_136 hx2_136 hsx1_136 ((by rcases h136 with q | q; (rw [q.2, if_neg (by have := i32_0; have := i32_1; have := i32_2; have := i32_m1; have := (hsx1_136).1; have := (hsx1_136).2; have := (hx7_136).1; have := (hx7_136).2; have := (h_3).1; have := (h_3).2; have := (hx3_136).1; have := (hx3_136).2; have := (hx2_136).1; have := (hx2_136).2; have := (h_7).1; have := (h_7).2; have := (h_10).1; have := (h_10).2; have := q.1; omega)]); (exact q.2))) _ _ _ hP hD hS (lv_sub hl [0, 1, 2, 3, 4, 5, 6] rfl)
        · have h_11 : iv (-1) 0 z_8 := iv_leL (i32_ge c_9) hz_8 (iv_k (by decide) : iv 0 0 0) (by decide)
          refine lv_lload hx hb dX13_numberIn_161 (lv_at hl 0 rfl) ?_
          refine lv_goto (tgt := 169) hx hb dX13_numberIn_163 (by decide) ?_
          exact hj169 y0_136 x7_136 x4_136 x3_136 x2_136 y0_136 hx7_136 (iv_w h_3 (by decide)) hx3_136 hx2_136 hsx1_136 ((by have q := h136.resolve_right (fun q => absurd q.1 (by have := i32_0; have := i32_1; have := i32_2; have := i32_m1; have := (hsx1_136).1; have := (hsx1_136).2; have := (hx7_136).1; have := (hx7_136).2; have := (h_3).1; have := (h_3).2; have := (hx3_136).1; have := (hx3_136).2; have := (hx2_136).1; have := (hx2_136).2; have := (h_7).1; have := (h_7).2; have := (h_11).1; have := (h_11).2; omega)); rw [q.2, if_pos (by have := i32_0; have := i32_1; have := i32_2; have := i32_m1; have := (hsx1_136).1; have := (hsx1_136).2; have := (hx7_136).1; have := (hx7_136).2; have := (h_3).1; have := (h_3).2; have := (hx3_136).1; have := (hx3_136).2; have := (hx2_136).1; have := (hx2_136).2; have := (h_7).1; have := (h_7).2; have := (h_11).1; have := (h_11).2; omega)]; rfl)) _ _ _ hP hD hS (lv_sub hl [0, 1, 2, 3, 4, 5, 6] rfl)
  have hj123 : ∀ (x7_123 : Int32) (x5_123 : Int64) (x4_123 : Int32) (x3_123 : Int32) (x2_123 : Int32) (_ : iv 0 24 x7_123) (_ : iv 0 1 x4_123) (_ : iv 0 1 x3_123) (_ : iv 0 24 x2_123) (_ : iv 0 1079 x) (_ : x3_123.toInt = (fr9 T9 : Int)) (_ : (x4_123.toInt = 1 ∧ DG9 T9 x7_123.toNatClampNeg x5_123.toInt ∧ T9.length ≤ x7_123.toNatClampNeg) ∨ (x4_123.toInt = 0 ∧ nuL T9 = none)) (H : Heap) (locs : List Loc) (ls : Array Slot), va_P (dC, dI) vwCl (mW h0 ad cid sg gm lg) H → va_D A (mW h0 ad cid sg gm lg) → va_S A s.heap H locs → lv_has ls 8 [(7, .int x7_123), (5, .long x5_123), (4, .int x4_123), (3, .int x3_123), (2, .int x2_123), (0, .ref h0), (1, .int x)] → W p l e (headSpec wm_X13_numberIn ({ frames := 1, cells := 0, slots := 0, locals := 22 })).room s m ([.ref h0, .int x] : List Value).toArray below meth c H locs 0 0 (MQ below (va_Ql (fun r v => (r.toInt = (nuL T9).getD (-9000000000000000000)) ∧ v = (sg, gm, lg)) (MB dC dI h0 ad cid A) A) ([.ref h0, .int x] : List Value).toArray s 0 0 A) (F0 m 123 ls []) := by
    intro x7_123 x5_123 x4_123 x3_123 x2_123 hx7_123 hx4_123 hx3_123 hx2_123 hsx1_123 h3 hE H locs ls hP hD hS hl
    refine lv_iload_n hx hb dX13_numberIn_123 rfl (lv_at hl 3 rfl) ?_
    refine lv_iconst (v := 1) hx hb dX13_numberIn_124 (by decide) ?_
    refine lv_icmp_ne (tgt := 134) hx hb dX13_numberIn_125 (by decide) (fun c_12 => ?_) (fun c_12 => ?_)
    · have h_13 : iv 0 0 x3_123 := iv_neH c_12 hx3_123 (by decide)
      refine lv_lload hx hb dX13_numberIn_134 (lv_at hl 1 rfl) ?_
      exact hj136 x7_123 x5_123 x4_123 x3_123 x2_123 x5_123 hx7_123 hx4_123 (iv_w h_13 (by decide)) hx2_123 hsx1_123 ((by rcases hE with q | q; (refine Or.inl ⟨q.1, ?_⟩; rw [DG_e q.2.1 q.2.2, if_neg (show ¬ ng9 T9 = true from (by rw [(show ng9 T9 = false from (by cases q : ng9 T9 with | false => rfl | true => (exfalso; have q3 := h3; unfold fr9 at q3; rw [q] at q3; have q3 : x3_123.toInt = (1 : Int) := q3; have := i32_0; have := i32_1; have := i32_2; have := i32_m1; have := (hsx1_123).1; have := (hsx1_123).2; have := (hx7_123).1; have := (hx7_123).2; have := (hx4_123).1; have := (hx4_123).2; have := (h_13).1; have := (h_13).2; have := (hx2_123).1; have := (hx2_123).2; omega)))]; decide))]); (exact Or.inr q))) _ _ _ hP hD hS (lv_sub hl [0, 1, 2, 3, 4, 5, 6] rfl)
    · have h_14 : iv 1 1 x3_123 := iv_eq c_12 hx3_123 (iv_k (by decide) : iv 1 1 1) (by decide)
      refine lv_lload hx hb dX13_numberIn_128 (lv_at hl 1 rfl) ?_
      refine lv_lneg hx hb dX13_numberIn_130 ?_
      refine lv_topl (fun z_15 ez_15 => ?_)
      refine lv_goto (tgt := 136) hx hb dX13_numberIn_131 (by decide) ?_
      exact hj136 x7_123 x5_123 x4_123 x3_123 x2_123 z_15 hx7_123 hx4_123 (iv_w h_14 (by decide)) hx2_123 hsx1_123 ((by rcases hE with q | q; (refine Or.inl ⟨q.1, ?_⟩; rw [DG_e q.2.1 q.2.2, if_pos (show ng9 T9 = true from (by cases q : ng9 T9 with | false => (exfalso; have q3 := h3; unfold fr9 at q3; rw [q] at q3; have q3 : x3_123.toInt = (0 : Int) := q3; have := i32_0; have := i32_1; have := i32_2; have := i32_m1; have := (hsx1_123).1; have := (hsx1_123).2; have := (hx7_123).1; have := (hx7_123).2; have := (hx4_123).1; have := (hx4_123).2; have := (h_14).1; have := (h_14).2; have := (hx2_123).1; have := (hx2_123).2; omega) | true => rfl)), neg64 ez_15 q.2.1.2.2.2.2.2.1]); (exact Or.inr q))) _ _ _ hP hD hS (lv_sub hl [0, 1, 2, 3, 4, 5, 6] rfl)
  have hj54 : ∀ (n : Nat) (x7_54 : Int32) (x5_54 : Int64) (x4_54 : Int32) (x3_54 : Int32) (x2_54 : Int32) (_ : (24 - x7_54.toInt).toNat = n) (_ : iv 0 24 x7_54) (_ : iv 0 1 x4_54) (_ : iv 0 1 x3_54) (_ : iv 0 24 x2_54) (_ : iv 0 1079 x) (_ : x2_54.toInt = (T9.length : Int)) (_ : x3_54.toInt = (fr9 T9 : Int)) (_ : (x4_54.toInt = 1 ∧ DG9 T9 x7_54.toNatClampNeg x5_54.toInt) ∨ (x4_54.toInt = 0 ∧ nuL T9 = none)) (H : Heap) (locs : List Loc) (ls : Array Slot), va_P (dC, dI) vwCl (mW h0 ad cid sg gm lg) H → va_D A (mW h0 ad cid sg gm lg) → va_S A s.heap H locs → lv_has ls 8 [(7, .int x7_54), (5, .long x5_54), (4, .int x4_54), (3, .int x3_54), (2, .int x2_54), (0, .ref h0), (1, .int x)] → W p l e (headSpec wm_X13_numberIn ({ frames := 1, cells := 0, slots := 0, locals := 22 })).room s m ([.ref h0, .int x] : List Value).toArray below meth c H locs 0 0 (MQ below (va_Ql (fun r v => (r.toInt = (nuL T9).getD (-9000000000000000000)) ∧ v = (sg, gm, lg)) (MB dC dI h0 ad cid A) A) ([.ref h0, .int x] : List Value).toArray s 0 0 A) (F0 m 54 ls []) := by
    intro n
    induction n using Nat.strongRecOn with
    | ind n ih54 =>
      intro x7_54 x5_54 x4_54 x3_54 x2_54 hn54 hx7_54 hx4_54 hx3_54 hx2_54 hsx1_54 h2 h3 hN H locs ls hP hD hS hl
      have hj94 : ∀ (y0_94 : Int32) (_ : iv 0 23 x7_54) (_ : iv 1 1 x4_54) (_ : iv 0 1 x3_54) (_ : iv 1 24 x2_54) (_ : iv 0 1079 x) (_ : iv 0 1 y0_94) (_ : x7_54.toInt < (T9.length : Int)) (_ : ((y0_94 : Int32).toInt = 1 ∧ 48 ≤ (T9[x7_54.toNatClampNeg]?).getD 0 ∧ (T9[x7_54.toNatClampNeg]?).getD 0 ≤ 57) ∨ ((y0_94 : Int32).toInt = 0 ∧ ¬ (48 ≤ (T9[x7_54.toNatClampNeg]?).getD 0 ∧ (T9[x7_54.toNatClampNeg]?).getD 0 ≤ 57))) (H : Heap) (locs : List Loc) (ls : Array Slot), va_P (dC, dI) vwCl (mW h0 ad cid sg gm lg) H → va_D A (mW h0 ad cid sg gm lg) → va_S A s.heap H locs → lv_has ls 8 [(7, .int x7_54), (5, .long x5_54), (4, .int x4_54), (3, .int x3_54), (2, .int x2_54), (0, .ref h0), (1, .int x)] → W p l e (headSpec wm_X13_numberIn ({ frames := 1, cells := 0, slots := 0, locals := 22 })).room s m ([.ref h0, .int x] : List Value).toArray below meth c H locs 0 0 (MQ below (va_Ql (fun r v => (r.toInt = (nuL T9).getD (-9000000000000000000)) ∧ v = (sg, gm, lg)) (MB dC dI h0 ad cid A) A) ([.ref h0, .int x] : List Value).toArray s 0 0 A) (F0 m 94 ls [.int y0_94]) := by
        intro y0_94 hsx7_94 hsx4_94 hsx3_94 hsx2_94 hsx1_94 hy0_94 hk7 h94 H locs ls hP hD hS hl
        refine lv_istore (lv' := [(4, .int y0_94), (7, .int x7_54), (5, .long x5_54), (3, .int x3_54), (2, .int x2_54), (0, .ref h0), (1, .int x)]) hx hb dX13_numberIn_94 hl (by decide) rfl (fun ls hl => ?_)
        refine lv_ldc2 (own := RX13) (v := 10) hx hb hown (htb _ kw_1230) dX13_numberIn_96 ?_
        refine lv_lload hx hb dX13_numberIn_99 (lv_at hl 2 rfl) ?_
        refine lv_lmul hx hb dX13_numberIn_101 ?_
        refine lv_topl (fun z_16 ez_16 => ?_)
        refine lv_aload_n hx hb dX13_numberIn_102 rfl (lv_at hl 5 rfl) ?_
        refine lv_iload_n hx hb dX13_numberIn_103 rfl (lv_at hl 6 rfl) ?_
        refine lv_iload hx hb dX13_numberIn_104 (lv_at hl 1 rfl) ?_
        refine mr_calli (rest := [.long z_16]) ⟨hx, hb, hml, hown, htb⟩ (f_sign9 l dC dI h0 ad cid sg gm lg x x7_54 rg T9 hI hsx1_94 hsx7_94 hRW hT hk7) (cwV 2 htb (gd_V kw_1236 kw_1237 kw_1238 kw_5 kw_1627) rfl rfl rfl (by decide +kernel) ⟨Nat.le_of_ble_eq_true rfl, Nat.le_of_ble_eq_true rfl⟩) rfl hl.1 rfl (Nat.le_of_ble_eq_true rfl) dX13_numberIn_106 ⟨Nat.zero_le _, Nat.zero_le _⟩ hK hP hD hS hA (fun r_17 u_18 H locs hw hP hD hS => ?_)
        obtain ⟨hr_17, fs_r_17, rfl⟩ := hw
        have hP : va_P (dC, dI) vwCl (mW h0 ad cid sg gm lg) H := hP
        have hD : va_D A (mW h0 ad cid sg gm lg) := hD
        refine lv_i2l (v := (r_17 : Int32).toInt64) hx hb dX13_numberIn_109 rfl ?_
        refine lv_topl (fun z_19 ez_19 => ?_)
        refine lv_ladd hx hb dX13_numberIn_110 ?_
        refine lv_topl (fun z_20 ez_20 => ?_)
        refine lv_ldc2 (own := RX13) (v := 48) hx hb hown (htb _ kw_890) dX13_numberIn_111 ?_
        refine lv_lsub hx hb dX13_numberIn_114 ?_
        refine lv_topl (fun z_21 ez_21 => ?_)
        refine lv_lstore (lv' := [(5, .long z_21), (4, .int y0_94), (7, .int x7_54), (3, .int x3_54), (2, .int x2_54), (0, .ref h0), (1, .int x)]) hx hb dX13_numberIn_115 hl (by decide) rfl (fun ls hl => ?_)
        obtain ⟨z_22, ez_22⟩ : ∃ z : Int32, z = x7_54 + 1 := ⟨_, rfl⟩
        have hz_22 : iv 1 24 z_22 := iv_of ez_22 (iv_add hsx7_94 (iv_k (by decide) : iv 1 1 1) (by decide))
        have tz_22 : z_22.toInt = x7_54.toInt + 1 := by rw [ez_22]; exact iv_addE hsx7_94 (iv_k (by decide) : iv 1 1 1) (by decide)
        refine lv_iinc (v := z_22) (lv' := [(7, .int z_22), (5, .long z_21), (4, .int y0_94), (3, .int x3_54), (2, .int x2_54), (0, .ref h0), (1, .int x)]) hx hb dX13_numberIn_117 hl (k := 2) rfl ez_22.symm (by decide) rfl (fun ls hl => ?_)
        refine lv_goto (tgt := 54) hx hb dX13_numberIn_120 (by decide) ?_
        exact ih54 _ (by rw [← hn54]; exact (iv_meas tz_22 hsx7_94 (by decide))) z_22 z_21 y0_94 x3_54 x2_54 rfl (iv_w hz_22 (by decide)) hy0_94 hsx3_94 (iv_w hsx2_94 (by decide)) hsx1_94 (h2) (h3) ((by have dg := (hN.resolve_right (fun q => absurd q.1 (by have := i32_0; have := i32_1; have := i32_2; have := i32_m1; have := (hsx1_94).1; have := (hsx1_94).2; have := (hsx7_94).1; have := (hsx7_94).2; have := (hsx4_94).1; have := (hsx4_94).2; have := (hsx3_94).1; have := (hsx3_94).2; have := (hsx2_94).1; have := (hsx2_94).2; have := (hy0_94).1; have := (hy0_94).2; have := (hr_17).1; have := (hr_17).2; have := (hz_22).1; have := (hz_22).2; omega))).2; have hk : x7_54.toNatClampNeg < T9.length := (by have := hk7; have q1 : x7_54.toNatClampNeg = x7_54.toInt.toNat := rfl; have := i32_0; have := i32_1; have := i32_2; have := i32_m1; have := (hsx1_94).1; have := (hsx1_94).2; have := (hsx7_94).1; have := (hsx7_94).2; have := (hsx4_94).1; have := (hsx4_94).2; have := (hsx3_94).1; have := (hsx3_94).2; have := (hsx2_94).1; have := (hsx2_94).2; have := (hy0_94).1; have := (hy0_94).2; have := (hr_17).1; have := (hr_17).2; have := (hz_22).1; have := (hz_22).2; omega); have e9 := num_s ez_16 ez_19 ez_20 ez_21 dg.2.2.2.2.2.1 (by have := DG_b dg; omega) (hr_17).1 (hr_17).2; rw [show z_22.toNatClampNeg = x7_54.toNatClampNeg + 1 from (by have q1 : z_22.toNatClampNeg = z_22.toInt.toNat := rfl; have q1 : x7_54.toNatClampNeg = x7_54.toInt.toNat := rfl; have := i32_0; have := i32_1; have := i32_2; have := i32_m1; have := (hsx1_94).1; have := (hsx1_94).2; have := (hsx7_94).1; have := (hsx7_94).2; have := (hsx4_94).1; have := (hsx4_94).2; have := (hsx3_94).1; have := (hsx3_94).2; have := (hsx2_94).1; have := (hsx2_94).2; have := (hy0_94).1; have := (hy0_94).2; have := (hr_17).1; have := (hr_17).2; have := (hz_22).1; have := (hz_22).2; omega)]; rcases h94 with q | q; (refine Or.inl ⟨q.1, ?_⟩; rw [e9, fs_r_17]; exact DG_s dg hk q.2); (exact Or.inr ⟨q.1, DG_x dg hk q.2⟩))) _ _ _ hP hD hS (lv_sub hl [0, 1, 2, 3, 4, 5, 6] rfl)
      have hj93 : ∀ (_ : iv 0 23 x7_54) (_ : iv 1 1 x4_54) (_ : iv 0 1 x3_54) (_ : iv 1 24 x2_54) (_ : iv 0 1079 x) (_ : x7_54.toInt < (T9.length : Int)) (_ : ¬ (48 ≤ (T9[x7_54.toNatClampNeg]?).getD 0 ∧ (T9[x7_54.toNatClampNeg]?).getD 0 ≤ 57)) (H : Heap) (locs : List Loc) (ls : Array Slot), va_P (dC, dI) vwCl (mW h0 ad cid sg gm lg) H → va_D A (mW h0 ad cid sg gm lg) → va_S A s.heap H locs → lv_has ls 8 [(7, .int x7_54), (5, .long x5_54), (4, .int x4_54), (3, .int x3_54), (2, .int x2_54), (0, .ref h0), (1, .int x)] → W p l e (headSpec wm_X13_numberIn ({ frames := 1, cells := 0, slots := 0, locals := 22 })).room s m ([.ref h0, .int x] : List Value).toArray below meth c H locs 0 0 (MQ below (va_Ql (fun r v => (r.toInt = (nuL T9).getD (-9000000000000000000)) ∧ v = (sg, gm, lg)) (MB dC dI h0 ad cid A) A) ([.ref h0, .int x] : List Value).toArray s 0 0 A) (F0 m 93 ls []) := by
        intro  hsx7_93 hsx4_93 hsx3_93 hsx2_93 hsx1_93 hk7 u93 H locs ls hP hD hS hl
        refine lv_iconst (v := 0) hx hb dX13_numberIn_93 (by decide) ?_
        exact hj94 0 hsx7_93 hsx4_93 hsx3_93 hsx2_93 hsx1_93 (iv_w (iv_k (by decide) : iv 0 0 0) (by decide)) (hk7) (Or.inr ⟨rfl, u93⟩) _ _ _ hP hD hS (lv_sub hl [0, 1, 2, 3, 4, 5, 6] rfl)
      refine lv_iload hx hb dX13_numberIn_54 (lv_at hl 0 rfl) ?_
      refine lv_iload_n hx hb dX13_numberIn_56 rfl (lv_at hl 4 rfl) ?_
      refine lv_icmp_ge (tgt := 123) hx hb dX13_numberIn_57 (by decide) (fun c_23 => ?_) (fun c_23 => ?_)
      · have d_24 : (x2_54 : Int32).toInt ≤ (x7_54 : Int32).toInt := Int32.le_iff_toInt_le.mp c_23
        exact hj123 x7_54 x5_54 x4_54 x3_54 x2_54 hx7_54 hx4_54 hx3_54 hx2_54 hsx1_54 (h3) ((by rcases hN with q | q; (exact Or.inl ⟨q.1, q.2, (by have := h2; have q1 : x7_54.toNatClampNeg = x7_54.toInt.toNat := rfl; have := i32_0; have := i32_1; have := i32_2; have := i32_m1; have := (hsx1_54).1; have := (hsx1_54).2; have := (hx7_54).1; have := (hx7_54).2; have := (hx4_54).1; have := (hx4_54).2; have := (hx3_54).1; have := (hx3_54).2; have := (hx2_54).1; have := (hx2_54).2; have := q.1; omega)⟩); (exact Or.inr q))) _ _ _ hP hD hS (lv_sub hl [0, 1, 2, 3, 4, 5, 6] rfl)
      · have d_25 : (x7_54 : Int32).toInt < (x2_54 : Int32).toInt := Int32.lt_iff_toInt_lt.mp (i32_lt c_23)
        have h_26 : iv 0 23 x7_54 := iv_ltL (i32_lt c_23) hx7_54 hx2_54 (by decide)
        have h_27 : iv 1 24 x2_54 := iv_ltR (i32_lt c_23) hx7_54 hx2_54 (by decide)
        refine lv_iload hx hb dX13_numberIn_60 (lv_at hl 2 rfl) ?_
        refine lv_if_eq (tgt := 123) hx hb dX13_numberIn_62 (by decide) (fun c_28 => ?_) (fun c_28 => ?_)
        · have h_29 : iv 0 0 x4_54 := iv_eq c_28 hx4_54 (iv_k (by decide) : iv 0 0 0) (by decide)
          exact hj123 x7_54 x5_54 x4_54 x3_54 x2_54 (iv_w h_26 (by decide)) (iv_w h_29 (by decide)) hx3_54 (iv_w h_27 (by decide)) hsx1_54 (h3) ((by rcases hN with q | q; (exact Or.inl ⟨q.1, q.2, (by have := h2; have q1 : x7_54.toNatClampNeg = x7_54.toInt.toNat := rfl; have := i32_0; have := i32_1; have := i32_2; have := i32_m1; have := (hsx1_54).1; have := (hsx1_54).2; have := (h_26).1; have := (h_26).2; have := (h_29).1; have := (h_29).2; have := (hx3_54).1; have := (hx3_54).2; have := (h_27).1; have := (h_27).2; have := q.1; omega)⟩); (exact Or.inr q))) _ _ _ hP hD hS (lv_sub hl [0, 1, 2, 3, 4, 5, 6] rfl)
        · have h_30 : iv 1 1 x4_54 := iv_neL c_28 hx4_54 (by decide)
          refine lv_aload_n hx hb dX13_numberIn_65 rfl (lv_at hl 5 rfl) ?_
          refine lv_iload_n hx hb dX13_numberIn_66 rfl (lv_at hl 6 rfl) ?_
          refine lv_iload hx hb dX13_numberIn_67 (lv_at hl 0 rfl) ?_
          refine mr_calli (rest := []) ⟨hx, hb, hml, hown, htb⟩ (f_sign9 l dC dI h0 ad cid sg gm lg x x7_54 rg T9 hI hsx1_54 h_26 hRW hT (by have := h2; have := i32_0; have := i32_1; have := i32_2; have := i32_m1; have := (hsx1_54).1; have := (hsx1_54).2; have := (h_26).1; have := (h_26).2; have := (h_30).1; have := (h_30).2; have := (hx3_54).1; have := (hx3_54).2; have := (h_27).1; have := (h_27).2; omega)) (cwV 2 htb (gd_V kw_1236 kw_1237 kw_1238 kw_5 kw_1627) rfl rfl rfl (by decide +kernel) ⟨Nat.le_of_ble_eq_true rfl, Nat.le_of_ble_eq_true rfl⟩) rfl hl.1 rfl (Nat.le_of_ble_eq_true rfl) dX13_numberIn_69 ⟨Nat.zero_le _, Nat.zero_le _⟩ hK hP hD hS hA (fun r_31 u_32 H locs hw hP hD hS => ?_)
          obtain ⟨hr_31, fs_r_31, rfl⟩ := hw
          have hP : va_P (dC, dI) vwCl (mW h0 ad cid sg gm lg) H := hP
          have hD : va_D A (mW h0 ad cid sg gm lg) := hD
          refine lv_bipush (v := 48) hx hb dX13_numberIn_72 (by decide) ?_
          refine lv_icmp_lt (tgt := 93) hx hb dX13_numberIn_74 (by decide) (fun c_33 => ?_) (fun c_33 => ?_)
          · have h_34 : iv (-128) 47 r_31 := iv_ltL c_33 hr_31 (iv_k (by decide) : iv 48 48 48) (by decide)
            exact hj93 h_26 h_30 hx3_54 h_27 hsx1_54 ((by have := h2; have := i32_0; have := i32_1; have := i32_2; have := i32_m1; have := (hsx1_54).1; have := (hsx1_54).2; have := (h_26).1; have := (h_26).2; have := (h_30).1; have := (h_30).2; have := (hx3_54).1; have := (hx3_54).2; have := (h_27).1; have := (h_27).2; have := (h_34).1; have := (h_34).2; omega)) ((by have q1 := fs_r_31; have := i32_0; have := i32_1; have := i32_2; have := i32_m1; have := (hsx1_54).1; have := (hsx1_54).2; have := (h_26).1; have := (h_26).2; have := (h_30).1; have := (h_30).2; have := (hx3_54).1; have := (hx3_54).2; have := (h_27).1; have := (h_27).2; have := (h_34).1; have := (h_34).2; omega)) _ _ _ hP hD hS (lv_sub hl [0, 1, 2, 3, 4, 5, 6] rfl)
          · have h_35 : iv 48 127 r_31 := iv_leR (i32_ge c_33) (iv_k (by decide) : iv 48 48 48) hr_31 (by decide)
            refine lv_aload_n hx hb dX13_numberIn_77 rfl (lv_at hl 5 rfl) ?_
            refine lv_iload_n hx hb dX13_numberIn_78 rfl (lv_at hl 6 rfl) ?_
            refine lv_iload hx hb dX13_numberIn_79 (lv_at hl 0 rfl) ?_
            refine mr_calli (rest := []) ⟨hx, hb, hml, hown, htb⟩ (f_sign9 l dC dI h0 ad cid sg gm lg x x7_54 rg T9 hI hsx1_54 h_26 hRW hT (by have := h2; have := i32_0; have := i32_1; have := i32_2; have := i32_m1; have := (hsx1_54).1; have := (hsx1_54).2; have := (h_26).1; have := (h_26).2; have := (h_30).1; have := (h_30).2; have := (hx3_54).1; have := (hx3_54).2; have := (h_27).1; have := (h_27).2; have := (h_35).1; have := (h_35).2; omega)) (cwV 2 htb (gd_V kw_1236 kw_1237 kw_1238 kw_5 kw_1627) rfl rfl rfl (by decide +kernel) ⟨Nat.le_of_ble_eq_true rfl, Nat.le_of_ble_eq_true rfl⟩) rfl hl.1 rfl (Nat.le_of_ble_eq_true rfl) dX13_numberIn_81 ⟨Nat.zero_le _, Nat.zero_le _⟩ hK hP hD hS hA (fun r_36 u_37 H locs hw hP hD hS => ?_)
            obtain ⟨hr_36, fs_r_36, rfl⟩ := hw
            have hP : va_P (dC, dI) vwCl (mW h0 ad cid sg gm lg) H := hP
            have hD : va_D A (mW h0 ad cid sg gm lg) := hD
            refine lv_bipush (v := 57) hx hb dX13_numberIn_84 (by decide) ?_
            refine lv_icmp_gt (tgt := 93) hx hb dX13_numberIn_86 (by decide) (fun c_38 => ?_) (fun c_38 => ?_)
            · have h_39 : iv 58 127 r_36 := iv_ltR c_38 (iv_k (by decide) : iv 57 57 57) hr_36 (by decide)
              exact hj93 h_26 h_30 hx3_54 h_27 hsx1_54 ((by have := h2; have := i32_0; have := i32_1; have := i32_2; have := i32_m1; have := (hsx1_54).1; have := (hsx1_54).2; have := (h_26).1; have := (h_26).2; have := (h_30).1; have := (h_30).2; have := (hx3_54).1; have := (hx3_54).2; have := (h_27).1; have := (h_27).2; have := (h_35).1; have := (h_35).2; have := (h_39).1; have := (h_39).2; omega)) ((by have q1 := fs_r_31; have q2 := fs_r_36; have := i32_0; have := i32_1; have := i32_2; have := i32_m1; have := (hsx1_54).1; have := (hsx1_54).2; have := (h_26).1; have := (h_26).2; have := (h_30).1; have := (h_30).2; have := (hx3_54).1; have := (hx3_54).2; have := (h_27).1; have := (h_27).2; have := (h_35).1; have := (h_35).2; have := (h_39).1; have := (h_39).2; omega)) _ _ _ hP hD hS (lv_sub hl [0, 1, 2, 3, 4, 5, 6] rfl)
            · have h_40 : iv (-128) 57 r_36 := iv_leL (i32_ge c_38) hr_36 (iv_k (by decide) : iv 57 57 57) (by decide)
              refine lv_iconst (v := 1) hx hb dX13_numberIn_89 (by decide) ?_
              refine lv_goto (tgt := 94) hx hb dX13_numberIn_90 (by decide) ?_
              exact hj94 1 h_26 h_30 hx3_54 h_27 hsx1_54 (iv_w (iv_k (by decide) : iv 1 1 1) (by decide)) ((by have := h2; have := i32_0; have := i32_1; have := i32_2; have := i32_m1; have := (hsx1_54).1; have := (hsx1_54).2; have := (h_26).1; have := (h_26).2; have := (h_30).1; have := (h_30).2; have := (hx3_54).1; have := (hx3_54).2; have := (h_27).1; have := (h_27).2; have := (h_35).1; have := (h_35).2; have := (h_40).1; have := (h_40).2; omega)) (Or.inl ⟨rfl, (by have q1 := fs_r_31; have q2 := fs_r_36; have := i32_0; have := i32_1; have := i32_2; have := i32_m1; have := (hsx1_54).1; have := (hsx1_54).2; have := (h_26).1; have := (h_26).2; have := (h_30).1; have := (h_30).2; have := (hx3_54).1; have := (hx3_54).2; have := (h_27).1; have := (h_27).2; have := (h_35).1; have := (h_35).2; have := (h_40).1; have := (h_40).2; omega), (by have q1 := fs_r_31; have q2 := fs_r_36; have := i32_0; have := i32_1; have := i32_2; have := i32_m1; have := (hsx1_54).1; have := (hsx1_54).2; have := (h_26).1; have := (h_26).2; have := (h_30).1; have := (h_30).2; have := (hx3_54).1; have := (hx3_54).2; have := (h_27).1; have := (h_27).2; have := (h_35).1; have := (h_35).2; have := (h_40).1; have := (h_40).2; omega)⟩) _ _ _ hP hD hS (lv_sub hl [0, 1, 2, 3, 4, 5, 6] rfl)
  have hj46 : ∀ (x3_46 : Int32) (x2_46 : Int32) (y0_46 : Int32) (_ : iv 0 1 x3_46) (_ : iv 0 24 x2_46) (_ : iv 0 1079 x) (_ : iv 0 1 y0_46) (_ : x2_46.toInt = (T9.length : Int)) (_ : x3_46.toInt = (fr9 T9 : Int)) (_ : ((y0_46 : Int32).toInt = 1 ∧ T9.length - fr9 T9 ≤ 10 ∧ 0 < T9.length - fr9 T9) ∨ ((y0_46 : Int32).toInt = 0 ∧ nuL T9 = none)) (H : Heap) (locs : List Loc) (ls : Array Slot), va_P (dC, dI) vwCl (mW h0 ad cid sg gm lg) H → va_D A (mW h0 ad cid sg gm lg) → va_S A s.heap H locs → lv_has ls 8 [(3, .int x3_46), (2, .int x2_46), (0, .ref h0), (1, .int x)] → W p l e (headSpec wm_X13_numberIn ({ frames := 1, cells := 0, slots := 0, locals := 22 })).room s m ([.ref h0, .int x] : List Value).toArray below meth c H locs 0 0 (MQ below (va_Ql (fun r v => (r.toInt = (nuL T9).getD (-9000000000000000000)) ∧ v = (sg, gm, lg)) (MB dC dI h0 ad cid A) A) ([.ref h0, .int x] : List Value).toArray s 0 0 A) (F0 m 46 ls [.int y0_46]) := by
    intro x3_46 x2_46 y0_46 hx3_46 hx2_46 hsx1_46 hy0_46 h2 h3 h46 H locs ls hP hD hS hl
    refine lv_istore (lv' := [(4, .int y0_46), (3, .int x3_46), (2, .int x2_46), (0, .ref h0), (1, .int x)]) hx hb dX13_numberIn_46 hl (by decide) rfl (fun ls hl => ?_)
    refine lv_lconst (v := 0) hx hb dX13_numberIn_48 (by decide) ?_
    refine lv_lstore (lv' := [(5, .long 0), (4, .int y0_46), (3, .int x3_46), (2, .int x2_46), (0, .ref h0), (1, .int x)]) hx hb dX13_numberIn_49 hl (by decide) rfl (fun ls hl => ?_)
    refine lv_iload_n hx hb dX13_numberIn_51 rfl (lv_at hl 2 rfl) ?_
    refine lv_istore (lv' := [(7, .int x3_46), (5, .long 0), (4, .int y0_46), (3, .int x3_46), (2, .int x2_46), (0, .ref h0), (1, .int x)]) hx hb dX13_numberIn_52 hl (by decide) rfl (fun ls hl => ?_)
    exact hj54 _ x3_46 0 y0_46 x3_46 x2_46 rfl (iv_w hx3_46 (by decide)) hy0_46 hx3_46 hx2_46 hsx1_46 (h2) (h3) (h46.imp (fun q => ⟨q.1, (by rw [show x3_46.toNatClampNeg = fr9 T9 from (by have := h3; have q1 : x3_46.toNatClampNeg = x3_46.toInt.toNat := rfl; have := i32_0; have := i32_1; have := i32_2; have := i32_m1; have := (hsx1_46).1; have := (hsx1_46).2; have := (hx3_46).1; have := (hx3_46).2; have := (hx2_46).1; have := (hx2_46).2; have := (hy0_46).1; have := (hy0_46).2; omega)]; exact DG_0 q.2.1 q.2.2)⟩) (fun q => q)) _ _ _ hP hD hS (lv_sub hl [0, 1, 2, 3, 4, 5, 6] rfl)
  have hj45 : ∀ (x3_45 : Int32) (x2_45 : Int32) (_ : iv 0 1 x3_45) (_ : iv 0 24 x2_45) (_ : iv 0 1079 x) (_ : x2_45.toInt = (T9.length : Int)) (_ : x3_45.toInt = (fr9 T9 : Int)) (_ : nuL T9 = none) (H : Heap) (locs : List Loc) (ls : Array Slot), va_P (dC, dI) vwCl (mW h0 ad cid sg gm lg) H → va_D A (mW h0 ad cid sg gm lg) → va_S A s.heap H locs → lv_has ls 8 [(3, .int x3_45), (2, .int x2_45), (0, .ref h0), (1, .int x)] → W p l e (headSpec wm_X13_numberIn ({ frames := 1, cells := 0, slots := 0, locals := 22 })).room s m ([.ref h0, .int x] : List Value).toArray below meth c H locs 0 0 (MQ below (va_Ql (fun r v => (r.toInt = (nuL T9).getD (-9000000000000000000)) ∧ v = (sg, gm, lg)) (MB dC dI h0 ad cid A) A) ([.ref h0, .int x] : List Value).toArray s 0 0 A) (F0 m 45 ls []) := by
    intro x3_45 x2_45 hx3_45 hx2_45 hsx1_45 h2 h3 u45 H locs ls hP hD hS hl
    refine lv_iconst (v := 0) hx hb dX13_numberIn_45 (by decide) ?_
    exact hj46 x3_45 x2_45 0 hx3_45 hx2_45 hsx1_45 (iv_w (iv_k (by decide) : iv 0 0 0) (by decide)) (h2) (h3) (Or.inr ⟨rfl, u45⟩) _ _ _ hP hD hS (lv_sub hl [0, 1, 2, 3] rfl)
  have hj26 : ∀ (x2_26 : Int32) (y0_26 : Int32) (_ : iv 0 24 x2_26) (_ : iv 0 1079 x) (_ : iv 0 1 y0_26) (_ : x2_26.toInt = (T9.length : Int)) (_ : (y0_26 : Int32).toInt = (fr9 T9 : Int)) (H : Heap) (locs : List Loc) (ls : Array Slot), va_P (dC, dI) vwCl (mW h0 ad cid sg gm lg) H → va_D A (mW h0 ad cid sg gm lg) → va_S A s.heap H locs → lv_has ls 8 [(2, .int x2_26), (0, .ref h0), (1, .int x)] → W p l e (headSpec wm_X13_numberIn ({ frames := 1, cells := 0, slots := 0, locals := 22 })).room s m ([.ref h0, .int x] : List Value).toArray below meth c H locs 0 0 (MQ below (va_Ql (fun r v => (r.toInt = (nuL T9).getD (-9000000000000000000)) ∧ v = (sg, gm, lg)) (MB dC dI h0 ad cid A) A) ([.ref h0, .int x] : List Value).toArray s 0 0 A) (F0 m 26 ls [.int y0_26]) := by
    intro x2_26 y0_26 hx2_26 hsx1_26 hy0_26 h2 h26 H locs ls hP hD hS hl
    refine lv_istore_n (lv' := [(3, .int y0_26), (2, .int x2_26), (0, .ref h0), (1, .int x)]) hx hb dX13_numberIn_26 rfl hl (by decide) rfl (fun ls hl => ?_)
    refine lv_iload_n hx hb dX13_numberIn_27 rfl (lv_at hl 1 rfl) ?_
    refine lv_iload_n hx hb dX13_numberIn_28 rfl (lv_at hl 0 rfl) ?_
    refine lv_isub hx hb dX13_numberIn_29 ?_
    refine lv_topi (fun z_41 ez_41 => ?_)
    have hz_41 : iv (-1) 24 z_41 := iv_of ez_41 (iv_sub hx2_26 hy0_26 (by decide))
    have tz_41 : z_41.toInt = (x2_26 : Int32).toInt - (y0_26 : Int32).toInt := by rw [ez_41]; exact iv_subE hx2_26 hy0_26 (by decide)
    refine lv_if_le (tgt := 45) hx hb dX13_numberIn_30 (by decide) (fun c_42 => ?_) (fun c_42 => ?_)
    · have h_43 : iv (-1) 0 z_41 := iv_leL c_42 hz_41 (iv_k (by decide) : iv 0 0 0) (by decide)
      exact hj45 y0_26 x2_26 hy0_26 hx2_26 hsx1_26 (h2) (h26) (nuL_len (by have := h2; have := h26; have := i32_0; have := i32_1; have := i32_2; have := i32_m1; have := (hsx1_26).1; have := (hsx1_26).2; have := (hx2_26).1; have := (hx2_26).2; have := (hy0_26).1; have := (hy0_26).2; have := (h_43).1; have := (h_43).2; omega)) _ _ _ hP hD hS (lv_sub hl [0, 1, 2, 3] rfl)
    · have h_44 : iv 1 24 z_41 := iv_ltR (i32_lt c_42) (iv_k (by decide) : iv 0 0 0) hz_41 (by decide)
      refine lv_iload_n hx hb dX13_numberIn_33 rfl (lv_at hl 1 rfl) ?_
      refine lv_iload_n hx hb dX13_numberIn_34 rfl (lv_at hl 0 rfl) ?_
      refine lv_isub hx hb dX13_numberIn_35 ?_
      refine lv_topi (fun z_45 ez_45 => ?_)
      obtain rfl : z_41 = z_45 := ez_41.trans ez_45.symm
      refine lv_bipush (v := 11) hx hb dX13_numberIn_36 (by decide) ?_
      refine lv_icmp_ge (tgt := 45) hx hb dX13_numberIn_38 (by decide) (fun c_46 => ?_) (fun c_46 => ?_)
      · have h_47 : iv 11 24 z_41 := iv_leR c_46 (iv_k (by decide) : iv 11 11 11) h_44 (by decide)
        exact hj45 y0_26 x2_26 hy0_26 hx2_26 hsx1_26 (h2) (h26) (nuL_len (by have := h2; have := h26; have := i32_0; have := i32_1; have := i32_2; have := i32_m1; have := (hsx1_26).1; have := (hsx1_26).2; have := (hx2_26).1; have := (hx2_26).2; have := (hy0_26).1; have := (hy0_26).2; have := (h_47).1; have := (h_47).2; omega)) _ _ _ hP hD hS (lv_sub hl [0, 1, 2, 3] rfl)
      · have h_48 : iv 1 10 z_41 := iv_ltL (i32_lt c_46) h_44 (iv_k (by decide) : iv 11 11 11) (by decide)
        refine lv_iconst (v := 1) hx hb dX13_numberIn_41 (by decide) ?_
        refine lv_goto (tgt := 46) hx hb dX13_numberIn_42 (by decide) ?_
        exact hj46 y0_26 x2_26 1 hy0_26 hx2_26 hsx1_26 (iv_w (iv_k (by decide) : iv 1 1 1) (by decide)) (h2) (h26) (Or.inl ⟨rfl, (by have := h2; have := h26; have := i32_0; have := i32_1; have := i32_2; have := i32_m1; have := (hsx1_26).1; have := (hsx1_26).2; have := (hx2_26).1; have := (hx2_26).2; have := (hy0_26).1; have := (hy0_26).2; have := (h_48).1; have := (h_48).2; omega), (by have := h2; have := h26; have := i32_0; have := i32_1; have := i32_2; have := i32_m1; have := (hsx1_26).1; have := (hsx1_26).2; have := (hx2_26).1; have := (hx2_26).2; have := (hy0_26).1; have := (hy0_26).2; have := (h_48).1; have := (h_48).2; omega)⟩) _ _ _ hP hD hS (lv_sub hl [0, 1, 2, 3] rfl)
  have hj25 : ∀ (x2_25 : Int32) (_ : iv 0 24 x2_25) (_ : iv 0 1079 x) (_ : x2_25.toInt = (T9.length : Int)) (_ : fr9 T9 = 0) (H : Heap) (locs : List Loc) (ls : Array Slot), va_P (dC, dI) vwCl (mW h0 ad cid sg gm lg) H → va_D A (mW h0 ad cid sg gm lg) → va_S A s.heap H locs → lv_has ls 8 [(2, .int x2_25), (0, .ref h0), (1, .int x)] → W p l e (headSpec wm_X13_numberIn ({ frames := 1, cells := 0, slots := 0, locals := 22 })).room s m ([.ref h0, .int x] : List Value).toArray below meth c H locs 0 0 (MQ below (va_Ql (fun r v => (r.toInt = (nuL T9).getD (-9000000000000000000)) ∧ v = (sg, gm, lg)) (MB dC dI h0 ad cid A) A) ([.ref h0, .int x] : List Value).toArray s 0 0 A) (F0 m 25 ls []) := by
    intro x2_25 hx2_25 hsx1_25 h2 u25 H locs ls hP hD hS hl
    refine lv_iconst (v := 0) hx hb dX13_numberIn_25 (by decide) ?_
    exact hj26 x2_25 0 hx2_25 hsx1_25 (iv_w (iv_k (by decide) : iv 0 0 0) (by decide)) (h2) ((by rw [u25]; rfl)) _ _ _ hP hD hS (lv_sub hl [0, 1, 2] rfl)
  refine lv_aload_n hx hb dX13_numberIn_0 rfl (lv_at hl 0 rfl) ?_
  refine lv_iload_n hx hb dX13_numberIn_1 rfl (lv_at hl 1 rfl) ?_
  refine mr_calli (rest := []) ⟨hx, hb, hml, hown, htb⟩ (f_length9 l dC dI h0 ad cid sg gm lg x rg T9 hI hvx hRW hT) (cwV 1 htb (gd_V kw_1233 kw_1234 kw_1235 kw_5 kw_1626) rfl rfl rfl (by decide +kernel) ⟨Nat.le_of_ble_eq_true rfl, Nat.le_of_ble_eq_true rfl⟩) rfl hl.1 rfl (Nat.le_of_ble_eq_true rfl) dX13_numberIn_2 ⟨Nat.zero_le _, Nat.zero_le _⟩ hK hP hD hS hA (fun r_49 u_50 H locs hw hP hD hS => ?_)
  obtain ⟨hr_49, fl_r_49, rfl⟩ := hw
  have hP : va_P (dC, dI) vwCl (mW h0 ad cid sg gm lg) H := hP
  have hD : va_D A (mW h0 ad cid sg gm lg) := hD
  refine lv_istore_n (lv' := [(2, .int r_49), (0, .ref h0), (1, .int x)]) hx hb dX13_numberIn_5 rfl hl (by decide) rfl (fun ls hl => ?_)
  refine lv_iload_n hx hb dX13_numberIn_6 rfl (lv_at hl 0 rfl) ?_
  refine lv_if_le (tgt := 25) hx hb dX13_numberIn_7 (by decide) (fun c_51 => ?_) (fun c_51 => ?_)
  · have h_52 : iv 0 0 r_49 := iv_leL c_51 hr_49 (iv_k (by decide) : iv 0 0 0) (by decide)
    exact hj25 r_49 (iv_w h_52 (by decide)) hvx (fl_r_49) ((by unfold fr9; rw [if_neg (by rw [ng_n (fun q => absurd q.2 (by have := fl_r_49; have := i32_0; have := i32_1; have := i32_2; have := i32_m1; have := (hvx).1; have := (hvx).2; have := (h_52).1; have := (h_52).2; omega))]; decide)])) _ _ _ hP hD hS (lv_sub hl [0, 1, 2] rfl)
  · have h_53 : iv 1 24 r_49 := iv_ltR (i32_lt c_51) (iv_k (by decide) : iv 0 0 0) hr_49 (by decide)
    refine lv_aload_n hx hb dX13_numberIn_10 rfl (lv_at hl 1 rfl) ?_
    refine lv_iload_n hx hb dX13_numberIn_11 rfl (lv_at hl 2 rfl) ?_
    refine lv_iconst (v := 0) hx hb dX13_numberIn_12 (by decide) ?_
    refine mr_calli (rest := []) ⟨hx, hb, hml, hown, htb⟩ (f_sign9 l dC dI h0 ad cid sg gm lg x 0 rg T9 hI hvx (iv_w (iv_k (by decide) : iv 0 0 0) (by decide)) hRW hT (show (0 : Int32).toInt < (T9.length : Int) from (by have := fl_r_49; have := i32_0; have := i32_1; have := i32_2; have := i32_m1; have := (hvx).1; have := (hvx).2; have := (h_53).1; have := (h_53).2; omega))) (cwV 2 htb (gd_V kw_1236 kw_1237 kw_1238 kw_5 kw_1627) rfl rfl rfl (by decide +kernel) ⟨Nat.le_of_ble_eq_true rfl, Nat.le_of_ble_eq_true rfl⟩) rfl hl.1 rfl (Nat.le_of_ble_eq_true rfl) dX13_numberIn_13 ⟨Nat.zero_le _, Nat.zero_le _⟩ hK hP hD hS hA (fun r_54 u_55 H locs hw hP hD hS => ?_)
    obtain ⟨hr_54, fs_r_54, rfl⟩ := hw
    have hP : va_P (dC, dI) vwCl (mW h0 ad cid sg gm lg) H := hP
    have hD : va_D A (mW h0 ad cid sg gm lg) := hD
    refine lv_bipush (v := 45) hx hb dX13_numberIn_16 (by decide) ?_
    refine lv_icmp_ne (tgt := 25) hx hb dX13_numberIn_18 (by decide) (fun c_56 => ?_) (fun c_56 => ?_)
    · have d_57 : ¬ (r_54 : Int32).toInt = 45 := lv_neT c_56 rfl
      exact hj25 r_49 (iv_w h_53 (by decide)) hvx (fl_r_49) ((by unfold fr9; rw [if_neg (by rw [ng_n (fun q => absurd (show r_54.toInt = 45 from (by have q9 := fs_r_54; rw [q9]; exact q.1)) (by have := i32_0; have := i32_1; have := i32_2; have := i32_m1; have := (hvx).1; have := (hvx).2; have := (h_53).1; have := (h_53).2; have := (hr_54).1; have := (hr_54).2; omega))]; decide)])) _ _ _ hP hD hS (lv_sub hl [0, 1, 2] rfl)
    · have h_58 : iv 45 45 r_54 := iv_eq c_56 hr_54 (iv_k (by decide) : iv 45 45 45) (by decide)
      refine lv_iconst (v := 1) hx hb dX13_numberIn_21 (by decide) ?_
      refine lv_goto (tgt := 26) hx hb dX13_numberIn_22 (by decide) ?_
      exact hj26 r_49 1 (iv_w h_53 (by decide)) hvx (iv_w (iv_k (by decide) : iv 1 1 1) (by decide)) (fl_r_49) ((by unfold fr9; rw [if_pos (ng_y (by have q9 := fs_r_54; have q8 : (0 : Int32).toNatClampNeg = 0 := rfl; rw [q8] at q9; rw [← q9]; have := i32_0; have := i32_1; have := i32_2; have := i32_m1; have := (hvx).1; have := (hvx).2; have := (h_53).1; have := (h_53).2; have := (h_58).1; have := (h_58).2; omega) (by have := fl_r_49; have := i32_0; have := i32_1; have := i32_2; have := i32_m1; have := (hvx).1; have := (hvx).2; have := (h_53).1; have := (h_53).2; have := (h_58).1; have := (h_58).2; omega))]; rfl)) _ _ _ hP hD hS (lv_sub hl [0, 1, 2] rfl)
end
section
section WE9
variable {wg rg : Nat → Nat → Int32} {wl : Nat → Nat → Int64} {ob : List Ob9} {c : Nat} {V : List Int} {kd v : Int32} {t : Int}
theorem VR_2 (h : VR9 wg wl rg ob c V kd v) (hk : kd.toInt = 2) : (wg 25 c).toInt = 9 := by
  rcases h with q | q | q | q
  · omega
  · exact q.1
  · omega
  · omega
theorem VR_3 (h : VR9 wg wl rg ob c V kd v) (hk : kd.toInt = 3) : (wg 25 c).toInt = 6 ∧ v.toInt = (wg 18 c).toInt := by
  rcases h with q | q | q | q
  · omega
  · omega
  · exact ⟨q.1, q.2.2⟩
  · omega
theorem VR_1 (h : VR9 wg wl rg ob c V kd v) (hk : kd.toInt = 1) : (¬ (wg 25 c).toInt = 6 ∧ ¬ (wg 25 c).toInt = 7 ∧ ¬ (wg 25 c).toInt = 9) ∧ V = [v.toInt] ∧ 0 ≤ v.toInt ∧ v.toInt < (ob.length : Int) := by
  rcases h with q | q | q | q
  · omega
  · omega
  · omega
  · exact ⟨by omega, q.2.2⟩
theorem VR_0 (h : VR9 wg wl rg ob c V kd v) (hk : kd.toInt = 0) : (wg 25 c).toInt = 7 ∧ ∃ T, SRq rg v T ∧ TXT9 wg wl c T := by
  rcases h with q | q | q | q
  · exact ⟨q.1, q.2.2⟩
  · omega
  · omega
  · omega
theorem nuL_r {T : List Int} : nuL T = none ∨ ∃ n, nuL T = some n ∧ -2147483648 ≤ n ∧ n ≤ 2147483647 := by
  unfold nuL
  generalize (if ng9 T = true then T.drop 1 else T) = D
  by_cases h : D.length = 0 ∨ 10 < D.length
  · rw [if_pos h]; exact Or.inl rfl
  · rw [if_neg h]
    cases dgF D 0 with
    | none => exact Or.inl rfl
    | some v =>
      simp only []
      generalize (if ng9 T = true then -v else v) = s
      by_cases h : -2147483648 ≤ s ∧ s ≤ 2147483647
      · rw [if_pos h]; exact Or.inr ⟨_, rfl, h.1, h.2⟩
      · rw [if_neg h]; exact Or.inl rfl
theorem wT_0 {T : List Int} (h : TXT9 wg wl c T) {n : Int} (hn : n = (nuL T).getD (-9000000000000000000)) : wTx wg wl c 0 = if n = -9000000000000000000 then -1 else 1 := by
  unfold wTx
  rw [if_pos rfl, h.2.1, hn]
  rcases nuL_r (T := T) with q | ⟨m, q, h1, h2⟩
  · rw [q]; rfl
  · rw [q]; show (if m = 1099511627776 then (-1 : Int) else 1) = if m = -9000000000000000000 then -1 else 1
    rw [if_neg (by omega), if_neg (by omega)]
theorem wT_1 {T : List Int} (h : TXT9 wg wl c T) : wTx wg wl c 1 = if trL T = -1 then -1 else 1 := by
  unfold wTx; rw [if_neg (by decide), if_pos rfl, h.2.2.1]
theorem wT_2 {T : List Int} (h : TXT9 wg wl c T) : wTx wg wl c 2 = if (T.length : Int) = 1 then 2 else -1 := by
  unfold wTx; rw [if_neg (by decide), if_neg (by decide), if_pos rfl, h.1]
theorem wT_3 : wTx wg wl c 3 = 3 := rfl
theorem wT_o (h : ¬ (t = 0 ∨ t = 1 ∨ t = 2 ∨ t = 3)) : wTx wg wl c t = -1 := by
  unfold wTx; rw [if_neg (by omega), if_neg (by omega), if_neg (by omega), if_neg (by omega)]
theorem vT_1 {T : List Int} (h : TXT9 wg wl c T) : vTx wg wl c 1 = trL T := by unfold vTx; rw [if_neg (by decide), if_pos rfl, h.2.2.1]
theorem vT_2 {T : List Int} (h : TXT9 wg wl c T) (hl : T.length = 1) : vTx wg wl c 2 = (T[0]?).getD 0 := by
  unfold vTx; rw [if_neg (by decide), if_neg (by decide), if_pos rfl]
  match T, hl with
  | [x], _ => exact h.2.2.2 x rfl
theorem vT_o {T : List Int} (h : TXT9 wg wl c T) (ht : ¬ (t = 0 ∨ t = 1 ∨ t = 2)) : vTx wg wl c t = 1000 + (T.length : Int) := by
  unfold vTx; rw [if_neg (by omega), if_neg (by omega), if_neg (by omega), h.1]
end WE9
end
section
theorem is_e {T : List Int} {k : Nat} {v : Int} (h : fdI T 0 = fdI (T.drop k) v) (h0 : 0 ≤ v) (hk : T.length ≤ k) : v = fdI T 0 := by
  rw [List.drop_eq_nil_of_le hk] at h; exact h.symm

set_option maxHeartbeats 4000000 in
set_option maxRecDepth 100000 in
theorem f_is9 (l : Launch) (dC : Nat → ClassId) (dI : Nat → Nat → Nat) (h0 : Nat) (ad : Nat → Nat) (cid : Nat → ClassId) (sg : Nat → Int32) (gm : Nat → Nat → Int32) (lg : Nat → Nat → Int64) (x : Int32) (w : Int32) (rg : Nat → Nat → Int32) (T9 : List Int) (hI : MI sg gm) (hvx : iv 0 1079 x) (hvw : iv 0 10 w) (hRW : rt9 gm = rg) (hT : SRq rg x T9) (hw0 : ¬ (lg 1 w.toNatClampNeg).toInt = 0) : MMi l dC dI yX13_is wm_X13_is ({ frames := 1, cells := 0, slots := 0, locals := 22 }) h0 ad cid [.int x, .int w] sg gm lg (fun r v => (iv 0 1 r) ∧ ((r.toInt = 1 ∧ isq T9 (lg 1 w.toNatClampNeg).toInt) ∨ (r.toInt = 0 ∧ ¬ (isq T9 (lg 1 w.toNatClampNeg).toInt))) ∧ v = (sg, gm, lg)) := by
  intro sz
  refine Met.ofW (cc := cX13_is) (maxL := 7) (ret := (some .boolean)) (by decide) rfl ?_
  intro p e s m args below meth c s₁ B hml hv
  obtain ⟨rfl, hsz, hP, hK, hD0⟩ := hv
  have hx := B.exec
  have hb := B.bytes
  have hr := B.returns
  have hts := atoms_spec (ws := wm_X13_is) B.pre
  have htb := fun (w : Cond) (h : w ∈ tb) => hts w (List.mem_cons_of_mem _ h)
  have hown : s.vm.findClass RX13 = some m.cls := findClass_of_methodNamed B.named
  have hlocks := B.notSynchronized
  subst hsz
  have hD := hD0.self (sz := s.heap.size)
  generalize hAe : va_A (mW h0 ad cid sg gm lg) s.heap.size = A at hD ⊢
  have hA : ∀ q : Nat, s.heap.size ≤ q → A q := fun q h => by rw [← hAe]; exact Or.inr h
  have hS : va_S A s.heap s.heap [] := va_S.rf
  have hl := lv_entry ([.ref h0, .int x, .int w]) (n := 7) (Nat.le_of_ble_eq_true rfl)
  rw [lg_entry_eq]
  generalize (lg_sl ([.ref h0, .int x, .int w]) ++ List.replicate (7 - (lg_sl ([.ref h0, .int x, .int w])).length) Slot.unset).toArray = ls at hl ⊢
  have hl : lv_has ls 7 [(0, .ref h0), (1, .int x), (2, .int w)] := hl
  have hj67 : ∀ (x6_67 : Int32) (x4_67 : Int64) (x3_67 : Int32) (y0_67 : Int32) (_ : iv 0 24 x6_67) (_ : iv 0 24 x3_67) (_ : iv 0 1079 x) (_ : iv 0 10 w) (_ : iv 0 1 y0_67) (_ : (y0_67.toInt = 1 ∧ isq T9 (lg 1 w.toNatClampNeg).toInt) ∨ (y0_67.toInt = 0 ∧ ¬ (isq T9 (lg 1 w.toNatClampNeg).toInt))) (H : Heap) (locs : List Loc) (ls : Array Slot), va_P (dC, dI) vwCl (mW h0 ad cid sg gm lg) H → va_D A (mW h0 ad cid sg gm lg) → va_S A s.heap H locs → lv_has ls 7 [(6, .int x6_67), (4, .long x4_67), (3, .int x3_67), (0, .ref h0), (1, .int x), (2, .int w)] → W p l e (headSpec wm_X13_is ({ frames := 1, cells := 0, slots := 0, locals := 22 })).room s m ([.ref h0, .int x, .int w] : List Value).toArray below meth c H locs 0 0 (MQ below (va_Qi (fun r v => (iv 0 1 r) ∧ ((r.toInt = 1 ∧ isq T9 (lg 1 w.toNatClampNeg).toInt) ∨ (r.toInt = 0 ∧ ¬ (isq T9 (lg 1 w.toNatClampNeg).toInt))) ∧ v = (sg, gm, lg)) (MB dC dI h0 ad cid A) A) ([.ref h0, .int x, .int w] : List Value).toArray s 0 0 A) (F0 m 67 ls [.int y0_67]) := by
    intro x6_67 x4_67 x3_67 y0_67 hx6_67 hx3_67 hsx1_67 hsx2_67 hy0_67 u67 H locs ls hP hD hS hl
    exact W.zret (v := y0_67) hx hb hr (iv_nb hy0_67) (fun t ht hW => ⟨⟨y0_67, (sg, gm, lg), rfl, ⟨hy0_67, (u67), rfl⟩, by rw [ht]; exact hP, va_K.moved hW.alike hK, hD⟩, hS.F ht⟩) hS.2.2 dX13_is_67
  have hj66 : ∀ (x6_66 : Int32) (x4_66 : Int64) (x3_66 : Int32) (_ : iv 0 24 x6_66) (_ : iv 0 24 x3_66) (_ : iv 0 1079 x) (_ : iv 0 10 w) (_ : ¬ (isq T9 (lg 1 w.toNatClampNeg).toInt)) (H : Heap) (locs : List Loc) (ls : Array Slot), va_P (dC, dI) vwCl (mW h0 ad cid sg gm lg) H → va_D A (mW h0 ad cid sg gm lg) → va_S A s.heap H locs → lv_has ls 7 [(6, .int x6_66), (4, .long x4_66), (3, .int x3_66), (0, .ref h0), (1, .int x), (2, .int w)] → W p l e (headSpec wm_X13_is ({ frames := 1, cells := 0, slots := 0, locals := 22 })).room s m ([.ref h0, .int x, .int w] : List Value).toArray below meth c H locs 0 0 (MQ below (va_Qi (fun r v => (iv 0 1 r) ∧ ((r.toInt = 1 ∧ isq T9 (lg 1 w.toNatClampNeg).toInt) ∨ (r.toInt = 0 ∧ ¬ (isq T9 (lg 1 w.toNatClampNeg).toInt))) ∧ v = (sg, gm, lg)) (MB dC dI h0 ad cid A) A) ([.ref h0, .int x, .int w] : List Value).toArray s 0 0 A) (F0 m 66 ls []) := by
    intro x6_66 x4_66 x3_66 hx6_66 hx3_66 hsx1_66 hsx2_66 u66 H locs ls hP hD hS hl
    refine lv_iconst (v := 0) hx hb dX13_is_66 (by decide) ?_
    exact hj67 x6_66 x4_66 x3_66 0 hx6_66 hx3_66 hsx1_66 hsx2_66 (iv_w (iv_k (by decide) : iv 0 0 0) (by decide)) (Or.inr ⟨rfl, u66⟩) _ _ _ hP hD hS (lv_sub hl [0, 1, 2, 3, 4, 5] rfl)
  have hj46 : ∀ (x6_46 : Int32) (x4_46 : Int64) (x3_46 : Int32) (_ : iv 0 24 x6_46) (_ : iv 0 24 x3_46) (_ : iv 0 1079 x) (_ : iv 0 10 w) (_ : x3_46.toInt = (T9.length : Int)) (_ : T9.length < 8 → x4_46.toInt = fdI T9 0) (_ : 8 ≤ T9.length → x4_46.toInt = 0) (H : Heap) (locs : List Loc) (ls : Array Slot), va_P (dC, dI) vwCl (mW h0 ad cid sg gm lg) H → va_D A (mW h0 ad cid sg gm lg) → va_S A s.heap H locs → lv_has ls 7 [(6, .int x6_46), (4, .long x4_46), (3, .int x3_46), (0, .ref h0), (1, .int x), (2, .int w)] → W p l e (headSpec wm_X13_is ({ frames := 1, cells := 0, slots := 0, locals := 22 })).room s m ([.ref h0, .int x, .int w] : List Value).toArray below meth c H locs 0 0 (MQ below (va_Qi (fun r v => (iv 0 1 r) ∧ ((r.toInt = 1 ∧ isq T9 (lg 1 w.toNatClampNeg).toInt) ∨ (r.toInt = 0 ∧ ¬ (isq T9 (lg 1 w.toNatClampNeg).toInt))) ∧ v = (sg, gm, lg)) (MB dC dI h0 ad cid A) A) ([.ref h0, .int x, .int w] : List Value).toArray s 0 0 A) (F0 m 46 ls []) := by
    intro x6_46 x4_46 x3_46 hx6_46 hx3_46 hsx1_46 hsx2_46 h2 hv46 hv8 H locs ls hP hD hS hl
    refine lv_iload_n hx hb dX13_is_46 rfl (lv_at hl 2 rfl) ?_
    refine lv_if_le (tgt := 66) hx hb dX13_is_47 (by decide) (fun c_1 => ?_) (fun c_1 => ?_)
    · have h_2 : iv 0 0 x3_46 := iv_leL c_1 hx3_46 (iv_k (by decide) : iv 0 0 0) (by decide)
      exact hj66 x6_46 x4_46 x3_46 hx6_46 (iv_w h_2 (by decide)) hsx1_46 hsx2_46 ((fun q => absurd q.1 (by have := h2; have := i32_0; have := i32_1; have := i32_2; have := i32_m1; have := (hsx1_46).1; have := (hsx1_46).2; have := (hsx2_46).1; have := (hsx2_46).2; have := (hx6_46).1; have := (hx6_46).2; have := (h_2).1; have := (h_2).2; omega))) _ _ _ hP hD hS (lv_sub hl [0, 1, 2, 3, 4, 5] rfl)
    · have h_3 : iv 1 24 x3_46 := iv_ltR (i32_lt c_1) (iv_k (by decide) : iv 0 0 0) hx3_46 (by decide)
      refine lv_lload hx hb dX13_is_50 (lv_at hl 1 rfl) ?_
      refine lv_aload_n hx hb dX13_is_52 rfl (lv_at hl 3 rfl) ?_
      refine mr_get (v := .ref (ad 1)) hx hb htb inX13 hown hK hP 1 (by decide) (htb _ kw_156) rfl dX13_is_53 ?_
      refine lv_iload_n hx hb dX13_is_56 rfl (lv_at hl 5 rfl) ?_
      refine mr_lald hx hb hK hP 1 (k := 1) rfl rfl rfl (show vp_in w 11 from (iv_in hsx2_46 (by decide))) dX13_is_57 ?_
      refine lv_topl (fun z_4 ez_4 => ?_)
      refine W.lcmp hx hb dX13_is_58 ?_
      refine lv_topi (fun z_5 ez_5 => ?_)
      have hz_5 : iv (-1) 1 z_5 := iv_of ez_5 (iv_cmp _ _)
      refine lv_if_ne (tgt := 66) hx hb dX13_is_59 (by decide) (fun c_6 => ?_) (fun c_6 => ?_)
      · have d_7 : ¬ (z_5 : Int32).toInt = 0 := lv_neT c_6 rfl
        exact hj66 x6_46 x4_46 x3_46 hx6_46 (iv_w h_3 (by decide)) hsx1_46 hsx2_46 ((fun q => c_6 (by rw [ez_5]; exact (lg_cmp_eq _ _).mpr (Int64.toInt_inj.mp (by rw [ez_4]; exact (hv46 q.2.1).trans q.2.2))))) _ _ _ hP hD hS (lv_sub hl [0, 1, 2, 3, 4, 5] rfl)
      · have h_8 : iv 0 0 z_5 := iv_eq c_6 hz_5 (iv_k (by decide) : iv 0 0 0) (by decide)
        refine lv_iconst (v := 1) hx hb dX13_is_62 (by decide) ?_
        refine lv_goto (tgt := 67) hx hb dX13_is_63 (by decide) ?_
        exact hj67 x6_46 x4_46 x3_46 1 hx6_46 (iv_w h_3 (by decide)) hsx1_46 hsx2_46 (iv_w (iv_k (by decide) : iv 1 1 1) (by decide)) ((by have q7 : x4_46.toInt = (lg 1 w.toNatClampNeg).toInt := (by have q8 := (lg_cmp_eq _ _).mp (show lg_cmp x4_46 z_4 = 0 from (by rw [← ez_5]; exact c_6)); rw [q8, ez_4]); have h8 : T9.length < 8 := (by by_cases q : T9.length < 8; exact q; exact absurd ((hv8 (by omega)).symm.trans q7).symm hw0); exact Or.inl ⟨rfl, (by have := h2; have := i32_0; have := i32_1; have := i32_2; have := i32_m1; have := (hsx1_46).1; have := (hsx1_46).2; have := (hsx2_46).1; have := (hsx2_46).2; have := (hx6_46).1; have := (hx6_46).2; have := (h_3).1; have := (h_3).2; have := (h_8).1; have := (h_8).2; omega), h8, (hv46 h8).symm.trans q7⟩)) _ _ _ hP hD hS (lv_sub hl [0, 1, 2, 3, 4, 5] rfl)
  have hj12 : ∀ (n : Nat) (x6_12 : Int32) (x4_12 : Int64) (x3_12 : Int32) (_ : (24 - x6_12.toInt).toNat = n) (_ : iv 0 24 x6_12) (_ : iv 0 24 x3_12) (_ : iv 0 1079 x) (_ : iv 0 10 w) (_ : x3_12.toInt = (T9.length : Int)) (_ : fdI T9 0 = fdI (T9.drop x6_12.toNatClampNeg) x4_12.toInt ∧ 0 ≤ x4_12.toInt ∧ x4_12.toInt < 256 ^ x6_12.toNatClampNeg) (_ : 8 ≤ T9.length → x4_12.toInt = 0) (H : Heap) (locs : List Loc) (ls : Array Slot), va_P (dC, dI) vwCl (mW h0 ad cid sg gm lg) H → va_D A (mW h0 ad cid sg gm lg) → va_S A s.heap H locs → lv_has ls 7 [(6, .int x6_12), (4, .long x4_12), (3, .int x3_12), (0, .ref h0), (1, .int x), (2, .int w)] → W p l e (headSpec wm_X13_is ({ frames := 1, cells := 0, slots := 0, locals := 22 })).room s m ([.ref h0, .int x, .int w] : List Value).toArray below meth c H locs 0 0 (MQ below (va_Qi (fun r v => (iv 0 1 r) ∧ ((r.toInt = 1 ∧ isq T9 (lg 1 w.toNatClampNeg).toInt) ∨ (r.toInt = 0 ∧ ¬ (isq T9 (lg 1 w.toNatClampNeg).toInt))) ∧ v = (sg, gm, lg)) (MB dC dI h0 ad cid A) A) ([.ref h0, .int x, .int w] : List Value).toArray s 0 0 A) (F0 m 12 ls []) := by
    intro n
    induction n using Nat.strongRecOn with
    | ind n ih12 =>
      intro x6_12 x4_12 x3_12 hn12 hx6_12 hx3_12 hsx1_12 hsx2_12 h2 hv hz8 H locs ls hP hD hS hl
      refine lv_iload hx hb dX13_is_12 (lv_at hl 0 rfl) ?_
      refine lv_iload_n hx hb dX13_is_14 rfl (lv_at hl 2 rfl) ?_
      refine lv_icmp_ge (tgt := 46) hx hb dX13_is_15 (by decide) (fun c_9 => ?_) (fun c_9 => ?_)
      · have d_10 : (x3_12 : Int32).toInt ≤ (x6_12 : Int32).toInt := Int32.le_iff_toInt_le.mp c_9
        exact hj46 x6_12 x4_12 x3_12 hx6_12 hx3_12 hsx1_12 hsx2_12 (h2) ((fun _ => is_e hv.1 hv.2.1 (by have := h2; have q1 : x6_12.toNatClampNeg = x6_12.toInt.toNat := rfl; have := i32_0; have := i32_1; have := i32_2; have := i32_m1; have := (hsx1_12).1; have := (hsx1_12).2; have := (hsx2_12).1; have := (hsx2_12).2; have := (hx6_12).1; have := (hx6_12).2; have := (hx3_12).1; have := (hx3_12).2; omega))) ((fun q => hz8 q)) _ _ _ hP hD hS (lv_sub hl [0, 1, 2, 3, 4, 5] rfl)
      · have d_11 : (x6_12 : Int32).toInt < (x3_12 : Int32).toInt := Int32.lt_iff_toInt_lt.mp (i32_lt c_9)
        have h_12 : iv 0 23 x6_12 := iv_ltL (i32_lt c_9) hx6_12 hx3_12 (by decide)
        have h_13 : iv 1 24 x3_12 := iv_ltR (i32_lt c_9) hx6_12 hx3_12 (by decide)
        refine lv_iload_n hx hb dX13_is_18 rfl (lv_at hl 2 rfl) ?_
        refine lv_bipush (v := 8) hx hb dX13_is_19 (by decide) ?_
        refine lv_icmp_ge (tgt := 46) hx hb dX13_is_21 (by decide) (fun c_14 => ?_) (fun c_14 => ?_)
        · have h_15 : iv 8 24 x3_12 := iv_leR c_14 (iv_k (by decide) : iv 8 8 8) h_13 (by decide)
          exact hj46 x6_12 x4_12 x3_12 (iv_w h_12 (by decide)) (iv_w h_15 (by decide)) hsx1_12 hsx2_12 (h2) ((fun q => absurd q (by have := h2; have := i32_0; have := i32_1; have := i32_2; have := i32_m1; have := (hsx1_12).1; have := (hsx1_12).2; have := (hsx2_12).1; have := (hsx2_12).2; have := (h_12).1; have := (h_12).2; have := (h_15).1; have := (h_15).2; omega))) ((fun q => hz8 q)) _ _ _ hP hD hS (lv_sub hl [0, 1, 2, 3, 4, 5] rfl)
        · have h_16 : iv 1 7 x3_12 := iv_ltL (i32_lt c_14) h_13 (iv_k (by decide) : iv 8 8 8) (by decide)
          refine lv_lload hx hb dX13_is_24 (lv_at hl 1 rfl) ?_
          refine lv_bipush (v := 8) hx hb dX13_is_26 (by decide) ?_
          refine lv_lshl (v := x4_12 <<< ((8 : Int32).toInt64 &&& 63)) hx hb dX13_is_28 rfl ?_
          refine lv_topl (fun z_17 ez_17 => ?_)
          refine lv_aload_n hx hb dX13_is_29 rfl (lv_at hl 3 rfl) ?_
          refine lv_iload_n hx hb dX13_is_30 rfl (lv_at hl 4 rfl) ?_
          refine lv_iload hx hb dX13_is_31 (lv_at hl 0 rfl) ?_
          refine mr_calli (rest := [.long z_17]) ⟨hx, hb, hml, hown, htb⟩ (f_sign9 l dC dI h0 ad cid sg gm lg x x6_12 rg T9 hI hsx1_12 h_12 hRW hT (by have := h2; have := i32_0; have := i32_1; have := i32_2; have := i32_m1; have := (hsx1_12).1; have := (hsx1_12).2; have := (hsx2_12).1; have := (hsx2_12).2; have := (h_12).1; have := (h_12).2; have := (h_16).1; have := (h_16).2; omega)) (cwV 2 htb (gd_V kw_1236 kw_1237 kw_1238 kw_5 kw_1627) rfl rfl rfl (by decide +kernel) ⟨Nat.le_of_ble_eq_true rfl, Nat.le_of_ble_eq_true rfl⟩) rfl hl.1 rfl (Nat.le_of_ble_eq_true rfl) dX13_is_33 ⟨Nat.zero_le _, Nat.zero_le _⟩ hK hP hD hS hA (fun r_18 u_19 H locs hw hP hD hS => ?_)
          obtain ⟨hr_18, fs_r_18, rfl⟩ := hw
          have hP : va_P (dC, dI) vwCl (mW h0 ad cid sg gm lg) H := hP
          have hD : va_D A (mW h0 ad cid sg gm lg) := hD
          refine lv_i2l (v := (r_18 : Int32).toInt64) hx hb dX13_is_36 rfl ?_
          refine lv_topl (fun z_20 ez_20 => ?_)
          refine lv_lor hx hb dX13_is_37 ?_
          refine lv_topl (fun z_21 ez_21 => ?_)
          refine lv_lstore (lv' := [(4, .long z_21), (6, .int x6_12), (3, .int x3_12), (0, .ref h0), (1, .int x), (2, .int w)]) hx hb dX13_is_38 hl (by decide) rfl (fun ls hl => ?_)
          obtain ⟨z_22, ez_22⟩ : ∃ z : Int32, z = x6_12 + 1 := ⟨_, rfl⟩
          have hz_22 : iv 1 24 z_22 := iv_of ez_22 (iv_add h_12 (iv_k (by decide) : iv 1 1 1) (by decide))
          have tz_22 : z_22.toInt = x6_12.toInt + 1 := by rw [ez_22]; exact iv_addE h_12 (iv_k (by decide) : iv 1 1 1) (by decide)
          refine lv_iinc (v := z_22) (lv' := [(6, .int z_22), (4, .long z_21), (3, .int x3_12), (0, .ref h0), (1, .int x), (2, .int w)]) hx hb dX13_is_40 hl (k := 1) rfl ez_22.symm (by decide) rfl (fun ls hl => ?_)
          refine lv_goto (tgt := 12) hx hb dX13_is_43 (by decide) ?_
          exact ih12 _ (by rw [← hn12]; exact (iv_meas tz_22 h_12 (by decide))) z_22 z_21 x3_12 rfl (iv_w hz_22 (by decide)) (iv_w h_16 (by decide)) hsx1_12 hsx2_12 (h2) ((by have hk : x6_12.toNatClampNeg < T9.length := (by have := h2; have q1 : x6_12.toNatClampNeg = x6_12.toInt.toNat := rfl; have := i32_0; have := i32_1; have := i32_2; have := i32_m1; have := (hsx1_12).1; have := (hsx1_12).2; have := (hsx2_12).1; have := (hsx2_12).2; have := (h_12).1; have := (h_12).2; have := (h_16).1; have := (h_16).2; have := (hr_18).1; have := (hr_18).2; have := (hz_22).1; have := (hz_22).2; omega); have hc := hT.2.1 _ (List.mem_of_getElem? (gd9 (d := 0) hk)); have q9 := fs_r_18; have e9 : z_21.toInt = 256 * x4_12.toInt + r_18.toInt := (by rw [ez_21, ez_17, ez_20]; exact lor8 hv.2.1 (p256 hv.2.2 (by have q1 : x6_12.toNatClampNeg = x6_12.toInt.toNat := rfl; have := i32_0; have := i32_1; have := i32_2; have := i32_m1; have := (hsx1_12).1; have := (hsx1_12).2; have := (hsx2_12).1; have := (hsx2_12).2; have := (h_12).1; have := (h_12).2; have := (h_16).1; have := (h_16).2; have := (hr_18).1; have := (hr_18).2; have := (hz_22).1; have := (hz_22).2; omega)) (by omega) (by omega)); rw [show z_22.toNatClampNeg = x6_12.toNatClampNeg + 1 from (by have q1 : z_22.toNatClampNeg = z_22.toInt.toNat := rfl; have q1 : x6_12.toNatClampNeg = x6_12.toInt.toNat := rfl; have := i32_0; have := i32_1; have := i32_2; have := i32_m1; have := (hsx1_12).1; have := (hsx1_12).2; have := (hsx2_12).1; have := (hsx2_12).2; have := (h_12).1; have := (h_12).2; have := (h_16).1; have := (h_16).2; have := (hr_18).1; have := (hr_18).2; have := (hz_22).1; have := (hz_22).2; omega), e9, q9]; exact ⟨by rw [hv.1, fdI_s hk], (by have := hv.2.1; omega), p256s hv.2.2 hc.2⟩)) ((fun q => absurd q (by have := h2; have := i32_0; have := i32_1; have := i32_2; have := i32_m1; have := (hsx1_12).1; have := (hsx1_12).2; have := (hsx2_12).1; have := (hsx2_12).2; have := (h_12).1; have := (h_12).2; have := (h_16).1; have := (h_16).2; have := (hr_18).1; have := (hr_18).2; have := (hz_22).1; have := (hz_22).2; omega))) _ _ _ hP hD hS (lv_sub hl [0, 1, 2, 3, 4, 5] rfl)
  refine lv_aload_n hx hb dX13_is_0 rfl (lv_at hl 0 rfl) ?_
  refine lv_iload_n hx hb dX13_is_1 rfl (lv_at hl 1 rfl) ?_
  refine mr_calli (rest := []) ⟨hx, hb, hml, hown, htb⟩ (f_length9 l dC dI h0 ad cid sg gm lg x rg T9 hI hvx hRW hT) (cwV 1 htb (gd_V kw_1233 kw_1234 kw_1235 kw_5 kw_1626) rfl rfl rfl (by decide +kernel) ⟨Nat.le_of_ble_eq_true rfl, Nat.le_of_ble_eq_true rfl⟩) rfl hl.1 rfl (Nat.le_of_ble_eq_true rfl) dX13_is_2 ⟨Nat.zero_le _, Nat.zero_le _⟩ hK hP hD hS hA (fun r_23 u_24 H locs hw hP hD hS => ?_)
  obtain ⟨hr_23, fl_r_23, rfl⟩ := hw
  have hP : va_P (dC, dI) vwCl (mW h0 ad cid sg gm lg) H := hP
  have hD : va_D A (mW h0 ad cid sg gm lg) := hD
  refine lv_istore_n (lv' := [(3, .int r_23), (0, .ref h0), (1, .int x), (2, .int w)]) hx hb dX13_is_5 rfl hl (by decide) rfl (fun ls hl => ?_)
  refine lv_lconst (v := 0) hx hb dX13_is_6 (by decide) ?_
  refine lv_lstore (lv' := [(4, .long 0), (3, .int r_23), (0, .ref h0), (1, .int x), (2, .int w)]) hx hb dX13_is_7 hl (by decide) rfl (fun ls hl => ?_)
  refine lv_iconst (v := 0) hx hb dX13_is_9 (by decide) ?_
  refine lv_istore (lv' := [(6, .int 0), (4, .long 0), (3, .int r_23), (0, .ref h0), (1, .int x), (2, .int w)]) hx hb dX13_is_10 hl (by decide) rfl (fun ls hl => ?_)
  exact hj12 _ 0 0 r_23 rfl (iv_w (iv_k (by decide) : iv 0 0 0) (by decide)) hr_23 hvx hvw (fl_r_23) (⟨rfl, Int.le_refl _, (by decide)⟩) ((fun _ => rfl)) _ _ _ hP hD hS (lv_sub hl [0, 1, 2, 3, 4, 5] rfl)
end
section
section WF9
variable {wg rg : Nat → Nat → Int32} {wl : Nat → Nat → Int64} {ob : List Ob9} {c : Nat} {V : List Int} {kd v : Int32} {t : Int}
/-- the words of truth -/
def WD9 (lg : Nat → Nat → Int64) : Prop := (lg 1 9).toInt = 1953658213 ∧ (lg 1 10).toInt = 439721161573
theorem wC_9 (h : (wg 25 c).toInt = 9) : wCo wg wl ob c V t = if 3 ≤ t then 0 else -1 := by
  unfold wCo; rw [if_neg (by omega), if_pos h]
theorem wC_6 (h : (wg 25 c).toInt = 6) : wCo wg wl ob c V t = if t = 4 then 0 else -1 := by
  unfold wCo; rw [if_neg (by omega), if_neg (by omega), if_pos h]
theorem wC_7 (h : (wg 25 c).toInt = 7) : wCo wg wl ob c V t = wTx wg wl c t := by
  unfold wCo; rw [if_pos h]
theorem wC_o (h : VR9 wg wl rg ob c V kd v) (hk : kd.toInt = 1) : wCo wg wl ob c V t = wOb wg ob v.toInt t := by
  obtain ⟨⟨h1, h2, h3⟩, hV, _⟩ := VR_1 h hk
  unfold wCo; rw [if_neg h2, if_neg h3, if_neg h1, hV]; rfl
theorem wO_h {o u cl : Int} (ht : 8 ≤ t) (hc : ((ob[o.toNat]?).getD (0, 0)).1 = cl) (h : stF wg (t - 8) 8 cl 0 = u) (hu : 0 ≤ u) : wOb wg ob o t = 2 * u := by
  unfold wOb; rw [hc, h, if_neg (by omega), if_neg (by omega)]
theorem wO_n {o cl : Int} (hc : ((ob[o.toNat]?).getD (0, 0)).1 = cl) (h : stF wg (t - 8) 8 cl 0 = -1) : wOb wg ob o t = -1 := by
  unfold wOb; rw [hc, h]
  by_cases q : t < 8
  · rw [if_pos q]
  · rw [if_neg q, if_pos rfl]
theorem vC_9 (h : (wg 25 c).toInt = 9) : vCo wg wl c V t = -1 := by unfold vCo; rw [if_neg (by omega), if_pos h]
theorem vC_6 (h : (wg 25 c).toInt = 6) : vCo wg wl c V t = 2000 + (wg 18 c).toInt := by unfold vCo; rw [if_neg (by omega), if_neg (by omega), if_pos h]
theorem vC_7 (h : (wg 25 c).toInt = 7) : vCo wg wl c V t = vTx wg wl c t := by unfold vCo; rw [if_pos h]
theorem vC_o (h : VR9 wg wl rg ob c V kd v) (hk : kd.toInt = 1) : vCo wg wl c V t = 3000 + v.toInt := by
  obtain ⟨⟨h1, h2, h3⟩, hV, _⟩ := VR_1 h hk
  unfold vCo; rw [if_neg h2, if_neg h3, if_neg h1, hV]; rfl
end WF9
end
section
set_option maxHeartbeats 4000000 in
set_option maxRecDepth 100000 in
theorem f_weight9 (l : Launch) (dC : Nat → ClassId) (dI : Nat → Nat → Nat) (h0 : Nat) (ad : Nat → Nat) (cid : Nat → ClassId) (sg : Nat → Int32) (gm : Nat → Nat → Int32) (lg : Nat → Nat → Int64) (kd : Int32) (vl : Int32) (ty : Int32) (wg : Nat → Nat → Int32) (wl : Nat → Nat → Int64) (rg : Nat → Nat → Int32) (S : S9) (c9 : Nat) (V9 : List Int) (hI : MI sg gm) (hvkd : iv 0 3 kd) (hvvl : iv 0 1079 vl) (hvo : vok kd vl) (hPR : PR gm) (hRW : rt9 gm = rg) (hCL : CLS9 wg rg) (hRR : RR wg wl S sg gm) (hWD : WD9 lg) (hV : VR9 wg wl rg (zO S) c9 V9 kd vl) (hty : ty9 ty.toInt) : MMi l dC dI yX13_weight wm_X13_weight ({ frames := 2, cells := 0, slots := 0, locals := 49 }) h0 ad cid [.int kd, .int vl, .int ty] sg gm lg (fun r v => (iv (-1) 14 r) ∧ (r.toInt = wCo wg wl (zO S) c9 V9 ty.toInt) ∧ v = (sg, gm, lg)) := by
  intro sz
  refine Met.ofW (cc := cX13_weight) (maxL := 6) (ret := (some .int)) (by decide) rfl ?_
  intro p e s m args below meth c s₁ B hml hv
  obtain ⟨rfl, hsz, hP, hK, hD0⟩ := hv
  have hx := B.exec
  have hb := B.bytes
  have hr := B.returns
  have hts := atoms_spec (ws := wm_X13_weight) B.pre
  have htb := fun (w : Cond) (h : w ∈ tb) => hts w (List.mem_cons_of_mem _ h)
  have hown : s.vm.findClass RX13 = some m.cls := findClass_of_methodNamed B.named
  have hlocks := B.notSynchronized
  subst hsz
  have hD := hD0.self (sz := s.heap.size)
  generalize hAe : va_A (mW h0 ad cid sg gm lg) s.heap.size = A at hD ⊢
  have hA : ∀ q : Nat, s.heap.size ≤ q → A q := fun q h => by rw [← hAe]; exact Or.inr h
  have hS : va_S A s.heap s.heap [] := va_S.rf
  have hl := lv_entry ([.ref h0, .int kd, .int vl, .int ty]) (n := 6) (Nat.le_of_ble_eq_true rfl)
  rw [lg_entry_eq]
  generalize (lg_sl ([.ref h0, .int kd, .int vl, .int ty]) ++ List.replicate (6 - (lg_sl ([.ref h0, .int kd, .int vl, .int ty])).length) Slot.unset).toArray = ls at hl ⊢
  have hl : lv_has ls 6 [(0, .ref h0), (1, .int kd), (2, .int vl), (3, .int ty)] := hl
  have hj59 : ∀ (n : Nat) (x5_59 : Int32) (x4_59 : Int32) (_ : (x5_59.toInt + 1).toNat = n) (_ : iv (-1) 7 x5_59) (_ : iv 0 8 x4_59) (_ : iv 1 1 kd) (_ : iv 0 59 vl) (_ : kd.toInt = 1) (_ : (((zO S)[vl.toInt.toNat]?).getD (0, 0)).1 = (gm 53 vl.toNatClampNeg).toInt) (_ : stF wg (ty.toInt - 8) 8 (gm 53 vl.toNatClampNeg).toInt 0 = stF wg (ty.toInt - 8) (x5_59.toInt + 1).toNat x5_59.toInt x4_59.toInt) (_ : 0 ≤ x4_59.toInt ∧ x4_59.toInt + x5_59.toInt ≤ 7) (H : Heap) (locs : List Loc) (ls : Array Slot), va_P (dC, dI) vwCl (mW h0 ad cid sg gm lg) H → va_D A (mW h0 ad cid sg gm lg) → va_S A s.heap H locs → lv_has ls 6 [(5, .int x5_59), (4, .int x4_59), (0, .ref h0), (1, .int kd), (2, .int vl), (3, .int ty)] → W p l e (headSpec wm_X13_weight ({ frames := 2, cells := 0, slots := 0, locals := 49 })).room s m ([.ref h0, .int kd, .int vl, .int ty] : List Value).toArray below meth c H locs 0 0 (MQ below (va_Qi (fun r v => (iv (-1) 14 r) ∧ (r.toInt = wCo wg wl (zO S) c9 V9 ty.toInt) ∧ v = (sg, gm, lg)) (MB dC dI h0 ad cid A) A) ([.ref h0, .int kd, .int vl, .int ty] : List Value).toArray s 0 0 A) (F0 m 59 ls []) := by
    intro n
    induction n using Nat.strongRecOn with
    | ind n ih59 =>
      intro x5_59 x4_59 hn59 hx5_59 hx4_59 hsx1_59 hsx2_59 hk1 hcl hst h45 H locs ls hP hD hS hl
      refine lv_iload hx hb dX13_weight_59 (lv_at hl 0 rfl) ?_
      refine lv_iconst (v := (-1)) hx hb dX13_weight_61 (by decide) ?_
      refine lv_icmp_eq (tgt := 94) hx hb dX13_weight_62 (by decide) (fun c_1 => ?_) (fun c_1 => ?_)
      · have h_2 : iv (-1) (-1) x5_59 := iv_eq c_1 hx5_59 (iv_k (by decide) : iv (-1) (-1) (-1)) (by decide)
        refine lv_iconst (v := (-1)) hx hb dX13_weight_94 (by decide) ?_
        exact W.iret (v := (-1)) hx hb hr (fun t ht hW => ⟨⟨(-1), (sg, gm, lg), rfl, ⟨(iv_w (iv_k (by decide) : iv (-1) (-1) (-1)) (by decide)), ((by rw [wC_o hV hk1, wO_n hcl (by rw [hst, stF_o (by have := i32_0; have := i32_1; have := i32_2; have := i32_m1; have := (hsx1_59).1; have := (hsx1_59).2; have := (hsx2_59).1; have := (hsx2_59).2; have := (h_2).1; have := (h_2).2; have := (hx4_59).1; have := (hx4_59).2; omega)])]; rfl)), rfl⟩, by rw [ht]; exact hP, va_K.moved hW.alike hK, hD⟩, hS.F ht⟩) hS.2.2 dX13_weight_95
      · have h_3 : iv 0 7 x5_59 := iv_neL c_1 hx5_59 (by decide)
        have h47 : iv 0 7 x4_59 := ⟨h45.1, (by have := h45; have := i32_0; have := i32_1; have := i32_2; have := i32_m1; have := (hsx1_59).1; have := (hsx1_59).2; have := (hsx2_59).1; have := (hsx2_59).2; have := (h_3).1; have := (h_3).2; have := (hx4_59).1; have := (hx4_59).2; omega)⟩
        refine lv_iload_n hx hb dX13_weight_65 rfl (lv_at hl 5 rfl) ?_
        refine lv_bipush (v := 8) hx hb dX13_weight_66 (by decide) ?_
        refine lv_iload hx hb dX13_weight_68 (lv_at hl 0 rfl) ?_
        refine lv_iadd hx hb dX13_weight_70 ?_
        refine lv_topi (fun z_4 ez_4 => ?_)
        have hz_4 : iv 8 15 z_4 := iv_of ez_4 (iv_add (iv_k (by decide) : iv 8 8 8) h_3 (by decide))
        have tz_4 : z_4.toInt = 8 + (x5_59 : Int32).toInt := by rw [ez_4]; exact iv_addE (iv_k (by decide) : iv 8 8 8) h_3 (by decide)
        refine lv_icmp_ne (tgt := 79) hx hb dX13_weight_71 (by decide) (fun c_5 => ?_) (fun c_5 => ?_)
        · obtain ⟨z_6, ez_6⟩ : ∃ z : Int32, z = x4_59 + 1 := ⟨_, rfl⟩
          have hz_6 : iv 1 8 z_6 := iv_of ez_6 (iv_add h47 (iv_k (by decide) : iv 1 1 1) (by decide))
          have tz_6 : z_6.toInt = x4_59.toInt + 1 := by rw [ez_6]; exact iv_addE h47 (iv_k (by decide) : iv 1 1 1) (by decide)
          refine lv_iinc (v := z_6) (lv' := [(4, .int z_6), (5, .int x5_59), (0, .ref h0), (1, .int kd), (2, .int vl), (3, .int ty)]) hx hb dX13_weight_79 hl (k := 1) rfl ez_6.symm (by decide) rfl (fun ls hl => ?_)
          refine lv_aload_n hx hb dX13_weight_82 rfl (lv_at hl 2 rfl) ?_
          refine mr_get (v := .ref (ad 6)) hx hb htb inX13 hown hK hP 6 (by decide) (htb _ kw_165) rfl dX13_weight_83 ?_
          refine lv_iload hx hb dX13_weight_86 (lv_at hl 1 rfl) ?_
          refine mr_iald hx hb hK hP 5 (k := 6) rfl rfl rfl (show vp_in x5_59 8 from (iv_in h_3 (by decide))) dX13_weight_88 ?_
          refine lv_topi (fun z_7 ez_7 => ?_)
          have hz_7 : iv (-1) 7 z_7 := iv_of ez_7 (MI_a hI 6 h_3 (by decide))
          refine lv_istore (lv' := [(5, .int z_7), (4, .int z_6), (0, .ref h0), (1, .int kd), (2, .int vl), (3, .int ty)]) hx hb dX13_weight_89 hl (by decide) rfl (fun ls hl => ?_)
          refine lv_goto (tgt := 59) hx hb dX13_weight_91 (by decide) ?_
          exact ih59 _ (by rw [← hn59]; exact (PR_dec hPR h_3 ez_7)) z_7 z_6 rfl hz_7 (iv_w hz_6 (by decide)) hsx1_59 hsx2_59 (hk1) (hcl) ((by have q9 := stR_up hCL hRW hPR h_3 hst (fun q7 => (fun q7 => c_5 (Int32.toInt_inj.mp q7)) (show ty.toInt = z_4.toInt from (by have := i32_0; have := i32_1; have := i32_2; have := i32_m1; have := (hsx1_59).1; have := (hsx1_59).2; have := (hsx2_59).1; have := (hsx2_59).2; have := (h_3).1; have := (h_3).2; have := (h47).1; have := (h47).2; have := (hz_4).1; have := (hz_4).2; have := (hz_6).1; have := (hz_6).2; have := (hz_7).1; have := (hz_7).2; omega))) ez_7; rw [show x4_59.toInt + 1 = z_6.toInt from (by have := i32_0; have := i32_1; have := i32_2; have := i32_m1; have := (hsx1_59).1; have := (hsx1_59).2; have := (hsx2_59).1; have := (hsx2_59).2; have := (h_3).1; have := (h_3).2; have := (h47).1; have := (h47).2; have := (hz_4).1; have := (hz_4).2; have := (hz_6).1; have := (hz_6).2; have := (hz_7).1; have := (hz_7).2; omega)] at q9; exact q9)) (⟨(by have := h45; have := i32_0; have := i32_1; have := i32_2; have := i32_m1; have := (hsx1_59).1; have := (hsx1_59).2; have := (hsx2_59).1; have := (hsx2_59).2; have := (h_3).1; have := (h_3).2; have := (h47).1; have := (h47).2; have := (hz_4).1; have := (hz_4).2; have := (hz_6).1; have := (hz_6).2; have := (hz_7).1; have := (hz_7).2; omega), (by have q9 := PR_dec hPR h_3 ez_7; have := h45; have := i32_0; have := i32_1; have := i32_2; have := i32_m1; have := (hsx1_59).1; have := (hsx1_59).2; have := (hsx2_59).1; have := (hsx2_59).2; have := (h_3).1; have := (h_3).2; have := (h47).1; have := (h47).2; have := (hz_4).1; have := (hz_4).2; have := (hz_6).1; have := (hz_6).2; have := (hz_7).1; have := (hz_7).2; omega)⟩) _ _ _ hP hD hS (lv_sub hl [0, 1, 2, 3, 4, 5] rfl)
        · have d_8 : (ty : Int32).toInt = (z_4 : Int32).toInt := congrArg Int32.toInt c_5
          have h_9 : iv 8 15 ty := iv_eq c_5 (iv_all ty) hz_4 (by decide)
          refine lv_iconst (v := 2) hx hb dX13_weight_74 (by decide) ?_
          refine lv_iload hx hb dX13_weight_75 (lv_at hl 1 rfl) ?_
          refine lv_imul hx hb dX13_weight_77 ?_
          refine lv_topi (fun z_10 ez_10 => ?_)
          have hz_10 : iv 0 14 z_10 := iv_of ez_10 (iv_mul (iv_k (by decide) : iv 2 2 2) h47 (by decide))
          have tz_10 : z_10.toInt = 2 * (x4_59 : Int32).toInt := by rw [ez_10]; exact iv_mulE (iv_k (by decide) : iv 2 2 2) h47 (by decide)
          exact W.iret (v := z_10) hx hb hr (fun t ht hW => ⟨⟨z_10, (sg, gm, lg), rfl, ⟨(iv_w hz_10 (by decide)), ((by rw [wC_o hV hk1, wO_h (by have := i32_0; have := i32_1; have := i32_2; have := i32_m1; have := (hsx1_59).1; have := (hsx1_59).2; have := (hsx2_59).1; have := (hsx2_59).2; have := (h_3).1; have := (h_3).2; have := (h47).1; have := (h47).2; have := (hz_4).1; have := (hz_4).2; have := (h_9).1; have := (h_9).2; have := (hz_10).1; have := (hz_10).2; omega) hcl (stR_h hCL h_3 hst (by have := i32_0; have := i32_1; have := i32_2; have := i32_m1; have := (hsx1_59).1; have := (hsx1_59).2; have := (hsx2_59).1; have := (hsx2_59).2; have := (h_3).1; have := (h_3).2; have := (h47).1; have := (h47).2; have := (hz_4).1; have := (hz_4).2; have := (h_9).1; have := (h_9).2; have := (hz_10).1; have := (hz_10).2; omega)) h45.1]; have := i32_0; have := i32_1; have := i32_2; have := i32_m1; have := (hsx1_59).1; have := (hsx1_59).2; have := (hsx2_59).1; have := (hsx2_59).2; have := (h_3).1; have := (h_3).2; have := (h47).1; have := (h47).2; have := (hz_4).1; have := (hz_4).2; have := (h_9).1; have := (h_9).2; have := (hz_10).1; have := (hz_10).2; omega)), rfl⟩, by rw [ht]; exact hP, va_K.moved hW.alike hK, hD⟩, hS.F ht⟩) hS.2.2 dX13_weight_78
  refine lv_iload_n hx hb dX13_weight_0 rfl (lv_at hl 1 rfl) ?_
  refine lv_iconst (v := 2) hx hb dX13_weight_1 (by decide) ?_
  refine lv_icmp_ne (tgt := 27) hx hb dX13_weight_2 (by decide) (fun c_11 => ?_) (fun c_11 => ?_)
  · have d_12 : ¬ (kd : Int32).toInt = 2 := lv_neT c_11 rfl
    refine lv_iload_n hx hb dX13_weight_27 rfl (lv_at hl 1 rfl) ?_
    refine lv_iconst (v := 3) hx hb dX13_weight_28 (by decide) ?_
    refine lv_icmp_ne (tgt := 43) hx hb dX13_weight_29 (by decide) (fun c_13 => ?_) (fun c_13 => ?_)
    · have h_14 : iv 0 2 kd := iv_neH c_13 hvkd (by decide)
      refine lv_iload_n hx hb dX13_weight_43 rfl (lv_at hl 1 rfl) ?_
      refine lv_iconst (v := 1) hx hb dX13_weight_44 (by decide) ?_
      refine lv_icmp_ne (tgt := 96) hx hb dX13_weight_45 (by decide) (fun c_15 => ?_) (fun c_15 => ?_)
      · have d_16 : ¬ (kd : Int32).toInt = 1 := lv_neT c_15 rfl
        obtain ⟨h25, T9, hT9, hX9⟩ := VR_0 hV (by have := i32_0; have := i32_1; have := i32_2; have := i32_m1; have := (h_14).1; have := (h_14).2; have := (hvvl).1; have := (hvvl).2; omega)
        refine lv_iload_n hx hb dX13_weight_96 rfl (lv_at hl 3 rfl) ?_
        by_cases c_17 : (ty : Int32).toInt = 0
        · refine lv_tableIn (tgt := 128) hx hb dX13_weight_97 (by rw [c_17]; decide) (by rw [c_17]; decide) (by rw [c_17]; rfl) (by decide) ?_
          have h_18 : iv 0 0 ty := iv_at c_17
          refine lv_aload_n hx hb dX13_weight_128 rfl (lv_at hl 0 rfl) ?_
          refine lv_iload_n hx hb dX13_weight_129 rfl (lv_at hl 2 rfl) ?_
          refine mr_calll (rest := []) ⟨hx, hb, hml, hown, htb⟩ (f_numberIn9 l dC dI h0 ad cid sg gm lg vl rg T9 hI hvvl hRW hT9) (cwV 1 htb (gd_V kw_1227 kw_1228 kw_1229 kw_5 kw_1625) rfl rfl rfl (by decide +kernel) ⟨Nat.le_of_ble_eq_true rfl, Nat.le_of_ble_eq_true rfl⟩) rfl hl.1 rfl (Nat.le_of_ble_eq_true rfl) dX13_weight_130 ⟨Nat.zero_le _, Nat.zero_le _⟩ hK hP hD hS hA (fun r_19 u_20 H locs hw hP hD hS => ?_)
          obtain ⟨fn_r_19, rfl⟩ := hw
          have hP : va_P (dC, dI) vwCl (mW h0 ad cid sg gm lg) H := hP
          have hD : va_D A (mW h0 ad cid sg gm lg) := hD
          refine lv_ldc2 (own := RX13) (v := (-9000000000000000000)) hx hb hown (htb _ kw_1226) dX13_weight_133 ?_
          refine W.lcmp hx hb dX13_weight_136 ?_
          refine lv_topi (fun z_21 ez_21 => ?_)
          have hz_21 : iv (-1) 1 z_21 := iv_of ez_21 (iv_cmp _ _)
          refine lv_if_ne (tgt := 144) hx hb dX13_weight_137 (by decide) (fun c_22 => ?_) (fun c_22 => ?_)
          · have d_23 : ¬ (z_21 : Int32).toInt = 0 := lv_neT c_22 rfl
            refine lv_iconst (v := 1) hx hb dX13_weight_144 (by decide) ?_
            exact W.iret (v := 1) hx hb hr (fun t ht hW => ⟨⟨1, (sg, gm, lg), rfl, ⟨(iv_w (iv_k (by decide) : iv 1 1 1) (by decide)), ((by rw [wC_7 h25, show ty.toInt = 0 from (by have := i32_0; have := i32_1; have := i32_2; have := i32_m1; have := (h_14).1; have := (h_14).2; have := (hvvl).1; have := (hvvl).2; have := (h_18).1; have := (h_18).2; have := (hz_21).1; have := (hz_21).2; omega), wT_0 hX9 fn_r_19]; rw [if_neg (by intro q9; exact c_22 (ez_21.trans ((lg_cmp_eq _ _).mpr (Int64.toInt_inj.mp q9))))]; rfl)), rfl⟩, by rw [ht]; exact hP, va_K.moved hW.alike hK, hD⟩, hS.F ht⟩) hS.2.2 dX13_weight_145
          · have h_24 : iv 0 0 z_21 := iv_eq c_22 hz_21 (iv_k (by decide) : iv 0 0 0) (by decide)
            refine lv_iconst (v := (-1)) hx hb dX13_weight_140 (by decide) ?_
            refine lv_goto (tgt := 145) hx hb dX13_weight_141 (by decide) ?_
            exact W.iret (v := (-1)) hx hb hr (fun t ht hW => ⟨⟨(-1), (sg, gm, lg), rfl, ⟨(iv_w (iv_k (by decide) : iv (-1) (-1) (-1)) (by decide)), ((by rw [wC_7 h25, show ty.toInt = 0 from (by have := i32_0; have := i32_1; have := i32_2; have := i32_m1; have := (h_14).1; have := (h_14).2; have := (hvvl).1; have := (hvvl).2; have := (h_18).1; have := (h_18).2; have := (h_24).1; have := (h_24).2; omega), wT_0 hX9 fn_r_19]; rw [if_pos (by have q9 := (lg_cmp_eq _ _).mp (show lg_cmp r_19 _ = 0 from (ez_21.symm.trans c_22)); rw [q9]; rfl)]; rfl)), rfl⟩, by rw [ht]; exact hP, va_K.moved hW.alike hK, hD⟩, hS.F ht⟩) hS.2.2 dX13_weight_145
        by_cases c_25 : (ty : Int32).toInt = 1
        · refine lv_tableIn (tgt := 146) hx hb dX13_weight_97 (by rw [c_25]; decide) (by rw [c_25]; decide) (by rw [c_25]; rfl) (by decide) ?_
          have h_26 : iv 1 1 ty := iv_at c_25
          refine lv_aload_n hx hb dX13_weight_146 rfl (lv_at hl 0 rfl) ?_
          refine lv_iload_n hx hb dX13_weight_147 rfl (lv_at hl 2 rfl) ?_
          refine lv_bipush (v := 9) hx hb dX13_weight_148 (by decide) ?_
          refine mr_calli (rest := []) ⟨hx, hb, hml, hown, htb⟩ (f_is9 l dC dI h0 ad cid sg gm lg vl 9 rg T9 hI hvvl (iv_w (iv_k (by decide) : iv 9 9 9) (by decide)) hRW hT9 (by show ¬ (lg 1 9).toInt = 0; rw [hWD.1]; decide)) (cwV 2 htb (gd_V kw_1239 kw_1240 kw_1241 kw_5 kw_1628) rfl rfl rfl (by decide +kernel) ⟨Nat.le_of_ble_eq_true rfl, Nat.le_of_ble_eq_true rfl⟩) rfl hl.1 rfl (Nat.le_of_ble_eq_true rfl) dX13_weight_150 ⟨Nat.zero_le _, Nat.zero_le _⟩ hK hP hD hS hA (fun r_27 u_28 H locs hw hP hD hS => ?_)
          obtain ⟨hr_27, fi_r_27, rfl⟩ := hw
          have hP : va_P (dC, dI) vwCl (mW h0 ad cid sg gm lg) H := hP
          have hD : va_D A (mW h0 ad cid sg gm lg) := hD
          refine lv_if_ne (tgt := 166) hx hb dX13_weight_153 (by decide) (fun c_29 => ?_) (fun c_29 => ?_)
          · have h_30 : iv 1 1 r_27 := iv_neL c_29 hr_27 (by decide)
            refine lv_iconst (v := 1) hx hb dX13_weight_166 (by decide) ?_
            refine lv_goto (tgt := 171) hx hb dX13_weight_167 (by decide) ?_
            exact W.iret (v := 1) hx hb hr (fun t ht hW => ⟨⟨1, (sg, gm, lg), rfl, ⟨(iv_w (iv_k (by decide) : iv 1 1 1) (by decide)), ((by rw [wC_7 h25, show ty.toInt = 1 from (by have := i32_0; have := i32_1; have := i32_2; have := i32_m1; have := (h_14).1; have := (h_14).2; have := (hvvl).1; have := (hvvl).2; have := (h_26).1; have := (h_26).2; have := (h_30).1; have := (h_30).2; omega), wT_1 hX9, tr_t hT9.2.1 (by have q9 := (fi_r_27.resolve_right (fun q => absurd q.1 (by have := i32_0; have := i32_1; have := i32_2; have := i32_m1; have := (h_14).1; have := (h_14).2; have := (hvvl).1; have := (hvvl).2; have := (h_26).1; have := (h_26).2; have := (h_30).1; have := (h_30).2; omega))).2; rw [show (9 : Int32).toNatClampNeg = 9 from rfl, hWD.1] at q9; exact q9)]; rfl)), rfl⟩, by rw [ht]; exact hP, va_K.moved hW.alike hK, hD⟩, hS.F ht⟩) hS.2.2 dX13_weight_171
          · have h_31 : iv 0 0 r_27 := iv_eq c_29 hr_27 (iv_k (by decide) : iv 0 0 0) (by decide)
            refine lv_aload_n hx hb dX13_weight_156 rfl (lv_at hl 0 rfl) ?_
            refine lv_iload_n hx hb dX13_weight_157 rfl (lv_at hl 2 rfl) ?_
            refine lv_bipush (v := 10) hx hb dX13_weight_158 (by decide) ?_
            refine mr_calli (rest := []) ⟨hx, hb, hml, hown, htb⟩ (f_is9 l dC dI h0 ad cid sg gm lg vl 10 rg T9 hI hvvl (iv_w (iv_k (by decide) : iv 10 10 10) (by decide)) hRW hT9 (by show ¬ (lg 1 10).toInt = 0; rw [hWD.2]; decide)) (cwV 2 htb (gd_V kw_1239 kw_1240 kw_1241 kw_5 kw_1628) rfl rfl rfl (by decide +kernel) ⟨Nat.le_of_ble_eq_true rfl, Nat.le_of_ble_eq_true rfl⟩) rfl hl.1 rfl (Nat.le_of_ble_eq_true rfl) dX13_weight_160 ⟨Nat.zero_le _, Nat.zero_le _⟩ hK hP hD hS hA (fun r_32 u_33 H locs hw hP hD hS => ?_)
            obtain ⟨hr_32, fi_r_32, rfl⟩ := hw
            have hP : va_P (dC, dI) vwCl (mW h0 ad cid sg gm lg) H := hP
            have hD : va_D A (mW h0 ad cid sg gm lg) := hD
            refine lv_if_eq (tgt := 170) hx hb dX13_weight_163 (by decide) (fun c_34 => ?_) (fun c_34 => ?_)
            · have h_35 : iv 0 0 r_32 := iv_eq c_34 hr_32 (iv_k (by decide) : iv 0 0 0) (by decide)
              refine lv_iconst (v := (-1)) hx hb dX13_weight_170 (by decide) ?_
              exact W.iret (v := (-1)) hx hb hr (fun t ht hW => ⟨⟨(-1), (sg, gm, lg), rfl, ⟨(iv_w (iv_k (by decide) : iv (-1) (-1) (-1)) (by decide)), ((by rw [wC_7 h25, show ty.toInt = 1 from (by have := i32_0; have := i32_1; have := i32_2; have := i32_m1; have := (h_14).1; have := (h_14).2; have := (hvvl).1; have := (hvvl).2; have := (h_26).1; have := (h_26).2; have := (h_31).1; have := (h_31).2; have := (h_35).1; have := (h_35).2; omega), wT_1 hX9, tr_n (by have q9 := (fi_r_27.resolve_left (fun q => absurd q.1 (by have := i32_0; have := i32_1; have := i32_2; have := i32_m1; have := (h_14).1; have := (h_14).2; have := (hvvl).1; have := (hvvl).2; have := (h_26).1; have := (h_26).2; have := (h_31).1; have := (h_31).2; have := (h_35).1; have := (h_35).2; omega))).2; rw [show (9 : Int32).toNatClampNeg = 9 from rfl, hWD.1] at q9; exact q9) (by have q9 := (fi_r_32.resolve_left (fun q => absurd q.1 (by have := i32_0; have := i32_1; have := i32_2; have := i32_m1; have := (h_14).1; have := (h_14).2; have := (hvvl).1; have := (hvvl).2; have := (h_26).1; have := (h_26).2; have := (h_31).1; have := (h_31).2; have := (h_35).1; have := (h_35).2; omega))).2; rw [show (10 : Int32).toNatClampNeg = 10 from rfl, hWD.2] at q9; exact q9)]; rfl)), rfl⟩, by rw [ht]; exact hP, va_K.moved hW.alike hK, hD⟩, hS.F ht⟩) hS.2.2 dX13_weight_171
            · have h_36 : iv 1 1 r_32 := iv_neL c_34 hr_32 (by decide)
              refine lv_iconst (v := 1) hx hb dX13_weight_166 (by decide) ?_
              refine lv_goto (tgt := 171) hx hb dX13_weight_167 (by decide) ?_
              exact W.iret (v := 1) hx hb hr (fun t ht hW => ⟨⟨1, (sg, gm, lg), rfl, ⟨(iv_w (iv_k (by decide) : iv 1 1 1) (by decide)), ((by rw [wC_7 h25, show ty.toInt = 1 from (by have := i32_0; have := i32_1; have := i32_2; have := i32_m1; have := (h_14).1; have := (h_14).2; have := (hvvl).1; have := (hvvl).2; have := (h_26).1; have := (h_26).2; have := (h_31).1; have := (h_31).2; have := (h_36).1; have := (h_36).2; omega), wT_1 hX9, tr_f hT9.2.1 (by have q9 := (fi_r_32.resolve_right (fun q => absurd q.1 (by have := i32_0; have := i32_1; have := i32_2; have := i32_m1; have := (h_14).1; have := (h_14).2; have := (hvvl).1; have := (hvvl).2; have := (h_26).1; have := (h_26).2; have := (h_31).1; have := (h_31).2; have := (h_36).1; have := (h_36).2; omega))).2; rw [show (10 : Int32).toNatClampNeg = 10 from rfl, hWD.2] at q9; exact q9)]; rfl)), rfl⟩, by rw [ht]; exact hP, va_K.moved hW.alike hK, hD⟩, hS.F ht⟩) hS.2.2 dX13_weight_171
        by_cases c_37 : (ty : Int32).toInt = 2
        · refine lv_tableIn (tgt := 172) hx hb dX13_weight_97 (by rw [c_37]; decide) (by rw [c_37]; decide) (by rw [c_37]; rfl) (by decide) ?_
          have h_38 : iv 2 2 ty := iv_at c_37
          refine lv_aload_n hx hb dX13_weight_172 rfl (lv_at hl 0 rfl) ?_
          refine lv_iload_n hx hb dX13_weight_173 rfl (lv_at hl 2 rfl) ?_
          refine mr_calli (rest := []) ⟨hx, hb, hml, hown, htb⟩ (f_length9 l dC dI h0 ad cid sg gm lg vl rg T9 hI hvvl hRW hT9) (cwV 1 htb (gd_V kw_1233 kw_1234 kw_1235 kw_5 kw_1626) rfl rfl rfl (by decide +kernel) ⟨Nat.le_of_ble_eq_true rfl, Nat.le_of_ble_eq_true rfl⟩) rfl hl.1 rfl (Nat.le_of_ble_eq_true rfl) dX13_weight_174 ⟨Nat.zero_le _, Nat.zero_le _⟩ hK hP hD hS hA (fun r_39 u_40 H locs hw hP hD hS => ?_)
          obtain ⟨hr_39, fl_r_39, rfl⟩ := hw
          have hP : va_P (dC, dI) vwCl (mW h0 ad cid sg gm lg) H := hP
          have hD : va_D A (mW h0 ad cid sg gm lg) := hD
          refine lv_iconst (v := 1) hx hb dX13_weight_177 (by decide) ?_
          refine lv_icmp_ne (tgt := 185) hx hb dX13_weight_178 (by decide) (fun c_41 => ?_) (fun c_41 => ?_)
          · have d_42 : ¬ (r_39 : Int32).toInt = 1 := lv_neT c_41 rfl
            refine lv_iconst (v := (-1)) hx hb dX13_weight_185 (by decide) ?_
            exact W.iret (v := (-1)) hx hb hr (fun t ht hW => ⟨⟨(-1), (sg, gm, lg), rfl, ⟨(iv_w (iv_k (by decide) : iv (-1) (-1) (-1)) (by decide)), ((by have q9 := fl_r_39; rw [wC_7 h25, show ty.toInt = 2 from (by have := i32_0; have := i32_1; have := i32_2; have := i32_m1; have := (h_14).1; have := (h_14).2; have := (hvvl).1; have := (hvvl).2; have := (h_38).1; have := (h_38).2; have := (hr_39).1; have := (hr_39).2; omega), wT_2 hX9, if_neg (by have := i32_0; have := i32_1; have := i32_2; have := i32_m1; have := (h_14).1; have := (h_14).2; have := (hvvl).1; have := (hvvl).2; have := (h_38).1; have := (h_38).2; have := (hr_39).1; have := (hr_39).2; omega)]; rfl)), rfl⟩, by rw [ht]; exact hP, va_K.moved hW.alike hK, hD⟩, hS.F ht⟩) hS.2.2 dX13_weight_186
          · have h_43 : iv 1 1 r_39 := iv_eq c_41 hr_39 (iv_k (by decide) : iv 1 1 1) (by decide)
            refine lv_iconst (v := 2) hx hb dX13_weight_181 (by decide) ?_
            refine lv_goto (tgt := 186) hx hb dX13_weight_182 (by decide) ?_
            exact W.iret (v := 2) hx hb hr (fun t ht hW => ⟨⟨2, (sg, gm, lg), rfl, ⟨(iv_w (iv_k (by decide) : iv 2 2 2) (by decide)), ((by have q9 := fl_r_39; rw [wC_7 h25, show ty.toInt = 2 from (by have := i32_0; have := i32_1; have := i32_2; have := i32_m1; have := (h_14).1; have := (h_14).2; have := (hvvl).1; have := (hvvl).2; have := (h_38).1; have := (h_38).2; have := (h_43).1; have := (h_43).2; omega), wT_2 hX9, if_pos (by have := i32_0; have := i32_1; have := i32_2; have := i32_m1; have := (h_14).1; have := (h_14).2; have := (hvvl).1; have := (hvvl).2; have := (h_38).1; have := (h_38).2; have := (h_43).1; have := (h_43).2; omega)]; rfl)), rfl⟩, by rw [ht]; exact hP, va_K.moved hW.alike hK, hD⟩, hS.F ht⟩) hS.2.2 dX13_weight_186
        by_cases c_44 : (ty : Int32).toInt = 3
        · refine lv_tableIn (tgt := 187) hx hb dX13_weight_97 (by rw [c_44]; decide) (by rw [c_44]; decide) (by rw [c_44]; rfl) (by decide) ?_
          have h_45 : iv 3 3 ty := iv_at c_44
          refine lv_iconst (v := 3) hx hb dX13_weight_187 (by decide) ?_
          exact W.iret (v := 3) hx hb hr (fun t ht hW => ⟨⟨3, (sg, gm, lg), rfl, ⟨(iv_w (iv_k (by decide) : iv 3 3 3) (by decide)), ((by rw [wC_7 h25, show ty.toInt = 3 from (by have := i32_0; have := i32_1; have := i32_2; have := i32_m1; have := (h_14).1; have := (h_14).2; have := (hvvl).1; have := (hvvl).2; have := (h_45).1; have := (h_45).2; omega), wT_3]; rfl)), rfl⟩, by rw [ht]; exact hP, va_K.moved hW.alike hK, hD⟩, hS.F ht⟩) hS.2.2 dX13_weight_188
        refine lv_tableOut (tgt := 189) hx hb dX13_weight_97 (by have q1 := ((iv_all ty)).1; have q2 := ((iv_all ty)).2; omega) (by decide) ?_
        refine lv_iconst (v := (-1)) hx hb dX13_weight_189 (by decide) ?_
        exact W.iret (v := (-1)) hx hb hr (fun t ht hW => ⟨⟨(-1), (sg, gm, lg), rfl, ⟨(iv_w (iv_k (by decide) : iv (-1) (-1) (-1)) (by decide)), ((by rw [wC_7 h25, wT_o (by have := i32_0; have := i32_1; have := i32_2; have := i32_m1; have := (h_14).1; have := (h_14).2; have := (hvvl).1; have := (hvvl).2; omega)]; rfl)), rfl⟩, by rw [ht]; exact hP, va_K.moved hW.alike hK, hD⟩, hS.F ht⟩) hS.2.2 dX13_weight_190
      · have h_46 : iv 1 1 kd := iv_eq c_15 h_14 (iv_k (by decide) : iv 1 1 1) (by decide)
        have hv51 : iv 0 59 vl := ⟨(hvvl).1, hvo.1 (by have := i32_0; have := i32_1; have := i32_2; have := i32_m1; have := (h_46).1; have := (h_46).2; have := (hvvl).1; have := (hvvl).2; omega)⟩
        refine lv_iconst (v := 0) hx hb dX13_weight_48 (by decide) ?_
        refine lv_istore (lv' := [(4, .int 0), (0, .ref h0), (1, .int kd), (2, .int vl), (3, .int ty)]) hx hb dX13_weight_49 hl (by decide) rfl (fun ls hl => ?_)
        refine lv_aload_n hx hb dX13_weight_51 rfl (lv_at hl 1 rfl) ?_
        refine mr_get (v := .ref (ad 53)) hx hb htb inX13 hown hK hP 53 (by decide) (htb _ kw_203) rfl dX13_weight_52 ?_
        refine lv_iload_n hx hb dX13_weight_55 rfl (lv_at hl 3 rfl) ?_
        refine mr_iald hx hb hK hP 39 (k := 53) rfl rfl rfl (show vp_in vl 60 from (iv_in hv51 (by decide))) dX13_weight_56 ?_
        refine lv_topi (fun z_47 ez_47 => ?_)
        have hz_47 : iv 0 7 z_47 := iv_of ez_47 (MI_a hI 53 hv51 (by decide))
        refine lv_istore (lv' := [(5, .int z_47), (4, .int 0), (0, .ref h0), (1, .int kd), (2, .int vl), (3, .int ty)]) hx hb dX13_weight_57 hl (by decide) rfl (fun ls hl => ?_)
        exact hj59 _ z_47 0 rfl (iv_w hz_47 (by decide)) (iv_w (iv_k (by decide) : iv 0 0 0) (by decide)) h_46 hv51 ((show kd.toInt = 1 from (by have := i32_0; have := i32_1; have := i32_2; have := i32_m1; have := (h_46).1; have := (h_46).2; have := (hv51).1; have := (hv51).2; have := (hz_47).1; have := (hz_47).2; omega))) ((RR_cl hRR (show 0 ≤ vl.toInt from (by have := i32_0; have := i32_1; have := i32_2; have := i32_m1; have := (h_46).1; have := (h_46).2; have := (hv51).1; have := (hv51).2; have := (hz_47).1; have := (hz_47).2; omega)) (VR_1 hV (by have := i32_0; have := i32_1; have := i32_2; have := i32_m1; have := (h_46).1; have := (h_46).2; have := (hv51).1; have := (hv51).2; have := (hz_47).1; have := (hz_47).2; omega)).2.2.2).1) ((by rw [← ez_47]; exact stR_0 hCL hRW hPR (show iv (-1) 7 z_47 from (iv_w hz_47 (by decide))))) (⟨(by decide), (by have q9 := ((show iv (-1) 7 z_47 from (iv_w hz_47 (by decide)))).2; have := i32_0; have := i32_1; have := i32_2; have := i32_m1; have := (h_46).1; have := (h_46).2; have := (hv51).1; have := (hv51).2; have := (hz_47).1; have := (hz_47).2; omega)⟩) _ _ _ hP hD hS (lv_sub hl [0, 1, 2, 3, 4, 5] rfl)
    · have h_48 : iv 3 3 kd := iv_eq c_13 hvkd (iv_k (by decide) : iv 3 3 3) (by decide)
      refine lv_iload_n hx hb dX13_weight_32 rfl (lv_at hl 3 rfl) ?_
      refine lv_iconst (v := 4) hx hb dX13_weight_33 (by decide) ?_
      refine lv_icmp_ne (tgt := 41) hx hb dX13_weight_34 (by decide) (fun c_49 => ?_) (fun c_49 => ?_)
      · have d_50 : ¬ (ty : Int32).toInt = 4 := lv_neT c_49 rfl
        refine lv_iconst (v := (-1)) hx hb dX13_weight_41 (by decide) ?_
        exact W.iret (v := (-1)) hx hb hr (fun t ht hW => ⟨⟨(-1), (sg, gm, lg), rfl, ⟨(iv_w (iv_k (by decide) : iv (-1) (-1) (-1)) (by decide)), ((by rw [wC_6 (VR_3 hV (show kd.toInt = 3 from (by have := i32_0; have := i32_1; have := i32_2; have := i32_m1; have := (h_48).1; have := (h_48).2; have := (hvvl).1; have := (hvvl).2; omega))).1, if_neg (by have := i32_0; have := i32_1; have := i32_2; have := i32_m1; have := (h_48).1; have := (h_48).2; have := (hvvl).1; have := (hvvl).2; omega)]; rfl)), rfl⟩, by rw [ht]; exact hP, va_K.moved hW.alike hK, hD⟩, hS.F ht⟩) hS.2.2 dX13_weight_42
      · have h_51 : iv 4 4 ty := iv_eq c_49 (iv_all ty) (iv_k (by decide) : iv 4 4 4) (by decide)
        refine lv_iconst (v := 0) hx hb dX13_weight_37 (by decide) ?_
        refine lv_goto (tgt := 42) hx hb dX13_weight_38 (by decide) ?_
        exact W.iret (v := 0) hx hb hr (fun t ht hW => ⟨⟨0, (sg, gm, lg), rfl, ⟨(iv_w (iv_k (by decide) : iv 0 0 0) (by decide)), ((by rw [wC_6 (VR_3 hV (show kd.toInt = 3 from (by have := i32_0; have := i32_1; have := i32_2; have := i32_m1; have := (h_48).1; have := (h_48).2; have := (hvvl).1; have := (hvvl).2; have := (h_51).1; have := (h_51).2; omega))).1, if_pos (by have := i32_0; have := i32_1; have := i32_2; have := i32_m1; have := (h_48).1; have := (h_48).2; have := (hvvl).1; have := (hvvl).2; have := (h_51).1; have := (h_51).2; omega)]; rfl)), rfl⟩, by rw [ht]; exact hP, va_K.moved hW.alike hK, hD⟩, hS.F ht⟩) hS.2.2 dX13_weight_42
  · have h_52 : iv 2 2 kd := iv_eq c_11 hvkd (iv_k (by decide) : iv 2 2 2) (by decide)
    refine lv_iload_n hx hb dX13_weight_5 rfl (lv_at hl 3 rfl) ?_
    refine lv_iconst (v := 3) hx hb dX13_weight_6 (by decide) ?_
    refine lv_icmp_eq (tgt := 21) hx hb dX13_weight_7 (by decide) (fun c_53 => ?_) (fun c_53 => ?_)
    · have h_54 : iv 3 3 ty := iv_eq c_53 (iv_all ty) (iv_k (by decide) : iv 3 3 3) (by decide)
      refine lv_iconst (v := 0) hx hb dX13_weight_21 (by decide) ?_
      refine lv_goto (tgt := 26) hx hb dX13_weight_22 (by decide) ?_
      exact W.iret (v := 0) hx hb hr (fun t ht hW => ⟨⟨0, (sg, gm, lg), rfl, ⟨(iv_w (iv_k (by decide) : iv 0 0 0) (by decide)), ((by rw [wC_9 (VR_2 hV (show kd.toInt = 2 from (by have := i32_0; have := i32_1; have := i32_2; have := i32_m1; have := (h_52).1; have := (h_52).2; have := (hvvl).1; have := (hvvl).2; have := (h_54).1; have := (h_54).2; omega))), if_pos (by have := i32_0; have := i32_1; have := i32_2; have := i32_m1; have := (h_52).1; have := (h_52).2; have := (hvvl).1; have := (hvvl).2; have := (h_54).1; have := (h_54).2; omega)]; rfl)), rfl⟩, by rw [ht]; exact hP, va_K.moved hW.alike hK, hD⟩, hS.F ht⟩) hS.2.2 dX13_weight_26
    · have d_55 : ¬ (ty : Int32).toInt = 3 := lv_neT c_53 rfl
      refine lv_iload_n hx hb dX13_weight_10 rfl (lv_at hl 3 rfl) ?_
      refine lv_iconst (v := 4) hx hb dX13_weight_11 (by decide) ?_
      refine lv_icmp_eq (tgt := 21) hx hb dX13_weight_12 (by decide) (fun c_56 => ?_) (fun c_56 => ?_)
      · have h_57 : iv 4 4 ty := iv_eq c_56 (iv_all ty) (iv_k (by decide) : iv 4 4 4) (by decide)
        refine lv_iconst (v := 0) hx hb dX13_weight_21 (by decide) ?_
        refine lv_goto (tgt := 26) hx hb dX13_weight_22 (by decide) ?_
        exact W.iret (v := 0) hx hb hr (fun t ht hW => ⟨⟨0, (sg, gm, lg), rfl, ⟨(iv_w (iv_k (by decide) : iv 0 0 0) (by decide)), ((by rw [wC_9 (VR_2 hV (show kd.toInt = 2 from (by have := i32_0; have := i32_1; have := i32_2; have := i32_m1; have := (h_52).1; have := (h_52).2; have := (hvvl).1; have := (hvvl).2; have := (h_57).1; have := (h_57).2; omega))), if_pos (by have := i32_0; have := i32_1; have := i32_2; have := i32_m1; have := (h_52).1; have := (h_52).2; have := (hvvl).1; have := (hvvl).2; have := (h_57).1; have := (h_57).2; omega)]; rfl)), rfl⟩, by rw [ht]; exact hP, va_K.moved hW.alike hK, hD⟩, hS.F ht⟩) hS.2.2 dX13_weight_26
      · have d_58 : ¬ (ty : Int32).toInt = 4 := lv_neT c_56 rfl
        refine lv_iload_n hx hb dX13_weight_15 rfl (lv_at hl 3 rfl) ?_
        refine lv_bipush (v := 7) hx hb dX13_weight_16 (by decide) ?_
        refine lv_icmp_le (tgt := 25) hx hb dX13_weight_18 (by decide) (fun c_59 => ?_) (fun c_59 => ?_)
        · have h_60 : iv (-2147483648) 7 ty := iv_leL c_59 (iv_all ty) (iv_k (by decide) : iv 7 7 7) (by decide)
          refine lv_iconst (v := (-1)) hx hb dX13_weight_25 (by decide) ?_
          exact W.iret (v := (-1)) hx hb hr (fun t ht hW => ⟨⟨(-1), (sg, gm, lg), rfl, ⟨(iv_w (iv_k (by decide) : iv (-1) (-1) (-1)) (by decide)), ((by rw [wC_9 (VR_2 hV (show kd.toInt = 2 from (by have := i32_0; have := i32_1; have := i32_2; have := i32_m1; have := (h_52).1; have := (h_52).2; have := (hvvl).1; have := (hvvl).2; have := (h_60).1; have := (h_60).2; omega))), if_neg (by have := hty; have := i32_0; have := i32_1; have := i32_2; have := i32_m1; have := (h_52).1; have := (h_52).2; have := (hvvl).1; have := (hvvl).2; have := (h_60).1; have := (h_60).2; omega)]; rfl)), rfl⟩, by rw [ht]; exact hP, va_K.moved hW.alike hK, hD⟩, hS.F ht⟩) hS.2.2 dX13_weight_26
        · have h_61 : iv 8 2147483647 ty := iv_ltR (i32_lt c_59) (iv_k (by decide) : iv 7 7 7) (iv_all ty) (by decide)
          refine lv_iconst (v := 0) hx hb dX13_weight_21 (by decide) ?_
          refine lv_goto (tgt := 26) hx hb dX13_weight_22 (by decide) ?_
          exact W.iret (v := 0) hx hb hr (fun t ht hW => ⟨⟨0, (sg, gm, lg), rfl, ⟨(iv_w (iv_k (by decide) : iv 0 0 0) (by decide)), ((by rw [wC_9 (VR_2 hV (show kd.toInt = 2 from (by have := i32_0; have := i32_1; have := i32_2; have := i32_m1; have := (h_52).1; have := (h_52).2; have := (hvvl).1; have := (hvvl).2; have := (h_61).1; have := (h_61).2; omega))), if_pos (by have := i32_0; have := i32_1; have := i32_2; have := i32_m1; have := (h_52).1; have := (h_52).2; have := (hvvl).1; have := (hvvl).2; have := (h_61).1; have := (h_61).2; omega)]; rfl)), rfl⟩, by rw [ht]; exact hP, va_K.moved hW.alike hK, hD⟩, hS.F ht⟩) hS.2.2 dX13_weight_26
end
section
section TO9
variable {wg rg : Nat → Nat → Int32} {wl : Nat → Nat → Int64} {ob : List Ob9} {c : Nat} {V : List Int} {kd v : Int32} {t x : Int}
/-- what is told of a value -/
def TO9 (rg : Nat → Nat → Int32) (kd v : Int32) (t x : Int) : Prop :=
  (kd.toInt = 2 ∧ x = -1) ∨ (kd.toInt = 3 ∧ x = 2000 + v.toInt) ∨ (kd.toInt = 1 ∧ x = 3000 + v.toInt)
  ∨ (kd.toInt = 0 ∧ ∃ T, SRq rg v T ∧ ((t = 0 ∧ nuL T = some x) ∨ (t = 1 ∧ trL T = x ∧ (x = 0 ∨ x = 1)) ∨ (t = 2 ∧ T = [x]) ∨ ((¬ (t = 0 ∨ t = 1 ∨ t = 2)) ∧ x = 1000 + (T.length : Int))))
theorem TO_2 (h : TO9 rg kd v t x) (hk : kd.toInt = 2) : x = -1 := by
  rcases h with q | q | q | q
  · exact q.2
  · omega
  · omega
  · omega
theorem TO_3 (h : TO9 rg kd v t x) (hk : kd.toInt = 3) : x = 2000 + v.toInt := by
  rcases h with q | q | q | q
  · omega
  · exact q.2
  · omega
  · omega
theorem TO_1 (h : TO9 rg kd v t x) (hk : kd.toInt = 1) : x = 3000 + v.toInt := by
  rcases h with q | q | q | q
  · omega
  · omega
  · exact q.2
  · omega
theorem TO_0 (h : TO9 rg kd v t x) (hk : kd.toInt = 0) : ∃ T, SRq rg v T ∧ ((t = 0 ∧ nuL T = some x) ∨ (t = 1 ∧ trL T = x ∧ (x = 0 ∨ x = 1)) ∨ (t = 2 ∧ T = [x]) ∨ ((¬ (t = 0 ∨ t = 1 ∨ t = 2)) ∧ x = 1000 + (T.length : Int))) := by
  rcases h with q | q | q | q
  · omega
  · omega
  · omega
  · exact q.2
theorem tr_01 {T : List Int} (h : ¬ trL T = -1) : trL T = 0 ∨ trL T = 1 := by
  unfold trL at *
  by_cases q : T = [116, 114, 117, 101]
  · rw [if_pos q]; exact Or.inr rfl
  · rw [if_neg q] at *
    by_cases q : T = [102, 97, 108, 115, 101]
    · rw [if_pos q]; exact Or.inl rfl
    · rw [if_neg q] at h; exact absurd rfl h
theorem of32 {m : Int} (h1 : -2147483648 ≤ m) (h2 : m ≤ 2147483647) : (Int32.ofInt m).toInt = m := Int32.toInt_ofInt_of_le (by show (-2147483648 : Int) ≤ m; exact h1) (by show m < (2147483648 : Int); omega)
theorem TO_v (h : VR9 wg wl rg ob c V kd v) (hw : ¬ wCo wg wl ob c V t = -1) : TO9 rg kd v t (vCo wg wl c V t) := by
  rcases h with q | q | q | q
  · obtain ⟨h7, hk, T, hS, hX⟩ := q
    refine Or.inr (Or.inr (Or.inr ⟨hk, T, hS, ?_⟩))
    rw [wC_7 h7] at hw
    rw [vC_7 h7]
    by_cases t0 : t = 0
    · subst t0
      refine Or.inl ⟨rfl, ?_⟩
      rcases nuL_r (T := T) with q | ⟨m, q, h1, h2⟩
      · exact absurd (by rw [wT_0 hX rfl, q]; rfl) hw
      · rw [q]
        unfold vTx
        rw [if_pos rfl, hX.2.1, q]
        show some m = some (Int32.ofInt m).toInt
        rw [of32 h1 h2]
    · by_cases t1 : t = 1
      · subst t1
        refine Or.inr (Or.inl ⟨rfl, (vT_1 hX).symm, ?_⟩)
        rw [vT_1 hX]
        refine tr_01 (fun q => hw ?_)
        rw [wT_1 hX, if_pos q]
      · by_cases t2 : t = 2
        · subst t2
          refine Or.inr (Or.inr (Or.inl ⟨rfl, ?_⟩))
          rw [wT_2 hX] at hw
          have hl : T.length = 1 := by
            by_cases q : (T.length : Int) = 1
            · omega
            · rw [if_neg q] at hw; exact absurd rfl hw
          rw [vT_2 hX hl]
          match T, hl with
          | [y], _ => rfl
        · refine Or.inr (Or.inr (Or.inr ⟨by omega, ?_⟩))
          rw [vT_o hX (by omega)]
  · exact Or.inl ⟨q.2, vC_9 q.1⟩
  · exact Or.inr (Or.inl ⟨q.2.1, by rw [vC_6 q.1, q.2.2]⟩)
  · have hh : VR9 wg wl rg ob c V kd v := Or.inr (Or.inr (Or.inr q))
    exact Or.inr (Or.inr (Or.inl ⟨q.2.1, vC_o hh q.2.1⟩))
theorem TO_i (h : IT1 rg kd v x) : TO9 rg kd v 3 x := by
  rcases h with ⟨h1, T, h2, h3⟩ | h | h
  · exact Or.inr (Or.inr (Or.inr ⟨h1, T, h2, Or.inr (Or.inr (Or.inr ⟨by decide, h3⟩))⟩))
  · exact Or.inl h
  · exact Or.inr (Or.inr (Or.inl h))
theorem l2i9 {z : Int64} {y : Int32} {m : Int} (hy : y = z.toInt32) (hz : z.toInt = m) (h1 : -2147483648 ≤ m) (h2 : m ≤ 2147483647) : y.toInt = m := by
  have : y = Int32.ofInt m := by rw [hy, ← hz]; rfl
  rw [this, of32 h1 h2]
theorem nu_get {T : List Int} {x : Int} (h : nuL T = some x) : (nuL T).getD (-9000000000000000000) = x ∧ -2147483648 ≤ x ∧ x ≤ 2147483647 := by
  rcases nuL_r (T := T) with q | ⟨m, q, h1, h2⟩
  · rw [q] at h; exact absurd h (by simp)
  · rw [q] at h; have h := Option.some.inj h; subst h; rw [q]; exact ⟨rfl, h1, h2⟩
/-- the items of a row that is worked out -/
def ITS9 (wg rg : Nat → Nat → Int32) (gm : Nat → Nat → Int32) (c sl : Nat) (V : List Int) : Prop := (wg 25 c).toInt = 6 → (V.length : Int) = (wg 18 c).toInt ∧ V.length ≤ 6 ∧ ∀ i x, V[i]? = some x → IT1 rg (gm 72 (6 * sl + i)) (gm 73 (6 * sl + i)) x
end TO9
end
