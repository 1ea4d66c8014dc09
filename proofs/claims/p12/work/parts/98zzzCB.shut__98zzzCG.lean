section
theorem RE_ev {S : S9} {sg sg2 : Nat → Int32} {gm gm2 : Nat → Nat → Int32} {a b c d : Int32} {i0 i1 i2 i3 : Nat} (he : RRe S sg gm) (hlt : (sg 49).toInt < 400) (h13 : (sg2 49).toInt = (sg 49).toInt + 1) (h5 : gm2 55 = upd (gm 55) i0 a) (h6 : gm2 56 = upd (gm 56) i1 b) (h7 : gm2 57 = upd (gm 57) i2 c) (h8 : gm2 58 = upd (gm 58) i3 d) (e0 : (i0 : Int) = (sg 49).toInt) (e1 : i1 = i0) (e2 : i2 = i0) (e3 : i3 = i0) : RRe (zAdd S (a.toInt, b.toInt, c.toInt, d.toInt)) sg2 gm2 := by
  have h1 := he.1
  have hz : zAdd S (a.toInt, b.toInt, c.toInt, d.toInt) = (zO S, zE S ++ [(a.toInt, b.toInt, c.toInt, d.toInt)], zS S, zW S, zF S) := by unfold zAdd; rw [if_neg (by omega)]
  rw [hz]
  subst e1; subst e2; subst e3
  refine ⟨by rw [h13, h1]; show _ = ((zE S ++ [_]).length : Int); rw [List.length_append]; rfl, ?_⟩
  intro k e hk
  have hk : (zE S ++ [(a.toInt, b.toInt, c.toInt, d.toInt)])[k]? = some e := hk
  rw [h5, h6, h7, h8]
  rcases ga9 hk with ⟨hl, hk⟩ | ⟨hl, hk⟩
  · rw [upd_ne (by omega), upd_ne (by omega), upd_ne (by omega), upd_ne (by omega)]
    exact he.2 k e hk
  · subst hk
    have e9 : k = i3 := by omega
    subst e9
    rw [upd_at, upd_at, upd_at, upd_at]
    exact ⟨rfl, rfl, rfl, rfl⟩
theorem RE_full {S : S9} {sg : Nat → Int32} {gm : Nat → Nat → Int32} {e : Ev9} (h : RRe S sg gm) (hf : 400 ≤ (sg 49).toInt) : RRe (zAdd S e) sg gm := by
  have h1 := h.1
  have : zAdd S e = S := by unfold zAdd; rw [if_pos (by omega)]
  rw [this]; exact h
theorem BR_33 {ws : Nat → Int32} {wg : Nat → Nat → Int32} {wl : Nat → Nat → Int64} {rs sg : Nat → Int32} {rg gm : Nat → Nat → Int32} {lg : Nat → Nat → Int64} {b : Int32} (h : BRG ws wg wl rs rg lg) (hRW : rt9 gm = rg) (hRS : rs9 sg = rs) (hv : iv 0 79 b) (hb : b.toInt < (sg 41).toInt) : (ltR sg gm lg b 28259044220366713).toInt = (wg 33 b.toNatClampNeg).toInt := by
  have q := (h.2.1 _ (BR_lt hRS hv hb)).1.2.2.2.2.2.2.2.2.2.2.2.1
  rw [nI_c hv, ltR_k (DK_r hRW hRS)] at q
  exact q
theorem RRo_k {S S2 : S9} {sg sg2 : Nat → Int32} {gm gm2 : Nat → Nat → Int32} (h : RRo S sg gm) (e : zO S2 = zO S) (e48 : sg2 48 = sg 48) (e53 : gm2 53 = gm 53) (e54 : gm2 54 = gm 54) : RRo S2 sg2 gm2 := by unfold RRo; rw [e, e48, e53, e54]; exact h
theorem RRe_k {S : S9} {sg sg2 : Nat → Int32} {gm gm2 : Nat → Nat → Int32} (h : RRe S sg gm) (e49 : sg2 49 = sg 49) (e5 : gm2 55 = gm 55) (e6 : gm2 56 = gm 56) (e7 : gm2 57 = gm 57) (e8 : gm2 58 = gm 58) : RRe S sg2 gm2 := by unfold RRe; rw [e49, e5, e6, e7, e8]; exact h
set_option maxHeartbeats 4000000 in
set_option maxRecDepth 100000 in
theorem f_happensE (l : Launch) (dC : Nat → ClassId) (dI : Nat → Nat → Nat) (h0 : Nat) (ad : Nat → Nat) (cid : Nat → ClassId) (sg : Nat → Int32) (gm : Nat → Nat → Int32) (lg : Nat → Nat → Int64) (a : Int32) (b : Int32) (f : Int32) (g : Int32) (S : S9) (hI : MI sg gm) (hRE : RRe S sg gm) : MMv l dC dI yX13_happens wm_X13_happens ({ frames := 0, cells := 0, slots := 0, locals := 0 }) h0 ad cid [.int a, .int b, .int f, .int g] sg gm lg (fun v => ∃ (sg2 : Nat → Int32) (gm2 : Nat → Nat → Int32) (lg2 : Nat → Nat → Int64), v = (sg2, gm2, lg2) ∧ MI sg2 gm2 ∧ KS [49] sg sg2 ∧ KS [55, 56, 57, 58] gm gm2 ∧ KS [] lg lg2 ∧ (RRe (zAdd S (a.toInt, b.toInt, f.toInt, g.toInt)) sg2 gm2)) := by
  intro sz
  refine Met.ofW (cc := cX13_happens) (maxL := 5) (ret := none) (by decide) rfl ?_
  intro p e s m args below meth c s₁ B hml hv
  obtain ⟨rfl, hsz, hP, hK, hD0⟩ := hv
  have hx := B.exec
  have hb := B.bytes
  have hr := B.returns
  have hts := atoms_spec (ws := wm_X13_happens) B.pre
  have htb := fun (w : Cond) (h : w ∈ tb) => hts w (List.mem_cons_of_mem _ h)
  have hown : s.vm.findClass RX13 = some m.cls := findClass_of_methodNamed B.named
  have hlocks := B.notSynchronized
  subst hsz
  have hD := hD0.self (sz := s.heap.size)
  generalize hAe : va_A (mW h0 ad cid sg gm lg) s.heap.size = A at hD ⊢
  have hA : ∀ q : Nat, s.heap.size ≤ q → A q := fun q h => by rw [← hAe]; exact Or.inr h
  have hS : va_S A s.heap s.heap [] := va_S.rf
  have hl := lv_entry ([.ref h0, .int a, .int b, .int f, .int g]) (n := 5) (Nat.le_of_ble_eq_true rfl)
  rw [lg_entry_eq]
  generalize (lg_sl ([.ref h0, .int a, .int b, .int f, .int g]) ++ List.replicate (5 - (lg_sl ([.ref h0, .int a, .int b, .int f, .int g])).length) Slot.unset).toArray = ls at hl ⊢
  have hl : lv_has ls 5 [(0, .ref h0), (1, .int a), (2, .int b), (3, .int f), (4, .int g)] := hl
  refine lv_aload_n hx hb dX13_happens_0 rfl (lv_at hl 0 rfl) ?_
  refine mr_get (v := .int (sg 49)) hx hb htb inX13 hown hK hP 49 (by decide) (htb _ kw_823) rfl dX13_happens_1 ?_
  refine lv_sipush (v := 400) hx hb dX13_happens_4 (by decide) ?_
  refine lv_icmp_ne (tgt := 11) hx hb dX13_happens_7 (by decide) (fun c_1 => ?_) (fun c_1 => ?_)
  · have h_2 : iv 0 399 (sg 49) := iv_neH c_1 (show iv 0 400 (sg 49) from MI_s hI 49) (by decide)
    refine lv_aload_n hx hb dX13_happens_11 rfl (lv_at hl 0 rfl) ?_
    refine mr_get (v := .ref (ad 55)) hx hb htb inX13 hown hK hP 55 (by decide) (htb _ kw_205) rfl dX13_happens_12 ?_
    refine lv_aload_n hx hb dX13_happens_15 rfl (lv_at hl 0 rfl) ?_
    refine mr_get (v := .int (sg 49)) hx hb htb inX13 hown hK hP 49 (by decide) (htb _ kw_823) rfl dX13_happens_16 ?_
    refine lv_iload_n hx hb dX13_happens_19 rfl (lv_at hl 1 rfl) ?_
    refine ma_iast (x := a) hx hb hK hP hD hS 41 (k := 55) rfl rfl rfl (show vp_in (sg 49) 400 from (iv_in h_2 (by decide))) dX13_happens_20 (fun gm_3 H locs egm_3 hP hD hS => ?_)
    have hI_gm_3 := MI_st hI egm_3 (iv_all a) (by decide)
    refine lv_aload_n hx hb dX13_happens_21 rfl (lv_at hl 0 rfl) ?_
    refine mr_get (v := .ref (ad 56)) hx hb htb inX13 hown hK hP 56 (by decide) (htb _ kw_206) rfl dX13_happens_22 ?_
    refine lv_aload_n hx hb dX13_happens_25 rfl (lv_at hl 0 rfl) ?_
    refine mr_get (v := .int (sg 49)) hx hb htb inX13 hown hK hP 49 (by decide) (htb _ kw_823) rfl dX13_happens_26 ?_
    refine lv_iload_n hx hb dX13_happens_29 rfl (lv_at hl 2 rfl) ?_
    refine ma_iast (x := b) hx hb hK hP hD hS 42 (k := 56) rfl rfl rfl (show vp_in (sg 49) 400 from (iv_in h_2 (by decide))) dX13_happens_30 (fun gm_4 H locs egm_4 hP hD hS => ?_)
    have hI_gm_4 := MI_st hI_gm_3 egm_4 (iv_all b) (by decide)
    refine lv_aload_n hx hb dX13_happens_31 rfl (lv_at hl 0 rfl) ?_
    refine mr_get (v := .ref (ad 57)) hx hb htb inX13 hown hK hP 57 (by decide) (htb _ kw_207) rfl dX13_happens_32 ?_
    refine lv_aload_n hx hb dX13_happens_35 rfl (lv_at hl 0 rfl) ?_
    refine mr_get (v := .int (sg 49)) hx hb htb inX13 hown hK hP 49 (by decide) (htb _ kw_823) rfl dX13_happens_36 ?_
    refine lv_iload_n hx hb dX13_happens_39 rfl (lv_at hl 3 rfl) ?_
    refine ma_iast (x := f) hx hb hK hP hD hS 43 (k := 57) rfl rfl rfl (show vp_in (sg 49) 400 from (iv_in h_2 (by decide))) dX13_happens_40 (fun gm_5 H locs egm_5 hP hD hS => ?_)
    have hI_gm_5 := MI_st hI_gm_4 egm_5 (iv_all f) (by decide)
    refine lv_aload_n hx hb dX13_happens_41 rfl (lv_at hl 0 rfl) ?_
    refine mr_get (v := .ref (ad 58)) hx hb htb inX13 hown hK hP 58 (by decide) (htb _ kw_208) rfl dX13_happens_42 ?_
    refine lv_aload_n hx hb dX13_happens_45 rfl (lv_at hl 0 rfl) ?_
    refine mr_get (v := .int (sg 49)) hx hb htb inX13 hown hK hP 49 (by decide) (htb _ kw_823) rfl dX13_happens_46 ?_
    refine lv_iload hx hb dX13_happens_49 (lv_at hl 4 rfl) ?_
    refine ma_iast (x := g) hx hb hK hP hD hS 44 (k := 58) rfl rfl rfl (show vp_in (sg 49) 400 from (iv_in h_2 (by decide))) dX13_happens_51 (fun gm_6 H locs egm_6 hP hD hS => ?_)
    have hI_gm_6 := MI_st hI_gm_5 egm_6 (iv_all g) (by decide)
    refine lv_aload_n hx hb dX13_happens_52 rfl (lv_at hl 0 rfl) ?_
    refine lv_dup hx hb dX13_happens_53 rfl ?_
    refine mr_get (v := .int (sg 49)) hx hb htb inX13 hown hK hP 49 (by decide) (htb _ kw_823) rfl dX13_happens_54 ?_
    refine lv_iconst (v := 1) hx hb dX13_happens_57 (by decide) ?_
    refine lv_iadd hx hb dX13_happens_58 ?_
    refine lv_topi (fun z_7 ez_7 => ?_)
    have hz_7 : iv 1 400 z_7 := iv_of ez_7 (iv_add h_2 (iv_k (by decide) : iv 1 1 1) (by decide))
    have tz_7 : z_7.toInt = ((sg 49) : Int32).toInt + 1 := by rw [ez_7]; exact iv_addE h_2 (iv_k (by decide) : iv 1 1 1) (by decide)
    refine ma_put (x := z_7) hx hb htb inX13 hown hK hP hD hS 49 (by decide) (by decide) (htb _ kw_823) rfl rfl rfl dX13_happens_59 (fun sg_8 H locs esg_8 hP hD hS => ?_)
    have hI_sg_8 := MI_put hI_gm_6 esg_8 hz_7 (by decide)
    exact W.vret hx hb hr (fun t ht hW => ⟨⟨(sg_8, gm_6, lg), rfl, ⟨sg_8, gm_6, lg, rfl, hI_sg_8, (KS_up KS_rf esg_8 (by decide)), (KS_up (KS_up (KS_up (KS_up KS_rf egm_3 (by decide)) egm_4 (by decide)) egm_5 (by decide)) egm_6 (by decide)), KS_rf, (RE_ev hRE (by have := i32_0; have := i32_1; have := i32_2; have := i32_m1; have := congrArg Int32.toInt (show sg_8 49 = z_7 from up_at esg_8); have := (hz_7).1; have := (hz_7).2; have := (h_2).1; have := (h_2).2; omega) (by have := i32_0; have := i32_1; have := i32_2; have := i32_m1; have := congrArg Int32.toInt (show sg_8 49 = z_7 from up_at esg_8); have := (hz_7).1; have := (hz_7).2; have := (h_2).1; have := (h_2).2; omega) (show gm_6 55 = upd (gm 55) ((sg 49) : Int32).toNatClampNeg a from ((up_ne egm_6 (by decide)).trans ((up_ne egm_5 (by decide)).trans ((up_ne egm_4 (by decide)).trans ((up_at egm_3).trans (by rw [show gm 55 = gm 55 from rfl])))))) (show gm_6 56 = upd (gm 56) ((sg 49) : Int32).toNatClampNeg b from ((up_ne egm_6 (by decide)).trans ((up_ne egm_5 (by decide)).trans ((up_at egm_4).trans (by rw [show gm_3 56 = gm 56 from ((up_ne egm_3 (by decide)).trans rfl)]))))) (show gm_6 57 = upd (gm 57) ((sg 49) : Int32).toNatClampNeg f from ((up_ne egm_6 (by decide)).trans ((up_at egm_5).trans (by rw [show gm_4 57 = gm 57 from ((up_ne egm_4 (by decide)).trans ((up_ne egm_3 (by decide)).trans rfl))])))) (show gm_6 58 = upd (gm 58) ((sg 49) : Int32).toNatClampNeg g from ((up_at egm_6).trans (by rw [show gm_5 58 = gm 58 from ((up_ne egm_5 (by decide)).trans ((up_ne egm_4 (by decide)).trans ((up_ne egm_3 (by decide)).trans rfl)))]))) (cln9 (show iv 0 400 (sg 49) from MI_s hI 49).1) rfl rfl rfl)⟩, by rw [ht]; exact hP, va_K.moved hW.alike hK, hD⟩, hS.F ht⟩) hS.2.2 dX13_happens_62
  · have h_9 : iv 400 400 (sg 49) := iv_eq c_1 (show iv 0 400 (sg 49) from MI_s hI 49) (iv_k (by decide) : iv 400 400 400) (by decide)
    exact W.vret hx hb hr (fun t ht hW => ⟨⟨(sg, gm, lg), rfl, ⟨sg, gm, lg, rfl, hI, KS_rf, KS_rf, KS_rf, (RE_full hRE (by have := i32_0; have := i32_1; have := i32_2; have := i32_m1; have := (show iv 0 400 (sg 49) from MI_s hI 49).1; have := (show iv 0 400 (sg 49) from MI_s hI 49).2; have := (h_9).1; have := (h_9).2; omega))⟩, by rw [ht]; exact hP, va_K.moved hW.alike hK, hD⟩, hS.F ht⟩) hS.2.2 dX13_happens_10

set_option maxHeartbeats 4000000 in
set_option maxRecDepth 100000 in
theorem f_shut9 (l : Launch) (dC : Nat → ClassId) (dI : Nat → Nat → Nat) (h0 : Nat) (ad : Nat → Nat) (cid : Nat → ClassId) (sg : Nat → Int32) (gm : Nat → Nat → Int32) (lg : Nat → Nat → Int64) (ws : Nat → Int32) (wg : Nat → Nat → Int32) (wl : Nat → Nat → Int64) (rs : Nat → Int32) (rg : Nat → Nat → Int32) (S : S9) (hI : MI sg gm) (hdoc : DOC sg gm lg) (hgi : GI0 sg gm lg) (hmo : MO sg gm) (hRW : rt9 gm = rg) (hRS : rs9 sg = rs) (hBR : BRG ws wg wl rs rg lg) (hRR : RR wg wl S sg gm) (hWZ : WZ9 wg wl S) : MMv l dC dI yX13_shut wm_X13_shut ({ frames := 6, cells := 0, slots := 0, locals := 143 }) h0 ad cid [] sg gm lg (fun v => ∃ (sg2 : Nat → Int32) (gm2 : Nat → Nat → Int32) (lg2 : Nat → Nat → Int64), v = (sg2, gm2, lg2) ∧ MI sg2 gm2 ∧ KS [49, 50] sg sg2 ∧ KS [55, 56, 57, 58, 60, 61] gm gm2 ∧ KS [] lg lg2 ∧ (GI0 sg2 gm2 lg2) ∧ (MO sg2 gm2) ∧ (RR wg wl (zCl wg S) sg2 gm2)) := by
  intro sz
  refine Met.ofW (cc := cX13_shut) (maxL := 3) (ret := none) (by decide) rfl ?_
  intro p e s m args below meth c s₁ B hml hv
  obtain ⟨rfl, hsz, hP, hK, hD0⟩ := hv
  have hx := B.exec
  have hb := B.bytes
  have hr := B.returns
  have hts := atoms_spec (ws := wm_X13_shut) B.pre
  have htb := fun (w : Cond) (h : w ∈ tb) => hts w (List.mem_cons_of_mem _ h)
  have hown : s.vm.findClass RX13 = some m.cls := findClass_of_methodNamed B.named
  have hlocks := B.notSynchronized
  subst hsz
  have hD := hD0.self (sz := s.heap.size)
  generalize hAe : va_A (mW h0 ad cid sg gm lg) s.heap.size = A at hD ⊢
  have hA : ∀ q : Nat, s.heap.size ≤ q → A q := fun q h => by rw [← hAe]; exact Or.inr h
  have hS : va_S A s.heap s.heap [] := va_S.rf
  have hl := lv_entry ([.ref h0]) (n := 3) (Nat.le_of_ble_eq_true rfl)
  rw [lg_entry_eq]
  generalize (lg_sl ([.ref h0]) ++ List.replicate (3 - (lg_sl ([.ref h0])).length) Slot.unset).toArray = ls at hl ⊢
  have hl : lv_has ls 3 [(0, .ref h0)] := hl
  have hj7 : ∀ (n : Nat) (sg_j7 : Nat → Int32) (gm_j7 : Nat → Nat → Int32) (x1_7 : Int32) (_ : (x1_7.toInt - (-1)).toNat = n) (_ : iv (-1) 79 x1_7) (_ : KS [49] sg sg_j7) (_ : KS [55, 56, 57, 58, 60, 61] gm gm_j7) (_ : MI sg_j7 gm_j7) (_ : VB gm_j7 lg) (_ : x1_7.toInt < (sg 50).toInt) (_ : ∃ S2, DSR wg S (x1_7.toInt + 1).toNat S2 ∧ RRo S2 sg_j7 gm_j7 ∧ RRe S2 sg_j7 gm_j7 ∧ SHB wg wl S (sg 41).toNatClampNeg (x1_7.toInt + 1).toNat gm_j7) (H : Heap) (locs : List Loc) (ls : Array Slot), va_P (dC, dI) vwCl (mW h0 ad cid sg_j7 gm_j7 lg) H → va_D A (mW h0 ad cid sg_j7 gm_j7 lg) → va_S A s.heap H locs → lv_has ls 3 [(1, .int x1_7), (0, .ref h0)] → W p l e (headSpec wm_X13_shut ({ frames := 6, cells := 0, slots := 0, locals := 143 })).room s m ([.ref h0] : List Value).toArray below meth c H locs 0 0 (MQ below (va_Qv (fun v => ∃ (sg2 : Nat → Int32) (gm2 : Nat → Nat → Int32) (lg2 : Nat → Nat → Int64), v = (sg2, gm2, lg2) ∧ MI sg2 gm2 ∧ KS [49, 50] sg sg2 ∧ KS [55, 56, 57, 58, 60, 61] gm gm2 ∧ KS [] lg lg2 ∧ (GI0 sg2 gm2 lg2) ∧ (MO sg2 gm2) ∧ (RR wg wl (zCl wg S) sg2 gm2)) (MB dC dI h0 ad cid A) A) ([.ref h0] : List Value).toArray s 0 0 A) (F0 m 7 ls []) := by
    intro n
    induction n using Nat.strongRecOn with
    | ind n ih7 =>
      intro sg_j7 gm_j7 x1_7 hn7 hx1_7 hks_j7 hkg_j7 hI_j7 hvb hlm hSH H locs ls hP hD hS hl
      refine lv_iload_n hx hb dX13_shut_7 rfl (lv_at hl 0 rfl) ?_
      refine lv_if_lt (tgt := 71) hx hb dX13_shut_8 (by decide) (fun c_1 => ?_) (fun c_1 => ?_)
      · have h_2 : iv (-1) (-1) x1_7 := iv_ltL c_1 hx1_7 (iv_k (by decide) : iv 0 0 0) (by decide)
        refine lv_aload_n hx hb dX13_shut_71 rfl (lv_at hl 1 rfl) ?_
        refine lv_iconst (v := 0) hx hb dX13_shut_72 (by decide) ?_
        refine ma_put (x := 0) hx hb htb inX13 hown hK hP hD hS 50 (by decide) (by decide) (htb _ kw_824) rfl rfl rfl dX13_shut_73 (fun sg_3 H locs esg_3 hP hD hS => ?_)
        have hI_sg_3 := MI_put hI_j7 esg_3 (iv_k (by decide) : iv 0 0 0) (by decide)
        exact W.vret hx hb hr (fun t ht hW => ⟨⟨(sg_3, gm_j7, lg), rfl, ⟨sg_3, gm_j7, lg, rfl, hI_sg_3, (KS_up (KS_tr (L := [49, 50]) KS_rf hks_j7 (by decide)) esg_3 (by decide)), (KS_tr (L := [55, 56, 57, 58, 60, 61]) KS_rf hkg_j7 (by decide)), KS_rf, (GI0_vb (VB_of hvb (show KS [50] sg_j7 sg_3 from (KS_up KS_rf esg_3 (by decide))) (show KS [] gm_j7 gm_j7 from KS_rf) (show KS [] lg lg from KS_rf) (by decide) (by decide) (by decide) (by decide) (by decide)) (by have := i32_0; have := i32_1; have := i32_2; have := i32_m1; have : (sg_3 50).toInt = 0 := (by rw [up_at esg_3]; rfl); have := congrArg Int32.toInt (show sg_j7 50 = sg 50 from hks_j7 50 (by decide)); have := (h_2).1; have := (h_2).2; omega)), (MO_0 (by have := i32_0; have := i32_1; have := i32_2; have := i32_m1; have : (sg_3 50).toInt = 0 := (by rw [up_at esg_3]; rfl); have := congrArg Int32.toInt (show sg_j7 50 = sg 50 from hks_j7 50 (by decide)); have := (h_2).1; have := (h_2).2; omega)), ((by obtain ⟨S2, q1, q2, q3, q4⟩ := hSH; rw [show (x1_7.toInt + 1).toNat = 0 from (by have := i32_0; have := i32_1; have := i32_2; have := i32_m1; have := (h_2).1; have := (h_2).2; omega)] at q1 q4; rw [DSR_e q1]; exact RR_sh (by rw [show sg_3 41 = sg 41 from (Eq.trans (up_ne esg_3 (by decide)) (hks_j7 41 (by decide)))]; exact q4) (RRo_k q2 rfl ((show KS [50] sg_j7 sg_3 from (KS_up KS_rf esg_3 (by decide))) 48 (by decide)) rfl rfl) (RRe_k q3 ((show KS [50] sg_j7 sg_3 from (KS_up KS_rf esg_3 (by decide))) 49 (by decide)) rfl rfl rfl rfl) q1.2.2.1 q1.2.2.2 (by have := i32_0; have := i32_1; have := i32_2; have := i32_m1; have : (sg_3 50).toInt = 0 := (by rw [up_at esg_3]; rfl); have := congrArg Int32.toInt (show sg_j7 50 = sg 50 from hks_j7 50 (by decide)); have := (h_2).1; have := (h_2).2; omega)))⟩, by rw [ht]; exact hP, va_K.moved hW.alike hK, hD⟩, hS.F ht⟩) hS.2.2 dX13_shut_76
      · have h_4 : iv 0 79 x1_7 := iv_leR (i32_ge c_1) (iv_k (by decide) : iv 0 0 0) hx1_7 (by decide)
        refine lv_aload_n hx hb dX13_shut_11 rfl (lv_at hl 1 rfl) ?_
        refine mr_get (v := .ref (ad 59)) hx hb htb inX13 hown hK hP 59 (by decide) (htb _ kw_209) rfl dX13_shut_12 ?_
        refine lv_iload_n hx hb dX13_shut_15 rfl (lv_at hl 0 rfl) ?_
        refine mr_iald hx hb hK hP 45 (k := 59) rfl rfl rfl (show vp_in x1_7 80 from (iv_in h_4 (by decide))) dX13_shut_16 ?_
        refine lv_topi (fun z_5 ez_5 => ?_)
        have hz_5 : iv 0 79 z_5 := iv_of ez_5 (MI_a hI_j7 59 h_4 (by decide))
        have ez_5 := ez_5.trans (congrFun (hkg_j7 59 (by decide)) _)
        refine lv_istore_n (lv' := [(2, .int z_5), (1, .int x1_7), (0, .ref h0)]) hx hb dX13_shut_17 rfl hl (by decide) rfl (fun ls hl => ?_)
        have hl2 : z_5.toInt < (sg 41).toInt := by rw [ez_5]; exact hmo _ (lt_cl h_4 (show iv 0 80 (sg 50) from MI_s hI 50) (by decide) (by decide) hlm)
        obtain ⟨S2_, hds, hro, hre, hsb⟩ := hSH
        have hkn : x1_7.toInt.toNat < (zF S).length := (by have := hRR.2.2.2.1; have := hlm; have := i32_0; have := i32_1; have := i32_2; have := i32_m1; have := congrArg Int32.toInt (show sg_j7 50 = sg 50 from hks_j7 50 (by decide)); have := (show iv 0 80 (sg 50) from MI_s hI 50).1; have := (show iv 0 80 (sg 50) from MI_s hI 50).2; have := (h_4).1; have := (h_4).2; have := (hz_5).1; have := (hz_5).2; omega)
        obtain ⟨hz1, hz2, hz3, hz4⟩ := hRR.2.2.2.2.1 _ _ (List.getElem?_eq_getElem hkn)
        have hzb : (zF S)[x1_7.toInt.toNat]'hkn = z_5.toNatClampNeg := (by have q5 : x1_7.toNatClampNeg = x1_7.toInt.toNat := rfl; have q6 := congrArg Int32.toInt (show z_5 = gm 59 x1_7.toInt.toNat from (by rw [ez_5]; rfl)); rw [← q6] at hz1; have q1 : z_5.toNatClampNeg = z_5.toInt.toNat := rfl; have := i32_0; have := i32_1; have := i32_2; have := i32_m1; have := (h_4).1; have := (h_4).2; have := (hz_5).1; have := (hz_5).2; omega)
        have hfk : (zF S)[x1_7.toInt.toNat]? = some z_5.toNatClampNeg := (by rw [List.getElem?_eq_getElem hkn, hzb])
        rw [hzb] at hz2 hz3 hz4
        have hk1 : (x1_7.toInt + 1).toNat = x1_7.toInt.toNat + 1 := (by have := i32_0; have := i32_1; have := i32_2; have := i32_m1; have := (h_4).1; have := (h_4).2; have := (hz_5).1; have := (hz_5).2; omega)
        rw [hk1] at hds hsb
        have hst := ((hsb _ hz2).2.2 hz3).1 (by rw [List.take_add_one, hfk]; exact List.mem_append.mpr (Or.inr (by simp)))
        refine lv_aload_n hx hb dX13_shut_18 rfl (lv_at hl 2 rfl) ?_
        refine lv_iload_n hx hb dX13_shut_19 rfl (lv_at hl 0 rfl) ?_
        refine lv_ldc2 (own := RX13) (v := 28259044220366713) hx hb hown (htb _ kw_908) dX13_shut_20 ?_
        refine mr_calli (rest := []) ⟨hx, hb, hml, hown, htb⟩ (f_letter9 l dC dI h0 ad cid sg_j7 gm_j7 lg z_5 28259044220366713 hI_j7 (iv_w hz_5 (by decide)) (by rw [(hks_j7 41 (by decide))]; exact hl2) ((DOC_of hdoc (show KS [49] sg sg_j7 from (KS_tr (L := [49]) KS_rf hks_j7 (by decide))) (show KS [55, 56, 57, 58, 60, 61] gm gm_j7 from (KS_tr (L := [55, 56, 57, 58, 60, 61]) KS_rf hkg_j7 (by decide))) (show KS [] lg lg from KS_rf) (by decide) (by decide) (by decide) (by decide)).1.2.2.2)) (cwV 2 htb (gd_V kw_1201 kw_1202 kw_1203 kw_5 kw_1617) rfl rfl rfl (by decide +kernel) ⟨Nat.le_of_ble_eq_true rfl, Nat.le_of_ble_eq_true rfl⟩) rfl hl.1 rfl (Nat.le_of_ble_eq_true rfl) dX13_shut_23 ⟨Nat.zero_le _, Nat.zero_le _⟩ hK hP hD hS hA (fun r_6 u_7 H locs hw hP hD hS => ?_)
        obtain ⟨fLt_r_6, rfl⟩ := hw
        have hP : va_P (dC, dI) vwCl (mW h0 ad cid sg_j7 gm_j7 lg) H := hP
        have hD : va_D A (mW h0 ad cid sg_j7 gm_j7 lg) := hD
        refine lv_iconst (v := (-1)) hx hb dX13_shut_26 (by decide) ?_
        refine lv_icmp_eq (tgt := 51) hx hb dX13_shut_27 (by decide) (fun c_8 => ?_) (fun c_8 => ?_)
        · have h_9 : iv (-1) (-1) r_6 := iv_eq c_8 (iv_all r_6) (iv_k (by decide) : iv (-1) (-1) (-1)) (by decide)
          refine lv_aload_n hx hb dX13_shut_51 rfl (lv_at hl 2 rfl) ?_
          refine mr_get (v := .ref (ad 61)) hx hb htb inX13 hown hK hP 61 (by decide) (htb _ kw_211) rfl dX13_shut_52 ?_
          refine lv_iload_n hx hb dX13_shut_55 rfl (lv_at hl 0 rfl) ?_
          refine lv_iconst (v := 0) hx hb dX13_shut_56 (by decide) ?_
          refine ma_zast (x := 0) hx hb hK hP hD hS 47 (k := 61) rfl rfl rfl (show vp_in z_5 80 from (iv_in hz_5 (by decide))) dX13_shut_57 (fun gm_10 H locs egm_10 hP hD hS => ?_)
          have hI_gm_10 := MI_st hI_j7 egm_10 (iv_of (iv_vb (iv_w (iv_k (by decide) : iv 0 0 0) (by decide))) (iv_k (by decide) : iv 0 0 0)) (by decide)
          refine lv_aload_n hx hb dX13_shut_58 rfl (lv_at hl 2 rfl) ?_
          refine mr_get (v := .ref (ad 60)) hx hb htb inX13 hown hK hP 60 (by decide) (htb _ kw_210) rfl dX13_shut_59 ?_
          refine lv_iload_n hx hb dX13_shut_62 rfl (lv_at hl 0 rfl) ?_
          refine lv_iconst (v := (-1)) hx hb dX13_shut_63 (by decide) ?_
          refine ma_iast (x := (-1)) hx hb hK hP hD hS 46 (k := 60) rfl rfl rfl (show vp_in z_5 80 from (iv_in hz_5 (by decide))) dX13_shut_64 (fun gm_11 H locs egm_11 hP hD hS => ?_)
          have hI_gm_11 := MI_st hI_gm_10 egm_11 (iv_k (by decide) : iv (-1) (-1) (-1)) (by decide)
          obtain ⟨z_12, ez_12⟩ : ∃ z : Int32, z = x1_7 + (-1) := ⟨_, rfl⟩
          have hz_12 : iv (-1) 78 z_12 := iv_of ez_12 (iv_add h_4 (iv_k (by decide) : iv (-1) (-1) (-1)) (by decide))
          have tz_12 : z_12.toInt = x1_7.toInt - 1 := by rw [ez_12]; exact iv_addE h_4 (iv_k (by decide) : iv (-1) (-1) (-1)) (by decide)
          refine lv_iinc (v := z_12) (lv' := [(1, .int z_12), (2, .int z_5), (0, .ref h0)]) hx hb dX13_shut_65 hl (k := 1) rfl ez_12.symm (by decide) rfl (fun ls hl => ?_)
          refine lv_goto (tgt := 7) hx hb dX13_shut_68 (by decide) ?_
          exact ih7 _ (by rw [← hn7]; exact (iv_measDn tz_12 (by decide) h_4 (by decide))) sg_j7 gm_11 z_12 rfl (iv_w hz_12 (by decide)) (KS_tr (L := [49]) KS_rf hks_j7 (by decide)) (KS_up (KS_up (KS_tr (L := [55, 56, 57, 58, 60, 61]) KS_rf hkg_j7 (by decide)) egm_10 (by decide)) egm_11 (by decide)) hI_gm_11 (VB_sh hvb (DK_of (KS_rf (L := []) (f := sg_j7)) (show KS [60, 61] gm_j7 gm_11 from (KS_up (KS_up KS_rf egm_10 (by decide)) egm_11 (by decide))) (KS_rf (L := []) (f := lg)) (by decide) (by decide) (by decide)) rfl (show gm_11 60 = upd (gm_j7 60) _ _ from (Eq.trans (up_at egm_11) (by rw [(up_ne egm_10 (by decide))]; first | done | rfl))) (show gm_11 61 = upd (gm_j7 61) _ _ from (Eq.trans (up_ne egm_11 (by decide)) (up_at egm_10))) rfl ((show KS [60, 61] gm_j7 gm_11 from (KS_up (KS_up KS_rf egm_10 (by decide)) egm_11 (by decide))) 62 (by decide)) ((show KS [60, 61] gm_j7 gm_11 from (KS_up (KS_up KS_rf egm_10 (by decide)) egm_11 (by decide))) 70 (by decide)) ((show KS [60, 61] gm_j7 gm_11 from (KS_up (KS_up KS_rf egm_10 (by decide)) egm_11 (by decide))) 71 (by decide)) ((show KS [60, 61] gm_j7 gm_11 from (KS_up (KS_up KS_rf egm_10 (by decide)) egm_11 (by decide))) 72 (by decide)) ((show KS [60, 61] gm_j7 gm_11 from (KS_up (KS_up KS_rf egm_10 (by decide)) egm_11 (by decide))) 73 (by decide))) (by have := i32_0; have := i32_1; have := i32_2; have := i32_m1; have := congrArg Int32.toInt (show sg_j7 50 = sg 50 from hks_j7 50 (by decide)); have := (show iv 0 80 (sg 50) from MI_s hI 50).1; have := (show iv 0 80 (sg 50) from MI_s hI 50).2; have := (h_4).1; have := (h_4).2; have := (hz_5).1; have := (hz_5).2; have := (h_9).1; have := (h_9).2; have := (hz_12).1; have := (hz_12).2; omega) ((by rw [(show (z_12.toInt + 1).toNat = x1_7.toInt.toNat from (by have := i32_0; have := i32_1; have := i32_2; have := i32_m1; have := (h_4).1; have := (h_4).2; have := (hz_5).1; have := (hz_5).2; have := (h_9).1; have := (h_9).2; have := (hz_12).1; have := (hz_12).2; omega))]; exact ⟨_, DSR_n hds hfk (by rw [← (show r_6.toInt = (wg 33 z_5.toNatClampNeg).toInt from (by have q9 := fLt_r_6; rw [q9]; exact BR_33 hBR ((rt9_ks (L := [55, 56, 57, 58, 60, 61]) (KS_tr (L := [55, 56, 57, 58, 60, 61]) KS_rf hkg_j7 (by decide)) (by decide)).trans hRW) ((rs9_ks (L := [49]) (KS_tr (L := [49]) KS_rf hks_j7 (by decide)) rfl rfl).trans hRS) hz_5 (by rw [(hks_j7 41 (by decide))]; exact hl2)))]; have := i32_0; have := i32_1; have := i32_2; have := i32_m1; have := (h_4).1; have := (h_4).2; have := (hz_5).1; have := (hz_5).2; have := (h_9).1; have := (h_9).2; have := (hz_12).1; have := (hz_12).2; omega), RRo_k hro rfl rfl ((show KS [60, 61] gm_j7 gm_11 from (KS_up (KS_up KS_rf egm_10 (by decide)) egm_11 (by decide))) 53 (by decide)) ((show KS [60, 61] gm_j7 gm_11 from (KS_up (KS_up KS_rf egm_10 (by decide)) egm_11 (by decide))) 54 (by decide)), RRe_k hre rfl ((show KS [60, 61] gm_j7 gm_11 from (KS_up (KS_up KS_rf egm_10 (by decide)) egm_11 (by decide))) 55 (by decide)) ((show KS [60, 61] gm_j7 gm_11 from (KS_up (KS_up KS_rf egm_10 (by decide)) egm_11 (by decide))) 56 (by decide)) ((show KS [60, 61] gm_j7 gm_11 from (KS_up (KS_up KS_rf egm_10 (by decide)) egm_11 (by decide))) 57 (by decide)) ((show KS [60, 61] gm_j7 gm_11 from (KS_up (KS_up KS_rf egm_10 (by decide)) egm_11 (by decide))) 58 (by decide)), SHB_s hsb hfk hRR.2.2.2.2.2 hz4 (show gm_11 61 = upd (gm_j7 61) _ _ from (Eq.trans (up_ne egm_11 (by decide)) (up_at egm_10))) (show gm_11 60 = upd (gm_j7 60) _ _ from (Eq.trans (up_at egm_11) (by rw [(up_ne egm_10 (by decide))]; first | done | rfl))) ((show KS [60, 61] gm_j7 gm_11 from (KS_up (KS_up KS_rf egm_10 (by decide)) egm_11 (by decide))) 62 (by decide)) rfl (by decide)⟩)) _ _ _ hP hD hS (lv_sub hl [0, 2] rfl)
        · have d_13 : ¬ (r_6 : Int32).toInt = (-1) := lv_neT c_8 rfl
          refine lv_aload_n hx hb dX13_shut_30 rfl (lv_at hl 2 rfl) ?_
          refine lv_bipush (v := 7) hx hb dX13_shut_31 (by decide) ?_
          refine lv_aload_n hx hb dX13_shut_33 rfl (lv_at hl 2 rfl) ?_
          refine mr_get (v := .ref (ad 60)) hx hb htb inX13 hown hK hP 60 (by decide) (htb _ kw_210) rfl dX13_shut_34 ?_
          refine lv_iload_n hx hb dX13_shut_37 rfl (lv_at hl 0 rfl) ?_
          refine mr_iald hx hb hK hP 46 (k := 60) rfl rfl rfl (show vp_in z_5 80 from (iv_in hz_5 (by decide))) dX13_shut_38 ?_
          refine lv_topi (fun z_14 ez_14 => ?_)
          have hz_14 : iv (-1) 59 z_14 := iv_of ez_14 (MI_a hI_j7 60 hz_5 (by decide))
          refine lv_aload_n hx hb dX13_shut_39 rfl (lv_at hl 2 rfl) ?_
          refine lv_iload_n hx hb dX13_shut_40 rfl (lv_at hl 0 rfl) ?_
          refine lv_ldc2 (own := RX13) (v := 28259044220366713) hx hb hown (htb _ kw_908) dX13_shut_41 ?_
          refine mr_calli (rest := [.int z_14, .int 7, .ref h0]) ⟨hx, hb, hml, hown, htb⟩ (f_letter9 l dC dI h0 ad cid sg_j7 gm_j7 lg z_5 28259044220366713 hI_j7 (iv_w hz_5 (by decide)) (by rw [(hks_j7 41 (by decide))]; exact hl2) ((DOC_of hdoc (show KS [49] sg sg_j7 from (KS_tr (L := [49]) KS_rf hks_j7 (by decide))) (show KS [55, 56, 57, 58, 60, 61] gm gm_j7 from (KS_tr (L := [55, 56, 57, 58, 60, 61]) KS_rf hkg_j7 (by decide))) (show KS [] lg lg from KS_rf) (by decide) (by decide) (by decide) (by decide)).1.2.2.2)) (cwV 2 htb (gd_V kw_1201 kw_1202 kw_1203 kw_5 kw_1617) rfl rfl rfl (by decide +kernel) ⟨Nat.le_of_ble_eq_true rfl, Nat.le_of_ble_eq_true rfl⟩) rfl hl.1 rfl (Nat.le_of_ble_eq_true rfl) dX13_shut_44 ⟨Nat.zero_le _, Nat.zero_le _⟩ hK hP hD hS hA (fun r_15 u_16 H locs hw hP hD hS => ?_)
          obtain ⟨fLt_r_15, rfl⟩ := hw
          have hP : va_P (dC, dI) vwCl (mW h0 ad cid sg_j7 gm_j7 lg) H := hP
          have hD : va_D A (mW h0 ad cid sg_j7 gm_j7 lg) := hD
          refine lv_iconst (v := 0) hx hb dX13_shut_47 (by decide) ?_
          refine mr_callv (rest := []) ⟨hx, hb, hml, hown, htb⟩ (f_happensE l dC dI h0 ad cid sg_j7 gm_j7 lg 7 z_14 r_15 0 S2_ hI_j7 hre) (cwV 4 htb (gd_V kw_1242 kw_1243 kw_1244 kw_5 kw_1629) rfl rfl rfl (by decide +kernel) ⟨Nat.le_of_ble_eq_true rfl, Nat.le_of_ble_eq_true rfl⟩) rfl hl.1 rfl (Nat.le_of_ble_eq_true rfl) dX13_shut_48 ⟨Nat.zero_le _, Nat.zero_le _⟩ hK hP hD hS hA (fun u_18 H locs hw hP hD hS => ?_)
          obtain ⟨sgv_19, gmv_19, lgv_19, rfl, hIv_19, ksv_19, kgv_19, klv_19, fR_r_17⟩ := hw
          obtain rfl := KS_nil klv_19
          have hP : va_P (dC, dI) vwCl (mW h0 ad cid sgv_19 gmv_19 lg) H := hP
          have hD : va_D A (mW h0 ad cid sgv_19 gmv_19 lg) := hD
          refine lv_aload_n hx hb dX13_shut_51 rfl (lv_at hl 2 rfl) ?_
          refine mr_get (v := .ref (ad 61)) hx hb htb inX13 hown hK hP 61 (by decide) (htb _ kw_211) rfl dX13_shut_52 ?_
          refine lv_iload_n hx hb dX13_shut_55 rfl (lv_at hl 0 rfl) ?_
          refine lv_iconst (v := 0) hx hb dX13_shut_56 (by decide) ?_
          refine ma_zast (x := 0) hx hb hK hP hD hS 47 (k := 61) rfl rfl rfl (show vp_in z_5 80 from (iv_in hz_5 (by decide))) dX13_shut_57 (fun gm_20 H locs egm_20 hP hD hS => ?_)
          have hI_gm_20 := MI_st hIv_19 egm_20 (iv_of (iv_vb (iv_w (iv_k (by decide) : iv 0 0 0) (by decide))) (iv_k (by decide) : iv 0 0 0)) (by decide)
          refine lv_aload_n hx hb dX13_shut_58 rfl (lv_at hl 2 rfl) ?_
          refine mr_get (v := .ref (ad 60)) hx hb htb inX13 hown hK hP 60 (by decide) (htb _ kw_210) rfl dX13_shut_59 ?_
          refine lv_iload_n hx hb dX13_shut_62 rfl (lv_at hl 0 rfl) ?_
          refine lv_iconst (v := (-1)) hx hb dX13_shut_63 (by decide) ?_
          refine ma_iast (x := (-1)) hx hb hK hP hD hS 46 (k := 60) rfl rfl rfl (show vp_in z_5 80 from (iv_in hz_5 (by decide))) dX13_shut_64 (fun gm_21 H locs egm_21 hP hD hS => ?_)
          have hI_gm_21 := MI_st hI_gm_20 egm_21 (iv_k (by decide) : iv (-1) (-1) (-1)) (by decide)
          obtain ⟨z_22, ez_22⟩ : ∃ z : Int32, z = x1_7 + (-1) := ⟨_, rfl⟩
          have hz_22 : iv (-1) 78 z_22 := iv_of ez_22 (iv_add h_4 (iv_k (by decide) : iv (-1) (-1) (-1)) (by decide))
          have tz_22 : z_22.toInt = x1_7.toInt - 1 := by rw [ez_22]; exact iv_addE h_4 (iv_k (by decide) : iv (-1) (-1) (-1)) (by decide)
          refine lv_iinc (v := z_22) (lv' := [(1, .int z_22), (2, .int z_5), (0, .ref h0)]) hx hb dX13_shut_65 hl (k := 1) rfl ez_22.symm (by decide) rfl (fun ls hl => ?_)
          refine lv_goto (tgt := 7) hx hb dX13_shut_68 (by decide) ?_
          exact ih7 _ (by rw [← hn7]; exact (iv_measDn tz_22 (by decide) h_4 (by decide))) sgv_19 gm_21 z_22 rfl (iv_w hz_22 (by decide)) (KS_tr (L := [49]) (KS_tr (L := [49]) KS_rf hks_j7 (by decide)) ksv_19 (by decide)) (KS_up (KS_up (KS_tr (L := [55, 56, 57, 58, 60, 61]) (KS_tr (L := [55, 56, 57, 58, 60, 61]) KS_rf hkg_j7 (by decide)) kgv_19 (by decide)) egm_20 (by decide)) egm_21 (by decide)) hI_gm_21 (VB_sh hvb (DK_of (show KS [49] sg_j7 sgv_19 from (KS_tr (L := [49]) KS_rf ksv_19 (by decide))) (show KS [55, 56, 57, 58, 60, 61] gm_j7 gm_21 from (KS_up (KS_up (KS_tr (L := [55, 56, 57, 58, 60, 61]) KS_rf kgv_19 (by decide)) egm_20 (by decide)) egm_21 (by decide))) (KS_rf (L := []) (f := lg)) (by decide) (by decide) (by decide)) rfl (show gm_21 60 = upd (gm_j7 60) _ _ from (Eq.trans (up_at egm_21) (by rw [(Eq.trans (up_ne egm_20 (by decide)) (kgv_19 60 (by decide)))]; first | done | rfl))) (show gm_21 61 = upd (gm_j7 61) _ _ from (Eq.trans (up_ne egm_21 (by decide)) (Eq.trans (up_at egm_20) (by rw [(kgv_19 61 (by decide))]; first | done | rfl)))) rfl ((show KS [55, 56, 57, 58, 60, 61] gm_j7 gm_21 from (KS_up (KS_up (KS_tr (L := [55, 56, 57, 58, 60, 61]) KS_rf kgv_19 (by decide)) egm_20 (by decide)) egm_21 (by decide))) 62 (by decide)) ((show KS [55, 56, 57, 58, 60, 61] gm_j7 gm_21 from (KS_up (KS_up (KS_tr (L := [55, 56, 57, 58, 60, 61]) KS_rf kgv_19 (by decide)) egm_20 (by decide)) egm_21 (by decide))) 70 (by decide)) ((show KS [55, 56, 57, 58, 60, 61] gm_j7 gm_21 from (KS_up (KS_up (KS_tr (L := [55, 56, 57, 58, 60, 61]) KS_rf kgv_19 (by decide)) egm_20 (by decide)) egm_21 (by decide))) 71 (by decide)) ((show KS [55, 56, 57, 58, 60, 61] gm_j7 gm_21 from (KS_up (KS_up (KS_tr (L := [55, 56, 57, 58, 60, 61]) KS_rf kgv_19 (by decide)) egm_20 (by decide)) egm_21 (by decide))) 72 (by decide)) ((show KS [55, 56, 57, 58, 60, 61] gm_j7 gm_21 from (KS_up (KS_up (KS_tr (L := [55, 56, 57, 58, 60, 61]) KS_rf kgv_19 (by decide)) egm_20 (by decide)) egm_21 (by decide))) 73 (by decide))) (by have := i32_0; have := i32_1; have := i32_2; have := i32_m1; have := congrArg Int32.toInt (show sgv_19 50 = sg_j7 50 from ksv_19 50 (by decide)); have := congrArg Int32.toInt (show sg_j7 50 = sg 50 from hks_j7 50 (by decide)); have := (show iv 0 80 (sg 50) from MI_s hI 50).1; have := (show iv 0 80 (sg 50) from MI_s hI 50).2; have := congrArg Int32.toInt (show sg_j7 50 = sg 50 from hks_j7 50 (by decide)); have := (h_4).1; have := (h_4).2; have := (hz_5).1; have := (hz_5).2; have := (hz_14).1; have := (hz_14).2; have := (hz_22).1; have := (hz_22).2; omega) ((by rw [(show (z_22.toInt + 1).toNat = x1_7.toInt.toNat from (by have := i32_0; have := i32_1; have := i32_2; have := i32_m1; have := (h_4).1; have := (h_4).2; have := (hz_5).1; have := (hz_5).2; have := (hz_14).1; have := (hz_14).2; have := (hz_22).1; have := (hz_22).2; omega))]; exact ⟨_, DSR_y hds hfk rfl (by have q9 := hst.2; rw [← q9]) (show r_15.toInt = (wg 33 z_5.toNatClampNeg).toInt from (by have q9 := fLt_r_15; rw [q9]; exact BR_33 hBR ((rt9_ks (L := [55, 56, 57, 58, 60, 61]) (KS_tr (L := [55, 56, 57, 58, 60, 61]) KS_rf hkg_j7 (by decide)) (by decide)).trans hRW) ((rs9_ks (L := [49]) (KS_tr (L := [49]) KS_rf hks_j7 (by decide)) rfl rfl).trans hRS) hz_5 (by rw [(hks_j7 41 (by decide))]; exact hl2))).symm (by rw [← (Eq.refl r_15.toInt)]; exact (by rw [(show r_15.toInt = (wg 33 z_5.toNatClampNeg).toInt from (by have q9 := fLt_r_15; rw [q9]; exact BR_33 hBR ((rt9_ks (L := [55, 56, 57, 58, 60, 61]) (KS_tr (L := [55, 56, 57, 58, 60, 61]) KS_rf hkg_j7 (by decide)) (by decide)).trans hRW) ((rs9_ks (L := [49]) (KS_tr (L := [49]) KS_rf hks_j7 (by decide)) rfl rfl).trans hRS) hz_5 (by rw [(hks_j7 41 (by decide))]; exact hl2))), ← (show r_6.toInt = (wg 33 z_5.toNatClampNeg).toInt from (by have q9 := fLt_r_6; rw [q9]; exact BR_33 hBR ((rt9_ks (L := [55, 56, 57, 58, 60, 61]) (KS_tr (L := [55, 56, 57, 58, 60, 61]) KS_rf hkg_j7 (by decide)) (by decide)).trans hRW) ((rs9_ks (L := [49]) (KS_tr (L := [49]) KS_rf hks_j7 (by decide)) rfl rfl).trans hRS) hz_5 (by rw [(hks_j7 41 (by decide))]; exact hl2)))]; exact (fun q7 => c_8 (Int32.toInt_inj.mp (q7.trans (by decide)))))) rfl, RRo_k hro (by rw [zAdd_O]) ((show KS [49] sg_j7 sgv_19 from (KS_tr (L := [49]) KS_rf ksv_19 (by decide))) 48 (by decide)) ((show KS [55, 56, 57, 58, 60, 61] gm_j7 gm_21 from (KS_up (KS_up (KS_tr (L := [55, 56, 57, 58, 60, 61]) KS_rf kgv_19 (by decide)) egm_20 (by decide)) egm_21 (by decide))) 53 (by decide)) ((show KS [55, 56, 57, 58, 60, 61] gm_j7 gm_21 from (KS_up (KS_up (KS_tr (L := [55, 56, 57, 58, 60, 61]) KS_rf kgv_19 (by decide)) egm_20 (by decide)) egm_21 (by decide))) 54 (by decide)), (by have q9 := fR_r_17; rw [ez_14] at q9; exact RRe_k q9 rfl ((show KS [60, 61] gmv_19 gm_21 from (KS_up (KS_up KS_rf egm_20 (by decide)) egm_21 (by decide))) 55 (by decide)) ((show KS [60, 61] gmv_19 gm_21 from (KS_up (KS_up KS_rf egm_20 (by decide)) egm_21 (by decide))) 56 (by decide)) ((show KS [60, 61] gmv_19 gm_21 from (KS_up (KS_up KS_rf egm_20 (by decide)) egm_21 (by decide))) 57 (by decide)) ((show KS [60, 61] gmv_19 gm_21 from (KS_up (KS_up KS_rf egm_20 (by decide)) egm_21 (by decide))) 58 (by decide))), SHB_s hsb hfk hRR.2.2.2.2.2 hz4 (show gm_21 61 = upd (gm_j7 61) _ _ from (Eq.trans (up_ne egm_21 (by decide)) (Eq.trans (up_at egm_20) (by rw [(kgv_19 61 (by decide))]; first | done | rfl)))) (show gm_21 60 = upd (gm_j7 60) _ _ from (Eq.trans (up_at egm_21) (by rw [(Eq.trans (up_ne egm_20 (by decide)) (kgv_19 60 (by decide)))]; first | done | rfl))) ((show KS [55, 56, 57, 58, 60, 61] gm_j7 gm_21 from (KS_up (KS_up (KS_tr (L := [55, 56, 57, 58, 60, 61]) KS_rf kgv_19 (by decide)) egm_20 (by decide)) egm_21 (by decide))) 62 (by decide)) rfl (by decide)⟩)) _ _ _ hP hD hS (lv_sub hl [0, 2] rfl)
  refine lv_aload_n hx hb dX13_shut_0 rfl (lv_at hl 0 rfl) ?_
  refine mr_get (v := .int (sg 50)) hx hb htb inX13 hown hK hP 50 (by decide) (htb _ kw_824) rfl dX13_shut_1 ?_
  refine lv_iconst (v := 1) hx hb dX13_shut_4 (by decide) ?_
  refine lv_isub hx hb dX13_shut_5 ?_
  refine lv_topi (fun z_23 ez_23 => ?_)
  have hz_23 : iv (-1) 79 z_23 := iv_of ez_23 (iv_sub (show iv 0 80 (sg 50) from MI_s hI 50) (iv_k (by decide) : iv 1 1 1) (by decide))
  have tz_23 : z_23.toInt = ((sg 50) : Int32).toInt - 1 := by rw [ez_23]; exact iv_subE (show iv 0 80 (sg 50) from MI_s hI 50) (iv_k (by decide) : iv 1 1 1) (by decide)
  refine lv_istore_n (lv' := [(1, .int z_23), (0, .ref h0)]) hx hb dX13_shut_6 rfl hl (by decide) rfl (fun ls hl => ?_)
  exact hj7 _ sg gm z_23 rfl hz_23 KS_rf KS_rf hI (⟨hgi.1, hgi.2.1⟩) (by have := i32_0; have := i32_1; have := i32_2; have := i32_m1; have := (show iv 0 80 (sg 50) from MI_s hI 50).1; have := (show iv 0 80 (sg 50) from MI_s hI 50).2; have := ((show iv 0 80 (sg 50) from MI_s hI 50)).1; have := ((show iv 0 80 (sg 50) from MI_s hI 50)).2; have := (hz_23).1; have := (hz_23).2; omega) ((by have q5 := hRR.2.2.2.1; exact ⟨S, DSR_0 (by have := i32_0; have := i32_1; have := i32_2; have := i32_m1; have := (show iv 0 80 (sg 50) from MI_s hI 50).1; have := (show iv 0 80 (sg 50) from MI_s hI 50).2; have := ((show iv 0 80 (sg 50) from MI_s hI 50)).1; have := ((show iv 0 80 (sg 50) from MI_s hI 50)).2; have := (hz_23).1; have := (hz_23).2; omega), hRR.1, hRR.2.1, SHB_0 hRR hWZ (by have := i32_0; have := i32_1; have := i32_2; have := i32_m1; have := (show iv 0 80 (sg 50) from MI_s hI 50).1; have := (show iv 0 80 (sg 50) from MI_s hI 50).2; have := ((show iv 0 80 (sg 50) from MI_s hI 50)).1; have := ((show iv 0 80 (sg 50) from MI_s hI 50)).2; have := (hz_23).1; have := (hz_23).2; omega)⟩)) _ _ _ hP hD hS (lv_sub hl [0, 1] rfl)
end
section
section KI9
variable {ws : Nat → Int32} {wg : Nat → Nat → Int32} {wl : Nat → Nat → Int64} {S S2 : S9} {b : Nat} {o fo : Int} {vs : List (List Int)}
theorem bd9_P {P : S9 → S9 → Prop} {α β : Type} (tr : ∀ a b c, P a b → P b c → P a c) {x : Option α × S9} {f : α → S9 → Option β × S9} (h : P S x.2) (hf : ∀ a, P x.2 (f a x.2).2) : P S (bd9 x f).2 := by
  obtain ⟨o, T⟩ := x
  cases o with
  | none => exact h
  | some a => exact tr _ _ _ h (hf a)
/-- what each making keeps -/
theorem MKI {P : S9 → S9 → Prop} (rf : ∀ S, P S S) (tr : ∀ a b c, P a b → P b c → P a c) (be : ∀ b S, ¬ zS S b = 1 → P S (oBe b S)) (br : ∀ b fo vs S, P S (oBr wg wl b fo vs S).2) (se : ∀ o h V S, P S (oSe wg wl o h V S).2) (fi : ∀ b o S, P S (oFi wg wl b o S)) : ∀ n b S, P S (oMK ws wg wl n b S).2
  | 0, b, S => rf S
  | n + 1, b, S => by
    have ih := MKI rf tr be br se fi n
    have hg : ∀ t S, P S (oGet wg (oMK ws wg wl n) t S).2 := fun t S => by
      unfold oGet
      split
      · exact rf S
      · split
        · exact rf S
        · split
          · exact rf S
          · exact ih _ S
    have ho : ∀ e S, P S (oObj ws wg wl (oMK ws wg wl n) e S).2 := fun e S => by
      unfold oObj
      split
      · exact hg _ S
      · exact ih _ S
    have hi : ∀ e S, P S (oItm ws wg wl (oMK ws wg wl n) e S).2 := fun e S => by
      unfold oItm
      split
      · exact rf S
      · split
        · exact rf S
        · exact bd9_P tr (ho e S) (fun a => rf _)
    have hs : ∀ (l : List Nat) (acc : List Int) S, P S (oIts ws wg wl (oMK ws wg wl n) l acc S).2 := by
      intro l
      induction l with
      | nil => intro acc S; exact rf S
      | cons e l ihl => intro acc S; exact bd9_P tr (hi e S) (fun a => ihl _ _)
    have hc : ∀ c S, P S (oCon ws wg wl (oMK ws wg wl n) c S).2 := fun c S => by
      unfold oCon
      split
      · exact hs _ _ S
      · split
        · exact bd9_P tr (ho c S) (fun a => rf _)
        · exact rf S
    have ha : ∀ (l : List Nat) (acc : List (List Int)) S, P S (oArs ws wg wl (oMK ws wg wl n) l acc S).2 := by
      intro l
      induction l with
      | nil => intro acc S; exact rf S
      | cons e l ihl => intro acc S; exact bd9_P tr (hc _ S) (fun a => ihl _ _)
    have ht : ∀ (o : Int) (l : List Nat) S, P S (oSts ws wg wl (oMK ws wg wl n) o l S).2 := by
      intro o l
      induction l with
      | nil => intro S; exact rf S
      | cons e l ihl => intro S; exact bd9_P tr (hc _ S) (fun a => bd9_P tr (se o e a _) (fun _ => ihl _))
    have h4 : ∀ b o l S, P S (r4 ws wg wl (oMK ws wg wl n) b o l S).2 := fun b o l S => bd9_P tr (ht o l S) (fun _ => fi b o _)
    have h3 : ∀ b fo vs S, P S (r3 ws wg wl (oMK ws wg wl n) b fo vs S).2 := fun b fo vs S => bd9_P tr (br b fo vs S) (fun o => h4 b o _ _)
    have h2 : ∀ b fo l acc S, P S (r2 ws wg wl (oMK ws wg wl n) b fo l acc S).2 := fun b fo l acc S => bd9_P tr (ha l acc S) (fun vs => h3 b fo vs _)
    have h1 : ∀ b S, P S (r1 ws wg wl (oMK ws wg wl n) b S).2 := fun b S => by
      unfold r1
      split
      · exact rf S
      · refine bd9_P tr ?_ (fun fo => h2 b fo _ _ _)
        unfold oFa
        split
        · exact rf S
        · exact hg _ S
    show P S (if zS S b = 1 then (none, S) else oMB ws wg wl (oMK ws wg wl n) b S).2
    by_cases q : zS S b = 1
    · rw [if_pos q]; exact rf S
    · rw [if_neg q]
      refine tr _ _ _ (be b S q) ?_
      refine bd9_P tr ?_ (fun _ => h1 b _)
      unfold oDe
      split
      · exact rf _
      · exact hg _ _
theorem oSe_2 {h : Nat} {V : List Int} : (oSe wg wl o h V S).2 = S ∨ ∃ t, (oSe wg wl o h V S).2 = tlV wg wl 4 o (wg 22 h).toInt (ctE wg h) V t S := by
  unfold oSe
  simp only []
  split
  · exact Or.inl rfl
  · split
    · exact Or.inl rfl
    · exact Or.inr ⟨_, rfl⟩
theorem oBr_2 : (oBr wg wl b fo vs S).2 = S ∨ ∃ s f, (oBr wg wl b fo vs S).2 = tlA wg wl b ((zO S).length : Int) vs f s (wg 7 s).toNatClampNeg 0 (oB2 wg b s S) := by
  cases hc : chS wg wl b fo (zO S) vs with
  | none => rw [oBr_n hc]; exact Or.inl rfl
  | some q =>
    obtain ⟨s, f⟩ := q
    by_cases h6 : 60 ≤ (zO S).length
    · rw [oBr_6 hc h6]; exact Or.inl rfl
    · rw [oBr_s hc h6]; exact Or.inr ⟨s, f, rfl⟩
theorem tlI_F {V : List Int} : ∀ k i S, zF (tlI V k i S) = zF S
  | 0, i, S => rfl
  | k + 1, i, S => by
    show zF (tlI V k (i + 1) (zAdd S _)) = _
    rw [tlI_F k (i + 1), zAdd_F]
theorem tlV_F {wh ab sc t : Int} {c : Nat} {V : List Int} : zF (tlV wg wl wh ab sc c V t S) = zF S := by
  by_cases h : (wg 25 c).toInt = 6
  · rw [tlV_l h, tlI_F, zAdd_F]
  · rw [tlV_n h, zAdd_F]
theorem tlA_F {g : Nat → Int} {s : Nat} : ∀ k p S, zF (tlA wg wl b o vs g s k p S) = zF S
  | 0, p, S => rfl
  | k + 1, p, S => by
    show zF (tlA wg wl b o vs g s k (p + 1) (tlV wg wl 3 o (p : Int) _ _ _ S)) = _
    rw [tlA_F k (p + 1), tlV_F]
theorem oB2_F {s : Nat} : zF (oB2 wg b s S) = zF S := by
  unfold oB2
  by_cases h : (wg 8 s).toInt = -1
  · rw [if_pos h, zAdd_F]; rfl
  · rw [if_neg h, zAdd_F]; rfl
theorem oF1_F : zF (oF1 wg b o S) = zF S := by
  unfold oF1
  by_cases h : (wg 32 b).toInt = -1
  · rw [if_pos h]
  · rw [if_neg h, zAdd_F]
/-- what is made once is among the finished, whatever is made -/
theorem WZ_e (h : WZ9 wg wl S) (e1 : zS S2 = zS S) (e2 : zF S2 = zF S) : WZ9 wg wl S2 := by unfold WZ9; rw [e1, e2]; exact h
theorem WZ_mk (n : Nat) (h : WZ9 wg wl S) : WZ9 wg wl (oMK ws wg wl n b S).2 := by
  refine MKI (P := fun S S2 => WZ9 wg wl S → WZ9 wg wl S2) (fun _ q => q) (fun _ _ _ h1 h2 q => h2 (h1 q)) ?_ ?_ ?_ ?_ n b S h
  · intro b S _ q t ht h2
    have e : zS (oBe b S) t = fu9 (zS S) b 1 t := rfl
    by_cases p : t = b
    · rw [e, p, fu9_at] at h2; exact absurd h2 (by decide)
    · rw [e, fu9_ne p] at h2; exact q t ht h2
  · intro b fo vs S q
    rcases oBr_2 (wg := wg) (wl := wl) (b := b) (fo := fo) (vs := vs) (S := S) with e | ⟨s, f, e⟩
    · rw [e]; exact q
    · rw [e]; exact WZ_e q (by rw [(tlA_S _ _ _).2.1, oB2_S.1]) (by rw [tlA_F, oB2_F])
  · intro o h V S q
    rcases oSe_2 (wg := wg) (wl := wl) (o := o) (h := h) (V := V) (S := S) with e | ⟨t, e⟩
    · rw [e]; exact q
    · rw [e]; exact WZ_e q tlV_S.1 tlV_F
  · intro b o S q t ht h2
    unfold oFi oF2 at *
    by_cases p : ¬ wl 4 b = 0 ∧ wg 35 b = 0
    · rw [if_pos p] at h2 ⊢
      show t ∈ zF (oF1 wg b o S) ++ [b]
      have h2 : fu9 (zS (oF1 wg b o S)) b 2 t = 2 := h2
      by_cases p2 : t = b
      · rw [p2]; exact List.mem_append.mpr (Or.inr (by simp))
      · rw [fu9_ne p2, oF1_w.2.1] at h2
        rw [oF1_F]; exact List.mem_append.mpr (Or.inl (q t ht h2))
    · rw [if_neg p] at h2 ⊢
      show t ∈ zF (oF1 wg b o S)
      have h2 : fu9 (zS (oF1 wg b o S)) b 0 t = 2 := h2
      by_cases p2 : t = b
      · rw [p2, fu9_at] at h2; exact absurd h2 (by decide)
      · rw [fu9_ne p2, oF1_w.2.1] at h2
        rw [oF1_F]; exact q t ht h2
theorem WZ_st (h : WZ9 wg wl S) : WZ9 wg wl (zSt S) := by
  intro t ht h2
  refine h t ht ?_
  have h2 : (if zS S t = 1 then 0 else zS S t) = 2 := h2
  by_cases p : zS S t = 1
  · rw [if_pos p] at h2; exact absurd h2 (by decide)
  · rw [if_neg p] at h2; exact h2
theorem WZ_fo : WZ9 wg wl (zFo S) := by
  intro t ht h2
  have h2 : (if zS S t = 2 then 0 else zS S t) = 2 := h2
  by_cases p : zS S t = 2
  · rw [if_pos p] at h2; exact absurd h2 (by decide)
  · rw [if_neg p] at h2; exact absurd h2 p
theorem WZ_gt (n : Nat) (t : Int) (h : WZ9 wg wl S) : WZ9 wg wl (gtR ws wg wl n t S).2 := by
  unfold gtR
  split
  · exact h
  · split
    · exact h
    · split
      · exact h
      · exact WZ_mk n h
/-- nothing is being made -/
def NB9 (S : S9) : Prop := ∀ t, ¬ zS S t = 1
def KN9 (S S2 : S9) : Prop := ∀ t, zS S2 t = 1 → zS S t = 1
theorem bd9_so {α β : Type} {x : Option α × S9} {f : α → S9 → Option β × S9} {c : β} (h : bd9 x f = (some c, S2)) : ∃ a S1, x = (some a, S1) ∧ f a S1 = (some c, S2) := by
  obtain ⟨o, T⟩ := x
  cases o with
  | none => exact absurd h (by intro q; exact absurd (congrArg Prod.fst q) (by simp [bd9]))
  | some a => exact ⟨a, T, rfl, h⟩
theorem KN_tr {S1 : S9} (h : KN9 S S1) (h2 : KN9 S1 S2) : KN9 S S2 := fun t q => h t (h2 t q)
theorem KN_rf : KN9 S S := fun _ q => q
theorem KN_e (e : zS S2 = zS S) : KN9 S S2 := fun t q => by rw [e] at q; exact q
theorem oFi_z {t : Nat} (h : zS (oFi wg wl b o S) t = 1) : ¬ t = b ∧ zS S t = 1 := by
  unfold oFi oF2 at h
  by_cases p : ¬ wl 4 b = 0 ∧ wg 35 b = 0
  · rw [if_pos p] at h
    have h : fu9 (zS (oF1 wg b o S)) b 2 t = 1 := h
    by_cases p2 : t = b
    · rw [p2, fu9_at] at h; exact absurd h (by decide)
    · rw [fu9_ne p2, oF1_w.2.1] at h; exact ⟨p2, h⟩
  · rw [if_neg p] at h
    have h : fu9 (zS (oF1 wg b o S)) b 0 t = 1 := h
    by_cases p2 : t = b
    · rw [p2, fu9_at] at h; exact absurd h (by decide)
    · rw [fu9_ne p2, oF1_w.2.1] at h; exact ⟨p2, h⟩
theorem KN_mk : ∀ n b S o S2, oMK ws wg wl n b S = (some o, S2) → KN9 S S2
  | 0, b, S, o, S2, h => absurd (congrArg Prod.fst h) (by simp [oMK])
  | n + 1, b, S, o, S2, h => by
    have ih := KN_mk n
    have hg : ∀ t S o S2, oGet wg (oMK ws wg wl n) t S = (some o, S2) → KN9 S S2 := fun t S o S2 h => by
      unfold oGet at h
      split at h
      · exact absurd (congrArg Prod.fst h) (by simp)
      · split at h
        · exact absurd (congrArg Prod.fst h) (by simp)
        · split at h
          · have e : S = S2 := congrArg Prod.snd h
            rw [← e]; exact KN_rf
          · exact ih _ _ _ _ h
    have ho : ∀ e S o S2, oObj ws wg wl (oMK ws wg wl n) e S = (some o, S2) → KN9 S S2 := fun e S o S2 h => by
      unfold oObj at h
      split at h
      · exact hg _ _ _ _ h
      · exact ih _ _ _ _ h
    have hi : ∀ e S o S2, oItm ws wg wl (oMK ws wg wl n) e S = (some o, S2) → KN9 S S2 := fun e S o S2 h => by
      unfold oItm at h
      split at h
      · have e : S = S2 := congrArg Prod.snd h
        rw [← e]; exact KN_rf
      · split at h
        · have e : S = S2 := congrArg Prod.snd h
          rw [← e]; exact KN_rf
        · obtain ⟨a, S1, h1, h2⟩ := bd9_so h
          have e : S1 = S2 := congrArg Prod.snd h2
          rw [← e]; exact ho _ _ _ _ h1
    have hs : ∀ (l : List Nat) (acc : List Int) S o S2, oIts ws wg wl (oMK ws wg wl n) l acc S = (some o, S2) → KN9 S S2 := by
      intro l
      induction l with
      | nil => intro acc S o S2 h; have e : S = S2 := congrArg Prod.snd h; rw [← e]; exact KN_rf
      | cons e l ihl =>
        intro acc S o S2 h
        obtain ⟨a, S1, h1, h2⟩ := bd9_so h
        exact KN_tr (hi _ _ _ _ h1) (ihl _ _ _ _ h2)
    have hc : ∀ c S o S2, oCon ws wg wl (oMK ws wg wl n) c S = (some o, S2) → KN9 S S2 := fun c S o S2 h => by
      unfold oCon at h
      split at h
      · exact hs _ _ _ _ _ h
      · split at h
        · obtain ⟨a, S1, h1, h2⟩ := bd9_so h
          have e : S1 = S2 := congrArg Prod.snd h2
          rw [← e]; exact ho _ _ _ _ h1
        · have e : S = S2 := congrArg Prod.snd h
          rw [← e]; exact KN_rf
    have ha : ∀ (l : List Nat) (acc : List (List Int)) S o S2, oArs ws wg wl (oMK ws wg wl n) l acc S = (some o, S2) → KN9 S S2 := by
      intro l
      induction l with
      | nil => intro acc S o S2 h; have e : S = S2 := congrArg Prod.snd h; rw [← e]; exact KN_rf
      | cons e l ihl =>
        intro acc S o S2 h
        obtain ⟨a, S1, h1, h2⟩ := bd9_so h
        exact KN_tr (hc _ _ _ _ h1) (ihl _ _ _ _ h2)
    have ht : ∀ (u : Int) (l : List Nat) S o S2, oSts ws wg wl (oMK ws wg wl n) u l S = (some o, S2) → KN9 S S2 := by
      intro u l
      induction l with
      | nil => intro S o S2 h; have e : S = S2 := congrArg Prod.snd h; rw [← e]; exact KN_rf
      | cons e l ihl =>
        intro S o S2 h
        obtain ⟨a, S1, h1, h2⟩ := bd9_so h
        obtain ⟨a2, S3, h3, h4⟩ := bd9_so h2
        exact KN_tr (hc _ _ _ _ h1) (KN_tr (KN_e (oSe_e h3).2.1) (ihl _ _ _ h4))
    have h4 : ∀ b u l S o S2, r4 ws wg wl (oMK ws wg wl n) b u l S = (some o, S2) → ∃ S3 w, KN9 S S3 ∧ S2 = oFi wg wl b w S3 := fun b u l S o S2 h => by
      obtain ⟨a, S1, h1, h2⟩ := bd9_so h
      exact ⟨S1, u, ht _ _ _ _ _ h1, (congrArg Prod.snd h2).symm⟩
    have h3 : ∀ b fo vs S o S2, r3 ws wg wl (oMK ws wg wl n) b fo vs S = (some o, S2) → ∃ S3 w, KN9 S S3 ∧ S2 = oFi wg wl b w S3 := fun b fo vs S o S2 h => by
      obtain ⟨a, S1, h1, h2⟩ := bd9_so h
      obtain ⟨S3, w, q1, q2⟩ := h4 _ _ _ _ _ _ h2
      exact ⟨S3, w, KN_tr (KN_e (oBr_w h1).2.2.1) q1, q2⟩
    have h2 : ∀ b fo l acc S o S2, r2 ws wg wl (oMK ws wg wl n) b fo l acc S = (some o, S2) → ∃ S3 w, KN9 S S3 ∧ S2 = oFi wg wl b w S3 := fun b fo l acc S o S2 h => by
      obtain ⟨a, S1, h1, h2⟩ := bd9_so h
      obtain ⟨S3, w, q1, q2⟩ := h3 _ _ _ _ _ _ h2
      exact ⟨S3, w, KN_tr (ha _ _ _ _ _ h1) q1, q2⟩
    have h1 : ∀ b S o S2, r1 ws wg wl (oMK ws wg wl n) b S = (some o, S2) → ∃ S3 w, KN9 S S3 ∧ S2 = oFi wg wl b w S3 := fun b S o S2 h => by
      unfold r1 at h
      split at h
      · exact absurd (congrArg Prod.fst h) (by simp)
      · obtain ⟨a, S1, h1, h3⟩ := bd9_so h
        obtain ⟨S3, w, q1, q2⟩ := h2 _ _ _ _ _ _ _ h3
        refine ⟨S3, w, KN_tr ?_ q1, q2⟩
        unfold oFa at h1
        split at h1
        · have e : S = S1 := congrArg Prod.snd h1
          rw [← e]; exact KN_rf
        · exact hg _ _ _ _ h1
    have h : (if zS S b = 1 then (none, S) else oMB ws wg wl (oMK ws wg wl n) b S) = (some o, S2) := h
    by_cases q : zS S b = 1
    · rw [if_pos q] at h; exact absurd (congrArg Prod.fst h) (by simp)
    · rw [if_neg q] at h
      obtain ⟨a, S1, h5, h6⟩ := bd9_so h
      obtain ⟨S3, w, q1, q2⟩ := h1 _ _ _ _ h6
      have k1 : KN9 (oBe b S) S1 := by
        unfold oDe at h5
        split at h5
        · have e : oBe b S = S1 := congrArg Prod.snd h5
          rw [← e]; exact KN_rf
        · exact hg _ _ _ _ h5
      intro t ht
      rw [q2] at ht
      obtain ⟨p1, p2⟩ := oFi_z ht
      have p3 := k1 t (q1 t p2)
      have e : zS (oBe b S) t = fu9 (zS S) b 1 t := rfl
      rw [e, fu9_ne p1] at p3; exact p3
theorem KN_gt {n : Nat} {t : Int} (h : gtR ws wg wl n t S = (some o, S2)) : KN9 S S2 := by
  unfold gtR at h
  split at h
  · exact absurd (congrArg Prod.fst h) (by simp)
  · split at h
    · exact absurd (congrArg Prod.fst h) (by simp)
    · split at h
      · have e : S = S2 := congrArg Prod.snd h
        rw [← e]; exact KN_rf
      · exact KN_mk _ _ _ _ _ h
theorem NB_st : NB9 (zSt S) := fun t q => by
  have q : (if zS S t = 1 then 0 else zS S t) = 1 := q
  by_cases p : zS S t = 1
  · rw [if_pos p] at q; exact absurd q (by decide)
  · rw [if_neg p] at q; exact p q
theorem NB_k (h : NB9 S) (k : KN9 S S2) : NB9 S2 := fun t q => h t (k t q)
theorem NB_fo (h : NB9 S) : NB9 (zFo S) := fun t q => by
  have q : (if zS S t = 2 then 0 else zS S t) = 1 := q
  by_cases p : zS S t = 2
  · rw [if_pos p] at q; exact absurd q (by decide)
  · rw [if_neg p] at q; exact h t q
theorem dsL_S : ∀ (l : List Nat) S, zS (dsL wg l S) = zS S ∧ zO (dsL wg l S) = zO S
  | [], S => ⟨rfl, rfl⟩
  | x :: l, S => by
    show zS (dsL wg l (if (wg 33 x).toInt = -1 then S else zAdd S (7, zW S x, (wg 33 x).toInt, 0))) = _ ∧ zO (dsL wg l (if (wg 33 x).toInt = -1 then S else zAdd S (7, zW S x, (wg 33 x).toInt, 0))) = _
    have q := dsL_S l (if (wg 33 x).toInt = -1 then S else zAdd S (7, zW S x, (wg 33 x).toInt, 0))
    rw [q.1, q.2]
    by_cases p : (wg 33 x).toInt = -1
    · rw [if_pos p]; exact ⟨rfl, rfl⟩
    · rw [if_neg p, zAdd_S, zAdd_O]; exact ⟨rfl, rfl⟩
theorem NB_cl (h : NB9 S) : NB9 (zCl wg S) := NB_fo (fun t q => h t (by rw [(dsL_S _ _).1] at q; exact q))
theorem WZ_cl : WZ9 wg wl (zCl wg S) := WZ_fo
theorem WF_0 (h : NB9 (zFo S)) : WF9 (zFo S) := fun t ht => by
  rcases ht with q | q
  · have q : (if zS S t = 2 then 0 else zS S t) = 2 := q
    by_cases p : zS S t = 2
    · rw [if_pos p] at q; exact absurd q (by decide)
    · rw [if_neg p] at q; exact absurd q p
  · exact absurd q.1 (h t)
theorem WF_cl (h : NB9 S) : WF9 (zCl wg S) := WF_0 (NB_cl h)
theorem WF_ce (h : WF9 S) : WF9 (zCe S) := h
end KI9
end
section
section KJ9
variable {ws : Nat → Int32} {wg rg gm : Nat → Nat → Int32} {wl lg : Nat → Nat → Int64} {rs sg : Nat → Int32} {S S2 : S9} {b : Nat} {o fo : Int} {vs : List (List Int)}
/-- an element asks for beans of the document alone -/
def GI9 (wg : Nat → Nat → Int32) (nb e : Nat) : Prop := ¬ (wg 25 e).toInt = 7 → ¬ (wg 25 e).toInt = 9 → (wg 27 e).toInt < (nb : Int)
def GD9 (wg : Nat → Nat → Int32) (nb c : Nat) : Prop := ((wg 25 c).toInt = 6 → ∀ e, e ∈ itC wg c → GI9 wg nb e) ∧ ((wg 25 c).toInt = 8 ∨ (wg 25 c).toInt = 2 → (wg 27 c).toInt < (nb : Int))
/-- what each making keeps, of beans of the document -/
theorem MKJ {nb : Nat} (hn : ∀ v, caN ws wg wl v < (nb : Int)) (hs9 : ∀ b, b < nb → (∀ a, a ∈ liL wg (3 * b) → GD9 wg nb (ctE wg a)) ∧ (∀ a, a ∈ liL wg (3 * b + 1) → GD9 wg nb (ctE wg a))) {P : S9 → S9 → Prop} (rf : ∀ S, P S S) (tr : ∀ a b c, P a b → P b c → P a c) (be : ∀ b S, b < nb → ¬ zS S b = 1 → P S (oBe b S)) (br : ∀ b fo vs S, b < nb → P S (oBr wg wl b fo vs S).2) (se : ∀ o h V S, P S (oSe wg wl o h V S).2) (fi : ∀ b o S, b < nb → P S (oFi wg wl b o S)) : ∀ n b S, b < nb → P S (oMK ws wg wl n b S).2
  | 0, b, S, _ => rf S
  | n + 1, b, S, hb => by
    have ih := MKJ hn hs9 rf tr be br se fi n
    have hg : ∀ (t : Int) S, t < (nb : Int) → P S (oGet wg (oMK ws wg wl n) t S).2 := fun t S ht => by
      unfold oGet
      split
      · exact rf S
      · split
        · exact rf S
        · split
          · exact rf S
          · exact ih _ S (by omega)
    have ho : ∀ e S, (wg 27 e).toInt < (nb : Int) → P S (oObj ws wg wl (oMK ws wg wl n) e S).2 := fun e S he => by
      unfold oObj
      split
      · exact hg _ S (hn _)
      · exact ih _ S (by omega)
    have hi : ∀ e S, GI9 wg nb e → P S (oItm ws wg wl (oMK ws wg wl n) e S).2 := fun e S he => by
      unfold oItm
      split
      · exact rf S
      · split
        · exact rf S
        · rename_i q7 q9
          exact bd9_P tr (ho e S (he q7 q9)) (fun a => rf _)
    have hs : ∀ (l : List Nat) (acc : List Int) S, (∀ e, e ∈ l → GI9 wg nb e) → P S (oIts ws wg wl (oMK ws wg wl n) l acc S).2 := by
      intro l
      induction l with
      | nil => intro acc S _; exact rf S
      | cons e l ihl => intro acc S hl; exact bd9_P tr (hi e S (hl e (List.mem_cons_self ..))) (fun a => ihl _ _ (fun x hx => hl x (List.mem_cons_of_mem _ hx)))
    have hc : ∀ c S, GD9 wg nb c → P S (oCon ws wg wl (oMK ws wg wl n) c S).2 := fun c S hg9 => by
      unfold oCon
      split
      · rename_i q6
        exact hs _ _ S (hg9.1 q6)
      · split
        · rename_i q8
          exact bd9_P tr (ho c S (hg9.2 q8)) (fun a => rf _)
        · exact rf S
    have ha : ∀ (l : List Nat) (acc : List (List Int)) S, (∀ a, a ∈ l → GD9 wg nb (ctE wg a)) → P S (oArs ws wg wl (oMK ws wg wl n) l acc S).2 := by
      intro l
      induction l with
      | nil => intro acc S _; exact rf S
      | cons e l ihl => intro acc S hl; exact bd9_P tr (hc _ S (hl e (List.mem_cons_self ..))) (fun a => ihl _ _ (fun x hx => hl x (List.mem_cons_of_mem _ hx)))
    have ht : ∀ (o : Int) (l : List Nat) S, (∀ a, a ∈ l → GD9 wg nb (ctE wg a)) → P S (oSts ws wg wl (oMK ws wg wl n) o l S).2 := by
      intro o l
      induction l with
      | nil => intro S _; exact rf S
      | cons e l ihl => intro S hl; exact bd9_P tr (hc _ S (hl e (List.mem_cons_self ..))) (fun a => bd9_P tr (se o e a _) (fun _ => ihl _ (fun x hx => hl x (List.mem_cons_of_mem _ hx))))
    have h4 : ∀ o S, P S (r4 ws wg wl (oMK ws wg wl n) b o (liL wg (3 * b + 1)) S).2 := fun o S => bd9_P tr (ht o _ S (hs9 b hb).2) (fun _ => fi b o _ hb)
    have h3 : ∀ fo vs S, P S (r3 ws wg wl (oMK ws wg wl n) b fo vs S).2 := fun fo vs S => bd9_P tr (br b fo vs S hb) (fun o => h4 o _)
    have h2 : ∀ fo acc S, P S (r2 ws wg wl (oMK ws wg wl n) b fo (liL wg (3 * b)) acc S).2 := fun fo acc S => bd9_P tr (ha _ acc S (hs9 b hb).1) (fun vs => h3 fo vs _)
    have h1 : ∀ S, P S (r1 ws wg wl (oMK ws wg wl n) b S).2 := fun S => by
      unfold r1
      split
      · exact rf S
      · refine bd9_P tr ?_ (fun fo => h2 fo _ _)
        unfold oFa
        split
        · exact rf S
        · exact hg _ S (hn _)
    show P S (if zS S b = 1 then (none, S) else oMB ws wg wl (oMK ws wg wl n) b S).2
    by_cases q : zS S b = 1
    · rw [if_pos q]; exact rf S
    · rw [if_neg q]
      refine tr _ _ _ (be b S hb q) ?_
      refine bd9_P tr ?_ (fun _ => h1 _)
      unfold oDe
      split
      · exact rf _
      · exact hg _ _ (hn _)
theorem WK_gi {nb e : Nat} (h : WKB ws wg wl rs rg lg e) (hn : (rs 41).toInt ≤ (nb : Int)) : GI9 wg nb e := by
  intro n7 n9
  by_cases hv : hva9 rg lg e
  · exact absurd (h.1 hv).1 n7
  · by_cases h7 : rg 26 e = 7
    · exact absurd (h.2.1 hv h7).1 n7
    · by_cases h9 : rg 26 e = 9
      · exact absurd (h.2.2.1 hv h9) n9
      · by_cases h3 : rg 26 e = 3
        · have q := h.2.2.2.1 hv h3
          rw [q.2.1]; have := q.2.2.2.1; omega
        · have := (h.2.2.2.2 hv h7 h9 h3).2.1; omega
theorem HL_gd {nb a : Nat} (h : HLB ws wg wl rs rg lg a) (hn : (rs 41).toInt ≤ (nb : Int)) : GD9 wg nb (ctE wg a) := by
  by_cases q : rg 26 (inR rs rg lg a).toNatClampNeg = 6
  · have l := h.2.2.2.2.1 q
    refine ⟨fun _ e he => ?_, fun p => by have := l.1; omega⟩
    obtain ⟨k, hk⟩ := List.getElem?_of_mem he
    exact WK_gi (l.2.2.2.2.1 k e hk).2.2 hn
  · have w := h.2.2.2.2.2 q
    exact ⟨fun p => absurd p (WKB_6 w), fun p => WK_gi w hn (by omega) (by omega)⟩
theorem liL_m {q a : Nat} (h : a ∈ liL wg q) : ∃ i, i < (wg 41 q).toNatClampNeg ∧ a = (wg 57 (128 * q + i)).toNatClampNeg := by
  unfold liL at h
  rw [List.mem_map] at h
  obtain ⟨i, hi, e⟩ := h
  exact ⟨i, List.mem_range.mp hi, e.symm⟩
theorem caN_lt (hn : iv 0 80 (ws 12)) (v : Int64) : caN ws wg wl v < ((ws 12).toNatClampNeg : Int) := by
  have c := cln9 hn.1
  unfold caN
  rcases caF_ok (wg := wg) (wl := wl) hn 21 v with q | q
  · rw [q]; show (-1 : Int) < _; omega
  · have := q.2.1; omega
/-- objects are of beans of the document -/
def OB9 (nb : Nat) (S : S9) : Prop := ∀ (k : Nat) (o : Ob9), (zO S)[k]? = some o → 0 ≤ o.2 ∧ o.2 < (nb : Int)
theorem OB_mk (hB : BRG ws wg wl rs rg lg) (h0 : iv 0 80 (ws 12)) (n : Nat) (hb : b < (ws 12).toNatClampNeg) (h : OB9 (ws 12).toNatClampNeg S) : OB9 (ws 12).toNatClampNeg (oMK ws wg wl n b S).2 := by
  have e41 : (rs 41).toNatClampNeg = (ws 12).toNatClampNeg := congrArg Int.toNat hB.1
  have c1 := cln9 h0.1
  have hn : (rs 41).toInt ≤ ((ws 12).toNatClampNeg : Int) := by have := hB.1; omega
  refine MKJ (P := fun S S2 => OB9 (ws 12).toNatClampNeg S → OB9 (ws 12).toNatClampNeg S2) (fun v => caN_lt h0 v) (fun b hb => ?_) (fun _ q => q) (fun _ _ _ h1 h2 q => h2 (h1 q)) ?_ ?_ ?_ ?_ n b S hb h
  · have q := hB.2.1 b (by omega)
    refine ⟨fun a ha => ?_, fun a ha => ?_⟩
    · obtain ⟨i, hi, e⟩ := liL_m ha
      rw [e]; exact HL_gd (q.2.1.2.2.2 i hi).2.2.1 hn
    · obtain ⟨i, hi, e⟩ := liL_m ha
      rw [e]; exact HL_gd (q.2.2.1.2 i hi).2.1 hn
  · intro b S _ _ q; exact q
  · intro b fo vs S hb q
    rcases oBr_2 (wg := wg) (wl := wl) (b := b) (fo := fo) (vs := vs) (S := S) with e | ⟨s, f, e⟩
    · rw [e]; exact q
    · rw [e]
      intro k o hk
      rw [(tlA_S _ _ _).1] at hk
      have e2 : zO (oB2 wg b s S) = zO S ++ [((wg 10 s).toInt, (wg 28 b).toInt)] := by
        unfold oB2
        split <;> (rw [zAdd_O]; rfl)
      rw [e2] at hk
      rcases ga9 hk with ⟨_, p⟩ | ⟨_, p⟩
      · exact q k o p
      · rw [← p, show (wg 28 b).toInt = (b : Int) from (hB.2.1 b (by omega)).1.2.2.1]; exact ⟨by omega, by omega⟩
  · intro o h V S q
    rcases oSe_2 (wg := wg) (wl := wl) (o := o) (h := h) (V := V) (S := S) with e | ⟨t, e⟩
    · rw [e]; exact q
    · rw [e]; unfold OB9; rw [tlV_O]; exact q
  · intro b o S _ q
    unfold OB9; rw [oFi_O]; exact q
theorem OB_gt (hB : BRG ws wg wl rs rg lg) (h0 : iv 0 80 (ws 12)) (n : Nat) (t : Int) (ht : t < ((ws 12).toNatClampNeg : Int)) (h : OB9 (ws 12).toNatClampNeg S) : OB9 (ws 12).toNatClampNeg (gtR ws wg wl n t S).2 := by
  unfold gtR
  split
  · exact h
  · split
    · exact h
    · split
      · exact h
      · exact OB_mk hB h0 n (by omega) h
theorem OB_e {nb : Nat} (h : OB9 nb S) (e : zO S2 = zO S) : OB9 nb S2 := by unfold OB9; rw [e]; exact h
end KJ9
end
section
section PU9
variable {ws : Nat → Int32} {wg rg gm : Nat → Nat → Int32} {wl lg : Nat → Nat → Int64} {rs sg : Nat → Int32} {S S2 S3 : S9} {b k : Nat} {o : Int}
theorem gt_rf {n : Nat} (h : rfW wg wl b) : oGet wg (oMK ws wg wl n) (b : Int) S = gtR ws wg wl n (b : Int) S := by
  unfold oGet gtR
  have h0 : ¬ ((b : Int) < 0) := by omega
  rw [if_neg h0, if_neg h0]
  by_cases h1 : ¬ wg 34 (b : Int).toNat = 0
  · rw [if_pos h1, if_pos h1]
  · rw [if_neg h1, if_neg h1]
    by_cases h2 : wg 35 (b : Int).toNat = 0 ∧ (zS S (b : Int).toNat = 2 ∨ (zS S (b : Int).toNat = 1 ∧ ¬ zW S (b : Int).toNat = -1))
    · rw [if_pos h2, if_pos ⟨⟨h.1, h2.1⟩, h2.2⟩]
    · rw [if_neg h2, if_neg (fun q => h2 ⟨q.1.2, q.2⟩)]
theorem BR_rf {b : Int32} (h : BRG ws wg wl rs rg lg) (hRW : rt9 gm = rg) (hRS : rs9 sg = rs) (hv : iv 0 79 b) (hb : b.toInt < (sg 41).toInt) : rfW wg wl b.toNatClampNeg ↔ (¬ mMny gm lg b.toNatClampNeg ∧ ¬ absR gm lg b.toNatClampNeg ∧ ¬ mWord gm lg (gm 42 b.toNatClampNeg).toNatClampNeg 1818327673 = lg 1 0) := by
  have q := (BR_s h hRS hv hb).2.2.2.2.2.2.2.2.2.2.2.2
  have d := DK_r (lg := lg) hRW hRS
  unfold absR at *
  rw [mMny_k d rfl, mWord_k d.1, mWord_k d.1, show rg 42 = gm 42 from d.2.2.1] at q
  exact q
/-- refresh's loop -/
def RF9 (ws : Nat → Int32) (wg : Nat → Nat → Int32) (wl : Nat → Nat → Int64) (S : S9) (sg : Nat → Int32) (gm : Nat → Nat → Int32) (gd b : Int32) : Prop :=
  (gd.toInt = 1 ∧ (sg 51).toInt = 0 ∧ ∃ S2, RR wg wl S2 sg gm ∧ WF9 S2 ∧ WZ9 wg wl S2 ∧ rfL ws wg wl 81 (ws 12).toNatClampNeg 0 (zCe (zFo S)) = rfL ws wg wl 81 ((ws 12).toNatClampNeg - b.toNatClampNeg) b.toNatClampNeg S2)
  ∨ (gd.toInt = 0 ∧ ∃ S3, RR wg wl (zSt S3) sg gm ∧ WZ9 wg wl (zSt S3) ∧ rfL ws wg wl 81 (ws 12).toNatClampNeg 0 (zCe (zFo S)) = (none, S3))
theorem RF_0 {gd b : Int32} (hg : gd.toInt = 1) (hb : b.toInt = 0) (h5 : (sg 51).toInt = 0) (hR : RR wg wl (zCe (zFo S)) sg gm) (hN : NB9 S) : RF9 ws wg wl S sg gm gd b := by
  have c := cln9 (u := b) (by omega)
  have e : b.toNatClampNeg = 0 := by omega
  refine Or.inl ⟨hg, h5, _, hR, WF_ce (WF_0 (NB_fo hN)), ?_, ?_⟩
  · exact WZ_e (S := zFo S) WZ_fo rfl rfl
  · rw [e]; rfl
theorem RF_n {gd b b2 : Int32} (h : RF9 ws wg wl S sg gm gd b) (hg : ¬ gd.toInt = 0) (h0 : 0 ≤ b.toInt) (hb : b.toInt < (ws 12).toInt) (h2 : b2.toInt = b.toInt + 1) (hw : ¬ rfW wg wl b.toNatClampNeg) : RF9 ws wg wl S sg gm gd b2 := by
  have c := cln9 h0
  have c2 := cln9 (u := b2) (by omega)
  have c3 := cln9 (u := ws 12) (by omega)
  rcases h with ⟨a, c, S2, d, e, f, g⟩ | ⟨a, _⟩
  · refine Or.inl ⟨a, c, S2, d, e, f, ?_⟩
    rw [show b2.toNatClampNeg = b.toNatClampNeg + 1 by omega]; exact rfL_n g (by omega) hw
  · exact absurd a hg
theorem RF_i {gd b : Int32} (h : RF9 ws wg wl S sg gm gd b) (hg : ¬ gd.toInt = 0) : (sg 51).toInt = 0 ∧ ∃ S2, RR wg wl S2 sg gm ∧ WF9 S2 ∧ WZ9 wg wl S2 ∧ rfL ws wg wl 81 (ws 12).toNatClampNeg 0 (zCe (zFo S)) = rfL ws wg wl 81 ((ws 12).toNatClampNeg - b.toNatClampNeg) b.toNatClampNeg S2 := by
  rcases h with q | q
  · exact q.2
  · exact absurd q.1 hg
theorem RF_s {b b2 r : Int32} (hz : WZ9 wg wl S2) (he : rfL ws wg wl 81 (ws 12).toNatClampNeg 0 (zCe (zFo S)) = rfL ws wg wl 81 ((ws 12).toNatClampNeg - b.toNatClampNeg) b.toNatClampNeg S2) (h0 : 0 ≤ b.toInt) (hb : b.toInt < (ws 12).toInt) (h2 : b2.toInt = b.toInt + 1) (hw : rfW wg wl b.toNatClampNeg) (hu : RU9 wg wl (gtR ws wg wl 81 b.toInt S2) sg gm r) : RF9 ws wg wl S sg gm r b2 := by
  have c := cln9 h0
  have c2 := cln9 (u := b2) (by omega)
  have c3 := cln9 (u := ws 12) (by omega)
  have eb : b.toInt = (b.toNatClampNeg : Int) := c.symm
  have z := WZ_gt (ws := ws) 81 b.toInt hz
  obtain ⟨T, a1, a2, ⟨q1, q2, q3⟩ | ⟨q1, q2, T3, q3, q4⟩⟩ := hu
  · rw [q3] at z
    rw [eb] at q3
    refine Or.inl ⟨q1, q2, T, a1, a2, z, ?_⟩
    rw [show b2.toNatClampNeg = b.toNatClampNeg + 1 by omega]; exact rfL_y he (by omega) hw ((gt_rf hw).trans q3)
  · rw [q3] at z
    rw [eb] at q3
    subst q4
    refine Or.inr ⟨q1, T3, a1, WZ_st z, ?_⟩
    exact rfL_x he (by omega) hw ((gt_rf hw).trans q3)
theorem RF_e {gd b : Int32} (h : RF9 ws wg wl S sg gm gd b) (hg : ¬ gd.toInt = 0) (h0 : 0 ≤ b.toInt) (hb : (ws 12).toInt ≤ b.toInt) : ∃ S2, RR wg wl S2 sg gm ∧ WF9 S2 ∧ zRf ws wg wl 81 S = (some ((zO S2).length : Int), S2) := by
  obtain ⟨_, S2, a1, a2, a3, a4⟩ := RF_i h hg
  have c := cln9 h0
  have e : (ws 12).toNatClampNeg - b.toNatClampNeg = 0 := by
    have : (ws 12).toNatClampNeg = (ws 12).toInt.toNat := rfl
    omega
  rw [e] at a4
  exact ⟨S2, a1, a2, zRf_s a4⟩
theorem RF_z {gd b : Int32} (h : RF9 ws wg wl S sg gm gd b) (hg : gd.toInt = 0) : ∃ S3, RR wg wl (zSt S3) sg gm ∧ WZ9 wg wl (zSt S3) ∧ zRf ws wg wl 81 S = (none, zCl wg (zSt S3)) := by
  rcases h with q | ⟨_, S3, a1, a2, a3⟩
  · omega
  · exact ⟨S3, a1, a2, zRf_x a3⟩
theorem zGt_r {n : Nat} {v : Int64} (hn : iv 0 80 (ws 12)) : zGt ws wg wl n v S = zRn (gtR ws wg wl n (caN ws wg wl v) S) := by unfold zGt; rw [gt_nm hn]
theorem RU_g {sg : Nat → Int32} {r : Int32} {v : Int64} {t : Int} (hn : iv 0 80 (ws 12)) (ht : t = caN ws wg wl v) (h : RU9 wg wl (gtR ws wg wl 81 t S) sg gm r) : ∃ S2, RR wg wl S2 sg gm ∧ WF9 S2 ∧ ((r.toInt = 1 ∧ zGt ws wg wl 81 v S = (some (sg 74).toInt, S2)) ∨ (r.toInt = 0 ∧ zGt ws wg wl 81 v S = (none, S2))) := by
  subst ht
  obtain ⟨T, a1, a2, ⟨q1, q2, q3⟩ | ⟨q1, q2, T3, q3, q4⟩⟩ := h
  · exact ⟨T, a1, a2, Or.inl ⟨q1, by rw [zGt_r hn, q3]; rfl⟩⟩
  · exact ⟨T, a1, a2, Or.inr ⟨q1, by rw [zGt_r hn, q3, q4]; rfl⟩⟩
end PU9
end
section
set_option maxHeartbeats 4000000 in
set_option maxRecDepth 100000 in
theorem f_refresh9 (l : Launch) (dC : Nat → ClassId) (dI : Nat → Nat → Nat) (h0 : Nat) (ad : Nat → Nat) (cid : Nat → ClassId) (sg : Nat → Int32) (gm : Nat → Nat → Int32) (lg : Nat → Nat → Int64) (ws : Nat → Int32) (wg : Nat → Nat → Int32) (wl : Nat → Nat → Int64) (rs : Nat → Int32) (rg : Nat → Nat → Int32) (S : S9) (hI : MI sg gm) (hgi : GI0 sg gm lg) (hPR : PR gm) (hmo : MO sg gm) (hdd : (sg 40).toInt = 0 ∨ DOC sg gm lg) (hRW : rt9 gm = rg) (hRS : rs9 sg = rs) (hBRd : (sg 40).toInt = 0 ∨ BRG ws wg wl rs rg lg) (hCL : CLS9 wg rg) (hRR : RR wg wl S sg gm) (hWD : WD9 lg) (hST : STY9 wg) (hST2 : ∀ c n, c < 8 → n < 26 → (wg 55 (26 * c + n)).toInt = -1 ∨ ty9 (wg 55 (26 * c + n)).toInt) (hSBd : (sg 40).toInt = 0 ∨ SB9 ws wg wl) (hWF : WF9 S) (hWZ : WZ9 wg wl S) (hNB : NB9 S) : MMi l dC dI yX13_refresh wm_X13_refresh ({ frames := 12, cells := 0, slots := 0, locals := 300 }) h0 ad cid [] sg gm lg (fun r v => ∃ (sg2 : Nat → Int32) (gm2 : Nat → Nat → Int32) (lg2 : Nat → Nat → Int64), v = (sg2, gm2, lg2) ∧ MI sg2 gm2 ∧ KS [5, 48, 49, 50, 51, 52, 63, 74] sg sg2 ∧ KS [53, 54, 55, 56, 57, 58, 59, 60, 61, 62, 64, 65, 66, 67, 68, 69, 70, 71, 72, 73, 75] gm gm2 ∧ KS [] lg lg2 ∧ (GI0 sg2 gm2 lg2) ∧ (MO sg2 gm2) ∧ (((sg 40).toInt = 0 ∧ (sg2 5).toInt = 1 ∧ RR wg wl S sg2 gm2) ∨ (¬ (sg 40).toInt = 0 ∧ ∃ S2, RR wg wl S2 sg2 gm2 ∧ WF9 S2 ∧ (((sg2 5).toInt = 0 ∧ zRf ws wg wl 81 S = (some r.toInt, S2)) ∨ ((sg2 5).toInt = 2 ∧ zRf ws wg wl 81 S = (none, S2)))))) := by
  intro sz
  refine Met.ofW (cc := cX13_refresh) (maxL := 4) (ret := (some .int)) (by decide) rfl ?_
  intro p e s m args below meth c s₁ B hml hv
  obtain ⟨rfl, hsz, hP, hK, hD0⟩ := hv
  have hx := B.exec
  have hb := B.bytes
  have hr := B.returns
  have hts := atoms_spec (ws := wm_X13_refresh) B.pre
  have htb := fun (w : Cond) (h : w ∈ tb) => hts w (List.mem_cons_of_mem _ h)
  have hown : s.vm.findClass RX13 = some m.cls := findClass_of_methodNamed B.named
  have hlocks := B.notSynchronized
  subst hsz
  have hD := hD0.self (sz := s.heap.size)
  generalize hAe : va_A (mW h0 ad cid sg gm lg) s.heap.size = A at hD ⊢
  have hA : ∀ q : Nat, s.heap.size ≤ q → A q := fun q h => by rw [← hAe]; exact Or.inr h
  have hS : va_S A s.heap s.heap [] := va_S.rf
  have hl := lv_entry ([.ref h0]) (n := 4) (Nat.le_of_ble_eq_true rfl)
  rw [lg_entry_eq]
  generalize (lg_sl ([.ref h0]) ++ List.replicate (4 - (lg_sl ([.ref h0])).length) Slot.unset).toArray = ls at hl ⊢
  have hl : lv_has ls 4 [(0, .ref h0)] := hl
  have hj43 : ∀ (n : Nat) (sg_j43 : Nat → Int32) (gm_j43 : Nat → Nat → Int32) (x2_43 : Int32) (x1_43 : Int32) (_ : (80 - x2_43.toInt).toNat = n) (_ : iv 0 80 x2_43) (_ : iv 0 1 x1_43) (_ : KS [5, 48, 49, 50, 51, 52, 63, 74] sg sg_j43) (_ : KS [53, 54, 55, 56, 57, 58, 59, 60, 61, 62, 64, 65, 66, 67, 68, 69, 70, 71, 72, 73, 75] gm gm_j43) (_ : MI sg_j43 gm_j43) (_ : GI0 sg_j43 gm_j43 lg) (_ : MO sg_j43 gm_j43) (_ : DOC sg gm lg) (_ : ¬ (sg 40).toInt = 0) (_ : BRG ws wg wl rs rg lg) (_ : SB9 ws wg wl) (_ : RF9 ws wg wl S sg_j43 gm_j43 x1_43 x2_43) (H : Heap) (locs : List Loc) (ls : Array Slot), va_P (dC, dI) vwCl (mW h0 ad cid sg_j43 gm_j43 lg) H → va_D A (mW h0 ad cid sg_j43 gm_j43 lg) → va_S A s.heap H locs → lv_has ls 4 [(2, .int x2_43), (1, .int x1_43), (0, .ref h0)] → W p l e (headSpec wm_X13_refresh ({ frames := 12, cells := 0, slots := 0, locals := 300 })).room s m ([.ref h0] : List Value).toArray below meth c H locs 0 0 (MQ below (va_Qi (fun r v => ∃ (sg2 : Nat → Int32) (gm2 : Nat → Nat → Int32) (lg2 : Nat → Nat → Int64), v = (sg2, gm2, lg2) ∧ MI sg2 gm2 ∧ KS [5, 48, 49, 50, 51, 52, 63, 74] sg sg2 ∧ KS [53, 54, 55, 56, 57, 58, 59, 60, 61, 62, 64, 65, 66, 67, 68, 69, 70, 71, 72, 73, 75] gm gm2 ∧ KS [] lg lg2 ∧ (GI0 sg2 gm2 lg2) ∧ (MO sg2 gm2) ∧ (((sg 40).toInt = 0 ∧ (sg2 5).toInt = 1 ∧ RR wg wl S sg2 gm2) ∨ (¬ (sg 40).toInt = 0 ∧ ∃ S2, RR wg wl S2 sg2 gm2 ∧ WF9 S2 ∧ (((sg2 5).toInt = 0 ∧ zRf ws wg wl 81 S = (some r.toInt, S2)) ∨ ((sg2 5).toInt = 2 ∧ zRf ws wg wl 81 S = (none, S2)))))) (MB dC dI h0 ad cid A) A) ([.ref h0] : List Value).toArray s 0 0 A) (F0 m 43 ls []) := by
    intro n
    induction n using Nat.strongRecOn with
    | ind n ih43 =>
      intro sg_j43 gm_j43 x2_43 x1_43 hn43 hx2_43 hx1_43 hks_j43 hkg_j43 hI_j43 hgi hmo hdoc hdc hBR hSB hRF H locs ls hP hD hS hl
      refine lv_iload_n hx hb dX13_refresh_43 rfl (lv_at hl 0 rfl) ?_
      refine lv_aload_n hx hb dX13_refresh_44 rfl (lv_at hl 2 rfl) ?_
      refine mr_get (v := .int (sg_j43 41)) hx hb htb inX13 hown hK hP 41 (by decide) (htb _ kw_817) rfl dX13_refresh_45 ?_
      refine lv_topi (fun z_1 ez_1 => ?_)
      obtain rfl : (sg 41) = z_1 := (ez_1.trans (hks_j43 41 (by decide))).symm
      refine lv_icmp_ge (tgt := 117) hx hb dX13_refresh_48 (by decide) (fun c_2 => ?_) (fun c_2 => ?_)
      · have d_3 : ((sg 41) : Int32).toInt ≤ (x2_43 : Int32).toInt := Int32.le_iff_toInt_le.mp c_2
        refine lv_iload_n hx hb dX13_refresh_117 rfl (lv_at hl 1 rfl) ?_
        refine lv_if_ne (tgt := 125) hx hb dX13_refresh_118 (by decide) (fun c_4 => ?_) (fun c_4 => ?_)
        · have h_5 : iv 1 1 x1_43 := iv_neL c_4 hx1_43 (by decide)
          refine lv_aload_n hx hb dX13_refresh_125 rfl (lv_at hl 2 rfl) ?_
          refine lv_iload_n hx hb dX13_refresh_126 rfl (lv_at hl 1 rfl) ?_
          refine lv_if_eq (tgt := 134) hx hb dX13_refresh_127 (by decide) (fun c_6 => ?_) (fun c_6 => ?_)
          · have h_7 : iv 1 0 x1_43 := iv_eq c_6 h_5 (iv_k (by decide) : iv 0 0 0) (by decide)
            exact (iv_no h_7 (by decide)).elim
          · refine lv_iconst (v := 0) hx hb dX13_refresh_130 (by decide) ?_
            refine lv_goto (tgt := 135) hx hb dX13_refresh_131 (by decide) ?_
            refine ma_put (x := 0) hx hb htb inX13 hown hK hP hD hS 5 (by decide) (by decide) (htb _ kw_239) rfl rfl rfl dX13_refresh_135 (fun sg_8 H locs esg_8 hP hD hS => ?_)
            have hI_sg_8 := MI_put hI_j43 esg_8 (iv_k (by decide) : iv 0 0 0) (by decide)
            refine lv_iload_n hx hb dX13_refresh_138 rfl (lv_at hl 1 rfl) ?_
            refine lv_if_eq (tgt := 149) hx hb dX13_refresh_139 (by decide) (fun c_9 => ?_) (fun c_9 => ?_)
            · have h_10 : iv 1 0 x1_43 := iv_eq c_9 h_5 (iv_k (by decide) : iv 0 0 0) (by decide)
              exact (iv_no h_10 (by decide)).elim
            · refine lv_aload_n hx hb dX13_refresh_142 rfl (lv_at hl 2 rfl) ?_
              refine mr_get (v := .int (sg_8 48)) hx hb htb inX13 hown hK hP 48 (by decide) (htb _ kw_819) rfl dX13_refresh_143 ?_
              refine lv_topi (fun z_11 ez_11 => ?_)
              obtain rfl : (sg_j43 48) = z_11 := (ez_11.trans (up_ne esg_8 (by decide))).symm
              refine lv_goto (tgt := 150) hx hb dX13_refresh_146 (by decide) ?_
              exact W.iret (v := (sg_j43 48)) hx hb hr (fun t ht hW => ⟨⟨(sg_j43 48), (sg_8, gm_j43, lg), rfl, ⟨sg_8, gm_j43, lg, rfl, hI_sg_8, (KS_up (KS_tr (L := [5, 48, 49, 50, 51, 52, 63, 74]) KS_rf hks_j43 (by decide)) esg_8 (by decide)), (KS_tr (L := [53, 54, 55, 56, 57, 58, 59, 60, 61, 62, 64, 65, 66, 67, 68, 69, 70, 71, 72, 73, 75]) KS_rf hkg_j43 (by decide)), KS_rf, ((GI0_of hgi (show KS [5] sg_j43 sg_8 from (KS_up KS_rf esg_8 (by decide))) (show KS [] gm_j43 gm_j43 from KS_rf) (show KS [] lg lg from KS_rf) (by decide) (by decide) (by decide) (by decide) (by decide) (by decide))), ((MO_of hmo (show KS [5] sg_j43 sg_8 from (KS_up KS_rf esg_8 (by decide))) (show KS [] gm_j43 gm_j43 from KS_rf) (by decide) (by decide))), ((by obtain ⟨S2, q1, q2, q3⟩ := RF_e hRF (by have := i32_0; have := i32_1; have := i32_2; have := i32_m1; have := (hx2_43).1; have := (hx2_43).2; have := (h_5).1; have := (h_5).2; have := ((show iv 0 80 (sg 41) from MI_s hI 41)).1; have := ((show iv 0 80 (sg 41) from MI_s hI 41)).2; have := ((show iv 0 60 (sg_j43 48) from MI_s hI_j43 48)).1; have := ((show iv 0 60 (sg_j43 48) from MI_s hI_j43 48)).2; omega) (by have := i32_0; have := i32_1; have := i32_2; have := i32_m1; have := (hx2_43).1; have := (hx2_43).2; have := (h_5).1; have := (h_5).2; have := ((show iv 0 80 (sg 41) from MI_s hI 41)).1; have := ((show iv 0 80 (sg 41) from MI_s hI 41)).2; have := ((show iv 0 60 (sg_j43 48) from MI_s hI_j43 48)).1; have := ((show iv 0 60 (sg_j43 48) from MI_s hI_j43 48)).2; omega) (by have q5 := hBR.1; rw [rs9_41 hRS] at q5; have := i32_0; have := i32_1; have := i32_2; have := i32_m1; have := congrArg Int32.toInt (show sg_8 41 = sg_j43 41 from up_ne esg_8 (by decide)); have := congrArg Int32.toInt (show sg_j43 41 = sg 41 from hks_j43 41 (by decide)); have := (show iv 0 80 (sg 41) from MI_s hI 41).1; have := (show iv 0 80 (sg 41) from MI_s hI 41).2; have := congrArg Int32.toInt (show sg_j43 41 = sg 41 from hks_j43 41 (by decide)); have := (hx2_43).1; have := (hx2_43).2; have := (h_5).1; have := (h_5).2; have := ((show iv 0 80 (sg 41) from MI_s hI 41)).1; have := ((show iv 0 80 (sg 41) from MI_s hI 41)).2; have := ((show iv 0 60 (sg_j43 48) from MI_s hI_j43 48)).1; have := ((show iv 0 60 (sg_j43 48) from MI_s hI_j43 48)).2; omega); exact Or.inr ⟨hdc, S2, (RR_ks q1 (show KS [5] sg_j43 sg_8 from (KS_up KS_rf esg_8 (by decide))) (KS_rf (L := []) (f := gm_j43)) (by decide) (by decide)), q2, Or.inl ⟨(by have := i32_0; have := i32_1; have := i32_2; have := i32_m1; have : (sg_8 5).toInt = 0 := (by rw [up_at esg_8]; rfl); have := (hx2_43).1; have := (hx2_43).2; have := (h_5).1; have := (h_5).2; have := ((show iv 0 80 (sg 41) from MI_s hI 41)).1; have := ((show iv 0 80 (sg 41) from MI_s hI 41)).2; have := ((show iv 0 60 (sg_j43 48) from MI_s hI_j43 48)).1; have := ((show iv 0 60 (sg_j43 48) from MI_s hI_j43 48)).2; omega), (by rw [q3, show ((sg_j43 48)).toInt = ((zO S2).length : Int) from (by have q8 := q1.1.1; have := i32_0; have := i32_1; have := i32_2; have := i32_m1; have := congrArg Int32.toInt (show sg_8 48 = sg_j43 48 from up_ne esg_8 (by decide)); have := (show iv 0 60 (sg_j43 48) from MI_s hI_j43 48).1; have := (show iv 0 60 (sg_j43 48) from MI_s hI_j43 48).2; have := (show iv 0 60 (sg 48) from MI_s hI 48).1; have := (show iv 0 60 (sg 48) from MI_s hI 48).2; have := (show iv 0 60 (sg_j43 48) from MI_s hI_j43 48).1; have := (show iv 0 60 (sg_j43 48) from MI_s hI_j43 48).2; have := (hx2_43).1; have := (hx2_43).2; have := (h_5).1; have := (h_5).2; have := ((show iv 0 80 (sg 41) from MI_s hI 41)).1; have := ((show iv 0 80 (sg 41) from MI_s hI 41)).2; have := ((show iv 0 60 (sg_j43 48) from MI_s hI_j43 48)).1; have := ((show iv 0 60 (sg_j43 48) from MI_s hI_j43 48)).2; have q8 := q8; omega)])⟩⟩))⟩, by rw [ht]; exact hP, va_K.moved hW.alike hK, hD⟩, hS.F ht⟩) hS.2.2 dX13_refresh_150
        · have h_12 : iv 0 0 x1_43 := iv_eq c_4 hx1_43 (iv_k (by decide) : iv 0 0 0) (by decide)
          obtain ⟨S3_, hR3_, hZ3_, hE3_⟩ := RF_z hRF (by have := i32_0; have := i32_1; have := i32_2; have := i32_m1; have := (hx2_43).1; have := (hx2_43).2; have := (h_12).1; have := (h_12).2; have := ((show iv 0 80 (sg 41) from MI_s hI 41)).1; have := ((show iv 0 80 (sg 41) from MI_s hI 41)).2; omega)
          refine lv_aload_n hx hb dX13_refresh_121 rfl (lv_at hl 2 rfl) ?_
          refine mr_callv (rest := []) ⟨hx, hb, hml, hown, htb⟩ (f_shut9 l dC dI h0 ad cid sg_j43 gm_j43 lg ws wg wl rs rg (zSt S3_) hI_j43 (DOC_of hdoc (show KS [5, 48, 49, 50, 51, 52, 63, 74] sg sg_j43 from (KS_tr (L := [5, 48, 49, 50, 51, 52, 63, 74]) KS_rf hks_j43 (by decide))) (show KS [53, 54, 55, 56, 57, 58, 59, 60, 61, 62, 64, 65, 66, 67, 68, 69, 70, 71, 72, 73, 75] gm gm_j43 from (KS_tr (L := [53, 54, 55, 56, 57, 58, 59, 60, 61, 62, 64, 65, 66, 67, 68, 69, 70, 71, 72, 73, 75]) KS_rf hkg_j43 (by decide))) (show KS [] lg lg from KS_rf) (by decide) (by decide) (by decide) (by decide)) hgi hmo ((rt9_ks (L := [53, 54, 55, 56, 57, 58, 59, 60, 61, 62, 64, 65, 66, 67, 68, 69, 70, 71, 72, 73, 75]) (KS_tr (L := [53, 54, 55, 56, 57, 58, 59, 60, 61, 62, 64, 65, 66, 67, 68, 69, 70, 71, 72, 73, 75]) KS_rf hkg_j43 (by decide)) (by decide)).trans hRW) ((rs9_ks (L := [5, 48, 49, 50, 51, 52, 63, 74]) (KS_tr (L := [5, 48, 49, 50, 51, 52, 63, 74]) KS_rf hks_j43 (by decide)) rfl rfl).trans hRS) hBR hR3_ hZ3_) (cwV 0 htb (gd_V kw_1260 kw_1261 kw_1262 kw_5 kw_1635) rfl rfl rfl (by decide +kernel) ⟨Nat.le_of_ble_eq_true rfl, Nat.le_of_ble_eq_true rfl⟩) rfl hl.1 rfl (Nat.le_of_ble_eq_true rfl) dX13_refresh_122 ⟨Nat.zero_le _, Nat.zero_le _⟩ hK hP hD hS hA (fun u_14 H locs hw hP hD hS => ?_)
          obtain ⟨sgv_15, gmv_15, lgv_15, rfl, hIv_15, ksv_15, kgv_15, klv_15, fGI_r_13, fMo_r_13, fR9_r_13⟩ := hw
          obtain rfl := KS_nil klv_15
          have hP : va_P (dC, dI) vwCl (mW h0 ad cid sgv_15 gmv_15 lg) H := hP
          have hD : va_D A (mW h0 ad cid sgv_15 gmv_15 lg) := hD
          refine lv_aload_n hx hb dX13_refresh_125 rfl (lv_at hl 2 rfl) ?_
          refine lv_iload_n hx hb dX13_refresh_126 rfl (lv_at hl 1 rfl) ?_
          refine lv_if_eq (tgt := 134) hx hb dX13_refresh_127 (by decide) (fun c_16 => ?_) (fun c_16 => ?_)
          · refine lv_iconst (v := 2) hx hb dX13_refresh_134 (by decide) ?_
            refine ma_put (x := 2) hx hb htb inX13 hown hK hP hD hS 5 (by decide) (by decide) (htb _ kw_239) rfl rfl rfl dX13_refresh_135 (fun sg_17 H locs esg_17 hP hD hS => ?_)
            have hI_sg_17 := MI_put hIv_15 esg_17 (iv_k (by decide) : iv 2 2 2) (by decide)
            refine lv_iload_n hx hb dX13_refresh_138 rfl (lv_at hl 1 rfl) ?_
            refine lv_if_eq (tgt := 149) hx hb dX13_refresh_139 (by decide) (fun c_18 => ?_) (fun c_18 => ?_)
            · refine lv_iconst (v := 0) hx hb dX13_refresh_149 (by decide) ?_
              exact W.iret (v := 0) hx hb hr (fun t ht hW => ⟨⟨0, (sg_17, gmv_15, lg), rfl, ⟨sg_17, gmv_15, lg, rfl, hI_sg_17, (KS_up (KS_tr (L := [5, 48, 49, 50, 51, 52, 63, 74]) (KS_tr (L := [5, 48, 49, 50, 51, 52, 63, 74]) KS_rf hks_j43 (by decide)) ksv_15 (by decide)) esg_17 (by decide)), (KS_tr (L := [53, 54, 55, 56, 57, 58, 59, 60, 61, 62, 64, 65, 66, 67, 68, 69, 70, 71, 72, 73, 75]) (KS_tr (L := [53, 54, 55, 56, 57, 58, 59, 60, 61, 62, 64, 65, 66, 67, 68, 69, 70, 71, 72, 73, 75]) KS_rf hkg_j43 (by decide)) kgv_15 (by decide)), KS_rf, ((GI0_of fGI_r_13 (show KS [5] sgv_15 sg_17 from (KS_up KS_rf esg_17 (by decide))) (show KS [] gmv_15 gmv_15 from KS_rf) (show KS [] lg lg from KS_rf) (by decide) (by decide) (by decide) (by decide) (by decide) (by decide))), ((MO_of fMo_r_13 (show KS [5] sgv_15 sg_17 from (KS_up KS_rf esg_17 (by decide))) (show KS [] gmv_15 gmv_15 from KS_rf) (by decide) (by decide))), ((Or.inr ⟨hdc, zCl wg (zSt S3_), (RR_ks fR9_r_13 (show KS [5] sgv_15 sg_17 from (KS_up KS_rf esg_17 (by decide))) (KS_rf (L := []) (f := gmv_15)) (by decide) (by decide)), WF_cl NB_st, Or.inr ⟨(by have := i32_0; have := i32_1; have := i32_2; have := i32_m1; have : (sg_17 5).toInt = 2 := (by rw [up_at esg_17]; rfl); have := (hx2_43).1; have := (hx2_43).2; have := (h_12).1; have := (h_12).2; have := ((show iv 0 80 (sg 41) from MI_s hI 41)).1; have := ((show iv 0 80 (sg 41) from MI_s hI 41)).2; omega), hE3_⟩⟩))⟩, by rw [ht]; exact hP, va_K.moved hW.alike hK, hD⟩, hS.F ht⟩) hS.2.2 dX13_refresh_150
            · have h_19 : iv 1 0 x1_43 := iv_neL c_18 h_12 (by decide)
              exact (iv_no h_19 (by decide)).elim
          · have h_20 : iv 1 0 x1_43 := iv_neL c_16 h_12 (by decide)
            exact (iv_no h_20 (by decide)).elim
      · have d_21 : (x2_43 : Int32).toInt < ((sg 41) : Int32).toInt := Int32.lt_iff_toInt_lt.mp (i32_lt c_2)
        have h_22 : iv 0 79 x2_43 := iv_ltL (i32_lt c_2) hx2_43 (show iv 0 80 (sg 41) from MI_s hI 41) (by decide)
        have h_23 : iv 1 80 (sg 41) := iv_ltR (i32_lt c_2) hx2_43 (show iv 0 80 (sg 41) from MI_s hI 41) (by decide)
        refine lv_iload_n hx hb dX13_refresh_51 rfl (lv_at hl 1 rfl) ?_
        refine lv_if_eq (tgt := 117) hx hb dX13_refresh_52 (by decide) (fun c_24 => ?_) (fun c_24 => ?_)
        · have h_25 : iv 0 0 x1_43 := iv_eq c_24 hx1_43 (iv_k (by decide) : iv 0 0 0) (by decide)
          refine lv_iload_n hx hb dX13_refresh_117 rfl (lv_at hl 1 rfl) ?_
          refine lv_if_ne (tgt := 125) hx hb dX13_refresh_118 (by decide) (fun c_26 => ?_) (fun c_26 => ?_)
          · have h_27 : iv 1 0 x1_43 := iv_neL c_26 h_25 (by decide)
            exact (iv_no h_27 (by decide)).elim
          · obtain ⟨S3_, hR3_, hZ3_, hE3_⟩ := RF_z hRF (by have := i32_0; have := i32_1; have := i32_2; have := i32_m1; have := (h_22).1; have := (h_22).2; have := (h_25).1; have := (h_25).2; have := (h_23).1; have := (h_23).2; omega)
            refine lv_aload_n hx hb dX13_refresh_121 rfl (lv_at hl 2 rfl) ?_
            refine mr_callv (rest := []) ⟨hx, hb, hml, hown, htb⟩ (f_shut9 l dC dI h0 ad cid sg_j43 gm_j43 lg ws wg wl rs rg (zSt S3_) hI_j43 (DOC_of hdoc (show KS [5, 48, 49, 50, 51, 52, 63, 74] sg sg_j43 from (KS_tr (L := [5, 48, 49, 50, 51, 52, 63, 74]) KS_rf hks_j43 (by decide))) (show KS [53, 54, 55, 56, 57, 58, 59, 60, 61, 62, 64, 65, 66, 67, 68, 69, 70, 71, 72, 73, 75] gm gm_j43 from (KS_tr (L := [53, 54, 55, 56, 57, 58, 59, 60, 61, 62, 64, 65, 66, 67, 68, 69, 70, 71, 72, 73, 75]) KS_rf hkg_j43 (by decide))) (show KS [] lg lg from KS_rf) (by decide) (by decide) (by decide) (by decide)) hgi hmo ((rt9_ks (L := [53, 54, 55, 56, 57, 58, 59, 60, 61, 62, 64, 65, 66, 67, 68, 69, 70, 71, 72, 73, 75]) (KS_tr (L := [53, 54, 55, 56, 57, 58, 59, 60, 61, 62, 64, 65, 66, 67, 68, 69, 70, 71, 72, 73, 75]) KS_rf hkg_j43 (by decide)) (by decide)).trans hRW) ((rs9_ks (L := [5, 48, 49, 50, 51, 52, 63, 74]) (KS_tr (L := [5, 48, 49, 50, 51, 52, 63, 74]) KS_rf hks_j43 (by decide)) rfl rfl).trans hRS) hBR hR3_ hZ3_) (cwV 0 htb (gd_V kw_1260 kw_1261 kw_1262 kw_5 kw_1635) rfl rfl rfl (by decide +kernel) ⟨Nat.le_of_ble_eq_true rfl, Nat.le_of_ble_eq_true rfl⟩) rfl hl.1 rfl (Nat.le_of_ble_eq_true rfl) dX13_refresh_122 ⟨Nat.zero_le _, Nat.zero_le _⟩ hK hP hD hS hA (fun u_29 H locs hw hP hD hS => ?_)
            obtain ⟨sgv_30, gmv_30, lgv_30, rfl, hIv_30, ksv_30, kgv_30, klv_30, fGI_r_28, fMo_r_28, fR9_r_28⟩ := hw
            obtain rfl := KS_nil klv_30
            have hP : va_P (dC, dI) vwCl (mW h0 ad cid sgv_30 gmv_30 lg) H := hP
            have hD : va_D A (mW h0 ad cid sgv_30 gmv_30 lg) := hD
            refine lv_aload_n hx hb dX13_refresh_125 rfl (lv_at hl 2 rfl) ?_
            refine lv_iload_n hx hb dX13_refresh_126 rfl (lv_at hl 1 rfl) ?_
            refine lv_if_eq (tgt := 134) hx hb dX13_refresh_127 (by decide) (fun c_31 => ?_) (fun c_31 => ?_)
            · refine lv_iconst (v := 2) hx hb dX13_refresh_134 (by decide) ?_
              refine ma_put (x := 2) hx hb htb inX13 hown hK hP hD hS 5 (by decide) (by decide) (htb _ kw_239) rfl rfl rfl dX13_refresh_135 (fun sg_32 H locs esg_32 hP hD hS => ?_)
              have hI_sg_32 := MI_put hIv_30 esg_32 (iv_k (by decide) : iv 2 2 2) (by decide)
              refine lv_iload_n hx hb dX13_refresh_138 rfl (lv_at hl 1 rfl) ?_
              refine lv_if_eq (tgt := 149) hx hb dX13_refresh_139 (by decide) (fun c_33 => ?_) (fun c_33 => ?_)
              · refine lv_iconst (v := 0) hx hb dX13_refresh_149 (by decide) ?_
                exact W.iret (v := 0) hx hb hr (fun t ht hW => ⟨⟨0, (sg_32, gmv_30, lg), rfl, ⟨sg_32, gmv_30, lg, rfl, hI_sg_32, (KS_up (KS_tr (L := [5, 48, 49, 50, 51, 52, 63, 74]) (KS_tr (L := [5, 48, 49, 50, 51, 52, 63, 74]) KS_rf hks_j43 (by decide)) ksv_30 (by decide)) esg_32 (by decide)), (KS_tr (L := [53, 54, 55, 56, 57, 58, 59, 60, 61, 62, 64, 65, 66, 67, 68, 69, 70, 71, 72, 73, 75]) (KS_tr (L := [53, 54, 55, 56, 57, 58, 59, 60, 61, 62, 64, 65, 66, 67, 68, 69, 70, 71, 72, 73, 75]) KS_rf hkg_j43 (by decide)) kgv_30 (by decide)), KS_rf, ((GI0_of fGI_r_28 (show KS [5] sgv_30 sg_32 from (KS_up KS_rf esg_32 (by decide))) (show KS [] gmv_30 gmv_30 from KS_rf) (show KS [] lg lg from KS_rf) (by decide) (by decide) (by decide) (by decide) (by decide) (by decide))), ((MO_of fMo_r_28 (show KS [5] sgv_30 sg_32 from (KS_up KS_rf esg_32 (by decide))) (show KS [] gmv_30 gmv_30 from KS_rf) (by decide) (by decide))), ((Or.inr ⟨hdc, zCl wg (zSt S3_), (RR_ks fR9_r_28 (show KS [5] sgv_30 sg_32 from (KS_up KS_rf esg_32 (by decide))) (KS_rf (L := []) (f := gmv_30)) (by decide) (by decide)), WF_cl NB_st, Or.inr ⟨(by have := i32_0; have := i32_1; have := i32_2; have := i32_m1; have : (sg_32 5).toInt = 2 := (by rw [up_at esg_32]; rfl); have := (h_22).1; have := (h_22).2; have := (h_25).1; have := (h_25).2; have := (h_23).1; have := (h_23).2; omega), hE3_⟩⟩))⟩, by rw [ht]; exact hP, va_K.moved hW.alike hK, hD⟩, hS.F ht⟩) hS.2.2 dX13_refresh_150
              · have h_34 : iv 1 0 x1_43 := iv_neL c_33 h_25 (by decide)
                exact (iv_no h_34 (by decide)).elim
            · have h_35 : iv 1 0 x1_43 := iv_neL c_31 h_25 (by decide)
              exact (iv_no h_35 (by decide)).elim
        · have h_36 : iv 1 1 x1_43 := iv_neL c_24 hx1_43 (by decide)
          refine lv_aload_n hx hb dX13_refresh_55 rfl (lv_at hl 2 rfl) ?_
          refine mr_get (v := .ref (ad 42)) hx hb htb inX13 hown hK hP 42 (by decide) (htb _ kw_196) rfl dX13_refresh_56 ?_
          refine lv_iload_n hx hb dX13_refresh_59 rfl (lv_at hl 0 rfl) ?_
          refine mr_iald hx hb hK hP 33 (k := 42) rfl rfl rfl (show vp_in x2_43 80 from (iv_in h_22 (by decide))) dX13_refresh_60 ?_
          refine lv_topi (fun z_37 ez_37 => ?_)
          have hz_37 : iv 0 79 z_37 := iv_of ez_37 (MI_a hI_j43 42 h_22 (by decide))
          have ez_37 := ez_37.trans (congrFun (hkg_j43 42 (by decide)) _)
          refine lv_istore_n (lv' := [(3, .int z_37), (2, .int x2_43), (1, .int x1_43), (0, .ref h0)]) hx hb dX13_refresh_61 rfl hl (by decide) rfl (fun ls hl => ?_)
          refine lv_aload_n hx hb dX13_refresh_62 rfl (lv_at hl 3 rfl) ?_
          refine mr_get (v := .ref (ad 28)) hx hb htb inX13 hown hK hP 28 (by decide) (htb _ kw_184) rfl dX13_refresh_63 ?_
          refine lv_iload_n hx hb dX13_refresh_66 rfl (lv_at hl 0 rfl) ?_
          refine mr_iald hx hb hK hP 21 (k := 28) rfl rfl rfl (show vp_in z_37 80 from (iv_in hz_37 (by decide))) dX13_refresh_67 ?_
          refine lv_topi (fun z_38 ez_38 => ?_)
          have hz_38 : iv (-1) 79 z_38 := iv_of ez_38 (MI_a hI_j43 28 hz_37 (by decide))
          have ez_38 := ez_38.trans (congrFun (hkg_j43 28 (by decide)) _)
          refine lv_if_ne (tgt := 111) hx hb dX13_refresh_68 (by decide) (fun c_39 => ?_) (fun c_39 => ?_)
          · have d_40 : ¬ (z_38 : Int32).toInt = 0 := lv_neT c_39 rfl
            obtain ⟨z_41, ez_41⟩ : ∃ z : Int32, z = x2_43 + 1 := ⟨_, rfl⟩
            have hz_41 : iv 1 80 z_41 := iv_of ez_41 (iv_add h_22 (iv_k (by decide) : iv 1 1 1) (by decide))
            have tz_41 : z_41.toInt = x2_43.toInt + 1 := by rw [ez_41]; exact iv_addE h_22 (iv_k (by decide) : iv 1 1 1) (by decide)
            refine lv_iinc (v := z_41) (lv' := [(2, .int z_41), (3, .int z_37), (1, .int x1_43), (0, .ref h0)]) hx hb dX13_refresh_111 hl (k := 1) rfl ez_41.symm (by decide) rfl (fun ls hl => ?_)
            refine lv_goto (tgt := 43) hx hb dX13_refresh_114 (by decide) ?_
            exact ih43 _ (by rw [← hn43]; exact (iv_meas tz_41 h_22 (by decide))) sg_j43 gm_j43 z_41 x1_43 rfl (iv_w hz_41 (by decide)) (iv_w h_36 (by decide)) (KS_tr (L := [5, 48, 49, 50, 51, 52, 63, 74]) KS_rf hks_j43 (by decide)) (KS_tr (L := [53, 54, 55, 56, 57, 58, 59, 60, 61, 62, 64, 65, 66, 67, 68, 69, 70, 71, 72, 73, 75]) KS_rf hkg_j43 (by decide)) hI_j43 (hgi) (hmo) (hdoc) (hdc) (hBR) (hSB) ((RF_n hRF (by have := i32_0; have := i32_1; have := i32_2; have := i32_m1; have := (h_22).1; have := (h_22).2; have := (h_36).1; have := (h_36).2; have := (h_23).1; have := (h_23).2; have := (hz_37).1; have := (hz_37).2; have := (hz_38).1; have := (hz_38).2; have := (hz_41).1; have := (hz_41).2; omega) (h_22).1 (by have q5 := hBR.1; rw [rs9_41 hRS] at q5; have := i32_0; have := i32_1; have := i32_2; have := i32_m1; have := congrArg Int32.toInt (show sg_j43 41 = sg 41 from hks_j43 41 (by decide)); have := (show iv 0 80 (sg 41) from MI_s hI 41).1; have := (show iv 0 80 (sg 41) from MI_s hI 41).2; have := (h_22).1; have := (h_22).2; have := (h_36).1; have := (h_36).2; have := (h_23).1; have := (h_23).2; have := (hz_37).1; have := (hz_37).2; have := (hz_38).1; have := (hz_38).2; have := (hz_41).1; have := (hz_41).2; omega) tz_41 (fun q => ((BR_rf hBR ((rt9_ks (L := [53, 54, 55, 56, 57, 58, 59, 60, 61, 62, 64, 65, 66, 67, 68, 69, 70, 71, 72, 73, 75]) (KS_tr (L := [53, 54, 55, 56, 57, 58, 59, 60, 61, 62, 64, 65, 66, 67, 68, 69, 70, 71, 72, 73, 75]) KS_rf hkg_j43 (by decide)) (by decide)).trans hRW) ((rs9_ks (L := [5, 48, 49, 50, 51, 52, 63, 74]) (KS_tr (L := [5, 48, 49, 50, 51, 52, 63, 74]) KS_rf hks_j43 (by decide)) rfl rfl).trans hRS) h_22 (by have := i32_0; have := i32_1; have := i32_2; have := i32_m1; have := congrArg Int32.toInt (show sg_j43 41 = sg 41 from hks_j43 41 (by decide)); have := (show iv 0 80 (sg 41) from MI_s hI 41).1; have := (show iv 0 80 (sg 41) from MI_s hI 41).2; have := (h_22).1; have := (h_22).2; have := (h_36).1; have := (h_36).2; have := (h_23).1; have := (h_23).2; have := (hz_37).1; have := (hz_37).2; have := (hz_38).1; have := (hz_38).2; have := (hz_41).1; have := (hz_41).2; omega)).mp q).1 (Or.inl (by rw [← (show z_37 = gm_j43 42 x2_43.toNatClampNeg from (ez_37.trans (by rw [show gm_j43 42 = gm 42 from (hkg_j43 42 (by decide))]))), ← (show z_38 = gm_j43 28 z_37.toNatClampNeg from ez_38.trans (by rw [show gm_j43 28 = gm 28 from (hkg_j43 28 (by decide))]))]; exact c_39))))) _ _ _ hP hD hS (lv_sub hl [0, 2, 3] rfl)
          · have h_42 : iv 0 0 z_38 := iv_eq c_39 hz_38 (iv_k (by decide) : iv 0 0 0) (by decide)
            refine lv_aload_n hx hb dX13_refresh_71 rfl (lv_at hl 3 rfl) ?_
            refine lv_iload_n hx hb dX13_refresh_72 rfl (lv_at hl 1 rfl) ?_
            refine mr_calli (rest := []) ⟨hx, hb, hml, hown, htb⟩ (f_isAbstract9 l dC dI h0 ad cid sg_j43 gm_j43 lg x2_43 hI_j43 h_22) (cwV 1 htb (gd_V kw_1148 kw_1149 kw_1150 kw_5 kw_1600) rfl rfl rfl (by decide +kernel) ⟨Nat.le_of_ble_eq_true rfl, Nat.le_of_ble_eq_true rfl⟩) rfl hl.1 rfl (Nat.le_of_ble_eq_true rfl) dX13_refresh_73 ⟨Nat.zero_le _, Nat.zero_le _⟩ hK hP hD hS hA (fun r_43 u_44 H locs hw hP hD hS => ?_)
            obtain ⟨hr_43, fAb_r_43, rfl⟩ := hw
            have hP : va_P (dC, dI) vwCl (mW h0 ad cid sg_j43 gm_j43 lg) H := hP
            have hD : va_D A (mW h0 ad cid sg_j43 gm_j43 lg) := hD
            refine lv_if_ne (tgt := 111) hx hb dX13_refresh_76 (by decide) (fun c_45 => ?_) (fun c_45 => ?_)
            · have h_46 : iv 1 1 r_43 := iv_neL c_45 hr_43 (by decide)
              obtain ⟨z_47, ez_47⟩ : ∃ z : Int32, z = x2_43 + 1 := ⟨_, rfl⟩
              have hz_47 : iv 1 80 z_47 := iv_of ez_47 (iv_add h_22 (iv_k (by decide) : iv 1 1 1) (by decide))
              have tz_47 : z_47.toInt = x2_43.toInt + 1 := by rw [ez_47]; exact iv_addE h_22 (iv_k (by decide) : iv 1 1 1) (by decide)
              refine lv_iinc (v := z_47) (lv' := [(2, .int z_47), (3, .int z_37), (1, .int x1_43), (0, .ref h0)]) hx hb dX13_refresh_111 hl (k := 1) rfl ez_47.symm (by decide) rfl (fun ls hl => ?_)
              refine lv_goto (tgt := 43) hx hb dX13_refresh_114 (by decide) ?_
              exact ih43 _ (by rw [← hn43]; exact (iv_meas tz_47 h_22 (by decide))) sg_j43 gm_j43 z_47 x1_43 rfl (iv_w hz_47 (by decide)) (iv_w h_36 (by decide)) (KS_tr (L := [5, 48, 49, 50, 51, 52, 63, 74]) KS_rf hks_j43 (by decide)) (KS_tr (L := [53, 54, 55, 56, 57, 58, 59, 60, 61, 62, 64, 65, 66, 67, 68, 69, 70, 71, 72, 73, 75]) KS_rf hkg_j43 (by decide)) hI_j43 (hgi) (hmo) (hdoc) (hdc) (hBR) (hSB) ((RF_n hRF (by have := i32_0; have := i32_1; have := i32_2; have := i32_m1; have := (h_22).1; have := (h_22).2; have := (h_36).1; have := (h_36).2; have := (h_23).1; have := (h_23).2; have := (hz_37).1; have := (hz_37).2; have := (h_42).1; have := (h_42).2; have := (h_46).1; have := (h_46).2; have := (hz_47).1; have := (hz_47).2; omega) (h_22).1 (by have q5 := hBR.1; rw [rs9_41 hRS] at q5; have := i32_0; have := i32_1; have := i32_2; have := i32_m1; have := congrArg Int32.toInt (show sg_j43 41 = sg 41 from hks_j43 41 (by decide)); have := (show iv 0 80 (sg 41) from MI_s hI 41).1; have := (show iv 0 80 (sg 41) from MI_s hI 41).2; have := (h_22).1; have := (h_22).2; have := (h_36).1; have := (h_36).2; have := (h_23).1; have := (h_23).2; have := (hz_37).1; have := (hz_37).2; have := (h_42).1; have := (h_42).2; have := (h_46).1; have := (h_46).2; have := (hz_47).1; have := (hz_47).2; omega) tz_47 (fun q => ((BR_rf hBR ((rt9_ks (L := [53, 54, 55, 56, 57, 58, 59, 60, 61, 62, 64, 65, 66, 67, 68, 69, 70, 71, 72, 73, 75]) (KS_tr (L := [53, 54, 55, 56, 57, 58, 59, 60, 61, 62, 64, 65, 66, 67, 68, 69, 70, 71, 72, 73, 75]) KS_rf hkg_j43 (by decide)) (by decide)).trans hRW) ((rs9_ks (L := [5, 48, 49, 50, 51, 52, 63, 74]) (KS_tr (L := [5, 48, 49, 50, 51, 52, 63, 74]) KS_rf hks_j43 (by decide)) rfl rfl).trans hRS) h_22 (by have := i32_0; have := i32_1; have := i32_2; have := i32_m1; have := congrArg Int32.toInt (show sg_j43 41 = sg 41 from hks_j43 41 (by decide)); have := (show iv 0 80 (sg 41) from MI_s hI 41).1; have := (show iv 0 80 (sg 41) from MI_s hI 41).2; have := (h_22).1; have := (h_22).2; have := (h_36).1; have := (h_36).2; have := (h_23).1; have := (h_23).2; have := (hz_37).1; have := (hz_37).2; have := (h_42).1; have := (h_42).2; have := (h_46).1; have := (h_46).2; have := (hz_47).1; have := (hz_47).2; omega)).mp q).2.1 (fAb_r_43.resolve_right (fun q8 => absurd q8.1 (by have := i32_0; have := i32_1; have := i32_2; have := i32_m1; have := (h_22).1; have := (h_22).2; have := (h_36).1; have := (h_36).2; have := (h_23).1; have := (h_23).2; have := (hz_37).1; have := (hz_37).2; have := (h_42).1; have := (h_42).2; have := (h_46).1; have := (h_46).2; have := (hz_47).1; have := (hz_47).2; omega))).2))) _ _ _ hP hD hS (lv_sub hl [0, 2, 3] rfl)
            · have h_48 : iv 0 0 r_43 := iv_eq c_45 hr_43 (iv_k (by decide) : iv 0 0 0) (by decide)
              refine lv_aload_n hx hb dX13_refresh_79 rfl (lv_at hl 3 rfl) ?_
              refine lv_iload_n hx hb dX13_refresh_80 rfl (lv_at hl 1 rfl) ?_
              refine mr_calli (rest := []) ⟨hx, hb, hml, hown, htb⟩ (f_isMany l dC dI h0 ad cid sg_j43 gm_j43 lg x2_43 hI_j43 h_22) (cwV 1 htb (gd_V kw_1151 kw_1152 kw_1153 kw_5 kw_1601) rfl rfl rfl (by decide +kernel) ⟨Nat.le_of_ble_eq_true rfl, Nat.le_of_ble_eq_true rfl⟩) rfl hl.1 rfl (Nat.le_of_ble_eq_true rfl) dX13_refresh_81 ⟨Nat.zero_le _, Nat.zero_le _⟩ hK hP hD hS hA (fun r_49 u_50 H locs hw hP hD hS => ?_)
              obtain ⟨hr_49, fY_r_49, rfl⟩ := hw
              have hP : va_P (dC, dI) vwCl (mW h0 ad cid sg_j43 gm_j43 lg) H := hP
              have hD : va_D A (mW h0 ad cid sg_j43 gm_j43 lg) := hD
              refine lv_if_ne (tgt := 111) hx hb dX13_refresh_84 (by decide) (fun c_51 => ?_) (fun c_51 => ?_)
              · have h_52 : iv 1 1 r_49 := iv_neL c_51 hr_49 (by decide)
                obtain ⟨z_53, ez_53⟩ : ∃ z : Int32, z = x2_43 + 1 := ⟨_, rfl⟩
                have hz_53 : iv 1 80 z_53 := iv_of ez_53 (iv_add h_22 (iv_k (by decide) : iv 1 1 1) (by decide))
                have tz_53 : z_53.toInt = x2_43.toInt + 1 := by rw [ez_53]; exact iv_addE h_22 (iv_k (by decide) : iv 1 1 1) (by decide)
                refine lv_iinc (v := z_53) (lv' := [(2, .int z_53), (3, .int z_37), (1, .int x1_43), (0, .ref h0)]) hx hb dX13_refresh_111 hl (k := 1) rfl ez_53.symm (by decide) rfl (fun ls hl => ?_)
                refine lv_goto (tgt := 43) hx hb dX13_refresh_114 (by decide) ?_
                exact ih43 _ (by rw [← hn43]; exact (iv_meas tz_53 h_22 (by decide))) sg_j43 gm_j43 z_53 x1_43 rfl (iv_w hz_53 (by decide)) (iv_w h_36 (by decide)) (KS_tr (L := [5, 48, 49, 50, 51, 52, 63, 74]) KS_rf hks_j43 (by decide)) (KS_tr (L := [53, 54, 55, 56, 57, 58, 59, 60, 61, 62, 64, 65, 66, 67, 68, 69, 70, 71, 72, 73, 75]) KS_rf hkg_j43 (by decide)) hI_j43 (hgi) (hmo) (hdoc) (hdc) (hBR) (hSB) ((RF_n hRF (by have := i32_0; have := i32_1; have := i32_2; have := i32_m1; have := (h_22).1; have := (h_22).2; have := (h_36).1; have := (h_36).2; have := (h_23).1; have := (h_23).2; have := (hz_37).1; have := (hz_37).2; have := (h_42).1; have := (h_42).2; have := (h_48).1; have := (h_48).2; have := (h_52).1; have := (h_52).2; have := (hz_53).1; have := (hz_53).2; omega) (h_22).1 (by have q5 := hBR.1; rw [rs9_41 hRS] at q5; have := i32_0; have := i32_1; have := i32_2; have := i32_m1; have := congrArg Int32.toInt (show sg_j43 41 = sg 41 from hks_j43 41 (by decide)); have := (show iv 0 80 (sg 41) from MI_s hI 41).1; have := (show iv 0 80 (sg 41) from MI_s hI 41).2; have := (h_22).1; have := (h_22).2; have := (h_36).1; have := (h_36).2; have := (h_23).1; have := (h_23).2; have := (hz_37).1; have := (hz_37).2; have := (h_42).1; have := (h_42).2; have := (h_48).1; have := (h_48).2; have := (h_52).1; have := (h_52).2; have := (hz_53).1; have := (hz_53).2; omega) tz_53 (fun q => ((BR_rf hBR ((rt9_ks (L := [53, 54, 55, 56, 57, 58, 59, 60, 61, 62, 64, 65, 66, 67, 68, 69, 70, 71, 72, 73, 75]) (KS_tr (L := [53, 54, 55, 56, 57, 58, 59, 60, 61, 62, 64, 65, 66, 67, 68, 69, 70, 71, 72, 73, 75]) KS_rf hkg_j43 (by decide)) (by decide)).trans hRW) ((rs9_ks (L := [5, 48, 49, 50, 51, 52, 63, 74]) (KS_tr (L := [5, 48, 49, 50, 51, 52, 63, 74]) KS_rf hks_j43 (by decide)) rfl rfl).trans hRS) h_22 (by have := i32_0; have := i32_1; have := i32_2; have := i32_m1; have := congrArg Int32.toInt (show sg_j43 41 = sg 41 from hks_j43 41 (by decide)); have := (show iv 0 80 (sg 41) from MI_s hI 41).1; have := (show iv 0 80 (sg 41) from MI_s hI 41).2; have := (h_22).1; have := (h_22).2; have := (h_36).1; have := (h_36).2; have := (h_23).1; have := (h_23).2; have := (hz_37).1; have := (hz_37).2; have := (h_42).1; have := (h_42).2; have := (h_48).1; have := (h_48).2; have := (h_52).1; have := (h_52).2; have := (hz_53).1; have := (hz_53).2; omega)).mp q).1 (fY_r_49.resolve_left (fun q8 => absurd q8.1 (by have := i32_0; have := i32_1; have := i32_2; have := i32_m1; have := (h_22).1; have := (h_22).2; have := (h_36).1; have := (h_36).2; have := (h_23).1; have := (h_23).2; have := (hz_37).1; have := (hz_37).2; have := (h_42).1; have := (h_42).2; have := (h_48).1; have := (h_48).2; have := (h_52).1; have := (h_52).2; have := (hz_53).1; have := (hz_53).2; omega))).2))) _ _ _ hP hD hS (lv_sub hl [0, 2, 3] rfl)
              · have h_54 : iv 0 0 r_49 := iv_eq c_51 hr_49 (iv_k (by decide) : iv 0 0 0) (by decide)
                refine lv_aload_n hx hb dX13_refresh_87 rfl (lv_at hl 3 rfl) ?_
                refine lv_iload_n hx hb dX13_refresh_88 rfl (lv_at hl 0 rfl) ?_
                refine lv_ldc2 (own := RX13) (v := 1818327673) hx hb hown (htb _ kw_904) dX13_refresh_89 ?_
                refine mr_calll (rest := []) ⟨hx, hb, hml, hown, htb⟩ (f_word l dC dI h0 ad cid sg_j43 gm_j43 lg z_37 1818327673 hI_j43 hz_37) (cwV 2 htb (gd_V kw_923 kw_924 kw_925 kw_5 kw_1545) rfl rfl rfl (by decide +kernel) ⟨Nat.le_of_ble_eq_true rfl, Nat.le_of_ble_eq_true rfl⟩) rfl hl.1 rfl (Nat.le_of_ble_eq_true rfl) dX13_refresh_92 ⟨Nat.zero_le _, Nat.zero_le _⟩ hK hP hD hS hA (fun r_55 u_56 H locs hw hP hD hS => ?_)
                obtain ⟨fW_r_55, rfl⟩ := hw
                have hP : va_P (dC, dI) vwCl (mW h0 ad cid sg_j43 gm_j43 lg) H := hP
                have hD : va_D A (mW h0 ad cid sg_j43 gm_j43 lg) := hD
                refine lv_aload_n hx hb dX13_refresh_95 rfl (lv_at hl 3 rfl) ?_
                refine mr_get (v := .ref (ad 1)) hx hb htb inX13 hown hK hP 1 (by decide) (htb _ kw_156) rfl dX13_refresh_96 ?_
                refine lv_iconst (v := 0) hx hb dX13_refresh_99 (by decide) ?_
                refine mr_lald hx hb hK hP 1 (k := 1) rfl rfl rfl (show vp_in 0 11 from (iv_in (iv_k (by decide) : iv 0 0 0) (by decide))) dX13_refresh_100 ?_
                refine lv_topl (fun z_57 ez_57 => ?_)
                refine W.lcmp hx hb dX13_refresh_101 ?_
                refine lv_topi (fun z_58 ez_58 => ?_)
                have hz_58 : iv (-1) 1 z_58 := iv_of ez_58 (iv_cmp _ _)
                refine lv_if_eq (tgt := 111) hx hb dX13_refresh_102 (by decide) (fun c_59 => ?_) (fun c_59 => ?_)
                · have h_60 : iv 0 0 z_58 := iv_eq c_59 hz_58 (iv_k (by decide) : iv 0 0 0) (by decide)
                  obtain ⟨z_61, ez_61⟩ : ∃ z : Int32, z = x2_43 + 1 := ⟨_, rfl⟩
                  have hz_61 : iv 1 80 z_61 := iv_of ez_61 (iv_add h_22 (iv_k (by decide) : iv 1 1 1) (by decide))
                  have tz_61 : z_61.toInt = x2_43.toInt + 1 := by rw [ez_61]; exact iv_addE h_22 (iv_k (by decide) : iv 1 1 1) (by decide)
                  refine lv_iinc (v := z_61) (lv' := [(2, .int z_61), (3, .int z_37), (1, .int x1_43), (0, .ref h0)]) hx hb dX13_refresh_111 hl (k := 1) rfl ez_61.symm (by decide) rfl (fun ls hl => ?_)
                  refine lv_goto (tgt := 43) hx hb dX13_refresh_114 (by decide) ?_
                  exact ih43 _ (by rw [← hn43]; exact (iv_meas tz_61 h_22 (by decide))) sg_j43 gm_j43 z_61 x1_43 rfl (iv_w hz_61 (by decide)) (iv_w h_36 (by decide)) (KS_tr (L := [5, 48, 49, 50, 51, 52, 63, 74]) KS_rf hks_j43 (by decide)) (KS_tr (L := [53, 54, 55, 56, 57, 58, 59, 60, 61, 62, 64, 65, 66, 67, 68, 69, 70, 71, 72, 73, 75]) KS_rf hkg_j43 (by decide)) hI_j43 (hgi) (hmo) (hdoc) (hdc) (hBR) (hSB) ((RF_n hRF (by have := i32_0; have := i32_1; have := i32_2; have := i32_m1; have := (h_22).1; have := (h_22).2; have := (h_36).1; have := (h_36).2; have := (h_23).1; have := (h_23).2; have := (hz_37).1; have := (hz_37).2; have := (h_42).1; have := (h_42).2; have := (h_48).1; have := (h_48).2; have := (h_54).1; have := (h_54).2; have := (h_60).1; have := (h_60).2; have := (hz_61).1; have := (hz_61).2; omega) (h_22).1 (by have q5 := hBR.1; rw [rs9_41 hRS] at q5; have := i32_0; have := i32_1; have := i32_2; have := i32_m1; have := congrArg Int32.toInt (show sg_j43 41 = sg 41 from hks_j43 41 (by decide)); have := (show iv 0 80 (sg 41) from MI_s hI 41).1; have := (show iv 0 80 (sg 41) from MI_s hI 41).2; have := (h_22).1; have := (h_22).2; have := (h_36).1; have := (h_36).2; have := (h_23).1; have := (h_23).2; have := (hz_37).1; have := (hz_37).2; have := (h_42).1; have := (h_42).2; have := (h_48).1; have := (h_48).2; have := (h_54).1; have := (h_54).2; have := (h_60).1; have := (h_60).2; have := (hz_61).1; have := (hz_61).2; omega) tz_61 (fun q => ((BR_rf hBR ((rt9_ks (L := [53, 54, 55, 56, 57, 58, 59, 60, 61, 62, 64, 65, 66, 67, 68, 69, 70, 71, 72, 73, 75]) (KS_tr (L := [53, 54, 55, 56, 57, 58, 59, 60, 61, 62, 64, 65, 66, 67, 68, 69, 70, 71, 72, 73, 75]) KS_rf hkg_j43 (by decide)) (by decide)).trans hRW) ((rs9_ks (L := [5, 48, 49, 50, 51, 52, 63, 74]) (KS_tr (L := [5, 48, 49, 50, 51, 52, 63, 74]) KS_rf hks_j43 (by decide)) rfl rfl).trans hRS) h_22 (by have := i32_0; have := i32_1; have := i32_2; have := i32_m1; have := congrArg Int32.toInt (show sg_j43 41 = sg 41 from hks_j43 41 (by decide)); have := (show iv 0 80 (sg 41) from MI_s hI 41).1; have := (show iv 0 80 (sg 41) from MI_s hI 41).2; have := (h_22).1; have := (h_22).2; have := (h_36).1; have := (h_36).2; have := (h_23).1; have := (h_23).2; have := (hz_37).1; have := (hz_37).2; have := (h_42).1; have := (h_42).2; have := (h_48).1; have := (h_48).2; have := (h_54).1; have := (h_54).2; have := (h_60).1; have := (h_60).2; have := (hz_61).1; have := (hz_61).2; omega)).mp q).2.2 ((show lg_cmp r_55 z_57 = 0 ↔ mWord gm_j43 lg (gm_j43 42 x2_43.toNatClampNeg).toNatClampNeg 1818327673 = lg 1 0 from (by rw [lg_cmp_eq, fW_r_55, ez_57, ez_37, show gm_j43 42 = gm 42 from (hkg_j43 42 (by decide))]; exact Iff.rfl)).mp (ez_58.symm.trans c_59))))) _ _ _ hP hD hS (lv_sub hl [0, 2, 3] rfl)
                · have d_62 : ¬ (z_58 : Int32).toInt = 0 := lv_neT c_59 rfl
                  obtain ⟨h5_, S9_, hR9_, hW9_, hZ9_, hE9_⟩ := RF_i hRF (by have := i32_0; have := i32_1; have := i32_2; have := i32_m1; have := (h_22).1; have := (h_22).2; have := (h_36).1; have := (h_36).2; have := (h_23).1; have := (h_23).2; have := (hz_37).1; have := (hz_37).2; have := (h_42).1; have := (h_42).2; have := (h_48).1; have := (h_48).2; have := (h_54).1; have := (h_54).2; have := (hz_58).1; have := (hz_58).2; omega)
                  have hrf : rfW wg wl x2_43.toNatClampNeg := ((BR_rf hBR ((rt9_ks (L := [53, 54, 55, 56, 57, 58, 59, 60, 61, 62, 64, 65, 66, 67, 68, 69, 70, 71, 72, 73, 75]) (KS_tr (L := [53, 54, 55, 56, 57, 58, 59, 60, 61, 62, 64, 65, 66, 67, 68, 69, 70, 71, 72, 73, 75]) KS_rf hkg_j43 (by decide)) (by decide)).trans hRW) ((rs9_ks (L := [5, 48, 49, 50, 51, 52, 63, 74]) (KS_tr (L := [5, 48, 49, 50, 51, 52, 63, 74]) KS_rf hks_j43 (by decide)) rfl rfl).trans hRS) h_22 (by have := i32_0; have := i32_1; have := i32_2; have := i32_m1; have := congrArg Int32.toInt (show sg_j43 41 = sg 41 from hks_j43 41 (by decide)); have := (show iv 0 80 (sg 41) from MI_s hI 41).1; have := (show iv 0 80 (sg 41) from MI_s hI 41).2; have := (h_22).1; have := (h_22).2; have := (h_36).1; have := (h_36).2; have := (h_23).1; have := (h_23).2; have := (hz_37).1; have := (hz_37).2; have := (h_42).1; have := (h_42).2; have := (h_48).1; have := (h_48).2; have := (h_54).1; have := (h_54).2; have := (hz_58).1; have := (hz_58).2; omega)).mpr ⟨(fY_r_49.resolve_right (fun q8 => absurd q8.1 (by have := i32_0; have := i32_1; have := i32_2; have := i32_m1; have := (h_22).1; have := (h_22).2; have := (h_36).1; have := (h_36).2; have := (h_23).1; have := (h_23).2; have := (hz_37).1; have := (hz_37).2; have := (h_42).1; have := (h_42).2; have := (h_48).1; have := (h_48).2; have := (h_54).1; have := (h_54).2; have := (hz_58).1; have := (hz_58).2; omega))).2, (fAb_r_43.resolve_left (fun q8 => absurd q8.1 (by have := i32_0; have := i32_1; have := i32_2; have := i32_m1; have := (h_22).1; have := (h_22).2; have := (h_36).1; have := (h_36).2; have := (h_23).1; have := (h_23).2; have := (hz_37).1; have := (hz_37).2; have := (h_42).1; have := (h_42).2; have := (h_48).1; have := (h_48).2; have := (h_54).1; have := (h_54).2; have := (hz_58).1; have := (hz_58).2; omega))).2, (fun q => c_59 (ez_58.trans ((show lg_cmp r_55 z_57 = 0 ↔ mWord gm_j43 lg (gm_j43 42 x2_43.toNatClampNeg).toNatClampNeg 1818327673 = lg 1 0 from (by rw [lg_cmp_eq, fW_r_55, ez_57, ez_37, show gm_j43 42 = gm 42 from (hkg_j43 42 (by decide))]; exact Iff.rfl)).mpr q)))⟩)
                  refine lv_aload_n hx hb dX13_refresh_105 rfl (lv_at hl 3 rfl) ?_
                  refine lv_iload_n hx hb dX13_refresh_106 rfl (lv_at hl 1 rfl) ?_
                  refine mr_calli (rest := []) ⟨hx, hb, hml, hown, htb⟩ (f_run9 l dC dI h0 ad cid sg_j43 gm_j43 lg x2_43 ws wg wl rs rg S9_ hI_j43 (iv_w h_22 (by decide)) (DOC_of hdoc (show KS [5, 48, 49, 50, 51, 52, 63, 74] sg sg_j43 from (KS_tr (L := [5, 48, 49, 50, 51, 52, 63, 74]) KS_rf hks_j43 (by decide))) (show KS [53, 54, 55, 56, 57, 58, 59, 60, 61, 62, 64, 65, 66, 67, 68, 69, 70, 71, 72, 73, 75] gm gm_j43 from (KS_tr (L := [53, 54, 55, 56, 57, 58, 59, 60, 61, 62, 64, 65, 66, 67, 68, 69, 70, 71, 72, 73, 75]) KS_rf hkg_j43 (by decide))) (show KS [] lg lg from KS_rf) (by decide) (by decide) (by decide) (by decide)) hgi (by have q9 : PR gm := hPR; unfold PR at *; rw [(hkg_j43 6 (by decide))]; exact q9) hmo (by have := i32_0; have := i32_1; have := i32_2; have := i32_m1; have := congrArg Int32.toInt (show sg_j43 41 = sg 41 from hks_j43 41 (by decide)); have := (show iv 0 80 (sg 41) from MI_s hI 41).1; have := (show iv 0 80 (sg 41) from MI_s hI 41).2; have := (h_22).1; have := (h_22).2; have := (h_36).1; have := (h_36).2; have := (h_23).1; have := (h_23).2; have := (hz_37).1; have := (hz_37).2; have := (h_42).1; have := (h_42).2; have := (h_48).1; have := (h_48).2; have := (h_54).1; have := (h_54).2; have := (hz_58).1; have := (hz_58).2; omega) ((rt9_ks (L := [53, 54, 55, 56, 57, 58, 59, 60, 61, 62, 64, 65, 66, 67, 68, 69, 70, 71, 72, 73, 75]) (KS_tr (L := [53, 54, 55, 56, 57, 58, 59, 60, 61, 62, 64, 65, 66, 67, 68, 69, 70, 71, 72, 73, 75]) KS_rf hkg_j43 (by decide)) (by decide)).trans hRW) ((rs9_ks (L := [5, 48, 49, 50, 51, 52, 63, 74]) (KS_tr (L := [5, 48, 49, 50, 51, 52, 63, 74]) KS_rf hks_j43 (by decide)) rfl rfl).trans hRS) hBR hCL hR9_ hWD hST hST2 hSB hW9_ h5_) (cwV 1 htb (gd_V kw_1154 kw_1155 kw_1156 kw_5 kw_1602) rfl rfl rfl (by decide +kernel) ⟨Nat.le_of_ble_eq_true rfl, Nat.le_of_ble_eq_true rfl⟩) rfl hl.1 rfl (Nat.le_of_ble_eq_true rfl) dX13_refresh_107 ⟨Nat.zero_le _, Nat.zero_le _⟩ hK hP hD hS hA (fun r_63 u_64 H locs hw hP hD hS => ?_)
                  obtain ⟨sgv_65, gmv_65, lgv_65, rfl, hIv_65, ksv_65, kgv_65, klv_65, hr_63, fGI_r_63, fMo_r_63, f9_r_63⟩ := hw
                  obtain rfl := KS_nil klv_65
                  have hP : va_P (dC, dI) vwCl (mW h0 ad cid sgv_65 gmv_65 lg) H := hP
                  have hD : va_D A (mW h0 ad cid sgv_65 gmv_65 lg) := hD
                  refine lv_istore_n (lv' := [(1, .int r_63), (3, .int z_37), (2, .int x2_43), (0, .ref h0)]) hx hb dX13_refresh_110 rfl hl (by decide) rfl (fun ls hl => ?_)
                  obtain ⟨z_66, ez_66⟩ : ∃ z : Int32, z = x2_43 + 1 := ⟨_, rfl⟩
                  have hz_66 : iv 1 80 z_66 := iv_of ez_66 (iv_add h_22 (iv_k (by decide) : iv 1 1 1) (by decide))
                  have tz_66 : z_66.toInt = x2_43.toInt + 1 := by rw [ez_66]; exact iv_addE h_22 (iv_k (by decide) : iv 1 1 1) (by decide)
                  refine lv_iinc (v := z_66) (lv' := [(2, .int z_66), (1, .int r_63), (3, .int z_37), (0, .ref h0)]) hx hb dX13_refresh_111 hl (k := 2) rfl ez_66.symm (by decide) rfl (fun ls hl => ?_)
                  refine lv_goto (tgt := 43) hx hb dX13_refresh_114 (by decide) ?_
                  exact ih43 _ (by rw [← hn43]; exact (iv_meas tz_66 h_22 (by decide))) sgv_65 gmv_65 z_66 r_63 rfl (iv_w hz_66 (by decide)) hr_63 (KS_tr (L := [5, 48, 49, 50, 51, 52, 63, 74]) (KS_tr (L := [5, 48, 49, 50, 51, 52, 63, 74]) KS_rf hks_j43 (by decide)) ksv_65 (by decide)) (KS_tr (L := [53, 54, 55, 56, 57, 58, 59, 60, 61, 62, 64, 65, 66, 67, 68, 69, 70, 71, 72, 73, 75]) (KS_tr (L := [53, 54, 55, 56, 57, 58, 59, 60, 61, 62, 64, 65, 66, 67, 68, 69, 70, 71, 72, 73, 75]) KS_rf hkg_j43 (by decide)) kgv_65 (by decide)) hIv_65 (fGI_r_63) (fMo_r_63) (hdoc) (hdc) (hBR) (hSB) ((RF_s hZ9_ hE9_ (h_22).1 (by have q5 := hBR.1; rw [rs9_41 hRS] at q5; have := i32_0; have := i32_1; have := i32_2; have := i32_m1; have := congrArg Int32.toInt (show sgv_65 41 = sg_j43 41 from ksv_65 41 (by decide)); have := congrArg Int32.toInt (show sg_j43 41 = sg 41 from hks_j43 41 (by decide)); have := (show iv 0 80 (sg 41) from MI_s hI 41).1; have := (show iv 0 80 (sg 41) from MI_s hI 41).2; have := congrArg Int32.toInt (show sg_j43 41 = sg 41 from hks_j43 41 (by decide)); have := (h_22).1; have := (h_22).2; have := (h_36).1; have := (h_36).2; have := (h_23).1; have := (h_23).2; have := (hz_37).1; have := (hz_37).2; have := (h_42).1; have := (h_42).2; have := (h_48).1; have := (h_48).2; have := (h_54).1; have := (h_54).2; have := (hz_58).1; have := (hz_58).2; have := (hr_63).1; have := (hr_63).2; have := (hz_66).1; have := (hz_66).2; omega) tz_66 hrf f9_r_63)) _ _ _ hP hD hS (lv_sub hl [0, 1, 3] rfl)
  have hj23 : ∀ (sg_j23 : Nat → Int32) (y0_23 : Int32) (_ : iv 0 1 y0_23) (_ : KS [51, 52] sg sg_j23) (_ : MI sg_j23 gm) (_ : 1 ≤ y0_23.toInt ∨ DOC sg gm lg) (_ : (y0_23.toInt = 1 ∧ (sg 40).toInt = 0) ∨ (y0_23.toInt = 0 ∧ ¬ (sg 40).toInt = 0)) (_ : (sg_j23 51).toInt = 0) (H : Heap) (locs : List Loc) (ls : Array Slot), va_P (dC, dI) vwCl (mW h0 ad cid sg_j23 gm lg) H → va_D A (mW h0 ad cid sg_j23 gm lg) → va_S A s.heap H locs → lv_has ls 4 [(0, .ref h0)] → W p l e (headSpec wm_X13_refresh ({ frames := 12, cells := 0, slots := 0, locals := 300 })).room s m ([.ref h0] : List Value).toArray below meth c H locs 0 0 (MQ below (va_Qi (fun r v => ∃ (sg2 : Nat → Int32) (gm2 : Nat → Nat → Int32) (lg2 : Nat → Nat → Int64), v = (sg2, gm2, lg2) ∧ MI sg2 gm2 ∧ KS [5, 48, 49, 50, 51, 52, 63, 74] sg sg2 ∧ KS [53, 54, 55, 56, 57, 58, 59, 60, 61, 62, 64, 65, 66, 67, 68, 69, 70, 71, 72, 73, 75] gm gm2 ∧ KS [] lg lg2 ∧ (GI0 sg2 gm2 lg2) ∧ (MO sg2 gm2) ∧ (((sg 40).toInt = 0 ∧ (sg2 5).toInt = 1 ∧ RR wg wl S sg2 gm2) ∨ (¬ (sg 40).toInt = 0 ∧ ∃ S2, RR wg wl S2 sg2 gm2 ∧ WF9 S2 ∧ (((sg2 5).toInt = 0 ∧ zRf ws wg wl 81 S = (some r.toInt, S2)) ∨ ((sg2 5).toInt = 2 ∧ zRf ws wg wl 81 S = (none, S2)))))) (MB dC dI h0 ad cid A) A) ([.ref h0] : List Value).toArray s 0 0 A) (F0 m 23 ls [.int y0_23, .ref h0]) := by
    intro sg_j23 y0_23 hy0_23 hks_j23 hI_j23 hd23 h23x h51j H locs ls hP hD hS hl
    refine ma_put (x := y0_23) hx hb htb inX13 hown hK hP hD hS 5 (by decide) (by decide) (htb _ kw_239) rfl rfl rfl dX13_refresh_23 (fun sg_67 H locs esg_67 hP hD hS => ?_)
    have hI_sg_67 := MI_put hI_j23 esg_67 hy0_23 (by decide)
    refine lv_aload_n hx hb dX13_refresh_26 rfl (lv_at hl 0 rfl) ?_
    refine mr_get (v := .int (sg_67 5)) hx hb htb inX13 hown hK hP 5 (by decide) (htb _ kw_239) rfl dX13_refresh_27 ?_
    refine lv_topi (fun z_68 ez_68 => ?_)
    obtain rfl : y0_23 = z_68 := (ez_68.trans (up_at esg_67)).symm
    refine lv_if_le (tgt := 35) hx hb dX13_refresh_30 (by decide) (fun c_69 => ?_) (fun c_69 => ?_)
    · have h_70 : iv 0 0 y0_23 := iv_leL c_69 hy0_23 (iv_k (by decide) : iv 0 0 0) (by decide)
      have hdc : ¬ (sg 40).toInt = 0 := (h23x.resolve_left (fun q => absurd q.1 (by have := i32_0; have := i32_1; have := i32_2; have := i32_m1; have := congrArg Int32.toInt (show sg_67 5 = y0_23 from up_at esg_67); have := (h_70).1; have := (h_70).2; omega))).2
      have hdoc := hdd.resolve_left hdc
      have hBR := hBRd.resolve_left hdc
      have hSB := hSBd.resolve_left hdc
      refine lv_aload_n hx hb dX13_refresh_35 rfl (lv_at hl 0 rfl) ?_
      refine mr_callv (rest := []) ⟨hx, hb, hml, hown, htb⟩ (f_clear9 l dC dI h0 ad cid sg_67 gm lg wg wl S hI_sg_67 (RR_ks (L := [5, 51, 52]) (M := []) hRR (KS_up (KS_tr (L := [5, 51, 52]) KS_rf hks_j23 (by decide)) esg_67 (by decide)) KS_rf (by decide) (by decide)) hNB) (cwV 0 htb (gd_V kw_820 kw_821 kw_822 kw_5 kw_1518) rfl rfl rfl (by decide +kernel) ⟨Nat.le_of_ble_eq_true rfl, Nat.le_of_ble_eq_true rfl⟩) rfl hl.1 rfl (Nat.le_of_ble_eq_true rfl) dX13_refresh_36 ⟨Nat.zero_le _, Nat.zero_le _⟩ hK hP hD hS hA (fun u_72 H locs hw hP hD hS => ?_)
      obtain ⟨sgv_73, gmv_73, lgv_73, rfl, hIv_73, ksv_73, kgv_73, klv_73, fCl_r_71, fR_r_71⟩ := hw
      obtain rfl := KS_nil klv_73
      have hP : va_P (dC, dI) vwCl (mW h0 ad cid sgv_73 gmv_73 lg) H := hP
      have hD : va_D A (mW h0 ad cid sgv_73 gmv_73 lg) := hD
      refine lv_iconst (v := 1) hx hb dX13_refresh_39 (by decide) ?_
      refine lv_istore_n (lv' := [(1, .int 1), (0, .ref h0)]) hx hb dX13_refresh_40 rfl hl (by decide) rfl (fun ls hl => ?_)
      refine lv_iconst (v := 0) hx hb dX13_refresh_41 (by decide) ?_
      refine lv_istore_n (lv' := [(2, .int 0), (1, .int 1), (0, .ref h0)]) hx hb dX13_refresh_42 rfl hl (by decide) rfl (fun ls hl => ?_)
      exact hj43 _ sgv_73 gmv_73 0 1 rfl (iv_w (iv_k (by decide) : iv 0 0 0) (by decide)) (iv_w (iv_k (by decide) : iv 1 1 1) (by decide)) (KS_tr (L := [5, 48, 49, 50, 51, 52, 63, 74]) (KS_up (KS_tr (L := [5, 48, 49, 50, 51, 52, 63, 74]) KS_rf hks_j23 (by decide)) esg_67 (by decide)) ksv_73 (by decide)) (KS_tr (L := [53, 54, 55, 56, 57, 58, 59, 60, 61, 62, 64, 65, 66, 67, 68, 69, 70, 71, 72, 73, 75]) KS_rf kgv_73 (by decide)) hIv_73 ((GI0_clr (VAL_k (kgv_73 70 (by decide)) (kgv_73 71 (by decide)) (kgv_73 72 (by decide)) (kgv_73 73 (by decide)) hgi.1) fCl_r_71)) ((MO_0 fCl_r_71.1)) (hdoc) (hdc) (hBR) (hSB) ((RF_0 rfl rfl (by have := i32_0; have := i32_1; have := i32_2; have := i32_m1; have := congrArg Int32.toInt (show sgv_73 51 = sg_67 51 from ksv_73 51 (by decide)); have := congrArg Int32.toInt (show sg_67 51 = sg_j23 51 from up_ne esg_67 (by decide)); have := (show iv 0 8 (sg_j23 51) from MI_s hI_j23 51).1; have := (show iv 0 8 (sg_j23 51) from MI_s hI_j23 51).2; have := (show iv 0 8 (sg 51) from MI_s hI 51).1; have := (show iv 0 8 (sg 51) from MI_s hI 51).2; have := (h_70).1; have := (h_70).2; omega) fR_r_71 hNB)) _ _ _ hP hD hS (lv_sub hl [0, 1, 2] rfl)
    · have h_74 : iv 1 1 y0_23 := iv_ltR (i32_lt c_69) (iv_k (by decide) : iv 0 0 0) hy0_23 (by decide)
      refine lv_iconst (v := 0) hx hb dX13_refresh_33 (by decide) ?_
      exact W.iret (v := 0) hx hb hr (fun t ht hW => ⟨⟨0, (sg_67, gm, lg), rfl, ⟨sg_67, gm, lg, rfl, hI_sg_67, (KS_up (KS_tr (L := [5, 48, 49, 50, 51, 52, 63, 74]) KS_rf hks_j23 (by decide)) esg_67 (by decide)), KS_rf, KS_rf, ((GI0_of hgi (show KS [5, 51, 52] sg sg_67 from (KS_up (KS_tr (L := [5, 51, 52]) KS_rf hks_j23 (by decide)) esg_67 (by decide))) (show KS [] gm gm from KS_rf) (show KS [] lg lg from KS_rf) (by decide) (by decide) (by decide) (by decide) (by decide) (by decide))), ((MO_of hmo (show KS [5, 51, 52] sg sg_67 from (KS_up (KS_tr (L := [5, 51, 52]) KS_rf hks_j23 (by decide)) esg_67 (by decide))) (show KS [] gm gm from KS_rf) (by decide) (by decide))), ((Or.inl ⟨(h23x.resolve_right (fun q => absurd q.1 (by have := i32_0; have := i32_1; have := i32_2; have := i32_m1; have := congrArg Int32.toInt (show sg_67 5 = y0_23 from up_at esg_67); have := (h_74).1; have := (h_74).2; omega))).2, (by have := i32_0; have := i32_1; have := i32_2; have := i32_m1; have := congrArg Int32.toInt (show sg_67 5 = y0_23 from up_at esg_67); have := (h_74).1; have := (h_74).2; have q77 := h23x; omega), (RR_ks (L := [5, 51, 52]) (M := []) hRR (KS_up (KS_tr (L := [5, 51, 52]) KS_rf hks_j23 (by decide)) esg_67 (by decide)) KS_rf (by decide) (by decide))⟩))⟩, by rw [ht]; exact hP, va_K.moved hW.alike hK, hD⟩, hS.F ht⟩) hS.2.2 dX13_refresh_34
  refine lv_aload_n hx hb dX13_refresh_0 rfl (lv_at hl 0 rfl) ?_
  refine lv_iconst (v := 0) hx hb dX13_refresh_1 (by decide) ?_
  refine ma_put (x := 0) hx hb htb inX13 hown hK hP hD hS 51 (by decide) (by decide) (htb _ kw_980) rfl rfl rfl dX13_refresh_2 (fun sg_75 H locs esg_75 hP hD hS => ?_)
  have hI_sg_75 := MI_put hI esg_75 (iv_k (by decide) : iv 0 0 0) (by decide)
  refine lv_aload_n hx hb dX13_refresh_5 rfl (lv_at hl 0 rfl) ?_
  refine lv_iconst (v := (-1)) hx hb dX13_refresh_6 (by decide) ?_
  refine ma_put (x := (-1)) hx hb htb inX13 hown hK hP hD hS 52 (by decide) (by decide) (htb _ kw_202) rfl rfl rfl dX13_refresh_7 (fun sg_76 H locs esg_76 hP hD hS => ?_)
  have hI_sg_76 := MI_put hI_sg_75 esg_76 (iv_k (by decide) : iv (-1) (-1) (-1)) (by decide)
  refine lv_aload_n hx hb dX13_refresh_10 rfl (lv_at hl 0 rfl) ?_
  refine lv_aload_n hx hb dX13_refresh_11 rfl (lv_at hl 0 rfl) ?_
  refine mr_get (v := .int (sg_76 40)) hx hb htb inX13 hown hK hP 40 (by decide) (htb _ kw_818) rfl dX13_refresh_12 ?_
  refine lv_topi (fun z_77 ez_77 => ?_)
  obtain rfl : (sg 40) = z_77 := (ez_77.trans (Eq.trans (up_ne esg_76 (by decide)) (up_ne esg_75 (by decide)))).symm
  refine lv_if_eq (tgt := 22) hx hb dX13_refresh_15 (by decide) (fun c_78 => ?_) (fun c_78 => ?_)
  · have h_79 : iv 0 0 (sg 40) := iv_eq c_78 (show iv 0 1 (sg 40) from MI_s hI 40) (iv_k (by decide) : iv 0 0 0) (by decide)
    refine lv_iconst (v := 1) hx hb dX13_refresh_22 (by decide) ?_
    exact hj23 sg_76 1 (iv_w (iv_k (by decide) : iv 1 1 1) (by decide)) (KS_up (KS_up KS_rf esg_75 (by decide)) esg_76 (by decide)) hI_sg_76 (Or.inl (by decide)) (Or.inl ⟨rfl, (by have := i32_0; have := i32_1; have := i32_2; have := i32_m1; have := congrArg Int32.toInt (show sg_76 40 = sg_75 40 from up_ne esg_76 (by decide)); have := congrArg Int32.toInt (show sg_75 40 = sg 40 from up_ne esg_75 (by decide)); have := (show iv 0 1 (sg 40) from MI_s hI 40).1; have := (show iv 0 1 (sg 40) from MI_s hI 40).2; have := (h_79).1; have := (h_79).2; omega)⟩) ((by have := i32_0; have := i32_1; have := i32_2; have := i32_m1; have := congrArg Int32.toInt (show sg_76 51 = sg_75 51 from up_ne esg_76 (by decide)); have : (sg_75 51).toInt = 0 := (by rw [up_at esg_75]; rfl); have := (h_79).1; have := (h_79).2; omega)) _ _ _ hP hD hS (lv_sub hl [0] rfl)
  · have h_80 : iv 1 1 (sg 40) := iv_neL c_78 (show iv 0 1 (sg 40) from MI_s hI 40) (by decide)
    refine lv_iconst (v := 0) hx hb dX13_refresh_18 (by decide) ?_
    refine lv_goto (tgt := 23) hx hb dX13_refresh_19 (by decide) ?_
    exact hj23 sg_76 0 (iv_w (iv_k (by decide) : iv 0 0 0) (by decide)) (KS_up (KS_up KS_rf esg_75 (by decide)) esg_76 (by decide)) hI_sg_76 (Or.inr (hdd.resolve_left (by have := i32_0; have := i32_1; have := i32_2; have := i32_m1; have := congrArg Int32.toInt (show sg_76 40 = sg_75 40 from up_ne esg_76 (by decide)); have := congrArg Int32.toInt (show sg_75 40 = sg 40 from up_ne esg_75 (by decide)); have := (show iv 0 1 (sg 40) from MI_s hI 40).1; have := (show iv 0 1 (sg 40) from MI_s hI 40).2; have := (h_80).1; have := (h_80).2; omega))) (Or.inr ⟨rfl, (by have := i32_0; have := i32_1; have := i32_2; have := i32_m1; have := congrArg Int32.toInt (show sg_76 40 = sg_75 40 from up_ne esg_76 (by decide)); have := congrArg Int32.toInt (show sg_75 40 = sg 40 from up_ne esg_75 (by decide)); have := (show iv 0 1 (sg 40) from MI_s hI 40).1; have := (show iv 0 1 (sg 40) from MI_s hI 40).2; have := (h_80).1; have := (h_80).2; omega)⟩) ((by have := i32_0; have := i32_1; have := i32_2; have := i32_m1; have := congrArg Int32.toInt (show sg_76 51 = sg_75 51 from up_ne esg_76 (by decide)); have : (sg_75 51).toInt = 0 := (by rw [up_at esg_75]; rfl); have := (h_80).1; have := (h_80).2; omega)) _ _ _ hP hD hS (lv_sub hl [0] rfl)
end
section
theorem lkL_f {wg : Nat → Nat → Int32} {nm : Int} : ∀ (l : List Nat) (i : Nat) (e : Nat), l[i]? = some e → (wg 22 e).toInt = nm → (∀ j x, j < i → l[j]? = some x → ¬ (wg 22 x).toInt = nm) → lkL wg nm l = (e : Int)
  | [], i, e, h, _, _ => by simp at h
  | a :: l, 0, e, h, hm, _ => by
    have h : a = e := by simpa using h
    show (if (wg 22 a).toInt = nm then (a : Int) else lkL wg nm l) = _
    rw [h, if_pos hm]
  | a :: l, i + 1, e, h, hm, hn => by
    show (if (wg 22 a).toInt = nm then (a : Int) else lkL wg nm l) = _
    rw [if_neg (hn 0 a (Nat.succ_pos i) rfl)]
    exact lkL_f l i e (by simpa using h) hm (fun j x hj hx => hn (j + 1) x (Nat.succ_lt_succ hj) (by simpa using hx))
theorem lkL_0 {wg : Nat → Nat → Int32} {nm : Int} : ∀ (l : List Nat), (∀ x, x ∈ l → ¬ (wg 22 x).toInt = nm) → lkL wg nm l = -1
  | [], _ => rfl
  | a :: l, h => by
    show (if (wg 22 a).toInt = nm then (a : Int) else lkL wg nm l) = _
    rw [if_neg (h a (List.mem_cons_self ..))]
    exact lkL_0 l (fun x hx => h x (List.mem_cons_of_mem _ hx))
/-- the lookup that was found among the first ones -/
def LKQ (wg : Nat → Nat → Int32) (q : Nat) (nm e : Int32) (k : Nat) : Prop := (e.toInt = -1 ∧ ∀ i, i < k → ¬ (wg 22 (wg 57 (128 * q + i)).toNatClampNeg).toInt = nm.toInt) ∨ (∃ i, i < k ∧ (wg 22 (wg 57 (128 * q + i)).toNatClampNeg).toInt = nm.toInt ∧ e = wg 57 (128 * q + i) ∧ 0 ≤ e.toInt)
section LK9
variable {ws : Nat → Int32} {wg rg gm : Nat → Nat → Int32} {wl lg : Nat → Nat → Int64} {rs sg : Nat → Int32} {S : S9} {q k : Nat} {nm e : Int32}
theorem LKQ_n (h : LKQ wg q nm e k) (hn : ¬ (wg 22 (wg 57 (128 * q + k)).toNatClampNeg).toInt = nm.toInt) : LKQ wg q nm e (k + 1) := by
  rcases h with ⟨h1, h2⟩ | ⟨i, h1, h2⟩
  · refine Or.inl ⟨h1, fun i hi => ?_⟩
    by_cases p : i = k
    · rw [p]; exact hn
    · exact h2 i (by omega)
  · exact Or.inr ⟨i, by omega, h2⟩
theorem LKQ_y {e2 : Int32} (hm : (wg 22 (wg 57 (128 * q + k)).toNatClampNeg).toInt = nm.toInt) (he : e2 = wg 57 (128 * q + k)) (h0 : 0 ≤ e2.toInt) : LKQ wg q nm e2 (k + 1) := Or.inr ⟨k, by omega, hm, he, h0⟩
theorem LKQ_e (h : LKQ wg q nm e k) (hk : k = (wg 41 q).toNatClampNeg) (hd : ∀ n, n < (wg 41 q).toNatClampNeg → ∀ j, j < n → ¬ (wg 22 (wg 57 (128 * q + j)).toNatClampNeg).toInt = (wg 22 (wg 57 (128 * q + n)).toNatClampNeg).toInt) : (e.toInt = -1 ∧ lkL wg nm.toInt (liL wg q) = -1) ∨ (∃ i, i < (wg 41 q).toNatClampNeg ∧ e = wg 57 (128 * q + i) ∧ lkL wg nm.toInt (liL wg q) = (e.toNatClampNeg : Int) ∧ 0 ≤ e.toInt) := by
  subst hk
  rcases h with ⟨h1, h2⟩ | ⟨i, h1, h2, h3, h4⟩
  · refine Or.inl ⟨h1, lkL_0 _ (fun x hx => ?_)⟩
    obtain ⟨i, hi, e⟩ := liL_m hx
    rw [e]; exact h2 i hi
  · refine Or.inr ⟨i, h1, h3, ?_, h4⟩
    rw [h3]
    refine lkL_f _ i _ (liL_g h1) h2 (fun j x hj hx => ?_)
    rw [liL_g (by omega)] at hx
    have e := Option.some.inj hx
    rw [← e, ← h2]; exact hd i h1 j hj
theorem zLk_r {o : Int32} (h : RR wg wl S sg gm) (h0 : 0 ≤ o.toInt) (hl : o.toInt < (sg 48).toInt) : zLk wg o.toInt nm.toInt S = lkL wg nm.toInt (liL wg (3 * (gm 54 o.toNatClampNeg).toInt.toNat + 2)) := by
  have hk : o.toInt.toNat < (zO S).length := by have := h.1.1; omega
  have q := h.1.2 o.toInt.toNat _ (List.getElem?_eq_getElem hk)
  unfold zLk
  rw [if_neg (by omega), List.getElem?_eq_getElem hk]
  show lkL wg nm.toInt (liL wg (3 * ((zO S)[o.toInt.toNat]'hk).2.toNat + 2)) = _
  rw [← q.2]; rfl
theorem zLk_z {o : Int32} (h : RR wg wl S sg gm) (hl : o.toInt < 0 ∨ (sg 48).toInt ≤ o.toInt) : zLk wg o.toInt nm.toInt S = -1 := by
  unfold zLk
  by_cases q : o.toInt < 0
  · rw [if_pos q]
  · rw [if_neg q, List.getElem?_eq_none (by have := h.1.1; omega)]
theorem OB_r {o : Int32} {nb : Nat} (h : RR wg wl S sg gm) (hO : OB9 nb S) (h0 : 0 ≤ o.toInt) (hl : o.toInt < (sg 48).toInt) : 0 ≤ (gm 54 o.toNatClampNeg).toInt ∧ (gm 54 o.toNatClampNeg).toInt < (nb : Int) := by
  have hk : o.toInt.toNat < (zO S).length := by have := h.1.1; omega
  have q := h.1.2 o.toInt.toNat _ (List.getElem?_eq_getElem hk)
  have p := hO _ _ (List.getElem?_eq_getElem hk)
  rw [← q.2] at p; exact p
theorem BR_l {b : Int32} (h : BRG ws wg wl rs rg lg) (hRW : rt9 gm = rg) (hRS : rs9 sg = rs) (hv : iv 0 79 b) (hb : b.toInt < (sg 41).toInt) : (gm 46 b.toNatClampNeg).toInt = (wg 41 (3 * b.toNatClampNeg + 2)).toInt ∧ ∀ n, n < (wg 41 (3 * b.toNatClampNeg + 2)).toNatClampNeg → gm 47 (26 * b.toNatClampNeg + n) = wg 57 (128 * (3 * b.toNatClampNeg + 2) + n)
    ∧ ((mWord gm lg (wg 57 (128 * (3 * b.toNatClampNeg + 2) + n)).toNatClampNeg 1851878757).toInt32 - 97).toInt = (wg 22 (wg 57 (128 * (3 * b.toNatClampNeg + 2) + n)).toNatClampNeg).toInt
    ∧ (cdR sg gm lg (mWord gm lg (wg 57 (128 * (3 * b.toNatClampNeg + 2) + n)).toNatClampNeg 1650811246)).toInt = caN ws wg wl (wl 2 (wg 57 (128 * (3 * b.toNatClampNeg + 2) + n)).toNatClampNeg)
    ∧ ∀ k, k < n → ¬ (wg 22 (wg 57 (128 * (3 * b.toNatClampNeg + 2) + k)).toNatClampNeg).toInt = (wg 22 (wg 57 (128 * (3 * b.toNatClampNeg + 2) + n)).toNatClampNeg).toInt := by
  have q := (h.2.1 _ (BR_lt hRS hv hb)).2.2.2
  have d := DK_r (lg := lg) hRW hRS
  unfold BNl at q
  rw [rw9 hRW 46 rfl] at q
  refine ⟨q.1, fun n hn => ?_⟩
  have q9 := q.2 n hn
  unfold cdR at *
  rw [rw9 hRW 47 rfl, mWord_k d.1, mWord_k d.1, cdF_k d] at q9
  exact q9
end LK9

set_option maxHeartbeats 4000000 in
set_option maxRecDepth 100000 in
theorem f_get9 (l : Launch) (dC : Nat → ClassId) (dI : Nat → Nat → Nat) (h0 : Nat) (ad : Nat → Nat) (cid : Nat → ClassId) (sg : Nat → Int32) (gm : Nat → Nat → Int32) (lg : Nat → Nat → Int64) (nn : Int64) (ws : Nat → Int32) (wg : Nat → Nat → Int32) (wl : Nat → Nat → Int64) (rs : Nat → Int32) (rg : Nat → Nat → Int32) (S : S9) (hI : MI sg gm) (hgi : GI0 sg gm lg) (hPR : PR gm) (hmo : MO sg gm) (hdd : (sg 40).toInt = 0 ∨ DOC sg gm lg) (hRW : rt9 gm = rg) (hRS : rs9 sg = rs) (hBRd : (sg 40).toInt = 0 ∨ BRG ws wg wl rs rg lg) (hCL : CLS9 wg rg) (hRR : RR wg wl S sg gm) (hWD : WD9 lg) (hST : STY9 wg) (hST2 : ∀ c n, c < 8 → n < 26 → (wg 55 (26 * c + n)).toInt = -1 ∨ ty9 (wg 55 (26 * c + n)).toInt) (hSBd : (sg 40).toInt = 0 ∨ SB9 ws wg wl) (hWF : WF9 S) (hWZ : WZ9 wg wl S) (hNB : NB9 S) : MMi l dC dI yX13_get wm_X13_get ({ frames := 12, cells := 0, slots := 0, locals := 300 }) h0 ad cid [.long nn] sg gm lg (fun r v => ∃ (sg2 : Nat → Int32) (gm2 : Nat → Nat → Int32) (lg2 : Nat → Nat → Int64), v = (sg2, gm2, lg2) ∧ MI sg2 gm2 ∧ KS [5, 48, 49, 50, 51, 52, 63, 74] sg sg2 ∧ KS [53, 54, 55, 56, 57, 58, 59, 60, 61, 62, 64, 65, 66, 67, 68, 69, 70, 71, 72, 73, 75] gm gm2 ∧ KS [] lg lg2 ∧ (GI0 sg2 gm2 lg2) ∧ (MO sg2 gm2) ∧ (((sg 40).toInt = 0 ∧ (sg2 5).toInt = 1 ∧ RR wg wl S sg2 gm2) ∨ (¬ (sg 40).toInt = 0 ∧ ∃ S2, RR wg wl S2 sg2 gm2 ∧ WF9 S2 ∧ (((sg2 5).toInt = 0 ∧ zGt ws wg wl 81 (wz9 nn) S = (some r.toInt, S2)) ∨ ((sg2 5).toInt = 2 ∧ zGt ws wg wl 81 (wz9 nn) S = (none, S2)))))) := by
  intro sz
  refine Met.ofW (cc := cX13_get) (maxL := 3) (ret := (some .int)) (by decide) rfl ?_
  intro p e s m args below meth c s₁ B hml hv
  obtain ⟨rfl, hsz, hP, hK, hD0⟩ := hv
  have hx := B.exec
  have hb := B.bytes
  have hr := B.returns
  have hts := atoms_spec (ws := wm_X13_get) B.pre
  have htb := fun (w : Cond) (h : w ∈ tb) => hts w (List.mem_cons_of_mem _ h)
  have hown : s.vm.findClass RX13 = some m.cls := findClass_of_methodNamed B.named
  have hlocks := B.notSynchronized
  subst hsz
  have hD := hD0.self (sz := s.heap.size)
  generalize hAe : va_A (mW h0 ad cid sg gm lg) s.heap.size = A at hD ⊢
  have hA : ∀ q : Nat, s.heap.size ≤ q → A q := fun q h => by rw [← hAe]; exact Or.inr h
  have hS : va_S A s.heap s.heap [] := va_S.rf
  have hl := lv_entry ([.ref h0, .long nn]) (n := 3) (Nat.le_of_ble_eq_true rfl)
  rw [lg_entry_eq]
  generalize (lg_sl ([.ref h0, .long nn]) ++ List.replicate (3 - (lg_sl ([.ref h0, .long nn])).length) Slot.unset).toArray = ls at hl ⊢
  have hl : lv_has ls 3 [(0, .ref h0), (1, .long nn)] := hl
  have hj23 : ∀ (sg_j23 : Nat → Int32) (y0_23 : Int32) (_ : iv 0 1 y0_23) (_ : KS [51, 52] sg sg_j23) (_ : MI sg_j23 gm) (_ : 1 ≤ y0_23.toInt ∨ DOC sg gm lg) (_ : (y0_23.toInt = 1 ∧ (sg 40).toInt = 0) ∨ (y0_23.toInt = 0 ∧ ¬ (sg 40).toInt = 0)) (_ : (sg_j23 51).toInt = 0) (H : Heap) (locs : List Loc) (ls : Array Slot), va_P (dC, dI) vwCl (mW h0 ad cid sg_j23 gm lg) H → va_D A (mW h0 ad cid sg_j23 gm lg) → va_S A s.heap H locs → lv_has ls 3 [(0, .ref h0), (1, .long nn)] → W p l e (headSpec wm_X13_get ({ frames := 12, cells := 0, slots := 0, locals := 300 })).room s m ([.ref h0, .long nn] : List Value).toArray below meth c H locs 0 0 (MQ below (va_Qi (fun r v => ∃ (sg2 : Nat → Int32) (gm2 : Nat → Nat → Int32) (lg2 : Nat → Nat → Int64), v = (sg2, gm2, lg2) ∧ MI sg2 gm2 ∧ KS [5, 48, 49, 50, 51, 52, 63, 74] sg sg2 ∧ KS [53, 54, 55, 56, 57, 58, 59, 60, 61, 62, 64, 65, 66, 67, 68, 69, 70, 71, 72, 73, 75] gm gm2 ∧ KS [] lg lg2 ∧ (GI0 sg2 gm2 lg2) ∧ (MO sg2 gm2) ∧ (((sg 40).toInt = 0 ∧ (sg2 5).toInt = 1 ∧ RR wg wl S sg2 gm2) ∨ (¬ (sg 40).toInt = 0 ∧ ∃ S2, RR wg wl S2 sg2 gm2 ∧ WF9 S2 ∧ (((sg2 5).toInt = 0 ∧ zGt ws wg wl 81 (wz9 nn) S = (some r.toInt, S2)) ∨ ((sg2 5).toInt = 2 ∧ zGt ws wg wl 81 (wz9 nn) S = (none, S2)))))) (MB dC dI h0 ad cid A) A) ([.ref h0, .long nn] : List Value).toArray s 0 0 A) (F0 m 23 ls [.int y0_23, .ref h0]) := by
    intro sg_j23 y0_23 hy0_23 hks_j23 hI_j23 hd23 h23x h51j H locs ls hP hD hS hl
    refine ma_put (x := y0_23) hx hb htb inX13 hown hK hP hD hS 5 (by decide) (by decide) (htb _ kw_239) rfl rfl rfl dX13_get_23 (fun sg_1 H locs esg_1 hP hD hS => ?_)
    have hI_sg_1 := MI_put hI_j23 esg_1 hy0_23 (by decide)
    refine lv_aload_n hx hb dX13_get_26 rfl (lv_at hl 0 rfl) ?_
    refine mr_get (v := .int (sg_1 5)) hx hb htb inX13 hown hK hP 5 (by decide) (htb _ kw_239) rfl dX13_get_27 ?_
    refine lv_topi (fun z_2 ez_2 => ?_)
    obtain rfl : y0_23 = z_2 := (ez_2.trans (up_at esg_1)).symm
    refine lv_if_le (tgt := 35) hx hb dX13_get_30 (by decide) (fun c_3 => ?_) (fun c_3 => ?_)
    · have h_4 : iv 0 0 y0_23 := iv_leL c_3 hy0_23 (iv_k (by decide) : iv 0 0 0) (by decide)
      have hdc : ¬ (sg 40).toInt = 0 := (h23x.resolve_left (fun q => absurd q.1 (by have := i32_0; have := i32_1; have := i32_2; have := i32_m1; have := congrArg Int32.toInt (show sg_1 5 = y0_23 from up_at esg_1); have := (h_4).1; have := (h_4).2; omega))).2
      have hdoc := hdd.resolve_left hdc
      have hBR := hBRd.resolve_left hdc
      have hSB := hSBd.resolve_left hdc
      refine lv_aload_n hx hb dX13_get_35 rfl (lv_at hl 0 rfl) ?_
      refine lv_aload_n hx hb dX13_get_36 rfl (lv_at hl 0 rfl) ?_
      refine lv_aload_n hx hb dX13_get_37 rfl (lv_at hl 0 rfl) ?_
      refine lv_lload_n hx hb dX13_get_38 rfl (lv_at hl 1 rfl) ?_
      have hPc := hP.sub (ws' := []) [] rfl
      have hDc := hD.sub (ws' := []) [] (by decide) rfl
      have hKc := hK.sub (tys' := []) [] rfl
      have hFc := va_free (wc := []) hD hS hA [] rfl
      refine va_calll (va_runS (As := [.long nn]) (rest := [.ref h0, .ref h0, .ref h0]) ⟨hx, hb, hml, hown, htb⟩ (a_letters9 l dC dI H.size nn) (va_cwS 1 htb (gd_S kw_1277 kw_1278 kw_5 kw_1641) rfl rfl rfl (by decide +kernel) ⟨Nat.le_of_ble_eq_true rfl, Nat.le_of_ble_eq_true rfl⟩) ⟨fun a U g mk q => by obtain ⟨q0, q1, qP, qK, qD⟩ := q; exact ⟨q0, q1, qP, va_K.moved (u := U) (U := U.calling g mk a) (Vm.Alike.refl U.vm) qK, qD⟩, fun U hU hW => ⟨rfl, by rw [hU], by rw [hU]; exact hPc, va_K.moved hW.alike hKc, hDc.weaken (fun _ _ _ _ => trivial)⟩⟩ rfl rfl hl.1 rfl (lv_room (Nat.le_of_ble_eq_true rfl)) dX13_get_39 ⟨Nat.zero_le _, Nat.zero_le _⟩) hS (fun q _ h => hFc q h) hFc (fun r_5 u9 t H1 locs ht hvm hw hB hz1 hk1 hS => ?_)
      have hP := ms_kept hP hz1 hk1
      generalize H1 = H at hP hS ⊢
      have fz_r_5 := hw.2
      have hw := hw.1
      refine mr_calli (rest := [.ref h0, .ref h0]) ⟨hx, hb, hml, hown, htb⟩ (f_called9 l dC dI h0 ad cid sg_1 gm lg r_5 hI_sg_1) (cwV 1 htb (gd_V kw_1168 kw_1169 kw_1170 kw_5 kw_1606) rfl rfl rfl (by decide +kernel) ⟨Nat.le_of_ble_eq_true rfl, Nat.le_of_ble_eq_true rfl⟩) rfl hl.1 rfl (Nat.le_of_ble_eq_true rfl) dX13_get_42 ⟨Nat.zero_le _, Nat.zero_le _⟩ hK hP hD hS hA (fun r_6 u_7 H locs hw hP hD hS => ?_)
      obtain ⟨hr_6, fLt_r_6, fCd_r_6, rfl⟩ := hw
      have hP : va_P (dC, dI) vwCl (mW h0 ad cid sg_1 gm lg) H := hP
      have hD : va_D A (mW h0 ad cid sg_1 gm lg) := hD
      have hca : r_6.toInt = caN ws wg wl (wz9 nn) := (by have q9 := fCd_r_6; rw [fz_r_5] at q9; rw [q9, ← hBR.2.2 (wz9 nn)]; unfold cdR; rw [cdF_k (DK_of (show KS [5, 51, 52] sg sg_1 from (KS_up (KS_tr (L := [5, 51, 52]) KS_rf hks_j23 (by decide)) esg_1 (by decide))) (show KS [] gm gm from KS_rf) (show KS [] lg lg from KS_rf) (by decide) (by decide) (by decide)), cdF_k (DK_r (lg := lg) hRW hRS)])
      refine mr_calli (rest := [.ref h0]) ⟨hx, hb, hml, hown, htb⟩ (f_run9 l dC dI h0 ad cid sg_1 gm lg r_6 ws wg wl rs rg S hI_sg_1 hr_6 (DOC_of hdoc (show KS [5, 51, 52] sg sg_1 from (KS_up (KS_tr (L := [5, 51, 52]) KS_rf hks_j23 (by decide)) esg_1 (by decide))) (show KS [] gm gm from KS_rf) (show KS [] lg lg from KS_rf) (by decide) (by decide) (by decide) (by decide)) (GI0_of hgi (show KS [5, 51, 52] sg sg_1 from (KS_up (KS_tr (L := [5, 51, 52]) KS_rf hks_j23 (by decide)) esg_1 (by decide))) (show KS [] gm gm from KS_rf) (show KS [] lg lg from KS_rf) (by decide) (by decide) (by decide) (by decide) (by decide) (by decide)) hPR (MO_of hmo (show KS [5, 51, 52] sg sg_1 from (KS_up (KS_tr (L := [5, 51, 52]) KS_rf hks_j23 (by decide)) esg_1 (by decide))) (show KS [] gm gm from KS_rf) (by decide) (by decide)) fLt_r_6 hRW ((rs9_ks (L := [5, 51, 52]) (KS_up (KS_tr (L := [5, 51, 52]) KS_rf hks_j23 (by decide)) esg_1 (by decide)) rfl rfl).trans hRS) hBR hCL (RR_ks (L := [5, 51, 52]) (M := []) hRR (KS_up (KS_tr (L := [5, 51, 52]) KS_rf hks_j23 (by decide)) esg_1 (by decide)) KS_rf (by decide) (by decide)) hWD hST hST2 hSB hWF (by have := i32_0; have := i32_1; have := i32_2; have := i32_m1; have := congrArg Int32.toInt (show sg_1 51 = sg_j23 51 from up_ne esg_1 (by decide)); have := (show iv 0 8 (sg_j23 51) from MI_s hI_j23 51).1; have := (show iv 0 8 (sg_j23 51) from MI_s hI_j23 51).2; have := (show iv 0 8 (sg 51) from MI_s hI 51).1; have := (show iv 0 8 (sg 51) from MI_s hI 51).2; have := (h_4).1; have := (h_4).2; have := (hr_6).1; have := (hr_6).2; omega)) (cwV 1 htb (gd_V kw_1154 kw_1155 kw_1156 kw_5 kw_1602) rfl rfl rfl (by decide +kernel) ⟨Nat.le_of_ble_eq_true rfl, Nat.le_of_ble_eq_true rfl⟩) rfl hl.1 rfl (Nat.le_of_ble_eq_true rfl) dX13_get_45 ⟨Nat.zero_le _, Nat.zero_le _⟩ hK hP hD hS hA (fun r_8 u_9 H locs hw hP hD hS => ?_)
      obtain ⟨sgv_10, gmv_10, lgv_10, rfl, hIv_10, ksv_10, kgv_10, klv_10, hr_8, fGI_r_8, fMo_r_8, f9_r_8⟩ := hw
      obtain rfl := KS_nil klv_10
      have hP : va_P (dC, dI) vwCl (mW h0 ad cid sgv_10 gmv_10 lg) H := hP
      have hD : va_D A (mW h0 ad cid sgv_10 gmv_10 lg) := hD
      refine lv_if_eq (tgt := 55) hx hb dX13_get_48 (by decide) (fun c_11 => ?_) (fun c_11 => ?_)
      · have h_12 : iv 0 0 r_8 := iv_eq c_11 hr_8 (iv_k (by decide) : iv 0 0 0) (by decide)
        refine lv_iconst (v := 2) hx hb dX13_get_55 (by decide) ?_
        refine ma_put (x := 2) hx hb htb inX13 hown hK hP hD hS 5 (by decide) (by decide) (htb _ kw_239) rfl rfl rfl dX13_get_56 (fun sg_13 H locs esg_13 hP hD hS => ?_)
        have hI_sg_13 := MI_put hIv_10 esg_13 (iv_k (by decide) : iv 2 2 2) (by decide)
        refine lv_aload_n hx hb dX13_get_59 rfl (lv_at hl 0 rfl) ?_
        refine mr_get (v := .int (sg_13 5)) hx hb htb inX13 hown hK hP 5 (by decide) (htb _ kw_239) rfl dX13_get_60 ?_
        refine lv_topi (fun z_14 ez_14 => ?_)
        obtain rfl : 2 = z_14 := (ez_14.trans (up_at esg_13)).symm
        refine lv_if_le (tgt := 70) hx hb dX13_get_63 (by decide) (fun c_15 => absurd c_15 (by decide)) (fun _ => ?_)
        refine lv_iconst (v := 0) hx hb dX13_get_66 (by decide) ?_
        refine lv_goto (tgt := 74) hx hb dX13_get_67 (by decide) ?_
        exact W.iret (v := 0) hx hb hr (fun t ht hW => ⟨⟨0, (sg_13, gmv_10, lg), rfl, ⟨sg_13, gmv_10, lg, rfl, hI_sg_13, (KS_up (KS_tr (L := [5, 48, 49, 50, 51, 52, 63, 74]) (KS_up (KS_tr (L := [5, 48, 49, 50, 51, 52, 63, 74]) KS_rf hks_j23 (by decide)) esg_1 (by decide)) ksv_10 (by decide)) esg_13 (by decide)), (KS_tr (L := [53, 54, 55, 56, 57, 58, 59, 60, 61, 62, 64, 65, 66, 67, 68, 69, 70, 71, 72, 73, 75]) KS_rf kgv_10 (by decide)), KS_rf, ((GI0_of fGI_r_8 (show KS [5] sgv_10 sg_13 from (KS_up KS_rf esg_13 (by decide))) (show KS [] gmv_10 gmv_10 from KS_rf) (show KS [] lg lg from KS_rf) (by decide) (by decide) (by decide) (by decide) (by decide) (by decide))), ((MO_of fMo_r_8 (show KS [5] sgv_10 sg_13 from (KS_up KS_rf esg_13 (by decide))) (show KS [] gmv_10 gmv_10 from KS_rf) (by decide) (by decide))), ((by obtain ⟨S2, q1, q2, ⟨p1, p2⟩ | ⟨p1, p2⟩⟩ := RU_g (show iv 0 80 (ws 12) from (by have q5 := hBR.1; rw [rs9_41 hRS] at q5; have q6 := (show iv 0 80 (sg 41) from MI_s hI 41); exact ⟨by rw [← q5]; exact q6.1, by rw [← q5]; exact q6.2⟩)) hca f9_r_8; (exfalso; have := i32_0; have := i32_1; have := i32_2; have := i32_m1; have := (h_4).1; have := (h_4).2; have := (hr_6).1; have := (hr_6).2; have := (h_12).1; have := (h_12).2; have := p1; omega); (exact Or.inr ⟨hdc, S2, (RR_ks q1 (show KS [5] sgv_10 sg_13 from (KS_up KS_rf esg_13 (by decide))) (KS_rf (L := []) (f := gmv_10)) (by decide) (by decide)), q2, Or.inr ⟨(by have := i32_0; have := i32_1; have := i32_2; have := i32_m1; have : (sg_13 5).toInt = 2 := (by rw [up_at esg_13]; rfl); have := (h_4).1; have := (h_4).2; have := (hr_6).1; have := (hr_6).2; have := (h_12).1; have := (h_12).2; omega), p2⟩⟩)))⟩, by rw [ht]; exact hP, va_K.moved hW.alike hK, hD⟩, hS.F ht⟩) hS.2.2 dX13_get_74
      · have h_16 : iv 1 1 r_8 := iv_neL c_11 hr_8 (by decide)
        refine lv_iconst (v := 0) hx hb dX13_get_51 (by decide) ?_
        refine lv_goto (tgt := 56) hx hb dX13_get_52 (by decide) ?_
        refine ma_put (x := 0) hx hb htb inX13 hown hK hP hD hS 5 (by decide) (by decide) (htb _ kw_239) rfl rfl rfl dX13_get_56 (fun sg_17 H locs esg_17 hP hD hS => ?_)
        have hI_sg_17 := MI_put hIv_10 esg_17 (iv_k (by decide) : iv 0 0 0) (by decide)
        refine lv_aload_n hx hb dX13_get_59 rfl (lv_at hl 0 rfl) ?_
        refine mr_get (v := .int (sg_17 5)) hx hb htb inX13 hown hK hP 5 (by decide) (htb _ kw_239) rfl dX13_get_60 ?_
        refine lv_topi (fun z_18 ez_18 => ?_)
        obtain rfl : 0 = z_18 := (ez_18.trans (up_at esg_17)).symm
        refine lv_if_le (tgt := 70) hx hb dX13_get_63 (by decide) (fun _ => ?_) (fun c_19 => absurd (by decide) c_19)
        refine lv_aload_n hx hb dX13_get_70 rfl (lv_at hl 0 rfl) ?_
        refine mr_get (v := .int (sg_17 74)) hx hb htb inX13 hown hK hP 74 (by decide) (htb _ kw_1161) rfl dX13_get_71 ?_
        refine lv_topi (fun z_20 ez_20 => ?_)
        obtain rfl : (sgv_10 74) = z_20 := (ez_20.trans (up_ne esg_17 (by decide))).symm
        exact W.iret (v := (sgv_10 74)) hx hb hr (fun t ht hW => ⟨⟨(sgv_10 74), (sg_17, gmv_10, lg), rfl, ⟨sg_17, gmv_10, lg, rfl, hI_sg_17, (KS_up (KS_tr (L := [5, 48, 49, 50, 51, 52, 63, 74]) (KS_up (KS_tr (L := [5, 48, 49, 50, 51, 52, 63, 74]) KS_rf hks_j23 (by decide)) esg_1 (by decide)) ksv_10 (by decide)) esg_17 (by decide)), (KS_tr (L := [53, 54, 55, 56, 57, 58, 59, 60, 61, 62, 64, 65, 66, 67, 68, 69, 70, 71, 72, 73, 75]) KS_rf kgv_10 (by decide)), KS_rf, ((GI0_of fGI_r_8 (show KS [5] sgv_10 sg_17 from (KS_up KS_rf esg_17 (by decide))) (show KS [] gmv_10 gmv_10 from KS_rf) (show KS [] lg lg from KS_rf) (by decide) (by decide) (by decide) (by decide) (by decide) (by decide))), ((MO_of fMo_r_8 (show KS [5] sgv_10 sg_17 from (KS_up KS_rf esg_17 (by decide))) (show KS [] gmv_10 gmv_10 from KS_rf) (by decide) (by decide))), ((by obtain ⟨S2, q1, q2, ⟨p1, p2⟩ | ⟨p1, p2⟩⟩ := RU_g (show iv 0 80 (ws 12) from (by have q5 := hBR.1; rw [rs9_41 hRS] at q5; have q6 := (show iv 0 80 (sg 41) from MI_s hI 41); exact ⟨by rw [← q5]; exact q6.1, by rw [← q5]; exact q6.2⟩)) hca f9_r_8; (exact Or.inr ⟨hdc, S2, (RR_ks q1 (show KS [5] sgv_10 sg_17 from (KS_up KS_rf esg_17 (by decide))) (KS_rf (L := []) (f := gmv_10)) (by decide) (by decide)), q2, Or.inl ⟨(by have := i32_0; have := i32_1; have := i32_2; have := i32_m1; have : (sg_17 5).toInt = 0 := (by rw [up_at esg_17]; rfl); have := (h_4).1; have := (h_4).2; have := (hr_6).1; have := (hr_6).2; have := (h_16).1; have := (h_16).2; have := ((show iv (-1) 59 (sgv_10 74) from MI_s hIv_10 74)).1; have := ((show iv (-1) 59 (sgv_10 74) from MI_s hIv_10 74)).2; omega), p2⟩⟩); (exfalso; have := i32_0; have := i32_1; have := i32_2; have := i32_m1; have := (h_4).1; have := (h_4).2; have := (hr_6).1; have := (hr_6).2; have := (h_16).1; have := (h_16).2; have := ((show iv (-1) 59 (sgv_10 74) from MI_s hIv_10 74)).1; have := ((show iv (-1) 59 (sgv_10 74) from MI_s hIv_10 74)).2; have := p1; omega)))⟩, by rw [ht]; exact hP, va_K.moved hW.alike hK, hD⟩, hS.F ht⟩) hS.2.2 dX13_get_74
    · have h_21 : iv 1 1 y0_23 := iv_ltR (i32_lt c_3) (iv_k (by decide) : iv 0 0 0) hy0_23 (by decide)
      refine lv_iconst (v := 0) hx hb dX13_get_33 (by decide) ?_
      exact W.iret (v := 0) hx hb hr (fun t ht hW => ⟨⟨0, (sg_1, gm, lg), rfl, ⟨sg_1, gm, lg, rfl, hI_sg_1, (KS_up (KS_tr (L := [5, 48, 49, 50, 51, 52, 63, 74]) KS_rf hks_j23 (by decide)) esg_1 (by decide)), KS_rf, KS_rf, ((GI0_of hgi (show KS [5, 51, 52] sg sg_1 from (KS_up (KS_tr (L := [5, 51, 52]) KS_rf hks_j23 (by decide)) esg_1 (by decide))) (show KS [] gm gm from KS_rf) (show KS [] lg lg from KS_rf) (by decide) (by decide) (by decide) (by decide) (by decide) (by decide))), ((MO_of hmo (show KS [5, 51, 52] sg sg_1 from (KS_up (KS_tr (L := [5, 51, 52]) KS_rf hks_j23 (by decide)) esg_1 (by decide))) (show KS [] gm gm from KS_rf) (by decide) (by decide))), ((Or.inl ⟨(h23x.resolve_right (fun q => absurd q.1 (by have := i32_0; have := i32_1; have := i32_2; have := i32_m1; have := congrArg Int32.toInt (show sg_1 5 = y0_23 from up_at esg_1); have := (h_21).1; have := (h_21).2; omega))).2, (by have := i32_0; have := i32_1; have := i32_2; have := i32_m1; have := congrArg Int32.toInt (show sg_1 5 = y0_23 from up_at esg_1); have := (h_21).1; have := (h_21).2; have q77 := h23x; omega), (RR_ks (L := [5, 51, 52]) (M := []) hRR (KS_up (KS_tr (L := [5, 51, 52]) KS_rf hks_j23 (by decide)) esg_1 (by decide)) KS_rf (by decide) (by decide))⟩))⟩, by rw [ht]; exact hP, va_K.moved hW.alike hK, hD⟩, hS.F ht⟩) hS.2.2 dX13_get_34
  refine lv_aload_n hx hb dX13_get_0 rfl (lv_at hl 0 rfl) ?_
  refine lv_iconst (v := 0) hx hb dX13_get_1 (by decide) ?_
  refine ma_put (x := 0) hx hb htb inX13 hown hK hP hD hS 51 (by decide) (by decide) (htb _ kw_980) rfl rfl rfl dX13_get_2 (fun sg_22 H locs esg_22 hP hD hS => ?_)
  have hI_sg_22 := MI_put hI esg_22 (iv_k (by decide) : iv 0 0 0) (by decide)
  refine lv_aload_n hx hb dX13_get_5 rfl (lv_at hl 0 rfl) ?_
  refine lv_iconst (v := (-1)) hx hb dX13_get_6 (by decide) ?_
  refine ma_put (x := (-1)) hx hb htb inX13 hown hK hP hD hS 52 (by decide) (by decide) (htb _ kw_202) rfl rfl rfl dX13_get_7 (fun sg_23 H locs esg_23 hP hD hS => ?_)
  have hI_sg_23 := MI_put hI_sg_22 esg_23 (iv_k (by decide) : iv (-1) (-1) (-1)) (by decide)
  refine lv_aload_n hx hb dX13_get_10 rfl (lv_at hl 0 rfl) ?_
  refine lv_aload_n hx hb dX13_get_11 rfl (lv_at hl 0 rfl) ?_
  refine mr_get (v := .int (sg_23 40)) hx hb htb inX13 hown hK hP 40 (by decide) (htb _ kw_818) rfl dX13_get_12 ?_
  refine lv_topi (fun z_24 ez_24 => ?_)
  obtain rfl : (sg 40) = z_24 := (ez_24.trans (Eq.trans (up_ne esg_23 (by decide)) (up_ne esg_22 (by decide)))).symm
  refine lv_if_eq (tgt := 22) hx hb dX13_get_15 (by decide) (fun c_25 => ?_) (fun c_25 => ?_)
  · have h_26 : iv 0 0 (sg 40) := iv_eq c_25 (show iv 0 1 (sg 40) from MI_s hI 40) (iv_k (by decide) : iv 0 0 0) (by decide)
    refine lv_iconst (v := 1) hx hb dX13_get_22 (by decide) ?_
    exact hj23 sg_23 1 (iv_w (iv_k (by decide) : iv 1 1 1) (by decide)) (KS_up (KS_up KS_rf esg_22 (by decide)) esg_23 (by decide)) hI_sg_23 (Or.inl (by decide)) (Or.inl ⟨rfl, (by have := i32_0; have := i32_1; have := i32_2; have := i32_m1; have := congrArg Int32.toInt (show sg_23 40 = sg_22 40 from up_ne esg_23 (by decide)); have := congrArg Int32.toInt (show sg_22 40 = sg 40 from up_ne esg_22 (by decide)); have := (show iv 0 1 (sg 40) from MI_s hI 40).1; have := (show iv 0 1 (sg 40) from MI_s hI 40).2; have := (h_26).1; have := (h_26).2; omega)⟩) ((by have := i32_0; have := i32_1; have := i32_2; have := i32_m1; have := congrArg Int32.toInt (show sg_23 51 = sg_22 51 from up_ne esg_23 (by decide)); have : (sg_22 51).toInt = 0 := (by rw [up_at esg_22]; rfl); have := (h_26).1; have := (h_26).2; omega)) _ _ _ hP hD hS (lv_sub hl [0, 1] rfl)
  · have h_27 : iv 1 1 (sg 40) := iv_neL c_25 (show iv 0 1 (sg 40) from MI_s hI 40) (by decide)
    refine lv_iconst (v := 0) hx hb dX13_get_18 (by decide) ?_
    refine lv_goto (tgt := 23) hx hb dX13_get_19 (by decide) ?_
    exact hj23 sg_23 0 (iv_w (iv_k (by decide) : iv 0 0 0) (by decide)) (KS_up (KS_up KS_rf esg_22 (by decide)) esg_23 (by decide)) hI_sg_23 (Or.inr (hdd.resolve_left (by have := i32_0; have := i32_1; have := i32_2; have := i32_m1; have := congrArg Int32.toInt (show sg_23 40 = sg_22 40 from up_ne esg_23 (by decide)); have := congrArg Int32.toInt (show sg_22 40 = sg 40 from up_ne esg_22 (by decide)); have := (show iv 0 1 (sg 40) from MI_s hI 40).1; have := (show iv 0 1 (sg 40) from MI_s hI 40).2; have := (h_27).1; have := (h_27).2; omega))) (Or.inr ⟨rfl, (by have := i32_0; have := i32_1; have := i32_2; have := i32_m1; have := congrArg Int32.toInt (show sg_23 40 = sg_22 40 from up_ne esg_23 (by decide)); have := congrArg Int32.toInt (show sg_22 40 = sg 40 from up_ne esg_22 (by decide)); have := (show iv 0 1 (sg 40) from MI_s hI 40).1; have := (show iv 0 1 (sg 40) from MI_s hI 40).2; have := (h_27).1; have := (h_27).2; omega)⟩) ((by have := i32_0; have := i32_1; have := i32_2; have := i32_m1; have := congrArg Int32.toInt (show sg_23 51 = sg_22 51 from up_ne esg_23 (by decide)); have : (sg_22 51).toInt = 0 := (by rw [up_at esg_22]; rfl); have := (h_27).1; have := (h_27).2; omega)) _ _ _ hP hD hS (lv_sub hl [0, 1] rfl)

set_option maxHeartbeats 4000000 in
set_option maxRecDepth 100000 in
theorem f_close9 (l : Launch) (dC : Nat → ClassId) (dI : Nat → Nat → Nat) (h0 : Nat) (ad : Nat → Nat) (cid : Nat → ClassId) (sg : Nat → Int32) (gm : Nat → Nat → Int32) (lg : Nat → Nat → Int64) (ws : Nat → Int32) (wg : Nat → Nat → Int32) (wl : Nat → Nat → Int64) (rs : Nat → Int32) (rg : Nat → Nat → Int32) (S : S9) (hI : MI sg gm) (hgi : GI0 sg gm lg) (hPR : PR gm) (hmo : MO sg gm) (hdd : (sg 40).toInt = 0 ∨ DOC sg gm lg) (hRW : rt9 gm = rg) (hRS : rs9 sg = rs) (hBRd : (sg 40).toInt = 0 ∨ BRG ws wg wl rs rg lg) (hCL : CLS9 wg rg) (hRR : RR wg wl S sg gm) (hWD : WD9 lg) (hST : STY9 wg) (hST2 : ∀ c n, c < 8 → n < 26 → (wg 55 (26 * c + n)).toInt = -1 ∨ ty9 (wg 55 (26 * c + n)).toInt) (hSBd : (sg 40).toInt = 0 ∨ SB9 ws wg wl) (hWF : WF9 S) (hWZ : WZ9 wg wl S) (hNB : NB9 S) : MMi l dC dI yX13_close wm_X13_close ({ frames := 7, cells := 0, slots := 0, locals := 165 }) h0 ad cid [] sg gm lg (fun r v => ∃ (sg2 : Nat → Int32) (gm2 : Nat → Nat → Int32) (lg2 : Nat → Nat → Int64), v = (sg2, gm2, lg2) ∧ MI sg2 gm2 ∧ KS [5, 49, 50] sg sg2 ∧ KS [55, 56, 57, 58, 60, 61] gm gm2 ∧ KS [] lg lg2 ∧ (GI0 sg2 gm2 lg2) ∧ (MO sg2 gm2) ∧ (((sg 40).toInt = 0 ∧ RR wg wl S sg2 gm2 ∧ r.toInt = ((zE S).length : Int)) ∨ (¬ (sg 40).toInt = 0 ∧ RR wg wl (zCl wg S) sg2 gm2 ∧ r.toInt = ((zE (zCl wg S)).length : Int)))) := by
  intro sz
  refine Met.ofW (cc := cX13_close) (maxL := 1) (ret := (some .int)) (by decide) rfl ?_
  intro p e s m args below meth c s₁ B hml hv
  obtain ⟨rfl, hsz, hP, hK, hD0⟩ := hv
  have hx := B.exec
  have hb := B.bytes
  have hr := B.returns
  have hts := atoms_spec (ws := wm_X13_close) B.pre
  have htb := fun (w : Cond) (h : w ∈ tb) => hts w (List.mem_cons_of_mem _ h)
  have hown : s.vm.findClass RX13 = some m.cls := findClass_of_methodNamed B.named
  have hlocks := B.notSynchronized
  subst hsz
  have hD := hD0.self (sz := s.heap.size)
  generalize hAe : va_A (mW h0 ad cid sg gm lg) s.heap.size = A at hD ⊢
  have hA : ∀ q : Nat, s.heap.size ≤ q → A q := fun q h => by rw [← hAe]; exact Or.inr h
  have hS : va_S A s.heap s.heap [] := va_S.rf
  have hl := lv_entry ([.ref h0]) (n := 1) (Nat.le_of_ble_eq_true rfl)
  rw [lg_entry_eq]
  generalize (lg_sl ([.ref h0]) ++ List.replicate (1 - (lg_sl ([.ref h0])).length) Slot.unset).toArray = ls at hl ⊢
  have hl : lv_has ls 1 [(0, .ref h0)] := hl
  refine lv_aload_n hx hb dX13_close_0 rfl (lv_at hl 0 rfl) ?_
  refine lv_iconst (v := 0) hx hb dX13_close_1 (by decide) ?_
  refine ma_put (x := 0) hx hb htb inX13 hown hK hP hD hS 5 (by decide) (by decide) (htb _ kw_239) rfl rfl rfl dX13_close_2 (fun sg_1 H locs esg_1 hP hD hS => ?_)
  have hI_sg_1 := MI_put hI esg_1 (iv_k (by decide) : iv 0 0 0) (by decide)
  refine lv_aload_n hx hb dX13_close_5 rfl (lv_at hl 0 rfl) ?_
  refine mr_get (v := .int (sg_1 40)) hx hb htb inX13 hown hK hP 40 (by decide) (htb _ kw_818) rfl dX13_close_6 ?_
  refine lv_topi (fun z_2 ez_2 => ?_)
  obtain rfl : (sg 40) = z_2 := (ez_2.trans (up_ne esg_1 (by decide))).symm
  refine lv_if_eq (tgt := 16) hx hb dX13_close_9 (by decide) (fun c_3 => ?_) (fun c_3 => ?_)
  · have h_4 : iv 0 0 (sg 40) := iv_eq c_3 (show iv 0 1 (sg 40) from MI_s hI 40) (iv_k (by decide) : iv 0 0 0) (by decide)
    refine lv_aload_n hx hb dX13_close_16 rfl (lv_at hl 0 rfl) ?_
    refine mr_get (v := .int (sg_1 49)) hx hb htb inX13 hown hK hP 49 (by decide) (htb _ kw_823) rfl dX13_close_17 ?_
    refine lv_topi (fun z_5 ez_5 => ?_)
    obtain rfl : (sg 49) = z_5 := (ez_5.trans (up_ne esg_1 (by decide))).symm
    exact W.iret (v := (sg 49)) hx hb hr (fun t ht hW => ⟨⟨(sg 49), (sg_1, gm, lg), rfl, ⟨sg_1, gm, lg, rfl, hI_sg_1, (KS_up KS_rf esg_1 (by decide)), KS_rf, KS_rf, ((GI0_of hgi (show KS [5] sg sg_1 from (KS_up KS_rf esg_1 (by decide))) (show KS [] gm gm from KS_rf) (show KS [] lg lg from KS_rf) (by decide) (by decide) (by decide) (by decide) (by decide) (by decide))), ((MO_of hmo (show KS [5] sg sg_1 from (KS_up KS_rf esg_1 (by decide))) (show KS [] gm gm from KS_rf) (by decide) (by decide))), ((Or.inl ⟨(by have := i32_0; have := i32_1; have := i32_2; have := i32_m1; have := congrArg Int32.toInt (show sg_1 40 = sg 40 from up_ne esg_1 (by decide)); have := (show iv 0 1 (sg 40) from MI_s hI 40).1; have := (show iv 0 1 (sg 40) from MI_s hI 40).2; have := (h_4).1; have := (h_4).2; have := ((show iv 0 400 (sg 49) from MI_s hI 49)).1; have := ((show iv 0 400 (sg 49) from MI_s hI 49)).2; omega), (RR_ks (L := [5]) (M := []) hRR (KS_up KS_rf esg_1 (by decide)) KS_rf (by decide) (by decide)), (by have q5 := hRR.2.1.1; have := i32_0; have := i32_1; have := i32_2; have := i32_m1; have := congrArg Int32.toInt (show sg_1 49 = sg 49 from up_ne esg_1 (by decide)); have := (show iv 0 400 (sg 49) from MI_s hI 49).1; have := (show iv 0 400 (sg 49) from MI_s hI 49).2; have := (h_4).1; have := (h_4).2; have := ((show iv 0 400 (sg 49) from MI_s hI 49)).1; have := ((show iv 0 400 (sg 49) from MI_s hI 49)).2; omega)⟩))⟩, by rw [ht]; exact hP, va_K.moved hW.alike hK, hD⟩, hS.F ht⟩) hS.2.2 dX13_close_20
  · have h_6 : iv 1 1 (sg 40) := iv_neL c_3 (show iv 0 1 (sg 40) from MI_s hI 40) (by decide)
    refine lv_aload_n hx hb dX13_close_12 rfl (lv_at hl 0 rfl) ?_
    have hdc : ¬ (sg 40).toInt = 0 := (by have := i32_0; have := i32_1; have := i32_2; have := i32_m1; have := congrArg Int32.toInt (show sg_1 40 = sg 40 from up_ne esg_1 (by decide)); have := (show iv 0 1 (sg 40) from MI_s hI 40).1; have := (show iv 0 1 (sg 40) from MI_s hI 40).2; have := (h_6).1; have := (h_6).2; omega)
    have hdoc := hdd.resolve_left hdc
    have hBR := hBRd.resolve_left hdc
    refine mr_callv (rest := []) ⟨hx, hb, hml, hown, htb⟩ (f_shut9 l dC dI h0 ad cid sg_1 gm lg ws wg wl rs rg S hI_sg_1 (DOC_of hdoc (show KS [5] sg sg_1 from (KS_up KS_rf esg_1 (by decide))) (show KS [] gm gm from KS_rf) (show KS [] lg lg from KS_rf) (by decide) (by decide) (by decide) (by decide)) (GI0_of hgi (show KS [5] sg sg_1 from (KS_up KS_rf esg_1 (by decide))) (show KS [] gm gm from KS_rf) (show KS [] lg lg from KS_rf) (by decide) (by decide) (by decide) (by decide) (by decide) (by decide)) (MO_of hmo (show KS [5] sg sg_1 from (KS_up KS_rf esg_1 (by decide))) (show KS [] gm gm from KS_rf) (by decide) (by decide)) hRW ((rs9_ks (L := [5]) (KS_up KS_rf esg_1 (by decide)) rfl rfl).trans hRS) hBR (RR_ks (L := [5]) (M := []) hRR (KS_up KS_rf esg_1 (by decide)) KS_rf (by decide) (by decide)) hWZ) (cwV 0 htb (gd_V kw_1260 kw_1261 kw_1262 kw_5 kw_1635) rfl rfl rfl (by decide +kernel) ⟨Nat.le_of_ble_eq_true rfl, Nat.le_of_ble_eq_true rfl⟩) rfl hl.1 rfl (Nat.le_of_ble_eq_true rfl) dX13_close_13 ⟨Nat.zero_le _, Nat.zero_le _⟩ hK hP hD hS hA (fun u_8 H locs hw hP hD hS => ?_)
    obtain ⟨sgv_9, gmv_9, lgv_9, rfl, hIv_9, ksv_9, kgv_9, klv_9, fGI_r_7, fMo_r_7, fR9_r_7⟩ := hw
    obtain rfl := KS_nil klv_9
    have hP : va_P (dC, dI) vwCl (mW h0 ad cid sgv_9 gmv_9 lg) H := hP
    have hD : va_D A (mW h0 ad cid sgv_9 gmv_9 lg) := hD
    refine lv_aload_n hx hb dX13_close_16 rfl (lv_at hl 0 rfl) ?_
    refine mr_get (v := .int (sgv_9 49)) hx hb htb inX13 hown hK hP 49 (by decide) (htb _ kw_823) rfl dX13_close_17 ?_
    exact W.iret (v := (sgv_9 49)) hx hb hr (fun t ht hW => ⟨⟨(sgv_9 49), (sgv_9, gmv_9, lg), rfl, ⟨sgv_9, gmv_9, lg, rfl, hIv_9, (KS_tr (L := [5, 49, 50]) (KS_up KS_rf esg_1 (by decide)) ksv_9 (by decide)), (KS_tr (L := [55, 56, 57, 58, 60, 61]) KS_rf kgv_9 (by decide)), KS_rf, (fGI_r_7), (fMo_r_7), ((Or.inr ⟨hdc, fR9_r_7, (by have q5 := fR9_r_7.2.1.1; have := i32_0; have := i32_1; have := i32_2; have := i32_m1; have := (show iv 0 400 (sgv_9 49) from MI_s hIv_9 49).1; have := (show iv 0 400 (sgv_9 49) from MI_s hIv_9 49).2; have := congrArg Int32.toInt (show sg_1 49 = sg 49 from up_ne esg_1 (by decide)); have := (show iv 0 400 (sg 49) from MI_s hI 49).1; have := (show iv 0 400 (sg 49) from MI_s hI 49).2; have := (h_6).1; have := (h_6).2; have := ((show iv 0 400 (sgv_9 49) from MI_s hIv_9 49)).1; have := ((show iv 0 400 (sgv_9 49) from MI_s hIv_9 49)).2; omega)⟩))⟩, by rw [ht]; exact hP, va_K.moved hW.alike hK, hD⟩, hS.F ht⟩) hS.2.2 dX13_close_20
end
