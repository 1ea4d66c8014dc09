section
theorem RE_ev {S : S9} {sg sg2 : Nat → Int32} {gm gm2 : Nat → Nat → Int32} {a b c d : Int32} {i0 i1 i2 i3 : Nat} (he : RRe S sg gm) (hlt : (sg 49).toInt < 400) (h13 : (sg2 49).toInt = (sg 49).toInt + 1) (h5 : gm2 55 = upd (gm 55) i0 a) (h6 : gm2 56 = upd (gm 56) i1 b) (h7 : gm2 57 = upd (gm 57) i2 c) (h8 : gm2 58 = upd (gm 58) i3 d) (e0 : (i0 : Int) = (sg 49).toInt) (e1 : i1 = i0) (e2 : i2 = i0) (e3 : i3 = i0) : RRe (zAdd S (a.toInt, b.toInt, c.toInt, d.toInt)) sg2 gm2 := by
  have h1 := he.1
  have hz : zAdd S (a.toInt, b.toInt, c.toInt, d.toInt) = (zO S, zE S ++ [(a.toInt, b.toInt, c.toInt, d.toInt)], zS S, zW S, zF S) := by unfold zAdd; rw [if_neg (by omega)]
  rw [hz]
  subst e1; subst e2; subst e3
  refine ⟨by rw [h13, h1]; show _ = ((zE S ++ [_]).length : Int); rw [List.length_append]; rfl, ?_⟩
  intro k e hk
  have hk : (zE S ++ [(a.toInt, b.toInt, c.toInt, d.toInt)])[k]? = some e := hk
  rw [h5, h6, h7, h8]
  rcases ga9 hk with ⟨hl, hk⟩ | ⟨hl, hk⟩
  · rw [upd_ne (by omega), upd_ne (by omega), upd_ne (by omega), upd_ne (by omega)]
    exact he.2 k e hk
  · subst hk
    have e9 : k = i3 := by omega
    subst e9
    rw [upd_at, upd_at, upd_at, upd_at]
    exact ⟨rfl, rfl, rfl, rfl⟩
theorem RE_full {S : S9} {sg : Nat → Int32} {gm : Nat → Nat → Int32} {e : Ev9} (h : RRe S sg gm) (hf : 400 ≤ (sg 49).toInt) : RRe (zAdd S e) sg gm := by
  have h1 := h.1
  have : zAdd S e = S := by unfold zAdd; rw [if_pos (by omega)]
  rw [this]; exact h
theorem BR_33 {ws : Nat → Int32} {wg : Nat → Nat → Int32} {wl : Nat → Nat → Int64} {rs sg : Nat → Int32} {rg gm : Nat → Nat → Int32} {lg : Nat → Nat → Int64} {b : Int32} (h : BRG ws wg wl rs rg lg) (hRW : rt9 gm = rg) (hRS : rs9 sg = rs) (hv : iv 0 79 b) (hb : b.toInt < (sg 41).toInt) : (ltR sg gm lg b 28259044220366713).toInt = (wg 33 b.toNatClampNeg).toInt := by
  have q := (h.2.1 _ (BR_lt hRS hv hb)).1.2.2.2.2.2.2.2.2.2.2.2.1
  rw [nI_c hv, ltR_k (DK_r hRW hRS)] at q
  exact q
theorem RRo_k {S S2 : S9} {sg sg2 : Nat → Int32} {gm gm2 : Nat → Nat → Int32} (h : RRo S sg gm) (e : zO S2 = zO S) (e48 : sg2 48 = sg 48) (e53 : gm2 53 = gm 53) (e54 : gm2 54 = gm 54) : RRo S2 sg2 gm2 := by unfold RRo; rw [e, e48, e53, e54]; exact h
theorem RRe_k {S : S9} {sg sg2 : Nat → Int32} {gm gm2 : Nat → Nat → Int32} (h : RRe S sg gm) (e49 : sg2 49 = sg 49) (e5 : gm2 55 = gm 55) (e6 : gm2 56 = gm 56) (e7 : gm2 57 = gm 57) (e8 : gm2 58 = gm 58) : RRe S sg2 gm2 := by unfold RRe; rw [e49, e5, e6, e7, e8]; exact h
set_option maxHeartbeats 4000000 in
set_option maxRecDepth 100000 in
theorem f_happensE (l : Launch) (dC : Nat → ClassId) (dI : Nat → Nat → Nat) (h0 : Nat) (ad : Nat → Nat) (cid : Nat → ClassId) (sg : Nat → Int32) (gm : Nat → Nat → Int32) (lg : Nat → Nat → Int64) (a : Int32) (b : Int32) (f : Int32) (g : Int32) (S : S9) (hI : MI sg gm) (hRE : RRe S sg gm) : MMv l dC dI yX13_happens wm_X13_happens ({ frames := 0, cells := 0, slots := 0, locals := 0 }) h0 ad cid [.int a, .int b, .int f, .int g] sg gm lg (fun v => ∃ (sg2 : Nat → Int32) (gm2 : Nat → Nat → Int32) (lg2 : Nat → Nat → Int64), v = (sg2, gm2, lg2) ∧ MI sg2 gm2 ∧ KS [49] sg sg2 ∧ KS [55, 56, 57, 58] gm gm2 ∧ KS [] lg lg2 ∧ (RRe (zAdd S (a.toInt, b.toInt, f.toInt, g.toInt)) sg2 gm2)) := by
  intro sz
  refine Met.ofW (cc := cX13_happens) (maxL := 5) (ret := none) (by decide) rfl ?_
  intro p e s m args below meth c s₁ B hml hv
  obtain ⟨rfl, hsz, hP, hK, hD0⟩ := hv
  have hx := B.exec
  have hb := B.bytes
  have hr := B.returns
  have hts := atoms_spec (ws := wm_X13_happens) B.pre
  have htb := fun (w : Cond) (h : w ∈ tb) => hts w (List.mem_cons_of_mem _ h)
  have hown : s.vm.findClass RX13 = some m.cls := findClass_of_methodNamed B.named
  have hlocks := B.notSynchronized
  subst hsz
  have hD := hD0.self (sz := s.heap.size)
  generalize hAe : va_A (mW h0 ad cid sg gm lg) s.heap.size = A at hD ⊢
  have hA : ∀ q : Nat, s.heap.size ≤ q → A q := fun q h => by rw [← hAe]; exact Or.inr h
  have hS : va_S A s.heap s.heap [] := va_S.rf
  have hl := lv_entry ([.ref h0, .int a, .int b, .int f, .int g]) (n := 5) (Nat.le_of_ble_eq_true rfl)
  rw [lg_entry_eq]
  generalize (lg_sl ([.ref h0, .int a, .int b, .int f, .int g]) ++ List.replicate (5 - (lg_sl ([.ref h0, .int a, .int b, .int f, .int g])).length) Slot.unset).toArray = ls at hl ⊢
  have hl : lv_has ls 5 [(0, .ref h0), (1, .int a), (2, .int b), (3, .int f), (4, .int g)] := hl
  refine lv_aload_n hx hb dX13_happens_0 rfl (lv_at hl 0 rfl) ?_
  refine mr_get (v := .int (sg 49)) hx hb htb inX13 hown hK hP 49 (by decide) (htb _ kw_1076) rfl dX13_happens_1 ?_
  refine lv_sipush (v := 400) hx hb dX13_happens_4 (by decide) ?_
  refine lv_icmp_ne (tgt := 11) hx hb dX13_happens_7 (by decide) (fun c_1 => ?_) (fun c_1 => ?_)
  · have h_2 : iv 0 399 (sg 49) := iv_neH c_1 (show iv 0 400 (sg 49) from MI_s hI 49) (by decide)
    refine lv_aload_n hx hb dX13_happens_11 rfl (lv_at hl 0 rfl) ?_
    refine mr_get (v := .ref (ad 55)) hx hb htb inX13 hown hK hP 55 (by decide) (htb _ kw_1082) rfl dX13_happens_12 ?_
    refine lv_aload_n hx hb dX13_happens_15 rfl (lv_at hl 0 rfl) ?_
    refine mr_get (v := .int (sg 49)) hx hb htb inX13 hown hK hP 49 (by decide) (htb _ kw_1076) rfl dX13_happens_16 ?_
    refine lv_iload_n hx hb dX13_happens_19 rfl (lv_at hl 1 rfl) ?_
    refine ma_iast (x := a) hx hb hK hP hD hS 41 (k := 55) rfl rfl rfl (show vp_in (sg 49) 400 from (iv_in h_2 (by decide))) dX13_happens_20 (fun gm_3 H locs egm_3 hP hD hS => ?_)
    have hI_gm_3 := MI_st hI egm_3 (iv_all a) (by decide)
    refine lv_aload_n hx hb dX13_happens_21 rfl (lv_at hl 0 rfl) ?_
    refine mr_get (v := .ref (ad 56)) hx hb htb inX13 hown hK hP 56 (by decide) (htb _ kw_1083) rfl dX13_happens_22 ?_
    refine lv_aload_n hx hb dX13_happens_25 rfl (lv_at hl 0 rfl) ?_
    refine mr_get (v := .int (sg 49)) hx hb htb inX13 hown hK hP 49 (by decide) (htb _ kw_1076) rfl dX13_happens_26 ?_
    refine lv_iload_n hx hb dX13_happens_29 rfl (lv_at hl 2 rfl) ?_
    refine ma_iast (x := b) hx hb hK hP hD hS 42 (k := 56) rfl rfl rfl (show vp_in (sg 49) 400 from (iv_in h_2 (by decide))) dX13_happens_30 (fun gm_4 H locs egm_4 hP hD hS => ?_)
    have hI_gm_4 := MI_st hI_gm_3 egm_4 (iv_all b) (by decide)
    refine lv_aload_n hx hb dX13_happens_31 rfl (lv_at hl 0 rfl) ?_
    refine mr_get (v := .ref (ad 57)) hx hb htb inX13 hown hK hP 57 (by decide) (htb _ kw_1084) rfl dX13_happens_32 ?_
    refine lv_aload_n hx hb dX13_happens_35 rfl (lv_at hl 0 rfl) ?_
    refine mr_get (v := .int (sg 49)) hx hb htb inX13 hown hK hP 49 (by decide) (htb _ kw_1076) rfl dX13_happens_36 ?_
    refine lv_iload_n hx hb dX13_happens_39 rfl (lv_at hl 3 rfl) ?_
    refine ma_iast (x := f) hx hb hK hP hD hS 43 (k := 57) rfl rfl rfl (show vp_in (sg 49) 400 from (iv_in h_2 (by decide))) dX13_happens_40 (fun gm_5 H locs egm_5 hP hD hS => ?_)
    have hI_gm_5 := MI_st hI_gm_4 egm_5 (iv_all f) (by decide)
    refine lv_aload_n hx hb dX13_happens_41 rfl (lv_at hl 0 rfl) ?_
    refine mr_get (v := .ref (ad 58)) hx hb htb inX13 hown hK hP 58 (by decide) (htb _ kw_1085) rfl dX13_happens_42 ?_
    refine lv_aload_n hx hb dX13_happens_45 rfl (lv_at hl 0 rfl) ?_
    refine mr_get (v := .int (sg 49)) hx hb htb inX13 hown hK hP 49 (by decide) (htb _ kw_1076) rfl dX13_happens_46 ?_
    refine lv_iload hx hb dX13_happens_49 (lv_at hl 4 rfl) ?_
    refine ma_iast (x := g) hx hb hK hP hD hS 44 (k := 58) rfl rfl rfl (show vp_in (sg 49) 400 from (iv_in h_2 (by decide))) dX13_happens_51 (fun gm_6 H locs egm_6 hP hD hS => ?_)
    have hI_gm_6 := MI_st hI_gm_5 egm_6 (iv_all g) (by decide)
    refine lv_aload_n hx hb dX13_happens_52 rfl (lv_at hl 0 rfl) ?_
    refine lv_dup hx hb dX13_happens_53 rfl ?_
    refine mr_get (v := .int (sg 49)) hx hb htb inX13 hown hK hP 49 (by decide) (htb _ kw_1076) rfl dX13_happens_54 ?_
    refine lv_iconst (v := 1) hx hb dX13_happens_57 (by decide) ?_
    refine lv_iadd hx hb dX13_happens_58 ?_
    refine lv_topi (fun z_7 ez_7 => ?_)
    have hz_7 : iv 1 400 z_7 := iv_of ez_7 (iv_add h_2 (iv_k (by decide) : iv 1 1 1) (by decide))
    have tz_7 : z_7.toInt = ((sg 49) : Int32).toInt + 1 := by rw [ez_7]; exact iv_addE h_2 (iv_k (by decide) : iv 1 1 1) (by decide)
    refine ma_put (x := z_7) hx hb htb inX13 hown hK hP hD hS 49 (by decide) (by decide) (htb _ kw_1076) rfl rfl rfl dX13_happens_59 (fun sg_8 H locs esg_8 hP hD hS => ?_)
    have hI_sg_8 := MI_put hI_gm_6 esg_8 hz_7 (by decide)
    exact W.vret hx hb hr (fun t ht hW => ⟨⟨(sg_8, gm_6, lg), rfl, ⟨sg_8, gm_6, lg, rfl, hI_sg_8, (KS_up KS_rf esg_8 (by decide)), (KS_up (KS_up (KS_up (KS_up KS_rf egm_3 (by decide)) egm_4 (by decide)) egm_5 (by decide)) egm_6 (by decide)), KS_rf, (RE_ev hRE (by have := i32_0; have := i32_1; have := i32_2; have := i32_m1; have := congrArg Int32.toInt (show sg_8 49 = z_7 from up_at esg_8); have := (hz_7).1; have := (hz_7).2; have := (h_2).1; have := (h_2).2; omega) (by have := i32_0; have := i32_1; have := i32_2; have := i32_m1; have := congrArg Int32.toInt (show sg_8 49 = z_7 from up_at esg_8); have := (hz_7).1; have := (hz_7).2; have := (h_2).1; have := (h_2).2; omega) (show gm_6 55 = upd (gm 55) ((sg 49) : Int32).toNatClampNeg a from ((up_ne egm_6 (by decide)).trans ((up_ne egm_5 (by decide)).trans ((up_ne egm_4 (by decide)).trans ((up_at egm_3).trans (by rw [show gm 55 = gm 55 from rfl])))))) (show gm_6 56 = upd (gm 56) ((sg 49) : Int32).toNatClampNeg b from ((up_ne egm_6 (by decide)).trans ((up_ne egm_5 (by decide)).trans ((up_at egm_4).trans (by rw [show gm_3 56 = gm 56 from ((up_ne egm_3 (by decide)).trans rfl)]))))) (show gm_6 57 = upd (gm 57) ((sg 49) : Int32).toNatClampNeg f from ((up_ne egm_6 (by decide)).trans ((up_at egm_5).trans (by rw [show gm_4 57 = gm 57 from ((up_ne egm_4 (by decide)).trans ((up_ne egm_3 (by decide)).trans rfl))])))) (show gm_6 58 = upd (gm 58) ((sg 49) : Int32).toNatClampNeg g from ((up_at egm_6).trans (by rw [show gm_5 58 = gm 58 from ((up_ne egm_5 (by decide)).trans ((up_ne egm_4 (by decide)).trans ((up_ne egm_3 (by decide)).trans rfl)))]))) (cln9 (show iv 0 400 (sg 49) from MI_s hI 49).1) rfl rfl rfl)⟩, by rw [ht]; exact hP, va_K.moved hW.alike hK, hD⟩, hS.F ht⟩) hS.2.2 dX13_happens_62
  · have h_9 : iv 400 400 (sg 49) := iv_eq c_1 (show iv 0 400 (sg 49) from MI_s hI 49) (iv_k (by decide) : iv 400 400 400) (by decide)
    exact W.vret hx hb hr (fun t ht hW => ⟨⟨(sg, gm, lg), rfl, ⟨sg, gm, lg, rfl, hI, KS_rf, KS_rf, KS_rf, (RE_full hRE (by have := i32_0; have := i32_1; have := i32_2; have := i32_m1; have := (show iv 0 400 (sg 49) from MI_s hI 49).1; have := (show iv 0 400 (sg 49) from MI_s hI 49).2; have := (h_9).1; have := (h_9).2; omega))⟩, by rw [ht]; exact hP, va_K.moved hW.alike hK, hD⟩, hS.F ht⟩) hS.2.2 dX13_happens_10

set_option maxHeartbeats 4000000 in
set_option maxRecDepth 100000 in
theorem f_shut9 (l : Launch) (dC : Nat → ClassId) (dI : Nat → Nat → Nat) (h0 : Nat) (ad : Nat → Nat) (cid : Nat → ClassId) (sg : Nat → Int32) (gm : Nat → Nat → Int32) (lg : Nat → Nat → Int64) (ws : Nat → Int32) (wg : Nat → Nat → Int32) (wl : Nat → Nat → Int64) (rs : Nat → Int32) (rg : Nat → Nat → Int32) (S : S9) (hI : MI sg gm) (hdoc : DOC sg gm lg) (hgi : GI0 sg gm lg) (hmo : MO sg gm) (hRW : rt9 gm = rg) (hRS : rs9 sg = rs) (hBR : BRG ws wg wl rs rg lg) (hRR : RR wg wl S sg gm) (hWZ : WZ9 wg wl S) : MMv l dC dI yX13_shut wm_X13_shut ({ frames := 6, cells := 0, slots := 0, locals := 143 }) h0 ad cid [] sg gm lg (fun v => ∃ (sg2 : Nat → Int32) (gm2 : Nat → Nat → Int32) (lg2 : Nat → Nat → Int64), v = (sg2, gm2, lg2) ∧ MI sg2 gm2 ∧ KS [49, 50] sg sg2 ∧ KS [55, 56, 57, 58, 60, 61] gm gm2 ∧ KS [] lg lg2 ∧ (GI0 sg2 gm2 lg2) ∧ (MO sg2 gm2) ∧ (RR wg wl (zCl wg S) sg2 gm2)) := by
  intro sz
  refine Met.ofW (cc := cX13_shut) (maxL := 3) (ret := none) (by decide) rfl ?_
  intro p e s m args below meth c s₁ B hml hv
  obtain ⟨rfl, hsz, hP, hK, hD0⟩ := hv
  have hx := B.exec
  have hb := B.bytes
  have hr := B.returns
  have hts := atoms_spec (ws := wm_X13_shut) B.pre
  have htb := fun (w : Cond) (h : w ∈ tb) => hts w (List.mem_cons_of_mem _ h)
  have hown : s.vm.findClass RX13 = some m.cls := findClass_of_methodNamed B.named
  have hlocks := B.notSynchronized
  subst hsz
  have hD := hD0.self (sz := s.heap.size)
  generalize hAe : va_A (mW h0 ad cid sg gm lg) s.heap.size = A at hD ⊢
  have hA : ∀ q : Nat, s.heap.size ≤ q → A q := fun q h => by rw [← hAe]; exact Or.inr h
  have hS : va_S A s.heap s.heap [] := va_S.rf
  have hl := lv_entry ([.ref h0]) (n := 3) (Nat.le_of_ble_eq_true rfl)
  rw [lg_entry_eq]
  generalize (lg_sl ([.ref h0]) ++ List.replicate (3 - (lg_sl ([.ref h0])).length) Slot.unset).toArray = ls at hl ⊢
  have hl : lv_has ls 3 [(0, .ref h0)] := hl
  have hj7 : ∀ (n : Nat) (sg_j7 : Nat → Int32) (gm_j7 : Nat → Nat → Int32) (x1_7 : Int32) (_ : (x1_7.toInt - (-1)).toNat = n) (_ : iv (-1) 79 x1_7) (_ : KS [49] sg sg_j7) (_ : KS [55, 56, 57, 58, 60, 61] gm gm_j7) (_ : MI sg_j7 gm_j7) (_ : VB gm_j7 lg) (_ : x1_7.toInt < (sg 50).toInt) (_ : ∃ S2, DSR wg S (x1_7.toInt + 1).toNat S2 ∧ RRo S2 sg_j7 gm_j7 ∧ RRe S2 sg_j7 gm_j7 ∧ SHB wg wl S (sg 41).toNatClampNeg (x1_7.toInt + 1).toNat gm_j7) (H : Heap) (locs : List Loc) (ls : Array Slot), va_P (dC, dI) vwCl (mW h0 ad cid sg_j7 gm_j7 lg) H → va_D A (mW h0 ad cid sg_j7 gm_j7 lg) → va_S A s.heap H locs → lv_has ls 3 [(1, .int x1_7), (0, .ref h0)] → W p l e (headSpec wm_X13_shut ({ frames := 6, cells := 0, slots := 0, locals := 143 })).room s m ([.ref h0] : List Value).toArray below meth c H locs 0 0 (MQ below (va_Qv (fun v => ∃ (sg2 : Nat → Int32) (gm2 : Nat → Nat → Int32) (lg2 : Nat → Nat → Int64), v = (sg2, gm2, lg2) ∧ MI sg2 gm2 ∧ KS [49, 50] sg sg2 ∧ KS [55, 56, 57, 58, 60, 61] gm gm2 ∧ KS [] lg lg2 ∧ (GI0 sg2 gm2 lg2) ∧ (MO sg2 gm2) ∧ (RR wg wl (zCl wg S) sg2 gm2)) (MB dC dI h0 ad cid A) A) ([.ref h0] : List Value).toArray s 0 0 A) (F0 m 7 ls []) := by
    intro n
    induction n using Nat.strongRecOn with
    | ind n ih7 =>
      intro sg_j7 gm_j7 x1_7 hn7 hx1_7 hks_j7 hkg_j7 hI_j7 hvb hlm hSH H locs ls hP hD hS hl
      refine lv_iload_n hx hb dX13_shut_7 rfl (lv_at hl 0 rfl) ?_
      refine lv_if_lt (tgt := 71) hx hb dX13_shut_8 (by decide) (fun c_1 => ?_) (fun c_1 => ?_)
      · have h_2 : iv (-1) (-1) x1_7 := iv_ltL c_1 hx1_7 (iv_k (by decide) : iv 0 0 0) (by decide)
        refine lv_aload_n hx hb dX13_shut_71 rfl (lv_at hl 1 rfl) ?_
        refine lv_iconst (v := 0) hx hb dX13_shut_72 (by decide) ?_
        refine ma_put (x := 0) hx hb htb inX13 hown hK hP hD hS 50 (by decide) (by decide) (htb _ kw_1077) rfl rfl rfl dX13_shut_73 (fun sg_3 H locs esg_3 hP hD hS => ?_)
        have hI_sg_3 := MI_put hI_j7 esg_3 (iv_k (by decide) : iv 0 0 0) (by decide)
        exact W.vret hx hb hr (fun t ht hW => ⟨⟨(sg_3, gm_j7, lg), rfl, ⟨sg_3, gm_j7, lg, rfl, hI_sg_3, (KS_up (KS_tr (L := [49, 50]) KS_rf hks_j7 (by decide)) esg_3 (by decide)), (KS_tr (L := [55, 56, 57, 58, 60, 61]) KS_rf hkg_j7 (by decide)), KS_rf, (GI0_vb (VB_of hvb (show KS [50] sg_j7 sg_3 from (KS_up KS_rf esg_3 (by decide))) (show KS [] gm_j7 gm_j7 from KS_rf) (show KS [] lg lg from KS_rf) (by decide) (by decide) (by decide) (by decide) (by decide)) (by have := i32_0; have := i32_1; have := i32_2; have := i32_m1; have : (sg_3 50).toInt = 0 := (by rw [up_at esg_3]; rfl); have := congrArg Int32.toInt (show sg_j7 50 = sg 50 from hks_j7 50 (by decide)); have := (h_2).1; have := (h_2).2; omega)), (MO_0 (by have := i32_0; have := i32_1; have := i32_2; have := i32_m1; have : (sg_3 50).toInt = 0 := (by rw [up_at esg_3]; rfl); have := congrArg Int32.toInt (show sg_j7 50 = sg 50 from hks_j7 50 (by decide)); have := (h_2).1; have := (h_2).2; omega)), ((by obtain ⟨S2, q1, q2, q3, q4⟩ := hSH; rw [show (x1_7.toInt + 1).toNat = 0 from (by have := i32_0; have := i32_1; have := i32_2; have := i32_m1; have := (h_2).1; have := (h_2).2; omega)] at q1 q4; rw [DSR_e q1]; exact RR_sh (by rw [show sg_3 41 = sg 41 from (Eq.trans (up_ne esg_3 (by decide)) (hks_j7 41 (by decide)))]; exact q4) (RRo_k q2 rfl ((show KS [50] sg_j7 sg_3 from (KS_up KS_rf esg_3 (by decide))) 48 (by decide)) rfl rfl) (RRe_k q3 ((show KS [50] sg_j7 sg_3 from (KS_up KS_rf esg_3 (by decide))) 49 (by decide)) rfl rfl rfl rfl) q1.2.2.1 q1.2.2.2 (by have := i32_0; have := i32_1; have := i32_2; have := i32_m1; have : (sg_3 50).toInt = 0 := (by rw [up_at esg_3]; rfl); have := congrArg Int32.toInt (show sg_j7 50 = sg 50 from hks_j7 50 (by decide)); have := (h_2).1; have := (h_2).2; omega)))⟩, by rw [ht]; exact hP, va_K.moved hW.alike hK, hD⟩, hS.F ht⟩) hS.2.2 dX13_shut_76
      · have h_4 : iv 0 79 x1_7 := iv_leR (i32_ge c_1) (iv_k (by decide) : iv 0 0 0) hx1_7 (by decide)
        refine lv_aload_n hx hb dX13_shut_11 rfl (lv_at hl 1 rfl) ?_
        refine mr_get (v := .ref (ad 59)) hx hb htb inX13 hown hK hP 59 (by decide) (htb _ kw_1086) rfl dX13_shut_12 ?_
        refine lv_iload_n hx hb dX13_shut_15 rfl (lv_at hl 0 rfl) ?_
        refine mr_iald hx hb hK hP 45 (k := 59) rfl rfl rfl (show vp_in x1_7 80 from (iv_in h_4 (by decide))) dX13_shut_16 ?_
        refine lv_topi (fun z_5 ez_5 => ?_)
        have hz_5 : iv 0 79 z_5 := iv_of ez_5 (MI_a hI_j7 59 h_4 (by decide))
        have ez_5 := ez_5.trans (congrFun (hkg_j7 59 (by decide)) _)
        refine lv_istore_n (lv' := [(2, .int z_5), (1, .int x1_7), (0, .ref h0)]) hx hb dX13_shut_17 rfl hl (by decide) rfl (fun ls hl => ?_)
        have hl2 : z_5.toInt < (sg 41).toInt := by rw [ez_5]; exact hmo _ (lt_cl h_4 (show iv 0 80 (sg 50) from MI_s hI 50) (by decide) (by decide) hlm)
        obtain ⟨S2_, hds, hro, hre, hsb⟩ := hSH
        have hkn : x1_7.toInt.toNat < (zF S).length := (by have := hRR.2.2.2.1; have := hlm; have := i32_0; have := i32_1; have := i32_2; have := i32_m1; have := congrArg Int32.toInt (show sg_j7 50 = sg 50 from hks_j7 50 (by decide)); have := (show iv 0 80 (sg 50) from MI_s hI 50).1; have := (show iv 0 80 (sg 50) from MI_s hI 50).2; have := (h_4).1; have := (h_4).2; have := (hz_5).1; have := (hz_5).2; omega)
        obtain ⟨hz1, hz2, hz3, hz4⟩ := hRR.2.2.2.2.1 _ _ (List.getElem?_eq_getElem hkn)
        have hzb : (zF S)[x1_7.toInt.toNat]'hkn = z_5.toNatClampNeg := (by have q5 : x1_7.toNatClampNeg = x1_7.toInt.toNat := rfl; have q6 := congrArg Int32.toInt (show z_5 = gm 59 x1_7.toInt.toNat from (by rw [ez_5]; rfl)); rw [← q6] at hz1; have q1 : z_5.toNatClampNeg = z_5.toInt.toNat := rfl; have := i32_0; have := i32_1; have := i32_2; have := i32_m1; have := (h_4).1; have := (h_4).2; have := (hz_5).1; have := (hz_5).2; omega)
        have hfk : (zF S)[x1_7.toInt.toNat]? = some z_5.toNatClampNeg := (by rw [List.getElem?_eq_getElem hkn, hzb])
        rw [hzb] at hz2 hz3 hz4
        have hk1 : (x1_7.toInt + 1).toNat = x1_7.toInt.toNat + 1 := (by have := i32_0; have := i32_1; have := i32_2; have := i32_m1; have := (h_4).1; have := (h_4).2; have := (hz_5).1; have := (hz_5).2; omega)
        rw [hk1] at hds hsb
        have hst := ((hsb _ hz2).2.2 hz3).1 (by rw [List.take_add_one, hfk]; exact List.mem_append.mpr (Or.inr (by simp)))
        refine lv_aload_n hx hb dX13_shut_18 rfl (lv_at hl 2 rfl) ?_
        refine lv_iload_n hx hb dX13_shut_19 rfl (lv_at hl 0 rfl) ?_
        refine lv_ldc2 (own := RX13) (v := 28259044220366713) hx hb hown (htb _ kw_1189) dX13_shut_20 ?_
        refine mr_calli (rest := []) ⟨hx, hb, hml, hown, htb⟩ (f_letter9 l dC dI h0 ad cid sg_j7 gm_j7 lg z_5 28259044220366713 hI_j7 (iv_w hz_5 (by decide)) (by rw [(hks_j7 41 (by decide))]; exact hl2) ((DOC_of hdoc (show KS [49] sg sg_j7 from (KS_tr (L := [49]) KS_rf hks_j7 (by decide))) (show KS [55, 56, 57, 58, 60, 61] gm gm_j7 from (KS_tr (L := [55, 56, 57, 58, 60, 61]) KS_rf hkg_j7 (by decide))) (show KS [] lg lg from KS_rf) (by decide) (by decide) (by decide) (by decide)).1.2.2.2)) (cwV 2 htb (gd_V kw_1275 kw_1276 kw_126 kw_160 kw_1636) rfl rfl rfl (by decide +kernel) ⟨Nat.le_of_ble_eq_true rfl, Nat.le_of_ble_eq_true rfl⟩) rfl hl.1 rfl (Nat.le_of_ble_eq_true rfl) dX13_shut_23 ⟨Nat.zero_le _, Nat.zero_le _⟩ hK hP hD hS hA (fun r_6 u_7 H locs hw hP hD hS => ?_)
        obtain ⟨fLt_r_6, rfl⟩ := hw
        have hP : va_P (dC, dI) vwCl (mW h0 ad cid sg_j7 gm_j7 lg) H := hP
        have hD : va_D A (mW h0 ad cid sg_j7 gm_j7 lg) := hD
        refine lv_iconst (v := (-1)) hx hb dX13_shut_26 (by decide) ?_
        refine lv_icmp_eq (tgt := 51) hx hb dX13_shut_27 (by decide) (fun c_8 => ?_) (fun c_8 => ?_)
        · have h_9 : iv (-1) (-1) r_6 := iv_eq c_8 (iv_all r_6) (iv_k (by decide) : iv (-1) (-1) (-1)) (by decide)
          refine lv_aload_n hx hb dX13_shut_51 rfl (lv_at hl 2 rfl) ?_
          refine mr_get (v := .ref (ad 61)) hx hb htb inX13 hown hK hP 61 (by decide) (htb _ kw_1088) rfl dX13_shut_52 ?_
          refine lv_iload_n hx hb dX13_shut_55 rfl (lv_at hl 0 rfl) ?_
          refine lv_iconst (v := 0) hx hb dX13_shut_56 (by decide) ?_
          refine ma_zast (x := 0) hx hb hK hP hD hS 47 (k := 61) rfl rfl rfl (show vp_in z_5 80 from (iv_in hz_5 (by decide))) dX13_shut_57 (fun gm_10 H locs egm_10 hP hD hS => ?_)
          have hI_gm_10 := MI_st hI_j7 egm_10 (iv_of (iv_vb (iv_w (iv_k (by decide) : iv 0 0 0) (by decide))) (iv_k (by decide) : iv 0 0 0)) (by decide)
          refine lv_aload_n hx hb dX13_shut_58 rfl (lv_at hl 2 rfl) ?_
          refine mr_get (v := .ref (ad 60)) hx hb htb inX13 hown hK hP 60 (by decide) (htb _ kw_1087) rfl dX13_shut_59 ?_
          refine lv_iload_n hx hb dX13_shut_62 rfl (lv_at hl 0 rfl) ?_
          refine lv_iconst (v := (-1)) hx hb dX13_shut_63 (by decide) ?_
          refine ma_iast (x := (-1)) hx hb hK hP hD hS 46 (k := 60) rfl rfl rfl (show vp_in z_5 80 from (iv_in hz_5 (by decide))) dX13_shut_64 (fun gm_11 H locs egm_11 hP hD hS => ?_)
          have hI_gm_11 := MI_st hI_gm_10 egm_11 (iv_k (by decide) : iv (-1) (-1) (-1)) (by decide)
          obtain ⟨z_12, ez_12⟩ : ∃ z : Int32, z = x1_7 + (-1) := ⟨_, rfl⟩
          have hz_12 : iv (-1) 78 z_12 := iv_of ez_12 (iv_add h_4 (iv_k (by decide) : iv (-1) (-1) (-1)) (by decide))
          have tz_12 : z_12.toInt = x1_7.toInt - 1 := by rw [ez_12]; exact iv_addE h_4 (iv_k (by decide) : iv (-1) (-1) (-1)) (by decide)
          refine lv_iinc (v := z_12) (lv' := [(1, .int z_12), (2, .int z_5), (0, .ref h0)]) hx hb dX13_shut_65 hl (k := 1) rfl ez_12.symm (by decide) rfl (fun ls hl => ?_)
          refine lv_goto (tgt := 7) hx hb dX13_shut_68 (by decide) ?_
          exact ih7 _ (by rw [← hn7]; exact (iv_measDn tz_12 (by decide) h_4 (by decide))) sg_j7 gm_11 z_12 rfl (iv_w hz_12 (by decide)) (KS_tr (L := [49]) KS_rf hks_j7 (by decide)) (KS_up (KS_up (KS_tr (L := [55, 56, 57, 58, 60, 61]) KS_rf hkg_j7 (by decide)) egm_10 (by decide)) egm_11 (by decide)) hI_gm_11 (VB_sh hvb (DK_of (KS_rf (L := []) (f := sg_j7)) (show KS [60, 61] gm_j7 gm_11 from (KS_up (KS_up KS_rf egm_10 (by decide)) egm_11 (by decide))) (KS_rf (L := []) (f := lg)) (by decide) (by decide) (by decide)) rfl (show gm_11 60 = upd (gm_j7 60) _ _ from (Eq.trans (up_at egm_11) (by rw [(up_ne egm_10 (by decide))]; first | done | rfl))) (show gm_11 61 = upd (gm_j7 61) _ _ from (Eq.trans (up_ne egm_11 (by decide)) (up_at egm_10))) rfl ((show KS [60, 61] gm_j7 gm_11 from (KS_up (KS_up KS_rf egm_10 (by decide)) egm_11 (by decide))) 62 (by decide)) ((show KS [60, 61] gm_j7 gm_11 from (KS_up (KS_up KS_rf egm_10 (by decide)) egm_11 (by decide))) 70 (by decide)) ((show KS [60, 61] gm_j7 gm_11 from (KS_up (KS_up KS_rf egm_10 (by decide)) egm_11 (by decide))) 71 (by decide)) ((show KS [60, 61] gm_j7 gm_11 from (KS_up (KS_up KS_rf egm_10 (by decide)) egm_11 (by decide))) 72 (by decide)) ((show KS [60, 61] gm_j7 gm_11 from (KS_up (KS_up KS_rf egm_10 (by decide)) egm_11 (by decide))) 73 (by decide))) (by have := i32_0; have := i32_1; have := i32_2; have := i32_m1; have := congrArg Int32.toInt (show sg_j7 50 = sg 50 from hks_j7 50 (by decide)); have := (show iv 0 80 (sg 50) from MI_s hI 50).1; have := (show iv 0 80 (sg 50) from MI_s hI 50).2; have := (h_4).1; have := (h_4).2; have := (hz_5).1; have := (hz_5).2; have := (h_9).1; have := (h_9).2; have := (hz_12).1; have := (hz_12).2; omega) ((by rw [(show (z_12.toInt + 1).toNat = x1_7.toInt.toNat from (by have := i32_0; have := i32_1; have := i32_2; have := i32_m1; have := (h_4).1; have := (h_4).2; have := (hz_5).1; have := (hz_5).2; have := (h_9).1; have := (h_9).2; have := (hz_12).1; have := (hz_12).2; omega))]; exact ⟨_, DSR_n hds hfk (by rw [← (show r_6.toInt = (wg 33 z_5.toNatClampNeg).toInt from (by have q9 := fLt_r_6; rw [q9]; exact BR_33 hBR ((rt9_ks (L := [55, 56, 57, 58, 60, 61]) (KS_tr (L := [55, 56, 57, 58, 60, 61]) KS_rf hkg_j7 (by decide)) (by decide)).trans hRW) ((rs9_ks (L := [49]) (KS_tr (L := [49]) KS_rf hks_j7 (by decide)) rfl rfl).trans hRS) hz_5 (by rw [(hks_j7 41 (by decide))]; exact hl2)))]; have := i32_0; have := i32_1; have := i32_2; have := i32_m1; have := (h_4).1; have := (h_4).2; have := (hz_5).1; have := (hz_5).2; have := (h_9).1; have := (h_9).2; have := (hz_12).1; have := (hz_12).2; omega), RRo_k hro rfl rfl ((show KS [60, 61] gm_j7 gm_11 from (KS_up (KS_up KS_rf egm_10 (by decide)) egm_11 (by decide))) 53 (by decide)) ((show KS [60, 61] gm_j7 gm_11 from (KS_up (KS_up KS_rf egm_10 (by decide)) egm_11 (by decide))) 54 (by decide)), RRe_k hre rfl ((show KS [60, 61] gm_j7 gm_11 from (KS_up (KS_up KS_rf egm_10 (by decide)) egm_11 (by decide))) 55 (by decide)) ((show KS [60, 61] gm_j7 gm_11 from (KS_up (KS_up KS_rf egm_10 (by decide)) egm_11 (by decide))) 56 (by decide)) ((show KS [60, 61] gm_j7 gm_11 from (KS_up (KS_up KS_rf egm_10 (by decide)) egm_11 (by decide))) 57 (by decide)) ((show KS [60, 61] gm_j7 gm_11 from (KS_up (KS_up KS_rf egm_10 (by decide)) egm_11 (by decide))) 58 (by decide)), SHB_s hsb hfk hRR.2.2.2.2.2 hz4 (show gm_11 61 = upd (gm_j7 61) _ _ from (Eq.trans (up_ne egm_11 (by decide)) (up_at egm_10))) (show gm_11 60 = upd (gm_j7 60) _ _ from (Eq.trans (up_at egm_11) (by rw [(up_ne egm_10 (by decide))]; first | done | rfl))) ((show KS [60, 61] gm_j7 gm_11 from (KS_up (KS_up KS_rf egm_10 (by decide)) egm_11 (by decide))) 62 (by decide)) rfl (by decide)⟩)) _ _ _ hP hD hS (lv_sub hl [0, 2] rfl)
        · have d_13 : ¬ (r_6 : Int32).toInt = (-1) := lv_neT c_8 rfl
          refine lv_aload_n hx hb dX13_shut_30 rfl (lv_at hl 2 rfl) ?_
          refine lv_bipush (v := 7) hx hb dX13_shut_31 (by decide) ?_
          refine lv_aload_n hx hb dX13_shut_33 rfl (lv_at hl 2 rfl) ?_
          refine mr_get (v := .ref (ad 60)) hx hb htb inX13 hown hK hP 60 (by decide) (htb _ kw_1087) rfl dX13_shut_34 ?_
          refine lv_iload_n hx hb dX13_shut_37 rfl (lv_at hl 0 rfl) ?_
          refine mr_iald hx hb hK hP 46 (k := 60) rfl rfl rfl (show vp_in z_5 80 from (iv_in hz_5 (by decide))) dX13_shut_38 ?_
          refine lv_topi (fun z_14 ez_14 => ?_)
          have hz_14 : iv (-1) 59 z_14 := iv_of ez_14 (MI_a hI_j7 60 hz_5 (by decide))
          refine lv_aload_n hx hb dX13_shut_39 rfl (lv_at hl 2 rfl) ?_
          refine lv_iload_n hx hb dX13_shut_40 rfl (lv_at hl 0 rfl) ?_
          refine lv_ldc2 (own := RX13) (v := 28259044220366713) hx hb hown (htb _ kw_1189) dX13_shut_41 ?_
          refine mr_calli (rest := [.int z_14, .int 7, .ref h0]) ⟨hx, hb, hml, hown, htb⟩ (f_letter9 l dC dI h0 ad cid sg_j7 gm_j7 lg z_5 28259044220366713 hI_j7 (iv_w hz_5 (by decide)) (by rw [(hks_j7 41 (by decide))]; exact hl2) ((DOC_of hdoc (show KS [49] sg sg_j7 from (KS_tr (L := [49]) KS_rf hks_j7 (by decide))) (show KS [55, 56, 57, 58, 60, 61] gm gm_j7 from (KS_tr (L := [55, 56, 57, 58, 60, 61]) KS_rf hkg_j7 (by decide))) (show KS [] lg lg from KS_rf) (by decide) (by decide) (by decide) (by decide)).1.2.2.2)) (cwV 2 htb (gd_V kw_1275 kw_1276 kw_126 kw_160 kw_1636) rfl rfl rfl (by decide +kernel) ⟨Nat.le_of_ble_eq_true rfl, Nat.le_of_ble_eq_true rfl⟩) rfl hl.1 rfl (Nat.le_of_ble_eq_true rfl) dX13_shut_44 ⟨Nat.zero_le _, Nat.zero_le _⟩ hK hP hD hS hA (fun r_15 u_16 H locs hw hP hD hS => ?_)
          obtain ⟨fLt_r_15, rfl⟩ := hw
          have hP : va_P (dC, dI) vwCl (mW h0 ad cid sg_j7 gm_j7 lg) H := hP
          have hD : va_D A (mW h0 ad cid sg_j7 gm_j7 lg) := hD
          refine lv_iconst (v := 0) hx hb dX13_shut_47 (by decide) ?_
          refine mr_callv (rest := []) ⟨hx, hb, hml, hown, htb⟩ (f_happensE l dC dI h0 ad cid sg_j7 gm_j7 lg 7 z_14 r_15 0 S2_ hI_j7 hre) (cwV 4 htb (gd_V kw_1304 kw_1305 kw_138 kw_160 kw_1648) rfl rfl rfl (by decide +kernel) ⟨Nat.le_of_ble_eq_true rfl, Nat.le_of_ble_eq_true rfl⟩) rfl hl.1 rfl (Nat.le_of_ble_eq_true rfl) dX13_shut_48 ⟨Nat.zero_le _, Nat.zero_le _⟩ hK hP hD hS hA (fun u_18 H locs hw hP hD hS => ?_)
          obtain ⟨sgv_19, gmv_19, lgv_19, rfl, hIv_19, ksv_19, kgv_19, klv_19, fR_r_17⟩ := hw
          obtain rfl := KS_nil klv_19
          have hP : va_P (dC, dI) vwCl (mW h0 ad cid sgv_19 gmv_19 lg) H := hP
          have hD : va_D A (mW h0 ad cid sgv_19 gmv_19 lg) := hD
          refine lv_aload_n hx hb dX13_shut_51 rfl (lv_at hl 2 rfl) ?_
          refine mr_get (v := .ref (ad 61)) hx hb htb inX13 hown hK hP 61 (by decide) (htb _ kw_1088) rfl dX13_shut_52 ?_
          refine lv_iload_n hx hb dX13_shut_55 rfl (lv_at hl 0 rfl) ?_
          refine lv_iconst (v := 0) hx hb dX13_shut_56 (by decide) ?_
          refine ma_zast (x := 0) hx hb hK hP hD hS 47 (k := 61) rfl rfl rfl (show vp_in z_5 80 from (iv_in hz_5 (by decide))) dX13_shut_57 (fun gm_20 H locs egm_20 hP hD hS => ?_)
          have hI_gm_20 := MI_st hIv_19 egm_20 (iv_of (iv_vb (iv_w (iv_k (by decide) : iv 0 0 0) (by decide))) (iv_k (by decide) : iv 0 0 0)) (by decide)
          refine lv_aload_n hx hb dX13_shut_58 rfl (lv_at hl 2 rfl) ?_
          refine mr_get (v := .ref (ad 60)) hx hb htb inX13 hown hK hP 60 (by decide) (htb _ kw_1087) rfl dX13_shut_59 ?_
          refine lv_iload_n hx hb dX13_shut_62 rfl (lv_at hl 0 rfl) ?_
          refine lv_iconst (v := (-1)) hx hb dX13_shut_63 (by decide) ?_
          refine ma_iast (x := (-1)) hx hb hK hP hD hS 46 (k := 60) rfl rfl rfl (show vp_in z_5 80 from (iv_in hz_5 (by decide))) dX13_shut_64 (fun gm_21 H locs egm_21 hP hD hS => ?_)
          have hI_gm_21 := MI_st hI_gm_20 egm_21 (iv_k (by decide) : iv (-1) (-1) (-1)) (by decide)
          obtain ⟨z_22, ez_22⟩ : ∃ z : Int32, z = x1_7 + (-1) := ⟨_, rfl⟩
          have hz_22 : iv (-1) 78 z_22 := iv_of ez_22 (iv_add h_4 (iv_k (by decide) : iv (-1) (-1) (-1)) (by decide))
          have tz_22 : z_22.toInt = x1_7.toInt - 1 := by rw [ez_22]; exact iv_addE h_4 (iv_k (by decide) : iv (-1) (-1) (-1)) (by decide)
          refine lv_iinc (v := z_22) (lv' := [(1, .int z_22), (2, .int z_5), (0, .ref h0)]) hx hb dX13_shut_65 hl (k := 1) rfl ez_22.symm (by decide) rfl (fun ls hl => ?_)
          refine lv_goto (tgt := 7) hx hb dX13_shut_68 (by decide) ?_
          exact ih7 _ (by rw [← hn7]; exact (iv_measDn tz_22 (by decide) h_4 (by decide))) sgv_19 gm_21 z_22 rfl (iv_w hz_22 (by decide)) (KS_tr (L := [49]) (KS_tr (L := [49]) KS_rf hks_j7 (by decide)) ksv_19 (by decide)) (KS_up (KS_up (KS_tr (L := [55, 56, 57, 58, 60, 61]) (KS_tr (L := [55, 56, 57, 58, 60, 61]) KS_rf hkg_j7 (by decide)) kgv_19 (by decide)) egm_20 (by decide)) egm_21 (by decide)) hI_gm_21 (VB_sh hvb (DK_of (show KS [49] sg_j7 sgv_19 from (KS_tr (L := [49]) KS_rf ksv_19 (by decide))) (show KS [55, 56, 57, 58, 60, 61] gm_j7 gm_21 from (KS_up (KS_up (KS_tr (L := [55, 56, 57, 58, 60, 61]) KS_rf kgv_19 (by decide)) egm_20 (by decide)) egm_21 (by decide))) (KS_rf (L := []) (f := lg)) (by decide) (by decide) (by decide)) rfl (show gm_21 60 = upd (gm_j7 60) _ _ from (Eq.trans (up_at egm_21) (by rw [(Eq.trans (up_ne egm_20 (by decide)) (kgv_19 60 (by decide)))]; first | done | rfl))) (show gm_21 61 = upd (gm_j7 61) _ _ from (Eq.trans (up_ne egm_21 (by decide)) (Eq.trans (up_at egm_20) (by rw [(kgv_19 61 (by decide))]; first | done | rfl)))) rfl ((show KS [55, 56, 57, 58, 60, 61] gm_j7 gm_21 from (KS_up (KS_up (KS_tr (L := [55, 56, 57, 58, 60, 61]) KS_rf kgv_19 (by decide)) egm_20 (by decide)) egm_21 (by decide))) 62 (by decide)) ((show KS [55, 56, 57, 58, 60, 61] gm_j7 gm_21 from (KS_up (KS_up (KS_tr (L := [55, 56, 57, 58, 60, 61]) KS_rf kgv_19 (by decide)) egm_20 (by decide)) egm_21 (by decide))) 70 (by decide)) ((show KS [55, 56, 57, 58, 60, 61] gm_j7 gm_21 from (KS_up (KS_up (KS_tr (L := [55, 56, 57, 58, 60, 61]) KS_rf kgv_19 (by decide)) egm_20 (by decide)) egm_21 (by decide))) 71 (by decide)) ((show KS [55, 56, 57, 58, 60, 61] gm_j7 gm_21 from (KS_up (KS_up (KS_tr (L := [55, 56, 57, 58, 60, 61]) KS_rf kgv_19 (by decide)) egm_20 (by decide)) egm_21 (by decide))) 72 (by decide)) ((show KS [55, 56, 57, 58, 60, 61] gm_j7 gm_21 from (KS_up (KS_up (KS_tr (L := [55, 56, 57, 58, 60, 61]) KS_rf kgv_19 (by decide)) egm_20 (by decide)) egm_21 (by decide))) 73 (by decide))) (by have := i32_0; have := i32_1; have := i32_2; have := i32_m1; have := congrArg Int32.toInt (show sgv_19 50 = sg_j7 50 from ksv_19 50 (by decide)); have := congrArg Int32.toInt (show sg_j7 50 = sg 50 from hks_j7 50 (by decide)); have := (show iv 0 80 (sg 50) from MI_s hI 50).1; have := (show iv 0 80 (sg 50) from MI_s hI 50).2; have := congrArg Int32.toInt (show sg_j7 50 = sg 50 from hks_j7 50 (by decide)); have := (h_4).1; have := (h_4).2; have := (hz_5).1; have := (hz_5).2; have := (hz_14).1; have := (hz_14).2; have := (hz_22).1; have := (hz_22).2; omega) ((by rw [(show (z_22.toInt + 1).toNat = x1_7.toInt.toNat from (by have := i32_0; have := i32_1; have := i32_2; have := i32_m1; have := (h_4).1; have := (h_4).2; have := (hz_5).1; have := (hz_5).2; have := (hz_14).1; have := (hz_14).2; have := (hz_22).1; have := (hz_22).2; omega))]; exact ⟨_, DSR_y hds hfk rfl (by have q9 := hst.2; rw [← q9]) (show r_15.toInt = (wg 33 z_5.toNatClampNeg).toInt from (by have q9 := fLt_r_15; rw [q9]; exact BR_33 hBR ((rt9_ks (L := [55, 56, 57, 58, 60, 61]) (KS_tr (L := [55, 56, 57, 58, 60, 61]) KS_rf hkg_j7 (by decide)) (by decide)).trans hRW) ((rs9_ks (L := [49]) (KS_tr (L := [49]) KS_rf hks_j7 (by decide)) rfl rfl).trans hRS) hz_5 (by rw [(hks_j7 41 (by decide))]; exact hl2))).symm (by rw [← (Eq.refl r_15.toInt)]; exact (by rw [(show r_15.toInt = (wg 33 z_5.toNatClampNeg).toInt from (by have q9 := fLt_r_15; rw [q9]; exact BR_33 hBR ((rt9_ks (L := [55, 56, 57, 58, 60, 61]) (KS_tr (L := [55, 56, 57, 58, 60, 61]) KS_rf hkg_j7 (by decide)) (by decide)).trans hRW) ((rs9_ks (L := [49]) (KS_tr (L := [49]) KS_rf hks_j7 (by decide)) rfl rfl).trans hRS) hz_5 (by rw [(hks_j7 41 (by decide))]; exact hl2))), ← (show r_6.toInt = (wg 33 z_5.toNatClampNeg).toInt from (by have q9 := fLt_r_6; rw [q9]; exact BR_33 hBR ((rt9_ks (L := [55, 56, 57, 58, 60, 61]) (KS_tr (L := [55, 56, 57, 58, 60, 61]) KS_rf hkg_j7 (by decide)) (by decide)).trans hRW) ((rs9_ks (L := [49]) (KS_tr (L := [49]) KS_rf hks_j7 (by decide)) rfl rfl).trans hRS) hz_5 (by rw [(hks_j7 41 (by decide))]; exact hl2)))]; exact (fun q7 => c_8 (Int32.toInt_inj.mp (q7.trans (by decide)))))) rfl, RRo_k hro (by rw [zAdd_O]) ((show KS [49] sg_j7 sgv_19 from (KS_tr (L := [49]) KS_rf ksv_19 (by decide))) 48 (by decide)) ((show KS [55, 56, 57, 58, 60, 61] gm_j7 gm_21 from (KS_up (KS_up (KS_tr (L := [55, 56, 57, 58, 60, 61]) KS_rf kgv_19 (by decide)) egm_20 (by decide)) egm_21 (by decide))) 53 (by decide)) ((show KS [55, 56, 57, 58, 60, 61] gm_j7 gm_21 from (KS_up (KS_up (KS_tr (L := [55, 56, 57, 58, 60, 61]) KS_rf kgv_19 (by decide)) egm_20 (by decide)) egm_21 (by decide))) 54 (by decide)), (by have q9 := fR_r_17; rw [ez_14] at q9; exact RRe_k q9 rfl ((show KS [60, 61] gmv_19 gm_21 from (KS_up (KS_up KS_rf egm_20 (by decide)) egm_21 (by decide))) 55 (by decide)) ((show KS [60, 61] gmv_19 gm_21 from (KS_up (KS_up KS_rf egm_20 (by decide)) egm_21 (by decide))) 56 (by decide)) ((show KS [60, 61] gmv_19 gm_21 from (KS_up (KS_up KS_rf egm_20 (by decide)) egm_21 (by decide))) 57 (by decide)) ((show KS [60, 61] gmv_19 gm_21 from (KS_up (KS_up KS_rf egm_20 (by decide)) egm_21 (by decide))) 58 (by decide))), SHB_s hsb hfk hRR.2.2.2.2.2 hz4 (show gm_21 61 = upd (gm_j7 61) _ _ from (Eq.trans (up_ne egm_21 (by decide)) (Eq.trans (up_at egm_20) (by rw [(kgv_19 61 (by decide))]; first | done | rfl)))) (show gm_21 60 = upd (gm_j7 60) _ _ from (Eq.trans (up_at egm_21) (by rw [(Eq.trans (up_ne egm_20 (by decide)) (kgv_19 60 (by decide)))]; first | done | rfl))) ((show KS [55, 56, 57, 58, 60, 61] gm_j7 gm_21 from (KS_up (KS_up (KS_tr (L := [55, 56, 57, 58, 60, 61]) KS_rf kgv_19 (by decide)) egm_20 (by decide)) egm_21 (by decide))) 62 (by decide)) rfl (by decide)⟩)) _ _ _ hP hD hS (lv_sub hl [0, 2] rfl)
  refine lv_aload_n hx hb dX13_shut_0 rfl (lv_at hl 0 rfl) ?_
  refine mr_get (v := .int (sg 50)) hx hb htb inX13 hown hK hP 50 (by decide) (htb _ kw_1077) rfl dX13_shut_1 ?_
  refine lv_iconst (v := 1) hx hb dX13_shut_4 (by decide) ?_
  refine lv_isub hx hb dX13_shut_5 ?_
  refine lv_topi (fun z_23 ez_23 => ?_)
  have hz_23 : iv (-1) 79 z_23 := iv_of ez_23 (iv_sub (show iv 0 80 (sg 50) from MI_s hI 50) (iv_k (by decide) : iv 1 1 1) (by decide))
  have tz_23 : z_23.toInt = ((sg 50) : Int32).toInt - 1 := by rw [ez_23]; exact iv_subE (show iv 0 80 (sg 50) from MI_s hI 50) (iv_k (by decide) : iv 1 1 1) (by decide)
  refine lv_istore_n (lv' := [(1, .int z_23), (0, .ref h0)]) hx hb dX13_shut_6 rfl hl (by decide) rfl (fun ls hl => ?_)
  exact hj7 _ sg gm z_23 rfl hz_23 KS_rf KS_rf hI (⟨hgi.1, hgi.2.1⟩) (by have := i32_0; have := i32_1; have := i32_2; have := i32_m1; have := (show iv 0 80 (sg 50) from MI_s hI 50).1; have := (show iv 0 80 (sg 50) from MI_s hI 50).2; have := ((show iv 0 80 (sg 50) from MI_s hI 50)).1; have := ((show iv 0 80 (sg 50) from MI_s hI 50)).2; have := (hz_23).1; have := (hz_23).2; omega) ((by have q5 := hRR.2.2.2.1; exact ⟨S, DSR_0 (by have := i32_0; have := i32_1; have := i32_2; have := i32_m1; have := (show iv 0 80 (sg 50) from MI_s hI 50).1; have := (show iv 0 80 (sg 50) from MI_s hI 50).2; have := ((show iv 0 80 (sg 50) from MI_s hI 50)).1; have := ((show iv 0 80 (sg 50) from MI_s hI 50)).2; have := (hz_23).1; have := (hz_23).2; omega), hRR.1, hRR.2.1, SHB_0 hRR hWZ (by have := i32_0; have := i32_1; have := i32_2; have := i32_m1; have := (show iv 0 80 (sg 50) from MI_s hI 50).1; have := (show iv 0 80 (sg 50) from MI_s hI 50).2; have := ((show iv 0 80 (sg 50) from MI_s hI 50)).1; have := ((show iv 0 80 (sg 50) from MI_s hI 50)).2; have := (hz_23).1; have := (hz_23).2; omega)⟩)) _ _ _ hP hD hS (lv_sub hl [0, 1] rfl)
end
section
section KI9
variable {ws : Nat → Int32} {wg : Nat → Nat → Int32} {wl : Nat → Nat → Int64} {S S2 : S9} {b : Nat} {o fo : Int} {vs : List (List Int)}
theorem bd9_P {P : S9 → S9 → Prop} {α β : Type} (tr : ∀ a b c, P a b → P b c → P a c) {x : Option α × S9} {f : α → S9 → Option β × S9} (h : P S x.2) (hf : ∀ a, P x.2 (f a x.2).2) : P S (bd9 x f).2 := by
  obtain ⟨o, T⟩ := x
  cases o with
  | none => exact h
  | some a => exact tr _ _ _ h (hf a)
/-- what each making keeps -/
theorem MKI {P : S9 → S9 → Prop} (rf : ∀ S, P S S) (tr : ∀ a b c, P a b → P b c → P a c) (be : ∀ b S, ¬ zS S b = 1 → P S (oBe b S)) (br : ∀ b fo vs S, P S (oBr wg wl b fo vs S).2) (se : ∀ o h V S, P S (oSe wg wl o h V S).2) (fi : ∀ b o S, P S (oFi wg wl b o S)) : ∀ n b S, P S (oMK ws wg wl n b S).2
  | 0, b, S => rf S
  | n + 1, b, S => by
    have ih := MKI rf tr be br se fi n
    have hg : ∀ t S, P S (oGet wg (oMK ws wg wl n) t S).2 := fun t S => by
      unfold oGet
      split
      · exact rf S
      · split
        · exact rf S
        · split
          · exact rf S
          · exact ih _ S
    have ho : ∀ e S, P S (oObj ws wg wl (oMK ws wg wl n) e S).2 := fun e S => by
      unfold oObj
      split
      · exact hg _ S
      · exact ih _ S
    have hi : ∀ e S, P S (oItm ws wg wl (oMK ws wg wl n) e S).2 := fun e S => by
      unfold oItm
      split
      · exact rf S
      · split
        · exact rf S
        · exact bd9_P tr (ho e S) (fun a => rf _)
    have hs : ∀ (l : List Nat) (acc : List Int) S, P S (oIts ws wg wl (oMK ws wg wl n) l acc S).2 := by
      intro l
      induction l with
      | nil => intro acc S; exact rf S
      | cons e l ihl => intro acc S; exact bd9_P tr (hi e S) (fun a => ihl _ _)
    have hc : ∀ c S, P S (oCon ws wg wl (oMK ws wg wl n) c S).2 := fun c S => by
      unfold oCon
      split
      · exact hs _ _ S
      · split
        · exact bd9_P tr (ho c S) (fun a => rf _)
        · exact rf S
    have ha : ∀ (l : List Nat) (acc : List (List Int)) S, P S (oArs ws wg wl (oMK ws wg wl n) l acc S).2 := by
      intro l
      induction l with
      | nil => intro acc S; exact rf S
      | cons e l ihl => intro acc S; exact bd9_P tr (hc _ S) (fun a => ihl _ _)
    have ht : ∀ (o : Int) (l : List Nat) S, P S (oSts ws wg wl (oMK ws wg wl n) o l S).2 := by
      intro o l
      induction l with
      | nil => intro S; exact rf S
      | cons e l ihl => intro S; exact bd9_P tr (hc _ S) (fun a => bd9_P tr (se o e a _) (fun _ => ihl _))
    have h4 : ∀ b o l S, P S (r4 ws wg wl (oMK ws wg wl n) b o l S).2 := fun b o l S => bd9_P tr (ht o l S) (fun _ => fi b o _)
    have h3 : ∀ b fo vs S, P S (r3 ws wg wl (oMK ws wg wl n) b fo vs S).2 := fun b fo vs S => bd9_P tr (br b fo vs S) (fun o => h4 b o _ _)
    have h2 : ∀ b fo l acc S, P S (r2 ws wg wl (oMK ws wg wl n) b fo l acc S).2 := fun b fo l acc S => bd9_P tr (ha l acc S) (fun vs => h3 b fo vs _)
    have h1 : ∀ b S, P S (r1 ws wg wl (oMK ws wg wl n) b S).2 := fun b S => by
      unfold r1
      split
      · exact rf S
      · refine bd9_P tr ?_ (fun fo => h2 b fo _ _ _)
        unfold oFa
        split
        · exact rf S
        · exact hg _ S
    show P S (if zS S b = 1 then (none, S) else oMB ws wg wl (oMK ws wg wl n) b S).2
    by_cases q : zS S b = 1
    · rw [if_pos q]; exact rf S
    · rw [if_neg q]
      refine tr _ _ _ (be b S q) ?_
      refine bd9_P tr ?_ (fun _ => h1 b _)
      unfold oDe
      split
      · exact rf _
      · exact hg _ _
theorem oSe_2 {h : Nat} {V : List Int} : (oSe wg wl o h V S).2 = S ∨ ∃ t, (oSe wg wl o h V S).2 = tlV wg wl 4 o (wg 22 h).toInt (ctE wg h) V t S := by
  unfold oSe
  simp only []
  split
  · exact Or.inl rfl
  · split
    · exact Or.inl rfl
    · exact Or.inr ⟨_, rfl⟩
theorem oBr_2 : (oBr wg wl b fo vs S).2 = S ∨ ∃ s f, (oBr wg wl b fo vs S).2 = tlA wg wl b ((zO S).length : Int) vs f s (wg 7 s).toNatClampNeg 0 (oB2 wg b s S) := by
  cases hc : chS wg wl b fo (zO S) vs with
  | none => rw [oBr_n hc]; exact Or.inl rfl
  | some q =>
    obtain ⟨s, f⟩ := q
    by_cases h6 : 60 ≤ (zO S).length
    · rw [oBr_6 hc h6]; exact Or.inl rfl
    · rw [oBr_s hc h6]; exact Or.inr ⟨s, f, rfl⟩
theorem tlI_F {V : List Int} : ∀ k i S, zF (tlI V k i S) = zF S
  | 0, i, S => rfl
  | k + 1, i, S => by
    show zF (tlI V k (i + 1) (zAdd S _)) = _
    rw [tlI_F k (i + 1), zAdd_F]
theorem tlV_F {wh ab sc t : Int} {c : Nat} {V : List Int} : zF (tlV wg wl wh ab sc c V t S) = zF S := by
  by_cases h : (wg 25 c).toInt = 6
  · rw [tlV_l h, tlI_F, zAdd_F]
  · rw [tlV_n h, zAdd_F]
theorem tlA_F {g : Nat → Int} {s : Nat} : ∀ k p S, zF (tlA wg wl b o vs g s k p S) = zF S
  | 0, p, S => rfl
  | k + 1, p, S => by
    show zF (tlA wg wl b o vs g s k (p + 1) (tlV wg wl 3 o (p : Int) _ _ _ S)) = _
    rw [tlA_F k (p + 1), tlV_F]
theorem oB2_F {s : Nat} : zF (oB2 wg b s S) = zF S := by
  unfold oB2
  by_cases h : (wg 8 s).toInt = -1
  · rw [if_pos h, zAdd_F]; rfl
  · rw [if_neg h, zAdd_F]; rfl
theorem oF1_F : zF (oF1 wg b o S) = zF S := by
  unfold oF1
  by_cases h : (wg 32 b).toInt = -1
  · rw [if_pos h]
  · rw [if_neg h, zAdd_F]
/-- what is made once is among the finished, whatever is made -/
theorem WZ_e (h : WZ9 wg wl S) (e1 : zS S2 = zS S) (e2 : zF S2 = zF S) : WZ9 wg wl S2 := by unfold WZ9; rw [e1, e2]; exact h
theorem WZ_mk (n : Nat) (h : WZ9 wg wl S) : WZ9 wg wl (oMK ws wg wl n b S).2 := by
  refine MKI (P := fun S S2 => WZ9 wg wl S → WZ9 wg wl S2) (fun _ q => q) (fun _ _ _ h1 h2 q => h2 (h1 q)) ?_ ?_ ?_ ?_ n b S h
  · intro b S _ q t ht h2
    have e : zS (oBe b S) t = fu9 (zS S) b 1 t := rfl
    by_cases p : t = b
    · rw [e, p, fu9_at] at h2; exact absurd h2 (by decide)
    · rw [e, fu9_ne p] at h2; exact q t ht h2
  · intro b fo vs S q
    rcases oBr_2 (wg := wg) (wl := wl) (b := b) (fo := fo) (vs := vs) (S := S) with e | ⟨s, f, e⟩
    · rw [e]; exact q
    · rw [e]; exact WZ_e q (by rw [(tlA_S _ _ _).2.1, oB2_S.1]) (by rw [tlA_F, oB2_F])
  · intro o h V S q
    rcases oSe_2 (wg := wg) (wl := wl) (o := o) (h := h) (V := V) (S := S) with e | ⟨t, e⟩
    · rw [e]; exact q
    · rw [e]; exact WZ_e q tlV_S.1 tlV_F
  · intro b o S q t ht h2
    unfold oFi oF2 at *
    by_cases p : ¬ wl 4 b = 0 ∧ wg 35 b = 0
    · rw [if_pos p] at h2 ⊢
      show t ∈ zF (oF1 wg b o S) ++ [b]
      have h2 : fu9 (zS (oF1 wg b o S)) b 2 t = 2 := h2
      by_cases p2 : t = b
      · rw [p2]; exact List.mem_append.mpr (Or.inr (by simp))
      · rw [fu9_ne p2, oF1_w.2.1] at h2
        rw [oF1_F]; exact List.mem_append.mpr (Or.inl (q t ht h2))
    · rw [if_neg p] at h2 ⊢
      show t ∈ zF (oF1 wg b o S)
      have h2 : fu9 (zS (oF1 wg b o S)) b 0 t = 2 := h2
      by_cases p2 : t = b
      · rw [p2, fu9_at] at h2; exact absurd h2 (by decide)
      · rw [fu9_ne p2, oF1_w.2.1] at h2
        rw [oF1_F]; exact q t ht h2
theorem WZ_st (h : WZ9 wg wl S) : WZ9 wg wl (zSt S) := by
  intro t ht h2
  refine h t ht ?_
  have h2 : (if zS S t = 1 then 0 else zS S t) = 2 := h2
  by_cases p : zS S t = 1
  · rw [if_pos p] at h2; exact absurd h2 (by decide)
  · rw [if_neg p] at h2; exact h2
theorem WZ_fo : WZ9 wg wl (zFo S) := by
  intro t ht h2
  have h2 : (if zS S t = 2 then 0 else zS S t) = 2 := h2
  by_cases p : zS S t = 2
  · rw [if_pos p] at h2; exact absurd h2 (by decide)
  · rw [if_neg p] at h2; exact absurd h2 p
theorem WZ_gt (n : Nat) (t : Int) (h : WZ9 wg wl S) : WZ9 wg wl (gtR ws wg wl n t S).2 := by
  unfold gtR
  split
  · exact h
  · split
    · exact h
    · split
      · exact h
      · exact WZ_mk n h
/-- nothing is being made -/
def NB9 (S : S9) : Prop := ∀ t, ¬ zS S t = 1
def KN9 (S S2 : S9) : Prop := ∀ t, zS S2 t = 1 → zS S t = 1
theorem bd9_so {α β : Type} {x : Option α × S9} {f : α → S9 → Option β × S9} {c : β} (h : bd9 x f = (some c, S2)) : ∃ a S1, x = (some a, S1) ∧ f a S1 = (some c, S2) := by
  obtain ⟨o, T⟩ := x
  cases o with
  | none => exact absurd h (by intro q; exact absurd (congrArg Prod.fst q) (by simp [bd9]))
  | some a => exact ⟨a, T, rfl, h⟩
theorem KN_tr {S1 : S9} (h : KN9 S S1) (h2 : KN9 S1 S2) : KN9 S S2 := fun t q => h t (h2 t q)
theorem KN_rf : KN9 S S := fun _ q => q
theorem KN_e (e : zS S2 = zS S) : KN9 S S2 := fun t q => by rw [e] at q; exact q
theorem oFi_z {t : Nat} (h : zS (oFi wg wl b o S) t = 1) : ¬ t = b ∧ zS S t = 1 := by
  unfold oFi oF2 at h
  by_cases p : ¬ wl 4 b = 0 ∧ wg 35 b = 0
  · rw [if_pos p] at h
    have h : fu9 (zS (oF1 wg b o S)) b 2 t = 1 := h
    by_cases p2 : t = b
    · rw [p2, fu9_at] at h; exact absurd h (by decide)
    · rw [fu9_ne p2, oF1_w.2.1] at h; exact ⟨p2, h⟩
  · rw [if_neg p] at h
    have h : fu9 (zS (oF1 wg b o S)) b 0 t = 1 := h
    by_cases p2 : t = b
    · rw [p2, fu9_at] at h; exact absurd h (by decide)
    · rw [fu9_ne p2, oF1_w.2.1] at h; exact ⟨p2, h⟩
theorem KN_mk : ∀ n b S o S2, oMK ws wg wl n b S = (some o, S2) → KN9 S S2
  | 0, b, S, o, S2, h => absurd (congrArg Prod.fst h) (by simp [oMK])
  | n + 1, b, S, o, S2, h => by
    have ih := KN_mk n
    have hg : ∀ t S o S2, oGet wg (oMK ws wg wl n) t S = (some o, S2) → KN9 S S2 := fun t S o S2 h => by
      unfold oGet at h
      split at h
      · exact absurd (congrArg Prod.fst h) (by simp)
      · split at h
        · exact absurd (congrArg Prod.fst h) (by simp)
        · split at h
          · have e : S = S2 := congrArg Prod.snd h
            rw [← e]; exact KN_rf
          · exact ih _ _ _ _ h
    have ho : ∀ e S o S2, oObj ws wg wl (oMK ws wg wl n) e S = (some o, S2) → KN9 S S2 := fun e S o S2 h => by
      unfold oObj at h
      split at h
      · exact hg _ _ _ _ h
      · exact ih _ _ _ _ h
    have hi : ∀ e S o S2, oItm ws wg wl (oMK ws wg wl n) e S = (some o, S2) → KN9 S S2 := fun e S o S2 h => by
      unfold oItm at h
      split at h
      · have e : S = S2 := congrArg Prod.snd h
        rw [← e]; exact KN_rf
      · split at h
        · have e : S = S2 := congrArg Prod.snd h
          rw [← e]; exact KN_rf
        · obtain ⟨a, S1, h1, h2⟩ := bd9_so h
          have e : S1 = S2 := congrArg Prod.snd h2
          rw [← e]; exact ho _ _ _ _ h1
    have hs : ∀ (l : List Nat) (acc : List Int) S o S2, oIts ws wg wl (oMK ws wg wl n) l acc S = (some o, S2) → KN9 S S2 := by
      intro l
      induction l with
      | nil => intro acc S o S2 h; have e : S = S2 := congrArg Prod.snd h; rw [← e]; exact KN_rf
      | cons e l ihl =>
        intro acc S o S2 h
        obtain ⟨a, S1, h1, h2⟩ := bd9_so h
        exact KN_tr (hi _ _ _ _ h1) (ihl _ _ _ _ h2)
    have hc : ∀ c S o S2, oCon ws wg wl (oMK ws wg wl n) c S = (some o, S2) → KN9 S S2 := fun c S o S2 h => by
      unfold oCon at h
      split at h
      · exact hs _ _ _ _ _ h
      · split at h
        · obtain ⟨a, S1, h1, h2⟩ := bd9_so h
          have e : S1 = S2 := congrArg Prod.snd h2
          rw [← e]; exact ho _ _ _ _ h1
        · have e : S = S2 := congrArg Prod.snd h
          rw [← e]; exact KN_rf
    have ha : ∀ (l : List Nat) (acc : List (List Int)) S o S2, oArs ws wg wl (oMK ws wg wl n) l acc S = (some o, S2) → KN9 S S2 := by
      intro l
      induction l with
      | nil => intro acc S o S2 h; have e : S = S2 := congrArg Prod.snd h; rw [← e]; exact KN_rf
      | cons e l ihl =>
        intro acc S o S2 h
        obtain ⟨a, S1, h1, h2⟩ := bd9_so h
        exact KN_tr (hc _ _ _ _ h1) (ihl _ _ _ _ h2)
    have ht : ∀ (u : Int) (l : List Nat) S o S2, oSts ws wg wl (oMK ws wg wl n) u l S = (some o, S2) → KN9 S S2 := by
      intro u l
      induction l with
      | nil => intro S o S2 h; have e : S = S2 := congrArg Prod.snd h; rw [← e]; exact KN_rf
      | cons e l ihl =>
        intro S o S2 h
        obtain ⟨a, S1, h1, h2⟩ := bd9_so h
        obtain ⟨a2, S3, h3, h4⟩ := bd9_so h2
        exact KN_tr (hc _ _ _ _ h1) (KN_tr (KN_e (oSe_e h3).2.1) (ihl _ _ _ h4))
    have h4 : ∀ b u l S o S2, r4 ws wg wl (oMK ws wg wl n) b u l S = (some o, S2) → ∃ S3 w, KN9 S S3 ∧ S2 = oFi wg wl b w S3 := fun b u l S o S2 h => by
      obtain ⟨a, S1, h1, h2⟩ := bd9_so h
      exact ⟨S1, u, ht _ _ _ _ _ h1, (congrArg Prod.snd h2).symm⟩
    have h3 : ∀ b fo vs S o S2, r3 ws wg wl (oMK ws wg wl n) b fo vs S = (some o, S2) → ∃ S3 w, KN9 S S3 ∧ S2 = oFi wg wl b w S3 := fun b fo vs S o S2 h => by
      obtain ⟨a, S1, h1, h2⟩ := bd9_so h
      obtain ⟨S3, w, q1, q2⟩ := h4 _ _ _ _ _ _ h2
      exact ⟨S3, w, KN_tr (KN_e (oBr_w h1).2.2.1) q1, q2⟩
    have h2 : ∀ b fo l acc S o S2, r2 ws wg wl (oMK ws wg wl n) b fo l acc S = (some o, S2) → ∃ S3 w, KN9 S S3 ∧ S2 = oFi wg wl b w S3 := fun b fo l acc S o S2 h => by
      obtain ⟨a, S1, h1, h2⟩ := bd9_so h
      obtain ⟨S3, w, q1, q2⟩ := h3 _ _ _ _ _ _ h2
      exact ⟨S3, w, KN_tr (ha _ _ _ _ _ h1) q1, q2⟩
    have h1 : ∀ b S o S2, r1 ws wg wl (oMK ws wg wl n) b S = (some o, S2) → ∃ S3 w, KN9 S S3 ∧ S2 = oFi wg wl b w S3 := fun b S o S2 h => by
      unfold r1 at h
      split at h
      · exact absurd (congrArg Prod.fst h) (by simp)
      · obtain ⟨a, S1, h1, h3⟩ := bd9_so h
        obtain ⟨S3, w, q1, q2⟩ := h2 _ _ _ _ _ _ _ h3
        refine ⟨S3, w, KN_tr ?_ q1, q2⟩
        unfold oFa at h1
        split at h1
        · have e : S = S1 := congrArg Prod.snd h1
          rw [← e]; exact KN_rf
        · exact hg _ _ _ _ h1
    have h : (if zS S b = 1 then (none, S) else oMB ws wg wl (oMK ws wg wl n) b S) = (some o, S2) := h
    by_cases q : zS S b = 1
    · rw [if_pos q] at h; exact absurd (congrArg Prod.fst h) (by simp)
    · rw [if_neg q] at h
      obtain ⟨a, S1, h5, h6⟩ := bd9_so h
      obtain ⟨S3, w, q1, q2⟩ := h1 _ _ _ _ h6
      have k1 : KN9 (oBe b S) S1 := by
        unfold oDe at h5
        split at h5
        · have e : oBe b S = S1 := congrArg Prod.snd h5
          rw [← e]; exact KN_rf
        · exact hg _ _ _ _ h5
      intro t ht
      rw [q2] at ht
      obtain ⟨p1, p2⟩ := oFi_z ht
      have p3 := k1 t (q1 t p2)
      have e : zS (oBe b S) t = fu9 (zS S) b 1 t := rfl
      rw [e, fu9_ne p1] at p3; exact p3
theorem KN_gt {n : Nat} {t : Int} (h : gtR ws wg wl n t S = (some o, S2)) : KN9 S S2 := by
  unfold gtR at h
  split at h
  · exact absurd (congrArg Prod.fst h) (by simp)
  · split at h
    · exact absurd (congrArg Prod.fst h) (by simp)
    · split at h
      · have e : S = S2 := congrArg Prod.snd h
        rw [← e]; exact KN_rf
      · exact KN_mk _ _ _ _ _ h
theorem NB_st : NB9 (zSt S) := fun t q => by
  have q : (if zS S t = 1 then 0 else zS S t) = 1 := q
  by_cases p : zS S t = 1
  · rw [if_pos p] at q; exact absurd q (by decide)
  · rw [if_neg p] at q; exact p q
theorem NB_k (h : NB9 S) (k : KN9 S S2) : NB9 S2 := fun t q => h t (k t q)
theorem NB_fo (h : NB9 S) : NB9 (zFo S) := fun t q => by
  have q : (if zS S t = 2 then 0 else zS S t) = 1 := q
  by_cases p : zS S t = 2
  · rw [if_pos p] at q; exact absurd q (by decide)
  · rw [if_neg p] at q; exact h t q
theorem dsL_S : ∀ (l : List Nat) S, zS (dsL wg l S) = zS S ∧ zO (dsL wg l S) = zO S
  | [], S => ⟨rfl, rfl⟩
  | x :: l, S => by
    show zS (dsL wg l (if (wg 33 x).toInt = -1 then S else zAdd S (7, zW S x, (wg 33 x).toInt, 0))) = _ ∧ zO (dsL wg l (if (wg 33 x).toInt = -1 then S else zAdd S (7, zW S x, (wg 33 x).toInt, 0))) = _
    have q := dsL_S l (if (wg 33 x).toInt = -1 then S else zAdd S (7, zW S x, (wg 33 x).toInt, 0))
    rw [q.1, q.2]
    by_cases p : (wg 33 x).toInt = -1
    · rw [if_pos p]; exact ⟨rfl, rfl⟩
    · rw [if_neg p, zAdd_S, zAdd_O]; exact ⟨rfl, rfl⟩
theorem NB_cl (h : NB9 S) : NB9 (zCl wg S) := NB_fo (fun t q => h t (by rw [(dsL_S _ _).1] at q; exact q))
theorem WZ_cl : WZ9 wg wl (zCl wg S) := WZ_fo
theorem WF_0 (h : NB9 (zFo S)) : WF9 (zFo S) := fun t ht => by
  rcases ht with q | q
  · have q : (if zS S t = 2 then 0 else zS S t) = 2 := q
    by_cases p : zS S t = 2
    · rw [if_pos p] at q; exact absurd q (by decide)
    · rw [if_neg p] at q; exact absurd q p
  · exact absurd q.1 (h t)
theorem WF_cl (h : NB9 S) : WF9 (zCl wg S) := WF_0 (NB_cl h)
theorem WF_ce (h : WF9 S) : WF9 (zCe S) := h
end KI9
end
section
section KJ9
variable {ws : Nat → Int32} {wg rg gm : Nat → Nat → Int32} {wl lg : Nat → Nat → Int64} {rs sg : Nat → Int32} {S S2 : S9} {b : Nat} {o fo : Int} {vs : List (List Int)}
/-- an element asks for beans of the document alone -/
def GI9 (wg : Nat → Nat → Int32) (nb e : Nat) : Prop := ¬ (wg 25 e).toInt = 7 → ¬ (wg 25 e).toInt = 9 → (wg 27 e).toInt < (nb : Int)
def GD9 (wg : Nat → Nat → Int32) (nb c : Nat) : Prop := ((wg 25 c).toInt = 6 → ∀ e, e ∈ itC wg c → GI9 wg nb e) ∧ ((wg 25 c).toInt = 8 ∨ (wg 25 c).toInt = 2 → (wg 27 c).toInt < (nb : Int))
/-- what each making keeps, of beans of the document -/
theorem MKJ {nb : Nat} (hn : ∀ v, caN ws wg wl v < (nb : Int)) (hs9 : ∀ b, b < nb → (∀ a, a ∈ liL wg (3 * b) → GD9 wg nb (ctE wg a)) ∧ (∀ a, a ∈ liL wg (3 * b + 1) → GD9 wg nb (ctE wg a))) {P : S9 → S9 → Prop} (rf : ∀ S, P S S) (tr : ∀ a b c, P a b → P b c → P a c) (be : ∀ b S, b < nb → ¬ zS S b = 1 → P S (oBe b S)) (br : ∀ b fo vs S, b < nb → P S (oBr wg wl b fo vs S).2) (se : ∀ o h V S, P S (oSe wg wl o h V S).2) (fi : ∀ b o S, b < nb → P S (oFi wg wl b o S)) : ∀ n b S, b < nb → P S (oMK ws wg wl n b S).2
  | 0, b, S, _ => rf S
  | n + 1, b, S, hb => by
    have ih := MKJ hn hs9 rf tr be br se fi n
    have hg : ∀ (t : Int) S, t < (nb : Int) → P S (oGet wg (oMK ws wg wl n) t S).2 := fun t S ht => by
      unfold oGet
      split
      · exact rf S
      · split
        · exact rf S
        · split
          · exact rf S
          · exact ih _ S (by omega)
    have ho : ∀ e S, (wg 27 e).toInt < (nb : Int) → P S (oObj ws wg wl (oMK ws wg wl n) e S).2 := fun e S he => by
      unfold oObj
      split
      · exact hg _ S (hn _)
      · exact ih _ S (by omega)
    have hi : ∀ e S, GI9 wg nb e → P S (oItm ws wg wl (oMK ws wg wl n) e S).2 := fun e S he => by
      unfold oItm
      split
      · exact rf S
      · split
        · exact rf S
        · rename_i q7 q9
          exact bd9_P tr (ho e S (he q7 q9)) (fun a => rf _)
    have hs : ∀ (l : List Nat) (acc : List Int) S, (∀ e, e ∈ l → GI9 wg nb e) → P S (oIts ws wg wl (oMK ws wg wl n) l acc S).2 := by
      intro l
      induction l with
      | nil => intro acc S _; exact rf S
      | cons e l ihl => intro acc S hl; exact bd9_P tr (hi e S (hl e (List.mem_cons_self ..))) (fun a => ihl _ _ (fun x hx => hl x (List.mem_cons_of_mem _ hx)))
    have hc : ∀ c S, GD9 wg nb c → P S (oCon ws wg wl (oMK ws wg wl n) c S).2 := fun c S hg9 => by
      unfold oCon
      split
      · rename_i q6
        exact hs _ _ S (hg9.1 q6)
      · split
        · rename_i q8
          exact bd9_P tr (ho c S (hg9.2 q8)) (fun a => rf _)
        · exact rf S
    have ha : ∀ (l : List Nat) (acc : List (List Int)) S, (∀ a, a ∈ l → GD9 wg nb (ctE wg a)) → P S (oArs ws wg wl (oMK ws wg wl n) l acc S).2 := by
      intro l
      induction l with
      | nil => intro acc S _; exact rf S
      | cons e l ihl => intro acc S hl; exact bd9_P tr (hc _ S (hl e (List.mem_cons_self ..))) (fun a => ihl _ _ (fun x hx => hl x (List.mem_cons_of_mem _ hx)))
    have ht : ∀ (o : Int) (l : List Nat) S, (∀ a, a ∈ l → GD9 wg nb (ctE wg a)) → P S (oSts ws wg wl (oMK ws wg wl n) o l S).2 := by
      intro o l
      induction l with
      | nil => intro S _; exact rf S
      | cons e l ihl => intro S hl; exact bd9_P tr (hc _ S (hl e (List.mem_cons_self ..))) (fun a => bd9_P tr (se o e a _) (fun _ => ihl _ (fun x hx => hl x (List.mem_cons_of_mem _ hx))))
    have h4 : ∀ o S, P S (r4 ws wg wl (oMK ws wg wl n) b o (liL wg (3 * b + 1)) S).2 := fun o S => bd9_P tr (ht o _ S (hs9 b hb).2) (fun _ => fi b o _ hb)
    have h3 : ∀ fo vs S, P S (r3 ws wg wl (oMK ws wg wl n) b fo vs S).2 := fun fo vs S => bd9_P tr (br b fo vs S hb) (fun o => h4 o _)
    have h2 : ∀ fo acc S, P S (r2 ws wg wl (oMK ws wg wl n) b fo (liL wg (3 * b)) acc S).2 := fun fo acc S => bd9_P tr (ha _ acc S (hs9 b hb).1) (fun vs => h3 fo vs _)
    have h1 : ∀ S, P S (r1 ws wg wl (oMK ws wg wl n) b S).2 := fun S => by
      unfold r1
      split
      · exact rf S
      · refine bd9_P tr ?_ (fun fo => h2 fo _ _)
        unfold oFa
        split
        · exact rf S
        · exact hg _ S (hn _)
    show P S (if zS S b = 1 then (none, S) else oMB ws wg wl (oMK ws wg wl n) b S).2
    by_cases q : zS S b = 1
    · rw [if_pos q]; exact rf S
    · rw [if_neg q]
      refine tr _ _ _ (be b S hb q) ?_
      refine bd9_P tr ?_ (fun _ => h1 _)
      unfold oDe
      split
      · exact rf _
      · exact hg _ _ (hn _)
theorem WK_gi {nb e : Nat} (h : WKB ws wg wl rs rg lg e) (hn : (rs 41).toInt ≤ (nb : Int)) : GI9 wg nb e := by
  intro n7 n9
  by_cases hv : hva9 rg lg e
  · exact absurd (h.1 hv).1 n7
  · by_cases h7 : rg 26 e = 7
    · exact absurd (h.2.1 hv h7).1 n7
    · by_cases h9 : rg 26 e = 9
      · exact absurd (h.2.2.1 hv h9) n9
      · by_cases h3 : rg 26 e = 3
        · have q := h.2.2.2.1 hv h3
          rw [q.2.1]; have := q.2.2.2.1; omega
        · have := (h.2.2.2.2 hv h7 h9 h3).2.1; omega
theorem HL_gd {nb a : Nat} (h : HLB ws wg wl rs rg lg a) (hn : (rs 41).toInt ≤ (nb : Int)) : GD9 wg nb (ctE wg a) := by
  by_cases q : rg 26 (inR rs rg lg a).toNatClampNeg = 6
  · have l := h.2.2.2.2.1 q
    refine ⟨fun _ e he => ?_, fun p => by have := l.1; omega⟩
    obtain ⟨k, hk⟩ := List.getElem?_of_mem he
    exact WK_gi (l.2.2.2.2.1 k e hk).2.2 hn
  · have w := h.2.2.2.2.2 q
    exact ⟨fun p => absurd p (WKB_6 w), fun p => WK_gi w hn (by omega) (by omega)⟩
theorem liL_m {q a : Nat} (h : a ∈ liL wg q) : ∃ i, i < (wg 41 q).toNatClampNeg ∧ a = (wg 57 (128 * q + i)).toNatClampNeg := by
  unfold liL at h
  rw [List.mem_map] at h
  obtain ⟨i, hi, e⟩ := h
  exact ⟨i, List.mem_range.mp hi, e.symm⟩
theorem caN_lt (hn : iv 0 80 (ws 12)) (v : Int64) : caN ws wg wl v < ((ws 12).toNatClampNeg : Int) := by
  have c := cln9 hn.1
  unfold caN
  rcases caF_ok (wg := wg) (wl := wl) hn 21 v with q | q
  · rw [q]; show (-1 : Int) < _; omega
  · have := q.2.1; omega
/-- objects are of beans of the document -/
def OB9 (nb : Nat) (S : S9) : Prop := ∀ (k : Nat) (o : Ob9), (zO S)[k]? = some o → 0 ≤ o.2 ∧ o.2 < (nb : Int)
theorem OB_mk (hB : BRG ws wg wl rs rg lg) (h0 : iv 0 80 (ws 12)) (n : Nat) (hb : b < (ws 12).toNatClampNeg) (h : OB9 (ws 12).toNatClampNeg S) : OB9 (ws 12).toNatClampNeg (oMK ws wg wl n b S).2 := by
  have e41 : (rs 41).toNatClampNeg = (ws 12).toNatClampNeg := congrArg Int.toNat hB.1
  have c1 := cln9 h0.1
  have hn : (rs 41).toInt ≤ ((ws 12).toNatClampNeg : Int) := by have := hB.1; omega
  refine MKJ (P := fun S S2 => OB9 (ws 12).toNatClampNeg S → OB9 (ws 12).toNatClampNeg S2) (fun v => caN_lt h0 v) (fun b hb => ?_) (fun _ q => q) (fun _ _ _ h1 h2 q => h2 (h1 q)) ?_ ?_ ?_ ?_ n b S hb h
  · have q := hB.2.1 b (by omega)
    refine ⟨fun a ha => ?_, fun a ha => ?_⟩
    · obtain ⟨i, hi, e⟩ := liL_m ha
      rw [e]; exact HL_gd (q.2.1.2.2.2 i hi).2.2.1 hn
    · obtain ⟨i, hi, e⟩ := liL_m ha
      rw [e]; exact HL_gd (q.2.2.1.2 i hi).2.1 hn
  · intro b S _ _ q; exact q
  · intro b fo vs S hb q
    rcases oBr_2 (wg := wg) (wl := wl) (b := b) (fo := fo) (vs := vs) (S := S) with e | ⟨s, f, e⟩
    · rw [e]; exact q
    · rw [e]
      intro k o hk
      rw [(tlA_S _ _ _).1] at hk
      have e2 : zO (oB2 wg b s S) = zO S ++ [((wg 10 s).toInt, (wg 28 b).toInt)] := by
        unfold oB2
        split <;> (rw [zAdd_O]; rfl)
      rw [e2] at hk
      rcases ga9 hk with ⟨_, p⟩ | ⟨_, p⟩
      · exact q k o p
      · rw [← p, show (wg 28 b).toInt = (b : Int) from (hB.2.1 b (by omega)).1.2.2.1]; exact ⟨by omega, by omega⟩
  · intro o h V S q
    rcases oSe_2 (wg := wg) (wl := wl) (o := o) (h := h) (V := V) (S := S) with e | ⟨t, e⟩
    · rw [e]; exact q
    · rw [e]; unfold OB9; rw [tlV_O]; exact q
  · intro b o S _ q
    unfold OB9; rw [oFi_O]; exact q
theorem OB_gt (hB : BRG ws wg wl rs rg lg) (h0 : iv 0 80 (ws 12)) (n : Nat) (t : Int) (ht : t < ((ws 12).toNatClampNeg : Int)) (h : OB9 (ws 12).toNatClampNeg S) : OB9 (ws 12).toNatClampNeg (gtR ws wg wl n t S).2 := by
  unfold gtR
  split
  · exact h
  · split
    · exact h
    · split
      · exact h
      · exact OB_mk hB h0 n (by omega) h
theorem OB_e {nb : Nat} (h : OB9 nb S) (e : zO S2 = zO S) : OB9 nb S2 := by unfold OB9; rw [e]; exact h
end KJ9
end
section
section PU9
variable {ws : Nat → Int32} {wg rg gm : Nat → Nat → Int32} {wl lg : Nat → Nat → Int64} {rs sg : Nat → Int32} {S S2 S3 : S9} {b k : Nat} {o : Int}
theorem gt_rf {n : Nat} (h : rfW wg wl b) : oGet wg (oMK ws wg wl n) (b : Int) S = gtR ws wg wl n (b : Int) S := by
  unfold oGet gtR
  have h0 : ¬ ((b : Int) < 0) := by omega
  rw [if_neg h0, if_neg h0]
  by_cases h1 : ¬ wg 34 (b : Int).toNat = 0
  · rw [if_pos h1, if_pos h1]
  · rw [if_neg h1, if_neg h1]
    by_cases h2 : wg 35 (b : Int).toNat = 0 ∧ (zS S (b : Int).toNat = 2 ∨ (zS S (b : Int).toNat = 1 ∧ ¬ zW S (b : Int).toNat = -1))
    · rw [if_pos h2, if_pos ⟨⟨h.1, h2.1⟩, h2.2⟩]
    · rw [if_neg h2, if_neg (fun q => h2 ⟨q.1.2, q.2⟩)]
theorem BR_rf {b : Int32} (h : BRG ws wg wl rs rg lg) (hRW : rt9 gm = rg) (hRS : rs9 sg = rs) (hv : iv 0 79 b) (hb : b.toInt < (sg 41).toInt) : rfW wg wl b.toNatClampNeg ↔ (¬ mMny gm lg b.toNatClampNeg ∧ ¬ absR gm lg b.toNatClampNeg ∧ ¬ mWord gm lg (gm 42 b.toNatClampNeg).toNatClampNeg 1818327673 = lg 1 0) := by
  have q := (BR_s h hRS hv hb).2.2.2.2.2.2.2.2.2.2.2.2
  have d := DK_r (lg := lg) hRW hRS
  unfold absR at *
  rw [mMny_k d rfl, mWord_k d.1, mWord_k d.1, show rg 42 = gm 42 from d.2.2.1] at q
  exact q
/-- refresh's loop -/
def RF9 (ws : Nat → Int32) (wg : Nat → Nat → Int32) (wl : Nat → Nat → Int64) (S : S9) (sg : Nat → Int32) (gm : Nat → Nat → Int32) (gd b : Int32) : Prop :=
  (gd.toInt = 1 ∧ (sg 51).toInt = 0 ∧ ∃ S2, RR wg wl S2 sg gm ∧ WF9 S2 ∧ WZ9 wg wl S2 ∧ rfL ws wg wl 81 (ws 12).toNatClampNeg 0 (zCe (zFo S)) = rfL ws wg wl 81 ((ws 12).toNatClampNeg - b.toNatClampNeg) b.toNatClampNeg S2)
  ∨ (gd.toInt = 0 ∧ ∃ S3, RR wg wl (zSt S3) sg gm ∧ WZ9 wg wl (zSt S3) ∧ rfL ws wg wl 81 (ws 12).toNatClampNeg 0 (zCe (zFo S)) = (none, S3))
theorem RF_0 {gd b : Int32} (hg : gd.toInt = 1) (hb : b.toInt = 0) (h5 : (sg 51).toInt = 0) (hR : RR wg wl (zCe (zFo S)) sg gm) (hN : NB9 S) : RF9 ws wg wl S sg gm gd b := by
  have c := cln9 (u := b) (by omega)
  have e : b.toNatClampNeg = 0 := by omega
  refine Or.inl ⟨hg, h5, _, hR, WF_ce (WF_0 (NB_fo hN)), ?_, ?_⟩
  · exact WZ_e (S := zFo S) WZ_fo rfl rfl
  · rw [e]; rfl
theorem RF_n {gd b b2 : Int32} (h : RF9 ws wg wl S sg gm gd b) (hg : ¬ gd.toInt = 0) (h0 : 0 ≤ b.toInt) (hb : b.toInt < (ws 12).toInt) (h2 : b2.toInt = b.toInt + 1) (hw : ¬ rfW wg wl b.toNatClampNeg) : RF9 ws wg wl S sg gm gd b2 := by
  have c := cln9 h0
  have c2 := cln9 (u := b2) (by omega)
  have c3 := cln9 (u := ws 12) (by omega)
  rcases h with ⟨a, c, S2, d, e, f, g⟩ | ⟨a, _⟩
  · refine Or.inl ⟨a, c, S2, d, e, f, ?_⟩
    rw [show b2.toNatClampNeg = b.toNatClampNeg + 1 by omega]; exact rfL_n g (by omega) hw
  · exact absurd a hg
theorem RF_i {gd b : Int32} (h : RF9 ws wg wl S sg gm gd b) (hg : ¬ gd.toInt = 0) : (sg 51).toInt = 0 ∧ ∃ S2, RR wg wl S2 sg gm ∧ WF9 S2 ∧ WZ9 wg wl S2 ∧ rfL ws wg wl 81 (ws 12).toNatClampNeg 0 (zCe (zFo S)) = rfL ws wg wl 81 ((ws 12).toNatClampNeg - b.toNatClampNeg) b.toNatClampNeg S2 := by
  rcases h with q | q
  · exact q.2
  · exact absurd q.1 hg
theorem RF_s {b b2 r : Int32} (hz : WZ9 wg wl S2) (he : rfL ws wg wl 81 (ws 12).toNatClampNeg 0 (zCe (zFo S)) = rfL ws wg wl 81 ((ws 12).toNatClampNeg - b.toNatClampNeg) b.toNatClampNeg S2) (h0 : 0 ≤ b.toInt) (hb : b.toInt < (ws 12).toInt) (h2 : b2.toInt = b.toInt + 1) (hw : rfW wg wl b.toNatClampNeg) (hu : RU9 wg wl (gtR ws wg wl 81 b.toInt S2) sg gm r) : RF9 ws wg wl S sg gm r b2 := by
  have c := cln9 h0
  have c2 := cln9 (u := b2) (by omega)
  have c3 := cln9 (u := ws 12) (by omega)
  have eb : b.toInt = (b.toNatClampNeg : Int) := c.symm
  have z := WZ_gt (ws := ws) 81 b.toInt hz
  obtain ⟨T, a1, a2, ⟨q1, q2, q3⟩ | ⟨q1, q2, T3, q3, q4⟩⟩ := hu
  · rw [q3] at z
    rw [eb] at q3
    refine Or.inl ⟨q1, q2, T, a1, a2, z, ?_⟩
    rw [show b2.toNatClampNeg = b.toNatClampNeg + 1 by omega]; exact rfL_y he (by omega) hw ((gt_rf hw).trans q3)
  · rw [q3] at z
    rw [eb] at q3
    subst q4
    refine Or.inr ⟨q1, T3, a1, WZ_st z, ?_⟩
    exact rfL_x he (by omega) hw ((gt_rf hw).trans q3)
theorem RF_e {gd b : Int32} (h : RF9 ws wg wl S sg gm gd b) (hg : ¬ gd.toInt = 0) (h0 : 0 ≤ b.toInt) (hb : (ws 12).toInt ≤ b.toInt) : ∃ S2, RR wg wl S2 sg gm ∧ WF9 S2 ∧ zRf ws wg wl 81 S = (some ((zO S2).length : Int), S2) := by
  obtain ⟨_, S2, a1, a2, a3, a4⟩ := RF_i h hg
  have c := cln9 h0
  have e : (ws 12).toNatClampNeg - b.toNatClampNeg = 0 := by
    have : (ws 12).toNatClampNeg = (ws 12).toInt.toNat := rfl
    omega
  rw [e] at a4
  exact ⟨S2, a1, a2, zRf_s a4⟩
theorem RF_z {gd b : Int32} (h : RF9 ws wg wl S sg gm gd b) (hg : gd.toInt = 0) : ∃ S3, RR wg wl (zSt S3) sg gm ∧ WZ9 wg wl (zSt S3) ∧ zRf ws wg wl 81 S = (none, zCl wg (zSt S3)) := by
  rcases h with q | ⟨_, S3, a1, a2, a3⟩
  · omega
  · exact ⟨S3, a1, a2, zRf_x a3⟩
theorem zGt_r {n : Nat} {v : Int64} (hn : iv 0 80 (ws 12)) : zGt ws wg wl n v S = zRn (gtR ws wg wl n (caN ws wg wl v) S) := by unfold zGt; rw [gt_nm hn]
theorem RU_g {sg : Nat → Int32} {r : Int32} {v : Int64} {t : Int} (hn : iv 0 80 (ws 12)) (ht : t = caN ws wg wl v) (h : RU9 wg wl (gtR ws wg wl 81 t S) sg gm r) : ∃ S2, RR wg wl S2 sg gm ∧ WF9 S2 ∧ ((r.toInt = 1 ∧ zGt ws wg wl 81 v S = (some (sg 74).toInt, S2)) ∨ (r.toInt = 0 ∧ zGt ws wg wl 81 v S = (none, S2))) := by
  subst ht
  obtain ⟨T, a1, a2, ⟨q1, q2, q3⟩ | ⟨q1, q2, T3, q3, q4⟩⟩ := h
  · exact ⟨T, a1, a2, Or.inl ⟨q1, by rw [zGt_r hn, q3]; rfl⟩⟩
  · exact ⟨T, a1, a2, Or.inr ⟨q1, by rw [zGt_r hn, q3, q4]; rfl⟩⟩
end PU9
end
section
set_option maxHeartbeats 4000000 in
set_option maxRecDepth 100000 in
theorem f_refresh9 (l : Launch) (dC : Nat → ClassId) (dI : Nat → Nat → Nat) (h0 : Nat) (ad : Nat → Nat) (cid : Nat → ClassId) (sg : Nat → Int32) (gm : Nat → Nat → Int32) (lg : Nat → Nat → Int64) (ws : Nat → Int32) (wg : Nat → Nat → Int32) (wl : Nat → Nat → Int64) (rs : Nat → Int32) (rg : Nat → Nat → Int32) (S : S9) (hI : MI sg gm) (hgi : GI0 sg gm lg) (hPR : PR gm) (hmo : MO sg gm) (hdd : (sg 40).toInt = 0 ∨ DOC sg gm lg) (hRW : rt9 gm = rg) (hRS : rs9 sg = rs) (hBRd : (sg 40).toInt = 0 ∨ BRG ws wg wl rs rg lg) (hCL : CLS9 wg rg) (hRR : RR wg wl S sg gm) (hWD : WD9 lg) (hST : STY9 wg) (hST2 : ∀ c n, c < 8 → n < 26 → (wg 55 (26 * c + n)).toInt = -1 ∨ ty9 (wg 55 (26 * c + n)).toInt) (hSBd : (sg 40).toInt = 0 ∨ SB9 ws wg wl) (hWF : WF9 S) (hWZ : WZ9 wg wl S) (hNB : NB9 S) : MMi l dC dI yX13_refresh wm_X13_refresh ({ frames := 12, cells := 0, slots := 0, locals := 300 }) h0 ad cid [] sg gm lg (fun r v => ∃ (sg2 : Nat → Int32) (gm2 : Nat → Nat → Int32) (lg2 : Nat → Nat → Int64), v = (sg2, gm2, lg2) ∧ MI sg2 gm2 ∧ KS [5, 48, 49, 50, 51, 52, 63, 74] sg sg2 ∧ KS [53, 54, 55, 56, 57, 58, 59, 60, 61, 62, 64, 65, 66, 67, 68, 69, 70, 71, 72, 73, 75] gm gm2 ∧ KS [] lg lg2 ∧ (GI0 sg2 gm2 lg2) ∧ (MO sg2 gm2) ∧ (((sg 40).toInt = 0 ∧ (sg2 5).toInt = 1 ∧ RR wg wl S sg2 gm2) ∨ (¬ (sg 40).toInt = 0 ∧ ∃ S2, RR wg wl S2 sg2 gm2 ∧ WF9 S2 ∧ (((sg2 5).toInt = 0 ∧ zRf ws wg wl 81 S = (some r.toInt, S2)) ∨ ((sg2 5).toInt = 2 ∧ zRf ws wg wl 81 S = (none, S2)))))) := by
  intro sz
  refine Met.ofW (cc := cX13_refresh) (maxL := 4) (ret := (some .int)) (by decide) rfl ?_
  intro p e s m args below meth c s₁ B hml hv
  obtain ⟨rfl, hsz, hP, hK, hD0⟩ := hv
  have hx := B.exec
  have hb := B.bytes
  have hr := B.returns
  have hts := atoms_spec (ws := wm_X13_refresh) B.pre
  have htb := fun (w : Cond) (h : w ∈ tb) => hts w (List.mem_cons_of_mem _ h)
  have hown : s.vm.findClass RX13 = some m.cls := findClass_of_methodNamed B.named
  have hlocks := B.notSynchronized
  subst hsz
  have hD := hD0.self (sz := s.heap.size)
  generalize hAe : va_A (mW h0 ad cid sg gm lg) s.heap.size = A at hD ⊢
  have hA : ∀ q : Nat, s.heap.size ≤ q → A q := fun q h => by rw [← hAe]; exact Or.inr h
  have hS : va_S A s.heap s.heap [] := va_S.rf
  have hl := lv_entry ([.ref h0]) (n := 4) (Nat.le_of_ble_eq_true rfl)
  rw [lg_entry_eq]
  generalize (lg_sl ([.ref h0]) ++ List.replicate (4 - (lg_sl ([.ref h0])).length) Slot.unset).toArray = ls at hl ⊢
  have hl : lv_has ls 4 [(0, .ref h0)] := hl
  have hj43 : ∀ (n : Nat) (sg_j43 : Nat → Int32) (gm_j43 : Nat → Nat → Int32) (x2_43 : Int32) (x1_43 : Int32) (_ : (80 - x2_43.toInt).toNat = n) (_ : iv 0 80 x2_43) (_ : iv 0 1 x1_43) (_ : KS [5, 48, 49, 50, 51, 52, 63, 74] sg sg_j43) (_ : KS [53, 54, 55, 56, 57, 58, 59, 60, 61, 62, 64, 65, 66, 67, 68, 69, 70, 71, 72, 73, 75] gm gm_j43) (_ : MI sg_j43 gm_j43) (_ : GI0 sg_j43 gm_j43 lg) (_ : MO sg_j43 gm_j43) (_ : DOC sg gm lg) (_ : ¬ (sg 40).toInt = 0) (_ : BRG ws wg wl rs rg lg) (_ : SB9 ws wg wl) (_ : RF9 ws wg wl S sg_j43 gm_j43 x1_43 x2_43) (H : Heap) (locs : List Loc) (ls : Array Slot), va_P (dC, dI) vwCl (mW h0 ad cid sg_j43 gm_j43 lg) H → va_D A (mW h0 ad cid sg_j43 gm_j43 lg) → va_S A s.heap H locs → lv_has ls 4 [(2, .int x2_43), (1, .int x1_43), (0, .ref h0)] → W p l e (headSpec wm_X13_refresh ({ frames := 12, cells := 0, slots := 0, locals := 300 })).room s m ([.ref h0] : List Value).toArray below meth c H locs 0 0 (MQ below (va_Qi (fun r v => ∃ (sg2 : Nat → Int32) (gm2 : Nat → Nat → Int32) (lg2 : Nat → Nat → Int64), v = (sg2, gm2, lg2) ∧ MI sg2 gm2 ∧ KS [5, 48, 49, 50, 51, 52, 63, 74] sg sg2 ∧ KS [53, 54, 55, 56, 57, 58, 59, 60, 61, 62, 64, 65, 66, 67, 68, 69, 70, 71, 72, 73, 75] gm gm2 ∧ KS [] lg lg2 ∧ (GI0 sg2 gm2 lg2) ∧ (MO sg2 gm2) ∧ (((sg 40).toInt = 0 ∧ (sg2 5).toInt = 1 ∧ RR wg wl S sg2 gm2) ∨ (¬ (sg 40).toInt = 0 ∧ ∃ S2, RR wg wl S2 sg2 gm2 ∧ WF9 S2 ∧ (((sg2 5).toInt = 0 ∧ zRf ws wg wl 81 S = (some r.toInt, S2)) ∨ ((sg2 5).toInt = 2 ∧ zRf ws wg wl 81 S = (none, S2)))))) (MB dC dI h0 ad cid A) A) ([.ref h0] : List Value).toArray s 0 0 A) (F0 m 43 ls []) := by
    intro n
    induction n using Nat.strongRecOn with
    | ind n ih43 =>
      intro sg_j43 gm_j43 x2_43 x1_43 hn43 hx2_43 hx1_43 hks_j43 hkg_j43 hI_j43 hgi hmo hdoc hdc hBR hSB hRF H locs ls hP hD hS hl
      refine lv_iload_n hx hb dX13_refresh_43 rfl (lv_at hl 0 rfl) ?_
      refine lv_aload_n hx hb dX13_refresh_44 rfl (lv_at hl 2 rfl) ?_
      refine mr_get (v := .int (sg_j43 41)) hx hb htb inX13 hown hK hP 41 (by decide) (htb _ kw_1068) rfl dX13_refresh_45 ?_
      refine lv_topi (fun z_1 ez_1 => ?_)
      obtain rfl : (sg 41) = z_1 := (ez_1.trans (hks_j43 41 (by decide))).symm
      refine lv_icmp_ge (tgt := 117) hx hb dX13_refresh_48 (by decide) (fun c_2 => ?_) (fun c_2 => ?_)
      · have d_3 : ((sg 41) : Int32).toInt ≤ (x2_43 : Int32).toInt := Int32.le_iff_toInt_le.mp c_2
        refine lv_iload_n hx hb dX13_refresh_117 rfl (lv_at hl 1 rfl) ?_
        refine lv_if_ne (tgt := 125) hx hb dX13_refresh_118 (by decide) (fun c_4 => ?_) (fun c_4 => ?_)
        · have h_5 : iv 1 1 x1_43 := iv_neL c_4 hx1_43 (by decide)
          refine lv_aload_n hx hb dX13_refresh_125 rfl (lv_at hl 2 rfl) ?_
          refine lv_iload_n hx hb dX13_refresh_126 rfl (lv_at hl 1 rfl) ?_
          refine lv_if_eq (tgt := 134) hx hb dX13_refresh_127 (by decide) (fun c_6 => ?_) (fun c_6 => ?_)
          · have h_7 : iv 1 0 x1_43 := iv_eq c_6 h_5 (iv_k (by decide) : iv 0 0 0) (by decide)
            exact (iv_no h_7 (by decide)).elim
          · refine lv_iconst (v := 0) hx hb dX13_refresh_130 (by decide) ?_
            refine lv_goto (tgt := 135) hx hb dX13_refresh_131 (by decide) ?_
            refine ma_put (x := 0) hx hb htb inX13 hown hK hP hD hS 5 (by decide) (by decide) (htb _ kw_1032) rfl rfl rfl dX13_refresh_135 (fun sg_8 H locs esg_8 hP hD hS => ?_)
            have hI_sg_8 := MI_put hI_j43 esg_8 (iv_k (by decide) : iv 0 0 0) (by decide)
            refine lv_iload_n hx hb dX13_refresh_138 rfl (lv_at hl 1 rfl) ?_
            refine lv_if_eq (tgt := 149) hx hb dX13_refresh_139 (by decide) (fun c_9 => ?_) (fun c_9 => ?_)
            · have h_10 : iv 1 0 x1_43 := iv_eq c_9 h_5 (iv_k (by decide) : iv 0 0 0) (by decide)
              exact (iv_no h_10 (by decide)).elim
            · refine lv_aload_n hx hb dX13_refresh_142 rfl (lv_at hl 2 rfl) ?_
              refine mr_get (v := .int (sg_8 48)) hx hb htb inX13 hown hK hP 48 (by decide) (htb _ kw_1075) rfl dX13_refresh_143 ?_
              refine lv_topi (fun z_11 ez_11 => ?_)
              obtain rfl : (sg_j43 48) = z_11 := (ez_11.trans (up_ne esg_8 (by decide))).symm
              refine lv_goto (tgt := 150) hx hb dX13_refresh_146 (by decide) ?_
              exact W.iret (v := (sg_j43 48)) hx hb hr (fun t ht hW => ⟨⟨(sg_j43 48), (sg_8, gm_j43, lg), rfl, ⟨sg_8, gm_j43, lg, rfl, hI_sg_8, (KS_up (KS_tr (L := [5, 48, 49, 50, 51, 52, 63, 74]) KS_rf hks_j43 (by decide)) esg_8 (by decide)), (KS_tr (L := [53, 54, 55, 56, 57, 58, 59, 60, 61, 62, 64, 65, 66, 67, 68, 69, 70, 71, 72, 73, 75]) KS_rf hkg_j43 (by decide)), KS_rf, ((GI0_of hgi (show KS [5] sg_j43 sg_8 from (KS_up KS_rf esg_8 (by decide))) (show KS [] gm_j43 gm_j43 from KS_rf) (show KS [] lg lg from KS_rf) (by decide) (by decide) (by decide) (by decide) (by decide) (by decide))), ((MO_of hmo (show KS [5] sg_j43 sg_8 from (KS_up KS_rf esg_8 (by decide))) (show KS [] gm_j43 gm_j43 from KS_rf) (by decide) (by decide))), ((by obtain ⟨S2, q1, q2, q3⟩ := RF_e hRF (by have := i32_0; have := i32_1; have := i32_2; have := i32_m1; have := (hx2_43).1; have := (hx2_43).2; have := (h_5).1; have := (h_5).2; have := ((show iv 0 80 (sg 41) from MI_s hI 41)).1; have := ((show iv 0 80 (sg 41) from MI_s hI 41)).2; have := ((show iv 0 60 (sg_j43 48) from MI_s hI_j43 48)).1; have := ((show iv 0 60 (sg_j43 48) from MI_s hI_j43 48)).2; omega) (by have := i32_0; have := i32_1; have := i32_2; have := i32_m1; have := (hx2_43).1; have := (hx2_43).2; have := (h_5).1; have := (h_5).2; have := ((show iv 0 80 (sg 41) from MI_s hI 41)).1; have := ((show iv 0 80 (sg 41) from MI_s hI 41)).2; have := ((show iv 0 60 (sg_j43 48) from MI_s hI_j43 48)).1; have := ((show iv 0 60 (sg_j43 48) from MI_s hI_j43 48)).2; omega) (by have q5 := hBR.1; rw [rs9_41 hRS] at q5; have := i32_0; have := i32_1; have := i32_2; have := i32_m1; have := congrArg Int32.toInt (show sg_8 41 = sg_j43 41 from up_ne esg_8 (by decide)); have := congrArg Int32.toInt (show sg_j43 41 = sg 41 from hks_j43 41 (by decide)); have := (show iv 0 80 (sg 41) from MI_s hI 41).1; have := (show iv 0 80 (sg 41) from MI_s hI 41).2; have := congrArg Int32.toInt (show sg_j43 41 = sg 41 from hks_j43 41 (by decide)); have := (hx2_43).1; have := (hx2_43).2; have := (h_5).1; have := (h_5).2; have := ((show iv 0 80 (sg 41) from MI_s hI 41)).1; have := ((show iv 0 80 (sg 41) from MI_s hI 41)).2; have := ((show iv 0 60 (sg_j43 48) from MI_s hI_j43 48)).1; have := ((show iv 0 60 (sg_j43 48) from MI_s hI_j43 48)).2; omega); exact Or.inr ⟨hdc, S2, (RR_ks q1 (show KS [5] sg_j43 sg_8 from (KS_up KS_rf esg_8 (by decide))) (KS_rf (L := []) (f := gm_j43)) (by decide) (by decide)), q2, Or.inl ⟨(by have := i32_0; have := i32_1; have := i32_2; have := i32_m1; have : (sg_8 5).toInt = 0 := (by rw [up_at esg_8]; rfl); have := (hx2_43).1; have := (hx2_43).2; have := (h_5).1; have := (h_5).2; have := ((show iv 0 80 (sg 41) from MI_s hI 41)).1; have := ((show iv 0 80 (sg 41) from MI_s hI 41)).2; have := ((show iv 0 60 (sg_j43 48) from MI_s hI_j43 48)).1; have := ((show iv 0 60 (sg_j43 48) from MI_s hI_j43 48)).2; omega), (by rw [q3, show ((sg_j43 48)).toInt = ((zO S2).length : Int) from (by have q8 := q1.1.1; have := i32_0; have := i32_1; have := i32_2; have := i32_m1; have := congrArg Int32.toInt (show sg_8 48 = sg_j43 48 from up_ne esg_8 (by decide)); have := (show iv 0 60 (sg_j43 48) from MI_s hI_j43 48).1; have := (show iv 0 60 (sg_j43 48) from MI_s hI_j43 48).2; have := (show iv 0 60 (sg 48) from MI_s hI 48).1; have := (show iv 0 60 (sg 48) from MI_s hI 48).2; have := (show iv 0 60 (sg_j43 48) from MI_s hI_j43 48).1; have := (show iv 0 60 (sg_j43 48) from MI_s hI_j43 48).2; have := (hx2_43).1; have := (hx2_43).2; have := (h_5).1; have := (h_5).2; have := ((show iv 0 80 (sg 41) from MI_s hI 41)).1; have := ((show iv 0 80 (sg 41) from MI_s hI 41)).2; have := ((show iv 0 60 (sg_j43 48) from MI_s hI_j43 48)).1; have := ((show iv 0 60 (sg_j43 48) from MI_s hI_j43 48)).2; have q8 := q8; omega)])⟩⟩))⟩, by rw [ht]; exact hP, va_K.moved hW.alike hK, hD⟩, hS.F ht⟩) hS.2.2 dX13_refresh_150
        · have h_12 : iv 0 0 x1_43 := iv_eq c_4 hx1_43 (iv_k (by decide) : iv 0 0 0) (by decide)
          obtain ⟨S3_, hR3_, hZ3_, hE3_⟩ := RF_z hRF (by have := i32_0; have := i32_1; have := i32_2; have := i32_m1; have := (hx2_43).1; have := (hx2_43).2; have := (h_12).1; have := (h_12).2; have := ((show iv 0 80 (sg 41) from MI_s hI 41)).1; have := ((show iv 0 80 (sg 41) from MI_s hI 41)).2; omega)
          refine lv_aload_n hx hb dX13_refresh_121 rfl (lv_at hl 2 rfl) ?_
          refine mr_callv (rest := []) ⟨hx, hb, hml, hown, htb⟩ (f_shut9 l dC dI h0 ad cid sg_j43 gm_j43 lg ws wg wl rs rg (zSt S3_) hI_j43 (DOC_of hdoc (show KS [5, 48, 49, 50, 51, 52, 63, 74] sg sg_j43 from (KS_tr (L := [5, 48, 49, 50, 51, 52, 63, 74]) KS_rf hks_j43 (by decide))) (show KS [53, 54, 55, 56, 57, 58, 59, 60, 61, 62, 64, 65, 66, 67, 68, 69, 70, 71, 72, 73, 75] gm gm_j43 from (KS_tr (L := [53, 54, 55, 56, 57, 58, 59, 60, 61, 62, 64, 65, 66, 67, 68, 69, 70, 71, 72, 73, 75]) KS_rf hkg_j43 (by decide))) (show KS [] lg lg from KS_rf) (by decide) (by decide) (by decide) (by decide)) hgi hmo ((rt9_ks (L := [53, 54, 55, 56, 57, 58, 59, 60, 61, 62, 64, 65, 66, 67, 68, 69, 70, 71, 72, 73, 75]) (KS_tr (L := [53, 54, 55, 56, 57, 58, 59, 60, 61, 62, 64, 65, 66, 67, 68, 69, 70, 71, 72, 73, 75]) KS_rf hkg_j43 (by decide)) (by decide)).trans hRW) ((rs9_ks (L := [5, 48, 49, 50, 51, 52, 63, 74]) (KS_tr (L := [5, 48, 49, 50, 51, 52, 63, 74]) KS_rf hks_j43 (by decide)) rfl rfl).trans hRS) hBR hR3_ hZ3_) (cwV 0 htb (gd_V kw_1316 kw_1317 kw_144 kw_160 kw_1654) rfl rfl rfl (by decide +kernel) ⟨Nat.le_of_ble_eq_true rfl, Nat.le_of_ble_eq_true rfl⟩) rfl hl.1 rfl (Nat.le_of_ble_eq_true rfl) dX13_refresh_122 ⟨Nat.zero_le _, Nat.zero_le _⟩ hK hP hD hS hA (fun u_14 H locs hw hP hD hS => ?_)
          obtain ⟨sgv_15, gmv_15, lgv_15, rfl, hIv_15, ksv_15, kgv_15, klv_15, fGI_r_13, fMo_r_13, fR9_r_13⟩ := hw
          obtain rfl := KS_nil klv_15
          have hP : va_P (dC, dI) vwCl (mW h0 ad cid sgv_15 gmv_15 lg) H := hP
          have hD : va_D A (mW h0 ad cid sgv_15 gmv_15 lg) := hD
          refine lv_aload_n hx hb dX13_refresh_125 rfl (lv_at hl 2 rfl) ?_
          refine lv_iload_n hx hb dX13_refresh_126 rfl (lv_at hl 1 rfl) ?_
          refine lv_if_eq (tgt := 134) hx hb dX13_refresh_127 (by decide) (fun c_16 => ?_) (fun c_16 => ?_)
          · refine lv_iconst (v := 2) hx hb dX13_refresh_134 (by decide) ?_
            refine ma_put (x := 2) hx hb htb inX13 hown hK hP hD hS 5 (by decide) (by decide) (htb _ kw_1032) rfl rfl rfl dX13_refresh_135 (fun sg_17 H locs esg_17 hP hD hS => ?_)
            have hI_sg_17 := MI_put hIv_15 esg_17 (iv_k (by decide) : iv 2 2 2) (by decide)
            refine lv_iload_n hx hb dX13_refresh_138 rfl (lv_at hl 1 rfl) ?_
            refine lv_if_eq (tgt := 149) hx hb dX13_refresh_139 (by decide) (fun c_18 => ?_) (fun c_18 => ?_)
            · refine lv_iconst (v := 0) hx hb dX13_refresh_149 (by decide) ?_
              exact W.iret (v := 0) hx hb hr (fun t ht hW => ⟨⟨0, (sg_17, gmv_15, lg), rfl, ⟨sg_17, gmv_15, lg, rfl, hI_sg_17, (KS_up (KS_tr (L := [5, 48, 49, 50, 51, 52, 63, 74]) (KS_tr (L := [5, 48, 49, 50, 51, 52, 63, 74]) KS_rf hks_j43 (by decide)) ksv_15 (by decide)) esg_17 (by decide)), (KS_tr (L := [53, 54, 55, 56, 57, 58, 59, 60, 61, 62, 64, 65, 66, 67, 68, 69, 70, 71, 72, 73, 75]) (KS_tr (L := [53, 54, 55, 56, 57, 58, 59, 60, 61, 62, 64, 65, 66, 67, 68, 69, 70, 71, 72, 73, 75]) KS_rf hkg_j43 (by decide)) kgv_15 (by decide)), KS_rf, ((GI0_of fGI_r_13 (show KS [5] sgv_15 sg_17 from (KS_up KS_rf esg_17 (by decide))) (show KS [] gmv_15 gmv_15 from KS_rf) (show KS [] lg lg from KS_rf) (by decide) (by decide) (by decide) (by decide) (by decide) (by decide))), ((MO_of fMo_r_13 (show KS [5] sgv_15 sg_17 from (KS_up KS_rf esg_17 (by decide))) (show KS [] gmv_15 gmv_15 from KS_rf) (by decide) (by decide))), ((Or.inr ⟨hdc, zCl wg (zSt S3_), (RR_ks fR9_r_13 (show KS [5] sgv_15 sg_17 from (KS_up KS_rf esg_17 (by decide))) (KS_rf (L := []) (f := gmv_15)) (by decide) (by decide)), WF_cl NB_st, Or.inr ⟨(by have := i32_0; have := i32_1; have := i32_2; have := i32_m1; have : (sg_17 5).toInt = 2 := (by rw [up_at esg_17]; rfl); have := (hx2_43).1; have := (hx2_43).2; have := (h_12).1; have := (h_12).2; have := ((show iv 0 80 (sg 41) from MI_s hI 41)).1; have := ((show iv 0 80 (sg 41) from MI_s hI 41)).2; omega), hE3_⟩⟩))⟩, by rw [ht]; exact hP, va_K.moved hW.alike hK, hD⟩, hS.F ht⟩) hS.2.2 dX13_refresh_150
            · have h_19 : iv 1 0 x1_43 := iv_neL c_18 h_12 (by decide)
              exact (iv_no h_19 (by decide)).elim
          · have h_20 : iv 1 0 x1_43 := iv_neL c_16 h_12 (by decide)
            exact (iv_no h_20 (by decide)).elim
      · have d_21 : (x2_43 : Int32).toInt < ((sg 41) : Int32).toInt := Int32.lt_iff_toInt_lt.mp (i32_lt c_2)
        have h_22 : iv 0 79 x2_43 := iv_ltL (i32_lt c_2) hx2_43 (show iv 0 80 (sg 41) from MI_s hI 41) (by decide)
        have h_23 : iv 1 80 (sg 41) := iv_ltR (i32_lt c_2) hx2_43 (show iv 0 80 (sg 41) from MI_s hI 41) (by decide)
        refine lv_iload_n hx hb dX13_refresh_51 rfl (lv_at hl 1 rfl) ?_
        refine lv_if_eq (tgt := 117) hx hb dX13_refresh_52 (by decide) (fun c_24 => ?_) (fun c_24 => ?_)
        · have h_25 : iv 0 0 x1_43 := iv_eq c_24 hx1_43 (iv_k (by decide) : iv 0 0 0) (by decide)
          refine lv_iload_n hx hb dX13_refresh_117 rfl (lv_at hl 1 rfl) ?_
          refine lv_if_ne (tgt := 125) hx hb dX13_refresh_118 (by decide) (fun c_26 => ?_) (fun c_26 => ?_)
          · have h_27 : iv 1 0 x1_43 := iv_neL c_26 h_25 (by decide)
            exact (iv_no h_27 (by decide)).elim
          · obtain ⟨S3_, hR3_, hZ3_, hE3_⟩ := RF_z hRF (by have := i32_0; have := i32_1; have := i32_2; have := i32_m1; have := (h_22).1; have := (h_22).2; have := (h_25).1; have := (h_25).2; have := (h_23).1; have := (h_23).2; omega)
            refine lv_aload_n hx hb dX13_refresh_121 rfl (lv_at hl 2 rfl) ?_
            refine mr_callv (rest := []) ⟨hx, hb, hml, hown, htb⟩ (f_shut9 l dC dI h0 ad cid sg_j43 gm_j43 lg ws wg wl rs rg (zSt S3_) hI_j43 (DOC_of hdoc (show KS [5, 48, 49, 50, 51, 52, 63, 74] sg sg_j43 from (KS_tr (L := [5, 48, 49, 50, 51, 52, 63, 74]) KS_rf hks_j43 (by decide))) (show KS [53, 54, 55, 56, 57, 58, 59, 60, 61, 62, 64, 65, 66, 67, 68, 69, 70, 71, 72, 73, 75] gm gm_j43 from (KS_tr (L := [53, 54, 55, 56, 57, 58, 59, 60, 61, 62, 64, 65, 66, 67, 68, 69, 70, 71, 72, 73, 75]) KS_rf hkg_j43 (by decide))) (show KS [] lg lg from KS_rf) (by decide) (by decide) (by decide) (by decide)) hgi hmo ((rt9_ks (L := [53, 54, 55, 56, 57, 58, 59, 60, 61, 62, 64, 65, 66, 67, 68, 69, 70, 71, 72, 73, 75]) (KS_tr (L := [53, 54, 55, 56, 57, 58, 59, 60, 61, 62, 64, 65, 66, 67, 68, 69, 70, 71, 72, 73, 75]) KS_rf hkg_j43 (by decide)) (by decide)).trans hRW) ((rs9_ks (L := [5, 48, 49, 50, 51, 52, 63, 74]) (KS_tr (L := [5, 48, 49, 50, 51, 52, 63, 74]) KS_rf hks_j43 (by decide)) rfl rfl).trans hRS) hBR hR3_ hZ3_) (cwV 0 htb (gd_V kw_1316 kw_1317 kw_144 kw_160 kw_1654) rfl rfl rfl (by decide +kernel) ⟨Nat.le_of_ble_eq_true rfl, Nat.le_of_ble_eq_true rfl⟩) rfl hl.1 rfl (Nat.le_of_ble_eq_true rfl) dX13_refresh_122 ⟨Nat.zero_le _, Nat.zero_le _⟩ hK hP hD hS hA (fun u_29 H locs hw hP hD hS => ?_)
            obtain ⟨sgv_30, gmv_30, lgv_30, rfl, hIv_30, ksv_30, kgv_30, klv_30, fGI_r_28, fMo_r_28, fR9_r_28⟩ := hw
            obtain rfl := KS_nil klv_30
            have hP : va_P (dC, dI) vwCl (mW h0 ad cid sgv_30 gmv_30 lg) H := hP
            have hD : va_D A (mW h0 ad cid sgv_30 gmv_30 lg) := hD
            refine lv_aload_n hx hb dX13_refresh_125 rfl (lv_at hl 2 rfl) ?_
            refine lv_iload_n hx hb dX13_refresh_126 rfl (lv_at hl 1 rfl) ?_
            refine lv_if_eq (tgt := 134) hx hb dX13_refresh_127 (by decide) (fun c_31 => ?_) (fun c_31 => ?_)
            · refine lv_iconst (v := 2) hx hb dX13_refresh_134 (by decide) ?_
              refine ma_put (x := 2) hx hb htb inX13 hown hK hP hD hS 5 (by decide) (by decide) (htb _ kw_1032) rfl rfl rfl dX13_refresh_135 (fun sg_32 H locs esg_32 hP hD hS => ?_)
              have hI_sg_32 := MI_put hIv_30 esg_32 (iv_k (by decide) : iv 2 2 2) (by decide)
              refine lv_iload_n hx hb dX13_refresh_138 rfl (lv_at hl 1 rfl) ?_
              refine lv_if_eq (tgt := 149) hx hb dX13_refresh_139 (by decide) (fun c_33 => ?_) (fun c_33 => ?_)
              · refine lv_iconst (v := 0) hx hb dX13_refresh_149 (by decide) ?_
                exact W.iret (v := 0) hx hb hr (fun t ht hW => ⟨⟨0, (sg_32, gmv_30, lg), rfl, ⟨sg_32, gmv_30, lg, rfl, hI_sg_32, (KS_up (KS_tr (L := [5, 48, 49, 50, 51, 52, 63, 74]) (KS_tr (L := [5, 48, 49, 50, 51, 52, 63, 74]) KS_rf hks_j43 (by decide)) ksv_30 (by decide)) esg_32 (by decide)), (KS_tr (L := [53, 54, 55, 56, 57, 58, 59, 60, 61, 62, 64, 65, 66, 67, 68, 69, 70, 71, 72, 73, 75]) (KS_tr (L := [53, 54, 55, 56, 57, 58, 59, 60, 61, 62, 64, 65, 66, 67, 68, 69, 70, 71, 72, 73, 75]) KS_rf hkg_j43 (by decide)) kgv_30 (by decide)), KS_rf, ((GI0_of fGI_r_28 (show KS [5] sgv_30 sg_32 from (KS_up KS_rf esg_32 (by decide))) (show KS [] gmv_30 gmv_30 from KS_rf) (show KS [] lg lg from KS_rf) (by decide) (by decide) (by decide) (by decide) (by decide) (by decide))), ((MO_of fMo_r_28 (show KS [5] sgv_30 sg_32 from (KS_up KS_rf esg_32 (by decide))) (show KS [] gmv_30 gmv_30 from KS_rf) (by decide) (by decide))), ((Or.inr ⟨hdc, zCl wg (zSt S3_), (RR_ks fR9_r_28 (show KS [5] sgv_30 sg_32 from (KS_up KS_rf esg_32 (by decide))) (KS_rf (L := []) (f := gmv_30)) (by decide) (by decide)), WF_cl NB_st, Or.inr ⟨(by have := i32_0; have := i32_1; have := i32_2; have := i32_m1; have : (sg_32 5).toInt = 2 := (by rw [up_at esg_32]; rfl); have := (h_22).1; have := (h_22).2; have := (h_25).1; have := (h_25).2; have := (h_23).1; have := (h_23).2; omega), hE3_⟩⟩))⟩, by rw [ht]; exact hP, va_K.moved hW.alike hK, hD⟩, hS.F ht⟩) hS.2.2 dX13_refresh_150
              · have h_34 : iv 1 0 x1_43 := iv_neL c_33 h_25 (by decide)
                exact (iv_no h_34 (by decide)).elim
            · have h_35 : iv 1 0 x1_43 := iv_neL c_31 h_25 (by decide)
              exact (iv_no h_35 (by decide)).elim
        · have h_36 : iv 1 1 x1_43 := iv_neL c_24 hx1_43 (by decide)
          refine lv_aload_n hx hb dX13_refresh_55 rfl (lv_at hl 2 rfl) ?_
          refine mr_get (v := .ref (ad 42)) hx hb htb inX13 hown hK hP 42 (by decide) (htb _ kw_1069) rfl dX13_refresh_56 ?_
          refine lv_iload_n hx hb dX13_refresh_59 rfl (lv_at hl 0 rfl) ?_
          refine mr_iald hx hb hK hP 33 (k := 42) rfl rfl rfl (show vp_in x2_43 80 from (iv_in h_22 (by decide))) dX13_refresh_60 ?_
          refine lv_topi (fun z_37 ez_37 => ?_)
          have hz_37 : iv 0 79 z_37 := iv_of ez_37 (MI_a hI_j43 42 h_22 (by decide))
          have ez_37 := ez_37.trans (congrFun (hkg_j43 42 (by decide)) _)
          refine lv_istore_n (lv' := [(3, .int z_37), (2, .int x2_43), (1, .int x1_43), (0, .ref h0)]) hx hb dX13_refresh_61 rfl hl (by decide) rfl (fun ls hl => ?_)
          refine lv_aload_n hx hb dX13_refresh_62 rfl (lv_at hl 3 rfl) ?_
          refine mr_get (v := .ref (ad 28)) hx hb htb inX13 hown hK hP 28 (by decide) (htb _ kw_1055) rfl dX13_refresh_63 ?_
          refine lv_iload_n hx hb dX13_refresh_66 rfl (lv_at hl 0 rfl) ?_
          refine mr_iald hx hb hK hP 21 (k := 28) rfl rfl rfl (show vp_in z_37 80 from (iv_in hz_37 (by decide))) dX13_refresh_67 ?_
          refine lv_topi (fun z_38 ez_38 => ?_)
          have hz_38 : iv (-1) 79 z_38 := iv_of ez_38 (MI_a hI_j43 28 hz_37 (by decide))
          have ez_38 := ez_38.trans (congrFun (hkg_j43 28 (by decide)) _)
          refine lv_if_ne (tgt := 111) hx hb dX13_refresh_68 (by decide) (fun c_39 => ?_) (fun c_39 => ?_)
          · have d_40 : ¬ (z_38 : Int32).toInt = 0 := lv_neT c_39 rfl
            obtain ⟨z_41, ez_41⟩ : ∃ z : Int32, z = x2_43 + 1 := ⟨_, rfl⟩
            have hz_41 : iv 1 80 z_41 := iv_of ez_41 (iv_add h_22 (iv_k (by decide) : iv 1 1 1) (by decide))
            have tz_41 : z_41.toInt = x2_43.toInt + 1 := by rw [ez_41]; exact iv_addE h_22 (iv_k (by decide) : iv 1 1 1) (by decide)
            refine lv_iinc (v := z_41) (lv' := [(2, .int z_41), (3, .int z_37), (1, .int x1_43), (0, .ref h0)]) hx hb dX13_refresh_111 hl (k := 1) rfl ez_41.symm (by decide) rfl (fun ls hl => ?_)
            refine lv_goto (tgt := 43) hx hb dX13_refresh_114 (by decide) ?_
            exact ih43 _ (by rw [← hn43]; exact (iv_meas tz_41 h_22 (by decide))) sg_j43 gm_j43 z_41 x1_43 rfl (iv_w hz_41 (by decide)) (iv_w h_36 (by decide)) (KS_tr (L := [5, 48, 49, 50, 51, 52, 63, 74]) KS_rf hks_j43 (by decide)) (KS_tr (L := [53, 54, 55, 56, 57, 58, 59, 60, 61, 62, 64, 65, 66, 67, 68, 69, 70, 71, 72, 73, 75]) KS_rf hkg_j43 (by decide)) hI_j43 (hgi) (hmo) (hdoc) (hdc) (hBR) (hSB) ((RF_n hRF (by have := i32_0; have := i32_1; have := i32_2; have := i32_m1; have := (h_22).1; have := (h_22).2; have := (h_36).1; have := (h_36).2; have := (h_23).1; have := (h_23).2; have := (hz_37).1; have := (hz_37).2; have := (hz_38).1; have := (hz_38).2; have := (hz_41).1; have := (hz_41).2; omega) (h_22).1 (by have q5 := hBR.1; rw [rs9_41 hRS] at q5; have := i32_0; have := i32_1; have := i32_2; have := i32_m1; have := congrArg Int32.toInt (show sg_j43 41 = sg 41 from hks_j43 41 (by decide)); have := (show iv 0 80 (sg 41) from MI_s hI 41).1; have := (show iv 0 80 (sg 41) from MI_s hI 41).2; have := (h_22).1; have := (h_22).2; have := (h_36).1; have := (h_36).2; have := (h_23).1; have := (h_23).2; have := (hz_37).1; have := (hz_37).2; have := (hz_38).1; have := (hz_38).2; have := (hz_41).1; have := (hz_41).2; omega) tz_41 (fun q => ((BR_rf hBR ((rt9_ks (L := [53, 54, 55, 56, 57, 58, 59, 60, 61, 62, 64, 65, 66, 67, 68, 69, 70, 71, 72, 73, 75]) (KS_tr (L := [53, 54, 55, 56, 57, 58, 59, 60, 61, 62, 64, 65, 66, 67, 68, 69, 70, 71, 72, 73, 75]) KS_rf hkg_j43 (by decide)) (by decide)).trans hRW) ((rs9_ks (L := [5, 48, 49, 50, 51, 52, 63, 74]) (KS_tr (L := [5, 48, 49, 50, 51, 52, 63, 74]) KS_rf hks_j43 (by decide)) rfl rfl).trans hRS) h_22 (by have := i32_0; have := i32_1; have := i32_2; have := i32_m1; have := congrArg Int32.toInt (show sg_j43 41 = sg 41 from hks_j43 41 (by decide)); have := (show iv 0 80 (sg 41) from MI_s hI 41).1; have := (show iv 0 80 (sg 41) from MI_s hI 41).2; have := (h_22).1; have := (h_22).2; have := (h_36).1; have := (h_36).2; have := (h_23).1; have := (h_23).2; have := (hz_37).1; have := (hz_37).2; have := (hz_38).1; have := (hz_38).2; have := (hz_41).1; have := (hz_41).2; omega)).mp q).1 (Or.inl (by rw [← (show z_37 = gm_j43 42 x2_43.toNatClampNeg from (ez_37.trans (by rw [show gm_j43 42 = gm 42 from (hkg_j43 42 (by decide))]))), ← (show z_38 = gm_j43 28 z_37.toNatClampNeg from ez_38.trans (by rw [show gm_j43 28 = gm 28 from (hkg_j43 28 (by decide))]))]; exact c_39))))) _ _ _ hP hD hS (lv_sub hl [0, 2, 3] rfl)
          · have h_42 : iv 0 0 z_38 := iv_eq c_39 hz_38 (iv_k (by decide) : iv 0 0 0) (by decide)
            refine lv_aload_n hx hb dX13_refresh_71 rfl (lv_at hl 3 rfl) ?_
            refine lv_iload_n hx hb dX13_refresh_72 rfl (lv_at hl 1 rfl) ?_
            refine mr_calli (rest := []) ⟨hx, hb, hml, hown, htb⟩ (f_isAbstract9 l dC dI h0 ad cid sg_j43 gm_j43 lg x2_43 hI_j43 h_22) (cwV 1 htb (gd_V kw_1241 kw_1242 kw_109 kw_160 kw_1619) rfl rfl rfl (by decide +kernel) ⟨Nat.le_of_ble_eq_true rfl, Nat.le_of_ble_eq_true rfl⟩) rfl hl.1 rfl (Nat.le_of_ble_eq_true rfl) dX13_refresh_73 ⟨Nat.zero_le _, Nat.zero_le _⟩ hK hP hD hS hA (fun r_43 u_44 H locs hw hP hD hS => ?_)
            obtain ⟨hr_43, fAb_r_43, rfl⟩ := hw
            have hP : va_P (dC, dI) vwCl (mW h0 ad cid sg_j43 gm_j43 lg) H := hP
            have hD : va_D A (mW h0 ad cid sg_j43 gm_j43 lg) := hD
            refine lv_if_ne (tgt := 111) hx hb dX13_refresh_76 (by decide) (fun c_45 => ?_) (fun c_45 => ?_)
            · have h_46 : iv 1 1 r_43 := iv_neL c_45 hr_43 (by decide)
              obtain ⟨z_47, ez_47⟩ : ∃ z : Int32, z = x2_43 + 1 := ⟨_, rfl⟩
              have hz_47 : iv 1 80 z_47 := iv_of ez_47 (iv_add h_22 (iv_k (by decide) : iv 1 1 1) (by decide))
              have tz_47 : z_47.toInt = x2_43.toInt + 1 := by rw [ez_47]; exact iv_addE h_22 (iv_k (by decide) : iv 1 1 1) (by decide)
              refine lv_iinc (v := z_47) (lv' := [(2, .int z_47), (3, .int z_37), (1, .int x1_43), (0, .ref h0)]) hx hb dX13_refresh_111 hl (k := 1) rfl ez_47.symm (by decide) rfl (fun ls hl => ?_)
              refine lv_goto (tgt := 43) hx hb dX13_refresh_114 (by decide) ?_
              exact ih43 _ (by rw [← hn43]; exact (iv_meas tz_47 h_22 (by decide))) sg_j43 gm_j43 z_47 x1_43 rfl (iv_w hz_47 (by decide)) (iv_w h_36 (by decide)) (KS_tr (L := [5, 48, 49, 50, 51, 52, 63, 74]) KS_rf hks_j43 (by decide)) (KS_tr (L := [53, 54, 55, 56, 57, 58, 59, 60, 61, 62, 64, 65, 66, 67, 68, 69, 70, 71, 72, 73, 75]) KS_rf hkg_j43 (by decide)) hI_j43 (hgi) (hmo) (hdoc) (hdc) (hBR) (hSB) ((RF_n hRF (by have := i32_0; have := i32_1; have := i32_2; have := i32_m1; have := (h_22).1; have := (h_22).2; have := (h_36).1; have := (h_36).2; have := (h_23).1; have := (h_23).2; have := (hz_37).1; have := (hz_37).2; have := (h_42).1; have := (h_42).2; have := (h_46).1; have := (h_46).2; have := (hz_47).1; have := (hz_47).2; omega) (h_22).1 (by have q5 := hBR.1; rw [rs9_41 hRS] at q5; have := i32_0; have := i32_1; have := i32_2; have := i32_m1; have := congrArg Int32.toInt (show sg_j43 41 = sg 41 from hks_j43 41 (by decide)); have := (show iv 0 80 (sg 41) from MI_s hI 41).1; have := (show iv 0 80 (sg 41) from MI_s hI 41).2; have := (h_22).1; have := (h_22).2; have := (h_36).1; have := (h_36).2; have := (h_23).1; have := (h_23).2; have := (hz_37).1; have := (hz_37).2; have := (h_42).1; have := (h_42).2; have := (h_46).1; have := (h_46).2; have := (hz_47).1; have := (hz_47).2; omega) tz_47 (fun q => ((BR_rf hBR ((rt9_ks (L := [53, 54, 55, 56, 57, 58, 59, 60, 61, 62, 64, 65, 66, 67, 68, 69, 70, 71, 72, 73, 75]) (KS_tr (L := [53, 54, 55, 56, 57, 58, 59, 60, 61, 62, 64, 65, 66, 67, 68, 69, 70, 71, 72, 73, 75]) KS_rf hkg_j43 (by decide)) (by decide)).trans hRW) ((rs9_ks (L := [5, 48, 49, 50, 51, 52, 63, 74]) (KS_tr (L := [5, 48, 49, 50, 51, 52, 63, 74]) KS_rf hks_j43 (by decide)) rfl rfl).trans hRS) h_22 (by have := i32_0; have := i32_1; have := i32_2; have := i32_m1; have := congrArg Int32.toInt (show sg_j43 41 = sg 41 from hks_j43 41 (by decide)); have := (show iv 0 80 (sg 41) from MI_s hI 41).1; have := (show iv 0 80 (sg 41) from MI_s hI 41).2; have := (h_22).1; have := (h_22).2; have := (h_36).1; have := (h_36).2; have := (h_23).1; have := (h_23).2; have := (hz_37).1; have := (hz_37).2; have := (h_42).1; have := (h_42).2; have := (h_46).1; have := (h_46).2; have := (hz_47).1; have := (hz_47).2; omega)).mp q).2.1 (fAb_r_43.resolve_right (fun q8 => absurd q8.1 (by have := i32_0; have := i32_1; have := i32_2; have := i32_m1; have := (h_22).1; have := (h_22).2; have := (h_36).1; have := (h_36).2; have := (h_23).1; have := (h_23).2; have := (hz_37).1; have := (hz_37).2; have := (h_42).1; have := (h_42).2; have := (h_46).1; have := (h_46).2; have := (hz_47).1; have := (hz_47).2; omega))).2))) _ _ _ hP hD hS (lv_sub hl [0, 2, 3] rfl)
            · have h_48 : iv 0 0 r_43 := iv_eq c_45 hr_43 (iv_k (by decide) : iv 0 0 0) (by decide)
              refine lv_aload_n hx hb dX13_refresh_79 rfl (lv_at hl 3 rfl) ?_
              refine lv_iload_n hx hb dX13_refresh_80 rfl (lv_at hl 1 rfl) ?_
              refine mr_calli (rest := []) ⟨hx, hb, hml, hown, htb⟩ (f_isMany l dC dI h0 ad cid sg_j43 gm_j43 lg x2_43 hI_j43 h_22) (cwV 1 htb (gd_V kw_1243 kw_1244 kw_110 kw_160 kw_1620) rfl rfl rfl (by decide +kernel) ⟨Nat.le_of_ble_eq_true rfl, Nat.le_of_ble_eq_true rfl⟩) rfl hl.1 rfl (Nat.le_of_ble_eq_true rfl) dX13_refresh_81 ⟨Nat.zero_le _, Nat.zero_le _⟩ hK hP hD hS hA (fun r_49 u_50 H locs hw hP hD hS => ?_)
              obtain ⟨hr_49, fY_r_49, rfl⟩ := hw
              have hP : va_P (dC, dI) vwCl (mW h0 ad cid sg_j43 gm_j43 lg) H := hP
              have hD : va_D A (mW h0 ad cid sg_j43 gm_j43 lg) := hD
              refine lv_if_ne (tgt := 111) hx hb dX13_refresh_84 (by decide) (fun c_51 => ?_) (fun c_51 => ?_)
              · have h_52 : iv 1 1 r_49 := iv_neL c_51 hr_49 (by decide)
                obtain ⟨z_53, ez_53⟩ : ∃ z : Int32, z = x2_43 + 1 := ⟨_, rfl⟩
                have hz_53 : iv 1 80 z_53 := iv_of ez_53 (iv_add h_22 (iv_k (by decide) : iv 1 1 1) (by decide))
                have tz_53 : z_53.toInt = x2_43.toInt + 1 := by rw [ez_53]; exact iv_addE h_22 (iv_k (by decide) : iv 1 1 1) (by decide)
                refine lv_iinc (v := z_53) (lv' := [(2, .int z_53), (3, .int z_37), (1, .int x1_43), (0, .ref h0)]) hx hb dX13_refresh_111 hl (k := 1) rfl ez_53.symm (by decide) rfl (fun ls hl => ?_)
                refine lv_goto (tgt := 43) hx hb dX13_refresh_114 (by decide) ?_
                exact ih43 _ (by rw [← hn43]; exact (iv_meas tz_53 h_22 (by decide))) sg_j43 gm_j43 z_53 x1_43 rfl (iv_w hz_53 (by decide)) (iv_w h_36 (by decide)) (KS_tr (L := [5, 48, 49, 50, 51, 52, 63, 74]) KS_rf hks_j43 (by decide)) (KS_tr (L := [53, 54, 55, 56, 57, 58, 59, 60, 61, 62, 64, 65, 66, 67, 68, 69, 70, 71, 72, 73, 75]) KS_rf hkg_j43 (by decide)) hI_j43 (hgi) (hmo) (hdoc) (hdc) (hBR) (hSB) ((RF_n hRF (by have := i32_0; have := i32_1; have := i32_2; have := i32_m1; have := (h_22).1; have := (h_22).2; have := (h_36).1; have := (h_36).2; have := (h_23).1; have := (h_23).2; have := (hz_37).1; have := (hz_37).2; have := (h_42).1; have := (h_42).2; have := (h_48).1; have := (h_48).2; have := (h_52).1; have := (h_52).2; have := (hz_53).1; have := (hz_53).2; omega) (h_22).1 (by have q5 := hBR.1; rw [rs9_41 hRS] at q5; have := i32_0; have := i32_1; have := i32_2; have := i32_m1; have := congrArg Int32.toInt (show sg_j43 41 = sg 41 from hks_j43 41 (by decide)); have := (show iv 0 80 (sg 41) from MI_s hI 41).1; have := (show iv 0 80 (sg 41) from MI_s hI 41).2; have := (h_22).1; have := (h_22).2; have := (h_36).1; have := (h_36).2; have := (h_23).1; have := (h_23).2; have := (hz_37).1; have := (hz_37).2; have := (h_42).1; have := (h_42).2; have := (h_48).1; have := (h_48).2; have := (h_52).1; have := (h_52).2; have := (hz_53).1; have := (hz_53).2; omega) tz_53 (fun q => ((BR_rf hBR ((rt9_ks (L := [53, 54, 55, 56, 57, 58, 59, 60, 61, 62, 64, 65, 66, 67, 68, 69, 70, 71, 72, 73, 75]) (KS_tr (L := [53, 54, 55, 56, 57, 58, 59, 60, 61, 62, 64, 65, 66, 67, 68, 69, 70, 71, 72, 73, 75]) KS_rf hkg_j43 (by decide)) (by decide)).trans hRW) ((rs9_ks (L := [5, 48, 49, 50, 51, 52, 63, 74]) (KS_tr (L := [5, 48, 49, 50, 51, 52, 63, 74]) KS_rf hks_j43 (by decide)) rfl rfl).trans hRS) h_22 (by have := i32_0; have := i32_1; have := i32_2; have := i32_m1; have := congrArg Int32.toInt (show sg_j43 41 = sg 41 from hks_j43 41 (by decide)); have := (show iv 0 80 (sg 41) from MI_s hI 41).1; have := (show iv 0 80 (sg 41) from MI_s hI 41).2; have := (h_22).1; have := (h_22).2; have := (h_36).1; have := (h_36).2; have := (h_23).1; have := (h_23).2; have := (hz_37).1; have := (hz_37).2; have := (h_42).1; have := (h_42).2; have := (h_48).1; have := (h_48).2; have := (h_52).1; have := (h_52).2; have := (hz_53).1; have := (hz_53).2; omega)).mp q).1 (fY_r_49.resolve_left (fun q8 => absurd q8.1 (by have := i32_0; have := i32_1; have := i32_2; have := i32_m1; have := (h_22).1; have := (h_22).2; have := (h_36).1; have := (h_36).2; have := (h_23).1; have := (h_23).2; have := (hz_37).1; have := (hz_37).2; have := (h_42).1; have := (h_42).2; have := (h_48).1; have := (h_48).2; have := (h_52).1; have := (h_52).2; have := (hz_53).1; have := (hz_53).2; omega))).2))) _ _ _ hP hD hS (lv_sub hl [0, 2, 3] rfl)
              · have h_54 : iv 0 0 r_49 := iv_eq c_51 hr_49 (iv_k (by decide) : iv 0 0 0) (by decide)
                refine lv_aload_n hx hb dX13_refresh_87 rfl (lv_at hl 3 rfl) ?_
                refine lv_iload_n hx hb dX13_refresh_88 rfl (lv_at hl 0 rfl) ?_
                refine lv_ldc2 (own := RX13) (v := 1818327673) hx hb hown (htb _ kw_1185) dX13_refresh_89 ?_
                refine mr_calll (rest := []) ⟨hx, hb, hml, hown, htb⟩ (f_word l dC dI h0 ad cid sg_j43 gm_j43 lg z_37 1818327673 hI_j43 hz_37) (cwV 2 htb (gd_V kw_1201 kw_1202 kw_96 kw_160 kw_1603) rfl rfl rfl (by decide +kernel) ⟨Nat.le_of_ble_eq_true rfl, Nat.le_of_ble_eq_true rfl⟩) rfl hl.1 rfl (Nat.le_of_ble_eq_true rfl) dX13_refresh_92 ⟨Nat.zero_le _, Nat.zero_le _⟩ hK hP hD hS hA (fun r_55 u_56 H locs hw hP hD hS => ?_)
                obtain ⟨fW_r_55, rfl⟩ := hw
                have hP : va_P (dC, dI) vwCl (mW h0 ad cid sg_j43 gm_j43 lg) H := hP
                have hD : va_D A (mW h0 ad cid sg_j43 gm_j43 lg) := hD
                refine lv_aload_n hx hb dX13_refresh_95 rfl (lv_at hl 3 rfl) ?_
                refine mr_get (v := .ref (ad 1)) hx hb htb inX13 hown hK hP 1 (by decide) (htb _ kw_1028) rfl dX13_refresh_96 ?_
                refine lv_iconst (v := 0) hx hb dX13_refresh_99 (by decide) ?_
                refine mr_lald hx hb hK hP 1 (k := 1) rfl rfl rfl (show vp_in 0 11 from (iv_in (iv_k (by decide) : iv 0 0 0) (by decide))) dX13_refresh_100 ?_
                refine lv_topl (fun z_57 ez_57 => ?_)
                refine W.lcmp hx hb dX13_refresh_101 ?_
                refine lv_topi (fun z_58 ez_58 => ?_)
                have hz_58 : iv (-1) 1 z_58 := iv_of ez_58 (iv_cmp _ _)
                refine lv_if_eq (tgt := 111) hx hb dX13_refresh_102 (by decide) (fun c_59 => ?_) (fun c_59 => ?_)
                · have h_60 : iv 0 0 z_58 := iv_eq c_59 hz_58 (iv_k (by decide) : iv 0 0 0) (by decide)
                  obtain ⟨z_61, ez_61⟩ : ∃ z : Int32, z = x2_43 + 1 := ⟨_, rfl⟩
                  have hz_61 : iv 1 80 z_61 := iv_of ez_61 (iv_add h_22 (iv_k (by decide) : iv 1 1 1) (by decide))
                  have tz_61 : z_61.toInt = x2_43.toInt + 1 := by rw [ez_61]; exact iv_addE h_22 (iv_k (by decide) : iv 1 1 1) (by decide)
                  refine lv_iinc (v := z_61) (lv' := [(2, .int z_61), (3, .int z_37), (1, .int x1_43), (0, .ref h0)]) hx hb dX13_refresh_111 hl (k := 1) rfl ez_61.symm (by decide) rfl (fun ls hl => ?_)
                  refine lv_goto (tgt := 43) hx hb dX13_refresh_114 (by decide) ?_
                  exact ih43 _ (by rw [← hn43]; exact (iv_meas tz_61 h_22 (by decide))) sg_j43 gm_j43 z_61 x1_43 rfl (iv_w hz_61 (by decide)) (iv_w h_36 (by decide)) (KS_tr (L := [5, 48, 49, 50, 51, 52, 63, 74]) KS_rf hks_j43 (by decide)) (KS_tr (L := [53, 54, 55, 56, 57, 58, 59, 60, 61, 62, 64, 65, 66, 67, 68, 69, 70, 71, 72, 73, 75]) KS_rf hkg_j43 (by decide)) hI_j43 (hgi) (hmo) (hdoc) (hdc) (hBR) (hSB) ((RF_n hRF (by have := i32_0; have := i32_1; have := i32_2; have := i32_m1; have := (h_22).1; have := (h_22).2; have := (h_36).1; have := (h_36).2; have := (h_23).1; have := (h_23).2; have := (hz_37).1; have := (hz_37).2; have := (h_42).1; have := (h_42).2; have := (h_48).1; have := (h_48).2; have := (h_54).1; have := (h_54).2; have := (h_60).1; have := (h_60).2; have := (hz_61).1; have := (hz_61).2; omega) (h_22).1 (by have q5 := hBR.1; rw [rs9_41 hRS] at q5; have := i32_0; have := i32_1; have := i32_2; have := i32_m1; have := congrArg Int32.toInt (show sg_j43 41 = sg 41 from hks_j43 41 (by decide)); have := (show iv 0 80 (sg 41) from MI_s hI 41).1; have := (show iv 0 80 (sg 41) from MI_s hI 41).2; have := (h_22).1; have := (h_22).2; have := (h_36).1; have := (h_36).2; have := (h_23).1; have := (h_23).2; have := (hz_37).1; have := (hz_37).2; have := (h_42).1; have := (h_42).2; have := (h_48).1; have := (h_48).2; have := (h_54).1; have := (h_54).2; have := (h_60).1; have := (h_60).2; have := (hz_61).1; have := (hz_61).2; omega) tz_61 (fun q => ((BR_rf hBR ((rt9_ks (L := [53, 54, 55, 56, 57, 58, 59, 60, 61, 62, 64, 65, 66, 67, 68, 69, 70, 71, 72, 73, 75]) (KS_tr (L := [53, 54, 55, 56, 57, 58, 59, 60, 61, 62, 64, 65, 66, 67, 68, 69, 70, 71, 72, 73, 75]) KS_rf hkg_j43 (by decide)) (by decide)).trans hRW) ((rs9_ks (L := [5, 48, 49, 50, 51, 52, 63, 74]) (KS_tr (L := [5, 48, 49, 50, 51, 52, 63, 74]) KS_rf hks_j43 (by decide)) rfl rfl).trans hRS) h_22 (by have := i32_0; have := i32_1; have := i32_2; have := i32_m1; have := congrArg Int32.toInt (show sg_j43 41 = sg 41 from hks_j43 41 (by decide)); have := (show iv 0 80 (sg 41) from MI_s hI 41).1; have := (show iv 0 80 (sg 41) from MI_s hI 41).2; have := (h_22).1; have := (h_22).2; have := (h_36).1; have := (h_36).2; have := (h_23).1; have := (h_23).2; have := (hz_37).1; have := (hz_37).2; have := (h_42).1; have := (h_42).2; have := (h_48).1; have := (h_48).2; have := (h_54).1; have := (h_54).2; have := (h_60).1; have := (h_60).2; have := (hz_61).1; have := (hz_61).2; omega)).mp q).2.2 ((show lg_cmp r_55 z_57 = 0 ↔ mWord gm_j43 lg (gm_j43 42 x2_43.toNatClampNeg).toNatClampNeg 1818327673 = lg 1 0 from (by rw [lg_cmp_eq, fW_r_55, ez_57, ez_37, show gm_j43 42 = gm 42 from (hkg_j43 42 (by decide))]; exact Iff.rfl)).mp (ez_58.symm.trans c_59))))) _ _ _ hP hD hS (lv_sub hl [0, 2, 3] rfl)
                · have d_62 : ¬ (z_58 : Int32).toInt = 0 := lv_neT c_59 rfl
                  obtain ⟨h5_, S9_, hR9_, hW9_, hZ9_, hE9_⟩ := RF_i hRF (by have := i32_0; have := i32_1; have := i32_2; have := i32_m1; have := (h_22).1; have := (h_22).2; have := (h_36).1; have := (h_36).2; have := (h_23).1; have := (h_23).2; have := (hz_37).1; have := (hz_37).2; have := (h_42).1; have := (h_42).2; have := (h_48).1; have := (h_48).2; have := (h_54).1; have := (h_54).2; have := (hz_58).1; have := (hz_58).2; omega)
                  have hrf : rfW wg wl x2_43.toNatClampNeg := ((BR_rf hBR ((rt9_ks (L := [53, 54, 55, 56, 57, 58, 59, 60, 61, 62, 64, 65, 66, 67, 68, 69, 70, 71, 72, 73, 75]) (KS_tr (L := [53, 54, 55, 56, 57, 58, 59, 60, 61, 62, 64, 65, 66, 67, 68, 69, 70, 71, 72, 73, 75]) KS_rf hkg_j43 (by decide)) (by decide)).trans hRW) ((rs9_ks (L := [5, 48, 49, 50, 51, 52, 63, 74]) (KS_tr (L := [5, 48, 49, 50, 51, 52, 63, 74]) KS_rf hks_j43 (by decide)) rfl rfl).trans hRS) h_22 (by have := i32_0; have := i32_1; have := i32_2; have := i32_m1; have := congrArg Int32.toInt (show sg_j43 41 = sg 41 from hks_j43 41 (by decide)); have := (show iv 0 80 (sg 41) from MI_s hI 41).1; have := (show iv 0 80 (sg 41) from MI_s hI 41).2; have := (h_22).1; have := (h_22).2; have := (h_36).1; have := (h_36).2; have := (h_23).1; have := (h_23).2; have := (hz_37).1; have := (hz_37).2; have := (h_42).1; have := (h_42).2; have := (h_48).1; have := (h_48).2; have := (h_54).1; have := (h_54).2; have := (hz_58).1; have := (hz_58).2; omega)).mpr ⟨(fY_r_49.resolve_right (fun q8 => absurd q8.1 (by have := i32_0; have := i32_1; have := i32_2; have := i32_m1; have := (h_22).1; have := (h_22).2; have := (h_36).1; have := (h_36).2; have := (h_23).1; have := (h_23).2; have := (hz_37).1; have := (hz_37).2; have := (h_42).1; have := (h_42).2; have := (h_48).1; have := (h_48).2; have := (h_54).1; have := (h_54).2; have := (hz_58).1; have := (hz_58).2; omega))).2, (fAb_r_43.resolve_left (fun q8 => absurd q8.1 (by have := i32_0; have := i32_1; have := i32_2; have := i32_m1; have := (h_22).1; have := (h_22).2; have := (h_36).1; have := (h_36).2; have := (h_23).1; have := (h_23).2; have := (hz_37).1; have := (hz_37).2; have := (h_42).1; have := (h_42).2; have := (h_48).1; have := (h_48).2; have := (h_54).1; have := (h_54).2; have := (hz_58).1; have := (hz_58).2; omega))).2, (fun q => c_59 (ez_58.trans ((show lg_cmp r_55 z_57 = 0 ↔ mWord gm_j43 lg (gm_j43 42 x2_43.toNatClampNeg).toNatClampNeg 1818327673 = lg 1 0 from (by rw [lg_cmp_eq, fW_r_55, ez_57, ez_37, show gm_j43 42 = gm 42 from (hkg_j43 42 (by decide))]; exact Iff.rfl)).mpr q)))⟩)
                  refine lv_aload_n hx hb dX13_refresh_105 rfl (lv_at hl 3 rfl) ?_
                  refine lv_iload_n hx hb dX13_refresh_106 rfl (lv_at hl 1 rfl) ?_
                  refine mr_calli (rest := []) ⟨hx, hb, hml, hown, htb⟩ (f_run9 l dC dI h0 ad cid sg_j43 gm_j43 lg x2_43 ws wg wl rs rg S9_ hI_j43 (iv_w h_22 (by decide)) (DOC_of hdoc (show KS [5, 48, 49, 50, 51, 52, 63, 74] sg sg_j43 from (KS_tr (L := [5, 48, 49, 50, 51, 52, 63, 74]) KS_rf hks_j43 (by decide))) (show KS [53, 54, 55, 56, 57, 58, 59, 60, 61, 62, 64, 65, 66, 67, 68, 69, 70, 71, 72, 73, 75] gm gm_j43 from (KS_tr (L := [53, 54, 55, 56, 57, 58, 59, 60, 61, 62, 64, 65, 66, 67, 68, 69, 70, 71, 72, 73, 75]) KS_rf hkg_j43 (by decide))) (show KS [] lg lg from KS_rf) (by decide) (by decide) (by decide) (by decide)) hgi (by have q9 : PR gm := hPR; unfold PR at *; rw [(hkg_j43 6 (by decide))]; exact q9) hmo (by have := i32_0; have := i32_1; have := i32_2; have := i32_m1; have := congrArg Int32.toInt (show sg_j43 41 = sg 41 from hks_j43 41 (by decide)); have := (show iv 0 80 (sg 41) from MI_s hI 41).1; have := (show iv 0 80 (sg 41) from MI_s hI 41).2; have := (h_22).1; have := (h_22).2; have := (h_36).1; have := (h_36).2; have := (h_23).1; have := (h_23).2; have := (hz_37).1; have := (hz_37).2; have := (h_42).1; have := (h_42).2; have := (h_48).1; have := (h_48).2; have := (h_54).1; have := (h_54).2; have := (hz_58).1; have := (hz_58).2; omega) ((rt9_ks (L := [53, 54, 55, 56, 57, 58, 59, 60, 61, 62, 64, 65, 66, 67, 68, 69, 70, 71, 72, 73, 75]) (KS_tr (L := [53, 54, 55, 56, 57, 58, 59, 60, 61, 62, 64, 65, 66, 67, 68, 69, 70, 71, 72, 73, 75]) KS_rf hkg_j43 (by decide)) (by decide)).trans hRW) ((rs9_ks (L := [5, 48, 49, 50, 51, 52, 63, 74]) (KS_tr (L := [5, 48, 49, 50, 51, 52, 63, 74]) KS_rf hks_j43 (by decide)) rfl rfl).trans hRS) hBR hCL hR9_ hWD hST hST2 hSB hW9_ h5_) (cwV 1 htb (gd_V kw_1245 kw_1246 kw_111 kw_160 kw_1621) rfl rfl rfl (by decide +kernel) ⟨Nat.le_of_ble_eq_true rfl, Nat.le_of_ble_eq_true rfl⟩) rfl hl.1 rfl (Nat.le_of_ble_eq_true rfl) dX13_refresh_107 ⟨Nat.zero_le _, Nat.zero_le _⟩ hK hP hD hS hA (fun r_63 u_64 H locs hw hP hD hS => ?_)
                  obtain ⟨sgv_65, gmv_65, lgv_65, rfl, hIv_65, ksv_65, kgv_65, klv_65, hr_63, fGI_r_63, fMo_r_63, f9_r_63⟩ := hw
                  obtain rfl := KS_nil klv_65
                  have hP : va_P (dC, dI) vwCl (mW h0 ad cid sgv_65 gmv_65 lg) H := hP
                  have hD : va_D A (mW h0 ad cid sgv_65 gmv_65 lg) := hD
                  refine lv_istore_n (lv' := [(1, .int r_63), (3, .int z_37), (2, .int x2_43), (0, .ref h0)]) hx hb dX13_refresh_110 rfl hl (by decide) rfl (fun ls hl => ?_)
                  obtain ⟨z_66, ez_66⟩ : ∃ z : Int32, z = x2_43 + 1 := ⟨_, rfl⟩
                  have hz_66 : iv 1 80 z_66 := iv_of ez_66 (iv_add h_22 (iv_k (by decide) : iv 1 1 1) (by decide))
                  have tz_66 : z_66.toInt = x2_43.toInt + 1 := by rw [ez_66]; exact iv_addE h_22 (iv_k (by decide) : iv 1 1 1) (by decide)
                  refine lv_iinc (v := z_66) (lv' := [(2, .int z_66), (1, .int r_63), (3, .int z_37), (0, .ref h0)]) hx hb dX13_refresh_111 hl (k := 2) rfl ez_66.symm (by decide) rfl (fun ls hl => ?_)
                  refine lv_goto (tgt := 43) hx hb dX13_refresh_114 (by decide) ?_
                  exact ih43 _ (by rw [← hn43]; exact (iv_meas tz_66 h_22 (by decide))) sgv_65 gmv_65 z_66 r_63 rfl (iv_w hz_66 (by decide)) hr_63 (KS_tr (L := [5, 48, 49, 50, 51, 52, 63, 74]) (KS_tr (L := [5, 48, 49, 50, 51, 52, 63, 74]) KS_rf hks_j43 (by decide)) ksv_65 (by decide)) (KS_tr (L := [53, 54, 55, 56, 57, 58, 59, 60, 61, 62, 64, 65, 66, 67, 68, 69, 70, 71, 72, 73, 75]) (KS_tr (L := [53, 54, 55, 56, 57, 58, 59, 60, 61, 62, 64, 65, 66, 67, 68, 69, 70, 71, 72, 73, 75]) KS_rf hkg_j43 (by decide)) kgv_65 (by decide)) hIv_65 (fGI_r_63) (fMo_r_63) (hdoc) (hdc) (hBR) (hSB) ((RF_s hZ9_ hE9_ (h_22).1 (by have q5 := hBR.1; rw [rs9_41 hRS] at q5; have := i32_0; have := i32_1; have := i32_2; have := i32_m1; have := congrArg Int32.toInt (show sgv_65 41 = sg_j43 41 from ksv_65 41 (by decide)); have := congrArg Int32.toInt (show sg_j43 41 = sg 41 from hks_j43 41 (by decide)); have := (show iv 0 80 (sg 41) from MI_s hI 41).1; have := (show iv 0 80 (sg 41) from MI_s hI 41).2; have := congrArg Int32.toInt (show sg_j43 41 = sg 41 from hks_j43 41 (by decide)); have := (h_22).1; have := (h_22).2; have := (h_36).1; have := (h_36).2; have := (h_23).1; have := (h_23).2; have := (hz_37).1; have := (hz_37).2; have := (h_42).1; have := (h_42).2; have := (h_48).1; have := (h_48).2; have := (h_54).1; have := (h_54).2; have := (hz_58).1; have := (hz_58).2; have := (hr_63).1; have := (hr_63).2; have := (hz_66).1; have := (hz_66).2; omega) tz_66 hrf f9_r_63)) _ _ _ hP hD hS (lv_sub hl [0, 1, 3] rfl)
  have hj23 : ∀ (sg_j23 : Nat → Int32) (y0_23 : Int32) (_ : iv 0 1 y0_23) (_ : KS [51, 52] sg sg_j23) (_ : MI sg_j23 gm) (_ : 1 ≤ y0_23.toInt ∨ DOC sg gm lg) (_ : (y0_23.toInt = 1 ∧ (sg 40).toInt = 0) ∨ (y0_23.toInt = 0 ∧ ¬ (sg 40).toInt = 0)) (_ : (sg_j23 51).toInt = 0) (H : Heap) (locs : List Loc) (ls : Array Slot), va_P (dC, dI) vwCl (mW h0 ad cid sg_j23 gm lg) H → va_D A (mW h0 ad cid sg_j23 gm lg) → va_S A s.heap H locs → lv_has ls 4 [(0, .ref h0)] → W p l e (headSpec wm_X13_refresh ({ frames := 12, cells := 0, slots := 0, locals := 300 })).room s m ([.ref h0] : List Value).toArray below meth c H locs 0 0 (MQ below (va_Qi (fun r v => ∃ (sg2 : Nat → Int32) (gm2 : Nat → Nat → Int32) (lg2 : Nat → Nat → Int64), v = (sg2, gm2, lg2) ∧ MI sg2 gm2 ∧ KS [5, 48, 49, 50, 51, 52, 63, 74] sg sg2 ∧ KS [53, 54, 55, 56, 57, 58, 59, 60, 61, 62, 64, 65, 66, 67, 68, 69, 70, 71, 72, 73, 75] gm gm2 ∧ KS [] lg lg2 ∧ (GI0 sg2 gm2 lg2) ∧ (MO sg2 gm2) ∧ (((sg 40).toInt = 0 ∧ (sg2 5).toInt = 1 ∧ RR wg wl S sg2 gm2) ∨ (¬ (sg 40).toInt = 0 ∧ ∃ S2, RR wg wl S2 sg2 gm2 ∧ WF9 S2 ∧ (((sg2 5).toInt = 0 ∧ zRf ws wg wl 81 S = (some r.toInt, S2)) ∨ ((sg2 5).toInt = 2 ∧ zRf ws wg wl 81 S = (none, S2)))))) (MB dC dI h0 ad cid A) A) ([.ref h0] : List Value).toArray s 0 0 A) (F0 m 23 ls [.int y0_23, .ref h0]) := by
    intro sg_j23 y0_23 hy0_23 hks_j23 hI_j23 hd23 h23x h51j H locs ls hP hD hS hl
    refine ma_put (x := y0_23) hx hb htb inX13 hown hK hP hD hS 5 (by decide) (by decide) (htb _ kw_1032) rfl rfl rfl dX13_refresh_23 (fun sg_67 H locs esg_67 hP hD hS => ?_)
    have hI_sg_67 := MI_put hI_j23 esg_67 hy0_23 (by decide)
    refine lv_aload_n hx hb dX13_refresh_26 rfl (lv_at hl 0 rfl) ?_
    refine mr_get (v := .int (sg_67 5)) hx hb htb inX13 hown hK hP 5 (by decide) (htb _ kw_1032) rfl dX13_refresh_27 ?_
    refine lv_topi (fun z_68 ez_68 => ?_)
    obtain rfl : y0_23 = z_68 := (ez_68.trans (up_at esg_67)).symm
    refine lv_if_le (tgt := 35) hx hb dX13_refresh_30 (by decide) (fun c_69 => ?_) (fun c_69 => ?_)
    · have h_70 : iv 0 0 y0_23 := iv_leL c_69 hy0_23 (iv_k (by decide) : iv 0 0 0) (by decide)
      have hdc : ¬ (sg 40).toInt = 0 := (h23x.resolve_left (fun q => absurd q.1 (by have := i32_0; have := i32_1; have := i32_2; have := i32_m1; have := congrArg Int32.toInt (show sg_67 5 = y0_23 from up_at esg_67); have := (h_70).1; have := (h_70).2; omega))).2
      have hdoc := hdd.resolve_left hdc
      have hBR := hBRd.resolve_left hdc
      have hSB := hSBd.resolve_left hdc
      refine lv_aload_n hx hb dX13_refresh_35 rfl (lv_at hl 0 rfl) ?_
      refine mr_callv (rest := []) ⟨hx, hb, hml, hown, htb⟩ (f_clear9 l dC dI h0 ad cid sg_67 gm lg wg wl S hI_sg_67 (RR_ks (L := [5, 51, 52]) (M := []) hRR (KS_up (KS_tr (L := [5, 51, 52]) KS_rf hks_j23 (by decide)) esg_67 (by decide)) KS_rf (by decide) (by decide)) hNB) (cwV 0 htb (gd_V kw_1131 kw_1132 kw_69 kw_160 kw_1576) rfl rfl rfl (by decide +kernel) ⟨Nat.le_of_ble_eq_true rfl, Nat.le_of_ble_eq_true rfl⟩) rfl hl.1 rfl (Nat.le_of_ble_eq_true rfl) dX13_refresh_36 ⟨Nat.zero_le _, Nat.zero_le _⟩ hK hP hD hS hA (fun u_72 H locs hw hP hD hS => ?_)
      obtain ⟨sgv_73, gmv_73, lgv_73, rfl, hIv_73, ksv_73, kgv_73, klv_73, fCl_r_71, fR_r_71⟩ := hw
      obtain rfl := KS_nil klv_73
      have hP : va_P (dC, dI) vwCl (mW h0 ad cid sgv_73 gmv_73 lg) H := hP
      have hD : va_D A (mW h0 ad cid sgv_73 gmv_73 lg) := hD
      refine lv_iconst (v := 1) hx hb dX13_refresh_39 (by decide) ?_
      refine lv_istore_n (lv' := [(1, .int 1), (0, .ref h0)]) hx hb dX13_refresh_40 rfl hl (by decide) rfl (fun ls hl => ?_)
      refine lv_iconst (v := 0) hx hb dX13_refresh_41 (by decide) ?_
      refine lv_istore_n (lv' := [(2, .int 0), (1, .int 1), (0, .ref h0)]) hx hb dX13_refresh_42 rfl hl (by decide) rfl (fun ls hl => ?_)
      exact hj43 _ sgv_73 gmv_73 0 1 rfl (iv_w (iv_k (by decide) : iv 0 0 0) (by decide)) (iv_w (iv_k (by decide) : iv 1 1 1) (by decide)) (KS_tr (L := [5, 48, 49, 50, 51, 52, 63, 74]) (KS_up (KS_tr (L := [5, 48, 49, 50, 51, 52, 63, 74]) KS_rf hks_j23 (by decide)) esg_67 (by decide)) ksv_73 (by decide)) (KS_tr (L := [53, 54, 55, 56, 57, 58, 59, 60, 61, 62, 64, 65, 66, 67, 68, 69, 70, 71, 72, 73, 75]) KS_rf kgv_73 (by decide)) hIv_73 ((GI0_clr (VAL_k (kgv_73 70 (by decide)) (kgv_73 71 (by decide)) (kgv_73 72 (by decide)) (kgv_73 73 (by decide)) hgi.1) fCl_r_71)) ((MO_0 fCl_r_71.1)) (hdoc) (hdc) (hBR) (hSB) ((RF_0 rfl rfl (by have := i32_0; have := i32_1; have := i32_2; have := i32_m1; have := congrArg Int32.toInt (show sgv_73 51 = sg_67 51 from ksv_73 51 (by decide)); have := congrArg Int32.toInt (show sg_67 51 = sg_j23 51 from up_ne esg_67 (by decide)); have := (show iv 0 8 (sg_j23 51) from MI_s hI_j23 51).1; have := (show iv 0 8 (sg_j23 51) from MI_s hI_j23 51).2; have := (show iv 0 8 (sg 51) from MI_s hI 51).1; have := (show iv 0 8 (sg 51) from MI_s hI 51).2; have := (h_70).1; have := (h_70).2; omega) fR_r_71 hNB)) _ _ _ hP hD hS (lv_sub hl [0, 1, 2] rfl)
    · have h_74 : iv 1 1 y0_23 := iv_ltR (i32_lt c_69) (iv_k (by decide) : iv 0 0 0) hy0_23 (by decide)
      refine lv_iconst (v := 0) hx hb dX13_refresh_33 (by decide) ?_
      exact W.iret (v := 0) hx hb hr (fun t ht hW => ⟨⟨0, (sg_67, gm, lg), rfl, ⟨sg_67, gm, lg, rfl, hI_sg_67, (KS_up (KS_tr (L := [5, 48, 49, 50, 51, 52, 63, 74]) KS_rf hks_j23 (by decide)) esg_67 (by decide)), KS_rf, KS_rf, ((GI0_of hgi (show KS [5, 51, 52] sg sg_67 from (KS_up (KS_tr (L := [5, 51, 52]) KS_rf hks_j23 (by decide)) esg_67 (by decide))) (show KS [] gm gm from KS_rf) (show KS [] lg lg from KS_rf) (by decide) (by decide) (by decide) (by decide) (by decide) (by decide))), ((MO_of hmo (show KS [5, 51, 52] sg sg_67 from (KS_up (KS_tr (L := [5, 51, 52]) KS_rf hks_j23 (by decide)) esg_67 (by decide))) (show KS [] gm gm from KS_rf) (by decide) (by decide))), ((Or.inl ⟨(h23x.resolve_right (fun q => absurd q.1 (by have := i32_0; have := i32_1; have := i32_2; have := i32_m1; have := congrArg Int32.toInt (show sg_67 5 = y0_23 from up_at esg_67); have := (h_74).1; have := (h_74).2; omega))).2, (by have := i32_0; have := i32_1; have := i32_2; have := i32_m1; have := congrArg Int32.toInt (show sg_67 5 = y0_23 from up_at esg_67); have := (h_74).1; have := (h_74).2; have q77 := h23x; omega), (RR_ks (L := [5, 51, 52]) (M := []) hRR (KS_up (KS_tr (L := [5, 51, 52]) KS_rf hks_j23 (by decide)) esg_67 (by decide)) KS_rf (by decide) (by decide))⟩))⟩, by rw [ht]; exact hP, va_K.moved hW.alike hK, hD⟩, hS.F ht⟩) hS.2.2 dX13_refresh_34
  refine lv_aload_n hx hb dX13_refresh_0 rfl (lv_at hl 0 rfl) ?_
  refine lv_iconst (v := 0) hx hb dX13_refresh_1 (by decide) ?_
  refine ma_put (x := 0) hx hb htb inX13 hown hK hP hD hS 51 (by decide) (by decide) (htb _ kw_1078) rfl rfl rfl dX13_refresh_2 (fun sg_75 H locs esg_75 hP hD hS => ?_)
  have hI_sg_75 := MI_put hI esg_75 (iv_k (by decide) : iv 0 0 0) (by decide)
  refine lv_aload_n hx hb dX13_refresh_5 rfl (lv_at hl 0 rfl) ?_
  refine lv_iconst (v := (-1)) hx hb dX13_refresh_6 (by decide) ?_
  refine ma_put (x := (-1)) hx hb htb inX13 hown hK hP hD hS 52 (by decide) (by decide) (htb _ kw_1079) rfl rfl rfl dX13_refresh_7 (fun sg_76 H locs esg_76 hP hD hS => ?_)
  have hI_sg_76 := MI_put hI_sg_75 esg_76 (iv_k (by decide) : iv (-1) (-1) (-1)) (by decide)
  refine lv_aload_n hx hb dX13_refresh_10 rfl (lv_at hl 0 rfl) ?_
  refine lv_aload_n hx hb dX13_refresh_11 rfl (lv_at hl 0 rfl) ?_
  refine mr_get (v := .int (sg_76 40)) hx hb htb inX13 hown hK hP 40 (by decide) (htb _ kw_1067) rfl dX13_refresh_12 ?_
  refine lv_topi (fun z_77 ez_77 => ?_)
  obtain rfl : (sg 40) = z_77 := (ez_77.trans (Eq.trans (up_ne esg_76 (by decide)) (up_ne esg_75 (by decide)))).symm
  refine lv_if_eq (tgt := 22) hx hb dX13_refresh_15 (by decide) (fun c_78 => ?_) (fun c_78 => ?_)
  · have h_79 : iv 0 0 (sg 40) := iv_eq c_78 (show iv 0 1 (sg 40) from MI_s hI 40) (iv_k (by decide) : iv 0 0 0) (by decide)
    refine lv_iconst (v := 1) hx hb dX13_refresh_22 (by decide) ?_
    exact hj23 sg_76 1 (iv_w (iv_k (by decide) : iv 1 1 1) (by decide)) (KS_up (KS_up KS_rf esg_75 (by decide)) esg_76 (by decide)) hI_sg_76 (Or.inl (by decide)) (Or.inl ⟨rfl, (by have := i32_0; have := i32_1; have := i32_2; have := i32_m1; have := congrArg Int32.toInt (show sg_76 40 = sg_75 40 from up_ne esg_76 (by decide)); have := congrArg Int32.toInt (show sg_75 40 = sg 40 from up_ne esg_75 (by decide)); have := (show iv 0 1 (sg 40) from MI_s hI 40).1; have := (show iv 0 1 (sg 40) from MI_s hI 40).2; have := (h_79).1; have := (h_79).2; omega)⟩) ((by have := i32_0; have := i32_1; have := i32_2; have := i32_m1; have := congrArg Int32.toInt (show sg_76 51 = sg_75 51 from up_ne esg_76 (by decide)); have : (sg_75 51).toInt = 0 := (by rw [up_at esg_75]; rfl); have := (h_79).1; have := (h_79).2; omega)) _ _ _ hP hD hS (lv_sub hl [0] rfl)
  · have h_80 : iv 1 1 (sg 40) := iv_neL c_78 (show iv 0 1 (sg 40) from MI_s hI 40) (by decide)
    refine lv_iconst (v := 0) hx hb dX13_refresh_18 (by decide) ?_
    refine lv_goto (tgt := 23) hx hb dX13_refresh_19 (by decide) ?_
    exact hj23 sg_76 0 (iv_w (iv_k (by decide) : iv 0 0 0) (by decide)) (KS_up (KS_up KS_rf esg_75 (by decide)) esg_76 (by decide)) hI_sg_76 (Or.inr (hdd.resolve_left (by have := i32_0; have := i32_1; have := i32_2; have := i32_m1; have := congrArg Int32.toInt (show sg_76 40 = sg_75 40 from up_ne esg_76 (by decide)); have := congrArg Int32.toInt (show sg_75 40 = sg 40 from up_ne esg_75 (by decide)); have := (show iv 0 1 (sg 40) from MI_s hI 40).1; have := (show iv 0 1 (sg 40) from MI_s hI 40).2; have := (h_80).1; have := (h_80).2; omega))) (Or.inr ⟨rfl, (by have := i32_0; have := i32_1; have := i32_2; have := i32_m1; have := congrArg Int32.toInt (show sg_76 40 = sg_75 40 from up_ne esg_76 (by decide)); have := congrArg Int32.toInt (show sg_75 40 = sg 40 from up_ne esg_75 (by decide)); have := (show iv 0 1 (sg 40) from MI_s hI 40).1; have := (show iv 0 1 (sg 40) from MI_s hI 40).2; have := (h_80).1; have := (h_80).2; omega)⟩) ((by have := i32_0; have := i32_1; have := i32_2; have := i32_m1; have := congrArg Int32.toInt (show sg_76 51 = sg_75 51 from up_ne esg_76 (by decide)); have : (sg_75 51).toInt = 0 := (by rw [up_at esg_75]; rfl); have := (h_80).1; have := (h_80).2; omega)) _ _ _ hP hD hS (lv_sub hl [0] rfl)
end
section
theorem lkL_f {wg : Nat → Nat → Int32} {nm : Int} : ∀ (l : List Nat) (i : Nat) (e : Nat), l[i]? = some e → (wg 22 e).toInt = nm → (∀ j x, j < i → l[j]? = some x → ¬ (wg 22 x).toInt = nm) → lkL wg nm l = (e : Int)
  | [], i, e, h, _, _ => by simp at h
  | a :: l, 0, e, h, hm, _ => by
    have h : a = e := by simpa using h
    show (if (wg 22 a).toInt = nm then (a : Int) else lkL wg nm l) = _
    rw [h, if_pos hm]
  | a :: l, i + 1, e, h, hm, hn => by
    show (if (wg 22 a).toInt = nm then (a : Int) else lkL wg nm l) = _
    rw [if_neg (hn 0 a (Nat.succ_pos i) rfl)]
    exact lkL_f l i e (by simpa using h) hm (fun j x hj hx => hn (j + 1) x (Nat.succ_lt_succ hj) (by simpa using hx))
theorem lkL_0 {wg : Nat → Nat → Int32} {nm : Int} : ∀ (l : List Nat), (∀ x, x ∈ l → ¬ (wg 22 x).toInt = nm) → lkL wg nm l = -1
  | [], _ => rfl
  | a :: l, h => by
    show (if (wg 22 a).toInt = nm then (a : Int) else lkL wg nm l) = _
    rw [if_neg (h a (List.mem_cons_self ..))]
    exact lkL_0 l (fun x hx => h x (List.mem_cons_of_mem _ hx))
/-- the lookup that was found among the first ones -/
def LKQ (wg : Nat → Nat → Int32) (q : Nat) (nm e : Int32) (k : Nat) : Prop := (e.toInt = -1 ∧ ∀ i, i < k → ¬ (wg 22 (wg 57 (128 * q + i)).toNatClampNeg).toInt = nm.toInt) ∨ (∃ i, i < k ∧ (wg 22 (wg 57 (128 * q + i)).toNatClampNeg).toInt = nm.toInt ∧ e = wg 57 (128 * q + i) ∧ 0 ≤ e.toInt)
section LK9
variable {ws : Nat → Int32} {wg rg gm : Nat → Nat → Int32} {wl lg : Nat → Nat → Int64} {rs sg : Nat → Int32} {S : S9} {q k : Nat} {nm e : Int32}
theorem LKQ_n (h : LKQ wg q nm e k) (hn : ¬ (wg 22 (wg 57 (128 * q + k)).toNatClampNeg).toInt = nm.toInt) : LKQ wg q nm e (k + 1) := by
  rcases h with ⟨h1, h2⟩ | ⟨i, h1, h2⟩
  · refine Or.inl ⟨h1, fun i hi => ?_⟩
    by_cases p : i = k
    · rw [p]; exact hn
    · exact h2 i (by omega)
  · exact Or.inr ⟨i, by omega, h2⟩
theorem LKQ_y {e2 : Int32} (hm : (wg 22 (wg 57 (128 * q + k)).toNatClampNeg).toInt = nm.toInt) (he : e2 = wg 57 (128 * q + k)) (h0 : 0 ≤ e2.toInt) : LKQ wg q nm e2 (k + 1) := Or.inr ⟨k, by omega, hm, he, h0⟩
theorem LKQ_e (h : LKQ wg q nm e k) (hk : k = (wg 41 q).toNatClampNeg) (hd : ∀ n, n < (wg 41 q).toNatClampNeg → ∀ j, j < n → ¬ (wg 22 (wg 57 (128 * q + j)).toNatClampNeg).toInt = (wg 22 (wg 57 (128 * q + n)).toNatClampNeg).toInt) : (e.toInt = -1 ∧ lkL wg nm.toInt (liL wg q) = -1) ∨ (∃ i, i < (wg 41 q).toNatClampNeg ∧ e = wg 57 (128 * q + i) ∧ lkL wg nm.toInt (liL wg q) = (e.toNatClampNeg : Int) ∧ 0 ≤ e.toInt) := by
  subst hk
  rcases h with ⟨h1, h2⟩ | ⟨i, h1, h2, h3, h4⟩
  · refine Or.inl ⟨h1, lkL_0 _ (fun x hx => ?_)⟩
    obtain ⟨i, hi, e⟩ := liL_m hx
    rw [e]; exact h2 i hi
  · refine Or.inr ⟨i, h1, h3, ?_, h4⟩
    rw [h3]
    refine lkL_f _ i _ (liL_g h1) h2 (fun j x hj hx => ?_)
    rw [liL_g (by omega)] at hx
    have e := Option.some.inj hx
    rw [← e, ← h2]; exact hd i h1 j hj
theorem zLk_r {o : Int32} (h : RR wg wl S sg gm) (h0 : 0 ≤ o.toInt) (hl : o.toInt < (sg 48).toInt) : zLk wg o.toInt nm.toInt S = lkL wg nm.toInt (liL wg (3 * (gm 54 o.toNatClampNeg).toInt.toNat + 2)) := by
  have hk : o.toInt.toNat < (zO S).length := by have := h.1.1; omega
  have q := h.1.2 o.toInt.toNat _ (List.getElem?_eq_getElem hk)
  unfold zLk
  rw [if_neg (by omega), List.getElem?_eq_getElem hk]
  show lkL wg nm.toInt (liL wg (3 * ((zO S)[o.toInt.toNat]'hk).2.toNat + 2)) = _
  rw [← q.2]; rfl
theorem zLk_z {o : Int32} (h : RR wg wl S sg gm) (hl : o.toInt < 0 ∨ (sg 48).toInt ≤ o.toInt) : zLk wg o.toInt nm.toInt S = -1 := by
  unfold zLk
  by_cases q : o.toInt < 0
  · rw [if_pos q]
  · rw [if_neg q, List.getElem?_eq_none (by have := h.1.1; omega)]
theorem OB_r {o : Int32} {nb : Nat} (h : RR wg wl S sg gm) (hO : OB9 nb S) (h0 : 0 ≤ o.toInt) (hl : o.toInt < (sg 48).toInt) : 0 ≤ (gm 54 o.toNatClampNeg).toInt ∧ (gm 54 o.toNatClampNeg).toInt < (nb : Int) := by
  have hk : o.toInt.toNat < (zO S).length := by have := h.1.1; omega
  have q := h.1.2 o.toInt.toNat _ (List.getElem?_eq_getElem hk)
  have p := hO _ _ (List.getElem?_eq_getElem hk)
  rw [← q.2] at p; exact p
theorem BR_l {b : Int32} (h : BRG ws wg wl rs rg lg) (hRW : rt9 gm = rg) (hRS : rs9 sg = rs) (hv : iv 0 79 b) (hb : b.toInt < (sg 41).toInt) : (gm 46 b.toNatClampNeg).toInt = (wg 41 (3 * b.toNatClampNeg + 2)).toInt ∧ ∀ n, n < (wg 41 (3 * b.toNatClampNeg + 2)).toNatClampNeg → gm 47 (26 * b.toNatClampNeg + n) = wg 57 (128 * (3 * b.toNatClampNeg + 2) + n)
    ∧ ((mWord gm lg (wg 57 (128 * (3 * b.toNatClampNeg + 2) + n)).toNatClampNeg 1851878757).toInt32 - 97).toInt = (wg 22 (wg 57 (128 * (3 * b.toNatClampNeg + 2) + n)).toNatClampNeg).toInt
    ∧ (cdR sg gm lg (mWord gm lg (wg 57 (128 * (3 * b.toNatClampNeg + 2) + n)).toNatClampNeg 1650811246)).toInt = caN ws wg wl (wl 2 (wg 57 (128 * (3 * b.toNatClampNeg + 2) + n)).toNatClampNeg)
    ∧ ∀ k, k < n → ¬ (wg 22 (wg 57 (128 * (3 * b.toNatClampNeg + 2) + k)).toNatClampNeg).toInt = (wg 22 (wg 57 (128 * (3 * b.toNatClampNeg + 2) + n)).toNatClampNeg).toInt := by
  have q := (h.2.1 _ (BR_lt hRS hv hb)).2.2.2
  have d := DK_r (lg := lg) hRW hRS
  unfold BNl at q
  rw [rw9 hRW 46 rfl] at q
  refine ⟨q.1, fun n hn => ?_⟩
  have q9 := q.2 n hn
  unfold cdR at *
  rw [rw9 hRW 47 rfl, mWord_k d.1, mWord_k d.1, cdF_k d] at q9
  exact q9
end LK9

set_option maxHeartbeats 4000000 in
set_option maxRecDepth 100000 in
theorem f_get9 (l : Launch) (dC : Nat → ClassId) (dI : Nat → Nat → Nat) (h0 : Nat) (ad : Nat → Nat) (cid : Nat → ClassId) (sg : Nat → Int32) (gm : Nat → Nat → Int32) (lg : Nat → Nat → Int64) (nn : Int64) (ws : Nat → Int32) (wg : Nat → Nat → Int32) (wl : Nat → Nat → Int64) (rs : Nat → Int32) (rg : Nat → Nat → Int32) (S : S9) (hI : MI sg gm) (hgi : GI0 sg gm lg) (hPR : PR gm) (hmo : MO sg gm) (hdd : (sg 40).toInt = 0 ∨ DOC sg gm lg) (hRW : rt9 gm = rg) (hRS : rs9 sg = rs) (hBRd : (sg 40).toInt = 0 ∨ BRG ws wg wl rs rg lg) (hCL : CLS9 wg rg) (hRR : RR wg wl S sg gm) (hWD : WD9 lg) (hST : STY9 wg) (hST2 : ∀ c n, c < 8 → n < 26 → (wg 55 (26 * c + n)).toInt = -1 ∨ ty9 (wg 55 (26 * c + n)).toInt) (hSBd : (sg 40).toInt = 0 ∨ SB9 ws wg wl) (hWF : WF9 S) (hWZ : WZ9 wg wl S) (hNB : NB9 S) : MMi l dC dI yX13_get wm_X13_get ({ frames := 12, cells := 0, slots := 0, locals := 300 }) h0 ad cid [.long nn] sg gm lg (fun r v => ∃ (sg2 : Nat → Int32) (gm2 : Nat → Nat → Int32) (lg2 : Nat → Nat → Int64), v = (sg2, gm2, lg2) ∧ MI sg2 gm2 ∧ KS [5, 48, 49, 50, 51, 52, 63, 74] sg sg2 ∧ KS [53, 54, 55, 56, 57, 58, 59, 60, 61, 62, 64, 65, 66, 67, 68, 69, 70, 71, 72, 73, 75] gm gm2 ∧ KS [] lg lg2 ∧ (GI0 sg2 gm2 lg2) ∧ (MO sg2 gm2) ∧ (((sg 40).toInt = 0 ∧ (sg2 5).toInt = 1 ∧ RR wg wl S sg2 gm2) ∨ (¬ (sg 40).toInt = 0 ∧ ∃ S2, RR wg wl S2 sg2 gm2 ∧ WF9 S2 ∧ (((sg2 5).toInt = 0 ∧ zGt ws wg wl 81 (wz9 nn) S = (some r.toInt, S2)) ∨ ((sg2 5).toInt = 2 ∧ zGt ws wg wl 81 (wz9 nn) S = (none, S2)))))) := by
  intro sz
  refine Met.ofW (cc := cX13_get) (maxL := 3) (ret := (some .int)) (by decide) rfl ?_
  intro p e s m args below meth c s₁ B hml hv
  obtain ⟨rfl, hsz, hP, hK, hD0⟩ := hv
  have hx := B.exec
  have hb := B.bytes
  have hr := B.returns
  have hts := atoms_spec (ws := wm_X13_get) B.pre
  have htb := fun (w : Cond) (h : w ∈ tb) => hts w (List.mem_cons_of_mem _ h)
  have hown : s.vm.findClass RX13 = some m.cls := findClass_of_methodNamed B.named
  have hlocks := B.notSynchronized
  subst hsz
  have hD := hD0.self (sz := s.heap.size)
  generalize hAe : va_A (mW h0 ad cid sg gm lg) s.heap.size = A at hD ⊢
  have hA : ∀ q : Nat, s.heap.size ≤ q → A q := fun q h => by rw [← hAe]; exact Or.inr h
  have hS : va_S A s.heap s.heap [] := va_S.rf
  have hl := lv_entry ([.ref h0, .long nn]) (n := 3) (Nat.le_of_ble_eq_true rfl)
  rw [lg_entry_eq]
  generalize (lg_sl ([.ref h0, .long nn]) ++ List.replicate (3 - (lg_sl ([.ref h0, .long nn])).length) Slot.unset).toArray = ls at hl ⊢
  have hl : lv_has ls 3 [(0, .ref h0), (1, .long nn)] := hl
  have hj23 : ∀ (sg_j23 : Nat → Int32) (y0_23 : Int32) (_ : iv 0 1 y0_23) (_ : KS [51, 52] sg sg_j23) (_ : MI sg_j23 gm) (_ : 1 ≤ y0_23.toInt ∨ DOC sg gm lg) (_ : (y0_23.toInt = 1 ∧ (sg 40).toInt = 0) ∨ (y0_23.toInt = 0 ∧ ¬ (sg 40).toInt = 0)) (_ : (sg_j23 51).toInt = 0) (H : Heap) (locs : List Loc) (ls : Array Slot), va_P (dC, dI) vwCl (mW h0 ad cid sg_j23 gm lg) H → va_D A (mW h0 ad cid sg_j23 gm lg) → va_S A s.heap H locs → lv_has ls 3 [(0, .ref h0), (1, .long nn)] → W p l e (headSpec wm_X13_get ({ frames := 12, cells := 0, slots := 0, locals := 300 })).room s m ([.ref h0, .long nn] : List Value).toArray below meth c H locs 0 0 (MQ below (va_Qi (fun r v => ∃ (sg2 : Nat → Int32) (gm2 : Nat → Nat → Int32) (lg2 : Nat → Nat → Int64), v = (sg2, gm2, lg2) ∧ MI sg2 gm2 ∧ KS [5, 48, 49, 50, 51, 52, 63, 74] sg sg2 ∧ KS [53, 54, 55, 56, 57, 58, 59, 60, 61, 62, 64, 65, 66, 67, 68, 69, 70, 71, 72, 73, 75] gm gm2 ∧ KS [] lg lg2 ∧ (GI0 sg2 gm2 lg2) ∧ (MO sg2 gm2) ∧ (((sg 40).toInt = 0 ∧ (sg2 5).toInt = 1 ∧ RR wg wl S sg2 gm2) ∨ (¬ (sg 40).toInt = 0 ∧ ∃ S2, RR wg wl S2 sg2 gm2 ∧ WF9 S2 ∧ (((sg2 5).toInt = 0 ∧ zGt ws wg wl 81 (wz9 nn) S = (some r.toInt, S2)) ∨ ((sg2 5).toInt = 2 ∧ zGt ws wg wl 81 (wz9 nn) S = (none, S2)))))) (MB dC dI h0 ad cid A) A) ([.ref h0, .long nn] : List Value).toArray s 0 0 A) (F0 m 23 ls [.int y0_23, .ref h0]) := by
    intro sg_j23 y0_23 hy0_23 hks_j23 hI_j23 hd23 h23x h51j H locs ls hP hD hS hl
    refine ma_put (x := y0_23) hx hb htb inX13 hown hK hP hD hS 5 (by decide) (by decide) (htb _ kw_1032) rfl rfl rfl dX13_get_23 (fun sg_1 H locs esg_1 hP hD hS => ?_)
    have hI_sg_1 := MI_put hI_j23 esg_1 hy0_23 (by decide)
    refine lv_aload_n hx hb dX13_get_26 rfl (lv_at hl 0 rfl) ?_
    refine mr_get (v := .int (sg_1 5)) hx hb htb inX13 hown hK hP 5 (by decide) (htb _ kw_1032) rfl dX13_get_27 ?_
    refine lv_topi (fun z_2 ez_2 => ?_)
    obtain rfl : y0_23 = z_2 := (ez_2.trans (up_at esg_1)).symm
    refine lv_if_le (tgt := 35) hx hb dX13_get_30 (by decide) (fun c_3 => ?_) (fun c_3 => ?_)
    · have h_4 : iv 0 0 y0_23 := iv_leL c_3 hy0_23 (iv_k (by decide) : iv 0 0 0) (by decide)
      have hdc : ¬ (sg 40).toInt = 0 := (h23x.resolve_left (fun q => absurd q.1 (by have := i32_0; have := i32_1; have := i32_2; have := i32_m1; have := congrArg Int32.toInt (show sg_1 5 = y0_23 from up_at esg_1); have := (h_4).1; have := (h_4).2; omega))).2
      have hdoc := hdd.resolve_left hdc
      have hBR := hBRd.resolve_left hdc
      have hSB := hSBd.resolve_left hdc
      refine lv_aload_n hx hb dX13_get_35 rfl (lv_at hl 0 rfl) ?_
      refine lv_aload_n hx hb dX13_get_36 rfl (lv_at hl 0 rfl) ?_
      refine lv_aload_n hx hb dX13_get_37 rfl (lv_at hl 0 rfl) ?_
      refine lv_lload_n hx hb dX13_get_38 rfl (lv_at hl 1 rfl) ?_
      have hPc := hP.sub (ws' := []) [] rfl
      have hDc := hD.sub (ws' := []) [] (by decide) rfl
      have hKc := hK.sub (tys' := []) [] rfl
      have hFc := va_free (wc := []) hD hS hA [] rfl
      refine va_calll (va_runS (As := [.long nn]) (rest := [.ref h0, .ref h0, .ref h0]) ⟨hx, hb, hml, hown, htb⟩ (a_letters9 l dC dI H.size nn) (va_cwS 1 htb (gd_S kw_1321 kw_1322 kw_160 kw_1656) rfl rfl rfl (by decide +kernel) ⟨Nat.le_of_ble_eq_true rfl, Nat.le_of_ble_eq_true rfl⟩) ⟨fun a U g mk q => by obtain ⟨q0, q1, qP, qK, qD⟩ := q; exact ⟨q0, q1, qP, va_K.moved (u := U) (U := U.calling g mk a) (Vm.Alike.refl U.vm) qK, qD⟩, fun U hU hW => ⟨rfl, by rw [hU], by rw [hU]; exact hPc, va_K.moved hW.alike hKc, hDc.weaken (fun _ _ _ _ => trivial)⟩⟩ rfl rfl hl.1 rfl (lv_room (Nat.le_of_ble_eq_true rfl)) dX13_get_39 ⟨Nat.zero_le _, Nat.zero_le _⟩) hS (fun q _ h => hFc q h) hFc (fun r_5 u9 t H1 locs ht hvm hw hB hz1 hk1 hS => ?_)
      have hP := ms_kept hP hz1 hk1
      generalize H1 = H at hP hS ⊢
      have fz_r_5 := hw.2
      have hw := hw.1
      refine mr_calli (rest := [.ref h0, .ref h0]) ⟨hx, hb, hml, hown, htb⟩ (f_called9 l dC dI h0 ad cid sg_1 gm lg r_5 hI_sg_1) (cwV 1 htb (gd_V kw_1253 kw_1254 kw_115 kw_160 kw_1625) rfl rfl rfl (by decide +kernel) ⟨Nat.le_of_ble_eq_true rfl, Nat.le_of_ble_eq_true rfl⟩) rfl hl.1 rfl (Nat.le_of_ble_eq_true rfl) dX13_get_42 ⟨Nat.zero_le _, Nat.zero_le _⟩ hK hP hD hS hA (fun r_6 u_7 H locs hw hP hD hS => ?_)
      obtain ⟨hr_6, fLt_r_6, fCd_r_6, rfl⟩ := hw
      have hP : va_P (dC, dI) vwCl (mW h0 ad cid sg_1 gm lg) H := hP
      have hD : va_D A (mW h0 ad cid sg_1 gm lg) := hD
      have hca : r_6.toInt = caN ws wg wl (wz9 nn) := (by have q9 := fCd_r_6; rw [fz_r_5] at q9; rw [q9, ← hBR.2.2 (wz9 nn)]; unfold cdR; rw [cdF_k (DK_of (show KS [5, 51, 52] sg sg_1 from (KS_up (KS_tr (L := [5, 51, 52]) KS_rf hks_j23 (by decide)) esg_1 (by decide))) (show KS [] gm gm from KS_rf) (show KS [] lg lg from KS_rf) (by decide) (by decide) (by decide)), cdF_k (DK_r (lg := lg) hRW hRS)])
      refine mr_calli (rest := [.ref h0]) ⟨hx, hb, hml, hown, htb⟩ (f_run9 l dC dI h0 ad cid sg_1 gm lg r_6 ws wg wl rs rg S hI_sg_1 hr_6 (DOC_of hdoc (show KS [5, 51, 52] sg sg_1 from (KS_up (KS_tr (L := [5, 51, 52]) KS_rf hks_j23 (by decide)) esg_1 (by decide))) (show KS [] gm gm from KS_rf) (show KS [] lg lg from KS_rf) (by decide) (by decide) (by decide) (by decide)) (GI0_of hgi (show KS [5, 51, 52] sg sg_1 from (KS_up (KS_tr (L := [5, 51, 52]) KS_rf hks_j23 (by decide)) esg_1 (by decide))) (show KS [] gm gm from KS_rf) (show KS [] lg lg from KS_rf) (by decide) (by decide) (by decide) (by decide) (by decide) (by decide)) hPR (MO_of hmo (show KS [5, 51, 52] sg sg_1 from (KS_up (KS_tr (L := [5, 51, 52]) KS_rf hks_j23 (by decide)) esg_1 (by decide))) (show KS [] gm gm from KS_rf) (by decide) (by decide)) fLt_r_6 hRW ((rs9_ks (L := [5, 51, 52]) (KS_up (KS_tr (L := [5, 51, 52]) KS_rf hks_j23 (by decide)) esg_1 (by decide)) rfl rfl).trans hRS) hBR hCL (RR_ks (L := [5, 51, 52]) (M := []) hRR (KS_up (KS_tr (L := [5, 51, 52]) KS_rf hks_j23 (by decide)) esg_1 (by decide)) KS_rf (by decide) (by decide)) hWD hST hST2 hSB hWF (by have := i32_0; have := i32_1; have := i32_2; have := i32_m1; have := congrArg Int32.toInt (show sg_1 51 = sg_j23 51 from up_ne esg_1 (by decide)); have := (show iv 0 8 (sg_j23 51) from MI_s hI_j23 51).1; have := (show iv 0 8 (sg_j23 51) from MI_s hI_j23 51).2; have := (show iv 0 8 (sg 51) from MI_s hI 51).1; have := (show iv 0 8 (sg 51) from MI_s hI 51).2; have := (h_4).1; have := (h_4).2; have := (hr_6).1; have := (hr_6).2; omega)) (cwV 1 htb (gd_V kw_1245 kw_1246 kw_111 kw_160 kw_1621) rfl rfl rfl (by decide +kernel) ⟨Nat.le_of_ble_eq_true rfl, Nat.le_of_ble_eq_true rfl⟩) rfl hl.1 rfl (Nat.le_of_ble_eq_true rfl) dX13_get_45 ⟨Nat.zero_le _, Nat.zero_le _⟩ hK hP hD hS hA (fun r_8 u_9 H locs hw hP hD hS => ?_)
      obtain ⟨sgv_10, gmv_10, lgv_10, rfl, hIv_10, ksv_10, kgv_10, klv_10, hr_8, fGI_r_8, fMo_r_8, f9_r_8⟩ := hw
      obtain rfl := KS_nil klv_10
      have hP : va_P (dC, dI) vwCl (mW h0 ad cid sgv_10 gmv_10 lg) H := hP
      have hD : va_D A (mW h0 ad cid sgv_10 gmv_10 lg) := hD
      refine lv_if_eq (tgt := 55) hx hb dX13_get_48 (by decide) (fun c_11 => ?_) (fun c_11 => ?_)
      · have h_12 : iv 0 0 r_8 := iv_eq c_11 hr_8 (iv_k (by decide) : iv 0 0 0) (by decide)
        refine lv_iconst (v := 2) hx hb dX13_get_55 (by decide) ?_
        refine ma_put (x := 2) hx hb htb inX13 hown hK hP hD hS 5 (by decide) (by decide) (htb _ kw_1032) rfl rfl rfl dX13_get_56 (fun sg_13 H locs esg_13 hP hD hS => ?_)
        have hI_sg_13 := MI_put hIv_10 esg_13 (iv_k (by decide) : iv 2 2 2) (by decide)
        refine lv_aload_n hx hb dX13_get_59 rfl (lv_at hl 0 rfl) ?_
        refine mr_get (v := .int (sg_13 5)) hx hb htb inX13 hown hK hP 5 (by decide) (htb _ kw_1032) rfl dX13_get_60 ?_
        refine lv_topi (fun z_14 ez_14 => ?_)
        obtain rfl : 2 = z_14 := (ez_14.trans (up_at esg_13)).symm
        refine lv_if_le (tgt := 70) hx hb dX13_get_63 (by decide) (fun c_15 => absurd c_15 (by decide)) (fun _ => ?_)
        refine lv_iconst (v := 0) hx hb dX13_get_66 (by decide) ?_
        refine lv_goto (tgt := 74) hx hb dX13_get_67 (by decide) ?_
        exact W.iret (v := 0) hx hb hr (fun t ht hW => ⟨⟨0, (sg_13, gmv_10, lg), rfl, ⟨sg_13, gmv_10, lg, rfl, hI_sg_13, (KS_up (KS_tr (L := [5, 48, 49, 50, 51, 52, 63, 74]) (KS_up (KS_tr (L := [5, 48, 49, 50, 51, 52, 63, 74]) KS_rf hks_j23 (by decide)) esg_1 (by decide)) ksv_10 (by decide)) esg_13 (by decide)), (KS_tr (L := [53, 54, 55, 56, 57, 58, 59, 60, 61, 62, 64, 65, 66, 67, 68, 69, 70, 71, 72, 73, 75]) KS_rf kgv_10 (by decide)), KS_rf, ((GI0_of fGI_r_8 (show KS [5] sgv_10 sg_13 from (KS_up KS_rf esg_13 (by decide))) (show KS [] gmv_10 gmv_10 from KS_rf) (show KS [] lg lg from KS_rf) (by decide) (by decide) (by decide) (by decide) (by decide) (by decide))), ((MO_of fMo_r_8 (show KS [5] sgv_10 sg_13 from (KS_up KS_rf esg_13 (by decide))) (show KS [] gmv_10 gmv_10 from KS_rf) (by decide) (by decide))), ((by obtain ⟨S2, q1, q2, ⟨p1, p2⟩ | ⟨p1, p2⟩⟩ := RU_g (show iv 0 80 (ws 12) from (by have q5 := hBR.1; rw [rs9_41 hRS] at q5; have q6 := (show iv 0 80 (sg 41) from MI_s hI 41); exact ⟨by rw [← q5]; exact q6.1, by rw [← q5]; exact q6.2⟩)) hca f9_r_8; (exfalso; have := i32_0; have := i32_1; have := i32_2; have := i32_m1; have := (h_4).1; have := (h_4).2; have := (hr_6).1; have := (hr_6).2; have := (h_12).1; have := (h_12).2; have := p1; omega); (exact Or.inr ⟨hdc, S2, (RR_ks q1 (show KS [5] sgv_10 sg_13 from (KS_up KS_rf esg_13 (by decide))) (KS_rf (L := []) (f := gmv_10)) (by decide) (by decide)), q2, Or.inr ⟨(by have := i32_0; have := i32_1; have := i32_2; have := i32_m1; have : (sg_13 5).toInt = 2 := (by rw [up_at esg_13]; rfl); have := (h_4).1; have := (h_4).2; have := (hr_6).1; have := (hr_6).2; have := (h_12).1; have := (h_12).2; omega), p2⟩⟩)))⟩, by rw [ht]; exact hP, va_K.moved hW.alike hK, hD⟩, hS.F ht⟩) hS.2.2 dX13_get_74
      · have h_16 : iv 1 1 r_8 := iv_neL c_11 hr_8 (by decide)
        refine lv_iconst (v := 0) hx hb dX13_get_51 (by decide) ?_
        refine lv_goto (tgt := 56) hx hb dX13_get_52 (by decide) ?_
        refine ma_put (x := 0) hx hb htb inX13 hown hK hP hD hS 5 (by decide) (by decide) (htb _ kw_1032) rfl rfl rfl dX13_get_56 (fun sg_17 H locs esg_17 hP hD hS => ?_)
        have hI_sg_17 := MI_put hIv_10 esg_17 (iv_k (by decide) : iv 0 0 0) (by decide)
        refine lv_aload_n hx hb dX13_get_59 rfl (lv_at hl 0 rfl) ?_
        refine mr_get (v := .int (sg_17 5)) hx hb htb inX13 hown hK hP 5 (by decide) (htb _ kw_1032) rfl dX13_get_60 ?_
        refine lv_topi (fun z_18 ez_18 => ?_)
        obtain rfl : 0 = z_18 := (ez_18.trans (up_at esg_17)).symm
        refine lv_if_le (tgt := 70) hx hb dX13_get_63 (by decide) (fun _ => ?_) (fun c_19 => absurd (by decide) c_19)
        refine lv_aload_n hx hb dX13_get_70 rfl (lv_at hl 0 rfl) ?_
        refine mr_get (v := .int (sg_17 74)) hx hb htb inX13 hown hK hP 74 (by decide) (htb _ kw_1101) rfl dX13_get_71 ?_
        refine lv_topi (fun z_20 ez_20 => ?_)
        obtain rfl : (sgv_10 74) = z_20 := (ez_20.trans (up_ne esg_17 (by decide))).symm
        exact W.iret (v := (sgv_10 74)) hx hb hr (fun t ht hW => ⟨⟨(sgv_10 74), (sg_17, gmv_10, lg), rfl, ⟨sg_17, gmv_10, lg, rfl, hI_sg_17, (KS_up (KS_tr (L := [5, 48, 49, 50, 51, 52, 63, 74]) (KS_up (KS_tr (L := [5, 48, 49, 50, 51, 52, 63, 74]) KS_rf hks_j23 (by decide)) esg_1 (by decide)) ksv_10 (by decide)) esg_17 (by decide)), (KS_tr (L := [53, 54, 55, 56, 57, 58, 59, 60, 61, 62, 64, 65, 66, 67, 68, 69, 70, 71, 72, 73, 75]) KS_rf kgv_10 (by decide)), KS_rf, ((GI0_of fGI_r_8 (show KS [5] sgv_10 sg_17 from (KS_up KS_rf esg_17 (by decide))) (show KS [] gmv_10 gmv_10 from KS_rf) (show KS [] lg lg from KS_rf) (by decide) (by decide) (by decide) (by decide) (by decide) (by decide))), ((MO_of fMo_r_8 (show KS [5] sgv_10 sg_17 from (KS_up KS_rf esg_17 (by decide))) (show KS [] gmv_10 gmv_10 from KS_rf) (by decide) (by decide))), ((by obtain ⟨S2, q1, q2, ⟨p1, p2⟩ | ⟨p1, p2⟩⟩ := RU_g (show iv 0 80 (ws 12) from (by have q5 := hBR.1; rw [rs9_41 hRS] at q5; have q6 := (show iv 0 80 (sg 41) from MI_s hI 41); exact ⟨by rw [← q5]; exact q6.1, by rw [← q5]; exact q6.2⟩)) hca f9_r_8; (exact Or.inr ⟨hdc, S2, (RR_ks q1 (show KS [5] sgv_10 sg_17 from (KS_up KS_rf esg_17 (by decide))) (KS_rf (L := []) (f := gmv_10)) (by decide) (by decide)), q2, Or.inl ⟨(by have := i32_0; have := i32_1; have := i32_2; have := i32_m1; have : (sg_17 5).toInt = 0 := (by rw [up_at esg_17]; rfl); have := (h_4).1; have := (h_4).2; have := (hr_6).1; have := (hr_6).2; have := (h_16).1; have := (h_16).2; have := ((show iv (-1) 59 (sgv_10 74) from MI_s hIv_10 74)).1; have := ((show iv (-1) 59 (sgv_10 74) from MI_s hIv_10 74)).2; omega), p2⟩⟩); (exfalso; have := i32_0; have := i32_1; have := i32_2; have := i32_m1; have := (h_4).1; have := (h_4).2; have := (hr_6).1; have := (hr_6).2; have := (h_16).1; have := (h_16).2; have := ((show iv (-1) 59 (sgv_10 74) from MI_s hIv_10 74)).1; have := ((show iv (-1) 59 (sgv_10 74) from MI_s hIv_10 74)).2; have := p1; omega)))⟩, by rw [ht]; exact hP, va_K.moved hW.alike hK, hD⟩, hS.F ht⟩) hS.2.2 dX13_get_74
    · have h_21 : iv 1 1 y0_23 := iv_ltR (i32_lt c_3) (iv_k (by decide) : iv 0 0 0) hy0_23 (by decide)
      refine lv_iconst (v := 0) hx hb dX13_get_33 (by decide) ?_
      exact W.iret (v := 0) hx hb hr (fun t ht hW => ⟨⟨0, (sg_1, gm, lg), rfl, ⟨sg_1, gm, lg, rfl, hI_sg_1, (KS_up (KS_tr (L := [5, 48, 49, 50, 51, 52, 63, 74]) KS_rf hks_j23 (by decide)) esg_1 (by decide)), KS_rf, KS_rf, ((GI0_of hgi (show KS [5, 51, 52] sg sg_1 from (KS_up (KS_tr (L := [5, 51, 52]) KS_rf hks_j23 (by decide)) esg_1 (by decide))) (show KS [] gm gm from KS_rf) (show KS [] lg lg from KS_rf) (by decide) (by decide) (by decide) (by decide) (by decide) (by decide))), ((MO_of hmo (show KS [5, 51, 52] sg sg_1 from (KS_up (KS_tr (L := [5, 51, 52]) KS_rf hks_j23 (by decide)) esg_1 (by decide))) (show KS [] gm gm from KS_rf) (by decide) (by decide))), ((Or.inl ⟨(h23x.resolve_right (fun q => absurd q.1 (by have := i32_0; have := i32_1; have := i32_2; have := i32_m1; have := congrArg Int32.toInt (show sg_1 5 = y0_23 from up_at esg_1); have := (h_21).1; have := (h_21).2; omega))).2, (by have := i32_0; have := i32_1; have := i32_2; have := i32_m1; have := congrArg Int32.toInt (show sg_1 5 = y0_23 from up_at esg_1); have := (h_21).1; have := (h_21).2; have q77 := h23x; omega), (RR_ks (L := [5, 51, 52]) (M := []) hRR (KS_up (KS_tr (L := [5, 51, 52]) KS_rf hks_j23 (by decide)) esg_1 (by decide)) KS_rf (by decide) (by decide))⟩))⟩, by rw [ht]; exact hP, va_K.moved hW.alike hK, hD⟩, hS.F ht⟩) hS.2.2 dX13_get_34
  refine lv_aload_n hx hb dX13_get_0 rfl (lv_at hl 0 rfl) ?_
  refine lv_iconst (v := 0) hx hb dX13_get_1 (by decide) ?_
  refine ma_put (x := 0) hx hb htb inX13 hown hK hP hD hS 51 (by decide) (by decide) (htb _ kw_1078) rfl rfl rfl dX13_get_2 (fun sg_22 H locs esg_22 hP hD hS => ?_)
  have hI_sg_22 := MI_put hI esg_22 (iv_k (by decide) : iv 0 0 0) (by decide)
  refine lv_aload_n hx hb dX13_get_5 rfl (lv_at hl 0 rfl) ?_
  refine lv_iconst (v := (-1)) hx hb dX13_get_6 (by decide) ?_
  refine ma_put (x := (-1)) hx hb htb inX13 hown hK hP hD hS 52 (by decide) (by decide) (htb _ kw_1079) rfl rfl rfl dX13_get_7 (fun sg_23 H locs esg_23 hP hD hS => ?_)
  have hI_sg_23 := MI_put hI_sg_22 esg_23 (iv_k (by decide) : iv (-1) (-1) (-1)) (by decide)
  refine lv_aload_n hx hb dX13_get_10 rfl (lv_at hl 0 rfl) ?_
  refine lv_aload_n hx hb dX13_get_11 rfl (lv_at hl 0 rfl) ?_
  refine mr_get (v := .int (sg_23 40)) hx hb htb inX13 hown hK hP 40 (by decide) (htb _ kw_1067) rfl dX13_get_12 ?_
  refine lv_topi (fun z_24 ez_24 => ?_)
  obtain rfl : (sg 40) = z_24 := (ez_24.trans (Eq.trans (up_ne esg_23 (by decide)) (up_ne esg_22 (by decide)))).symm
  refine lv_if_eq (tgt := 22) hx hb dX13_get_15 (by decide) (fun c_25 => ?_) (fun c_25 => ?_)
  · have h_26 : iv 0 0 (sg 40) := iv_eq c_25 (show iv 0 1 (sg 40) from MI_s hI 40) (iv_k (by decide) : iv 0 0 0) (by decide)
    refine lv_iconst (v := 1) hx hb dX13_get_22 (by decide) ?_
    exact hj23 sg_23 1 (iv_w (iv_k (by decide) : iv 1 1 1) (by decide)) (KS_up (KS_up KS_rf esg_22 (by decide)) esg_23 (by decide)) hI_sg_23 (Or.inl (by decide)) (Or.inl ⟨rfl, (by have := i32_0; have := i32_1; have := i32_2; have := i32_m1; have := congrArg Int32.toInt (show sg_23 40 = sg_22 40 from up_ne esg_23 (by decide)); have := congrArg Int32.toInt (show sg_22 40 = sg 40 from up_ne esg_22 (by decide)); have := (show iv 0 1 (sg 40) from MI_s hI 40).1; have := (show iv 0 1 (sg 40) from MI_s hI 40).2; have := (h_26).1; have := (h_26).2; omega)⟩) ((by have := i32_0; have := i32_1; have := i32_2; have := i32_m1; have := congrArg Int32.toInt (show sg_23 51 = sg_22 51 from up_ne esg_23 (by decide)); have : (sg_22 51).toInt = 0 := (by rw [up_at esg_22]; rfl); have := (h_26).1; have := (h_26).2; omega)) _ _ _ hP hD hS (lv_sub hl [0, 1] rfl)
  · have h_27 : iv 1 1 (sg 40) := iv_neL c_25 (show iv 0 1 (sg 40) from MI_s hI 40) (by decide)
    refine lv_iconst (v := 0) hx hb dX13_get_18 (by decide) ?_
    refine lv_goto (tgt := 23) hx hb dX13_get_19 (by decide) ?_
    exact hj23 sg_23 0 (iv_w (iv_k (by decide) : iv 0 0 0) (by decide)) (KS_up (KS_up KS_rf esg_22 (by decide)) esg_23 (by decide)) hI_sg_23 (Or.inr (hdd.resolve_left (by have := i32_0; have := i32_1; have := i32_2; have := i32_m1; have := congrArg Int32.toInt (show sg_23 40 = sg_22 40 from up_ne esg_23 (by decide)); have := congrArg Int32.toInt (show sg_22 40 = sg 40 from up_ne esg_22 (by decide)); have := (show iv 0 1 (sg 40) from MI_s hI 40).1; have := (show iv 0 1 (sg 40) from MI_s hI 40).2; have := (h_27).1; have := (h_27).2; omega))) (Or.inr ⟨rfl, (by have := i32_0; have := i32_1; have := i32_2; have := i32_m1; have := congrArg Int32.toInt (show sg_23 40 = sg_22 40 from up_ne esg_23 (by decide)); have := congrArg Int32.toInt (show sg_22 40 = sg 40 from up_ne esg_22 (by decide)); have := (show iv 0 1 (sg 40) from MI_s hI 40).1; have := (show iv 0 1 (sg 40) from MI_s hI 40).2; have := (h_27).1; have := (h_27).2; omega)⟩) ((by have := i32_0; have := i32_1; have := i32_2; have := i32_m1; have := congrArg Int32.toInt (show sg_23 51 = sg_22 51 from up_ne esg_23 (by decide)); have : (sg_22 51).toInt = 0 := (by rw [up_at esg_22]; rfl); have := (h_27).1; have := (h_27).2; omega)) _ _ _ hP hD hS (lv_sub hl [0, 1] rfl)

set_option maxHeartbeats 4000000 in
set_option maxRecDepth 100000 in
theorem f_close9 (l : Launch) (dC : Nat → ClassId) (dI : Nat → Nat → Nat) (h0 : Nat) (ad : Nat → Nat) (cid : Nat → ClassId) (sg : Nat → Int32) (gm : Nat → Nat → Int32) (lg : Nat → Nat → Int64) (ws : Nat → Int32) (wg : Nat → Nat → Int32) (wl : Nat → Nat → Int64) (rs : Nat → Int32) (rg : Nat → Nat → Int32) (S : S9) (hI : MI sg gm) (hgi : GI0 sg gm lg) (hPR : PR gm) (hmo : MO sg gm) (hdd : (sg 40).toInt = 0 ∨ DOC sg gm lg) (hRW : rt9 gm = rg) (hRS : rs9 sg = rs) (hBRd : (sg 40).toInt = 0 ∨ BRG ws wg wl rs rg lg) (hCL : CLS9 wg rg) (hRR : RR wg wl S sg gm) (hWD : WD9 lg) (hST : STY9 wg) (hST2 : ∀ c n, c < 8 → n < 26 → (wg 55 (26 * c + n)).toInt = -1 ∨ ty9 (wg 55 (26 * c + n)).toInt) (hSBd : (sg 40).toInt = 0 ∨ SB9 ws wg wl) (hWF : WF9 S) (hWZ : WZ9 wg wl S) (hNB : NB9 S) : MMi l dC dI yX13_close wm_X13_close ({ frames := 7, cells := 0, slots := 0, locals := 165 }) h0 ad cid [] sg gm lg (fun r v => ∃ (sg2 : Nat → Int32) (gm2 : Nat → Nat → Int32) (lg2 : Nat → Nat → Int64), v = (sg2, gm2, lg2) ∧ MI sg2 gm2 ∧ KS [5, 49, 50] sg sg2 ∧ KS [55, 56, 57, 58, 60, 61] gm gm2 ∧ KS [] lg lg2 ∧ (GI0 sg2 gm2 lg2) ∧ (MO sg2 gm2) ∧ (((sg 40).toInt = 0 ∧ RR wg wl S sg2 gm2 ∧ r.toInt = ((zE S).length : Int)) ∨ (¬ (sg 40).toInt = 0 ∧ RR wg wl (zCl wg S) sg2 gm2 ∧ r.toInt = ((zE (zCl wg S)).length : Int)))) := by
  intro sz
  refine Met.ofW (cc := cX13_close) (maxL := 1) (ret := (some .int)) (by decide) rfl ?_
  intro p e s m args below meth c s₁ B hml hv
  obtain ⟨rfl, hsz, hP, hK, hD0⟩ := hv
  have hx := B.exec
  have hb := B.bytes
  have hr := B.returns
  have hts := atoms_spec (ws := wm_X13_close) B.pre
  have htb := fun (w : Cond) (h : w ∈ tb) => hts w (List.mem_cons_of_mem _ h)
  have hown : s.vm.findClass RX13 = some m.cls := findClass_of_methodNamed B.named
  have hlocks := B.notSynchronized
  subst hsz
  have hD := hD0.self (sz := s.heap.size)
  generalize hAe : va_A (mW h0 ad cid sg gm lg) s.heap.size = A at hD ⊢
  have hA : ∀ q : Nat, s.heap.size ≤ q → A q := fun q h => by rw [← hAe]; exact Or.inr h
  have hS : va_S A s.heap s.heap [] := va_S.rf
  have hl := lv_entry ([.ref h0]) (n := 1) (Nat.le_of_ble_eq_true rfl)
  rw [lg_entry_eq]
  generalize (lg_sl ([.ref h0]) ++ List.replicate (1 - (lg_sl ([.ref h0])).length) Slot.unset).toArray = ls at hl ⊢
  have hl : lv_has ls 1 [(0, .ref h0)] := hl
  refine lv_aload_n hx hb dX13_close_0 rfl (lv_at hl 0 rfl) ?_
  refine lv_iconst (v := 0) hx hb dX13_close_1 (by decide) ?_
  refine ma_put (x := 0) hx hb htb inX13 hown hK hP hD hS 5 (by decide) (by decide) (htb _ kw_1032) rfl rfl rfl dX13_close_2 (fun sg_1 H locs esg_1 hP hD hS => ?_)
  have hI_sg_1 := MI_put hI esg_1 (iv_k (by decide) : iv 0 0 0) (by decide)
  refine lv_aload_n hx hb dX13_close_5 rfl (lv_at hl 0 rfl) ?_
  refine mr_get (v := .int (sg_1 40)) hx hb htb inX13 hown hK hP 40 (by decide) (htb _ kw_1067) rfl dX13_close_6 ?_
  refine lv_topi (fun z_2 ez_2 => ?_)
  obtain rfl : (sg 40) = z_2 := (ez_2.trans (up_ne esg_1 (by decide))).symm
  refine lv_if_eq (tgt := 16) hx hb dX13_close_9 (by decide) (fun c_3 => ?_) (fun c_3 => ?_)
  · have h_4 : iv 0 0 (sg 40) := iv_eq c_3 (show iv 0 1 (sg 40) from MI_s hI 40) (iv_k (by decide) : iv 0 0 0) (by decide)
    refine lv_aload_n hx hb dX13_close_16 rfl (lv_at hl 0 rfl) ?_
    refine mr_get (v := .int (sg_1 49)) hx hb htb inX13 hown hK hP 49 (by decide) (htb _ kw_1076) rfl dX13_close_17 ?_
    refine lv_topi (fun z_5 ez_5 => ?_)
    obtain rfl : (sg 49) = z_5 := (ez_5.trans (up_ne esg_1 (by decide))).symm
    exact W.iret (v := (sg 49)) hx hb hr (fun t ht hW => ⟨⟨(sg 49), (sg_1, gm, lg), rfl, ⟨sg_1, gm, lg, rfl, hI_sg_1, (KS_up KS_rf esg_1 (by decide)), KS_rf, KS_rf, ((GI0_of hgi (show KS [5] sg sg_1 from (KS_up KS_rf esg_1 (by decide))) (show KS [] gm gm from KS_rf) (show KS [] lg lg from KS_rf) (by decide) (by decide) (by decide) (by decide) (by decide) (by decide))), ((MO_of hmo (show KS [5] sg sg_1 from (KS_up KS_rf esg_1 (by decide))) (show KS [] gm gm from KS_rf) (by decide) (by decide))), ((Or.inl ⟨(by have := i32_0; have := i32_1; have := i32_2; have := i32_m1; have := congrArg Int32.toInt (show sg_1 40 = sg 40 from up_ne esg_1 (by decide)); have := (show iv 0 1 (sg 40) from MI_s hI 40).1; have := (show iv 0 1 (sg 40) from MI_s hI 40).2; have := (h_4).1; have := (h_4).2; have := ((show iv 0 400 (sg 49) from MI_s hI 49)).1; have := ((show iv 0 400 (sg 49) from MI_s hI 49)).2; omega), (RR_ks (L := [5]) (M := []) hRR (KS_up KS_rf esg_1 (by decide)) KS_rf (by decide) (by decide)), (by have q5 := hRR.2.1.1; have := i32_0; have := i32_1; have := i32_2; have := i32_m1; have := congrArg Int32.toInt (show sg_1 49 = sg 49 from up_ne esg_1 (by decide)); have := (show iv 0 400 (sg 49) from MI_s hI 49).1; have := (show iv 0 400 (sg 49) from MI_s hI 49).2; have := (h_4).1; have := (h_4).2; have := ((show iv 0 400 (sg 49) from MI_s hI 49)).1; have := ((show iv 0 400 (sg 49) from MI_s hI 49)).2; omega)⟩))⟩, by rw [ht]; exact hP, va_K.moved hW.alike hK, hD⟩, hS.F ht⟩) hS.2.2 dX13_close_20
  · have h_6 : iv 1 1 (sg 40) := iv_neL c_3 (show iv 0 1 (sg 40) from MI_s hI 40) (by decide)
    refine lv_aload_n hx hb dX13_close_12 rfl (lv_at hl 0 rfl) ?_
    have hdc : ¬ (sg 40).toInt = 0 := (by have := i32_0; have := i32_1; have := i32_2; have := i32_m1; have := congrArg Int32.toInt (show sg_1 40 = sg 40 from up_ne esg_1 (by decide)); have := (show iv 0 1 (sg 40) from MI_s hI 40).1; have := (show iv 0 1 (sg 40) from MI_s hI 40).2; have := (h_6).1; have := (h_6).2; omega)
    have hdoc := hdd.resolve_left hdc
    have hBR := hBRd.resolve_left hdc
    refine mr_callv (rest := []) ⟨hx, hb, hml, hown, htb⟩ (f_shut9 l dC dI h0 ad cid sg_1 gm lg ws wg wl rs rg S hI_sg_1 (DOC_of hdoc (show KS [5] sg sg_1 from (KS_up KS_rf esg_1 (by decide))) (show KS [] gm gm from KS_rf) (show KS [] lg lg from KS_rf) (by decide) (by decide) (by decide) (by decide)) (GI0_of hgi (show KS [5] sg sg_1 from (KS_up KS_rf esg_1 (by decide))) (show KS [] gm gm from KS_rf) (show KS [] lg lg from KS_rf) (by decide) (by decide) (by decide) (by decide) (by decide) (by decide)) (MO_of hmo (show KS [5] sg sg_1 from (KS_up KS_rf esg_1 (by decide))) (show KS [] gm gm from KS_rf) (by decide) (by decide)) hRW ((rs9_ks (L := [5]) (KS_up KS_rf esg_1 (by decide)) rfl rfl).trans hRS) hBR (RR_ks (L := [5]) (M := []) hRR (KS_up KS_rf esg_1 (by decide)) KS_rf (by decide) (by decide)) hWZ) (cwV 0 htb (gd_V kw_1316 kw_1317 kw_144 kw_160 kw_1654) rfl rfl rfl (by decide +kernel) ⟨Nat.le_of_ble_eq_true rfl, Nat.le_of_ble_eq_true rfl⟩) rfl hl.1 rfl (Nat.le_of_ble_eq_true rfl) dX13_close_13 ⟨Nat.zero_le _, Nat.zero_le _⟩ hK hP hD hS hA (fun u_8 H locs hw hP hD hS => ?_)
    obtain ⟨sgv_9, gmv_9, lgv_9, rfl, hIv_9, ksv_9, kgv_9, klv_9, fGI_r_7, fMo_r_7, fR9_r_7⟩ := hw
    obtain rfl := KS_nil klv_9
    have hP : va_P (dC, dI) vwCl (mW h0 ad cid sgv_9 gmv_9 lg) H := hP
    have hD : va_D A (mW h0 ad cid sgv_9 gmv_9 lg) := hD
    refine lv_aload_n hx hb dX13_close_16 rfl (lv_at hl 0 rfl) ?_
    refine mr_get (v := .int (sgv_9 49)) hx hb htb inX13 hown hK hP 49 (by decide) (htb _ kw_1076) rfl dX13_close_17 ?_
    exact W.iret (v := (sgv_9 49)) hx hb hr (fun t ht hW => ⟨⟨(sgv_9 49), (sgv_9, gmv_9, lg), rfl, ⟨sgv_9, gmv_9, lg, rfl, hIv_9, (KS_tr (L := [5, 49, 50]) (KS_up KS_rf esg_1 (by decide)) ksv_9 (by decide)), (KS_tr (L := [55, 56, 57, 58, 60, 61]) KS_rf kgv_9 (by decide)), KS_rf, (fGI_r_7), (fMo_r_7), ((Or.inr ⟨hdc, fR9_r_7, (by have q5 := fR9_r_7.2.1.1; have := i32_0; have := i32_1; have := i32_2; have := i32_m1; have := (show iv 0 400 (sgv_9 49) from MI_s hIv_9 49).1; have := (show iv 0 400 (sgv_9 49) from MI_s hIv_9 49).2; have := congrArg Int32.toInt (show sg_1 49 = sg 49 from up_ne esg_1 (by decide)); have := (show iv 0 400 (sg 49) from MI_s hI 49).1; have := (show iv 0 400 (sg 49) from MI_s hI 49).2; have := (h_6).1; have := (h_6).2; have := ((show iv 0 400 (sgv_9 49) from MI_s hIv_9 49)).1; have := ((show iv 0 400 (sgv_9 49) from MI_s hIv_9 49)).2; omega)⟩))⟩, by rw [ht]; exact hP, va_K.moved hW.alike hK, hD⟩, hS.F ht⟩) hS.2.2 dX13_close_20
end
section
set_option maxHeartbeats 4000000 in
set_option maxRecDepth 100000 in
theorem f_call9 (l : Launch) (dC : Nat → ClassId) (dI : Nat → Nat → Nat) (h0 : Nat) (ad : Nat → Nat) (cid : Nat → ClassId) (sg : Nat → Int32) (gm : Nat → Nat → Int32) (lg : Nat → Nat → Int64) (o : Int32) (nm : Int32) (ws : Nat → Int32) (wg : Nat → Nat → Int32) (wl : Nat → Nat → Int64) (rs : Nat → Int32) (rg : Nat → Nat → Int32) (S : S9) (hI : MI sg gm) (hgi : GI0 sg gm lg) (hPR : PR gm) (hmo : MO sg gm) (hdd : (sg 40).toInt = 0 ∨ DOC sg gm lg) (hRW : rt9 gm = rg) (hRS : rs9 sg = rs) (hBRd : (sg 40).toInt = 0 ∨ BRG ws wg wl rs rg lg) (hCL : CLS9 wg rg) (hRR : RR wg wl S sg gm) (hWD : WD9 lg) (hST : STY9 wg) (hST2 : ∀ c n, c < 8 → n < 26 → (wg 55 (26 * c + n)).toInt = -1 ∨ ty9 (wg 55 (26 * c + n)).toInt) (hSBd : (sg 40).toInt = 0 ∨ SB9 ws wg wl) (hWF : WF9 S) (hWZ : WZ9 wg wl S) (hNB : NB9 S) (hOBd : (sg 40).toInt = 0 ∨ OB9 (ws 12).toNatClampNeg S) : MMi l dC dI yX13_call wm_X13_call ({ frames := 12, cells := 0, slots := 0, locals := 300 }) h0 ad cid [.int o, .int nm] sg gm lg (fun r v => ∃ (sg2 : Nat → Int32) (gm2 : Nat → Nat → Int32) (lg2 : Nat → Nat → Int64), v = (sg2, gm2, lg2) ∧ MI sg2 gm2 ∧ KS [5, 48, 49, 50, 51, 52, 63, 74] sg sg2 ∧ KS [53, 54, 55, 56, 57, 58, 59, 60, 61, 62, 64, 65, 66, 67, 68, 69, 70, 71, 72, 73, 75] gm gm2 ∧ KS [] lg lg2 ∧ (GI0 sg2 gm2 lg2) ∧ (MO sg2 gm2) ∧ (((sg 40).toInt = 0 ∧ (sg2 5).toInt = 1 ∧ RR wg wl S sg2 gm2) ∨ (¬ (sg 40).toInt = 0 ∧ zLk wg o.toInt nm.toInt S < 0 ∧ (sg2 5).toInt = 2 ∧ RR wg wl S sg2 gm2) ∨ (¬ (sg 40).toInt = 0 ∧ 0 ≤ zLk wg o.toInt nm.toInt S ∧ ∃ S2, RR wg wl S2 sg2 gm2 ∧ WF9 S2 ∧ (((sg2 5).toInt = 0 ∧ zGt ws wg wl 81 (wl 2 (zLk wg o.toInt nm.toInt S).toNat) S = (some r.toInt, S2)) ∨ ((sg2 5).toInt = 3 ∧ zGt ws wg wl 81 (wl 2 (zLk wg o.toInt nm.toInt S).toNat) S = (none, S2)))))) := by
  intro sz
  refine Met.ofW (cc := cX13_call) (maxL := 7) (ret := (some .int)) (by decide) rfl ?_
  intro p e s m args below meth c s₁ B hml hv
  obtain ⟨rfl, hsz, hP, hK, hD0⟩ := hv
  have hx := B.exec
  have hb := B.bytes
  have hr := B.returns
  have hts := atoms_spec (ws := wm_X13_call) B.pre
  have htb := fun (w : Cond) (h : w ∈ tb) => hts w (List.mem_cons_of_mem _ h)
  have hown : s.vm.findClass RX13 = some m.cls := findClass_of_methodNamed B.named
  have hlocks := B.notSynchronized
  subst hsz
  have hD := hD0.self (sz := s.heap.size)
  generalize hAe : va_A (mW h0 ad cid sg gm lg) s.heap.size = A at hD ⊢
  have hA : ∀ q : Nat, s.heap.size ≤ q → A q := fun q h => by rw [← hAe]; exact Or.inr h
  have hS : va_S A s.heap s.heap [] := va_S.rf
  have hl := lv_entry ([.ref h0, .int o, .int nm]) (n := 7) (Nat.le_of_ble_eq_true rfl)
  rw [lg_entry_eq]
  generalize (lg_sl ([.ref h0, .int o, .int nm]) ++ List.replicate (7 - (lg_sl ([.ref h0, .int o, .int nm])).length) Slot.unset).toArray = ls at hl ⊢
  have hl : lv_has ls 7 [(0, .ref h0), (1, .int o), (2, .int nm)] := hl
  have hj59 : ∀ (n : Nat) (sg_j59 : Nat → Int32) (x5_59 : Int32) (x4_59 : Int32) (x3_59 : Int32) (_ : (26 - x5_59.toInt).toNat = n) (_ : iv 0 26 x5_59) (_ : iv 0 1 x4_59) (_ : iv (-1) 79 x3_59) (_ : KS [5, 51, 52] sg sg_j59) (_ : MI sg_j59 gm) (_ : DOC sg gm lg) (_ : ¬ (sg 40).toInt = 0) (_ : BRG ws wg wl rs rg lg) (_ : SB9 ws wg wl) (_ : (sg_j59 51).toInt = 0) (_ : (x4_59.toInt = 0 ∧ x3_59.toInt = -1 ∧ zLk wg o.toInt nm.toInt S = -1) ∨ (x4_59.toInt = 1 ∧ iv 0 59 o ∧ o.toInt < (sg 48).toInt ∧ LKQ wg (3 * (gm 54 o.toNatClampNeg).toNatClampNeg + 2) nm x3_59 x5_59.toNatClampNeg ∧ x5_59.toInt ≤ (wg 41 (3 * (gm 54 o.toNatClampNeg).toNatClampNeg + 2)).toInt)) (H : Heap) (locs : List Loc) (ls : Array Slot), va_P (dC, dI) vwCl (mW h0 ad cid sg_j59 gm lg) H → va_D A (mW h0 ad cid sg_j59 gm lg) → va_S A s.heap H locs → lv_has ls 7 [(5, .int x5_59), (4, .int x4_59), (3, .int x3_59), (0, .ref h0), (1, .int o), (2, .int nm)] → W p l e (headSpec wm_X13_call ({ frames := 12, cells := 0, slots := 0, locals := 300 })).room s m ([.ref h0, .int o, .int nm] : List Value).toArray below meth c H locs 0 0 (MQ below (va_Qi (fun r v => ∃ (sg2 : Nat → Int32) (gm2 : Nat → Nat → Int32) (lg2 : Nat → Nat → Int64), v = (sg2, gm2, lg2) ∧ MI sg2 gm2 ∧ KS [5, 48, 49, 50, 51, 52, 63, 74] sg sg2 ∧ KS [53, 54, 55, 56, 57, 58, 59, 60, 61, 62, 64, 65, 66, 67, 68, 69, 70, 71, 72, 73, 75] gm gm2 ∧ KS [] lg lg2 ∧ (GI0 sg2 gm2 lg2) ∧ (MO sg2 gm2) ∧ (((sg 40).toInt = 0 ∧ (sg2 5).toInt = 1 ∧ RR wg wl S sg2 gm2) ∨ (¬ (sg 40).toInt = 0 ∧ zLk wg o.toInt nm.toInt S < 0 ∧ (sg2 5).toInt = 2 ∧ RR wg wl S sg2 gm2) ∨ (¬ (sg 40).toInt = 0 ∧ 0 ≤ zLk wg o.toInt nm.toInt S ∧ ∃ S2, RR wg wl S2 sg2 gm2 ∧ WF9 S2 ∧ (((sg2 5).toInt = 0 ∧ zGt ws wg wl 81 (wl 2 (zLk wg o.toInt nm.toInt S).toNat) S = (some r.toInt, S2)) ∨ ((sg2 5).toInt = 3 ∧ zGt ws wg wl 81 (wl 2 (zLk wg o.toInt nm.toInt S).toNat) S = (none, S2)))))) (MB dC dI h0 ad cid A) A) ([.ref h0, .int o, .int nm] : List Value).toArray s 0 0 A) (F0 m 59 ls []) := by
    intro n
    induction n using Nat.strongRecOn with
    | ind n ih59 =>
      intro sg_j59 x5_59 x4_59 x3_59 hn59 hx5_59 hx4_59 hx3_59 hks_j59 hI_j59 hdoc hdc hBR hSB h51j hLQd H locs ls hP hD hS hl
      refine lv_iload hx hb dX13_call_59 (lv_at hl 1 rfl) ?_
      refine lv_if_eq (tgt := 129) hx hb dX13_call_61 (by decide) (fun c_1 => ?_) (fun c_1 => ?_)
      · have h_2 : iv 0 0 x4_59 := iv_eq c_1 hx4_59 (iv_k (by decide) : iv 0 0 0) (by decide)
        have hfin : (x3_59.toInt = -1 ∧ zLk wg o.toInt nm.toInt S = -1) ∨ (∃ i, i < (wg 41 (3 * (gm 54 o.toNatClampNeg).toNatClampNeg + 2)).toNatClampNeg ∧ x3_59 = wg 57 (128 * (3 * (gm 54 o.toNatClampNeg).toNatClampNeg + 2) + i) ∧ zLk wg o.toInt nm.toInt S = (x3_59.toNatClampNeg : Int) ∧ iv 0 59 o ∧ o.toInt < (sg 48).toInt ∧ 0 ≤ x3_59.toInt) := (by rcases hLQd with q | q; (exact Or.inl q.2); (exfalso; have := q.1; have := i32_0; have := i32_1; have := i32_2; have := i32_m1; have := (hx5_59).1; have := (hx5_59).2; have := (h_2).1; have := (h_2).2; have := (hx3_59).1; have := (hx3_59).2; omega))
        refine lv_aload_n hx hb dX13_call_129 rfl (lv_at hl 3 rfl) ?_
        refine lv_iload_n hx hb dX13_call_130 rfl (lv_at hl 2 rfl) ?_
        refine lv_iconst (v := (-1)) hx hb dX13_call_131 (by decide) ?_
        refine lv_icmp_ne (tgt := 139) hx hb dX13_call_132 (by decide) (fun c_3 => ?_) (fun c_3 => ?_)
        · have h_4 : iv 0 79 x3_59 := iv_neL c_3 hx3_59 (by decide)
          refine lv_iconst (v := 0) hx hb dX13_call_139 (by decide) ?_
          refine ma_put (x := 0) hx hb htb inX13 hown hK hP hD hS 5 (by decide) (by decide) (htb _ kw_1032) rfl rfl rfl dX13_call_140 (fun sg_5 H locs esg_5 hP hD hS => ?_)
          have hI_sg_5 := MI_put hI_j59 esg_5 (iv_k (by decide) : iv 0 0 0) (by decide)
          refine lv_aload_n hx hb dX13_call_143 rfl (lv_at hl 3 rfl) ?_
          refine mr_get (v := .int (sg_5 5)) hx hb htb inX13 hown hK hP 5 (by decide) (htb _ kw_1032) rfl dX13_call_144 ?_
          refine lv_topi (fun z_6 ez_6 => ?_)
          obtain rfl : 0 = z_6 := (ez_6.trans (up_at esg_5)).symm
          refine lv_if_le (tgt := 152) hx hb dX13_call_147 (by decide) (fun _ => ?_) (fun c_7 => absurd (by decide) c_7)
          obtain ⟨i9, hi1, hi2, hi3, hi4, hi5, hi6⟩ := hfin.resolve_left (fun q => absurd q.1 (fun q7 => c_3 (Int32.toInt_inj.mp (q7.trans (by decide)))))
          have h152 : iv 0 79 x3_59 := ⟨hi6, (h_4).2⟩
          have hbl := (show (gm 54 o.toNatClampNeg).toInt < (sg 41).toInt from (by have q5 := hBR.1; rw [rs9_41 hRS] at q5; have q6 := (OB_r (o := o) hRR (hOBd.resolve_left hdc) hi4.1 hi5).2; have q7 : (ws 12).toNatClampNeg = (ws 12).toInt.toNat := rfl; have q8 := (show iv 0 80 (sg 41) from MI_s hI 41).1; omega))
          have hbv := (show iv 0 79 (gm 54 o.toNatClampNeg) from ⟨(OB_r (o := o) hRR (hOBd.resolve_left hdc) hi4.1 hi5).1, (by have q9 := (show (gm 54 o.toNatClampNeg).toInt < (sg 41).toInt from (by have q5 := hBR.1; rw [rs9_41 hRS] at q5; have q6 := (OB_r (o := o) hRR (hOBd.resolve_left hdc) hi4.1 hi5).2; have q7 : (ws 12).toNatClampNeg = (ws 12).toInt.toNat := rfl; have q8 := (show iv 0 80 (sg 41) from MI_s hI 41).1; omega)); have q8 := (show iv 0 80 (sg 41) from MI_s hI 41).2; omega)⟩)
          refine lv_aload_n hx hb dX13_call_152 rfl (lv_at hl 3 rfl) ?_
          refine lv_aload_n hx hb dX13_call_153 rfl (lv_at hl 3 rfl) ?_
          refine lv_aload_n hx hb dX13_call_154 rfl (lv_at hl 3 rfl) ?_
          refine lv_aload_n hx hb dX13_call_155 rfl (lv_at hl 3 rfl) ?_
          refine lv_iload_n hx hb dX13_call_156 rfl (lv_at hl 2 rfl) ?_
          refine lv_ldc2 (own := RX13) (v := 1650811246) hx hb hown (htb _ kw_1003) dX13_call_157 ?_
          refine mr_calll (rest := [.ref h0, .ref h0, .ref h0]) ⟨hx, hb, hml, hown, htb⟩ (f_word l dC dI h0 ad cid sg_5 gm lg x3_59 1650811246 hI_sg_5 h152) (cwV 2 htb (gd_V kw_1201 kw_1202 kw_96 kw_160 kw_1603) rfl rfl rfl (by decide +kernel) ⟨Nat.le_of_ble_eq_true rfl, Nat.le_of_ble_eq_true rfl⟩) rfl hl.1 rfl (Nat.le_of_ble_eq_true rfl) dX13_call_160 ⟨Nat.zero_le _, Nat.zero_le _⟩ hK hP hD hS hA (fun r_8 u_9 H locs hw hP hD hS => ?_)
          obtain ⟨fW_r_8, rfl⟩ := hw
          have hP : va_P (dC, dI) vwCl (mW h0 ad cid sg_5 gm lg) H := hP
          have hD : va_D A (mW h0 ad cid sg_5 gm lg) := hD
          refine mr_calli (rest := [.ref h0, .ref h0]) ⟨hx, hb, hml, hown, htb⟩ (f_called9 l dC dI h0 ad cid sg_5 gm lg r_8 hI_sg_5) (cwV 1 htb (gd_V kw_1253 kw_1254 kw_115 kw_160 kw_1625) rfl rfl rfl (by decide +kernel) ⟨Nat.le_of_ble_eq_true rfl, Nat.le_of_ble_eq_true rfl⟩) rfl hl.1 rfl (Nat.le_of_ble_eq_true rfl) dX13_call_163 ⟨Nat.zero_le _, Nat.zero_le _⟩ hK hP hD hS hA (fun r_10 u_11 H locs hw hP hD hS => ?_)
          obtain ⟨hr_10, fLt_r_10, fCd_r_10, rfl⟩ := hw
          have hP : va_P (dC, dI) vwCl (mW h0 ad cid sg_5 gm lg) H := hP
          have hD : va_D A (mW h0 ad cid sg_5 gm lg) := hD
          have hca : r_10.toInt = caN ws wg wl (wl 2 (zLk wg o.toInt nm.toInt S).toNat) := (by rw [hi3, show (x3_59.toNatClampNeg : Int).toNat = x3_59.toNatClampNeg from rfl, hi2]; have q5 := ((BR_l hBR hRW hRS hbv hbl).2 i9 hi1).2.2.1; have q6 := fCd_r_10; rw [fW_r_8, hi2, mWord_k (DK_of (show KS [5, 51, 52] sg sg_5 from (KS_up (KS_tr (L := [5, 51, 52]) KS_rf hks_j59 (by decide)) esg_5 (by decide))) (show KS [] gm gm from KS_rf) (show KS [] lg lg from KS_rf) (by decide) (by decide) (by decide)).1] at q6; unfold cdR at *; rw [cdF_k (DK_of (show KS [5, 51, 52] sg sg_5 from (KS_up (KS_tr (L := [5, 51, 52]) KS_rf hks_j59 (by decide)) esg_5 (by decide))) (show KS [] gm gm from KS_rf) (show KS [] lg lg from KS_rf) (by decide) (by decide) (by decide))] at q6; rw [← q5, q6])
          refine mr_calli (rest := [.ref h0]) ⟨hx, hb, hml, hown, htb⟩ (f_run9 l dC dI h0 ad cid sg_5 gm lg r_10 ws wg wl rs rg S hI_sg_5 hr_10 (DOC_of hdoc (show KS [5, 51, 52] sg sg_5 from (KS_up (KS_tr (L := [5, 51, 52]) KS_rf hks_j59 (by decide)) esg_5 (by decide))) (show KS [] gm gm from KS_rf) (show KS [] lg lg from KS_rf) (by decide) (by decide) (by decide) (by decide)) (GI0_of hgi (show KS [5, 51, 52] sg sg_5 from (KS_up (KS_tr (L := [5, 51, 52]) KS_rf hks_j59 (by decide)) esg_5 (by decide))) (show KS [] gm gm from KS_rf) (show KS [] lg lg from KS_rf) (by decide) (by decide) (by decide) (by decide) (by decide) (by decide)) hPR (MO_of hmo (show KS [5, 51, 52] sg sg_5 from (KS_up (KS_tr (L := [5, 51, 52]) KS_rf hks_j59 (by decide)) esg_5 (by decide))) (show KS [] gm gm from KS_rf) (by decide) (by decide)) fLt_r_10 hRW ((rs9_ks (L := [5, 51, 52]) (KS_up (KS_tr (L := [5, 51, 52]) KS_rf hks_j59 (by decide)) esg_5 (by decide)) rfl rfl).trans hRS) hBR hCL (RR_ks (L := [5, 51, 52]) (M := []) hRR (KS_up (KS_tr (L := [5, 51, 52]) KS_rf hks_j59 (by decide)) esg_5 (by decide)) KS_rf (by decide) (by decide)) hWD hST hST2 hSB hWF (by have := i32_0; have := i32_1; have := i32_2; have := i32_m1; have := congrArg Int32.toInt (show sg_5 51 = sg_j59 51 from up_ne esg_5 (by decide)); have := (show iv 0 8 (sg_j59 51) from MI_s hI_j59 51).1; have := (show iv 0 8 (sg_j59 51) from MI_s hI_j59 51).2; have := (show iv 0 8 (sg 51) from MI_s hI 51).1; have := (show iv 0 8 (sg 51) from MI_s hI 51).2; have := (show iv 0 8 (sg_j59 51) from MI_s hI_j59 51).1; have := (show iv 0 8 (sg_j59 51) from MI_s hI_j59 51).2; have := (hx5_59).1; have := (hx5_59).2; have := (h_2).1; have := (h_2).2; have := (h152).1; have := (h152).2; have := (hr_10).1; have := (hr_10).2; omega)) (cwV 1 htb (gd_V kw_1245 kw_1246 kw_111 kw_160 kw_1621) rfl rfl rfl (by decide +kernel) ⟨Nat.le_of_ble_eq_true rfl, Nat.le_of_ble_eq_true rfl⟩) rfl hl.1 rfl (Nat.le_of_ble_eq_true rfl) dX13_call_166 ⟨Nat.zero_le _, Nat.zero_le _⟩ hK hP hD hS hA (fun r_12 u_13 H locs hw hP hD hS => ?_)
          obtain ⟨sgv_14, gmv_14, lgv_14, rfl, hIv_14, ksv_14, kgv_14, klv_14, hr_12, fGI_r_12, fMo_r_12, f9_r_12⟩ := hw
          obtain rfl := KS_nil klv_14
          have hP : va_P (dC, dI) vwCl (mW h0 ad cid sgv_14 gmv_14 lg) H := hP
          have hD : va_D A (mW h0 ad cid sgv_14 gmv_14 lg) := hD
          refine lv_if_eq (tgt := 176) hx hb dX13_call_169 (by decide) (fun c_15 => ?_) (fun c_15 => ?_)
          · have h_16 : iv 0 0 r_12 := iv_eq c_15 hr_12 (iv_k (by decide) : iv 0 0 0) (by decide)
            refine lv_iconst (v := 3) hx hb dX13_call_176 (by decide) ?_
            refine ma_put (x := 3) hx hb htb inX13 hown hK hP hD hS 5 (by decide) (by decide) (htb _ kw_1032) rfl rfl rfl dX13_call_177 (fun sg_17 H locs esg_17 hP hD hS => ?_)
            have hI_sg_17 := MI_put hIv_14 esg_17 (iv_k (by decide) : iv 3 3 3) (by decide)
            refine lv_aload_n hx hb dX13_call_180 rfl (lv_at hl 3 rfl) ?_
            refine mr_get (v := .int (sg_17 5)) hx hb htb inX13 hown hK hP 5 (by decide) (htb _ kw_1032) rfl dX13_call_181 ?_
            refine lv_topi (fun z_18 ez_18 => ?_)
            obtain rfl : 3 = z_18 := (ez_18.trans (up_at esg_17)).symm
            refine lv_if_le (tgt := 191) hx hb dX13_call_184 (by decide) (fun c_19 => absurd c_19 (by decide)) (fun _ => ?_)
            refine lv_iconst (v := 0) hx hb dX13_call_187 (by decide) ?_
            refine lv_goto (tgt := 195) hx hb dX13_call_188 (by decide) ?_
            exact W.iret (v := 0) hx hb hr (fun t ht hW => ⟨⟨0, (sg_17, gmv_14, lg), rfl, ⟨sg_17, gmv_14, lg, rfl, hI_sg_17, (KS_up (KS_tr (L := [5, 48, 49, 50, 51, 52, 63, 74]) (KS_up (KS_tr (L := [5, 48, 49, 50, 51, 52, 63, 74]) KS_rf hks_j59 (by decide)) esg_5 (by decide)) ksv_14 (by decide)) esg_17 (by decide)), (KS_tr (L := [53, 54, 55, 56, 57, 58, 59, 60, 61, 62, 64, 65, 66, 67, 68, 69, 70, 71, 72, 73, 75]) KS_rf kgv_14 (by decide)), KS_rf, ((GI0_of fGI_r_12 (show KS [5] sgv_14 sg_17 from (KS_up KS_rf esg_17 (by decide))) (show KS [] gmv_14 gmv_14 from KS_rf) (show KS [] lg lg from KS_rf) (by decide) (by decide) (by decide) (by decide) (by decide) (by decide))), ((MO_of fMo_r_12 (show KS [5] sgv_14 sg_17 from (KS_up KS_rf esg_17 (by decide))) (show KS [] gmv_14 gmv_14 from KS_rf) (by decide) (by decide))), ((Or.inr (Or.inr (by obtain ⟨S2, q1, q2, ⟨p1, p2⟩ | ⟨p1, p2⟩⟩ := RU_g (show iv 0 80 (ws 12) from (by have q5 := hBR.1; rw [rs9_41 hRS] at q5; have q6 := (show iv 0 80 (sg 41) from MI_s hI 41); exact ⟨by rw [← q5]; exact q6.1, by rw [← q5]; exact q6.2⟩)) hca f9_r_12; (exfalso; have := i32_0; have := i32_1; have := i32_2; have := i32_m1; have := (hx5_59).1; have := (hx5_59).2; have := (h_2).1; have := (h_2).2; have := (h152).1; have := (h152).2; have := (hr_10).1; have := (hr_10).2; have := (h_16).1; have := (h_16).2; have := p1; omega); (exact ⟨hdc, (by rw [hi3]; omega), S2, (RR_ks q1 (show KS [5] sgv_14 sg_17 from (KS_up KS_rf esg_17 (by decide))) (KS_rf (L := []) (f := gmv_14)) (by decide) (by decide)), q2, Or.inr ⟨(by have := i32_0; have := i32_1; have := i32_2; have := i32_m1; have : (sg_17 5).toInt = 3 := (by rw [up_at esg_17]; rfl); have := (hx5_59).1; have := (hx5_59).2; have := (h_2).1; have := (h_2).2; have := (h152).1; have := (h152).2; have := (hr_10).1; have := (hr_10).2; have := (h_16).1; have := (h_16).2; omega), p2⟩⟩)))))⟩, by rw [ht]; exact hP, va_K.moved hW.alike hK, hD⟩, hS.F ht⟩) hS.2.2 dX13_call_195
          · have h_20 : iv 1 1 r_12 := iv_neL c_15 hr_12 (by decide)
            refine lv_iconst (v := 0) hx hb dX13_call_172 (by decide) ?_
            refine lv_goto (tgt := 177) hx hb dX13_call_173 (by decide) ?_
            refine ma_put (x := 0) hx hb htb inX13 hown hK hP hD hS 5 (by decide) (by decide) (htb _ kw_1032) rfl rfl rfl dX13_call_177 (fun sg_21 H locs esg_21 hP hD hS => ?_)
            have hI_sg_21 := MI_put hIv_14 esg_21 (iv_k (by decide) : iv 0 0 0) (by decide)
            refine lv_aload_n hx hb dX13_call_180 rfl (lv_at hl 3 rfl) ?_
            refine mr_get (v := .int (sg_21 5)) hx hb htb inX13 hown hK hP 5 (by decide) (htb _ kw_1032) rfl dX13_call_181 ?_
            refine lv_topi (fun z_22 ez_22 => ?_)
            obtain rfl : 0 = z_22 := (ez_22.trans (up_at esg_21)).symm
            refine lv_if_le (tgt := 191) hx hb dX13_call_184 (by decide) (fun _ => ?_) (fun c_23 => absurd (by decide) c_23)
            refine lv_aload_n hx hb dX13_call_191 rfl (lv_at hl 3 rfl) ?_
            refine mr_get (v := .int (sg_21 74)) hx hb htb inX13 hown hK hP 74 (by decide) (htb _ kw_1101) rfl dX13_call_192 ?_
            refine lv_topi (fun z_24 ez_24 => ?_)
            obtain rfl : (sgv_14 74) = z_24 := (ez_24.trans (up_ne esg_21 (by decide))).symm
            exact W.iret (v := (sgv_14 74)) hx hb hr (fun t ht hW => ⟨⟨(sgv_14 74), (sg_21, gmv_14, lg), rfl, ⟨sg_21, gmv_14, lg, rfl, hI_sg_21, (KS_up (KS_tr (L := [5, 48, 49, 50, 51, 52, 63, 74]) (KS_up (KS_tr (L := [5, 48, 49, 50, 51, 52, 63, 74]) KS_rf hks_j59 (by decide)) esg_5 (by decide)) ksv_14 (by decide)) esg_21 (by decide)), (KS_tr (L := [53, 54, 55, 56, 57, 58, 59, 60, 61, 62, 64, 65, 66, 67, 68, 69, 70, 71, 72, 73, 75]) KS_rf kgv_14 (by decide)), KS_rf, ((GI0_of fGI_r_12 (show KS [5] sgv_14 sg_21 from (KS_up KS_rf esg_21 (by decide))) (show KS [] gmv_14 gmv_14 from KS_rf) (show KS [] lg lg from KS_rf) (by decide) (by decide) (by decide) (by decide) (by decide) (by decide))), ((MO_of fMo_r_12 (show KS [5] sgv_14 sg_21 from (KS_up KS_rf esg_21 (by decide))) (show KS [] gmv_14 gmv_14 from KS_rf) (by decide) (by decide))), ((Or.inr (Or.inr (by obtain ⟨S2, q1, q2, ⟨p1, p2⟩ | ⟨p1, p2⟩⟩ := RU_g (show iv 0 80 (ws 12) from (by have q5 := hBR.1; rw [rs9_41 hRS] at q5; have q6 := (show iv 0 80 (sg 41) from MI_s hI 41); exact ⟨by rw [← q5]; exact q6.1, by rw [← q5]; exact q6.2⟩)) hca f9_r_12; (exact ⟨hdc, (by rw [hi3]; omega), S2, (RR_ks q1 (show KS [5] sgv_14 sg_21 from (KS_up KS_rf esg_21 (by decide))) (KS_rf (L := []) (f := gmv_14)) (by decide) (by decide)), q2, Or.inl ⟨(by have := i32_0; have := i32_1; have := i32_2; have := i32_m1; have : (sg_21 5).toInt = 0 := (by rw [up_at esg_21]; rfl); have := (hx5_59).1; have := (hx5_59).2; have := (h_2).1; have := (h_2).2; have := (h152).1; have := (h152).2; have := (hr_10).1; have := (hr_10).2; have := (h_20).1; have := (h_20).2; have := ((show iv (-1) 59 (sgv_14 74) from MI_s hIv_14 74)).1; have := ((show iv (-1) 59 (sgv_14 74) from MI_s hIv_14 74)).2; omega), p2⟩⟩); (exfalso; have := i32_0; have := i32_1; have := i32_2; have := i32_m1; have := (hx5_59).1; have := (hx5_59).2; have := (h_2).1; have := (h_2).2; have := (h152).1; have := (h152).2; have := (hr_10).1; have := (hr_10).2; have := (h_20).1; have := (h_20).2; have := ((show iv (-1) 59 (sgv_14 74) from MI_s hIv_14 74)).1; have := ((show iv (-1) 59 (sgv_14 74) from MI_s hIv_14 74)).2; have := p1; omega)))))⟩, by rw [ht]; exact hP, va_K.moved hW.alike hK, hD⟩, hS.F ht⟩) hS.2.2 dX13_call_195
        · have h_25 : iv (-1) (-1) x3_59 := iv_eq c_3 hx3_59 (iv_k (by decide) : iv (-1) (-1) (-1)) (by decide)
          refine lv_iconst (v := 2) hx hb dX13_call_135 (by decide) ?_
          refine lv_goto (tgt := 140) hx hb dX13_call_136 (by decide) ?_
          refine ma_put (x := 2) hx hb htb inX13 hown hK hP hD hS 5 (by decide) (by decide) (htb _ kw_1032) rfl rfl rfl dX13_call_140 (fun sg_26 H locs esg_26 hP hD hS => ?_)
          have hI_sg_26 := MI_put hI_j59 esg_26 (iv_k (by decide) : iv 2 2 2) (by decide)
          refine lv_aload_n hx hb dX13_call_143 rfl (lv_at hl 3 rfl) ?_
          refine mr_get (v := .int (sg_26 5)) hx hb htb inX13 hown hK hP 5 (by decide) (htb _ kw_1032) rfl dX13_call_144 ?_
          refine lv_topi (fun z_27 ez_27 => ?_)
          obtain rfl : 2 = z_27 := (ez_27.trans (up_at esg_26)).symm
          refine lv_if_le (tgt := 152) hx hb dX13_call_147 (by decide) (fun c_28 => absurd c_28 (by decide)) (fun _ => ?_)
          refine lv_iconst (v := 0) hx hb dX13_call_150 (by decide) ?_
          exact W.iret (v := 0) hx hb hr (fun t ht hW => ⟨⟨0, (sg_26, gm, lg), rfl, ⟨sg_26, gm, lg, rfl, hI_sg_26, (KS_up (KS_tr (L := [5, 48, 49, 50, 51, 52, 63, 74]) KS_rf hks_j59 (by decide)) esg_26 (by decide)), KS_rf, KS_rf, ((GI0_of hgi (show KS [5, 51, 52] sg sg_26 from (KS_up (KS_tr (L := [5, 51, 52]) KS_rf hks_j59 (by decide)) esg_26 (by decide))) (show KS [] gm gm from KS_rf) (show KS [] lg lg from KS_rf) (by decide) (by decide) (by decide) (by decide) (by decide) (by decide))), ((MO_of hmo (show KS [5, 51, 52] sg sg_26 from (KS_up (KS_tr (L := [5, 51, 52]) KS_rf hks_j59 (by decide)) esg_26 (by decide))) (show KS [] gm gm from KS_rf) (by decide) (by decide))), ((Or.inr (Or.inl ⟨hdc, (by rcases hfin with q | q; (rw [q.2]; decide); (exfalso; obtain ⟨i9, q1, q2, q3, q4, q5, q6⟩ := q; have := i32_0; have := i32_1; have := i32_2; have := i32_m1; have := (hx5_59).1; have := (hx5_59).2; have := (h_2).1; have := (h_2).2; have := (h_25).1; have := (h_25).2; omega)), (by have := i32_0; have := i32_1; have := i32_2; have := i32_m1; have : (sg_26 5).toInt = 2 := (by rw [up_at esg_26]; rfl); have := (hx5_59).1; have := (hx5_59).2; have := (h_2).1; have := (h_2).2; have := (h_25).1; have := (h_25).2; omega), (RR_ks (L := [5, 51, 52]) (M := []) hRR (KS_up (KS_tr (L := [5, 51, 52]) KS_rf hks_j59 (by decide)) esg_26 (by decide)) KS_rf (by decide) (by decide))⟩)))⟩, by rw [ht]; exact hP, va_K.moved hW.alike hK, hD⟩, hS.F ht⟩) hS.2.2 dX13_call_151
      · have h_29 : iv 1 1 x4_59 := iv_neL c_1 hx4_59 (by decide)
        obtain ⟨_, h64o, h64l, hLQ, hk5⟩ := hLQd.resolve_left (fun q => absurd q.1 (by have := i32_0; have := i32_1; have := i32_2; have := i32_m1; have := (hx5_59).1; have := (hx5_59).2; have := (h_29).1; have := (h_29).2; have := (hx3_59).1; have := (hx3_59).2; omega))
        have hbv := (show iv 0 79 (gm 54 o.toNatClampNeg) from ⟨(OB_r (o := o) hRR (hOBd.resolve_left hdc) h64o.1 h64l).1, (by have q9 := (show (gm 54 o.toNatClampNeg).toInt < (sg 41).toInt from (by have q5 := hBR.1; rw [rs9_41 hRS] at q5; have q6 := (OB_r (o := o) hRR (hOBd.resolve_left hdc) h64o.1 h64l).2; have q7 : (ws 12).toNatClampNeg = (ws 12).toInt.toNat := rfl; have q8 := (show iv 0 80 (sg 41) from MI_s hI 41).1; omega)); have q8 := (show iv 0 80 (sg 41) from MI_s hI 41).2; omega)⟩)
        have hbl := (show (gm 54 o.toNatClampNeg).toInt < (sg 41).toInt from (by have q5 := hBR.1; rw [rs9_41 hRS] at q5; have q6 := (OB_r (o := o) hRR (hOBd.resolve_left hdc) h64o.1 h64l).2; have q7 : (ws 12).toNatClampNeg = (ws 12).toInt.toNat := rfl; have q8 := (show iv 0 80 (sg 41) from MI_s hI 41).1; omega))
        refine lv_iload hx hb dX13_call_64 (lv_at hl 0 rfl) ?_
        refine lv_aload_n hx hb dX13_call_66 rfl (lv_at hl 3 rfl) ?_
        refine mr_get (v := .ref (ad 46)) hx hb htb inX13 hown hK hP 46 (by decide) (htb _ kw_1073) rfl dX13_call_67 ?_
        refine lv_aload_n hx hb dX13_call_70 rfl (lv_at hl 3 rfl) ?_
        refine mr_get (v := .ref (ad 54)) hx hb htb inX13 hown hK hP 54 (by decide) (htb _ kw_1081) rfl dX13_call_71 ?_
        refine lv_iload_n hx hb dX13_call_74 rfl (lv_at hl 4 rfl) ?_
        refine mr_iald hx hb hK hP 40 (k := 54) rfl rfl rfl (show vp_in o 60 from (iv_in h64o (by decide))) dX13_call_75 ?_
        refine lv_topi (fun z_30 ez_30 => ?_)
        have hz_30 : iv 0 79 z_30 := iv_of ez_30 (MI_a hI_j59 54 h64o (by decide))
        refine mr_iald hx hb hK hP 37 (k := 46) rfl rfl rfl (show vp_in z_30 80 from (iv_in hz_30 (by decide))) dX13_call_76 ?_
        refine lv_topi (fun z_31 ez_31 => ?_)
        have hz_31 : iv 0 26 z_31 := iv_of ez_31 (MI_a hI_j59 46 hz_30 (by decide))
        refine lv_icmp_ge (tgt := 129) hx hb dX13_call_77 (by decide) (fun c_32 => ?_) (fun c_32 => ?_)
        · have d_33 : (z_31 : Int32).toInt ≤ (x5_59 : Int32).toInt := Int32.le_iff_toInt_le.mp c_32
          have hfin : (x3_59.toInt = -1 ∧ zLk wg o.toInt nm.toInt S = -1) ∨ (∃ i, i < (wg 41 (3 * (gm 54 o.toNatClampNeg).toNatClampNeg + 2)).toNatClampNeg ∧ x3_59 = wg 57 (128 * (3 * (gm 54 o.toNatClampNeg).toNatClampNeg + 2) + i) ∧ zLk wg o.toInt nm.toInt S = (x3_59.toNatClampNeg : Int) ∧ iv 0 59 o ∧ o.toInt < (sg 48).toInt ∧ 0 ≤ x3_59.toInt) := (by have q0 := zLk_r (wl := wl) (nm := nm) hRR h64o.1 h64l; rw [show (gm 54 o.toNatClampNeg).toInt.toNat = (gm 54 o.toNatClampNeg).toNatClampNeg from rfl] at q0; have q5 := (BR_l hBR hRW hRS hbv hbl).1; have q6 := congrArg Int32.toInt (show z_31 = gm 46 (gm 54 o.toNatClampNeg).toNatClampNeg from (by rw [ez_31, (show z_30 = (gm 54 o.toNatClampNeg) from ez_30)])); rcases LKQ_e hLQ (by have q7 : (wg 41 (3 * (gm 54 o.toNatClampNeg).toNatClampNeg + 2)).toNatClampNeg = (wg 41 (3 * (gm 54 o.toNatClampNeg).toNatClampNeg + 2)).toInt.toNat := rfl; have := hk5; have q1 : x5_59.toNatClampNeg = x5_59.toInt.toNat := rfl; have := i32_0; have := i32_1; have := i32_2; have := i32_m1; have := (hx5_59).1; have := (hx5_59).2; have := (h_29).1; have := (h_29).2; have := (hx3_59).1; have := (hx3_59).2; have := (h64o).1; have := (h64o).2; have := (hz_30).1; have := (hz_30).2; have := (hz_31).1; have := (hz_31).2; omega) (fun n hn j hj => ((BR_l hBR hRW hRS hbv hbl).2 n hn).2.2.2 j hj) with ⟨p1, p2⟩ | ⟨i, p1, p2, p3, p4⟩; (exact Or.inl ⟨p1, q0.trans p2⟩); (exact Or.inr ⟨i, p1, p2, q0.trans p3, h64o, h64l, p4⟩))
          refine lv_aload_n hx hb dX13_call_129 rfl (lv_at hl 3 rfl) ?_
          refine lv_iload_n hx hb dX13_call_130 rfl (lv_at hl 2 rfl) ?_
          refine lv_iconst (v := (-1)) hx hb dX13_call_131 (by decide) ?_
          refine lv_icmp_ne (tgt := 139) hx hb dX13_call_132 (by decide) (fun c_34 => ?_) (fun c_34 => ?_)
          · have h_35 : iv 0 79 x3_59 := iv_neL c_34 hx3_59 (by decide)
            refine lv_iconst (v := 0) hx hb dX13_call_139 (by decide) ?_
            refine ma_put (x := 0) hx hb htb inX13 hown hK hP hD hS 5 (by decide) (by decide) (htb _ kw_1032) rfl rfl rfl dX13_call_140 (fun sg_36 H locs esg_36 hP hD hS => ?_)
            have hI_sg_36 := MI_put hI_j59 esg_36 (iv_k (by decide) : iv 0 0 0) (by decide)
            refine lv_aload_n hx hb dX13_call_143 rfl (lv_at hl 3 rfl) ?_
            refine mr_get (v := .int (sg_36 5)) hx hb htb inX13 hown hK hP 5 (by decide) (htb _ kw_1032) rfl dX13_call_144 ?_
            refine lv_topi (fun z_37 ez_37 => ?_)
            obtain rfl : 0 = z_37 := (ez_37.trans (up_at esg_36)).symm
            refine lv_if_le (tgt := 152) hx hb dX13_call_147 (by decide) (fun _ => ?_) (fun c_38 => absurd (by decide) c_38)
            obtain ⟨i9, hi1, hi2, hi3, hi4, hi5, hi6⟩ := hfin.resolve_left (fun q => absurd q.1 (fun q7 => c_34 (Int32.toInt_inj.mp (q7.trans (by decide)))))
            have h152 : iv 0 79 x3_59 := ⟨hi6, (h_35).2⟩
            have hbl := (show (gm 54 o.toNatClampNeg).toInt < (sg 41).toInt from (by have q5 := hBR.1; rw [rs9_41 hRS] at q5; have q6 := (OB_r (o := o) hRR (hOBd.resolve_left hdc) hi4.1 hi5).2; have q7 : (ws 12).toNatClampNeg = (ws 12).toInt.toNat := rfl; have q8 := (show iv 0 80 (sg 41) from MI_s hI 41).1; omega))
            have hbv := (show iv 0 79 (gm 54 o.toNatClampNeg) from ⟨(OB_r (o := o) hRR (hOBd.resolve_left hdc) hi4.1 hi5).1, (by have q9 := (show (gm 54 o.toNatClampNeg).toInt < (sg 41).toInt from (by have q5 := hBR.1; rw [rs9_41 hRS] at q5; have q6 := (OB_r (o := o) hRR (hOBd.resolve_left hdc) hi4.1 hi5).2; have q7 : (ws 12).toNatClampNeg = (ws 12).toInt.toNat := rfl; have q8 := (show iv 0 80 (sg 41) from MI_s hI 41).1; omega)); have q8 := (show iv 0 80 (sg 41) from MI_s hI 41).2; omega)⟩)
            refine lv_aload_n hx hb dX13_call_152 rfl (lv_at hl 3 rfl) ?_
            refine lv_aload_n hx hb dX13_call_153 rfl (lv_at hl 3 rfl) ?_
            refine lv_aload_n hx hb dX13_call_154 rfl (lv_at hl 3 rfl) ?_
            refine lv_aload_n hx hb dX13_call_155 rfl (lv_at hl 3 rfl) ?_
            refine lv_iload_n hx hb dX13_call_156 rfl (lv_at hl 2 rfl) ?_
            refine lv_ldc2 (own := RX13) (v := 1650811246) hx hb hown (htb _ kw_1003) dX13_call_157 ?_
            refine mr_calll (rest := [.ref h0, .ref h0, .ref h0]) ⟨hx, hb, hml, hown, htb⟩ (f_word l dC dI h0 ad cid sg_36 gm lg x3_59 1650811246 hI_sg_36 h152) (cwV 2 htb (gd_V kw_1201 kw_1202 kw_96 kw_160 kw_1603) rfl rfl rfl (by decide +kernel) ⟨Nat.le_of_ble_eq_true rfl, Nat.le_of_ble_eq_true rfl⟩) rfl hl.1 rfl (Nat.le_of_ble_eq_true rfl) dX13_call_160 ⟨Nat.zero_le _, Nat.zero_le _⟩ hK hP hD hS hA (fun r_39 u_40 H locs hw hP hD hS => ?_)
            obtain ⟨fW_r_39, rfl⟩ := hw
            have hP : va_P (dC, dI) vwCl (mW h0 ad cid sg_36 gm lg) H := hP
            have hD : va_D A (mW h0 ad cid sg_36 gm lg) := hD
            refine mr_calli (rest := [.ref h0, .ref h0]) ⟨hx, hb, hml, hown, htb⟩ (f_called9 l dC dI h0 ad cid sg_36 gm lg r_39 hI_sg_36) (cwV 1 htb (gd_V kw_1253 kw_1254 kw_115 kw_160 kw_1625) rfl rfl rfl (by decide +kernel) ⟨Nat.le_of_ble_eq_true rfl, Nat.le_of_ble_eq_true rfl⟩) rfl hl.1 rfl (Nat.le_of_ble_eq_true rfl) dX13_call_163 ⟨Nat.zero_le _, Nat.zero_le _⟩ hK hP hD hS hA (fun r_41 u_42 H locs hw hP hD hS => ?_)
            obtain ⟨hr_41, fLt_r_41, fCd_r_41, rfl⟩ := hw
            have hP : va_P (dC, dI) vwCl (mW h0 ad cid sg_36 gm lg) H := hP
            have hD : va_D A (mW h0 ad cid sg_36 gm lg) := hD
            have hca : r_41.toInt = caN ws wg wl (wl 2 (zLk wg o.toInt nm.toInt S).toNat) := (by rw [hi3, show (x3_59.toNatClampNeg : Int).toNat = x3_59.toNatClampNeg from rfl, hi2]; have q5 := ((BR_l hBR hRW hRS hbv hbl).2 i9 hi1).2.2.1; have q6 := fCd_r_41; rw [fW_r_39, hi2, mWord_k (DK_of (show KS [5, 51, 52] sg sg_36 from (KS_up (KS_tr (L := [5, 51, 52]) KS_rf hks_j59 (by decide)) esg_36 (by decide))) (show KS [] gm gm from KS_rf) (show KS [] lg lg from KS_rf) (by decide) (by decide) (by decide)).1] at q6; unfold cdR at *; rw [cdF_k (DK_of (show KS [5, 51, 52] sg sg_36 from (KS_up (KS_tr (L := [5, 51, 52]) KS_rf hks_j59 (by decide)) esg_36 (by decide))) (show KS [] gm gm from KS_rf) (show KS [] lg lg from KS_rf) (by decide) (by decide) (by decide))] at q6; rw [← q5, q6])
            refine mr_calli (rest := [.ref h0]) ⟨hx, hb, hml, hown, htb⟩ (f_run9 l dC dI h0 ad cid sg_36 gm lg r_41 ws wg wl rs rg S hI_sg_36 hr_41 (DOC_of hdoc (show KS [5, 51, 52] sg sg_36 from (KS_up (KS_tr (L := [5, 51, 52]) KS_rf hks_j59 (by decide)) esg_36 (by decide))) (show KS [] gm gm from KS_rf) (show KS [] lg lg from KS_rf) (by decide) (by decide) (by decide) (by decide)) (GI0_of hgi (show KS [5, 51, 52] sg sg_36 from (KS_up (KS_tr (L := [5, 51, 52]) KS_rf hks_j59 (by decide)) esg_36 (by decide))) (show KS [] gm gm from KS_rf) (show KS [] lg lg from KS_rf) (by decide) (by decide) (by decide) (by decide) (by decide) (by decide)) hPR (MO_of hmo (show KS [5, 51, 52] sg sg_36 from (KS_up (KS_tr (L := [5, 51, 52]) KS_rf hks_j59 (by decide)) esg_36 (by decide))) (show KS [] gm gm from KS_rf) (by decide) (by decide)) fLt_r_41 hRW ((rs9_ks (L := [5, 51, 52]) (KS_up (KS_tr (L := [5, 51, 52]) KS_rf hks_j59 (by decide)) esg_36 (by decide)) rfl rfl).trans hRS) hBR hCL (RR_ks (L := [5, 51, 52]) (M := []) hRR (KS_up (KS_tr (L := [5, 51, 52]) KS_rf hks_j59 (by decide)) esg_36 (by decide)) KS_rf (by decide) (by decide)) hWD hST hST2 hSB hWF (by have := i32_0; have := i32_1; have := i32_2; have := i32_m1; have := congrArg Int32.toInt (show sg_36 51 = sg_j59 51 from up_ne esg_36 (by decide)); have := (show iv 0 8 (sg_j59 51) from MI_s hI_j59 51).1; have := (show iv 0 8 (sg_j59 51) from MI_s hI_j59 51).2; have := (show iv 0 8 (sg 51) from MI_s hI 51).1; have := (show iv 0 8 (sg 51) from MI_s hI 51).2; have := (show iv 0 8 (sg_j59 51) from MI_s hI_j59 51).1; have := (show iv 0 8 (sg_j59 51) from MI_s hI_j59 51).2; have := (hx5_59).1; have := (hx5_59).2; have := (h_29).1; have := (h_29).2; have := (h152).1; have := (h152).2; have := (h64o).1; have := (h64o).2; have := (hz_30).1; have := (hz_30).2; have := (hz_31).1; have := (hz_31).2; have := (hr_41).1; have := (hr_41).2; omega)) (cwV 1 htb (gd_V kw_1245 kw_1246 kw_111 kw_160 kw_1621) rfl rfl rfl (by decide +kernel) ⟨Nat.le_of_ble_eq_true rfl, Nat.le_of_ble_eq_true rfl⟩) rfl hl.1 rfl (Nat.le_of_ble_eq_true rfl) dX13_call_166 ⟨Nat.zero_le _, Nat.zero_le _⟩ hK hP hD hS hA (fun r_43 u_44 H locs hw hP hD hS => ?_)
            obtain ⟨sgv_45, gmv_45, lgv_45, rfl, hIv_45, ksv_45, kgv_45, klv_45, hr_43, fGI_r_43, fMo_r_43, f9_r_43⟩ := hw
            obtain rfl := KS_nil klv_45
            have hP : va_P (dC, dI) vwCl (mW h0 ad cid sgv_45 gmv_45 lg) H := hP
            have hD : va_D A (mW h0 ad cid sgv_45 gmv_45 lg) := hD
            refine lv_if_eq (tgt := 176) hx hb dX13_call_169 (by decide) (fun c_46 => ?_) (fun c_46 => ?_)
            · have h_47 : iv 0 0 r_43 := iv_eq c_46 hr_43 (iv_k (by decide) : iv 0 0 0) (by decide)
              refine lv_iconst (v := 3) hx hb dX13_call_176 (by decide) ?_
              refine ma_put (x := 3) hx hb htb inX13 hown hK hP hD hS 5 (by decide) (by decide) (htb _ kw_1032) rfl rfl rfl dX13_call_177 (fun sg_48 H locs esg_48 hP hD hS => ?_)
              have hI_sg_48 := MI_put hIv_45 esg_48 (iv_k (by decide) : iv 3 3 3) (by decide)
              refine lv_aload_n hx hb dX13_call_180 rfl (lv_at hl 3 rfl) ?_
              refine mr_get (v := .int (sg_48 5)) hx hb htb inX13 hown hK hP 5 (by decide) (htb _ kw_1032) rfl dX13_call_181 ?_
              refine lv_topi (fun z_49 ez_49 => ?_)
              obtain rfl : 3 = z_49 := (ez_49.trans (up_at esg_48)).symm
              refine lv_if_le (tgt := 191) hx hb dX13_call_184 (by decide) (fun c_50 => absurd c_50 (by decide)) (fun _ => ?_)
              refine lv_iconst (v := 0) hx hb dX13_call_187 (by decide) ?_
              refine lv_goto (tgt := 195) hx hb dX13_call_188 (by decide) ?_
              exact W.iret (v := 0) hx hb hr (fun t ht hW => ⟨⟨0, (sg_48, gmv_45, lg), rfl, ⟨sg_48, gmv_45, lg, rfl, hI_sg_48, (KS_up (KS_tr (L := [5, 48, 49, 50, 51, 52, 63, 74]) (KS_up (KS_tr (L := [5, 48, 49, 50, 51, 52, 63, 74]) KS_rf hks_j59 (by decide)) esg_36 (by decide)) ksv_45 (by decide)) esg_48 (by decide)), (KS_tr (L := [53, 54, 55, 56, 57, 58, 59, 60, 61, 62, 64, 65, 66, 67, 68, 69, 70, 71, 72, 73, 75]) KS_rf kgv_45 (by decide)), KS_rf, ((GI0_of fGI_r_43 (show KS [5] sgv_45 sg_48 from (KS_up KS_rf esg_48 (by decide))) (show KS [] gmv_45 gmv_45 from KS_rf) (show KS [] lg lg from KS_rf) (by decide) (by decide) (by decide) (by decide) (by decide) (by decide))), ((MO_of fMo_r_43 (show KS [5] sgv_45 sg_48 from (KS_up KS_rf esg_48 (by decide))) (show KS [] gmv_45 gmv_45 from KS_rf) (by decide) (by decide))), ((Or.inr (Or.inr (by obtain ⟨S2, q1, q2, ⟨p1, p2⟩ | ⟨p1, p2⟩⟩ := RU_g (show iv 0 80 (ws 12) from (by have q5 := hBR.1; rw [rs9_41 hRS] at q5; have q6 := (show iv 0 80 (sg 41) from MI_s hI 41); exact ⟨by rw [← q5]; exact q6.1, by rw [← q5]; exact q6.2⟩)) hca f9_r_43; (exfalso; have := i32_0; have := i32_1; have := i32_2; have := i32_m1; have := (hx5_59).1; have := (hx5_59).2; have := (h_29).1; have := (h_29).2; have := (h152).1; have := (h152).2; have := (h64o).1; have := (h64o).2; have := (hz_30).1; have := (hz_30).2; have := (hz_31).1; have := (hz_31).2; have := (hr_41).1; have := (hr_41).2; have := (h_47).1; have := (h_47).2; have := p1; omega); (exact ⟨hdc, (by rw [hi3]; omega), S2, (RR_ks q1 (show KS [5] sgv_45 sg_48 from (KS_up KS_rf esg_48 (by decide))) (KS_rf (L := []) (f := gmv_45)) (by decide) (by decide)), q2, Or.inr ⟨(by have := i32_0; have := i32_1; have := i32_2; have := i32_m1; have : (sg_48 5).toInt = 3 := (by rw [up_at esg_48]; rfl); have := (hx5_59).1; have := (hx5_59).2; have := (h_29).1; have := (h_29).2; have := (h152).1; have := (h152).2; have := (h64o).1; have := (h64o).2; have := (hz_30).1; have := (hz_30).2; have := (hz_31).1; have := (hz_31).2; have := (hr_41).1; have := (hr_41).2; have := (h_47).1; have := (h_47).2; omega), p2⟩⟩)))))⟩, by rw [ht]; exact hP, va_K.moved hW.alike hK, hD⟩, hS.F ht⟩) hS.2.2 dX13_call_195
            · have h_51 : iv 1 1 r_43 := iv_neL c_46 hr_43 (by decide)
              refine lv_iconst (v := 0) hx hb dX13_call_172 (by decide) ?_
              refine lv_goto (tgt := 177) hx hb dX13_call_173 (by decide) ?_
              refine ma_put (x := 0) hx hb htb inX13 hown hK hP hD hS 5 (by decide) (by decide) (htb _ kw_1032) rfl rfl rfl dX13_call_177 (fun sg_52 H locs esg_52 hP hD hS => ?_)
              have hI_sg_52 := MI_put hIv_45 esg_52 (iv_k (by decide) : iv 0 0 0) (by decide)
              refine lv_aload_n hx hb dX13_call_180 rfl (lv_at hl 3 rfl) ?_
              refine mr_get (v := .int (sg_52 5)) hx hb htb inX13 hown hK hP 5 (by decide) (htb _ kw_1032) rfl dX13_call_181 ?_
              refine lv_topi (fun z_53 ez_53 => ?_)
              obtain rfl : 0 = z_53 := (ez_53.trans (up_at esg_52)).symm
              refine lv_if_le (tgt := 191) hx hb dX13_call_184 (by decide) (fun _ => ?_) (fun c_54 => absurd (by decide) c_54)
              refine lv_aload_n hx hb dX13_call_191 rfl (lv_at hl 3 rfl) ?_
              refine mr_get (v := .int (sg_52 74)) hx hb htb inX13 hown hK hP 74 (by decide) (htb _ kw_1101) rfl dX13_call_192 ?_
              refine lv_topi (fun z_55 ez_55 => ?_)
              obtain rfl : (sgv_45 74) = z_55 := (ez_55.trans (up_ne esg_52 (by decide))).symm
              exact W.iret (v := (sgv_45 74)) hx hb hr (fun t ht hW => ⟨⟨(sgv_45 74), (sg_52, gmv_45, lg), rfl, ⟨sg_52, gmv_45, lg, rfl, hI_sg_52, (KS_up (KS_tr (L := [5, 48, 49, 50, 51, 52, 63, 74]) (KS_up (KS_tr (L := [5, 48, 49, 50, 51, 52, 63, 74]) KS_rf hks_j59 (by decide)) esg_36 (by decide)) ksv_45 (by decide)) esg_52 (by decide)), (KS_tr (L := [53, 54, 55, 56, 57, 58, 59, 60, 61, 62, 64, 65, 66, 67, 68, 69, 70, 71, 72, 73, 75]) KS_rf kgv_45 (by decide)), KS_rf, ((GI0_of fGI_r_43 (show KS [5] sgv_45 sg_52 from (KS_up KS_rf esg_52 (by decide))) (show KS [] gmv_45 gmv_45 from KS_rf) (show KS [] lg lg from KS_rf) (by decide) (by decide) (by decide) (by decide) (by decide) (by decide))), ((MO_of fMo_r_43 (show KS [5] sgv_45 sg_52 from (KS_up KS_rf esg_52 (by decide))) (show KS [] gmv_45 gmv_45 from KS_rf) (by decide) (by decide))), ((Or.inr (Or.inr (by obtain ⟨S2, q1, q2, ⟨p1, p2⟩ | ⟨p1, p2⟩⟩ := RU_g (show iv 0 80 (ws 12) from (by have q5 := hBR.1; rw [rs9_41 hRS] at q5; have q6 := (show iv 0 80 (sg 41) from MI_s hI 41); exact ⟨by rw [← q5]; exact q6.1, by rw [← q5]; exact q6.2⟩)) hca f9_r_43; (exact ⟨hdc, (by rw [hi3]; omega), S2, (RR_ks q1 (show KS [5] sgv_45 sg_52 from (KS_up KS_rf esg_52 (by decide))) (KS_rf (L := []) (f := gmv_45)) (by decide) (by decide)), q2, Or.inl ⟨(by have := i32_0; have := i32_1; have := i32_2; have := i32_m1; have : (sg_52 5).toInt = 0 := (by rw [up_at esg_52]; rfl); have := (hx5_59).1; have := (hx5_59).2; have := (h_29).1; have := (h_29).2; have := (h152).1; have := (h152).2; have := (h64o).1; have := (h64o).2; have := (hz_30).1; have := (hz_30).2; have := (hz_31).1; have := (hz_31).2; have := (hr_41).1; have := (hr_41).2; have := (h_51).1; have := (h_51).2; have := ((show iv (-1) 59 (sgv_45 74) from MI_s hIv_45 74)).1; have := ((show iv (-1) 59 (sgv_45 74) from MI_s hIv_45 74)).2; omega), p2⟩⟩); (exfalso; have := i32_0; have := i32_1; have := i32_2; have := i32_m1; have := (hx5_59).1; have := (hx5_59).2; have := (h_29).1; have := (h_29).2; have := (h152).1; have := (h152).2; have := (h64o).1; have := (h64o).2; have := (hz_30).1; have := (hz_30).2; have := (hz_31).1; have := (hz_31).2; have := (hr_41).1; have := (hr_41).2; have := (h_51).1; have := (h_51).2; have := ((show iv (-1) 59 (sgv_45 74) from MI_s hIv_45 74)).1; have := ((show iv (-1) 59 (sgv_45 74) from MI_s hIv_45 74)).2; have := p1; omega)))))⟩, by rw [ht]; exact hP, va_K.moved hW.alike hK, hD⟩, hS.F ht⟩) hS.2.2 dX13_call_195
          · have h_56 : iv (-1) (-1) x3_59 := iv_eq c_34 hx3_59 (iv_k (by decide) : iv (-1) (-1) (-1)) (by decide)
            refine lv_iconst (v := 2) hx hb dX13_call_135 (by decide) ?_
            refine lv_goto (tgt := 140) hx hb dX13_call_136 (by decide) ?_
            refine ma_put (x := 2) hx hb htb inX13 hown hK hP hD hS 5 (by decide) (by decide) (htb _ kw_1032) rfl rfl rfl dX13_call_140 (fun sg_57 H locs esg_57 hP hD hS => ?_)
            have hI_sg_57 := MI_put hI_j59 esg_57 (iv_k (by decide) : iv 2 2 2) (by decide)
            refine lv_aload_n hx hb dX13_call_143 rfl (lv_at hl 3 rfl) ?_
            refine mr_get (v := .int (sg_57 5)) hx hb htb inX13 hown hK hP 5 (by decide) (htb _ kw_1032) rfl dX13_call_144 ?_
            refine lv_topi (fun z_58 ez_58 => ?_)
            obtain rfl : 2 = z_58 := (ez_58.trans (up_at esg_57)).symm
            refine lv_if_le (tgt := 152) hx hb dX13_call_147 (by decide) (fun c_59 => absurd c_59 (by decide)) (fun _ => ?_)
            refine lv_iconst (v := 0) hx hb dX13_call_150 (by decide) ?_
            exact W.iret (v := 0) hx hb hr (fun t ht hW => ⟨⟨0, (sg_57, gm, lg), rfl, ⟨sg_57, gm, lg, rfl, hI_sg_57, (KS_up (KS_tr (L := [5, 48, 49, 50, 51, 52, 63, 74]) KS_rf hks_j59 (by decide)) esg_57 (by decide)), KS_rf, KS_rf, ((GI0_of hgi (show KS [5, 51, 52] sg sg_57 from (KS_up (KS_tr (L := [5, 51, 52]) KS_rf hks_j59 (by decide)) esg_57 (by decide))) (show KS [] gm gm from KS_rf) (show KS [] lg lg from KS_rf) (by decide) (by decide) (by decide) (by decide) (by decide) (by decide))), ((MO_of hmo (show KS [5, 51, 52] sg sg_57 from (KS_up (KS_tr (L := [5, 51, 52]) KS_rf hks_j59 (by decide)) esg_57 (by decide))) (show KS [] gm gm from KS_rf) (by decide) (by decide))), ((Or.inr (Or.inl ⟨hdc, (by rcases hfin with q | q; (rw [q.2]; decide); (exfalso; obtain ⟨i9, q1, q2, q3, q4, q5, q6⟩ := q; have := i32_0; have := i32_1; have := i32_2; have := i32_m1; have := (hx5_59).1; have := (hx5_59).2; have := (h_29).1; have := (h_29).2; have := (h_56).1; have := (h_56).2; have := (h64o).1; have := (h64o).2; have := (hz_30).1; have := (hz_30).2; have := (hz_31).1; have := (hz_31).2; omega)), (by have := i32_0; have := i32_1; have := i32_2; have := i32_m1; have : (sg_57 5).toInt = 2 := (by rw [up_at esg_57]; rfl); have := (hx5_59).1; have := (hx5_59).2; have := (h_29).1; have := (h_29).2; have := (h_56).1; have := (h_56).2; have := (h64o).1; have := (h64o).2; have := (hz_30).1; have := (hz_30).2; have := (hz_31).1; have := (hz_31).2; omega), (RR_ks (L := [5, 51, 52]) (M := []) hRR (KS_up (KS_tr (L := [5, 51, 52]) KS_rf hks_j59 (by decide)) esg_57 (by decide)) KS_rf (by decide) (by decide))⟩)))⟩, by rw [ht]; exact hP, va_K.moved hW.alike hK, hD⟩, hS.F ht⟩) hS.2.2 dX13_call_151
        · have d_60 : (x5_59 : Int32).toInt < (z_31 : Int32).toInt := Int32.lt_iff_toInt_lt.mp (i32_lt c_32)
          have h_61 : iv 0 25 x5_59 := iv_ltL (i32_lt c_32) hx5_59 hz_31 (by decide)
          have h_62 : iv 1 26 z_31 := iv_ltR (i32_lt c_32) hx5_59 hz_31 (by decide)
          have hkn : x5_59.toNatClampNeg < (wg 41 (3 * (gm 54 o.toNatClampNeg).toNatClampNeg + 2)).toNatClampNeg := (by have q5 := (BR_l hBR hRW hRS hbv hbl).1; have q6 := congrArg Int32.toInt (show z_31 = gm 46 (gm 54 o.toNatClampNeg).toNatClampNeg from (by rw [ez_31, (show z_30 = (gm 54 o.toNatClampNeg) from ez_30)])); have q7 : (wg 41 (3 * (gm 54 o.toNatClampNeg).toNatClampNeg + 2)).toNatClampNeg = (wg 41 (3 * (gm 54 o.toNatClampNeg).toNatClampNeg + 2)).toInt.toNat := rfl; have q1 : x5_59.toNatClampNeg = x5_59.toInt.toNat := rfl; have := i32_0; have := i32_1; have := i32_2; have := i32_m1; have := (h_61).1; have := (h_61).2; have := (h_29).1; have := (h_29).2; have := (hx3_59).1; have := (hx3_59).2; have := (h64o).1; have := (h64o).2; have := (hz_30).1; have := (hz_30).2; have := (h_62).1; have := (h_62).2; omega)
          have hbl9 := (BR_l hBR hRW hRS hbv hbl).2 _ hkn
          refine lv_aload_n hx hb dX13_call_80 rfl (lv_at hl 3 rfl) ?_
          refine mr_get (v := .ref (ad 47)) hx hb htb inX13 hown hK hP 47 (by decide) (htb _ kw_1074) rfl dX13_call_81 ?_
          refine lv_bipush (v := 26) hx hb dX13_call_84 (by decide) ?_
          refine lv_aload_n hx hb dX13_call_86 rfl (lv_at hl 3 rfl) ?_
          refine mr_get (v := .ref (ad 54)) hx hb htb inX13 hown hK hP 54 (by decide) (htb _ kw_1081) rfl dX13_call_87 ?_
          refine lv_iload_n hx hb dX13_call_90 rfl (lv_at hl 4 rfl) ?_
          refine mr_iald hx hb hK hP 40 (k := 54) rfl rfl rfl (show vp_in o 60 from (iv_in h64o (by decide))) dX13_call_91 ?_
          refine lv_topi (fun z_63 ez_63 => ?_)
          obtain rfl : z_30 = z_63 := ez_30.trans ez_63.symm
          refine lv_imul hx hb dX13_call_92 ?_
          refine lv_topi (fun z_64 ez_64 => ?_)
          have hz_64 : iv 0 2054 z_64 := iv_of ez_64 (iv_mul (iv_k (by decide) : iv 26 26 26) hz_30 (by decide))
          have tz_64 : z_64.toInt = 26 * (z_30 : Int32).toInt := by rw [ez_64]; exact iv_mulE (iv_k (by decide) : iv 26 26 26) hz_30 (by decide)
          refine lv_iload hx hb dX13_call_93 (lv_at hl 0 rfl) ?_
          refine lv_iadd hx hb dX13_call_95 ?_
          refine lv_topi (fun z_65 ez_65 => ?_)
          have hz_65 : iv 0 2079 z_65 := iv_of ez_65 (iv_add hz_64 h_61 (by decide))
          have tz_65 : z_65.toInt = (z_64 : Int32).toInt + (x5_59 : Int32).toInt := by rw [ez_65]; exact iv_addE hz_64 h_61 (by decide)
          refine mr_iald hx hb hK hP 38 (k := 47) rfl rfl rfl (show vp_in z_65 2080 from (iv_in hz_65 (by decide))) dX13_call_96 ?_
          refine lv_topi (fun z_66 ez_66 => ?_)
          have hz_66 : iv 0 79 z_66 := iv_of ez_66 (MI_a hI_j59 47 hz_65 (by decide))
          refine lv_istore (lv' := [(6, .int z_66), (5, .int x5_59), (4, .int x4_59), (3, .int x3_59), (0, .ref h0), (1, .int o), (2, .int nm)]) hx hb dX13_call_97 hl (by decide) rfl (fun ls hl => ?_)
          have hel : z_66 = wg 57 (128 * (3 * (gm 54 o.toNatClampNeg).toNatClampNeg + 2) + x5_59.toNatClampNeg) := (by rw [← hbl9.1, ez_66, show z_65.toNatClampNeg = 26 * (gm 54 o.toNatClampNeg).toNatClampNeg + x5_59.toNatClampNeg from (by have q5 := congrArg Int32.toInt (show z_30 = (gm 54 o.toNatClampNeg) from ez_30); have q6 : (gm 54 o.toNatClampNeg).toNatClampNeg = (gm 54 o.toNatClampNeg).toInt.toNat := rfl; have q1 : z_65.toNatClampNeg = z_65.toInt.toNat := rfl; have q1 : x5_59.toNatClampNeg = x5_59.toInt.toNat := rfl; have := i32_0; have := i32_1; have := i32_2; have := i32_m1; have := (h_61).1; have := (h_61).2; have := (h_29).1; have := (h_29).2; have := (hx3_59).1; have := (hx3_59).2; have := (h64o).1; have := (h64o).2; have := (hz_30).1; have := (hz_30).2; have := (h_62).1; have := (h_62).2; have := (hz_64).1; have := (hz_64).2; have := (hz_65).1; have := (hz_65).2; have := (hz_66).1; have := (hz_66).2; omega)])
          refine lv_aload_n hx hb dX13_call_99 rfl (lv_at hl 4 rfl) ?_
          refine lv_iload hx hb dX13_call_100 (lv_at hl 0 rfl) ?_
          refine lv_ldc2 (own := RX13) (v := 1851878757) hx hb hown (htb _ kw_1178) dX13_call_102 ?_
          refine mr_calll (rest := []) ⟨hx, hb, hml, hown, htb⟩ (f_word l dC dI h0 ad cid sg_j59 gm lg z_66 1851878757 hI_j59 hz_66) (cwV 2 htb (gd_V kw_1201 kw_1202 kw_96 kw_160 kw_1603) rfl rfl rfl (by decide +kernel) ⟨Nat.le_of_ble_eq_true rfl, Nat.le_of_ble_eq_true rfl⟩) rfl hl.1 rfl (Nat.le_of_ble_eq_true rfl) dX13_call_105 ⟨Nat.zero_le _, Nat.zero_le _⟩ hK hP hD hS hA (fun r_67 u_68 H locs hw hP hD hS => ?_)
          obtain ⟨fW_r_67, rfl⟩ := hw
          have hP : va_P (dC, dI) vwCl (mW h0 ad cid sg_j59 gm lg) H := hP
          have hD : va_D A (mW h0 ad cid sg_j59 gm lg) := hD
          refine lv_l2i (v := (r_67).toInt32) hx hb dX13_call_108 rfl ?_
          refine lv_topi (fun z_69 ez_69 => ?_)
          refine lv_bipush (v := 97) hx hb dX13_call_109 (by decide) ?_
          refine lv_isub hx hb dX13_call_111 ?_
          refine lv_topi (fun z_70 ez_70 => ?_)
          have hnm : z_70.toInt = (wg 22 (wg 57 (128 * (3 * (gm 54 o.toNatClampNeg).toNatClampNeg + 2) + x5_59.toNatClampNeg)).toNatClampNeg).toInt := (by have q5 := hbl9.2.1; rw [← hel] at q5 ⊢; have q6 := fW_r_67; rw [← q5, ← q6, ← ez_69, ← ez_70])
          refine lv_iload_n hx hb dX13_call_112 rfl (lv_at hl 6 rfl) ?_
          refine lv_icmp_ne (tgt := 121) hx hb dX13_call_113 (by decide) (fun c_71 => ?_) (fun c_71 => ?_)
          · refine lv_iload_n hx hb dX13_call_121 rfl (lv_at hl 3 rfl) ?_
            refine lv_istore_n (lv' := [(3, .int x3_59), (6, .int z_66), (5, .int x5_59), (4, .int x4_59), (0, .ref h0), (1, .int o), (2, .int nm)]) hx hb dX13_call_122 rfl hl (by decide) rfl (fun ls hl => ?_)
            obtain ⟨z_72, ez_72⟩ : ∃ z : Int32, z = x5_59 + 1 := ⟨_, rfl⟩
            have hz_72 : iv 1 26 z_72 := iv_of ez_72 (iv_add h_61 (iv_k (by decide) : iv 1 1 1) (by decide))
            have tz_72 : z_72.toInt = x5_59.toInt + 1 := by rw [ez_72]; exact iv_addE h_61 (iv_k (by decide) : iv 1 1 1) (by decide)
            refine lv_iinc (v := z_72) (lv' := [(5, .int z_72), (3, .int x3_59), (6, .int z_66), (4, .int x4_59), (0, .ref h0), (1, .int o), (2, .int nm)]) hx hb dX13_call_123 hl (k := 2) rfl ez_72.symm (by decide) rfl (fun ls hl => ?_)
            refine lv_goto (tgt := 59) hx hb dX13_call_126 (by decide) ?_
            exact ih59 _ (by rw [← hn59]; exact (iv_meas tz_72 h_61 (by decide))) sg_j59 z_72 x4_59 x3_59 rfl (iv_w hz_72 (by decide)) (iv_w h_29 (by decide)) hx3_59 (KS_tr (L := [5, 51, 52]) KS_rf hks_j59 (by decide)) hI_j59 (hdoc) (hdc) (hBR) (hSB) ((by have := i32_0; have := i32_1; have := i32_2; have := i32_m1; have := (show iv 0 8 (sg_j59 51) from MI_s hI_j59 51).1; have := (show iv 0 8 (sg_j59 51) from MI_s hI_j59 51).2; have := (show iv 0 8 (sg 51) from MI_s hI 51).1; have := (show iv 0 8 (sg 51) from MI_s hI 51).2; have := (h_61).1; have := (h_61).2; have := (h_29).1; have := (h_29).2; have := (hx3_59).1; have := (hx3_59).2; have := (h64o).1; have := (h64o).2; have := (hz_30).1; have := (hz_30).2; have := (h_62).1; have := (h_62).2; have := (hz_64).1; have := (hz_64).2; have := (hz_65).1; have := (hz_65).2; have := (hz_66).1; have := (hz_66).2; have := (hz_72).1; have := (hz_72).2; have q77 := h51j; omega)) (Or.inr ⟨(by have := i32_0; have := i32_1; have := i32_2; have := i32_m1; have := (h_61).1; have := (h_61).2; have := (h_29).1; have := (h_29).2; have := (hx3_59).1; have := (hx3_59).2; have := (h64o).1; have := (h64o).2; have := (hz_30).1; have := (hz_30).2; have := (h_62).1; have := (h_62).2; have := (hz_64).1; have := (hz_64).2; have := (hz_65).1; have := (hz_65).2; have := (hz_66).1; have := (hz_66).2; have := (hz_72).1; have := (hz_72).2; omega), h64o, h64l, (by rw [(show z_72.toNatClampNeg = x5_59.toNatClampNeg + 1 from (by have q1 : z_72.toNatClampNeg = z_72.toInt.toNat := rfl; have q1 : x5_59.toNatClampNeg = x5_59.toInt.toNat := rfl; have := i32_0; have := i32_1; have := i32_2; have := i32_m1; have := (h_61).1; have := (h_61).2; have := (h_29).1; have := (h_29).2; have := (hx3_59).1; have := (hx3_59).2; have := (h64o).1; have := (h64o).2; have := (hz_30).1; have := (hz_30).2; have := (h_62).1; have := (h_62).2; have := (hz_64).1; have := (hz_64).2; have := (hz_65).1; have := (hz_65).2; have := (hz_66).1; have := (hz_66).2; have := (hz_72).1; have := (hz_72).2; omega))]; exact LKQ_n hLQ (by rw [← hnm]; exact (fun q7 => c_71 (Int32.toInt_inj.mp q7)))), (by have q7 : (wg 41 (3 * (gm 54 o.toNatClampNeg).toNatClampNeg + 2)).toNatClampNeg = (wg 41 (3 * (gm 54 o.toNatClampNeg).toNatClampNeg + 2)).toInt.toNat := rfl; have := hkn; have q1 : x5_59.toNatClampNeg = x5_59.toInt.toNat := rfl; have := i32_0; have := i32_1; have := i32_2; have := i32_m1; have := (h_61).1; have := (h_61).2; have := (h_29).1; have := (h_29).2; have := (hx3_59).1; have := (hx3_59).2; have := (h64o).1; have := (h64o).2; have := (hz_30).1; have := (hz_30).2; have := (h_62).1; have := (h_62).2; have := (hz_64).1; have := (hz_64).2; have := (hz_65).1; have := (hz_65).2; have := (hz_66).1; have := (hz_66).2; have := (hz_72).1; have := (hz_72).2; omega)⟩) _ _ _ hP hD hS (lv_sub hl [0, 3, 1, 4, 5, 6] rfl)
          · have d_73 : (z_70 : Int32).toInt = (nm : Int32).toInt := congrArg Int32.toInt c_71
            refine lv_iload hx hb dX13_call_116 (lv_at hl 0 rfl) ?_
            refine lv_goto (tgt := 122) hx hb dX13_call_118 (by decide) ?_
            refine lv_istore_n (lv' := [(3, .int z_66), (6, .int z_66), (5, .int x5_59), (4, .int x4_59), (0, .ref h0), (1, .int o), (2, .int nm)]) hx hb dX13_call_122 rfl hl (by decide) rfl (fun ls hl => ?_)
            obtain ⟨z_74, ez_74⟩ : ∃ z : Int32, z = x5_59 + 1 := ⟨_, rfl⟩
            have hz_74 : iv 1 26 z_74 := iv_of ez_74 (iv_add h_61 (iv_k (by decide) : iv 1 1 1) (by decide))
            have tz_74 : z_74.toInt = x5_59.toInt + 1 := by rw [ez_74]; exact iv_addE h_61 (iv_k (by decide) : iv 1 1 1) (by decide)
            refine lv_iinc (v := z_74) (lv' := [(5, .int z_74), (3, .int z_66), (6, .int z_66), (4, .int x4_59), (0, .ref h0), (1, .int o), (2, .int nm)]) hx hb dX13_call_123 hl (k := 2) rfl ez_74.symm (by decide) rfl (fun ls hl => ?_)
            refine lv_goto (tgt := 59) hx hb dX13_call_126 (by decide) ?_
            exact ih59 _ (by rw [← hn59]; exact (iv_meas tz_74 h_61 (by decide))) sg_j59 z_74 x4_59 z_66 rfl (iv_w hz_74 (by decide)) (iv_w h_29 (by decide)) (iv_w hz_66 (by decide)) (KS_tr (L := [5, 51, 52]) KS_rf hks_j59 (by decide)) hI_j59 (hdoc) (hdc) (hBR) (hSB) ((by have := i32_0; have := i32_1; have := i32_2; have := i32_m1; have := (show iv 0 8 (sg_j59 51) from MI_s hI_j59 51).1; have := (show iv 0 8 (sg_j59 51) from MI_s hI_j59 51).2; have := (show iv 0 8 (sg 51) from MI_s hI 51).1; have := (show iv 0 8 (sg 51) from MI_s hI 51).2; have := (h_61).1; have := (h_61).2; have := (h_29).1; have := (h_29).2; have := (hx3_59).1; have := (hx3_59).2; have := (h64o).1; have := (h64o).2; have := (hz_30).1; have := (hz_30).2; have := (h_62).1; have := (h_62).2; have := (hz_64).1; have := (hz_64).2; have := (hz_65).1; have := (hz_65).2; have := (hz_66).1; have := (hz_66).2; have := (hz_74).1; have := (hz_74).2; have q77 := h51j; omega)) (Or.inr ⟨(by have := i32_0; have := i32_1; have := i32_2; have := i32_m1; have := (h_61).1; have := (h_61).2; have := (h_29).1; have := (h_29).2; have := (hx3_59).1; have := (hx3_59).2; have := (h64o).1; have := (h64o).2; have := (hz_30).1; have := (hz_30).2; have := (h_62).1; have := (h_62).2; have := (hz_64).1; have := (hz_64).2; have := (hz_65).1; have := (hz_65).2; have := (hz_66).1; have := (hz_66).2; have := (hz_74).1; have := (hz_74).2; omega), h64o, h64l, (by rw [(show z_74.toNatClampNeg = x5_59.toNatClampNeg + 1 from (by have q1 : z_74.toNatClampNeg = z_74.toInt.toNat := rfl; have q1 : x5_59.toNatClampNeg = x5_59.toInt.toNat := rfl; have := i32_0; have := i32_1; have := i32_2; have := i32_m1; have := (h_61).1; have := (h_61).2; have := (h_29).1; have := (h_29).2; have := (hx3_59).1; have := (hx3_59).2; have := (h64o).1; have := (h64o).2; have := (hz_30).1; have := (hz_30).2; have := (h_62).1; have := (h_62).2; have := (hz_64).1; have := (hz_64).2; have := (hz_65).1; have := (hz_65).2; have := (hz_66).1; have := (hz_66).2; have := (hz_74).1; have := (hz_74).2; omega))]; exact LKQ_y (by rw [← hnm]; have := i32_0; have := i32_1; have := i32_2; have := i32_m1; have := (h_61).1; have := (h_61).2; have := (h_29).1; have := (h_29).2; have := (hx3_59).1; have := (hx3_59).2; have := (h64o).1; have := (h64o).2; have := (hz_30).1; have := (hz_30).2; have := (h_62).1; have := (h_62).2; have := (hz_64).1; have := (hz_64).2; have := (hz_65).1; have := (hz_65).2; have := (hz_66).1; have := (hz_66).2; have := (hz_74).1; have := (hz_74).2; omega) hel (hz_66).1), (by have q7 : (wg 41 (3 * (gm 54 o.toNatClampNeg).toNatClampNeg + 2)).toNatClampNeg = (wg 41 (3 * (gm 54 o.toNatClampNeg).toNatClampNeg + 2)).toInt.toNat := rfl; have := hkn; have q1 : x5_59.toNatClampNeg = x5_59.toInt.toNat := rfl; have := i32_0; have := i32_1; have := i32_2; have := i32_m1; have := (h_61).1; have := (h_61).2; have := (h_29).1; have := (h_29).2; have := (hx3_59).1; have := (hx3_59).2; have := (h64o).1; have := (h64o).2; have := (hz_30).1; have := (hz_30).2; have := (h_62).1; have := (h_62).2; have := (hz_64).1; have := (hz_64).2; have := (hz_65).1; have := (hz_65).2; have := (hz_66).1; have := (hz_66).2; have := (hz_74).1; have := (hz_74).2; omega)⟩) _ _ _ hP hD hS (lv_sub hl [0, 3, 1, 4, 5, 6] rfl)
  have hj23 : ∀ (sg_j23 : Nat → Int32) (y0_23 : Int32) (_ : iv 0 1 y0_23) (_ : KS [51, 52] sg sg_j23) (_ : MI sg_j23 gm) (_ : 1 ≤ y0_23.toInt ∨ DOC sg gm lg) (_ : (y0_23.toInt = 1 ∧ (sg 40).toInt = 0) ∨ (y0_23.toInt = 0 ∧ ¬ (sg 40).toInt = 0)) (_ : (sg_j23 51).toInt = 0) (H : Heap) (locs : List Loc) (ls : Array Slot), va_P (dC, dI) vwCl (mW h0 ad cid sg_j23 gm lg) H → va_D A (mW h0 ad cid sg_j23 gm lg) → va_S A s.heap H locs → lv_has ls 7 [(0, .ref h0), (1, .int o), (2, .int nm)] → W p l e (headSpec wm_X13_call ({ frames := 12, cells := 0, slots := 0, locals := 300 })).room s m ([.ref h0, .int o, .int nm] : List Value).toArray below meth c H locs 0 0 (MQ below (va_Qi (fun r v => ∃ (sg2 : Nat → Int32) (gm2 : Nat → Nat → Int32) (lg2 : Nat → Nat → Int64), v = (sg2, gm2, lg2) ∧ MI sg2 gm2 ∧ KS [5, 48, 49, 50, 51, 52, 63, 74] sg sg2 ∧ KS [53, 54, 55, 56, 57, 58, 59, 60, 61, 62, 64, 65, 66, 67, 68, 69, 70, 71, 72, 73, 75] gm gm2 ∧ KS [] lg lg2 ∧ (GI0 sg2 gm2 lg2) ∧ (MO sg2 gm2) ∧ (((sg 40).toInt = 0 ∧ (sg2 5).toInt = 1 ∧ RR wg wl S sg2 gm2) ∨ (¬ (sg 40).toInt = 0 ∧ zLk wg o.toInt nm.toInt S < 0 ∧ (sg2 5).toInt = 2 ∧ RR wg wl S sg2 gm2) ∨ (¬ (sg 40).toInt = 0 ∧ 0 ≤ zLk wg o.toInt nm.toInt S ∧ ∃ S2, RR wg wl S2 sg2 gm2 ∧ WF9 S2 ∧ (((sg2 5).toInt = 0 ∧ zGt ws wg wl 81 (wl 2 (zLk wg o.toInt nm.toInt S).toNat) S = (some r.toInt, S2)) ∨ ((sg2 5).toInt = 3 ∧ zGt ws wg wl 81 (wl 2 (zLk wg o.toInt nm.toInt S).toNat) S = (none, S2)))))) (MB dC dI h0 ad cid A) A) ([.ref h0, .int o, .int nm] : List Value).toArray s 0 0 A) (F0 m 23 ls [.int y0_23, .ref h0]) := by
    intro sg_j23 y0_23 hy0_23 hks_j23 hI_j23 hd23 h23x h51j H locs ls hP hD hS hl
    refine ma_put (x := y0_23) hx hb htb inX13 hown hK hP hD hS 5 (by decide) (by decide) (htb _ kw_1032) rfl rfl rfl dX13_call_23 (fun sg_75 H locs esg_75 hP hD hS => ?_)
    have hI_sg_75 := MI_put hI_j23 esg_75 hy0_23 (by decide)
    refine lv_aload_n hx hb dX13_call_26 rfl (lv_at hl 0 rfl) ?_
    refine mr_get (v := .int (sg_75 5)) hx hb htb inX13 hown hK hP 5 (by decide) (htb _ kw_1032) rfl dX13_call_27 ?_
    refine lv_topi (fun z_76 ez_76 => ?_)
    obtain rfl : y0_23 = z_76 := (ez_76.trans (up_at esg_75)).symm
    refine lv_if_le (tgt := 35) hx hb dX13_call_30 (by decide) (fun c_77 => ?_) (fun c_77 => ?_)
    · have h_78 : iv 0 0 y0_23 := iv_leL c_77 hy0_23 (iv_k (by decide) : iv 0 0 0) (by decide)
      have hdc : ¬ (sg 40).toInt = 0 := (h23x.resolve_left (fun q => absurd q.1 (by have := i32_0; have := i32_1; have := i32_2; have := i32_m1; have := congrArg Int32.toInt (show sg_75 5 = y0_23 from up_at esg_75); have := (h_78).1; have := (h_78).2; omega))).2
      have hdoc := hdd.resolve_left hdc
      have hBR := hBRd.resolve_left hdc
      have hSB := hSBd.resolve_left hdc
      refine lv_iconst (v := (-1)) hx hb dX13_call_35 (by decide) ?_
      refine lv_istore_n (lv' := [(3, .int (-1)), (0, .ref h0), (1, .int o), (2, .int nm)]) hx hb dX13_call_36 rfl hl (by decide) rfl (fun ls hl => ?_)
      refine lv_iload_n hx hb dX13_call_37 rfl (lv_at hl 2 rfl) ?_
      refine lv_if_lt (tgt := 53) hx hb dX13_call_38 (by decide) (fun c_79 => ?_) (fun c_79 => ?_)
      · have h_80 : iv (-2147483648) (-1) o := iv_ltL c_79 (iv_all o) (iv_k (by decide) : iv 0 0 0) (by decide)
        refine lv_iconst (v := 0) hx hb dX13_call_53 (by decide) ?_
        refine lv_istore (lv' := [(4, .int 0), (3, .int (-1)), (0, .ref h0), (1, .int o), (2, .int nm)]) hx hb dX13_call_54 hl (by decide) rfl (fun ls hl => ?_)
        refine lv_iconst (v := 0) hx hb dX13_call_56 (by decide) ?_
        refine lv_istore (lv' := [(5, .int 0), (4, .int 0), (3, .int (-1)), (0, .ref h0), (1, .int o), (2, .int nm)]) hx hb dX13_call_57 hl (by decide) rfl (fun ls hl => ?_)
        exact hj59 _ sg_75 0 0 (-1) rfl (iv_w (iv_k (by decide) : iv 0 0 0) (by decide)) (iv_w (iv_k (by decide) : iv 0 0 0) (by decide)) (iv_w (iv_k (by decide) : iv (-1) (-1) (-1)) (by decide)) (KS_up (KS_tr (L := [5, 51, 52]) KS_rf hks_j23 (by decide)) esg_75 (by decide)) hI_sg_75 (hdoc) (hdc) (hBR) (hSB) ((by have := i32_0; have := i32_1; have := i32_2; have := i32_m1; have := congrArg Int32.toInt (show sg_75 51 = sg_j23 51 from up_ne esg_75 (by decide)); have := (show iv 0 8 (sg_j23 51) from MI_s hI_j23 51).1; have := (show iv 0 8 (sg_j23 51) from MI_s hI_j23 51).2; have := (show iv 0 8 (sg 51) from MI_s hI 51).1; have := (show iv 0 8 (sg 51) from MI_s hI 51).2; have := (h_78).1; have := (h_78).2; have := (h_80).1; have := (h_80).2; have q77 := h51j; omega)) (Or.inl ⟨rfl, rfl, zLk_z hRR (by have := i32_0; have := i32_1; have := i32_2; have := i32_m1; have := congrArg Int32.toInt (show sg_75 48 = sg_j23 48 from up_ne esg_75 (by decide)); have := congrArg Int32.toInt (show sg_j23 48 = sg 48 from hks_j23 48 (by decide)); have := (show iv 0 60 (sg 48) from MI_s hI 48).1; have := (show iv 0 60 (sg 48) from MI_s hI 48).2; have := (h_78).1; have := (h_78).2; have := (h_80).1; have := (h_80).2; omega)⟩) _ _ _ hP hD hS (lv_sub hl [0, 1, 2, 3, 4, 5] rfl)
      · have h_81 : iv 0 2147483647 o := iv_leR (i32_ge c_79) (iv_k (by decide) : iv 0 0 0) (iv_all o) (by decide)
        refine lv_iload_n hx hb dX13_call_41 rfl (lv_at hl 2 rfl) ?_
        refine lv_aload_n hx hb dX13_call_42 rfl (lv_at hl 1 rfl) ?_
        refine mr_get (v := .int (sg_75 48)) hx hb htb inX13 hown hK hP 48 (by decide) (htb _ kw_1075) rfl dX13_call_43 ?_
        refine lv_topi (fun z_82 ez_82 => ?_)
        obtain rfl : (sg 48) = z_82 := (ez_82.trans (Eq.trans (up_ne esg_75 (by decide)) (hks_j23 48 (by decide)))).symm
        refine lv_icmp_ge (tgt := 53) hx hb dX13_call_46 (by decide) (fun c_83 => ?_) (fun c_83 => ?_)
        · have d_84 : ((sg 48) : Int32).toInt ≤ (o : Int32).toInt := Int32.le_iff_toInt_le.mp c_83
          refine lv_iconst (v := 0) hx hb dX13_call_53 (by decide) ?_
          refine lv_istore (lv' := [(4, .int 0), (3, .int (-1)), (0, .ref h0), (1, .int o), (2, .int nm)]) hx hb dX13_call_54 hl (by decide) rfl (fun ls hl => ?_)
          refine lv_iconst (v := 0) hx hb dX13_call_56 (by decide) ?_
          refine lv_istore (lv' := [(5, .int 0), (4, .int 0), (3, .int (-1)), (0, .ref h0), (1, .int o), (2, .int nm)]) hx hb dX13_call_57 hl (by decide) rfl (fun ls hl => ?_)
          exact hj59 _ sg_75 0 0 (-1) rfl (iv_w (iv_k (by decide) : iv 0 0 0) (by decide)) (iv_w (iv_k (by decide) : iv 0 0 0) (by decide)) (iv_w (iv_k (by decide) : iv (-1) (-1) (-1)) (by decide)) (KS_up (KS_tr (L := [5, 51, 52]) KS_rf hks_j23 (by decide)) esg_75 (by decide)) hI_sg_75 (hdoc) (hdc) (hBR) (hSB) ((by have := i32_0; have := i32_1; have := i32_2; have := i32_m1; have := congrArg Int32.toInt (show sg_75 51 = sg_j23 51 from up_ne esg_75 (by decide)); have := (show iv 0 8 (sg_j23 51) from MI_s hI_j23 51).1; have := (show iv 0 8 (sg_j23 51) from MI_s hI_j23 51).2; have := (show iv 0 8 (sg 51) from MI_s hI 51).1; have := (show iv 0 8 (sg 51) from MI_s hI 51).2; have := (h_78).1; have := (h_78).2; have := (h_81).1; have := (h_81).2; have := ((show iv 0 60 (sg 48) from MI_s hI 48)).1; have := ((show iv 0 60 (sg 48) from MI_s hI 48)).2; have q77 := h51j; omega)) (Or.inl ⟨rfl, rfl, zLk_z hRR (by have := i32_0; have := i32_1; have := i32_2; have := i32_m1; have := congrArg Int32.toInt (show sg_75 48 = sg_j23 48 from up_ne esg_75 (by decide)); have := congrArg Int32.toInt (show sg_j23 48 = sg 48 from hks_j23 48 (by decide)); have := (show iv 0 60 (sg 48) from MI_s hI 48).1; have := (show iv 0 60 (sg 48) from MI_s hI 48).2; have := (h_78).1; have := (h_78).2; have := (h_81).1; have := (h_81).2; have := ((show iv 0 60 (sg 48) from MI_s hI 48)).1; have := ((show iv 0 60 (sg 48) from MI_s hI 48)).2; omega)⟩) _ _ _ hP hD hS (lv_sub hl [0, 1, 2, 3, 4, 5] rfl)
        · have d_85 : (o : Int32).toInt < ((sg 48) : Int32).toInt := Int32.lt_iff_toInt_lt.mp (i32_lt c_83)
          have h_86 : iv 0 59 o := iv_ltL (i32_lt c_83) h_81 (show iv 0 60 (sg 48) from MI_s hI 48) (by decide)
          have h_87 : iv 1 60 (sg 48) := iv_ltR (i32_lt c_83) h_81 (show iv 0 60 (sg 48) from MI_s hI 48) (by decide)
          refine lv_iconst (v := 1) hx hb dX13_call_49 (by decide) ?_
          refine lv_goto (tgt := 54) hx hb dX13_call_50 (by decide) ?_
          refine lv_istore (lv' := [(4, .int 1), (3, .int (-1)), (0, .ref h0), (1, .int o), (2, .int nm)]) hx hb dX13_call_54 hl (by decide) rfl (fun ls hl => ?_)
          refine lv_iconst (v := 0) hx hb dX13_call_56 (by decide) ?_
          refine lv_istore (lv' := [(5, .int 0), (4, .int 1), (3, .int (-1)), (0, .ref h0), (1, .int o), (2, .int nm)]) hx hb dX13_call_57 hl (by decide) rfl (fun ls hl => ?_)
          exact hj59 _ sg_75 0 1 (-1) rfl (iv_w (iv_k (by decide) : iv 0 0 0) (by decide)) (iv_w (iv_k (by decide) : iv 1 1 1) (by decide)) (iv_w (iv_k (by decide) : iv (-1) (-1) (-1)) (by decide)) (KS_up (KS_tr (L := [5, 51, 52]) KS_rf hks_j23 (by decide)) esg_75 (by decide)) hI_sg_75 (hdoc) (hdc) (hBR) (hSB) ((by have := i32_0; have := i32_1; have := i32_2; have := i32_m1; have := congrArg Int32.toInt (show sg_75 51 = sg_j23 51 from up_ne esg_75 (by decide)); have := (show iv 0 8 (sg_j23 51) from MI_s hI_j23 51).1; have := (show iv 0 8 (sg_j23 51) from MI_s hI_j23 51).2; have := (show iv 0 8 (sg 51) from MI_s hI 51).1; have := (show iv 0 8 (sg 51) from MI_s hI 51).2; have := (h_78).1; have := (h_78).2; have := (h_86).1; have := (h_86).2; have := (h_87).1; have := (h_87).2; have q77 := h51j; omega)) (Or.inr ⟨rfl, ⟨(by have := i32_0; have := i32_1; have := i32_2; have := i32_m1; have := congrArg Int32.toInt (show sg_75 48 = sg_j23 48 from up_ne esg_75 (by decide)); have := congrArg Int32.toInt (show sg_j23 48 = sg 48 from hks_j23 48 (by decide)); have := (show iv 0 60 (sg 48) from MI_s hI 48).1; have := (show iv 0 60 (sg 48) from MI_s hI 48).2; have := (h_78).1; have := (h_78).2; have := (h_86).1; have := (h_86).2; have := (h_87).1; have := (h_87).2; omega), (by have := i32_0; have := i32_1; have := i32_2; have := i32_m1; have := congrArg Int32.toInt (show sg_75 48 = sg_j23 48 from up_ne esg_75 (by decide)); have := congrArg Int32.toInt (show sg_j23 48 = sg 48 from hks_j23 48 (by decide)); have := (show iv 0 60 (sg 48) from MI_s hI 48).1; have := (show iv 0 60 (sg 48) from MI_s hI 48).2; have := (h_78).1; have := (h_78).2; have := (h_86).1; have := (h_86).2; have := (h_87).1; have := (h_87).2; omega)⟩, (by have := i32_0; have := i32_1; have := i32_2; have := i32_m1; have := congrArg Int32.toInt (show sg_75 48 = sg_j23 48 from up_ne esg_75 (by decide)); have := congrArg Int32.toInt (show sg_j23 48 = sg 48 from hks_j23 48 (by decide)); have := (show iv 0 60 (sg 48) from MI_s hI 48).1; have := (show iv 0 60 (sg 48) from MI_s hI 48).2; have := (h_78).1; have := (h_78).2; have := (h_86).1; have := (h_86).2; have := (h_87).1; have := (h_87).2; omega), Or.inl ⟨rfl, fun i hi => absurd hi (Nat.not_lt_zero _)⟩, (by show (0 : Int) ≤ _; have q5 := (BR_l hBR hRW hRS (show iv 0 79 (gm 54 o.toNatClampNeg) from ⟨(OB_r (o := o) hRR (hOBd.resolve_left hdc) (by have := i32_0; have := i32_1; have := i32_2; have := i32_m1; have := congrArg Int32.toInt (show sg_75 48 = sg_j23 48 from up_ne esg_75 (by decide)); have := congrArg Int32.toInt (show sg_j23 48 = sg 48 from hks_j23 48 (by decide)); have := (show iv 0 60 (sg 48) from MI_s hI 48).1; have := (show iv 0 60 (sg 48) from MI_s hI 48).2; have := (h_78).1; have := (h_78).2; have := (h_86).1; have := (h_86).2; have := (h_87).1; have := (h_87).2; omega) (by have := i32_0; have := i32_1; have := i32_2; have := i32_m1; have := congrArg Int32.toInt (show sg_75 48 = sg_j23 48 from up_ne esg_75 (by decide)); have := congrArg Int32.toInt (show sg_j23 48 = sg 48 from hks_j23 48 (by decide)); have := (show iv 0 60 (sg 48) from MI_s hI 48).1; have := (show iv 0 60 (sg 48) from MI_s hI 48).2; have := (h_78).1; have := (h_78).2; have := (h_86).1; have := (h_86).2; have := (h_87).1; have := (h_87).2; omega)).1, (by have q9 := (show (gm 54 o.toNatClampNeg).toInt < (sg 41).toInt from (by have q5 := hBR.1; rw [rs9_41 hRS] at q5; have q6 := (OB_r (o := o) hRR (hOBd.resolve_left hdc) (by have := i32_0; have := i32_1; have := i32_2; have := i32_m1; have := congrArg Int32.toInt (show sg_75 48 = sg_j23 48 from up_ne esg_75 (by decide)); have := congrArg Int32.toInt (show sg_j23 48 = sg 48 from hks_j23 48 (by decide)); have := (show iv 0 60 (sg 48) from MI_s hI 48).1; have := (show iv 0 60 (sg 48) from MI_s hI 48).2; have := (h_78).1; have := (h_78).2; have := (h_86).1; have := (h_86).2; have := (h_87).1; have := (h_87).2; omega) (by have := i32_0; have := i32_1; have := i32_2; have := i32_m1; have := congrArg Int32.toInt (show sg_75 48 = sg_j23 48 from up_ne esg_75 (by decide)); have := congrArg Int32.toInt (show sg_j23 48 = sg 48 from hks_j23 48 (by decide)); have := (show iv 0 60 (sg 48) from MI_s hI 48).1; have := (show iv 0 60 (sg 48) from MI_s hI 48).2; have := (h_78).1; have := (h_78).2; have := (h_86).1; have := (h_86).2; have := (h_87).1; have := (h_87).2; omega)).2; have q7 : (ws 12).toNatClampNeg = (ws 12).toInt.toNat := rfl; have q8 := (show iv 0 80 (sg 41) from MI_s hI 41).1; omega)); have q8 := (show iv 0 80 (sg 41) from MI_s hI 41).2; omega)⟩) (show (gm 54 o.toNatClampNeg).toInt < (sg 41).toInt from (by have q5 := hBR.1; rw [rs9_41 hRS] at q5; have q6 := (OB_r (o := o) hRR (hOBd.resolve_left hdc) (by have := i32_0; have := i32_1; have := i32_2; have := i32_m1; have := congrArg Int32.toInt (show sg_75 48 = sg_j23 48 from up_ne esg_75 (by decide)); have := congrArg Int32.toInt (show sg_j23 48 = sg 48 from hks_j23 48 (by decide)); have := (show iv 0 60 (sg 48) from MI_s hI 48).1; have := (show iv 0 60 (sg 48) from MI_s hI 48).2; have := (h_78).1; have := (h_78).2; have := (h_86).1; have := (h_86).2; have := (h_87).1; have := (h_87).2; omega) (by have := i32_0; have := i32_1; have := i32_2; have := i32_m1; have := congrArg Int32.toInt (show sg_75 48 = sg_j23 48 from up_ne esg_75 (by decide)); have := congrArg Int32.toInt (show sg_j23 48 = sg 48 from hks_j23 48 (by decide)); have := (show iv 0 60 (sg 48) from MI_s hI 48).1; have := (show iv 0 60 (sg 48) from MI_s hI 48).2; have := (h_78).1; have := (h_78).2; have := (h_86).1; have := (h_86).2; have := (h_87).1; have := (h_87).2; omega)).2; have q7 : (ws 12).toNatClampNeg = (ws 12).toInt.toNat := rfl; have q8 := (show iv 0 80 (sg 41) from MI_s hI 41).1; omega))).1; have q6 := (show iv 0 26 (gm 46 (gm 54 o.toNatClampNeg).toNatClampNeg) from hI.2 46 _ (show (gm 54 o.toNatClampNeg).toNatClampNeg < 80 from (by have q7 := (show iv 0 79 (gm 54 o.toNatClampNeg) from ⟨(OB_r (o := o) hRR (hOBd.resolve_left hdc) (by have := i32_0; have := i32_1; have := i32_2; have := i32_m1; have := congrArg Int32.toInt (show sg_75 48 = sg_j23 48 from up_ne esg_75 (by decide)); have := congrArg Int32.toInt (show sg_j23 48 = sg 48 from hks_j23 48 (by decide)); have := (show iv 0 60 (sg 48) from MI_s hI 48).1; have := (show iv 0 60 (sg 48) from MI_s hI 48).2; have := (h_78).1; have := (h_78).2; have := (h_86).1; have := (h_86).2; have := (h_87).1; have := (h_87).2; omega) (by have := i32_0; have := i32_1; have := i32_2; have := i32_m1; have := congrArg Int32.toInt (show sg_75 48 = sg_j23 48 from up_ne esg_75 (by decide)); have := congrArg Int32.toInt (show sg_j23 48 = sg 48 from hks_j23 48 (by decide)); have := (show iv 0 60 (sg 48) from MI_s hI 48).1; have := (show iv 0 60 (sg 48) from MI_s hI 48).2; have := (h_78).1; have := (h_78).2; have := (h_86).1; have := (h_86).2; have := (h_87).1; have := (h_87).2; omega)).1, (by have q9 := (show (gm 54 o.toNatClampNeg).toInt < (sg 41).toInt from (by have q5 := hBR.1; rw [rs9_41 hRS] at q5; have q6 := (OB_r (o := o) hRR (hOBd.resolve_left hdc) (by have := i32_0; have := i32_1; have := i32_2; have := i32_m1; have := congrArg Int32.toInt (show sg_75 48 = sg_j23 48 from up_ne esg_75 (by decide)); have := congrArg Int32.toInt (show sg_j23 48 = sg 48 from hks_j23 48 (by decide)); have := (show iv 0 60 (sg 48) from MI_s hI 48).1; have := (show iv 0 60 (sg 48) from MI_s hI 48).2; have := (h_78).1; have := (h_78).2; have := (h_86).1; have := (h_86).2; have := (h_87).1; have := (h_87).2; omega) (by have := i32_0; have := i32_1; have := i32_2; have := i32_m1; have := congrArg Int32.toInt (show sg_75 48 = sg_j23 48 from up_ne esg_75 (by decide)); have := congrArg Int32.toInt (show sg_j23 48 = sg 48 from hks_j23 48 (by decide)); have := (show iv 0 60 (sg 48) from MI_s hI 48).1; have := (show iv 0 60 (sg 48) from MI_s hI 48).2; have := (h_78).1; have := (h_78).2; have := (h_86).1; have := (h_86).2; have := (h_87).1; have := (h_87).2; omega)).2; have q7 : (ws 12).toNatClampNeg = (ws 12).toInt.toNat := rfl; have q8 := (show iv 0 80 (sg 41) from MI_s hI 41).1; omega)); have q8 := (show iv 0 80 (sg 41) from MI_s hI 41).2; omega)⟩); have q8 : (gm 54 o.toNatClampNeg).toNatClampNeg = (gm 54 o.toNatClampNeg).toInt.toNat := rfl; have := q7.2; have := q7.1; omega))).1; omega)⟩) _ _ _ hP hD hS (lv_sub hl [0, 1, 2, 3, 4, 5] rfl)
    · have h_88 : iv 1 1 y0_23 := iv_ltR (i32_lt c_77) (iv_k (by decide) : iv 0 0 0) hy0_23 (by decide)
      refine lv_iconst (v := 0) hx hb dX13_call_33 (by decide) ?_
      exact W.iret (v := 0) hx hb hr (fun t ht hW => ⟨⟨0, (sg_75, gm, lg), rfl, ⟨sg_75, gm, lg, rfl, hI_sg_75, (KS_up (KS_tr (L := [5, 48, 49, 50, 51, 52, 63, 74]) KS_rf hks_j23 (by decide)) esg_75 (by decide)), KS_rf, KS_rf, ((GI0_of hgi (show KS [5, 51, 52] sg sg_75 from (KS_up (KS_tr (L := [5, 51, 52]) KS_rf hks_j23 (by decide)) esg_75 (by decide))) (show KS [] gm gm from KS_rf) (show KS [] lg lg from KS_rf) (by decide) (by decide) (by decide) (by decide) (by decide) (by decide))), ((MO_of hmo (show KS [5, 51, 52] sg sg_75 from (KS_up (KS_tr (L := [5, 51, 52]) KS_rf hks_j23 (by decide)) esg_75 (by decide))) (show KS [] gm gm from KS_rf) (by decide) (by decide))), ((Or.inl ⟨(h23x.resolve_right (fun q => absurd q.1 (by have := i32_0; have := i32_1; have := i32_2; have := i32_m1; have := congrArg Int32.toInt (show sg_75 5 = y0_23 from up_at esg_75); have := (h_88).1; have := (h_88).2; omega))).2, (by have := i32_0; have := i32_1; have := i32_2; have := i32_m1; have := congrArg Int32.toInt (show sg_75 5 = y0_23 from up_at esg_75); have := (h_88).1; have := (h_88).2; have q77 := h23x; omega), (RR_ks (L := [5, 51, 52]) (M := []) hRR (KS_up (KS_tr (L := [5, 51, 52]) KS_rf hks_j23 (by decide)) esg_75 (by decide)) KS_rf (by decide) (by decide))⟩))⟩, by rw [ht]; exact hP, va_K.moved hW.alike hK, hD⟩, hS.F ht⟩) hS.2.2 dX13_call_34
  refine lv_aload_n hx hb dX13_call_0 rfl (lv_at hl 0 rfl) ?_
  refine lv_iconst (v := 0) hx hb dX13_call_1 (by decide) ?_
  refine ma_put (x := 0) hx hb htb inX13 hown hK hP hD hS 51 (by decide) (by decide) (htb _ kw_1078) rfl rfl rfl dX13_call_2 (fun sg_89 H locs esg_89 hP hD hS => ?_)
  have hI_sg_89 := MI_put hI esg_89 (iv_k (by decide) : iv 0 0 0) (by decide)
  refine lv_aload_n hx hb dX13_call_5 rfl (lv_at hl 0 rfl) ?_
  refine lv_iconst (v := (-1)) hx hb dX13_call_6 (by decide) ?_
  refine ma_put (x := (-1)) hx hb htb inX13 hown hK hP hD hS 52 (by decide) (by decide) (htb _ kw_1079) rfl rfl rfl dX13_call_7 (fun sg_90 H locs esg_90 hP hD hS => ?_)
  have hI_sg_90 := MI_put hI_sg_89 esg_90 (iv_k (by decide) : iv (-1) (-1) (-1)) (by decide)
  refine lv_aload_n hx hb dX13_call_10 rfl (lv_at hl 0 rfl) ?_
  refine lv_aload_n hx hb dX13_call_11 rfl (lv_at hl 0 rfl) ?_
  refine mr_get (v := .int (sg_90 40)) hx hb htb inX13 hown hK hP 40 (by decide) (htb _ kw_1067) rfl dX13_call_12 ?_
  refine lv_topi (fun z_91 ez_91 => ?_)
  obtain rfl : (sg 40) = z_91 := (ez_91.trans (Eq.trans (up_ne esg_90 (by decide)) (up_ne esg_89 (by decide)))).symm
  refine lv_if_eq (tgt := 22) hx hb dX13_call_15 (by decide) (fun c_92 => ?_) (fun c_92 => ?_)
  · have h_93 : iv 0 0 (sg 40) := iv_eq c_92 (show iv 0 1 (sg 40) from MI_s hI 40) (iv_k (by decide) : iv 0 0 0) (by decide)
    refine lv_iconst (v := 1) hx hb dX13_call_22 (by decide) ?_
    exact hj23 sg_90 1 (iv_w (iv_k (by decide) : iv 1 1 1) (by decide)) (KS_up (KS_up KS_rf esg_89 (by decide)) esg_90 (by decide)) hI_sg_90 (Or.inl (by decide)) (Or.inl ⟨rfl, (by have := i32_0; have := i32_1; have := i32_2; have := i32_m1; have := congrArg Int32.toInt (show sg_90 40 = sg_89 40 from up_ne esg_90 (by decide)); have := congrArg Int32.toInt (show sg_89 40 = sg 40 from up_ne esg_89 (by decide)); have := (show iv 0 1 (sg 40) from MI_s hI 40).1; have := (show iv 0 1 (sg 40) from MI_s hI 40).2; have := (h_93).1; have := (h_93).2; omega)⟩) ((by have := i32_0; have := i32_1; have := i32_2; have := i32_m1; have := congrArg Int32.toInt (show sg_90 51 = sg_89 51 from up_ne esg_90 (by decide)); have : (sg_89 51).toInt = 0 := (by rw [up_at esg_89]; rfl); have := (h_93).1; have := (h_93).2; omega)) _ _ _ hP hD hS (lv_sub hl [0, 1, 2] rfl)
  · have h_94 : iv 1 1 (sg 40) := iv_neL c_92 (show iv 0 1 (sg 40) from MI_s hI 40) (by decide)
    refine lv_iconst (v := 0) hx hb dX13_call_18 (by decide) ?_
    refine lv_goto (tgt := 23) hx hb dX13_call_19 (by decide) ?_
    exact hj23 sg_90 0 (iv_w (iv_k (by decide) : iv 0 0 0) (by decide)) (KS_up (KS_up KS_rf esg_89 (by decide)) esg_90 (by decide)) hI_sg_90 (Or.inr (hdd.resolve_left (by have := i32_0; have := i32_1; have := i32_2; have := i32_m1; have := congrArg Int32.toInt (show sg_90 40 = sg_89 40 from up_ne esg_90 (by decide)); have := congrArg Int32.toInt (show sg_89 40 = sg 40 from up_ne esg_89 (by decide)); have := (show iv 0 1 (sg 40) from MI_s hI 40).1; have := (show iv 0 1 (sg 40) from MI_s hI 40).2; have := (h_94).1; have := (h_94).2; omega))) (Or.inr ⟨rfl, (by have := i32_0; have := i32_1; have := i32_2; have := i32_m1; have := congrArg Int32.toInt (show sg_90 40 = sg_89 40 from up_ne esg_90 (by decide)); have := congrArg Int32.toInt (show sg_89 40 = sg 40 from up_ne esg_89 (by decide)); have := (show iv 0 1 (sg 40) from MI_s hI 40).1; have := (show iv 0 1 (sg 40) from MI_s hI 40).2; have := (h_94).1; have := (h_94).2; omega)⟩) ((by have := i32_0; have := i32_1; have := i32_2; have := i32_m1; have := congrArg Int32.toInt (show sg_90 51 = sg_89 51 from up_ne esg_90 (by decide)); have : (sg_89 51).toInt = 0 := (by rw [up_at esg_89]; rfl); have := (h_94).1; have := (h_94).2; omega)) _ _ _ hP hD hS (lv_sub hl [0, 1, 2] rfl)
end
section
section DP9
variable {ws : Nat → Int32} {wg : Nat → Nat → Int32} {wl : Nat → Nat → Int64} {S S2 : S9} {b : Nat} {o fo : Int} {vs : List (List Int)}
/-- what is kept by each making is kept by what is made of it -/
def PK9 (P : S9 → S9 → Prop) (mk : Nat → S9 → Option Int × S9) : Prop := (∀ S, P S S) ∧ (∀ a b c, P a b → P b c → P a c) ∧ ∀ b S, P S (mk b S).2
theorem PK_get {P : S9 → S9 → Prop} {mk : Nat → S9 → Option Int × S9} (h : PK9 P mk) (t : Int) (S : S9) : P S (oGet wg mk t S).2 := by
  unfold oGet
  split
  · exact h.1 S
  · split
    · exact h.1 S
    · split
      · exact h.1 S
      · exact h.2.2 _ S
theorem PK_obj {P : S9 → S9 → Prop} {mk : Nat → S9 → Option Int × S9} (h : PK9 P mk) (e : Nat) (S : S9) : P S (oObj ws wg wl mk e S).2 := by
  unfold oObj
  split
  · exact PK_get h _ S
  · exact h.2.2 _ S
theorem PK_itm {P : S9 → S9 → Prop} {mk : Nat → S9 → Option Int × S9} (h : PK9 P mk) (e : Nat) (S : S9) : P S (oItm ws wg wl mk e S).2 := by
  unfold oItm
  split
  · exact h.1 S
  · split
    · exact h.1 S
    · exact bd9_P h.2.1 (PK_obj h e S) (fun _ => h.1 _)
theorem PK_its {P : S9 → S9 → Prop} {mk : Nat → S9 → Option Int × S9} (h : PK9 P mk) : ∀ (l : List Nat) (acc : List Int) (S : S9), P S (oIts ws wg wl mk l acc S).2
  | [], acc, S => h.1 S
  | e :: l, acc, S => bd9_P h.2.1 (PK_itm h e S) (fun _ => PK_its h l _ _)
theorem PK_con {P : S9 → S9 → Prop} {mk : Nat → S9 → Option Int × S9} (h : PK9 P mk) (c : Nat) (S : S9) : P S (oCon ws wg wl mk c S).2 := by
  unfold oCon
  split
  · exact PK_its h _ _ S
  · split
    · exact bd9_P h.2.1 (PK_obj h c S) (fun _ => h.1 _)
    · exact h.1 S
theorem PK_ars {P : S9 → S9 → Prop} {mk : Nat → S9 → Option Int × S9} (h : PK9 P mk) : ∀ (l : List Nat) (acc : List (List Int)) (S : S9), P S (oArs ws wg wl mk l acc S).2
  | [], acc, S => h.1 S
  | a :: l, acc, S => bd9_P h.2.1 (PK_con h _ S) (fun _ => PK_ars h l _ _)
theorem PK_sts {P : S9 → S9 → Prop} {mk : Nat → S9 → Option Int × S9} (h : PK9 P mk) (hs : ∀ o h V S, P S (oSe wg wl o h V S).2) (o : Int) : ∀ (l : List Nat) (S : S9), P S (oSts ws wg wl mk o l S).2
  | [], S => h.1 S
  | a :: l, S => bd9_P h.2.1 (PK_con h _ S) (fun V => bd9_P h.2.1 (hs o a V _) (fun _ => PK_sts h hs o l _))
/-- the beans that an element, a content, a bean asks for -/
def OBT (ws : Nat → Int32) (wg : Nat → Nat → Int32) (wl : Nat → Nat → Int64) (e t : Nat) : Prop := ((wg 27 e).toInt < 0 ∧ caN ws wg wl (wl 2 e) = (t : Int)) ∨ (0 ≤ (wg 27 e).toInt ∧ (wg 27 e).toInt.toNat = t)
def ITT (ws : Nat → Int32) (wg : Nat → Nat → Int32) (wl : Nat → Nat → Int64) (e t : Nat) : Prop := ¬ (wg 25 e).toInt = 7 ∧ ¬ (wg 25 e).toInt = 9 ∧ OBT ws wg wl e t
def CTT (ws : Nat → Int32) (wg : Nat → Nat → Int32) (wl : Nat → Nat → Int64) (c t : Nat) : Prop := ((wg 25 c).toInt = 6 ∧ ∃ e, e ∈ itC wg c ∧ ITT ws wg wl e t) ∨ (((wg 25 c).toInt = 8 ∨ (wg 25 c).toInt = 2) ∧ OBT ws wg wl c t)
def LK9 (ws : Nat → Int32) (wg : Nat → Nat → Int32) (wl : Nat → Nat → Int64) (b t : Nat) : Prop := (¬ wl 6 b = 0 ∧ caN ws wg wl (wl 6 b) = (t : Int)) ∨ (¬ wl 7 b = 0 ∧ caN ws wg wl (wl 7 b) = (t : Int)) ∨ (∃ a, (a ∈ liL wg (3 * b) ∨ a ∈ liL wg (3 * b + 1)) ∧ CTT ws wg wl (ctE wg a) t)
/-- of scope one, made or being made -/
def RD9 (wg : Nat → Nat → Int32) (wl : Nat → Nat → Int64) (S : S9) (t : Nat) : Prop := one9 wg wl t ∧ (zS S t = 1 ∨ zS S t = 2)
def MO9 (wg : Nat → Nat → Int32) (wl : Nat → Nat → Int64) (S S2 : S9) : Prop := ∀ t, RD9 wg wl S t → RD9 wg wl S2 t
/-- made to the end: what it asks for is there, or was made to the end -/
def DN9 (ws : Nat → Int32) (wg : Nat → Nat → Int32) (wl : Nat → Nat → Int64) (S : S9) (b : Nat) : Prop := Acc (fun t c => LK9 ws wg wl c t ∧ ¬ RD9 wg wl S t) b
def GO9 (ws : Nat → Int32) (wg : Nat → Nat → Int32) (wl : Nat → Nat → Int64) (S : S9) (t : Nat) : Prop := RD9 wg wl S t ∨ DN9 ws wg wl S t
theorem MO_rf : MO9 wg wl S S := fun _ h => h
theorem MO_tr {S1 : S9} (h : MO9 wg wl S S1) (h2 : MO9 wg wl S1 S2) : MO9 wg wl S S2 := fun t q => h2 t (h t q)
theorem MO_e (e : zS S2 = zS S) : MO9 wg wl S S2 := fun t q => by unfold RD9 at *; rw [e]; exact q
theorem DN_m (h : DN9 ws wg wl S b) (hm : MO9 wg wl S S2) : DN9 ws wg wl S2 b := by
  refine Subrelation.accessible ?_ h
  intro t c hq
  exact ⟨hq.1, fun p => hq.2 (hm t p)⟩
theorem GO_m {t : Nat} (h : GO9 ws wg wl S t) (hm : MO9 wg wl S S2) : GO9 ws wg wl S2 t := h.imp (hm t) (fun q => DN_m q hm)
theorem MO_be : MO9 wg wl S (oBe b S) := fun t q => by
  refine ⟨q.1, ?_⟩
  show fu9 (zS S) b 1 t = 1 ∨ fu9 (zS S) b 1 t = 2
  by_cases p : t = b
  · rw [p, fu9_at]; exact Or.inl rfl
  · rw [fu9_ne p]; exact q.2
theorem MO_br : MO9 wg wl S (oBr wg wl b fo vs S).2 := by
  rcases oBr_2 (wg := wg) (wl := wl) (b := b) (fo := fo) (vs := vs) (S := S) with e | ⟨s, f, e⟩
  · rw [e]; exact MO_rf
  · rw [e]; exact MO_e (by rw [(tlA_S _ _ _).2.1, oB2_S.1])
theorem MO_se {h : Nat} {V : List Int} : MO9 wg wl S (oSe wg wl o h V S).2 := by
  rcases oSe_2 (wg := wg) (wl := wl) (o := o) (h := h) (V := V) (S := S) with e | ⟨t, e⟩
  · rw [e]; exact MO_rf
  · rw [e]; exact MO_e tlV_S.1
theorem MO_fi : MO9 wg wl S (oFi wg wl b o S) := fun t q => by
  refine ⟨q.1, ?_⟩
  unfold oFi oF2
  by_cases p : ¬ wl 4 b = 0 ∧ wg 35 b = 0
  · rw [if_pos p]
    show fu9 (zS (oF1 wg b o S)) b 2 t = 1 ∨ fu9 (zS (oF1 wg b o S)) b 2 t = 2
    by_cases p2 : t = b
    · rw [p2, fu9_at]; exact Or.inr rfl
    · rw [fu9_ne p2, oF1_w.2.1]; exact q.2
  · rw [if_neg p]
    show fu9 (zS (oF1 wg b o S)) b 0 t = 1 ∨ fu9 (zS (oF1 wg b o S)) b 0 t = 2
    by_cases p2 : t = b
    · rw [p2] at q; exact absurd q.1 p
    · rw [fu9_ne p2, oF1_w.2.1]; exact q.2
theorem MO_mk (n b : Nat) (S : S9) : MO9 wg wl S (oMK ws wg wl n b S).2 := MKI (P := MO9 wg wl) (fun _ => MO_rf) (fun _ _ _ h1 h2 => MO_tr h1 h2) (fun _ _ _ => MO_be) (fun _ _ _ _ => MO_br) (fun _ _ _ _ => MO_se) (fun _ _ _ => MO_fi) n b S
theorem MO_pk (n : Nat) : PK9 (MO9 wg wl) (oMK ws wg wl n) := ⟨fun _ => MO_rf, fun _ _ _ h1 h2 => MO_tr h1 h2, fun b S => MO_mk n b S⟩
theorem snd_s {α : Type} {x : Option α × S9} {a : α} (h : x = (some a, S2)) {P : S9 → Prop} (hp : P x.2) : P S2 := by rw [h] at hp; exact hp
theorem GO_get {n : Nat} (hn : iv 0 80 (ws 12)) (ih : ∀ b S o S2, oMK ws wg wl n b S = (some o, S2) → DN9 ws wg wl S2 b) {v : Int64} {t : Nat} (h : oGet wg (oMK ws wg wl n) (caN ws wg wl v) S = (some o, S2)) (ht : caN ws wg wl v = (t : Int)) : GO9 ws wg wl S2 t := by
  rw [gt_nm hn, ht] at h
  unfold gtR at h
  split at h
  · exact absurd (congrArg Prod.fst h) (by simp)
  · split at h
    · exact absurd (congrArg Prod.fst h) (by simp)
    · split at h
      · rename_i q
        have e : S = S2 := congrArg Prod.snd h
        rw [← e]
        exact Or.inl ⟨q.1, q.2.elim (fun p => Or.inr p) (fun p => Or.inl p.1)⟩
      · exact Or.inr (ih _ _ _ _ h)
theorem GO_obj {n : Nat} (hn : iv 0 80 (ws 12)) (ih : ∀ b S o S2, oMK ws wg wl n b S = (some o, S2) → DN9 ws wg wl S2 b) {e t : Nat} (h : oObj ws wg wl (oMK ws wg wl n) e S = (some o, S2)) (ht : OBT ws wg wl e t) : GO9 ws wg wl S2 t := by
  rcases ht with ⟨h1, h2⟩ | ⟨h1, h2⟩
  · rw [oObj_n h1] at h; exact GO_get hn ih h h2
  · rw [oObj_b h1, h2] at h; exact Or.inr (ih _ _ _ _ h)
theorem GO_itm {n : Nat} (hn : iv 0 80 (ws 12)) (ih : ∀ b S o S2, oMK ws wg wl n b S = (some o, S2) → DN9 ws wg wl S2 b) {e t : Nat} (h : oItm ws wg wl (oMK ws wg wl n) e S = (some o, S2)) (ht : ITT ws wg wl e t) : GO9 ws wg wl S2 t := by
  unfold oItm at h
  rw [if_neg ht.1, if_neg ht.2.1] at h
  obtain ⟨a, S1, h1, h2⟩ := bd9_so h
  have e : S1 = S2 := congrArg Prod.snd h2
  rw [← e]; exact GO_obj hn ih h1 ht.2.2
theorem GO_its {n : Nat} (hn : iv 0 80 (ws 12)) (ih : ∀ b S o S2, oMK ws wg wl n b S = (some o, S2) → DN9 ws wg wl S2 b) : ∀ (l : List Nat) (acc V : List Int) (S S2 : S9), oIts ws wg wl (oMK ws wg wl n) l acc S = (some V, S2) → ∀ e t, e ∈ l → ITT ws wg wl e t → GO9 ws wg wl S2 t
  | [], acc, V, S, S2, h, e, t, he, _ => absurd he (by simp)
  | x :: l, acc, V, S, S2, h, e, t, he, ht => by
    obtain ⟨a, S1, h1, h2⟩ := bd9_so h
    rcases List.mem_cons.mp he with q | q
    · rw [q] at ht
      exact GO_m (GO_itm hn ih h1 ht) (snd_s h2 (PK_its (MO_pk n) l _ S1))
    · exact GO_its hn ih l _ _ _ _ h2 e t q ht
theorem GO_con {n : Nat} (hn : iv 0 80 (ws 12)) (ih : ∀ b S o S2, oMK ws wg wl n b S = (some o, S2) → DN9 ws wg wl S2 b) {c t : Nat} {V : List Int} (h : oCon ws wg wl (oMK ws wg wl n) c S = (some V, S2)) (ht : CTT ws wg wl c t) : GO9 ws wg wl S2 t := by
  rcases ht with ⟨h1, e, h2, h3⟩ | ⟨h1, h2⟩
  · rw [oCon_l h1] at h; exact GO_its hn ih _ _ _ _ _ h e t h2 h3
  · unfold oCon at h
    rw [if_neg (by omega), if_pos h1] at h
    obtain ⟨a, S1, h3, h4⟩ := bd9_so h
    have e : S1 = S2 := congrArg Prod.snd h4
    rw [← e]; exact GO_obj hn ih h3 h2
theorem GO_ars {n : Nat} (hn : iv 0 80 (ws 12)) (ih : ∀ b S o S2, oMK ws wg wl n b S = (some o, S2) → DN9 ws wg wl S2 b) : ∀ (l : List Nat) (acc V : List (List Int)) (S S2 : S9), oArs ws wg wl (oMK ws wg wl n) l acc S = (some V, S2) → ∀ a t, a ∈ l → CTT ws wg wl (ctE wg a) t → GO9 ws wg wl S2 t
  | [], acc, V, S, S2, h, a, t, ha, _ => absurd ha (by simp)
  | x :: l, acc, V, S, S2, h, a, t, ha, ht => by
    obtain ⟨v, S1, h1, h2⟩ := bd9_so h
    rcases List.mem_cons.mp ha with q | q
    · rw [q] at ht
      exact GO_m (GO_con hn ih h1 ht) (snd_s h2 (PK_ars (MO_pk n) l _ S1))
    · exact GO_ars hn ih l _ _ _ _ h2 a t q ht
theorem GO_sts {n : Nat} (hn : iv 0 80 (ws 12)) (ih : ∀ b S o S2, oMK ws wg wl n b S = (some o, S2) → DN9 ws wg wl S2 b) (u : Int) : ∀ (l : List Nat) (o : Int) (S S2 : S9), oSts ws wg wl (oMK ws wg wl n) u l S = (some o, S2) → ∀ a t, a ∈ l → CTT ws wg wl (ctE wg a) t → GO9 ws wg wl S2 t
  | [], o, S, S2, h, a, t, ha, _ => absurd ha (by simp)
  | x :: l, o, S, S2, h, a, t, ha, ht => by
    obtain ⟨v, S1, h1, h2⟩ := bd9_so h
    obtain ⟨v2, S3, h3, h4⟩ := bd9_so h2
    rcases List.mem_cons.mp ha with q | q
    · rw [q] at ht
      exact GO_m (GO_con hn ih h1 ht) (MO_tr (snd_s h3 (P := fun T => MO9 wg wl S1 T) MO_se) (snd_s h4 (PK_sts (MO_pk n) (fun _ _ _ _ => MO_se) u l S3)))
    · exact GO_sts hn ih u l _ _ _ h4 a t q ht
/-- a bean that was made was made to the end -/
theorem DN_mk (hn : iv 0 80 (ws 12)) : ∀ n b S o S2, oMK ws wg wl n b S = (some o, S2) → DN9 ws wg wl S2 b
  | 0, b, S, o, S2, h => absurd (congrArg Prod.fst h) (by simp [oMK])
  | n + 1, b, S, o, S2, h => by
    have ih := DN_mk hn n
    have h : (if zS S b = 1 then (none, S) else oMB ws wg wl (oMK ws wg wl n) b S) = (some o, S2) := h
    by_cases q : zS S b = 1
    · rw [if_pos q] at h; exact absurd (congrArg Prod.fst h) (by simp)
    · rw [if_neg q] at h
      obtain ⟨a, S1, h1, h2⟩ := bd9_so h
      unfold r1 at h2
      split at h2
      · exact absurd (congrArg Prod.fst h2) (by simp)
      · obtain ⟨fo, S3, h3, h4⟩ := bd9_so h2
        obtain ⟨vs, S4, h5, h6⟩ := bd9_so h4
        obtain ⟨u, S5, h7, h8⟩ := bd9_so h6
        obtain ⟨w, S6, h9, h10⟩ := bd9_so h8
        have e : oFi wg wl b u S6 = S2 := congrArg Prod.snd h10
        have m6 : MO9 wg wl S6 S2 := by rw [← e]; exact MO_fi
        have m5 : MO9 wg wl S5 S2 := MO_tr (snd_s h9 (PK_sts (MO_pk n) (fun _ _ _ _ => MO_se) u _ S5)) m6
        have m4 : MO9 wg wl S4 S2 := MO_tr (snd_s h7 (P := fun T => MO9 wg wl S4 T) MO_br) m5
        have m3 : MO9 wg wl S3 S2 := MO_tr (snd_s h5 (PK_ars (MO_pk n) _ _ S3)) m4
        have m1 : MO9 wg wl S1 S2 := by
          refine MO_tr ?_ m3
          unfold oFa at h3
          split at h3
          · have e : S1 = S3 := congrArg Prod.snd h3
            rw [e]; exact MO_rf
          · exact snd_s h3 (PK_get (MO_pk n) _ S1)
        refine Acc.intro _ (fun t ht => ?_)
        have key : GO9 ws wg wl S2 t := by
          rcases ht.1 with ⟨l1, l2⟩ | ⟨l1, l2⟩ | ⟨a, l1, l2⟩
          · unfold oDe at h1
            rw [if_neg l1] at h1
            exact GO_m (GO_get hn ih h1 l2) m1
          · unfold oFa at h3
            rw [if_neg l1] at h3
            exact GO_m (GO_get hn ih h3 l2) m3
          · rcases l1 with l1 | l1
            · exact GO_m (GO_ars hn ih _ _ _ _ _ h5 a t l1 l2) m4
            · exact GO_m (GO_sts hn ih u _ _ _ _ h9 a t l1 l2) m6
        exact key.resolve_left ht.2
def KQ9 (S S2 : S9) : Prop := ∀ t, zS S2 t = 1 ↔ zS S t = 1
theorem KQ_tr {S1 : S9} (h : KQ9 S S1) (h2 : KQ9 S1 S2) : KQ9 S S2 := fun t => (h2 t).trans (h t)
theorem KQ_rf : KQ9 S S := fun _ => Iff.rfl
theorem KQ_e (e : zS S2 = zS S) : KQ9 S S2 := fun t => by rw [e]
theorem oFi_z2 {t : Nat} (hb : ¬ t = b) (h : zS S t = 1) : zS (oFi wg wl b o S) t = 1 := by
  unfold oFi oF2
  by_cases p : ¬ wl 4 b = 0 ∧ wg 35 b = 0
  · rw [if_pos p]
    show fu9 (zS (oF1 wg b o S)) b 2 t = 1
    rw [fu9_ne hb, oF1_w.2.1]; exact h
  · rw [if_neg p]
    show fu9 (zS (oF1 wg b o S)) b 0 t = 1
    rw [fu9_ne hb, oF1_w.2.1]; exact h
/-- what is being made stays so, and nothing else is left being made -/
theorem KQ_mk : ∀ n b S o S2, oMK ws wg wl n b S = (some o, S2) → KQ9 S S2
  | 0, b, S, o, S2, h => absurd (congrArg Prod.fst h) (by simp [oMK])
  | n + 1, b, S, o, S2, h => by
    have ih := KQ_mk n
    have hg : ∀ t S o S2, oGet wg (oMK ws wg wl n) t S = (some o, S2) → KQ9 S S2 := fun t S o S2 h => by
      unfold oGet at h
      split at h
      · exact absurd (congrArg Prod.fst h) (by simp)
      · split at h
        · exact absurd (congrArg Prod.fst h) (by simp)
        · split at h
          · have e : S = S2 := congrArg Prod.snd h
            rw [← e]; exact KQ_rf
          · exact ih _ _ _ _ h
    have ho : ∀ e S o S2, oObj ws wg wl (oMK ws wg wl n) e S = (some o, S2) → KQ9 S S2 := fun e S o S2 h => by
      unfold oObj at h
      split at h
      · exact hg _ _ _ _ h
      · exact ih _ _ _ _ h
    have hi : ∀ e S o S2, oItm ws wg wl (oMK ws wg wl n) e S = (some o, S2) → KQ9 S S2 := fun e S o S2 h => by
      unfold oItm at h
      split at h
      · have e : S = S2 := congrArg Prod.snd h
        rw [← e]; exact KQ_rf
      · split at h
        · have e : S = S2 := congrArg Prod.snd h
          rw [← e]; exact KQ_rf
        · obtain ⟨a, S1, h1, h2⟩ := bd9_so h
          have e : S1 = S2 := congrArg Prod.snd h2
          rw [← e]; exact ho _ _ _ _ h1
    have hs : ∀ (l : List Nat) (acc : List Int) S o S2, oIts ws wg wl (oMK ws wg wl n) l acc S = (some o, S2) → KQ9 S S2 := by
      intro l
      induction l with
      | nil => intro acc S o S2 h; have e : S = S2 := congrArg Prod.snd h; rw [← e]; exact KQ_rf
      | cons e l ihl =>
        intro acc S o S2 h
        obtain ⟨a, S1, h1, h2⟩ := bd9_so h
        exact KQ_tr (hi _ _ _ _ h1) (ihl _ _ _ _ h2)
    have hc : ∀ c S o S2, oCon ws wg wl (oMK ws wg wl n) c S = (some o, S2) → KQ9 S S2 := fun c S o S2 h => by
      unfold oCon at h
      split at h
      · exact hs _ _ _ _ _ h
      · split at h
        · obtain ⟨a, S1, h1, h2⟩ := bd9_so h
          have e : S1 = S2 := congrArg Prod.snd h2
          rw [← e]; exact ho _ _ _ _ h1
        · have e : S = S2 := congrArg Prod.snd h
          rw [← e]; exact KQ_rf
    have ha : ∀ (l : List Nat) (acc : List (List Int)) S o S2, oArs ws wg wl (oMK ws wg wl n) l acc S = (some o, S2) → KQ9 S S2 := by
      intro l
      induction l with
      | nil => intro acc S o S2 h; have e : S = S2 := congrArg Prod.snd h; rw [← e]; exact KQ_rf
      | cons e l ihl =>
        intro acc S o S2 h
        obtain ⟨a, S1, h1, h2⟩ := bd9_so h
        exact KQ_tr (hc _ _ _ _ h1) (ihl _ _ _ _ h2)
    have ht : ∀ (u : Int) (l : List Nat) S o S2, oSts ws wg wl (oMK ws wg wl n) u l S = (some o, S2) → KQ9 S S2 := by
      intro u l
      induction l with
      | nil => intro S o S2 h; have e : S = S2 := congrArg Prod.snd h; rw [← e]; exact KQ_rf
      | cons e l ihl =>
        intro S o S2 h
        obtain ⟨a, S1, h1, h2⟩ := bd9_so h
        obtain ⟨a2, S3, h3, h4⟩ := bd9_so h2
        exact KQ_tr (hc _ _ _ _ h1) (KQ_tr (KQ_e (oSe_e h3).2.1) (ihl _ _ _ h4))
    have h4 : ∀ b u l S o S2, r4 ws wg wl (oMK ws wg wl n) b u l S = (some o, S2) → ∃ S3 w, KQ9 S S3 ∧ S2 = oFi wg wl b w S3 := fun b u l S o S2 h => by
      obtain ⟨a, S1, h1, h2⟩ := bd9_so h
      exact ⟨S1, u, ht _ _ _ _ _ h1, (congrArg Prod.snd h2).symm⟩
    have h3 : ∀ b fo vs S o S2, r3 ws wg wl (oMK ws wg wl n) b fo vs S = (some o, S2) → ∃ S3 w, KQ9 S S3 ∧ S2 = oFi wg wl b w S3 := fun b fo vs S o S2 h => by
      obtain ⟨a, S1, h1, h2⟩ := bd9_so h
      obtain ⟨S3, w, q1, q2⟩ := h4 _ _ _ _ _ _ h2
      exact ⟨S3, w, KQ_tr (KQ_e (oBr_w h1).2.2.1) q1, q2⟩
    have h2 : ∀ b fo l acc S o S2, r2 ws wg wl (oMK ws wg wl n) b fo l acc S = (some o, S2) → ∃ S3 w, KQ9 S S3 ∧ S2 = oFi wg wl b w S3 := fun b fo l acc S o S2 h => by
      obtain ⟨a, S1, h1, h2⟩ := bd9_so h
      obtain ⟨S3, w, q1, q2⟩ := h3 _ _ _ _ _ _ h2
      exact ⟨S3, w, KQ_tr (ha _ _ _ _ _ h1) q1, q2⟩
    have h1 : ∀ b S o S2, r1 ws wg wl (oMK ws wg wl n) b S = (some o, S2) → ∃ S3 w, KQ9 S S3 ∧ S2 = oFi wg wl b w S3 := fun b S o S2 h => by
      unfold r1 at h
      split at h
      · exact absurd (congrArg Prod.fst h) (by simp)
      · obtain ⟨a, S1, h1, h3⟩ := bd9_so h
        obtain ⟨S3, w, q1, q2⟩ := h2 _ _ _ _ _ _ _ h3
        refine ⟨S3, w, KQ_tr ?_ q1, q2⟩
        unfold oFa at h1
        split at h1
        · have e : S = S1 := congrArg Prod.snd h1
          rw [← e]; exact KQ_rf
        · exact hg _ _ _ _ h1
    have h : (if zS S b = 1 then (none, S) else oMB ws wg wl (oMK ws wg wl n) b S) = (some o, S2) := h
    by_cases q : zS S b = 1
    · rw [if_pos q] at h; exact absurd (congrArg Prod.fst h) (by simp)
    · rw [if_neg q] at h
      obtain ⟨a, S1, h5, h6⟩ := bd9_so h
      obtain ⟨S3, w, q1, q2⟩ := h1 _ _ _ _ h6
      have k1 : KQ9 (oBe b S) S1 := by
        unfold oDe at h5
        split at h5
        · have e : oBe b S = S1 := congrArg Prod.snd h5
          rw [← e]; exact KQ_rf
        · exact hg _ _ _ _ h5
      intro t
      have k1q : zS S3 t = 1 ↔ zS (oBe b S) t = 1 := (q1 t).trans (k1 t)
      rw [q2]
      have e : zS (oBe b S) t = fu9 (zS S) b 1 t := rfl
      by_cases p : t = b
      · rw [p]
        exact ⟨fun p2 => absurd rfl (oFi_z p2).1, fun p2 => absurd p2 q⟩
      · rw [e, fu9_ne p] at k1q
        refine ⟨fun p2 => ?_, fun p2 => ?_⟩
        · exact k1q.mp (oFi_z p2).2
        · exact oFi_z2 p (k1q.mpr p2)
end DP9
end
section
section DE9
variable {ws : Nat → Int32} {wg : Nat → Nat → Int32} {wl : Nat → Nat → Int64} {S S2 : S9} {b c n m nb : Nat} {L : List (Nat × S9)}
/-- the holders of a bean, the names that it asks for -/
def HD9 (wg : Nat → Nat → Int32) (b a : Nat) : Prop := a ∈ liL wg (3 * b) ∨ a ∈ liL wg (3 * b + 1)
def NM9 (wg : Nat → Nat → Int32) (wl : Nat → Nat → Int64) (b : Nat) (v : Int64) : Prop := (¬ wl 6 b = 0 ∧ v = wl 6 b) ∨ (¬ wl 7 b = 0 ∧ v = wl 7 b) ∨ (∃ a, HD9 wg b a ∧ ((kd8 wg (ctE wg a) ∧ (wg 27 (ctE wg a)).toInt < 0 ∧ v = wl 2 (ctE wg a)) ∨ ((wg 25 (ctE wg a)).toInt = 6 ∧ ∃ e, e ∈ itC wg (ctE wg a) ∧ ¬ (wg 25 e).toInt = 7 ∧ ¬ (wg 25 e).toInt = 9 ∧ (wg 27 e).toInt < 0 ∧ v = wl 2 e)))
/-- what stands ahead of an item that is being made -/
def PR9 (ws : Nat → Int32) (wg : Nat → Nat → Int32) (wl : Nat → Nat → Int64) (L : List (Nat × S9)) (S : S9) (pre : List Nat) : Prop := ∀ e, e ∈ pre → ¬ (wg 25 e).toInt = 7 → ¬ (wg 25 e).toInt = 9 → 0 ≤ (wg 27 e).toInt → DN9 ws wg wl S (wg 27 e).toInt.toNat ∧ ∀ x, x ∈ L → ¬ x.1 = (wg 27 e).toInt.toNat
/-- how a bean came to be asked for, with those that are being made -/
def LN9 (ws : Nat → Int32) (wg : Nat → Nat → Int32) (wl : Nat → Nat → Int64) (L : List (Nat × S9)) (t : Nat) (S : S9) : Prop := match L with
  | [] => ¬ wl 4 t = 0
  | (b, T) :: M => (¬ wl 4 t = 0 ∧ ∃ v, NM9 wg wl b v ∧ caN ws wg wl v = (t : Int)) ∨ (∃ a, HD9 wg b a ∧ kd8 wg (ctE wg a) ∧ 0 ≤ (wg 27 (ctE wg a)).toInt ∧ (wg 27 (ctE wg a)).toInt.toNat = t)
    ∨ (∃ a pre e post, HD9 wg b a ∧ (wg 25 (ctE wg a)).toInt = 6 ∧ itC wg (ctE wg a) = pre ++ e :: post ∧ ¬ (wg 25 e).toInt = 7 ∧ ¬ (wg 25 e).toInt = 9 ∧ 0 ≤ (wg 27 e).toInt ∧ (wg 27 e).toInt.toNat = t ∧ PR9 ws wg wl ((b, T) :: M) S pre)
def CH9 (ws : Nat → Int32) (wg : Nat → Nat → Int32) (wl : Nat → Nat → Int64) : List (Nat × S9) → Prop
  | [] => True
  | (t, S) :: L => CH9 ws wg wl L ∧ ¬ zS S t = 1 ∧ ¬ RD9 wg wl S t ∧ (∀ x, x ∈ L → zS S x.1 = 1) ∧ (∀ x, x ∈ L → MO9 wg wl x.2 S) ∧ LN9 ws wg wl L t S
/-- those that are being made still are -/
def GS9 (wg : Nat → Nat → Int32) (wl : Nat → Nat → Int64) (L : List (Nat × S9)) (S : S9) : Prop := (∀ x, x ∈ L → zS S x.1 = 1) ∧ (∀ x, x ∈ L → MO9 wg wl x.2 S)
/-- beans within others have no id, and are of the document -/
def IN9 (wg : Nat → Nat → Int32) (wl : Nat → Nat → Int64) (nb : Nat) : Prop := ∀ b, b < nb → ∀ a, HD9 wg b a → (kd8 wg (ctE wg a) → 0 ≤ (wg 27 (ctE wg a)).toInt → wl 4 (wg 27 (ctE wg a)).toInt.toNat = 0 ∧ (wg 27 (ctE wg a)).toInt.toNat < nb) ∧ ((wg 25 (ctE wg a)).toInt = 6 → ∀ e, e ∈ itC wg (ctE wg a) → ¬ (wg 25 e).toInt = 7 → ¬ (wg 25 e).toInt = 9 → 0 ≤ (wg 27 e).toInt → wl 4 (wg 27 e).toInt.toNat = 0 ∧ (wg 27 e).toInt.toNat < nb)
theorem bd9_c {α β : Type} {x1 x2 : Option α × S9} {f1 f2 : α → S9 → Option β × S9} (hx : x1 = x2) (hf : ∀ a T, x1 = (some a, T) → f1 a T = f2 a T) : bd9 x1 f1 = bd9 x2 f2 := by
  subst hx
  obtain ⟨o, T⟩ := x1
  cases o with
  | none => rfl
  | some a => exact hf a T rfl
theorem GS_s (h : GS9 wg wl L S) (k : KQ9 S S2) (mo : MO9 wg wl S S2) : GS9 wg wl L S2 := ⟨fun x hx => (k x.1).mpr (h.1 x hx), fun x hx => MO_tr (h.2 x hx) mo⟩
theorem PR_m {pre : List Nat} (h : PR9 ws wg wl L S pre) (mo : MO9 wg wl S S2) : PR9 ws wg wl L S2 pre := fun e he h7 h9 h0 => ⟨DN_m (h e he h7 h9 h0).1 mo, (h e he h7 h9 h0).2⟩
/-- two fuels agree on what may be asked for -/
def AG9 (ws : Nat → Int32) (wg : Nat → Nat → Int32) (wl : Nat → Nat → Int64) (nb n m : Nat) (L : List (Nat × S9)) : Prop := ∀ t S, GS9 wg wl L S → ¬ RD9 wg wl S t → t < nb → LN9 ws wg wl L t S → oMK ws wg wl n t S = oMK ws wg wl m t S
theorem AG_n {v : Int64} {T : S9} (hn : iv 0 80 (ws 12)) (hnb : nb = (ws 12).toNatClampNeg) (hA : AG9 ws wg wl nb n m ((b, T) :: L)) (hv : NM9 wg wl b v) (hG : GS9 wg wl ((b, T) :: L) S) : oGet wg (oMK ws wg wl n) (caN ws wg wl v) S = oGet wg (oMK ws wg wl m) (caN ws wg wl v) S := by
  rw [gt_nm hn, gt_nm hn]
  unfold gtR
  by_cases h0 : caN ws wg wl v < 0
  · rw [if_pos h0, if_pos h0]
  · rw [if_neg h0, if_neg h0]
    by_cases h1 : ¬ wg 34 (caN ws wg wl v).toNat = 0
    · rw [if_pos h1, if_pos h1]
    · rw [if_neg h1, if_neg h1]
      by_cases h2 : rdy9 wg wl S (caN ws wg wl v).toNat
      · rw [if_pos h2, if_pos h2]
      · rw [if_neg h2, if_neg h2]
        by_cases h3 : zS S (caN ws wg wl v).toNat = 1
        · rw [oMK_z1 h3, oMK_z1 h3]
        · have h4 : ¬ wl 4 (caN ws wg wl v).toNat = 0 := by
            rcases caF_ok (wg := wg) (wl := wl) hn 21 v with q | q
            · exact absurd (show caN ws wg wl v < 0 by unfold caN; rw [q]; decide) h0
            · exact q.2.2
          refine hA _ _ hG (fun q => ?_) ?_ (Or.inl ⟨h4, v, hv, by omega⟩)
          · rcases q.2 with p | p
            · exact h3 p
            · exact h2 ⟨q.1, Or.inl p⟩
          · have := caN_lt (wg := wg) (wl := wl) hn v; omega
theorem AG_o {a : Nat} {T : S9} (hn : iv 0 80 (ws 12)) (hnb : nb = (ws 12).toNatClampNeg) (hI : IN9 wg wl nb) (hb : b < nb) (hA : AG9 ws wg wl nb n m ((b, T) :: L)) (ha : HD9 wg b a) (hk : kd8 wg (ctE wg a)) (hG : GS9 wg wl ((b, T) :: L) S) : oObj ws wg wl (oMK ws wg wl n) (ctE wg a) S = oObj ws wg wl (oMK ws wg wl m) (ctE wg a) S := by
  by_cases h : (wg 27 (ctE wg a)).toInt < 0
  · rw [oObj_n h, oObj_n h]
    exact AG_n hn hnb hA (Or.inr (Or.inr ⟨a, ha, Or.inl ⟨hk, h, rfl⟩⟩)) hG
  · have h0 : 0 ≤ (wg 27 (ctE wg a)).toInt := by omega
    rw [oObj_b h0, oObj_b h0]
    by_cases h3 : zS S (wg 27 (ctE wg a)).toInt.toNat = 1
    · rw [oMK_z1 h3, oMK_z1 h3]
    · have q := (hI b hb a ha).1 hk h0
      exact hA _ _ hG (fun p => p.1.1 q.1) q.2 (Or.inr (Or.inl ⟨a, ha, hk, h0, rfl⟩))
theorem AG_i {a : Nat} {T : S9} {pre post : List Nat} {e : Nat} (hn : iv 0 80 (ws 12)) (hnb : nb = (ws 12).toNatClampNeg) (hI : IN9 wg wl nb) (hb : b < nb) (hA : AG9 ws wg wl nb n m ((b, T) :: L)) (ha : HD9 wg b a) (hk : (wg 25 (ctE wg a)).toInt = 6) (hl : itC wg (ctE wg a) = pre ++ e :: post) (hP : PR9 ws wg wl ((b, T) :: L) S pre) (hG : GS9 wg wl ((b, T) :: L) S) : oItm ws wg wl (oMK ws wg wl n) e S = oItm ws wg wl (oMK ws wg wl m) e S := by
  unfold oItm
  by_cases h7 : (wg 25 e).toInt = 7
  · rw [if_pos h7, if_pos h7]
  · rw [if_neg h7, if_neg h7]
    by_cases h9 : (wg 25 e).toInt = 9
    · rw [if_pos h9, if_pos h9]
    · rw [if_neg h9, if_neg h9]
      have he : e ∈ itC wg (ctE wg a) := by rw [hl]; simp
      have key : oObj ws wg wl (oMK ws wg wl n) e S = oObj ws wg wl (oMK ws wg wl m) e S := by
        by_cases h : (wg 27 e).toInt < 0
        · rw [oObj_n h, oObj_n h]
          exact AG_n hn hnb hA (Or.inr (Or.inr ⟨a, ha, Or.inr ⟨hk, e, he, h7, h9, h, rfl⟩⟩)) hG
        · have h0 : 0 ≤ (wg 27 e).toInt := by omega
          rw [oObj_b h0, oObj_b h0]
          by_cases h3 : zS S (wg 27 e).toInt.toNat = 1
          · rw [oMK_z1 h3, oMK_z1 h3]
          · have q := (hI b hb a ha).2 hk e he h7 h9 h0
            exact hA _ _ hG (fun p => p.1.1 q.1) q.2 (Or.inr (Or.inr ⟨a, pre, e, post, ha, hk, hl, h7, h9, h0, rfl, hP⟩))
      rw [key]
/-- success keeps what is being made -/
theorem SK_get {t : Int} {o : Int} (h : oGet wg (oMK ws wg wl n) t S = (some o, S2)) : KQ9 S S2 := by
  unfold oGet at h
  split at h
  · exact absurd (congrArg Prod.fst h) (by simp)
  · split at h
    · exact absurd (congrArg Prod.fst h) (by simp)
    · split at h
      · have e : S = S2 := congrArg Prod.snd h
        rw [← e]; exact KQ_rf
      · exact KQ_mk _ _ _ _ _ h
theorem SK_obj {e : Nat} {o : Int} (h : oObj ws wg wl (oMK ws wg wl n) e S = (some o, S2)) : KQ9 S S2 := by
  unfold oObj at h
  split at h
  · exact SK_get h
  · exact KQ_mk _ _ _ _ _ h
theorem SK_itm {e : Nat} {o : Int} (h : oItm ws wg wl (oMK ws wg wl n) e S = (some o, S2)) : KQ9 S S2 := by
  unfold oItm at h
  split at h
  · have e : S = S2 := congrArg Prod.snd h
    rw [← e]; exact KQ_rf
  · split at h
    · have e : S = S2 := congrArg Prod.snd h
      rw [← e]; exact KQ_rf
    · obtain ⟨a, S1, h1, h2⟩ := bd9_so h
      have e : S1 = S2 := congrArg Prod.snd h2
      rw [← e]; exact SK_obj h1
theorem SK_its : ∀ (l : List Nat) (acc V : List Int) (S S2 : S9), oIts ws wg wl (oMK ws wg wl n) l acc S = (some V, S2) → KQ9 S S2
  | [], acc, V, S, S2, h => by have e : S = S2 := congrArg Prod.snd h; rw [← e]; exact KQ_rf
  | x :: l, acc, V, S, S2, h => by
    obtain ⟨a, S1, h1, h2⟩ := bd9_so h
    exact KQ_tr (SK_itm h1) (SK_its l _ _ _ _ h2)
theorem SK_con {c : Nat} {V : List Int} (h : oCon ws wg wl (oMK ws wg wl n) c S = (some V, S2)) : KQ9 S S2 := by
  unfold oCon at h
  split at h
  · exact SK_its _ _ _ _ _ h
  · split at h
    · obtain ⟨a, S1, h1, h2⟩ := bd9_so h
      have e : S1 = S2 := congrArg Prod.snd h2
      rw [← e]; exact SK_obj h1
    · have e : S = S2 := congrArg Prod.snd h
      rw [← e]; exact KQ_rf
theorem SK_ars : ∀ (l : List Nat) (acc V : List (List Int)) (S S2 : S9), oArs ws wg wl (oMK ws wg wl n) l acc S = (some V, S2) → KQ9 S S2
  | [], acc, V, S, S2, h => by have e : S = S2 := congrArg Prod.snd h; rw [← e]; exact KQ_rf
  | x :: l, acc, V, S, S2, h => by
    obtain ⟨a, S1, h1, h2⟩ := bd9_so h
    exact KQ_tr (SK_con h1) (SK_ars l _ _ _ _ h2)
/-- the items of a list -/
theorem AG_its {a : Nat} {T : S9} (hn : iv 0 80 (ws 12)) (hnb : nb = (ws 12).toNatClampNeg) (hI : IN9 wg wl nb) (hb : b < nb) (hA : AG9 ws wg wl nb n m ((b, T) :: L)) (ha : HD9 wg b a) (hk : (wg 25 (ctE wg a)).toInt = 6) : ∀ (post pre : List Nat) (acc : List Int) (S : S9), itC wg (ctE wg a) = pre ++ post → PR9 ws wg wl ((b, T) :: L) S pre → GS9 wg wl ((b, T) :: L) S → oIts ws wg wl (oMK ws wg wl n) post acc S = oIts ws wg wl (oMK ws wg wl m) post acc S
  | [], pre, acc, S, _, _, _ => rfl
  | e :: post, pre, acc, S, hl, hP, hG => by
    refine bd9_c (AG_i hn hnb hI hb hA ha hk hl hP hG) (fun v S1 h1 => ?_)
    have mo : MO9 wg wl S S1 := snd_s h1 (PK_itm (MO_pk n) e S)
    refine AG_its hn hnb hI hb hA ha hk post (pre ++ [e]) _ S1 (by rw [hl]; simp) ?_ (GS_s hG (SK_itm h1) mo)
    intro x hx h7 h9 h0
    rcases List.mem_append.mp hx with q | q
    · exact PR_m hP mo x q h7 h9 h0
    · have ex : x = e := by simpa using q
      subst ex
      unfold oItm at h1
      rw [if_neg h7, if_neg h9] at h1
      obtain ⟨u, S3, h2, h3⟩ := bd9_so h1
      have e3 : S3 = S1 := congrArg Prod.snd h3
      rw [oObj_b h0] at h2
      rw [← e3]
      refine ⟨DN_mk hn _ _ _ _ _ h2, fun y hy ey => ?_⟩
      have z := hG.1 y hy
      rw [ey] at z
      rw [oMK_z1 z] at h2
      exact absurd (congrArg Prod.fst h2) (by simp)
theorem AG_con {a : Nat} {T : S9} (hn : iv 0 80 (ws 12)) (hnb : nb = (ws 12).toNatClampNeg) (hI : IN9 wg wl nb) (hb : b < nb) (hA : AG9 ws wg wl nb n m ((b, T) :: L)) (ha : HD9 wg b a) (hG : GS9 wg wl ((b, T) :: L) S) : oCon ws wg wl (oMK ws wg wl n) (ctE wg a) S = oCon ws wg wl (oMK ws wg wl m) (ctE wg a) S := by
  unfold oCon
  by_cases h6 : (wg 25 (ctE wg a)).toInt = 6
  · rw [if_pos h6, if_pos h6]
    exact AG_its hn hnb hI hb hA ha h6 _ [] [] S rfl (fun e he => absurd he (by simp)) hG
  · rw [if_neg h6, if_neg h6]
    by_cases h8 : (wg 25 (ctE wg a)).toInt = 8 ∨ (wg 25 (ctE wg a)).toInt = 2
    · rw [if_pos h8, if_pos h8, AG_o hn hnb hI hb hA ha h8 hG]
    · rw [if_neg h8, if_neg h8]
theorem AG_ars {T : S9} (hn : iv 0 80 (ws 12)) (hnb : nb = (ws 12).toNatClampNeg) (hI : IN9 wg wl nb) (hb : b < nb) (hA : AG9 ws wg wl nb n m ((b, T) :: L)) : ∀ (l : List Nat) (acc : List (List Int)) (S : S9), (∀ a, a ∈ l → HD9 wg b a) → GS9 wg wl ((b, T) :: L) S → oArs ws wg wl (oMK ws wg wl n) l acc S = oArs ws wg wl (oMK ws wg wl m) l acc S
  | [], acc, S, _, _ => rfl
  | a :: l, acc, S, hl, hG => by
    refine bd9_c (AG_con hn hnb hI hb hA (hl a (List.mem_cons_self ..)) hG) (fun v S1 h1 => ?_)
    exact AG_ars hn hnb hI hb hA l _ S1 (fun x hx => hl x (List.mem_cons_of_mem _ hx)) (GS_s hG (SK_con h1) (snd_s h1 (PK_con (MO_pk n) _ S)))
theorem AG_sts {T : S9} (hn : iv 0 80 (ws 12)) (hnb : nb = (ws 12).toNatClampNeg) (hI : IN9 wg wl nb) (hb : b < nb) (hA : AG9 ws wg wl nb n m ((b, T) :: L)) (o : Int) : ∀ (l : List Nat) (S : S9), (∀ a, a ∈ l → HD9 wg b a) → GS9 wg wl ((b, T) :: L) S → oSts ws wg wl (oMK ws wg wl n) o l S = oSts ws wg wl (oMK ws wg wl m) o l S
  | [], S, _, _ => rfl
  | a :: l, S, hl, hG => by
    refine bd9_c (AG_con hn hnb hI hb hA (hl a (List.mem_cons_self ..)) hG) (fun v S1 h1 => ?_)
    have g1 := GS_s hG (SK_con h1) (snd_s h1 (PK_con (MO_pk n) _ S))
    refine bd9_c rfl (fun u S3 h3 => ?_)
    exact AG_sts hn hnb hI hb hA o l S3 (fun x hx => hl x (List.mem_cons_of_mem _ hx)) (GS_s g1 (KQ_e (oSe_e h3).2.1) (MO_e (oSe_e h3).2.1))
/-- what makes a bean -/
theorem AG_mb {T : S9} (hn : iv 0 80 (ws 12)) (hnb : nb = (ws 12).toNatClampNeg) (hI : IN9 wg wl nb) (hb : b < nb) (hA : AG9 ws wg wl nb n m ((b, T) :: L)) (hG : GS9 wg wl ((b, T) :: L) (oBe b S)) : oMB ws wg wl (oMK ws wg wl n) b S = oMB ws wg wl (oMK ws wg wl m) b S := by
  have hde : oDe ws wg wl (oMK ws wg wl n) b (oBe b S) = oDe ws wg wl (oMK ws wg wl m) b (oBe b S) := by
    unfold oDe
    by_cases h : wl 6 b = 0
    · rw [if_pos h, if_pos h]
    · rw [if_neg h, if_neg h]; exact AG_n hn hnb hA (Or.inl ⟨h, rfl⟩) hG
  refine bd9_c hde (fun d S1 h1 => ?_)
  have g1 : GS9 wg wl ((b, T) :: L) S1 := by
    unfold oDe at h1
    split at h1
    · have e : oBe b S = S1 := congrArg Prod.snd h1
      rw [← e]; exact hG
    · exact GS_s hG (SK_get h1) (snd_s h1 (PK_get (MO_pk n) _ _))
  unfold r1
  by_cases hc : (wg 30 b).toInt = -1 ∧ wl 7 b = 0
  · rw [if_pos hc, if_pos hc]
  · rw [if_neg hc, if_neg hc]
    have hfa : oFa ws wg wl (oMK ws wg wl n) b S1 = oFa ws wg wl (oMK ws wg wl m) b S1 := by
      unfold oFa
      by_cases h : wl 7 b = 0
      · rw [if_pos h, if_pos h]
      · rw [if_neg h, if_neg h]; exact AG_n hn hnb hA (Or.inr (Or.inl ⟨h, rfl⟩)) g1
    refine bd9_c hfa (fun fo S2 h2 => ?_)
    have g2 : GS9 wg wl ((b, T) :: L) S2 := by
      unfold oFa at h2
      split at h2
      · have e : S1 = S2 := congrArg Prod.snd h2
        rw [← e]; exact g1
      · exact GS_s g1 (SK_get h2) (snd_s h2 (PK_get (MO_pk n) _ _))
    refine bd9_c (AG_ars hn hnb hI hb hA _ _ S2 (fun a ha => Or.inl ha) g2) (fun vs S3 h3 => ?_)
    have g3 := GS_s g2 (SK_ars _ _ _ _ _ h3) (snd_s h3 (PK_ars (MO_pk n) _ _ S2))
    refine bd9_c rfl (fun o S4 h4 => ?_)
    have g4 := GS_s g3 (KQ_e (oBr_w h4).2.2.1) (MO_e (oBr_w h4).2.2.1)
    exact bd9_c (AG_sts hn hnb hI hb hA o _ S4 (fun a ha => Or.inr ha) g4) (fun _ _ _ => rfl)
/-- forty levels are enough, if no chain is longer -/
theorem DEP (hn : iv 0 80 (ws 12)) (hnb : nb = (ws 12).toNatClampNeg) (hI : IN9 wg wl nb) (hB : ∀ L, CH9 ws wg wl L → (∀ x, x ∈ L → x.1 < nb) → L.length ≤ 40) (k : Nat) : ∀ (n t : Nat) (S : S9) (L : List (Nat × S9)), L.length + n = 40 → CH9 ws wg wl L → (∀ x, x ∈ L → x.1 < nb) → GS9 wg wl L S → t < nb → ¬ RD9 wg wl S t → LN9 ws wg wl L t S → oMK ws wg wl n t S = oMK ws wg wl (n + k) t S
  | 0, t, S, L, hlen, hC, hL, hG, ht, hr, hl => by
    by_cases q : zS S t = 1
    · rw [oMK_z1 q, oMK_z1 q]
    · exfalso
      have := hB ((t, S) :: L) ⟨hC, q, hr, hG.1, hG.2, hl⟩ (fun x hx => by
        rcases List.mem_cons.mp hx with e | e
        · rw [e]; exact ht
        · exact hL x e)
      have e : ((t, S) :: L).length = L.length + 1 := rfl
      omega
  | n + 1, t, S, L, hlen, hC, hL, hG, ht, hr, hl => by
    by_cases q : zS S t = 1
    · rw [oMK_z1 q, oMK_z1 q]
    · rw [show n + 1 + k = (n + k) + 1 by omega, oMK_2 q, oMK_2 q]
      have hC2 : CH9 ws wg wl ((t, S) :: L) := ⟨hC, q, hr, hG.1, hG.2, hl⟩
      have hL2 : ∀ x, x ∈ (t, S) :: L → x.1 < nb := fun x hx => by
        rcases List.mem_cons.mp hx with e | e
        · rw [e]; exact ht
        · exact hL x e
      refine AG_mb (T := S) (L := L) hn hnb hI ht ?_ ?_
      · intro t2 S2 g2 r2 l2 n2
        exact DEP hn hnb hI hB k n t2 S2 ((t, S) :: L) (by show L.length + 1 + n = 40; omega) hC2 hL2 g2 l2 r2 n2
      · refine ⟨fun x hx => ?_, fun x hx => ?_⟩
        · show fu9 (zS S) t 1 x.1 = 1
          rcases List.mem_cons.mp hx with e | e
          · rw [e, fu9_at]
          · by_cases p : x.1 = t
            · rw [p, fu9_at]
            · rw [fu9_ne p]; exact hG.1 x e
        · rcases List.mem_cons.mp hx with e | e
          · rw [e]; exact MO_be
          · exact MO_tr (hG.2 x e) MO_be
/-- from where nothing is being made -/
theorem DEP_g (hn : iv 0 80 (ws 12)) (hnb : nb = (ws 12).toNatClampNeg) (hI : IN9 wg wl nb) (hB : ∀ L, CH9 ws wg wl L → (∀ x, x ∈ L → x.1 < nb) → L.length ≤ 40) (v : Int64) (S : S9) : oGet wg (oMK ws wg wl 40) (caN ws wg wl v) S = oGet wg (oMK ws wg wl 81) (caN ws wg wl v) S := by
  rw [gt_nm hn, gt_nm hn]
  unfold gtR
  by_cases h0 : caN ws wg wl v < 0
  · rw [if_pos h0, if_pos h0]
  · rw [if_neg h0, if_neg h0]
    by_cases h1 : ¬ wg 34 (caN ws wg wl v).toNat = 0
    · rw [if_pos h1, if_pos h1]
    · rw [if_neg h1, if_neg h1]
      by_cases h2 : rdy9 wg wl S (caN ws wg wl v).toNat
      · rw [if_pos h2, if_pos h2]
      · rw [if_neg h2, if_neg h2]
        by_cases h3 : zS S (caN ws wg wl v).toNat = 1
        · rw [oMK_z1 h3, oMK_z1 h3]
        · have h4 : ¬ wl 4 (caN ws wg wl v).toNat = 0 := by
            rcases caF_ok (wg := wg) (wl := wl) hn 21 v with q | q
            · exact absurd (show caN ws wg wl v < 0 by unfold caN; rw [q]; decide) h0
            · exact q.2.2
          refine DEP hn hnb hI hB 41 40 _ S [] rfl trivial (fun x hx => absurd hx (by simp)) ⟨fun x hx => absurd hx (by simp), fun x hx => absurd hx (by simp)⟩ ?_ (fun q => ?_) h4
          · have := caN_lt (wg := wg) (wl := wl) hn v; omega
          · rcases q.2 with p | p
            · exact h3 p
            · exact h2 ⟨q.1, Or.inl p⟩
end DE9
end
section
section CN9
variable {ws : Nat → Int32} {wg : Nat → Nat → Int32} {wl : Nat → Nat → Int64} {S S2 : S9} {b c n m nb : Nat} {L : List (Nat × S9)}
/-- reached, step by step -/
def RE8 (r : Nat → Nat → Prop) (y z : Nat) : Prop := ∀ X : Nat → Prop, X y → (∀ c u, X c → r u c → X u) → X z
theorem RE_rf {r : Nat → Nat → Prop} {y : Nat} : RE8 r y y := fun _ h _ => h
theorem RE_st {r : Nat → Nat → Prop} {y z u : Nat} (h : RE8 r y z) (hu : r u z) : RE8 r y u := fun X h0 hs => hs z u (h X h0 hs) hu
theorem RE_1 {r : Nat → Nat → Prop} {y z : Nat} (h : RE8 r y z) : z = y ∨ ∃ u, r u y ∧ RE8 r u z := by
  refine h (fun z => z = y ∨ ∃ u, r u y ∧ RE8 r u z) (Or.inl rfl) (fun c u hc hu => ?_)
  rcases hc with q | ⟨w, q1, q2⟩
  · rw [q] at hu; exact Or.inr ⟨u, hu, RE_rf⟩
  · exact Or.inr ⟨w, q1, RE_st q2 hu⟩
theorem AC_y9 {r : Nat → Nat → Prop} {y : Nat} (h : Acc r y) : ∀ z, RE8 r y z → ¬ r y z := by
  induction h with
  | intro y _ ih =>
    intro z hz hy
    rcases RE_1 hz with q | ⟨u, q1, q2⟩
    · rw [q] at hy; exact ih y hy y RE_rf hy
    · exact ih u q1 y (RE_st q2 hy) q1
theorem LN_k {t : Nat} {T : S9} (h : LN9 ws wg wl ((b, T) :: L) t S) : LK9 ws wg wl b t := by
  rcases h with ⟨_, v, h1, h2⟩ | ⟨a, h1, h2, h3, h4⟩ | ⟨a, pre, e, post, h1, h2, h3, h4, h5, h6, h7, _⟩
  · rcases h1 with ⟨q1, q2⟩ | ⟨q1, q2⟩ | ⟨a, q1, ⟨q2, q3, q4⟩ | ⟨q2, e, q3, q4, q5, q6, q7⟩⟩
    · rw [q2] at h2; exact Or.inl ⟨q1, h2⟩
    · rw [q2] at h2; exact Or.inr (Or.inl ⟨q1, h2⟩)
    · rw [q4] at h2; exact Or.inr (Or.inr ⟨a, q1, Or.inr ⟨q2, Or.inl ⟨q3, h2⟩⟩⟩)
    · rw [q7] at h2; exact Or.inr (Or.inr ⟨a, q1, Or.inl ⟨q2, e, q3, q4, q5, Or.inl ⟨q6, h2⟩⟩⟩)
  · exact Or.inr (Or.inr ⟨a, h1, Or.inr ⟨h2, Or.inr ⟨h3, h4⟩⟩⟩)
  · exact Or.inr (Or.inr ⟨a, h1, Or.inl ⟨h2, e, by rw [h3]; simp, h4, h5, Or.inr ⟨h6, h7⟩⟩⟩)
/-- a part of a chain that is older -/
theorem CH_t : ∀ (L1 : List (Nat × S9)) {L2 : List (Nat × S9)}, CH9 ws wg wl (L1 ++ L2) → CH9 ws wg wl L2
  | [], _, h => h
  | (_, _) :: L1, _, h => CH_t L1 h.1
theorem CH_r : ∀ (L1 : List (Nat × S9)) {L2 : List (Nat × S9)} {y x : Nat} {Sy Sx : S9}, CH9 ws wg wl (L1 ++ (y, Sy) :: L2) → (x, Sx) ∈ L2 → ∀ z, z ∈ L1 → RE8 (fun t c => LK9 ws wg wl c t ∧ ¬ RD9 wg wl Sx t) y z.1
  | [], _, _, _, _, _, _, _, z, hz => absurd hz (by simp)
  | (t, T) :: L1, L2, y, x, Sy, Sx, h, hx, z, hz => by
    have hx2 : (x, Sx) ∈ L1 ++ (y, Sy) :: L2 := List.mem_append.mpr (Or.inr (List.mem_cons_of_mem _ hx))
    have hr : ¬ RD9 wg wl Sx t := fun q => h.2.2.1 (h.2.2.2.2.1 _ hx2 t q)
    rcases List.mem_cons.mp hz with e | e
    · rw [e]
      cases L1 with
      | nil => exact RE_st RE_rf ⟨LN_k h.2.2.2.2.2, hr⟩
      | cons p L1 =>
        obtain ⟨w, W⟩ := p
        exact RE_st (CH_r ((w, W) :: L1) h.1 hx (w, W) (List.mem_cons_self ..)) ⟨LN_k h.2.2.2.2.2, hr⟩
    · exact CH_r L1 h.1 hx z e
/-- of a chain: distinct beans -/
theorem CH_d : ∀ (L : List (Nat × S9)), CH9 ws wg wl L → (L.map Prod.fst).Nodup
  | [], _ => List.nodup_nil
  | (t, S) :: L, h => by
    show (t :: L.map Prod.fst).Nodup
    refine List.nodup_cons.mpr ⟨fun hm => ?_, CH_d L h.1⟩
    obtain ⟨x, hx, e⟩ := List.mem_map.mp hm
    exact h.2.1 (by rw [← e]; exact h.2.2.2.1 x hx)
theorem LC9 {p1 q1 p2 q2 : List Nat} {a d : Nat} (h : p1 ++ a :: q1 = p2 ++ d :: q2) (hn : ¬ a = d) (hp : ¬ a ∈ p2) : d ∈ p1 := by
  rcases Nat.lt_trichotomy p1.length p2.length with q | q | q
  · exfalso
    have e := congrArg (fun l => l[p1.length]?) h
    rw [List.getElem?_append_right (Nat.le_refl _), Nat.sub_self, List.getElem?_append_left q] at e
    have e : some a = p2[p1.length]? := e
    exact hp (List.mem_of_getElem? e.symm)
  · exfalso
    have e := congrArg (fun l => l[p1.length]?) h
    rw [List.getElem?_append_right (Nat.le_refl _), Nat.sub_self, q, List.getElem?_append_right (Nat.le_refl _), Nat.sub_self] at e
    have e : some a = some d := e
    exact hn (Option.some.inj e)
  · have e := congrArg (fun l => l[p2.length]?) h
    rw [List.getElem?_append_left q, List.getElem?_append_right (Nat.le_refl _), Nat.sub_self] at e
    have e : p1[p2.length]? = some d := e
    exact List.mem_of_getElem? e
/-- what the text of the document costs: M elements, the cost of each, the names, each bean's element, what it lies in, what a list lies in -/
def CS9 (ws : Nat → Int32) (wg : Nat → Nat → Int32) (wl : Nat → Nat → Int64) (nb M : Nat) (bs : Nat → Nat) (oc : List Int64) (el ou hl : Nat → Nat) : Prop :=
  M ≤ 80
  ∧ (∀ t, t < nb → 0 < el t ∧ el t < M ∧ (¬ wl 4 t = 0 → 25 ≤ bs (el t)) ∧ 18 ≤ bs (el t))
  ∧ (∀ t u, t < nb → u < nb → el t = el u → t = u)
  ∧ (∀ b, b < nb → ∀ v, NM9 wg wl b v → v ∈ oc)
  ∧ (∀ t, t < nb → wl 4 t = 0 → 0 < ou t ∧ ou t < M ∧ 11 ≤ bs (ou t) ∧ ∀ u, u < nb → ¬ ou t = el u)
  ∧ (∀ b, b < nb → ∀ a, HD9 wg b a → kd8 wg (ctE wg a) → 0 ≤ (wg 27 (ctE wg a)).toInt → ∀ u, u < nb → wl 4 u = 0 → ou u = ou (wg 27 (ctE wg a)).toInt.toNat → u = (wg 27 (ctE wg a)).toInt.toNat)
  ∧ (∀ b, b < nb → ∀ a, HD9 wg b a → (wg 25 (ctE wg a)).toInt = 6 → (∀ e, e ∈ itC wg (ctE wg a) → ¬ (wg 25 e).toInt = 7 → ¬ (wg 25 e).toInt = 9 → 0 ≤ (wg 27 e).toInt → ou (wg 27 e).toInt.toNat = ctE wg a) ∧ 0 < hl (ctE wg a) ∧ hl (ctE wg a) < M ∧ 11 ≤ bs (hl (ctE wg a)) ∧ (∀ u, u < nb → ¬ hl (ctE wg a) = el u) ∧ (∀ u, u < nb → wl 4 u = 0 → ¬ hl (ctE wg a) = ou u))
  ∧ (∀ b a b2 a2, b < nb → b2 < nb → HD9 wg b a → HD9 wg b2 a2 → (wg 25 (ctE wg a)).toInt = 6 → (wg 25 (ctE wg a2)).toInt = 6 → hl (ctE wg a) = hl (ctE wg a2) → ctE wg a = ctE wg a2)
theorem hIa {a t : Nat} (hI : IN9 wg wl nb) (hb : b < nb) (h1 : HD9 wg b a) (h2 : kd8 wg (ctE wg a)) (h3 : 0 ≤ (wg 27 (ctE wg a)).toInt) (h4 : (wg 27 (ctE wg a)).toInt.toNat = t) : wl 4 t = 0 := by rw [← h4]; exact ((hI b hb a h1).1 h2 h3).1
theorem hIb {a t e : Nat} (hI : IN9 wg wl nb) (hb : b < nb) (h1 : HD9 wg b a) (h2 : (wg 25 (ctE wg a)).toInt = 6) (he : e ∈ itC wg (ctE wg a)) (h7 : ¬ (wg 25 e).toInt = 7) (h9 : ¬ (wg 25 e).toInt = 9) (h3 : 0 ≤ (wg 27 e).toInt) (h4 : (wg 27 e).toInt.toNat = t) : wl 4 t = 0 := by rw [← h4]; exact ((hI b hb a h1).2 h2 e he h7 h9 h3).1
section CM9
variable {M : Nat} {bs : Nat → Nat} {oc : List Int64} {el ou hl : Nat → Nat}
/-- a bean within another, met in a chain together with another of the same place: by a list -/
theorem LN_l {t u : Nat} {T : S9} (hC : CS9 ws wg wl nb M bs oc el ou hl) (hI : IN9 wg wl nb) (hb : b < nb) (ht : wl 4 t = 0) (h : LN9 ws wg wl ((b, T) :: L) t S) (hu : u < nb) (hu4 : wl 4 u = 0) (hne : ¬ u = t) (ho : ou u = ou t) : ∃ a pre e post, HD9 wg b a ∧ (wg 25 (ctE wg a)).toInt = 6 ∧ ctE wg a = ou t ∧ itC wg (ctE wg a) = pre ++ e :: post ∧ ¬ (wg 25 e).toInt = 7 ∧ ¬ (wg 25 e).toInt = 9 ∧ 0 ≤ (wg 27 e).toInt ∧ (wg 27 e).toInt.toNat = t ∧ PR9 ws wg wl ((b, T) :: L) S pre := by
  rcases h with ⟨q, _⟩ | ⟨a, q1, q2, q3, q4⟩ | ⟨a, pre, e, post, q1, q2, q3, q4, q5, q6, q7, q8⟩
  · exact absurd ht q
  · exfalso
    have := hC.2.2.2.2.2.1 b hb a q1 q2 q3 u hu hu4 (by rw [q4]; exact ho)
    rw [q4] at this; exact hne this
  · refine ⟨a, pre, e, post, q1, q2, ?_, q3, q4, q5, q6, q7, q8⟩
    have := (hC.2.2.2.2.2.2.1 b hb a q1 q2).1 e (by rw [q3]; simp) q4 q5 q6
    rw [q7] at this; exact this.symm
/-- not three of one list -/
theorem CH_3 {t y x : Nat} {T Sy Sx : S9} {L1 L2 : List (Nat × S9)} (hC : CS9 ws wg wl nb M bs oc el ou hl) (hI : IN9 wg wl nb) (h : CH9 ws wg wl ((t, T) :: (L1 ++ (y, Sy) :: L2))) (hL : ∀ z, z ∈ (t, T) :: (L1 ++ (y, Sy) :: L2) → z.1 < nb) (hx : (x, Sx) ∈ L2) (ht : wl 4 t = 0) (hy : wl 4 y = 0) (hx4 : wl 4 x = 0) (e1 : ou y = ou t) (e2 : ou x = ou t) : False := by
  obtain ⟨L3, L4, e3⟩ := List.append_of_mem hx
  have mL2 : ∀ z, z ∈ L2 → z ∈ (t, T) :: (L1 ++ (y, Sy) :: L2) := fun z hz => List.mem_cons_of_mem _ (List.mem_append.mpr (Or.inr (List.mem_cons_of_mem _ hz)))
  have my : (y, Sy) ∈ (t, T) :: (L1 ++ (y, Sy) :: L2) := List.mem_cons_of_mem _ (List.mem_append.mpr (Or.inr (List.mem_cons_self ..)))
  have ty : ¬ y = t := fun q => h.2.1 (by rw [← q]; exact h.2.2.2.1 (y, Sy) (List.mem_append.mpr (Or.inr (List.mem_cons_self ..))))
  have hcy : CH9 ws wg wl ((y, Sy) :: L2) := CH_t L1 h.1
  have yx : ¬ x = y := fun q => hcy.2.1 (by rw [← q]; exact hcy.2.2.2.1 (x, Sx) hx)
  -- the link of x
  have hcx : CH9 ws wg wl ((x, Sx) :: L4) := by
    have := hcy.1
    rw [e3] at this
    exact CH_t L3 this
  cases L4 with
  | nil => exact hcx.2.2.2.2.2 hx4
  | cons p L5 =>
    obtain ⟨bx, Bx⟩ := p
    have mbx : bx < nb := hL (bx, Bx) (mL2 _ (by rw [e3]; simp))
    obtain ⟨ax, prx, ex, pox, x1, x2, x3, x4, x5, x6, x7, x8, x9⟩ := LN_l hC hI mbx hx4 hcx.2.2.2.2.2 (hL _ my) hy (fun q => yx q.symm) (by rw [e1, e2])
    -- the link of y
    cases L2 with
    | nil => exact absurd hx (by simp)
    | cons p L6 =>
      obtain ⟨by9, By⟩ := p
      have mby : by9 < nb := hL (by9, By) (mL2 _ (List.mem_cons_self ..))
      obtain ⟨ay, pry, ey, poy, y1, y2, y3, y4, y5, y6, y7, y8, y9⟩ := LN_l hC hI mby hy hcy.2.2.2.2.2 (hL _ (mL2 _ hx)) hx4 yx (by rw [e1, e2])
      have hsame : ctE wg ax = ctE wg ay := by rw [x3, y3, e1, e2]
      rw [hsame, y4] at x4
      have hexy : ¬ ex = ey := fun q => yx (by rw [← x8, q, y8])
      have hnp : ¬ ex ∈ pry := fun q => by
        have := (y9 ex q x5 x6 x7).2 (x, Sx) hx
        exact this x8.symm
      have hin : ey ∈ prx := LC9 x4.symm hexy hnp
      have hdn := (x9 ey hin y5 y6 y7).1
      rw [y8] at hdn
      -- the link of t, and the cycle
      have hry : ¬ RD9 wg wl Sx y := fun q => hcy.2.2.1 (hcy.2.2.2.2.1 _ hx y q)
      have fin : ∀ (k : Nat) (K : S9) (M2 : List (Nat × S9)), L1 ++ (y, Sy) :: (by9, By) :: L6 = (k, K) :: M2 → False := fun k K M2 eq => by
        have hln := h.2.2.2.2.2
        have mk9 : k < nb := hL (k, K) (List.mem_cons_of_mem _ (by rw [eq]; exact List.mem_cons_self ..))
        rw [eq] at hln
        obtain ⟨at9, prt, et, pot, t1, t2, t3, t4, t5, t6, t7, t8, t9⟩ := LN_l hC hI mk9 ht hln (hL _ my) hy ty e1
        have hlk : LK9 ws wg wl k y := by
          refine Or.inr (Or.inr ⟨at9, t1, Or.inl ⟨t2, ey, ?_, y5, y6, Or.inr ⟨y7, y8⟩⟩⟩)
          rw [show ctE wg at9 = ctE wg ay by rw [t3, y3, e1], y4]; simp
        have hre : RE8 (fun t c => LK9 ws wg wl c t ∧ ¬ RD9 wg wl Sx t) y k := by
          cases L1 with
          | nil =>
            have : y = k := congrArg Prod.fst (List.cons.inj eq).1
            rw [← this]; exact RE_rf
          | cons p L7 =>
            have e9 : p = (k, K) := (List.cons.inj eq).1
            have := CH_r (p :: L7) h.1 hx p (List.mem_cons_self ..)
            rw [e9] at this; exact this
        exact AC_y9 hdn k hre ⟨hlk, hry⟩
      cases L1 with
      | nil => exact fin y Sy _ rfl
      | cons p L7 => obtain ⟨k, K⟩ := p; exact fin k K _ rfl
/-- what stands for the beans within others, of a chain -/
def AN9 (wl : Nat → Nat → Int64) (ou : Nat → Nat) (L : List (Nat × S9)) (t : Nat) : Bool := L.any (fun x => decide (wl 4 x.1 = 0) && decide (ou x.1 = ou t))
theorem AN_1 {t : Nat} (h : AN9 wl ou L t = true) : ∃ x, x ∈ L ∧ wl 4 x.1 = 0 ∧ ou x.1 = ou t := by
  unfold AN9 at h
  rw [List.any_eq_true] at h
  obtain ⟨x, hx, q⟩ := h
  rw [Bool.and_eq_true, decide_eq_true_eq, decide_eq_true_eq] at q
  exact ⟨x, hx, q.1, q.2⟩
theorem AN_0 {t : Nat} (h : ¬ AN9 wl ou L t = true) : ∀ x, x ∈ L → wl 4 x.1 = 0 → ¬ ou x.1 = ou t := fun x hx h4 ho => h (by
  unfold AN9
  rw [List.any_eq_true]
  exact ⟨x, hx, by rw [Bool.and_eq_true, decide_eq_true_eq, decide_eq_true_eq]; exact ⟨h4, ho⟩⟩)
def RS9 (wl : Nat → Nat → Int64) (ou hl : Nat → Nat) : List (Nat × S9) → List Nat
  | [] => []
  | (t, _) :: L => if ¬ wl 4 t = 0 then RS9 wl ou hl L else (if AN9 wl ou L t = true then hl (ou t) else ou t) :: RS9 wl ou hl L
theorem RS_n {t : Nat} {T : S9} (h : ¬ wl 4 t = 0) : RS9 wl ou hl ((t, T) :: L) = RS9 wl ou hl L := if_pos h
theorem RS_a {t : Nat} {T : S9} (h : wl 4 t = 0) (ha : AN9 wl ou L t = true) : RS9 wl ou hl ((t, T) :: L) = hl (ou t) :: RS9 wl ou hl L := by
  show (if ¬ wl 4 t = 0 then _ else (if AN9 wl ou L t = true then hl (ou t) else ou t) :: _) = _
  rw [if_neg (fun q => q h), if_pos ha]
theorem RS_o {t : Nat} {T : S9} (h : wl 4 t = 0) (ha : ¬ AN9 wl ou L t = true) : RS9 wl ou hl ((t, T) :: L) = ou t :: RS9 wl ou hl L := by
  show (if ¬ wl 4 t = 0 then _ else (if AN9 wl ou L t = true then hl (ou t) else ou t) :: _) = _
  rw [if_neg (fun q => q h), if_neg ha]
/-- what those are: the place of one of the chain, or what a list lies in, of which there are two in the chain -/
theorem RS_m : ∀ (L : List (Nat × S9)) (r : Nat), r ∈ RS9 wl ou hl L → (∃ x, x ∈ L ∧ wl 4 x.1 = 0 ∧ r = ou x.1) ∨ (∃ L1 y Sy L2 x, L = L1 ++ (y, Sy) :: L2 ∧ x ∈ L2 ∧ wl 4 y = 0 ∧ wl 4 x.1 = 0 ∧ ou x.1 = ou y ∧ r = hl (ou y))
  | [], r, h => absurd h (by simp [RS9])
  | (t, T) :: L, r, h => by
    have go : r ∈ RS9 wl ou hl L → (∃ x, x ∈ (t, T) :: L ∧ wl 4 x.1 = 0 ∧ r = ou x.1) ∨ (∃ L1 y Sy L2 x, (t, T) :: L = L1 ++ (y, Sy) :: L2 ∧ x ∈ L2 ∧ wl 4 y = 0 ∧ wl 4 x.1 = 0 ∧ ou x.1 = ou y ∧ r = hl (ou y)) := fun q => by
      rcases RS_m L r q with ⟨x, q1, q2⟩ | ⟨L1, y, Sy, L2, x, q1, q2⟩
      · exact Or.inl ⟨x, List.mem_cons_of_mem _ q1, q2⟩
      · exact Or.inr ⟨(t, T) :: L1, y, Sy, L2, x, by rw [q1]; rfl, q2⟩
    by_cases h4 : wl 4 t = 0
    · by_cases ha : AN9 wl ou L t = true
      · rw [RS_a h4 ha] at h
        rcases List.mem_cons.mp h with q | q
        · obtain ⟨x, x1, x2, x3⟩ := AN_1 ha
          exact Or.inr ⟨[], t, T, L, x, rfl, x1, h4, x2, x3, q⟩
        · exact go q
      · rw [RS_o h4 ha] at h
        rcases List.mem_cons.mp h with q | q
        · exact Or.inl ⟨(t, T), List.mem_cons_self .., h4, q⟩
        · exact go q
    · rw [RS_n h4] at h; exact go h
/-- an inner bean of which another of the same place is older: its list -/
theorem CH_l {t : Nat} {T : S9} {x : Nat × S9} (hC : CS9 ws wg wl nb M bs oc el ou hl) (hI : IN9 wg wl nb) (h : CH9 ws wg wl ((t, T) :: L)) (hL : ∀ z, z ∈ (t, T) :: L → z.1 < nb) (hx : x ∈ L) (ht : wl 4 t = 0) (hx4 : wl 4 x.1 = 0) (ho : ou x.1 = ou t) : ∃ b a, b < nb ∧ HD9 wg b a ∧ (wg 25 (ctE wg a)).toInt = 6 ∧ ctE wg a = ou t := by
  cases L with
  | nil => exact absurd hx (by simp)
  | cons p L =>
    obtain ⟨bb, B⟩ := p
    have hb : bb < nb := hL (bb, B) (List.mem_cons_of_mem _ (List.mem_cons_self ..))
    have hne : ¬ x.1 = t := fun q => h.2.1 (by rw [← q]; exact h.2.2.2.1 x hx)
    obtain ⟨a, pre, e, post, q1, q2, q3, _⟩ := LN_l hC hI hb ht h.2.2.2.2.2 (hL x (List.mem_cons_of_mem _ hx)) hx4 hne ho
    exact ⟨bb, a, hb, q1, q2, q3⟩
theorem RS_b (hC : CS9 ws wg wl nb M bs oc el ou hl) (hI : IN9 wg wl nb) (h : CH9 ws wg wl L) (hL : ∀ z, z ∈ L → z.1 < nb) {r : Nat} (hr : r ∈ RS9 wl ou hl L) : 0 < r ∧ r < M ∧ 11 ≤ bs r ∧ ∀ u, u < nb → ¬ r = el u := by
  rcases RS_m L r hr with ⟨x, q1, q2, q3⟩ | ⟨L1, y, Sy, L2, x, q1, q2, q3, q4, q5, q6⟩
  · rw [q3]; exact hC.2.2.2.2.1 x.1 (hL x q1) q2
  · subst q1
    obtain ⟨b, a, p1, p2, p3, p4⟩ := CH_l hC hI (CH_t L1 h) (fun z hz => hL z (List.mem_append.mpr (Or.inr hz))) q2 q3 q4 q5
    have q := hC.2.2.2.2.2.2.1 b p1 a p2 p3
    rw [q6, ← p4]
    exact ⟨q.2.1, q.2.2.1, q.2.2.2.1, q.2.2.2.2.1⟩
theorem RS_d (hC : CS9 ws wg wl nb M bs oc el ou hl) (hI : IN9 wg wl nb) : ∀ (L : List (Nat × S9)), CH9 ws wg wl L → (∀ z, z ∈ L → z.1 < nb) → (RS9 wl ou hl L).Nodup
  | [], _, _ => List.nodup_nil
  | (t, T) :: L, h, hL => by
    have hLt : ∀ z, z ∈ L → z.1 < nb := fun z hz => hL z (List.mem_cons_of_mem _ hz)
    have ih := RS_d hC hI L h.1 hLt
    have htn : t < nb := hL (t, T) (List.mem_cons_self ..)
    by_cases h4 : wl 4 t = 0
    · by_cases ha : AN9 wl ou L t = true
      · rw [RS_a h4 ha]
        refine List.nodup_cons.mpr ⟨fun hm => ?_, ih⟩
        obtain ⟨x0, x1, x2, x3⟩ := AN_1 ha
        obtain ⟨b, a, p1, p2, p3, p4⟩ := CH_l hC hI h hL x1 h4 x2 x3
        have qh := hC.2.2.2.2.2.2.1 b p1 a p2 p3
        rcases RS_m L _ hm with ⟨x, q1, q2, q3⟩ | ⟨L1, y, Sy, L2, x, q1, q2, q3, q4, q5, q6⟩
        · exact qh.2.2.2.2.2 x.1 (hLt x q1) q2 (by rw [p4]; exact q3)
        · subst q1
          obtain ⟨b2, a2, r1, r2, r3, r4⟩ := CH_l hC hI (CH_t L1 h.1) (fun z hz => hLt z (List.mem_append.mpr (Or.inr hz))) q2 q3 q4 q5
          have ee := hC.2.2.2.2.2.2.2 b a b2 a2 p1 r1 p2 r2 p3 r3 (by rw [p4, r4]; exact q6)
          rw [p4, r4] at ee
          exact CH_3 hC hI h hL (x := x.1) (Sx := x.2) q2 h4 q3 q4 ee.symm (q5.trans ee.symm)
      · rw [RS_o h4 ha]
        refine List.nodup_cons.mpr ⟨fun hm => ?_, ih⟩
        rcases RS_m L _ hm with ⟨x, q1, q2, q3⟩ | ⟨L1, y, Sy, L2, x, q1, q2, q3, q4, q5, q6⟩
        · exact AN_0 ha x q1 q2 q3.symm
        · subst q1
          obtain ⟨b2, a2, r1, r2, r3, r4⟩ := CH_l hC hI (CH_t L1 h.1) (fun z hz => hLt z (List.mem_append.mpr (Or.inr hz))) q2 q3 q4 q5
          have qh := hC.2.2.2.2.2.2.1 b2 r1 a2 r2 r3
          exact qh.2.2.2.2.2 t htn h4 (by rw [r4]; exact q6.symm)
    · rw [RS_n h4]; exact ih
/-- the names of a chain -/
theorem CH_v (hC : CS9 ws wg wl nb M bs oc el ou hl) (hI : IN9 wg wl nb) : ∀ (L : List (Nat × S9)), CH9 ws wg wl L → (∀ z, z ∈ L → z.1 < nb) → ¬ L = [] → ∃ V : List Int64, V.Nodup ∧ (∀ v, v ∈ V → v ∈ oc ∧ ∃ x, x ∈ L ∧ caN ws wg wl v = (x.1 : Int)) ∧ V.length + 1 + (RS9 wl ou hl L).length = L.length
  | [], _, _, h => absurd rfl h
  | [(t, T)], h, hL, _ => by
    refine ⟨[], List.nodup_nil, fun v hv => absurd hv (by simp), ?_⟩
    rw [RS_n h.2.2.2.2.2]; rfl
  | (t, T) :: (b, B) :: L, h, hL, _ => by
    have hLt : ∀ z, z ∈ (b, B) :: L → z.1 < nb := fun z hz => hL z (List.mem_cons_of_mem _ hz)
    obtain ⟨V, v1, v2, v3⟩ := CH_v hC hI ((b, B) :: L) h.1 hLt (by simp)
    have len : ((t, T) :: (b, B) :: L).length = ((b, B) :: L).length + 1 := rfl
    have mem : ∀ v, v ∈ V → v ∈ oc ∧ ∃ x, x ∈ (t, T) :: (b, B) :: L ∧ caN ws wg wl v = (x.1 : Int) := fun v hv => by
      obtain ⟨q1, x, q2, q3⟩ := v2 v hv
      exact ⟨q1, x, List.mem_cons_of_mem _ q2, q3⟩
    by_cases h4 : wl 4 t = 0
    · refine ⟨V, v1, mem, ?_⟩
      by_cases ha : AN9 wl ou ((b, B) :: L) t = true
      · rw [RS_a h4 ha, List.length_cons]; omega
      · rw [RS_o h4 ha, List.length_cons]; omega
    · rcases h.2.2.2.2.2 with ⟨_, v, q1, q2⟩ | ⟨a, q1, q2, q3, q4⟩ | ⟨a, pre, e, post, q1, q2, q3, q4, q5, q6, q7, q8⟩
      · refine ⟨v :: V, List.nodup_cons.mpr ⟨fun hv => ?_, v1⟩, fun w hw => ?_, ?_⟩
        · obtain ⟨_, x, p1, p2⟩ := v2 v hv
          have e : x.1 = t := by have : (x.1 : Int) = (t : Int) := p2.symm.trans q2; omega
          exact h.2.1 (by rw [← e]; exact h.2.2.2.1 x p1)
        · rcases List.mem_cons.mp hw with e | e
          · rw [e]; exact ⟨hC.2.2.2.1 b (hLt (b, B) (List.mem_cons_self ..)) v q1, (t, T), List.mem_cons_self .., q2⟩
          · exact mem w e
        · rw [RS_n h4, List.length_cons]; omega
      · exact absurd (hIa hI (hLt (b, B) (List.mem_cons_self ..)) q1 q2 q3 q4) h4
      · exact absurd (hIb hI (hLt (b, B) (List.mem_cons_self ..)) q1 q2 (by rw [q3]; simp) q4 q5 q6 q7) h4
end CM9
end CN9
end
section
section CQ9
variable {ws : Nat → Int32} {wg : Nat → Nat → Int32} {wl : Nat → Nat → Int64} {nb M : Nat} {bs : Nat → Nat} {oc : List Int64} {el ou hl : Nat → Nat}
def sB (f : Nat → Nat) : Nat → Nat
  | 0 => 0
  | n + 1 => sB f n + f n
def sL (f : Nat → Nat) : List Nat → Nat
  | [] => 0
  | x :: l => f x + sL f l
theorem sL_app (f : Nat → Nat) : ∀ (l m : List Nat), sL f (l ++ m) = sL f l + sL f m
  | [], m => by show sL f m = 0 + sL f m; omega
  | x :: l, m => by
    show f x + sL f (l ++ m) = f x + sL f l + sL f m
    rw [sL_app f l m]; omega
/-- distinct ones below a bound sum up to no more than all -/
theorem sL_le (f : Nat → Nat) : ∀ (n : Nat) (l : List Nat), l.Nodup → (∀ x, x ∈ l → x < n) → sL f l ≤ sB f n ∧ l.length ≤ n
  | 0, [], _, _ => ⟨Nat.le_refl _, Nat.le_refl _⟩
  | 0, x :: l, _, h => absurd (h x (List.mem_cons_self ..)) (Nat.not_lt_zero _)
  | n + 1, l, hd, h => by
    by_cases q : n ∈ l
    · obtain ⟨l1, l2, e⟩ := List.append_of_mem q
      subst e
      have hd2 : (l1 ++ l2).Nodup := by
        refine List.Nodup.sublist ?_ hd
        exact List.Sublist.append (List.Sublist.refl _) (List.sublist_cons_self _ _)
      have hn : ¬ n ∈ l1 ++ l2 := fun hm => by
        rw [List.nodup_append] at hd
        rcases List.mem_append.mp hm with p | p
        · exact hd.2.2 n p n (List.mem_cons_self ..) rfl
        · exact (List.nodup_cons.mp hd.2.1).1 p
      have ih := sL_le f n (l1 ++ l2) hd2 (fun x hx => by
        have h1 : x < n + 1 := h x (by
          rcases List.mem_append.mp hx with p | p
          · exact List.mem_append.mpr (Or.inl p)
          · exact List.mem_append.mpr (Or.inr (List.mem_cons_of_mem _ p)))
        have h2 : ¬ x = n := fun e => hn (e ▸ hx)
        omega)
      rw [sL_app, List.length_append] at ih
      rw [sL_app, List.length_append, List.length_cons]
      show sL f l1 + (f n + sL f l2) ≤ sB f n + f n ∧ _
      omega
    · have ih := sL_le f n l hd (fun x hx => by
        have h1 := h x hx
        have h2 : ¬ x = n := fun e => q (e ▸ hx)
        omega)
      exact ⟨Nat.le_trans ih.1 (Nat.le_add_right _ _), by omega⟩
theorem sL_m {f : Nat → Nat} {k : Nat} : ∀ (l : List Nat), (∀ x, x ∈ l → k ≤ f x) → k * l.length ≤ sL f l
  | [], _ => by simp
  | x :: l, h => by
    have := sL_m l (fun y hy => h y (List.mem_cons_of_mem _ hy))
    have h1 := h x (List.mem_cons_self ..)
    show k * (l.length + 1) ≤ f x + sL f l
    rw [Nat.mul_add, Nat.mul_one]; omega
/-- distinct ones of a list are no more than the list has -/
theorem nd_le : ∀ (V O : List Int64), V.Nodup → (∀ v, v ∈ V → v ∈ O) → V.length ≤ O.length
  | [], O, _, _ => Nat.zero_le _
  | v :: V, O, hd, h => by
    obtain ⟨o1, o2, e⟩ := List.append_of_mem (h v (List.mem_cons_self ..))
    have hv := List.nodup_cons.mp hd
    have ih := nd_le V (o1 ++ o2) hv.2 (fun w hw => by
      have := h w (List.mem_cons_of_mem _ hw)
      rw [e] at this
      rcases List.mem_append.mp this with p | p
      · exact List.mem_append.mpr (Or.inl p)
      · rcases List.mem_cons.mp p with p2 | p2
        · exact absurd (p2 ▸ hw) hv.1
        · exact List.mem_append.mpr (Or.inr p2))
    rw [List.length_append] at ih
    rw [e, List.length_append, List.length_cons, List.length_cons]; omega
theorem el_d {L : List (Nat × S9)} (hC : CS9 ws wg wl nb M bs oc el ou hl) : ∀ (L : List Nat), L.Nodup → (∀ t, t ∈ L → t < nb) → (L.map el).Nodup
  | [], _, _ => List.nodup_nil
  | t :: L, hd, hL => by
    have q := List.nodup_cons.mp hd
    show (el t :: L.map el).Nodup
    refine List.nodup_cons.mpr ⟨fun hm => ?_, el_d (L := []) hC L q.2 (fun x hx => hL x (List.mem_cons_of_mem _ hx))⟩
    obtain ⟨u, hu, e⟩ := List.mem_map.mp hm
    exact q.1 (by rw [hC.2.2.1 t u (hL t (List.mem_cons_self ..)) (hL u (List.mem_cons_of_mem _ hu)) e.symm]; exact hu)
theorem el_s (hC : CS9 ws wg wl nb M bs oc el ou hl) : ∀ (L : List (Nat × S9)), (∀ z, z ∈ L → z.1 < nb) → 25 * L.length ≤ sL bs ((L.map Prod.fst).map el) + 7 * (RS9 wl ou hl L).length
  | [], _ => by simp
  | (t, T) :: L, hL => by
    have ih := el_s hC L (fun x hx => hL x (List.mem_cons_of_mem _ hx))
    have q := hC.2.1 t (hL (t, T) (List.mem_cons_self ..))
    show 25 * (L.length + 1) ≤ bs (el t) + sL bs ((L.map Prod.fst).map el) + 7 * (RS9 wl ou hl ((t, T) :: L)).length
    by_cases h4 : wl 4 t = 0
    · have : (RS9 wl ou hl ((t, T) :: L)).length = (RS9 wl ou hl L).length + 1 := by
        by_cases ha : AN9 wl ou L t = true
        · rw [RS_a h4 ha, List.length_cons]
        · rw [RS_o h4 ha, List.length_cons]
      rw [this]; have := q.2.2.2; omega
    · rw [RS_n h4]; have := q.2.2.1 h4; omega
/-- no chain of more than forty -/
theorem CH_40 (hC : CS9 ws wg wl nb M bs oc el ou hl) (hI : IN9 wg wl nb) (hT : sB bs M + 12 * oc.length ≤ 1200) (L : List (Nat × S9)) (h : CH9 ws wg wl L) (hL : ∀ z, z ∈ L → z.1 < nb) : L.length ≤ 40 := by
  refine Nat.le_of_not_lt (fun hlt => ?_)
  -- the oldest forty-one
  obtain ⟨K, hk, hK, hn⟩ : ∃ K, K.length = 41 ∧ CH9 ws wg wl K ∧ ∀ z, z ∈ K → z.1 < nb := by
    refine ⟨L.drop (L.length - 41), by rw [List.length_drop]; omega, ?_, fun z hz => hL z (List.mem_of_mem_drop hz)⟩
    have e := List.take_append_drop (L.length - 41) L
    rw [← e] at h
    exact CH_t _ h
  obtain ⟨V, v1, v2, v3⟩ := CH_v hC hI K hK hn (fun q => by rw [q] at hk; exact absurd hk (by decide))
  have hV := nd_le V oc v1 (fun v hv => (v2 v hv).1)
  have hd : ((K.map Prod.fst).map el ++ RS9 wl ou hl K).Nodup := by
    rw [List.nodup_append]
    refine ⟨el_d (L := []) hC _ (CH_d K hK) (fun t ht => ?_), RS_d hC hI K hK hn, fun x hx y hy e => ?_⟩
    · obtain ⟨z, hz, ez⟩ := List.mem_map.mp ht
      rw [← ez]; exact hn z hz
    · obtain ⟨t, ht, et⟩ := List.mem_map.mp hx
      obtain ⟨z, hz, ez⟩ := List.mem_map.mp ht
      exact (RS_b hC hI hK hn hy).2.2.2 t (by rw [← ez]; exact hn z hz) (by rw [← e, et])
  -- all of them, and the outermost one beside
  have hd0 : (0 :: ((K.map Prod.fst).map el ++ RS9 wl ou hl K)).Nodup := List.nodup_cons.mpr ⟨fun hm => by
    rcases List.mem_append.mp hm with p | p
    · obtain ⟨t, ht, et⟩ := List.mem_map.mp p
      obtain ⟨z, hz, ez⟩ := List.mem_map.mp ht
      have := (hC.2.1 t (by rw [← ez]; exact hn z hz)).1
      omega
    · have := (RS_b hC hI hK hn p).1; omega, hd⟩
  have hM : 0 < M := by
    cases K with
    | nil => exact absurd hk (by decide)
    | cons p K => have := hC.2.1 p.1 (hn p (List.mem_cons_self ..)); omega
  have hlt2 : ∀ x, x ∈ 0 :: ((K.map Prod.fst).map el ++ RS9 wl ou hl K) → x < M := fun x hx => by
    rcases List.mem_cons.mp hx with e | hx
    · rw [e]; exact hM
    · rcases List.mem_append.mp hx with p | p
      · obtain ⟨t, ht, et⟩ := List.mem_map.mp p
        obtain ⟨z, hz, ez⟩ := List.mem_map.mp ht
        have := (hC.2.1 t (by rw [← ez]; exact hn z hz)).2.1
        omega
      · exact (RS_b hC hI hK hn p).2.1
  have s1 := sL_le bs M _ hd0 hlt2
  have e0 : sL bs (0 :: ((K.map Prod.fst).map el ++ RS9 wl ou hl K)) = bs 0 + sL bs ((K.map Prod.fst).map el ++ RS9 wl ou hl K) := rfl
  rw [e0, sL_app, List.length_cons, List.length_append, List.length_map, List.length_map] at s1
  have s2 := el_s hC K hn
  have s3 := sL_m (f := bs) (k := 11) (RS9 wl ou hl K) (fun r hr => (RS_b hC hI hK hn hr).2.2.1)
  have m80 := hC.1
  omega
end CQ9
end
section
section CT9
/-- the characters of an element's text, in the class's rows -/
def CTX (gm : Nat → Nat → Int32) (e : Nat) (C : List Int) : Prop := (gm 11 e).toInt = (C.length : Int) ∧ C.length ≤ 24 ∧ ∀ i x, C[i]? = some x → (gm 56 (24 * e + i)).toInt = x
variable {gm gm2 : Nat → Nat → Int32} {e : Nat} {C T : List Int}
theorem CTX_g {z : Int32} {i : Nat} (h : CTX gm e C) (hi : i < C.length) (hz : z = gm 56 (24 * e + i)) : z.toInt = (C[i]?).getD 0 := by rw [hz]; exact h.2.2 i _ (gd9 hi)
theorem CTX_k (h : CTX gm e C) (h1 : gm2 11 = gm 11) (h2 : gm2 56 = gm 56) : CTX gm2 e C := by unfold CTX; rw [h1, h2]; exact h
/-- the letters of one of the class's own texts -/
def sLs (k : Nat) : List Int := (sByt.getD k []).map Int32.toInt
theorem sLs_g {k i : Nat} (h : i < (sByt.getD k []).length) : (sLs k)[i]? = some (sChr k i) := by
  unfold sLs sChr
  generalize sByt.getD k [] = L at h ⊢
  rw [List.getElem?_map, List.getElem?_eq_getElem h, List.getD_eq_getElem?_getD, List.getElem?_eq_getElem h]; rfl
theorem sLs_l {k : Nat} : (sLs k).length = (sByt.getD k []).length := List.length_map ..
theorem sLs_e {k : Nat} (h : C.length = (sByt.getD k []).length) (ha : ∀ i, i < C.length → (C[i]?).getD 0 = sChr k i) : C = sLs k := by
  refine List.ext_getElem? (fun i => ?_)
  by_cases q : i < C.length
  · rw [sLs_g (by omega), ← ha i q]; exact gd9 q
  · rw [List.getElem?_eq_none (by omega), List.getElem?_eq_none (by rw [sLs_l]; omega)]
theorem sLs_5 : sLs 5 = [116, 114, 117, 101] := by decide
theorem sLs_6 : sLs 6 = [102, 97, 108, 115, 101] := by decide
/-- the same text, with white told alike -/
def WQ9 (C T : List Int) : Prop := C.length = T.length ∧ ∀ (i : Nat) (c t : Int), C[i]? = some c → T[i]? = some t → c = t ∨ (t = 32 ∧ c = 10)
theorem WQ_c {c t : Int} (h : WQ9 (c :: C) (t :: T)) : (c = t ∨ (t = 32 ∧ c = 10)) ∧ WQ9 C T := ⟨h.2 0 c t rfl rfl, by have := h.1; simpa using this, fun i a b h1 h2 => h.2 (i + 1) a b (by simpa using h1) (by simpa using h2)⟩
theorem WQ_d : ∀ (C T : List Int) (a : Int), WQ9 C T → dgF C a = dgF T a
  | [], [], a, _ => rfl
  | [], t :: T, a, h => absurd h.1 (by simp)
  | c :: C, [], a, h => absurd h.1 (by simp)
  | c :: C, t :: T, a, h => by
    obtain ⟨h1, h2⟩ := WQ_c h
    show (if 48 ≤ c ∧ c ≤ 57 then dgF C (a * 10 + (c - 48)) else none) = (if 48 ≤ t ∧ t ≤ 57 then dgF T (a * 10 + (t - 48)) else none)
    rcases h1 with q | ⟨q1, q2⟩
    · rw [q, WQ_d C T _ h2]
    · rw [if_neg (by omega), if_neg (by omega)]
theorem WQ_n (h : WQ9 C T) : ng9 C = ng9 T := by
  cases C with
  | nil =>
    cases T with
    | nil => rfl
    | cons t T => exact absurd h.1 (by simp)
  | cons c C =>
    cases T with
    | nil => exact absurd h.1 (by simp)
    | cons t T =>
      unfold ng9
      rcases (WQ_c h).1 with q | ⟨q1, q2⟩
      · rw [q]; rfl
      · have e1 : decide ((c :: C).head? = some 45) = false := decide_eq_false (fun p => by have := Option.some.inj p; omega)
        have e2 : decide ((t :: T).head? = some 45) = false := decide_eq_false (fun p => by have := Option.some.inj p; omega)
        rw [e1, e2]
theorem WQ_r (h : WQ9 C T) (n : Nat) : WQ9 (C.drop n) (T.drop n) := ⟨by rw [List.length_drop, List.length_drop, h.1], fun i c t h1 h2 => by rw [List.getElem?_drop] at h1 h2; exact h.2 _ c t h1 h2⟩
theorem WQ_nu (h : WQ9 C T) : nuL C = nuL T := by
  unfold nuL
  rw [WQ_n h]
  cases q : ng9 T with
  | true =>
    rw [if_pos rfl, if_pos rfl, WQ_d _ _ 0 (WQ_r h 1), List.length_drop, List.length_drop, h.1]
  | false =>
    have e1 : (if false = true then C.drop 1 else C) = C := rfl
    have e2 : (if false = true then T.drop 1 else T) = T := rfl
    rw [e1, e2, WQ_d _ _ 0 h, h.1]
theorem WQ_l {M : List Int} (h : WQ9 C T) (hM : ∀ x, x ∈ M → ¬ x = 10 ∧ ¬ x = 32) : C = M ↔ T = M := by
  constructor
  · intro q
    subst q
    refine List.ext_getElem? (fun i => ?_)
    by_cases p : i < T.length
    · have hc := gd9 (T := C) (i := i) (d := (0 : Int)) (by rw [h.1]; exact p)
      have ht := gd9 (T := T) (i := i) (d := (0 : Int)) p
      rcases h.2 i _ _ hc ht with w | w
      · rw [ht, hc, w]
      · exact absurd w.2 (hM _ (List.mem_of_getElem? hc)).1
    · rw [List.getElem?_eq_none (by omega), List.getElem?_eq_none (by rw [h.1]; omega)]
  · intro q
    subst q
    refine List.ext_getElem? (fun i => ?_)
    by_cases p : i < C.length
    · have hc := gd9 (T := C) (i := i) (d := (0 : Int)) p
      have ht := gd9 (T := T) (i := i) (d := (0 : Int)) (by rw [← h.1]; exact p)
      rcases h.2 i _ _ hc ht with w | w
      · rw [ht, hc, w]
      · exact absurd w.1 (hM _ (List.mem_of_getElem? ht)).2
    · rw [List.getElem?_eq_none (by omega), List.getElem?_eq_none (by rw [← h.1]; omega)]
theorem WQ_tr (h : WQ9 C T) : trL C = trL T := by
  unfold trL
  by_cases q : C = [116, 114, 117, 101]
  · rw [if_pos q, if_pos ((WQ_l h (by decide)).mp q)]
  · rw [if_neg q, if_neg (fun p => q ((WQ_l h (by decide)).mpr p))]
    by_cases q2 : C = [102, 97, 108, 115, 101]
    · rw [if_pos q2, if_pos ((WQ_l h (by decide)).mp q2)]
    · rw [if_neg q2, if_neg (fun p => q2 ((WQ_l h (by decide)).mpr p))]
/-- what weighText leaves -/
theorem TX_of {wg : Nat → Nat → Int32} {wl : Nat → Nat → Int64} (h : CTX wg e C) (hw : WQ9 C T) (h3 : (wl 3 e).toInt = (nuL C).getD 1099511627776) (h21 : (wg 21 e).toInt = trL C) (h1 : ∀ x, T = [x] → ¬ x = 32) : TXT9 wg wl e T := by
  refine ⟨by rw [h.1, hw.1], by rw [h3, WQ_nu hw], by rw [h21, WQ_tr hw], fun x hx => ?_⟩
  have hl : C.length = 1 := by rw [hw.1, hx]; rfl
  have hc := gd9 (T := C) (i := 0) (d := (0 : Int)) (by omega)
  have q := h.2.2 0 _ hc
  rw [Nat.add_zero] at q
  rw [q]
  rcases hw.2 0 _ x hc (by rw [hx]; rfl) with w | w
  · exact w
  · exact absurd w.1 (h1 x hx)
theorem num_c {v z1 z2 cc : Int64} {d : Int32} (e1 : z1 = v * 10) (ec : cc = d.toInt64) (e2 : z2 = z1 + cc) (hv : 0 ≤ v.toInt) (hv2 : v.toInt ≤ 10000000000) (hd : 0 ≤ d.toInt ∧ d.toInt ≤ 9) : z2.toInt = v.toInt * 10 + d.toInt := by
  have a1 : z1.toInt = v.toInt * 10 := by rw [e1, Int64.toInt_mul, show (10 : Int64).toInt = 10 from by decide]; exact l64_bm (by omega)
  rw [e2, Int64.toInt_add, a1, ec, c64]; exact l64_bm (by omega)
theorem l2i_e {y u : Int64} {w z : Int32} (e1 : w = y.toInt32) (e2 : u = w.toInt64) (e3 : z = lg_cmp y u) : z.toInt = 0 ↔ -2147483648 ≤ y.toInt ∧ y.toInt ≤ 2147483647 := by
  have h0 : z.toInt = 0 ↔ y = u := by rw [← lg_cmp_eq y u, ← e3]; exact ⟨fun q => Int32.toInt_inj.mp q, fun q => by rw [q]; rfl⟩
  have hu : u.toInt = w.toInt := by rw [e2, c64]
  have hw : w.toInt = y.toInt.bmod (2 ^ 32) := by rw [e1, Int64.toInt_toInt32]
  rw [h0]
  constructor
  · intro q
    rw [q, hu]
    have h1 := w.le_toInt; have h2 := w.toInt_lt
    rw [show (2 : Int) ^ 31 = 2147483648 from by decide] at h1 h2
    exact ⟨h1, by omega⟩
  · intro q
    refine Int64.toInt_inj.mp ?_
    rw [hu, hw]
    have e : ((2 : Nat) ^ 32) = 4294967296 := by decide
    rw [e]
    unfold Int.bmod
    by_cases p : 0 ≤ y.toInt
    · have h2 : y.toInt % (4294967296 : Nat) = y.toInt := Int.emod_eq_of_lt p (by omega)
      rw [h2, if_pos (by omega)]
    · have h2 : y.toInt % (4294967296 : Nat) = y.toInt + 4294967296 := by
        rw [← Int.add_emod_right]
        exact Int.emod_eq_of_lt (by omega) (by omega)
      rw [h2, if_neg (by omega)]; omega
theorem nm_y {y u : Int64} {w z : Int32} (e1 : w = y.toInt32) (e2 : u = w.toInt64) (e3 : z = lg_cmp y u) (h : z.toInt = 0) : y.toInt = (if -2147483648 ≤ y.toInt ∧ y.toInt ≤ 2147483647 then some y.toInt else none).getD 1099511627776 := by rw [if_pos ((l2i_e e1 e2 e3).mp h)]; rfl
theorem nm_n {y u : Int64} {w z : Int32} (e1 : w = y.toInt32) (e2 : u = w.toInt64) (e3 : z = lg_cmp y u) (h : ¬ z.toInt = 0) : (1099511627776 : Int64).toInt = (if -2147483648 ≤ y.toInt ∧ y.toInt ≤ 2147483647 then some y.toInt else none).getD 1099511627776 := by rw [if_neg (fun q => h ((l2i_e e1 e2 e3).mpr q))]; decide
theorem frd_1 (h : (C[0]?).getD 0 = 45) (hl : 0 < C.length) : fr9 C = 1 := by unfold fr9; rw [if_pos (ng_y h hl)]
theorem frd_0 (h : ¬ ((C[0]?).getD 0 = 45 ∧ 0 < C.length)) : fr9 C = 0 := by unfold fr9; rw [if_neg (by rw [ng_n h]; decide)]
theorem fr_t (h : fr9 C = 1) : ng9 C = true := by
  unfold fr9 at h
  cases q : ng9 C with
  | true => rfl
  | false => rw [q] at h; exact absurd h (by decide)
theorem fr_f (h : fr9 C = 0) : ¬ ng9 C = true := by
  unfold fr9 at h
  intro q
  rw [q] at h; exact absurd h (by decide)
theorem nu_p {k : Nat} {v y u : Int64} {w z : Int32} (hK : DG9 C k v.toInt) (hk : C.length ≤ k) (hf : fr9 C = 0) (ey : y = v) (e1 : w = y.toInt32) (e2 : u = w.toInt64) (e3 : z = lg_cmp y u) : (z.toInt = 0 → y.toInt = (nuL C).getD 1099511627776) ∧ (¬ z.toInt = 0 → (1099511627776 : Int64).toInt = (nuL C).getD 1099511627776) := by
  rw [DG_e hK hk, if_neg (fr_f hf), ← ey]
  exact ⟨nm_y e1 e2 e3, nm_n e1 e2 e3⟩
theorem nu_m {k : Nat} {v y u : Int64} {w z : Int32} (hK : DG9 C k v.toInt) (hk : C.length ≤ k) (hf : fr9 C = 1) (ey : y = -v) (e1 : w = y.toInt32) (e2 : u = w.toInt64) (e3 : z = lg_cmp y u) : (z.toInt = 0 → y.toInt = (nuL C).getD 1099511627776) ∧ (¬ z.toInt = 0 → (1099511627776 : Int64).toInt = (nuL C).getD 1099511627776) := by
  rw [DG_e hK hk, if_pos (fr_t hf), ← neg64 ey hK.2.2.2.2.2.1]
  exact ⟨nm_y e1 e2 e3, nm_n e1 e2 e3⟩
theorem nu_0 (h : nuL C = none) : (1099511627776 : Int64).toInt = (nuL C).getD 1099511627776 := by rw [h]; decide
theorem DG_i (hf : fr9 C = fr9 C) (h1 : C.length - fr9 C ≤ 10) (h2 : 0 < C.length - fr9 C) {k : Nat} {v : Int} (hk : k = fr9 C) (hv : v = 0) : DG9 C k v := by rw [hk, hv]; exact DG_0 h1 h2
theorem tr_1 (h : C = sLs 5) : (1 : Int32).toInt = trL C := by rw [h, sLs_5]; decide
theorem tr_0 (h : C = sLs 6) : (0 : Int32).toInt = trL C := by rw [h, sLs_6]; decide
theorem tr_m (h : ¬ C = sLs 5) (h2 : ¬ C = sLs 6) : (-1 : Int32).toInt = trL C := by
  rw [sLs_5] at h; rw [sLs_6] at h2
  unfold trL; rw [if_neg h, if_neg h2]; decide
/-- a value that becomes the text -/
def VTX (gm g : Nat → Nat → Int32) (o k : Nat) (V : List Int) : Prop := (∀ (i : Nat) (x : Int), i < k → V[i]? = some x → (g 56 (24 * o + i)).toInt = x) ∧ ∀ j, ¬ (24 * o ≤ j ∧ j < 24 * o + 24) → g 56 j = gm 56 j
theorem VTX_0 {g : Nat → Nat → Int32} {o k : Nat} {V : List Int} (hk : k = 0) (h : g 56 = gm 56) : VTX gm g o k V := ⟨fun i x hi _ => by omega, fun j _ => by rw [h]⟩
theorem VTX_s {g g2 : Nat → Nat → Int32} {o k k2 : Nat} {V : List Int} {r : Int32} (h : VTX gm g o k V) (e : g2 56 = upd (g 56) (24 * o + k) r) (hr : V[k]? = some r.toInt) (hk : k < 24) (hk2 : k2 = k + 1) : VTX gm g2 o k2 V := by
  refine ⟨fun i x hi hx => ?_, fun j hj => ?_⟩
  · rw [e]
    by_cases q : i = k
    · rw [q, upd_at]; rw [q] at hx; exact Option.some.inj (hr.symm.trans hx)
    · rw [upd_ne (by omega)]; exact h.1 i x (by omega) hx
  · rw [e, upd_ne (by omega)]; exact h.2 j hj
theorem VTX_c {g g2 : Nat → Nat → Int32} {o k : Nat} {V : List Int} {r : Int32} {f : Nat → Int32} (h : VTX gm g o k V) (hk : V.length ≤ k) (e56 : g2 56 = g 56) (e11 : g2 11 = upd f o r) (hr : r.toInt = (V.length : Int)) (hl : V.length ≤ 24) : CTX g2 o V := by
  refine ⟨by rw [e11, upd_at, hr], hl, fun i x hx => ?_⟩
  rw [e56]; exact h.1 i x (by have := (List.getElem?_eq_some_iff.mp hx).1; omega) hx
theorem FND_g {A7 : At7} {lg : Nat → Nat → Int64} {j : Nat} {k : Int64} {r : Int32} {P5 P6 : Int} {V : List Int} (h : FND gm lg j k r) (ha : ATC A7 gm lg j P5 P6) (hg : gA A7 k = some V) : 0 ≤ r.toInt ∧ VW7 gm r.toNatClampNeg V := by
  rcases FND_l h ha with ⟨a1, a2⟩ | ⟨a1, v, a2, a3⟩
  · rw [hg] at a2; cases a2
  · rw [hg] at a2; cases Option.some.inj a2; exact ⟨a1, a3⟩
theorem VW_c {g : Nat → Nat → Int32} {a k : Nat} {V : List Int} {r : Int32} (h : VW7 gm a V) (hk : k < V.length) (e : r = g 46 ((g 44 a).toNatClampNeg + k)) (e46 : g 46 = gm 46) (e44 : g 44 = gm 44) : V[k]? = some r.toInt := by
  rw [e, e46, e44, h.2 k _ (gd9 (d := (0 : Int)) hk)]; exact gd9 hk
end CT9
end
section
set_option maxHeartbeats 4000000 in
set_option maxRecDepth 100000 in
theorem d_textIs9 (l : Launch) (dC : Nat → ClassId) (dI : Nat → Nat → Nat) (ad : Nat → Nat → Nat) (cid : Nat → ClassId) (a2 : Nat → Nat) (lx : List Nat) (sg : Nat → Int32) (gm : Nat → Nat → Int32) (lg : Nat → Nat → Int64) (x : Int32) (tx : Int32) (C9 : List Int) (hI : CI sg gm) (hvx : iv 0 79 x) (hvtx : iv 0 6 tx) (hC : CTX gm x.toNatClampNeg C9) : CMt dC dI ad cid a2 lx l yX3_textIs wm_X3_textIs ({ frames := 4, cells := 1, slots := 6, locals := 90 }) [eV (ad 9) x, eV (ad 37) tx] sg gm lg (fun v u => ∃ r : Int32, v = some (.int r) ∧ u = (sg, gm, lg) ∧ (iv 0 1 r) ∧ ((r.toInt = 1 ∧ C9 = sLs tx.toNatClampNeg) ∨ (r.toInt = 0 ∧ ¬ C9 = sLs tx.toNatClampNeg))) (fun _ _ => False) := by
  intro sz
  refine vx_ofW (cc := cX3_textIs) (maxL := 3) (ret := (some .boolean)) (by decide) rfl ?_
  intro p e s m args below meth c s₁ B hml hxt hv
  obtain ⟨rfl, hsz, hP, hK, hD0, hG⟩ := hv
  have hx := B.exec
  have hb := B.bytes
  have hr := B.returns
  have hts := atoms_spec (ws := wm_X3_textIs) B.pre
  have htb := fun (w : Cond) (h : w ∈ tb) => hts w (List.mem_cons_of_mem _ h)
  have hown : s.vm.findClass RX3 = some m.cls := findClass_of_methodNamed B.named
  have hlocks := B.notSynchronized
  subst hsz
  have hD := hD0.self (sz := s.heap.size)
  generalize hAe : va_A (cW ad cid a2 lx sg gm lg) s.heap.size = A at hD hG ⊢
  have hA : ∀ q : Nat, s.heap.size ≤ q → A q := fun q h => by rw [← hAe]; exact Or.inr h
  have hS : va_S A s.heap s.heap [] := va_S.rf
  have hl := lv_entry ([eV (ad 9) x, eV (ad 37) tx]) (n := 3) (by rw [show (lg_sl ([eV (ad 9) x, eV (ad 37) tx])).length = 2 from by simp [lg_sl, eV_cat, cat_i, cat_l]]; exact Nat.le_of_ble_eq_true rfl)
  rw [lg_entry_eq]
  generalize (lg_sl ([eV (ad 9) x, eV (ad 37) tx]) ++ List.replicate (3 - (lg_sl ([eV (ad 9) x, eV (ad 37) tx])).length) Slot.unset).toArray = ls at hl ⊢
  have hl : lv_has ls 3 [(0, eV (ad 9) x), (1, eV (ad 37) tx)] := by simp [lv_args, eV_cat, cat_i, cat_l] at hl; exact hl
  have hj15 : ∀ (n : Nat) (x2_15 : Int32) (_ : (24 - x2_15.toInt).toNat = n) (_ : iv 0 24 x2_15) (_ : iv 0 79 x) (_ : iv 0 6 tx) (_ : (gm 11 x.toNatClampNeg).toInt = ((sByt.getD tx.toNatClampNeg []).length : Int)) (_ : ∀ i, i < x2_15.toNatClampNeg → (C9[i]?).getD 0 = sChr tx.toNatClampNeg i) (H : Heap) (locs : List Loc) (ls : Array Slot), va_P (dC, dI) vwCl (cW ad cid a2 lx sg gm lg) H → va_D A (cW ad cid a2 lx sg gm lg) → va_S A s.heap H locs → lv_has ls 3 [(2, .int x2_15), (0, eV (ad 9) x), (1, eV (ad 37) tx)] → W p l e (headSpec wm_X3_textIs ({ frames := 4, cells := 1, slots := 6, locals := 90 })).room s m ([eV (ad 9) x, eV (ad 37) tx] : List Value).toArray below meth c H locs 0 0 (vx_MQ below (cQx dC dI ad cid a2 lx (fun v u => ∃ r : Int32, v = some (.int r) ∧ u = (sg, gm, lg) ∧ (iv 0 1 r) ∧ ((r.toInt = 1 ∧ C9 = sLs tx.toNatClampNeg) ∨ (r.toInt = 0 ∧ ¬ C9 = sLs tx.toNatClampNeg))) A) (cX dC dI ad cid a2 lx (fun _ _ => False) A) ([eV (ad 9) x, eV (ad 37) tx] : List Value).toArray s 1 6 A) (F0 m 15 ls []) := by
    intro n
    induction n using Nat.strongRecOn with
    | ind n ih15 =>
      intro x2_15 hn15 hx2_15 hsx0_15 hsx1_15 hsl hal H locs ls hP hD hS hl
      refine lv_iload_n hx hb dX3_textIs_15 rfl (lv_at hl 0 rfl) ?_
      refine ec_aload_n hx hb dX3_textIs_16 rfl (lv_at hl 1 rfl) ?_
      refine cr_get (t := 9) (j := 1) (C := RX3) (T := TX3) (N := 21) (v := .int (gm 11 x.toNatClampNeg)) hx hb htb inX3 hown hK hP hsx0_15 (by decide) (by decide) (by decide) rfl (by decide) (htb _ kw_231) rfl dX3_textIs_17 ?_
      obtain ⟨z_1, ez_1⟩ : ∃ z : Int32, z = (gm 11 x.toNatClampNeg) := ⟨_, rfl⟩
      refine W.eq (g2 := F0 m 20 ls [.int z_1, .int x2_15]) (by rw [ez_1]) ?_
      have hz_1 : iv 0 24 z_1 := iv_of ez_1 (CI_a hI 11 hsx0_15 (by decide))
      refine lv_icmp_ge (tgt := 45) hx hb dX3_textIs_20 (by decide) (fun c_2 => ?_) (fun c_2 => ?_)
      · have d_3 : (z_1 : Int32).toInt ≤ (x2_15 : Int32).toInt := Int32.le_iff_toInt_le.mp c_2
        refine lv_iconst (v := 1) hx hb dX3_textIs_45 (by decide) ?_
        exact W.nb (fun hN => W.widen (k := 1) (n := 6) (by decide) (by decide) (vx_ret (W.zret (v := 1) hx hb hr (iv_nb (iv_w (iv_k (by decide) : iv 1 1 1) (by decide))) (fun t ht hW => ⟨⟨some (.int 1), (sg, gm, lg), rfl, ⟨1, rfl, rfl, (iv_w (iv_k (by decide) : iv 1 1 1) (by decide)), (Or.inl ⟨rfl, sLs_e (by have := hC.1; have := hsl; omega) (fun i hi => hal i (by have := hC.1; have := congrArg Int32.toInt ez_1; have q1 : x2_15.toNatClampNeg = x2_15.toInt.toNat := rfl; have := i32_0; have := i32_1; have := i32_2; have := i32_m1; have := (hsx0_15).1; have := (hsx0_15).2; have := (hsx1_15).1; have := (hsx1_15).2; have := (hx2_15).1; have := (hx2_15).2; have := (hz_1).1; have := (hz_1).2; omega))⟩)⟩, by rw [ht]; exact hP, va_K.moved hW.alike hK, hD⟩, hS.F ht, by rw [ht]; exact hN⟩) hS.2.2 dX3_textIs_46)))
      · have d_4 : (x2_15 : Int32).toInt < (z_1 : Int32).toInt := Int32.lt_iff_toInt_lt.mp (i32_lt c_2)
        have h_5 : iv 0 23 x2_15 := iv_ltL (i32_lt c_2) hx2_15 hz_1 (by decide)
        have h_6 : iv 1 24 z_1 := iv_ltR (i32_lt c_2) hx2_15 hz_1 (by decide)
        refine ec_aload_n hx hb dX3_textIs_23 rfl (lv_at hl 1 rfl) ?_
        refine cr_get (t := 9) (j := 0) (C := RX3) (T := TX3) (N := 21) (v := eV (ad 31) x) hx hb htb inX3 hown hK hP hsx0_15 (by decide) (by decide) (by decide) rfl (by decide) (htb _ kw_228) (cV_c rfl (hsx0_15).1 (by rw [show cMu 9 0 = 1 from rfl, Nat.one_mul]; rfl)) dX3_textIs_24 ?_
        refine lv_iload_n hx hb dX3_textIs_27 rfl (lv_at hl 0 rfl) ?_
        refine cr_cald (t := 31) (z := (gm 56 (24 * x.toNatClampNeg + (x2_15 : Int32).toNatClampNeg))) hx hb hK hP hsx0_15 (by decide) (by decide) (by decide) rfl rfl (show vp_in x2_15 (cLen 31) from (show vp_in x2_15 24 from (iv_in h_5 (by decide)))) (cAi_w rfl (by decide) rfl (vin_lt (show vp_in x2_15 (cLen 31) from (show vp_in x2_15 24 from (iv_in h_5 (by decide)))))) dX3_textIs_28 ?_
        obtain ⟨z_7, ez_7⟩ : ∃ z : Int32, z = (gm 56 (24 * x.toNatClampNeg + (x2_15 : Int32).toNatClampNeg)) := ⟨_, rfl⟩
        refine W.eq (g2 := F0 m 29 ls [.int z_7]) (by rw [ez_7]) ?_
        have hz_7 : iv 0 65535 z_7 := iv_of ez_7 (CI_n hI 56 (show _ < crLen 56 from vin_w (show vp_in x2_15 (cLen 31) from (show vp_in x2_15 24 from (iv_in h_5 (by decide)))) (hsx0_15) (by decide)))
        refine ec_aload_n hx hb dX3_textIs_29 rfl (lv_at hl 2 rfl) ?_
        refine lv_iload_n hx hb dX3_textIs_30 rfl (lv_at hl 0 rfl) ?_
        have := congrArg Int32.toInt ez_1
        refine cw_schr2 ⟨hx, hb, hml, hown, htb⟩ kw_795 hsx1_15 (h_5).1 (by rw [← hsl]; have := i32_0; have := i32_1; have := i32_2; have := i32_m1; have := (hsx0_15).1; have := (hsx0_15).2; have := (hsx1_15).1; have := (hsx1_15).2; have := (h_5).1; have := (h_5).2; have := (h_6).1; have := (h_6).2; have := (hz_7).1; have := (hz_7).2; omega) hl.1 (Nat.le_trans (cs_c (cat_i _) cs_n) (by decide)) dX3_textIs_31 ⟨Nat.le_of_ble_eq_true rfl, Nat.le_of_ble_eq_true rfl⟩ ⟨Nat.le_of_ble_eq_true rfl, Nat.le_of_ble_eq_true rfl⟩ hP hS hA hG (fun r_8 H locs hsc_r_8 hP hS => ?_)
        have hr_8 : iv 0 65535 r_8 := by rw [show iv 0 65535 r_8 = (0 ≤ r_8.toInt ∧ r_8.toInt ≤ 65535) from rfl, hsc_r_8]; have := sChr_r tx.toNatClampNeg x2_15.toInt.toNat; omega
        refine lv_icmp_eq (tgt := 39) hx hb dX3_textIs_34 (by decide) (fun c_9 => ?_) (fun c_9 => ?_)
        · have d_10 : (z_7 : Int32).toInt = (r_8 : Int32).toInt := congrArg Int32.toInt c_9
          obtain ⟨z_11, ez_11⟩ : ∃ z : Int32, z = x2_15 + 1 := ⟨_, rfl⟩
          have hz_11 : iv 1 24 z_11 := iv_of ez_11 (iv_add h_5 (iv_k (by decide) : iv 1 1 1) (by decide))
          have tz_11 : z_11.toInt = x2_15.toInt + 1 := by rw [ez_11]; exact iv_addE h_5 (iv_k (by decide) : iv 1 1 1) (by decide)
          refine lv_iinc (v := z_11) (lv' := [(2, .int z_11), (0, eV (ad 9) x), (1, eV (ad 37) tx)]) hx hb dX3_textIs_39 hl (k := 0) rfl ez_11.symm (by decide) (by simp [List.filter, eV_cat, cat_i, cat_l]) (fun ls hl => ?_)
          refine lv_goto (tgt := 15) hx hb dX3_textIs_42 (by decide) ?_
          exact ih15 _ (by rw [← hn15]; exact (iv_meas tz_11 h_5 (by decide))) z_11 rfl (iv_w hz_11 (by decide)) hsx0_15 hsx1_15 (hsl) ((fun i hi => (show i < x2_15.toNatClampNeg ∨ i = x2_15.toNatClampNeg from (by have q1 : z_11.toNatClampNeg = z_11.toInt.toNat := rfl; have q1 : x2_15.toNatClampNeg = x2_15.toInt.toNat := rfl; have := i32_0; have := i32_1; have := i32_2; have := i32_m1; have := (hsx0_15).1; have := (hsx0_15).2; have := (hsx1_15).1; have := (hsx1_15).2; have := (h_5).1; have := (h_5).2; have := (h_6).1; have := (h_6).2; have := (hz_7).1; have := (hz_7).2; have := (hr_8).1; have := (hr_8).2; have := (hz_11).1; have := (hz_11).2; omega)).elim (fun q => hal i q) (fun q => by rw [q, ← CTX_g hC (by have := hC.1; have := congrArg Int32.toInt ez_1; have q1 : x2_15.toNatClampNeg = x2_15.toInt.toNat := rfl; have := i32_0; have := i32_1; have := i32_2; have := i32_m1; have := (hsx0_15).1; have := (hsx0_15).2; have := (hsx1_15).1; have := (hsx1_15).2; have := (h_5).1; have := (h_5).2; have := (h_6).1; have := (h_6).2; have := (hz_7).1; have := (hz_7).2; have := (hr_8).1; have := (hr_8).2; have := (hz_11).1; have := (hz_11).2; omega) ez_7, show x2_15.toNatClampNeg = x2_15.toInt.toNat from rfl, ← hsc_r_8]; have := i32_0; have := i32_1; have := i32_2; have := i32_m1; have := (hsx0_15).1; have := (hsx0_15).2; have := (hsx1_15).1; have := (hsx1_15).2; have := (h_5).1; have := (h_5).2; have := (h_6).1; have := (h_6).2; have := (hz_7).1; have := (hz_7).2; have := (hr_8).1; have := (hr_8).2; have := (hz_11).1; have := (hz_11).2; omega))) _ _ _ hP hD hS (lv_sub hl [0, 1, 2] rfl)
        · refine lv_iconst (v := 0) hx hb dX3_textIs_37 (by decide) ?_
          exact W.nb (fun hN => W.widen (k := 1) (n := 6) (by decide) (by decide) (vx_ret (W.zret (v := 0) hx hb hr (iv_nb (iv_w (iv_k (by decide) : iv 0 0 0) (by decide))) (fun t ht hW => ⟨⟨some (.int 0), (sg, gm, lg), rfl, ⟨0, rfl, rfl, (iv_w (iv_k (by decide) : iv 0 0 0) (by decide)), (Or.inr ⟨rfl, fun q => absurd (show z_7.toInt = sChr tx.toNatClampNeg x2_15.toInt.toNat from (by rw [CTX_g hC (by have := hC.1; have := congrArg Int32.toInt ez_1; have q1 : x2_15.toNatClampNeg = x2_15.toInt.toNat := rfl; have := i32_0; have := i32_1; have := i32_2; have := i32_m1; have := (hsx0_15).1; have := (hsx0_15).2; have := (hsx1_15).1; have := (hsx1_15).2; have := (h_5).1; have := (h_5).2; have := (h_6).1; have := (h_6).2; have := (hz_7).1; have := (hz_7).2; have := (hr_8).1; have := (hr_8).2; omega) ez_7, q, sLs_g (by have := hC.1; have := hsl; have q7 := (show x2_15.toNatClampNeg < C9.length from (by have := hC.1; have := congrArg Int32.toInt ez_1; have q1 : x2_15.toNatClampNeg = x2_15.toInt.toNat := rfl; have := i32_0; have := i32_1; have := i32_2; have := i32_m1; have := (hsx0_15).1; have := (hsx0_15).2; have := (hsx1_15).1; have := (hsx1_15).2; have := (h_5).1; have := (h_5).2; have := (h_6).1; have := (h_6).2; have := (hz_7).1; have := (hz_7).2; have := (hr_8).1; have := (hr_8).2; omega)); omega)]; rfl)) (by rw [← hsc_r_8]; exact fun q7 => c_9 (Int32.toInt_inj.mp q7))⟩)⟩, by rw [ht]; exact hP, va_K.moved hW.alike hK, hD⟩, hS.F ht, by rw [ht]; exact hN⟩) hS.2.2 dX3_textIs_38)))
  refine ec_aload_n hx hb dX3_textIs_0 rfl (lv_at hl 0 rfl) ?_
  refine cr_get (t := 9) (j := 1) (C := RX3) (T := TX3) (N := 21) (v := .int (gm 11 x.toNatClampNeg)) hx hb htb inX3 hown hK hP hvx (by decide) (by decide) (by decide) rfl (by decide) (htb _ kw_231) rfl dX3_textIs_1 ?_
  obtain ⟨z_12, ez_12⟩ : ∃ z : Int32, z = (gm 11 x.toNatClampNeg) := ⟨_, rfl⟩
  refine W.eq (g2 := F0 m 4 ls [.int z_12]) (by rw [ez_12]) ?_
  have hz_12 : iv 0 24 z_12 := iv_of ez_12 (CI_a hI 11 hvx (by decide))
  refine ec_aload_n hx hb dX3_textIs_4 rfl (lv_at hl 1 rfl) ?_
  refine cw_slen ⟨hx, hb, hml, hown, htb⟩ kw_794 hvtx hl.1 (Nat.le_trans (cs_c (cat_i _) cs_n) (by decide)) dX3_textIs_5 ⟨Nat.le_of_ble_eq_true rfl, Nat.le_of_ble_eq_true rfl⟩ ⟨Nat.le_of_ble_eq_true rfl, Nat.le_of_ble_eq_true rfl⟩ hP hS hA hG (fun H locs hP hS => ?_)
  refine lv_topi (fun z_13 ez_13 => ?_)
  obtain ⟨lz_13, hz_13⟩ := slen_iv hvtx ez_13
  refine lv_icmp_eq (tgt := 13) hx hb dX3_textIs_8 (by decide) (fun c_14 => ?_) (fun c_14 => ?_)
  · have d_15 : (z_12 : Int32).toInt = (z_13 : Int32).toInt := congrArg Int32.toInt c_14
    have h_16 : iv 2 5 z_12 := iv_eq c_14 hz_12 hz_13 (by decide)
    refine lv_iconst (v := 0) hx hb dX3_textIs_13 (by decide) ?_
    refine lv_istore_n (i := 2) (lv' := [(2, .int 0), (0, eV (ad 9) x), (1, eV (ad 37) tx)]) hx hb dX3_textIs_14 rfl hl (by decide) (by simp [List.filter, eV_cat, cat_i, cat_l]) (fun ls hl => ?_)
    exact hj15 _ 0 rfl (iv_w (iv_k (by decide) : iv 0 0 0) (by decide)) hvx hvtx ((by rw [← ez_12]; have := lz_13; have := i32_0; have := i32_1; have := i32_2; have := i32_m1; have := (hvx).1; have := (hvx).2; have := (hvtx).1; have := (hvtx).2; have := (h_16).1; have := (h_16).2; have := (hz_13).1; have := (hz_13).2; omega)) ((fun i hi => absurd hi (Nat.not_lt_zero _))) _ _ _ hP hD hS (lv_sub hl [0, 1, 2] rfl)
  · refine lv_iconst (v := 0) hx hb dX3_textIs_11 (by decide) ?_
    exact W.nb (fun hN => W.widen (k := 1) (n := 6) (by decide) (by decide) (vx_ret (W.zret (v := 0) hx hb hr (iv_nb (iv_w (iv_k (by decide) : iv 0 0 0) (by decide))) (fun t ht hW => ⟨⟨some (.int 0), (sg, gm, lg), rfl, ⟨0, rfl, rfl, (iv_w (iv_k (by decide) : iv 0 0 0) (by decide)), (Or.inr ⟨rfl, fun q => absurd (congrArg List.length q) (by rw [sLs_l]; intro q8; exact c_14 (Int32.toInt_inj.mp (by have := hC.1; have := congrArg Int32.toInt ez_12; have := lz_13; have := i32_0; have := i32_1; have := i32_2; have := i32_m1; have := (hvx).1; have := (hvx).2; have := (hvtx).1; have := (hvtx).2; have := (hz_12).1; have := (hz_12).2; have := (hz_13).1; have := (hz_13).2; omega)))⟩)⟩, by rw [ht]; exact hP, va_K.moved hW.alike hK, hD⟩, hS.F ht, by rw [ht]; exact hN⟩) hS.2.2 dX3_textIs_12)))
end
section
set_option maxHeartbeats 4000000 in
set_option maxRecDepth 100000 in
theorem d_textAsNumber9 (l : Launch) (dC : Nat → ClassId) (dI : Nat → Nat → Nat) (ad : Nat → Nat → Nat) (cid : Nat → ClassId) (a2 : Nat → Nat) (lx : List Nat) (sg : Nat → Int32) (gm : Nat → Nat → Int32) (lg : Nat → Nat → Int64) (x : Int32) (C9 : List Int) (hI : CI sg gm) (hvx : iv 0 79 x) (hC : CTX gm x.toNatClampNeg C9) : CMt dC dI ad cid a2 lx l yX3_textAsNumber wm_X3_textAsNumber ({ frames := 0, cells := 1, slots := 6, locals := 0 }) [eV (ad 9) x] sg gm lg (fun v u => ∃ r : Int64, v = some (.long r) ∧ u = (sg, gm, lg) ∧ (r.toInt = (nuL C9).getD 1099511627776)) (fun _ _ => False) := by
  intro sz
  refine vx_ofW (cc := cX3_textAsNumber) (maxL := 7) (ret := (some .long)) (by decide) rfl ?_
  intro p e s m args below meth c s₁ B hml hxt hv
  obtain ⟨rfl, hsz, hP, hK, hD0, hG⟩ := hv
  have hx := B.exec
  have hb := B.bytes
  have hr := B.returns
  have hts := atoms_spec (ws := wm_X3_textAsNumber) B.pre
  have htb := fun (w : Cond) (h : w ∈ tb) => hts w (List.mem_cons_of_mem _ h)
  have hown : s.vm.findClass RX3 = some m.cls := findClass_of_methodNamed B.named
  have hlocks := B.notSynchronized
  subst hsz
  have hD := hD0.self (sz := s.heap.size)
  generalize hAe : va_A (cW ad cid a2 lx sg gm lg) s.heap.size = A at hD hG ⊢
  have hA : ∀ q : Nat, s.heap.size ≤ q → A q := fun q h => by rw [← hAe]; exact Or.inr h
  have hS : va_S A s.heap s.heap [] := va_S.rf
  have hl := lv_entry ([eV (ad 9) x]) (n := 7) (by rw [show (lg_sl ([eV (ad 9) x])).length = 1 from by simp [lg_sl, eV_cat, cat_i, cat_l]]; exact Nat.le_of_ble_eq_true rfl)
  rw [lg_entry_eq]
  generalize (lg_sl ([eV (ad 9) x]) ++ List.replicate (7 - (lg_sl ([eV (ad 9) x])).length) Slot.unset).toArray = ls at hl ⊢
  have hl : lv_has ls 7 [(0, eV (ad 9) x)] := by simp [lv_args, eV_cat, cat_i, cat_l] at hl; exact hl
  have hj51 : ∀ (n : Nat) (x5_51 : Int32) (x3_51 : Int64) (x2_51 : Int32) (x1_51 : Int32) (_ : (24 - x5_51.toInt).toNat = n) (_ : iv 0 24 x5_51) (_ : iv 1 10 x2_51) (_ : iv 0 1 x1_51) (_ : iv 0 79 x) (_ : x1_51.toInt = (fr9 C9 : Int)) (_ : DG9 C9 x5_51.toNatClampNeg x3_51.toInt) (H : Heap) (locs : List Loc) (ls : Array Slot), va_P (dC, dI) vwCl (cW ad cid a2 lx sg gm lg) H → va_D A (cW ad cid a2 lx sg gm lg) → va_S A s.heap H locs → lv_has ls 7 [(5, .int x5_51), (3, .long x3_51), (2, .int x2_51), (1, .int x1_51), (0, eV (ad 9) x)] → W p l e (headSpec wm_X3_textAsNumber ({ frames := 0, cells := 1, slots := 6, locals := 0 })).room s m ([eV (ad 9) x] : List Value).toArray below meth c H locs 0 0 (vx_MQ below (cQx dC dI ad cid a2 lx (fun v u => ∃ r : Int64, v = some (.long r) ∧ u = (sg, gm, lg) ∧ (r.toInt = (nuL C9).getD 1099511627776)) A) (cX dC dI ad cid a2 lx (fun _ _ => False) A) ([eV (ad 9) x] : List Value).toArray s 1 6 A) (F0 m 51 ls []) := by
    intro n
    induction n using Nat.strongRecOn with
    | ind n ih51 =>
      intro x5_51 x3_51 x2_51 x1_51 hn51 hx5_51 hx2_51 hx1_51 hsx0_51 hF hDg H locs ls hP hD hS hl
      refine lv_iload hx hb dX3_textAsNumber_51 (lv_at hl 0 rfl) ?_
      refine ec_aload_n hx hb dX3_textAsNumber_53 rfl (lv_at hl 4 rfl) ?_
      refine cr_get (t := 9) (j := 1) (C := RX3) (T := TX3) (N := 21) (v := .int (gm 11 x.toNatClampNeg)) hx hb htb inX3 hown hK hP hsx0_51 (by decide) (by decide) (by decide) rfl (by decide) (htb _ kw_231) rfl dX3_textAsNumber_54 ?_
      obtain ⟨z_1, ez_1⟩ : ∃ z : Int32, z = (gm 11 x.toNatClampNeg) := ⟨_, rfl⟩
      refine W.eq (g2 := F0 m 57 ls [.int z_1, .int x5_51]) (by rw [ez_1]) ?_
      have hz_1 : iv 0 24 z_1 := iv_of ez_1 (CI_a hI 11 hsx0_51 (by decide))
      refine lv_icmp_ge (tgt := 112) hx hb dX3_textAsNumber_57 (by decide) (fun c_2 => ?_) (fun c_2 => ?_)
      · have d_3 : (z_1 : Int32).toInt ≤ (x5_51 : Int32).toInt := Int32.le_iff_toInt_le.mp c_2
        refine lv_iload_n hx hb dX3_textAsNumber_112 rfl (lv_at hl 3 rfl) ?_
        refine lv_iconst (v := 1) hx hb dX3_textAsNumber_113 (by decide) ?_
        refine lv_icmp_ne (tgt := 122) hx hb dX3_textAsNumber_114 (by decide) (fun c_4 => ?_) (fun c_4 => ?_)
        · have h_5 : iv 0 0 x1_51 := iv_neH c_4 hx1_51 (by decide)
          refine lv_lload_n hx hb dX3_textAsNumber_122 rfl (lv_at hl 1 rfl) ?_
          refine lv_lstore (i := 5) (lv' := [(5, .long x3_51), (3, .long x3_51), (2, .int x2_51), (1, .int x1_51), (0, eV (ad 9) x)]) hx hb dX3_textAsNumber_123 hl (by decide) rfl (fun ls hl => ?_)
          refine lv_lload hx hb dX3_textAsNumber_125 (lv_at hl 0 rfl) ?_
          refine lv_lload hx hb dX3_textAsNumber_127 (lv_at hl 0 rfl) ?_
          refine lv_l2i (v := (x3_51).toInt32) hx hb dX3_textAsNumber_129 rfl ?_
          refine lv_topi (fun z_6 ez_6 => ?_)
          refine lv_i2l (v := (z_6 : Int32).toInt64) hx hb dX3_textAsNumber_130 rfl ?_
          refine lv_topl (fun z_7 ez_7 => ?_)
          refine W.lcmp hx hb dX3_textAsNumber_131 ?_
          refine lv_topi (fun z_8 ez_8 => ?_)
          have hz_8 : iv (-1) 1 z_8 := iv_of ez_8 (iv_cmp _ _)
          refine lv_if_ne (tgt := 140) hx hb dX3_textAsNumber_132 (by decide) (fun c_9 => ?_) (fun c_9 => ?_)
          · have d_10 : ¬ (z_8 : Int32).toInt = 0 := lv_neT c_9 rfl
            refine lv_ldc2 (own := RX3) (v := 1099511627776) hx hb hown (htb _ kw_578) dX3_textAsNumber_140 ?_
            exact W.nb (fun hN => W.widen (k := 1) (n := 6) (by decide) (by decide) (vx_ret (W.lret (v := 1099511627776) hx hb hr (fun t ht hW => ⟨⟨some (.long 1099511627776), (sg, gm, lg), rfl, ⟨1099511627776, rfl, rfl, (((nu_p hDg (by have q1 : x5_51.toNatClampNeg = x5_51.toInt.toNat := rfl; have := hC.1; have := hC.2.1; have := congrArg Int32.toInt ez_1; have := i32_0; have := i32_1; have := i32_2; have := i32_m1; have := (hsx0_51).1; have := (hsx0_51).2; have := (hx5_51).1; have := (hx5_51).2; have := (hx2_51).1; have := (hx2_51).2; have := (h_5).1; have := (h_5).2; have := (hz_1).1; have := (hz_1).2; have := (hz_8).1; have := (hz_8).2; omega) (by have := hF; have := i32_0; have := i32_1; have := i32_2; have := i32_m1; have := (hsx0_51).1; have := (hsx0_51).2; have := (hx5_51).1; have := (hx5_51).2; have := (hx2_51).1; have := (hx2_51).2; have := (h_5).1; have := (h_5).2; have := (hz_1).1; have := (hz_1).2; have := (hz_8).1; have := (hz_8).2; omega) rfl ez_6 ez_7 ez_8).2 (by have := i32_0; have := i32_1; have := i32_2; have := i32_m1; have := (hsx0_51).1; have := (hsx0_51).2; have := (hx5_51).1; have := (hx5_51).2; have := (hx2_51).1; have := (hx2_51).2; have := (h_5).1; have := (h_5).2; have := (hz_1).1; have := (hz_1).2; have := (hz_8).1; have := (hz_8).2; omega)))⟩, by rw [ht]; exact hP, va_K.moved hW.alike hK, hD⟩, hS.F ht, by rw [ht]; exact hN⟩) hS.2.2 dX3_textAsNumber_143)))
          · have h_11 : iv 0 0 z_8 := iv_eq c_9 hz_8 (iv_k (by decide) : iv 0 0 0) (by decide)
            refine lv_lload hx hb dX3_textAsNumber_135 (lv_at hl 0 rfl) ?_
            refine lv_goto (tgt := 143) hx hb dX3_textAsNumber_137 (by decide) ?_
            exact W.nb (fun hN => W.widen (k := 1) (n := 6) (by decide) (by decide) (vx_ret (W.lret (v := x3_51) hx hb hr (fun t ht hW => ⟨⟨some (.long x3_51), (sg, gm, lg), rfl, ⟨x3_51, rfl, rfl, (((nu_p hDg (by have q1 : x5_51.toNatClampNeg = x5_51.toInt.toNat := rfl; have := hC.1; have := hC.2.1; have := congrArg Int32.toInt ez_1; have := i32_0; have := i32_1; have := i32_2; have := i32_m1; have := (hsx0_51).1; have := (hsx0_51).2; have := (hx5_51).1; have := (hx5_51).2; have := (hx2_51).1; have := (hx2_51).2; have := (h_5).1; have := (h_5).2; have := (hz_1).1; have := (hz_1).2; have := (h_11).1; have := (h_11).2; omega) (by have := hF; have := i32_0; have := i32_1; have := i32_2; have := i32_m1; have := (hsx0_51).1; have := (hsx0_51).2; have := (hx5_51).1; have := (hx5_51).2; have := (hx2_51).1; have := (hx2_51).2; have := (h_5).1; have := (h_5).2; have := (hz_1).1; have := (hz_1).2; have := (h_11).1; have := (h_11).2; omega) rfl ez_6 ez_7 ez_8).1 (by have := i32_0; have := i32_1; have := i32_2; have := i32_m1; have := (hsx0_51).1; have := (hsx0_51).2; have := (hx5_51).1; have := (hx5_51).2; have := (hx2_51).1; have := (hx2_51).2; have := (h_5).1; have := (h_5).2; have := (hz_1).1; have := (hz_1).2; have := (h_11).1; have := (h_11).2; omega)))⟩, by rw [ht]; exact hP, va_K.moved hW.alike hK, hD⟩, hS.F ht, by rw [ht]; exact hN⟩) hS.2.2 dX3_textAsNumber_143)))
        · have h_12 : iv 1 1 x1_51 := iv_eq c_4 hx1_51 (iv_k (by decide) : iv 1 1 1) (by decide)
          refine lv_lload_n hx hb dX3_textAsNumber_117 rfl (lv_at hl 1 rfl) ?_
          refine lv_lneg hx hb dX3_textAsNumber_118 ?_
          refine lv_topl (fun z_13 ez_13 => ?_)
          refine lv_goto (tgt := 123) hx hb dX3_textAsNumber_119 (by decide) ?_
          refine lv_lstore (i := 5) (lv' := [(5, .long z_13), (3, .long x3_51), (2, .int x2_51), (1, .int x1_51), (0, eV (ad 9) x)]) hx hb dX3_textAsNumber_123 hl (by decide) rfl (fun ls hl => ?_)
          refine lv_lload hx hb dX3_textAsNumber_125 (lv_at hl 0 rfl) ?_
          refine lv_lload hx hb dX3_textAsNumber_127 (lv_at hl 0 rfl) ?_
          refine lv_l2i (v := (z_13).toInt32) hx hb dX3_textAsNumber_129 rfl ?_
          refine lv_topi (fun z_14 ez_14 => ?_)
          refine lv_i2l (v := (z_14 : Int32).toInt64) hx hb dX3_textAsNumber_130 rfl ?_
          refine lv_topl (fun z_15 ez_15 => ?_)
          refine W.lcmp hx hb dX3_textAsNumber_131 ?_
          refine lv_topi (fun z_16 ez_16 => ?_)
          have hz_16 : iv (-1) 1 z_16 := iv_of ez_16 (iv_cmp _ _)
          refine lv_if_ne (tgt := 140) hx hb dX3_textAsNumber_132 (by decide) (fun c_17 => ?_) (fun c_17 => ?_)
          · have d_18 : ¬ (z_16 : Int32).toInt = 0 := lv_neT c_17 rfl
            refine lv_ldc2 (own := RX3) (v := 1099511627776) hx hb hown (htb _ kw_578) dX3_textAsNumber_140 ?_
            exact W.nb (fun hN => W.widen (k := 1) (n := 6) (by decide) (by decide) (vx_ret (W.lret (v := 1099511627776) hx hb hr (fun t ht hW => ⟨⟨some (.long 1099511627776), (sg, gm, lg), rfl, ⟨1099511627776, rfl, rfl, (((nu_m hDg (by have q1 : x5_51.toNatClampNeg = x5_51.toInt.toNat := rfl; have := hC.1; have := hC.2.1; have := congrArg Int32.toInt ez_1; have := i32_0; have := i32_1; have := i32_2; have := i32_m1; have := (hsx0_51).1; have := (hsx0_51).2; have := (hx5_51).1; have := (hx5_51).2; have := (hx2_51).1; have := (hx2_51).2; have := (h_12).1; have := (h_12).2; have := (hz_1).1; have := (hz_1).2; have := (hz_16).1; have := (hz_16).2; omega) (by have := hF; have := i32_0; have := i32_1; have := i32_2; have := i32_m1; have := (hsx0_51).1; have := (hsx0_51).2; have := (hx5_51).1; have := (hx5_51).2; have := (hx2_51).1; have := (hx2_51).2; have := (h_12).1; have := (h_12).2; have := (hz_1).1; have := (hz_1).2; have := (hz_16).1; have := (hz_16).2; omega) ez_13 ez_14 ez_15 ez_16).2 (by have := i32_0; have := i32_1; have := i32_2; have := i32_m1; have := (hsx0_51).1; have := (hsx0_51).2; have := (hx5_51).1; have := (hx5_51).2; have := (hx2_51).1; have := (hx2_51).2; have := (h_12).1; have := (h_12).2; have := (hz_1).1; have := (hz_1).2; have := (hz_16).1; have := (hz_16).2; omega)))⟩, by rw [ht]; exact hP, va_K.moved hW.alike hK, hD⟩, hS.F ht, by rw [ht]; exact hN⟩) hS.2.2 dX3_textAsNumber_143)))
          · have h_19 : iv 0 0 z_16 := iv_eq c_17 hz_16 (iv_k (by decide) : iv 0 0 0) (by decide)
            refine lv_lload hx hb dX3_textAsNumber_135 (lv_at hl 0 rfl) ?_
            refine lv_goto (tgt := 143) hx hb dX3_textAsNumber_137 (by decide) ?_
            exact W.nb (fun hN => W.widen (k := 1) (n := 6) (by decide) (by decide) (vx_ret (W.lret (v := z_13) hx hb hr (fun t ht hW => ⟨⟨some (.long z_13), (sg, gm, lg), rfl, ⟨z_13, rfl, rfl, (((nu_m hDg (by have q1 : x5_51.toNatClampNeg = x5_51.toInt.toNat := rfl; have := hC.1; have := hC.2.1; have := congrArg Int32.toInt ez_1; have := i32_0; have := i32_1; have := i32_2; have := i32_m1; have := (hsx0_51).1; have := (hsx0_51).2; have := (hx5_51).1; have := (hx5_51).2; have := (hx2_51).1; have := (hx2_51).2; have := (h_12).1; have := (h_12).2; have := (hz_1).1; have := (hz_1).2; have := (h_19).1; have := (h_19).2; omega) (by have := hF; have := i32_0; have := i32_1; have := i32_2; have := i32_m1; have := (hsx0_51).1; have := (hsx0_51).2; have := (hx5_51).1; have := (hx5_51).2; have := (hx2_51).1; have := (hx2_51).2; have := (h_12).1; have := (h_12).2; have := (hz_1).1; have := (hz_1).2; have := (h_19).1; have := (h_19).2; omega) ez_13 ez_14 ez_15 ez_16).1 (by have := i32_0; have := i32_1; have := i32_2; have := i32_m1; have := (hsx0_51).1; have := (hsx0_51).2; have := (hx5_51).1; have := (hx5_51).2; have := (hx2_51).1; have := (hx2_51).2; have := (h_12).1; have := (h_12).2; have := (hz_1).1; have := (hz_1).2; have := (h_19).1; have := (h_19).2; omega)))⟩, by rw [ht]; exact hP, va_K.moved hW.alike hK, hD⟩, hS.F ht, by rw [ht]; exact hN⟩) hS.2.2 dX3_textAsNumber_143)))
      · have d_20 : (x5_51 : Int32).toInt < (z_1 : Int32).toInt := Int32.lt_iff_toInt_lt.mp (i32_lt c_2)
        have h_21 : iv 0 23 x5_51 := iv_ltL (i32_lt c_2) hx5_51 hz_1 (by decide)
        have h_22 : iv 1 24 z_1 := iv_ltR (i32_lt c_2) hx5_51 hz_1 (by decide)
        refine ec_aload_n hx hb dX3_textAsNumber_60 rfl (lv_at hl 4 rfl) ?_
        refine cr_get (t := 9) (j := 0) (C := RX3) (T := TX3) (N := 21) (v := eV (ad 31) x) hx hb htb inX3 hown hK hP hsx0_51 (by decide) (by decide) (by decide) rfl (by decide) (htb _ kw_228) (cV_c rfl (hsx0_51).1 (by rw [show cMu 9 0 = 1 from rfl, Nat.one_mul]; rfl)) dX3_textAsNumber_61 ?_
        refine lv_iload hx hb dX3_textAsNumber_64 (lv_at hl 0 rfl) ?_
        refine cr_cald (t := 31) (z := (gm 56 (24 * x.toNatClampNeg + (x5_51 : Int32).toNatClampNeg))) hx hb hK hP hsx0_51 (by decide) (by decide) (by decide) rfl rfl (show vp_in x5_51 (cLen 31) from (show vp_in x5_51 24 from (iv_in h_21 (by decide)))) (cAi_w rfl (by decide) rfl (vin_lt (show vp_in x5_51 (cLen 31) from (show vp_in x5_51 24 from (iv_in h_21 (by decide)))))) dX3_textAsNumber_66 ?_
        obtain ⟨z_23, ez_23⟩ : ∃ z : Int32, z = (gm 56 (24 * x.toNatClampNeg + (x5_51 : Int32).toNatClampNeg)) := ⟨_, rfl⟩
        refine W.eq (g2 := F0 m 67 ls [.int z_23]) (by rw [ez_23]) ?_
        have hz_23 : iv 0 65535 z_23 := iv_of ez_23 (CI_n hI 56 (show _ < crLen 56 from vin_w (show vp_in x5_51 (cLen 31) from (show vp_in x5_51 24 from (iv_in h_21 (by decide)))) (hsx0_51) (by decide)))
        refine lv_bipush (v := 48) hx hb dX3_textAsNumber_67 (by decide) ?_
        refine lv_icmp_lt (tgt := 84) hx hb dX3_textAsNumber_69 (by decide) (fun c_24 => ?_) (fun c_24 => ?_)
        · have h_25 : iv 0 47 z_23 := iv_ltL c_24 hz_23 (iv_k (by decide) : iv 48 48 48) (by decide)
          refine lv_ldc2 (own := RX3) (v := 1099511627776) hx hb hown (htb _ kw_578) dX3_textAsNumber_84 ?_
          exact W.nb (fun hN => W.widen (k := 1) (n := 6) (by decide) (by decide) (vx_ret (W.lret (v := 1099511627776) hx hb hr (fun t ht hW => ⟨⟨some (.long 1099511627776), (sg, gm, lg), rfl, ⟨1099511627776, rfl, rfl, ((by have q9 := CTX_g hC (by have q1 : x5_51.toNatClampNeg = x5_51.toInt.toNat := rfl; have := hC.1; have := hC.2.1; have := congrArg Int32.toInt ez_1; have := i32_0; have := i32_1; have := i32_2; have := i32_m1; have := (hsx0_51).1; have := (hsx0_51).2; have := (h_21).1; have := (h_21).2; have := (hx2_51).1; have := (hx2_51).2; have := (hx1_51).1; have := (hx1_51).2; have := (h_22).1; have := (h_22).2; have := (h_25).1; have := (h_25).2; omega) ez_23; exact nu_0 (DG_x hDg (by have q1 : x5_51.toNatClampNeg = x5_51.toInt.toNat := rfl; have := hC.1; have := hC.2.1; have := congrArg Int32.toInt ez_1; have := i32_0; have := i32_1; have := i32_2; have := i32_m1; have := (hsx0_51).1; have := (hsx0_51).2; have := (h_21).1; have := (h_21).2; have := (hx2_51).1; have := (hx2_51).2; have := (hx1_51).1; have := (hx1_51).2; have := (h_22).1; have := (h_22).2; have := (h_25).1; have := (h_25).2; omega) (by rw [← q9]; have := i32_0; have := i32_1; have := i32_2; have := i32_m1; have := (hsx0_51).1; have := (hsx0_51).2; have := (h_21).1; have := (h_21).2; have := (hx2_51).1; have := (hx2_51).2; have := (hx1_51).1; have := (hx1_51).2; have := (h_22).1; have := (h_22).2; have := (h_25).1; have := (h_25).2; omega))))⟩, by rw [ht]; exact hP, va_K.moved hW.alike hK, hD⟩, hS.F ht, by rw [ht]; exact hN⟩) hS.2.2 dX3_textAsNumber_87)))
        · have h_26 : iv 48 65535 z_23 := iv_leR (i32_ge c_24) (iv_k (by decide) : iv 48 48 48) hz_23 (by decide)
          refine ec_aload_n hx hb dX3_textAsNumber_72 rfl (lv_at hl 4 rfl) ?_
          refine cr_get (t := 9) (j := 0) (C := RX3) (T := TX3) (N := 21) (v := eV (ad 31) x) hx hb htb inX3 hown hK hP hsx0_51 (by decide) (by decide) (by decide) rfl (by decide) (htb _ kw_228) (cV_c rfl (hsx0_51).1 (by rw [show cMu 9 0 = 1 from rfl, Nat.one_mul]; rfl)) dX3_textAsNumber_73 ?_
          refine lv_iload hx hb dX3_textAsNumber_76 (lv_at hl 0 rfl) ?_
          refine cr_cald (t := 31) (z := (gm 56 (24 * x.toNatClampNeg + (x5_51 : Int32).toNatClampNeg))) hx hb hK hP hsx0_51 (by decide) (by decide) (by decide) rfl rfl (show vp_in x5_51 (cLen 31) from (show vp_in x5_51 24 from (iv_in h_21 (by decide)))) (cAi_w rfl (by decide) rfl (vin_lt (show vp_in x5_51 (cLen 31) from (show vp_in x5_51 24 from (iv_in h_21 (by decide)))))) dX3_textAsNumber_78 ?_
          refine W.eq (g2 := F0 m 79 ls [.int z_23]) (by rw [show (gm 56 (24 * x.toNatClampNeg + (x5_51 : Int32).toNatClampNeg)) = z_23 from ez_23.symm]) ?_
          refine lv_bipush (v := 57) hx hb dX3_textAsNumber_79 (by decide) ?_
          refine lv_icmp_le (tgt := 88) hx hb dX3_textAsNumber_81 (by decide) (fun c_27 => ?_) (fun c_27 => ?_)
          · have h_28 : iv 48 57 z_23 := iv_leL c_27 h_26 (iv_k (by decide) : iv 57 57 57) (by decide)
            refine lv_lload_n hx hb dX3_textAsNumber_88 rfl (lv_at hl 1 rfl) ?_
            refine lv_ldc2 (own := RX3) (v := 10) hx hb hown (htb _ kw_791) dX3_textAsNumber_89 ?_
            refine lv_lmul hx hb dX3_textAsNumber_92 ?_
            refine lv_topl (fun z_29 ez_29 => ?_)
            refine ec_aload_n hx hb dX3_textAsNumber_93 rfl (lv_at hl 4 rfl) ?_
            refine cr_get (t := 9) (j := 0) (C := RX3) (T := TX3) (N := 21) (v := eV (ad 31) x) hx hb htb inX3 hown hK hP hsx0_51 (by decide) (by decide) (by decide) rfl (by decide) (htb _ kw_228) (cV_c rfl (hsx0_51).1 (by rw [show cMu 9 0 = 1 from rfl, Nat.one_mul]; rfl)) dX3_textAsNumber_94 ?_
            refine lv_iload hx hb dX3_textAsNumber_97 (lv_at hl 0 rfl) ?_
            refine cr_cald (t := 31) (z := (gm 56 (24 * x.toNatClampNeg + (x5_51 : Int32).toNatClampNeg))) hx hb hK hP hsx0_51 (by decide) (by decide) (by decide) rfl rfl (show vp_in x5_51 (cLen 31) from (show vp_in x5_51 24 from (iv_in h_21 (by decide)))) (cAi_w rfl (by decide) rfl (vin_lt (show vp_in x5_51 (cLen 31) from (show vp_in x5_51 24 from (iv_in h_21 (by decide)))))) dX3_textAsNumber_99 ?_
            refine W.eq (g2 := F0 m 100 ls [.int z_23, .long z_29]) (by rw [show (gm 56 (24 * x.toNatClampNeg + (x5_51 : Int32).toNatClampNeg)) = z_23 from ez_23.symm]) ?_
            refine lv_bipush (v := 48) hx hb dX3_textAsNumber_100 (by decide) ?_
            refine lv_isub hx hb dX3_textAsNumber_102 ?_
            refine lv_topi (fun z_30 ez_30 => ?_)
            have hz_30 : iv 0 9 z_30 := iv_of ez_30 (iv_sub h_28 (iv_k (by decide) : iv 48 48 48) (by decide))
            have tz_30 : z_30.toInt = (z_23 : Int32).toInt - 48 := by rw [ez_30]; exact iv_subE h_28 (iv_k (by decide) : iv 48 48 48) (by decide)
            refine lv_i2l (v := (z_30 : Int32).toInt64) hx hb dX3_textAsNumber_103 rfl ?_
            refine lv_topl (fun z_31 ez_31 => ?_)
            refine lv_ladd hx hb dX3_textAsNumber_104 ?_
            refine lv_topl (fun z_32 ez_32 => ?_)
            refine lv_lstore_n (i := 3) (lv' := [(3, .long z_32), (5, .int x5_51), (2, .int x2_51), (1, .int x1_51), (0, eV (ad 9) x)]) hx hb dX3_textAsNumber_105 rfl hl (by decide) rfl (fun ls hl => ?_)
            obtain ⟨z_33, ez_33⟩ : ∃ z : Int32, z = x5_51 + 1 := ⟨_, rfl⟩
            have hz_33 : iv 1 24 z_33 := iv_of ez_33 (iv_add h_21 (iv_k (by decide) : iv 1 1 1) (by decide))
            have tz_33 : z_33.toInt = x5_51.toInt + 1 := by rw [ez_33]; exact iv_addE h_21 (iv_k (by decide) : iv 1 1 1) (by decide)
            refine lv_iinc (v := z_33) (lv' := [(5, .int z_33), (3, .long z_32), (2, .int x2_51), (1, .int x1_51), (0, eV (ad 9) x)]) hx hb dX3_textAsNumber_106 hl (k := 1) rfl ez_33.symm (by decide) rfl (fun ls hl => ?_)
            refine lv_goto (tgt := 51) hx hb dX3_textAsNumber_109 (by decide) ?_
            exact ih51 _ (by rw [← hn51]; exact (iv_meas tz_33 h_21 (by decide))) z_33 z_32 x2_51 x1_51 rfl (iv_w hz_33 (by decide)) hx2_51 hx1_51 hsx0_51 (hF) ((by have q9 := CTX_g hC (by have q1 : x5_51.toNatClampNeg = x5_51.toInt.toNat := rfl; have := hC.1; have := hC.2.1; have := congrArg Int32.toInt ez_1; have := i32_0; have := i32_1; have := i32_2; have := i32_m1; have := (hsx0_51).1; have := (hsx0_51).2; have := (h_21).1; have := (h_21).2; have := (hx2_51).1; have := (hx2_51).2; have := (hx1_51).1; have := (hx1_51).2; have := (h_22).1; have := (h_22).2; have := (h_28).1; have := (h_28).2; have := (hz_30).1; have := (hz_30).2; have := (hz_33).1; have := (hz_33).2; omega) ez_23; have dg := DG_s hDg (by have q1 : x5_51.toNatClampNeg = x5_51.toInt.toNat := rfl; have := hC.1; have := hC.2.1; have := congrArg Int32.toInt ez_1; have := i32_0; have := i32_1; have := i32_2; have := i32_m1; have := (hsx0_51).1; have := (hsx0_51).2; have := (h_21).1; have := (h_21).2; have := (hx2_51).1; have := (hx2_51).2; have := (hx1_51).1; have := (hx1_51).2; have := (h_22).1; have := (h_22).2; have := (h_28).1; have := (h_28).2; have := (hz_30).1; have := (hz_30).2; have := (hz_33).1; have := (hz_33).2; omega) (by rw [← q9]; constructor <;> (have := i32_0; have := i32_1; have := i32_2; have := i32_m1; have := (hsx0_51).1; have := (hsx0_51).2; have := (h_21).1; have := (h_21).2; have := (hx2_51).1; have := (hx2_51).2; have := (hx1_51).1; have := (hx1_51).2; have := (h_22).1; have := (h_22).2; have := (h_28).1; have := (h_28).2; have := (hz_30).1; have := (hz_30).2; have := (hz_33).1; have := (hz_33).2; omega)); have e9 := num_c ez_29 ez_31 ez_32 hDg.2.2.2.2.2.1 (by have := DG_b hDg; omega) (by constructor <;> (have := i32_0; have := i32_1; have := i32_2; have := i32_m1; have := (hsx0_51).1; have := (hsx0_51).2; have := (h_21).1; have := (h_21).2; have := (hx2_51).1; have := (hx2_51).2; have := (hx1_51).1; have := (hx1_51).2; have := (h_22).1; have := (h_22).2; have := (h_28).1; have := (h_28).2; have := (hz_30).1; have := (hz_30).2; have := (hz_33).1; have := (hz_33).2; omega)); rw [show z_33.toNatClampNeg = x5_51.toNatClampNeg + 1 from (by have q1 : z_33.toNatClampNeg = z_33.toInt.toNat := rfl; have q1 : x5_51.toNatClampNeg = x5_51.toInt.toNat := rfl; have := i32_0; have := i32_1; have := i32_2; have := i32_m1; have := (hsx0_51).1; have := (hsx0_51).2; have := (h_21).1; have := (h_21).2; have := (hx2_51).1; have := (hx2_51).2; have := (hx1_51).1; have := (hx1_51).2; have := (h_22).1; have := (h_22).2; have := (h_28).1; have := (h_28).2; have := (hz_30).1; have := (hz_30).2; have := (hz_33).1; have := (hz_33).2; omega), e9, show z_30.toInt = (C9[x5_51.toNatClampNeg]?).getD 0 - 48 from (by rw [← q9]; exact tz_30)]; exact dg)) _ _ _ hP hD hS (lv_sub hl [0, 1, 2, 3, 4] rfl)
          · have h_34 : iv 58 65535 z_23 := iv_ltR (i32_lt c_27) (iv_k (by decide) : iv 57 57 57) h_26 (by decide)
            refine lv_ldc2 (own := RX3) (v := 1099511627776) hx hb hown (htb _ kw_578) dX3_textAsNumber_84 ?_
            exact W.nb (fun hN => W.widen (k := 1) (n := 6) (by decide) (by decide) (vx_ret (W.lret (v := 1099511627776) hx hb hr (fun t ht hW => ⟨⟨some (.long 1099511627776), (sg, gm, lg), rfl, ⟨1099511627776, rfl, rfl, ((by have q9 := CTX_g hC (by have q1 : x5_51.toNatClampNeg = x5_51.toInt.toNat := rfl; have := hC.1; have := hC.2.1; have := congrArg Int32.toInt ez_1; have := i32_0; have := i32_1; have := i32_2; have := i32_m1; have := (hsx0_51).1; have := (hsx0_51).2; have := (h_21).1; have := (h_21).2; have := (hx2_51).1; have := (hx2_51).2; have := (hx1_51).1; have := (hx1_51).2; have := (h_22).1; have := (h_22).2; have := (h_34).1; have := (h_34).2; omega) ez_23; exact nu_0 (DG_x hDg (by have q1 : x5_51.toNatClampNeg = x5_51.toInt.toNat := rfl; have := hC.1; have := hC.2.1; have := congrArg Int32.toInt ez_1; have := i32_0; have := i32_1; have := i32_2; have := i32_m1; have := (hsx0_51).1; have := (hsx0_51).2; have := (h_21).1; have := (h_21).2; have := (hx2_51).1; have := (hx2_51).2; have := (hx1_51).1; have := (hx1_51).2; have := (h_22).1; have := (h_22).2; have := (h_34).1; have := (h_34).2; omega) (by rw [← q9]; have := i32_0; have := i32_1; have := i32_2; have := i32_m1; have := (hsx0_51).1; have := (hsx0_51).2; have := (h_21).1; have := (h_21).2; have := (hx2_51).1; have := (hx2_51).2; have := (hx1_51).1; have := (hx1_51).2; have := (h_22).1; have := (h_22).2; have := (h_34).1; have := (h_34).2; omega))))⟩, by rw [ht]; exact hP, va_K.moved hW.alike hK, hD⟩, hS.F ht, by rw [ht]; exact hN⟩) hS.2.2 dX3_textAsNumber_87)))
  refine ec_aload_n hx hb dX3_textAsNumber_0 rfl (lv_at hl 0 rfl) ?_
  refine cr_get (t := 9) (j := 1) (C := RX3) (T := TX3) (N := 21) (v := .int (gm 11 x.toNatClampNeg)) hx hb htb inX3 hown hK hP hvx (by decide) (by decide) (by decide) rfl (by decide) (htb _ kw_231) rfl dX3_textAsNumber_1 ?_
  obtain ⟨z_35, ez_35⟩ : ∃ z : Int32, z = (gm 11 x.toNatClampNeg) := ⟨_, rfl⟩
  refine W.eq (g2 := F0 m 4 ls [.int z_35]) (by rw [ez_35]) ?_
  have hz_35 : iv 0 24 z_35 := iv_of ez_35 (CI_a hI 11 hvx (by decide))
  refine lv_if_le (tgt := 22) hx hb dX3_textAsNumber_4 (by decide) (fun c_36 => ?_) (fun c_36 => ?_)
  · have h_37 : iv 0 0 z_35 := iv_leL c_36 hz_35 (iv_k (by decide) : iv 0 0 0) (by decide)
    refine lv_iconst (v := 0) hx hb dX3_textAsNumber_22 (by decide) ?_
    refine lv_istore_n (i := 1) (lv' := [(1, .int 0), (0, eV (ad 9) x)]) hx hb dX3_textAsNumber_23 rfl hl (by decide) (by simp [List.filter, eV_cat, cat_i, cat_l]) (fun ls hl => ?_)
    refine ec_aload_n hx hb dX3_textAsNumber_24 rfl (lv_at hl 1 rfl) ?_
    refine cr_get (t := 9) (j := 1) (C := RX3) (T := TX3) (N := 21) (v := .int (gm 11 x.toNatClampNeg)) hx hb htb inX3 hown hK hP hvx (by decide) (by decide) (by decide) rfl (by decide) (htb _ kw_231) rfl dX3_textAsNumber_25 ?_
    refine W.eq (g2 := F0 m 28 ls [.int z_35]) (by rw [show (gm 11 x.toNatClampNeg) = z_35 from ez_35.symm]) ?_
    refine lv_iload_n hx hb dX3_textAsNumber_28 rfl (lv_at hl 0 rfl) ?_
    refine lv_isub hx hb dX3_textAsNumber_29 ?_
    refine lv_topi (fun z_38 ez_38 => ?_)
    have hz_38 : iv 0 0 z_38 := iv_of ez_38 (iv_sub h_37 (iv_k (by decide) : iv 0 0 0) (by decide))
    have tz_38 : z_38.toInt = (z_35 : Int32).toInt - 0 := by rw [ez_38]; exact iv_subE h_37 (iv_k (by decide) : iv 0 0 0) (by decide)
    refine lv_istore_n (i := 2) (lv' := [(2, .int z_38), (1, .int 0), (0, eV (ad 9) x)]) hx hb dX3_textAsNumber_30 rfl hl (by decide) rfl (fun ls hl => ?_)
    refine lv_iload_n hx hb dX3_textAsNumber_31 rfl (lv_at hl 0 rfl) ?_
    refine lv_iconst (v := 1) hx hb dX3_textAsNumber_32 (by decide) ?_
    refine lv_icmp_lt (tgt := 42) hx hb dX3_textAsNumber_33 (by decide) (fun c_39 => ?_) (fun c_39 => ?_)
    · refine lv_ldc2 (own := RX3) (v := 1099511627776) hx hb hown (htb _ kw_578) dX3_textAsNumber_42 ?_
      exact W.nb (fun hN => W.widen (k := 1) (n := 6) (by decide) (by decide) (vx_ret (W.lret (v := 1099511627776) hx hb hr (fun t ht hW => ⟨⟨some (.long 1099511627776), (sg, gm, lg), rfl, ⟨1099511627776, rfl, rfl, (nu_0 (nuL_len (by rw [(frd_0 (fun q => absurd q.2 (by have := hC.1; have := hC.2.1; have := congrArg Int32.toInt ez_35; have := i32_0; have := i32_1; have := i32_2; have := i32_m1; have := (hvx).1; have := (hvx).2; have := (h_37).1; have := (h_37).2; have := (hz_38).1; have := (hz_38).2; omega)))]; have := hC.1; have := hC.2.1; have := congrArg Int32.toInt ez_35; have := i32_0; have := i32_1; have := i32_2; have := i32_m1; have := (hvx).1; have := (hvx).2; have := (h_37).1; have := (h_37).2; have := (hz_38).1; have := (hz_38).2; omega)))⟩, by rw [ht]; exact hP, va_K.moved hW.alike hK, hD⟩, hS.F ht, by rw [ht]; exact hN⟩) hS.2.2 dX3_textAsNumber_45)))
    · have h_40 : iv 1 0 z_38 := iv_leR (i32_ge c_39) (iv_k (by decide) : iv 1 1 1) hz_38 (by decide)
      exact (iv_no h_40 (by decide)).elim
  · have h_41 : iv 1 24 z_35 := iv_ltR (i32_lt c_36) (iv_k (by decide) : iv 0 0 0) hz_35 (by decide)
    refine ec_aload_n hx hb dX3_textAsNumber_7 rfl (lv_at hl 0 rfl) ?_
    refine cr_get (t := 9) (j := 0) (C := RX3) (T := TX3) (N := 21) (v := eV (ad 31) x) hx hb htb inX3 hown hK hP hvx (by decide) (by decide) (by decide) rfl (by decide) (htb _ kw_228) (cV_c rfl (hvx).1 (by rw [show cMu 9 0 = 1 from rfl, Nat.one_mul]; rfl)) dX3_textAsNumber_8 ?_
    refine lv_iconst (v := 0) hx hb dX3_textAsNumber_11 (by decide) ?_
    refine cr_cald (t := 31) (z := (gm 56 (24 * x.toNatClampNeg + (0 : Int32).toNatClampNeg))) hx hb hK hP hvx (by decide) (by decide) (by decide) rfl rfl (show vp_in 0 (cLen 31) from (show vp_in 0 24 from (iv_in (iv_k (by decide) : iv 0 0 0) (by decide)))) (cAi_w rfl (by decide) rfl (vin_lt (show vp_in 0 (cLen 31) from (show vp_in 0 24 from (iv_in (iv_k (by decide) : iv 0 0 0) (by decide)))))) dX3_textAsNumber_12 ?_
    obtain ⟨z_42, ez_42⟩ : ∃ z : Int32, z = (gm 56 (24 * x.toNatClampNeg + (0 : Int32).toNatClampNeg)) := ⟨_, rfl⟩
    refine W.eq (g2 := F0 m 13 ls [.int z_42]) (by rw [ez_42]) ?_
    have hz_42 : iv 0 65535 z_42 := iv_of ez_42 (CI_n hI 56 (show _ < crLen 56 from vin_w (show vp_in 0 (cLen 31) from (show vp_in 0 24 from (iv_in (iv_k (by decide) : iv 0 0 0) (by decide)))) (hvx) (by decide)))
    refine lv_bipush (v := 45) hx hb dX3_textAsNumber_13 (by decide) ?_
    refine lv_icmp_ne (tgt := 22) hx hb dX3_textAsNumber_15 (by decide) (fun c_43 => ?_) (fun c_43 => ?_)
    · have d_44 : ¬ (z_42 : Int32).toInt = 45 := lv_neT c_43 rfl
      refine lv_iconst (v := 0) hx hb dX3_textAsNumber_22 (by decide) ?_
      refine lv_istore_n (i := 1) (lv' := [(1, .int 0), (0, eV (ad 9) x)]) hx hb dX3_textAsNumber_23 rfl hl (by decide) (by simp [List.filter, eV_cat, cat_i, cat_l]) (fun ls hl => ?_)
      refine ec_aload_n hx hb dX3_textAsNumber_24 rfl (lv_at hl 1 rfl) ?_
      refine cr_get (t := 9) (j := 1) (C := RX3) (T := TX3) (N := 21) (v := .int (gm 11 x.toNatClampNeg)) hx hb htb inX3 hown hK hP hvx (by decide) (by decide) (by decide) rfl (by decide) (htb _ kw_231) rfl dX3_textAsNumber_25 ?_
      refine W.eq (g2 := F0 m 28 ls [.int z_35]) (by rw [show (gm 11 x.toNatClampNeg) = z_35 from ez_35.symm]) ?_
      refine lv_iload_n hx hb dX3_textAsNumber_28 rfl (lv_at hl 0 rfl) ?_
      refine lv_isub hx hb dX3_textAsNumber_29 ?_
      refine lv_topi (fun z_45 ez_45 => ?_)
      have hz_45 : iv 1 24 z_45 := iv_of ez_45 (iv_sub h_41 (iv_k (by decide) : iv 0 0 0) (by decide))
      have tz_45 : z_45.toInt = (z_35 : Int32).toInt - 0 := by rw [ez_45]; exact iv_subE h_41 (iv_k (by decide) : iv 0 0 0) (by decide)
      refine lv_istore_n (i := 2) (lv' := [(2, .int z_45), (1, .int 0), (0, eV (ad 9) x)]) hx hb dX3_textAsNumber_30 rfl hl (by decide) rfl (fun ls hl => ?_)
      refine lv_iload_n hx hb dX3_textAsNumber_31 rfl (lv_at hl 0 rfl) ?_
      refine lv_iconst (v := 1) hx hb dX3_textAsNumber_32 (by decide) ?_
      refine lv_icmp_lt (tgt := 42) hx hb dX3_textAsNumber_33 (by decide) (fun c_46 => ?_) (fun c_46 => ?_)
      · have h_47 : iv 1 0 z_45 := iv_ltL c_46 hz_45 (iv_k (by decide) : iv 1 1 1) (by decide)
        exact (iv_no h_47 (by decide)).elim
      · refine lv_iload_n hx hb dX3_textAsNumber_36 rfl (lv_at hl 0 rfl) ?_
        refine lv_bipush (v := 10) hx hb dX3_textAsNumber_37 (by decide) ?_
        refine lv_icmp_le (tgt := 46) hx hb dX3_textAsNumber_39 (by decide) (fun c_48 => ?_) (fun c_48 => ?_)
        · have h_49 : iv 1 10 z_45 := iv_leL c_48 hz_45 (iv_k (by decide) : iv 10 10 10) (by decide)
          refine lv_lconst (v := 0) hx hb dX3_textAsNumber_46 (by decide) ?_
          refine lv_lstore_n (i := 3) (lv' := [(3, .long 0), (2, .int z_45), (1, .int 0), (0, eV (ad 9) x)]) hx hb dX3_textAsNumber_47 rfl hl (by decide) rfl (fun ls hl => ?_)
          refine lv_iload_n hx hb dX3_textAsNumber_48 rfl (lv_at hl 2 rfl) ?_
          refine lv_istore (i := 5) (lv' := [(5, .int 0), (3, .long 0), (2, .int z_45), (1, .int 0), (0, eV (ad 9) x)]) hx hb dX3_textAsNumber_49 hl (by decide) rfl (fun ls hl => ?_)
          exact hj51 _ 0 0 z_45 0 rfl (iv_w (iv_k (by decide) : iv 0 0 0) (by decide)) h_49 (iv_w (iv_k (by decide) : iv 0 0 0) (by decide)) hvx ((by rw [(frd_0 (fun q => absurd q.1 (by rw [← CTX_g (i := 0) hC q.2 ez_42]; have := i32_0; have := i32_1; have := i32_2; have := i32_m1; have := (hvx).1; have := (hvx).2; have := (h_41).1; have := (h_41).2; have := (hz_42).1; have := (hz_42).2; have := (h_49).1; have := (h_49).2; omega)))]; rfl)) ((DG_i rfl (by rw [(frd_0 (fun q => absurd q.1 (by rw [← CTX_g (i := 0) hC q.2 ez_42]; have := i32_0; have := i32_1; have := i32_2; have := i32_m1; have := (hvx).1; have := (hvx).2; have := (h_41).1; have := (h_41).2; have := (hz_42).1; have := (hz_42).2; have := (h_49).1; have := (h_49).2; omega)))]; have := hC.1; have := hC.2.1; have := congrArg Int32.toInt ez_35; have := i32_0; have := i32_1; have := i32_2; have := i32_m1; have := (hvx).1; have := (hvx).2; have := (h_41).1; have := (h_41).2; have := (hz_42).1; have := (hz_42).2; have := (h_49).1; have := (h_49).2; omega) (by rw [(frd_0 (fun q => absurd q.1 (by rw [← CTX_g (i := 0) hC q.2 ez_42]; have := i32_0; have := i32_1; have := i32_2; have := i32_m1; have := (hvx).1; have := (hvx).2; have := (h_41).1; have := (h_41).2; have := (hz_42).1; have := (hz_42).2; have := (h_49).1; have := (h_49).2; omega)))]; have := hC.1; have := hC.2.1; have := congrArg Int32.toInt ez_35; have := i32_0; have := i32_1; have := i32_2; have := i32_m1; have := (hvx).1; have := (hvx).2; have := (h_41).1; have := (h_41).2; have := (hz_42).1; have := (hz_42).2; have := (h_49).1; have := (h_49).2; omega) (by rw [(frd_0 (fun q => absurd q.1 (by rw [← CTX_g (i := 0) hC q.2 ez_42]; have := i32_0; have := i32_1; have := i32_2; have := i32_m1; have := (hvx).1; have := (hvx).2; have := (h_41).1; have := (h_41).2; have := (hz_42).1; have := (hz_42).2; have := (h_49).1; have := (h_49).2; omega)))]; rfl) (by decide))) _ _ _ hP hD hS (lv_sub hl [0, 1, 2, 3, 4] rfl)
        · have h_50 : iv 11 24 z_45 := iv_ltR (i32_lt c_48) (iv_k (by decide) : iv 10 10 10) hz_45 (by decide)
          refine lv_ldc2 (own := RX3) (v := 1099511627776) hx hb hown (htb _ kw_578) dX3_textAsNumber_42 ?_
          exact W.nb (fun hN => W.widen (k := 1) (n := 6) (by decide) (by decide) (vx_ret (W.lret (v := 1099511627776) hx hb hr (fun t ht hW => ⟨⟨some (.long 1099511627776), (sg, gm, lg), rfl, ⟨1099511627776, rfl, rfl, (nu_0 (nuL_len (by rw [(frd_0 (fun q => absurd q.1 (by rw [← CTX_g (i := 0) hC q.2 ez_42]; have := i32_0; have := i32_1; have := i32_2; have := i32_m1; have := (hvx).1; have := (hvx).2; have := (h_41).1; have := (h_41).2; have := (hz_42).1; have := (hz_42).2; have := (h_50).1; have := (h_50).2; omega)))]; have := hC.1; have := hC.2.1; have := congrArg Int32.toInt ez_35; have := i32_0; have := i32_1; have := i32_2; have := i32_m1; have := (hvx).1; have := (hvx).2; have := (h_41).1; have := (h_41).2; have := (hz_42).1; have := (hz_42).2; have := (h_50).1; have := (h_50).2; omega)))⟩, by rw [ht]; exact hP, va_K.moved hW.alike hK, hD⟩, hS.F ht, by rw [ht]; exact hN⟩) hS.2.2 dX3_textAsNumber_45)))
    · have h_51 : iv 45 45 z_42 := iv_eq c_43 hz_42 (iv_k (by decide) : iv 45 45 45) (by decide)
      refine lv_iconst (v := 1) hx hb dX3_textAsNumber_18 (by decide) ?_
      refine lv_goto (tgt := 23) hx hb dX3_textAsNumber_19 (by decide) ?_
      refine lv_istore_n (i := 1) (lv' := [(1, .int 1), (0, eV (ad 9) x)]) hx hb dX3_textAsNumber_23 rfl hl (by decide) (by simp [List.filter, eV_cat, cat_i, cat_l]) (fun ls hl => ?_)
      refine ec_aload_n hx hb dX3_textAsNumber_24 rfl (lv_at hl 1 rfl) ?_
      refine cr_get (t := 9) (j := 1) (C := RX3) (T := TX3) (N := 21) (v := .int (gm 11 x.toNatClampNeg)) hx hb htb inX3 hown hK hP hvx (by decide) (by decide) (by decide) rfl (by decide) (htb _ kw_231) rfl dX3_textAsNumber_25 ?_
      refine W.eq (g2 := F0 m 28 ls [.int z_35]) (by rw [show (gm 11 x.toNatClampNeg) = z_35 from ez_35.symm]) ?_
      refine lv_iload_n hx hb dX3_textAsNumber_28 rfl (lv_at hl 0 rfl) ?_
      refine lv_isub hx hb dX3_textAsNumber_29 ?_
      refine lv_topi (fun z_52 ez_52 => ?_)
      have hz_52 : iv 0 23 z_52 := iv_of ez_52 (iv_sub h_41 (iv_k (by decide) : iv 1 1 1) (by decide))
      have tz_52 : z_52.toInt = (z_35 : Int32).toInt - 1 := by rw [ez_52]; exact iv_subE h_41 (iv_k (by decide) : iv 1 1 1) (by decide)
      refine lv_istore_n (i := 2) (lv' := [(2, .int z_52), (1, .int 1), (0, eV (ad 9) x)]) hx hb dX3_textAsNumber_30 rfl hl (by decide) rfl (fun ls hl => ?_)
      refine lv_iload_n hx hb dX3_textAsNumber_31 rfl (lv_at hl 0 rfl) ?_
      refine lv_iconst (v := 1) hx hb dX3_textAsNumber_32 (by decide) ?_
      refine lv_icmp_lt (tgt := 42) hx hb dX3_textAsNumber_33 (by decide) (fun c_53 => ?_) (fun c_53 => ?_)
      · have h_54 : iv 0 0 z_52 := iv_ltL c_53 hz_52 (iv_k (by decide) : iv 1 1 1) (by decide)
        refine lv_ldc2 (own := RX3) (v := 1099511627776) hx hb hown (htb _ kw_578) dX3_textAsNumber_42 ?_
        exact W.nb (fun hN => W.widen (k := 1) (n := 6) (by decide) (by decide) (vx_ret (W.lret (v := 1099511627776) hx hb hr (fun t ht hW => ⟨⟨some (.long 1099511627776), (sg, gm, lg), rfl, ⟨1099511627776, rfl, rfl, (nu_0 (nuL_len (by rw [(frd_1 (by rw [← CTX_g (i := 0) hC (by have := hC.1; have := hC.2.1; have := congrArg Int32.toInt ez_35; have := i32_0; have := i32_1; have := i32_2; have := i32_m1; have := (hvx).1; have := (hvx).2; have := (h_41).1; have := (h_41).2; have := (h_51).1; have := (h_51).2; have := (h_54).1; have := (h_54).2; omega) ez_42]; have := i32_0; have := i32_1; have := i32_2; have := i32_m1; have := (hvx).1; have := (hvx).2; have := (h_41).1; have := (h_41).2; have := (h_51).1; have := (h_51).2; have := (h_54).1; have := (h_54).2; omega) (by have := hC.1; have := hC.2.1; have := congrArg Int32.toInt ez_35; have := i32_0; have := i32_1; have := i32_2; have := i32_m1; have := (hvx).1; have := (hvx).2; have := (h_41).1; have := (h_41).2; have := (h_51).1; have := (h_51).2; have := (h_54).1; have := (h_54).2; omega))]; have := hC.1; have := hC.2.1; have := congrArg Int32.toInt ez_35; have := i32_0; have := i32_1; have := i32_2; have := i32_m1; have := (hvx).1; have := (hvx).2; have := (h_41).1; have := (h_41).2; have := (h_51).1; have := (h_51).2; have := (h_54).1; have := (h_54).2; omega)))⟩, by rw [ht]; exact hP, va_K.moved hW.alike hK, hD⟩, hS.F ht, by rw [ht]; exact hN⟩) hS.2.2 dX3_textAsNumber_45)))
      · have h_55 : iv 1 23 z_52 := iv_leR (i32_ge c_53) (iv_k (by decide) : iv 1 1 1) hz_52 (by decide)
        refine lv_iload_n hx hb dX3_textAsNumber_36 rfl (lv_at hl 0 rfl) ?_
        refine lv_bipush (v := 10) hx hb dX3_textAsNumber_37 (by decide) ?_
        refine lv_icmp_le (tgt := 46) hx hb dX3_textAsNumber_39 (by decide) (fun c_56 => ?_) (fun c_56 => ?_)
        · have h_57 : iv 1 10 z_52 := iv_leL c_56 h_55 (iv_k (by decide) : iv 10 10 10) (by decide)
          refine lv_lconst (v := 0) hx hb dX3_textAsNumber_46 (by decide) ?_
          refine lv_lstore_n (i := 3) (lv' := [(3, .long 0), (2, .int z_52), (1, .int 1), (0, eV (ad 9) x)]) hx hb dX3_textAsNumber_47 rfl hl (by decide) rfl (fun ls hl => ?_)
          refine lv_iload_n hx hb dX3_textAsNumber_48 rfl (lv_at hl 2 rfl) ?_
          refine lv_istore (i := 5) (lv' := [(5, .int 1), (3, .long 0), (2, .int z_52), (1, .int 1), (0, eV (ad 9) x)]) hx hb dX3_textAsNumber_49 hl (by decide) rfl (fun ls hl => ?_)
          exact hj51 _ 1 0 z_52 1 rfl (iv_w (iv_k (by decide) : iv 1 1 1) (by decide)) h_57 (iv_w (iv_k (by decide) : iv 1 1 1) (by decide)) hvx ((by rw [(frd_1 (by rw [← CTX_g (i := 0) hC (by have := hC.1; have := hC.2.1; have := congrArg Int32.toInt ez_35; have := i32_0; have := i32_1; have := i32_2; have := i32_m1; have := (hvx).1; have := (hvx).2; have := (h_41).1; have := (h_41).2; have := (h_51).1; have := (h_51).2; have := (h_57).1; have := (h_57).2; omega) ez_42]; have := i32_0; have := i32_1; have := i32_2; have := i32_m1; have := (hvx).1; have := (hvx).2; have := (h_41).1; have := (h_41).2; have := (h_51).1; have := (h_51).2; have := (h_57).1; have := (h_57).2; omega) (by have := hC.1; have := hC.2.1; have := congrArg Int32.toInt ez_35; have := i32_0; have := i32_1; have := i32_2; have := i32_m1; have := (hvx).1; have := (hvx).2; have := (h_41).1; have := (h_41).2; have := (h_51).1; have := (h_51).2; have := (h_57).1; have := (h_57).2; omega))]; rfl)) ((DG_i rfl (by rw [(frd_1 (by rw [← CTX_g (i := 0) hC (by have := hC.1; have := hC.2.1; have := congrArg Int32.toInt ez_35; have := i32_0; have := i32_1; have := i32_2; have := i32_m1; have := (hvx).1; have := (hvx).2; have := (h_41).1; have := (h_41).2; have := (h_51).1; have := (h_51).2; have := (h_57).1; have := (h_57).2; omega) ez_42]; have := i32_0; have := i32_1; have := i32_2; have := i32_m1; have := (hvx).1; have := (hvx).2; have := (h_41).1; have := (h_41).2; have := (h_51).1; have := (h_51).2; have := (h_57).1; have := (h_57).2; omega) (by have := hC.1; have := hC.2.1; have := congrArg Int32.toInt ez_35; have := i32_0; have := i32_1; have := i32_2; have := i32_m1; have := (hvx).1; have := (hvx).2; have := (h_41).1; have := (h_41).2; have := (h_51).1; have := (h_51).2; have := (h_57).1; have := (h_57).2; omega))]; have := hC.1; have := hC.2.1; have := congrArg Int32.toInt ez_35; have := i32_0; have := i32_1; have := i32_2; have := i32_m1; have := (hvx).1; have := (hvx).2; have := (h_41).1; have := (h_41).2; have := (h_51).1; have := (h_51).2; have := (h_57).1; have := (h_57).2; omega) (by rw [(frd_1 (by rw [← CTX_g (i := 0) hC (by have := hC.1; have := hC.2.1; have := congrArg Int32.toInt ez_35; have := i32_0; have := i32_1; have := i32_2; have := i32_m1; have := (hvx).1; have := (hvx).2; have := (h_41).1; have := (h_41).2; have := (h_51).1; have := (h_51).2; have := (h_57).1; have := (h_57).2; omega) ez_42]; have := i32_0; have := i32_1; have := i32_2; have := i32_m1; have := (hvx).1; have := (hvx).2; have := (h_41).1; have := (h_41).2; have := (h_51).1; have := (h_51).2; have := (h_57).1; have := (h_57).2; omega) (by have := hC.1; have := hC.2.1; have := congrArg Int32.toInt ez_35; have := i32_0; have := i32_1; have := i32_2; have := i32_m1; have := (hvx).1; have := (hvx).2; have := (h_41).1; have := (h_41).2; have := (h_51).1; have := (h_51).2; have := (h_57).1; have := (h_57).2; omega))]; have := hC.1; have := hC.2.1; have := congrArg Int32.toInt ez_35; have := i32_0; have := i32_1; have := i32_2; have := i32_m1; have := (hvx).1; have := (hvx).2; have := (h_41).1; have := (h_41).2; have := (h_51).1; have := (h_51).2; have := (h_57).1; have := (h_57).2; omega) (by rw [(frd_1 (by rw [← CTX_g (i := 0) hC (by have := hC.1; have := hC.2.1; have := congrArg Int32.toInt ez_35; have := i32_0; have := i32_1; have := i32_2; have := i32_m1; have := (hvx).1; have := (hvx).2; have := (h_41).1; have := (h_41).2; have := (h_51).1; have := (h_51).2; have := (h_57).1; have := (h_57).2; omega) ez_42]; have := i32_0; have := i32_1; have := i32_2; have := i32_m1; have := (hvx).1; have := (hvx).2; have := (h_41).1; have := (h_41).2; have := (h_51).1; have := (h_51).2; have := (h_57).1; have := (h_57).2; omega) (by have := hC.1; have := hC.2.1; have := congrArg Int32.toInt ez_35; have := i32_0; have := i32_1; have := i32_2; have := i32_m1; have := (hvx).1; have := (hvx).2; have := (h_41).1; have := (h_41).2; have := (h_51).1; have := (h_51).2; have := (h_57).1; have := (h_57).2; omega))]; rfl) (by decide))) _ _ _ hP hD hS (lv_sub hl [0, 1, 2, 3, 4] rfl)
        · have h_58 : iv 11 23 z_52 := iv_ltR (i32_lt c_56) (iv_k (by decide) : iv 10 10 10) h_55 (by decide)
          refine lv_ldc2 (own := RX3) (v := 1099511627776) hx hb hown (htb _ kw_578) dX3_textAsNumber_42 ?_
          exact W.nb (fun hN => W.widen (k := 1) (n := 6) (by decide) (by decide) (vx_ret (W.lret (v := 1099511627776) hx hb hr (fun t ht hW => ⟨⟨some (.long 1099511627776), (sg, gm, lg), rfl, ⟨1099511627776, rfl, rfl, (nu_0 (nuL_len (by rw [(frd_1 (by rw [← CTX_g (i := 0) hC (by have := hC.1; have := hC.2.1; have := congrArg Int32.toInt ez_35; have := i32_0; have := i32_1; have := i32_2; have := i32_m1; have := (hvx).1; have := (hvx).2; have := (h_41).1; have := (h_41).2; have := (h_51).1; have := (h_51).2; have := (h_58).1; have := (h_58).2; omega) ez_42]; have := i32_0; have := i32_1; have := i32_2; have := i32_m1; have := (hvx).1; have := (hvx).2; have := (h_41).1; have := (h_41).2; have := (h_51).1; have := (h_51).2; have := (h_58).1; have := (h_58).2; omega) (by have := hC.1; have := hC.2.1; have := congrArg Int32.toInt ez_35; have := i32_0; have := i32_1; have := i32_2; have := i32_m1; have := (hvx).1; have := (hvx).2; have := (h_41).1; have := (h_41).2; have := (h_51).1; have := (h_51).2; have := (h_58).1; have := (h_58).2; omega))]; have := hC.1; have := hC.2.1; have := congrArg Int32.toInt ez_35; have := i32_0; have := i32_1; have := i32_2; have := i32_m1; have := (hvx).1; have := (hvx).2; have := (h_41).1; have := (h_41).2; have := (h_51).1; have := (h_51).2; have := (h_58).1; have := (h_58).2; omega)))⟩, by rw [ht]; exact hP, va_K.moved hW.alike hK, hD⟩, hS.F ht, by rw [ht]; exact hN⟩) hS.2.2 dX3_textAsNumber_45)))
end
section
set_option maxHeartbeats 4000000 in
set_option maxRecDepth 100000 in
theorem d_weighText9 (l : Launch) (dC : Nat → ClassId) (dI : Nat → Nat → Nat) (ad : Nat → Nat → Nat) (cid : Nat → ClassId) (a2 : Nat → Nat) (lx : List Nat) (sg : Nat → Int32) (gm : Nat → Nat → Int32) (lg : Nat → Nat → Int64) (x : Int32) (C9 : List Int) (hI : CI sg gm) (hvx : iv 0 79 x) (hC : CTX gm x.toNatClampNeg C9) : CMt dC dI ad cid a2 lx l yX3_weighText wm_X3_weighText ({ frames := 5, cells := 1, slots := 6, locals := 112 }) [eV (ad 9) x] sg gm lg (fun v u => v = none ∧ ∃ (sg2 : Nat → Int32) (gm2 : Nat → Nat → Int32) (lg2 : Nat → Nat → Int64), u = (sg2, gm2, lg2) ∧ CI sg2 gm2 ∧ KS [] sg sg2 ∧ KS [21] gm gm2 ∧ KS [3] lg lg2 ∧ (∃ v : Int64, lg2 3 = vp_updL (lg 3) x.toNatClampNeg v ∧ v.toInt = (nuL C9).getD 1099511627776) ∧ (∃ v : Int32, gm2 21 = upd (gm 21) x.toNatClampNeg v ∧ v.toInt = trL C9)) (fun _ _ => False) := by
  intro sz
  refine vx_ofW (cc := cX3_weighText) (maxL := 1) (ret := none) (by decide) rfl ?_
  intro p e s m args below meth c s₁ B hml hxt hv
  obtain ⟨rfl, hsz, hP, hK, hD0, hG⟩ := hv
  have hx := B.exec
  have hb := B.bytes
  have hr := B.returns
  have hts := atoms_spec (ws := wm_X3_weighText) B.pre
  have htb := fun (w : Cond) (h : w ∈ tb) => hts w (List.mem_cons_of_mem _ h)
  have hown : s.vm.findClass RX3 = some m.cls := findClass_of_methodNamed B.named
  have hlocks := B.notSynchronized
  subst hsz
  have hD := hD0.self (sz := s.heap.size)
  generalize hAe : va_A (cW ad cid a2 lx sg gm lg) s.heap.size = A at hD hG ⊢
  have hA : ∀ q : Nat, s.heap.size ≤ q → A q := fun q h => by rw [← hAe]; exact Or.inr h
  have hS : va_S A s.heap s.heap [] := va_S.rf
  have hl := lv_entry ([eV (ad 9) x]) (n := 1) (by rw [show (lg_sl ([eV (ad 9) x])).length = 1 from by simp [lg_sl, eV_cat, cat_i, cat_l]]; exact Nat.le_of_ble_eq_true rfl)
  rw [lg_entry_eq]
  generalize (lg_sl ([eV (ad 9) x]) ++ List.replicate (1 - (lg_sl ([eV (ad 9) x])).length) Slot.unset).toArray = ls at hl ⊢
  have hl : lv_has ls 1 [(0, eV (ad 9) x)] := by simp [lv_args, eV_cat, cat_i, cat_l] at hl; exact hl
  refine ec_aload_n hx hb dX3_weighText_0 rfl (lv_at hl 0 rfl) ?_
  refine ec_aload_n hx hb dX3_weighText_1 rfl (lv_at hl 0 rfl) ?_
  refine cm_callV (t := 9) (C := RX3) (T := TX3) (N := 21) (rest := [eV (ad 9) x]) (as := []) ⟨hx, hb, hml, hown, htb⟩ (d_textAsNumber9 l dC dI ad cid a2 lx sg gm lg x C9 hI hvx hC) (cwV 0 htb (gd_V kw_789 kw_790 kw_37 kw_150 kw_1498) rfl rfl rfl (by decide +kernel) ⟨Nat.le_of_ble_eq_true rfl, Nat.le_of_ble_eq_true rfl⟩) hvx (by decide) (by decide) rfl rfl hl.1 rfl (Nat.le_trans (cs_c (eV_cat _ _) cs_n) (by decide)) dX3_weighText_2 ⟨Nat.le_of_ble_eq_true rfl, Nat.le_of_ble_eq_true rfl⟩ hK hP hD hS hA hG (fun E ce q9 u_2 H locs hw hP hD hS hce hcv hcl => ?_) (fun v9 u_2 H locs hw hP hD hS => ?_)
  · exact hw.elim
  obtain ⟨r_1, rfl, rfl, fN_r_1⟩ := hw
  have hP : va_P (dC, dI) vwCl (cW ad cid a2 lx sg gm lg) H := hP
  have hD : va_D A (cW ad cid a2 lx sg gm lg) := hD
  refine W.eq (g2 := F0 m 5 ls [.long r_1, eV (ad 9) x]) rfl ?_
  refine cr_putl (t := 9) (j := 13) (C := RX3) (T := TX3) (N := 21) (ty0 := tyX3) (k := 3) (y := r_1) hx hb htb inX3 tyX3_ok nmX3 hown hK hP hD hS hvx (by decide) (by decide) (by decide) rfl rfl rfl (by decide) (htb _ kw_274) rfl (by show Value.long r_1 = Value.long (va_up lg 3 (vp_updL (lg 3) x.toNatClampNeg r_1) 3 x.toNatClampNeg); rw [va_up_self, pk_uLs]) rfl rfl dX3_weighText_5 (fun lg_4 H locs elg_4 hP hD hS => ?_)
  refine ec_aload_n hx hb dX3_weighText_8 rfl (lv_at hl 0 rfl) ?_
  refine cw_str (k := 5) (kx := 5) hx hb hG (by decide) ⟨by decide, by decide⟩ hown dX3_weighText_9 ?_
  refine cm_callV (t := 9) (C := RX3) (T := TX3) (N := 21) (rest := []) (as := [eV (ad 37) 5]) ⟨hx, hb, hml, hown, htb⟩ (d_textIs9 l dC dI ad cid a2 lx sg gm lg_4 x 5 C9 hI hvx (iv_w (iv_k (by decide) : iv 5 5 5) (by decide)) hC) (cwV 1 htb (gd_V kw_792 kw_793 kw_38 kw_150 kw_1499) rfl rfl rfl (by decide +kernel) ⟨Nat.le_of_ble_eq_true rfl, Nat.le_of_ble_eq_true rfl⟩) hvx (by decide) (by decide) rfl rfl hl.1 rfl (Nat.le_trans cs_n (by decide)) dX3_weighText_11 ⟨Nat.le_of_ble_eq_true rfl, Nat.le_of_ble_eq_true rfl⟩ hK hP hD hS hA hG (fun E ce q9 u_6 H locs hw hP hD hS hce hcv hcl => ?_) (fun v9 u_6 H locs hw hP hD hS => ?_)
  · exact hw.elim
  obtain ⟨r_5, rfl, rfl, hr_5, fI_r_5⟩ := hw
  have hP : va_P (dC, dI) vwCl (cW ad cid a2 lx sg gm lg_4) H := hP
  have hD : va_D A (cW ad cid a2 lx sg gm lg_4) := hD
  refine W.eq (g2 := F0 m 14 ls [.int r_5]) rfl ?_
  refine lv_if_eq (tgt := 25) hx hb dX3_weighText_14 (by decide) (fun c_8 => ?_) (fun c_8 => ?_)
  · have h_9 : iv 0 0 r_5 := iv_eq c_8 hr_5 (iv_k (by decide) : iv 0 0 0) (by decide)
    refine ec_aload_n hx hb dX3_weighText_25 rfl (lv_at hl 0 rfl) ?_
    refine ec_aload_n hx hb dX3_weighText_26 rfl (lv_at hl 0 rfl) ?_
    refine cw_str (k := 6) (kx := 6) hx hb hG (by decide) ⟨by decide, by decide⟩ hown dX3_weighText_27 ?_
    refine cm_callV (t := 9) (C := RX3) (T := TX3) (N := 21) (rest := [eV (ad 9) x]) (as := [eV (ad 37) 6]) ⟨hx, hb, hml, hown, htb⟩ (d_textIs9 l dC dI ad cid a2 lx sg gm lg_4 x 6 C9 hI hvx (iv_w (iv_k (by decide) : iv 6 6 6) (by decide)) hC) (cwV 1 htb (gd_V kw_792 kw_793 kw_38 kw_150 kw_1499) rfl rfl rfl (by decide +kernel) ⟨Nat.le_of_ble_eq_true rfl, Nat.le_of_ble_eq_true rfl⟩) hvx (by decide) (by decide) rfl rfl hl.1 rfl (Nat.le_trans (cs_c (eV_cat _ _) cs_n) (by decide)) dX3_weighText_29 ⟨Nat.le_of_ble_eq_true rfl, Nat.le_of_ble_eq_true rfl⟩ hK hP hD hS hA hG (fun E ce q9 u_11 H locs hw hP hD hS hce hcv hcl => ?_) (fun v9 u_11 H locs hw hP hD hS => ?_)
    · exact hw.elim
    obtain ⟨r_10, rfl, rfl, hr_10, fI_r_10⟩ := hw
    have hP : va_P (dC, dI) vwCl (cW ad cid a2 lx sg gm lg_4) H := hP
    have hD : va_D A (cW ad cid a2 lx sg gm lg_4) := hD
    refine W.eq (g2 := F0 m 32 ls [.int r_10, eV (ad 9) x]) rfl ?_
    refine lv_if_eq (tgt := 39) hx hb dX3_weighText_32 (by decide) (fun c_13 => ?_) (fun c_13 => ?_)
    · have h_14 : iv 0 0 r_10 := iv_eq c_13 hr_10 (iv_k (by decide) : iv 0 0 0) (by decide)
      refine lv_iconst (v := (-1)) hx hb dX3_weighText_39 (by decide) ?_
      refine cr_putg (t := 9) (j := 14) (C := RX3) (T := TX3) (N := 21) (ty0 := tyX3) (k := 21) (y := (-1)) hx hb htb inX3 tyX3_ok nmX3 hown hK hP hD hS hvx (by decide) (by decide) (by decide) (by decide) rfl rfl (by decide) (htb _ kw_276) rfl (by show Value.int (-1) = Value.int (va_up gm 21 (upd (gm 21) x.toNatClampNeg (-1)) 21 x.toNatClampNeg); rw [va_up_self, upd_at]) rfl rfl dX3_weighText_40 (fun gm_15 H locs egm_15 hP hD hS => ?_)
      have hI_gm_15 := CI_st hI egm_15 (iv_k (by decide) : iv (-1) (-1) (-1)) (by decide)
      exact W.nb (fun hN => W.widen (k := 1) (n := 6) (by decide) (by decide) (vx_ret (W.vret hx hb hr (fun t ht hW => ⟨⟨none, (sg, gm_15, lg_4), rfl, ⟨rfl, sg, gm_15, lg_4, rfl, hI_gm_15, KS_rf, (KS_up KS_rf egm_15 (by decide)), (KS_up KS_rf elg_4 (by decide)), (⟨_, (show lg_4 3 = vp_updL (lg 3) (x : Int32).toNatClampNeg r_1 from ((up_at elg_4).trans (by rw [show lg 3 = lg 3 from rfl]))), fN_r_1⟩), (⟨_, (show gm_15 21 = upd (gm 21) (x : Int32).toNatClampNeg (-1) from ((up_at egm_15).trans (by rw [show gm 21 = gm 21 from rfl]))), tr_m (fI_r_5.resolve_left (fun q => absurd q.1 (by have := i32_0; have := i32_1; have := i32_2; have := i32_m1; have := (hvx).1; have := (hvx).2; have := (h_9).1; have := (h_9).2; have := (h_14).1; have := (h_14).2; omega))).2 (fI_r_10.resolve_left (fun q => absurd q.1 (by have := i32_0; have := i32_1; have := i32_2; have := i32_m1; have := (hvx).1; have := (hvx).2; have := (h_9).1; have := (h_9).2; have := (h_14).1; have := (h_14).2; omega))).2⟩)⟩, by rw [ht]; exact hP, va_K.moved hW.alike hK, hD⟩, hS.F ht, by rw [ht]; exact hN⟩) hS.2.2 dX3_weighText_43)))
    · have h_16 : iv 1 1 r_10 := iv_neL c_13 hr_10 (by decide)
      refine lv_iconst (v := 0) hx hb dX3_weighText_35 (by decide) ?_
      refine lv_goto (tgt := 40) hx hb dX3_weighText_36 (by decide) ?_
      refine cr_putg (t := 9) (j := 14) (C := RX3) (T := TX3) (N := 21) (ty0 := tyX3) (k := 21) (y := 0) hx hb htb inX3 tyX3_ok nmX3 hown hK hP hD hS hvx (by decide) (by decide) (by decide) (by decide) rfl rfl (by decide) (htb _ kw_276) rfl (by show Value.int 0 = Value.int (va_up gm 21 (upd (gm 21) x.toNatClampNeg 0) 21 x.toNatClampNeg); rw [va_up_self, upd_at]) rfl rfl dX3_weighText_40 (fun gm_17 H locs egm_17 hP hD hS => ?_)
      have hI_gm_17 := CI_st hI egm_17 (iv_k (by decide) : iv 0 0 0) (by decide)
      exact W.nb (fun hN => W.widen (k := 1) (n := 6) (by decide) (by decide) (vx_ret (W.vret hx hb hr (fun t ht hW => ⟨⟨none, (sg, gm_17, lg_4), rfl, ⟨rfl, sg, gm_17, lg_4, rfl, hI_gm_17, KS_rf, (KS_up KS_rf egm_17 (by decide)), (KS_up KS_rf elg_4 (by decide)), (⟨_, (show lg_4 3 = vp_updL (lg 3) (x : Int32).toNatClampNeg r_1 from ((up_at elg_4).trans (by rw [show lg 3 = lg 3 from rfl]))), fN_r_1⟩), (⟨_, (show gm_17 21 = upd (gm 21) (x : Int32).toNatClampNeg 0 from ((up_at egm_17).trans (by rw [show gm 21 = gm 21 from rfl]))), tr_0 (fI_r_10.resolve_right (fun q => absurd q.1 (by have := i32_0; have := i32_1; have := i32_2; have := i32_m1; have := (hvx).1; have := (hvx).2; have := (h_9).1; have := (h_9).2; have := (h_16).1; have := (h_16).2; omega))).2⟩)⟩, by rw [ht]; exact hP, va_K.moved hW.alike hK, hD⟩, hS.F ht, by rw [ht]; exact hN⟩) hS.2.2 dX3_weighText_43)))
  · have h_18 : iv 1 1 r_5 := iv_neL c_8 hr_5 (by decide)
    refine ec_aload_n hx hb dX3_weighText_17 rfl (lv_at hl 0 rfl) ?_
    refine lv_iconst (v := 1) hx hb dX3_weighText_18 (by decide) ?_
    refine cr_putg (t := 9) (j := 14) (C := RX3) (T := TX3) (N := 21) (ty0 := tyX3) (k := 21) (y := 1) hx hb htb inX3 tyX3_ok nmX3 hown hK hP hD hS hvx (by decide) (by decide) (by decide) (by decide) rfl rfl (by decide) (htb _ kw_276) rfl (by show Value.int 1 = Value.int (va_up gm 21 (upd (gm 21) x.toNatClampNeg 1) 21 x.toNatClampNeg); rw [va_up_self, upd_at]) rfl rfl dX3_weighText_19 (fun gm_19 H locs egm_19 hP hD hS => ?_)
    have hI_gm_19 := CI_st hI egm_19 (iv_k (by decide) : iv 1 1 1) (by decide)
    refine lv_goto (tgt := 43) hx hb dX3_weighText_22 (by decide) ?_
    exact W.nb (fun hN => W.widen (k := 1) (n := 6) (by decide) (by decide) (vx_ret (W.vret hx hb hr (fun t ht hW => ⟨⟨none, (sg, gm_19, lg_4), rfl, ⟨rfl, sg, gm_19, lg_4, rfl, hI_gm_19, KS_rf, (KS_up KS_rf egm_19 (by decide)), (KS_up KS_rf elg_4 (by decide)), (⟨_, (show lg_4 3 = vp_updL (lg 3) (x : Int32).toNatClampNeg r_1 from ((up_at elg_4).trans (by rw [show lg 3 = lg 3 from rfl]))), fN_r_1⟩), (⟨_, (show gm_19 21 = upd (gm 21) (x : Int32).toNatClampNeg 1 from ((up_at egm_19).trans (by rw [show gm 21 = gm 21 from rfl]))), tr_1 (fI_r_5.resolve_right (fun q => absurd q.1 (by have := i32_0; have := i32_1; have := i32_2; have := i32_m1; have := (hvx).1; have := (hvx).2; have := (h_18).1; have := (h_18).2; omega))).2⟩)⟩, by rw [ht]; exact hP, va_K.moved hW.alike hK, hD⟩, hS.F ht, by rw [ht]; exact hN⟩) hS.2.2 dX3_weighText_43)))
end
section
set_option maxHeartbeats 4000000 in
set_option maxRecDepth 100000 in
theorem d_valueToText9 (l : Launch) (dC : Nat → ClassId) (dI : Nat → Nat → Nat) (ad : Nat → Nat → Nat) (cid : Nat → ClassId) (a2 : Nat → Nat) (lx : List Nat) (sg : Nat → Int32) (gm : Nat → Nat → Int32) (lg : Nat → Nat → Int64) (x : Int32) (o : Int32) (w : Int32) (A7 : At7) (V9 : List Int) (hI : CI sg gm) (hvx : iv 0 0 x) (hvo : iv 0 79 o) (hvw : iv 0 33 w) (hFA : FA sg gm) (how : o.toInt < (sg 4).toInt) (hVS : VS sg gm) (hat : ATC A7 gm lg o.toNatClampNeg (sg 5).toInt (sg 6).toInt) (hgv : gA A7 (wKy.getD w.toNatClampNeg 0) = some V9) : CMt dC dI ad cid a2 lx l yX6_valueToText wm_X6_valueToText ({ frames := 1, cells := 1, slots := 6, locals := 23 }) [eV (ad 1) x, eV (ad 9) o, eV (ad 33) w] sg gm lg (fun v u => v = none ∧ ∃ (sg2 : Nat → Int32) (gm2 : Nat → Nat → Int32) (lg2 : Nat → Nat → Int64), u = (sg2, gm2, lg2) ∧ CI sg2 gm2 ∧ KS [] sg sg2 ∧ KS [11, 56] gm gm2 ∧ KS [] lg lg2 ∧ (CTX gm2 o.toNatClampNeg V9) ∧ (∃ v : Int32, gm2 11 = upd (gm 11) o.toNatClampNeg v) ∧ (∀ j, ¬ (24 * o.toNatClampNeg ≤ j ∧ j < 24 * o.toNatClampNeg + 24) → gm2 56 j = gm 56 j)) (fun _ _ => False) := by
  intro sz
  refine vx_ofW (cc := cX6_valueToText) (maxL := 6) (ret := none) (by decide) rfl ?_
  intro p e s m args below meth c s₁ B hml hxt hv
  obtain ⟨rfl, hsz, hP, hK, hD0, hG⟩ := hv
  have hx := B.exec
  have hb := B.bytes
  have hr := B.returns
  have hts := atoms_spec (ws := wm_X6_valueToText) B.pre
  have htb := fun (w : Cond) (h : w ∈ tb) => hts w (List.mem_cons_of_mem _ h)
  have hown : s.vm.findClass RX6 = some m.cls := findClass_of_methodNamed B.named
  have hlocks := B.notSynchronized
  subst hsz
  have hD := hD0.self (sz := s.heap.size)
  generalize hAe : va_A (cW ad cid a2 lx sg gm lg) s.heap.size = A at hD hG ⊢
  have hA : ∀ q : Nat, s.heap.size ≤ q → A q := fun q h => by rw [← hAe]; exact Or.inr h
  have hS : va_S A s.heap s.heap [] := va_S.rf
  have hl := lv_entry ([eV (ad 1) x, eV (ad 9) o, eV (ad 33) w]) (n := 6) (by rw [show (lg_sl ([eV (ad 1) x, eV (ad 9) o, eV (ad 33) w])).length = 3 from by simp [lg_sl, eV_cat, cat_i, cat_l]]; exact Nat.le_of_ble_eq_true rfl)
  rw [lg_entry_eq]
  generalize (lg_sl ([eV (ad 1) x, eV (ad 9) o, eV (ad 33) w]) ++ List.replicate (6 - (lg_sl ([eV (ad 1) x, eV (ad 9) o, eV (ad 33) w])).length) Slot.unset).toArray = ls at hl ⊢
  have hl : lv_has ls 6 [(0, eV (ad 1) x), (1, eV (ad 9) o), (2, eV (ad 33) w)] := by simp [lv_args, eV_cat, cat_i, cat_l] at hl; exact hl
  have hj17 : ∀ (n : Nat) (gm_j17 : Nat → Nat → Int32) (x5_17 : Int32) (x4_17 : Int32) (x3_17 : Int32) (_ : (24 - x5_17.toInt).toNat = n) (_ : iv 0 24 x5_17) (_ : iv 0 24 x4_17) (_ : iv (-1) 239 x3_17) (_ : iv 0 0 x) (_ : iv 0 79 o) (_ : iv 0 33 w) (_ : KS [56] gm gm_j17) (_ : CI sg gm_j17) (_ : (x3_17.toInt = -1 ∧ x4_17.toInt = 0) ∨ (0 ≤ x3_17.toInt ∧ x4_17 = gm 45 x3_17.toNatClampNeg)) (_ : x3_17.toInt < (sg 5).toInt) (_ : x4_17 = gm 45 x3_17.toNatClampNeg) (_ : 0 ≤ x3_17.toInt ∧ VW7 gm x3_17.toNatClampNeg V9) (_ : VTX gm gm_j17 o.toNatClampNeg x5_17.toNatClampNeg V9) (H : Heap) (locs : List Loc) (ls : Array Slot), va_P (dC, dI) vwCl (cW ad cid a2 lx sg gm_j17 lg) H → va_D A (cW ad cid a2 lx sg gm_j17 lg) → va_S A s.heap H locs → lv_has ls 6 [(5, .int x5_17), (4, .int x4_17), (3, .int x3_17), (0, eV (ad 1) x), (1, eV (ad 9) o), (2, eV (ad 33) w)] → W p l e (headSpec wm_X6_valueToText ({ frames := 1, cells := 1, slots := 6, locals := 23 })).room s m ([eV (ad 1) x, eV (ad 9) o, eV (ad 33) w] : List Value).toArray below meth c H locs 0 0 (vx_MQ below (cQx dC dI ad cid a2 lx (fun v u => v = none ∧ ∃ (sg2 : Nat → Int32) (gm2 : Nat → Nat → Int32) (lg2 : Nat → Nat → Int64), u = (sg2, gm2, lg2) ∧ CI sg2 gm2 ∧ KS [] sg sg2 ∧ KS [11, 56] gm gm2 ∧ KS [] lg lg2 ∧ (CTX gm2 o.toNatClampNeg V9) ∧ (∃ v : Int32, gm2 11 = upd (gm 11) o.toNatClampNeg v) ∧ (∀ j, ¬ (24 * o.toNatClampNeg ≤ j ∧ j < 24 * o.toNatClampNeg + 24) → gm2 56 j = gm 56 j)) A) (cX dC dI ad cid a2 lx (fun _ _ => False) A) ([eV (ad 1) x, eV (ad 9) o, eV (ad 33) w] : List Value).toArray s 1 6 A) (F0 m 17 ls []) := by
    intro n
    induction n using Nat.strongRecOn with
    | ind n ih17 =>
      intro gm_j17 x5_17 x4_17 x3_17 hn17 hx5_17 hx4_17 hx3_17 hsx0_17 hsx1_17 hsx2_17 hkg_j17 hI_j17 hV9 h3l hl4 hvw9 hvt H locs ls hP hD hS hl
      refine lv_iload hx hb dX6_valueToText_17 (lv_at hl 0 rfl) ?_
      refine lv_iload hx hb dX6_valueToText_19 (lv_at hl 1 rfl) ?_
      refine lv_icmp_ge (tgt := 44) hx hb dX6_valueToText_21 (by decide) (fun c_1 => ?_) (fun c_1 => ?_)
      · have d_2 : (x4_17 : Int32).toInt ≤ (x5_17 : Int32).toInt := Int32.le_iff_toInt_le.mp c_1
        refine ec_aload_n hx hb dX6_valueToText_44 rfl (lv_at hl 4 rfl) ?_
        refine lv_iload hx hb dX6_valueToText_45 (lv_at hl 1 rfl) ?_
        refine cr_putg (t := 9) (j := 1) (C := RX3) (T := TX3) (N := 21) (ty0 := tyX3) (k := 11) (y := x4_17) hx hb htb inX3 tyX3_ok nmX3 hown hK hP hD hS hsx1_17 (by decide) (by decide) (by decide) (by decide) rfl rfl (by decide) (htb _ kw_233) rfl (by show Value.int x4_17 = Value.int (va_up gm_j17 11 (upd (gm_j17 11) o.toNatClampNeg x4_17) 11 o.toNatClampNeg); rw [va_up_self, upd_at]) rfl rfl dX6_valueToText_47 (fun gm_3 H locs egm_3 hP hD hS => ?_)
        have hI_gm_3 := CI_st hI_j17 egm_3 hx4_17 (by decide)
        exact W.nb (fun hN => W.widen (k := 1) (n := 6) (by decide) (by decide) (vx_ret (W.vret hx hb hr (fun t ht hW => ⟨⟨none, (sg, gm_3, lg), rfl, ⟨rfl, sg, gm_3, lg, rfl, hI_gm_3, KS_rf, (KS_up (KS_tr (L := [11, 56]) KS_rf hkg_j17 (by decide)) egm_3 (by decide)), KS_rf, ((VTX_c hvt (by have k4 := congrArg Int32.toInt hl4; have k5 := hvw9.2.1; have q1 : x5_17.toNatClampNeg = x5_17.toInt.toNat := rfl; have := i32_0; have := i32_1; have := i32_2; have := i32_m1; have := (hsx0_17).1; have := (hsx0_17).2; have := (hsx1_17).1; have := (hsx1_17).2; have := (hsx2_17).1; have := (hsx2_17).2; have := (hx5_17).1; have := (hx5_17).2; have := (hx4_17).1; have := (hx4_17).2; have := (hx3_17).1; have := (hx3_17).2; omega) (show gm_3 56 = gm_j17 56 from up_ne egm_3 (by decide)) (show gm_3 11 = upd (gm 11) (o : Int32).toNatClampNeg x4_17 from ((up_at egm_3).trans (by rw [show gm_j17 11 = gm 11 from ((hkg_j17 11 (by decide)).trans rfl)]))) (by have k4 := congrArg Int32.toInt hl4; have k5 := hvw9.2.1; have q1 : x5_17.toNatClampNeg = x5_17.toInt.toNat := rfl; have := i32_0; have := i32_1; have := i32_2; have := i32_m1; have := (hsx0_17).1; have := (hsx0_17).2; have := (hsx1_17).1; have := (hsx1_17).2; have := (hsx2_17).1; have := (hsx2_17).2; have := (hx5_17).1; have := (hx5_17).2; have := (hx4_17).1; have := (hx4_17).2; have := (hx3_17).1; have := (hx3_17).2; omega) (by have k4 := congrArg Int32.toInt hl4; have k5 := hvw9.2.1; have q1 : x5_17.toNatClampNeg = x5_17.toInt.toNat := rfl; have := i32_0; have := i32_1; have := i32_2; have := i32_m1; have := (hsx0_17).1; have := (hsx0_17).2; have := (hsx1_17).1; have := (hsx1_17).2; have := (hsx2_17).1; have := (hsx2_17).2; have := (hx5_17).1; have := (hx5_17).2; have := (hx4_17).1; have := (hx4_17).2; have := (hx3_17).1; have := (hx3_17).2; omega))), (⟨_, (show gm_3 11 = upd (gm 11) (o : Int32).toNatClampNeg x4_17 from ((up_at egm_3).trans (by rw [show gm_j17 11 = gm 11 from ((hkg_j17 11 (by decide)).trans rfl)])))⟩), ((fun j hj => by rw [show gm_3 56 = gm_j17 56 from up_ne egm_3 (by decide)]; exact hvt.2 j hj))⟩, by rw [ht]; exact hP, va_K.moved hW.alike hK, hD⟩, hS.F ht, by rw [ht]; exact hN⟩) hS.2.2 dX6_valueToText_50)))
      · have d_4 : (x5_17 : Int32).toInt < (x4_17 : Int32).toInt := Int32.lt_iff_toInt_lt.mp (i32_lt c_1)
        have h_5 : iv 0 23 x5_17 := iv_ltL (i32_lt c_1) hx5_17 hx4_17 (by decide)
        have h_6 : iv 1 24 x4_17 := iv_ltR (i32_lt c_1) hx5_17 hx4_17 (by decide)
        obtain ⟨h9z, h9e⟩ : 0 ≤ x3_17.toInt ∧ x4_17 = gm 45 x3_17.toNatClampNeg := hV9.resolve_left (fun q9 => by have := q9.2; have := i32_0; have := i32_1; have := i32_2; have := i32_m1; have := (hsx0_17).1; have := (hsx0_17).2; have := (hsx1_17).1; have := (hsx1_17).2; have := (hsx2_17).1; have := (hsx2_17).2; have := (h_5).1; have := (h_5).2; have := (h_6).1; have := (h_6).2; have := (hx3_17).1; have := (hx3_17).2; omega)
        have h24 : iv 0 239 x3_17 := ⟨h9z, (hx3_17).2⟩
        refine ec_aload_n hx hb dX6_valueToText_24 rfl (lv_at hl 4 rfl) ?_
        refine cr_get (t := 9) (j := 0) (C := RX3) (T := TX3) (N := 21) (v := eV (ad 31) o) hx hb htb inX3 hown hK hP hsx1_17 (by decide) (by decide) (by decide) rfl (by decide) (htb _ kw_229) (cV_c rfl (hsx1_17).1 (by rw [show cMu 9 0 = 1 from rfl, Nat.one_mul]; rfl)) dX6_valueToText_25 ?_
        refine lv_iload hx hb dX6_valueToText_28 (lv_at hl 0 rfl) ?_
        refine ec_aload_n hx hb dX6_valueToText_30 rfl (lv_at hl 3 rfl) ?_
        refine lv_iload_n hx hb dX6_valueToText_31 rfl (lv_at hl 2 rfl) ?_
        refine lv_iload hx hb dX6_valueToText_32 (lv_at hl 0 rfl) ?_
        refine cm_callV (t := 1) (C := RX6) (T := TX6) (N := 8) (rest := [.int x5_17, eV (ad 31) o]) (as := [.int x3_17, .int x5_17]) ⟨hx, hb, hml, hown, htb⟩ (d_valueChar l dC dI ad cid a2 lx sg gm_j17 lg x x3_17 x5_17 hI_j17 hsx0_17 h24 h_5 (VS_e hVS rfl rfl (hkg_j17 44 (by decide)) (hkg_j17 45 (by decide))) h3l (by rw [(hkg_j17 45 (by decide)), ← h9e]; have := i32_0; have := i32_1; have := i32_2; have := i32_m1; have := (hsx0_17).1; have := (hsx0_17).2; have := (hsx1_17).1; have := (hsx1_17).2; have := (hsx2_17).1; have := (hsx2_17).2; have := (h_5).1; have := (h_5).2; have := (h_6).1; have := (h_6).2; have := (h24).1; have := (h24).2; omega)) (cwV 2 htb (gd_V kw_687 kw_688 kw_27 kw_149 kw_1476) rfl rfl rfl (by decide +kernel) ⟨Nat.le_of_ble_eq_true rfl, Nat.le_of_ble_eq_true rfl⟩) hsx0_17 (by decide) (by decide) rfl rfl hl.1 rfl (Nat.le_trans (cs_c (cat_i _) (cs_c (eV_cat _ _) cs_n)) (by decide)) dX6_valueToText_34 ⟨Nat.le_of_ble_eq_true rfl, Nat.le_of_ble_eq_true rfl⟩ hK hP hD hS hA hG (fun E ce q9 u_8 H locs hw hP hD hS hce hcv hcl => ?_) (fun v9 u_8 H locs hw hP hD hS => ?_)
        · exact hw.elim
        obtain ⟨r_7, rfl, rfl, hr_7, fC_r_7⟩ := hw
        have hP : va_P (dC, dI) vwCl (cW ad cid a2 lx sg gm_j17 lg) H := hP
        have hD : va_D A (cW ad cid a2 lx sg gm_j17 lg) := hD
        refine W.eq (g2 := F0 m 37 ls [.int r_7, .int x5_17, eV (ad 31) o]) rfl ?_
        refine cr_cast (t := 31) (k := 56) (n9 := (24 * o.toNatClampNeg + (x5_17 : Int32).toNatClampNeg)) (z := r_7) hx hb hK hP hD hS hsx1_17 (by decide) (by decide) (by decide) rfl rfl rfl (show vp_in x5_17 (cLen 31) from (show vp_in x5_17 24 from (iv_in h_5 (by decide)))) (Or.inr (vin_lt (show vp_in x5_17 (cLen 31) from (show vp_in x5_17 24 from (iv_in h_5 (by decide)))))) rfl dX6_valueToText_37 (fun gm_10 H locs egm_10 hP hD hS => ?_)
        rw [vnc hr_7] at egm_10
        have hI_gm_10 := CI_st hI_j17 egm_10 hr_7 (by decide)
        obtain ⟨z_11, ez_11⟩ : ∃ z : Int32, z = x5_17 + 1 := ⟨_, rfl⟩
        have hz_11 : iv 1 24 z_11 := iv_of ez_11 (iv_add h_5 (iv_k (by decide) : iv 1 1 1) (by decide))
        have tz_11 : z_11.toInt = x5_17.toInt + 1 := by rw [ez_11]; exact iv_addE h_5 (iv_k (by decide) : iv 1 1 1) (by decide)
        refine lv_iinc (v := z_11) (lv' := [(5, .int z_11), (4, .int x4_17), (3, .int x3_17), (0, eV (ad 1) x), (1, eV (ad 9) o), (2, eV (ad 33) w)]) hx hb dX6_valueToText_38 hl (k := 0) rfl ez_11.symm (by decide) rfl (fun ls hl => ?_)
        refine lv_goto (tgt := 17) hx hb dX6_valueToText_41 (by decide) ?_
        exact ih17 _ (by rw [← hn17]; exact (iv_meas tz_11 h_5 (by decide))) gm_10 z_11 x4_17 x3_17 rfl (iv_w hz_11 (by decide)) (iv_w h_6 (by decide)) (iv_w h24 (by decide)) hsx0_17 hsx1_17 hsx2_17 (KS_up (KS_tr (L := [56]) KS_rf hkg_j17 (by decide)) egm_10 (by decide)) hI_gm_10 (hV9) (h3l) (hl4) (hvw9) ((VTX_s hvt (show gm_10 56 = _ from up_at egm_10) (VW_c hvw9.2 (by have k4 := congrArg Int32.toInt hl4; have k5 := hvw9.2.1; have q1 : x5_17.toNatClampNeg = x5_17.toInt.toNat := rfl; have := i32_0; have := i32_1; have := i32_2; have := i32_m1; have := (hsx0_17).1; have := (hsx0_17).2; have := (hsx1_17).1; have := (hsx1_17).2; have := (hsx2_17).1; have := (hsx2_17).2; have := (h_5).1; have := (h_5).2; have := (h_6).1; have := (h_6).2; have := (h24).1; have := (h24).2; have := (hr_7).1; have := (hr_7).2; have := (hz_11).1; have := (hz_11).2; omega) fC_r_7 (hkg_j17 46 (by decide)) (hkg_j17 44 (by decide))) (by have q1 : x5_17.toNatClampNeg = x5_17.toInt.toNat := rfl; have := i32_0; have := i32_1; have := i32_2; have := i32_m1; have := (hsx0_17).1; have := (hsx0_17).2; have := (hsx1_17).1; have := (hsx1_17).2; have := (hsx2_17).1; have := (hsx2_17).2; have := (h_5).1; have := (h_5).2; have := (h_6).1; have := (h_6).2; have := (h24).1; have := (h24).2; have := (hr_7).1; have := (hr_7).2; have := (hz_11).1; have := (hz_11).2; omega) (by have q1 : z_11.toNatClampNeg = z_11.toInt.toNat := rfl; have q1 : x5_17.toNatClampNeg = x5_17.toInt.toNat := rfl; have := i32_0; have := i32_1; have := i32_2; have := i32_m1; have := (hsx0_17).1; have := (hsx0_17).2; have := (hsx1_17).1; have := (hsx1_17).2; have := (hsx2_17).1; have := (hsx2_17).2; have := (h_5).1; have := (h_5).2; have := (h_6).1; have := (h_6).2; have := (h24).1; have := (h24).2; have := (hr_7).1; have := (hr_7).2; have := (hz_11).1; have := (hz_11).2; omega))) _ _ _ hP hD hS (lv_sub hl [0, 1, 2, 3, 4, 5] rfl)
  refine ec_aload_n hx hb dX6_valueToText_0 rfl (lv_at hl 0 rfl) ?_
  refine ec_aload_n hx hb dX6_valueToText_1 rfl (lv_at hl 1 rfl) ?_
  refine ec_aload_n hx hb dX6_valueToText_2 rfl (lv_at hl 2 rfl) ?_
  refine cm_callV (t := 1) (C := RX6) (T := TX6) (N := 8) (rest := []) (as := [eV (ad 9) o, eV (ad 33) w]) ⟨hx, hb, hml, hown, htb⟩ (d_find l dC dI ad cid a2 lx sg gm lg x o w hI hvx hvo hvw hFA how) (cwV 2 htb (gd_V kw_683 kw_684 kw_25 kw_149 kw_1474) rfl rfl rfl (by decide +kernel) ⟨Nat.le_of_ble_eq_true rfl, Nat.le_of_ble_eq_true rfl⟩) hvx (by decide) (by decide) rfl rfl hl.1 rfl (Nat.le_trans cs_n (by decide)) dX6_valueToText_3 ⟨Nat.le_of_ble_eq_true rfl, Nat.le_of_ble_eq_true rfl⟩ hK hP hD hS hA hG (fun E ce q9 u_13 H locs hw hP hD hS hce hcv hcl => ?_) (fun v9 u_13 H locs hw hP hD hS => ?_)
  · exact hw.elim
  obtain ⟨r_12, rfl, rfl, hr_12, fF_r_12, fLt_r_12⟩ := hw
  have hP : va_P (dC, dI) vwCl (cW ad cid a2 lx sg gm lg) H := hP
  have hD : va_D A (cW ad cid a2 lx sg gm lg) := hD
  refine W.eq (g2 := F0 m 6 ls [.int r_12]) rfl ?_
  refine lv_istore_n (i := 3) (lv' := [(3, .int r_12), (0, eV (ad 1) x), (1, eV (ad 9) o), (2, eV (ad 33) w)]) hx hb dX6_valueToText_6 rfl hl (by decide) (by simp [List.filter, eV_cat, cat_i, cat_l]) (fun ls hl => ?_)
  refine ec_aload_n hx hb dX6_valueToText_7 rfl (lv_at hl 1 rfl) ?_
  refine lv_iload_n hx hb dX6_valueToText_8 rfl (lv_at hl 0 rfl) ?_
  refine cm_callV (t := 1) (C := RX6) (T := TX6) (N := 8) (rest := []) (as := [.int r_12]) ⟨hx, hb, hml, hown, htb⟩ (d_valueLength l dC dI ad cid a2 lx sg gm lg x r_12 hI hvx hr_12) (cwV 1 htb (gd_V kw_685 kw_686 kw_26 kw_149 kw_1475) rfl rfl rfl (by decide +kernel) ⟨Nat.le_of_ble_eq_true rfl, Nat.le_of_ble_eq_true rfl⟩) hvx (by decide) (by decide) rfl rfl hl.1 rfl (Nat.le_trans cs_n (by decide)) dX6_valueToText_9 ⟨Nat.le_of_ble_eq_true rfl, Nat.le_of_ble_eq_true rfl⟩ hK hP hD hS hA hG (fun E ce q9 u_16 H locs hw hP hD hS hce hcv hcl => ?_) (fun v9 u_16 H locs hw hP hD hS => ?_)
  · exact hw.elim
  obtain ⟨r_15, rfl, rfl, hr_15, fV_r_15⟩ := hw
  have hP : va_P (dC, dI) vwCl (cW ad cid a2 lx sg gm lg) H := hP
  have hD : va_D A (cW ad cid a2 lx sg gm lg) := hD
  refine W.eq (g2 := F0 m 12 ls [.int r_15]) rfl ?_
  refine lv_istore (i := 4) (lv' := [(4, .int r_15), (3, .int r_12), (0, eV (ad 1) x), (1, eV (ad 9) o), (2, eV (ad 33) w)]) hx hb dX6_valueToText_12 hl (by decide) rfl (fun ls hl => ?_)
  refine lv_iconst (v := 0) hx hb dX6_valueToText_14 (by decide) ?_
  refine lv_istore (i := 5) (lv' := [(5, .int 0), (4, .int r_15), (3, .int r_12), (0, eV (ad 1) x), (1, eV (ad 9) o), (2, eV (ad 33) w)]) hx hb dX6_valueToText_15 hl (by decide) rfl (fun ls hl => ?_)
  exact hj17 _ gm 0 r_15 r_12 rfl (iv_w (iv_k (by decide) : iv 0 0 0) (by decide)) hr_15 hr_12 hvx hvo hvw KS_rf hI (fV_r_15) (fLt_r_12) (((fV_r_15.resolve_left (fun q => absurd q.1 (by have := (FND_g fF_r_12 hat hgv).1; omega))).2)) ((FND_g fF_r_12 hat hgv)) ((VTX_0 rfl rfl)) _ _ _ hP hD hS (lv_sub hl [0, 1, 2, 3, 4, 5] rfl)
end
section
section SE9
/-- a type's number -/
def TQ9 (A : At7) (k : Int64) (r : Int) : Prop := (0 ≤ cv7 A k ∧ r = 8 + cv7 A k) ∨ (cv7 A k = -1 ∧ ∃ i : Nat, i < 5 ∧ r = (i : Int) ∧ nv7 A k = wKy.getD (29 + i) 0) ∨ (r = -1 ∧ ¬ ty7 A k)
theorem ty_w {A : At7} {k : Int64} {r : Int32} {n : Nat} (hr : WKR r (nv7 A k)) (h0 : 0 ≤ r.toInt) (hn : r.toInt = (n : Int)) : nv7 A k = wKy.getD n 0 := by
  rcases hr with ⟨a1, a2, a3⟩ | ⟨a1, a2⟩
  · have e : r.toNatClampNeg = n := by show r.toInt.toNat = n; omega
    rw [e] at a3; exact a3.symm
  · omega
variable {gm gm2 gm3 : Nat → Nat → Int32} {lg lg2 lg3 : Nat → Nat → Int64} {e o : Nat} {C : List Int} {A : At7}
/-- number and truth of a text -/
def NT9 (gm : Nat → Nat → Int32) (lg : Nat → Nat → Int64) (e : Nat) (C : List Int) : Prop := (lg 3 e).toInt = (nuL C).getD 1099511627776 ∧ (gm 21 e).toInt = trL C
theorem NT_of {f : Nat → Int64} {g : Nat → Int32} (h3 : ∃ v : Int64, lg 3 = vp_updL f e v ∧ v.toInt = (nuL C).getD 1099511627776) (h21 : ∃ v : Int32, gm 21 = upd g e v ∧ v.toInt = trL C) : NT9 gm lg e C := by
  obtain ⟨v, a1, a2⟩ := h3
  obtain ⟨w, b1, b2⟩ := h21
  exact ⟨by rw [a1, vp_uL]; exact a2, by rw [b1, upd_at]; exact b2⟩
/-- the content of an arg or a set -/
def SC9 (A : At7) (gm gm2 : Nat → Nat → Int32) (lg2 : Nat → Nat → Int64) (o : Nat) (w : Int32) : Prop := (0 ≤ (gm 16 o).toInt ∧ gm2 26 o = gm 16 o ∧ gm2 25 o = w) ∨ ((gm 16 o).toInt < 0 ∧ (gm2 26 o).toInt = (o : Int) ∧ ((aH A 508440638821 = 1 ∧ (gm2 25 o).toInt = 7 ∧ ∃ V, gA A 508440638821 = some V ∧ CTX gm2 o V ∧ NT9 gm2 lg2 o V) ∨ (aH A 508440638821 = 0 ∧ (gm2 25 o).toInt = 8 ∧ lg2 2 o = nv7 A 7497062)))
theorem SC_0 {f : Nat → Int32} {w u : Int32} (h : 0 ≤ (gm 16 o).toInt) (h26 : gm2 26 = upd f o u) (hu : u = gm 16 o) (h25 : gm2 25 o = w) : SC9 A gm gm2 lg2 o w := Or.inl ⟨h, by rw [h26, upd_at, hu], h25⟩
theorem SC_1 {f g : Nat → Int32} {w o9 : Int32} {V : List Int} (h : (gm 16 o9.toNatClampNeg).toInt < 0) (ho : iv 0 79 o9) (h26 : gm2 26 = upd f o9.toNatClampNeg o9) (ha : aH A 508440638821 = 1) (h25 : gm2 25 = upd g o9.toNatClampNeg 7) (hg : gA A 508440638821 = some V) (hC : CTX gm2 o9.toNatClampNeg V) (hN : NT9 gm2 lg2 o9.toNatClampNeg V) : SC9 A gm gm2 lg2 o9.toNatClampNeg w := Or.inr ⟨h, by rw [h26, upd_at]; have := ho.1; show _ = ((o9.toInt.toNat : Nat) : Int); omega, Or.inl ⟨ha, by rw [h25, upd_at]; decide, V, hg, hC, hN⟩⟩
theorem SC_2 {f g : Nat → Int32} {l : Nat → Int64} {w o9 : Int32} {v : Int64} (h : (gm 16 o9.toNatClampNeg).toInt < 0) (ho : iv 0 79 o9) (h26 : gm2 26 = upd f o9.toNatClampNeg o9) (ha : aH A 508440638821 = 0) (h25 : gm2 25 = upd g o9.toNatClampNeg 8) (h2 : lg2 2 = vp_updL l o9.toNatClampNeg v) (hv : v = nv7 A 7497062) : SC9 A gm gm2 lg2 o9.toNatClampNeg w := Or.inr ⟨h, by rw [h26, upd_at]; have := ho.1; show _ = ((o9.toInt.toNat : Nat) : Int); omega, Or.inr ⟨ha, by rw [h25, upd_at]; decide, by rw [h2, vp_uL, hv]⟩⟩
/-- only at one place -/
def RO (f g : Nat → Int32) (o : Nat) : Prop := ∀ j, j ≠ o → g j = f j
def RL9 (f g : Nat → Int64) (o : Nat) : Prop := ∀ j, j ≠ o → g j = f j
def RX (f g : Nat → Int32) (o : Nat) : Prop := ∀ j, ¬ (24 * o ≤ j ∧ j < 24 * o + 24) → g j = f j
theorem RO_e {f g : Nat → Int32} (h : g = f) : RO f g o := fun _ _ => by rw [h]
theorem RO_u {f g : Nat → Int32} {v : Int32} (h : g = upd f o v) : RO f g o := fun j hj => by rw [h]; exact upd_ne hj
theorem RO_x {f g : Nat → Int32} (h : ∃ v, g = upd f o v) : RO f g o := by obtain ⟨v, h⟩ := h; exact RO_u h
theorem RO_p {f g : Nat → Int32} {P : Int32 → Prop} (h : ∃ v, g = upd f o v ∧ P v) : RO f g o := by obtain ⟨v, h, _⟩ := h; exact RO_u h
theorem RO_t {f g k : Nat → Int32} (h : RO f g o) (h2 : RO g k o) : RO f k o := fun j hj => (h2 j hj).trans (h j hj)
theorem RL_e {f g : Nat → Int64} (h : g = f) : RL9 f g o := fun _ _ => by rw [h]
theorem RL_u {f g : Nat → Int64} {v : Int64} (h : g = vp_updL f o v) : RL9 f g o := fun j hj => by rw [h]; exact vp_uLn hj
theorem RL_p {f g : Nat → Int64} {P : Int64 → Prop} (h : ∃ v, g = vp_updL f o v ∧ P v) : RL9 f g o := by obtain ⟨v, h, _⟩ := h; exact RL_u h
theorem RL_t {f g k : Nat → Int64} (h : RL9 f g o) (h2 : RL9 g k o) : RL9 f k o := fun j hj => (h2 j hj).trans (h j hj)
theorem RX_e {f g : Nat → Int32} (h : g = f) : RX f g o := fun _ _ => by rw [h]
theorem RX_t {f g k : Nat → Int32} (h : RX f g o) (h2 : RX g k o) : RX f k o := fun j hj => (h2 j hj).trans (h j hj)
/-- settling an element leaves the others -/
def GF9 (gm gm2 : Nat → Nat → Int32) (lg lg2 : Nat → Nat → Int64) (o : Nat) : Prop := RO (gm 11) (gm2 11) o ∧ RO (gm 21) (gm2 21) o ∧ RO (gm 22) (gm2 22) o ∧ RO (gm 23) (gm2 23) o ∧ RO (gm 24) (gm2 24) o ∧ RO (gm 25) (gm2 25) o ∧ RO (gm 26) (gm2 26) o ∧ RX (gm 56) (gm2 56) o ∧ RL9 (lg 2) (lg2 2) o ∧ RL9 (lg 3) (lg2 3) o
theorem CTX_o {j : Nat} (h : CTX gm j C) (h11 : RO (gm 11) (gm2 11) o) (h56 : RX (gm 56) (gm2 56) o) (hj : j ≠ o) : CTX gm2 j C := by
  refine ⟨by rw [h11 j hj]; exact h.1, h.2.1, fun i x hx => ?_⟩
  have hi : i < 24 := by have := (List.getElem?_eq_some_iff.mp hx).1; have := h.2.1; omega
  rw [h56 _ (by omega)]; exact h.2.2 i x hx
/-- a text as it lies in the rows -/
def ctC (gm : Nat → Nat → Int32) (e : Nat) : List Int := (List.range (gm 11 e).toNatClampNeg).map (fun i => (gm 56 (24 * e + i)).toInt)
theorem ctC_l : (ctC gm e).length = (gm 11 e).toNatClampNeg := by unfold ctC; rw [List.length_map, List.length_range]
theorem CTX_c (h : iv 0 24 (gm 11 e)) : CTX gm e (ctC gm e) := by
  have h1 := iv_cl h (by decide)
  have h2 := h.2
  have h3 := h.1
  refine ⟨by rw [ctC_l]; omega, by rw [ctC_l]; omega, fun i x hx => ?_⟩
  unfold ctC at hx
  rw [List.getElem?_map] at hx
  cases q : (List.range (gm 11 e).toNatClampNeg)[i]? with
  | none => rw [q] at hx; cases hx
  | some y =>
    rw [q] at hx
    have e2 : y = i := by
      have hi := (List.getElem?_eq_some_iff.mp q).1
      rw [List.length_range] at hi
      rw [List.getElem?_range hi] at q
      exact (Option.some.inj q).symm
    rw [← Option.some.inj hx, e2]
/-- the text of D -/
def dTT (D : List El7) (e : Nat) : List Int := ((dEl D e).2.2.2.2.2).take (dTx D e)
def TXD (D : List El7) (gm : Nat → Nat → Int32) (e : Nat) : Prop := TXC7 (dEl D e) gm e ∧ (gm 11 e).toInt = (dTx D e : Int)
theorem TXD_o {D : List El7} {j : Nat} (h : TXD D gm j) (h11 : RO (gm 11) (gm2 11) o) (h56 : RX (gm 56) (gm2 56) o) (hj : j ≠ o) : TXD D gm2 j := by
  obtain ⟨⟨a1, a2, a3⟩, b⟩ := h
  refine ⟨⟨a1, a2, fun i x hx hi => ?_⟩, by rw [h11 j hj]; exact b⟩
  rw [h56 _ (by omega)]; exact a3 i x hx hi
theorem TXD_e {D : List El7} {j : Nat} (h : TXD D gm j) (h11 : gm2 11 = gm 11) (h56 : gm2 56 = gm 56) : TXD D gm2 j := by unfold TXD TXC7 at *; rw [h11, h56]; exact h
theorem TXD_w {D : List El7} (h : TXD D gm e) (hC : CTX gm e C) : WQ9 C (dTT D e) := by
  obtain ⟨⟨a1, a2, a3⟩, b⟩ := h
  have hl : (dTT D e).length = dTx D e := by unfold dTT; rw [List.length_take]; unfold dTx at *; omega
  have hl2 : C.length = dTx D e := by have := hC.1; omega
  refine ⟨by omega, fun i c t h1 h2 => ?_⟩
  have hi := (List.getElem?_eq_some_iff.mp h1).1
  have e2 := hC.2.2 i c h1
  unfold dTT at h2
  rw [List.getElem?_take_of_lt (by omega)] at h2
  have h24 := hC.2.1
  rcases a3 i t h2 (by omega) with q | q
  · exact Or.inl (by omega)
  · exact Or.inr ⟨q.1, by omega⟩
/-- an element that is settled -/
def SE9 (D : List El7) (gm : Nat → Nat → Int32) (lg : Nat → Nat → Int64) (e : Nat) : Prop :=
  (dKd D e = 4 → (gm 23 e).toInt = pl7 (dAt D e) 24948 ∧ TQ9 (dAt D e) 1954115685 (gm 24 e).toInt) ∧ (dKd D e = 5 ∨ dKd D e = 10 → (gm 22 e).toInt = lv7 (dAt D e) 1851878757) ∧ (dKd D e = 10 ∨ dKd D e = 8 → lg 2 e = nv7 (dAt D e) 1650811246) ∧ (dKd D e = 2 → lg 2 e = nv7 (dAt D e) 1851878757)
  ∧ (dKd D e = 4 ∨ dKd D e = 5 → SC9 (dAt D e) gm gm lg e (gm 14 e)) ∧ (¬ dKd D e = 4 → ¬ dKd D e = 5 → gm 25 e = gm 14 e) ∧ (dKd D e = 7 → ∃ C, CTX gm e C ∧ NT9 gm lg e C ∧ WQ9 C (dTT D e))
theorem SE_o {D : List El7} {j : Nat} (h : SE9 D gm lg j) (hG : GF9 gm gm2 lg lg2 o) (hj : j ≠ o) (h14 : gm2 14 = gm 14) (h16 : gm2 16 = gm 16) : SE9 D gm2 lg2 j := by
  obtain ⟨a1, a2, a3, a4, a5, a6, a7⟩ := h
  obtain ⟨b11, b21, b22, b23, b24, b25, b26, b56, l2, l3⟩ := hG
  refine ⟨fun q => by rw [b23 j hj, b24 j hj]; exact a1 q, fun q => by rw [b22 j hj]; exact a2 q, fun q => by rw [l2 j hj]; exact a3 q, fun q => by rw [l2 j hj]; exact a4 q, fun q => ?_, fun q1 q2 => by rw [b25 j hj, h14]; exact a6 q1 q2, fun q => ?_⟩
  · rw [h14]
    unfold SC9 NT9
    rw [h16, b26 j hj, b25 j hj, l2 j hj, l3 j hj, b21 j hj]
    rcases a5 q with w | ⟨w1, w2, w3⟩
    · exact Or.inl w
    · refine Or.inr ⟨w1, w2, ?_⟩
      rcases w3 with ⟨v1, v2, V, v3, v4, v5⟩ | w3
      · exact Or.inl ⟨v1, v2, V, v3, CTX_o v4 b11 b56 hj, v5⟩
      · exact Or.inr w3
  · obtain ⟨C, c1, c2, c3⟩ := a7 q
    refine ⟨C, CTX_o c1 b11 b56 hj, ?_, c3⟩
    unfold NT9
    rw [l3 j hj, b21 j hj]; exact c2
theorem SE_4 {D : List El7} {f g : Nat → Int32} {r s w : Int32} {g1 : Nat → Nat → Int32} (hk : dKd D o = 4) (h23 : gm 23 = upd f o r) (hr : r.toInt = pl7 (dAt D o) 24948) (h24 : gm 24 = upd g o s) (hs : TQ9 (dAt D o) 1954115685 s.toInt) (hS : SC9 (dAt D o) g1 gm lg o w) (h16 : gm 16 = g1 16) (hw : w = gm 14 o) : SE9 D gm lg o := by
  refine ⟨fun _ => ⟨by rw [h23, upd_at]; exact hr, by rw [h24, upd_at]; exact hs⟩, fun q => by omega, fun q => by omega, fun q => by omega, fun _ => ?_, fun q => absurd hk q, fun q => by omega⟩
  rw [← hw]; unfold SC9 at *; rw [h16]; exact hS
theorem SE_5 {D : List El7} {f : Nat → Int32} {r w : Int32} {g1 : Nat → Nat → Int32} (hk : dKd D o = 5) (h22 : gm 22 = upd f o r) (hr : r.toInt = lv7 (dAt D o) 1851878757) (hS : SC9 (dAt D o) g1 gm lg o w) (h16 : gm 16 = g1 16) (hw : w = gm 14 o) : SE9 D gm lg o := by
  refine ⟨fun q => by omega, fun _ => by rw [h22, upd_at]; exact hr, fun q => by omega, fun q => by omega, fun _ => ?_, fun _ q => absurd hk q, fun q => by omega⟩
  rw [← hw]; unfold SC9 at *; rw [h16]; exact hS
theorem SE_10 {D : List El7} {f : Nat → Int32} {l : Nat → Int64} {r : Int32} {v : Int64} (hk : dKd D o = 10) (h25 : gm 25 o = gm 14 o) (h22 : gm 22 = upd f o r) (hr : r.toInt = lv7 (dAt D o) 1851878757) (h2 : lg 2 = vp_updL l o v) (hv : v = nv7 (dAt D o) 1650811246) : SE9 D gm lg o :=
  ⟨fun q => by omega, fun _ => by rw [h22, upd_at]; exact hr, fun _ => by rw [h2, vp_uL]; exact hv, fun q => by omega, fun q => by omega, fun _ _ => h25, fun q => by omega⟩
theorem SE_8 {D : List El7} {l : Nat → Int64} {v : Int64} (hk : dKd D o = 8) (h25 : gm 25 o = gm 14 o) (h2 : lg 2 = vp_updL l o v) (hv : v = nv7 (dAt D o) 1650811246) : SE9 D gm lg o :=
  ⟨fun q => by omega, fun q => by omega, fun _ => by rw [h2, vp_uL]; exact hv, fun q => by omega, fun q => by omega, fun _ _ => h25, fun q => by omega⟩
theorem SE_2 {D : List El7} {l : Nat → Int64} {v : Int64} (hk : dKd D o = 2) (h25 : gm 25 o = gm 14 o) (h2 : lg 2 = vp_updL l o v) (hv : v = nv7 (dAt D o) 1851878757) : SE9 D gm lg o :=
  ⟨fun q => by omega, fun q => by omega, fun q => by omega, fun _ => by rw [h2, vp_uL]; exact hv, fun q => by omega, fun _ _ => h25, fun q => by omega⟩
theorem SE_7 {D : List El7} {g1 : Nat → Nat → Int32} (hk : dKd D o = 7) (h25 : gm 25 o = gm 14 o) (hT : TXD D g1 o) (hC : CTX gm o C) (h11 : gm 11 = g1 11) (h56 : gm 56 = g1 56) (hN : NT9 gm lg o C) : SE9 D gm lg o :=
  ⟨fun q => by omega, fun q => by omega, fun q => by omega, fun q => by omega, fun q => by omega, fun _ _ => h25, fun _ => ⟨C, hC, hN, TXD_w (TXD_e hT h11 h56) hC⟩⟩
theorem SE_n {D : List El7} (h25 : gm 25 o = gm 14 o) (n4 : ¬ dKd D o = 4) (n5 : ¬ dKd D o = 5) (n10 : ¬ dKd D o = 10) (n8 : ¬ dKd D o = 8) (n2 : ¬ dKd D o = 2) (n7 : ¬ dKd D o = 7) : SE9 D gm lg o :=
  ⟨fun q => by omega, fun q => by omega, fun q => by omega, fun q => by omega, fun q => by omega, fun _ _ => h25, fun q => by omega⟩
/-- a bean that has begun -/
abbrev YN9 (A : At7) (k v : Int64) (r : Int32) : Prop := (r.toInt = 1 ∧ nv7 A k = v) ∨ (r.toInt = 0 ∧ ¬ nv7 A k = v)
def BH9 (A : At7) (gm : Nat → Nat → Int32) (lg : Nat → Nat → Int64) (b : Nat) : Prop := lg 4 b = nv7 A 26980 ∧ lg 5 b = nv7 A 123563833388660 ∧ lg 6 b = nv7 A 28259031083541619 ∧ YN9 A 7017298113369039732 7955827 (gm 34 b) ∧ YN9 A 495589486693 1835101817 (gm 35 b) ∧ YN9 A 1818327673 7955827 (gm 36 b)
def BZ9 (gm : Nat → Nat → Int32) (lg : Nat → Nat → Int64) (b : Nat) : Prop := lg 7 b = 0 ∧ gm 30 b = -1 ∧ gm 31 b = -1 ∧ gm 32 b = -1 ∧ gm 33 b = -1
def BF9 (gm gm2 : Nat → Nat → Int32) (lg lg2 : Nat → Nat → Int64) (b : Nat) : Prop := RO (gm 30) (gm2 30) b ∧ RO (gm 31) (gm2 31) b ∧ RO (gm 32) (gm2 32) b ∧ RO (gm 33) (gm2 33) b ∧ RO (gm 34) (gm2 34) b ∧ RO (gm 35) (gm2 35) b ∧ RO (gm 36) (gm2 36) b ∧ RL9 (lg 4) (lg2 4) b ∧ RL9 (lg 5) (lg2 5) b ∧ RL9 (lg 6) (lg2 6) b ∧ RL9 (lg 7) (lg2 7) b
theorem BH_o {b c : Nat} (h : BH9 A gm lg c) (hF : BF9 gm gm2 lg lg2 b) (hc : c ≠ b) : BH9 A gm2 lg2 c := by
  obtain ⟨_, _, _, _, r34, r35, r36, l4, l5, l6, _⟩ := hF
  unfold BH9
  rw [l4 c hc, l5 c hc, l6 c hc, r34 c hc, r35 c hc, r36 c hc]; exact h
theorem BZ_o {b c : Nat} (h : BZ9 gm lg c) (hF : BF9 gm gm2 lg lg2 b) (hc : c ≠ b) : BZ9 gm2 lg2 c := by
  obtain ⟨r30, r31, r32, r33, _, _, _, _, _, _, l7⟩ := hF
  unfold BZ9
  rw [l7 c hc, r30 c hc, r31 c hc, r32 c hc, r33 c hc]; exact h
theorem upd_av {f g : Nat → Int32} {k : Nat} {v : Int32} (h : g = upd f k v) : g k = v := by rw [h, upd_at]
theorem vpu_av {f g : Nat → Int64} {k : Nat} {v : Int64} (h : g = vp_updL f k v) : g k = v := by rw [h, vp_uL]
theorem LVP_lv {j : Nat} {k : Int64} {P5 P6 : Int} (h : LVP gm lg j k) (ha : ATC A gm lg j P5 P6) : 0 ≤ lv7 A k := by
  obtain ⟨a, h1, h2, h3, h4, h5⟩ := h
  have q := v_1 (z := gm 46 ((gm 44 a.toNatClampNeg).toNatClampNeg + (0 : Int32).toNatClampNeg)) h1 ha h2 h3 rfl
  rw [show (0 : Int32).toNatClampNeg = 0 by decide, Nat.add_zero] at q
  rw [(lv_s q).1, if_pos ⟨h4, h5⟩]; omega
end SE9
end
section
set_option maxHeartbeats 4000000 in
set_option maxRecDepth 100000 in
theorem d_typeValue9 (l : Launch) (dC : Nat → ClassId) (dI : Nat → Nat → Nat) (ad : Nat → Nat → Nat) (cid : Nat → ClassId) (a2 : Nat → Nat) (lx : List Nat) (sg : Nat → Int32) (gm : Nat → Nat → Int32) (lg : Nat → Nat → Int64) (x : Int32) (o : Int32) (w : Int32) (A7 : At7) (hI : CI sg gm) (hvx : iv 0 0 x) (hvo : iv 0 79 o) (hvw : iv 0 33 w) (hFA : FA sg gm) (how : o.toInt < (sg 4).toInt) (hVS : VS sg gm) (hat : ATC A7 gm lg o.toNatClampNeg (sg 5).toInt (sg 6).toInt) : CMt dC dI ad cid a2 lx l yX6_typeValue wm_X6_typeValue ({ frames := 2, cells := 1, slots := 6, locals := 51 }) [eV (ad 1) x, eV (ad 9) o, eV (ad 33) w] sg gm lg (fun v u => ∃ r : Int32, v = some (.int r) ∧ u = (sg, gm, lg) ∧ (iv (-1) 15 r) ∧ (TQ9 A7 (wKy.getD w.toNatClampNeg 0) r.toInt)) (fun _ _ => False) := by
  intro sz
  refine vx_ofW (cc := cX6_typeValue) (maxL := 5) (ret := (some .int)) (by decide) rfl ?_
  intro p e s m args below meth c s₁ B hml hxt hv
  obtain ⟨rfl, hsz, hP, hK, hD0, hG⟩ := hv
  have hx := B.exec
  have hb := B.bytes
  have hr := B.returns
  have hts := atoms_spec (ws := wm_X6_typeValue) B.pre
  have htb := fun (w : Cond) (h : w ∈ tb) => hts w (List.mem_cons_of_mem _ h)
  have hown : s.vm.findClass RX6 = some m.cls := findClass_of_methodNamed B.named
  have hlocks := B.notSynchronized
  subst hsz
  have hD := hD0.self (sz := s.heap.size)
  generalize hAe : va_A (cW ad cid a2 lx sg gm lg) s.heap.size = A at hD hG ⊢
  have hA : ∀ q : Nat, s.heap.size ≤ q → A q := fun q h => by rw [← hAe]; exact Or.inr h
  have hS : va_S A s.heap s.heap [] := va_S.rf
  have hl := lv_entry ([eV (ad 1) x, eV (ad 9) o, eV (ad 33) w]) (n := 5) (by rw [show (lg_sl ([eV (ad 1) x, eV (ad 9) o, eV (ad 33) w])).length = 3 from by simp [lg_sl, eV_cat, cat_i, cat_l]]; exact Nat.le_of_ble_eq_true rfl)
  rw [lg_entry_eq]
  generalize (lg_sl ([eV (ad 1) x, eV (ad 9) o, eV (ad 33) w]) ++ List.replicate (5 - (lg_sl ([eV (ad 1) x, eV (ad 9) o, eV (ad 33) w])).length) Slot.unset).toArray = ls at hl ⊢
  have hl : lv_has ls 5 [(0, eV (ad 1) x), (1, eV (ad 9) o), (2, eV (ad 33) w)] := by simp [lv_args, eV_cat, cat_i, cat_l] at hl; exact hl
  refine ec_aload_n hx hb dX6_typeValue_0 rfl (lv_at hl 0 rfl) ?_
  refine ec_aload_n hx hb dX6_typeValue_1 rfl (lv_at hl 1 rfl) ?_
  refine ec_aload_n hx hb dX6_typeValue_2 rfl (lv_at hl 2 rfl) ?_
  refine cm_callV (t := 1) (C := RX6) (T := TX6) (N := 8) (rest := []) (as := [eV (ad 9) o, eV (ad 33) w]) ⟨hx, hb, hml, hown, htb⟩ (d_classValue2 l dC dI ad cid a2 lx sg gm lg x o w A7 hI hvx hvo hvw hFA how hVS hat) (cwV 2 htb (gd_V kw_727 kw_711 kw_712 kw_149 kw_1483) rfl rfl rfl (by decide +kernel) ⟨Nat.le_of_ble_eq_true rfl, Nat.le_of_ble_eq_true rfl⟩) hvx (by decide) (by decide) rfl rfl hl.1 rfl (Nat.le_trans cs_n (by decide)) dX6_typeValue_3 ⟨Nat.le_of_ble_eq_true rfl, Nat.le_of_ble_eq_true rfl⟩ hK hP hD hS hA hG (fun E ce q9 u_2 H locs hw hP hD hS hce hcv hcl => ?_) (fun v9 u_2 H locs hw hP hD hS => ?_)
  · exact hw.elim
  obtain ⟨r_1, rfl, rfl, hr_1, fK_r_1⟩ := hw
  have hP : va_P (dC, dI) vwCl (cW ad cid a2 lx sg gm lg) H := hP
  have hD : va_D A (cW ad cid a2 lx sg gm lg) := hD
  refine W.eq (g2 := F0 m 6 ls [.int r_1]) rfl ?_
  refine lv_istore_n (i := 3) (lv' := [(3, .int r_1), (0, eV (ad 1) x), (1, eV (ad 9) o), (2, eV (ad 33) w)]) hx hb dX6_typeValue_6 rfl hl (by decide) (by simp [List.filter, eV_cat, cat_i, cat_l]) (fun ls hl => ?_)
  refine lv_iload_n hx hb dX6_typeValue_7 rfl (lv_at hl 0 rfl) ?_
  refine lv_iconst (v := (-1)) hx hb dX6_typeValue_8 (by decide) ?_
  refine lv_icmp_eq (tgt := 17) hx hb dX6_typeValue_9 (by decide) (fun c_4 => ?_) (fun c_4 => ?_)
  · have h_5 : iv (-1) (-1) r_1 := iv_eq c_4 hr_1 (iv_k (by decide) : iv (-1) (-1) (-1)) (by decide)
    refine ec_aload_n hx hb dX6_typeValue_17 rfl (lv_at hl 1 rfl) ?_
    refine ec_aload_n hx hb dX6_typeValue_18 rfl (lv_at hl 2 rfl) ?_
    refine ec_aload_n hx hb dX6_typeValue_19 rfl (lv_at hl 3 rfl) ?_
    refine cm_callV (t := 1) (C := RX6) (T := TX6) (N := 8) (rest := []) (as := [eV (ad 9) o, eV (ad 33) w]) ⟨hx, hb, hml, hown, htb⟩ (d_nameValue3 l dC dI ad cid a2 lx sg gm lg x o w A7 hI hvx hvo hvw hFA how hVS hat) (cwV 2 htb (gd_V kw_717 kw_708 kw_709 kw_149 kw_1482) rfl rfl rfl (by decide +kernel) ⟨Nat.le_of_ble_eq_true rfl, Nat.le_of_ble_eq_true rfl⟩) hvx (by decide) (by decide) rfl rfl hl.1 rfl (Nat.le_trans cs_n (by decide)) dX6_typeValue_20 ⟨Nat.le_of_ble_eq_true rfl, Nat.le_of_ble_eq_true rfl⟩ hK hP hD hS hA hG (fun E ce q9 u_7 H locs hw hP hD hS hce hcv hcl => ?_) (fun v9 u_7 H locs hw hP hD hS => ?_)
    · exact hw.elim
    obtain ⟨r_6, rfl, rfl, fN_r_6, fZ_r_6⟩ := hw
    have hP : va_P (dC, dI) vwCl (cW ad cid a2 lx sg gm lg) H := hP
    have hD : va_D A (cW ad cid a2 lx sg gm lg) := hD
    refine W.eq (g2 := F0 m 23 ls [.long r_6]) rfl ?_
    refine cm_callS (rest := []) (as := [.long r_6]) ⟨hx, hb, hml, hown, htb⟩ (d_withKey2 l dC dI ad cid a2 lx sg gm lg r_6 hI) (va_cwS 1 htb (gd_S kw_694 kw_583 kw_163 kw_1438) rfl rfl rfl (by decide +kernel) ⟨Nat.le_of_ble_eq_true rfl, Nat.le_of_ble_eq_true rfl⟩)  rfl hl.1 rfl (Nat.le_trans cs_n (by decide)) dX6_typeValue_23 ⟨Nat.le_of_ble_eq_true rfl, Nat.le_of_ble_eq_true rfl⟩ hK hP hD hS hA hG (fun E ce q9 u_10 H locs hw hP hD hS hce hcv hcl => ?_) (fun v9 u_10 H locs hw hP hD hS => ?_)
    · exact hw.elim
    obtain ⟨r_9, rfl, rfl, hr_9, fW_r_9⟩ := hw
    have hP : va_P (dC, dI) vwCl (cW ad cid a2 lx sg gm lg) H := hP
    have hD : va_D A (cW ad cid a2 lx sg gm lg) := hD
    refine W.eq (g2 := F0 m 26 ls [eV (ad 33) r_9]) rfl ?_
    refine ec_astore (i := 4) (lv' := [(4, eV (ad 33) r_9), (3, .int r_1), (0, eV (ad 1) x), (1, eV (ad 9) o), (2, eV (ad 33) w)]) hx hb dX6_typeValue_26 hl (by decide) rfl (fun ls hl => ?_)
    refine ec_aload hx hb dX6_typeValue_28 (lv_at hl 0 rfl) ?_
    refine ec_ifnonnull (tgt := 35) hx hb dX6_typeValue_30 (by decide) (fun c_12 => ?_) (fun c_12 => ?_)
    · have h_13 : iv 0 33 r_9 := ⟨c_12, (hr_9).2⟩
      refine cw_sw hx hb hG hS hown (htb _ kw_728) dX6_typeValue_35 ?_
      refine ec_aload hx hb dX6_typeValue_38 (lv_at hl 0 rfl) ?_
      refine cw_ord ⟨hx, hb, hml, hown, htb⟩ kw_729 h_13 hl.1 (Nat.le_trans (cs_c (eV_cat _ _) cs_n) (by decide)) dX6_typeValue_40 ⟨Nat.le_of_ble_eq_true rfl, Nat.le_of_ble_eq_true rfl⟩ ⟨Nat.le_of_ble_eq_true rfl, Nat.le_of_ble_eq_true rfl⟩ hP hD hS hA hG (fun H locs hP hS => ?_)
      refine cw_swld (iv_k (by decide) : iv 0 0 0) hx hb hG hS h_13 dX6_typeValue_43 ?_
      refine lv_topi (fun z_14 ez_14 => ?_)
      have hz_14 : iv 0 29 z_14 := iv_of ez_14 (sw_iv r_9)
      by_cases c_15 : (z_14 : Int32).toInt = 1
      · refine lv_tableIn (tgt := 80) hx hb dX6_typeValue_44 (by rw [c_15]; decide) (by rw [c_15]; decide) (by rw [c_15]; rfl) (by decide) ?_
        have h_16 : iv 1 1 z_14 := iv_at c_15
        refine lv_iconst (v := 0) hx hb dX6_typeValue_80 (by decide) ?_
        exact W.nb (fun hN => W.widen (k := 1) (n := 6) (by decide) (by decide) (vx_ret (W.iret (v := 0) hx hb hr (fun t ht hW => ⟨⟨some (.int 0), (sg, gm, lg), rfl, ⟨0, rfl, rfl, (iv_w (iv_k (by decide) : iv 0 0 0) (by decide)), (Or.inr (Or.inl ⟨(by rw [← fK_r_1]; have := i32_0; have := i32_1; have := i32_2; have := i32_m1; have := (hvx).1; have := (hvx).2; have := (hvo).1; have := (hvo).2; have := (hvw).1; have := (hvw).2; have := (h_5).1; have := (h_5).2; have := (h_13).1; have := (h_13).2; have := (h_16).1; have := (h_16).2; omega), 0, (by decide), (by decide), ty_w (n := 29) (by have q9 := fW_r_9; rw [fN_r_6] at q9; exact q9) (by have := i32_0; have := i32_1; have := i32_2; have := i32_m1; have := (hvx).1; have := (hvx).2; have := (hvo).1; have := (hvo).2; have := (hvw).1; have := (hvw).2; have := (h_5).1; have := (h_5).2; have := (h_13).1; have := (h_13).2; have := (h_16).1; have := (h_16).2; omega) (swy 29 1 (by decide) (h_13) ez_14 c_15)⟩))⟩, by rw [ht]; exact hP, va_K.moved hW.alike hK, hD⟩, hS.F ht, by rw [ht]; exact hN⟩) hS.2.2 dX6_typeValue_81)))
      by_cases c_17 : (z_14 : Int32).toInt = 2
      · refine lv_tableIn (tgt := 82) hx hb dX6_typeValue_44 (by rw [c_17]; decide) (by rw [c_17]; decide) (by rw [c_17]; rfl) (by decide) ?_
        have h_18 : iv 2 2 z_14 := iv_at c_17
        refine lv_iconst (v := 1) hx hb dX6_typeValue_82 (by decide) ?_
        exact W.nb (fun hN => W.widen (k := 1) (n := 6) (by decide) (by decide) (vx_ret (W.iret (v := 1) hx hb hr (fun t ht hW => ⟨⟨some (.int 1), (sg, gm, lg), rfl, ⟨1, rfl, rfl, (iv_w (iv_k (by decide) : iv 1 1 1) (by decide)), (Or.inr (Or.inl ⟨(by rw [← fK_r_1]; have := i32_0; have := i32_1; have := i32_2; have := i32_m1; have := (hvx).1; have := (hvx).2; have := (hvo).1; have := (hvo).2; have := (hvw).1; have := (hvw).2; have := (h_5).1; have := (h_5).2; have := (h_13).1; have := (h_13).2; have := (h_18).1; have := (h_18).2; omega), 1, (by decide), (by decide), ty_w (n := 30) (by have q9 := fW_r_9; rw [fN_r_6] at q9; exact q9) (by have := i32_0; have := i32_1; have := i32_2; have := i32_m1; have := (hvx).1; have := (hvx).2; have := (hvo).1; have := (hvo).2; have := (hvw).1; have := (hvw).2; have := (h_5).1; have := (h_5).2; have := (h_13).1; have := (h_13).2; have := (h_18).1; have := (h_18).2; omega) (swy 30 2 (by decide) (h_13) ez_14 c_17)⟩))⟩, by rw [ht]; exact hP, va_K.moved hW.alike hK, hD⟩, hS.F ht, by rw [ht]; exact hN⟩) hS.2.2 dX6_typeValue_83)))
      by_cases c_19 : (z_14 : Int32).toInt = 3
      · refine lv_tableIn (tgt := 84) hx hb dX6_typeValue_44 (by rw [c_19]; decide) (by rw [c_19]; decide) (by rw [c_19]; rfl) (by decide) ?_
        have h_20 : iv 3 3 z_14 := iv_at c_19
        refine lv_iconst (v := 2) hx hb dX6_typeValue_84 (by decide) ?_
        exact W.nb (fun hN => W.widen (k := 1) (n := 6) (by decide) (by decide) (vx_ret (W.iret (v := 2) hx hb hr (fun t ht hW => ⟨⟨some (.int 2), (sg, gm, lg), rfl, ⟨2, rfl, rfl, (iv_w (iv_k (by decide) : iv 2 2 2) (by decide)), (Or.inr (Or.inl ⟨(by rw [← fK_r_1]; have := i32_0; have := i32_1; have := i32_2; have := i32_m1; have := (hvx).1; have := (hvx).2; have := (hvo).1; have := (hvo).2; have := (hvw).1; have := (hvw).2; have := (h_5).1; have := (h_5).2; have := (h_13).1; have := (h_13).2; have := (h_20).1; have := (h_20).2; omega), 2, (by decide), (by decide), ty_w (n := 31) (by have q9 := fW_r_9; rw [fN_r_6] at q9; exact q9) (by have := i32_0; have := i32_1; have := i32_2; have := i32_m1; have := (hvx).1; have := (hvx).2; have := (hvo).1; have := (hvo).2; have := (hvw).1; have := (hvw).2; have := (h_5).1; have := (h_5).2; have := (h_13).1; have := (h_13).2; have := (h_20).1; have := (h_20).2; omega) (swy 31 3 (by decide) (h_13) ez_14 c_19)⟩))⟩, by rw [ht]; exact hP, va_K.moved hW.alike hK, hD⟩, hS.F ht, by rw [ht]; exact hN⟩) hS.2.2 dX6_typeValue_85)))
      by_cases c_21 : (z_14 : Int32).toInt = 4
      · refine lv_tableIn (tgt := 86) hx hb dX6_typeValue_44 (by rw [c_21]; decide) (by rw [c_21]; decide) (by rw [c_21]; rfl) (by decide) ?_
        have h_22 : iv 4 4 z_14 := iv_at c_21
        refine lv_iconst (v := 3) hx hb dX6_typeValue_86 (by decide) ?_
        exact W.nb (fun hN => W.widen (k := 1) (n := 6) (by decide) (by decide) (vx_ret (W.iret (v := 3) hx hb hr (fun t ht hW => ⟨⟨some (.int 3), (sg, gm, lg), rfl, ⟨3, rfl, rfl, (iv_w (iv_k (by decide) : iv 3 3 3) (by decide)), (Or.inr (Or.inl ⟨(by rw [← fK_r_1]; have := i32_0; have := i32_1; have := i32_2; have := i32_m1; have := (hvx).1; have := (hvx).2; have := (hvo).1; have := (hvo).2; have := (hvw).1; have := (hvw).2; have := (h_5).1; have := (h_5).2; have := (h_13).1; have := (h_13).2; have := (h_22).1; have := (h_22).2; omega), 3, (by decide), (by decide), ty_w (n := 32) (by have q9 := fW_r_9; rw [fN_r_6] at q9; exact q9) (by have := i32_0; have := i32_1; have := i32_2; have := i32_m1; have := (hvx).1; have := (hvx).2; have := (hvo).1; have := (hvo).2; have := (hvw).1; have := (hvw).2; have := (h_5).1; have := (h_5).2; have := (h_13).1; have := (h_13).2; have := (h_22).1; have := (h_22).2; omega) (swy 32 4 (by decide) (h_13) ez_14 c_21)⟩))⟩, by rw [ht]; exact hP, va_K.moved hW.alike hK, hD⟩, hS.F ht, by rw [ht]; exact hN⟩) hS.2.2 dX6_typeValue_87)))
      by_cases c_23 : (z_14 : Int32).toInt = 5
      · refine lv_tableIn (tgt := 88) hx hb dX6_typeValue_44 (by rw [c_23]; decide) (by rw [c_23]; decide) (by rw [c_23]; rfl) (by decide) ?_
        have h_24 : iv 5 5 z_14 := iv_at c_23
        refine lv_iconst (v := 4) hx hb dX6_typeValue_88 (by decide) ?_
        exact W.nb (fun hN => W.widen (k := 1) (n := 6) (by decide) (by decide) (vx_ret (W.iret (v := 4) hx hb hr (fun t ht hW => ⟨⟨some (.int 4), (sg, gm, lg), rfl, ⟨4, rfl, rfl, (iv_w (iv_k (by decide) : iv 4 4 4) (by decide)), (Or.inr (Or.inl ⟨(by rw [← fK_r_1]; have := i32_0; have := i32_1; have := i32_2; have := i32_m1; have := (hvx).1; have := (hvx).2; have := (hvo).1; have := (hvo).2; have := (hvw).1; have := (hvw).2; have := (h_5).1; have := (h_5).2; have := (h_13).1; have := (h_13).2; have := (h_24).1; have := (h_24).2; omega), 4, (by decide), (by decide), ty_w (n := 33) (by have q9 := fW_r_9; rw [fN_r_6] at q9; exact q9) (by have := i32_0; have := i32_1; have := i32_2; have := i32_m1; have := (hvx).1; have := (hvx).2; have := (hvo).1; have := (hvo).2; have := (hvw).1; have := (hvw).2; have := (h_5).1; have := (h_5).2; have := (h_13).1; have := (h_13).2; have := (h_24).1; have := (h_24).2; omega) (swy 33 5 (by decide) (h_13) ez_14 c_23)⟩))⟩, by rw [ht]; exact hP, va_K.moved hW.alike hK, hD⟩, hS.F ht, by rw [ht]; exact hN⟩) hS.2.2 dX6_typeValue_89)))
      refine lv_tableOut (tgt := 90) hx hb dX6_typeValue_44 (by have q1 := (hz_14).1; have q2 := (hz_14).2; omega) (by decide) ?_
      refine lv_iconst (v := (-1)) hx hb dX6_typeValue_90 (by decide) ?_
      exact W.nb (fun hN => W.widen (k := 1) (n := 6) (by decide) (by decide) (vx_ret (W.iret (v := (-1)) hx hb hr (fun t ht hW => ⟨⟨some (.int (-1)), (sg, gm, lg), rfl, ⟨(-1), rfl, rfl, (iv_w (iv_k (by decide) : iv (-1) (-1) (-1)) (by decide)), (Or.inr (Or.inr ⟨rfl, ty_f (by have q9 := fW_r_9; rw [fN_r_6] at q9; exact q9) (by rw [← fK_r_1]; have := i32_0; have := i32_1; have := i32_2; have := i32_m1; have := (hvx).1; have := (hvx).2; have := (hvo).1; have := (hvo).2; have := (hvw).1; have := (hvw).2; have := (h_5).1; have := (h_5).2; have := (h_13).1; have := (h_13).2; have := (hz_14).1; have := (hz_14).2; omega) (fun q8 => by have q7 := swT r_9.toNatClampNeg (by have := q8.2; have : r_9.toNatClampNeg = r_9.toInt.toNat := rfl; omega); rw [← ez_14] at q7; have : r_9.toNatClampNeg = r_9.toInt.toNat := rfl; have := i32_0; have := i32_1; have := i32_2; have := i32_m1; have := (hvx).1; have := (hvx).2; have := (hvo).1; have := (hvo).2; have := (hvw).1; have := (hvw).2; have := (h_5).1; have := (h_5).2; have := (h_13).1; have := (h_13).2; have := (hz_14).1; have := (hz_14).2; omega)⟩))⟩, by rw [ht]; exact hP, va_K.moved hW.alike hK, hD⟩, hS.F ht, by rw [ht]; exact hN⟩) hS.2.2 dX6_typeValue_91)))
    · have h_25 : iv (-1) (-1) r_9 := ⟨(hr_9).1, by omega⟩
      refine lv_iconst (v := (-1)) hx hb dX6_typeValue_33 (by decide) ?_
      exact W.nb (fun hN => W.widen (k := 1) (n := 6) (by decide) (by decide) (vx_ret (W.iret (v := (-1)) hx hb hr (fun t ht hW => ⟨⟨some (.int (-1)), (sg, gm, lg), rfl, ⟨(-1), rfl, rfl, (iv_w (iv_k (by decide) : iv (-1) (-1) (-1)) (by decide)), (Or.inr (Or.inr ⟨rfl, ty_f (by have q9 := fW_r_9; rw [fN_r_6] at q9; exact q9) (by rw [← fK_r_1]; have := i32_0; have := i32_1; have := i32_2; have := i32_m1; have := (hvx).1; have := (hvx).2; have := (hvo).1; have := (hvo).2; have := (hvw).1; have := (hvw).2; have := (h_5).1; have := (h_5).2; have := (h_25).1; have := (h_25).2; omega) (by have := i32_0; have := i32_1; have := i32_2; have := i32_m1; have := (hvx).1; have := (hvx).2; have := (hvo).1; have := (hvo).2; have := (hvw).1; have := (hvw).2; have := (h_5).1; have := (h_5).2; have := (h_25).1; have := (h_25).2; omega)⟩))⟩, by rw [ht]; exact hP, va_K.moved hW.alike hK, hD⟩, hS.F ht, by rw [ht]; exact hN⟩) hS.2.2 dX6_typeValue_34)))
  · have h_26 : iv 0 7 r_1 := iv_neL c_4 hr_1 (by decide)
    refine lv_bipush (v := 8) hx hb dX6_typeValue_12 (by decide) ?_
    refine lv_iload_n hx hb dX6_typeValue_14 rfl (lv_at hl 0 rfl) ?_
    refine lv_iadd hx hb dX6_typeValue_15 ?_
    refine lv_topi (fun z_27 ez_27 => ?_)
    have hz_27 : iv 8 15 z_27 := iv_of ez_27 (iv_add (iv_k (by decide) : iv 8 8 8) h_26 (by decide))
    have tz_27 : z_27.toInt = 8 + (r_1 : Int32).toInt := by rw [ez_27]; exact iv_addE (iv_k (by decide) : iv 8 8 8) h_26 (by decide)
    exact W.nb (fun hN => W.widen (k := 1) (n := 6) (by decide) (by decide) (vx_ret (W.iret (v := z_27) hx hb hr (fun t ht hW => ⟨⟨some (.int z_27), (sg, gm, lg), rfl, ⟨z_27, rfl, rfl, (iv_w hz_27 (by decide)), (Or.inl ⟨(by rw [← fK_r_1]; have := i32_0; have := i32_1; have := i32_2; have := i32_m1; have := (hvx).1; have := (hvx).2; have := (hvo).1; have := (hvo).2; have := (hvw).1; have := (hvw).2; have := (h_26).1; have := (h_26).2; have := (hz_27).1; have := (hz_27).2; omega), (by rw [← fK_r_1]; have := i32_0; have := i32_1; have := i32_2; have := i32_m1; have := (hvx).1; have := (hvx).2; have := (hvo).1; have := (hvo).2; have := (hvw).1; have := (hvw).2; have := (h_26).1; have := (h_26).2; have := (hz_27).1; have := (hz_27).2; omega)⟩)⟩, by rw [ht]; exact hP, va_K.moved hW.alike hK, hD⟩, hS.F ht, by rw [ht]; exact hN⟩) hS.2.2 dX6_typeValue_16)))
end
