section
set_option maxHeartbeats 4000000 in
set_option maxRecDepth 100000 in
theorem d_addEv9 (l : Launch) (dC : Nat → ClassId) (dI : Nat → Nat → Nat) (ad : Nat → Nat → Nat) (cid : Nat → ClassId) (a2 : Nat → Nat) (lx : List Nat) (sg : Nat → Int32) (gm : Nat → Nat → Int32) (lg : Nat → Nat → Int64) (x : Int32) (a : Int32) (b : Int32) (f : Int32) (g : Int32) (wg : Nat → Nat → Int32) (S : S9) (hI : CI sg gm) (hvx : iv 0 0 x) (hRC : RC wg lg S sg gm) : CMt dC dI ad cid a2 lx l yX4_add wm_X4_add ({ frames := 0, cells := 1, slots := 6, locals := 0 }) [eV (ad 5) x, .int a, .int b, .int f, .int g] sg gm lg (fun v u => v = none ∧ ∃ (sg2 : Nat → Int32) (gm2 : Nat → Nat → Int32) (lg2 : Nat → Nat → Int64), u = (sg2, gm2, lg2) ∧ CI sg2 gm2 ∧ KS [13] sg sg2 ∧ KS [48] gm gm2 ∧ KS [] lg lg2 ∧ (RC wg lg (zAdd S (a.toInt, b.toInt, f.toInt, g.toInt)) sg2 gm2)) (fun _ _ => False) := by
  intro sz
  refine vx_ofW (cc := cX4_add) (maxL := 6) (ret := none) (by decide) rfl ?_
  intro p e s m args below meth c s₁ B hml hxt hv
  obtain ⟨rfl, hsz, hP, hK, hD0, hG⟩ := hv
  have hx := B.exec
  have hb := B.bytes
  have hr := B.returns
  have hts := atoms_spec (ws := wm_X4_add) B.pre
  have htb := fun (w : Cond) (h : w ∈ tb) => hts w (List.mem_cons_of_mem _ h)
  have hown : s.vm.findClass RX4 = some m.cls := findClass_of_methodNamed B.named
  have hlocks := B.notSynchronized
  subst hsz
  have hD := hD0.self (sz := s.heap.size)
  generalize hAe : va_A (cW ad cid a2 lx sg gm lg) s.heap.size = A at hD hG ⊢
  have hA : ∀ q : Nat, s.heap.size ≤ q → A q := fun q h => by rw [← hAe]; exact Or.inr h
  have hS : va_S A s.heap s.heap [] := va_S.rf
  have hl := lv_entry ([eV (ad 5) x, .int a, .int b, .int f, .int g]) (n := 6) (by rw [show (lg_sl ([eV (ad 5) x, .int a, .int b, .int f, .int g])).length = 5 from by simp [lg_sl, eV_cat, cat_i, cat_l]]; exact Nat.le_of_ble_eq_true rfl)
  rw [lg_entry_eq]
  generalize (lg_sl ([eV (ad 5) x, .int a, .int b, .int f, .int g]) ++ List.replicate (6 - (lg_sl ([eV (ad 5) x, .int a, .int b, .int f, .int g])).length) Slot.unset).toArray = ls at hl ⊢
  have hl : lv_has ls 6 [(0, eV (ad 5) x), (1, .int a), (2, .int b), (3, .int f), (4, .int g)] := by simp [lv_args, eV_cat, cat_i, cat_l] at hl; exact hl
  refine ec_aload_n hx hb dX4_add_0 rfl (lv_at hl 0 rfl) ?_
  refine cr_get (t := 5) (j := 1) (C := RX4) (T := TX4) (N := 2) (v := .int (sg 13)) hx hb htb inX4 hown hK hP hvx (by decide) (by decide) (by decide) rfl (by decide) (htb _ kw_332) rfl dX4_add_1 ?_
  refine lv_sipush (v := 400) hx hb dX4_add_4 (by decide) ?_
  refine lv_icmp_lt (tgt := 11) hx hb dX4_add_7 (by decide) (fun c_1 => ?_) (fun c_1 => ?_)
  · have h_2 : iv 0 399 (sg 13) := iv_ltL c_1 (show iv 0 400 (sg 13) from CI_s hI 13) (iv_k (by decide) : iv 400 400 400) (by decide)
    refine ec_aload_n hx hb dX4_add_11 rfl (lv_at hl 0 rfl) ?_
    refine cr_get (t := 5) (j := 1) (C := RX4) (T := TX4) (N := 2) (v := .int (sg 13)) hx hb htb inX4 hown hK hP hvx (by decide) (by decide) (by decide) rfl (by decide) (htb _ kw_332) rfl dX4_add_12 ?_
    refine lv_iconst (v := 4) hx hb dX4_add_15 (by decide) ?_
    refine lv_imul hx hb dX4_add_16 ?_
    refine lv_topi (fun z_3 ez_3 => ?_)
    have hz_3 : iv 0 1596 z_3 := iv_of ez_3 (iv_mul h_2 (iv_k (by decide) : iv 4 4 4) (by decide))
    have tz_3 : z_3.toInt = ((sg 13) : Int32).toInt * 4 := by rw [ez_3]; exact iv_mulE h_2 (iv_k (by decide) : iv 4 4 4) (by decide)
    refine lv_istore (i := 5) (lv' := [(5, .int z_3), (0, eV (ad 5) x), (1, .int a), (2, .int b), (3, .int f), (4, .int g)]) hx hb dX4_add_17 hl (by decide) rfl (fun ls hl => ?_)
    refine ec_aload_n hx hb dX4_add_19 rfl (lv_at hl 1 rfl) ?_
    refine cr_get (t := 5) (j := 0) (C := RX4) (T := TX4) (N := 2) (v := eV (ad 21) 0) hx hb htb inX4 hown hK hP hvx (by decide) (by decide) (by decide) rfl (by decide) (htb _ kw_117) (cV_c rfl (by decide) (by rw [show cMu 5 0 = 0 from rfl, Nat.zero_mul]; rfl)) dX4_add_20 ?_
    refine lv_iload hx hb dX4_add_23 (lv_at hl 0 rfl) ?_
    refine lv_iload_n hx hb dX4_add_25 rfl (lv_at hl 2 rfl) ?_
    refine cr_iast (t := 21) (k := 48) (n9 := (z_3 : Int32).toNatClampNeg) (z := a) hx hb hK hP hD hS (iv_k (by decide) : iv 0 0 0) (by decide) (by decide) (by decide) rfl rfl rfl (show vp_in z_3 (cLen 21) from (show vp_in z_3 1600 from (iv_in hz_3 (by decide)))) (Or.inl rfl) (by rw [show cAw 21 = 0 from rfl, Nat.zero_mul, Nat.zero_add]) dX4_add_26 (fun gm_4 H locs egm_4 hP hD hS => ?_)
    have hI_gm_4 := CI_st hI egm_4 (iv_all a) (by decide)
    refine ec_aload_n hx hb dX4_add_27 rfl (lv_at hl 1 rfl) ?_
    refine cr_get (t := 5) (j := 0) (C := RX4) (T := TX4) (N := 2) (v := eV (ad 21) 0) hx hb htb inX4 hown hK hP hvx (by decide) (by decide) (by decide) rfl (by decide) (htb _ kw_117) (cV_c rfl (by decide) (by rw [show cMu 5 0 = 0 from rfl, Nat.zero_mul]; rfl)) dX4_add_28 ?_
    refine lv_iload hx hb dX4_add_31 (lv_at hl 0 rfl) ?_
    refine lv_iconst (v := 1) hx hb dX4_add_33 (by decide) ?_
    refine lv_iadd hx hb dX4_add_34 ?_
    refine lv_topi (fun z_5 ez_5 => ?_)
    have hz_5 : iv 1 1597 z_5 := iv_of ez_5 (iv_add hz_3 (iv_k (by decide) : iv 1 1 1) (by decide))
    have tz_5 : z_5.toInt = (z_3 : Int32).toInt + 1 := by rw [ez_5]; exact iv_addE hz_3 (iv_k (by decide) : iv 1 1 1) (by decide)
    refine lv_iload_n hx hb dX4_add_35 rfl (lv_at hl 3 rfl) ?_
    refine cr_iast (t := 21) (k := 48) (n9 := (z_5 : Int32).toNatClampNeg) (z := b) hx hb hK hP hD hS (iv_k (by decide) : iv 0 0 0) (by decide) (by decide) (by decide) rfl rfl rfl (show vp_in z_5 (cLen 21) from (show vp_in z_5 1600 from (iv_in hz_5 (by decide)))) (Or.inl rfl) (by rw [show cAw 21 = 0 from rfl, Nat.zero_mul, Nat.zero_add]) dX4_add_36 (fun gm_6 H locs egm_6 hP hD hS => ?_)
    have hI_gm_6 := CI_st hI_gm_4 egm_6 (iv_all b) (by decide)
    refine ec_aload_n hx hb dX4_add_37 rfl (lv_at hl 1 rfl) ?_
    refine cr_get (t := 5) (j := 0) (C := RX4) (T := TX4) (N := 2) (v := eV (ad 21) 0) hx hb htb inX4 hown hK hP hvx (by decide) (by decide) (by decide) rfl (by decide) (htb _ kw_117) (cV_c rfl (by decide) (by rw [show cMu 5 0 = 0 from rfl, Nat.zero_mul]; rfl)) dX4_add_38 ?_
    refine lv_iload hx hb dX4_add_41 (lv_at hl 0 rfl) ?_
    refine lv_iconst (v := 2) hx hb dX4_add_43 (by decide) ?_
    refine lv_iadd hx hb dX4_add_44 ?_
    refine lv_topi (fun z_7 ez_7 => ?_)
    have hz_7 : iv 2 1598 z_7 := iv_of ez_7 (iv_add hz_3 (iv_k (by decide) : iv 2 2 2) (by decide))
    have tz_7 : z_7.toInt = (z_3 : Int32).toInt + 2 := by rw [ez_7]; exact iv_addE hz_3 (iv_k (by decide) : iv 2 2 2) (by decide)
    refine lv_iload_n hx hb dX4_add_45 rfl (lv_at hl 4 rfl) ?_
    refine cr_iast (t := 21) (k := 48) (n9 := (z_7 : Int32).toNatClampNeg) (z := f) hx hb hK hP hD hS (iv_k (by decide) : iv 0 0 0) (by decide) (by decide) (by decide) rfl rfl rfl (show vp_in z_7 (cLen 21) from (show vp_in z_7 1600 from (iv_in hz_7 (by decide)))) (Or.inl rfl) (by rw [show cAw 21 = 0 from rfl, Nat.zero_mul, Nat.zero_add]) dX4_add_46 (fun gm_8 H locs egm_8 hP hD hS => ?_)
    have hI_gm_8 := CI_st hI_gm_6 egm_8 (iv_all f) (by decide)
    refine ec_aload_n hx hb dX4_add_47 rfl (lv_at hl 1 rfl) ?_
    refine cr_get (t := 5) (j := 0) (C := RX4) (T := TX4) (N := 2) (v := eV (ad 21) 0) hx hb htb inX4 hown hK hP hvx (by decide) (by decide) (by decide) rfl (by decide) (htb _ kw_117) (cV_c rfl (by decide) (by rw [show cMu 5 0 = 0 from rfl, Nat.zero_mul]; rfl)) dX4_add_48 ?_
    refine lv_iload hx hb dX4_add_51 (lv_at hl 0 rfl) ?_
    refine lv_iconst (v := 3) hx hb dX4_add_53 (by decide) ?_
    refine lv_iadd hx hb dX4_add_54 ?_
    refine lv_topi (fun z_9 ez_9 => ?_)
    have hz_9 : iv 3 1599 z_9 := iv_of ez_9 (iv_add hz_3 (iv_k (by decide) : iv 3 3 3) (by decide))
    have tz_9 : z_9.toInt = (z_3 : Int32).toInt + 3 := by rw [ez_9]; exact iv_addE hz_3 (iv_k (by decide) : iv 3 3 3) (by decide)
    refine lv_iload hx hb dX4_add_55 (lv_at hl 5 rfl) ?_
    refine cr_iast (t := 21) (k := 48) (n9 := (z_9 : Int32).toNatClampNeg) (z := g) hx hb hK hP hD hS (iv_k (by decide) : iv 0 0 0) (by decide) (by decide) (by decide) rfl rfl rfl (show vp_in z_9 (cLen 21) from (show vp_in z_9 1600 from (iv_in hz_9 (by decide)))) (Or.inl rfl) (by rw [show cAw 21 = 0 from rfl, Nat.zero_mul, Nat.zero_add]) dX4_add_57 (fun gm_10 H locs egm_10 hP hD hS => ?_)
    have hI_gm_10 := CI_st hI_gm_8 egm_10 (iv_all g) (by decide)
    refine ec_aload_n hx hb dX4_add_58 rfl (lv_at hl 1 rfl) ?_
    refine lv_dup hx hb dX4_add_59 (eV_cat _ _) ?_
    refine cr_get (t := 5) (j := 1) (C := RX4) (T := TX4) (N := 2) (v := .int (sg 13)) hx hb htb inX4 hown hK hP hvx (by decide) (by decide) (by decide) rfl (by decide) (htb _ kw_332) rfl dX4_add_60 ?_
    refine lv_iconst (v := 1) hx hb dX4_add_63 (by decide) ?_
    refine lv_iadd hx hb dX4_add_64 ?_
    refine lv_topi (fun z_11 ez_11 => ?_)
    have hz_11 : iv 1 400 z_11 := iv_of ez_11 (iv_add h_2 (iv_k (by decide) : iv 1 1 1) (by decide))
    have tz_11 : z_11.toInt = ((sg 13) : Int32).toInt + 1 := by rw [ez_11]; exact iv_addE h_2 (iv_k (by decide) : iv 1 1 1) (by decide)
    refine cr_puts (t := 5) (j := 1) (C := RX4) (T := TX4) (N := 2) (ty0 := tyX4) (k := 13) (y := z_11) hx hb htb inX4 tyX4_ok nmX4 hown hK hP hD hS hvx (by decide) (by decide) (by decide) (by decide) rfl rfl rfl (by decide) (htb _ kw_332) rfl (by show Value.int z_11 = Value.int (va_up sg 13 z_11 13); rw [va_up_self]) rfl rfl dX4_add_65 (fun sg_12 H locs esg_12 hP hD hS => ?_)
    have hI_sg_12 := CI_put hI_gm_10 esg_12 hz_11 (by decide)
    exact W.nb (fun hN => W.widen (k := 1) (n := 6) (by decide) (by decide) (vx_ret (W.vret hx hb hr (fun t ht hW => ⟨⟨none, (sg_12, gm_10, lg), rfl, ⟨rfl, sg_12, gm_10, lg, rfl, hI_sg_12, (KS_up KS_rf esg_12 (by decide)), (KS_up (KS_up (KS_up (KS_up KS_rf egm_4 (by decide)) egm_6 (by decide)) egm_8 (by decide)) egm_10 (by decide)), KS_rf, (RC_ev hRC (KS_up KS_rf esg_12 (by decide)) (KS_up (KS_up (KS_up (KS_up KS_rf egm_4 (by decide)) egm_6 (by decide)) egm_8 (by decide)) egm_10 (by decide)) (by have := i32_0; have := i32_1; have := i32_2; have := i32_m1; have := congrArg Int32.toInt (show sg_12 13 = z_11 from up_at esg_12); have := (hz_11).1; have := (hz_11).2; have := (hvx).1; have := (hvx).2; have := (h_2).1; have := (h_2).2; have := (hz_3).1; have := (hz_3).2; have := (hz_5).1; have := (hz_5).2; have := (hz_7).1; have := (hz_7).2; have := (hz_9).1; have := (hz_9).2; omega) (by have := i32_0; have := i32_1; have := i32_2; have := i32_m1; have := congrArg Int32.toInt (show sg_12 13 = z_11 from up_at esg_12); have := (hz_11).1; have := (hz_11).2; have := (hvx).1; have := (hvx).2; have := (h_2).1; have := (h_2).2; have := (hz_3).1; have := (hz_3).2; have := (hz_5).1; have := (hz_5).2; have := (hz_7).1; have := (hz_7).2; have := (hz_9).1; have := (hz_9).2; omega) (show gm_10 48 = upd (upd (upd (upd (gm 48) (z_3 : Int32).toNatClampNeg a) (z_5 : Int32).toNatClampNeg b) (z_7 : Int32).toNatClampNeg f) (z_9 : Int32).toNatClampNeg g from ((up_at egm_10).trans (by rw [show gm_8 48 = upd (upd (upd (gm 48) (z_3 : Int32).toNatClampNeg a) (z_5 : Int32).toNatClampNeg b) (z_7 : Int32).toNatClampNeg f from ((up_at egm_8).trans (by rw [show gm_6 48 = upd (upd (gm 48) (z_3 : Int32).toNatClampNeg a) (z_5 : Int32).toNatClampNeg b from ((up_at egm_6).trans (by rw [show gm_4 48 = upd (gm 48) (z_3 : Int32).toNatClampNeg a from ((up_at egm_4).trans (by rw [show gm 48 = gm 48 from rfl]))]))]))]))) (by have : (z_3 : Int32).toNatClampNeg = (z_3 : Int32).toInt.toNat := rfl; have : (z_3 : Int32).toNatClampNeg = (z_3 : Int32).toInt.toNat := rfl; have := i32_0; have := i32_1; have := i32_2; have := i32_m1; have := congrArg Int32.toInt (show sg_12 13 = z_11 from up_at esg_12); have := (hz_11).1; have := (hz_11).2; have := (hvx).1; have := (hvx).2; have := (h_2).1; have := (h_2).2; have := (hz_3).1; have := (hz_3).2; have := (hz_5).1; have := (hz_5).2; have := (hz_7).1; have := (hz_7).2; have := (hz_9).1; have := (hz_9).2; omega) (by have : (z_5 : Int32).toNatClampNeg = (z_5 : Int32).toInt.toNat := rfl; have : (z_3 : Int32).toNatClampNeg = (z_3 : Int32).toInt.toNat := rfl; have := i32_0; have := i32_1; have := i32_2; have := i32_m1; have := congrArg Int32.toInt (show sg_12 13 = z_11 from up_at esg_12); have := (hz_11).1; have := (hz_11).2; have := (hvx).1; have := (hvx).2; have := (h_2).1; have := (h_2).2; have := (hz_3).1; have := (hz_3).2; have := (hz_5).1; have := (hz_5).2; have := (hz_7).1; have := (hz_7).2; have := (hz_9).1; have := (hz_9).2; omega) (by have : (z_7 : Int32).toNatClampNeg = (z_7 : Int32).toInt.toNat := rfl; have : (z_3 : Int32).toNatClampNeg = (z_3 : Int32).toInt.toNat := rfl; have := i32_0; have := i32_1; have := i32_2; have := i32_m1; have := congrArg Int32.toInt (show sg_12 13 = z_11 from up_at esg_12); have := (hz_11).1; have := (hz_11).2; have := (hvx).1; have := (hvx).2; have := (h_2).1; have := (h_2).2; have := (hz_3).1; have := (hz_3).2; have := (hz_5).1; have := (hz_5).2; have := (hz_7).1; have := (hz_7).2; have := (hz_9).1; have := (hz_9).2; omega) (by have : (z_9 : Int32).toNatClampNeg = (z_9 : Int32).toInt.toNat := rfl; have : (z_3 : Int32).toNatClampNeg = (z_3 : Int32).toInt.toNat := rfl; have := i32_0; have := i32_1; have := i32_2; have := i32_m1; have := congrArg Int32.toInt (show sg_12 13 = z_11 from up_at esg_12); have := (hz_11).1; have := (hz_11).2; have := (hvx).1; have := (hvx).2; have := (h_2).1; have := (h_2).2; have := (hz_3).1; have := (hz_3).2; have := (hz_5).1; have := (hz_5).2; have := (hz_7).1; have := (hz_7).2; have := (hz_9).1; have := (hz_9).2; omega))⟩, by rw [ht]; exact hP, va_K.moved hW.alike hK, hD⟩, hS.F ht, by rw [ht]; exact hN⟩) hS.2.2 dX4_add_68)))
  · have h_13 : iv 400 400 (sg 13) := iv_leR (i32_ge c_1) (iv_k (by decide) : iv 400 400 400) (show iv 0 400 (sg 13) from CI_s hI 13) (by decide)
    exact W.nb (fun hN => W.widen (k := 1) (n := 6) (by decide) (by decide) (vx_ret (W.vret hx hb hr (fun t ht hW => ⟨⟨none, (sg, gm, lg), rfl, ⟨rfl, sg, gm, lg, rfl, hI, KS_rf, KS_rf, KS_rf, (RC_full hRC (by have := i32_0; have := i32_1; have := i32_2; have := i32_m1; have := (show iv 0 400 (sg 13) from CI_s hI 13).1; have := (show iv 0 400 (sg 13) from CI_s hI 13).2; have := (hvx).1; have := (hvx).2; have := (h_13).1; have := (h_13).2; omega))⟩, by rw [ht]; exact hP, va_K.moved hW.alike hK, hD⟩, hS.F ht, by rw [ht]; exact hN⟩) hS.2.2 dX4_add_10)))

set_option maxHeartbeats 4000000 in
set_option maxRecDepth 100000 in
theorem d_stepsTo9 (l : Launch) (dC : Nat → ClassId) (dI : Nat → Nat → Nat) (ad : Nat → Nat → Nat) (cid : Nat → ClassId) (a2 : Nat → Nat) (lx : List Nat) (sg : Nat → Int32) (gm : Nat → Nat → Int32) (lg : Nat → Nat → Int64) (x : Int32) (k : Int32) (wg : Nat → Nat → Int32) (hI : CI sg gm) (hvx : iv 0 7 x) (hSW : st9 gm = wg) : CMt dC dI ad cid a2 lx l yX2_stepsTo wm_X2_stepsTo ({ frames := 0, cells := 1, slots := 6, locals := 0 }) [eV (ad 7) x, .int k] sg gm lg (fun v u => ∃ r : Int32, v = some (.int r) ∧ u = (sg, gm, lg) ∧ (iv (-1) 7 r) ∧ (r.toInt = stF wg k.toInt 8 x.toInt 0)) (fun _ _ => False) := by
  intro sz
  refine vx_ofW (cc := cX2_stepsTo) (maxL := 4) (ret := (some .int)) (by decide) rfl ?_
  intro p e s m args below meth c s₁ B hml hxt hv
  obtain ⟨rfl, hsz, hP, hK, hD0, hG⟩ := hv
  have hx := B.exec
  have hb := B.bytes
  have hr := B.returns
  have hts := atoms_spec (ws := wm_X2_stepsTo) B.pre
  have htb := fun (w : Cond) (h : w ∈ tb) => hts w (List.mem_cons_of_mem _ h)
  have hown : s.vm.findClass RX2 = some m.cls := findClass_of_methodNamed B.named
  have hlocks := B.notSynchronized
  subst hsz
  have hD := hD0.self (sz := s.heap.size)
  generalize hAe : va_A (cW ad cid a2 lx sg gm lg) s.heap.size = A at hD hG ⊢
  have hA : ∀ q : Nat, s.heap.size ≤ q → A q := fun q h => by rw [← hAe]; exact Or.inr h
  have hS : va_S A s.heap s.heap [] := va_S.rf
  have hl := lv_entry ([eV (ad 7) x, .int k]) (n := 4) (by rw [show (lg_sl ([eV (ad 7) x, .int k])).length = 2 from by simp [lg_sl, eV_cat, cat_i, cat_l]]; exact Nat.le_of_ble_eq_true rfl)
  rw [lg_entry_eq]
  generalize (lg_sl ([eV (ad 7) x, .int k]) ++ List.replicate (4 - (lg_sl ([eV (ad 7) x, .int k])).length) Slot.unset).toArray = ls at hl ⊢
  have hl : lv_has ls 4 [(0, eV (ad 7) x), (1, .int k)] := by simp [lv_args, eV_cat, cat_i, cat_l] at hl; exact hl
  have hj35 : ∀ (x3_35 : Int32) (x2_35 : Int32) (_ : iv 0 8 x3_35) (_ : iv (-1) 7 x2_35) (_ : iv 0 7 x) (_ : stF wg k.toInt 8 x.toInt 0 = -1) (H : Heap) (locs : List Loc) (ls : Array Slot), va_P (dC, dI) vwCl (cW ad cid a2 lx sg gm lg) H → va_D A (cW ad cid a2 lx sg gm lg) → va_S A s.heap H locs → lv_has ls 4 [(3, .int x3_35), (2, eV (ad 7) x2_35), (0, eV (ad 7) x), (1, .int k)] → W p l e (headSpec wm_X2_stepsTo ({ frames := 0, cells := 1, slots := 6, locals := 0 })).room s m ([eV (ad 7) x, .int k] : List Value).toArray below meth c H locs 0 0 (vx_MQ below (cQx dC dI ad cid a2 lx (fun v u => ∃ r : Int32, v = some (.int r) ∧ u = (sg, gm, lg) ∧ (iv (-1) 7 r) ∧ (r.toInt = stF wg k.toInt 8 x.toInt 0)) A) (cX dC dI ad cid a2 lx (fun _ _ => False) A) ([eV (ad 7) x, .int k] : List Value).toArray s 1 6 A) (F0 m 35 ls []) := by
    intro x3_35 x2_35 hx3_35 hx2_35 hsx0_35 u35 H locs ls hP hD hS hl
    refine lv_iconst (v := (-1)) hx hb dX2_stepsTo_35 (by decide) ?_
    exact W.nb (fun hN => W.widen (k := 1) (n := 6) (by decide) (by decide) (vx_ret (W.iret (v := (-1)) hx hb hr (fun t ht hW => ⟨⟨some (.int (-1)), (sg, gm, lg), rfl, ⟨(-1), rfl, rfl, (iv_w (iv_k (by decide) : iv (-1) (-1) (-1)) (by decide)), ((by have q9 := u35; rw [q9]; rfl))⟩, by rw [ht]; exact hP, va_K.moved hW.alike hK, hD⟩, hS.F ht, by rw [ht]; exact hN⟩) hS.2.2 dX2_stepsTo_36)))
  have hj4 : ∀ (n : Nat) (x3_4 : Int32) (x2_4 : Int32) (_ : (8 - x3_4.toInt).toNat = n) (_ : iv 0 8 x3_4) (_ : iv (-1) 7 x2_4) (_ : iv 0 7 x) (_ : stF wg k.toInt 8 x.toInt 0 = stF wg k.toInt (8 - x3_4.toNatClampNeg) x2_4.toInt x3_4.toInt) (H : Heap) (locs : List Loc) (ls : Array Slot), va_P (dC, dI) vwCl (cW ad cid a2 lx sg gm lg) H → va_D A (cW ad cid a2 lx sg gm lg) → va_S A s.heap H locs → lv_has ls 4 [(3, .int x3_4), (2, eV (ad 7) x2_4), (0, eV (ad 7) x), (1, .int k)] → W p l e (headSpec wm_X2_stepsTo ({ frames := 0, cells := 1, slots := 6, locals := 0 })).room s m ([eV (ad 7) x, .int k] : List Value).toArray below meth c H locs 0 0 (vx_MQ below (cQx dC dI ad cid a2 lx (fun v u => ∃ r : Int32, v = some (.int r) ∧ u = (sg, gm, lg) ∧ (iv (-1) 7 r) ∧ (r.toInt = stF wg k.toInt 8 x.toInt 0)) A) (cX dC dI ad cid a2 lx (fun _ _ => False) A) ([eV (ad 7) x, .int k] : List Value).toArray s 1 6 A) (F0 m 4 ls []) := by
    intro n
    induction n using Nat.strongRecOn with
    | ind n ih4 =>
      intro x3_4 x2_4 hn4 hx3_4 hx2_4 hsx0_4 hst H locs ls hP hD hS hl
      refine lv_iload_n hx hb dX2_stepsTo_4 rfl (lv_at hl 0 rfl) ?_
      refine lv_bipush (v := 8) hx hb dX2_stepsTo_5 (by decide) ?_
      refine lv_icmp_ge (tgt := 35) hx hb dX2_stepsTo_7 (by decide) (fun c_1 => ?_) (fun c_1 => ?_)
      · have h_2 : iv 8 8 x3_4 := iv_leR c_1 (iv_k (by decide) : iv 8 8 8) hx3_4 (by decide)
        exact hj35 x3_4 x2_4 (iv_w h_2 (by decide)) hx2_4 hsx0_4 (stF_e hst (by have := i32_0; have := i32_1; have := i32_2; have := i32_m1; have := (hsx0_4).1; have := (hsx0_4).2; have := (h_2).1; have := (h_2).2; have := (hx2_4).1; have := (hx2_4).2; omega)) _ _ _ hP hD hS (lv_sub hl [0, 1, 2, 3] rfl)
      · have h_3 : iv 0 7 x3_4 := iv_ltL (i32_lt c_1) hx3_4 (iv_k (by decide) : iv 8 8 8) (by decide)
        refine ec_aload_n hx hb dX2_stepsTo_10 rfl (lv_at hl 1 rfl) ?_
        refine ec_ifnull (tgt := 35) hx hb dX2_stepsTo_11 (by decide) (fun c_4 => ?_) (fun c_4 => ?_)
        · have h_5 : iv (-1) (-1) x2_4 := ⟨(hx2_4).1, by omega⟩
          exact hj35 x3_4 x2_4 (iv_w h_3 (by decide)) (iv_w h_5 (by decide)) hsx0_4 (stF_e hst (by have := i32_0; have := i32_1; have := i32_2; have := i32_m1; have := (hsx0_4).1; have := (hsx0_4).2; have := (h_3).1; have := (h_3).2; have := (h_5).1; have := (h_5).2; omega)) _ _ _ hP hD hS (lv_sub hl [0, 1, 2, 3] rfl)
        · have h_6 : iv 0 7 x2_4 := ⟨c_4, (hx2_4).2⟩
          refine ec_aload_n hx hb dX2_stepsTo_14 rfl (lv_at hl 1 rfl) ?_
          refine cr_get (t := 7) (j := 4) (C := RX2) (T := TX2) (N := 8) (v := .int (gm 2 x2_4.toNatClampNeg)) hx hb htb inX2 hown hK hP h_6 (by decide) (by decide) (by decide) rfl (by decide) (htb _ kw_46) rfl dX2_stepsTo_15 ?_
          obtain ⟨z_7, ez_7⟩ : ∃ z : Int32, z = (gm 2 x2_4.toNatClampNeg) := ⟨_, rfl⟩
          refine W.eq (g2 := F0 m 18 ls [.int z_7]) (by rw [ez_7]) ?_
          have hz_7 : iv 0 7 z_7 := iv_of ez_7 (CI_a hI 2 h_6 (by decide))
          refine lv_iload_n hx hb dX2_stepsTo_18 rfl (lv_at hl 3 rfl) ?_
          refine lv_icmp_ne (tgt := 24) hx hb dX2_stepsTo_19 (by decide) (fun c_8 => ?_) (fun c_8 => ?_)
          · refine ec_aload_n hx hb dX2_stepsTo_24 rfl (lv_at hl 1 rfl) ?_
            refine cr_get (t := 7) (j := 7) (C := RX2) (T := TX2) (N := 8) (v := eV (ad 7) (gm 4 x2_4.toNatClampNeg)) hx hb htb inX2 hown hK hP h_6 (by decide) (by decide) (by decide) rfl (by decide) (htb _ kw_232) rfl dX2_stepsTo_25 ?_
            obtain ⟨z_9, ez_9⟩ : ∃ z : Int32, z = (gm 4 x2_4.toNatClampNeg) := ⟨_, rfl⟩
            refine W.eq (g2 := F0 m 28 ls [eV (ad 7) z_9]) (by rw [ez_9]) ?_
            have hz_9 : iv (-1) 7 z_9 := iv_of ez_9 (CI_a hI 4 h_6 (by decide))
            refine ec_astore_n (i := 2) (lv' := [(2, eV (ad 7) z_9), (3, .int x3_4), (0, eV (ad 7) x), (1, .int k)]) hx hb dX2_stepsTo_28 rfl hl (by decide) rfl (fun ls hl => ?_)
            obtain ⟨z_10, ez_10⟩ : ∃ z : Int32, z = x3_4 + 1 := ⟨_, rfl⟩
            have hz_10 : iv 1 8 z_10 := iv_of ez_10 (iv_add h_3 (iv_k (by decide) : iv 1 1 1) (by decide))
            have tz_10 : z_10.toInt = x3_4.toInt + 1 := by rw [ez_10]; exact iv_addE h_3 (iv_k (by decide) : iv 1 1 1) (by decide)
            refine lv_iinc (v := z_10) (lv' := [(3, .int z_10), (2, eV (ad 7) z_9), (0, eV (ad 7) x), (1, .int k)]) hx hb dX2_stepsTo_29 hl (k := 1) rfl ez_10.symm (by decide) (by simp [List.filter, eV_cat, cat_i, cat_l]) (fun ls hl => ?_)
            refine lv_goto (tgt := 4) hx hb dX2_stepsTo_32 (by decide) ?_
            exact ih4 _ (by rw [← hn4]; exact (iv_meas tz_10 h_3 (by decide))) z_10 z_9 rfl (iv_w hz_10 (by decide)) hz_9 hsx0_4 (stF_st hst (show iv 0 7 x3_4 from h_3) (h_6).1 (by rw [(swt9 hSW ez_7 rfl)]; exact (fun q7 => c_8 (Int32.toInt_inj.mp q7))) (swt9 hSW ez_9 rfl).symm tz_10) _ _ _ hP hD hS (lv_sub hl [0, 1, 2, 3] rfl)
          · have d_11 : (z_7 : Int32).toInt = (k : Int32).toInt := congrArg Int32.toInt c_8
            have h_12 : iv 0 7 k := iv_eq (Eq.symm c_8) (iv_all k) hz_7 (by decide)
            refine lv_iload_n hx hb dX2_stepsTo_22 rfl (lv_at hl 0 rfl) ?_
            exact W.nb (fun hN => W.widen (k := 1) (n := 6) (by decide) (by decide) (vx_ret (W.iret (v := x3_4) hx hb hr (fun t ht hW => ⟨⟨some (.int x3_4), (sg, gm, lg), rfl, ⟨x3_4, rfl, rfl, (iv_w h_3 (by decide)), ((stF_h hst (show iv 0 7 x3_4 from h_3) (h_6).1 (by rw [(swt9 hSW ez_7 rfl)]; have := i32_0; have := i32_1; have := i32_2; have := i32_m1; have := (hsx0_4).1; have := (hsx0_4).2; have := (h_3).1; have := (h_3).2; have := (h_6).1; have := (h_6).2; have := (hz_7).1; have := (hz_7).2; have := (h_12).1; have := (h_12).2; omega)).symm)⟩, by rw [ht]; exact hP, va_K.moved hW.alike hK, hD⟩, hS.F ht, by rw [ht]; exact hN⟩) hS.2.2 dX2_stepsTo_23)))
  refine ec_aload_n hx hb dX2_stepsTo_0 rfl (lv_at hl 0 rfl) ?_
  refine ec_astore_n (i := 2) (lv' := [(2, eV (ad 7) x), (0, eV (ad 7) x), (1, .int k)]) hx hb dX2_stepsTo_1 rfl hl (by decide) rfl (fun ls hl => ?_)
  refine lv_iconst (v := 0) hx hb dX2_stepsTo_2 (by decide) ?_
  refine lv_istore_n (i := 3) (lv' := [(3, .int 0), (2, eV (ad 7) x), (0, eV (ad 7) x), (1, .int k)]) hx hb dX2_stepsTo_3 rfl hl (by decide) (by simp [List.filter, eV_cat, cat_i, cat_l]) (fun ls hl => ?_)
  exact hj4 _ 0 x rfl (iv_w (iv_k (by decide) : iv 0 0 0) (by decide)) (iv_w hvx (by decide)) hvx (rfl) _ _ _ hP hD hS (lv_sub hl [0, 1, 2, 3] rfl)

set_option maxHeartbeats 4000000 in
set_option maxRecDepth 100000 in
theorem d_setterType9 (l : Launch) (dC : Nat → ClassId) (dI : Nat → Nat → Nat) (ad : Nat → Nat → Nat) (cid : Nat → ClassId) (a2 : Nat → Nat) (lx : List Nat) (sg : Nat → Int32) (gm : Nat → Nat → Int32) (lg : Nat → Nat → Int64) (x : Int32) (nm : Int32) (wg : Nat → Nat → Int32) (hI : CI sg gm) (hvx : iv 0 7 x) (hvnm : iv 0 25 nm) (hSW : st9 gm = wg) : CMt dC dI ad cid a2 lx l yX2_setterType wm_X2_setterType ({ frames := 0, cells := 1, slots := 6, locals := 0 }) [eV (ad 7) x, .int nm] sg gm lg (fun v u => ∃ r : Int32, v = some (.int r) ∧ u = (sg, gm, lg) ∧ (iv (-1) 15 r) ∧ (r.toInt = sgF wg nm.toNatClampNeg 8 x.toInt)) (fun _ _ => False) := by
  intro sz
  refine vx_ofW (cc := cX2_setterType) (maxL := 4) (ret := (some .int)) (by decide) rfl ?_
  intro p e s m args below meth c s₁ B hml hxt hv
  obtain ⟨rfl, hsz, hP, hK, hD0, hG⟩ := hv
  have hx := B.exec
  have hb := B.bytes
  have hr := B.returns
  have hts := atoms_spec (ws := wm_X2_setterType) B.pre
  have htb := fun (w : Cond) (h : w ∈ tb) => hts w (List.mem_cons_of_mem _ h)
  have hown : s.vm.findClass RX2 = some m.cls := findClass_of_methodNamed B.named
  have hlocks := B.notSynchronized
  subst hsz
  have hD := hD0.self (sz := s.heap.size)
  generalize hAe : va_A (cW ad cid a2 lx sg gm lg) s.heap.size = A at hD hG ⊢
  have hA : ∀ q : Nat, s.heap.size ≤ q → A q := fun q h => by rw [← hAe]; exact Or.inr h
  have hS : va_S A s.heap s.heap [] := va_S.rf
  have hl := lv_entry ([eV (ad 7) x, .int nm]) (n := 4) (by rw [show (lg_sl ([eV (ad 7) x, .int nm])).length = 2 from by simp [lg_sl, eV_cat, cat_i, cat_l]]; exact Nat.le_of_ble_eq_true rfl)
  rw [lg_entry_eq]
  generalize (lg_sl ([eV (ad 7) x, .int nm]) ++ List.replicate (4 - (lg_sl ([eV (ad 7) x, .int nm])).length) Slot.unset).toArray = ls at hl ⊢
  have hl : lv_has ls 4 [(0, eV (ad 7) x), (1, .int nm)] := by simp [lv_args, eV_cat, cat_i, cat_l] at hl; exact hl
  have hj42 : ∀ (x3_42 : Int32) (x2_42 : Int32) (_ : iv 0 8 x3_42) (_ : iv (-1) 7 x2_42) (_ : iv 0 7 x) (_ : iv 0 25 nm) (_ : sgF wg nm.toNatClampNeg 8 x.toInt = -1) (H : Heap) (locs : List Loc) (ls : Array Slot), va_P (dC, dI) vwCl (cW ad cid a2 lx sg gm lg) H → va_D A (cW ad cid a2 lx sg gm lg) → va_S A s.heap H locs → lv_has ls 4 [(3, .int x3_42), (2, eV (ad 7) x2_42), (0, eV (ad 7) x), (1, .int nm)] → W p l e (headSpec wm_X2_setterType ({ frames := 0, cells := 1, slots := 6, locals := 0 })).room s m ([eV (ad 7) x, .int nm] : List Value).toArray below meth c H locs 0 0 (vx_MQ below (cQx dC dI ad cid a2 lx (fun v u => ∃ r : Int32, v = some (.int r) ∧ u = (sg, gm, lg) ∧ (iv (-1) 15 r) ∧ (r.toInt = sgF wg nm.toNatClampNeg 8 x.toInt)) A) (cX dC dI ad cid a2 lx (fun _ _ => False) A) ([eV (ad 7) x, .int nm] : List Value).toArray s 1 6 A) (F0 m 42 ls []) := by
    intro x3_42 x2_42 hx3_42 hx2_42 hsx0_42 hsx1_42 u42 H locs ls hP hD hS hl
    refine lv_iconst (v := (-1)) hx hb dX2_setterType_42 (by decide) ?_
    exact W.nb (fun hN => W.widen (k := 1) (n := 6) (by decide) (by decide) (vx_ret (W.iret (v := (-1)) hx hb hr (fun t ht hW => ⟨⟨some (.int (-1)), (sg, gm, lg), rfl, ⟨(-1), rfl, rfl, (iv_w (iv_k (by decide) : iv (-1) (-1) (-1)) (by decide)), ((by have q9 := u42; rw [q9]; rfl))⟩, by rw [ht]; exact hP, va_K.moved hW.alike hK, hD⟩, hS.F ht, by rw [ht]; exact hN⟩) hS.2.2 dX2_setterType_43)))
  have hj4 : ∀ (n : Nat) (x3_4 : Int32) (x2_4 : Int32) (_ : (8 - x3_4.toInt).toNat = n) (_ : iv 0 8 x3_4) (_ : iv (-1) 7 x2_4) (_ : iv 0 7 x) (_ : iv 0 25 nm) (_ : sgF wg nm.toNatClampNeg 8 x.toInt = sgF wg nm.toNatClampNeg (8 - x3_4.toNatClampNeg) x2_4.toInt) (H : Heap) (locs : List Loc) (ls : Array Slot), va_P (dC, dI) vwCl (cW ad cid a2 lx sg gm lg) H → va_D A (cW ad cid a2 lx sg gm lg) → va_S A s.heap H locs → lv_has ls 4 [(3, .int x3_4), (2, eV (ad 7) x2_4), (0, eV (ad 7) x), (1, .int nm)] → W p l e (headSpec wm_X2_setterType ({ frames := 0, cells := 1, slots := 6, locals := 0 })).room s m ([eV (ad 7) x, .int nm] : List Value).toArray below meth c H locs 0 0 (vx_MQ below (cQx dC dI ad cid a2 lx (fun v u => ∃ r : Int32, v = some (.int r) ∧ u = (sg, gm, lg) ∧ (iv (-1) 15 r) ∧ (r.toInt = sgF wg nm.toNatClampNeg 8 x.toInt)) A) (cX dC dI ad cid a2 lx (fun _ _ => False) A) ([eV (ad 7) x, .int nm] : List Value).toArray s 1 6 A) (F0 m 4 ls []) := by
    intro n
    induction n using Nat.strongRecOn with
    | ind n ih4 =>
      intro x3_4 x2_4 hn4 hx3_4 hx2_4 hsx0_4 hsx1_4 hst H locs ls hP hD hS hl
      refine lv_iload_n hx hb dX2_setterType_4 rfl (lv_at hl 0 rfl) ?_
      refine lv_bipush (v := 8) hx hb dX2_setterType_5 (by decide) ?_
      refine lv_icmp_ge (tgt := 42) hx hb dX2_setterType_7 (by decide) (fun c_1 => ?_) (fun c_1 => ?_)
      · have h_2 : iv 8 8 x3_4 := iv_leR c_1 (iv_k (by decide) : iv 8 8 8) hx3_4 (by decide)
        exact hj42 x3_4 x2_4 (iv_w h_2 (by decide)) hx2_4 hsx0_4 hsx1_4 (sgF_e hst (by have := i32_0; have := i32_1; have := i32_2; have := i32_m1; have := (hsx0_4).1; have := (hsx0_4).2; have := (hsx1_4).1; have := (hsx1_4).2; have := (h_2).1; have := (h_2).2; have := (hx2_4).1; have := (hx2_4).2; omega)) _ _ _ hP hD hS (lv_sub hl [0, 1, 2, 3] rfl)
      · have h_3 : iv 0 7 x3_4 := iv_ltL (i32_lt c_1) hx3_4 (iv_k (by decide) : iv 8 8 8) (by decide)
        refine ec_aload_n hx hb dX2_setterType_10 rfl (lv_at hl 1 rfl) ?_
        refine ec_ifnull (tgt := 42) hx hb dX2_setterType_11 (by decide) (fun c_4 => ?_) (fun c_4 => ?_)
        · have h_5 : iv (-1) (-1) x2_4 := ⟨(hx2_4).1, by omega⟩
          exact hj42 x3_4 x2_4 (iv_w h_3 (by decide)) (iv_w h_5 (by decide)) hsx0_4 hsx1_4 (sgF_e hst (by have := i32_0; have := i32_1; have := i32_2; have := i32_m1; have := (hsx0_4).1; have := (hsx0_4).2; have := (hsx1_4).1; have := (hsx1_4).2; have := (h_3).1; have := (h_3).2; have := (h_5).1; have := (h_5).2; omega)) _ _ _ hP hD hS (lv_sub hl [0, 1, 2, 3] rfl)
        · have h_6 : iv 0 7 x2_4 := ⟨c_4, (hx2_4).2⟩
          refine ec_aload_n hx hb dX2_setterType_14 rfl (lv_at hl 1 rfl) ?_
          refine cr_get (t := 7) (j := 5) (C := RX2) (T := TX2) (N := 8) (v := eV (ad 30) x2_4) hx hb htb inX2 hown hK hP h_6 (by decide) (by decide) (by decide) rfl (by decide) (htb _ kw_53) (cV_c rfl (h_6).1 (by rw [show cMu 7 5 = 1 from rfl, Nat.one_mul]; rfl)) dX2_setterType_15 ?_
          refine lv_iload_n hx hb dX2_setterType_18 rfl (lv_at hl 3 rfl) ?_
          refine cr_iald (t := 30) (z := (gm 55 (26 * x2_4.toNatClampNeg + (nm : Int32).toNatClampNeg))) hx hb hK hP h_6 (by decide) (by decide) (by decide) rfl rfl (show vp_in nm (cLen 30) from (show vp_in nm 26 from (iv_in hsx1_4 (by decide)))) (cAi_w rfl (by decide) rfl (vin_lt (show vp_in nm (cLen 30) from (show vp_in nm 26 from (iv_in hsx1_4 (by decide)))))) dX2_setterType_19 ?_
          obtain ⟨z_7, ez_7⟩ : ∃ z : Int32, z = (gm 55 (26 * x2_4.toNatClampNeg + (nm : Int32).toNatClampNeg)) := ⟨_, rfl⟩
          refine W.eq (g2 := F0 m 20 ls [.int z_7]) (by rw [ez_7]) ?_
          have hz_7 : iv (-1) 15 z_7 := iv_of ez_7 (CI_n hI 55 (show _ < crLen 55 from vin_w (show vp_in nm (cLen 30) from (show vp_in nm 26 from (iv_in hsx1_4 (by decide)))) (h_6) (by decide)))
          refine lv_iconst (v := (-1)) hx hb dX2_setterType_20 (by decide) ?_
          refine lv_icmp_eq (tgt := 31) hx hb dX2_setterType_21 (by decide) (fun c_8 => ?_) (fun c_8 => ?_)
          · have h_9 : iv (-1) (-1) z_7 := iv_eq c_8 hz_7 (iv_k (by decide) : iv (-1) (-1) (-1)) (by decide)
            refine ec_aload_n hx hb dX2_setterType_31 rfl (lv_at hl 1 rfl) ?_
            refine cr_get (t := 7) (j := 7) (C := RX2) (T := TX2) (N := 8) (v := eV (ad 7) (gm 4 x2_4.toNatClampNeg)) hx hb htb inX2 hown hK hP h_6 (by decide) (by decide) (by decide) rfl (by decide) (htb _ kw_232) rfl dX2_setterType_32 ?_
            obtain ⟨z_10, ez_10⟩ : ∃ z : Int32, z = (gm 4 x2_4.toNatClampNeg) := ⟨_, rfl⟩
            refine W.eq (g2 := F0 m 35 ls [eV (ad 7) z_10]) (by rw [ez_10]) ?_
            have hz_10 : iv (-1) 7 z_10 := iv_of ez_10 (CI_a hI 4 h_6 (by decide))
            refine ec_astore_n (i := 2) (lv' := [(2, eV (ad 7) z_10), (3, .int x3_4), (0, eV (ad 7) x), (1, .int nm)]) hx hb dX2_setterType_35 rfl hl (by decide) rfl (fun ls hl => ?_)
            obtain ⟨z_11, ez_11⟩ : ∃ z : Int32, z = x3_4 + 1 := ⟨_, rfl⟩
            have hz_11 : iv 1 8 z_11 := iv_of ez_11 (iv_add h_3 (iv_k (by decide) : iv 1 1 1) (by decide))
            have tz_11 : z_11.toInt = x3_4.toInt + 1 := by rw [ez_11]; exact iv_addE h_3 (iv_k (by decide) : iv 1 1 1) (by decide)
            refine lv_iinc (v := z_11) (lv' := [(3, .int z_11), (2, eV (ad 7) z_10), (0, eV (ad 7) x), (1, .int nm)]) hx hb dX2_setterType_36 hl (k := 1) rfl ez_11.symm (by decide) (by simp [List.filter, eV_cat, cat_i, cat_l]) (fun ls hl => ?_)
            refine lv_goto (tgt := 4) hx hb dX2_setterType_39 (by decide) ?_
            exact ih4 _ (by rw [← hn4]; exact (iv_meas tz_11 h_3 (by decide))) z_11 z_10 rfl (iv_w hz_11 (by decide)) hz_10 hsx0_4 hsx1_4 (sgF_st hst (show iv 0 7 x3_4 from h_3) (h_6).1 (by rw [(swt9 hSW ez_7 rfl)]; have := i32_0; have := i32_1; have := i32_2; have := i32_m1; have := (hsx0_4).1; have := (hsx0_4).2; have := (hsx1_4).1; have := (hsx1_4).2; have := (h_3).1; have := (h_3).2; have := (h_6).1; have := (h_6).2; have := (h_9).1; have := (h_9).2; have := (hz_10).1; have := (hz_10).2; have := (hz_11).1; have := (hz_11).2; omega) (swt9 hSW ez_10 rfl).symm tz_11) _ _ _ hP hD hS (lv_sub hl [0, 1, 2, 3] rfl)
          · have h_12 : iv 0 15 z_7 := iv_neL c_8 hz_7 (by decide)
            refine ec_aload_n hx hb dX2_setterType_24 rfl (lv_at hl 1 rfl) ?_
            refine cr_get (t := 7) (j := 5) (C := RX2) (T := TX2) (N := 8) (v := eV (ad 30) x2_4) hx hb htb inX2 hown hK hP h_6 (by decide) (by decide) (by decide) rfl (by decide) (htb _ kw_53) (cV_c rfl (h_6).1 (by rw [show cMu 7 5 = 1 from rfl, Nat.one_mul]; rfl)) dX2_setterType_25 ?_
            refine lv_iload_n hx hb dX2_setterType_28 rfl (lv_at hl 3 rfl) ?_
            refine cr_iald (t := 30) (z := (gm 55 (26 * x2_4.toNatClampNeg + (nm : Int32).toNatClampNeg))) hx hb hK hP h_6 (by decide) (by decide) (by decide) rfl rfl (show vp_in nm (cLen 30) from (show vp_in nm 26 from (iv_in hsx1_4 (by decide)))) (cAi_w rfl (by decide) rfl (vin_lt (show vp_in nm (cLen 30) from (show vp_in nm 26 from (iv_in hsx1_4 (by decide)))))) dX2_setterType_29 ?_
            refine W.eq (g2 := F0 m 30 ls [.int z_7]) (by rw [show (gm 55 (26 * x2_4.toNatClampNeg + (nm : Int32).toNatClampNeg)) = z_7 from ez_7.symm]) ?_
            exact W.nb (fun hN => W.widen (k := 1) (n := 6) (by decide) (by decide) (vx_ret (W.iret (v := z_7) hx hb hr (fun t ht hW => ⟨⟨some (.int z_7), (sg, gm, lg), rfl, ⟨z_7, rfl, rfl, (iv_w h_12 (by decide)), ((by have q9 := sgF_h hst (show iv 0 7 x3_4 from h_3) (h_6).1 (by rw [(swt9 hSW ez_7 rfl)]; have := i32_0; have := i32_1; have := i32_2; have := i32_m1; have := (hsx0_4).1; have := (hsx0_4).2; have := (hsx1_4).1; have := (hsx1_4).2; have := (h_3).1; have := (h_3).2; have := (h_6).1; have := (h_6).2; have := (h_12).1; have := (h_12).2; omega); rw [q9, (swt9 hSW ez_7 rfl)]))⟩, by rw [ht]; exact hP, va_K.moved hW.alike hK, hD⟩, hS.F ht, by rw [ht]; exact hN⟩) hS.2.2 dX2_setterType_30)))
  refine ec_aload_n hx hb dX2_setterType_0 rfl (lv_at hl 0 rfl) ?_
  refine ec_astore_n (i := 2) (lv' := [(2, eV (ad 7) x), (0, eV (ad 7) x), (1, .int nm)]) hx hb dX2_setterType_1 rfl hl (by decide) rfl (fun ls hl => ?_)
  refine lv_iconst (v := 0) hx hb dX2_setterType_2 (by decide) ?_
  refine lv_istore_n (i := 3) (lv' := [(3, .int 0), (2, eV (ad 7) x), (0, eV (ad 7) x), (1, .int nm)]) hx hb dX2_setterType_3 rfl hl (by decide) (by simp [List.filter, eV_cat, cat_i, cat_l]) (fun ls hl => ?_)
  exact hj4 _ 0 x rfl (iv_w (iv_k (by decide) : iv 0 0 0) (by decide)) (iv_w hvx (by decide)) hvx hvnm (rfl) _ _ _ hP hD hS (lv_sub hl [0, 1, 2, 3] rfl)

set_option maxHeartbeats 4000000 in
set_option maxRecDepth 100000 in
theorem d_isCalled9 (l : Launch) (dC : Nat → ClassId) (dI : Nat → Nat → Nat) (ad : Nat → Nat → Nat) (cid : Nat → ClassId) (a2 : Nat → Nat) (lx : List Nat) (sg : Nat → Int32) (gm : Nat → Nat → Int32) (lg : Nat → Nat → Int64) (x : Int32) (a : Int32) (b : Int32) (wg : Nat → Nat → Int32) (hI : CI sg gm) (hvx : iv 0 63 x) (hvb : iv 0 1 b) (hSW : st9 gm = wg) : CMt dC dI ad cid a2 lx l yX8_isCalled wm_X8_isCalled ({ frames := 0, cells := 1, slots := 6, locals := 0 }) [eV (ad 8) x, .int a, .int b] sg gm lg (fun v u => ∃ r : Int32, v = some (.int r) ∧ u = (sg, gm, lg) ∧ (iv 0 1 r) ∧ ((r.toInt = 1 ∧ cdS wg a.toInt b.toInt x.toNatClampNeg) ∨ (r.toInt = 0 ∧ ¬ (cdS wg a.toInt b.toInt x.toNatClampNeg)))) (fun _ _ => False) := by
  intro sz
  refine vx_ofW (cc := cX8_isCalled) (maxL := 3) (ret := (some .boolean)) (by decide) rfl ?_
  intro p e s m args below meth c s₁ B hml hxt hv
  obtain ⟨rfl, hsz, hP, hK, hD0, hG⟩ := hv
  have hx := B.exec
  have hb := B.bytes
  have hr := B.returns
  have hts := atoms_spec (ws := wm_X8_isCalled) B.pre
  have htb := fun (w : Cond) (h : w ∈ tb) => hts w (List.mem_cons_of_mem _ h)
  have hown : s.vm.findClass RX8 = some m.cls := findClass_of_methodNamed B.named
  have hlocks := B.notSynchronized
  subst hsz
  have hD := hD0.self (sz := s.heap.size)
  generalize hAe : va_A (cW ad cid a2 lx sg gm lg) s.heap.size = A at hD hG ⊢
  have hA : ∀ q : Nat, s.heap.size ≤ q → A q := fun q h => by rw [← hAe]; exact Or.inr h
  have hS : va_S A s.heap s.heap [] := va_S.rf
  have hl := lv_entry ([eV (ad 8) x, .int a, .int b]) (n := 3) (by rw [show (lg_sl ([eV (ad 8) x, .int a, .int b])).length = 3 from by simp [lg_sl, eV_cat, cat_i, cat_l]]; exact Nat.le_of_ble_eq_true rfl)
  rw [lg_entry_eq]
  generalize (lg_sl ([eV (ad 8) x, .int a, .int b]) ++ List.replicate (3 - (lg_sl ([eV (ad 8) x, .int a, .int b])).length) Slot.unset).toArray = ls at hl ⊢
  have hl : lv_has ls 3 [(0, eV (ad 8) x), (1, .int a), (2, .int b)] := by simp [lv_args, eV_cat, cat_i, cat_l] at hl; exact hl
  have hj21 : ∀ (y0_21 : Int32) (_ : iv 0 63 x) (_ : iv 0 1 b) (_ : iv 0 1 y0_21) (_ : (y0_21.toInt = 1 ∧ cdS wg a.toInt b.toInt x.toNatClampNeg) ∨ (y0_21.toInt = 0 ∧ ¬ (cdS wg a.toInt b.toInt x.toNatClampNeg))) (H : Heap) (locs : List Loc) (ls : Array Slot), va_P (dC, dI) vwCl (cW ad cid a2 lx sg gm lg) H → va_D A (cW ad cid a2 lx sg gm lg) → va_S A s.heap H locs → lv_has ls 3 [(0, eV (ad 8) x), (1, .int a), (2, .int b)] → W p l e (headSpec wm_X8_isCalled ({ frames := 0, cells := 1, slots := 6, locals := 0 })).room s m ([eV (ad 8) x, .int a, .int b] : List Value).toArray below meth c H locs 0 0 (vx_MQ below (cQx dC dI ad cid a2 lx (fun v u => ∃ r : Int32, v = some (.int r) ∧ u = (sg, gm, lg) ∧ (iv 0 1 r) ∧ ((r.toInt = 1 ∧ cdS wg a.toInt b.toInt x.toNatClampNeg) ∨ (r.toInt = 0 ∧ ¬ (cdS wg a.toInt b.toInt x.toNatClampNeg)))) A) (cX dC dI ad cid a2 lx (fun _ _ => False) A) ([eV (ad 8) x, .int a, .int b] : List Value).toArray s 1 6 A) (F0 m 21 ls [.int y0_21]) := by
    intro y0_21 hsx0_21 hsx2_21 hy0_21 u21 H locs ls hP hD hS hl
    exact W.nb (fun hN => W.widen (k := 1) (n := 6) (by decide) (by decide) (vx_ret (W.zret (v := y0_21) hx hb hr (iv_nb hy0_21) (fun t ht hW => ⟨⟨some (.int y0_21), (sg, gm, lg), rfl, ⟨y0_21, rfl, rfl, hy0_21, (u21)⟩, by rw [ht]; exact hP, va_K.moved hW.alike hK, hD⟩, hS.F ht, by rw [ht]; exact hN⟩) hS.2.2 dX8_isCalled_21)))
  have hj20 : ∀ (_ : iv 0 63 x) (_ : iv 0 1 b) (_ : ¬ (cdS wg a.toInt b.toInt x.toNatClampNeg)) (H : Heap) (locs : List Loc) (ls : Array Slot), va_P (dC, dI) vwCl (cW ad cid a2 lx sg gm lg) H → va_D A (cW ad cid a2 lx sg gm lg) → va_S A s.heap H locs → lv_has ls 3 [(0, eV (ad 8) x), (1, .int a), (2, .int b)] → W p l e (headSpec wm_X8_isCalled ({ frames := 0, cells := 1, slots := 6, locals := 0 })).room s m ([eV (ad 8) x, .int a, .int b] : List Value).toArray below meth c H locs 0 0 (vx_MQ below (cQx dC dI ad cid a2 lx (fun v u => ∃ r : Int32, v = some (.int r) ∧ u = (sg, gm, lg) ∧ (iv 0 1 r) ∧ ((r.toInt = 1 ∧ cdS wg a.toInt b.toInt x.toNatClampNeg) ∨ (r.toInt = 0 ∧ ¬ (cdS wg a.toInt b.toInt x.toNatClampNeg)))) A) (cX dC dI ad cid a2 lx (fun _ _ => False) A) ([eV (ad 8) x, .int a, .int b] : List Value).toArray s 1 6 A) (F0 m 20 ls []) := by
    intro  hsx0_20 hsx2_20 u20 H locs ls hP hD hS hl
    refine lv_iconst (v := 0) hx hb dX8_isCalled_20 (by decide) ?_
    exact hj21 0 hsx0_20 hsx2_20 (iv_w (iv_k (by decide) : iv 0 0 0) (by decide)) (Or.inr ⟨rfl, u20⟩) _ _ _ hP hD hS (lv_sub hl [0, 1, 2] rfl)
  refine ec_aload_n hx hb dX8_isCalled_0 rfl (lv_at hl 0 rfl) ?_
  refine cr_get (t := 8) (j := 4) (C := RX8) (T := TX8) (N := 7) (v := .int (gm 8 x.toNatClampNeg)) hx hb htb inX8 hown hK hP hvx (by decide) (by decide) (by decide) rfl (by decide) (htb _ kw_255) rfl dX8_isCalled_1 ?_
  obtain ⟨z_1, ez_1⟩ : ∃ z : Int32, z = (gm 8 x.toNatClampNeg) := ⟨_, rfl⟩
  refine W.eq (g2 := F0 m 4 ls [.int z_1]) (by rw [ez_1]) ?_
  have hz_1 : iv (-1) 25 z_1 := iv_of ez_1 (CI_a hI 8 hvx (by decide))
  refine lv_iload_n hx hb dX8_isCalled_4 rfl (lv_at hl 1 rfl) ?_
  refine lv_icmp_ne (tgt := 20) hx hb dX8_isCalled_5 (by decide) (fun c_2 => ?_) (fun c_2 => ?_)
  · exact hj20 hvx hvb ((fun h => absurd h.1 (by rw [(swt9 hSW ez_1 rfl)]; exact (fun q7 => c_2 (Int32.toInt_inj.mp q7))))) _ _ _ hP hD hS (lv_sub hl [0, 1, 2] rfl)
  · have d_3 : (z_1 : Int32).toInt = (a : Int32).toInt := congrArg Int32.toInt c_2
    have h_4 : iv (-1) 25 a := iv_eq (Eq.symm c_2) (iv_all a) hz_1 (by decide)
    refine ec_aload_n hx hb dX8_isCalled_8 rfl (lv_at hl 0 rfl) ?_
    refine cr_get (t := 8) (j := 5) (C := RX8) (T := TX8) (N := 7) (v := .int (gm 9 x.toNatClampNeg)) hx hb htb inX8 hown hK hP hvx (by decide) (by decide) (by decide) rfl (by decide) (htb _ kw_256) rfl dX8_isCalled_9 ?_
    obtain ⟨z_5, ez_5⟩ : ∃ z : Int32, z = (gm 9 x.toNatClampNeg) := ⟨_, rfl⟩
    refine W.eq (g2 := F0 m 12 ls [.int z_5]) (by rw [ez_5]) ?_
    have hz_5 : iv 0 1 z_5 := iv_of ez_5 (CI_a hI 9 hvx (by decide))
    refine lv_iload_n hx hb dX8_isCalled_12 rfl (lv_at hl 2 rfl) ?_
    refine lv_icmp_ne (tgt := 20) hx hb dX8_isCalled_13 (by decide) (fun c_6 => ?_) (fun c_6 => ?_)
    · exact hj20 hvx hvb ((fun h => absurd h.2 (by rw [(swt9 hSW ez_5 rfl)]; exact (fun q7 => c_6 (Int32.toInt_inj.mp q7))))) _ _ _ hP hD hS (lv_sub hl [0, 1, 2] rfl)
    · have d_7 : (z_5 : Int32).toInt = (b : Int32).toInt := congrArg Int32.toInt c_6
      refine lv_iconst (v := 1) hx hb dX8_isCalled_16 (by decide) ?_
      refine lv_goto (tgt := 21) hx hb dX8_isCalled_17 (by decide) ?_
      exact hj21 1 hvx hvb (iv_w (iv_k (by decide) : iv 1 1 1) (by decide)) (Or.inl ⟨rfl, (by have q8 := congrArg Int32.toInt (swt9 hSW ez_1 rfl); have q9 := congrArg Int32.toInt (swt9 hSW ez_5 rfl); exact ⟨by have := i32_0; have := i32_1; have := i32_2; have := i32_m1; have := (hvx).1; have := (hvx).2; have := (hvb).1; have := (hvb).2; have := (hz_1).1; have := (hz_1).2; have := (h_4).1; have := (h_4).2; have := (hz_5).1; have := (hz_5).2; omega, by have := i32_0; have := i32_1; have := i32_2; have := i32_m1; have := (hvx).1; have := (hvx).2; have := (hvb).1; have := (hvb).2; have := (hz_1).1; have := (hz_1).2; have := (h_4).1; have := (h_4).2; have := (hz_5).1; have := (hz_5).2; omega⟩)⟩) _ _ _ hP hD hS (lv_sub hl [0, 1, 2] rfl)

set_option maxHeartbeats 4000000 in
set_option maxRecDepth 100000 in
theorem d_ownsFactory9 (l : Launch) (dC : Nat → ClassId) (dI : Nat → Nat → Nat) (ad : Nat → Nat → Nat) (cid : Nat → ClassId) (a2 : Nat → Nat) (lx : List Nat) (sg : Nat → Int32) (gm : Nat → Nat → Int32) (lg : Nat → Nat → Int64) (x : Int32) (nm : Int32) (z : Int32) (wg : Nat → Nat → Int32) (hI : CI sg gm) (hvx : iv 0 7 x) (hvz : iv 0 1 z) (hSW : st9 gm = wg) : CMt dC dI ad cid a2 lx l yX2_ownsFactory wm_X2_ownsFactory ({ frames := 1, cells := 1, slots := 6, locals := 22 }) [eV (ad 7) x, .int nm, .int z] sg gm lg (fun v u => ∃ r : Int32, v = some (.int r) ∧ u = (sg, gm, lg) ∧ (iv 0 1 r) ∧ ((r.toInt = 1 ∧ owB wg nm.toInt z.toInt x.toNatClampNeg = true) ∨ (r.toInt = 0 ∧ owB wg nm.toInt z.toInt x.toNatClampNeg = false))) (fun _ _ => False) := by
  intro sz
  refine vx_ofW (cc := cX2_ownsFactory) (maxL := 4) (ret := (some .boolean)) (by decide) rfl ?_
  intro p e s m args below meth c s₁ B hml hxt hv
  obtain ⟨rfl, hsz, hP, hK, hD0, hG⟩ := hv
  have hx := B.exec
  have hb := B.bytes
  have hr := B.returns
  have hts := atoms_spec (ws := wm_X2_ownsFactory) B.pre
  have htb := fun (w : Cond) (h : w ∈ tb) => hts w (List.mem_cons_of_mem _ h)
  have hown : s.vm.findClass RX2 = some m.cls := findClass_of_methodNamed B.named
  have hlocks := B.notSynchronized
  subst hsz
  have hD := hD0.self (sz := s.heap.size)
  generalize hAe : va_A (cW ad cid a2 lx sg gm lg) s.heap.size = A at hD hG ⊢
  have hA : ∀ q : Nat, s.heap.size ≤ q → A q := fun q h => by rw [← hAe]; exact Or.inr h
  have hS : va_S A s.heap s.heap [] := va_S.rf
  have hl := lv_entry ([eV (ad 7) x, .int nm, .int z]) (n := 4) (by rw [show (lg_sl ([eV (ad 7) x, .int nm, .int z])).length = 3 from by simp [lg_sl, eV_cat, cat_i, cat_l]]; exact Nat.le_of_ble_eq_true rfl)
  rw [lg_entry_eq]
  generalize (lg_sl ([eV (ad 7) x, .int nm, .int z]) ++ List.replicate (4 - (lg_sl ([eV (ad 7) x, .int nm, .int z])).length) Slot.unset).toArray = ls at hl ⊢
  have hl : lv_has ls 4 [(0, eV (ad 7) x), (1, .int nm), (2, .int z)] := by simp [lv_args, eV_cat, cat_i, cat_l] at hl; exact hl
  have hj2 : ∀ (n : Nat) (x3_2 : Int32) (_ : (4 - x3_2.toInt).toNat = n) (_ : iv 0 4 x3_2) (_ : iv 0 7 x) (_ : iv 0 1 z) (_ : ∀ i, i < x3_2.toNatClampNeg → ¬ cdS wg nm.toInt z.toInt (8 * x.toNatClampNeg + 4 + i)) (H : Heap) (locs : List Loc) (ls : Array Slot), va_P (dC, dI) vwCl (cW ad cid a2 lx sg gm lg) H → va_D A (cW ad cid a2 lx sg gm lg) → va_S A s.heap H locs → lv_has ls 4 [(3, .int x3_2), (0, eV (ad 7) x), (1, .int nm), (2, .int z)] → W p l e (headSpec wm_X2_ownsFactory ({ frames := 1, cells := 1, slots := 6, locals := 22 })).room s m ([eV (ad 7) x, .int nm, .int z] : List Value).toArray below meth c H locs 0 0 (vx_MQ below (cQx dC dI ad cid a2 lx (fun v u => ∃ r : Int32, v = some (.int r) ∧ u = (sg, gm, lg) ∧ (iv 0 1 r) ∧ ((r.toInt = 1 ∧ owB wg nm.toInt z.toInt x.toNatClampNeg = true) ∨ (r.toInt = 0 ∧ owB wg nm.toInt z.toInt x.toNatClampNeg = false))) A) (cX dC dI ad cid a2 lx (fun _ _ => False) A) ([eV (ad 7) x, .int nm, .int z] : List Value).toArray s 1 6 A) (F0 m 2 ls []) := by
    intro n
    induction n using Nat.strongRecOn with
    | ind n ih2 =>
      intro x3_2 hn2 hx3_2 hsx0_2 hsx2_2 hnf H locs ls hP hD hS hl
      refine lv_iload_n hx hb dX2_ownsFactory_2 rfl (lv_at hl 0 rfl) ?_
      refine ec_aload_n hx hb dX2_ownsFactory_3 rfl (lv_at hl 1 rfl) ?_
      refine cr_get (t := 7) (j := 3) (C := RX2) (T := TX2) (N := 8) (v := .int (gm 1 x.toNatClampNeg)) hx hb htb inX2 hown hK hP hsx0_2 (by decide) (by decide) (by decide) rfl (by decide) (htb _ kw_234) rfl dX2_ownsFactory_4 ?_
      obtain ⟨z_1, ez_1⟩ : ∃ z : Int32, z = (gm 1 x.toNatClampNeg) := ⟨_, rfl⟩
      refine W.eq (g2 := F0 m 7 ls [.int z_1, .int x3_2]) (by rw [ez_1]) ?_
      have hz_1 : iv 0 4 z_1 := iv_of ez_1 (CI_a hI 1 hsx0_2 (by decide))
      refine lv_icmp_ge (tgt := 32) hx hb dX2_ownsFactory_7 (by decide) (fun c_2 => ?_) (fun c_2 => ?_)
      · have d_3 : (z_1 : Int32).toInt ≤ (x3_2 : Int32).toInt := Int32.le_iff_toInt_le.mp c_2
        refine lv_iconst (v := 0) hx hb dX2_ownsFactory_32 (by decide) ?_
        exact W.nb (fun hN => W.widen (k := 1) (n := 6) (by decide) (by decide) (vx_ret (W.zret (v := 0) hx hb hr (iv_nb (iv_w (iv_k (by decide) : iv 0 0 0) (by decide))) (fun t ht hW => ⟨⟨some (.int 0), (sg, gm, lg), rfl, ⟨0, rfl, rfl, (iv_w (iv_k (by decide) : iv 0 0 0) (by decide)), (Or.inr ⟨rfl, owB_f (fun i hi => hnf i (by have q1 := (swt9 hSW ez_1 rfl); rw [q1] at hi; have : (z_1).toNatClampNeg = (z_1).toInt.toNat := rfl; have : x3_2.toNatClampNeg = x3_2.toInt.toNat := rfl; have := i32_0; have := i32_1; have := i32_2; have := i32_m1; have := (hsx0_2).1; have := (hsx0_2).2; have := (hsx2_2).1; have := (hsx2_2).2; have := (hx3_2).1; have := (hx3_2).2; have := (hz_1).1; have := (hz_1).2; omega))⟩)⟩, by rw [ht]; exact hP, va_K.moved hW.alike hK, hD⟩, hS.F ht, by rw [ht]; exact hN⟩) hS.2.2 dX2_ownsFactory_33)))
      · have d_4 : (x3_2 : Int32).toInt < (z_1 : Int32).toInt := Int32.lt_iff_toInt_lt.mp (i32_lt c_2)
        have h_5 : iv 0 3 x3_2 := iv_ltL (i32_lt c_2) hx3_2 hz_1 (by decide)
        have h_6 : iv 1 4 z_1 := iv_ltR (i32_lt c_2) hx3_2 hz_1 (by decide)
        refine ec_aload_n hx hb dX2_ownsFactory_10 rfl (lv_at hl 1 rfl) ?_
        refine cr_get (t := 7) (j := 1) (C := RX2) (T := TX2) (N := 8) (v := eV (ad 29) x) hx hb htb inX2 hown hK hP hsx0_2 (by decide) (by decide) (by decide) rfl (by decide) (htb _ kw_49) (cV_c rfl (hsx0_2).1 (by rw [show cMu 7 1 = 1 from rfl, Nat.one_mul]; rfl)) dX2_ownsFactory_11 ?_
        refine lv_iload_n hx hb dX2_ownsFactory_14 rfl (lv_at hl 0 rfl) ?_
        obtain ⟨q_7, hq_7, nq_7, tq_7⟩ := ix_mk (8 * x.toNatClampNeg + 4 + (x3_2 : Int32).toNatClampNeg) 63 (by have q1 := iv_cl hsx0_2 (by decide); have q2 := (hsx0_2).2; have q3 := iv_cl h_5 (by decide); have q4 := (h_5).2; omega) (by decide)
        refine cr_aald (t := 29) (C := RX8) (v := eV (ad 8) q_7) hx hb hK hP hsx0_2 (by decide) (by decide) (by decide) (by decide) (by decide) rfl (show vp_in x3_2 (cLen 29) from (show vp_in x3_2 4 from (iv_in h_5 (by decide)))) (cAr_c (by decide) hq_7.1 nq_7) dX2_ownsFactory_15 ?_
        refine lv_iload_n hx hb dX2_ownsFactory_16 rfl (lv_at hl 2 rfl) ?_
        refine lv_iload_n hx hb dX2_ownsFactory_17 rfl (lv_at hl 3 rfl) ?_
        refine cm_callV (t := 8) (C := RX8) (T := TX8) (N := 7) (rest := []) (as := [.int nm, .int z]) ⟨hx, hb, hml, hown, htb⟩ (d_isCalled9 l dC dI ad cid a2 lx sg gm lg q_7 nm z wg hI hq_7 hsx2_2 hSW) (cwV 2 htb (gd_V kw_1095 kw_1096 kw_1097 kw_51 kw_1587) rfl rfl rfl (by decide +kernel) ⟨Nat.le_of_ble_eq_true rfl, Nat.le_of_ble_eq_true rfl⟩) hq_7 (by decide) (by decide) rfl rfl hl.1 rfl (Nat.le_trans cs_n (by decide)) dX2_ownsFactory_18 ⟨Nat.le_of_ble_eq_true rfl, Nat.le_of_ble_eq_true rfl⟩ hK hP hD hS hA hG (fun E ce q9 u_9 H locs hw hP hD hS hce hcv hcl => ?_) (fun v9 u_9 H locs hw hP hD hS => ?_)
        · exact hw.elim
        obtain ⟨r_8, rfl, rfl, hr_8, fC_r_8⟩ := hw
        have hP : va_P (dC, dI) vwCl (cW ad cid a2 lx sg gm lg) H := hP
        have hD : va_D A (cW ad cid a2 lx sg gm lg) := hD
        refine W.eq (g2 := F0 m 21 ls [.int r_8]) rfl ?_
        refine lv_if_eq (tgt := 26) hx hb dX2_ownsFactory_21 (by decide) (fun c_11 => ?_) (fun c_11 => ?_)
        · have h_12 : iv 0 0 r_8 := iv_eq c_11 hr_8 (iv_k (by decide) : iv 0 0 0) (by decide)
          obtain ⟨z_13, ez_13⟩ : ∃ z : Int32, z = x3_2 + 1 := ⟨_, rfl⟩
          have hz_13 : iv 1 4 z_13 := iv_of ez_13 (iv_add h_5 (iv_k (by decide) : iv 1 1 1) (by decide))
          have tz_13 : z_13.toInt = x3_2.toInt + 1 := by rw [ez_13]; exact iv_addE h_5 (iv_k (by decide) : iv 1 1 1) (by decide)
          refine lv_iinc (v := z_13) (lv' := [(3, .int z_13), (0, eV (ad 7) x), (1, .int nm), (2, .int z)]) hx hb dX2_ownsFactory_26 hl (k := 0) rfl ez_13.symm (by decide) rfl (fun ls hl => ?_)
          refine lv_goto (tgt := 2) hx hb dX2_ownsFactory_29 (by decide) ?_
          exact ih2 _ (by rw [← hn2]; exact (iv_meas tz_13 h_5 (by decide))) z_13 rfl (iv_w hz_13 (by decide)) hsx0_2 hsx2_2 (fun i hi hc => by { have c1 := cln9 (u := x3_2) (h_5).1; have c2 := cln9 (u := z_13) (by have := (hz_13).1; omega); by_cases hq : i = x3_2.toNatClampNeg; (subst hq; exact absurd hc ((by have f9 := fC_r_8; rw [nq_7] at f9; exact (f9.resolve_left (fun q8 => absurd q8.1 (by have := i32_0; have := i32_1; have := i32_2; have := i32_m1; have := (hsx0_2).1; have := (hsx0_2).2; have := (hsx2_2).1; have := (hsx2_2).2; have := (h_5).1; have := (h_5).2; have := (h_6).1; have := (h_6).2; have := (hq_7).1; have := (hq_7).2; have := (h_12).1; have := (h_12).2; have := (hz_13).1; have := (hz_13).2; omega))).2))); exact hnf i (by omega) hc }) _ _ _ hP hD hS (lv_sub hl [0, 1, 2, 3] rfl)
        · have h_14 : iv 1 1 r_8 := iv_neL c_11 hr_8 (by decide)
          refine lv_iconst (v := 1) hx hb dX2_ownsFactory_24 (by decide) ?_
          exact W.nb (fun hN => W.widen (k := 1) (n := 6) (by decide) (by decide) (vx_ret (W.zret (v := 1) hx hb hr (iv_nb (iv_w (iv_k (by decide) : iv 1 1 1) (by decide))) (fun t ht hW => ⟨⟨some (.int 1), (sg, gm, lg), rfl, ⟨1, rfl, rfl, (iv_w (iv_k (by decide) : iv 1 1 1) (by decide)), (Or.inl ⟨rfl, owB_t (i := x3_2.toNatClampNeg) (by have q1 := (swt9 hSW ez_1 rfl); rw [q1]; have : (z_1).toNatClampNeg = (z_1).toInt.toNat := rfl; have : x3_2.toNatClampNeg = x3_2.toInt.toNat := rfl; have := i32_0; have := i32_1; have := i32_2; have := i32_m1; have := (hsx0_2).1; have := (hsx0_2).2; have := (hsx2_2).1; have := (hsx2_2).2; have := (h_5).1; have := (h_5).2; have := (h_6).1; have := (h_6).2; have := (hq_7).1; have := (hq_7).2; have := (h_14).1; have := (h_14).2; omega) (by have f9 := fC_r_8; rw [nq_7] at f9; exact (f9.resolve_right (fun q8 => absurd q8.1 (by have := i32_0; have := i32_1; have := i32_2; have := i32_m1; have := (hsx0_2).1; have := (hsx0_2).2; have := (hsx2_2).1; have := (hsx2_2).2; have := (h_5).1; have := (h_5).2; have := (h_6).1; have := (h_6).2; have := (hq_7).1; have := (hq_7).2; have := (h_14).1; have := (h_14).2; omega))).2)⟩)⟩, by rw [ht]; exact hP, va_K.moved hW.alike hK, hD⟩, hS.F ht, by rw [ht]; exact hN⟩) hS.2.2 dX2_ownsFactory_25)))
  refine lv_iconst (v := 0) hx hb dX2_ownsFactory_0 (by decide) ?_
  refine lv_istore_n (i := 3) (lv' := [(3, .int 0), (0, eV (ad 7) x), (1, .int nm), (2, .int z)]) hx hb dX2_ownsFactory_1 rfl hl (by decide) rfl (fun ls hl => ?_)
  exact hj2 _ 0 rfl (iv_w (iv_k (by decide) : iv 0 0 0) (by decide)) hvx hvz (fun i hi => absurd hi (Nat.not_lt_zero _)) _ _ _ hP hD hS (lv_sub hl [0, 1, 2, 3] rfl)

set_option maxHeartbeats 4000000 in
set_option maxRecDepth 100000 in
theorem d_withFactory9 (l : Launch) (dC : Nat → ClassId) (dI : Nat → Nat → Nat) (ad : Nat → Nat → Nat) (cid : Nat → ClassId) (a2 : Nat → Nat) (lx : List Nat) (sg : Nat → Int32) (gm : Nat → Nat → Int32) (lg : Nat → Nat → Int64) (x : Int32) (nm : Int32) (z : Int32) (wg : Nat → Nat → Int32) (hI : CI sg gm) (hvx : iv 0 7 x) (hvz : iv 0 1 z) (hSW : st9 gm = wg) : CMt dC dI ad cid a2 lx l yX2_withFactory wm_X2_withFactory ({ frames := 2, cells := 1, slots := 6, locals := 45 }) [eV (ad 7) x, .int nm, .int z] sg gm lg (fun v u => ∃ r : Int32, v = some (eV (ad 7) r) ∧ u = (sg, gm, lg) ∧ (iv (-1) 7 r) ∧ (r.toInt = wfF wg nm.toInt z.toInt 8 x.toInt)) (fun _ _ => False) := by
  intro sz
  refine vx_ofW (cc := cX2_withFactory) (maxL := 5) (ret := (some (.object "WiredBeans$DeclaredClass"))) (by decide) rfl ?_
  intro p e s m args below meth c s₁ B hml hxt hv
  obtain ⟨rfl, hsz, hP, hK, hD0, hG⟩ := hv
  have hx := B.exec
  have hb := B.bytes
  have hr := B.returns
  have hts := atoms_spec (ws := wm_X2_withFactory) B.pre
  have htb := fun (w : Cond) (h : w ∈ tb) => hts w (List.mem_cons_of_mem _ h)
  have hown : s.vm.findClass RX2 = some m.cls := findClass_of_methodNamed B.named
  have hlocks := B.notSynchronized
  subst hsz
  have hD := hD0.self (sz := s.heap.size)
  generalize hAe : va_A (cW ad cid a2 lx sg gm lg) s.heap.size = A at hD hG ⊢
  have hA : ∀ q : Nat, s.heap.size ≤ q → A q := fun q h => by rw [← hAe]; exact Or.inr h
  have hS : va_S A s.heap s.heap [] := va_S.rf
  have hl := lv_entry ([eV (ad 7) x, .int nm, .int z]) (n := 5) (by rw [show (lg_sl ([eV (ad 7) x, .int nm, .int z])).length = 3 from by simp [lg_sl, eV_cat, cat_i, cat_l]]; exact Nat.le_of_ble_eq_true rfl)
  rw [lg_entry_eq]
  generalize (lg_sl ([eV (ad 7) x, .int nm, .int z]) ++ List.replicate (5 - (lg_sl ([eV (ad 7) x, .int nm, .int z])).length) Slot.unset).toArray = ls at hl ⊢
  have hl : lv_has ls 5 [(0, eV (ad 7) x), (1, .int nm), (2, .int z)] := by simp [lv_args, eV_cat, cat_i, cat_l] at hl; exact hl
  have hj38 : ∀ (x4_38 : Int32) (x3_38 : Int32) (_ : iv 0 8 x4_38) (_ : iv (-1) 7 x3_38) (_ : iv 0 7 x) (_ : iv 0 1 z) (_ : wfF wg nm.toInt z.toInt 8 x.toInt = -1) (H : Heap) (locs : List Loc) (ls : Array Slot), va_P (dC, dI) vwCl (cW ad cid a2 lx sg gm lg) H → va_D A (cW ad cid a2 lx sg gm lg) → va_S A s.heap H locs → lv_has ls 5 [(4, .int x4_38), (3, eV (ad 7) x3_38), (0, eV (ad 7) x), (1, .int nm), (2, .int z)] → W p l e (headSpec wm_X2_withFactory ({ frames := 2, cells := 1, slots := 6, locals := 45 })).room s m ([eV (ad 7) x, .int nm, .int z] : List Value).toArray below meth c H locs 0 0 (vx_MQ below (cQx dC dI ad cid a2 lx (fun v u => ∃ r : Int32, v = some (eV (ad 7) r) ∧ u = (sg, gm, lg) ∧ (iv (-1) 7 r) ∧ (r.toInt = wfF wg nm.toInt z.toInt 8 x.toInt)) A) (cX dC dI ad cid a2 lx (fun _ _ => False) A) ([eV (ad 7) x, .int nm, .int z] : List Value).toArray s 1 6 A) (F0 m 38 ls []) := by
    intro x4_38 x3_38 hx4_38 hx3_38 hsx0_38 hsx2_38 u38 H locs ls hP hD hS hl
    refine ec_null (a := ad 7) hx hb dX2_withFactory_38 ?_
    exact W.nb (fun hN => W.widen (k := 1) (n := 6) (by decide) (by decide) (vx_ret (W.aret (v := eV (ad 7) (-1)) hx hb hr (Or.inl ⟨_, rfl⟩) (eV_is _ _) (fun t ht hW => ⟨⟨some (eV (ad 7) (-1)), (sg, gm, lg), rfl, ⟨(-1), rfl, rfl, (iv_w (iv_k (by decide) : iv (-1) (-1) (-1)) (by decide)), ((by have q9 := u38; rw [q9]; rfl))⟩, by rw [ht]; exact hP, va_K.moved hW.alike hK, hD⟩, hS.F ht, by rw [ht]; exact hN⟩) hS.2.2 dX2_withFactory_39)))
  have hj5 : ∀ (n : Nat) (x4_5 : Int32) (x3_5 : Int32) (_ : (8 - x4_5.toInt).toNat = n) (_ : iv 0 8 x4_5) (_ : iv (-1) 7 x3_5) (_ : iv 0 7 x) (_ : iv 0 1 z) (_ : wfF wg nm.toInt z.toInt 8 x.toInt = wfF wg nm.toInt z.toInt (8 - x4_5.toNatClampNeg) x3_5.toInt) (H : Heap) (locs : List Loc) (ls : Array Slot), va_P (dC, dI) vwCl (cW ad cid a2 lx sg gm lg) H → va_D A (cW ad cid a2 lx sg gm lg) → va_S A s.heap H locs → lv_has ls 5 [(4, .int x4_5), (3, eV (ad 7) x3_5), (0, eV (ad 7) x), (1, .int nm), (2, .int z)] → W p l e (headSpec wm_X2_withFactory ({ frames := 2, cells := 1, slots := 6, locals := 45 })).room s m ([eV (ad 7) x, .int nm, .int z] : List Value).toArray below meth c H locs 0 0 (vx_MQ below (cQx dC dI ad cid a2 lx (fun v u => ∃ r : Int32, v = some (eV (ad 7) r) ∧ u = (sg, gm, lg) ∧ (iv (-1) 7 r) ∧ (r.toInt = wfF wg nm.toInt z.toInt 8 x.toInt)) A) (cX dC dI ad cid a2 lx (fun _ _ => False) A) ([eV (ad 7) x, .int nm, .int z] : List Value).toArray s 1 6 A) (F0 m 5 ls []) := by
    intro n
    induction n using Nat.strongRecOn with
    | ind n ih5 =>
      intro x4_5 x3_5 hn5 hx4_5 hx3_5 hsx0_5 hsx2_5 hst H locs ls hP hD hS hl
      refine lv_iload hx hb dX2_withFactory_5 (lv_at hl 0 rfl) ?_
      refine lv_bipush (v := 8) hx hb dX2_withFactory_7 (by decide) ?_
      refine lv_icmp_ge (tgt := 38) hx hb dX2_withFactory_9 (by decide) (fun c_1 => ?_) (fun c_1 => ?_)
      · have h_2 : iv 8 8 x4_5 := iv_leR c_1 (iv_k (by decide) : iv 8 8 8) hx4_5 (by decide)
        exact hj38 x4_5 x3_5 (iv_w h_2 (by decide)) hx3_5 hsx0_5 hsx2_5 (wfF_e hst (by have := i32_0; have := i32_1; have := i32_2; have := i32_m1; have := (hsx0_5).1; have := (hsx0_5).2; have := (hsx2_5).1; have := (hsx2_5).2; have := (h_2).1; have := (h_2).2; have := (hx3_5).1; have := (hx3_5).2; omega)) _ _ _ hP hD hS (lv_sub hl [0, 1, 2, 3, 4] rfl)
      · have h_3 : iv 0 7 x4_5 := iv_ltL (i32_lt c_1) hx4_5 (iv_k (by decide) : iv 8 8 8) (by decide)
        refine ec_aload_n hx hb dX2_withFactory_12 rfl (lv_at hl 1 rfl) ?_
        refine ec_ifnull (tgt := 38) hx hb dX2_withFactory_13 (by decide) (fun c_4 => ?_) (fun c_4 => ?_)
        · have h_5 : iv (-1) (-1) x3_5 := ⟨(hx3_5).1, by omega⟩
          exact hj38 x4_5 x3_5 (iv_w h_3 (by decide)) (iv_w h_5 (by decide)) hsx0_5 hsx2_5 (wfF_e hst (by have := i32_0; have := i32_1; have := i32_2; have := i32_m1; have := (hsx0_5).1; have := (hsx0_5).2; have := (hsx2_5).1; have := (hsx2_5).2; have := (h_3).1; have := (h_3).2; have := (h_5).1; have := (h_5).2; omega)) _ _ _ hP hD hS (lv_sub hl [0, 1, 2, 3, 4] rfl)
        · have h_6 : iv 0 7 x3_5 := ⟨c_4, (hx3_5).2⟩
          refine ec_aload_n hx hb dX2_withFactory_16 rfl (lv_at hl 1 rfl) ?_
          refine lv_iload_n hx hb dX2_withFactory_17 rfl (lv_at hl 3 rfl) ?_
          refine lv_iload_n hx hb dX2_withFactory_18 rfl (lv_at hl 4 rfl) ?_
          refine cm_callV (t := 7) (C := RX2) (T := TX2) (N := 8) (rest := []) (as := [.int nm, .int z]) ⟨hx, hb, hml, hown, htb⟩ (d_ownsFactory9 l dC dI ad cid a2 lx sg gm lg x3_5 nm z wg hI h_6 hsx2_5 hSW) (cwV 2 htb (gd_V kw_1092 kw_1093 kw_1094 kw_15 kw_1586) rfl rfl rfl (by decide +kernel) ⟨Nat.le_of_ble_eq_true rfl, Nat.le_of_ble_eq_true rfl⟩) h_6 (by decide) (by decide) rfl rfl hl.1 rfl (Nat.le_trans cs_n (by decide)) dX2_withFactory_19 ⟨Nat.le_of_ble_eq_true rfl, Nat.le_of_ble_eq_true rfl⟩ hK hP hD hS hA hG (fun E ce q9 u_8 H locs hw hP hD hS hce hcv hcl => ?_) (fun v9 u_8 H locs hw hP hD hS => ?_)
          · exact hw.elim
          obtain ⟨r_7, rfl, rfl, hr_7, fO_r_7⟩ := hw
          have hP : va_P (dC, dI) vwCl (cW ad cid a2 lx sg gm lg) H := hP
          have hD : va_D A (cW ad cid a2 lx sg gm lg) := hD
          refine W.eq (g2 := F0 m 22 ls [.int r_7]) rfl ?_
          refine lv_if_eq (tgt := 27) hx hb dX2_withFactory_22 (by decide) (fun c_10 => ?_) (fun c_10 => ?_)
          · have h_11 : iv 0 0 r_7 := iv_eq c_10 hr_7 (iv_k (by decide) : iv 0 0 0) (by decide)
            refine ec_aload_n hx hb dX2_withFactory_27 rfl (lv_at hl 1 rfl) ?_
            refine cr_get (t := 7) (j := 7) (C := RX2) (T := TX2) (N := 8) (v := eV (ad 7) (gm 4 x3_5.toNatClampNeg)) hx hb htb inX2 hown hK hP h_6 (by decide) (by decide) (by decide) rfl (by decide) (htb _ kw_232) rfl dX2_withFactory_28 ?_
            obtain ⟨z_12, ez_12⟩ : ∃ z : Int32, z = (gm 4 x3_5.toNatClampNeg) := ⟨_, rfl⟩
            refine W.eq (g2 := F0 m 31 ls [eV (ad 7) z_12]) (by rw [ez_12]) ?_
            have hz_12 : iv (-1) 7 z_12 := iv_of ez_12 (CI_a hI 4 h_6 (by decide))
            refine ec_astore_n (i := 3) (lv' := [(3, eV (ad 7) z_12), (4, .int x4_5), (0, eV (ad 7) x), (1, .int nm), (2, .int z)]) hx hb dX2_withFactory_31 rfl hl (by decide) rfl (fun ls hl => ?_)
            obtain ⟨z_13, ez_13⟩ : ∃ z : Int32, z = x4_5 + 1 := ⟨_, rfl⟩
            have hz_13 : iv 1 8 z_13 := iv_of ez_13 (iv_add h_3 (iv_k (by decide) : iv 1 1 1) (by decide))
            have tz_13 : z_13.toInt = x4_5.toInt + 1 := by rw [ez_13]; exact iv_addE h_3 (iv_k (by decide) : iv 1 1 1) (by decide)
            refine lv_iinc (v := z_13) (lv' := [(4, .int z_13), (3, eV (ad 7) z_12), (0, eV (ad 7) x), (1, .int nm), (2, .int z)]) hx hb dX2_withFactory_32 hl (k := 1) rfl ez_13.symm (by decide) (by simp [List.filter, eV_cat, cat_i, cat_l]) (fun ls hl => ?_)
            refine lv_goto (tgt := 5) hx hb dX2_withFactory_35 (by decide) ?_
            exact ih5 _ (by rw [← hn5]; exact (iv_meas tz_13 h_3 (by decide))) z_13 z_12 rfl (iv_w hz_13 (by decide)) hz_12 hsx0_5 hsx2_5 (wfF_st hst (show iv 0 7 x4_5 from h_3) (h_6).1 (fO_r_7.resolve_left (fun q8 => absurd q8.1 (by have := i32_0; have := i32_1; have := i32_2; have := i32_m1; have := (hsx0_5).1; have := (hsx0_5).2; have := (hsx2_5).1; have := (hsx2_5).2; have := (h_3).1; have := (h_3).2; have := (h_6).1; have := (h_6).2; have := (h_11).1; have := (h_11).2; have := (hz_12).1; have := (hz_12).2; have := (hz_13).1; have := (hz_13).2; omega))).2 (swt9 hSW ez_12 rfl).symm tz_13) _ _ _ hP hD hS (lv_sub hl [0, 1, 2, 3, 4] rfl)
          · have h_14 : iv 1 1 r_7 := iv_neL c_10 hr_7 (by decide)
            refine ec_aload_n hx hb dX2_withFactory_25 rfl (lv_at hl 1 rfl) ?_
            exact W.nb (fun hN => W.widen (k := 1) (n := 6) (by decide) (by decide) (vx_ret (W.aret (v := eV (ad 7) x3_5) hx hb hr (Or.inl ⟨_, rfl⟩) (eV_is _ _) (fun t ht hW => ⟨⟨some (eV (ad 7) x3_5), (sg, gm, lg), rfl, ⟨x3_5, rfl, rfl, (iv_w h_6 (by decide)), ((wfF_h hst (show iv 0 7 x4_5 from h_3) (h_6).1 (fO_r_7.resolve_right (fun q8 => absurd q8.1 (by have := i32_0; have := i32_1; have := i32_2; have := i32_m1; have := (hsx0_5).1; have := (hsx0_5).2; have := (hsx2_5).1; have := (hsx2_5).2; have := (h_3).1; have := (h_3).2; have := (h_6).1; have := (h_6).2; have := (h_14).1; have := (h_14).2; omega))).2).symm)⟩, by rw [ht]; exact hP, va_K.moved hW.alike hK, hD⟩, hS.F ht, by rw [ht]; exact hN⟩) hS.2.2 dX2_withFactory_26)))
  refine ec_aload_n hx hb dX2_withFactory_0 rfl (lv_at hl 0 rfl) ?_
  refine ec_astore_n (i := 3) (lv' := [(3, eV (ad 7) x), (0, eV (ad 7) x), (1, .int nm), (2, .int z)]) hx hb dX2_withFactory_1 rfl hl (by decide) rfl (fun ls hl => ?_)
  refine lv_iconst (v := 0) hx hb dX2_withFactory_2 (by decide) ?_
  refine lv_istore (i := 4) (lv' := [(4, .int 0), (3, eV (ad 7) x), (0, eV (ad 7) x), (1, .int nm), (2, .int z)]) hx hb dX2_withFactory_3 hl (by decide) (by simp [List.filter, eV_cat, cat_i, cat_l]) (fun ls hl => ?_)
  exact hj5 _ 0 x rfl (iv_w (iv_k (by decide) : iv 0 0 0) (by decide)) (iv_w hvx (by decide)) hvx hvz (rfl) _ _ _ hP hD hS (lv_sub hl [0, 1, 2, 3, 4] rfl)
end
section
theorem RC_cl {wg : Nat → Nat → Int32} {lg : Nat → Nat → Int64} {S : S9} {sg : Nat → Int32} {gm : Nat → Nat → Int32} {nb : Int32} (h : RC wg lg S sg gm) (h0 : 0 ≤ nb.toInt) (hl : nb.toInt < (sg 14).toInt) : (((zO S)[nb.toInt.toNat]?).getD (0, 0)).1 = (gm 49 nb.toNatClampNeg).toInt ∧ (((zO S)[nb.toInt.toNat]?).getD (0, 0)).2 = (gm 50 nb.toNatClampNeg).toInt := by
  have h1 := h.1.1
  have hk : nb.toInt.toNat < (zO S).length := by omega
  have h2 := h.1.2 nb.toInt.toNat _ (List.getElem?_eq_getElem hk)
  rw [List.getElem?_eq_getElem hk]
  exact ⟨h2.1.symm, h2.2.symm⟩
theorem wOb_0 {wg : Nat → Nat → Int32} {ob : List Ob9} {o t : Int} (h : t < 8) : wOb wg ob o t = -1 := by unfold wOb; rw [if_pos h]
theorem wOb_1 {wg : Nat → Nat → Int32} {ob : List Ob9} {o t c s : Int} (h : 8 ≤ t) (hc : ((ob[o.toNat]?).getD (0, 0)).1 = c) (hs : s = stF wg (t - 8) 8 c 0) : wOb wg ob o t = if s = -1 then -1 else 2 * s := by unfold wOb; rw [if_neg (by omega), hc, ← hs]
/-- what is worked out of a content fits its kind -/
def VOK (wg : Nat → Nat → Int32) (ob : List Ob9) (c : Nat) (V : List Int) : Prop := (wg 25 c).toInt = 6 ∨ (wg 25 c).toInt = 7 ∨ (wg 25 c).toInt = 9 ∨ ∃ o : Int, V = [o] ∧ 0 ≤ o ∧ o < (ob.length : Int)
def WVL (gm : Nat → Nat → Int32) (sl : Nat) (V : List Int) : Prop := ∀ (j : Nat) (x : Int), V[j]? = some x → (gm 52 (sl + j)).toInt = x
theorem wCo_7 {wg : Nat → Nat → Int32} {wl : Nat → Nat → Int64} {ob : List Ob9} {c : Nat} {V : List Int} {t : Int} (h : (wg 25 c).toInt = 7) : wCo wg wl ob c V t = wTx wg wl c t := by unfold wCo; rw [if_pos h]
theorem wCo_9 {wg : Nat → Nat → Int32} {wl : Nat → Nat → Int64} {ob : List Ob9} {c : Nat} {V : List Int} {t : Int} (h : (wg 25 c).toInt = 9) : wCo wg wl ob c V t = if 3 ≤ t then 0 else -1 := by unfold wCo; rw [if_neg (by omega), if_pos h]
theorem wCo_6 {wg : Nat → Nat → Int32} {wl : Nat → Nat → Int64} {ob : List Ob9} {c : Nat} {V : List Int} {t : Int} (h : (wg 25 c).toInt = 6) : wCo wg wl ob c V t = if t = 4 then 0 else -1 := by unfold wCo; rw [if_neg (by omega), if_neg (by omega), if_pos h]
theorem wCo_o {wg : Nat → Nat → Int32} {wl : Nat → Nat → Int64} {ob : List Ob9} {c : Nat} {o t : Int} (h6 : ¬ (wg 25 c).toInt = 6) (h7 : ¬ (wg 25 c).toInt = 7) (h9 : ¬ (wg 25 c).toInt = 9) : wCo wg wl ob c [o] t = wOb wg ob o t := by unfold wCo; rw [if_neg h7, if_neg h9, if_neg h6]; rfl
theorem vCo_7 {wg : Nat → Nat → Int32} {wl : Nat → Nat → Int64} {c : Nat} {V : List Int} {t : Int} (h : (wg 25 c).toInt = 7) : vCo wg wl c V t = vTx wg wl c t := by unfold vCo; rw [if_pos h]
theorem vCo_9 {wg : Nat → Nat → Int32} {wl : Nat → Nat → Int64} {c : Nat} {V : List Int} {t : Int} (h : (wg 25 c).toInt = 9) : vCo wg wl c V t = -1 := by unfold vCo; rw [if_neg (by omega), if_pos h]
theorem vCo_6 {wg : Nat → Nat → Int32} {wl : Nat → Nat → Int64} {c : Nat} {V : List Int} {t : Int} (h : (wg 25 c).toInt = 6) : vCo wg wl c V t = 2000 + (wg 18 c).toInt := by unfold vCo; rw [if_neg (by omega), if_neg (by omega), if_pos h]
theorem vCo_o {wg : Nat → Nat → Int32} {wl : Nat → Nat → Int64} {c : Nat} {o t : Int} (h6 : ¬ (wg 25 c).toInt = 6) (h7 : ¬ (wg 25 c).toInt = 7) (h9 : ¬ (wg 25 c).toInt = 9) : vCo wg wl c [o] t = 3000 + o := by unfold vCo; rw [if_neg h7, if_neg h9, if_neg h6]; rfl
theorem tlV_n {wg : Nat → Nat → Int32} {wl : Nat → Nat → Int64} {wh ab sc t : Int} {c : Nat} {V : List Int} {S : S9} (h : ¬ (wg 25 c).toInt = 6) : tlV wg wl wh ab sc c V t S = zAdd S (wh, ab, sc, vCo wg wl c V t) := by unfold tlV; exact if_neg h
theorem tlV_l {wg : Nat → Nat → Int32} {wl : Nat → Nat → Int64} {wh ab sc t : Int} {c : Nat} {V : List Int} {S : S9} (h : (wg 25 c).toInt = 6) : tlV wg wl wh ab sc c V t S = tlI V (wg 18 c).toNatClampNeg 0 (zAdd S (wh, ab, sc, vCo wg wl c V t)) := by unfold tlV; exact if_pos h
theorem WVL_g {gm : Nat → Nat → Int32} {sl i : Nat} {V : List Int} (h : WVL gm sl V) (hi : i < V.length) : (V[i]?).getD 0 = (gm 52 (sl + i)).toInt := by
  rw [h i _ (List.getElem?_eq_getElem hi), List.getElem?_eq_getElem hi]; rfl
theorem WVL_e {gm gm2 : Nat → Nat → Int32} {sl : Nat} {V : List Int} (h : WVL gm sl V) (e : gm2 52 = gm 52) : WVL gm2 sl V := by unfold WVL; rw [e]; exact h
theorem tlI_st {V : List Int} {N : Nat} {R S2 : S9} {i i2 : Int32} {a b y : Int} (hT : R = tlI V (N - i.toNatClampNeg) i.toNatClampNeg S2) (h0 : 0 ≤ i.toInt) (hN : i.toInt < (N : Int)) (h2 : i2.toInt = i.toInt + 1) (ha : a = 6) (hb : b = -1) (hy : (V[i.toNatClampNeg]?).getD 0 = y) : R = tlI V (N - i2.toNatClampNeg) i2.toNatClampNeg (zAdd S2 (a, b, i.toInt, y)) := by
  have c1 := cln9 h0
  have c2 := cln9 (u := i2) (by omega)
  subst ha; subst hb; subst hy
  rw [show N - i.toNatClampNeg = (N - i2.toNatClampNeg) + 1 by omega] at hT
  rw [hT, show i2.toNatClampNeg = i.toNatClampNeg + 1 by omega, ← c1]
  rfl
theorem tlI_e {V : List Int} {N : Nat} {R S2 : S9} {i : Int32} (hT : R = tlI V (N - i.toNatClampNeg) i.toNatClampNeg S2) (h0 : 0 ≤ i.toInt) (hN : (N : Int) ≤ i.toInt) : R = S2 := by
  have c1 := cln9 h0
  rw [show N - i.toNatClampNeg = 0 by omega] at hT
  exact hT
end
section
set_option maxHeartbeats 4000000 in
set_option maxRecDepth 100000 in
theorem d_textWeight9 (l : Launch) (dC : Nat → ClassId) (dI : Nat → Nat → Nat) (ad : Nat → Nat → Nat) (cid : Nat → ClassId) (a2 : Nat → Nat) (lx : List Nat) (sg : Nat → Int32) (gm : Nat → Nat → Int32) (lg : Nat → Nat → Int64) (o : Int32) (kd : Int32) (wg : Nat → Nat → Int32) (hI : CI sg gm) (hvo : iv 0 79 o) (hSW : st9 gm = wg) : CMt dC dI ad cid a2 lx l yX5_textWeight wm_X5_textWeight ({ frames := 0, cells := 1, slots := 6, locals := 0 }) [eV (ad 9) o, .int kd] sg gm lg (fun v u => ∃ r : Int32, v = some (.int r) ∧ u = (sg, gm, lg) ∧ (iv (-1) 3 r) ∧ (r.toInt = wTx wg lg o.toNatClampNeg kd.toInt)) (fun _ _ => False) := by
  intro sz
  refine vx_ofW (cc := cX5_textWeight) (maxL := 2) (ret := (some .int)) (by decide) rfl ?_
  intro p e s m args below meth c s₁ B hml hxt hv
  obtain ⟨rfl, hsz, hP, hK, hD0, hG⟩ := hv
  have hx := B.exec
  have hb := B.bytes
  have hr := B.returns
  have hts := atoms_spec (ws := wm_X5_textWeight) B.pre
  have htb := fun (w : Cond) (h : w ∈ tb) => hts w (List.mem_cons_of_mem _ h)
  have hown : s.vm.findClass RX5 = some m.cls := findClass_of_methodNamed B.named
  have hlocks := B.notSynchronized
  subst hsz
  have hD := hD0.self (sz := s.heap.size)
  generalize hAe : va_A (cW ad cid a2 lx sg gm lg) s.heap.size = A at hD hG ⊢
  have hA : ∀ q : Nat, s.heap.size ≤ q → A q := fun q h => by rw [← hAe]; exact Or.inr h
  have hS : va_S A s.heap s.heap [] := va_S.rf
  have hl := lv_entry ([eV (ad 9) o, .int kd]) (n := 2) (by rw [show (lg_sl ([eV (ad 9) o, .int kd])).length = 2 from by simp [lg_sl, eV_cat, cat_i, cat_l]]; exact Nat.le_of_ble_eq_true rfl)
  rw [lg_entry_eq]
  generalize (lg_sl ([eV (ad 9) o, .int kd]) ++ List.replicate (2 - (lg_sl ([eV (ad 9) o, .int kd])).length) Slot.unset).toArray = ls at hl ⊢
  have hl : lv_has ls 2 [(0, eV (ad 9) o), (1, .int kd)] := by simp [lv_args, eV_cat, cat_i, cat_l] at hl; exact hl
  refine lv_iload_n hx hb dX5_textWeight_0 rfl (lv_at hl 1 rfl) ?_
  by_cases c_1 : (kd : Int32).toInt = 0
  · refine lv_tableIn (tgt := 32) hx hb dX5_textWeight_1 (by rw [c_1]; decide) (by rw [c_1]; decide) (by rw [c_1]; rfl) (by decide) ?_
    have h_2 : iv 0 0 kd := iv_at c_1
    refine ec_aload_n hx hb dX5_textWeight_32 rfl (lv_at hl 0 rfl) ?_
    refine cr_get (t := 9) (j := 13) (C := RX3) (T := TX3) (N := 21) (v := .long (lg 3 o.toNatClampNeg)) hx hb htb inX3 hown hK hP hvo (by decide) (by decide) (by decide) rfl (by decide) (htb _ kw_1045) rfl dX5_textWeight_33 ?_
    refine lv_topl (fun z_3 ez_3 => ?_)
    refine lv_ldc2 (own := RX5) (v := 1099511627776) hx hb hown (htb _ kw_1046) dX5_textWeight_36 ?_
    refine W.lcmp hx hb dX5_textWeight_39 ?_
    refine lv_topi (fun z_4 ez_4 => ?_)
    have hz_4 : iv (-1) 1 z_4 := iv_of ez_4 (iv_cmp _ _)
    have hl_z_4 := lg_tr7 ez_4
    rw [show (1099511627776 : Int64).toInt = 1099511627776 from by decide] at hl_z_4
    refine lv_if_ne (tgt := 47) hx hb dX5_textWeight_40 (by decide) (fun c_5 => ?_) (fun c_5 => ?_)
    · have d_6 : ¬ (z_4 : Int32).toInt = 0 := lv_neT c_5 rfl
      refine lv_iconst (v := 1) hx hb dX5_textWeight_47 (by decide) ?_
      exact W.nb (fun hN => W.widen (k := 1) (n := 6) (by decide) (by decide) (vx_ret (W.iret (v := 1) hx hb hr (fun t ht hW => ⟨⟨some (.int 1), (sg, gm, lg), rfl, ⟨1, rfl, rfl, (iv_w (iv_k (by decide) : iv 1 1 1) (by decide)), ((by have i3 : (3 : Int32).toInt = 3 := (by decide); have q8 := congrArg Int64.toInt ez_3; unfold wTx; (repeat' split) <;> (have := i32_0; have := i32_1; have := i32_2; have := i32_m1; have := (hvo).1; have := (hvo).2; have := (h_2).1; have := (h_2).2; have := (hz_4).1; have := (hz_4).2; omega)))⟩, by rw [ht]; exact hP, va_K.moved hW.alike hK, hD⟩, hS.F ht, by rw [ht]; exact hN⟩) hS.2.2 dX5_textWeight_48)))
    · have h_7 : iv 0 0 z_4 := iv_eq c_5 hz_4 (iv_k (by decide) : iv 0 0 0) (by decide)
      refine lv_iconst (v := (-1)) hx hb dX5_textWeight_43 (by decide) ?_
      refine lv_goto (tgt := 48) hx hb dX5_textWeight_44 (by decide) ?_
      exact W.nb (fun hN => W.widen (k := 1) (n := 6) (by decide) (by decide) (vx_ret (W.iret (v := (-1)) hx hb hr (fun t ht hW => ⟨⟨some (.int (-1)), (sg, gm, lg), rfl, ⟨(-1), rfl, rfl, (iv_w (iv_k (by decide) : iv (-1) (-1) (-1)) (by decide)), ((by have i3 : (3 : Int32).toInt = 3 := (by decide); have q8 := congrArg Int64.toInt ez_3; unfold wTx; (repeat' split) <;> (have := i32_0; have := i32_1; have := i32_2; have := i32_m1; have := (hvo).1; have := (hvo).2; have := (h_2).1; have := (h_2).2; have := (h_7).1; have := (h_7).2; omega)))⟩, by rw [ht]; exact hP, va_K.moved hW.alike hK, hD⟩, hS.F ht, by rw [ht]; exact hN⟩) hS.2.2 dX5_textWeight_48)))
  by_cases c_8 : (kd : Int32).toInt = 1
  · refine lv_tableIn (tgt := 49) hx hb dX5_textWeight_1 (by rw [c_8]; decide) (by rw [c_8]; decide) (by rw [c_8]; rfl) (by decide) ?_
    have h_9 : iv 1 1 kd := iv_at c_8
    refine ec_aload_n hx hb dX5_textWeight_49 rfl (lv_at hl 0 rfl) ?_
    refine cr_get (t := 9) (j := 14) (C := RX3) (T := TX3) (N := 21) (v := .int (gm 21 o.toNatClampNeg)) hx hb htb inX3 hown hK hP hvo (by decide) (by decide) (by decide) rfl (by decide) (htb _ kw_1047) rfl dX5_textWeight_50 ?_
    obtain ⟨z_10, ez_10⟩ : ∃ z : Int32, z = (gm 21 o.toNatClampNeg) := ⟨_, rfl⟩
    refine W.eq (g2 := F0 m 53 ls [.int z_10]) (by rw [ez_10]) ?_
    have hz_10 : iv (-1) 1 z_10 := iv_of ez_10 (CI_a hI 21 hvo (by decide))
    refine lv_iconst (v := (-1)) hx hb dX5_textWeight_53 (by decide) ?_
    refine lv_icmp_ne (tgt := 61) hx hb dX5_textWeight_54 (by decide) (fun c_11 => ?_) (fun c_11 => ?_)
    · have h_12 : iv 0 1 z_10 := iv_neL c_11 hz_10 (by decide)
      refine lv_iconst (v := 1) hx hb dX5_textWeight_61 (by decide) ?_
      exact W.nb (fun hN => W.widen (k := 1) (n := 6) (by decide) (by decide) (vx_ret (W.iret (v := 1) hx hb hr (fun t ht hW => ⟨⟨some (.int 1), (sg, gm, lg), rfl, ⟨1, rfl, rfl, (iv_w (iv_k (by decide) : iv 1 1 1) (by decide)), ((by have i3 : (3 : Int32).toInt = 3 := (by decide); have q9 := congrArg Int32.toInt (swt9 hSW ez_10 rfl); unfold wTx; (repeat' split) <;> (have := i32_0; have := i32_1; have := i32_2; have := i32_m1; have := (hvo).1; have := (hvo).2; have := (h_9).1; have := (h_9).2; have := (h_12).1; have := (h_12).2; omega)))⟩, by rw [ht]; exact hP, va_K.moved hW.alike hK, hD⟩, hS.F ht, by rw [ht]; exact hN⟩) hS.2.2 dX5_textWeight_62)))
    · have h_13 : iv (-1) (-1) z_10 := iv_eq c_11 hz_10 (iv_k (by decide) : iv (-1) (-1) (-1)) (by decide)
      refine lv_iconst (v := (-1)) hx hb dX5_textWeight_57 (by decide) ?_
      refine lv_goto (tgt := 62) hx hb dX5_textWeight_58 (by decide) ?_
      exact W.nb (fun hN => W.widen (k := 1) (n := 6) (by decide) (by decide) (vx_ret (W.iret (v := (-1)) hx hb hr (fun t ht hW => ⟨⟨some (.int (-1)), (sg, gm, lg), rfl, ⟨(-1), rfl, rfl, (iv_w (iv_k (by decide) : iv (-1) (-1) (-1)) (by decide)), ((by have i3 : (3 : Int32).toInt = 3 := (by decide); have q9 := congrArg Int32.toInt (swt9 hSW ez_10 rfl); unfold wTx; (repeat' split) <;> (have := i32_0; have := i32_1; have := i32_2; have := i32_m1; have := (hvo).1; have := (hvo).2; have := (h_9).1; have := (h_9).2; have := (h_13).1; have := (h_13).2; omega)))⟩, by rw [ht]; exact hP, va_K.moved hW.alike hK, hD⟩, hS.F ht, by rw [ht]; exact hN⟩) hS.2.2 dX5_textWeight_62)))
  by_cases c_14 : (kd : Int32).toInt = 2
  · refine lv_tableIn (tgt := 63) hx hb dX5_textWeight_1 (by rw [c_14]; decide) (by rw [c_14]; decide) (by rw [c_14]; rfl) (by decide) ?_
    have h_15 : iv 2 2 kd := iv_at c_14
    refine ec_aload_n hx hb dX5_textWeight_63 rfl (lv_at hl 0 rfl) ?_
    refine cr_get (t := 9) (j := 1) (C := RX3) (T := TX3) (N := 21) (v := .int (gm 11 o.toNatClampNeg)) hx hb htb inX3 hown hK hP hvo (by decide) (by decide) (by decide) rfl (by decide) (htb _ kw_1048) rfl dX5_textWeight_64 ?_
    obtain ⟨z_16, ez_16⟩ : ∃ z : Int32, z = (gm 11 o.toNatClampNeg) := ⟨_, rfl⟩
    refine W.eq (g2 := F0 m 67 ls [.int z_16]) (by rw [ez_16]) ?_
    have hz_16 : iv 0 24 z_16 := iv_of ez_16 (CI_a hI 11 hvo (by decide))
    refine lv_iconst (v := 1) hx hb dX5_textWeight_67 (by decide) ?_
    refine lv_icmp_ne (tgt := 75) hx hb dX5_textWeight_68 (by decide) (fun c_17 => ?_) (fun c_17 => ?_)
    · have d_18 : ¬ (z_16 : Int32).toInt = 1 := lv_neT c_17 rfl
      refine lv_iconst (v := (-1)) hx hb dX5_textWeight_75 (by decide) ?_
      exact W.nb (fun hN => W.widen (k := 1) (n := 6) (by decide) (by decide) (vx_ret (W.iret (v := (-1)) hx hb hr (fun t ht hW => ⟨⟨some (.int (-1)), (sg, gm, lg), rfl, ⟨(-1), rfl, rfl, (iv_w (iv_k (by decide) : iv (-1) (-1) (-1)) (by decide)), ((by have i3 : (3 : Int32).toInt = 3 := (by decide); have q9 := congrArg Int32.toInt (swt9 hSW ez_16 rfl); unfold wTx; (repeat' split) <;> (have := i32_0; have := i32_1; have := i32_2; have := i32_m1; have := (hvo).1; have := (hvo).2; have := (h_15).1; have := (h_15).2; have := (hz_16).1; have := (hz_16).2; omega)))⟩, by rw [ht]; exact hP, va_K.moved hW.alike hK, hD⟩, hS.F ht, by rw [ht]; exact hN⟩) hS.2.2 dX5_textWeight_76)))
    · have h_19 : iv 1 1 z_16 := iv_eq c_17 hz_16 (iv_k (by decide) : iv 1 1 1) (by decide)
      refine lv_iconst (v := 2) hx hb dX5_textWeight_71 (by decide) ?_
      refine lv_goto (tgt := 76) hx hb dX5_textWeight_72 (by decide) ?_
      exact W.nb (fun hN => W.widen (k := 1) (n := 6) (by decide) (by decide) (vx_ret (W.iret (v := 2) hx hb hr (fun t ht hW => ⟨⟨some (.int 2), (sg, gm, lg), rfl, ⟨2, rfl, rfl, (iv_w (iv_k (by decide) : iv 2 2 2) (by decide)), ((by have i3 : (3 : Int32).toInt = 3 := (by decide); have q9 := congrArg Int32.toInt (swt9 hSW ez_16 rfl); unfold wTx; (repeat' split) <;> (have := i32_0; have := i32_1; have := i32_2; have := i32_m1; have := (hvo).1; have := (hvo).2; have := (h_15).1; have := (h_15).2; have := (h_19).1; have := (h_19).2; omega)))⟩, by rw [ht]; exact hP, va_K.moved hW.alike hK, hD⟩, hS.F ht, by rw [ht]; exact hN⟩) hS.2.2 dX5_textWeight_76)))
  by_cases c_20 : (kd : Int32).toInt = 3
  · refine lv_tableIn (tgt := 77) hx hb dX5_textWeight_1 (by rw [c_20]; decide) (by rw [c_20]; decide) (by rw [c_20]; rfl) (by decide) ?_
    have h_21 : iv 3 3 kd := iv_at c_20
    refine lv_iconst (v := 3) hx hb dX5_textWeight_77 (by decide) ?_
    exact W.nb (fun hN => W.widen (k := 1) (n := 6) (by decide) (by decide) (vx_ret (W.iret (v := 3) hx hb hr (fun t ht hW => ⟨⟨some (.int 3), (sg, gm, lg), rfl, ⟨3, rfl, rfl, (iv_w (iv_k (by decide) : iv 3 3 3) (by decide)), ((by have i3 : (3 : Int32).toInt = 3 := (by decide); unfold wTx; (repeat' split) <;> (have := i32_0; have := i32_1; have := i32_2; have := i32_m1; have := (hvo).1; have := (hvo).2; have := (h_21).1; have := (h_21).2; omega)))⟩, by rw [ht]; exact hP, va_K.moved hW.alike hK, hD⟩, hS.F ht, by rw [ht]; exact hN⟩) hS.2.2 dX5_textWeight_78)))
  refine lv_tableOut (tgt := 79) hx hb dX5_textWeight_1 (by have q1 := ((iv_all kd)).1; have q2 := ((iv_all kd)).2; omega) (by decide) ?_
  refine lv_iconst (v := (-1)) hx hb dX5_textWeight_79 (by decide) ?_
  exact W.nb (fun hN => W.widen (k := 1) (n := 6) (by decide) (by decide) (vx_ret (W.iret (v := (-1)) hx hb hr (fun t ht hW => ⟨⟨some (.int (-1)), (sg, gm, lg), rfl, ⟨(-1), rfl, rfl, (iv_w (iv_k (by decide) : iv (-1) (-1) (-1)) (by decide)), ((by have i3 : (3 : Int32).toInt = 3 := (by decide); unfold wTx; (repeat' split) <;> (have := i32_0; have := i32_1; have := i32_2; have := i32_m1; have := (hvo).1; have := (hvo).2; omega)))⟩, by rw [ht]; exact hP, va_K.moved hW.alike hK, hD⟩, hS.F ht, by rw [ht]; exact hN⟩) hS.2.2 dX5_textWeight_80)))

set_option maxHeartbeats 4000000 in
set_option maxRecDepth 100000 in
theorem d_objectWeight9 (l : Launch) (dC : Nat → ClassId) (dI : Nat → Nat → Nat) (ad : Nat → Nat → Nat) (cid : Nat → ClassId) (a2 : Nat → Nat) (lx : List Nat) (sg : Nat → Int32) (gm : Nat → Nat → Int32) (lg : Nat → Nat → Int64) (x : Int32) (nb : Int32) (kd : Int32) (wg : Nat → Nat → Int32) (S : S9) (hI : CI sg gm) (hvx : iv 0 0 x) (hvnb : iv 0 59 nb) (hSW : st9 gm = wg) (hRC : RC wg lg S sg gm) (hnb : nb.toInt < (sg 14).toInt) : CMt dC dI ad cid a2 lx l yX5_objectWeight wm_X5_objectWeight ({ frames := 1, cells := 1, slots := 6, locals := 23 }) [eV (ad 6) x, .int nb, .int kd] sg gm lg (fun v u => ∃ r : Int32, v = some (.int r) ∧ u = (sg, gm, lg) ∧ (iv (-1) 14 r) ∧ (r.toInt = wOb wg (zO S) nb.toInt kd.toInt)) (fun _ _ => False) := by
  intro sz
  refine vx_ofW (cc := cX5_objectWeight) (maxL := 4) (ret := (some .int)) (by decide) rfl ?_
  intro p e s m args below meth c s₁ B hml hxt hv
  obtain ⟨rfl, hsz, hP, hK, hD0, hG⟩ := hv
  have hx := B.exec
  have hb := B.bytes
  have hr := B.returns
  have hts := atoms_spec (ws := wm_X5_objectWeight) B.pre
  have htb := fun (w : Cond) (h : w ∈ tb) => hts w (List.mem_cons_of_mem _ h)
  have hown : s.vm.findClass RX5 = some m.cls := findClass_of_methodNamed B.named
  have hlocks := B.notSynchronized
  subst hsz
  have hD := hD0.self (sz := s.heap.size)
  generalize hAe : va_A (cW ad cid a2 lx sg gm lg) s.heap.size = A at hD hG ⊢
  have hA : ∀ q : Nat, s.heap.size ≤ q → A q := fun q h => by rw [← hAe]; exact Or.inr h
  have hS : va_S A s.heap s.heap [] := va_S.rf
  have hl := lv_entry ([eV (ad 6) x, .int nb, .int kd]) (n := 4) (by rw [show (lg_sl ([eV (ad 6) x, .int nb, .int kd])).length = 3 from by simp [lg_sl, eV_cat, cat_i, cat_l]]; exact Nat.le_of_ble_eq_true rfl)
  rw [lg_entry_eq]
  generalize (lg_sl ([eV (ad 6) x, .int nb, .int kd]) ++ List.replicate (4 - (lg_sl ([eV (ad 6) x, .int nb, .int kd])).length) Slot.unset).toArray = ls at hl ⊢
  have hl : lv_has ls 4 [(0, eV (ad 6) x), (1, .int nb), (2, .int kd)] := by simp [lv_args, eV_cat, cat_i, cat_l] at hl; exact hl
  refine lv_iload_n hx hb dX5_objectWeight_0 rfl (lv_at hl 2 rfl) ?_
  refine lv_bipush (v := 8) hx hb dX5_objectWeight_1 (by decide) ?_
  refine lv_icmp_ge (tgt := 8) hx hb dX5_objectWeight_3 (by decide) (fun c_1 => ?_) (fun c_1 => ?_)
  · have h_2 : iv 8 2147483647 kd := iv_leR c_1 (iv_k (by decide) : iv 8 8 8) (iv_all kd) (by decide)
    refine ec_aload_n hx hb dX5_objectWeight_8 rfl (lv_at hl 0 rfl) ?_
    refine cr_get (t := 6) (j := 1) (C := RX5) (T := TX5) (N := 13) (v := eV (ad 12) 0) hx hb htb inX5 hown hK hP hvx (by decide) (by decide) (by decide) rfl (by decide) (htb _ kw_122) (cV_c rfl (by decide) (by rw [show cMu 6 1 = 0 from rfl, Nat.zero_mul]; rfl)) dX5_objectWeight_9 ?_
    refine ec_aload_n hx hb dX5_objectWeight_12 rfl (lv_at hl 0 rfl) ?_
    refine cr_get (t := 6) (j := 3) (C := RX5) (T := TX5) (N := 13) (v := eV (ad 22) 0) hx hb htb inX5 hown hK hP hvx (by decide) (by decide) (by decide) rfl (by decide) (htb _ kw_124) (cV_c rfl (by decide) (by rw [show cMu 6 3 = 0 from rfl, Nat.zero_mul]; rfl)) dX5_objectWeight_13 ?_
    refine lv_iload_n hx hb dX5_objectWeight_16 rfl (lv_at hl 1 rfl) ?_
    refine cr_iald (t := 22) (z := (gm 49 (nb : Int32).toNatClampNeg)) hx hb hK hP (iv_k (by decide) : iv 0 0 0) (by decide) (by decide) (by decide) rfl rfl (show vp_in nb (cLen 22) from (show vp_in nb 60 from (iv_in hvnb (by decide)))) rfl dX5_objectWeight_17 ?_
    obtain ⟨z_3, ez_3⟩ : ∃ z : Int32, z = (gm 49 (nb : Int32).toNatClampNeg) := ⟨_, rfl⟩
    refine W.eq (g2 := F0 m 18 ls [.int z_3, eV (ad 12) 0]) (by rw [ez_3]) ?_
    have hz_3 : iv 0 7 z_3 := iv_of ez_3 (CI_a hI 49 hvnb (by decide))
    refine cr_aald (t := 12) (C := RX2) (v := eV (ad 7) z_3) hx hb hK hP (iv_k (by decide) : iv 0 0 0) (by decide) (by decide) (by decide) (by decide) (by decide) rfl (show vp_in z_3 (cLen 12) from (show vp_in z_3 8 from (iv_in hz_3 (by decide)))) (cAr_c (by decide) (hz_3).1 (by rw [show cAm 12 = 0 from rfl, Nat.zero_mul, show cAo 12 = 0 from rfl]; omega)) dX5_objectWeight_18 ?_
    refine lv_iload_n hx hb dX5_objectWeight_19 rfl (lv_at hl 2 rfl) ?_
    refine lv_bipush (v := 8) hx hb dX5_objectWeight_20 (by decide) ?_
    refine lv_isub hx hb dX5_objectWeight_22 ?_
    refine lv_topi (fun z_4 ez_4 => ?_)
    have hz_4 : iv 0 2147483639 z_4 := iv_of ez_4 (iv_sub h_2 (iv_k (by decide) : iv 8 8 8) (by decide))
    have tz_4 : z_4.toInt = (kd : Int32).toInt - 8 := by rw [ez_4]; exact iv_subE h_2 (iv_k (by decide) : iv 8 8 8) (by decide)
    refine cm_callV (t := 7) (C := RX2) (T := TX2) (N := 8) (rest := []) (as := [.int z_4]) ⟨hx, hb, hml, hown, htb⟩ (d_stepsTo9 l dC dI ad cid a2 lx sg gm lg z_3 z_4 wg hI hz_3 hSW) (cwV 1 htb (gd_V kw_1052 kw_1053 kw_1054 kw_15 kw_1577) rfl rfl rfl (by decide +kernel) ⟨Nat.le_of_ble_eq_true rfl, Nat.le_of_ble_eq_true rfl⟩) hz_3 (by decide) (by decide) rfl rfl hl.1 rfl (Nat.le_trans cs_n (by decide)) dX5_objectWeight_23 ⟨Nat.le_of_ble_eq_true rfl, Nat.le_of_ble_eq_true rfl⟩ hK hP hD hS hA hG (fun E ce q9 u_6 H locs hw hP hD hS hce hcv hcl => ?_) (fun v9 u_6 H locs hw hP hD hS => ?_)
    · exact hw.elim
    obtain ⟨r_5, rfl, rfl, hr_5, fS_r_5⟩ := hw
    have hP : va_P (dC, dI) vwCl (cW ad cid a2 lx sg gm lg) H := hP
    have hD : va_D A (cW ad cid a2 lx sg gm lg) := hD
    refine W.eq (g2 := F0 m 26 ls [.int r_5]) rfl ?_
    refine lv_istore_n (i := 3) (lv' := [(3, .int r_5), (0, eV (ad 6) x), (1, .int nb), (2, .int kd)]) hx hb dX5_objectWeight_26 rfl hl (by decide) rfl (fun ls hl => ?_)
    refine lv_iload_n hx hb dX5_objectWeight_27 rfl (lv_at hl 0 rfl) ?_
    refine lv_iconst (v := (-1)) hx hb dX5_objectWeight_28 (by decide) ?_
    refine lv_icmp_ne (tgt := 36) hx hb dX5_objectWeight_29 (by decide) (fun c_8 => ?_) (fun c_8 => ?_)
    · have h_9 : iv 0 7 r_5 := iv_neL c_8 hr_5 (by decide)
      refine lv_iconst (v := 2) hx hb dX5_objectWeight_36 (by decide) ?_
      refine lv_iload_n hx hb dX5_objectWeight_37 rfl (lv_at hl 0 rfl) ?_
      refine lv_imul hx hb dX5_objectWeight_38 ?_
      refine lv_topi (fun z_10 ez_10 => ?_)
      have hz_10 : iv 0 14 z_10 := iv_of ez_10 (iv_mul (iv_k (by decide) : iv 2 2 2) h_9 (by decide))
      have tz_10 : z_10.toInt = 2 * (r_5 : Int32).toInt := by rw [ez_10]; exact iv_mulE (iv_k (by decide) : iv 2 2 2) h_9 (by decide)
      exact W.nb (fun hN => W.widen (k := 1) (n := 6) (by decide) (by decide) (vx_ret (W.iret (v := z_10) hx hb hr (fun t ht hW => ⟨⟨some (.int z_10), (sg, gm, lg), rfl, ⟨z_10, rfl, rfl, (iv_w hz_10 (by decide)), ((by rw [wOb_1 (c := z_3.toInt) (s := r_5.toInt) (by have := i32_0; have := i32_1; have := i32_2; have := i32_m1; have := (hvx).1; have := (hvx).2; have := (hvnb).1; have := (hvnb).2; have := (h_2).1; have := (h_2).2; have := (hz_3).1; have := (hz_3).2; have := (hz_4).1; have := (hz_4).2; have := (h_9).1; have := (h_9).2; have := (hz_10).1; have := (hz_10).2; omega) ((RC_cl hRC hvnb.1 hnb).1.trans (congrArg Int32.toInt ez_3.symm)) (by have q9 := fS_r_5; rw [show z_4.toInt = kd.toInt - 8 from tz_4] at q9; exact q9)]; split <;> (have := i32_0; have := i32_1; have := i32_2; have := i32_m1; have := (hvx).1; have := (hvx).2; have := (hvnb).1; have := (hvnb).2; have := (h_2).1; have := (h_2).2; have := (hz_3).1; have := (hz_3).2; have := (hz_4).1; have := (hz_4).2; have := (h_9).1; have := (h_9).2; have := (hz_10).1; have := (hz_10).2; omega)))⟩, by rw [ht]; exact hP, va_K.moved hW.alike hK, hD⟩, hS.F ht, by rw [ht]; exact hN⟩) hS.2.2 dX5_objectWeight_39)))
    · have h_11 : iv (-1) (-1) r_5 := iv_eq c_8 hr_5 (iv_k (by decide) : iv (-1) (-1) (-1)) (by decide)
      refine lv_iconst (v := (-1)) hx hb dX5_objectWeight_32 (by decide) ?_
      refine lv_goto (tgt := 39) hx hb dX5_objectWeight_33 (by decide) ?_
      exact W.nb (fun hN => W.widen (k := 1) (n := 6) (by decide) (by decide) (vx_ret (W.iret (v := (-1)) hx hb hr (fun t ht hW => ⟨⟨some (.int (-1)), (sg, gm, lg), rfl, ⟨(-1), rfl, rfl, (iv_w (iv_k (by decide) : iv (-1) (-1) (-1)) (by decide)), ((by rw [wOb_1 (c := z_3.toInt) (s := r_5.toInt) (by have := i32_0; have := i32_1; have := i32_2; have := i32_m1; have := (hvx).1; have := (hvx).2; have := (hvnb).1; have := (hvnb).2; have := (h_2).1; have := (h_2).2; have := (hz_3).1; have := (hz_3).2; have := (hz_4).1; have := (hz_4).2; have := (h_11).1; have := (h_11).2; omega) ((RC_cl hRC hvnb.1 hnb).1.trans (congrArg Int32.toInt ez_3.symm)) (by have q9 := fS_r_5; rw [show z_4.toInt = kd.toInt - 8 from tz_4] at q9; exact q9)]; split <;> (have := i32_0; have := i32_1; have := i32_2; have := i32_m1; have := (hvx).1; have := (hvx).2; have := (hvnb).1; have := (hvnb).2; have := (h_2).1; have := (h_2).2; have := (hz_3).1; have := (hz_3).2; have := (hz_4).1; have := (hz_4).2; have := (h_11).1; have := (h_11).2; omega)))⟩, by rw [ht]; exact hP, va_K.moved hW.alike hK, hD⟩, hS.F ht, by rw [ht]; exact hN⟩) hS.2.2 dX5_objectWeight_39)))
  · have h_12 : iv (-2147483648) 7 kd := iv_ltL (i32_lt c_1) (iv_all kd) (iv_k (by decide) : iv 8 8 8) (by decide)
    refine lv_iconst (v := (-1)) hx hb dX5_objectWeight_6 (by decide) ?_
    exact W.nb (fun hN => W.widen (k := 1) (n := 6) (by decide) (by decide) (vx_ret (W.iret (v := (-1)) hx hb hr (fun t ht hW => ⟨⟨some (.int (-1)), (sg, gm, lg), rfl, ⟨(-1), rfl, rfl, (iv_w (iv_k (by decide) : iv (-1) (-1) (-1)) (by decide)), ((wOb_0 (by have := i32_0; have := i32_1; have := i32_2; have := i32_m1; have := (hvx).1; have := (hvx).2; have := (hvnb).1; have := (hvnb).2; have := (h_12).1; have := (h_12).2; omega)).symm)⟩, by rw [ht]; exact hP, va_K.moved hW.alike hK, hD⟩, hS.F ht, by rw [ht]; exact hN⟩) hS.2.2 dX5_objectWeight_7)))

set_option maxHeartbeats 4000000 in
set_option maxRecDepth 100000 in
theorem d_weightOf9 (l : Launch) (dC : Nat → ClassId) (dI : Nat → Nat → Nat) (ad : Nat → Nat → Nat) (cid : Nat → ClassId) (a2 : Nat → Nat) (lx : List Nat) (sg : Nat → Int32) (gm : Nat → Nat → Int32) (lg : Nat → Nat → Int64) (x : Int32) (o : Int32) (sl : Int32) (kd : Int32) (wg : Nat → Nat → Int32) (S : S9) (V : List Int) (hI : CI sg gm) (hvx : iv 0 0 x) (hvo : iv 0 79 o) (hvsl : iv 0 954 sl) (hSW : st9 gm = wg) (hRC : RC wg lg S sg gm) (hk0 : 0 ≤ (gm 25 o.toNatClampNeg).toInt) (hvk : VOK wg (zO S) o.toNatClampNeg V) (hWV : WVL gm sl.toNatClampNeg V) : CMt dC dI ad cid a2 lx l yX5_weightOf wm_X5_weightOf ({ frames := 2, cells := 1, slots := 6, locals := 46 }) [eV (ad 6) x, eV (ad 9) o, .int sl, .int kd] sg gm lg (fun v u => ∃ r : Int32, v = some (.int r) ∧ u = (sg, gm, lg) ∧ (iv (-1) 14 r) ∧ (r.toInt = wCo wg lg (zO S) o.toNatClampNeg V kd.toInt)) (fun _ _ => False) := by
  intro sz
  refine vx_ofW (cc := cX5_weightOf) (maxL := 4) (ret := (some .int)) (by decide) rfl ?_
  intro p e s m args below meth c s₁ B hml hxt hv
  obtain ⟨rfl, hsz, hP, hK, hD0, hG⟩ := hv
  have hx := B.exec
  have hb := B.bytes
  have hr := B.returns
  have hts := atoms_spec (ws := wm_X5_weightOf) B.pre
  have htb := fun (w : Cond) (h : w ∈ tb) => hts w (List.mem_cons_of_mem _ h)
  have hown : s.vm.findClass RX5 = some m.cls := findClass_of_methodNamed B.named
  have hlocks := B.notSynchronized
  subst hsz
  have hD := hD0.self (sz := s.heap.size)
  generalize hAe : va_A (cW ad cid a2 lx sg gm lg) s.heap.size = A at hD hG ⊢
  have hA : ∀ q : Nat, s.heap.size ≤ q → A q := fun q h => by rw [← hAe]; exact Or.inr h
  have hS : va_S A s.heap s.heap [] := va_S.rf
  have hl := lv_entry ([eV (ad 6) x, eV (ad 9) o, .int sl, .int kd]) (n := 4) (by rw [show (lg_sl ([eV (ad 6) x, eV (ad 9) o, .int sl, .int kd])).length = 4 from by simp [lg_sl, eV_cat, cat_i, cat_l]]; exact Nat.le_of_ble_eq_true rfl)
  rw [lg_entry_eq]
  generalize (lg_sl ([eV (ad 6) x, eV (ad 9) o, .int sl, .int kd]) ++ List.replicate (4 - (lg_sl ([eV (ad 6) x, eV (ad 9) o, .int sl, .int kd])).length) Slot.unset).toArray = ls at hl ⊢
  have hl : lv_has ls 4 [(0, eV (ad 6) x), (1, eV (ad 9) o), (2, .int sl), (3, .int kd)] := by simp [lv_args, eV_cat, cat_i, cat_l] at hl; exact hl
  have hj68 : ∀ (_ : iv 0 0 x) (_ : iv 0 79 o) (_ : iv 0 954 sl) (_ : ∃ o9 : Int, V = [o9] ∧ 0 ≤ o9 ∧ o9 < ((zO S).length : Int) ∧ ¬ (wg 25 o.toNatClampNeg).toInt = 6 ∧ ¬ (wg 25 o.toNatClampNeg).toInt = 7 ∧ ¬ (wg 25 o.toNatClampNeg).toInt = 9) (H : Heap) (locs : List Loc) (ls : Array Slot), va_P (dC, dI) vwCl (cW ad cid a2 lx sg gm lg) H → va_D A (cW ad cid a2 lx sg gm lg) → va_S A s.heap H locs → lv_has ls 4 [(0, eV (ad 6) x), (1, eV (ad 9) o), (2, .int sl), (3, .int kd)] → W p l e (headSpec wm_X5_weightOf ({ frames := 2, cells := 1, slots := 6, locals := 46 })).room s m ([eV (ad 6) x, eV (ad 9) o, .int sl, .int kd] : List Value).toArray below meth c H locs 0 0 (vx_MQ below (cQx dC dI ad cid a2 lx (fun v u => ∃ r : Int32, v = some (.int r) ∧ u = (sg, gm, lg) ∧ (iv (-1) 14 r) ∧ (r.toInt = wCo wg lg (zO S) o.toNatClampNeg V kd.toInt)) A) (cX dC dI ad cid a2 lx (fun _ _ => False) A) ([eV (ad 6) x, eV (ad 9) o, .int sl, .int kd] : List Value).toArray s 1 6 A) (F0 m 68 ls []) := by
    intro  hsx0_68 hsx1_68 hsx2_68 u68 H locs ls hP hD hS hl
    obtain ⟨o9, hV9, ho0, ho1, hk6, hk7, hk9⟩ := u68
    have hw9 : (gm 52 sl.toNatClampNeg).toInt = o9 := hWV 0 o9 (by rw [hV9]; rfl)
    have h149 := hRC.1.1
    refine ec_aload_n hx hb dX5_weightOf_68 rfl (lv_at hl 0 rfl) ?_
    refine ec_aload_n hx hb dX5_weightOf_69 rfl (lv_at hl 0 rfl) ?_
    refine cr_get (t := 6) (j := 8) (C := RX5) (T := TX5) (N := 13) (v := eV (ad 25) 0) hx hb htb inX5 hown hK hP hsx0_68 (by decide) (by decide) (by decide) rfl (by decide) (htb _ kw_128) (cV_c rfl (by decide) (by rw [show cMu 6 8 = 0 from rfl, Nat.zero_mul]; rfl)) dX5_weightOf_70 ?_
    refine lv_iload_n hx hb dX5_weightOf_73 rfl (lv_at hl 2 rfl) ?_
    refine cr_iald (t := 25) (z := (gm 52 (sl : Int32).toNatClampNeg)) hx hb hK hP (iv_k (by decide) : iv 0 0 0) (by decide) (by decide) (by decide) rfl rfl (show vp_in sl (cLen 25) from (show vp_in sl 960 from (iv_in hsx2_68 (by decide)))) rfl dX5_weightOf_74 ?_
    obtain ⟨z_1, ez_1⟩ : ∃ z : Int32, z = (gm 52 (sl : Int32).toNatClampNeg) := ⟨_, rfl⟩
    refine W.eq (g2 := F0 m 75 ls [.int z_1, eV (ad 6) x]) (by rw [ez_1]) ?_
    have h_2 : iv 0 59 z_1 := ⟨by rw [ez_1, hw9]; exact ho0, by rw [ez_1, hw9]; have := (show iv 0 60 (sg 14) from CI_s hI 14).2; omega⟩
    refine lv_iload_n hx hb dX5_weightOf_75 rfl (lv_at hl 3 rfl) ?_
    refine cm_callV (t := 6) (C := RX5) (T := TX5) (N := 13) (rest := []) (as := [.int z_1, .int kd]) ⟨hx, hb, hml, hown, htb⟩ (d_objectWeight9 l dC dI ad cid a2 lx sg gm lg x z_1 kd wg S hI hsx0_68 h_2 hSW hRC (by rw [show (z_1 : Int32).toInt = o9 from (congrArg Int32.toInt ez_1).trans hw9]; omega)) (cwV 2 htb (gd_V kw_1049 kw_1050 kw_1051 kw_40 kw_1576) rfl rfl rfl (by decide +kernel) ⟨Nat.le_of_ble_eq_true rfl, Nat.le_of_ble_eq_true rfl⟩) hsx0_68 (by decide) (by decide) rfl rfl hl.1 rfl (Nat.le_trans cs_n (by decide)) dX5_weightOf_76 ⟨Nat.le_of_ble_eq_true rfl, Nat.le_of_ble_eq_true rfl⟩ hK hP hD hS hA hG (fun E ce q9 u_4 H locs hw hP hD hS hce hcv hcl => ?_) (fun v9 u_4 H locs hw hP hD hS => ?_)
    · exact hw.elim
    obtain ⟨r_3, rfl, rfl, hr_3, fO_r_3⟩ := hw
    have hP : va_P (dC, dI) vwCl (cW ad cid a2 lx sg gm lg) H := hP
    have hD : va_D A (cW ad cid a2 lx sg gm lg) := hD
    refine W.eq (g2 := F0 m 79 ls [.int r_3]) rfl ?_
    exact W.nb (fun hN => W.widen (k := 1) (n := 6) (by decide) (by decide) (vx_ret (W.iret (v := r_3) hx hb hr (fun t ht hW => ⟨⟨some (.int r_3), (sg, gm, lg), rfl, ⟨r_3, rfl, rfl, hr_3, ((by rw [hV9, wCo_o hk6 hk7 hk9]; have q9 := fO_r_3; rw [show z_1.toInt = o9 from (congrArg Int32.toInt ez_1).trans hw9] at q9; exact q9))⟩, by rw [ht]; exact hP, va_K.moved hW.alike hK, hD⟩, hS.F ht, by rw [ht]; exact hN⟩) hS.2.2 dX5_weightOf_79)))
  refine cw_sw hx hb hG hS hown (htb _ kw_1040) dX5_weightOf_0 ?_
  refine ec_aload_n hx hb dX5_weightOf_3 rfl (lv_at hl 1 rfl) ?_
  refine cr_get (t := 9) (j := 18) (C := RX3) (T := TX3) (N := 21) (v := eV (ad 33) (gm 25 o.toNatClampNeg)) hx hb htb inX3 hown hK hP hvo (by decide) (by decide) (by decide) rfl (by decide) (htb _ kw_1041) rfl dX5_weightOf_4 ?_
  obtain ⟨z_6, ez_6⟩ : ∃ z : Int32, z = (gm 25 o.toNatClampNeg) := ⟨_, rfl⟩
  refine W.eq (g2 := F0 m 7 ls [eV (ad 33) z_6, eV (ad 36) 0]) (by rw [ez_6]) ?_
  have hz_6 : iv (-1) 33 z_6 := iv_of ez_6 (CI_a hI 25 hvo (by decide))
  have h_7 : iv 0 33 z_6 := ⟨by rw [ez_6]; exact hk0, (hz_6).2⟩
  refine cw_ord ⟨hx, hb, hml, hown, htb⟩ kw_1042 h_7 hl.1 (Nat.le_trans (cs_c (eV_cat _ _) cs_n) (by decide)) dX5_weightOf_7 ⟨Nat.le_of_ble_eq_true rfl, Nat.le_of_ble_eq_true rfl⟩ ⟨Nat.le_of_ble_eq_true rfl, Nat.le_of_ble_eq_true rfl⟩ hP hD hS hA hG (fun H locs hP hS => ?_)
  refine cw_swld (iv_k (by decide) : iv 0 0 0) hx hb hG hS h_7 dX5_weightOf_10 ?_
  refine lv_topi (fun z_8 ez_8 => ?_)
  have hz_8 : iv 0 29 z_8 := iv_of ez_8 (sw_iv z_6)
  by_cases c_9 : (z_8 : Int32).toInt = 12
  · refine lv_tableIn (tgt := 57) hx hb dX5_weightOf_11 (by rw [c_9]; decide) (by rw [c_9]; decide) (by rw [c_9]; rfl) (by decide) ?_
    have h_10 : iv 12 12 z_8 := iv_at c_9
    refine lv_iload_n hx hb dX5_weightOf_57 rfl (lv_at hl 3 rfl) ?_
    refine lv_iconst (v := 4) hx hb dX5_weightOf_58 (by decide) ?_
    refine lv_icmp_ne (tgt := 66) hx hb dX5_weightOf_59 (by decide) (fun c_11 => ?_) (fun c_11 => ?_)
    · have d_12 : ¬ (kd : Int32).toInt = 4 := lv_neT c_11 rfl
      refine lv_iconst (v := (-1)) hx hb dX5_weightOf_66 (by decide) ?_
      exact W.nb (fun hN => W.widen (k := 1) (n := 6) (by decide) (by decide) (vx_ret (W.iret (v := (-1)) hx hb hr (fun t ht hW => ⟨⟨some (.int (-1)), (sg, gm, lg), rfl, ⟨(-1), rfl, rfl, (iv_w (iv_k (by decide) : iv (-1) (-1) (-1)) (by decide)), ((by have q9 : (wg 25 o.toNatClampNeg).toInt = 6 := (by have q8 := congrArg Int32.toInt (swt9 hSW ez_6 rfl); have q7 := swy 6 12 (by decide) (h_7) ez_8 (by omega); omega); rw [wCo_6 q9]; split <;> (have := i32_0; have := i32_1; have := i32_2; have := i32_m1; have := (hvx).1; have := (hvx).2; have := (hvo).1; have := (hvo).2; have := (hvsl).1; have := (hvsl).2; have := (h_7).1; have := (h_7).2; have := (h_10).1; have := (h_10).2; omega)))⟩, by rw [ht]; exact hP, va_K.moved hW.alike hK, hD⟩, hS.F ht, by rw [ht]; exact hN⟩) hS.2.2 dX5_weightOf_67)))
    · have h_13 : iv 4 4 kd := iv_eq c_11 (iv_all kd) (iv_k (by decide) : iv 4 4 4) (by decide)
      refine lv_iconst (v := 0) hx hb dX5_weightOf_62 (by decide) ?_
      refine lv_goto (tgt := 67) hx hb dX5_weightOf_63 (by decide) ?_
      exact W.nb (fun hN => W.widen (k := 1) (n := 6) (by decide) (by decide) (vx_ret (W.iret (v := 0) hx hb hr (fun t ht hW => ⟨⟨some (.int 0), (sg, gm, lg), rfl, ⟨0, rfl, rfl, (iv_w (iv_k (by decide) : iv 0 0 0) (by decide)), ((by have q9 : (wg 25 o.toNatClampNeg).toInt = 6 := (by have q8 := congrArg Int32.toInt (swt9 hSW ez_6 rfl); have q7 := swy 6 12 (by decide) (h_7) ez_8 (by omega); omega); rw [wCo_6 q9]; split <;> (have := i32_0; have := i32_1; have := i32_2; have := i32_m1; have := (hvx).1; have := (hvx).2; have := (hvo).1; have := (hvo).2; have := (hvsl).1; have := (hvsl).2; have := (h_7).1; have := (h_7).2; have := (h_10).1; have := (h_10).2; have := (h_13).1; have := (h_13).2; omega)))⟩, by rw [ht]; exact hP, va_K.moved hW.alike hK, hD⟩, hS.F ht, by rw [ht]; exact hN⟩) hS.2.2 dX5_weightOf_67)))
  by_cases c_14 : (z_8 : Int32).toInt = 13
  · refine lv_tableIn (tgt := 40) hx hb dX5_weightOf_11 (by rw [c_14]; decide) (by rw [c_14]; decide) (by rw [c_14]; rfl) (by decide) ?_
    have h_15 : iv 13 13 z_8 := iv_at c_14
    refine ec_aload_n hx hb dX5_weightOf_40 rfl (lv_at hl 1 rfl) ?_
    refine lv_iload_n hx hb dX5_weightOf_41 rfl (lv_at hl 3 rfl) ?_
    refine cm_callS (rest := []) (as := [eV (ad 9) o, .int kd]) ⟨hx, hb, hml, hown, htb⟩ (d_textWeight9 l dC dI ad cid a2 lx sg gm lg o kd wg hI hvo hSW) (va_cwS 2 htb (gd_S kw_1043 kw_1044 kw_40 kw_1575) rfl rfl rfl (by decide +kernel) ⟨Nat.le_of_ble_eq_true rfl, Nat.le_of_ble_eq_true rfl⟩)  rfl hl.1 rfl (Nat.le_trans cs_n (by decide)) dX5_weightOf_42 ⟨Nat.le_of_ble_eq_true rfl, Nat.le_of_ble_eq_true rfl⟩ hK hP hD hS hA hG (fun E ce q9 u_17 H locs hw hP hD hS hce hcv hcl => ?_) (fun v9 u_17 H locs hw hP hD hS => ?_)
    · exact hw.elim
    obtain ⟨r_16, rfl, rfl, hr_16, fT_r_16⟩ := hw
    have hP : va_P (dC, dI) vwCl (cW ad cid a2 lx sg gm lg) H := hP
    have hD : va_D A (cW ad cid a2 lx sg gm lg) := hD
    refine W.eq (g2 := F0 m 45 ls [.int r_16]) rfl ?_
    exact W.nb (fun hN => W.widen (k := 1) (n := 6) (by decide) (by decide) (vx_ret (W.iret (v := r_16) hx hb hr (fun t ht hW => ⟨⟨some (.int r_16), (sg, gm, lg), rfl, ⟨r_16, rfl, rfl, (iv_w hr_16 (by decide)), ((by have q9 : (wg 25 o.toNatClampNeg).toInt = 7 := (by have q8 := congrArg Int32.toInt (swt9 hSW ez_6 rfl); have q7 := swy 7 13 (by decide) (h_7) ez_8 (by omega); omega); rw [wCo_7 q9]; exact fT_r_16))⟩, by rw [ht]; exact hP, va_K.moved hW.alike hK, hD⟩, hS.F ht, by rw [ht]; exact hN⟩) hS.2.2 dX5_weightOf_45)))
  by_cases c_19 : (z_8 : Int32).toInt = 14
  · refine lv_tableIn (tgt := 68) hx hb dX5_weightOf_11 (by rw [c_19]; decide) (by rw [c_19]; decide) (by rw [c_19]; rfl) (by decide) ?_
    have h_20 : iv 14 14 z_8 := iv_at c_19
    exact hj68 hvx hvo hvsl ((by have q6 : ¬ (wg 25 o.toNatClampNeg).toInt = 6 := (by have q8 := congrArg Int32.toInt (swt9 hSW ez_6 rfl); have := swx 6 12 (by decide) (h_7) ez_8 (by omega); omega); have q7 : ¬ (wg 25 o.toNatClampNeg).toInt = 7 := (by have q8 := congrArg Int32.toInt (swt9 hSW ez_6 rfl); have := swx 7 13 (by decide) (h_7) ez_8 (by omega); omega); have q9 : ¬ (wg 25 o.toNatClampNeg).toInt = 9 := (by have q8 := congrArg Int32.toInt (swt9 hSW ez_6 rfl); have := swx 9 15 (by decide) (h_7) ez_8 (by omega); omega); obtain ⟨o9, hV9, h0, h1⟩ : ∃ o : Int, V = [o] ∧ 0 ≤ o ∧ o < ((zO S).length : Int) := (by rcases hvk with h | h | h | h; (exact absurd h q6); (exact absurd h q7); (exact absurd h q9); (exact h)); exact ⟨o9, hV9, h0, h1, q6, q7, q9⟩)) _ _ _ hP hD hS (lv_sub hl [0, 1, 2, 3] rfl)
  by_cases c_21 : (z_8 : Int32).toInt = 15
  · refine lv_tableIn (tgt := 46) hx hb dX5_weightOf_11 (by rw [c_21]; decide) (by rw [c_21]; decide) (by rw [c_21]; rfl) (by decide) ?_
    have h_22 : iv 15 15 z_8 := iv_at c_21
    refine lv_iload_n hx hb dX5_weightOf_46 rfl (lv_at hl 3 rfl) ?_
    refine lv_iconst (v := 3) hx hb dX5_weightOf_47 (by decide) ?_
    refine lv_icmp_lt (tgt := 55) hx hb dX5_weightOf_48 (by decide) (fun c_23 => ?_) (fun c_23 => ?_)
    · have h_24 : iv (-2147483648) 2 kd := iv_ltL c_23 (iv_all kd) (iv_k (by decide) : iv 3 3 3) (by decide)
      refine lv_iconst (v := (-1)) hx hb dX5_weightOf_55 (by decide) ?_
      exact W.nb (fun hN => W.widen (k := 1) (n := 6) (by decide) (by decide) (vx_ret (W.iret (v := (-1)) hx hb hr (fun t ht hW => ⟨⟨some (.int (-1)), (sg, gm, lg), rfl, ⟨(-1), rfl, rfl, (iv_w (iv_k (by decide) : iv (-1) (-1) (-1)) (by decide)), ((by have q9 : (wg 25 o.toNatClampNeg).toInt = 9 := (by have q8 := congrArg Int32.toInt (swt9 hSW ez_6 rfl); have q7 := swy 9 15 (by decide) (h_7) ez_8 (by omega); omega); rw [wCo_9 q9]; split <;> (have := i32_0; have := i32_1; have := i32_2; have := i32_m1; have := (hvx).1; have := (hvx).2; have := (hvo).1; have := (hvo).2; have := (hvsl).1; have := (hvsl).2; have := (h_7).1; have := (h_7).2; have := (h_22).1; have := (h_22).2; have := (h_24).1; have := (h_24).2; omega)))⟩, by rw [ht]; exact hP, va_K.moved hW.alike hK, hD⟩, hS.F ht, by rw [ht]; exact hN⟩) hS.2.2 dX5_weightOf_56)))
    · have h_25 : iv 3 2147483647 kd := iv_leR (i32_ge c_23) (iv_k (by decide) : iv 3 3 3) (iv_all kd) (by decide)
      refine lv_iconst (v := 0) hx hb dX5_weightOf_51 (by decide) ?_
      refine lv_goto (tgt := 56) hx hb dX5_weightOf_52 (by decide) ?_
      exact W.nb (fun hN => W.widen (k := 1) (n := 6) (by decide) (by decide) (vx_ret (W.iret (v := 0) hx hb hr (fun t ht hW => ⟨⟨some (.int 0), (sg, gm, lg), rfl, ⟨0, rfl, rfl, (iv_w (iv_k (by decide) : iv 0 0 0) (by decide)), ((by have q9 : (wg 25 o.toNatClampNeg).toInt = 9 := (by have q8 := congrArg Int32.toInt (swt9 hSW ez_6 rfl); have q7 := swy 9 15 (by decide) (h_7) ez_8 (by omega); omega); rw [wCo_9 q9]; split <;> (have := i32_0; have := i32_1; have := i32_2; have := i32_m1; have := (hvx).1; have := (hvx).2; have := (hvo).1; have := (hvo).2; have := (hvsl).1; have := (hvsl).2; have := (h_7).1; have := (h_7).2; have := (h_22).1; have := (h_22).2; have := (h_25).1; have := (h_25).2; omega)))⟩, by rw [ht]; exact hP, va_K.moved hW.alike hK, hD⟩, hS.F ht, by rw [ht]; exact hN⟩) hS.2.2 dX5_weightOf_56)))
  refine lv_tableOut (tgt := 68) hx hb dX5_weightOf_11 (by have q1 := (hz_8).1; have q2 := (hz_8).2; omega) (by decide) ?_
  exact hj68 hvx hvo hvsl ((by have q6 : ¬ (wg 25 o.toNatClampNeg).toInt = 6 := (by have q8 := congrArg Int32.toInt (swt9 hSW ez_6 rfl); have := swx 6 12 (by decide) (h_7) ez_8 (by omega); omega); have q7 : ¬ (wg 25 o.toNatClampNeg).toInt = 7 := (by have q8 := congrArg Int32.toInt (swt9 hSW ez_6 rfl); have := swx 7 13 (by decide) (h_7) ez_8 (by omega); omega); have q9 : ¬ (wg 25 o.toNatClampNeg).toInt = 9 := (by have q8 := congrArg Int32.toInt (swt9 hSW ez_6 rfl); have := swx 9 15 (by decide) (h_7) ez_8 (by omega); omega); obtain ⟨o9, hV9, h0, h1⟩ : ∃ o : Int, V = [o] ∧ 0 ≤ o ∧ o < ((zO S).length : Int) := (by rcases hvk with h | h | h | h; (exact absurd h q6); (exact absurd h q7); (exact absurd h q9); (exact h)); exact ⟨o9, hV9, h0, h1, q6, q7, q9⟩)) _ _ _ hP hD hS (lv_sub hl [0, 1, 2, 3] rfl)

set_option maxHeartbeats 4000000 in
set_option maxRecDepth 100000 in
theorem d_textValue9 (l : Launch) (dC : Nat → ClassId) (dI : Nat → Nat → Nat) (ad : Nat → Nat → Nat) (cid : Nat → ClassId) (a2 : Nat → Nat) (lx : List Nat) (sg : Nat → Int32) (gm : Nat → Nat → Int32) (lg : Nat → Nat → Int64) (o : Int32) (kd : Int32) (wg : Nat → Nat → Int32) (hI : CI sg gm) (hvo : iv 0 79 o) (hSW : st9 gm = wg) : CMt dC dI ad cid a2 lx l yX5_textValue wm_X5_textValue ({ frames := 0, cells := 1, slots := 6, locals := 0 }) [eV (ad 9) o, .int kd] sg gm lg (fun v u => ∃ r : Int32, v = some (.int r) ∧ u = (sg, gm, lg) ∧ (r.toInt = vTx wg lg o.toNatClampNeg kd.toInt)) (fun _ _ => False) := by
  intro sz
  refine vx_ofW (cc := cX5_textValue) (maxL := 2) (ret := (some .int)) (by decide) rfl ?_
  intro p e s m args below meth c s₁ B hml hxt hv
  obtain ⟨rfl, hsz, hP, hK, hD0, hG⟩ := hv
  have hx := B.exec
  have hb := B.bytes
  have hr := B.returns
  have hts := atoms_spec (ws := wm_X5_textValue) B.pre
  have htb := fun (w : Cond) (h : w ∈ tb) => hts w (List.mem_cons_of_mem _ h)
  have hown : s.vm.findClass RX5 = some m.cls := findClass_of_methodNamed B.named
  have hlocks := B.notSynchronized
  subst hsz
  have hD := hD0.self (sz := s.heap.size)
  generalize hAe : va_A (cW ad cid a2 lx sg gm lg) s.heap.size = A at hD hG ⊢
  have hA : ∀ q : Nat, s.heap.size ≤ q → A q := fun q h => by rw [← hAe]; exact Or.inr h
  have hS : va_S A s.heap s.heap [] := va_S.rf
  have hl := lv_entry ([eV (ad 9) o, .int kd]) (n := 2) (by rw [show (lg_sl ([eV (ad 9) o, .int kd])).length = 2 from by simp [lg_sl, eV_cat, cat_i, cat_l]]; exact Nat.le_of_ble_eq_true rfl)
  rw [lg_entry_eq]
  generalize (lg_sl ([eV (ad 9) o, .int kd]) ++ List.replicate (2 - (lg_sl ([eV (ad 9) o, .int kd])).length) Slot.unset).toArray = ls at hl ⊢
  have hl : lv_has ls 2 [(0, eV (ad 9) o), (1, .int kd)] := by simp [lv_args, eV_cat, cat_i, cat_l] at hl; exact hl
  refine lv_iload_n hx hb dX5_textValue_0 rfl (lv_at hl 1 rfl) ?_
  by_cases c_1 : (kd : Int32).toInt = 0
  · refine lv_tableIn (tgt := 28) hx hb dX5_textValue_1 (by rw [c_1]; decide) (by rw [c_1]; decide) (by rw [c_1]; rfl) (by decide) ?_
    have h_2 : iv 0 0 kd := iv_at c_1
    refine ec_aload_n hx hb dX5_textValue_28 rfl (lv_at hl 0 rfl) ?_
    refine cr_get (t := 9) (j := 13) (C := RX3) (T := TX3) (N := 21) (v := .long (lg 3 o.toNatClampNeg)) hx hb htb inX3 hown hK hP hvo (by decide) (by decide) (by decide) rfl (by decide) (htb _ kw_1045) rfl dX5_textValue_29 ?_
    refine lv_topl (fun z_3 ez_3 => ?_)
    refine lv_l2i (v := (z_3).toInt32) hx hb dX5_textValue_32 rfl ?_
    refine lv_topi (fun z_4 ez_4 => ?_)
    exact W.nb (fun hN => W.widen (k := 1) (n := 6) (by decide) (by decide) (vx_ret (W.iret (v := z_4) hx hb hr (fun t ht hW => ⟨⟨some (.int z_4), (sg, gm, lg), rfl, ⟨z_4, rfl, rfl, ((by unfold vTx; rw [if_pos (by have := i32_0; have := i32_1; have := i32_2; have := i32_m1; have := (hvo).1; have := (hvo).2; have := (h_2).1; have := (h_2).2; omega), ← ez_3]; rw [ez_4]; rfl))⟩, by rw [ht]; exact hP, va_K.moved hW.alike hK, hD⟩, hS.F ht, by rw [ht]; exact hN⟩) hS.2.2 dX5_textValue_33)))
  by_cases c_5 : (kd : Int32).toInt = 1
  · refine lv_tableIn (tgt := 34) hx hb dX5_textValue_1 (by rw [c_5]; decide) (by rw [c_5]; decide) (by rw [c_5]; rfl) (by decide) ?_
    have h_6 : iv 1 1 kd := iv_at c_5
    refine ec_aload_n hx hb dX5_textValue_34 rfl (lv_at hl 0 rfl) ?_
    refine cr_get (t := 9) (j := 14) (C := RX3) (T := TX3) (N := 21) (v := .int (gm 21 o.toNatClampNeg)) hx hb htb inX3 hown hK hP hvo (by decide) (by decide) (by decide) rfl (by decide) (htb _ kw_1047) rfl dX5_textValue_35 ?_
    obtain ⟨z_7, ez_7⟩ : ∃ z : Int32, z = (gm 21 o.toNatClampNeg) := ⟨_, rfl⟩
    refine W.eq (g2 := F0 m 38 ls [.int z_7]) (by rw [ez_7]) ?_
    have hz_7 : iv (-1) 1 z_7 := iv_of ez_7 (CI_a hI 21 hvo (by decide))
    exact W.nb (fun hN => W.widen (k := 1) (n := 6) (by decide) (by decide) (vx_ret (W.iret (v := z_7) hx hb hr (fun t ht hW => ⟨⟨some (.int z_7), (sg, gm, lg), rfl, ⟨z_7, rfl, rfl, ((by have q9 := congrArg Int32.toInt (swt9 hSW ez_7 rfl); unfold vTx; (repeat' split) <;> (have := i32_0; have := i32_1; have := i32_2; have := i32_m1; have := (hvo).1; have := (hvo).2; have := (h_6).1; have := (h_6).2; have := (hz_7).1; have := (hz_7).2; omega)))⟩, by rw [ht]; exact hP, va_K.moved hW.alike hK, hD⟩, hS.F ht, by rw [ht]; exact hN⟩) hS.2.2 dX5_textValue_38)))
  by_cases c_8 : (kd : Int32).toInt = 2
  · refine lv_tableIn (tgt := 39) hx hb dX5_textValue_1 (by rw [c_8]; decide) (by rw [c_8]; decide) (by rw [c_8]; rfl) (by decide) ?_
    have h_9 : iv 2 2 kd := iv_at c_8
    refine ec_aload_n hx hb dX5_textValue_39 rfl (lv_at hl 0 rfl) ?_
    refine cr_get (t := 9) (j := 0) (C := RX3) (T := TX3) (N := 21) (v := eV (ad 31) o) hx hb htb inX3 hown hK hP hvo (by decide) (by decide) (by decide) rfl (by decide) (htb _ kw_1065) (cV_c rfl (hvo).1 (by rw [show cMu 9 0 = 1 from rfl, Nat.one_mul]; rfl)) dX5_textValue_40 ?_
    refine lv_iconst (v := 0) hx hb dX5_textValue_43 (by decide) ?_
    refine cr_cald (t := 31) (z := (gm 56 (24 * o.toNatClampNeg + (0 : Int32).toNatClampNeg))) hx hb hK hP hvo (by decide) (by decide) (by decide) rfl rfl (show vp_in 0 (cLen 31) from (show vp_in 0 24 from (iv_in (iv_k (by decide) : iv 0 0 0) (by decide)))) (cAi_w rfl (by decide) rfl (vin_lt (show vp_in 0 (cLen 31) from (show vp_in 0 24 from (iv_in (iv_k (by decide) : iv 0 0 0) (by decide)))))) dX5_textValue_44 ?_
    obtain ⟨z_10, ez_10⟩ : ∃ z : Int32, z = (gm 56 (24 * o.toNatClampNeg + (0 : Int32).toNatClampNeg)) := ⟨_, rfl⟩
    refine W.eq (g2 := F0 m 45 ls [.int z_10]) (by rw [ez_10]) ?_
    have hz_10 : iv 0 65535 z_10 := iv_of ez_10 (CI_n hI 56 (show _ < crLen 56 from vin_w (show vp_in 0 (cLen 31) from (show vp_in 0 24 from (iv_in (iv_k (by decide) : iv 0 0 0) (by decide)))) (hvo) (by decide)))
    exact W.nb (fun hN => W.widen (k := 1) (n := 6) (by decide) (by decide) (vx_ret (W.iret (v := z_10) hx hb hr (fun t ht hW => ⟨⟨some (.int z_10), (sg, gm, lg), rfl, ⟨z_10, rfl, rfl, ((by have q9 := congrArg Int32.toInt (show wg 56 (24 * o.toNatClampNeg) = z_10 from swt9 hSW ez_10 rfl); unfold vTx; (repeat' split) <;> (have := i32_0; have := i32_1; have := i32_2; have := i32_m1; have := (hvo).1; have := (hvo).2; have := (h_9).1; have := (h_9).2; have := (hz_10).1; have := (hz_10).2; omega)))⟩, by rw [ht]; exact hP, va_K.moved hW.alike hK, hD⟩, hS.F ht, by rw [ht]; exact hN⟩) hS.2.2 dX5_textValue_45)))
  refine lv_tableOut (tgt := 46) hx hb dX5_textValue_1 (by have q1 := ((iv_all kd)).1; have q2 := ((iv_all kd)).2; omega) (by decide) ?_
  refine lv_sipush (v := 1000) hx hb dX5_textValue_46 (by decide) ?_
  refine ec_aload_n hx hb dX5_textValue_49 rfl (lv_at hl 0 rfl) ?_
  refine cr_get (t := 9) (j := 1) (C := RX3) (T := TX3) (N := 21) (v := .int (gm 11 o.toNatClampNeg)) hx hb htb inX3 hown hK hP hvo (by decide) (by decide) (by decide) rfl (by decide) (htb _ kw_1048) rfl dX5_textValue_50 ?_
  obtain ⟨z_11, ez_11⟩ : ∃ z : Int32, z = (gm 11 o.toNatClampNeg) := ⟨_, rfl⟩
  refine W.eq (g2 := F0 m 53 ls [.int z_11, .int 1000]) (by rw [ez_11]) ?_
  have hz_11 : iv 0 24 z_11 := iv_of ez_11 (CI_a hI 11 hvo (by decide))
  refine lv_iadd hx hb dX5_textValue_53 ?_
  refine lv_topi (fun z_12 ez_12 => ?_)
  have hz_12 : iv 1000 1024 z_12 := iv_of ez_12 (iv_add (iv_k (by decide) : iv 1000 1000 1000) hz_11 (by decide))
  have tz_12 : z_12.toInt = 1000 + (z_11 : Int32).toInt := by rw [ez_12]; exact iv_addE (iv_k (by decide) : iv 1000 1000 1000) hz_11 (by decide)
  exact W.nb (fun hN => W.widen (k := 1) (n := 6) (by decide) (by decide) (vx_ret (W.iret (v := z_12) hx hb hr (fun t ht hW => ⟨⟨some (.int z_12), (sg, gm, lg), rfl, ⟨z_12, rfl, rfl, ((by have q9 := congrArg Int32.toInt (swt9 hSW ez_11 rfl); unfold vTx; (repeat' split) <;> (have := i32_0; have := i32_1; have := i32_2; have := i32_m1; have := (hvo).1; have := (hvo).2; have := (hz_11).1; have := (hz_11).2; have := (hz_12).1; have := (hz_12).2; omega)))⟩, by rw [ht]; exact hP, va_K.moved hW.alike hK, hD⟩, hS.F ht, by rw [ht]; exact hN⟩) hS.2.2 dX5_textValue_54)))

set_option maxHeartbeats 4000000 in
set_option maxRecDepth 100000 in
theorem d_valueOf9 (l : Launch) (dC : Nat → ClassId) (dI : Nat → Nat → Nat) (ad : Nat → Nat → Nat) (cid : Nat → ClassId) (a2 : Nat → Nat) (lx : List Nat) (sg : Nat → Int32) (gm : Nat → Nat → Int32) (lg : Nat → Nat → Int64) (x : Int32) (o : Int32) (sl : Int32) (kd : Int32) (wg : Nat → Nat → Int32) (S : S9) (V : List Int) (hI : CI sg gm) (hvx : iv 0 0 x) (hvo : iv 0 79 o) (hvsl : iv 0 954 sl) (hSW : st9 gm = wg) (hRC : RC wg lg S sg gm) (hk0 : 0 ≤ (gm 25 o.toNatClampNeg).toInt) (hvk : VOK wg (zO S) o.toNatClampNeg V) (hWV : WVL gm sl.toNatClampNeg V) : CMt dC dI ad cid a2 lx l yX5_valueOf wm_X5_valueOf ({ frames := 1, cells := 1, slots := 6, locals := 21 }) [eV (ad 6) x, eV (ad 9) o, .int sl, .int kd] sg gm lg (fun v u => ∃ r : Int32, v = some (.int r) ∧ u = (sg, gm, lg) ∧ (r.toInt = vCo wg lg o.toNatClampNeg V kd.toInt)) (fun _ _ => False) := by
  intro sz
  refine vx_ofW (cc := cX5_valueOf) (maxL := 4) (ret := (some .int)) (by decide) rfl ?_
  intro p e s m args below meth c s₁ B hml hxt hv
  obtain ⟨rfl, hsz, hP, hK, hD0, hG⟩ := hv
  have hx := B.exec
  have hb := B.bytes
  have hr := B.returns
  have hts := atoms_spec (ws := wm_X5_valueOf) B.pre
  have htb := fun (w : Cond) (h : w ∈ tb) => hts w (List.mem_cons_of_mem _ h)
  have hown : s.vm.findClass RX5 = some m.cls := findClass_of_methodNamed B.named
  have hlocks := B.notSynchronized
  subst hsz
  have hD := hD0.self (sz := s.heap.size)
  generalize hAe : va_A (cW ad cid a2 lx sg gm lg) s.heap.size = A at hD hG ⊢
  have hA : ∀ q : Nat, s.heap.size ≤ q → A q := fun q h => by rw [← hAe]; exact Or.inr h
  have hS : va_S A s.heap s.heap [] := va_S.rf
  have hl := lv_entry ([eV (ad 6) x, eV (ad 9) o, .int sl, .int kd]) (n := 4) (by rw [show (lg_sl ([eV (ad 6) x, eV (ad 9) o, .int sl, .int kd])).length = 4 from by simp [lg_sl, eV_cat, cat_i, cat_l]]; exact Nat.le_of_ble_eq_true rfl)
  rw [lg_entry_eq]
  generalize (lg_sl ([eV (ad 6) x, eV (ad 9) o, .int sl, .int kd]) ++ List.replicate (4 - (lg_sl ([eV (ad 6) x, eV (ad 9) o, .int sl, .int kd])).length) Slot.unset).toArray = ls at hl ⊢
  have hl : lv_has ls 4 [(0, eV (ad 6) x), (1, eV (ad 9) o), (2, .int sl), (3, .int kd)] := by simp [lv_args, eV_cat, cat_i, cat_l] at hl; exact hl
  have hj57 : ∀ (_ : iv 0 0 x) (_ : iv 0 79 o) (_ : iv 0 954 sl) (_ : ∃ o9 : Int, V = [o9] ∧ 0 ≤ o9 ∧ o9 < ((zO S).length : Int) ∧ ¬ (wg 25 o.toNatClampNeg).toInt = 6 ∧ ¬ (wg 25 o.toNatClampNeg).toInt = 7 ∧ ¬ (wg 25 o.toNatClampNeg).toInt = 9) (H : Heap) (locs : List Loc) (ls : Array Slot), va_P (dC, dI) vwCl (cW ad cid a2 lx sg gm lg) H → va_D A (cW ad cid a2 lx sg gm lg) → va_S A s.heap H locs → lv_has ls 4 [(0, eV (ad 6) x), (1, eV (ad 9) o), (2, .int sl), (3, .int kd)] → W p l e (headSpec wm_X5_valueOf ({ frames := 1, cells := 1, slots := 6, locals := 21 })).room s m ([eV (ad 6) x, eV (ad 9) o, .int sl, .int kd] : List Value).toArray below meth c H locs 0 0 (vx_MQ below (cQx dC dI ad cid a2 lx (fun v u => ∃ r : Int32, v = some (.int r) ∧ u = (sg, gm, lg) ∧ (r.toInt = vCo wg lg o.toNatClampNeg V kd.toInt)) A) (cX dC dI ad cid a2 lx (fun _ _ => False) A) ([eV (ad 6) x, eV (ad 9) o, .int sl, .int kd] : List Value).toArray s 1 6 A) (F0 m 57 ls []) := by
    intro  hsx0_57 hsx1_57 hsx2_57 u57 H locs ls hP hD hS hl
    obtain ⟨o9, hV9, ho0, ho1, hk6, hk7, hk9⟩ := u57
    have hw9 : (gm 52 sl.toNatClampNeg).toInt = o9 := hWV 0 o9 (by rw [hV9]; rfl)
    have h149 := hRC.1.1
    have h609 := (show iv 0 60 (sg 14) from CI_s hI 14).2
    refine lv_sipush (v := 3000) hx hb dX5_valueOf_57 (by decide) ?_
    refine ec_aload_n hx hb dX5_valueOf_60 rfl (lv_at hl 0 rfl) ?_
    refine cr_get (t := 6) (j := 8) (C := RX5) (T := TX5) (N := 13) (v := eV (ad 25) 0) hx hb htb inX5 hown hK hP hsx0_57 (by decide) (by decide) (by decide) rfl (by decide) (htb _ kw_128) (cV_c rfl (by decide) (by rw [show cMu 6 8 = 0 from rfl, Nat.zero_mul]; rfl)) dX5_valueOf_61 ?_
    refine lv_iload_n hx hb dX5_valueOf_64 rfl (lv_at hl 2 rfl) ?_
    refine cr_iald (t := 25) (z := (gm 52 (sl : Int32).toNatClampNeg)) hx hb hK hP (iv_k (by decide) : iv 0 0 0) (by decide) (by decide) (by decide) rfl rfl (show vp_in sl (cLen 25) from (show vp_in sl 960 from (iv_in hsx2_57 (by decide)))) rfl dX5_valueOf_65 ?_
    obtain ⟨z_1, ez_1⟩ : ∃ z : Int32, z = (gm 52 (sl : Int32).toNatClampNeg) := ⟨_, rfl⟩
    refine W.eq (g2 := F0 m 66 ls [.int z_1, .int 3000]) (by rw [ez_1]) ?_
    have h_2 : iv 0 59 z_1 := ⟨by rw [ez_1, hw9]; exact ho0, by rw [ez_1, hw9]; omega⟩
    refine lv_iadd hx hb dX5_valueOf_66 ?_
    refine lv_topi (fun z_3 ez_3 => ?_)
    have hz_3 : iv 3000 3059 z_3 := iv_of ez_3 (iv_add (iv_k (by decide) : iv 3000 3000 3000) h_2 (by decide))
    have tz_3 : z_3.toInt = 3000 + (z_1 : Int32).toInt := by rw [ez_3]; exact iv_addE (iv_k (by decide) : iv 3000 3000 3000) h_2 (by decide)
    exact W.nb (fun hN => W.widen (k := 1) (n := 6) (by decide) (by decide) (vx_ret (W.iret (v := z_3) hx hb hr (fun t ht hW => ⟨⟨some (.int z_3), (sg, gm, lg), rfl, ⟨z_3, rfl, rfl, ((by rw [hV9, vCo_o hk6 hk7 hk9]; have q8 := (congrArg Int32.toInt ez_1).trans hw9; have := i32_0; have := i32_1; have := i32_2; have := i32_m1; have := (hsx0_57).1; have := (hsx0_57).2; have := (hsx1_57).1; have := (hsx1_57).2; have := (hsx2_57).1; have := (hsx2_57).2; have := (h_2).1; have := (h_2).2; have := (hz_3).1; have := (hz_3).2; omega))⟩, by rw [ht]; exact hP, va_K.moved hW.alike hK, hD⟩, hS.F ht, by rw [ht]; exact hN⟩) hS.2.2 dX5_valueOf_67)))
  refine cw_sw hx hb hG hS hown (htb _ kw_1040) dX5_valueOf_0 ?_
  refine ec_aload_n hx hb dX5_valueOf_3 rfl (lv_at hl 1 rfl) ?_
  refine cr_get (t := 9) (j := 18) (C := RX3) (T := TX3) (N := 21) (v := eV (ad 33) (gm 25 o.toNatClampNeg)) hx hb htb inX3 hown hK hP hvo (by decide) (by decide) (by decide) rfl (by decide) (htb _ kw_1041) rfl dX5_valueOf_4 ?_
  obtain ⟨z_4, ez_4⟩ : ∃ z : Int32, z = (gm 25 o.toNatClampNeg) := ⟨_, rfl⟩
  refine W.eq (g2 := F0 m 7 ls [eV (ad 33) z_4, eV (ad 36) 0]) (by rw [ez_4]) ?_
  have hz_4 : iv (-1) 33 z_4 := iv_of ez_4 (CI_a hI 25 hvo (by decide))
  have h_5 : iv 0 33 z_4 := ⟨by rw [ez_4]; exact hk0, (hz_4).2⟩
  refine cw_ord ⟨hx, hb, hml, hown, htb⟩ kw_1042 h_5 hl.1 (Nat.le_trans (cs_c (eV_cat _ _) cs_n) (by decide)) dX5_valueOf_7 ⟨Nat.le_of_ble_eq_true rfl, Nat.le_of_ble_eq_true rfl⟩ ⟨Nat.le_of_ble_eq_true rfl, Nat.le_of_ble_eq_true rfl⟩ hP hD hS hA hG (fun H locs hP hS => ?_)
  refine cw_swld (iv_k (by decide) : iv 0 0 0) hx hb hG hS h_5 dX5_valueOf_10 ?_
  refine lv_topi (fun z_6 ez_6 => ?_)
  have hz_6 : iv 0 29 z_6 := iv_of ez_6 (sw_iv z_4)
  by_cases c_7 : (z_6 : Int32).toInt = 12
  · refine lv_tableIn (tgt := 48) hx hb dX5_valueOf_11 (by rw [c_7]; decide) (by rw [c_7]; decide) (by rw [c_7]; rfl) (by decide) ?_
    have h_8 : iv 12 12 z_6 := iv_at c_7
    refine lv_sipush (v := 2000) hx hb dX5_valueOf_48 (by decide) ?_
    refine ec_aload_n hx hb dX5_valueOf_51 rfl (lv_at hl 1 rfl) ?_
    refine cr_get (t := 9) (j := 8) (C := RX3) (T := TX3) (N := 21) (v := .int (gm 18 o.toNatClampNeg)) hx hb htb inX3 hown hK hP hvo (by decide) (by decide) (by decide) rfl (by decide) (htb _ kw_1059) rfl dX5_valueOf_52 ?_
    obtain ⟨z_9, ez_9⟩ : ∃ z : Int32, z = (gm 18 o.toNatClampNeg) := ⟨_, rfl⟩
    refine W.eq (g2 := F0 m 55 ls [.int z_9, .int 2000]) (by rw [ez_9]) ?_
    have hz_9 : iv 0 2000000 z_9 := iv_of ez_9 (CI_a hI 18 hvo (by decide))
    refine lv_iadd hx hb dX5_valueOf_55 ?_
    refine lv_topi (fun z_10 ez_10 => ?_)
    have hz_10 : iv 2000 2002000 z_10 := iv_of ez_10 (iv_add (iv_k (by decide) : iv 2000 2000 2000) hz_9 (by decide))
    have tz_10 : z_10.toInt = 2000 + (z_9 : Int32).toInt := by rw [ez_10]; exact iv_addE (iv_k (by decide) : iv 2000 2000 2000) hz_9 (by decide)
    exact W.nb (fun hN => W.widen (k := 1) (n := 6) (by decide) (by decide) (vx_ret (W.iret (v := z_10) hx hb hr (fun t ht hW => ⟨⟨some (.int z_10), (sg, gm, lg), rfl, ⟨z_10, rfl, rfl, ((by have q9 : (wg 25 o.toNatClampNeg).toInt = 6 := (by have q8 := congrArg Int32.toInt (swt9 hSW ez_4 rfl); have q7 := swy 6 12 (by decide) (h_5) ez_6 (by omega); omega); rw [vCo_6 q9]; have q8 := congrArg Int32.toInt (swt9 hSW ez_9 rfl); have := i32_0; have := i32_1; have := i32_2; have := i32_m1; have := (hvx).1; have := (hvx).2; have := (hvo).1; have := (hvo).2; have := (hvsl).1; have := (hvsl).2; have := (h_5).1; have := (h_5).2; have := (h_8).1; have := (h_8).2; have := (hz_9).1; have := (hz_9).2; have := (hz_10).1; have := (hz_10).2; omega))⟩, by rw [ht]; exact hP, va_K.moved hW.alike hK, hD⟩, hS.F ht, by rw [ht]; exact hN⟩) hS.2.2 dX5_valueOf_56)))
  by_cases c_11 : (z_6 : Int32).toInt = 13
  · refine lv_tableIn (tgt := 40) hx hb dX5_valueOf_11 (by rw [c_11]; decide) (by rw [c_11]; decide) (by rw [c_11]; rfl) (by decide) ?_
    have h_12 : iv 13 13 z_6 := iv_at c_11
    refine ec_aload_n hx hb dX5_valueOf_40 rfl (lv_at hl 1 rfl) ?_
    refine lv_iload_n hx hb dX5_valueOf_41 rfl (lv_at hl 3 rfl) ?_
    refine cm_callS (rest := []) (as := [eV (ad 9) o, .int kd]) ⟨hx, hb, hml, hown, htb⟩ (d_textValue9 l dC dI ad cid a2 lx sg gm lg o kd wg hI hvo hSW) (va_cwS 2 htb (gd_S kw_1063 kw_1064 kw_40 kw_1580) rfl rfl rfl (by decide +kernel) ⟨Nat.le_of_ble_eq_true rfl, Nat.le_of_ble_eq_true rfl⟩)  rfl hl.1 rfl (Nat.le_trans cs_n (by decide)) dX5_valueOf_42 ⟨Nat.le_of_ble_eq_true rfl, Nat.le_of_ble_eq_true rfl⟩ hK hP hD hS hA hG (fun E ce q9 u_14 H locs hw hP hD hS hce hcv hcl => ?_) (fun v9 u_14 H locs hw hP hD hS => ?_)
    · exact hw.elim
    obtain ⟨r_13, rfl, rfl, fT_r_13⟩ := hw
    have hP : va_P (dC, dI) vwCl (cW ad cid a2 lx sg gm lg) H := hP
    have hD : va_D A (cW ad cid a2 lx sg gm lg) := hD
    refine W.eq (g2 := F0 m 45 ls [.int r_13]) rfl ?_
    exact W.nb (fun hN => W.widen (k := 1) (n := 6) (by decide) (by decide) (vx_ret (W.iret (v := r_13) hx hb hr (fun t ht hW => ⟨⟨some (.int r_13), (sg, gm, lg), rfl, ⟨r_13, rfl, rfl, ((by have q9 : (wg 25 o.toNatClampNeg).toInt = 7 := (by have q8 := congrArg Int32.toInt (swt9 hSW ez_4 rfl); have q7 := swy 7 13 (by decide) (h_5) ez_6 (by omega); omega); rw [vCo_7 q9]; exact fT_r_13))⟩, by rw [ht]; exact hP, va_K.moved hW.alike hK, hD⟩, hS.F ht, by rw [ht]; exact hN⟩) hS.2.2 dX5_valueOf_45)))
  by_cases c_16 : (z_6 : Int32).toInt = 14
  · refine lv_tableIn (tgt := 57) hx hb dX5_valueOf_11 (by rw [c_16]; decide) (by rw [c_16]; decide) (by rw [c_16]; rfl) (by decide) ?_
    have h_17 : iv 14 14 z_6 := iv_at c_16
    exact hj57 hvx hvo hvsl ((by have q6 : ¬ (wg 25 o.toNatClampNeg).toInt = 6 := (by have q8 := congrArg Int32.toInt (swt9 hSW ez_4 rfl); have := swx 6 12 (by decide) (h_5) ez_6 (by omega); omega); have q7 : ¬ (wg 25 o.toNatClampNeg).toInt = 7 := (by have q8 := congrArg Int32.toInt (swt9 hSW ez_4 rfl); have := swx 7 13 (by decide) (h_5) ez_6 (by omega); omega); have q9 : ¬ (wg 25 o.toNatClampNeg).toInt = 9 := (by have q8 := congrArg Int32.toInt (swt9 hSW ez_4 rfl); have := swx 9 15 (by decide) (h_5) ez_6 (by omega); omega); obtain ⟨o9, hV9, h0, h1⟩ : ∃ o : Int, V = [o] ∧ 0 ≤ o ∧ o < ((zO S).length : Int) := (by rcases hvk with h | h | h | h; (exact absurd h q6); (exact absurd h q7); (exact absurd h q9); (exact h)); exact ⟨o9, hV9, h0, h1, q6, q7, q9⟩)) _ _ _ hP hD hS (lv_sub hl [0, 1, 2, 3] rfl)
  by_cases c_18 : (z_6 : Int32).toInt = 15
  · refine lv_tableIn (tgt := 46) hx hb dX5_valueOf_11 (by rw [c_18]; decide) (by rw [c_18]; decide) (by rw [c_18]; rfl) (by decide) ?_
    have h_19 : iv 15 15 z_6 := iv_at c_18
    refine lv_iconst (v := (-1)) hx hb dX5_valueOf_46 (by decide) ?_
    exact W.nb (fun hN => W.widen (k := 1) (n := 6) (by decide) (by decide) (vx_ret (W.iret (v := (-1)) hx hb hr (fun t ht hW => ⟨⟨some (.int (-1)), (sg, gm, lg), rfl, ⟨(-1), rfl, rfl, ((by have q9 : (wg 25 o.toNatClampNeg).toInt = 9 := (by have q8 := congrArg Int32.toInt (swt9 hSW ez_4 rfl); have q7 := swy 9 15 (by decide) (h_5) ez_6 (by omega); omega); rw [vCo_9 q9]; rfl))⟩, by rw [ht]; exact hP, va_K.moved hW.alike hK, hD⟩, hS.F ht, by rw [ht]; exact hN⟩) hS.2.2 dX5_valueOf_47)))
  refine lv_tableOut (tgt := 57) hx hb dX5_valueOf_11 (by have q1 := (hz_6).1; have q2 := (hz_6).2; omega) (by decide) ?_
  exact hj57 hvx hvo hvsl ((by have q6 : ¬ (wg 25 o.toNatClampNeg).toInt = 6 := (by have q8 := congrArg Int32.toInt (swt9 hSW ez_4 rfl); have := swx 6 12 (by decide) (h_5) ez_6 (by omega); omega); have q7 : ¬ (wg 25 o.toNatClampNeg).toInt = 7 := (by have q8 := congrArg Int32.toInt (swt9 hSW ez_4 rfl); have := swx 7 13 (by decide) (h_5) ez_6 (by omega); omega); have q9 : ¬ (wg 25 o.toNatClampNeg).toInt = 9 := (by have q8 := congrArg Int32.toInt (swt9 hSW ez_4 rfl); have := swx 9 15 (by decide) (h_5) ez_6 (by omega); omega); obtain ⟨o9, hV9, h0, h1⟩ : ∃ o : Int, V = [o] ∧ 0 ≤ o ∧ o < ((zO S).length : Int) := (by rcases hvk with h | h | h | h; (exact absurd h q6); (exact absurd h q7); (exact absurd h q9); (exact h)); exact ⟨o9, hV9, h0, h1, q6, q7, q9⟩)) _ _ _ hP hD hS (lv_sub hl [0, 1, 2, 3] rfl)

set_option maxHeartbeats 4000000 in
set_option maxRecDepth 100000 in
theorem d_tellValue9 (l : Launch) (dC : Nat → ClassId) (dI : Nat → Nat → Nat) (ad : Nat → Nat → Nat) (cid : Nat → ClassId) (a2 : Nat → Nat) (lx : List Nat) (sg : Nat → Int32) (gm : Nat → Nat → Int32) (lg : Nat → Nat → Int64) (x : Int32) (wh : Int32) (ab : Int32) (sc : Int32) (o : Int32) (sl : Int32) (kd : Int32) (wg : Nat → Nat → Int32) (S : S9) (V : List Int) (hI : CI sg gm) (hvx : iv 0 0 x) (hvo : iv 0 79 o) (hvsl : iv 0 954 sl) (hSW : st9 gm = wg) (hRC : RC wg lg S sg gm) (hk0 : 0 ≤ (gm 25 o.toNatClampNeg).toInt) (hvk : VOK wg (zO S) o.toNatClampNeg V) (hWV : WVL gm sl.toNatClampNeg V) (h18 : (wg 25 o.toNatClampNeg).toInt = 6 → (wg 18 o.toNatClampNeg).toInt ≤ 6 ∧ (V.length : Int) = (wg 18 o.toNatClampNeg).toInt) : CMt dC dI ad cid a2 lx l yX5_tellValue wm_X5_tellValue ({ frames := 2, cells := 1, slots := 6, locals := 44 }) [eV (ad 6) x, .int wh, .int ab, .int sc, eV (ad 9) o, .int sl, .int kd] sg gm lg (fun v u => v = none ∧ ∃ (sg2 : Nat → Int32) (gm2 : Nat → Nat → Int32) (lg2 : Nat → Nat → Int64), u = (sg2, gm2, lg2) ∧ CI sg2 gm2 ∧ KS [13] sg sg2 ∧ KS [48] gm gm2 ∧ KS [] lg lg2 ∧ (RC wg lg (tlV wg lg wh.toInt ab.toInt sc.toInt o.toNatClampNeg V kd.toInt S) sg2 gm2)) (fun _ _ => False) := by
  intro sz
  refine vx_ofW (cc := cX5_tellValue) (maxL := 8) (ret := none) (by decide) rfl ?_
  intro p e s m args below meth c s₁ B hml hxt hv
  obtain ⟨rfl, hsz, hP, hK, hD0, hG⟩ := hv
  have hx := B.exec
  have hb := B.bytes
  have hr := B.returns
  have hts := atoms_spec (ws := wm_X5_tellValue) B.pre
  have htb := fun (w : Cond) (h : w ∈ tb) => hts w (List.mem_cons_of_mem _ h)
  have hown : s.vm.findClass RX5 = some m.cls := findClass_of_methodNamed B.named
  have hlocks := B.notSynchronized
  subst hsz
  have hD := hD0.self (sz := s.heap.size)
  generalize hAe : va_A (cW ad cid a2 lx sg gm lg) s.heap.size = A at hD hG ⊢
  have hA : ∀ q : Nat, s.heap.size ≤ q → A q := fun q h => by rw [← hAe]; exact Or.inr h
  have hS : va_S A s.heap s.heap [] := va_S.rf
  have hl := lv_entry ([eV (ad 6) x, .int wh, .int ab, .int sc, eV (ad 9) o, .int sl, .int kd]) (n := 8) (by rw [show (lg_sl ([eV (ad 6) x, .int wh, .int ab, .int sc, eV (ad 9) o, .int sl, .int kd])).length = 7 from by simp [lg_sl, eV_cat, cat_i, cat_l]]; exact Nat.le_of_ble_eq_true rfl)
  rw [lg_entry_eq]
  generalize (lg_sl ([eV (ad 6) x, .int wh, .int ab, .int sc, eV (ad 9) o, .int sl, .int kd]) ++ List.replicate (8 - (lg_sl ([eV (ad 6) x, .int wh, .int ab, .int sc, eV (ad 9) o, .int sl, .int kd])).length) Slot.unset).toArray = ls at hl ⊢
  have hl : lv_has ls 8 [(0, eV (ad 6) x), (1, .int wh), (2, .int ab), (3, .int sc), (4, eV (ad 9) o), (5, .int sl), (6, .int kd)] := by simp [lv_args, eV_cat, cat_i, cat_l] at hl; exact hl
  have hj79 : ∀ (sg_j79 : Nat → Int32) (gm_j79 : Nat → Nat → Int32) (_ : iv 0 0 x) (_ : iv 0 79 o) (_ : iv 0 954 sl) (_ : KS [13] sg sg_j79) (_ : KS [48] gm gm_j79) (_ : CI sg_j79 gm_j79) (_ : RC wg lg (tlV wg lg wh.toInt ab.toInt sc.toInt o.toNatClampNeg V kd.toInt S) sg_j79 gm_j79) (H : Heap) (locs : List Loc) (ls : Array Slot), va_P (dC, dI) vwCl (cW ad cid a2 lx sg_j79 gm_j79 lg) H → va_D A (cW ad cid a2 lx sg_j79 gm_j79 lg) → va_S A s.heap H locs → lv_has ls 8 [(0, eV (ad 6) x), (1, .int wh), (2, .int ab), (3, .int sc), (4, eV (ad 9) o), (5, .int sl), (6, .int kd)] → W p l e (headSpec wm_X5_tellValue ({ frames := 2, cells := 1, slots := 6, locals := 44 })).room s m ([eV (ad 6) x, .int wh, .int ab, .int sc, eV (ad 9) o, .int sl, .int kd] : List Value).toArray below meth c H locs 0 0 (vx_MQ below (cQx dC dI ad cid a2 lx (fun v u => v = none ∧ ∃ (sg2 : Nat → Int32) (gm2 : Nat → Nat → Int32) (lg2 : Nat → Nat → Int64), u = (sg2, gm2, lg2) ∧ CI sg2 gm2 ∧ KS [13] sg sg2 ∧ KS [48] gm gm2 ∧ KS [] lg lg2 ∧ (RC wg lg (tlV wg lg wh.toInt ab.toInt sc.toInt o.toNatClampNeg V kd.toInt S) sg2 gm2)) A) (cX dC dI ad cid a2 lx (fun _ _ => False) A) ([eV (ad 6) x, .int wh, .int ab, .int sc, eV (ad 9) o, .int sl, .int kd] : List Value).toArray s 1 6 A) (F0 m 79 ls []) := by
    intro sg_j79 gm_j79 hsx0_79 hsx4_79 hsx5_79 hks_j79 hkg_j79 hI_j79 u79 H locs ls hP hD hS hl
    exact W.nb (fun hN => W.widen (k := 1) (n := 6) (by decide) (by decide) (vx_ret (W.vret hx hb hr (fun t ht hW => ⟨⟨none, (sg_j79, gm_j79, lg), rfl, ⟨rfl, sg_j79, gm_j79, lg, rfl, hI_j79, (KS_tr (L := [13]) KS_rf hks_j79 (by decide)), (KS_tr (L := [48]) KS_rf hkg_j79 (by decide)), KS_rf, (u79)⟩, by rw [ht]; exact hP, va_K.moved hW.alike hK, hD⟩, hS.F ht, by rw [ht]; exact hN⟩) hS.2.2 dX5_tellValue_79)))
  have hj34 : ∀ (n : Nat) (sg_j34 : Nat → Int32) (gm_j34 : Nat → Nat → Int32) (x7_34 : Int32) (_ : (6 - x7_34.toInt).toNat = n) (_ : iv 0 6 x7_34) (_ : iv 0 0 x) (_ : iv 0 79 o) (_ : iv 0 954 sl) (_ : KS [13] sg sg_j34) (_ : KS [48] gm gm_j34) (_ : CI sg_j34 gm_j34) (_ : (wg 25 o.toNatClampNeg).toInt = 6) (_ : ∃ S2, RC wg lg S2 sg_j34 gm_j34 ∧ tlV wg lg wh.toInt ab.toInt sc.toInt o.toNatClampNeg V kd.toInt S = tlI V ((wg 18 o.toNatClampNeg).toNatClampNeg - x7_34.toNatClampNeg) x7_34.toNatClampNeg S2) (H : Heap) (locs : List Loc) (ls : Array Slot), va_P (dC, dI) vwCl (cW ad cid a2 lx sg_j34 gm_j34 lg) H → va_D A (cW ad cid a2 lx sg_j34 gm_j34 lg) → va_S A s.heap H locs → lv_has ls 8 [(7, .int x7_34), (0, eV (ad 6) x), (1, .int wh), (2, .int ab), (3, .int sc), (4, eV (ad 9) o), (5, .int sl), (6, .int kd)] → W p l e (headSpec wm_X5_tellValue ({ frames := 2, cells := 1, slots := 6, locals := 44 })).room s m ([eV (ad 6) x, .int wh, .int ab, .int sc, eV (ad 9) o, .int sl, .int kd] : List Value).toArray below meth c H locs 0 0 (vx_MQ below (cQx dC dI ad cid a2 lx (fun v u => v = none ∧ ∃ (sg2 : Nat → Int32) (gm2 : Nat → Nat → Int32) (lg2 : Nat → Nat → Int64), u = (sg2, gm2, lg2) ∧ CI sg2 gm2 ∧ KS [13] sg sg2 ∧ KS [48] gm gm2 ∧ KS [] lg lg2 ∧ (RC wg lg (tlV wg lg wh.toInt ab.toInt sc.toInt o.toNatClampNeg V kd.toInt S) sg2 gm2)) A) (cX dC dI ad cid a2 lx (fun _ _ => False) A) ([eV (ad 6) x, .int wh, .int ab, .int sc, eV (ad 9) o, .int sl, .int kd] : List Value).toArray s 1 6 A) (F0 m 34 ls []) := by
    intro n
    induction n using Nat.strongRecOn with
    | ind n ih34 =>
      intro sg_j34 gm_j34 x7_34 hn34 hx7_34 hsx0_34 hsx4_34 hsx5_34 hks_j34 hkg_j34 hI_j34 hk6 hTL H locs ls hP hD hS hl
      obtain ⟨S2, hR2, hT2⟩ := hTL
      refine lv_iload hx hb dX5_tellValue_34 (lv_at hl 0 rfl) ?_
      refine ec_aload hx hb dX5_tellValue_36 (lv_at hl 5 rfl) ?_
      refine cr_get (t := 9) (j := 8) (C := RX3) (T := TX3) (N := 21) (v := .int (gm_j34 18 o.toNatClampNeg)) hx hb htb inX3 hown hK hP hsx4_34 (by decide) (by decide) (by decide) rfl (by decide) (htb _ kw_1059) rfl dX5_tellValue_38 ?_
      obtain ⟨z_1, ez_1⟩ : ∃ z : Int32, z = (gm_j34 18 o.toNatClampNeg) := ⟨_, rfl⟩
      refine W.eq (g2 := F0 m 41 ls [.int z_1, .int x7_34]) (by rw [ez_1]) ?_
      have hz_1 : iv 0 2000000 z_1 := iv_of ez_1 (CI_a hI_j34 18 hsx4_34 (by decide))
      have ez_1 := ez_1.trans (congrFun (hkg_j34 18 (by decide)) _)
      refine lv_icmp_ge (tgt := 79) hx hb dX5_tellValue_41 (by decide) (fun c_2 => ?_) (fun c_2 => ?_)
      · have d_3 : (z_1 : Int32).toInt ≤ (x7_34 : Int32).toInt := Int32.le_iff_toInt_le.mp c_2
        have h_4 : iv 0 6 z_1 := iv_leL c_2 hz_1 hx7_34 (by decide)
        exact hj79 sg_j34 gm_j34 hsx0_34 hsx4_34 hsx5_34 (KS_tr (L := [13]) KS_rf hks_j34 (by decide)) (KS_tr (L := [48]) KS_rf hkg_j34 (by decide)) hI_j34 ((by rw [tlI_e hT2 (hx7_34).1 (by have q9 := h18 hk6; have q8 := congrArg Int32.toInt (swt9 hSW ez_1 rfl); have q7 : (wg 18 o.toNatClampNeg).toNatClampNeg = (wg 18 o.toNatClampNeg).toInt.toNat := rfl; have := i32_0; have := i32_1; have := i32_2; have := i32_m1; have := (hsx0_34).1; have := (hsx0_34).2; have := (hsx4_34).1; have := (hsx4_34).2; have := (hsx5_34).1; have := (hsx5_34).2; have := (hx7_34).1; have := (hx7_34).2; have := (h_4).1; have := (h_4).2; omega)]; exact hR2)) _ _ _ hP hD hS (lv_sub hl [1, 2, 3, 4, 5, 6, 7] rfl)
      · have d_5 : (x7_34 : Int32).toInt < (z_1 : Int32).toInt := Int32.lt_iff_toInt_lt.mp (i32_lt c_2)
        have h_6 : iv 1 2000000 z_1 := iv_ltR (i32_lt c_2) hx7_34 hz_1 (by decide)
        refine lv_iload hx hb dX5_tellValue_44 (lv_at hl 0 rfl) ?_
        refine lv_bipush (v := 6) hx hb dX5_tellValue_46 (by decide) ?_
        refine lv_icmp_ge (tgt := 79) hx hb dX5_tellValue_48 (by decide) (fun c_7 => ?_) (fun c_7 => ?_)
        · have h_8 : iv 6 6 x7_34 := iv_leR c_7 (iv_k (by decide) : iv 6 6 6) hx7_34 (by decide)
          exact hj79 sg_j34 gm_j34 hsx0_34 hsx4_34 hsx5_34 (KS_tr (L := [13]) KS_rf hks_j34 (by decide)) (KS_tr (L := [48]) KS_rf hkg_j34 (by decide)) hI_j34 ((by rw [tlI_e hT2 ((show iv 0 6 x7_34 from (iv_w h_8 (by decide)))).1 (by have q9 := h18 hk6; have q8 := congrArg Int32.toInt (swt9 hSW ez_1 rfl); have q7 : (wg 18 o.toNatClampNeg).toNatClampNeg = (wg 18 o.toNatClampNeg).toInt.toNat := rfl; have := i32_0; have := i32_1; have := i32_2; have := i32_m1; have := (hsx0_34).1; have := (hsx0_34).2; have := (hsx4_34).1; have := (hsx4_34).2; have := (hsx5_34).1; have := (hsx5_34).2; have := (h_8).1; have := (h_8).2; have := (h_6).1; have := (h_6).2; omega)]; exact hR2)) _ _ _ hP hD hS (lv_sub hl [1, 2, 3, 4, 5, 6, 7] rfl)
        · have h_9 : iv 0 5 x7_34 := iv_ltL (i32_lt c_7) hx7_34 (iv_k (by decide) : iv 6 6 6) (by decide)
          refine ec_aload_n hx hb dX5_tellValue_51 rfl (lv_at hl 1 rfl) ?_
          refine cr_get (t := 6) (j := 2) (C := RX5) (T := TX5) (N := 13) (v := eV (ad 5) 0) hx hb htb inX5 hown hK hP hsx0_34 (by decide) (by decide) (by decide) rfl (by decide) (htb _ kw_123) (cV_c rfl (by decide) (by rw [show cMu 6 2 = 0 from rfl, Nat.zero_mul]; rfl)) dX5_tellValue_52 ?_
          refine lv_bipush (v := 6) hx hb dX5_tellValue_55 (by decide) ?_
          refine lv_iconst (v := (-1)) hx hb dX5_tellValue_57 (by decide) ?_
          refine lv_iload hx hb dX5_tellValue_58 (lv_at hl 0 rfl) ?_
          refine ec_aload_n hx hb dX5_tellValue_60 rfl (lv_at hl 1 rfl) ?_
          refine cr_get (t := 6) (j := 8) (C := RX5) (T := TX5) (N := 13) (v := eV (ad 25) 0) hx hb htb inX5 hown hK hP hsx0_34 (by decide) (by decide) (by decide) rfl (by decide) (htb _ kw_128) (cV_c rfl (by decide) (by rw [show cMu 6 8 = 0 from rfl, Nat.zero_mul]; rfl)) dX5_tellValue_61 ?_
          refine lv_iload hx hb dX5_tellValue_64 (lv_at hl 6 rfl) ?_
          refine lv_iload hx hb dX5_tellValue_66 (lv_at hl 0 rfl) ?_
          refine lv_iadd hx hb dX5_tellValue_68 ?_
          refine lv_topi (fun z_10 ez_10 => ?_)
          have hz_10 : iv 0 959 z_10 := iv_of ez_10 (iv_add hsx5_34 h_9 (by decide))
          have tz_10 : z_10.toInt = (sl : Int32).toInt + (x7_34 : Int32).toInt := by rw [ez_10]; exact iv_addE hsx5_34 h_9 (by decide)
          refine cr_iald (t := 25) (z := (gm_j34 52 (z_10 : Int32).toNatClampNeg)) hx hb hK hP (iv_k (by decide) : iv 0 0 0) (by decide) (by decide) (by decide) rfl rfl (show vp_in z_10 (cLen 25) from (show vp_in z_10 960 from (iv_in hz_10 (by decide)))) rfl dX5_tellValue_69 ?_
          obtain ⟨z_11, ez_11⟩ : ∃ z : Int32, z = (gm_j34 52 (z_10 : Int32).toNatClampNeg) := ⟨_, rfl⟩
          refine W.eq (g2 := F0 m 70 ls [.int z_11, .int x7_34, .int (-1), .int 6, eV (ad 5) 0]) (by rw [ez_11]) ?_
          have ez_11 := ez_11.trans (congrFun (hkg_j34 52 (by decide)) _)
          refine cm_callV (t := 5) (C := RX4) (T := TX4) (N := 2) (rest := []) (as := [.int 6, .int (-1), .int x7_34, .int z_11]) ⟨hx, hb, hml, hown, htb⟩ (d_addEv9 l dC dI ad cid a2 lx sg_j34 gm_j34 lg 0 6 (-1) x7_34 z_11 wg S2 hI_j34 (iv_k (by decide) : iv 0 0 0) hR2) (cwV 4 htb (gd_V kw_1066 kw_1067 kw_1068 kw_36 kw_1581) rfl rfl rfl (by decide +kernel) ⟨Nat.le_of_ble_eq_true rfl, Nat.le_of_ble_eq_true rfl⟩) (iv_k (by decide) : iv 0 0 0) (by decide) (by decide) rfl rfl hl.1 rfl (Nat.le_trans cs_n (by decide)) dX5_tellValue_70 ⟨Nat.le_of_ble_eq_true rfl, Nat.le_of_ble_eq_true rfl⟩ hK hP hD hS hA hG (fun E ce q9 u_13 H locs hw hP hD hS hce hcv hcl => ?_) (fun v9 u_13 H locs hw hP hD hS => ?_)
          · exact hw.elim
          obtain ⟨rfl, sgv_14, gmv_14, lgv_14, rfl, hIv_14, ksv_14, kgv_14, klv_14, fR_r_12⟩ := hw
          obtain rfl := KS_nil klv_14
          have hP : va_P (dC, dI) vwCl (cW ad cid a2 lx sgv_14 gmv_14 lg) H := hP
          have hD : va_D A (cW ad cid a2 lx sgv_14 gmv_14 lg) := hD
          refine W.eq (g2 := F0 m 73 ls []) rfl ?_
          obtain ⟨z_15, ez_15⟩ : ∃ z : Int32, z = x7_34 + 1 := ⟨_, rfl⟩
          have hz_15 : iv 1 6 z_15 := iv_of ez_15 (iv_add h_9 (iv_k (by decide) : iv 1 1 1) (by decide))
          have tz_15 : z_15.toInt = x7_34.toInt + 1 := by rw [ez_15]; exact iv_addE h_9 (iv_k (by decide) : iv 1 1 1) (by decide)
          refine lv_iinc (v := z_15) (lv' := [(7, .int z_15), (0, eV (ad 6) x), (1, .int wh), (2, .int ab), (3, .int sc), (4, eV (ad 9) o), (5, .int sl), (6, .int kd)]) hx hb dX5_tellValue_73 hl (k := 0) rfl ez_15.symm (by decide) rfl (fun ls hl => ?_)
          refine lv_goto (tgt := 34) hx hb dX5_tellValue_76 (by decide) ?_
          exact ih34 _ (by rw [← hn34]; exact (iv_meas tz_15 h_9 (by decide))) sgv_14 gmv_14 z_15 rfl (iv_w hz_15 (by decide)) hsx0_34 hsx4_34 hsx5_34 (KS_tr (L := [13]) (KS_tr (L := [13]) KS_rf hks_j34 (by decide)) ksv_14 (by decide)) (KS_tr (L := [48]) (KS_tr (L := [48]) KS_rf hkg_j34 (by decide)) kgv_14 (by decide)) hIv_14 (hk6) (⟨_, fR_r_12, tlI_st hT2 (h_9).1 (by have q9 := h18 hk6; have q8 := congrArg Int32.toInt (swt9 hSW ez_1 rfl); have q7 : (wg 18 o.toNatClampNeg).toNatClampNeg = (wg 18 o.toNatClampNeg).toInt.toNat := rfl; have := i32_0; have := i32_1; have := i32_2; have := i32_m1; have := (hsx0_34).1; have := (hsx0_34).2; have := (hsx4_34).1; have := (hsx4_34).2; have := (hsx5_34).1; have := (hsx5_34).2; have := (h_9).1; have := (h_9).2; have := (h_6).1; have := (h_6).2; have := (hz_10).1; have := (hz_10).2; have := (hz_15).1; have := (hz_15).2; omega) tz_15 (by decide) (by decide) (by rw [WVL_g hWV (show x7_34.toNatClampNeg < V.length from (by have c1 := cln9 (u := x7_34) (h_9).1; have q9 := h18 hk6; have q8 := congrArg Int32.toInt (swt9 hSW ez_1 rfl); have := i32_0; have := i32_1; have := i32_2; have := i32_m1; have := (hsx0_34).1; have := (hsx0_34).2; have := (hsx4_34).1; have := (hsx4_34).2; have := (hsx5_34).1; have := (hsx5_34).2; have := (h_9).1; have := (h_9).2; have := (h_6).1; have := (h_6).2; have := (hz_10).1; have := (hz_10).2; have := (hz_15).1; have := (hz_15).2; omega)), ez_11, show (z_10 : Int32).toNatClampNeg = sl.toNatClampNeg + x7_34.toNatClampNeg from (by have c1 := cln9 (u := x7_34) (h_9).1; have c2 := cln9 hvsl.1; have c3 : (z_10 : Int32).toNatClampNeg = (z_10 : Int32).toInt.toNat := rfl; have := i32_0; have := i32_1; have := i32_2; have := i32_m1; have := (hsx0_34).1; have := (hsx0_34).2; have := (hsx4_34).1; have := (hsx4_34).2; have := (hsx5_34).1; have := (hsx5_34).2; have := (h_9).1; have := (h_9).2; have := (h_6).1; have := (h_6).2; have := (hz_10).1; have := (hz_10).2; have := (hz_15).1; have := (hz_15).2; omega)])⟩) _ _ _ hP hD hS (lv_sub hl [0, 1, 2, 3, 4, 5, 6, 7] rfl)
  refine ec_aload_n hx hb dX5_tellValue_0 rfl (lv_at hl 0 rfl) ?_
  refine cr_get (t := 6) (j := 2) (C := RX5) (T := TX5) (N := 13) (v := eV (ad 5) 0) hx hb htb inX5 hown hK hP hvx (by decide) (by decide) (by decide) rfl (by decide) (htb _ kw_123) (cV_c rfl (by decide) (by rw [show cMu 6 2 = 0 from rfl, Nat.zero_mul]; rfl)) dX5_tellValue_1 ?_
  refine lv_iload_n hx hb dX5_tellValue_4 rfl (lv_at hl 1 rfl) ?_
  refine lv_iload_n hx hb dX5_tellValue_5 rfl (lv_at hl 2 rfl) ?_
  refine lv_iload_n hx hb dX5_tellValue_6 rfl (lv_at hl 3 rfl) ?_
  refine ec_aload_n hx hb dX5_tellValue_7 rfl (lv_at hl 0 rfl) ?_
  refine ec_aload hx hb dX5_tellValue_8 (lv_at hl 4 rfl) ?_
  refine lv_iload hx hb dX5_tellValue_10 (lv_at hl 5 rfl) ?_
  refine lv_iload hx hb dX5_tellValue_12 (lv_at hl 6 rfl) ?_
  refine cm_callV (t := 6) (C := RX5) (T := TX5) (N := 13) (rest := [.int sc, .int ab, .int wh, eV (ad 5) 0]) (as := [eV (ad 9) o, .int sl, .int kd]) ⟨hx, hb, hml, hown, htb⟩ (d_valueOf9 l dC dI ad cid a2 lx sg gm lg x o sl kd wg S V hI hvx hvo hvsl hSW hRC hk0 hvk hWV) (cwV 3 htb (gd_V kw_1060 kw_1061 kw_1062 kw_40 kw_1579) rfl rfl rfl (by decide +kernel) ⟨Nat.le_of_ble_eq_true rfl, Nat.le_of_ble_eq_true rfl⟩) hvx (by decide) (by decide) rfl rfl hl.1 rfl (Nat.le_trans (cs_c (cat_i _) (cs_c (cat_i _) (cs_c (cat_i _) (cs_c (eV_cat _ _) cs_n)))) (by decide)) dX5_tellValue_14 ⟨Nat.le_of_ble_eq_true rfl, Nat.le_of_ble_eq_true rfl⟩ hK hP hD hS hA hG (fun E ce q9 u_17 H locs hw hP hD hS hce hcv hcl => ?_) (fun v9 u_17 H locs hw hP hD hS => ?_)
  · exact hw.elim
  obtain ⟨r_16, rfl, rfl, fV_r_16⟩ := hw
  have hP : va_P (dC, dI) vwCl (cW ad cid a2 lx sg gm lg) H := hP
  have hD : va_D A (cW ad cid a2 lx sg gm lg) := hD
  refine W.eq (g2 := F0 m 17 ls [.int r_16, .int sc, .int ab, .int wh, eV (ad 5) 0]) rfl ?_
  refine cm_callV (t := 5) (C := RX4) (T := TX4) (N := 2) (rest := []) (as := [.int wh, .int ab, .int sc, .int r_16]) ⟨hx, hb, hml, hown, htb⟩ (d_addEv9 l dC dI ad cid a2 lx sg gm lg 0 wh ab sc r_16 wg S hI (iv_k (by decide) : iv 0 0 0) hRC) (cwV 4 htb (gd_V kw_1066 kw_1067 kw_1068 kw_36 kw_1581) rfl rfl rfl (by decide +kernel) ⟨Nat.le_of_ble_eq_true rfl, Nat.le_of_ble_eq_true rfl⟩) (iv_k (by decide) : iv 0 0 0) (by decide) (by decide) rfl rfl hl.1 rfl (Nat.le_trans cs_n (by decide)) dX5_tellValue_17 ⟨Nat.le_of_ble_eq_true rfl, Nat.le_of_ble_eq_true rfl⟩ hK hP hD hS hA hG (fun E ce q9 u_20 H locs hw hP hD hS hce hcv hcl => ?_) (fun v9 u_20 H locs hw hP hD hS => ?_)
  · exact hw.elim
  obtain ⟨rfl, sgv_21, gmv_21, lgv_21, rfl, hIv_21, ksv_21, kgv_21, klv_21, fR_r_19⟩ := hw
  obtain rfl := KS_nil klv_21
  have hP : va_P (dC, dI) vwCl (cW ad cid a2 lx sgv_21 gmv_21 lg) H := hP
  have hD : va_D A (cW ad cid a2 lx sgv_21 gmv_21 lg) := hD
  refine W.eq (g2 := F0 m 20 ls []) rfl ?_
  refine ec_aload hx hb dX5_tellValue_20 (lv_at hl 4 rfl) ?_
  refine cr_get (t := 9) (j := 18) (C := RX3) (T := TX3) (N := 21) (v := eV (ad 33) (gmv_21 25 o.toNatClampNeg)) hx hb htb inX3 hown hK hP hvo (by decide) (by decide) (by decide) rfl (by decide) (htb _ kw_1041) rfl dX5_tellValue_22 ?_
  obtain ⟨z_22, ez_22⟩ : ∃ z : Int32, z = (gmv_21 25 o.toNatClampNeg) := ⟨_, rfl⟩
  refine W.eq (g2 := F0 m 25 ls [eV (ad 33) z_22]) (by rw [ez_22]) ?_
  have hz_22 : iv (-1) 33 z_22 := iv_of ez_22 (CI_a hIv_21 25 hvo (by decide))
  have ez_22 := ez_22.trans (congrFun (kgv_21 25 (by decide)) _)
  refine cw_word (k := 6) (kx := 6) hx hb hG hS (by decide) rfl ⟨by decide, by decide⟩ hown (htb _ kw_1058) dX5_tellValue_25 ?_
  refine ec_acmp_ne (tgt := 79) hx hb dX5_tellValue_28 (by decide) (fun c_23 => ?_) (fun c_23 => ?_)
  · have wc_23 : ¬ z_22.toInt = (6 : Int) := fun q9 => c_23 (congrArg (er (ad 33)) (Int32.toInt_inj.mp q9))
    exact hj79 sgv_21 gmv_21 hvx hvo hvsl (KS_tr (L := [13]) KS_rf ksv_21 (by decide)) (KS_tr (L := [48]) KS_rf kgv_21 (by decide)) hIv_21 ((by rw [tlV_n (by rw [(swt9 hSW ez_22 rfl)]; exact wc_23), ← fV_r_16]; exact fR_r_19)) _ _ _ hP hD hS (lv_sub hl [0, 1, 2, 3, 4, 5, 6] rfl)
  · have wc_23 : z_22.toInt = (6 : Int) := er_wd hG hz_22 (iv_w (iv_k (by decide) : iv 6 6 6) (by decide)) c_23
    refine lv_iconst (v := 0) hx hb dX5_tellValue_31 (by decide) ?_
    refine lv_istore (i := 7) (lv' := [(7, .int 0), (0, eV (ad 6) x), (1, .int wh), (2, .int ab), (3, .int sc), (4, eV (ad 9) o), (5, .int sl), (6, .int kd)]) hx hb dX5_tellValue_32 hl (by decide) rfl (fun ls hl => ?_)
    exact hj34 _ sgv_21 gmv_21 0 rfl (iv_w (iv_k (by decide) : iv 0 0 0) (by decide)) hvx hvo hvsl (KS_tr (L := [13]) KS_rf ksv_21 (by decide)) (KS_tr (L := [48]) KS_rf kgv_21 (by decide)) hIv_21 ((by rw [(swt9 hSW ez_22 rfl)]; exact wc_23)) (⟨_, fR_r_19, (by rw [tlV_l (by rw [(swt9 hSW ez_22 rfl)]; exact wc_23), ← fV_r_16]; rfl)⟩) _ _ _ hP hD hS (lv_sub hl [0, 1, 2, 3, 4, 5, 6, 7] rfl)
end
section
def f53 (gm : Nat → Nat → Int32) : Nat → Int := fun p => if p < 3 then (gm 53 p).toInt else -1
theorem f53_at {gm : Nat → Nat → Int32} {p : Nat} (h : p < 3) : f53 gm p = (gm 53 p).toInt := if_pos h
theorem f53_u {gm gm2 : Nat → Nat → Int32} {p : Nat} {v : Int32} (h : gm2 53 = upd (gm 53) p v) (hp : p < 3) : f53 gm2 = fu9 (f53 gm) p v.toInt := by
  funext q
  unfold f53 fu9
  by_cases e : q = p
  · subst e; rw [if_pos hp, if_pos rfl, h, upd_at]
  · rw [if_neg e, h]
    show _ = if q < 3 then (gm 53 q).toInt else -1
    by_cases h3 : q < 3
    · rw [if_pos h3, if_pos h3, upd_ne e]
    · rw [if_neg h3, if_neg h3]
theorem f53_0 {gm : Nat → Nat → Int32} (h : ∀ q, q < 3 → gm 53 q = -1) : f53 gm = fun _ => -1 := by
  funext q
  unfold f53
  by_cases h3 : q < 3
  · rw [if_pos h3, h q h3]; decide
  · rw [if_neg h3]
theorem liL_l {wg : Nat → Nat → Int32} {q : Nat} : (liL wg q).length = (wg 41 q).toNatClampNeg := by unfold liL; rw [List.length_map, List.length_range]
theorem liL_g {wg : Nat → Nat → Int32} {q i : Nat} (h : i < (wg 41 q).toNatClampNeg) : (liL wg q)[i]? = some (wg 57 (128 * q + i)).toNatClampNeg := by
  unfold liL
  rw [List.getElem?_map, List.getElem?_range h]; rfl
theorem dro9 {α : Type} {l : List α} {i : Nat} {x : α} (h : l[i]? = some x) : l.drop i = x :: l.drop (i + 1) := by
  have hi : i < l.length := gl9 h
  rw [List.drop_eq_getElem_cons hi]
  rw [List.getElem?_eq_getElem hi] at h
  rw [Option.some.inj h]
theorem atL_l {wg : Nat → Nat → Int32} {b : Nat} : (atL wg b).length = (wg 41 (3 * b)).toNatClampNeg := by unfold atL; rw [List.length_map, liL_l]
theorem atL_d {wg : Nat → Nat → Int32} {b i : Nat} {z : Int32} (h : i < (wg 41 (3 * b)).toNatClampNeg) (hz : z = atF wg (3 * b) i) : (atL wg b).drop i = z.toInt :: (atL wg b).drop (i + 1) := by
  refine dro9 ?_
  unfold atL
  rw [List.getElem?_map, liL_g h, hz]; rfl
theorem atF_w {gm wg : Nat → Nat → Int32} (h : st9 gm = wg) (q : Nat) : atF wg q = atF gm q := by
  funext i
  unfold atF
  rw [sw9 h 23 rfl, sw9 h 57 rfl]
theorem nx9_s {f : Nat → Int} {p : Nat} (h2 : p < 2) (hf : ¬ f p = -1) : nx9 f p = nx9 f (p + 1) := by
  unfold nx9
  by_cases h0 : p = 0
  · subst h0; rw [if_pos rfl, if_neg hf]; rfl
  · have h1 : p = 1 := by omega
    subst h1; rw [if_neg (by omega), if_pos rfl, if_neg hf]; rfl
theorem nx9_e {f : Nat → Int} {p : Nat} (h2 : p ≤ 2) (hf : p = 2 ∨ f p = -1) : nx9 f p = p := by
  unfold nx9
  by_cases h0 : p = 0
  · subst h0; rw [if_pos rfl, if_pos (by rcases hf with h | h; omega; exact h)]
  · by_cases h1 : p = 1
    · subst h1; rw [if_neg (by omega), if_pos rfl, if_pos (by rcases hf with h | h; omega; exact h)]
    · rw [if_neg h0, if_neg h1]
theorem pl2_o {t : Int} {r : List Int} {i p : Nat} {f : Nat → Int} (h : ¬ t = -1) : pl2 (t :: r) i p f = pl2 r (i + 1) p f := by
  show (if t = -1 then _ else _) = _; rw [if_neg h]
theorem pl2_s {t : Int} {r : List Int} {i p : Nat} {f : Nat → Int} (h : t = -1) : pl2 (t :: r) i p f = pl2 r (i + 1) (nx9 f p) (fu9 f (nx9 f p) (i : Int)) := by
  show (if t = -1 then _ else _) = _; rw [if_pos h]
theorem pl1_o {n t : Int} {r : List Int} {i : Nat} {f : Nat → Int} (h : t = -1) : pl1 n (t :: r) i f = pl1 n r (i + 1) f := by
  show (if t = -1 then _ else _) = _; rw [if_pos h]
theorem pl1_s {n t : Int} {r : List Int} {i : Nat} {f : Nat → Int} (h : ¬ t = -1) (hn : t < n) (hf : f t.toNat = -1) : pl1 n (t :: r) i f = pl1 n r (i + 1) (fu9 f t.toNat (i : Int)) := by
  show (if t = -1 then _ else if n ≤ t ∨ ¬ f t.toNat = -1 then none else _) = _; rw [if_neg h, if_neg (by omega)]
theorem pl1_n {n t : Int} {r : List Int} {i : Nat} {f : Nat → Int} (h : ¬ t = -1) (hn : n ≤ t ∨ ¬ f t.toNat = -1) : pl1 n (t :: r) i f = none := by
  show (if t = -1 then _ else if n ≤ t ∨ ¬ f t.toNat = -1 then none else _) = _; rw [if_neg h, if_pos hn]
theorem plA_3 {l : List Int} (h : 3 < l.length) : plA l = none := by unfold plA; rw [if_pos h]
theorem plA_n {l : List Int} (h : l.length ≤ 3) (hn : pl1 (l.length : Int) l 0 (fun _ => -1) = none) : plA l = none := by unfold plA; rw [if_neg (by omega), hn]
theorem plA_s {l : List Int} {f : Nat → Int} (h : l.length ≤ 3) (hn : pl1 (l.length : Int) l 0 (fun _ => -1) = some f) : plA l = some (pl2 l 0 0 f) := by unfold plA; rw [if_neg (by omega), hn]
end
