set_option maxHeartbeats 4000000 in
set_option maxRecDepth 100000 in
theorem d_forgetWiring2 (l : Launch) (dC : Nat → ClassId) (dI : Nat → Nat → Nat) (ad : Nat → Nat → Nat) (cid : Nat → ClassId) (a2 : Nat → Nat) (lx : List Nat) (sg : Nat → Int32) (gm : Nat → Nat → Int32) (lg : Nat → Nat → Int64) (x : Int32) (hI : CI sg gm) (hvx : iv 0 79 x) : CMt dC dI ad cid a2 lx l yX3_forgetWiring wm_X3_forgetWiring ({ frames := 0, cells := 1, slots := 6, locals := 0 }) [eV (ad 9) x] sg gm lg (fun v u => v = none ∧ ∃ (sg2 : Nat → Int32) (gm2 : Nat → Nat → Int32) (lg2 : Nat → Nat → Int64), u = (sg2, gm2, lg2) ∧ CI sg2 gm2 ∧ KS [] sg sg2 ∧ KS [21, 22, 23, 24, 25, 26, 27] gm gm2 ∧ KS [1, 2, 3] lg lg2 ∧ (gm2 27 = upd (gm 27) x.toNatClampNeg (-1)) ∧ (lg2 1 = vp_updL (lg 1) x.toNatClampNeg 0)) (fun _ _ => False) := by
  intro sz
  refine vx_ofW (cc := cX3_forgetWiring) (maxL := 1) (ret := none) (by decide) rfl ?_
  intro p e s m args below meth c s₁ B hml hxt hv
  obtain ⟨rfl, hsz, hP, hK, hD0, hG⟩ := hv
  have hx := B.exec
  have hb := B.bytes
  have hr := B.returns
  have hts := atoms_spec (ws := wm_X3_forgetWiring) B.pre
  have htb := fun (w : Cond) (h : w ∈ tb) => hts w (List.mem_cons_of_mem _ h)
  have hown : s.vm.findClass RX3 = some m.cls := findClass_of_methodNamed B.named
  have hlocks := B.notSynchronized
  subst hsz
  have hD := hD0.self (sz := s.heap.size)
  generalize hAe : va_A (cW ad cid a2 lx sg gm lg) s.heap.size = A at hD hG ⊢
  have hA : ∀ q : Nat, s.heap.size ≤ q → A q := fun q h => by rw [← hAe]; exact Or.inr h
  have hS : va_S A s.heap s.heap [] := va_S.rf
  have hl := lv_entry ([eV (ad 9) x]) (n := 1) (by rw [show (lg_sl ([eV (ad 9) x])).length = 1 from by simp [lg_sl, eV_cat, cat_i, cat_l]]; exact Nat.le_of_ble_eq_true rfl)
  rw [lg_entry_eq]
  generalize (lg_sl ([eV (ad 9) x]) ++ List.replicate (1 - (lg_sl ([eV (ad 9) x])).length) Slot.unset).toArray = ls at hl ⊢
  have hl : lv_has ls 1 [(0, eV (ad 9) x)] := by simp [lv_args, eV_cat, cat_i, cat_l] at hl; exact hl
  refine ec_aload_n hx hb dX3_forgetWiring_0 rfl (lv_at hl 0 rfl) ?_
  refine lv_lconst (v := 0) hx hb dX3_forgetWiring_1 (by decide) ?_
  refine cr_putl (t := 9) (j := 11) (C := RX3) (T := TX3) (N := 21) (ty0 := tyX3) (k := 1) (y := 0) hx hb htb inX3 tyX3_ok nmX3 hown hK hP hD hS hvx (by decide) (by decide) (by decide) rfl rfl rfl (by decide) (htb _ kw_394) rfl (by show Value.long 0 = Value.long (va_up lg 1 (vp_updL (lg 1) x.toNatClampNeg 0) 1 x.toNatClampNeg); rw [va_up_self, pk_uLs]) rfl rfl dX3_forgetWiring_2 (fun lg_1 H locs elg_1 hP hD hS => ?_)
  refine ec_aload_n hx hb dX3_forgetWiring_5 rfl (lv_at hl 0 rfl) ?_
  refine lv_lconst (v := 0) hx hb dX3_forgetWiring_6 (by decide) ?_
  refine cr_putl (t := 9) (j := 12) (C := RX3) (T := TX3) (N := 21) (ty0 := tyX3) (k := 2) (y := 0) hx hb htb inX3 tyX3_ok nmX3 hown hK hP hD hS hvx (by decide) (by decide) (by decide) rfl rfl rfl (by decide) (htb _ kw_395) rfl (by show Value.long 0 = Value.long (va_up lg_1 2 (vp_updL (lg_1 2) x.toNatClampNeg 0) 2 x.toNatClampNeg); rw [va_up_self, pk_uLs]) rfl rfl dX3_forgetWiring_7 (fun lg_2 H locs elg_2 hP hD hS => ?_)
  refine ec_aload_n hx hb dX3_forgetWiring_10 rfl (lv_at hl 0 rfl) ?_
  refine lv_ldc2 (own := RX3) (v := 1099511627776) hx hb hown (htb _ kw_396) dX3_forgetWiring_11 ?_
  refine cr_putl (t := 9) (j := 13) (C := RX3) (T := TX3) (N := 21) (ty0 := tyX3) (k := 3) (y := 1099511627776) hx hb htb inX3 tyX3_ok nmX3 hown hK hP hD hS hvx (by decide) (by decide) (by decide) rfl rfl rfl (by decide) (htb _ kw_397) rfl (by show Value.long 1099511627776 = Value.long (va_up lg_2 3 (vp_updL (lg_2 3) x.toNatClampNeg 1099511627776) 3 x.toNatClampNeg); rw [va_up_self, pk_uLs]) rfl rfl dX3_forgetWiring_14 (fun lg_3 H locs elg_3 hP hD hS => ?_)
  refine ec_aload_n hx hb dX3_forgetWiring_17 rfl (lv_at hl 0 rfl) ?_
  refine lv_iconst (v := (-1)) hx hb dX3_forgetWiring_18 (by decide) ?_
  refine cr_putg (t := 9) (j := 14) (C := RX3) (T := TX3) (N := 21) (ty0 := tyX3) (k := 21) (y := (-1)) hx hb htb inX3 tyX3_ok nmX3 hown hK hP hD hS hvx (by decide) (by decide) (by decide) (by decide) rfl rfl (by decide) (htb _ kw_398) rfl (by show Value.int (-1) = Value.int (va_up gm 21 (upd (gm 21) x.toNatClampNeg (-1)) 21 x.toNatClampNeg); rw [va_up_self, upd_at]) rfl rfl dX3_forgetWiring_19 (fun gm_4 H locs egm_4 hP hD hS => ?_)
  have hI_gm_4 := CI_st hI egm_4 (iv_k (by decide) : iv (-1) (-1) (-1)) (by decide)
  refine ec_aload_n hx hb dX3_forgetWiring_22 rfl (lv_at hl 0 rfl) ?_
  refine lv_iconst (v := (-1)) hx hb dX3_forgetWiring_23 (by decide) ?_
  refine cr_putg (t := 9) (j := 15) (C := RX3) (T := TX3) (N := 21) (ty0 := tyX3) (k := 22) (y := (-1)) hx hb htb inX3 tyX3_ok nmX3 hown hK hP hD hS hvx (by decide) (by decide) (by decide) (by decide) rfl rfl (by decide) (htb _ kw_399) rfl (by show Value.int (-1) = Value.int (va_up gm_4 22 (upd (gm_4 22) x.toNatClampNeg (-1)) 22 x.toNatClampNeg); rw [va_up_self, upd_at]) rfl rfl dX3_forgetWiring_24 (fun gm_5 H locs egm_5 hP hD hS => ?_)
  have hI_gm_5 := CI_st hI_gm_4 egm_5 (iv_k (by decide) : iv (-1) (-1) (-1)) (by decide)
  refine ec_aload_n hx hb dX3_forgetWiring_27 rfl (lv_at hl 0 rfl) ?_
  refine lv_iconst (v := (-1)) hx hb dX3_forgetWiring_28 (by decide) ?_
  refine cr_putg (t := 9) (j := 16) (C := RX3) (T := TX3) (N := 21) (ty0 := tyX3) (k := 23) (y := (-1)) hx hb htb inX3 tyX3_ok nmX3 hown hK hP hD hS hvx (by decide) (by decide) (by decide) (by decide) rfl rfl (by decide) (htb _ kw_400) rfl (by show Value.int (-1) = Value.int (va_up gm_5 23 (upd (gm_5 23) x.toNatClampNeg (-1)) 23 x.toNatClampNeg); rw [va_up_self, upd_at]) rfl rfl dX3_forgetWiring_29 (fun gm_6 H locs egm_6 hP hD hS => ?_)
  have hI_gm_6 := CI_st hI_gm_5 egm_6 (iv_k (by decide) : iv (-1) (-1) (-1)) (by decide)
  refine ec_aload_n hx hb dX3_forgetWiring_32 rfl (lv_at hl 0 rfl) ?_
  refine lv_iconst (v := (-1)) hx hb dX3_forgetWiring_33 (by decide) ?_
  refine cr_putg (t := 9) (j := 17) (C := RX3) (T := TX3) (N := 21) (ty0 := tyX3) (k := 24) (y := (-1)) hx hb htb inX3 tyX3_ok nmX3 hown hK hP hD hS hvx (by decide) (by decide) (by decide) (by decide) rfl rfl (by decide) (htb _ kw_401) rfl (by show Value.int (-1) = Value.int (va_up gm_6 24 (upd (gm_6 24) x.toNatClampNeg (-1)) 24 x.toNatClampNeg); rw [va_up_self, upd_at]) rfl rfl dX3_forgetWiring_34 (fun gm_7 H locs egm_7 hP hD hS => ?_)
  have hI_gm_7 := CI_st hI_gm_6 egm_7 (iv_k (by decide) : iv (-1) (-1) (-1)) (by decide)
  refine ec_aload_n hx hb dX3_forgetWiring_37 rfl (lv_at hl 0 rfl) ?_
  refine ec_null (a := ad 33) hx hb dX3_forgetWiring_38 ?_
  refine cr_putg (t := 9) (j := 18) (C := RX3) (T := TX3) (N := 21) (ty0 := tyX3) (k := 25) (y := (-1)) hx hb htb inX3 tyX3_ok nmX3 hown hK hP hD hS hvx (by decide) (by decide) (by decide) (by decide) rfl rfl (by decide) (htb _ kw_402) rfl (by show eV (ad 33) (-1) = eV (ad 33) (va_up gm_7 25 (upd (gm_7 25) x.toNatClampNeg (-1)) 25 x.toNatClampNeg); rw [va_up_self, upd_at]) (ev_n _) (ev_f _) dX3_forgetWiring_39 (fun gm_8 H locs egm_8 hP hD hS => ?_)
  have hI_gm_8 := CI_st hI_gm_7 egm_8 (iv_k (by decide) : iv (-1) (-1) (-1)) (by decide)
  refine ec_aload_n hx hb dX3_forgetWiring_42 rfl (lv_at hl 0 rfl) ?_
  refine ec_null (a := ad 9) hx hb dX3_forgetWiring_43 ?_
  refine cr_putg (t := 9) (j := 19) (C := RX3) (T := TX3) (N := 21) (ty0 := tyX3) (k := 26) (y := (-1)) hx hb htb inX3 tyX3_ok nmX3 hown hK hP hD hS hvx (by decide) (by decide) (by decide) (by decide) rfl rfl (by decide) (htb _ kw_403) rfl (by show eV (ad 9) (-1) = eV (ad 9) (va_up gm_8 26 (upd (gm_8 26) x.toNatClampNeg (-1)) 26 x.toNatClampNeg); rw [va_up_self, upd_at]) (ev_n _) (ev_f _) dX3_forgetWiring_44 (fun gm_9 H locs egm_9 hP hD hS => ?_)
  have hI_gm_9 := CI_st hI_gm_8 egm_9 (iv_k (by decide) : iv (-1) (-1) (-1)) (by decide)
  refine ec_aload_n hx hb dX3_forgetWiring_47 rfl (lv_at hl 0 rfl) ?_
  refine ec_null (a := ad 10) hx hb dX3_forgetWiring_48 ?_
  refine cr_putg (t := 9) (j := 20) (C := RX3) (T := TX3) (N := 21) (ty0 := tyX3) (k := 27) (y := (-1)) hx hb htb inX3 tyX3_ok nmX3 hown hK hP hD hS hvx (by decide) (by decide) (by decide) (by decide) rfl rfl (by decide) (htb _ kw_404) rfl (by show eV (ad 10) (-1) = eV (ad 10) (va_up gm_9 27 (upd (gm_9 27) x.toNatClampNeg (-1)) 27 x.toNatClampNeg); rw [va_up_self, upd_at]) (ev_n _) (ev_f _) dX3_forgetWiring_49 (fun gm_10 H locs egm_10 hP hD hS => ?_)
  have hI_gm_10 := CI_st hI_gm_9 egm_10 (iv_k (by decide) : iv (-1) (-1) (-1)) (by decide)
  exact W.nb (fun hN => W.widen (k := 1) (n := 6) (by decide) (by decide) (vx_ret (W.vret hx hb hr (fun t ht hW => ⟨⟨none, (sg, gm_10, lg_3), rfl, ⟨rfl, sg, gm_10, lg_3, rfl, hI_gm_10, KS_rf, (KS_up (KS_up (KS_up (KS_up (KS_up (KS_up (KS_up KS_rf egm_4 (by decide)) egm_5 (by decide)) egm_6 (by decide)) egm_7 (by decide)) egm_8 (by decide)) egm_9 (by decide)) egm_10 (by decide)), (KS_up (KS_up (KS_up KS_rf elg_1 (by decide)) elg_2 (by decide)) elg_3 (by decide)), ((show gm_10 27 = upd (gm 27) (x : Int32).toNatClampNeg (-1) from ((up_at egm_10).trans (by rw [show gm_9 27 = gm 27 from ((up_ne egm_9 (by decide)).trans ((up_ne egm_8 (by decide)).trans ((up_ne egm_7 (by decide)).trans ((up_ne egm_6 (by decide)).trans ((up_ne egm_5 (by decide)).trans ((up_ne egm_4 (by decide)).trans rfl))))))])))), ((show lg_3 1 = vp_updL (lg 1) (x : Int32).toNatClampNeg 0 from ((up_ne elg_3 (by decide)).trans ((up_ne elg_2 (by decide)).trans ((up_at elg_1).trans (by rw [show lg 1 = lg 1 from rfl]))))))⟩, by rw [ht]; exact hP, va_K.moved hW.alike hK, hD⟩, hS.F ht, by rw [ht]; exact hN⟩) hS.2.2 dX3_forgetWiring_52)))

set_option maxHeartbeats 4000000 in
set_option maxRecDepth 100000 in
theorem d_beginEl2 (l : Launch) (dC : Nat → ClassId) (dI : Nat → Nat → Nat) (ad : Nat → Nat → Nat) (cid : Nat → ClassId) (a2 : Nat → Nat) (lx : List Nat) (sg : Nat → Int32) (gm : Nat → Nat → Int32) (lg : Nat → Nat → Int64) (x : Int32) (pl : Int32) (ar : Int32) (fa : Int32) (hI : CI sg gm) (hvx : iv 0 79 x) (hvpl : iv 0 1201 pl) (hvar : iv (-1) 79 ar) (hvfa : iv 0 240 fa) : CMt dC dI ad cid a2 lx l yX3_begin wm_X3_begin ({ frames := 1, cells := 1, slots := 6, locals := 20 }) [eV (ad 9) x, .int pl, eV (ad 9) ar, .int fa] sg gm lg (fun v u => v = none ∧ ∃ (sg2 : Nat → Int32) (gm2 : Nat → Nat → Int32) (lg2 : Nat → Nat → Int64), u = (sg2, gm2, lg2) ∧ CI sg2 gm2 ∧ KS [] sg sg2 ∧ KS [11, 12, 13, 14, 15, 16, 17, 18, 19, 20, 21, 22, 23, 24, 25, 26, 27] gm gm2 ∧ KS [1, 2, 3] lg lg2 ∧ (gm2 11 = upd (gm 11) x.toNatClampNeg 0) ∧ (gm2 12 = upd (gm 12) x.toNatClampNeg 0) ∧ (gm2 13 = upd (gm 13) x.toNatClampNeg pl) ∧ (gm2 14 = upd (gm 14) x.toNatClampNeg (-1)) ∧ (gm2 15 = upd (gm 15) x.toNatClampNeg ar) ∧ (gm2 16 = upd (gm 16) x.toNatClampNeg (-1)) ∧ (gm2 17 = upd (gm 17) x.toNatClampNeg (-1)) ∧ (gm2 18 = upd (gm 18) x.toNatClampNeg 0) ∧ (gm2 19 = upd (gm 19) x.toNatClampNeg fa) ∧ (gm2 20 = upd (gm 20) x.toNatClampNeg 0) ∧ (gm2 27 = upd (gm 27) x.toNatClampNeg (-1)) ∧ (lg2 1 = vp_updL (lg 1) x.toNatClampNeg 0)) (fun _ _ => False) := by
  intro sz
  refine vx_ofW (cc := cX3_begin) (maxL := 4) (ret := none) (by decide) rfl ?_
  intro p e s m args below meth c s₁ B hml hxt hv
  obtain ⟨rfl, hsz, hP, hK, hD0, hG⟩ := hv
  have hx := B.exec
  have hb := B.bytes
  have hr := B.returns
  have hts := atoms_spec (ws := wm_X3_begin) B.pre
  have htb := fun (w : Cond) (h : w ∈ tb) => hts w (List.mem_cons_of_mem _ h)
  have hown : s.vm.findClass RX3 = some m.cls := findClass_of_methodNamed B.named
  have hlocks := B.notSynchronized
  subst hsz
  have hD := hD0.self (sz := s.heap.size)
  generalize hAe : va_A (cW ad cid a2 lx sg gm lg) s.heap.size = A at hD hG ⊢
  have hA : ∀ q : Nat, s.heap.size ≤ q → A q := fun q h => by rw [← hAe]; exact Or.inr h
  have hS : va_S A s.heap s.heap [] := va_S.rf
  have hl := lv_entry ([eV (ad 9) x, .int pl, eV (ad 9) ar, .int fa]) (n := 4) (by rw [show (lg_sl ([eV (ad 9) x, .int pl, eV (ad 9) ar, .int fa])).length = 4 from by simp [lg_sl, eV_cat, cat_i, cat_l]]; exact Nat.le_of_ble_eq_true rfl)
  rw [lg_entry_eq]
  generalize (lg_sl ([eV (ad 9) x, .int pl, eV (ad 9) ar, .int fa]) ++ List.replicate (4 - (lg_sl ([eV (ad 9) x, .int pl, eV (ad 9) ar, .int fa])).length) Slot.unset).toArray = ls at hl ⊢
  have hl : lv_has ls 4 [(0, eV (ad 9) x), (1, .int pl), (2, eV (ad 9) ar), (3, .int fa)] := by simp [lv_args, eV_cat, cat_i, cat_l] at hl; exact hl
  refine ec_aload_n hx hb dX3_begin_0 rfl (lv_at hl 0 rfl) ?_
  refine lv_iconst (v := 0) hx hb dX3_begin_1 (by decide) ?_
  refine cr_putg (t := 9) (j := 1) (C := RX3) (T := TX3) (N := 21) (ty0 := tyX3) (k := 11) (y := 0) hx hb htb inX3 tyX3_ok nmX3 hown hK hP hD hS hvx (by decide) (by decide) (by decide) (by decide) rfl rfl (by decide) (htb _ kw_381) rfl (by show Value.int 0 = Value.int (va_up gm 11 (upd (gm 11) x.toNatClampNeg 0) 11 x.toNatClampNeg); rw [va_up_self, upd_at]) rfl rfl dX3_begin_2 (fun gm_1 H locs egm_1 hP hD hS => ?_)
  have hI_gm_1 := CI_st hI egm_1 (iv_k (by decide) : iv 0 0 0) (by decide)
  refine ec_aload_n hx hb dX3_begin_5 rfl (lv_at hl 0 rfl) ?_
  refine lv_iconst (v := 0) hx hb dX3_begin_6 (by decide) ?_
  refine cr_putg (t := 9) (j := 2) (C := RX3) (T := TX3) (N := 21) (ty0 := tyX3) (k := 12) (y := 0) hx hb htb inX3 tyX3_ok nmX3 hown hK hP hD hS hvx (by decide) (by decide) (by decide) (by decide) rfl rfl (by decide) (htb _ kw_382) rfl (by show Value.int 0 = Value.int (va_up gm_1 12 (upd (gm_1 12) x.toNatClampNeg 0) 12 x.toNatClampNeg); rw [va_up_self, upd_at]) rfl rfl dX3_begin_7 (fun gm_2 H locs egm_2 hP hD hS => ?_)
  have hI_gm_2 := CI_st hI_gm_1 egm_2 (iv_k (by decide) : iv 0 0 0) (by decide)
  refine ec_aload_n hx hb dX3_begin_10 rfl (lv_at hl 0 rfl) ?_
  refine lv_iload_n hx hb dX3_begin_11 rfl (lv_at hl 1 rfl) ?_
  refine cr_putg (t := 9) (j := 3) (C := RX3) (T := TX3) (N := 21) (ty0 := tyX3) (k := 13) (y := pl) hx hb htb inX3 tyX3_ok nmX3 hown hK hP hD hS hvx (by decide) (by decide) (by decide) (by decide) rfl rfl (by decide) (htb _ kw_383) rfl (by show Value.int pl = Value.int (va_up gm_2 13 (upd (gm_2 13) x.toNatClampNeg pl) 13 x.toNatClampNeg); rw [va_up_self, upd_at]) rfl rfl dX3_begin_12 (fun gm_3 H locs egm_3 hP hD hS => ?_)
  have hI_gm_3 := CI_st hI_gm_2 egm_3 hvpl (by decide)
  refine ec_aload_n hx hb dX3_begin_15 rfl (lv_at hl 0 rfl) ?_
  refine ec_null (a := ad 33) hx hb dX3_begin_16 ?_
  refine cr_putg (t := 9) (j := 4) (C := RX3) (T := TX3) (N := 21) (ty0 := tyX3) (k := 14) (y := (-1)) hx hb htb inX3 tyX3_ok nmX3 hown hK hP hD hS hvx (by decide) (by decide) (by decide) (by decide) rfl rfl (by decide) (htb _ kw_384) rfl (by show eV (ad 33) (-1) = eV (ad 33) (va_up gm_3 14 (upd (gm_3 14) x.toNatClampNeg (-1)) 14 x.toNatClampNeg); rw [va_up_self, upd_at]) (ev_n _) (ev_f _) dX3_begin_17 (fun gm_4 H locs egm_4 hP hD hS => ?_)
  have hI_gm_4 := CI_st hI_gm_3 egm_4 (iv_k (by decide) : iv (-1) (-1) (-1)) (by decide)
  refine ec_aload_n hx hb dX3_begin_20 rfl (lv_at hl 0 rfl) ?_
  refine ec_aload_n hx hb dX3_begin_21 rfl (lv_at hl 2 rfl) ?_
  refine cr_putg (t := 9) (j := 5) (C := RX3) (T := TX3) (N := 21) (ty0 := tyX3) (k := 15) (y := ar) hx hb htb inX3 tyX3_ok nmX3 hown hK hP hD hS hvx (by decide) (by decide) (by decide) (by decide) rfl rfl (by decide) (htb _ kw_385) rfl (by show eV (ad 9) ar = eV (ad 9) (va_up gm_4 15 (upd (gm_4 15) x.toNatClampNeg ar) 15 x.toNatClampNeg); rw [va_up_self, upd_at]) (ev_n _) (ev_f _) dX3_begin_22 (fun gm_5 H locs egm_5 hP hD hS => ?_)
  have hI_gm_5 := CI_st hI_gm_4 egm_5 hvar (by decide)
  refine ec_aload_n hx hb dX3_begin_25 rfl (lv_at hl 0 rfl) ?_
  refine ec_null (a := ad 9) hx hb dX3_begin_26 ?_
  refine cr_putg (t := 9) (j := 6) (C := RX3) (T := TX3) (N := 21) (ty0 := tyX3) (k := 16) (y := (-1)) hx hb htb inX3 tyX3_ok nmX3 hown hK hP hD hS hvx (by decide) (by decide) (by decide) (by decide) rfl rfl (by decide) (htb _ kw_386) rfl (by show eV (ad 9) (-1) = eV (ad 9) (va_up gm_5 16 (upd (gm_5 16) x.toNatClampNeg (-1)) 16 x.toNatClampNeg); rw [va_up_self, upd_at]) (ev_n _) (ev_f _) dX3_begin_27 (fun gm_6 H locs egm_6 hP hD hS => ?_)
  have hI_gm_6 := CI_st hI_gm_5 egm_6 (iv_k (by decide) : iv (-1) (-1) (-1)) (by decide)
  refine ec_aload_n hx hb dX3_begin_30 rfl (lv_at hl 0 rfl) ?_
  refine ec_null (a := ad 9) hx hb dX3_begin_31 ?_
  refine cr_putg (t := 9) (j := 7) (C := RX3) (T := TX3) (N := 21) (ty0 := tyX3) (k := 17) (y := (-1)) hx hb htb inX3 tyX3_ok nmX3 hown hK hP hD hS hvx (by decide) (by decide) (by decide) (by decide) rfl rfl (by decide) (htb _ kw_387) rfl (by show eV (ad 9) (-1) = eV (ad 9) (va_up gm_6 17 (upd (gm_6 17) x.toNatClampNeg (-1)) 17 x.toNatClampNeg); rw [va_up_self, upd_at]) (ev_n _) (ev_f _) dX3_begin_32 (fun gm_7 H locs egm_7 hP hD hS => ?_)
  have hI_gm_7 := CI_st hI_gm_6 egm_7 (iv_k (by decide) : iv (-1) (-1) (-1)) (by decide)
  refine ec_aload_n hx hb dX3_begin_35 rfl (lv_at hl 0 rfl) ?_
  refine lv_iconst (v := 0) hx hb dX3_begin_36 (by decide) ?_
  refine cr_putg (t := 9) (j := 8) (C := RX3) (T := TX3) (N := 21) (ty0 := tyX3) (k := 18) (y := 0) hx hb htb inX3 tyX3_ok nmX3 hown hK hP hD hS hvx (by decide) (by decide) (by decide) (by decide) rfl rfl (by decide) (htb _ kw_388) rfl (by show Value.int 0 = Value.int (va_up gm_7 18 (upd (gm_7 18) x.toNatClampNeg 0) 18 x.toNatClampNeg); rw [va_up_self, upd_at]) rfl rfl dX3_begin_37 (fun gm_8 H locs egm_8 hP hD hS => ?_)
  have hI_gm_8 := CI_st hI_gm_7 egm_8 (iv_k (by decide) : iv 0 0 0) (by decide)
  refine ec_aload_n hx hb dX3_begin_40 rfl (lv_at hl 0 rfl) ?_
  refine lv_iload_n hx hb dX3_begin_41 rfl (lv_at hl 3 rfl) ?_
  refine cr_putg (t := 9) (j := 9) (C := RX3) (T := TX3) (N := 21) (ty0 := tyX3) (k := 19) (y := fa) hx hb htb inX3 tyX3_ok nmX3 hown hK hP hD hS hvx (by decide) (by decide) (by decide) (by decide) rfl rfl (by decide) (htb _ kw_389) rfl (by show Value.int fa = Value.int (va_up gm_8 19 (upd (gm_8 19) x.toNatClampNeg fa) 19 x.toNatClampNeg); rw [va_up_self, upd_at]) rfl rfl dX3_begin_42 (fun gm_9 H locs egm_9 hP hD hS => ?_)
  have hI_gm_9 := CI_st hI_gm_8 egm_9 hvfa (by decide)
  refine ec_aload_n hx hb dX3_begin_45 rfl (lv_at hl 0 rfl) ?_
  refine lv_iconst (v := 0) hx hb dX3_begin_46 (by decide) ?_
  refine cr_putg (t := 9) (j := 10) (C := RX3) (T := TX3) (N := 21) (ty0 := tyX3) (k := 20) (y := 0) hx hb htb inX3 tyX3_ok nmX3 hown hK hP hD hS hvx (by decide) (by decide) (by decide) (by decide) rfl rfl (by decide) (htb _ kw_390) rfl (by show Value.int 0 = Value.int (va_up gm_9 20 (upd (gm_9 20) x.toNatClampNeg 0) 20 x.toNatClampNeg); rw [va_up_self, upd_at]) rfl rfl dX3_begin_47 (fun gm_10 H locs egm_10 hP hD hS => ?_)
  have hI_gm_10 := CI_st hI_gm_9 egm_10 (iv_k (by decide) : iv 0 0 0) (by decide)
  refine ec_aload_n hx hb dX3_begin_50 rfl (lv_at hl 0 rfl) ?_
  refine cm_callV (t := 9) (C := RX3) (T := TX3) (N := 21) (rest := []) (as := []) ⟨hx, hb, hml, hown, htb⟩ (d_forgetWiring2 l dC dI ad cid a2 lx sg gm_10 lg x hI_gm_10 hvx) (cwV 0 htb (gd_V kw_391 kw_392 kw_393 kw_66 kw_1429) rfl rfl rfl (by decide +kernel) ⟨Nat.le_of_ble_eq_true rfl, Nat.le_of_ble_eq_true rfl⟩) hvx (by decide) (by decide) rfl rfl hl.1 rfl (Nat.le_trans cs_n (by decide)) dX3_begin_51 ⟨Nat.le_of_ble_eq_true rfl, Nat.le_of_ble_eq_true rfl⟩ hK hP hD hS hA hG (fun E ce q9 u_12 H locs hw hP hD hS hce hcv hcl => ?_) (fun v9 u_12 H locs hw hP hD hS => ?_)
  · exact hw.elim
  obtain ⟨rfl, sgv_13, gmv_13, lgv_13, rfl, hIv_13, ksv_13, kgv_13, klv_13, f27_r_11, fl1_r_11⟩ := hw
  obtain rfl := KS_nil ksv_13
  have hP : va_P (dC, dI) vwCl (cW ad cid a2 lx sg gmv_13 lgv_13) H := hP
  have hD : va_D A (cW ad cid a2 lx sg gmv_13 lgv_13) := hD
  refine W.eq (g2 := F0 m 54 ls []) rfl ?_
  exact W.nb (fun hN => W.widen (k := 1) (n := 6) (by decide) (by decide) (vx_ret (W.vret hx hb hr (fun t ht hW => ⟨⟨none, (sg, gmv_13, lgv_13), rfl, ⟨rfl, sg, gmv_13, lgv_13, rfl, hIv_13, KS_rf, (KS_tr (L := [11, 12, 13, 14, 15, 16, 17, 18, 19, 20, 21, 22, 23, 24, 25, 26, 27]) (KS_up (KS_up (KS_up (KS_up (KS_up (KS_up (KS_up (KS_up (KS_up (KS_up KS_rf egm_1 (by decide)) egm_2 (by decide)) egm_3 (by decide)) egm_4 (by decide)) egm_5 (by decide)) egm_6 (by decide)) egm_7 (by decide)) egm_8 (by decide)) egm_9 (by decide)) egm_10 (by decide)) kgv_13 (by decide)), (KS_tr (L := [1, 2, 3]) KS_rf klv_13 (by decide)), ((show gmv_13 11 = upd (gm 11) (x : Int32).toNatClampNeg 0 from ((kgv_13 11 (by decide)).trans ((up_ne egm_10 (by decide)).trans ((up_ne egm_9 (by decide)).trans ((up_ne egm_8 (by decide)).trans ((up_ne egm_7 (by decide)).trans ((up_ne egm_6 (by decide)).trans ((up_ne egm_5 (by decide)).trans ((up_ne egm_4 (by decide)).trans ((up_ne egm_3 (by decide)).trans ((up_ne egm_2 (by decide)).trans ((up_at egm_1).trans (by rw [show gm 11 = gm 11 from rfl])))))))))))))), ((show gmv_13 12 = upd (gm 12) (x : Int32).toNatClampNeg 0 from ((kgv_13 12 (by decide)).trans ((up_ne egm_10 (by decide)).trans ((up_ne egm_9 (by decide)).trans ((up_ne egm_8 (by decide)).trans ((up_ne egm_7 (by decide)).trans ((up_ne egm_6 (by decide)).trans ((up_ne egm_5 (by decide)).trans ((up_ne egm_4 (by decide)).trans ((up_ne egm_3 (by decide)).trans ((up_at egm_2).trans (by rw [show gm_1 12 = gm 12 from ((up_ne egm_1 (by decide)).trans rfl)]))))))))))))), ((show gmv_13 13 = upd (gm 13) (x : Int32).toNatClampNeg pl from ((kgv_13 13 (by decide)).trans ((up_ne egm_10 (by decide)).trans ((up_ne egm_9 (by decide)).trans ((up_ne egm_8 (by decide)).trans ((up_ne egm_7 (by decide)).trans ((up_ne egm_6 (by decide)).trans ((up_ne egm_5 (by decide)).trans ((up_ne egm_4 (by decide)).trans ((up_at egm_3).trans (by rw [show gm_2 13 = gm 13 from ((up_ne egm_2 (by decide)).trans ((up_ne egm_1 (by decide)).trans rfl))])))))))))))), ((show gmv_13 14 = upd (gm 14) (x : Int32).toNatClampNeg (-1) from ((kgv_13 14 (by decide)).trans ((up_ne egm_10 (by decide)).trans ((up_ne egm_9 (by decide)).trans ((up_ne egm_8 (by decide)).trans ((up_ne egm_7 (by decide)).trans ((up_ne egm_6 (by decide)).trans ((up_ne egm_5 (by decide)).trans ((up_at egm_4).trans (by rw [show gm_3 14 = gm 14 from ((up_ne egm_3 (by decide)).trans ((up_ne egm_2 (by decide)).trans ((up_ne egm_1 (by decide)).trans rfl)))]))))))))))), ((show gmv_13 15 = upd (gm 15) (x : Int32).toNatClampNeg ar from ((kgv_13 15 (by decide)).trans ((up_ne egm_10 (by decide)).trans ((up_ne egm_9 (by decide)).trans ((up_ne egm_8 (by decide)).trans ((up_ne egm_7 (by decide)).trans ((up_ne egm_6 (by decide)).trans ((up_at egm_5).trans (by rw [show gm_4 15 = gm 15 from ((up_ne egm_4 (by decide)).trans ((up_ne egm_3 (by decide)).trans ((up_ne egm_2 (by decide)).trans ((up_ne egm_1 (by decide)).trans rfl))))])))))))))), ((show gmv_13 16 = upd (gm 16) (x : Int32).toNatClampNeg (-1) from ((kgv_13 16 (by decide)).trans ((up_ne egm_10 (by decide)).trans ((up_ne egm_9 (by decide)).trans ((up_ne egm_8 (by decide)).trans ((up_ne egm_7 (by decide)).trans ((up_at egm_6).trans (by rw [show gm_5 16 = gm 16 from ((up_ne egm_5 (by decide)).trans ((up_ne egm_4 (by decide)).trans ((up_ne egm_3 (by decide)).trans ((up_ne egm_2 (by decide)).trans ((up_ne egm_1 (by decide)).trans rfl)))))]))))))))), ((show gmv_13 17 = upd (gm 17) (x : Int32).toNatClampNeg (-1) from ((kgv_13 17 (by decide)).trans ((up_ne egm_10 (by decide)).trans ((up_ne egm_9 (by decide)).trans ((up_ne egm_8 (by decide)).trans ((up_at egm_7).trans (by rw [show gm_6 17 = gm 17 from ((up_ne egm_6 (by decide)).trans ((up_ne egm_5 (by decide)).trans ((up_ne egm_4 (by decide)).trans ((up_ne egm_3 (by decide)).trans ((up_ne egm_2 (by decide)).trans ((up_ne egm_1 (by decide)).trans rfl))))))])))))))), ((show gmv_13 18 = upd (gm 18) (x : Int32).toNatClampNeg 0 from ((kgv_13 18 (by decide)).trans ((up_ne egm_10 (by decide)).trans ((up_ne egm_9 (by decide)).trans ((up_at egm_8).trans (by rw [show gm_7 18 = gm 18 from ((up_ne egm_7 (by decide)).trans ((up_ne egm_6 (by decide)).trans ((up_ne egm_5 (by decide)).trans ((up_ne egm_4 (by decide)).trans ((up_ne egm_3 (by decide)).trans ((up_ne egm_2 (by decide)).trans ((up_ne egm_1 (by decide)).trans rfl)))))))]))))))), ((show gmv_13 19 = upd (gm 19) (x : Int32).toNatClampNeg fa from ((kgv_13 19 (by decide)).trans ((up_ne egm_10 (by decide)).trans ((up_at egm_9).trans (by rw [show gm_8 19 = gm 19 from ((up_ne egm_8 (by decide)).trans ((up_ne egm_7 (by decide)).trans ((up_ne egm_6 (by decide)).trans ((up_ne egm_5 (by decide)).trans ((up_ne egm_4 (by decide)).trans ((up_ne egm_3 (by decide)).trans ((up_ne egm_2 (by decide)).trans ((up_ne egm_1 (by decide)).trans rfl))))))))])))))), ((show gmv_13 20 = upd (gm 20) (x : Int32).toNatClampNeg 0 from ((kgv_13 20 (by decide)).trans ((up_at egm_10).trans (by rw [show gm_9 20 = gm 20 from ((up_ne egm_9 (by decide)).trans ((up_ne egm_8 (by decide)).trans ((up_ne egm_7 (by decide)).trans ((up_ne egm_6 (by decide)).trans ((up_ne egm_5 (by decide)).trans ((up_ne egm_4 (by decide)).trans ((up_ne egm_3 (by decide)).trans ((up_ne egm_2 (by decide)).trans ((up_ne egm_1 (by decide)).trans rfl)))))))))]))))), (f27_r_11.trans (by rw [(show gm_10 27 = gm 27 from (Eq.trans (up_ne egm_10 (by decide)) (Eq.trans (up_ne egm_9 (by decide)) (Eq.trans (up_ne egm_8 (by decide)) (Eq.trans (up_ne egm_7 (by decide)) (Eq.trans (up_ne egm_6 (by decide)) (Eq.trans (up_ne egm_5 (by decide)) (Eq.trans (up_ne egm_4 (by decide)) (Eq.trans (up_ne egm_3 (by decide)) (Eq.trans (up_ne egm_2 (by decide)) (up_ne egm_1 (by decide))))))))))))])), (fl1_r_11)⟩, by rw [ht]; exact hP, va_K.moved hW.alike hK, hD⟩, hS.F ht, by rw [ht]; exact hN⟩) hS.2.2 dX3_begin_54)))

set_option maxHeartbeats 4000000 in
set_option maxRecDepth 100000 in
theorem d_addInner2 (l : Launch) (dC : Nat → ClassId) (dI : Nat → Nat → Nat) (ad : Nat → Nat → Nat) (cid : Nat → ClassId) (a2 : Nat → Nat) (lx : List Nat) (sg : Nat → Int32) (gm : Nat → Nat → Int32) (lg : Nat → Nat → Int64) (x : Int32) (nn : Int32) (K9 : Nat) (hI : CI sg gm) (hvx : iv 0 79 x) (hvnn : iv 0 79 nn) (hU12 : UB 12 K9 gm) (hU18 : UB 18 K9 gm) (hK9 : K9 ≤ 1999990) (hLK : LK sg gm) (hxl : x.toInt < (sg 4).toInt) (hNX : ∀ j, j < (sg 4).toNatClampNeg → 0 ≤ (gm 17 j).toInt → (j : Int) < (gm 17 j).toInt) (hN2 : ∀ j : Nat, (j : Int) < nn.toInt → (gm 17 j).toInt < nn.toInt) (hF2 : (gm 16 x.toNatClampNeg).toInt < nn.toInt) : CMt dC dI ad cid a2 lx l yX3_addInner wm_X3_addInner ({ frames := 0, cells := 1, slots := 6, locals := 0 }) [eV (ad 9) x, eV (ad 9) nn] sg gm lg (fun v u => v = none ∧ ∃ (sg2 : Nat → Int32) (gm2 : Nat → Nat → Int32) (lg2 : Nat → Nat → Int64), u = (sg2, gm2, lg2) ∧ CI sg2 gm2 ∧ KS [] sg sg2 ∧ KS [16, 17, 18] gm gm2 ∧ KS [] lg lg2 ∧ (UB 18 (K9 + 1) gm2) ∧ (∀ j, (gm2 16 j = gm 16 j ∨ (gm2 16 j = nn ∧ j = x.toNatClampNeg)) ∧ (gm2 17 j = gm 17 j ∨ (gm2 17 j = nn ∧ gm 15 j = x))) ∧ ((∃ z : Int32, z.toInt = (gm 18 x.toNatClampNeg).toInt + 1 ∧ gm2 18 = upd (gm 18) x.toNatClampNeg z) ∧ (((gm 16 x.toNatClampNeg).toInt = -1 ∧ gm2 16 = upd (gm 16) x.toNatClampNeg nn ∧ gm2 17 = gm 17) ∨ (¬ (gm 16 x.toNatClampNeg).toInt = -1 ∧ gm2 16 = gm 16 ∧ ∃ j : Nat, (j : Int) < nn.toInt ∧ gm 15 j = x ∧ (gm 17 j).toInt = -1 ∧ gm2 17 = upd (gm 17) j nn)))) (fun _ _ => False) := by
  intro sz
  refine vx_ofW (cc := cX3_addInner) (maxL := 4) (ret := none) (by decide) rfl ?_
  intro p e s m args below meth c s₁ B hml hxt hv
  obtain ⟨rfl, hsz, hP, hK, hD0, hG⟩ := hv
  have hx := B.exec
  have hb := B.bytes
  have hr := B.returns
  have hts := atoms_spec (ws := wm_X3_addInner) B.pre
  have htb := fun (w : Cond) (h : w ∈ tb) => hts w (List.mem_cons_of_mem _ h)
  have hown : s.vm.findClass RX3 = some m.cls := findClass_of_methodNamed B.named
  have hlocks := B.notSynchronized
  subst hsz
  have hD := hD0.self (sz := s.heap.size)
  generalize hAe : va_A (cW ad cid a2 lx sg gm lg) s.heap.size = A at hD hG ⊢
  have hA : ∀ q : Nat, s.heap.size ≤ q → A q := fun q h => by rw [← hAe]; exact Or.inr h
  have hS : va_S A s.heap s.heap [] := va_S.rf
  have hl := lv_entry ([eV (ad 9) x, eV (ad 9) nn]) (n := 4) (by rw [show (lg_sl ([eV (ad 9) x, eV (ad 9) nn])).length = 2 from by simp [lg_sl, eV_cat, cat_i, cat_l]]; exact Nat.le_of_ble_eq_true rfl)
  rw [lg_entry_eq]
  generalize (lg_sl ([eV (ad 9) x, eV (ad 9) nn]) ++ List.replicate (4 - (lg_sl ([eV (ad 9) x, eV (ad 9) nn])).length) Slot.unset).toArray = ls at hl ⊢
  have hl : lv_has ls 4 [(0, eV (ad 9) x), (1, eV (ad 9) nn)] := by simp [lv_args, eV_cat, cat_i, cat_l] at hl; exact hl
  have hj54 : ∀ (gm_j54 : Nat → Nat → Int32) (x3_54 : Int32) (x2_54 : Int32) (_ : iv 0 80 x3_54) (_ : iv 0 79 x2_54) (_ : iv 0 79 x) (_ : iv 0 79 nn) (_ : KS [18] gm gm_j54) (_ : CI sg gm_j54) (_ : UB 18 (K9 + 1) gm_j54) (_ : gm 15 x2_54.toNatClampNeg = x ∧ x2_54.toInt < (sg 4).toInt) (_ : ∃ z : Int32, z.toInt = (gm 18 x.toNatClampNeg).toInt + 1 ∧ gm_j54 18 = upd (gm 18) x.toNatClampNeg z) (_ : ¬ (gm 16 x.toNatClampNeg).toInt = -1) (_ : (gm 17 x2_54.toNatClampNeg).toInt = -1) (_ : x2_54.toInt < nn.toInt) (H : Heap) (locs : List Loc) (ls : Array Slot), va_P (dC, dI) vwCl (cW ad cid a2 lx sg gm_j54 lg) H → va_D A (cW ad cid a2 lx sg gm_j54 lg) → va_S A s.heap H locs → lv_has ls 4 [(3, .int x3_54), (2, eV (ad 9) x2_54), (0, eV (ad 9) x), (1, eV (ad 9) nn)] → W p l e (headSpec wm_X3_addInner ({ frames := 0, cells := 1, slots := 6, locals := 0 })).room s m ([eV (ad 9) x, eV (ad 9) nn] : List Value).toArray below meth c H locs 0 0 (vx_MQ below (cQx dC dI ad cid a2 lx (fun v u => v = none ∧ ∃ (sg2 : Nat → Int32) (gm2 : Nat → Nat → Int32) (lg2 : Nat → Nat → Int64), u = (sg2, gm2, lg2) ∧ CI sg2 gm2 ∧ KS [] sg sg2 ∧ KS [16, 17, 18] gm gm2 ∧ KS [] lg lg2 ∧ (UB 18 (K9 + 1) gm2) ∧ (∀ j, (gm2 16 j = gm 16 j ∨ (gm2 16 j = nn ∧ j = x.toNatClampNeg)) ∧ (gm2 17 j = gm 17 j ∨ (gm2 17 j = nn ∧ gm 15 j = x))) ∧ ((∃ z : Int32, z.toInt = (gm 18 x.toNatClampNeg).toInt + 1 ∧ gm2 18 = upd (gm 18) x.toNatClampNeg z) ∧ (((gm 16 x.toNatClampNeg).toInt = -1 ∧ gm2 16 = upd (gm 16) x.toNatClampNeg nn ∧ gm2 17 = gm 17) ∨ (¬ (gm 16 x.toNatClampNeg).toInt = -1 ∧ gm2 16 = gm 16 ∧ ∃ j : Nat, (j : Int) < nn.toInt ∧ gm 15 j = x ∧ (gm 17 j).toInt = -1 ∧ gm2 17 = upd (gm 17) j nn)))) A) (cX dC dI ad cid a2 lx (fun _ _ => False) A) ([eV (ad 9) x, eV (ad 9) nn] : List Value).toArray s 1 6 A) (F0 m 54 ls []) := by
    intro gm_j54 x3_54 x2_54 hx3_54 hx2_54 hsx0_54 hsx1_54 hkg_j54 hI_j54 hU18b hlo u18 u16 ul un H locs ls hP hD hS hl
    refine ec_aload_n hx hb dX3_addInner_54 rfl (lv_at hl 1 rfl) ?_
    refine ec_aload_n hx hb dX3_addInner_55 rfl (lv_at hl 3 rfl) ?_
    refine cr_putg (t := 9) (j := 7) (C := RX3) (T := TX3) (N := 21) (ty0 := tyX3) (k := 17) (y := nn) hx hb htb inX3 tyX3_ok nmX3 hown hK hP hD hS hx2_54 (by decide) (by decide) (by decide) (by decide) rfl rfl (by decide) (htb _ kw_387) rfl (by show eV (ad 9) nn = eV (ad 9) (va_up gm_j54 17 (upd (gm_j54 17) x2_54.toNatClampNeg nn) 17 x2_54.toNatClampNeg); rw [va_up_self, upd_at]) (ev_n _) (ev_f _) dX3_addInner_56 (fun gm_1 H locs egm_1 hP hD hS => ?_)
    have hI_gm_1 := CI_st hI_j54 egm_1 hsx1_54 (by decide)
    exact W.nb (fun hN => W.widen (k := 1) (n := 6) (by decide) (by decide) (vx_ret (W.vret hx hb hr (fun t ht hW => ⟨⟨none, (sg, gm_1, lg), rfl, ⟨rfl, sg, gm_1, lg, rfl, hI_gm_1, KS_rf, (KS_up (KS_tr (L := [16, 17, 18]) KS_rf hkg_j54 (by decide)) egm_1 (by decide)), KS_rf, (UB_k hU18b (show gm_1 18 = gm_j54 18 from (up_ne egm_1 (by decide))) (by omega)), (fun j => ⟨Or.inl (by rw [(Eq.trans (up_ne egm_1 (by decide)) (hkg_j54 16 (by decide)))]), (upd_or2 (show gm_1 17 = upd (gm 17) (x2_54 : Int32).toNatClampNeg nn from ((up_at egm_1).trans (by rw [show gm_j54 17 = gm 17 from ((hkg_j54 17 (by decide)).trans rfl)]))) j).imp id (fun q9 => ⟨q9.1, by rw [q9.2]; exact hlo.1⟩)⟩), ((by obtain ⟨z, hz1, hz2⟩ := u18; exact ⟨⟨z, hz1, (show gm_1 18 = gm_j54 18 from (up_ne egm_1 (by decide))).trans hz2⟩, Or.inr ⟨u16, (Eq.trans (up_ne egm_1 (by decide)) (hkg_j54 16 (by decide))), x2_54.toNatClampNeg, (by have := iv_cl hx2_54 (by decide); have := un; omega), hlo.1, ul, (show gm_1 17 = upd (gm 17) (x2_54 : Int32).toNatClampNeg nn from ((up_at egm_1).trans (by rw [show gm_j54 17 = gm 17 from ((hkg_j54 17 (by decide)).trans rfl)])))⟩⟩))⟩, by rw [ht]; exact hP, va_K.moved hW.alike hK, hD⟩, hS.F ht, by rw [ht]; exact hN⟩) hS.2.2 dX3_addInner_59)))
  have hj30 : ∀ (n : Nat) (gm_j30 : Nat → Nat → Int32) (x3_30 : Int32) (x2_30 : Int32) (_ : (80 - x3_30.toInt).toNat = n) (_ : iv 0 80 x3_30) (_ : iv 0 79 x2_30) (_ : iv 0 79 x) (_ : iv 0 79 nn) (_ : KS [18] gm gm_j30) (_ : CI sg gm_j30) (_ : UB 18 (K9 + 1) gm_j30) (_ : gm 15 x2_30.toNatClampNeg = x ∧ x2_30.toInt < (sg 4).toInt) (_ : ∃ z : Int32, z.toInt = (gm 18 x.toNatClampNeg).toInt + 1 ∧ gm_j30 18 = upd (gm 18) x.toNatClampNeg z) (_ : ¬ (gm 16 x.toNatClampNeg).toInt = -1) (_ : x3_30.toInt ≤ x2_30.toInt) (_ : x2_30.toInt < nn.toInt) (H : Heap) (locs : List Loc) (ls : Array Slot), va_P (dC, dI) vwCl (cW ad cid a2 lx sg gm_j30 lg) H → va_D A (cW ad cid a2 lx sg gm_j30 lg) → va_S A s.heap H locs → lv_has ls 4 [(3, .int x3_30), (2, eV (ad 9) x2_30), (0, eV (ad 9) x), (1, eV (ad 9) nn)] → W p l e (headSpec wm_X3_addInner ({ frames := 0, cells := 1, slots := 6, locals := 0 })).room s m ([eV (ad 9) x, eV (ad 9) nn] : List Value).toArray below meth c H locs 0 0 (vx_MQ below (cQx dC dI ad cid a2 lx (fun v u => v = none ∧ ∃ (sg2 : Nat → Int32) (gm2 : Nat → Nat → Int32) (lg2 : Nat → Nat → Int64), u = (sg2, gm2, lg2) ∧ CI sg2 gm2 ∧ KS [] sg sg2 ∧ KS [16, 17, 18] gm gm2 ∧ KS [] lg lg2 ∧ (UB 18 (K9 + 1) gm2) ∧ (∀ j, (gm2 16 j = gm 16 j ∨ (gm2 16 j = nn ∧ j = x.toNatClampNeg)) ∧ (gm2 17 j = gm 17 j ∨ (gm2 17 j = nn ∧ gm 15 j = x))) ∧ ((∃ z : Int32, z.toInt = (gm 18 x.toNatClampNeg).toInt + 1 ∧ gm2 18 = upd (gm 18) x.toNatClampNeg z) ∧ (((gm 16 x.toNatClampNeg).toInt = -1 ∧ gm2 16 = upd (gm 16) x.toNatClampNeg nn ∧ gm2 17 = gm 17) ∨ (¬ (gm 16 x.toNatClampNeg).toInt = -1 ∧ gm2 16 = gm 16 ∧ ∃ j : Nat, (j : Int) < nn.toInt ∧ gm 15 j = x ∧ (gm 17 j).toInt = -1 ∧ gm2 17 = upd (gm 17) j nn)))) A) (cX dC dI ad cid a2 lx (fun _ _ => False) A) ([eV (ad 9) x, eV (ad 9) nn] : List Value).toArray s 1 6 A) (F0 m 30 ls []) := by
    intro n
    induction n using Nat.strongRecOn with
    | ind n ih30 =>
      intro gm_j30 x3_30 x2_30 hn30 hx3_30 hx2_30 hsx0_30 hsx1_30 hkg_j30 hI_j30 hU18b hlo u18 u16 ust un H locs ls hP hD hS hl
      refine lv_iload_n hx hb dX3_addInner_30 rfl (lv_at hl 0 rfl) ?_
      refine lv_bipush (v := 80) hx hb dX3_addInner_31 (by decide) ?_
      refine lv_icmp_ge (tgt := 54) hx hb dX3_addInner_33 (by decide) (fun c_2 => ?_) (fun c_2 => ?_)
      · have h_3 : iv 80 80 x3_30 := iv_leR c_2 (iv_k (by decide) : iv 80 80 80) hx3_30 (by decide)
        exact hj54 gm_j30 x3_30 x2_30 (iv_w h_3 (by decide)) hx2_30 hsx0_30 hsx1_30 (KS_tr (L := [18]) KS_rf hkg_j30 (by decide)) hI_j30 (hU18b) (hlo) (u18) (u16) (absurd ust (by have := (hx2_30).2; have := i32_0; have := i32_1; have := i32_2; have := i32_m1; have := (hsx0_30).1; have := (hsx0_30).2; have := (hsx1_30).1; have := (hsx1_30).2; have := (h_3).1; have := (h_3).2; have := (hx2_30).1; have := (hx2_30).2; omega)) (un) _ _ _ hP hD hS (lv_sub hl [0, 1, 2, 3] rfl)
      · have h_4 : iv 0 79 x3_30 := iv_ltL (i32_lt c_2) hx3_30 (iv_k (by decide) : iv 80 80 80) (by decide)
        refine ec_aload_n hx hb dX3_addInner_36 rfl (lv_at hl 1 rfl) ?_
        refine cr_get (t := 9) (j := 7) (C := RX3) (T := TX3) (N := 21) (v := eV (ad 9) (gm_j30 17 x2_30.toNatClampNeg)) hx hb htb inX3 hown hK hP hx2_30 (by decide) (by decide) (by decide) rfl (by decide) (htb _ kw_387) rfl dX3_addInner_37 ?_
        obtain ⟨z_5, ez_5⟩ : ∃ z : Int32, z = (gm_j30 17 x2_30.toNatClampNeg) := ⟨_, rfl⟩
        refine W.eq (g2 := F0 m 40 ls [eV (ad 9) z_5]) (by rw [ez_5]) ?_
        have hz_5 : iv (-1) 79 z_5 := iv_of ez_5 (CI_a hI_j30 17 hx2_30 (by decide))
        have ez_5 := ez_5.trans (congrFun (hkg_j30 17 (by decide)) _)
        refine ec_ifnull (tgt := 54) hx hb dX3_addInner_40 (by decide) (fun c_6 => ?_) (fun c_6 => ?_)
        · have h_7 : iv (-1) (-1) z_5 := ⟨(hz_5).1, by omega⟩
          exact hj54 gm_j30 x3_30 x2_30 (iv_w h_4 (by decide)) hx2_30 hsx0_30 hsx1_30 (KS_tr (L := [18]) KS_rf hkg_j30 (by decide)) hI_j30 (hU18b) (hlo) (u18) (u16) ((by have := congrArg Int32.toInt ez_5; have := (show iv (-1) (-1) z_5 from h_7); have := i32_0; have := i32_1; have := i32_2; have := i32_m1; have := (hsx0_30).1; have := (hsx0_30).2; have := (hsx1_30).1; have := (hsx1_30).2; have := (h_4).1; have := (h_4).2; have := (hx2_30).1; have := (hx2_30).2; have := (h_7).1; have := (h_7).2; omega)) (un) _ _ _ hP hD hS (lv_sub hl [0, 1, 2, 3] rfl)
        · have h_8 : iv 0 79 z_5 := ⟨c_6, (hz_5).2⟩
          refine ec_aload_n hx hb dX3_addInner_43 rfl (lv_at hl 1 rfl) ?_
          refine cr_get (t := 9) (j := 7) (C := RX3) (T := TX3) (N := 21) (v := eV (ad 9) (gm_j30 17 x2_30.toNatClampNeg)) hx hb htb inX3 hown hK hP hx2_30 (by decide) (by decide) (by decide) rfl (by decide) (htb _ kw_387) rfl dX3_addInner_44 ?_
          refine W.eq (g2 := F0 m 47 ls [eV (ad 9) z_5]) (by rw [show (gm_j30 17 x2_30.toNatClampNeg) = z_5 from (Eq.trans (congrFun (hkg_j30 17 (by decide)) _) ez_5.symm)]) ?_
          refine ec_astore_n (i := 2) (lv' := [(2, eV (ad 9) z_5), (3, .int x3_30), (0, eV (ad 9) x), (1, eV (ad 9) nn)]) hx hb dX3_addInner_47 rfl hl (by decide) (by simp [List.filter, eV_cat, cat_i, cat_l]) (fun ls hl => ?_)
          obtain ⟨z_9, ez_9⟩ : ∃ z : Int32, z = x3_30 + 1 := ⟨_, rfl⟩
          have hz_9 : iv 1 80 z_9 := iv_of ez_9 (iv_add h_4 (iv_k (by decide) : iv 1 1 1) (by decide))
          have tz_9 : z_9.toInt = x3_30.toInt + 1 := by rw [ez_9]; exact iv_addE h_4 (iv_k (by decide) : iv 1 1 1) (by decide)
          refine lv_iinc (v := z_9) (lv' := [(3, .int z_9), (2, eV (ad 9) z_5), (0, eV (ad 9) x), (1, eV (ad 9) nn)]) hx hb dX3_addInner_48 hl (k := 1) rfl ez_9.symm (by decide) (by simp [List.filter, eV_cat, cat_i, cat_l]) (fun ls hl => ?_)
          refine lv_goto (tgt := 30) hx hb dX3_addInner_51 (by decide) ?_
          exact ih30 _ (by rw [← hn30]; exact (iv_meas tz_9 h_4 (by decide))) gm_j30 z_9 z_5 rfl (iv_w hz_9 (by decide)) h_8 hsx0_30 hsx1_30 (KS_tr (L := [18]) KS_rf hkg_j30 (by decide)) hI_j30 (hU18b) (⟨by rw [ez_5, (hLK _ (lt_cl hx2_30 (show iv 0 80 (sg 4) from CI_s hI 4) (by decide) (by decide) hlo.2)).2.2.2.2 (by rw [← ez_5]; exact (h_8).1)]; exact hlo.1, by rw [ez_5]; exact (hLK _ (lt_cl hx2_30 (show iv 0 80 (sg 4) from CI_s hI 4) (by decide) (by decide) hlo.2)).2.2.1⟩) (u18) (u16) ((by have q1 := (hNX _ (lt_cl hx2_30 (show iv 0 80 (sg 4) from CI_s hI 4) (by decide) (by decide) hlo.2) (by rw [← ez_5]; exact (h_8).1)); rw [← ez_5] at q1; have q2 := iv_cl hx2_30 (by decide); have := tz_9; have := ust; omega)) ((by rw [ez_5]; exact hN2 _ (by have := iv_cl hx2_30 (by decide); have := un; omega))) _ _ _ hP hD hS (lv_sub hl [0, 1, 2, 3] rfl)
  refine ec_aload_n hx hb dX3_addInner_0 rfl (lv_at hl 0 rfl) ?_
  refine lv_dup hx hb dX3_addInner_1 (eV_cat _ _) ?_
  refine cr_get (t := 9) (j := 8) (C := RX3) (T := TX3) (N := 21) (v := .int (gm 18 x.toNatClampNeg)) hx hb htb inX3 hown hK hP hvx (by decide) (by decide) (by decide) rfl (by decide) (htb _ kw_388) rfl dX3_addInner_2 ?_
  obtain ⟨z_10, ez_10⟩ : ∃ z : Int32, z = (gm 18 x.toNatClampNeg) := ⟨_, rfl⟩
  refine W.eq (g2 := F0 m 5 ls [.int z_10, eV (ad 9) x]) (by rw [ez_10]) ?_
  have hz_10 : iv 0 2000000 z_10 := iv_of ez_10 (CI_a hI 18 hvx (by decide))
  have h_11 : iv 0 1999990 z_10 := ⟨(hz_10).1, by have q9 := hU18 x.toNatClampNeg (by have q1 := iv_cl hvx (by decide); have q2 := (hvx).2; omega); rw [ez_10]; omega⟩
  refine lv_iconst (v := 1) hx hb dX3_addInner_5 (by decide) ?_
  refine lv_iadd hx hb dX3_addInner_6 ?_
  refine lv_topi (fun z_12 ez_12 => ?_)
  have hz_12 : iv 1 1999991 z_12 := iv_of ez_12 (iv_add h_11 (iv_k (by decide) : iv 1 1 1) (by decide))
  have tz_12 : z_12.toInt = (z_10 : Int32).toInt + 1 := by rw [ez_12]; exact iv_addE h_11 (iv_k (by decide) : iv 1 1 1) (by decide)
  refine cr_putg (t := 9) (j := 8) (C := RX3) (T := TX3) (N := 21) (ty0 := tyX3) (k := 18) (y := z_12) hx hb htb inX3 tyX3_ok nmX3 hown hK hP hD hS hvx (by decide) (by decide) (by decide) (by decide) rfl rfl (by decide) (htb _ kw_388) rfl (by show Value.int z_12 = Value.int (va_up gm 18 (upd (gm 18) x.toNatClampNeg z_12) 18 x.toNatClampNeg); rw [va_up_self, upd_at]) rfl rfl dX3_addInner_7 (fun gm_13 H locs egm_13 hP hD hS => ?_)
  have hI_gm_13 := CI_st hI egm_13 hz_12 (by decide)
  refine ec_aload_n hx hb dX3_addInner_10 rfl (lv_at hl 0 rfl) ?_
  refine cr_get (t := 9) (j := 6) (C := RX3) (T := TX3) (N := 21) (v := eV (ad 9) (gm_13 16 x.toNatClampNeg)) hx hb htb inX3 hown hK hP hvx (by decide) (by decide) (by decide) rfl (by decide) (htb _ kw_386) rfl dX3_addInner_11 ?_
  obtain ⟨z_14, ez_14⟩ : ∃ z : Int32, z = (gm_13 16 x.toNatClampNeg) := ⟨_, rfl⟩
  refine W.eq (g2 := F0 m 14 ls [eV (ad 9) z_14]) (by rw [ez_14]) ?_
  have hz_14 : iv (-1) 79 z_14 := iv_of ez_14 (CI_a hI_gm_13 16 hvx (by decide))
  have ez_14 := ez_14.trans (congrFun (up_ne egm_13 (by decide)) _)
  refine ec_ifnonnull (tgt := 23) hx hb dX3_addInner_14 (by decide) (fun c_15 => ?_) (fun c_15 => ?_)
  · have h_16 : iv 0 79 z_14 := ⟨c_15, (hz_14).2⟩
    refine ec_aload_n hx hb dX3_addInner_23 rfl (lv_at hl 0 rfl) ?_
    refine cr_get (t := 9) (j := 6) (C := RX3) (T := TX3) (N := 21) (v := eV (ad 9) (gm_13 16 x.toNatClampNeg)) hx hb htb inX3 hown hK hP hvx (by decide) (by decide) (by decide) rfl (by decide) (htb _ kw_386) rfl dX3_addInner_24 ?_
    refine W.eq (g2 := F0 m 27 ls [eV (ad 9) z_14]) (by rw [show (gm_13 16 x.toNatClampNeg) = z_14 from (Eq.trans (congrFun (up_ne egm_13 (by decide)) _) ez_14.symm)]) ?_
    refine ec_astore_n (i := 2) (lv' := [(2, eV (ad 9) z_14), (0, eV (ad 9) x), (1, eV (ad 9) nn)]) hx hb dX3_addInner_27 rfl hl (by decide) (by simp [List.filter, eV_cat, cat_i, cat_l]) (fun ls hl => ?_)
    refine lv_iconst (v := 0) hx hb dX3_addInner_28 (by decide) ?_
    refine lv_istore_n (i := 3) (lv' := [(3, .int 0), (2, eV (ad 9) z_14), (0, eV (ad 9) x), (1, eV (ad 9) nn)]) hx hb dX3_addInner_29 rfl hl (by decide) (by simp [List.filter, eV_cat, cat_i, cat_l]) (fun ls hl => ?_)
    exact hj30 _ gm_13 0 z_14 rfl (iv_w (iv_k (by decide) : iv 0 0 0) (by decide)) h_16 hvx hvnn (KS_up KS_rf egm_13 (by decide)) hI_gm_13 (UB_u hU18 (show gm_13 18 = upd (gm 18) (x : Int32).toNatClampNeg z_12 from ((up_at egm_13).trans (by rw [show gm 18 = gm 18 from rfl]))) (by omega) (by have := tz_12; have q9 := hU18 x.toNatClampNeg (by have q1 := iv_cl hvx (by decide); have q2 := (hvx).2; omega); rw [← ez_10] at q9; omega)) (⟨Int32.toInt_inj.mp (by rw [ez_14, (hLK _ (lt_cl hvx (show iv 0 80 (sg 4) from CI_s hI 4) (by decide) (by decide) hxl)).2.2.2.1 (by rw [← ez_14]; exact (h_16).1)]; exact cl_0 hvx.1), by rw [ez_14]; exact (hLK _ (lt_cl hvx (show iv 0 80 (sg 4) from CI_s hI 4) (by decide) (by decide) hxl)).2.1⟩) (⟨z_12, (by have := tz_12; have := congrArg Int32.toInt ez_10; omega), (show gm_13 18 = upd (gm 18) (x : Int32).toNatClampNeg z_12 from ((up_at egm_13).trans (by rw [show gm 18 = gm 18 from rfl])))⟩) ((by have := congrArg Int32.toInt ez_14; have := i32_0; have := i32_1; have := i32_2; have := i32_m1; have := (hvx).1; have := (hvx).2; have := (hvnn).1; have := (hvnn).2; have := (h_11).1; have := (h_11).2; have := (hz_12).1; have := (hz_12).2; have := (h_16).1; have := (h_16).2; omega)) ((by have := (h_16).1; have := i32_0; omega)) ((by rw [ez_14]; exact hF2)) _ _ _ hP hD hS (lv_sub hl [0, 1, 2, 3] rfl)
  · have h_17 : iv (-1) (-1) z_14 := ⟨(hz_14).1, by omega⟩
    refine ec_aload_n hx hb dX3_addInner_17 rfl (lv_at hl 0 rfl) ?_
    refine ec_aload_n hx hb dX3_addInner_18 rfl (lv_at hl 1 rfl) ?_
    refine cr_putg (t := 9) (j := 6) (C := RX3) (T := TX3) (N := 21) (ty0 := tyX3) (k := 16) (y := nn) hx hb htb inX3 tyX3_ok nmX3 hown hK hP hD hS hvx (by decide) (by decide) (by decide) (by decide) rfl rfl (by decide) (htb _ kw_386) rfl (by show eV (ad 9) nn = eV (ad 9) (va_up gm_13 16 (upd (gm_13 16) x.toNatClampNeg nn) 16 x.toNatClampNeg); rw [va_up_self, upd_at]) (ev_n _) (ev_f _) dX3_addInner_19 (fun gm_18 H locs egm_18 hP hD hS => ?_)
    have hI_gm_18 := CI_st hI_gm_13 egm_18 hvnn (by decide)
    exact W.nb (fun hN => W.widen (k := 1) (n := 6) (by decide) (by decide) (vx_ret (W.vret hx hb hr (fun t ht hW => ⟨⟨none, (sg, gm_18, lg), rfl, ⟨rfl, sg, gm_18, lg, rfl, hI_gm_18, KS_rf, (KS_up (KS_up KS_rf egm_13 (by decide)) egm_18 (by decide)), KS_rf, (UB_u hU18 (show gm_18 18 = upd (gm 18) (x : Int32).toNatClampNeg z_12 from ((up_ne egm_18 (by decide)).trans ((up_at egm_13).trans (by rw [show gm 18 = gm 18 from rfl])))) (by omega) (by have := tz_12; have q9 := hU18 x.toNatClampNeg (by have q1 := iv_cl hvx (by decide); have q2 := (hvx).2; omega); rw [← ez_10] at q9; omega)), (fun j => ⟨upd_or2 (show gm_18 16 = upd (gm 16) (x : Int32).toNatClampNeg nn from ((up_at egm_18).trans (by rw [show gm_13 16 = gm 16 from ((up_ne egm_13 (by decide)).trans rfl)]))) j, Or.inl (by rw [(Eq.trans (up_ne egm_18 (by decide)) (up_ne egm_13 (by decide)))])⟩), (⟨⟨z_12, (by have := tz_12; have := congrArg Int32.toInt ez_10; omega), (show gm_18 18 = upd (gm 18) (x : Int32).toNatClampNeg z_12 from ((up_ne egm_18 (by decide)).trans ((up_at egm_13).trans (by rw [show gm 18 = gm 18 from rfl]))))⟩, Or.inl ⟨(by have := congrArg Int32.toInt ez_14; have := i32_0; have := i32_1; have := i32_2; have := i32_m1; have := (hvx).1; have := (hvx).2; have := (hvnn).1; have := (hvnn).2; have := (h_11).1; have := (h_11).2; have := (hz_12).1; have := (hz_12).2; have := (h_17).1; have := (h_17).2; omega), (show gm_18 16 = upd (gm 16) (x : Int32).toNatClampNeg nn from ((up_at egm_18).trans (by rw [show gm_13 16 = gm 16 from ((up_ne egm_13 (by decide)).trans rfl)]))), (Eq.trans (up_ne egm_18 (by decide)) (up_ne egm_13 (by decide)))⟩⟩)⟩, by rw [ht]; exact hP, va_K.moved hW.alike hK, hD⟩, hS.F ht, by rw [ht]; exact hN⟩) hS.2.2 dX3_addInner_22)))
