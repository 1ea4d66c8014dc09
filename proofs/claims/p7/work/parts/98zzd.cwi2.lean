set_option maxHeartbeats 4000000 in
set_option maxRecDepth 100000 in
theorem d_hasRightParent2 (l : Launch) (dC : Nat → ClassId) (dI : Nat → Nat → Nat) (ad : Nat → Nat → Nat) (cid : Nat → ClassId) (a2 : Nat → Nat) (lx : List Nat) (sg : Nat → Int32) (gm : Nat → Nat → Int32) (lg : Nat → Nat → Int64) (x : Int32) (b : Int32) (hI : CI sg gm) (hvx : iv 0 0 x) (hvb : iv 0 79 b) : CMt dC dI ad cid a2 lx l yX10_hasRightParent wm_X10_hasRightParent ({ frames := 2, cells := 1, slots := 6, locals := 46 }) [eV (ad 4) x, eV (ad 10) b] sg gm lg (fun v u => ∃ r : Int32, v = some (.int r) ∧ u = (sg, gm, lg) ∧ (iv 0 1 r) ∧ ((r.toInt = 1 ∧ (RPW sg lg b)) ∨ (r.toInt = 0 ∧ ¬ (RPW sg lg b)))) (fun _ _ => False) := by
  intro sz
  refine vx_ofW (cc := cX10_hasRightParent) (maxL := 3) (ret := (some .boolean)) (by decide) rfl ?_
  intro p e s m args below meth c s₁ B hml hxt hv
  obtain ⟨rfl, hsz, hP, hK, hD0, hG⟩ := hv
  have hx := B.exec
  have hb := B.bytes
  have hr := B.returns
  have hts := atoms_spec (ws := wm_X10_hasRightParent) B.pre
  have htb := fun (w : Cond) (h : w ∈ tb) => hts w (List.mem_cons_of_mem _ h)
  have hown : s.vm.findClass RX10 = some m.cls := findClass_of_methodNamed B.named
  have hlocks := B.notSynchronized
  subst hsz
  have hD := hD0.self (sz := s.heap.size)
  generalize hAe : va_A (cW ad cid a2 lx sg gm lg) s.heap.size = A at hD hG ⊢
  have hA : ∀ q : Nat, s.heap.size ≤ q → A q := fun q h => by rw [← hAe]; exact Or.inr h
  have hS : va_S A s.heap s.heap [] := va_S.rf
  have hl := lv_entry ([eV (ad 4) x, eV (ad 10) b]) (n := 3) (by rw [show (lg_sl ([eV (ad 4) x, eV (ad 10) b])).length = 2 from by simp [lg_sl, eV_cat, cat_i, cat_l]]; exact Nat.le_of_ble_eq_true rfl)
  rw [lg_entry_eq]
  generalize (lg_sl ([eV (ad 4) x, eV (ad 10) b]) ++ List.replicate (3 - (lg_sl ([eV (ad 4) x, eV (ad 10) b])).length) Slot.unset).toArray = ls at hl ⊢
  have hl : lv_has ls 3 [(0, eV (ad 4) x), (1, eV (ad 10) b)] := by simp [lv_args, eV_cat, cat_i, cat_l] at hl; exact hl
  have hj37 : ∀ (x2_37 : Int32) (y0_37 : Int32) (_ : iv (-1) 79 x2_37) (_ : iv 0 0 x) (_ : iv 0 79 b) (_ : iv 0 1 y0_37) (_ : (y0_37.toInt = 1 ∧ (RPW sg lg b)) ∨ (y0_37.toInt = 0 ∧ ¬ (RPW sg lg b))) (H : Heap) (locs : List Loc) (ls : Array Slot), va_P (dC, dI) vwCl (cW ad cid a2 lx sg gm lg) H → va_D A (cW ad cid a2 lx sg gm lg) → va_S A s.heap H locs → lv_has ls 3 [(2, eV (ad 10) x2_37), (0, eV (ad 4) x), (1, eV (ad 10) b)] → W p l e (headSpec wm_X10_hasRightParent ({ frames := 2, cells := 1, slots := 6, locals := 46 })).room s m ([eV (ad 4) x, eV (ad 10) b] : List Value).toArray below meth c H locs 0 0 (vx_MQ below (cQx dC dI ad cid a2 lx (fun v u => ∃ r : Int32, v = some (.int r) ∧ u = (sg, gm, lg) ∧ (iv 0 1 r) ∧ ((r.toInt = 1 ∧ (RPW sg lg b)) ∨ (r.toInt = 0 ∧ ¬ (RPW sg lg b)))) A) (cX dC dI ad cid a2 lx (fun _ _ => False) A) ([eV (ad 4) x, eV (ad 10) b] : List Value).toArray s 1 6 A) (F0 m 37 ls [.int y0_37]) := by
    intro x2_37 y0_37 hx2_37 hsx0_37 hsx1_37 hy0_37 u37 H locs ls hP hD hS hl
    exact W.nb (fun hN => W.widen (k := 1) (n := 6) (by decide) (by decide) (vx_ret (W.zret (v := y0_37) hx hb hr (iv_nb hy0_37) (fun t ht hW => ⟨⟨some (.int y0_37), (sg, gm, lg), rfl, ⟨y0_37, rfl, rfl, hy0_37, (u37)⟩, by rw [ht]; exact hP, va_K.moved hW.alike hK, hD⟩, hS.F ht, by rw [ht]; exact hN⟩) hS.2.2 dX10_hasRightParent_37)))
  have hj36 : ∀ (x2_36 : Int32) (_ : iv (-1) 79 x2_36) (_ : iv 0 0 x) (_ : iv 0 79 b) (_ : ¬ RPW sg lg b) (H : Heap) (locs : List Loc) (ls : Array Slot), va_P (dC, dI) vwCl (cW ad cid a2 lx sg gm lg) H → va_D A (cW ad cid a2 lx sg gm lg) → va_S A s.heap H locs → lv_has ls 3 [(2, eV (ad 10) x2_36), (0, eV (ad 4) x), (1, eV (ad 10) b)] → W p l e (headSpec wm_X10_hasRightParent ({ frames := 2, cells := 1, slots := 6, locals := 46 })).room s m ([eV (ad 4) x, eV (ad 10) b] : List Value).toArray below meth c H locs 0 0 (vx_MQ below (cQx dC dI ad cid a2 lx (fun v u => ∃ r : Int32, v = some (.int r) ∧ u = (sg, gm, lg) ∧ (iv 0 1 r) ∧ ((r.toInt = 1 ∧ (RPW sg lg b)) ∨ (r.toInt = 0 ∧ ¬ (RPW sg lg b)))) A) (cX dC dI ad cid a2 lx (fun _ _ => False) A) ([eV (ad 4) x, eV (ad 10) b] : List Value).toArray s 1 6 A) (F0 m 36 ls []) := by
    intro x2_36 hx2_36 hsx0_36 hsx1_36 u36 H locs ls hP hD hS hl
    refine lv_iconst (v := 0) hx hb dX10_hasRightParent_36 (by decide) ?_
    exact hj37 x2_36 0 hx2_36 hsx0_36 hsx1_36 (iv_w (iv_k (by decide) : iv 0 0 0) (by decide)) (Or.inr ⟨rfl, u36⟩) _ _ _ hP hD hS (lv_sub hl [0, 1, 2] rfl)
  refine ec_aload_n hx hb dX10_hasRightParent_0 rfl (lv_at hl 1 rfl) ?_
  refine cr_get (t := 10) (j := 6) (C := RX1) (T := TX1) (N := 19) (v := .long (lg 5 b.toNatClampNeg)) hx hb htb inX1 hown hK hP hvb (by decide) (by decide) (by decide) rfl (by decide) (htb _ kw_715) rfl dX10_hasRightParent_1 ?_
  refine lv_topl (fun z_1 ez_1 => ?_)
  refine lv_lconst (v := 0) hx hb dX10_hasRightParent_4 (by decide) ?_
  refine W.lcmp hx hb dX10_hasRightParent_5 ?_
  refine lv_topi (fun z_2 ez_2 => ?_)
  have hz_2 : iv (-1) 1 z_2 := iv_of ez_2 (iv_cmp _ _)
  refine lv_if_ne (tgt := 11) hx hb dX10_hasRightParent_6 (by decide) (fun c_3 => ?_) (fun c_3 => ?_)
  · have d_4 : ¬ (z_2 : Int32).toInt = 0 := lv_neT c_3 rfl
    refine ec_aload_n hx hb dX10_hasRightParent_11 rfl (lv_at hl 0 rfl) ?_
    refine ec_aload_n hx hb dX10_hasRightParent_12 rfl (lv_at hl 1 rfl) ?_
    refine cr_get (t := 10) (j := 6) (C := RX1) (T := TX1) (N := 19) (v := .long (lg 5 b.toNatClampNeg)) hx hb htb inX1 hown hK hP hvb (by decide) (by decide) (by decide) rfl (by decide) (htb _ kw_715) rfl dX10_hasRightParent_13 ?_
    refine lv_topl (fun z_5 ez_5 => ?_)
    refine cm_callV (t := 4) (C := RX10) (T := TX10) (N := 4) (rest := []) (as := [.long z_5]) ⟨hx, hb, hml, hown, htb⟩ (d_withId2 l dC dI ad cid a2 lx sg gm lg x z_5 hI hvx) (cwV 1 htb (gd_V kw_716 kw_717 kw_718 kw_32 kw_1495) rfl rfl rfl (by decide +kernel) ⟨Nat.le_of_ble_eq_true rfl, Nat.le_of_ble_eq_true rfl⟩) hvx (by decide) (by decide) rfl rfl hl.1 rfl (Nat.le_trans cs_n (by decide)) dX10_hasRightParent_16 ⟨Nat.le_of_ble_eq_true rfl, Nat.le_of_ble_eq_true rfl⟩ hK hP hD hS hA hG (fun E ce q9 u_7 H locs hw hP hD hS hce hcv hcl => ?_) (fun v9 u_7 H locs hw hP hD hS => ?_)
    · exact hw.elim
    obtain ⟨r_6, rfl, rfl, hr_6, fI_r_6, fD_r_6⟩ := hw
    have hP : va_P (dC, dI) vwCl (cW ad cid a2 lx sg gm lg) H := hP
    have hD : va_D A (cW ad cid a2 lx sg gm lg) := hD
    refine W.eq (g2 := F0 m 19 ls [eV (ad 10) r_6]) rfl ?_
    refine ec_astore_n (i := 2) (lv' := [(2, eV (ad 10) r_6), (0, eV (ad 4) x), (1, eV (ad 10) b)]) hx hb dX10_hasRightParent_19 rfl hl (by decide) (by simp [List.filter, eV_cat, cat_i, cat_l]) (fun ls hl => ?_)
    refine ec_aload_n hx hb dX10_hasRightParent_20 rfl (lv_at hl 0 rfl) ?_
    refine ec_ifnull (tgt := 36) hx hb dX10_hasRightParent_21 (by decide) (fun c_9 => ?_) (fun c_9 => ?_)
    · have h_10 : iv (-1) (-1) r_6 := ⟨(hr_6).1, by omega⟩
      exact hj36 r_6 (iv_w h_10 (by decide)) hvx hvb ((fun q9 => q9.elim (fun q8 => c_3 (by rw [ez_2, ez_1]; exact (lg_cmp_eq _ _).mpr q8)) (fun q8 => q8.1 (by rw [← (fD_r_6.trans (by rw [ez_5]; rfl) : r_6 = cPar sg lg b)]; exact Int32.toInt_inj.mp (show r_6.toInt = (-1 : Int32).toInt from (by have : (-1 : Int32).toInt = -1 := (by decide); have := i32_0; have := i32_1; have := i32_2; have := i32_m1; have := (hvx).1; have := (hvx).2; have := (hvb).1; have := (hvb).2; have := (hz_2).1; have := (hz_2).2; have := (h_10).1; have := (h_10).2; omega)))))) _ _ _ hP hD hS (lv_sub hl [0, 1, 2] rfl)
    · have h_11 : iv 0 79 r_6 := ⟨c_9, (hr_6).2⟩
      refine ec_aload_n hx hb dX10_hasRightParent_24 rfl (lv_at hl 1 rfl) ?_
      refine ec_aload_n hx hb dX10_hasRightParent_25 rfl (lv_at hl 0 rfl) ?_
      refine cm_callV (t := 4) (C := RX10) (T := TX10) (N := 4) (rest := []) (as := [eV (ad 10) r_6]) ⟨hx, hb, hml, hown, htb⟩ (d_comesToItself2 l dC dI ad cid a2 lx sg gm lg x r_6 hI hvx h_11) (cwV 1 htb (gd_V kw_720 kw_721 kw_722 kw_32 kw_1496) rfl rfl rfl (by decide +kernel) ⟨Nat.le_of_ble_eq_true rfl, Nat.le_of_ble_eq_true rfl⟩) hvx (by decide) (by decide) rfl rfl hl.1 rfl (Nat.le_trans cs_n (by decide)) dX10_hasRightParent_26 ⟨Nat.le_of_ble_eq_true rfl, Nat.le_of_ble_eq_true rfl⟩ hK hP hD hS hA hG (fun E ce q9 u_13 H locs hw hP hD hS hce hcv hcl => ?_) (fun v9 u_13 H locs hw hP hD hS => ?_)
      · exact hw.elim
      obtain ⟨r_12, rfl, rfl, hr_12, fC_r_12⟩ := hw
      have hP : va_P (dC, dI) vwCl (cW ad cid a2 lx sg gm lg) H := hP
      have hD : va_D A (cW ad cid a2 lx sg gm lg) := hD
      refine W.eq (g2 := F0 m 29 ls [.int r_12]) rfl ?_
      refine lv_if_ne (tgt := 36) hx hb dX10_hasRightParent_29 (by decide) (fun c_15 => ?_) (fun c_15 => ?_)
      · have h_16 : iv 1 1 r_12 := iv_neL c_15 hr_12 (by decide)
        exact hj36 r_6 (iv_w h_11 (by decide)) hvx hvb ((fun q9 => q9.elim (fun q8 => c_3 (by rw [ez_2, ez_1]; exact (lg_cmp_eq _ _).mpr q8)) (fun q8 => (fC_r_12.resolve_right (fun q7 => absurd q7.1 (by have := i32_0; have := i32_1; have := i32_2; have := i32_m1; have := (hvx).1; have := (hvx).2; have := (hvb).1; have := (hvb).2; have := (hz_2).1; have := (hz_2).2; have := (h_11).1; have := (h_11).2; have := (h_16).1; have := (h_16).2; omega))).2 (by rw [(fD_r_6.trans (by rw [ez_5]; rfl) : r_6 = cPar sg lg b)]; exact q8.2)))) _ _ _ hP hD hS (lv_sub hl [0, 1, 2] rfl)
      · have h_17 : iv 0 0 r_12 := iv_eq c_15 hr_12 (iv_k (by decide) : iv 0 0 0) (by decide)
        refine lv_iconst (v := 1) hx hb dX10_hasRightParent_32 (by decide) ?_
        refine lv_goto (tgt := 37) hx hb dX10_hasRightParent_33 (by decide) ?_
        exact hj37 r_6 1 (iv_w h_11 (by decide)) hvx hvb (iv_w (iv_k (by decide) : iv 1 1 1) (by decide)) (Or.inl ⟨rfl, Or.inr ⟨(fun q8 => by have q7 := congrArg Int32.toInt (Eq.trans (fD_r_6.trans (by rw [ez_5]; rfl) : r_6 = cPar sg lg b) q8); have : (-1 : Int32).toInt = -1 := (by decide); have := i32_0; have := i32_1; have := i32_2; have := i32_m1; have := (hvx).1; have := (hvx).2; have := (hvb).1; have := (hvb).2; have := (hz_2).1; have := (hz_2).2; have := (h_11).1; have := (h_11).2; have := (h_17).1; have := (h_17).2; omega), (by rw [← (fD_r_6.trans (by rw [ez_5]; rfl) : r_6 = cPar sg lg b)]; exact (fC_r_12.resolve_left (fun q7 => absurd q7.1 (by have := i32_0; have := i32_1; have := i32_2; have := i32_m1; have := (hvx).1; have := (hvx).2; have := (hvb).1; have := (hvb).2; have := (hz_2).1; have := (hz_2).2; have := (h_11).1; have := (h_11).2; have := (h_17).1; have := (h_17).2; omega))).2)⟩⟩) _ _ _ hP hD hS (lv_sub hl [0, 1, 2] rfl)
  · have h_18 : iv 0 0 z_2 := iv_eq c_3 hz_2 (iv_k (by decide) : iv 0 0 0) (by decide)
    refine lv_iconst (v := 1) hx hb dX10_hasRightParent_9 (by decide) ?_
    exact W.nb (fun hN => W.widen (k := 1) (n := 6) (by decide) (by decide) (vx_ret (W.zret (v := 1) hx hb hr (iv_nb (iv_w (iv_k (by decide) : iv 1 1 1) (by decide))) (fun t ht hW => ⟨⟨some (.int 1), (sg, gm, lg), rfl, ⟨1, rfl, rfl, (iv_w (iv_k (by decide) : iv 1 1 1) (by decide)), (Or.inl ⟨rfl, Or.inl (by have q8 := c_3; rw [ez_2, ez_1] at q8; exact (lg_cmp_eq _ _).mp q8)⟩)⟩, by rw [ht]; exact hP, va_K.moved hW.alike hK, hD⟩, hS.F ht, by rw [ht]; exact hN⟩) hS.2.2 dX10_hasRightParent_10)))

set_option maxHeartbeats 4000000 in
set_option maxRecDepth 100000 in
theorem d_isRightW2 (l : Launch) (dC : Nat → ClassId) (dI : Nat → Nat → Nat) (ad : Nat → Nat → Nat) (cid : Nat → ClassId) (a2 : Nat → Nat) (lx : List Nat) (sg : Nat → Int32) (gm : Nat → Nat → Int32) (lg : Nat → Nat → Int64) (x : Int32) (i : Int32) (hI : CI sg gm) (hvx : iv 0 0 x) (hvi : iv 0 79 i) : CMt dC dI ad cid a2 lx l yX10_isRight wm_X10_isRight ({ frames := 3, cells := 1, slots := 6, locals := 68 }) [eV (ad 4) x, .int i] sg gm lg (fun v u => ∃ r : Int32, v = some (.int r) ∧ u = (sg, gm, lg) ∧ (iv 0 1 r) ∧ ((r.toInt = 1 ∧ (IRW sg gm lg i.toNatClampNeg)) ∨ (r.toInt = 0 ∧ ¬ (IRW sg gm lg i.toNatClampNeg)))) (fun _ _ => False) := by
  intro sz
  refine vx_ofW (cc := cX10_isRight) (maxL := 4) (ret := (some .boolean)) (by decide) rfl ?_
  intro p e s m args below meth c s₁ B hml hxt hv
  obtain ⟨rfl, hsz, hP, hK, hD0, hG⟩ := hv
  have hx := B.exec
  have hb := B.bytes
  have hr := B.returns
  have hts := atoms_spec (ws := wm_X10_isRight) B.pre
  have htb := fun (w : Cond) (h : w ∈ tb) => hts w (List.mem_cons_of_mem _ h)
  have hown : s.vm.findClass RX10 = some m.cls := findClass_of_methodNamed B.named
  have hlocks := B.notSynchronized
  subst hsz
  have hD := hD0.self (sz := s.heap.size)
  generalize hAe : va_A (cW ad cid a2 lx sg gm lg) s.heap.size = A at hD hG ⊢
  have hA : ∀ q : Nat, s.heap.size ≤ q → A q := fun q h => by rw [← hAe]; exact Or.inr h
  have hS : va_S A s.heap s.heap [] := va_S.rf
  have hl := lv_entry ([eV (ad 4) x, .int i]) (n := 4) (by rw [show (lg_sl ([eV (ad 4) x, .int i])).length = 2 from by simp [lg_sl, eV_cat, cat_i, cat_l]]; exact Nat.le_of_ble_eq_true rfl)
  rw [lg_entry_eq]
  generalize (lg_sl ([eV (ad 4) x, .int i]) ++ List.replicate (4 - (lg_sl ([eV (ad 4) x, .int i])).length) Slot.unset).toArray = ls at hl ⊢
  have hl : lv_has ls 4 [(0, eV (ad 4) x), (1, .int i)] := by simp [lv_args, eV_cat, cat_i, cat_l] at hl; exact hl
  have hj75 : ∀ (x2_75 : Int32) (y0_75 : Int32) (_ : iv 0 79 x2_75) (_ : iv 0 0 x) (_ : iv 0 79 i) (_ : iv 0 1 y0_75) (_ : (y0_75.toInt = 1 ∧ (IRW sg gm lg i.toNatClampNeg)) ∨ (y0_75.toInt = 0 ∧ ¬ (IRW sg gm lg i.toNatClampNeg))) (H : Heap) (locs : List Loc) (ls : Array Slot), va_P (dC, dI) vwCl (cW ad cid a2 lx sg gm lg) H → va_D A (cW ad cid a2 lx sg gm lg) → va_S A s.heap H locs → lv_has ls 4 [(2, eV (ad 9) x2_75), (0, eV (ad 4) x), (1, .int i)] → W p l e (headSpec wm_X10_isRight ({ frames := 3, cells := 1, slots := 6, locals := 68 })).room s m ([eV (ad 4) x, .int i] : List Value).toArray below meth c H locs 0 0 (vx_MQ below (cQx dC dI ad cid a2 lx (fun v u => ∃ r : Int32, v = some (.int r) ∧ u = (sg, gm, lg) ∧ (iv 0 1 r) ∧ ((r.toInt = 1 ∧ (IRW sg gm lg i.toNatClampNeg)) ∨ (r.toInt = 0 ∧ ¬ (IRW sg gm lg i.toNatClampNeg)))) A) (cX dC dI ad cid a2 lx (fun _ _ => False) A) ([eV (ad 4) x, .int i] : List Value).toArray s 1 6 A) (F0 m 75 ls [.int y0_75]) := by
    intro x2_75 y0_75 hx2_75 hsx0_75 hsx1_75 hy0_75 u75 H locs ls hP hD hS hl
    exact W.nb (fun hN => W.widen (k := 1) (n := 6) (by decide) (by decide) (vx_ret (W.zret (v := y0_75) hx hb hr (iv_nb hy0_75) (fun t ht hW => ⟨⟨some (.int y0_75), (sg, gm, lg), rfl, ⟨y0_75, rfl, rfl, hy0_75, (u75)⟩, by rw [ht]; exact hP, va_K.moved hW.alike hK, hD⟩, hS.F ht, by rw [ht]; exact hN⟩) hS.2.2 dX10_isRight_75)))
  have hj70 : ∀ (x2_70 : Int32) (_ : iv 0 79 x2_70) (_ : iv 0 0 x) (_ : iv 0 79 i) (_ : IRW sg gm lg i.toNatClampNeg) (H : Heap) (locs : List Loc) (ls : Array Slot), va_P (dC, dI) vwCl (cW ad cid a2 lx sg gm lg) H → va_D A (cW ad cid a2 lx sg gm lg) → va_S A s.heap H locs → lv_has ls 4 [(2, eV (ad 9) x2_70), (0, eV (ad 4) x), (1, .int i)] → W p l e (headSpec wm_X10_isRight ({ frames := 3, cells := 1, slots := 6, locals := 68 })).room s m ([eV (ad 4) x, .int i] : List Value).toArray below meth c H locs 0 0 (vx_MQ below (cQx dC dI ad cid a2 lx (fun v u => ∃ r : Int32, v = some (.int r) ∧ u = (sg, gm, lg) ∧ (iv 0 1 r) ∧ ((r.toInt = 1 ∧ (IRW sg gm lg i.toNatClampNeg)) ∨ (r.toInt = 0 ∧ ¬ (IRW sg gm lg i.toNatClampNeg)))) A) (cX dC dI ad cid a2 lx (fun _ _ => False) A) ([eV (ad 4) x, .int i] : List Value).toArray s 1 6 A) (F0 m 70 ls []) := by
    intro x2_70 hx2_70 hsx0_70 hsx1_70 u70 H locs ls hP hD hS hl
    refine lv_iconst (v := 1) hx hb dX10_isRight_70 (by decide) ?_
    refine lv_goto (tgt := 75) hx hb dX10_isRight_71 (by decide) ?_
    exact hj75 x2_70 1 hx2_70 hsx0_70 hsx1_70 (iv_w (iv_k (by decide) : iv 1 1 1) (by decide)) (Or.inl ⟨rfl, u70⟩) _ _ _ hP hD hS (lv_sub hl [0, 1, 2] rfl)
  have hj52 : ∀ (x2_52 : Int32) (_ : iv 0 79 x2_52) (_ : iv 0 0 x) (_ : iv 0 79 i) (_ : x2_52 = i) (_ : ¬ lg 1 i.toNatClampNeg = 0 → ∀ k, k < i.toNatClampNeg → ¬ lg 1 k = lg 1 i.toNatClampNeg) (H : Heap) (locs : List Loc) (ls : Array Slot), va_P (dC, dI) vwCl (cW ad cid a2 lx sg gm lg) H → va_D A (cW ad cid a2 lx sg gm lg) → va_S A s.heap H locs → lv_has ls 4 [(2, eV (ad 9) x2_52), (0, eV (ad 4) x), (1, .int i)] → W p l e (headSpec wm_X10_isRight ({ frames := 3, cells := 1, slots := 6, locals := 68 })).room s m ([eV (ad 4) x, .int i] : List Value).toArray below meth c H locs 0 0 (vx_MQ below (cQx dC dI ad cid a2 lx (fun v u => ∃ r : Int32, v = some (.int r) ∧ u = (sg, gm, lg) ∧ (iv 0 1 r) ∧ ((r.toInt = 1 ∧ (IRW sg gm lg i.toNatClampNeg)) ∨ (r.toInt = 0 ∧ ¬ (IRW sg gm lg i.toNatClampNeg)))) A) (cX dC dI ad cid a2 lx (fun _ _ => False) A) ([eV (ad 4) x, .int i] : List Value).toArray s 1 6 A) (F0 m 52 ls []) := by
    intro x2_52 hx2_52 hsx0_52 hsx1_52 h2i u52 H locs ls hP hD hS hl
    refine ec_aload_n hx hb dX10_isRight_52 rfl (lv_at hl 0 rfl) ?_
    refine cr_get (t := 9) (j := 20) (C := RX3) (T := TX3) (N := 21) (v := eV (ad 10) (gm 27 x2_52.toNatClampNeg)) hx hb htb inX3 hown hK hP hx2_52 (by decide) (by decide) (by decide) rfl (by decide) (htb _ kw_638) rfl dX10_isRight_53 ?_
    obtain ⟨z_1, ez_1⟩ : ∃ z : Int32, z = (gm 27 x2_52.toNatClampNeg) := ⟨_, rfl⟩
    refine W.eq (g2 := F0 m 56 ls [eV (ad 10) z_1]) (by rw [ez_1]) ?_
    have hz_1 : iv (-1) 79 z_1 := iv_of ez_1 (CI_a hI 27 hx2_52 (by decide))
    refine ec_ifnull (tgt := 70) hx hb dX10_isRight_56 (by decide) (fun c_2 => ?_) (fun c_2 => ?_)
    · have h_3 : iv (-1) (-1) z_1 := ⟨(hz_1).1, by omega⟩
      exact hj70 x2_52 hx2_52 hsx0_52 hsx1_52 (⟨u52, Or.inl (by rw [← (show z_1 = gm 27 i.toNatClampNeg from (by rw [ez_1, h2i]))]; have := i32_0; have := i32_1; have := i32_2; have := i32_m1; have := (hsx0_52).1; have := (hsx0_52).2; have := (hsx1_52).1; have := (hsx1_52).2; have := (hx2_52).1; have := (hx2_52).2; have := (h_3).1; have := (h_3).2; omega)⟩) _ _ _ hP hD hS (lv_sub hl [0, 1, 2] rfl)
    · have h_4 : iv 0 79 z_1 := ⟨c_2, (hz_1).2⟩
      refine ec_aload_n hx hb dX10_isRight_59 rfl (lv_at hl 1 rfl) ?_
      refine ec_aload_n hx hb dX10_isRight_60 rfl (lv_at hl 0 rfl) ?_
      refine cr_get (t := 9) (j := 20) (C := RX3) (T := TX3) (N := 21) (v := eV (ad 10) (gm 27 x2_52.toNatClampNeg)) hx hb htb inX3 hown hK hP hx2_52 (by decide) (by decide) (by decide) rfl (by decide) (htb _ kw_638) rfl dX10_isRight_61 ?_
      refine W.eq (g2 := F0 m 64 ls [eV (ad 10) z_1, eV (ad 4) x]) (by rw [show (gm 27 x2_52.toNatClampNeg) = z_1 from ez_1.symm]) ?_
      refine cm_callV (t := 4) (C := RX10) (T := TX10) (N := 4) (rest := []) (as := [eV (ad 10) z_1]) ⟨hx, hb, hml, hown, htb⟩ (d_hasRightParent2 l dC dI ad cid a2 lx sg gm lg x z_1 hI hsx0_52 h_4) (cwV 1 htb (gd_V kw_712 kw_713 kw_714 kw_32 kw_1494) rfl rfl rfl (by decide +kernel) ⟨Nat.le_of_ble_eq_true rfl, Nat.le_of_ble_eq_true rfl⟩) hsx0_52 (by decide) (by decide) rfl rfl hl.1 rfl (Nat.le_trans cs_n (by decide)) dX10_isRight_64 ⟨Nat.le_of_ble_eq_true rfl, Nat.le_of_ble_eq_true rfl⟩ hK hP hD hS hA hG (fun E ce q9 u_6 H locs hw hP hD hS hce hcv hcl => ?_) (fun v9 u_6 H locs hw hP hD hS => ?_)
      · exact hw.elim
      obtain ⟨r_5, rfl, rfl, hr_5, fP_r_5⟩ := hw
      have hP : va_P (dC, dI) vwCl (cW ad cid a2 lx sg gm lg) H := hP
      have hD : va_D A (cW ad cid a2 lx sg gm lg) := hD
      refine W.eq (g2 := F0 m 67 ls [.int r_5]) rfl ?_
      refine lv_if_eq (tgt := 74) hx hb dX10_isRight_67 (by decide) (fun c_8 => ?_) (fun c_8 => ?_)
      · have h_9 : iv 0 0 r_5 := iv_eq c_8 hr_5 (iv_k (by decide) : iv 0 0 0) (by decide)
        refine lv_iconst (v := 0) hx hb dX10_isRight_74 (by decide) ?_
        exact hj75 x2_52 0 hx2_52 hsx0_52 hsx1_52 (iv_w (iv_k (by decide) : iv 0 0 0) (by decide)) (Or.inr ⟨rfl, fun h => h.2.elim (fun q8 => by rw [← (show z_1 = gm 27 i.toNatClampNeg from (by rw [ez_1, h2i]))] at q8; have := i32_0; have := i32_1; have := i32_2; have := i32_m1; have := (hsx0_52).1; have := (hsx0_52).2; have := (hsx1_52).1; have := (hsx1_52).2; have := (hx2_52).1; have := (hx2_52).2; have := (h_4).1; have := (h_4).2; have := (h_9).1; have := (h_9).2; omega) (fun q8 => (fP_r_5.resolve_left (fun q7 => absurd q7.1 (by have := i32_0; have := i32_1; have := i32_2; have := i32_m1; have := (hsx0_52).1; have := (hsx0_52).2; have := (hsx1_52).1; have := (hsx1_52).2; have := (hx2_52).1; have := (hx2_52).2; have := (h_4).1; have := (h_4).2; have := (h_9).1; have := (h_9).2; omega))).2 (by rw [(show z_1 = gm 27 i.toNatClampNeg from (by rw [ez_1, h2i]))]; exact q8))⟩) _ _ _ hP hD hS (lv_sub hl [0, 1, 2] rfl)
      · have h_10 : iv 1 1 r_5 := iv_neL c_8 hr_5 (by decide)
        exact hj70 x2_52 hx2_52 hsx0_52 hsx1_52 (⟨u52, Or.inr (by rw [← (show z_1 = gm 27 i.toNatClampNeg from (by rw [ez_1, h2i]))]; exact (fP_r_5.resolve_right (fun q7 => absurd q7.1 (by have := i32_0; have := i32_1; have := i32_2; have := i32_m1; have := (hsx0_52).1; have := (hsx0_52).2; have := (hsx1_52).1; have := (hsx1_52).2; have := (hx2_52).1; have := (hx2_52).2; have := (h_4).1; have := (h_4).2; have := (h_10).1; have := (h_10).2; omega))).2)⟩) _ _ _ hP hD hS (lv_sub hl [0, 1, 2] rfl)
  have hj20 : ∀ (n : Nat) (x3_20 : Int32) (x2_20 : Int32) (_ : (80 - x3_20.toInt).toNat = n) (_ : iv 0 80 x3_20) (_ : iv 0 79 x2_20) (_ : iv 0 0 x) (_ : iv 0 79 i) (_ : x2_20 = i) (_ : ¬ lg 1 i.toNatClampNeg = 0) (_ : ∀ k, k < x3_20.toNatClampNeg → ¬ lg 1 k = lg 1 i.toNatClampNeg) (H : Heap) (locs : List Loc) (ls : Array Slot), va_P (dC, dI) vwCl (cW ad cid a2 lx sg gm lg) H → va_D A (cW ad cid a2 lx sg gm lg) → va_S A s.heap H locs → lv_has ls 4 [(3, .int x3_20), (2, eV (ad 9) x2_20), (0, eV (ad 4) x), (1, .int i)] → W p l e (headSpec wm_X10_isRight ({ frames := 3, cells := 1, slots := 6, locals := 68 })).room s m ([eV (ad 4) x, .int i] : List Value).toArray below meth c H locs 0 0 (vx_MQ below (cQx dC dI ad cid a2 lx (fun v u => ∃ r : Int32, v = some (.int r) ∧ u = (sg, gm, lg) ∧ (iv 0 1 r) ∧ ((r.toInt = 1 ∧ (IRW sg gm lg i.toNatClampNeg)) ∨ (r.toInt = 0 ∧ ¬ (IRW sg gm lg i.toNatClampNeg)))) A) (cX dC dI ad cid a2 lx (fun _ _ => False) A) ([eV (ad 4) x, .int i] : List Value).toArray s 1 6 A) (F0 m 20 ls []) := by
    intro n
    induction n using Nat.strongRecOn with
    | ind n ih20 =>
      intro x3_20 x2_20 hn20 hx3_20 hx2_20 hsx0_20 hsx1_20 h2i hnz hnm H locs ls hP hD hS hl
      refine lv_iload_n hx hb dX10_isRight_20 rfl (lv_at hl 0 rfl) ?_
      refine lv_iload_n hx hb dX10_isRight_21 rfl (lv_at hl 3 rfl) ?_
      refine lv_icmp_ge (tgt := 52) hx hb dX10_isRight_22 (by decide) (fun c_11 => ?_) (fun c_11 => ?_)
      · have d_12 : (i : Int32).toInt ≤ (x3_20 : Int32).toInt := Int32.le_iff_toInt_le.mp c_11
        exact hj52 x2_20 hx2_20 hsx0_20 hsx1_20 (h2i) ((fun _ k hk => hnm k (by have k1 := iv_cl hx3_20 (by decide); have k2 := iv_cl hvi (by decide); have := i32_0; have := i32_1; have := i32_2; have := i32_m1; have := (hsx0_20).1; have := (hsx0_20).2; have := (hsx1_20).1; have := (hsx1_20).2; have := (hx3_20).1; have := (hx3_20).2; have := (hx2_20).1; have := (hx2_20).2; omega))) _ _ _ hP hD hS (lv_sub hl [1, 2, 3] rfl)
      · have d_13 : (x3_20 : Int32).toInt < (i : Int32).toInt := Int32.lt_iff_toInt_lt.mp (i32_lt c_11)
        have h_14 : iv 0 78 x3_20 := iv_ltL (i32_lt c_11) hx3_20 hsx1_20 (by decide)
        have h_15 : iv 1 79 i := iv_ltR (i32_lt c_11) hx3_20 hsx1_20 (by decide)
        refine ec_aload_n hx hb dX10_isRight_25 rfl (lv_at hl 2 rfl) ?_
        refine cr_get (t := 4) (j := 0) (C := RX10) (T := TX10) (N := 4) (v := eV (ad 1) 0) hx hb htb inX10 hown hK hP hsx0_20 (by decide) (by decide) (by decide) rfl (by decide) (htb _ kw_86) (cV_c rfl (by decide) (by rw [show cMu 4 0 = 0 from rfl, Nat.zero_mul]; rfl)) dX10_isRight_26 ?_
        refine lv_iload_n hx hb dX10_isRight_29 rfl (lv_at hl 0 rfl) ?_
        refine cm_callV (t := 1) (C := RX6) (T := TX6) (N := 8) (rest := []) (as := [.int x3_20]) ⟨hx, hb, hml, hown, htb⟩ (d_element l dC dI ad cid a2 lx sg gm lg 0 x3_20 hI (iv_k (by decide) : iv 0 0 0) (iv_w h_14 (by decide))) (cwV 1 htb (gd_V kw_626 kw_503 kw_504 kw_20 kw_1458) rfl rfl rfl (by decide +kernel) ⟨Nat.le_of_ble_eq_true rfl, Nat.le_of_ble_eq_true rfl⟩) (iv_k (by decide) : iv 0 0 0) (by decide) (by decide) rfl rfl hl.1 rfl (Nat.le_trans cs_n (by decide)) dX10_isRight_30 ⟨Nat.le_of_ble_eq_true rfl, Nat.le_of_ble_eq_true rfl⟩ hK hP hD hS hA hG (fun E ce q9 u_17 H locs hw hP hD hS hce hcv hcl => ?_) (fun v9 u_17 H locs hw hP hD hS => ?_)
        · exact hw.elim
        obtain ⟨r_16, rfl, rfl, hr_16, fr_r_16⟩ := hw
        have hP : va_P (dC, dI) vwCl (cW ad cid a2 lx sg gm lg) H := hP
        have hD : va_D A (cW ad cid a2 lx sg gm lg) := hD
        refine W.eq (g2 := F0 m 33 ls [eV (ad 9) r_16]) rfl ?_
        refine cr_get (t := 9) (j := 11) (C := RX3) (T := TX3) (N := 21) (v := .long (lg 1 r_16.toNatClampNeg)) hx hb htb inX3 hown hK hP hr_16 (by decide) (by decide) (by decide) rfl (by decide) (htb _ kw_634) rfl dX10_isRight_33 ?_
        refine lv_topl (fun z_19 ez_19 => ?_)
        refine ec_aload_n hx hb dX10_isRight_36 rfl (lv_at hl 1 rfl) ?_
        refine cr_get (t := 9) (j := 11) (C := RX3) (T := TX3) (N := 21) (v := .long (lg 1 x2_20.toNatClampNeg)) hx hb htb inX3 hown hK hP hx2_20 (by decide) (by decide) (by decide) rfl (by decide) (htb _ kw_634) rfl dX10_isRight_37 ?_
        refine lv_topl (fun z_20 ez_20 => ?_)
        refine W.lcmp hx hb dX10_isRight_40 ?_
        refine lv_topi (fun z_21 ez_21 => ?_)
        have hz_21 : iv (-1) 1 z_21 := iv_of ez_21 (iv_cmp _ _)
        refine lv_if_ne (tgt := 46) hx hb dX10_isRight_41 (by decide) (fun c_22 => ?_) (fun c_22 => ?_)
        · have d_23 : ¬ (z_21 : Int32).toInt = 0 := lv_neT c_22 rfl
          obtain ⟨z_24, ez_24⟩ : ∃ z : Int32, z = x3_20 + 1 := ⟨_, rfl⟩
          have hz_24 : iv 1 79 z_24 := iv_of ez_24 (iv_add h_14 (iv_k (by decide) : iv 1 1 1) (by decide))
          have tz_24 : z_24.toInt = x3_20.toInt + 1 := by rw [ez_24]; exact iv_addE h_14 (iv_k (by decide) : iv 1 1 1) (by decide)
          refine lv_iinc (v := z_24) (lv' := [(3, .int z_24), (2, eV (ad 9) x2_20), (0, eV (ad 4) x), (1, .int i)]) hx hb dX10_isRight_46 hl (k := 0) rfl ez_24.symm (by decide) (by simp [List.filter, eV_cat, cat_i, cat_l]) (fun ls hl => ?_)
          refine lv_goto (tgt := 20) hx hb dX10_isRight_49 (by decide) ?_
          exact ih20 _ (by rw [← hn20]; exact (iv_meas tz_24 h_14 (by decide))) z_24 x2_20 rfl (iv_w hz_24 (by decide)) hx2_20 hsx0_20 (iv_w h_15 (by decide)) (h2i) (hnz) ((fun k hk => by rw [s_cl h_14 (by decide) tz_24] at hk; by_cases hq : k = x3_20.toNatClampNeg; (rw [hq]; exact fun q8 => c_22 (by rw [ez_21, ez_19, ez_20, fr_r_16, h2i]; exact (lg_cmp_eq _ _).mpr q8)); exact hnm k (by omega))) _ _ _ hP hD hS (lv_sub hl [0, 1, 2, 3] rfl)
        · have h_25 : iv 0 0 z_21 := iv_eq c_22 hz_21 (iv_k (by decide) : iv 0 0 0) (by decide)
          refine lv_iconst (v := 0) hx hb dX10_isRight_44 (by decide) ?_
          exact W.nb (fun hN => W.widen (k := 1) (n := 6) (by decide) (by decide) (vx_ret (W.zret (v := 0) hx hb hr (iv_nb (iv_w (iv_k (by decide) : iv 0 0 0) (by decide))) (fun t ht hW => ⟨⟨some (.int 0), (sg, gm, lg), rfl, ⟨0, rfl, rfl, (iv_w (iv_k (by decide) : iv 0 0 0) (by decide)), (Or.inr ⟨rfl, fun h => h.1 hnz x3_20.toNatClampNeg (by have k1 := iv_cl h_14 (by decide); have k2 := iv_cl hvi (by decide); have := i32_0; have := i32_1; have := i32_2; have := i32_m1; have := (hsx0_20).1; have := (hsx0_20).2; have := (h_15).1; have := (h_15).2; have := (h_14).1; have := (h_14).2; have := (hx2_20).1; have := (hx2_20).2; have := (hr_16).1; have := (hr_16).2; have := (h_25).1; have := (h_25).2; omega) (by have q8 := c_22; rw [ez_21, ez_19, ez_20, fr_r_16, h2i] at q8; exact (lg_cmp_eq _ _).mp q8)⟩)⟩, by rw [ht]; exact hP, va_K.moved hW.alike hK, hD⟩, hS.F ht, by rw [ht]; exact hN⟩) hS.2.2 dX10_isRight_45)))
  refine ec_aload_n hx hb dX10_isRight_0 rfl (lv_at hl 0 rfl) ?_
  refine cr_get (t := 4) (j := 0) (C := RX10) (T := TX10) (N := 4) (v := eV (ad 1) 0) hx hb htb inX10 hown hK hP hvx (by decide) (by decide) (by decide) rfl (by decide) (htb _ kw_86) (cV_c rfl (by decide) (by rw [show cMu 4 0 = 0 from rfl, Nat.zero_mul]; rfl)) dX10_isRight_1 ?_
  refine lv_iload_n hx hb dX10_isRight_4 rfl (lv_at hl 1 rfl) ?_
  refine cm_callV (t := 1) (C := RX6) (T := TX6) (N := 8) (rest := []) (as := [.int i]) ⟨hx, hb, hml, hown, htb⟩ (d_element l dC dI ad cid a2 lx sg gm lg 0 i hI (iv_k (by decide) : iv 0 0 0) hvi) (cwV 1 htb (gd_V kw_626 kw_503 kw_504 kw_20 kw_1458) rfl rfl rfl (by decide +kernel) ⟨Nat.le_of_ble_eq_true rfl, Nat.le_of_ble_eq_true rfl⟩) (iv_k (by decide) : iv 0 0 0) (by decide) (by decide) rfl rfl hl.1 rfl (Nat.le_trans cs_n (by decide)) dX10_isRight_5 ⟨Nat.le_of_ble_eq_true rfl, Nat.le_of_ble_eq_true rfl⟩ hK hP hD hS hA hG (fun E ce q9 u_27 H locs hw hP hD hS hce hcv hcl => ?_) (fun v9 u_27 H locs hw hP hD hS => ?_)
  · exact hw.elim
  obtain ⟨r_26, rfl, rfl, hr_26, fr_r_26⟩ := hw
  have hP : va_P (dC, dI) vwCl (cW ad cid a2 lx sg gm lg) H := hP
  have hD : va_D A (cW ad cid a2 lx sg gm lg) := hD
  refine W.eq (g2 := F0 m 8 ls [eV (ad 9) r_26]) rfl ?_
  refine ec_astore_n (i := 2) (lv' := [(2, eV (ad 9) r_26), (0, eV (ad 4) x), (1, .int i)]) hx hb dX10_isRight_8 rfl hl (by decide) rfl (fun ls hl => ?_)
  refine ec_aload_n hx hb dX10_isRight_9 rfl (lv_at hl 0 rfl) ?_
  refine cr_get (t := 9) (j := 11) (C := RX3) (T := TX3) (N := 21) (v := .long (lg 1 r_26.toNatClampNeg)) hx hb htb inX3 hown hK hP hr_26 (by decide) (by decide) (by decide) rfl (by decide) (htb _ kw_634) rfl dX10_isRight_10 ?_
  refine lv_topl (fun z_29 ez_29 => ?_)
  refine lv_lconst (v := 0) hx hb dX10_isRight_13 (by decide) ?_
  refine W.lcmp hx hb dX10_isRight_14 ?_
  refine lv_topi (fun z_30 ez_30 => ?_)
  have hz_30 : iv (-1) 1 z_30 := iv_of ez_30 (iv_cmp _ _)
  refine lv_if_eq (tgt := 52) hx hb dX10_isRight_15 (by decide) (fun c_31 => ?_) (fun c_31 => ?_)
  · have h_32 : iv 0 0 z_30 := iv_eq c_31 hz_30 (iv_k (by decide) : iv 0 0 0) (by decide)
    exact hj52 r_26 hr_26 hvx hvi (fr_r_26) ((fun q9 => absurd (by have q8 := c_31; rw [ez_30, ez_29, fr_r_26] at q8; exact (lg_cmp_eq _ _).mp q8) q9)) _ _ _ hP hD hS (lv_sub hl [0, 1, 2] rfl)
  · have d_33 : ¬ (z_30 : Int32).toInt = 0 := lv_neT c_31 rfl
    refine lv_iconst (v := 0) hx hb dX10_isRight_18 (by decide) ?_
    refine lv_istore_n (i := 3) (lv' := [(3, .int 0), (2, eV (ad 9) r_26), (0, eV (ad 4) x), (1, .int i)]) hx hb dX10_isRight_19 rfl hl (by decide) (by simp [List.filter, eV_cat, cat_i, cat_l]) (fun ls hl => ?_)
    exact hj20 _ 0 r_26 rfl (iv_w (iv_k (by decide) : iv 0 0 0) (by decide)) hr_26 hvx hvi (fr_r_26) ((fun q8 => c_31 (by rw [ez_30, ez_29, fr_r_26]; exact (lg_cmp_eq _ _).mpr q8))) ((fun k hk => absurd hk (Nat.not_lt_zero _))) _ _ _ hP hD hS (lv_sub hl [0, 1, 2, 3] rfl)
