theorem HSK_f {gm : Nat → Nat → Int32} {lg : Nat → Nat → Int64} {j : Nat} {k : Int64} {a : Int32} (h : FND gm lg j k a) (h0 : 0 ≤ a.toInt) : HSK gm lg j k := by
  rcases h with ⟨h1, -⟩ | ⟨i, h1, -, -, -, h5⟩
  · omega
  · exact ⟨i, h1, h5⟩
theorem HSK_e {gm gm2 : Nat → Nat → Int32} {lg lg2 : Nat → Nat → Int64} {j : Nat} {k : Int64} (h : HSK gm lg j k) (h19 : gm2 19 = gm 19) (h20 : gm2 20 = gm 20) (h0 : lg2 0 = lg 0) : HSK gm2 lg2 j k := by
  unfold HSK at *; rw [h19, h20, h0]; exact h
theorem LDI_e {lx : List Nat} {gm gm2 : Nat → Nat → Int32} (h : LDI lx gm) (h41 : gm2 41 = gm 41) (h42 : gm2 42 = gm 42) (h57 : gm2 57 = gm 57) : LDI lx gm2 := by
  unfold LDI at *; rw [h41, h42, h57]; exact h

set_option maxHeartbeats 4000000 in
set_option maxRecDepth 100000 in
theorem d_nameValue2 (l : Launch) (dC : Nat → ClassId) (dI : Nat → Nat → Nat) (ad : Nat → Nat → Nat) (cid : Nat → ClassId) (a2 : Nat → Nat) (lx : List Nat) (sg : Nat → Int32) (gm : Nat → Nat → Int32) (lg : Nat → Nat → Int64) (x : Int32) (o : Int32) (w : Int32) (hI : CI sg gm) (hvx : iv 0 0 x) (hvo : iv 0 79 o) (hvw : iv 0 33 w) (hFA : FA sg gm) (how : o.toInt < (sg 4).toInt) (hVS : VS sg gm) : CMt dC dI ad cid a2 lx l yX6_nameValue wm_X6_nameValue ({ frames := 1, cells := 1, slots := 6, locals := 23 }) [eV (ad 1) x, eV (ad 9) o, eV (ad 33) w] sg gm lg (fun v u => ∃ r : Int64, v = some (.long r) ∧ u = (sg, gm, lg) ∧ (r = 0 ∨ HSK gm lg o.toNatClampNeg (wKy.getD w.toNatClampNeg 0))) (fun _ _ => False) := by
  intro sz
  refine vx_ofW (cc := cX6_nameValue) (maxL := 9) (ret := (some .long)) (by decide) rfl ?_
  intro p e s m args below meth c s₁ B hml hxt hv
  obtain ⟨rfl, hsz, hP, hK, hD0, hG⟩ := hv
  have hx := B.exec
  have hb := B.bytes
  have hr := B.returns
  have hts := atoms_spec (ws := wm_X6_nameValue) B.pre
  have htb := fun (w : Cond) (h : w ∈ tb) => hts w (List.mem_cons_of_mem _ h)
  have hown : s.vm.findClass RX6 = some m.cls := findClass_of_methodNamed B.named
  have hlocks := B.notSynchronized
  subst hsz
  have hD := hD0.self (sz := s.heap.size)
  generalize hAe : va_A (cW ad cid a2 lx sg gm lg) s.heap.size = A at hD hG ⊢
  have hA : ∀ q : Nat, s.heap.size ≤ q → A q := fun q h => by rw [← hAe]; exact Or.inr h
  have hS : va_S A s.heap s.heap [] := va_S.rf
  have hl := lv_entry ([eV (ad 1) x, eV (ad 9) o, eV (ad 33) w]) (n := 9) (by rw [show (lg_sl ([eV (ad 1) x, eV (ad 9) o, eV (ad 33) w])).length = 3 from by simp [lg_sl, eV_cat, cat_i, cat_l]]; exact Nat.le_of_ble_eq_true rfl)
  rw [lg_entry_eq]
  generalize (lg_sl ([eV (ad 1) x, eV (ad 9) o, eV (ad 33) w]) ++ List.replicate (9 - (lg_sl ([eV (ad 1) x, eV (ad 9) o, eV (ad 33) w])).length) Slot.unset).toArray = ls at hl ⊢
  have hl : lv_has ls 9 [(0, eV (ad 1) x), (1, eV (ad 9) o), (2, eV (ad 33) w)] := by simp [lv_args, eV_cat, cat_i, cat_l] at hl; exact hl
  have hj27 : ∀ (x4_27 : Int32) (x3_27 : Int32) (_ : iv 0 24 x4_27) (_ : iv (-1) 239 x3_27) (_ : iv 0 0 x) (_ : iv 0 79 o) (_ : iv 0 33 w) (H : Heap) (locs : List Loc) (ls : Array Slot), va_P (dC, dI) vwCl (cW ad cid a2 lx sg gm lg) H → va_D A (cW ad cid a2 lx sg gm lg) → va_S A s.heap H locs → lv_has ls 9 [(4, .int x4_27), (3, .int x3_27), (0, eV (ad 1) x), (1, eV (ad 9) o), (2, eV (ad 33) w)] → W p l e (headSpec wm_X6_nameValue ({ frames := 1, cells := 1, slots := 6, locals := 23 })).room s m ([eV (ad 1) x, eV (ad 9) o, eV (ad 33) w] : List Value).toArray below meth c H locs 0 0 (vx_MQ below (cQx dC dI ad cid a2 lx (fun v u => ∃ r : Int64, v = some (.long r) ∧ u = (sg, gm, lg) ∧ (r = 0 ∨ HSK gm lg o.toNatClampNeg (wKy.getD w.toNatClampNeg 0))) A) (cX dC dI ad cid a2 lx (fun _ _ => False) A) ([eV (ad 1) x, eV (ad 9) o, eV (ad 33) w] : List Value).toArray s 1 6 A) (F0 m 27 ls []) := by
    intro x4_27 x3_27 hx4_27 hx3_27 hsx0_27 hsx1_27 hsx2_27 H locs ls hP hD hS hl
    refine lv_lconst (v := 0) hx hb dX6_nameValue_27 (by decide) ?_
    exact W.nb (fun hN => W.widen (k := 1) (n := 6) (by decide) (by decide) (vx_ret (W.lret (v := 0) hx hb hr (fun t ht hW => ⟨⟨some (.long 0), (sg, gm, lg), rfl, ⟨0, rfl, rfl, (Or.inl rfl)⟩, by rw [ht]; exact hP, va_K.moved hW.alike hK, hD⟩, hS.F ht, by rw [ht]; exact hN⟩) hS.2.2 dX6_nameValue_28)))
  have hj65 : ∀ (x8_65 : Int32) (x7_65 : Int32) (x5_65 : Int64) (x4_65 : Int32) (x3_65 : Int32) (_ : iv 0 65535 x8_65) (_ : iv 0 7 x7_65) (_ : iv 1 8 x4_65) (_ : iv 0 239 x3_65) (_ : iv 0 0 x) (_ : iv 0 79 o) (_ : iv 0 33 w) (H : Heap) (locs : List Loc) (ls : Array Slot), va_P (dC, dI) vwCl (cW ad cid a2 lx sg gm lg) H → va_D A (cW ad cid a2 lx sg gm lg) → va_S A s.heap H locs → lv_has ls 9 [(8, .int x8_65), (7, .int x7_65), (5, .long x5_65), (4, .int x4_65), (3, .int x3_65), (0, eV (ad 1) x), (1, eV (ad 9) o), (2, eV (ad 33) w)] → W p l e (headSpec wm_X6_nameValue ({ frames := 1, cells := 1, slots := 6, locals := 23 })).room s m ([eV (ad 1) x, eV (ad 9) o, eV (ad 33) w] : List Value).toArray below meth c H locs 0 0 (vx_MQ below (cQx dC dI ad cid a2 lx (fun v u => ∃ r : Int64, v = some (.long r) ∧ u = (sg, gm, lg) ∧ (r = 0 ∨ HSK gm lg o.toNatClampNeg (wKy.getD w.toNatClampNeg 0))) A) (cX dC dI ad cid a2 lx (fun _ _ => False) A) ([eV (ad 1) x, eV (ad 9) o, eV (ad 33) w] : List Value).toArray s 1 6 A) (F0 m 65 ls []) := by
    intro x8_65 x7_65 x5_65 x4_65 x3_65 hx8_65 hx7_65 hx4_65 hx3_65 hsx0_65 hsx1_65 hsx2_65 H locs ls hP hD hS hl
    refine lv_lconst (v := 0) hx hb dX6_nameValue_65 (by decide) ?_
    exact W.nb (fun hN => W.widen (k := 1) (n := 6) (by decide) (by decide) (vx_ret (W.lret (v := 0) hx hb hr (fun t ht hW => ⟨⟨some (.long 0), (sg, gm, lg), rfl, ⟨0, rfl, rfl, (Or.inl rfl)⟩, by rw [ht]; exact hP, va_K.moved hW.alike hK, hD⟩, hS.F ht, by rw [ht]; exact hN⟩) hS.2.2 dX6_nameValue_66)))
  have hj35 : ∀ (n : Nat) (x7_35 : Int32) (x5_35 : Int64) (x4_35 : Int32) (x3_35 : Int32) (_ : (8 - x7_35.toInt).toNat = n) (_ : iv 0 8 x7_35) (_ : iv 1 8 x4_35) (_ : iv 0 239 x3_35) (_ : iv 0 0 x) (_ : iv 0 79 o) (_ : iv 0 33 w) (_ : 0 ≤ x3_35.toInt) (_ : x3_35.toInt < (sg 5).toInt) (_ : x4_35 = gm 45 x3_35.toNatClampNeg) (_ : HSK gm lg o.toNatClampNeg (wKy.getD w.toNatClampNeg 0)) (H : Heap) (locs : List Loc) (ls : Array Slot), va_P (dC, dI) vwCl (cW ad cid a2 lx sg gm lg) H → va_D A (cW ad cid a2 lx sg gm lg) → va_S A s.heap H locs → lv_has ls 9 [(7, .int x7_35), (5, .long x5_35), (4, .int x4_35), (3, .int x3_35), (0, eV (ad 1) x), (1, eV (ad 9) o), (2, eV (ad 33) w)] → W p l e (headSpec wm_X6_nameValue ({ frames := 1, cells := 1, slots := 6, locals := 23 })).room s m ([eV (ad 1) x, eV (ad 9) o, eV (ad 33) w] : List Value).toArray below meth c H locs 0 0 (vx_MQ below (cQx dC dI ad cid a2 lx (fun v u => ∃ r : Int64, v = some (.long r) ∧ u = (sg, gm, lg) ∧ (r = 0 ∨ HSK gm lg o.toNatClampNeg (wKy.getD w.toNatClampNeg 0))) A) (cX dC dI ad cid a2 lx (fun _ _ => False) A) ([eV (ad 1) x, eV (ad 9) o, eV (ad 33) w] : List Value).toArray s 1 6 A) (F0 m 35 ls []) := by
    intro n
    induction n using Nat.strongRecOn with
    | ind n ih35 =>
      intro x7_35 x5_35 x4_35 x3_35 hn35 hx7_35 hx4_35 hx3_35 hsx0_35 hsx1_35 hsx2_35 h3p h3l h4e hHK H locs ls hP hD hS hl
      refine lv_iload hx hb dX6_nameValue_35 (lv_at hl 0 rfl) ?_
      refine lv_iload hx hb dX6_nameValue_37 (lv_at hl 2 rfl) ?_
      refine lv_icmp_ge (tgt := 84) hx hb dX6_nameValue_39 (by decide) (fun c_1 => ?_) (fun c_1 => ?_)
      · have d_2 : (x4_35 : Int32).toInt ≤ (x7_35 : Int32).toInt := Int32.le_iff_toInt_le.mp c_1
        have h_3 : iv 1 8 x7_35 := iv_leR c_1 hx4_35 hx7_35 (by decide)
        refine lv_lload hx hb dX6_nameValue_84 (lv_at hl 1 rfl) ?_
        exact W.nb (fun hN => W.widen (k := 1) (n := 6) (by decide) (by decide) (vx_ret (W.lret (v := x5_35) hx hb hr (fun t ht hW => ⟨⟨some (.long x5_35), (sg, gm, lg), rfl, ⟨x5_35, rfl, rfl, (Or.inr hHK)⟩, by rw [ht]; exact hP, va_K.moved hW.alike hK, hD⟩, hS.F ht, by rw [ht]; exact hN⟩) hS.2.2 dX6_nameValue_86)))
      · have d_4 : (x7_35 : Int32).toInt < (x4_35 : Int32).toInt := Int32.lt_iff_toInt_lt.mp (i32_lt c_1)
        have h_5 : iv 0 7 x7_35 := iv_ltL (i32_lt c_1) hx7_35 hx4_35 (by decide)
        have h42 : iv 0 239 x3_35 := ⟨h3p, (hx3_35).2⟩
        refine ec_aload_n hx hb dX6_nameValue_42 rfl (lv_at hl 4 rfl) ?_
        refine lv_iload_n hx hb dX6_nameValue_43 rfl (lv_at hl 3 rfl) ?_
        refine lv_iload hx hb dX6_nameValue_44 (lv_at hl 0 rfl) ?_
        refine cm_callV (t := 1) (C := RX6) (T := TX6) (N := 8) (rest := []) (as := [.int x3_35, .int x7_35]) ⟨hx, hb, hml, hown, htb⟩ (d_valueChar l dC dI ad cid a2 lx sg gm lg x x3_35 x7_35 hI hsx0_35 h42 (iv_w h_5 (by decide)) hVS h3l (by rw [← h4e]; have := i32_0; have := i32_1; have := i32_2; have := i32_m1; have := (hsx0_35).1; have := (hsx0_35).2; have := (hsx1_35).1; have := (hsx1_35).2; have := (hsx2_35).1; have := (hsx2_35).2; have := (h_5).1; have := (h_5).2; have := (hx4_35).1; have := (hx4_35).2; have := (h42).1; have := (h42).2; omega)) (cwV 2 htb (gd_V kw_552 kw_553 kw_554 kw_20 kw_1469) rfl rfl rfl (by decide +kernel) ⟨Nat.le_of_ble_eq_true rfl, Nat.le_of_ble_eq_true rfl⟩) hsx0_35 (by decide) (by decide) rfl rfl hl.1 rfl (Nat.le_trans cs_n (by decide)) dX6_nameValue_46 ⟨Nat.le_of_ble_eq_true rfl, Nat.le_of_ble_eq_true rfl⟩ hK hP hD hS hA hG (fun E ce q9 u_7 H locs hw hP hD hS hce hcv hcl => ?_) (fun v9 u_7 H locs hw hP hD hS => ?_)
        · exact hw.elim
        obtain ⟨r_6, rfl, rfl, hr_6, fC_r_6⟩ := hw
        have hP : va_P (dC, dI) vwCl (cW ad cid a2 lx sg gm lg) H := hP
        have hD : va_D A (cW ad cid a2 lx sg gm lg) := hD
        refine W.eq (g2 := F0 m 49 ls [.int r_6]) rfl ?_
        refine lv_istore (i := 8) (lv' := [(8, .int r_6), (7, .int x7_35), (5, .long x5_35), (4, .int x4_35), (3, .int x3_35), (0, eV (ad 1) x), (1, eV (ad 9) o), (2, eV (ad 33) w)]) hx hb dX6_nameValue_49 hl (by decide) rfl (fun ls hl => ?_)
        refine lv_iload hx hb dX6_nameValue_51 (lv_at hl 0 rfl) ?_
        refine lv_bipush (v := 97) hx hb dX6_nameValue_53 (by decide) ?_
        refine lv_icmp_lt (tgt := 65) hx hb dX6_nameValue_55 (by decide) (fun c_9 => ?_) (fun c_9 => ?_)
        · have h_10 : iv 0 96 r_6 := iv_ltL c_9 hr_6 (iv_k (by decide) : iv 97 97 97) (by decide)
          exact hj65 r_6 x7_35 x5_35 x4_35 x3_35 (iv_w h_10 (by decide)) h_5 hx4_35 h42 hsx0_35 hsx1_35 hsx2_35 _ _ _ hP hD hS (lv_sub hl [0, 1, 2, 3, 4, 5, 6, 7] rfl)
        · have h_11 : iv 97 65535 r_6 := iv_leR (i32_ge c_9) (iv_k (by decide) : iv 97 97 97) hr_6 (by decide)
          refine lv_iload hx hb dX6_nameValue_58 (lv_at hl 0 rfl) ?_
          refine lv_bipush (v := 122) hx hb dX6_nameValue_60 (by decide) ?_
          refine lv_icmp_le (tgt := 67) hx hb dX6_nameValue_62 (by decide) (fun c_12 => ?_) (fun c_12 => ?_)
          · have h_13 : iv 97 122 r_6 := iv_leL c_12 h_11 (iv_k (by decide) : iv 122 122 122) (by decide)
            refine lv_lload hx hb dX6_nameValue_67 (lv_at hl 2 rfl) ?_
            refine lv_bipush (v := 8) hx hb dX6_nameValue_69 (by decide) ?_
            refine lv_lshl (v := x5_35 <<< ((8 : Int32).toInt64 &&& 63)) hx hb dX6_nameValue_71 rfl ?_
            refine lv_topl (fun z_14 ez_14 => ?_)
            refine lv_iload hx hb dX6_nameValue_72 (lv_at hl 0 rfl) ?_
            refine lv_i2l (v := (r_6 : Int32).toInt64) hx hb dX6_nameValue_74 rfl ?_
            refine lv_topl (fun z_15 ez_15 => ?_)
            refine lv_lor hx hb dX6_nameValue_75 ?_
            refine lv_topl (fun z_16 ez_16 => ?_)
            refine lv_lstore (i := 5) (lv' := [(5, .long z_16), (8, .int r_6), (7, .int x7_35), (4, .int x4_35), (3, .int x3_35), (0, eV (ad 1) x), (1, eV (ad 9) o), (2, eV (ad 33) w)]) hx hb dX6_nameValue_76 hl (by decide) rfl (fun ls hl => ?_)
            obtain ⟨z_17, ez_17⟩ : ∃ z : Int32, z = x7_35 + 1 := ⟨_, rfl⟩
            have hz_17 : iv 1 8 z_17 := iv_of ez_17 (iv_add h_5 (iv_k (by decide) : iv 1 1 1) (by decide))
            have tz_17 : z_17.toInt = x7_35.toInt + 1 := by rw [ez_17]; exact iv_addE h_5 (iv_k (by decide) : iv 1 1 1) (by decide)
            refine lv_iinc (v := z_17) (lv' := [(7, .int z_17), (5, .long z_16), (8, .int r_6), (4, .int x4_35), (3, .int x3_35), (0, eV (ad 1) x), (1, eV (ad 9) o), (2, eV (ad 33) w)]) hx hb dX6_nameValue_78 hl (k := 2) rfl ez_17.symm (by decide) rfl (fun ls hl => ?_)
            refine lv_goto (tgt := 35) hx hb dX6_nameValue_81 (by decide) ?_
            exact ih35 _ (by rw [← hn35]; exact (iv_meas tz_17 h_5 (by decide))) z_17 z_16 x4_35 x3_35 rfl (iv_w hz_17 (by decide)) hx4_35 h42 hsx0_35 hsx1_35 hsx2_35 (h3p) (h3l) (h4e) (hHK) _ _ _ hP hD hS (lv_sub hl [0, 1, 3, 4, 5, 6, 7] rfl)
          · have h_18 : iv 123 65535 r_6 := iv_ltR (i32_lt c_12) (iv_k (by decide) : iv 122 122 122) h_11 (by decide)
            exact hj65 r_6 x7_35 x5_35 x4_35 x3_35 (iv_w h_18 (by decide)) h_5 hx4_35 h42 hsx0_35 hsx1_35 hsx2_35 _ _ _ hP hD hS (lv_sub hl [0, 1, 2, 3, 4, 5, 6, 7] rfl)
  refine ec_aload_n hx hb dX6_nameValue_0 rfl (lv_at hl 0 rfl) ?_
  refine ec_aload_n hx hb dX6_nameValue_1 rfl (lv_at hl 1 rfl) ?_
  refine ec_aload_n hx hb dX6_nameValue_2 rfl (lv_at hl 2 rfl) ?_
  refine cm_callV (t := 1) (C := RX6) (T := TX6) (N := 8) (rest := []) (as := [eV (ad 9) o, eV (ad 33) w]) ⟨hx, hb, hml, hown, htb⟩ (d_find l dC dI ad cid a2 lx sg gm lg x o w hI hvx hvo hvw hFA how) (cwV 2 htb (gd_V kw_545 kw_546 kw_547 kw_20 kw_1467) rfl rfl rfl (by decide +kernel) ⟨Nat.le_of_ble_eq_true rfl, Nat.le_of_ble_eq_true rfl⟩) hvx (by decide) (by decide) rfl rfl hl.1 rfl (Nat.le_trans cs_n (by decide)) dX6_nameValue_3 ⟨Nat.le_of_ble_eq_true rfl, Nat.le_of_ble_eq_true rfl⟩ hK hP hD hS hA hG (fun E ce q9 u_20 H locs hw hP hD hS hce hcv hcl => ?_) (fun v9 u_20 H locs hw hP hD hS => ?_)
  · exact hw.elim
  obtain ⟨r_19, rfl, rfl, hr_19, fF_r_19, fLt_r_19⟩ := hw
  have hP : va_P (dC, dI) vwCl (cW ad cid a2 lx sg gm lg) H := hP
  have hD : va_D A (cW ad cid a2 lx sg gm lg) := hD
  refine W.eq (g2 := F0 m 6 ls [.int r_19]) rfl ?_
  refine lv_istore_n (i := 3) (lv' := [(3, .int r_19), (0, eV (ad 1) x), (1, eV (ad 9) o), (2, eV (ad 33) w)]) hx hb dX6_nameValue_6 rfl hl (by decide) (by simp [List.filter, eV_cat, cat_i, cat_l]) (fun ls hl => ?_)
  refine ec_aload_n hx hb dX6_nameValue_7 rfl (lv_at hl 1 rfl) ?_
  refine lv_iload_n hx hb dX6_nameValue_8 rfl (lv_at hl 0 rfl) ?_
  refine cm_callV (t := 1) (C := RX6) (T := TX6) (N := 8) (rest := []) (as := [.int r_19]) ⟨hx, hb, hml, hown, htb⟩ (d_valueLength l dC dI ad cid a2 lx sg gm lg x r_19 hI hvx hr_19) (cwV 1 htb (gd_V kw_549 kw_550 kw_551 kw_20 kw_1468) rfl rfl rfl (by decide +kernel) ⟨Nat.le_of_ble_eq_true rfl, Nat.le_of_ble_eq_true rfl⟩) hvx (by decide) (by decide) rfl rfl hl.1 rfl (Nat.le_trans cs_n (by decide)) dX6_nameValue_9 ⟨Nat.le_of_ble_eq_true rfl, Nat.le_of_ble_eq_true rfl⟩ hK hP hD hS hA hG (fun E ce q9 u_23 H locs hw hP hD hS hce hcv hcl => ?_) (fun v9 u_23 H locs hw hP hD hS => ?_)
  · exact hw.elim
  obtain ⟨r_22, rfl, rfl, hr_22, fV_r_22⟩ := hw
  have hP : va_P (dC, dI) vwCl (cW ad cid a2 lx sg gm lg) H := hP
  have hD : va_D A (cW ad cid a2 lx sg gm lg) := hD
  refine W.eq (g2 := F0 m 12 ls [.int r_22]) rfl ?_
  refine lv_istore (i := 4) (lv' := [(4, .int r_22), (3, .int r_19), (0, eV (ad 1) x), (1, eV (ad 9) o), (2, eV (ad 33) w)]) hx hb dX6_nameValue_12 hl (by decide) rfl (fun ls hl => ?_)
  refine lv_iload hx hb dX6_nameValue_14 (lv_at hl 0 rfl) ?_
  refine lv_iconst (v := 1) hx hb dX6_nameValue_16 (by decide) ?_
  refine lv_icmp_lt (tgt := 27) hx hb dX6_nameValue_17 (by decide) (fun c_25 => ?_) (fun c_25 => ?_)
  · have h_26 : iv 0 0 r_22 := iv_ltL c_25 hr_22 (iv_k (by decide) : iv 1 1 1) (by decide)
    exact hj27 r_22 r_19 (iv_w h_26 (by decide)) hr_19 hvx hvo hvw _ _ _ hP hD hS (lv_sub hl [0, 1, 2, 3, 4] rfl)
  · have h_27 : iv 1 24 r_22 := iv_leR (i32_ge c_25) (iv_k (by decide) : iv 1 1 1) hr_22 (by decide)
    refine lv_iload hx hb dX6_nameValue_20 (lv_at hl 0 rfl) ?_
    refine lv_bipush (v := 8) hx hb dX6_nameValue_22 (by decide) ?_
    refine lv_icmp_le (tgt := 29) hx hb dX6_nameValue_24 (by decide) (fun c_28 => ?_) (fun c_28 => ?_)
    · have h_29 : iv 1 8 r_22 := iv_leL c_28 h_27 (iv_k (by decide) : iv 8 8 8) (by decide)
      obtain ⟨h9z, h9e⟩ : 0 ≤ r_19.toInt ∧ r_22 = gm 45 r_19.toNatClampNeg := fV_r_22.resolve_left (fun q9 => by have := q9.2; have := i32_0; have := i32_1; have := i32_2; have := i32_m1; have := (hvx).1; have := (hvx).2; have := (hvo).1; have := (hvo).2; have := (hvw).1; have := (hvw).2; have := (hr_19).1; have := (hr_19).2; have := (h_29).1; have := (h_29).2; omega)
      have h9p : iv 0 239 r_19 := ⟨h9z, (hr_19).2⟩
      refine lv_lconst (v := 0) hx hb dX6_nameValue_29 (by decide) ?_
      refine lv_lstore (i := 5) (lv' := [(5, .long 0), (4, .int r_22), (3, .int r_19), (0, eV (ad 1) x), (1, eV (ad 9) o), (2, eV (ad 33) w)]) hx hb dX6_nameValue_30 hl (by decide) rfl (fun ls hl => ?_)
      refine lv_iconst (v := 0) hx hb dX6_nameValue_32 (by decide) ?_
      refine lv_istore (i := 7) (lv' := [(7, .int 0), (5, .long 0), (4, .int r_22), (3, .int r_19), (0, eV (ad 1) x), (1, eV (ad 9) o), (2, eV (ad 33) w)]) hx hb dX6_nameValue_33 hl (by decide) rfl (fun ls hl => ?_)
      exact hj35 _ 0 0 r_22 r_19 rfl (iv_w (iv_k (by decide) : iv 0 0 0) (by decide)) h_29 h9p hvx hvo hvw (h9z) (fLt_r_19) (h9e) (HSK_f fF_r_19 h9z) _ _ _ hP hD hS (lv_sub hl [0, 1, 2, 3, 4, 5, 6] rfl)
    · have h_30 : iv 9 24 r_22 := iv_ltR (i32_lt c_28) (iv_k (by decide) : iv 8 8 8) h_27 (by decide)
      exact hj27 r_22 r_19 (iv_w h_30 (by decide)) hr_19 hvx hvo hvw _ _ _ hP hD hS (lv_sub hl [0, 1, 2, 3, 4] rfl)

set_option maxHeartbeats 4000000 in
set_option maxRecDepth 100000 in
theorem d_beginBe (l : Launch) (dC : Nat → ClassId) (dI : Nat → Nat → Nat) (ad : Nat → Nat → Nat) (cid : Nat → ClassId) (a2 : Nat → Nat) (lx : List Nat) (sg : Nat → Int32) (gm : Nat → Nat → Int32) (lg : Nat → Nat → Int64) (b : Int32) (o : Int32) (pp : Int32) (hI : CI sg gm) (hvb : iv 0 79 b) (hvo : iv 0 79 o) (hvpp : iv 0 0 pp) (hFA : FA sg gm) (how : o.toInt < (sg 4).toInt) (hVS : VS sg gm) (hLD : LDI lx gm) : CMt dC dI ad cid a2 lx l yX1_begin wm_X1_begin ({ frames := 3, cells := 1, slots := 6, locals := 74 }) [eV (ad 10) b, eV (ad 9) o, eV (ad 1) pp] sg gm lg (fun v u => v = none ∧ ∃ (sg2 : Nat → Int32) (gm2 : Nat → Nat → Int32) (lg2 : Nat → Nat → Int64), u = (sg2, gm2, lg2) ∧ CI sg2 gm2 ∧ KS [] sg sg2 ∧ KS [29, 30, 31, 32, 33, 34, 35, 36, 37, 38, 39, 40, 41, 57] gm gm2 ∧ KS [4, 5, 6, 7] lg lg2 ∧ (gm2 29 = upd (gm 29) b.toNatClampNeg o) ∧ (gm2 37 = upd (gm 37) b.toNatClampNeg 0) ∧ (gm2 38 = upd (gm 38) b.toNatClampNeg 0) ∧ (gm2 39 = upd (gm 39) b.toNatClampNeg (-1)) ∧ (gm2 41 = upd (upd (upd (gm 41) (3 * b.toNatClampNeg + 0) 0) (3 * b.toNatClampNeg + 1) 0) (3 * b.toNatClampNeg + 2) 0) ∧ (LDI lx gm2) ∧ (∃ id9 : Int64, lg2 4 = vp_updL (lg 4) b.toNatClampNeg id9 ∧ (id9 = 0 ∨ HSK gm lg o.toNatClampNeg (wKy.getD 10 0)))) (fun _ _ => False) := by
  intro sz
  refine vx_ofW (cc := cX1_begin) (maxL := 3) (ret := none) (by decide) rfl ?_
  intro p e s m args below meth c s₁ B hml hxt hv
  obtain ⟨rfl, hsz, hP, hK, hD0, hG⟩ := hv
  have hx := B.exec
  have hb := B.bytes
  have hr := B.returns
  have hts := atoms_spec (ws := wm_X1_begin) B.pre
  have htb := fun (w : Cond) (h : w ∈ tb) => hts w (List.mem_cons_of_mem _ h)
  have hown : s.vm.findClass RX1 = some m.cls := findClass_of_methodNamed B.named
  have hlocks := B.notSynchronized
  subst hsz
  have hD := hD0.self (sz := s.heap.size)
  generalize hAe : va_A (cW ad cid a2 lx sg gm lg) s.heap.size = A at hD hG ⊢
  have hA : ∀ q : Nat, s.heap.size ≤ q → A q := fun q h => by rw [← hAe]; exact Or.inr h
  have hS : va_S A s.heap s.heap [] := va_S.rf
  have hl := lv_entry ([eV (ad 10) b, eV (ad 9) o, eV (ad 1) pp]) (n := 3) (by rw [show (lg_sl ([eV (ad 10) b, eV (ad 9) o, eV (ad 1) pp])).length = 3 from by simp [lg_sl, eV_cat, cat_i, cat_l]]; exact Nat.le_of_ble_eq_true rfl)
  rw [lg_entry_eq]
  generalize (lg_sl ([eV (ad 10) b, eV (ad 9) o, eV (ad 1) pp]) ++ List.replicate (3 - (lg_sl ([eV (ad 10) b, eV (ad 9) o, eV (ad 1) pp])).length) Slot.unset).toArray = ls at hl ⊢
  have hl : lv_has ls 3 [(0, eV (ad 10) b), (1, eV (ad 9) o), (2, eV (ad 1) pp)] := by simp [lv_args, eV_cat, cat_i, cat_l] at hl; exact hl
  refine ec_aload_n hx hb dX1_begin_0 rfl (lv_at hl 0 rfl) ?_
  refine ec_aload_n hx hb dX1_begin_1 rfl (lv_at hl 1 rfl) ?_
  refine cr_putg (t := 10) (j := 4) (C := RX1) (T := TX1) (N := 19) (ty0 := tyX1) (k := 29) (y := o) hx hb htb inX1 tyX1_ok nmX1 hown hK hP hD hS hvb (by decide) (by decide) (by decide) (by decide) rfl rfl (by decide) (htb _ kw_650) rfl (by show eV (ad 9) o = eV (ad 9) (va_up gm 29 (upd (gm 29) b.toNatClampNeg o) 29 b.toNatClampNeg); rw [va_up_self, upd_at]) (ev_n _) (ev_f _) dX1_begin_2 (fun gm_1 H locs egm_1 hP hD hS => ?_)
  have hI_gm_1 := CI_st hI egm_1 hvo (by decide)
  refine ec_aload_n hx hb dX1_begin_5 rfl (lv_at hl 0 rfl) ?_
  obtain ⟨q_2, hq_2, nq_2, tq_2⟩ := ix_mk (3 * b.toNatClampNeg + 0) 239 (by have q1 := iv_cl hvb (by decide); have q2 := (hvb).2; omega) (by decide)
  refine cr_get (t := 10) (j := 1) (C := RX1) (T := TX1) (N := 19) (v := eV (ad 11) q_2) hx hb htb inX1 hown hK hP hvb (by decide) (by decide) (by decide) rfl (by decide) (htb _ kw_99) (cV_c rfl hq_2.1 nq_2) dX1_begin_6 ?_
  refine cm_callV (t := 11) (C := RJx4a65c) (T := TJx4a65c) (N := 3) (rest := []) (as := []) ⟨hx, hb, hml, hown, htb⟩ (d_lclear l dC dI ad cid a2 lx sg gm_1 lg q_2 hI_gm_1 hq_2 (LDI_e hLD ((show KS [29] gm gm_1 from (KS_up KS_rf egm_1 (by decide))) 41 (by decide)) ((show KS [29] gm gm_1 from (KS_up KS_rf egm_1 (by decide))) 42 (by decide)) ((show KS [29] gm gm_1 from (KS_up KS_rf egm_1 (by decide))) 57 (by decide)))) (cwV 0 htb (gd_V kw_673 kw_674 kw_675 kw_98 kw_1487) rfl rfl rfl (by decide +kernel) ⟨Nat.le_of_ble_eq_true rfl, Nat.le_of_ble_eq_true rfl⟩) hq_2 (by decide) (by decide) rfl rfl hl.1 rfl (Nat.le_trans cs_n (by decide)) dX1_begin_9 ⟨Nat.le_of_ble_eq_true rfl, Nat.le_of_ble_eq_true rfl⟩ hK hP hD hS hA hG (fun E ce q9 u_4 H locs hw hP hD hS hce hcv hcl => ?_) (fun v9 u_4 H locs hw hP hD hS => ?_)
  · exact hw.elim
  obtain ⟨rfl, sgv_5, gmv_5, lgv_5, rfl, hIv_5, ksv_5, kgv_5, klv_5, f41_r_3, f57_r_3, fLD_r_3⟩ := hw
  obtain rfl := KS_nil ksv_5
  obtain rfl := KS_nil klv_5
  have hP : va_P (dC, dI) vwCl (cW ad cid a2 lx sg gmv_5 lg) H := hP
  have hD : va_D A (cW ad cid a2 lx sg gmv_5 lg) := hD
  refine W.eq (g2 := F0 m 12 ls []) rfl ?_
  refine ec_aload_n hx hb dX1_begin_12 rfl (lv_at hl 0 rfl) ?_
  obtain ⟨q_6, hq_6, nq_6, tq_6⟩ := ix_mk (3 * b.toNatClampNeg + 1) 239 (by have q1 := iv_cl hvb (by decide); have q2 := (hvb).2; omega) (by decide)
  refine cr_get (t := 10) (j := 2) (C := RX1) (T := TX1) (N := 19) (v := eV (ad 11) q_6) hx hb htb inX1 hown hK hP hvb (by decide) (by decide) (by decide) rfl (by decide) (htb _ kw_100) (cV_c rfl hq_6.1 nq_6) dX1_begin_13 ?_
  refine cm_callV (t := 11) (C := RJx4a65c) (T := TJx4a65c) (N := 3) (rest := []) (as := []) ⟨hx, hb, hml, hown, htb⟩ (d_lclear l dC dI ad cid a2 lx sg gmv_5 lg q_6 hIv_5 hq_6 fLD_r_3) (cwV 0 htb (gd_V kw_673 kw_674 kw_675 kw_98 kw_1487) rfl rfl rfl (by decide +kernel) ⟨Nat.le_of_ble_eq_true rfl, Nat.le_of_ble_eq_true rfl⟩) hq_6 (by decide) (by decide) rfl rfl hl.1 rfl (Nat.le_trans cs_n (by decide)) dX1_begin_16 ⟨Nat.le_of_ble_eq_true rfl, Nat.le_of_ble_eq_true rfl⟩ hK hP hD hS hA hG (fun E ce q9 u_8 H locs hw hP hD hS hce hcv hcl => ?_) (fun v9 u_8 H locs hw hP hD hS => ?_)
  · exact hw.elim
  obtain ⟨rfl, sgv_9, gmv_9, lgv_9, rfl, hIv_9, ksv_9, kgv_9, klv_9, f41_r_7, f57_r_7, fLD_r_7⟩ := hw
  obtain rfl := KS_nil ksv_9
  obtain rfl := KS_nil klv_9
  have hP : va_P (dC, dI) vwCl (cW ad cid a2 lx sg gmv_9 lg) H := hP
  have hD : va_D A (cW ad cid a2 lx sg gmv_9 lg) := hD
  refine W.eq (g2 := F0 m 19 ls []) rfl ?_
  refine ec_aload_n hx hb dX1_begin_19 rfl (lv_at hl 0 rfl) ?_
  obtain ⟨q_10, hq_10, nq_10, tq_10⟩ := ix_mk (3 * b.toNatClampNeg + 2) 239 (by have q1 := iv_cl hvb (by decide); have q2 := (hvb).2; omega) (by decide)
  refine cr_get (t := 10) (j := 3) (C := RX1) (T := TX1) (N := 19) (v := eV (ad 11) q_10) hx hb htb inX1 hown hK hP hvb (by decide) (by decide) (by decide) rfl (by decide) (htb _ kw_101) (cV_c rfl hq_10.1 nq_10) dX1_begin_20 ?_
  refine cm_callV (t := 11) (C := RJx4a65c) (T := TJx4a65c) (N := 3) (rest := []) (as := []) ⟨hx, hb, hml, hown, htb⟩ (d_lclear l dC dI ad cid a2 lx sg gmv_9 lg q_10 hIv_9 hq_10 fLD_r_7) (cwV 0 htb (gd_V kw_673 kw_674 kw_675 kw_98 kw_1487) rfl rfl rfl (by decide +kernel) ⟨Nat.le_of_ble_eq_true rfl, Nat.le_of_ble_eq_true rfl⟩) hq_10 (by decide) (by decide) rfl rfl hl.1 rfl (Nat.le_trans cs_n (by decide)) dX1_begin_23 ⟨Nat.le_of_ble_eq_true rfl, Nat.le_of_ble_eq_true rfl⟩ hK hP hD hS hA hG (fun E ce q9 u_12 H locs hw hP hD hS hce hcv hcl => ?_) (fun v9 u_12 H locs hw hP hD hS => ?_)
  · exact hw.elim
  obtain ⟨rfl, sgv_13, gmv_13, lgv_13, rfl, hIv_13, ksv_13, kgv_13, klv_13, f41_r_11, f57_r_11, fLD_r_11⟩ := hw
  obtain rfl := KS_nil ksv_13
  obtain rfl := KS_nil klv_13
  have hP : va_P (dC, dI) vwCl (cW ad cid a2 lx sg gmv_13 lg) H := hP
  have hD : va_D A (cW ad cid a2 lx sg gmv_13 lg) := hD
  refine W.eq (g2 := F0 m 26 ls []) rfl ?_
  refine ec_aload_n hx hb dX1_begin_26 rfl (lv_at hl 0 rfl) ?_
  refine ec_aload_n hx hb dX1_begin_27 rfl (lv_at hl 2 rfl) ?_
  refine ec_aload_n hx hb dX1_begin_28 rfl (lv_at hl 1 rfl) ?_
  refine cw_word (k := 10) (kx := 10) hx hb hG hS (by decide) rfl ⟨by decide, by decide⟩ hown (htb _ kw_651) dX1_begin_29 ?_
  refine cm_callV (t := 1) (C := RX6) (T := TX6) (N := 8) (rest := [eV (ad 10) b]) (as := [eV (ad 9) o, eV (ad 33) 10]) ⟨hx, hb, hml, hown, htb⟩ (d_nameValue2 l dC dI ad cid a2 lx sg gmv_13 lg pp o 10 hIv_13 hvpp hvo (iv_w (iv_k (by decide) : iv 10 10 10) (by decide)) (FA_e hFA rfl rfl (Eq.trans (Eq.trans (Eq.trans (kgv_13 19 (by decide)) (kgv_9 19 (by decide))) (kgv_5 19 (by decide))) (up_ne egm_1 (by decide))) (Eq.trans (Eq.trans (Eq.trans (kgv_13 20 (by decide)) (kgv_9 20 (by decide))) (kgv_5 20 (by decide))) (up_ne egm_1 (by decide)))) how (VS_e hVS rfl rfl (Eq.trans (Eq.trans (Eq.trans (kgv_13 44 (by decide)) (kgv_9 44 (by decide))) (kgv_5 44 (by decide))) (up_ne egm_1 (by decide))) (Eq.trans (Eq.trans (Eq.trans (kgv_13 45 (by decide)) (kgv_9 45 (by decide))) (kgv_5 45 (by decide))) (up_ne egm_1 (by decide))))) (cwV 2 htb (gd_V kw_679 kw_583 kw_584 kw_20 kw_1475) rfl rfl rfl (by decide +kernel) ⟨Nat.le_of_ble_eq_true rfl, Nat.le_of_ble_eq_true rfl⟩) hvpp (by decide) (by decide) rfl rfl hl.1 rfl (Nat.le_trans (cs_c (eV_cat _ _) cs_n) (by decide)) dX1_begin_32 ⟨Nat.le_of_ble_eq_true rfl, Nat.le_of_ble_eq_true rfl⟩ hK hP hD hS hA hG (fun E ce q9 u_15 H locs hw hP hD hS hce hcv hcl => ?_) (fun v9 u_15 H locs hw hP hD hS => ?_)
  · exact hw.elim
  obtain ⟨r_14, rfl, rfl, fZ_r_14⟩ := hw
  have hP : va_P (dC, dI) vwCl (cW ad cid a2 lx sg gmv_13 lg) H := hP
  have hD : va_D A (cW ad cid a2 lx sg gmv_13 lg) := hD
  refine W.eq (g2 := F0 m 35 ls [.long r_14, eV (ad 10) b]) rfl ?_
  refine cr_putl (t := 10) (j := 5) (C := RX1) (T := TX1) (N := 19) (ty0 := tyX1) (k := 4) (y := r_14) hx hb htb inX1 tyX1_ok nmX1 hown hK hP hD hS hvb (by decide) (by decide) (by decide) rfl rfl rfl (by decide) (htb _ kw_652) rfl (by show Value.long r_14 = Value.long (va_up lg 4 (vp_updL (lg 4) b.toNatClampNeg r_14) 4 b.toNatClampNeg); rw [va_up_self, pk_uLs]) rfl rfl dX1_begin_35 (fun lg_17 H locs elg_17 hP hD hS => ?_)
  refine ec_aload_n hx hb dX1_begin_38 rfl (lv_at hl 0 rfl) ?_
  refine ec_aload_n hx hb dX1_begin_39 rfl (lv_at hl 2 rfl) ?_
  refine ec_aload_n hx hb dX1_begin_40 rfl (lv_at hl 1 rfl) ?_
  refine cw_word (k := 12) (kx := 12) hx hb hG hS (by decide) rfl ⟨by decide, by decide⟩ hown (htb _ kw_653) dX1_begin_41 ?_
  refine cm_callV (t := 1) (C := RX6) (T := TX6) (N := 8) (rest := [eV (ad 10) b]) (as := [eV (ad 9) o, eV (ad 33) 12]) ⟨hx, hb, hml, hown, htb⟩ (d_nameValue2 l dC dI ad cid a2 lx sg gmv_13 lg_17 pp o 12 hIv_13 hvpp hvo (iv_w (iv_k (by decide) : iv 12 12 12) (by decide)) (FA_e hFA rfl rfl (Eq.trans (Eq.trans (Eq.trans (kgv_13 19 (by decide)) (kgv_9 19 (by decide))) (kgv_5 19 (by decide))) (up_ne egm_1 (by decide))) (Eq.trans (Eq.trans (Eq.trans (kgv_13 20 (by decide)) (kgv_9 20 (by decide))) (kgv_5 20 (by decide))) (up_ne egm_1 (by decide)))) how (VS_e hVS rfl rfl (Eq.trans (Eq.trans (Eq.trans (kgv_13 44 (by decide)) (kgv_9 44 (by decide))) (kgv_5 44 (by decide))) (up_ne egm_1 (by decide))) (Eq.trans (Eq.trans (Eq.trans (kgv_13 45 (by decide)) (kgv_9 45 (by decide))) (kgv_5 45 (by decide))) (up_ne egm_1 (by decide))))) (cwV 2 htb (gd_V kw_679 kw_583 kw_584 kw_20 kw_1475) rfl rfl rfl (by decide +kernel) ⟨Nat.le_of_ble_eq_true rfl, Nat.le_of_ble_eq_true rfl⟩) hvpp (by decide) (by decide) rfl rfl hl.1 rfl (Nat.le_trans (cs_c (eV_cat _ _) cs_n) (by decide)) dX1_begin_44 ⟨Nat.le_of_ble_eq_true rfl, Nat.le_of_ble_eq_true rfl⟩ hK hP hD hS hA hG (fun E ce q9 u_19 H locs hw hP hD hS hce hcv hcl => ?_) (fun v9 u_19 H locs hw hP hD hS => ?_)
  · exact hw.elim
  obtain ⟨r_18, rfl, rfl, fZ_r_18⟩ := hw
  have hP : va_P (dC, dI) vwCl (cW ad cid a2 lx sg gmv_13 lg_17) H := hP
  have hD : va_D A (cW ad cid a2 lx sg gmv_13 lg_17) := hD
  refine W.eq (g2 := F0 m 47 ls [.long r_18, eV (ad 10) b]) rfl ?_
  refine cr_putl (t := 10) (j := 6) (C := RX1) (T := TX1) (N := 19) (ty0 := tyX1) (k := 5) (y := r_18) hx hb htb inX1 tyX1_ok nmX1 hown hK hP hD hS hvb (by decide) (by decide) (by decide) rfl rfl rfl (by decide) (htb _ kw_654) rfl (by show Value.long r_18 = Value.long (va_up lg_17 5 (vp_updL (lg_17 5) b.toNatClampNeg r_18) 5 b.toNatClampNeg); rw [va_up_self, pk_uLs]) rfl rfl dX1_begin_47 (fun lg_21 H locs elg_21 hP hD hS => ?_)
  refine ec_aload_n hx hb dX1_begin_50 rfl (lv_at hl 0 rfl) ?_
  refine ec_aload_n hx hb dX1_begin_51 rfl (lv_at hl 2 rfl) ?_
  refine ec_aload_n hx hb dX1_begin_52 rfl (lv_at hl 1 rfl) ?_
  refine cw_word (k := 20) (kx := 20) hx hb hG hS (by decide) rfl ⟨by decide, by decide⟩ hown (htb _ kw_655) dX1_begin_53 ?_
  refine cm_callV (t := 1) (C := RX6) (T := TX6) (N := 8) (rest := [eV (ad 10) b]) (as := [eV (ad 9) o, eV (ad 33) 20]) ⟨hx, hb, hml, hown, htb⟩ (d_nameValue2 l dC dI ad cid a2 lx sg gmv_13 lg_21 pp o 20 hIv_13 hvpp hvo (iv_w (iv_k (by decide) : iv 20 20 20) (by decide)) (FA_e hFA rfl rfl (Eq.trans (Eq.trans (Eq.trans (kgv_13 19 (by decide)) (kgv_9 19 (by decide))) (kgv_5 19 (by decide))) (up_ne egm_1 (by decide))) (Eq.trans (Eq.trans (Eq.trans (kgv_13 20 (by decide)) (kgv_9 20 (by decide))) (kgv_5 20 (by decide))) (up_ne egm_1 (by decide)))) how (VS_e hVS rfl rfl (Eq.trans (Eq.trans (Eq.trans (kgv_13 44 (by decide)) (kgv_9 44 (by decide))) (kgv_5 44 (by decide))) (up_ne egm_1 (by decide))) (Eq.trans (Eq.trans (Eq.trans (kgv_13 45 (by decide)) (kgv_9 45 (by decide))) (kgv_5 45 (by decide))) (up_ne egm_1 (by decide))))) (cwV 2 htb (gd_V kw_679 kw_583 kw_584 kw_20 kw_1475) rfl rfl rfl (by decide +kernel) ⟨Nat.le_of_ble_eq_true rfl, Nat.le_of_ble_eq_true rfl⟩) hvpp (by decide) (by decide) rfl rfl hl.1 rfl (Nat.le_trans (cs_c (eV_cat _ _) cs_n) (by decide)) dX1_begin_56 ⟨Nat.le_of_ble_eq_true rfl, Nat.le_of_ble_eq_true rfl⟩ hK hP hD hS hA hG (fun E ce q9 u_23 H locs hw hP hD hS hce hcv hcl => ?_) (fun v9 u_23 H locs hw hP hD hS => ?_)
  · exact hw.elim
  obtain ⟨r_22, rfl, rfl, fZ_r_22⟩ := hw
  have hP : va_P (dC, dI) vwCl (cW ad cid a2 lx sg gmv_13 lg_21) H := hP
  have hD : va_D A (cW ad cid a2 lx sg gmv_13 lg_21) := hD
  refine W.eq (g2 := F0 m 59 ls [.long r_22, eV (ad 10) b]) rfl ?_
  refine cr_putl (t := 10) (j := 7) (C := RX1) (T := TX1) (N := 19) (ty0 := tyX1) (k := 6) (y := r_22) hx hb htb inX1 tyX1_ok nmX1 hown hK hP hD hS hvb (by decide) (by decide) (by decide) rfl rfl rfl (by decide) (htb _ kw_656) rfl (by show Value.long r_22 = Value.long (va_up lg_21 6 (vp_updL (lg_21 6) b.toNatClampNeg r_22) 6 b.toNatClampNeg); rw [va_up_self, pk_uLs]) rfl rfl dX1_begin_59 (fun lg_25 H locs elg_25 hP hD hS => ?_)
  refine ec_aload_n hx hb dX1_begin_62 rfl (lv_at hl 0 rfl) ?_
  refine ec_aload_n hx hb dX1_begin_63 rfl (lv_at hl 2 rfl) ?_
  refine ec_aload_n hx hb dX1_begin_64 rfl (lv_at hl 1 rfl) ?_
  refine cw_word (k := 13) (kx := 13) hx hb hG hS (by decide) rfl ⟨by decide, by decide⟩ hown (htb _ kw_657) dX1_begin_65 ?_
  refine cw_word (k := 25) (kx := 25) hx hb hG hS (by decide) rfl ⟨by decide, by decide⟩ hown (htb _ kw_658) dX1_begin_68 ?_
  refine cm_callV (t := 1) (C := RX6) (T := TX6) (N := 8) (rest := [eV (ad 10) b]) (as := [eV (ad 9) o, eV (ad 33) 13, eV (ad 33) 25]) ⟨hx, hb, hml, hown, htb⟩ (d_valueIs l dC dI ad cid a2 lx sg gmv_13 lg_25 pp o 13 25 hIv_13 hvpp hvo (iv_w (iv_k (by decide) : iv 13 13 13) (by decide)) (iv_w (iv_k (by decide) : iv 25 25 25) (by decide)) (FA_e hFA rfl rfl (Eq.trans (Eq.trans (Eq.trans (kgv_13 19 (by decide)) (kgv_9 19 (by decide))) (kgv_5 19 (by decide))) (up_ne egm_1 (by decide))) (Eq.trans (Eq.trans (Eq.trans (kgv_13 20 (by decide)) (kgv_9 20 (by decide))) (kgv_5 20 (by decide))) (up_ne egm_1 (by decide)))) how (VS_e hVS rfl rfl (Eq.trans (Eq.trans (Eq.trans (kgv_13 44 (by decide)) (kgv_9 44 (by decide))) (kgv_5 44 (by decide))) (up_ne egm_1 (by decide))) (Eq.trans (Eq.trans (Eq.trans (kgv_13 45 (by decide)) (kgv_9 45 (by decide))) (kgv_5 45 (by decide))) (up_ne egm_1 (by decide))))) (cwV 3 htb (gd_V kw_680 kw_589 kw_590 kw_20 kw_1477) rfl rfl rfl (by decide +kernel) ⟨Nat.le_of_ble_eq_true rfl, Nat.le_of_ble_eq_true rfl⟩) hvpp (by decide) (by decide) rfl rfl hl.1 rfl (Nat.le_trans (cs_c (eV_cat _ _) cs_n) (by decide)) dX1_begin_71 ⟨Nat.le_of_ble_eq_true rfl, Nat.le_of_ble_eq_true rfl⟩ hK hP hD hS hA hG (fun E ce q9 u_27 H locs hw hP hD hS hce hcv hcl => ?_) (fun v9 u_27 H locs hw hP hD hS => ?_)
  · exact hw.elim
  obtain ⟨r_26, rfl, rfl, hr_26⟩ := hw
  have hP : va_P (dC, dI) vwCl (cW ad cid a2 lx sg gmv_13 lg_25) H := hP
  have hD : va_D A (cW ad cid a2 lx sg gmv_13 lg_25) := hD
  refine W.eq (g2 := F0 m 74 ls [.int r_26, eV (ad 10) b]) rfl ?_
  refine cr_putg (t := 10) (j := 13) (C := RX1) (T := TX1) (N := 19) (ty0 := tyX1) (k := 34) (y := r_26) hx hb htb inX1 tyX1_ok nmX1 hown hK hP hD hS hvb (by decide) (by decide) (by decide) (by decide) rfl rfl (by decide) (htb _ kw_659) rfl (by show Value.int r_26 = Value.int (va_up gmv_13 34 (upd (gmv_13 34) b.toNatClampNeg r_26) 34 b.toNatClampNeg); rw [va_up_self, upd_at]) (iv_nb hr_26) (iv_fb hr_26) dX1_begin_74 (fun gm_29 H locs egm_29 hP hD hS => ?_)
  have hI_gm_29 := CI_st hIv_13 egm_29 hr_26 (by decide)
  refine ec_aload_n hx hb dX1_begin_77 rfl (lv_at hl 0 rfl) ?_
  refine ec_aload_n hx hb dX1_begin_78 rfl (lv_at hl 2 rfl) ?_
  refine ec_aload_n hx hb dX1_begin_79 rfl (lv_at hl 1 rfl) ?_
  refine cw_word (k := 14) (kx := 14) hx hb hG hS (by decide) rfl ⟨by decide, by decide⟩ hown (htb _ kw_660) dX1_begin_80 ?_
  refine cw_word (k := 28) (kx := 28) hx hb hG hS (by decide) rfl ⟨by decide, by decide⟩ hown (htb _ kw_661) dX1_begin_83 ?_
  refine cm_callV (t := 1) (C := RX6) (T := TX6) (N := 8) (rest := [eV (ad 10) b]) (as := [eV (ad 9) o, eV (ad 33) 14, eV (ad 33) 28]) ⟨hx, hb, hml, hown, htb⟩ (d_valueIs l dC dI ad cid a2 lx sg gm_29 lg_25 pp o 14 28 hI_gm_29 hvpp hvo (iv_w (iv_k (by decide) : iv 14 14 14) (by decide)) (iv_w (iv_k (by decide) : iv 28 28 28) (by decide)) (FA_e hFA rfl rfl (Eq.trans (Eq.trans (Eq.trans (Eq.trans (up_ne egm_29 (by decide)) (kgv_13 19 (by decide))) (kgv_9 19 (by decide))) (kgv_5 19 (by decide))) (up_ne egm_1 (by decide))) (Eq.trans (Eq.trans (Eq.trans (Eq.trans (up_ne egm_29 (by decide)) (kgv_13 20 (by decide))) (kgv_9 20 (by decide))) (kgv_5 20 (by decide))) (up_ne egm_1 (by decide)))) how (VS_e hVS rfl rfl (Eq.trans (Eq.trans (Eq.trans (Eq.trans (up_ne egm_29 (by decide)) (kgv_13 44 (by decide))) (kgv_9 44 (by decide))) (kgv_5 44 (by decide))) (up_ne egm_1 (by decide))) (Eq.trans (Eq.trans (Eq.trans (Eq.trans (up_ne egm_29 (by decide)) (kgv_13 45 (by decide))) (kgv_9 45 (by decide))) (kgv_5 45 (by decide))) (up_ne egm_1 (by decide))))) (cwV 3 htb (gd_V kw_680 kw_589 kw_590 kw_20 kw_1477) rfl rfl rfl (by decide +kernel) ⟨Nat.le_of_ble_eq_true rfl, Nat.le_of_ble_eq_true rfl⟩) hvpp (by decide) (by decide) rfl rfl hl.1 rfl (Nat.le_trans (cs_c (eV_cat _ _) cs_n) (by decide)) dX1_begin_86 ⟨Nat.le_of_ble_eq_true rfl, Nat.le_of_ble_eq_true rfl⟩ hK hP hD hS hA hG (fun E ce q9 u_31 H locs hw hP hD hS hce hcv hcl => ?_) (fun v9 u_31 H locs hw hP hD hS => ?_)
  · exact hw.elim
  obtain ⟨r_30, rfl, rfl, hr_30⟩ := hw
  have hP : va_P (dC, dI) vwCl (cW ad cid a2 lx sg gm_29 lg_25) H := hP
  have hD : va_D A (cW ad cid a2 lx sg gm_29 lg_25) := hD
  refine W.eq (g2 := F0 m 89 ls [.int r_30, eV (ad 10) b]) rfl ?_
  refine cr_putg (t := 10) (j := 14) (C := RX1) (T := TX1) (N := 19) (ty0 := tyX1) (k := 35) (y := r_30) hx hb htb inX1 tyX1_ok nmX1 hown hK hP hD hS hvb (by decide) (by decide) (by decide) (by decide) rfl rfl (by decide) (htb _ kw_662) rfl (by show Value.int r_30 = Value.int (va_up gm_29 35 (upd (gm_29 35) b.toNatClampNeg r_30) 35 b.toNatClampNeg); rw [va_up_self, upd_at]) (iv_nb hr_30) (iv_fb hr_30) dX1_begin_89 (fun gm_33 H locs egm_33 hP hD hS => ?_)
  have hI_gm_33 := CI_st hI_gm_29 egm_33 hr_30 (by decide)
  refine ec_aload_n hx hb dX1_begin_92 rfl (lv_at hl 0 rfl) ?_
  refine ec_aload_n hx hb dX1_begin_93 rfl (lv_at hl 2 rfl) ?_
  refine ec_aload_n hx hb dX1_begin_94 rfl (lv_at hl 1 rfl) ?_
  refine cw_word (k := 15) (kx := 15) hx hb hG hS (by decide) rfl ⟨by decide, by decide⟩ hown (htb _ kw_663) dX1_begin_95 ?_
  refine cw_word (k := 25) (kx := 25) hx hb hG hS (by decide) rfl ⟨by decide, by decide⟩ hown (htb _ kw_658) dX1_begin_98 ?_
  refine cm_callV (t := 1) (C := RX6) (T := TX6) (N := 8) (rest := [eV (ad 10) b]) (as := [eV (ad 9) o, eV (ad 33) 15, eV (ad 33) 25]) ⟨hx, hb, hml, hown, htb⟩ (d_valueIs l dC dI ad cid a2 lx sg gm_33 lg_25 pp o 15 25 hI_gm_33 hvpp hvo (iv_w (iv_k (by decide) : iv 15 15 15) (by decide)) (iv_w (iv_k (by decide) : iv 25 25 25) (by decide)) (FA_e hFA rfl rfl (Eq.trans (Eq.trans (Eq.trans (Eq.trans (Eq.trans (up_ne egm_33 (by decide)) (up_ne egm_29 (by decide))) (kgv_13 19 (by decide))) (kgv_9 19 (by decide))) (kgv_5 19 (by decide))) (up_ne egm_1 (by decide))) (Eq.trans (Eq.trans (Eq.trans (Eq.trans (Eq.trans (up_ne egm_33 (by decide)) (up_ne egm_29 (by decide))) (kgv_13 20 (by decide))) (kgv_9 20 (by decide))) (kgv_5 20 (by decide))) (up_ne egm_1 (by decide)))) how (VS_e hVS rfl rfl (Eq.trans (Eq.trans (Eq.trans (Eq.trans (Eq.trans (up_ne egm_33 (by decide)) (up_ne egm_29 (by decide))) (kgv_13 44 (by decide))) (kgv_9 44 (by decide))) (kgv_5 44 (by decide))) (up_ne egm_1 (by decide))) (Eq.trans (Eq.trans (Eq.trans (Eq.trans (Eq.trans (up_ne egm_33 (by decide)) (up_ne egm_29 (by decide))) (kgv_13 45 (by decide))) (kgv_9 45 (by decide))) (kgv_5 45 (by decide))) (up_ne egm_1 (by decide))))) (cwV 3 htb (gd_V kw_680 kw_589 kw_590 kw_20 kw_1477) rfl rfl rfl (by decide +kernel) ⟨Nat.le_of_ble_eq_true rfl, Nat.le_of_ble_eq_true rfl⟩) hvpp (by decide) (by decide) rfl rfl hl.1 rfl (Nat.le_trans (cs_c (eV_cat _ _) cs_n) (by decide)) dX1_begin_101 ⟨Nat.le_of_ble_eq_true rfl, Nat.le_of_ble_eq_true rfl⟩ hK hP hD hS hA hG (fun E ce q9 u_35 H locs hw hP hD hS hce hcv hcl => ?_) (fun v9 u_35 H locs hw hP hD hS => ?_)
  · exact hw.elim
  obtain ⟨r_34, rfl, rfl, hr_34⟩ := hw
  have hP : va_P (dC, dI) vwCl (cW ad cid a2 lx sg gm_33 lg_25) H := hP
  have hD : va_D A (cW ad cid a2 lx sg gm_33 lg_25) := hD
  refine W.eq (g2 := F0 m 104 ls [.int r_34, eV (ad 10) b]) rfl ?_
  refine cr_putg (t := 10) (j := 15) (C := RX1) (T := TX1) (N := 19) (ty0 := tyX1) (k := 36) (y := r_34) hx hb htb inX1 tyX1_ok nmX1 hown hK hP hD hS hvb (by decide) (by decide) (by decide) (by decide) rfl rfl (by decide) (htb _ kw_664) rfl (by show Value.int r_34 = Value.int (va_up gm_33 36 (upd (gm_33 36) b.toNatClampNeg r_34) 36 b.toNatClampNeg); rw [va_up_self, upd_at]) (iv_nb hr_34) (iv_fb hr_34) dX1_begin_104 (fun gm_37 H locs egm_37 hP hD hS => ?_)
  have hI_gm_37 := CI_st hI_gm_33 egm_37 hr_34 (by decide)
  refine ec_aload_n hx hb dX1_begin_107 rfl (lv_at hl 0 rfl) ?_
  refine lv_lconst (v := 0) hx hb dX1_begin_108 (by decide) ?_
  refine cr_putl (t := 10) (j := 8) (C := RX1) (T := TX1) (N := 19) (ty0 := tyX1) (k := 7) (y := 0) hx hb htb inX1 tyX1_ok nmX1 hown hK hP hD hS hvb (by decide) (by decide) (by decide) rfl rfl rfl (by decide) (htb _ kw_665) rfl (by show Value.long 0 = Value.long (va_up lg_25 7 (vp_updL (lg_25 7) b.toNatClampNeg 0) 7 b.toNatClampNeg); rw [va_up_self, pk_uLs]) rfl rfl dX1_begin_109 (fun lg_38 H locs elg_38 hP hD hS => ?_)
  refine ec_aload_n hx hb dX1_begin_112 rfl (lv_at hl 0 rfl) ?_
  refine lv_iconst (v := (-1)) hx hb dX1_begin_113 (by decide) ?_
  refine cr_putg (t := 10) (j := 9) (C := RX1) (T := TX1) (N := 19) (ty0 := tyX1) (k := 30) (y := (-1)) hx hb htb inX1 tyX1_ok nmX1 hown hK hP hD hS hvb (by decide) (by decide) (by decide) (by decide) rfl rfl (by decide) (htb _ kw_666) rfl (by show Value.int (-1) = Value.int (va_up gm_37 30 (upd (gm_37 30) b.toNatClampNeg (-1)) 30 b.toNatClampNeg); rw [va_up_self, upd_at]) rfl rfl dX1_begin_114 (fun gm_39 H locs egm_39 hP hD hS => ?_)
  have hI_gm_39 := CI_st hI_gm_37 egm_39 (iv_k (by decide) : iv (-1) (-1) (-1)) (by decide)
  refine ec_aload_n hx hb dX1_begin_117 rfl (lv_at hl 0 rfl) ?_
  refine lv_iconst (v := (-1)) hx hb dX1_begin_118 (by decide) ?_
  refine cr_putg (t := 10) (j := 10) (C := RX1) (T := TX1) (N := 19) (ty0 := tyX1) (k := 31) (y := (-1)) hx hb htb inX1 tyX1_ok nmX1 hown hK hP hD hS hvb (by decide) (by decide) (by decide) (by decide) rfl rfl (by decide) (htb _ kw_667) rfl (by show Value.int (-1) = Value.int (va_up gm_39 31 (upd (gm_39 31) b.toNatClampNeg (-1)) 31 b.toNatClampNeg); rw [va_up_self, upd_at]) rfl rfl dX1_begin_119 (fun gm_40 H locs egm_40 hP hD hS => ?_)
  have hI_gm_40 := CI_st hI_gm_39 egm_40 (iv_k (by decide) : iv (-1) (-1) (-1)) (by decide)
  refine ec_aload_n hx hb dX1_begin_122 rfl (lv_at hl 0 rfl) ?_
  refine lv_iconst (v := (-1)) hx hb dX1_begin_123 (by decide) ?_
  refine cr_putg (t := 10) (j := 11) (C := RX1) (T := TX1) (N := 19) (ty0 := tyX1) (k := 32) (y := (-1)) hx hb htb inX1 tyX1_ok nmX1 hown hK hP hD hS hvb (by decide) (by decide) (by decide) (by decide) rfl rfl (by decide) (htb _ kw_668) rfl (by show Value.int (-1) = Value.int (va_up gm_40 32 (upd (gm_40 32) b.toNatClampNeg (-1)) 32 b.toNatClampNeg); rw [va_up_self, upd_at]) rfl rfl dX1_begin_124 (fun gm_41 H locs egm_41 hP hD hS => ?_)
  have hI_gm_41 := CI_st hI_gm_40 egm_41 (iv_k (by decide) : iv (-1) (-1) (-1)) (by decide)
  refine ec_aload_n hx hb dX1_begin_127 rfl (lv_at hl 0 rfl) ?_
  refine lv_iconst (v := (-1)) hx hb dX1_begin_128 (by decide) ?_
  refine cr_putg (t := 10) (j := 12) (C := RX1) (T := TX1) (N := 19) (ty0 := tyX1) (k := 33) (y := (-1)) hx hb htb inX1 tyX1_ok nmX1 hown hK hP hD hS hvb (by decide) (by decide) (by decide) (by decide) rfl rfl (by decide) (htb _ kw_669) rfl (by show Value.int (-1) = Value.int (va_up gm_41 33 (upd (gm_41 33) b.toNatClampNeg (-1)) 33 b.toNatClampNeg); rw [va_up_self, upd_at]) rfl rfl dX1_begin_129 (fun gm_42 H locs egm_42 hP hD hS => ?_)
  have hI_gm_42 := CI_st hI_gm_41 egm_42 (iv_k (by decide) : iv (-1) (-1) (-1)) (by decide)
  refine ec_aload_n hx hb dX1_begin_132 rfl (lv_at hl 0 rfl) ?_
  refine lv_iconst (v := 0) hx hb dX1_begin_133 (by decide) ?_
  refine cr_putg (t := 10) (j := 16) (C := RX1) (T := TX1) (N := 19) (ty0 := tyX1) (k := 37) (y := 0) hx hb htb inX1 tyX1_ok nmX1 hown hK hP hD hS hvb (by decide) (by decide) (by decide) (by decide) rfl rfl (by decide) (htb _ kw_670) rfl (by show Value.int 0 = Value.int (va_up gm_42 37 (upd (gm_42 37) b.toNatClampNeg 0) 37 b.toNatClampNeg); rw [va_up_self, upd_at]) (iv_nb (iv_w (iv_k (by decide) : iv 0 0 0) (by decide))) (iv_fb (iv_w (iv_k (by decide) : iv 0 0 0) (by decide))) dX1_begin_134 (fun gm_43 H locs egm_43 hP hD hS => ?_)
  have hI_gm_43 := CI_st hI_gm_42 egm_43 (iv_k (by decide) : iv 0 0 0) (by decide)
  refine ec_aload_n hx hb dX1_begin_137 rfl (lv_at hl 0 rfl) ?_
  refine lv_iconst (v := 0) hx hb dX1_begin_138 (by decide) ?_
  refine cr_putg (t := 10) (j := 17) (C := RX1) (T := TX1) (N := 19) (ty0 := tyX1) (k := 38) (y := 0) hx hb htb inX1 tyX1_ok nmX1 hown hK hP hD hS hvb (by decide) (by decide) (by decide) (by decide) rfl rfl (by decide) (htb _ kw_671) rfl (by show Value.int 0 = Value.int (va_up gm_43 38 (upd (gm_43 38) b.toNatClampNeg 0) 38 b.toNatClampNeg); rw [va_up_self, upd_at]) (iv_nb (iv_w (iv_k (by decide) : iv 0 0 0) (by decide))) (iv_fb (iv_w (iv_k (by decide) : iv 0 0 0) (by decide))) dX1_begin_139 (fun gm_44 H locs egm_44 hP hD hS => ?_)
  have hI_gm_44 := CI_st hI_gm_43 egm_44 (iv_k (by decide) : iv 0 0 0) (by decide)
  refine ec_aload_n hx hb dX1_begin_142 rfl (lv_at hl 0 rfl) ?_
  refine lv_iconst (v := (-1)) hx hb dX1_begin_143 (by decide) ?_
  refine cr_putg (t := 10) (j := 18) (C := RX1) (T := TX1) (N := 19) (ty0 := tyX1) (k := 39) (y := (-1)) hx hb htb inX1 tyX1_ok nmX1 hown hK hP hD hS hvb (by decide) (by decide) (by decide) (by decide) rfl rfl (by decide) (htb _ kw_672) rfl (by show Value.int (-1) = Value.int (va_up gm_44 39 (upd (gm_44 39) b.toNatClampNeg (-1)) 39 b.toNatClampNeg); rw [va_up_self, upd_at]) rfl rfl dX1_begin_144 (fun gm_45 H locs egm_45 hP hD hS => ?_)
  have hI_gm_45 := CI_st hI_gm_44 egm_45 (iv_k (by decide) : iv (-1) (-1) (-1)) (by decide)
  exact W.nb (fun hN => W.widen (k := 1) (n := 6) (by decide) (by decide) (vx_ret (W.vret hx hb hr (fun t ht hW => ⟨⟨none, (sg, gm_45, lg_38), rfl, ⟨rfl, sg, gm_45, lg_38, rfl, hI_gm_45, KS_rf, (KS_up (KS_up (KS_up (KS_up (KS_up (KS_up (KS_up (KS_up (KS_up (KS_up (KS_tr (L := [29, 30, 31, 32, 33, 34, 35, 36, 37, 38, 39, 40, 41, 57]) (KS_tr (L := [29, 30, 31, 32, 33, 34, 35, 36, 37, 38, 39, 40, 41, 57]) (KS_tr (L := [29, 30, 31, 32, 33, 34, 35, 36, 37, 38, 39, 40, 41, 57]) (KS_up KS_rf egm_1 (by decide)) kgv_5 (by decide)) kgv_9 (by decide)) kgv_13 (by decide)) egm_29 (by decide)) egm_33 (by decide)) egm_37 (by decide)) egm_39 (by decide)) egm_40 (by decide)) egm_41 (by decide)) egm_42 (by decide)) egm_43 (by decide)) egm_44 (by decide)) egm_45 (by decide)), (KS_up (KS_up (KS_up (KS_up KS_rf elg_17 (by decide)) elg_21 (by decide)) elg_25 (by decide)) elg_38 (by decide)), ((show gm_45 29 = upd (gm 29) (b : Int32).toNatClampNeg o from ((up_ne egm_45 (by decide)).trans ((up_ne egm_44 (by decide)).trans ((up_ne egm_43 (by decide)).trans ((up_ne egm_42 (by decide)).trans ((up_ne egm_41 (by decide)).trans ((up_ne egm_40 (by decide)).trans ((up_ne egm_39 (by decide)).trans ((up_ne egm_37 (by decide)).trans ((up_ne egm_33 (by decide)).trans ((up_ne egm_29 (by decide)).trans ((kgv_13 29 (by decide)).trans ((kgv_9 29 (by decide)).trans ((kgv_5 29 (by decide)).trans ((up_at egm_1).trans (by rw [show gm 29 = gm 29 from rfl]))))))))))))))))), ((show gm_45 37 = upd (gm 37) (b : Int32).toNatClampNeg 0 from ((up_ne egm_45 (by decide)).trans ((up_ne egm_44 (by decide)).trans ((up_at egm_43).trans (by rw [show gm_42 37 = gm 37 from ((up_ne egm_42 (by decide)).trans ((up_ne egm_41 (by decide)).trans ((up_ne egm_40 (by decide)).trans ((up_ne egm_39 (by decide)).trans ((up_ne egm_37 (by decide)).trans ((up_ne egm_33 (by decide)).trans ((up_ne egm_29 (by decide)).trans ((kgv_13 37 (by decide)).trans ((kgv_9 37 (by decide)).trans ((kgv_5 37 (by decide)).trans ((up_ne egm_1 (by decide)).trans rfl)))))))))))])))))), ((show gm_45 38 = upd (gm 38) (b : Int32).toNatClampNeg 0 from ((up_ne egm_45 (by decide)).trans ((up_at egm_44).trans (by rw [show gm_43 38 = gm 38 from ((up_ne egm_43 (by decide)).trans ((up_ne egm_42 (by decide)).trans ((up_ne egm_41 (by decide)).trans ((up_ne egm_40 (by decide)).trans ((up_ne egm_39 (by decide)).trans ((up_ne egm_37 (by decide)).trans ((up_ne egm_33 (by decide)).trans ((up_ne egm_29 (by decide)).trans ((kgv_13 38 (by decide)).trans ((kgv_9 38 (by decide)).trans ((kgv_5 38 (by decide)).trans ((up_ne egm_1 (by decide)).trans rfl))))))))))))]))))), ((show gm_45 39 = upd (gm 39) (b : Int32).toNatClampNeg (-1) from ((up_at egm_45).trans (by rw [show gm_44 39 = gm 39 from ((up_ne egm_44 (by decide)).trans ((up_ne egm_43 (by decide)).trans ((up_ne egm_42 (by decide)).trans ((up_ne egm_41 (by decide)).trans ((up_ne egm_40 (by decide)).trans ((up_ne egm_39 (by decide)).trans ((up_ne egm_37 (by decide)).trans ((up_ne egm_33 (by decide)).trans ((up_ne egm_29 (by decide)).trans ((kgv_13 39 (by decide)).trans ((kgv_9 39 (by decide)).trans ((kgv_5 39 (by decide)).trans ((up_ne egm_1 (by decide)).trans rfl)))))))))))))])))), ((by rw [show gm_45 41 = gmv_13 41 from (show KS [30, 31, 32, 33, 34, 35, 36, 37, 38, 39] gmv_13 gm_45 from (KS_up (KS_up (KS_up (KS_up (KS_up (KS_up (KS_up (KS_up (KS_up (KS_up KS_rf egm_29 (by decide)) egm_33 (by decide)) egm_37 (by decide)) egm_39 (by decide)) egm_40 (by decide)) egm_41 (by decide)) egm_42 (by decide)) egm_43 (by decide)) egm_44 (by decide)) egm_45 (by decide))) 41 (by decide), f41_r_11, f41_r_7, f41_r_3, show gm_1 41 = gm 41 from (show KS [29] gm gm_1 from (KS_up KS_rf egm_1 (by decide))) 41 (by decide), nq_2, nq_6, nq_10])), ((LDI_e fLD_r_11 ((show KS [30, 31, 32, 33, 34, 35, 36, 37, 38, 39] gmv_13 gm_45 from (KS_up (KS_up (KS_up (KS_up (KS_up (KS_up (KS_up (KS_up (KS_up (KS_up KS_rf egm_29 (by decide)) egm_33 (by decide)) egm_37 (by decide)) egm_39 (by decide)) egm_40 (by decide)) egm_41 (by decide)) egm_42 (by decide)) egm_43 (by decide)) egm_44 (by decide)) egm_45 (by decide))) 41 (by decide)) ((show KS [30, 31, 32, 33, 34, 35, 36, 37, 38, 39] gmv_13 gm_45 from (KS_up (KS_up (KS_up (KS_up (KS_up (KS_up (KS_up (KS_up (KS_up (KS_up KS_rf egm_29 (by decide)) egm_33 (by decide)) egm_37 (by decide)) egm_39 (by decide)) egm_40 (by decide)) egm_41 (by decide)) egm_42 (by decide)) egm_43 (by decide)) egm_44 (by decide)) egm_45 (by decide))) 42 (by decide)) ((show KS [30, 31, 32, 33, 34, 35, 36, 37, 38, 39] gmv_13 gm_45 from (KS_up (KS_up (KS_up (KS_up (KS_up (KS_up (KS_up (KS_up (KS_up (KS_up KS_rf egm_29 (by decide)) egm_33 (by decide)) egm_37 (by decide)) egm_39 (by decide)) egm_40 (by decide)) egm_41 (by decide)) egm_42 (by decide)) egm_43 (by decide)) egm_44 (by decide)) egm_45 (by decide))) 57 (by decide)))), (⟨r_14, (show lg_38 4 = vp_updL (lg 4) (b : Int32).toNatClampNeg r_14 from ((up_ne elg_38 (by decide)).trans ((up_ne elg_25 (by decide)).trans ((up_ne elg_21 (by decide)).trans ((up_at elg_17).trans (by rw [show lg 4 = lg 4 from rfl])))))), fZ_r_14.imp id (fun q9 => HSK_e q9 (show gmv_13 19 = gm 19 from (Eq.trans (Eq.trans (Eq.trans (kgv_13 19 (by decide)) (kgv_9 19 (by decide))) (kgv_5 19 (by decide))) (up_ne egm_1 (by decide)))).symm (show gmv_13 20 = gm 20 from (Eq.trans (Eq.trans (Eq.trans (kgv_13 20 (by decide)) (kgv_9 20 (by decide))) (kgv_5 20 (by decide))) (up_ne egm_1 (by decide)))).symm rfl)⟩)⟩, by rw [ht]; exact hP, va_K.moved hW.alike hK, hD⟩, hS.F ht, by rw [ht]; exact hN⟩) hS.2.2 dX1_begin_147)))
