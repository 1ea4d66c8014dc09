section
set_option maxHeartbeats 4000000 in
set_option maxRecDepth 100000 in
theorem d_textAsNumber9 (l : Launch) (dC : Nat → ClassId) (dI : Nat → Nat → Nat) (ad : Nat → Nat → Nat) (cid : Nat → ClassId) (a2 : Nat → Nat) (lx : List Nat) (sg : Nat → Int32) (gm : Nat → Nat → Int32) (lg : Nat → Nat → Int64) (x : Int32) (C9 : List Int) (hI : CI sg gm) (hvx : iv 0 79 x) (hC : CTX gm x.toNatClampNeg C9) : CMt dC dI ad cid a2 lx l yX3_textAsNumber wm_X3_textAsNumber ({ frames := 0, cells := 1, slots := 6, locals := 0 }) [eV (ad 9) x] sg gm lg (fun v u => ∃ r : Int64, v = some (.long r) ∧ u = (sg, gm, lg) ∧ (r.toInt = (nuL C9).getD 1099511627776)) (fun _ _ => False) := by
  intro sz
  refine vx_ofW (cc := cX3_textAsNumber) (maxL := 7) (ret := (some .long)) (by decide) rfl ?_
  intro p e s m args below meth c s₁ B hml hxt hv
  obtain ⟨rfl, hsz, hP, hK, hD0, hG⟩ := hv
  have hx := B.exec
  have hb := B.bytes
  have hr := B.returns
  have hts := atoms_spec (ws := wm_X3_textAsNumber) B.pre
  have htb := fun (w : Cond) (h : w ∈ tb) => hts w (List.mem_cons_of_mem _ h)
  have hown : s.vm.findClass RX3 = some m.cls := findClass_of_methodNamed B.named
  have hlocks := B.notSynchronized
  subst hsz
  have hD := hD0.self (sz := s.heap.size)
  generalize hAe : va_A (cW ad cid a2 lx sg gm lg) s.heap.size = A at hD hG ⊢
  have hA : ∀ q : Nat, s.heap.size ≤ q → A q := fun q h => by rw [← hAe]; exact Or.inr h
  have hS : va_S A s.heap s.heap [] := va_S.rf
  have hl := lv_entry ([eV (ad 9) x]) (n := 7) (by rw [show (lg_sl ([eV (ad 9) x])).length = 1 from by simp [lg_sl, eV_cat, cat_i, cat_l]]; exact Nat.le_of_ble_eq_true rfl)
  rw [lg_entry_eq]
  generalize (lg_sl ([eV (ad 9) x]) ++ List.replicate (7 - (lg_sl ([eV (ad 9) x])).length) Slot.unset).toArray = ls at hl ⊢
  have hl : lv_has ls 7 [(0, eV (ad 9) x)] := by simp [lv_args, eV_cat, cat_i, cat_l] at hl; exact hl
  have hj51 : ∀ (n : Nat) (x5_51 : Int32) (x3_51 : Int64) (x2_51 : Int32) (x1_51 : Int32) (_ : (24 - x5_51.toInt).toNat = n) (_ : iv 0 24 x5_51) (_ : iv 1 10 x2_51) (_ : iv 0 1 x1_51) (_ : iv 0 79 x) (_ : x1_51.toInt = (fr9 C9 : Int)) (_ : DG9 C9 x5_51.toNatClampNeg x3_51.toInt) (H : Heap) (locs : List Loc) (ls : Array Slot), va_P (dC, dI) vwCl (cW ad cid a2 lx sg gm lg) H → va_D A (cW ad cid a2 lx sg gm lg) → va_S A s.heap H locs → lv_has ls 7 [(5, .int x5_51), (3, .long x3_51), (2, .int x2_51), (1, .int x1_51), (0, eV (ad 9) x)] → W p l e (headSpec wm_X3_textAsNumber ({ frames := 0, cells := 1, slots := 6, locals := 0 })).room s m ([eV (ad 9) x] : List Value).toArray below meth c H locs 0 0 (vx_MQ below (cQx dC dI ad cid a2 lx (fun v u => ∃ r : Int64, v = some (.long r) ∧ u = (sg, gm, lg) ∧ (r.toInt = (nuL C9).getD 1099511627776)) A) (cX dC dI ad cid a2 lx (fun _ _ => False) A) ([eV (ad 9) x] : List Value).toArray s 1 6 A) (F0 m 51 ls []) := by
    intro n
    induction n using Nat.strongRecOn with
    | ind n ih51 =>
      intro x5_51 x3_51 x2_51 x1_51 hn51 hx5_51 hx2_51 hx1_51 hsx0_51 hF hDg H locs ls hP hD hS hl
      refine lv_iload hx hb dX3_textAsNumber_51 (lv_at hl 0 rfl) ?_
      refine ec_aload_n hx hb dX3_textAsNumber_53 rfl (lv_at hl 4 rfl) ?_
      refine cr_get (t := 9) (j := 1) (C := RX3) (T := TX3) (N := 21) (v := .int (gm 11 x.toNatClampNeg)) hx hb htb inX3 hown hK hP hsx0_51 (by decide) (by decide) (by decide) rfl (by decide) (htb _ kw_381) rfl dX3_textAsNumber_54 ?_
      obtain ⟨z_1, ez_1⟩ : ∃ z : Int32, z = (gm 11 x.toNatClampNeg) := ⟨_, rfl⟩
      refine W.eq (g2 := F0 m 57 ls [.int z_1, .int x5_51]) (by rw [ez_1]) ?_
      have hz_1 : iv 0 24 z_1 := iv_of ez_1 (CI_a hI 11 hsx0_51 (by decide))
      refine lv_icmp_ge (tgt := 112) hx hb dX3_textAsNumber_57 (by decide) (fun c_2 => ?_) (fun c_2 => ?_)
      · have d_3 : (z_1 : Int32).toInt ≤ (x5_51 : Int32).toInt := Int32.le_iff_toInt_le.mp c_2
        refine lv_iload_n hx hb dX3_textAsNumber_112 rfl (lv_at hl 3 rfl) ?_
        refine lv_iconst (v := 1) hx hb dX3_textAsNumber_113 (by decide) ?_
        refine lv_icmp_ne (tgt := 122) hx hb dX3_textAsNumber_114 (by decide) (fun c_4 => ?_) (fun c_4 => ?_)
        · have h_5 : iv 0 0 x1_51 := iv_neH c_4 hx1_51 (by decide)
          refine lv_lload_n hx hb dX3_textAsNumber_122 rfl (lv_at hl 1 rfl) ?_
          refine lv_lstore (i := 5) (lv' := [(5, .long x3_51), (3, .long x3_51), (2, .int x2_51), (1, .int x1_51), (0, eV (ad 9) x)]) hx hb dX3_textAsNumber_123 hl (by decide) rfl (fun ls hl => ?_)
          refine lv_lload hx hb dX3_textAsNumber_125 (lv_at hl 0 rfl) ?_
          refine lv_lload hx hb dX3_textAsNumber_127 (lv_at hl 0 rfl) ?_
          refine lv_l2i (v := (x3_51).toInt32) hx hb dX3_textAsNumber_129 rfl ?_
          refine lv_topi (fun z_6 ez_6 => ?_)
          refine lv_i2l (v := (z_6 : Int32).toInt64) hx hb dX3_textAsNumber_130 rfl ?_
          refine lv_topl (fun z_7 ez_7 => ?_)
          refine W.lcmp hx hb dX3_textAsNumber_131 ?_
          refine lv_topi (fun z_8 ez_8 => ?_)
          have hz_8 : iv (-1) 1 z_8 := iv_of ez_8 (iv_cmp _ _)
          refine lv_if_ne (tgt := 140) hx hb dX3_textAsNumber_132 (by decide) (fun c_9 => ?_) (fun c_9 => ?_)
          · have d_10 : ¬ (z_8 : Int32).toInt = 0 := lv_neT c_9 rfl
            refine lv_ldc2 (own := RX3) (v := 1099511627776) hx hb hown (htb _ kw_396) dX3_textAsNumber_140 ?_
            exact W.nb (fun hN => W.widen (k := 1) (n := 6) (by decide) (by decide) (vx_ret (W.lret (v := 1099511627776) hx hb hr (fun t ht hW => ⟨⟨some (.long 1099511627776), (sg, gm, lg), rfl, ⟨1099511627776, rfl, rfl, (((nu_p hDg (by have q1 : x5_51.toNatClampNeg = x5_51.toInt.toNat := rfl; have := hC.1; have := hC.2.1; have := congrArg Int32.toInt ez_1; have := i32_0; have := i32_1; have := i32_2; have := i32_m1; have := (hsx0_51).1; have := (hsx0_51).2; have := (hx5_51).1; have := (hx5_51).2; have := (hx2_51).1; have := (hx2_51).2; have := (h_5).1; have := (h_5).2; have := (hz_1).1; have := (hz_1).2; have := (hz_8).1; have := (hz_8).2; omega) (by have := hF; have := i32_0; have := i32_1; have := i32_2; have := i32_m1; have := (hsx0_51).1; have := (hsx0_51).2; have := (hx5_51).1; have := (hx5_51).2; have := (hx2_51).1; have := (hx2_51).2; have := (h_5).1; have := (h_5).2; have := (hz_1).1; have := (hz_1).2; have := (hz_8).1; have := (hz_8).2; omega) rfl ez_6 ez_7 ez_8).2 (by have := i32_0; have := i32_1; have := i32_2; have := i32_m1; have := (hsx0_51).1; have := (hsx0_51).2; have := (hx5_51).1; have := (hx5_51).2; have := (hx2_51).1; have := (hx2_51).2; have := (h_5).1; have := (h_5).2; have := (hz_1).1; have := (hz_1).2; have := (hz_8).1; have := (hz_8).2; omega)))⟩, by rw [ht]; exact hP, va_K.moved hW.alike hK, hD⟩, hS.F ht, by rw [ht]; exact hN⟩) hS.2.2 dX3_textAsNumber_143)))
          · have h_11 : iv 0 0 z_8 := iv_eq c_9 hz_8 (iv_k (by decide) : iv 0 0 0) (by decide)
            refine lv_lload hx hb dX3_textAsNumber_135 (lv_at hl 0 rfl) ?_
            refine lv_goto (tgt := 143) hx hb dX3_textAsNumber_137 (by decide) ?_
            exact W.nb (fun hN => W.widen (k := 1) (n := 6) (by decide) (by decide) (vx_ret (W.lret (v := x3_51) hx hb hr (fun t ht hW => ⟨⟨some (.long x3_51), (sg, gm, lg), rfl, ⟨x3_51, rfl, rfl, (((nu_p hDg (by have q1 : x5_51.toNatClampNeg = x5_51.toInt.toNat := rfl; have := hC.1; have := hC.2.1; have := congrArg Int32.toInt ez_1; have := i32_0; have := i32_1; have := i32_2; have := i32_m1; have := (hsx0_51).1; have := (hsx0_51).2; have := (hx5_51).1; have := (hx5_51).2; have := (hx2_51).1; have := (hx2_51).2; have := (h_5).1; have := (h_5).2; have := (hz_1).1; have := (hz_1).2; have := (h_11).1; have := (h_11).2; omega) (by have := hF; have := i32_0; have := i32_1; have := i32_2; have := i32_m1; have := (hsx0_51).1; have := (hsx0_51).2; have := (hx5_51).1; have := (hx5_51).2; have := (hx2_51).1; have := (hx2_51).2; have := (h_5).1; have := (h_5).2; have := (hz_1).1; have := (hz_1).2; have := (h_11).1; have := (h_11).2; omega) rfl ez_6 ez_7 ez_8).1 (by have := i32_0; have := i32_1; have := i32_2; have := i32_m1; have := (hsx0_51).1; have := (hsx0_51).2; have := (hx5_51).1; have := (hx5_51).2; have := (hx2_51).1; have := (hx2_51).2; have := (h_5).1; have := (h_5).2; have := (hz_1).1; have := (hz_1).2; have := (h_11).1; have := (h_11).2; omega)))⟩, by rw [ht]; exact hP, va_K.moved hW.alike hK, hD⟩, hS.F ht, by rw [ht]; exact hN⟩) hS.2.2 dX3_textAsNumber_143)))
        · have h_12 : iv 1 1 x1_51 := iv_eq c_4 hx1_51 (iv_k (by decide) : iv 1 1 1) (by decide)
          refine lv_lload_n hx hb dX3_textAsNumber_117 rfl (lv_at hl 1 rfl) ?_
          refine lv_lneg hx hb dX3_textAsNumber_118 ?_
          refine lv_topl (fun z_13 ez_13 => ?_)
          refine lv_goto (tgt := 123) hx hb dX3_textAsNumber_119 (by decide) ?_
          refine lv_lstore (i := 5) (lv' := [(5, .long z_13), (3, .long x3_51), (2, .int x2_51), (1, .int x1_51), (0, eV (ad 9) x)]) hx hb dX3_textAsNumber_123 hl (by decide) rfl (fun ls hl => ?_)
          refine lv_lload hx hb dX3_textAsNumber_125 (lv_at hl 0 rfl) ?_
          refine lv_lload hx hb dX3_textAsNumber_127 (lv_at hl 0 rfl) ?_
          refine lv_l2i (v := (z_13).toInt32) hx hb dX3_textAsNumber_129 rfl ?_
          refine lv_topi (fun z_14 ez_14 => ?_)
          refine lv_i2l (v := (z_14 : Int32).toInt64) hx hb dX3_textAsNumber_130 rfl ?_
          refine lv_topl (fun z_15 ez_15 => ?_)
          refine W.lcmp hx hb dX3_textAsNumber_131 ?_
          refine lv_topi (fun z_16 ez_16 => ?_)
          have hz_16 : iv (-1) 1 z_16 := iv_of ez_16 (iv_cmp _ _)
          refine lv_if_ne (tgt := 140) hx hb dX3_textAsNumber_132 (by decide) (fun c_17 => ?_) (fun c_17 => ?_)
          · have d_18 : ¬ (z_16 : Int32).toInt = 0 := lv_neT c_17 rfl
            refine lv_ldc2 (own := RX3) (v := 1099511627776) hx hb hown (htb _ kw_396) dX3_textAsNumber_140 ?_
            exact W.nb (fun hN => W.widen (k := 1) (n := 6) (by decide) (by decide) (vx_ret (W.lret (v := 1099511627776) hx hb hr (fun t ht hW => ⟨⟨some (.long 1099511627776), (sg, gm, lg), rfl, ⟨1099511627776, rfl, rfl, (((nu_m hDg (by have q1 : x5_51.toNatClampNeg = x5_51.toInt.toNat := rfl; have := hC.1; have := hC.2.1; have := congrArg Int32.toInt ez_1; have := i32_0; have := i32_1; have := i32_2; have := i32_m1; have := (hsx0_51).1; have := (hsx0_51).2; have := (hx5_51).1; have := (hx5_51).2; have := (hx2_51).1; have := (hx2_51).2; have := (h_12).1; have := (h_12).2; have := (hz_1).1; have := (hz_1).2; have := (hz_16).1; have := (hz_16).2; omega) (by have := hF; have := i32_0; have := i32_1; have := i32_2; have := i32_m1; have := (hsx0_51).1; have := (hsx0_51).2; have := (hx5_51).1; have := (hx5_51).2; have := (hx2_51).1; have := (hx2_51).2; have := (h_12).1; have := (h_12).2; have := (hz_1).1; have := (hz_1).2; have := (hz_16).1; have := (hz_16).2; omega) ez_13 ez_14 ez_15 ez_16).2 (by have := i32_0; have := i32_1; have := i32_2; have := i32_m1; have := (hsx0_51).1; have := (hsx0_51).2; have := (hx5_51).1; have := (hx5_51).2; have := (hx2_51).1; have := (hx2_51).2; have := (h_12).1; have := (h_12).2; have := (hz_1).1; have := (hz_1).2; have := (hz_16).1; have := (hz_16).2; omega)))⟩, by rw [ht]; exact hP, va_K.moved hW.alike hK, hD⟩, hS.F ht, by rw [ht]; exact hN⟩) hS.2.2 dX3_textAsNumber_143)))
          · have h_19 : iv 0 0 z_16 := iv_eq c_17 hz_16 (iv_k (by decide) : iv 0 0 0) (by decide)
            refine lv_lload hx hb dX3_textAsNumber_135 (lv_at hl 0 rfl) ?_
            refine lv_goto (tgt := 143) hx hb dX3_textAsNumber_137 (by decide) ?_
            exact W.nb (fun hN => W.widen (k := 1) (n := 6) (by decide) (by decide) (vx_ret (W.lret (v := z_13) hx hb hr (fun t ht hW => ⟨⟨some (.long z_13), (sg, gm, lg), rfl, ⟨z_13, rfl, rfl, (((nu_m hDg (by have q1 : x5_51.toNatClampNeg = x5_51.toInt.toNat := rfl; have := hC.1; have := hC.2.1; have := congrArg Int32.toInt ez_1; have := i32_0; have := i32_1; have := i32_2; have := i32_m1; have := (hsx0_51).1; have := (hsx0_51).2; have := (hx5_51).1; have := (hx5_51).2; have := (hx2_51).1; have := (hx2_51).2; have := (h_12).1; have := (h_12).2; have := (hz_1).1; have := (hz_1).2; have := (h_19).1; have := (h_19).2; omega) (by have := hF; have := i32_0; have := i32_1; have := i32_2; have := i32_m1; have := (hsx0_51).1; have := (hsx0_51).2; have := (hx5_51).1; have := (hx5_51).2; have := (hx2_51).1; have := (hx2_51).2; have := (h_12).1; have := (h_12).2; have := (hz_1).1; have := (hz_1).2; have := (h_19).1; have := (h_19).2; omega) ez_13 ez_14 ez_15 ez_16).1 (by have := i32_0; have := i32_1; have := i32_2; have := i32_m1; have := (hsx0_51).1; have := (hsx0_51).2; have := (hx5_51).1; have := (hx5_51).2; have := (hx2_51).1; have := (hx2_51).2; have := (h_12).1; have := (h_12).2; have := (hz_1).1; have := (hz_1).2; have := (h_19).1; have := (h_19).2; omega)))⟩, by rw [ht]; exact hP, va_K.moved hW.alike hK, hD⟩, hS.F ht, by rw [ht]; exact hN⟩) hS.2.2 dX3_textAsNumber_143)))
      · have d_20 : (x5_51 : Int32).toInt < (z_1 : Int32).toInt := Int32.lt_iff_toInt_lt.mp (i32_lt c_2)
        have h_21 : iv 0 23 x5_51 := iv_ltL (i32_lt c_2) hx5_51 hz_1 (by decide)
        have h_22 : iv 1 24 z_1 := iv_ltR (i32_lt c_2) hx5_51 hz_1 (by decide)
        refine ec_aload_n hx hb dX3_textAsNumber_60 rfl (lv_at hl 4 rfl) ?_
        refine cr_get (t := 9) (j := 0) (C := RX3) (T := TX3) (N := 21) (v := eV (ad 31) x) hx hb htb inX3 hown hK hP hsx0_51 (by decide) (by decide) (by decide) rfl (by decide) (htb _ kw_74) (cV_c rfl (hsx0_51).1 (by rw [show cMu 9 0 = 1 from rfl, Nat.one_mul]; rfl)) dX3_textAsNumber_61 ?_
        refine lv_iload hx hb dX3_textAsNumber_64 (lv_at hl 0 rfl) ?_
        refine cr_cald (t := 31) (z := (gm 56 (24 * x.toNatClampNeg + (x5_51 : Int32).toNatClampNeg))) hx hb hK hP hsx0_51 (by decide) (by decide) (by decide) rfl rfl (show vp_in x5_51 (cLen 31) from (show vp_in x5_51 24 from (iv_in h_21 (by decide)))) (cAi_w rfl (by decide) rfl (vin_lt (show vp_in x5_51 (cLen 31) from (show vp_in x5_51 24 from (iv_in h_21 (by decide)))))) dX3_textAsNumber_66 ?_
        obtain ⟨z_23, ez_23⟩ : ∃ z : Int32, z = (gm 56 (24 * x.toNatClampNeg + (x5_51 : Int32).toNatClampNeg)) := ⟨_, rfl⟩
        refine W.eq (g2 := F0 m 67 ls [.int z_23]) (by rw [ez_23]) ?_
        have hz_23 : iv 0 65535 z_23 := iv_of ez_23 (CI_n hI 56 (show _ < crLen 56 from vin_w (show vp_in x5_51 (cLen 31) from (show vp_in x5_51 24 from (iv_in h_21 (by decide)))) (hsx0_51) (by decide)))
        refine lv_bipush (v := 48) hx hb dX3_textAsNumber_67 (by decide) ?_
        refine lv_icmp_lt (tgt := 84) hx hb dX3_textAsNumber_69 (by decide) (fun c_24 => ?_) (fun c_24 => ?_)
        · have h_25 : iv 0 47 z_23 := iv_ltL c_24 hz_23 (iv_k (by decide) : iv 48 48 48) (by decide)
          refine lv_ldc2 (own := RX3) (v := 1099511627776) hx hb hown (htb _ kw_396) dX3_textAsNumber_84 ?_
          exact W.nb (fun hN => W.widen (k := 1) (n := 6) (by decide) (by decide) (vx_ret (W.lret (v := 1099511627776) hx hb hr (fun t ht hW => ⟨⟨some (.long 1099511627776), (sg, gm, lg), rfl, ⟨1099511627776, rfl, rfl, ((by have q9 := CTX_g hC (by have q1 : x5_51.toNatClampNeg = x5_51.toInt.toNat := rfl; have := hC.1; have := hC.2.1; have := congrArg Int32.toInt ez_1; have := i32_0; have := i32_1; have := i32_2; have := i32_m1; have := (hsx0_51).1; have := (hsx0_51).2; have := (h_21).1; have := (h_21).2; have := (hx2_51).1; have := (hx2_51).2; have := (hx1_51).1; have := (hx1_51).2; have := (h_22).1; have := (h_22).2; have := (h_25).1; have := (h_25).2; omega) ez_23; exact nu_0 (DG_x hDg (by have q1 : x5_51.toNatClampNeg = x5_51.toInt.toNat := rfl; have := hC.1; have := hC.2.1; have := congrArg Int32.toInt ez_1; have := i32_0; have := i32_1; have := i32_2; have := i32_m1; have := (hsx0_51).1; have := (hsx0_51).2; have := (h_21).1; have := (h_21).2; have := (hx2_51).1; have := (hx2_51).2; have := (hx1_51).1; have := (hx1_51).2; have := (h_22).1; have := (h_22).2; have := (h_25).1; have := (h_25).2; omega) (by rw [← q9]; have := i32_0; have := i32_1; have := i32_2; have := i32_m1; have := (hsx0_51).1; have := (hsx0_51).2; have := (h_21).1; have := (h_21).2; have := (hx2_51).1; have := (hx2_51).2; have := (hx1_51).1; have := (hx1_51).2; have := (h_22).1; have := (h_22).2; have := (h_25).1; have := (h_25).2; omega))))⟩, by rw [ht]; exact hP, va_K.moved hW.alike hK, hD⟩, hS.F ht, by rw [ht]; exact hN⟩) hS.2.2 dX3_textAsNumber_87)))
        · have h_26 : iv 48 65535 z_23 := iv_leR (i32_ge c_24) (iv_k (by decide) : iv 48 48 48) hz_23 (by decide)
          refine ec_aload_n hx hb dX3_textAsNumber_72 rfl (lv_at hl 4 rfl) ?_
          refine cr_get (t := 9) (j := 0) (C := RX3) (T := TX3) (N := 21) (v := eV (ad 31) x) hx hb htb inX3 hown hK hP hsx0_51 (by decide) (by decide) (by decide) rfl (by decide) (htb _ kw_74) (cV_c rfl (hsx0_51).1 (by rw [show cMu 9 0 = 1 from rfl, Nat.one_mul]; rfl)) dX3_textAsNumber_73 ?_
          refine lv_iload hx hb dX3_textAsNumber_76 (lv_at hl 0 rfl) ?_
          refine cr_cald (t := 31) (z := (gm 56 (24 * x.toNatClampNeg + (x5_51 : Int32).toNatClampNeg))) hx hb hK hP hsx0_51 (by decide) (by decide) (by decide) rfl rfl (show vp_in x5_51 (cLen 31) from (show vp_in x5_51 24 from (iv_in h_21 (by decide)))) (cAi_w rfl (by decide) rfl (vin_lt (show vp_in x5_51 (cLen 31) from (show vp_in x5_51 24 from (iv_in h_21 (by decide)))))) dX3_textAsNumber_78 ?_
          refine W.eq (g2 := F0 m 79 ls [.int z_23]) (by rw [show (gm 56 (24 * x.toNatClampNeg + (x5_51 : Int32).toNatClampNeg)) = z_23 from ez_23.symm]) ?_
          refine lv_bipush (v := 57) hx hb dX3_textAsNumber_79 (by decide) ?_
          refine lv_icmp_le (tgt := 88) hx hb dX3_textAsNumber_81 (by decide) (fun c_27 => ?_) (fun c_27 => ?_)
          · have h_28 : iv 48 57 z_23 := iv_leL c_27 h_26 (iv_k (by decide) : iv 57 57 57) (by decide)
            refine lv_lload_n hx hb dX3_textAsNumber_88 rfl (lv_at hl 1 rfl) ?_
            refine lv_ldc2 (own := RX3) (v := 10) hx hb hown (htb _ kw_702) dX3_textAsNumber_89 ?_
            refine lv_lmul hx hb dX3_textAsNumber_92 ?_
            refine lv_topl (fun z_29 ez_29 => ?_)
            refine ec_aload_n hx hb dX3_textAsNumber_93 rfl (lv_at hl 4 rfl) ?_
            refine cr_get (t := 9) (j := 0) (C := RX3) (T := TX3) (N := 21) (v := eV (ad 31) x) hx hb htb inX3 hown hK hP hsx0_51 (by decide) (by decide) (by decide) rfl (by decide) (htb _ kw_74) (cV_c rfl (hsx0_51).1 (by rw [show cMu 9 0 = 1 from rfl, Nat.one_mul]; rfl)) dX3_textAsNumber_94 ?_
            refine lv_iload hx hb dX3_textAsNumber_97 (lv_at hl 0 rfl) ?_
            refine cr_cald (t := 31) (z := (gm 56 (24 * x.toNatClampNeg + (x5_51 : Int32).toNatClampNeg))) hx hb hK hP hsx0_51 (by decide) (by decide) (by decide) rfl rfl (show vp_in x5_51 (cLen 31) from (show vp_in x5_51 24 from (iv_in h_21 (by decide)))) (cAi_w rfl (by decide) rfl (vin_lt (show vp_in x5_51 (cLen 31) from (show vp_in x5_51 24 from (iv_in h_21 (by decide)))))) dX3_textAsNumber_99 ?_
            refine W.eq (g2 := F0 m 100 ls [.int z_23, .long z_29]) (by rw [show (gm 56 (24 * x.toNatClampNeg + (x5_51 : Int32).toNatClampNeg)) = z_23 from ez_23.symm]) ?_
            refine lv_bipush (v := 48) hx hb dX3_textAsNumber_100 (by decide) ?_
            refine lv_isub hx hb dX3_textAsNumber_102 ?_
            refine lv_topi (fun z_30 ez_30 => ?_)
            have hz_30 : iv 0 9 z_30 := iv_of ez_30 (iv_sub h_28 (iv_k (by decide) : iv 48 48 48) (by decide))
            have tz_30 : z_30.toInt = (z_23 : Int32).toInt - 48 := by rw [ez_30]; exact iv_subE h_28 (iv_k (by decide) : iv 48 48 48) (by decide)
            refine lv_i2l (v := (z_30 : Int32).toInt64) hx hb dX3_textAsNumber_103 rfl ?_
            refine lv_topl (fun z_31 ez_31 => ?_)
            refine lv_ladd hx hb dX3_textAsNumber_104 ?_
            refine lv_topl (fun z_32 ez_32 => ?_)
            refine lv_lstore_n (i := 3) (lv' := [(3, .long z_32), (5, .int x5_51), (2, .int x2_51), (1, .int x1_51), (0, eV (ad 9) x)]) hx hb dX3_textAsNumber_105 rfl hl (by decide) rfl (fun ls hl => ?_)
            obtain ⟨z_33, ez_33⟩ : ∃ z : Int32, z = x5_51 + 1 := ⟨_, rfl⟩
            have hz_33 : iv 1 24 z_33 := iv_of ez_33 (iv_add h_21 (iv_k (by decide) : iv 1 1 1) (by decide))
            have tz_33 : z_33.toInt = x5_51.toInt + 1 := by rw [ez_33]; exact iv_addE h_21 (iv_k (by decide) : iv 1 1 1) (by decide)
            refine lv_iinc (v := z_33) (lv' := [(5, .int z_33), (3, .long z_32), (2, .int x2_51), (1, .int x1_51), (0, eV (ad 9) x)]) hx hb dX3_textAsNumber_106 hl (k := 1) rfl ez_33.symm (by decide) rfl (fun ls hl => ?_)
            refine lv_goto (tgt := 51) hx hb dX3_textAsNumber_109 (by decide) ?_
            exact ih51 _ (by rw [← hn51]; exact (iv_meas tz_33 h_21 (by decide))) z_33 z_32 x2_51 x1_51 rfl (iv_w hz_33 (by decide)) hx2_51 hx1_51 hsx0_51 (hF) ((by have q9 := CTX_g hC (by have q1 : x5_51.toNatClampNeg = x5_51.toInt.toNat := rfl; have := hC.1; have := hC.2.1; have := congrArg Int32.toInt ez_1; have := i32_0; have := i32_1; have := i32_2; have := i32_m1; have := (hsx0_51).1; have := (hsx0_51).2; have := (h_21).1; have := (h_21).2; have := (hx2_51).1; have := (hx2_51).2; have := (hx1_51).1; have := (hx1_51).2; have := (h_22).1; have := (h_22).2; have := (h_28).1; have := (h_28).2; have := (hz_30).1; have := (hz_30).2; have := (hz_33).1; have := (hz_33).2; omega) ez_23; have dg := DG_s hDg (by have q1 : x5_51.toNatClampNeg = x5_51.toInt.toNat := rfl; have := hC.1; have := hC.2.1; have := congrArg Int32.toInt ez_1; have := i32_0; have := i32_1; have := i32_2; have := i32_m1; have := (hsx0_51).1; have := (hsx0_51).2; have := (h_21).1; have := (h_21).2; have := (hx2_51).1; have := (hx2_51).2; have := (hx1_51).1; have := (hx1_51).2; have := (h_22).1; have := (h_22).2; have := (h_28).1; have := (h_28).2; have := (hz_30).1; have := (hz_30).2; have := (hz_33).1; have := (hz_33).2; omega) (by rw [← q9]; constructor <;> (have := i32_0; have := i32_1; have := i32_2; have := i32_m1; have := (hsx0_51).1; have := (hsx0_51).2; have := (h_21).1; have := (h_21).2; have := (hx2_51).1; have := (hx2_51).2; have := (hx1_51).1; have := (hx1_51).2; have := (h_22).1; have := (h_22).2; have := (h_28).1; have := (h_28).2; have := (hz_30).1; have := (hz_30).2; have := (hz_33).1; have := (hz_33).2; omega)); have e9 := num_c ez_29 ez_31 ez_32 hDg.2.2.2.2.2.1 (by have := DG_b hDg; omega) (by constructor <;> (have := i32_0; have := i32_1; have := i32_2; have := i32_m1; have := (hsx0_51).1; have := (hsx0_51).2; have := (h_21).1; have := (h_21).2; have := (hx2_51).1; have := (hx2_51).2; have := (hx1_51).1; have := (hx1_51).2; have := (h_22).1; have := (h_22).2; have := (h_28).1; have := (h_28).2; have := (hz_30).1; have := (hz_30).2; have := (hz_33).1; have := (hz_33).2; omega)); rw [show z_33.toNatClampNeg = x5_51.toNatClampNeg + 1 from (by have q1 : z_33.toNatClampNeg = z_33.toInt.toNat := rfl; have q1 : x5_51.toNatClampNeg = x5_51.toInt.toNat := rfl; have := i32_0; have := i32_1; have := i32_2; have := i32_m1; have := (hsx0_51).1; have := (hsx0_51).2; have := (h_21).1; have := (h_21).2; have := (hx2_51).1; have := (hx2_51).2; have := (hx1_51).1; have := (hx1_51).2; have := (h_22).1; have := (h_22).2; have := (h_28).1; have := (h_28).2; have := (hz_30).1; have := (hz_30).2; have := (hz_33).1; have := (hz_33).2; omega), e9, show z_30.toInt = (C9[x5_51.toNatClampNeg]?).getD 0 - 48 from (by rw [← q9]; exact tz_30)]; exact dg)) _ _ _ hP hD hS (lv_sub hl [0, 1, 2, 3, 4] rfl)
          · have h_34 : iv 58 65535 z_23 := iv_ltR (i32_lt c_27) (iv_k (by decide) : iv 57 57 57) h_26 (by decide)
            refine lv_ldc2 (own := RX3) (v := 1099511627776) hx hb hown (htb _ kw_396) dX3_textAsNumber_84 ?_
            exact W.nb (fun hN => W.widen (k := 1) (n := 6) (by decide) (by decide) (vx_ret (W.lret (v := 1099511627776) hx hb hr (fun t ht hW => ⟨⟨some (.long 1099511627776), (sg, gm, lg), rfl, ⟨1099511627776, rfl, rfl, ((by have q9 := CTX_g hC (by have q1 : x5_51.toNatClampNeg = x5_51.toInt.toNat := rfl; have := hC.1; have := hC.2.1; have := congrArg Int32.toInt ez_1; have := i32_0; have := i32_1; have := i32_2; have := i32_m1; have := (hsx0_51).1; have := (hsx0_51).2; have := (h_21).1; have := (h_21).2; have := (hx2_51).1; have := (hx2_51).2; have := (hx1_51).1; have := (hx1_51).2; have := (h_22).1; have := (h_22).2; have := (h_34).1; have := (h_34).2; omega) ez_23; exact nu_0 (DG_x hDg (by have q1 : x5_51.toNatClampNeg = x5_51.toInt.toNat := rfl; have := hC.1; have := hC.2.1; have := congrArg Int32.toInt ez_1; have := i32_0; have := i32_1; have := i32_2; have := i32_m1; have := (hsx0_51).1; have := (hsx0_51).2; have := (h_21).1; have := (h_21).2; have := (hx2_51).1; have := (hx2_51).2; have := (hx1_51).1; have := (hx1_51).2; have := (h_22).1; have := (h_22).2; have := (h_34).1; have := (h_34).2; omega) (by rw [← q9]; have := i32_0; have := i32_1; have := i32_2; have := i32_m1; have := (hsx0_51).1; have := (hsx0_51).2; have := (h_21).1; have := (h_21).2; have := (hx2_51).1; have := (hx2_51).2; have := (hx1_51).1; have := (hx1_51).2; have := (h_22).1; have := (h_22).2; have := (h_34).1; have := (h_34).2; omega))))⟩, by rw [ht]; exact hP, va_K.moved hW.alike hK, hD⟩, hS.F ht, by rw [ht]; exact hN⟩) hS.2.2 dX3_textAsNumber_87)))
  refine ec_aload_n hx hb dX3_textAsNumber_0 rfl (lv_at hl 0 rfl) ?_
  refine cr_get (t := 9) (j := 1) (C := RX3) (T := TX3) (N := 21) (v := .int (gm 11 x.toNatClampNeg)) hx hb htb inX3 hown hK hP hvx (by decide) (by decide) (by decide) rfl (by decide) (htb _ kw_381) rfl dX3_textAsNumber_1 ?_
  obtain ⟨z_35, ez_35⟩ : ∃ z : Int32, z = (gm 11 x.toNatClampNeg) := ⟨_, rfl⟩
  refine W.eq (g2 := F0 m 4 ls [.int z_35]) (by rw [ez_35]) ?_
  have hz_35 : iv 0 24 z_35 := iv_of ez_35 (CI_a hI 11 hvx (by decide))
  refine lv_if_le (tgt := 22) hx hb dX3_textAsNumber_4 (by decide) (fun c_36 => ?_) (fun c_36 => ?_)
  · have h_37 : iv 0 0 z_35 := iv_leL c_36 hz_35 (iv_k (by decide) : iv 0 0 0) (by decide)
    refine lv_iconst (v := 0) hx hb dX3_textAsNumber_22 (by decide) ?_
    refine lv_istore_n (i := 1) (lv' := [(1, .int 0), (0, eV (ad 9) x)]) hx hb dX3_textAsNumber_23 rfl hl (by decide) (by simp [List.filter, eV_cat, cat_i, cat_l]) (fun ls hl => ?_)
    refine ec_aload_n hx hb dX3_textAsNumber_24 rfl (lv_at hl 1 rfl) ?_
    refine cr_get (t := 9) (j := 1) (C := RX3) (T := TX3) (N := 21) (v := .int (gm 11 x.toNatClampNeg)) hx hb htb inX3 hown hK hP hvx (by decide) (by decide) (by decide) rfl (by decide) (htb _ kw_381) rfl dX3_textAsNumber_25 ?_
    refine W.eq (g2 := F0 m 28 ls [.int z_35]) (by rw [show (gm 11 x.toNatClampNeg) = z_35 from ez_35.symm]) ?_
    refine lv_iload_n hx hb dX3_textAsNumber_28 rfl (lv_at hl 0 rfl) ?_
    refine lv_isub hx hb dX3_textAsNumber_29 ?_
    refine lv_topi (fun z_38 ez_38 => ?_)
    have hz_38 : iv 0 0 z_38 := iv_of ez_38 (iv_sub h_37 (iv_k (by decide) : iv 0 0 0) (by decide))
    have tz_38 : z_38.toInt = (z_35 : Int32).toInt - 0 := by rw [ez_38]; exact iv_subE h_37 (iv_k (by decide) : iv 0 0 0) (by decide)
    refine lv_istore_n (i := 2) (lv' := [(2, .int z_38), (1, .int 0), (0, eV (ad 9) x)]) hx hb dX3_textAsNumber_30 rfl hl (by decide) rfl (fun ls hl => ?_)
    refine lv_iload_n hx hb dX3_textAsNumber_31 rfl (lv_at hl 0 rfl) ?_
    refine lv_iconst (v := 1) hx hb dX3_textAsNumber_32 (by decide) ?_
    refine lv_icmp_lt (tgt := 42) hx hb dX3_textAsNumber_33 (by decide) (fun c_39 => ?_) (fun c_39 => ?_)
    · refine lv_ldc2 (own := RX3) (v := 1099511627776) hx hb hown (htb _ kw_396) dX3_textAsNumber_42 ?_
      exact W.nb (fun hN => W.widen (k := 1) (n := 6) (by decide) (by decide) (vx_ret (W.lret (v := 1099511627776) hx hb hr (fun t ht hW => ⟨⟨some (.long 1099511627776), (sg, gm, lg), rfl, ⟨1099511627776, rfl, rfl, (nu_0 (nuL_len (by rw [(frd_0 (fun q => absurd q.2 (by have := hC.1; have := hC.2.1; have := congrArg Int32.toInt ez_35; have := i32_0; have := i32_1; have := i32_2; have := i32_m1; have := (hvx).1; have := (hvx).2; have := (h_37).1; have := (h_37).2; have := (hz_38).1; have := (hz_38).2; omega)))]; have := hC.1; have := hC.2.1; have := congrArg Int32.toInt ez_35; have := i32_0; have := i32_1; have := i32_2; have := i32_m1; have := (hvx).1; have := (hvx).2; have := (h_37).1; have := (h_37).2; have := (hz_38).1; have := (hz_38).2; omega)))⟩, by rw [ht]; exact hP, va_K.moved hW.alike hK, hD⟩, hS.F ht, by rw [ht]; exact hN⟩) hS.2.2 dX3_textAsNumber_45)))
    · have h_40 : iv 1 0 z_38 := iv_leR (i32_ge c_39) (iv_k (by decide) : iv 1 1 1) hz_38 (by decide)
      exact (iv_no h_40 (by decide)).elim
  · have h_41 : iv 1 24 z_35 := iv_ltR (i32_lt c_36) (iv_k (by decide) : iv 0 0 0) hz_35 (by decide)
    refine ec_aload_n hx hb dX3_textAsNumber_7 rfl (lv_at hl 0 rfl) ?_
    refine cr_get (t := 9) (j := 0) (C := RX3) (T := TX3) (N := 21) (v := eV (ad 31) x) hx hb htb inX3 hown hK hP hvx (by decide) (by decide) (by decide) rfl (by decide) (htb _ kw_74) (cV_c rfl (hvx).1 (by rw [show cMu 9 0 = 1 from rfl, Nat.one_mul]; rfl)) dX3_textAsNumber_8 ?_
    refine lv_iconst (v := 0) hx hb dX3_textAsNumber_11 (by decide) ?_
    refine cr_cald (t := 31) (z := (gm 56 (24 * x.toNatClampNeg + (0 : Int32).toNatClampNeg))) hx hb hK hP hvx (by decide) (by decide) (by decide) rfl rfl (show vp_in 0 (cLen 31) from (show vp_in 0 24 from (iv_in (iv_k (by decide) : iv 0 0 0) (by decide)))) (cAi_w rfl (by decide) rfl (vin_lt (show vp_in 0 (cLen 31) from (show vp_in 0 24 from (iv_in (iv_k (by decide) : iv 0 0 0) (by decide)))))) dX3_textAsNumber_12 ?_
    obtain ⟨z_42, ez_42⟩ : ∃ z : Int32, z = (gm 56 (24 * x.toNatClampNeg + (0 : Int32).toNatClampNeg)) := ⟨_, rfl⟩
    refine W.eq (g2 := F0 m 13 ls [.int z_42]) (by rw [ez_42]) ?_
    have hz_42 : iv 0 65535 z_42 := iv_of ez_42 (CI_n hI 56 (show _ < crLen 56 from vin_w (show vp_in 0 (cLen 31) from (show vp_in 0 24 from (iv_in (iv_k (by decide) : iv 0 0 0) (by decide)))) (hvx) (by decide)))
    refine lv_bipush (v := 45) hx hb dX3_textAsNumber_13 (by decide) ?_
    refine lv_icmp_ne (tgt := 22) hx hb dX3_textAsNumber_15 (by decide) (fun c_43 => ?_) (fun c_43 => ?_)
    · have d_44 : ¬ (z_42 : Int32).toInt = 45 := lv_neT c_43 rfl
      refine lv_iconst (v := 0) hx hb dX3_textAsNumber_22 (by decide) ?_
      refine lv_istore_n (i := 1) (lv' := [(1, .int 0), (0, eV (ad 9) x)]) hx hb dX3_textAsNumber_23 rfl hl (by decide) (by simp [List.filter, eV_cat, cat_i, cat_l]) (fun ls hl => ?_)
      refine ec_aload_n hx hb dX3_textAsNumber_24 rfl (lv_at hl 1 rfl) ?_
      refine cr_get (t := 9) (j := 1) (C := RX3) (T := TX3) (N := 21) (v := .int (gm 11 x.toNatClampNeg)) hx hb htb inX3 hown hK hP hvx (by decide) (by decide) (by decide) rfl (by decide) (htb _ kw_381) rfl dX3_textAsNumber_25 ?_
      refine W.eq (g2 := F0 m 28 ls [.int z_35]) (by rw [show (gm 11 x.toNatClampNeg) = z_35 from ez_35.symm]) ?_
      refine lv_iload_n hx hb dX3_textAsNumber_28 rfl (lv_at hl 0 rfl) ?_
      refine lv_isub hx hb dX3_textAsNumber_29 ?_
      refine lv_topi (fun z_45 ez_45 => ?_)
      have hz_45 : iv 1 24 z_45 := iv_of ez_45 (iv_sub h_41 (iv_k (by decide) : iv 0 0 0) (by decide))
      have tz_45 : z_45.toInt = (z_35 : Int32).toInt - 0 := by rw [ez_45]; exact iv_subE h_41 (iv_k (by decide) : iv 0 0 0) (by decide)
      refine lv_istore_n (i := 2) (lv' := [(2, .int z_45), (1, .int 0), (0, eV (ad 9) x)]) hx hb dX3_textAsNumber_30 rfl hl (by decide) rfl (fun ls hl => ?_)
      refine lv_iload_n hx hb dX3_textAsNumber_31 rfl (lv_at hl 0 rfl) ?_
      refine lv_iconst (v := 1) hx hb dX3_textAsNumber_32 (by decide) ?_
      refine lv_icmp_lt (tgt := 42) hx hb dX3_textAsNumber_33 (by decide) (fun c_46 => ?_) (fun c_46 => ?_)
      · have h_47 : iv 1 0 z_45 := iv_ltL c_46 hz_45 (iv_k (by decide) : iv 1 1 1) (by decide)
        exact (iv_no h_47 (by decide)).elim
      · refine lv_iload_n hx hb dX3_textAsNumber_36 rfl (lv_at hl 0 rfl) ?_
        refine lv_bipush (v := 10) hx hb dX3_textAsNumber_37 (by decide) ?_
        refine lv_icmp_le (tgt := 46) hx hb dX3_textAsNumber_39 (by decide) (fun c_48 => ?_) (fun c_48 => ?_)
        · have h_49 : iv 1 10 z_45 := iv_leL c_48 hz_45 (iv_k (by decide) : iv 10 10 10) (by decide)
          refine lv_lconst (v := 0) hx hb dX3_textAsNumber_46 (by decide) ?_
          refine lv_lstore_n (i := 3) (lv' := [(3, .long 0), (2, .int z_45), (1, .int 0), (0, eV (ad 9) x)]) hx hb dX3_textAsNumber_47 rfl hl (by decide) rfl (fun ls hl => ?_)
          refine lv_iload_n hx hb dX3_textAsNumber_48 rfl (lv_at hl 2 rfl) ?_
          refine lv_istore (i := 5) (lv' := [(5, .int 0), (3, .long 0), (2, .int z_45), (1, .int 0), (0, eV (ad 9) x)]) hx hb dX3_textAsNumber_49 hl (by decide) rfl (fun ls hl => ?_)
          exact hj51 _ 0 0 z_45 0 rfl (iv_w (iv_k (by decide) : iv 0 0 0) (by decide)) h_49 (iv_w (iv_k (by decide) : iv 0 0 0) (by decide)) hvx ((by rw [(frd_0 (fun q => absurd q.1 (by rw [← CTX_g (i := 0) hC q.2 ez_42]; have := i32_0; have := i32_1; have := i32_2; have := i32_m1; have := (hvx).1; have := (hvx).2; have := (h_41).1; have := (h_41).2; have := (hz_42).1; have := (hz_42).2; have := (h_49).1; have := (h_49).2; omega)))]; rfl)) ((DG_i rfl (by rw [(frd_0 (fun q => absurd q.1 (by rw [← CTX_g (i := 0) hC q.2 ez_42]; have := i32_0; have := i32_1; have := i32_2; have := i32_m1; have := (hvx).1; have := (hvx).2; have := (h_41).1; have := (h_41).2; have := (hz_42).1; have := (hz_42).2; have := (h_49).1; have := (h_49).2; omega)))]; have := hC.1; have := hC.2.1; have := congrArg Int32.toInt ez_35; have := i32_0; have := i32_1; have := i32_2; have := i32_m1; have := (hvx).1; have := (hvx).2; have := (h_41).1; have := (h_41).2; have := (hz_42).1; have := (hz_42).2; have := (h_49).1; have := (h_49).2; omega) (by rw [(frd_0 (fun q => absurd q.1 (by rw [← CTX_g (i := 0) hC q.2 ez_42]; have := i32_0; have := i32_1; have := i32_2; have := i32_m1; have := (hvx).1; have := (hvx).2; have := (h_41).1; have := (h_41).2; have := (hz_42).1; have := (hz_42).2; have := (h_49).1; have := (h_49).2; omega)))]; have := hC.1; have := hC.2.1; have := congrArg Int32.toInt ez_35; have := i32_0; have := i32_1; have := i32_2; have := i32_m1; have := (hvx).1; have := (hvx).2; have := (h_41).1; have := (h_41).2; have := (hz_42).1; have := (hz_42).2; have := (h_49).1; have := (h_49).2; omega) (by rw [(frd_0 (fun q => absurd q.1 (by rw [← CTX_g (i := 0) hC q.2 ez_42]; have := i32_0; have := i32_1; have := i32_2; have := i32_m1; have := (hvx).1; have := (hvx).2; have := (h_41).1; have := (h_41).2; have := (hz_42).1; have := (hz_42).2; have := (h_49).1; have := (h_49).2; omega)))]; rfl) (by decide))) _ _ _ hP hD hS (lv_sub hl [0, 1, 2, 3, 4] rfl)
        · have h_50 : iv 11 24 z_45 := iv_ltR (i32_lt c_48) (iv_k (by decide) : iv 10 10 10) hz_45 (by decide)
          refine lv_ldc2 (own := RX3) (v := 1099511627776) hx hb hown (htb _ kw_396) dX3_textAsNumber_42 ?_
          exact W.nb (fun hN => W.widen (k := 1) (n := 6) (by decide) (by decide) (vx_ret (W.lret (v := 1099511627776) hx hb hr (fun t ht hW => ⟨⟨some (.long 1099511627776), (sg, gm, lg), rfl, ⟨1099511627776, rfl, rfl, (nu_0 (nuL_len (by rw [(frd_0 (fun q => absurd q.1 (by rw [← CTX_g (i := 0) hC q.2 ez_42]; have := i32_0; have := i32_1; have := i32_2; have := i32_m1; have := (hvx).1; have := (hvx).2; have := (h_41).1; have := (h_41).2; have := (hz_42).1; have := (hz_42).2; have := (h_50).1; have := (h_50).2; omega)))]; have := hC.1; have := hC.2.1; have := congrArg Int32.toInt ez_35; have := i32_0; have := i32_1; have := i32_2; have := i32_m1; have := (hvx).1; have := (hvx).2; have := (h_41).1; have := (h_41).2; have := (hz_42).1; have := (hz_42).2; have := (h_50).1; have := (h_50).2; omega)))⟩, by rw [ht]; exact hP, va_K.moved hW.alike hK, hD⟩, hS.F ht, by rw [ht]; exact hN⟩) hS.2.2 dX3_textAsNumber_45)))
    · have h_51 : iv 45 45 z_42 := iv_eq c_43 hz_42 (iv_k (by decide) : iv 45 45 45) (by decide)
      refine lv_iconst (v := 1) hx hb dX3_textAsNumber_18 (by decide) ?_
      refine lv_goto (tgt := 23) hx hb dX3_textAsNumber_19 (by decide) ?_
      refine lv_istore_n (i := 1) (lv' := [(1, .int 1), (0, eV (ad 9) x)]) hx hb dX3_textAsNumber_23 rfl hl (by decide) (by simp [List.filter, eV_cat, cat_i, cat_l]) (fun ls hl => ?_)
      refine ec_aload_n hx hb dX3_textAsNumber_24 rfl (lv_at hl 1 rfl) ?_
      refine cr_get (t := 9) (j := 1) (C := RX3) (T := TX3) (N := 21) (v := .int (gm 11 x.toNatClampNeg)) hx hb htb inX3 hown hK hP hvx (by decide) (by decide) (by decide) rfl (by decide) (htb _ kw_381) rfl dX3_textAsNumber_25 ?_
      refine W.eq (g2 := F0 m 28 ls [.int z_35]) (by rw [show (gm 11 x.toNatClampNeg) = z_35 from ez_35.symm]) ?_
      refine lv_iload_n hx hb dX3_textAsNumber_28 rfl (lv_at hl 0 rfl) ?_
      refine lv_isub hx hb dX3_textAsNumber_29 ?_
      refine lv_topi (fun z_52 ez_52 => ?_)
      have hz_52 : iv 0 23 z_52 := iv_of ez_52 (iv_sub h_41 (iv_k (by decide) : iv 1 1 1) (by decide))
      have tz_52 : z_52.toInt = (z_35 : Int32).toInt - 1 := by rw [ez_52]; exact iv_subE h_41 (iv_k (by decide) : iv 1 1 1) (by decide)
      refine lv_istore_n (i := 2) (lv' := [(2, .int z_52), (1, .int 1), (0, eV (ad 9) x)]) hx hb dX3_textAsNumber_30 rfl hl (by decide) rfl (fun ls hl => ?_)
      refine lv_iload_n hx hb dX3_textAsNumber_31 rfl (lv_at hl 0 rfl) ?_
      refine lv_iconst (v := 1) hx hb dX3_textAsNumber_32 (by decide) ?_
      refine lv_icmp_lt (tgt := 42) hx hb dX3_textAsNumber_33 (by decide) (fun c_53 => ?_) (fun c_53 => ?_)
      · have h_54 : iv 0 0 z_52 := iv_ltL c_53 hz_52 (iv_k (by decide) : iv 1 1 1) (by decide)
        refine lv_ldc2 (own := RX3) (v := 1099511627776) hx hb hown (htb _ kw_396) dX3_textAsNumber_42 ?_
        exact W.nb (fun hN => W.widen (k := 1) (n := 6) (by decide) (by decide) (vx_ret (W.lret (v := 1099511627776) hx hb hr (fun t ht hW => ⟨⟨some (.long 1099511627776), (sg, gm, lg), rfl, ⟨1099511627776, rfl, rfl, (nu_0 (nuL_len (by rw [(frd_1 (by rw [← CTX_g (i := 0) hC (by have := hC.1; have := hC.2.1; have := congrArg Int32.toInt ez_35; have := i32_0; have := i32_1; have := i32_2; have := i32_m1; have := (hvx).1; have := (hvx).2; have := (h_41).1; have := (h_41).2; have := (h_51).1; have := (h_51).2; have := (h_54).1; have := (h_54).2; omega) ez_42]; have := i32_0; have := i32_1; have := i32_2; have := i32_m1; have := (hvx).1; have := (hvx).2; have := (h_41).1; have := (h_41).2; have := (h_51).1; have := (h_51).2; have := (h_54).1; have := (h_54).2; omega) (by have := hC.1; have := hC.2.1; have := congrArg Int32.toInt ez_35; have := i32_0; have := i32_1; have := i32_2; have := i32_m1; have := (hvx).1; have := (hvx).2; have := (h_41).1; have := (h_41).2; have := (h_51).1; have := (h_51).2; have := (h_54).1; have := (h_54).2; omega))]; have := hC.1; have := hC.2.1; have := congrArg Int32.toInt ez_35; have := i32_0; have := i32_1; have := i32_2; have := i32_m1; have := (hvx).1; have := (hvx).2; have := (h_41).1; have := (h_41).2; have := (h_51).1; have := (h_51).2; have := (h_54).1; have := (h_54).2; omega)))⟩, by rw [ht]; exact hP, va_K.moved hW.alike hK, hD⟩, hS.F ht, by rw [ht]; exact hN⟩) hS.2.2 dX3_textAsNumber_45)))
      · have h_55 : iv 1 23 z_52 := iv_leR (i32_ge c_53) (iv_k (by decide) : iv 1 1 1) hz_52 (by decide)
        refine lv_iload_n hx hb dX3_textAsNumber_36 rfl (lv_at hl 0 rfl) ?_
        refine lv_bipush (v := 10) hx hb dX3_textAsNumber_37 (by decide) ?_
        refine lv_icmp_le (tgt := 46) hx hb dX3_textAsNumber_39 (by decide) (fun c_56 => ?_) (fun c_56 => ?_)
        · have h_57 : iv 1 10 z_52 := iv_leL c_56 h_55 (iv_k (by decide) : iv 10 10 10) (by decide)
          refine lv_lconst (v := 0) hx hb dX3_textAsNumber_46 (by decide) ?_
          refine lv_lstore_n (i := 3) (lv' := [(3, .long 0), (2, .int z_52), (1, .int 1), (0, eV (ad 9) x)]) hx hb dX3_textAsNumber_47 rfl hl (by decide) rfl (fun ls hl => ?_)
          refine lv_iload_n hx hb dX3_textAsNumber_48 rfl (lv_at hl 2 rfl) ?_
          refine lv_istore (i := 5) (lv' := [(5, .int 1), (3, .long 0), (2, .int z_52), (1, .int 1), (0, eV (ad 9) x)]) hx hb dX3_textAsNumber_49 hl (by decide) rfl (fun ls hl => ?_)
          exact hj51 _ 1 0 z_52 1 rfl (iv_w (iv_k (by decide) : iv 1 1 1) (by decide)) h_57 (iv_w (iv_k (by decide) : iv 1 1 1) (by decide)) hvx ((by rw [(frd_1 (by rw [← CTX_g (i := 0) hC (by have := hC.1; have := hC.2.1; have := congrArg Int32.toInt ez_35; have := i32_0; have := i32_1; have := i32_2; have := i32_m1; have := (hvx).1; have := (hvx).2; have := (h_41).1; have := (h_41).2; have := (h_51).1; have := (h_51).2; have := (h_57).1; have := (h_57).2; omega) ez_42]; have := i32_0; have := i32_1; have := i32_2; have := i32_m1; have := (hvx).1; have := (hvx).2; have := (h_41).1; have := (h_41).2; have := (h_51).1; have := (h_51).2; have := (h_57).1; have := (h_57).2; omega) (by have := hC.1; have := hC.2.1; have := congrArg Int32.toInt ez_35; have := i32_0; have := i32_1; have := i32_2; have := i32_m1; have := (hvx).1; have := (hvx).2; have := (h_41).1; have := (h_41).2; have := (h_51).1; have := (h_51).2; have := (h_57).1; have := (h_57).2; omega))]; rfl)) ((DG_i rfl (by rw [(frd_1 (by rw [← CTX_g (i := 0) hC (by have := hC.1; have := hC.2.1; have := congrArg Int32.toInt ez_35; have := i32_0; have := i32_1; have := i32_2; have := i32_m1; have := (hvx).1; have := (hvx).2; have := (h_41).1; have := (h_41).2; have := (h_51).1; have := (h_51).2; have := (h_57).1; have := (h_57).2; omega) ez_42]; have := i32_0; have := i32_1; have := i32_2; have := i32_m1; have := (hvx).1; have := (hvx).2; have := (h_41).1; have := (h_41).2; have := (h_51).1; have := (h_51).2; have := (h_57).1; have := (h_57).2; omega) (by have := hC.1; have := hC.2.1; have := congrArg Int32.toInt ez_35; have := i32_0; have := i32_1; have := i32_2; have := i32_m1; have := (hvx).1; have := (hvx).2; have := (h_41).1; have := (h_41).2; have := (h_51).1; have := (h_51).2; have := (h_57).1; have := (h_57).2; omega))]; have := hC.1; have := hC.2.1; have := congrArg Int32.toInt ez_35; have := i32_0; have := i32_1; have := i32_2; have := i32_m1; have := (hvx).1; have := (hvx).2; have := (h_41).1; have := (h_41).2; have := (h_51).1; have := (h_51).2; have := (h_57).1; have := (h_57).2; omega) (by rw [(frd_1 (by rw [← CTX_g (i := 0) hC (by have := hC.1; have := hC.2.1; have := congrArg Int32.toInt ez_35; have := i32_0; have := i32_1; have := i32_2; have := i32_m1; have := (hvx).1; have := (hvx).2; have := (h_41).1; have := (h_41).2; have := (h_51).1; have := (h_51).2; have := (h_57).1; have := (h_57).2; omega) ez_42]; have := i32_0; have := i32_1; have := i32_2; have := i32_m1; have := (hvx).1; have := (hvx).2; have := (h_41).1; have := (h_41).2; have := (h_51).1; have := (h_51).2; have := (h_57).1; have := (h_57).2; omega) (by have := hC.1; have := hC.2.1; have := congrArg Int32.toInt ez_35; have := i32_0; have := i32_1; have := i32_2; have := i32_m1; have := (hvx).1; have := (hvx).2; have := (h_41).1; have := (h_41).2; have := (h_51).1; have := (h_51).2; have := (h_57).1; have := (h_57).2; omega))]; have := hC.1; have := hC.2.1; have := congrArg Int32.toInt ez_35; have := i32_0; have := i32_1; have := i32_2; have := i32_m1; have := (hvx).1; have := (hvx).2; have := (h_41).1; have := (h_41).2; have := (h_51).1; have := (h_51).2; have := (h_57).1; have := (h_57).2; omega) (by rw [(frd_1 (by rw [← CTX_g (i := 0) hC (by have := hC.1; have := hC.2.1; have := congrArg Int32.toInt ez_35; have := i32_0; have := i32_1; have := i32_2; have := i32_m1; have := (hvx).1; have := (hvx).2; have := (h_41).1; have := (h_41).2; have := (h_51).1; have := (h_51).2; have := (h_57).1; have := (h_57).2; omega) ez_42]; have := i32_0; have := i32_1; have := i32_2; have := i32_m1; have := (hvx).1; have := (hvx).2; have := (h_41).1; have := (h_41).2; have := (h_51).1; have := (h_51).2; have := (h_57).1; have := (h_57).2; omega) (by have := hC.1; have := hC.2.1; have := congrArg Int32.toInt ez_35; have := i32_0; have := i32_1; have := i32_2; have := i32_m1; have := (hvx).1; have := (hvx).2; have := (h_41).1; have := (h_41).2; have := (h_51).1; have := (h_51).2; have := (h_57).1; have := (h_57).2; omega))]; rfl) (by decide))) _ _ _ hP hD hS (lv_sub hl [0, 1, 2, 3, 4] rfl)
        · have h_58 : iv 11 23 z_52 := iv_ltR (i32_lt c_56) (iv_k (by decide) : iv 10 10 10) h_55 (by decide)
          refine lv_ldc2 (own := RX3) (v := 1099511627776) hx hb hown (htb _ kw_396) dX3_textAsNumber_42 ?_
          exact W.nb (fun hN => W.widen (k := 1) (n := 6) (by decide) (by decide) (vx_ret (W.lret (v := 1099511627776) hx hb hr (fun t ht hW => ⟨⟨some (.long 1099511627776), (sg, gm, lg), rfl, ⟨1099511627776, rfl, rfl, (nu_0 (nuL_len (by rw [(frd_1 (by rw [← CTX_g (i := 0) hC (by have := hC.1; have := hC.2.1; have := congrArg Int32.toInt ez_35; have := i32_0; have := i32_1; have := i32_2; have := i32_m1; have := (hvx).1; have := (hvx).2; have := (h_41).1; have := (h_41).2; have := (h_51).1; have := (h_51).2; have := (h_58).1; have := (h_58).2; omega) ez_42]; have := i32_0; have := i32_1; have := i32_2; have := i32_m1; have := (hvx).1; have := (hvx).2; have := (h_41).1; have := (h_41).2; have := (h_51).1; have := (h_51).2; have := (h_58).1; have := (h_58).2; omega) (by have := hC.1; have := hC.2.1; have := congrArg Int32.toInt ez_35; have := i32_0; have := i32_1; have := i32_2; have := i32_m1; have := (hvx).1; have := (hvx).2; have := (h_41).1; have := (h_41).2; have := (h_51).1; have := (h_51).2; have := (h_58).1; have := (h_58).2; omega))]; have := hC.1; have := hC.2.1; have := congrArg Int32.toInt ez_35; have := i32_0; have := i32_1; have := i32_2; have := i32_m1; have := (hvx).1; have := (hvx).2; have := (h_41).1; have := (h_41).2; have := (h_51).1; have := (h_51).2; have := (h_58).1; have := (h_58).2; omega)))⟩, by rw [ht]; exact hP, va_K.moved hW.alike hK, hD⟩, hS.F ht, by rw [ht]; exact hN⟩) hS.2.2 dX3_textAsNumber_45)))
end
section
set_option maxHeartbeats 4000000 in
set_option maxRecDepth 100000 in
theorem d_weighText9 (l : Launch) (dC : Nat → ClassId) (dI : Nat → Nat → Nat) (ad : Nat → Nat → Nat) (cid : Nat → ClassId) (a2 : Nat → Nat) (lx : List Nat) (sg : Nat → Int32) (gm : Nat → Nat → Int32) (lg : Nat → Nat → Int64) (x : Int32) (C9 : List Int) (hI : CI sg gm) (hvx : iv 0 79 x) (hC : CTX gm x.toNatClampNeg C9) : CMt dC dI ad cid a2 lx l yX3_weighText wm_X3_weighText ({ frames := 5, cells := 1, slots := 6, locals := 112 }) [eV (ad 9) x] sg gm lg (fun v u => v = none ∧ ∃ (sg2 : Nat → Int32) (gm2 : Nat → Nat → Int32) (lg2 : Nat → Nat → Int64), u = (sg2, gm2, lg2) ∧ CI sg2 gm2 ∧ KS [] sg sg2 ∧ KS [21] gm gm2 ∧ KS [3] lg lg2 ∧ (∃ v : Int64, lg2 3 = vp_updL (lg 3) x.toNatClampNeg v ∧ v.toInt = (nuL C9).getD 1099511627776) ∧ (∃ v : Int32, gm2 21 = upd (gm 21) x.toNatClampNeg v ∧ v.toInt = trL C9)) (fun _ _ => False) := by
  intro sz
  refine vx_ofW (cc := cX3_weighText) (maxL := 1) (ret := none) (by decide) rfl ?_
  intro p e s m args below meth c s₁ B hml hxt hv
  obtain ⟨rfl, hsz, hP, hK, hD0, hG⟩ := hv
  have hx := B.exec
  have hb := B.bytes
  have hr := B.returns
  have hts := atoms_spec (ws := wm_X3_weighText) B.pre
  have htb := fun (w : Cond) (h : w ∈ tb) => hts w (List.mem_cons_of_mem _ h)
  have hown : s.vm.findClass RX3 = some m.cls := findClass_of_methodNamed B.named
  have hlocks := B.notSynchronized
  subst hsz
  have hD := hD0.self (sz := s.heap.size)
  generalize hAe : va_A (cW ad cid a2 lx sg gm lg) s.heap.size = A at hD hG ⊢
  have hA : ∀ q : Nat, s.heap.size ≤ q → A q := fun q h => by rw [← hAe]; exact Or.inr h
  have hS : va_S A s.heap s.heap [] := va_S.rf
  have hl := lv_entry ([eV (ad 9) x]) (n := 1) (by rw [show (lg_sl ([eV (ad 9) x])).length = 1 from by simp [lg_sl, eV_cat, cat_i, cat_l]]; exact Nat.le_of_ble_eq_true rfl)
  rw [lg_entry_eq]
  generalize (lg_sl ([eV (ad 9) x]) ++ List.replicate (1 - (lg_sl ([eV (ad 9) x])).length) Slot.unset).toArray = ls at hl ⊢
  have hl : lv_has ls 1 [(0, eV (ad 9) x)] := by simp [lv_args, eV_cat, cat_i, cat_l] at hl; exact hl
  refine ec_aload_n hx hb dX3_weighText_0 rfl (lv_at hl 0 rfl) ?_
  refine ec_aload_n hx hb dX3_weighText_1 rfl (lv_at hl 0 rfl) ?_
  refine cm_callV (t := 9) (C := RX3) (T := TX3) (N := 21) (rest := [eV (ad 9) x]) (as := []) ⟨hx, hb, hml, hown, htb⟩ (d_textAsNumber9 l dC dI ad cid a2 lx sg gm lg x C9 hI hvx hC) (cwV 0 htb (gd_V kw_699 kw_700 kw_701 kw_66 kw_1491) rfl rfl rfl (by decide +kernel) ⟨Nat.le_of_ble_eq_true rfl, Nat.le_of_ble_eq_true rfl⟩) hvx (by decide) (by decide) rfl rfl hl.1 rfl (Nat.le_trans (cs_c (eV_cat _ _) cs_n) (by decide)) dX3_weighText_2 ⟨Nat.le_of_ble_eq_true rfl, Nat.le_of_ble_eq_true rfl⟩ hK hP hD hS hA hG (fun E ce q9 u_2 H locs hw hP hD hS hce hcv hcl => ?_) (fun v9 u_2 H locs hw hP hD hS => ?_)
  · exact hw.elim
  obtain ⟨r_1, rfl, rfl, fN_r_1⟩ := hw
  have hP : va_P (dC, dI) vwCl (cW ad cid a2 lx sg gm lg) H := hP
  have hD : va_D A (cW ad cid a2 lx sg gm lg) := hD
  refine W.eq (g2 := F0 m 5 ls [.long r_1, eV (ad 9) x]) rfl ?_
  refine cr_putl (t := 9) (j := 13) (C := RX3) (T := TX3) (N := 21) (ty0 := tyX3) (k := 3) (y := r_1) hx hb htb inX3 tyX3_ok nmX3 hown hK hP hD hS hvx (by decide) (by decide) (by decide) rfl rfl rfl (by decide) (htb _ kw_397) rfl (by show Value.long r_1 = Value.long (va_up lg 3 (vp_updL (lg 3) x.toNatClampNeg r_1) 3 x.toNatClampNeg); rw [va_up_self, pk_uLs]) rfl rfl dX3_weighText_5 (fun lg_4 H locs elg_4 hP hD hS => ?_)
  refine ec_aload_n hx hb dX3_weighText_8 rfl (lv_at hl 0 rfl) ?_
  refine cw_str (k := 5) (kx := 5) hx hb hG (by decide) ⟨by decide, by decide⟩ hown dX3_weighText_9 ?_
  refine cm_callV (t := 9) (C := RX3) (T := TX3) (N := 21) (rest := []) (as := [eV (ad 37) 5]) ⟨hx, hb, hml, hown, htb⟩ (d_textIs9 l dC dI ad cid a2 lx sg gm lg_4 x 5 C9 hI hvx (iv_w (iv_k (by decide) : iv 5 5 5) (by decide)) hC) (cwV 1 htb (gd_V kw_703 kw_704 kw_705 kw_66 kw_1492) rfl rfl rfl (by decide +kernel) ⟨Nat.le_of_ble_eq_true rfl, Nat.le_of_ble_eq_true rfl⟩) hvx (by decide) (by decide) rfl rfl hl.1 rfl (Nat.le_trans cs_n (by decide)) dX3_weighText_11 ⟨Nat.le_of_ble_eq_true rfl, Nat.le_of_ble_eq_true rfl⟩ hK hP hD hS hA hG (fun E ce q9 u_6 H locs hw hP hD hS hce hcv hcl => ?_) (fun v9 u_6 H locs hw hP hD hS => ?_)
  · exact hw.elim
  obtain ⟨r_5, rfl, rfl, hr_5, fI_r_5⟩ := hw
  have hP : va_P (dC, dI) vwCl (cW ad cid a2 lx sg gm lg_4) H := hP
  have hD : va_D A (cW ad cid a2 lx sg gm lg_4) := hD
  refine W.eq (g2 := F0 m 14 ls [.int r_5]) rfl ?_
  refine lv_if_eq (tgt := 25) hx hb dX3_weighText_14 (by decide) (fun c_8 => ?_) (fun c_8 => ?_)
  · have h_9 : iv 0 0 r_5 := iv_eq c_8 hr_5 (iv_k (by decide) : iv 0 0 0) (by decide)
    refine ec_aload_n hx hb dX3_weighText_25 rfl (lv_at hl 0 rfl) ?_
    refine ec_aload_n hx hb dX3_weighText_26 rfl (lv_at hl 0 rfl) ?_
    refine cw_str (k := 6) (kx := 6) hx hb hG (by decide) ⟨by decide, by decide⟩ hown dX3_weighText_27 ?_
    refine cm_callV (t := 9) (C := RX3) (T := TX3) (N := 21) (rest := [eV (ad 9) x]) (as := [eV (ad 37) 6]) ⟨hx, hb, hml, hown, htb⟩ (d_textIs9 l dC dI ad cid a2 lx sg gm lg_4 x 6 C9 hI hvx (iv_w (iv_k (by decide) : iv 6 6 6) (by decide)) hC) (cwV 1 htb (gd_V kw_703 kw_704 kw_705 kw_66 kw_1492) rfl rfl rfl (by decide +kernel) ⟨Nat.le_of_ble_eq_true rfl, Nat.le_of_ble_eq_true rfl⟩) hvx (by decide) (by decide) rfl rfl hl.1 rfl (Nat.le_trans (cs_c (eV_cat _ _) cs_n) (by decide)) dX3_weighText_29 ⟨Nat.le_of_ble_eq_true rfl, Nat.le_of_ble_eq_true rfl⟩ hK hP hD hS hA hG (fun E ce q9 u_11 H locs hw hP hD hS hce hcv hcl => ?_) (fun v9 u_11 H locs hw hP hD hS => ?_)
    · exact hw.elim
    obtain ⟨r_10, rfl, rfl, hr_10, fI_r_10⟩ := hw
    have hP : va_P (dC, dI) vwCl (cW ad cid a2 lx sg gm lg_4) H := hP
    have hD : va_D A (cW ad cid a2 lx sg gm lg_4) := hD
    refine W.eq (g2 := F0 m 32 ls [.int r_10, eV (ad 9) x]) rfl ?_
    refine lv_if_eq (tgt := 39) hx hb dX3_weighText_32 (by decide) (fun c_13 => ?_) (fun c_13 => ?_)
    · have h_14 : iv 0 0 r_10 := iv_eq c_13 hr_10 (iv_k (by decide) : iv 0 0 0) (by decide)
      refine lv_iconst (v := (-1)) hx hb dX3_weighText_39 (by decide) ?_
      refine cr_putg (t := 9) (j := 14) (C := RX3) (T := TX3) (N := 21) (ty0 := tyX3) (k := 21) (y := (-1)) hx hb htb inX3 tyX3_ok nmX3 hown hK hP hD hS hvx (by decide) (by decide) (by decide) (by decide) rfl rfl (by decide) (htb _ kw_398) rfl (by show Value.int (-1) = Value.int (va_up gm 21 (upd (gm 21) x.toNatClampNeg (-1)) 21 x.toNatClampNeg); rw [va_up_self, upd_at]) rfl rfl dX3_weighText_40 (fun gm_15 H locs egm_15 hP hD hS => ?_)
      have hI_gm_15 := CI_st hI egm_15 (iv_k (by decide) : iv (-1) (-1) (-1)) (by decide)
      exact W.nb (fun hN => W.widen (k := 1) (n := 6) (by decide) (by decide) (vx_ret (W.vret hx hb hr (fun t ht hW => ⟨⟨none, (sg, gm_15, lg_4), rfl, ⟨rfl, sg, gm_15, lg_4, rfl, hI_gm_15, KS_rf, (KS_up KS_rf egm_15 (by decide)), (KS_up KS_rf elg_4 (by decide)), (⟨_, (show lg_4 3 = vp_updL (lg 3) (x : Int32).toNatClampNeg r_1 from ((up_at elg_4).trans (by rw [show lg 3 = lg 3 from rfl]))), fN_r_1⟩), (⟨_, (show gm_15 21 = upd (gm 21) (x : Int32).toNatClampNeg (-1) from ((up_at egm_15).trans (by rw [show gm 21 = gm 21 from rfl]))), tr_m (fI_r_5.resolve_left (fun q => absurd q.1 (by have := i32_0; have := i32_1; have := i32_2; have := i32_m1; have := (hvx).1; have := (hvx).2; have := (h_9).1; have := (h_9).2; have := (h_14).1; have := (h_14).2; omega))).2 (fI_r_10.resolve_left (fun q => absurd q.1 (by have := i32_0; have := i32_1; have := i32_2; have := i32_m1; have := (hvx).1; have := (hvx).2; have := (h_9).1; have := (h_9).2; have := (h_14).1; have := (h_14).2; omega))).2⟩)⟩, by rw [ht]; exact hP, va_K.moved hW.alike hK, hD⟩, hS.F ht, by rw [ht]; exact hN⟩) hS.2.2 dX3_weighText_43)))
    · have h_16 : iv 1 1 r_10 := iv_neL c_13 hr_10 (by decide)
      refine lv_iconst (v := 0) hx hb dX3_weighText_35 (by decide) ?_
      refine lv_goto (tgt := 40) hx hb dX3_weighText_36 (by decide) ?_
      refine cr_putg (t := 9) (j := 14) (C := RX3) (T := TX3) (N := 21) (ty0 := tyX3) (k := 21) (y := 0) hx hb htb inX3 tyX3_ok nmX3 hown hK hP hD hS hvx (by decide) (by decide) (by decide) (by decide) rfl rfl (by decide) (htb _ kw_398) rfl (by show Value.int 0 = Value.int (va_up gm 21 (upd (gm 21) x.toNatClampNeg 0) 21 x.toNatClampNeg); rw [va_up_self, upd_at]) rfl rfl dX3_weighText_40 (fun gm_17 H locs egm_17 hP hD hS => ?_)
      have hI_gm_17 := CI_st hI egm_17 (iv_k (by decide) : iv 0 0 0) (by decide)
      exact W.nb (fun hN => W.widen (k := 1) (n := 6) (by decide) (by decide) (vx_ret (W.vret hx hb hr (fun t ht hW => ⟨⟨none, (sg, gm_17, lg_4), rfl, ⟨rfl, sg, gm_17, lg_4, rfl, hI_gm_17, KS_rf, (KS_up KS_rf egm_17 (by decide)), (KS_up KS_rf elg_4 (by decide)), (⟨_, (show lg_4 3 = vp_updL (lg 3) (x : Int32).toNatClampNeg r_1 from ((up_at elg_4).trans (by rw [show lg 3 = lg 3 from rfl]))), fN_r_1⟩), (⟨_, (show gm_17 21 = upd (gm 21) (x : Int32).toNatClampNeg 0 from ((up_at egm_17).trans (by rw [show gm 21 = gm 21 from rfl]))), tr_0 (fI_r_10.resolve_right (fun q => absurd q.1 (by have := i32_0; have := i32_1; have := i32_2; have := i32_m1; have := (hvx).1; have := (hvx).2; have := (h_9).1; have := (h_9).2; have := (h_16).1; have := (h_16).2; omega))).2⟩)⟩, by rw [ht]; exact hP, va_K.moved hW.alike hK, hD⟩, hS.F ht, by rw [ht]; exact hN⟩) hS.2.2 dX3_weighText_43)))
  · have h_18 : iv 1 1 r_5 := iv_neL c_8 hr_5 (by decide)
    refine ec_aload_n hx hb dX3_weighText_17 rfl (lv_at hl 0 rfl) ?_
    refine lv_iconst (v := 1) hx hb dX3_weighText_18 (by decide) ?_
    refine cr_putg (t := 9) (j := 14) (C := RX3) (T := TX3) (N := 21) (ty0 := tyX3) (k := 21) (y := 1) hx hb htb inX3 tyX3_ok nmX3 hown hK hP hD hS hvx (by decide) (by decide) (by decide) (by decide) rfl rfl (by decide) (htb _ kw_398) rfl (by show Value.int 1 = Value.int (va_up gm 21 (upd (gm 21) x.toNatClampNeg 1) 21 x.toNatClampNeg); rw [va_up_self, upd_at]) rfl rfl dX3_weighText_19 (fun gm_19 H locs egm_19 hP hD hS => ?_)
    have hI_gm_19 := CI_st hI egm_19 (iv_k (by decide) : iv 1 1 1) (by decide)
    refine lv_goto (tgt := 43) hx hb dX3_weighText_22 (by decide) ?_
    exact W.nb (fun hN => W.widen (k := 1) (n := 6) (by decide) (by decide) (vx_ret (W.vret hx hb hr (fun t ht hW => ⟨⟨none, (sg, gm_19, lg_4), rfl, ⟨rfl, sg, gm_19, lg_4, rfl, hI_gm_19, KS_rf, (KS_up KS_rf egm_19 (by decide)), (KS_up KS_rf elg_4 (by decide)), (⟨_, (show lg_4 3 = vp_updL (lg 3) (x : Int32).toNatClampNeg r_1 from ((up_at elg_4).trans (by rw [show lg 3 = lg 3 from rfl]))), fN_r_1⟩), (⟨_, (show gm_19 21 = upd (gm 21) (x : Int32).toNatClampNeg 1 from ((up_at egm_19).trans (by rw [show gm 21 = gm 21 from rfl]))), tr_1 (fI_r_5.resolve_right (fun q => absurd q.1 (by have := i32_0; have := i32_1; have := i32_2; have := i32_m1; have := (hvx).1; have := (hvx).2; have := (h_18).1; have := (h_18).2; omega))).2⟩)⟩, by rw [ht]; exact hP, va_K.moved hW.alike hK, hD⟩, hS.F ht, by rw [ht]; exact hN⟩) hS.2.2 dX3_weighText_43)))
end
section
set_option maxHeartbeats 4000000 in
set_option maxRecDepth 100000 in
theorem d_valueToText9 (l : Launch) (dC : Nat → ClassId) (dI : Nat → Nat → Nat) (ad : Nat → Nat → Nat) (cid : Nat → ClassId) (a2 : Nat → Nat) (lx : List Nat) (sg : Nat → Int32) (gm : Nat → Nat → Int32) (lg : Nat → Nat → Int64) (x : Int32) (o : Int32) (w : Int32) (A7 : At7) (V9 : List Int) (hI : CI sg gm) (hvx : iv 0 0 x) (hvo : iv 0 79 o) (hvw : iv 0 33 w) (hFA : FA sg gm) (how : o.toInt < (sg 4).toInt) (hVS : VS sg gm) (hat : ATC A7 gm lg o.toNatClampNeg (sg 5).toInt (sg 6).toInt) (hgv : gA A7 (wKy.getD w.toNatClampNeg 0) = some V9) : CMt dC dI ad cid a2 lx l yX6_valueToText wm_X6_valueToText ({ frames := 1, cells := 1, slots := 6, locals := 23 }) [eV (ad 1) x, eV (ad 9) o, eV (ad 33) w] sg gm lg (fun v u => v = none ∧ ∃ (sg2 : Nat → Int32) (gm2 : Nat → Nat → Int32) (lg2 : Nat → Nat → Int64), u = (sg2, gm2, lg2) ∧ CI sg2 gm2 ∧ KS [] sg sg2 ∧ KS [11, 56] gm gm2 ∧ KS [] lg lg2 ∧ (CTX gm2 o.toNatClampNeg V9) ∧ (∃ v : Int32, gm2 11 = upd (gm 11) o.toNatClampNeg v) ∧ (∀ j, ¬ (24 * o.toNatClampNeg ≤ j ∧ j < 24 * o.toNatClampNeg + 24) → gm2 56 j = gm 56 j)) (fun _ _ => False) := by
  intro sz
  refine vx_ofW (cc := cX6_valueToText) (maxL := 6) (ret := none) (by decide) rfl ?_
  intro p e s m args below meth c s₁ B hml hxt hv
  obtain ⟨rfl, hsz, hP, hK, hD0, hG⟩ := hv
  have hx := B.exec
  have hb := B.bytes
  have hr := B.returns
  have hts := atoms_spec (ws := wm_X6_valueToText) B.pre
  have htb := fun (w : Cond) (h : w ∈ tb) => hts w (List.mem_cons_of_mem _ h)
  have hown : s.vm.findClass RX6 = some m.cls := findClass_of_methodNamed B.named
  have hlocks := B.notSynchronized
  subst hsz
  have hD := hD0.self (sz := s.heap.size)
  generalize hAe : va_A (cW ad cid a2 lx sg gm lg) s.heap.size = A at hD hG ⊢
  have hA : ∀ q : Nat, s.heap.size ≤ q → A q := fun q h => by rw [← hAe]; exact Or.inr h
  have hS : va_S A s.heap s.heap [] := va_S.rf
  have hl := lv_entry ([eV (ad 1) x, eV (ad 9) o, eV (ad 33) w]) (n := 6) (by rw [show (lg_sl ([eV (ad 1) x, eV (ad 9) o, eV (ad 33) w])).length = 3 from by simp [lg_sl, eV_cat, cat_i, cat_l]]; exact Nat.le_of_ble_eq_true rfl)
  rw [lg_entry_eq]
  generalize (lg_sl ([eV (ad 1) x, eV (ad 9) o, eV (ad 33) w]) ++ List.replicate (6 - (lg_sl ([eV (ad 1) x, eV (ad 9) o, eV (ad 33) w])).length) Slot.unset).toArray = ls at hl ⊢
  have hl : lv_has ls 6 [(0, eV (ad 1) x), (1, eV (ad 9) o), (2, eV (ad 33) w)] := by simp [lv_args, eV_cat, cat_i, cat_l] at hl; exact hl
  have hj17 : ∀ (n : Nat) (gm_j17 : Nat → Nat → Int32) (x5_17 : Int32) (x4_17 : Int32) (x3_17 : Int32) (_ : (24 - x5_17.toInt).toNat = n) (_ : iv 0 24 x5_17) (_ : iv 0 24 x4_17) (_ : iv (-1) 239 x3_17) (_ : iv 0 0 x) (_ : iv 0 79 o) (_ : iv 0 33 w) (_ : KS [56] gm gm_j17) (_ : CI sg gm_j17) (_ : (x3_17.toInt = -1 ∧ x4_17.toInt = 0) ∨ (0 ≤ x3_17.toInt ∧ x4_17 = gm 45 x3_17.toNatClampNeg)) (_ : x3_17.toInt < (sg 5).toInt) (_ : x4_17 = gm 45 x3_17.toNatClampNeg) (_ : 0 ≤ x3_17.toInt ∧ VW7 gm x3_17.toNatClampNeg V9) (_ : VTX gm gm_j17 o.toNatClampNeg x5_17.toNatClampNeg V9) (H : Heap) (locs : List Loc) (ls : Array Slot), va_P (dC, dI) vwCl (cW ad cid a2 lx sg gm_j17 lg) H → va_D A (cW ad cid a2 lx sg gm_j17 lg) → va_S A s.heap H locs → lv_has ls 6 [(5, .int x5_17), (4, .int x4_17), (3, .int x3_17), (0, eV (ad 1) x), (1, eV (ad 9) o), (2, eV (ad 33) w)] → W p l e (headSpec wm_X6_valueToText ({ frames := 1, cells := 1, slots := 6, locals := 23 })).room s m ([eV (ad 1) x, eV (ad 9) o, eV (ad 33) w] : List Value).toArray below meth c H locs 0 0 (vx_MQ below (cQx dC dI ad cid a2 lx (fun v u => v = none ∧ ∃ (sg2 : Nat → Int32) (gm2 : Nat → Nat → Int32) (lg2 : Nat → Nat → Int64), u = (sg2, gm2, lg2) ∧ CI sg2 gm2 ∧ KS [] sg sg2 ∧ KS [11, 56] gm gm2 ∧ KS [] lg lg2 ∧ (CTX gm2 o.toNatClampNeg V9) ∧ (∃ v : Int32, gm2 11 = upd (gm 11) o.toNatClampNeg v) ∧ (∀ j, ¬ (24 * o.toNatClampNeg ≤ j ∧ j < 24 * o.toNatClampNeg + 24) → gm2 56 j = gm 56 j)) A) (cX dC dI ad cid a2 lx (fun _ _ => False) A) ([eV (ad 1) x, eV (ad 9) o, eV (ad 33) w] : List Value).toArray s 1 6 A) (F0 m 17 ls []) := by
    intro n
    induction n using Nat.strongRecOn with
    | ind n ih17 =>
      intro gm_j17 x5_17 x4_17 x3_17 hn17 hx5_17 hx4_17 hx3_17 hsx0_17 hsx1_17 hsx2_17 hkg_j17 hI_j17 hV9 h3l hl4 hvw9 hvt H locs ls hP hD hS hl
      refine lv_iload hx hb dX6_valueToText_17 (lv_at hl 0 rfl) ?_
      refine lv_iload hx hb dX6_valueToText_19 (lv_at hl 1 rfl) ?_
      refine lv_icmp_ge (tgt := 44) hx hb dX6_valueToText_21 (by decide) (fun c_1 => ?_) (fun c_1 => ?_)
      · have d_2 : (x4_17 : Int32).toInt ≤ (x5_17 : Int32).toInt := Int32.le_iff_toInt_le.mp c_1
        refine ec_aload_n hx hb dX6_valueToText_44 rfl (lv_at hl 4 rfl) ?_
        refine lv_iload hx hb dX6_valueToText_45 (lv_at hl 1 rfl) ?_
        refine cr_putg (t := 9) (j := 1) (C := RX3) (T := TX3) (N := 21) (ty0 := tyX3) (k := 11) (y := x4_17) hx hb htb inX3 tyX3_ok nmX3 hown hK hP hD hS hsx1_17 (by decide) (by decide) (by decide) (by decide) rfl rfl (by decide) (htb _ kw_695) rfl (by show Value.int x4_17 = Value.int (va_up gm_j17 11 (upd (gm_j17 11) o.toNatClampNeg x4_17) 11 o.toNatClampNeg); rw [va_up_self, upd_at]) rfl rfl dX6_valueToText_47 (fun gm_3 H locs egm_3 hP hD hS => ?_)
        have hI_gm_3 := CI_st hI_j17 egm_3 hx4_17 (by decide)
        exact W.nb (fun hN => W.widen (k := 1) (n := 6) (by decide) (by decide) (vx_ret (W.vret hx hb hr (fun t ht hW => ⟨⟨none, (sg, gm_3, lg), rfl, ⟨rfl, sg, gm_3, lg, rfl, hI_gm_3, KS_rf, (KS_up (KS_tr (L := [11, 56]) KS_rf hkg_j17 (by decide)) egm_3 (by decide)), KS_rf, ((VTX_c hvt (by have k4 := congrArg Int32.toInt hl4; have k5 := hvw9.2.1; have q1 : x5_17.toNatClampNeg = x5_17.toInt.toNat := rfl; have := i32_0; have := i32_1; have := i32_2; have := i32_m1; have := (hsx0_17).1; have := (hsx0_17).2; have := (hsx1_17).1; have := (hsx1_17).2; have := (hsx2_17).1; have := (hsx2_17).2; have := (hx5_17).1; have := (hx5_17).2; have := (hx4_17).1; have := (hx4_17).2; have := (hx3_17).1; have := (hx3_17).2; omega) (show gm_3 56 = gm_j17 56 from up_ne egm_3 (by decide)) (show gm_3 11 = upd (gm 11) (o : Int32).toNatClampNeg x4_17 from ((up_at egm_3).trans (by rw [show gm_j17 11 = gm 11 from ((hkg_j17 11 (by decide)).trans rfl)]))) (by have k4 := congrArg Int32.toInt hl4; have k5 := hvw9.2.1; have q1 : x5_17.toNatClampNeg = x5_17.toInt.toNat := rfl; have := i32_0; have := i32_1; have := i32_2; have := i32_m1; have := (hsx0_17).1; have := (hsx0_17).2; have := (hsx1_17).1; have := (hsx1_17).2; have := (hsx2_17).1; have := (hsx2_17).2; have := (hx5_17).1; have := (hx5_17).2; have := (hx4_17).1; have := (hx4_17).2; have := (hx3_17).1; have := (hx3_17).2; omega) (by have k4 := congrArg Int32.toInt hl4; have k5 := hvw9.2.1; have q1 : x5_17.toNatClampNeg = x5_17.toInt.toNat := rfl; have := i32_0; have := i32_1; have := i32_2; have := i32_m1; have := (hsx0_17).1; have := (hsx0_17).2; have := (hsx1_17).1; have := (hsx1_17).2; have := (hsx2_17).1; have := (hsx2_17).2; have := (hx5_17).1; have := (hx5_17).2; have := (hx4_17).1; have := (hx4_17).2; have := (hx3_17).1; have := (hx3_17).2; omega))), (⟨_, (show gm_3 11 = upd (gm 11) (o : Int32).toNatClampNeg x4_17 from ((up_at egm_3).trans (by rw [show gm_j17 11 = gm 11 from ((hkg_j17 11 (by decide)).trans rfl)])))⟩), ((fun j hj => by rw [show gm_3 56 = gm_j17 56 from up_ne egm_3 (by decide)]; exact hvt.2 j hj))⟩, by rw [ht]; exact hP, va_K.moved hW.alike hK, hD⟩, hS.F ht, by rw [ht]; exact hN⟩) hS.2.2 dX6_valueToText_50)))
      · have d_4 : (x5_17 : Int32).toInt < (x4_17 : Int32).toInt := Int32.lt_iff_toInt_lt.mp (i32_lt c_1)
        have h_5 : iv 0 23 x5_17 := iv_ltL (i32_lt c_1) hx5_17 hx4_17 (by decide)
        have h_6 : iv 1 24 x4_17 := iv_ltR (i32_lt c_1) hx5_17 hx4_17 (by decide)
        obtain ⟨h9z, h9e⟩ : 0 ≤ x3_17.toInt ∧ x4_17 = gm 45 x3_17.toNatClampNeg := hV9.resolve_left (fun q9 => by have := q9.2; have := i32_0; have := i32_1; have := i32_2; have := i32_m1; have := (hsx0_17).1; have := (hsx0_17).2; have := (hsx1_17).1; have := (hsx1_17).2; have := (hsx2_17).1; have := (hsx2_17).2; have := (h_5).1; have := (h_5).2; have := (h_6).1; have := (h_6).2; have := (hx3_17).1; have := (hx3_17).2; omega)
        have h24 : iv 0 239 x3_17 := ⟨h9z, (hx3_17).2⟩
        refine ec_aload_n hx hb dX6_valueToText_24 rfl (lv_at hl 4 rfl) ?_
        refine cr_get (t := 9) (j := 0) (C := RX3) (T := TX3) (N := 21) (v := eV (ad 31) o) hx hb htb inX3 hown hK hP hsx1_17 (by decide) (by decide) (by decide) rfl (by decide) (htb _ kw_694) (cV_c rfl (hsx1_17).1 (by rw [show cMu 9 0 = 1 from rfl, Nat.one_mul]; rfl)) dX6_valueToText_25 ?_
        refine lv_iload hx hb dX6_valueToText_28 (lv_at hl 0 rfl) ?_
        refine ec_aload_n hx hb dX6_valueToText_30 rfl (lv_at hl 3 rfl) ?_
        refine lv_iload_n hx hb dX6_valueToText_31 rfl (lv_at hl 2 rfl) ?_
        refine lv_iload hx hb dX6_valueToText_32 (lv_at hl 0 rfl) ?_
        refine cm_callV (t := 1) (C := RX6) (T := TX6) (N := 8) (rest := [.int x5_17, eV (ad 31) o]) (as := [.int x3_17, .int x5_17]) ⟨hx, hb, hml, hown, htb⟩ (d_valueChar l dC dI ad cid a2 lx sg gm_j17 lg x x3_17 x5_17 hI_j17 hsx0_17 h24 h_5 (VS_e hVS rfl rfl (hkg_j17 44 (by decide)) (hkg_j17 45 (by decide))) h3l (by rw [(hkg_j17 45 (by decide)), ← h9e]; have := i32_0; have := i32_1; have := i32_2; have := i32_m1; have := (hsx0_17).1; have := (hsx0_17).2; have := (hsx1_17).1; have := (hsx1_17).2; have := (hsx2_17).1; have := (hsx2_17).2; have := (h_5).1; have := (h_5).2; have := (h_6).1; have := (h_6).2; have := (h24).1; have := (h24).2; omega)) (cwV 2 htb (gd_V kw_552 kw_553 kw_554 kw_20 kw_1469) rfl rfl rfl (by decide +kernel) ⟨Nat.le_of_ble_eq_true rfl, Nat.le_of_ble_eq_true rfl⟩) hsx0_17 (by decide) (by decide) rfl rfl hl.1 rfl (Nat.le_trans (cs_c (cat_i _) (cs_c (eV_cat _ _) cs_n)) (by decide)) dX6_valueToText_34 ⟨Nat.le_of_ble_eq_true rfl, Nat.le_of_ble_eq_true rfl⟩ hK hP hD hS hA hG (fun E ce q9 u_8 H locs hw hP hD hS hce hcv hcl => ?_) (fun v9 u_8 H locs hw hP hD hS => ?_)
        · exact hw.elim
        obtain ⟨r_7, rfl, rfl, hr_7, fC_r_7⟩ := hw
        have hP : va_P (dC, dI) vwCl (cW ad cid a2 lx sg gm_j17 lg) H := hP
        have hD : va_D A (cW ad cid a2 lx sg gm_j17 lg) := hD
        refine W.eq (g2 := F0 m 37 ls [.int r_7, .int x5_17, eV (ad 31) o]) rfl ?_
        refine cr_cast (t := 31) (k := 56) (n9 := (24 * o.toNatClampNeg + (x5_17 : Int32).toNatClampNeg)) (z := r_7) hx hb hK hP hD hS hsx1_17 (by decide) (by decide) (by decide) rfl rfl rfl (show vp_in x5_17 (cLen 31) from (show vp_in x5_17 24 from (iv_in h_5 (by decide)))) (Or.inr (vin_lt (show vp_in x5_17 (cLen 31) from (show vp_in x5_17 24 from (iv_in h_5 (by decide)))))) rfl dX6_valueToText_37 (fun gm_10 H locs egm_10 hP hD hS => ?_)
        rw [vnc hr_7] at egm_10
        have hI_gm_10 := CI_st hI_j17 egm_10 hr_7 (by decide)
        obtain ⟨z_11, ez_11⟩ : ∃ z : Int32, z = x5_17 + 1 := ⟨_, rfl⟩
        have hz_11 : iv 1 24 z_11 := iv_of ez_11 (iv_add h_5 (iv_k (by decide) : iv 1 1 1) (by decide))
        have tz_11 : z_11.toInt = x5_17.toInt + 1 := by rw [ez_11]; exact iv_addE h_5 (iv_k (by decide) : iv 1 1 1) (by decide)
        refine lv_iinc (v := z_11) (lv' := [(5, .int z_11), (4, .int x4_17), (3, .int x3_17), (0, eV (ad 1) x), (1, eV (ad 9) o), (2, eV (ad 33) w)]) hx hb dX6_valueToText_38 hl (k := 0) rfl ez_11.symm (by decide) rfl (fun ls hl => ?_)
        refine lv_goto (tgt := 17) hx hb dX6_valueToText_41 (by decide) ?_
        exact ih17 _ (by rw [← hn17]; exact (iv_meas tz_11 h_5 (by decide))) gm_10 z_11 x4_17 x3_17 rfl (iv_w hz_11 (by decide)) (iv_w h_6 (by decide)) (iv_w h24 (by decide)) hsx0_17 hsx1_17 hsx2_17 (KS_up (KS_tr (L := [56]) KS_rf hkg_j17 (by decide)) egm_10 (by decide)) hI_gm_10 (hV9) (h3l) (hl4) (hvw9) ((VTX_s hvt (show gm_10 56 = _ from up_at egm_10) (VW_c hvw9.2 (by have k4 := congrArg Int32.toInt hl4; have k5 := hvw9.2.1; have q1 : x5_17.toNatClampNeg = x5_17.toInt.toNat := rfl; have := i32_0; have := i32_1; have := i32_2; have := i32_m1; have := (hsx0_17).1; have := (hsx0_17).2; have := (hsx1_17).1; have := (hsx1_17).2; have := (hsx2_17).1; have := (hsx2_17).2; have := (h_5).1; have := (h_5).2; have := (h_6).1; have := (h_6).2; have := (h24).1; have := (h24).2; have := (hr_7).1; have := (hr_7).2; have := (hz_11).1; have := (hz_11).2; omega) fC_r_7 (hkg_j17 46 (by decide)) (hkg_j17 44 (by decide))) (by have q1 : x5_17.toNatClampNeg = x5_17.toInt.toNat := rfl; have := i32_0; have := i32_1; have := i32_2; have := i32_m1; have := (hsx0_17).1; have := (hsx0_17).2; have := (hsx1_17).1; have := (hsx1_17).2; have := (hsx2_17).1; have := (hsx2_17).2; have := (h_5).1; have := (h_5).2; have := (h_6).1; have := (h_6).2; have := (h24).1; have := (h24).2; have := (hr_7).1; have := (hr_7).2; have := (hz_11).1; have := (hz_11).2; omega) (by have q1 : z_11.toNatClampNeg = z_11.toInt.toNat := rfl; have q1 : x5_17.toNatClampNeg = x5_17.toInt.toNat := rfl; have := i32_0; have := i32_1; have := i32_2; have := i32_m1; have := (hsx0_17).1; have := (hsx0_17).2; have := (hsx1_17).1; have := (hsx1_17).2; have := (hsx2_17).1; have := (hsx2_17).2; have := (h_5).1; have := (h_5).2; have := (h_6).1; have := (h_6).2; have := (h24).1; have := (h24).2; have := (hr_7).1; have := (hr_7).2; have := (hz_11).1; have := (hz_11).2; omega))) _ _ _ hP hD hS (lv_sub hl [0, 1, 2, 3, 4, 5] rfl)
  refine ec_aload_n hx hb dX6_valueToText_0 rfl (lv_at hl 0 rfl) ?_
  refine ec_aload_n hx hb dX6_valueToText_1 rfl (lv_at hl 1 rfl) ?_
  refine ec_aload_n hx hb dX6_valueToText_2 rfl (lv_at hl 2 rfl) ?_
  refine cm_callV (t := 1) (C := RX6) (T := TX6) (N := 8) (rest := []) (as := [eV (ad 9) o, eV (ad 33) w]) ⟨hx, hb, hml, hown, htb⟩ (d_find l dC dI ad cid a2 lx sg gm lg x o w hI hvx hvo hvw hFA how) (cwV 2 htb (gd_V kw_545 kw_546 kw_547 kw_20 kw_1467) rfl rfl rfl (by decide +kernel) ⟨Nat.le_of_ble_eq_true rfl, Nat.le_of_ble_eq_true rfl⟩) hvx (by decide) (by decide) rfl rfl hl.1 rfl (Nat.le_trans cs_n (by decide)) dX6_valueToText_3 ⟨Nat.le_of_ble_eq_true rfl, Nat.le_of_ble_eq_true rfl⟩ hK hP hD hS hA hG (fun E ce q9 u_13 H locs hw hP hD hS hce hcv hcl => ?_) (fun v9 u_13 H locs hw hP hD hS => ?_)
  · exact hw.elim
  obtain ⟨r_12, rfl, rfl, hr_12, fF_r_12, fLt_r_12⟩ := hw
  have hP : va_P (dC, dI) vwCl (cW ad cid a2 lx sg gm lg) H := hP
  have hD : va_D A (cW ad cid a2 lx sg gm lg) := hD
  refine W.eq (g2 := F0 m 6 ls [.int r_12]) rfl ?_
  refine lv_istore_n (i := 3) (lv' := [(3, .int r_12), (0, eV (ad 1) x), (1, eV (ad 9) o), (2, eV (ad 33) w)]) hx hb dX6_valueToText_6 rfl hl (by decide) (by simp [List.filter, eV_cat, cat_i, cat_l]) (fun ls hl => ?_)
  refine ec_aload_n hx hb dX6_valueToText_7 rfl (lv_at hl 1 rfl) ?_
  refine lv_iload_n hx hb dX6_valueToText_8 rfl (lv_at hl 0 rfl) ?_
  refine cm_callV (t := 1) (C := RX6) (T := TX6) (N := 8) (rest := []) (as := [.int r_12]) ⟨hx, hb, hml, hown, htb⟩ (d_valueLength l dC dI ad cid a2 lx sg gm lg x r_12 hI hvx hr_12) (cwV 1 htb (gd_V kw_549 kw_550 kw_551 kw_20 kw_1468) rfl rfl rfl (by decide +kernel) ⟨Nat.le_of_ble_eq_true rfl, Nat.le_of_ble_eq_true rfl⟩) hvx (by decide) (by decide) rfl rfl hl.1 rfl (Nat.le_trans cs_n (by decide)) dX6_valueToText_9 ⟨Nat.le_of_ble_eq_true rfl, Nat.le_of_ble_eq_true rfl⟩ hK hP hD hS hA hG (fun E ce q9 u_16 H locs hw hP hD hS hce hcv hcl => ?_) (fun v9 u_16 H locs hw hP hD hS => ?_)
  · exact hw.elim
  obtain ⟨r_15, rfl, rfl, hr_15, fV_r_15⟩ := hw
  have hP : va_P (dC, dI) vwCl (cW ad cid a2 lx sg gm lg) H := hP
  have hD : va_D A (cW ad cid a2 lx sg gm lg) := hD
  refine W.eq (g2 := F0 m 12 ls [.int r_15]) rfl ?_
  refine lv_istore (i := 4) (lv' := [(4, .int r_15), (3, .int r_12), (0, eV (ad 1) x), (1, eV (ad 9) o), (2, eV (ad 33) w)]) hx hb dX6_valueToText_12 hl (by decide) rfl (fun ls hl => ?_)
  refine lv_iconst (v := 0) hx hb dX6_valueToText_14 (by decide) ?_
  refine lv_istore (i := 5) (lv' := [(5, .int 0), (4, .int r_15), (3, .int r_12), (0, eV (ad 1) x), (1, eV (ad 9) o), (2, eV (ad 33) w)]) hx hb dX6_valueToText_15 hl (by decide) rfl (fun ls hl => ?_)
  exact hj17 _ gm 0 r_15 r_12 rfl (iv_w (iv_k (by decide) : iv 0 0 0) (by decide)) hr_15 hr_12 hvx hvo hvw KS_rf hI (fV_r_15) (fLt_r_12) (((fV_r_15.resolve_left (fun q => absurd q.1 (by have := (FND_g fF_r_12 hat hgv).1; omega))).2)) ((FND_g fF_r_12 hat hgv)) ((VTX_0 rfl rfl)) _ _ _ hP hD hS (lv_sub hl [0, 1, 2, 3, 4, 5] rfl)
end
section
section SE9
/-- a type's number -/
def TQ9 (A : At7) (k : Int64) (r : Int) : Prop := (0 ≤ cv7 A k ∧ r = 8 + cv7 A k) ∨ (cv7 A k = -1 ∧ ∃ i : Nat, i < 5 ∧ r = (i : Int) ∧ nv7 A k = wKy.getD (29 + i) 0) ∨ (r = -1 ∧ ¬ ty7 A k)
theorem ty_w {A : At7} {k : Int64} {r : Int32} {n : Nat} (hr : WKR r (nv7 A k)) (h0 : 0 ≤ r.toInt) (hn : r.toInt = (n : Int)) : nv7 A k = wKy.getD n 0 := by
  rcases hr with ⟨a1, a2, a3⟩ | ⟨a1, a2⟩
  · have e : r.toNatClampNeg = n := by show r.toInt.toNat = n; omega
    rw [e] at a3; exact a3.symm
  · omega
variable {gm gm2 gm3 : Nat → Nat → Int32} {lg lg2 lg3 : Nat → Nat → Int64} {e o : Nat} {C : List Int} {A : At7}
/-- number and truth of a text -/
def NT9 (gm : Nat → Nat → Int32) (lg : Nat → Nat → Int64) (e : Nat) (C : List Int) : Prop := (lg 3 e).toInt = (nuL C).getD 1099511627776 ∧ (gm 21 e).toInt = trL C
theorem NT_of {f : Nat → Int64} {g : Nat → Int32} (h3 : ∃ v : Int64, lg 3 = vp_updL f e v ∧ v.toInt = (nuL C).getD 1099511627776) (h21 : ∃ v : Int32, gm 21 = upd g e v ∧ v.toInt = trL C) : NT9 gm lg e C := by
  obtain ⟨v, a1, a2⟩ := h3
  obtain ⟨w, b1, b2⟩ := h21
  exact ⟨by rw [a1, vp_uL]; exact a2, by rw [b1, upd_at]; exact b2⟩
/-- the content of an arg or a set -/
def SC9 (A : At7) (gm gm2 : Nat → Nat → Int32) (lg2 : Nat → Nat → Int64) (o : Nat) (w : Int32) : Prop := (0 ≤ (gm 16 o).toInt ∧ gm2 26 o = gm 16 o ∧ gm2 25 o = w) ∨ ((gm 16 o).toInt < 0 ∧ (gm2 26 o).toInt = (o : Int) ∧ ((aH A 508440638821 = 1 ∧ (gm2 25 o).toInt = 7 ∧ ∃ V, gA A 508440638821 = some V ∧ CTX gm2 o V ∧ NT9 gm2 lg2 o V) ∨ (aH A 508440638821 = 0 ∧ (gm2 25 o).toInt = 8 ∧ lg2 2 o = nv7 A 7497062)))
theorem SC_0 {f : Nat → Int32} {w u : Int32} (h : 0 ≤ (gm 16 o).toInt) (h26 : gm2 26 = upd f o u) (hu : u = gm 16 o) (h25 : gm2 25 o = w) : SC9 A gm gm2 lg2 o w := Or.inl ⟨h, by rw [h26, upd_at, hu], h25⟩
theorem SC_1 {f g : Nat → Int32} {w o9 : Int32} {V : List Int} (h : (gm 16 o9.toNatClampNeg).toInt < 0) (ho : iv 0 79 o9) (h26 : gm2 26 = upd f o9.toNatClampNeg o9) (ha : aH A 508440638821 = 1) (h25 : gm2 25 = upd g o9.toNatClampNeg 7) (hg : gA A 508440638821 = some V) (hC : CTX gm2 o9.toNatClampNeg V) (hN : NT9 gm2 lg2 o9.toNatClampNeg V) : SC9 A gm gm2 lg2 o9.toNatClampNeg w := Or.inr ⟨h, by rw [h26, upd_at]; have := ho.1; show _ = ((o9.toInt.toNat : Nat) : Int); omega, Or.inl ⟨ha, by rw [h25, upd_at]; decide, V, hg, hC, hN⟩⟩
theorem SC_2 {f g : Nat → Int32} {l : Nat → Int64} {w o9 : Int32} {v : Int64} (h : (gm 16 o9.toNatClampNeg).toInt < 0) (ho : iv 0 79 o9) (h26 : gm2 26 = upd f o9.toNatClampNeg o9) (ha : aH A 508440638821 = 0) (h25 : gm2 25 = upd g o9.toNatClampNeg 8) (h2 : lg2 2 = vp_updL l o9.toNatClampNeg v) (hv : v = nv7 A 7497062) : SC9 A gm gm2 lg2 o9.toNatClampNeg w := Or.inr ⟨h, by rw [h26, upd_at]; have := ho.1; show _ = ((o9.toInt.toNat : Nat) : Int); omega, Or.inr ⟨ha, by rw [h25, upd_at]; decide, by rw [h2, vp_uL, hv]⟩⟩
/-- only at one place -/
def RO (f g : Nat → Int32) (o : Nat) : Prop := ∀ j, j ≠ o → g j = f j
def RL9 (f g : Nat → Int64) (o : Nat) : Prop := ∀ j, j ≠ o → g j = f j
def RX (f g : Nat → Int32) (o : Nat) : Prop := ∀ j, ¬ (24 * o ≤ j ∧ j < 24 * o + 24) → g j = f j
theorem RO_e {f g : Nat → Int32} (h : g = f) : RO f g o := fun _ _ => by rw [h]
theorem RO_u {f g : Nat → Int32} {v : Int32} (h : g = upd f o v) : RO f g o := fun j hj => by rw [h]; exact upd_ne hj
theorem RO_x {f g : Nat → Int32} (h : ∃ v, g = upd f o v) : RO f g o := by obtain ⟨v, h⟩ := h; exact RO_u h
theorem RO_p {f g : Nat → Int32} {P : Int32 → Prop} (h : ∃ v, g = upd f o v ∧ P v) : RO f g o := by obtain ⟨v, h, _⟩ := h; exact RO_u h
theorem RO_t {f g k : Nat → Int32} (h : RO f g o) (h2 : RO g k o) : RO f k o := fun j hj => (h2 j hj).trans (h j hj)
theorem RL_e {f g : Nat → Int64} (h : g = f) : RL9 f g o := fun _ _ => by rw [h]
theorem RL_u {f g : Nat → Int64} {v : Int64} (h : g = vp_updL f o v) : RL9 f g o := fun j hj => by rw [h]; exact vp_uLn hj
theorem RL_p {f g : Nat → Int64} {P : Int64 → Prop} (h : ∃ v, g = vp_updL f o v ∧ P v) : RL9 f g o := by obtain ⟨v, h, _⟩ := h; exact RL_u h
theorem RL_t {f g k : Nat → Int64} (h : RL9 f g o) (h2 : RL9 g k o) : RL9 f k o := fun j hj => (h2 j hj).trans (h j hj)
theorem RX_e {f g : Nat → Int32} (h : g = f) : RX f g o := fun _ _ => by rw [h]
theorem RX_t {f g k : Nat → Int32} (h : RX f g o) (h2 : RX g k o) : RX f k o := fun j hj => (h2 j hj).trans (h j hj)
/-- settling an element leaves the others -/
def GF9 (gm gm2 : Nat → Nat → Int32) (lg lg2 : Nat → Nat → Int64) (o : Nat) : Prop := RO (gm 11) (gm2 11) o ∧ RO (gm 21) (gm2 21) o ∧ RO (gm 22) (gm2 22) o ∧ RO (gm 23) (gm2 23) o ∧ RO (gm 24) (gm2 24) o ∧ RO (gm 25) (gm2 25) o ∧ RO (gm 26) (gm2 26) o ∧ RX (gm 56) (gm2 56) o ∧ RL9 (lg 2) (lg2 2) o ∧ RL9 (lg 3) (lg2 3) o
theorem CTX_o {j : Nat} (h : CTX gm j C) (h11 : RO (gm 11) (gm2 11) o) (h56 : RX (gm 56) (gm2 56) o) (hj : j ≠ o) : CTX gm2 j C := by
  refine ⟨by rw [h11 j hj]; exact h.1, h.2.1, fun i x hx => ?_⟩
  have hi : i < 24 := by have := (List.getElem?_eq_some_iff.mp hx).1; have := h.2.1; omega
  rw [h56 _ (by omega)]; exact h.2.2 i x hx
/-- a text as it lies in the rows -/
def ctC (gm : Nat → Nat → Int32) (e : Nat) : List Int := (List.range (gm 11 e).toNatClampNeg).map (fun i => (gm 56 (24 * e + i)).toInt)
theorem ctC_l : (ctC gm e).length = (gm 11 e).toNatClampNeg := by unfold ctC; rw [List.length_map, List.length_range]
theorem CTX_c (h : iv 0 24 (gm 11 e)) : CTX gm e (ctC gm e) := by
  have h1 := iv_cl h (by decide)
  have h2 := h.2
  have h3 := h.1
  refine ⟨by rw [ctC_l]; omega, by rw [ctC_l]; omega, fun i x hx => ?_⟩
  unfold ctC at hx
  rw [List.getElem?_map] at hx
  cases q : (List.range (gm 11 e).toNatClampNeg)[i]? with
  | none => rw [q] at hx; cases hx
  | some y =>
    rw [q] at hx
    have e2 : y = i := by
      have hi := (List.getElem?_eq_some_iff.mp q).1
      rw [List.length_range] at hi
      rw [List.getElem?_range hi] at q
      exact (Option.some.inj q).symm
    rw [← Option.some.inj hx, e2]
/-- the text of D -/
def dTT (D : List El7) (e : Nat) : List Int := ((dEl D e).2.2.2.2.2).take (dTx D e)
def TXD (D : List El7) (gm : Nat → Nat → Int32) (e : Nat) : Prop := TXC7 (dEl D e) gm e ∧ (gm 11 e).toInt = (dTx D e : Int)
theorem TXD_o {D : List El7} {j : Nat} (h : TXD D gm j) (h11 : RO (gm 11) (gm2 11) o) (h56 : RX (gm 56) (gm2 56) o) (hj : j ≠ o) : TXD D gm2 j := by
  obtain ⟨⟨a1, a2, a3⟩, b⟩ := h
  refine ⟨⟨a1, a2, fun i x hx hi => ?_⟩, by rw [h11 j hj]; exact b⟩
  rw [h56 _ (by omega)]; exact a3 i x hx hi
theorem TXD_e {D : List El7} {j : Nat} (h : TXD D gm j) (h11 : gm2 11 = gm 11) (h56 : gm2 56 = gm 56) : TXD D gm2 j := by unfold TXD TXC7 at *; rw [h11, h56]; exact h
theorem TXD_w {D : List El7} (h : TXD D gm e) (hC : CTX gm e C) : WQ9 C (dTT D e) := by
  obtain ⟨⟨a1, a2, a3⟩, b⟩ := h
  have hl : (dTT D e).length = dTx D e := by unfold dTT; rw [List.length_take]; unfold dTx at *; omega
  have hl2 : C.length = dTx D e := by have := hC.1; omega
  refine ⟨by omega, fun i c t h1 h2 => ?_⟩
  have hi := (List.getElem?_eq_some_iff.mp h1).1
  have e2 := hC.2.2 i c h1
  unfold dTT at h2
  rw [List.getElem?_take_of_lt (by omega)] at h2
  have h24 := hC.2.1
  rcases a3 i t h2 (by omega) with q | q
  · exact Or.inl (by omega)
  · exact Or.inr ⟨q.1, by omega⟩
/-- an element that is settled -/
def SE9 (D : List El7) (gm : Nat → Nat → Int32) (lg : Nat → Nat → Int64) (e : Nat) : Prop :=
  (dKd D e = 4 → (gm 23 e).toInt = pl7 (dAt D e) 24948 ∧ TQ9 (dAt D e) 1954115685 (gm 24 e).toInt) ∧ (dKd D e = 5 ∨ dKd D e = 10 → (gm 22 e).toInt = lv7 (dAt D e) 1851878757) ∧ (dKd D e = 10 ∨ dKd D e = 8 → lg 2 e = nv7 (dAt D e) 1650811246) ∧ (dKd D e = 2 → lg 2 e = nv7 (dAt D e) 1851878757)
  ∧ (dKd D e = 4 ∨ dKd D e = 5 → SC9 (dAt D e) gm gm lg e (gm 14 e)) ∧ (¬ dKd D e = 4 → ¬ dKd D e = 5 → gm 25 e = gm 14 e) ∧ (dKd D e = 7 → ∃ C, CTX gm e C ∧ NT9 gm lg e C ∧ WQ9 C (dTT D e))
theorem SE_o {D : List El7} {j : Nat} (h : SE9 D gm lg j) (hG : GF9 gm gm2 lg lg2 o) (hj : j ≠ o) (h14 : gm2 14 = gm 14) (h16 : gm2 16 = gm 16) : SE9 D gm2 lg2 j := by
  obtain ⟨a1, a2, a3, a4, a5, a6, a7⟩ := h
  obtain ⟨b11, b21, b22, b23, b24, b25, b26, b56, l2, l3⟩ := hG
  refine ⟨fun q => by rw [b23 j hj, b24 j hj]; exact a1 q, fun q => by rw [b22 j hj]; exact a2 q, fun q => by rw [l2 j hj]; exact a3 q, fun q => by rw [l2 j hj]; exact a4 q, fun q => ?_, fun q1 q2 => by rw [b25 j hj, h14]; exact a6 q1 q2, fun q => ?_⟩
  · rw [h14]
    unfold SC9 NT9
    rw [h16, b26 j hj, b25 j hj, l2 j hj, l3 j hj, b21 j hj]
    rcases a5 q with w | ⟨w1, w2, w3⟩
    · exact Or.inl w
    · refine Or.inr ⟨w1, w2, ?_⟩
      rcases w3 with ⟨v1, v2, V, v3, v4, v5⟩ | w3
      · exact Or.inl ⟨v1, v2, V, v3, CTX_o v4 b11 b56 hj, v5⟩
      · exact Or.inr w3
  · obtain ⟨C, c1, c2, c3⟩ := a7 q
    refine ⟨C, CTX_o c1 b11 b56 hj, ?_, c3⟩
    unfold NT9
    rw [l3 j hj, b21 j hj]; exact c2
theorem SE_4 {D : List El7} {f g : Nat → Int32} {r s w : Int32} {g1 : Nat → Nat → Int32} (hk : dKd D o = 4) (h23 : gm 23 = upd f o r) (hr : r.toInt = pl7 (dAt D o) 24948) (h24 : gm 24 = upd g o s) (hs : TQ9 (dAt D o) 1954115685 s.toInt) (hS : SC9 (dAt D o) g1 gm lg o w) (h16 : gm 16 = g1 16) (hw : w = gm 14 o) : SE9 D gm lg o := by
  refine ⟨fun _ => ⟨by rw [h23, upd_at]; exact hr, by rw [h24, upd_at]; exact hs⟩, fun q => by omega, fun q => by omega, fun q => by omega, fun _ => ?_, fun q => absurd hk q, fun q => by omega⟩
  rw [← hw]; unfold SC9 at *; rw [h16]; exact hS
theorem SE_5 {D : List El7} {f : Nat → Int32} {r w : Int32} {g1 : Nat → Nat → Int32} (hk : dKd D o = 5) (h22 : gm 22 = upd f o r) (hr : r.toInt = lv7 (dAt D o) 1851878757) (hS : SC9 (dAt D o) g1 gm lg o w) (h16 : gm 16 = g1 16) (hw : w = gm 14 o) : SE9 D gm lg o := by
  refine ⟨fun q => by omega, fun _ => by rw [h22, upd_at]; exact hr, fun q => by omega, fun q => by omega, fun _ => ?_, fun _ q => absurd hk q, fun q => by omega⟩
  rw [← hw]; unfold SC9 at *; rw [h16]; exact hS
theorem SE_10 {D : List El7} {f : Nat → Int32} {l : Nat → Int64} {r : Int32} {v : Int64} (hk : dKd D o = 10) (h25 : gm 25 o = gm 14 o) (h22 : gm 22 = upd f o r) (hr : r.toInt = lv7 (dAt D o) 1851878757) (h2 : lg 2 = vp_updL l o v) (hv : v = nv7 (dAt D o) 1650811246) : SE9 D gm lg o :=
  ⟨fun q => by omega, fun _ => by rw [h22, upd_at]; exact hr, fun _ => by rw [h2, vp_uL]; exact hv, fun q => by omega, fun q => by omega, fun _ _ => h25, fun q => by omega⟩
theorem SE_8 {D : List El7} {l : Nat → Int64} {v : Int64} (hk : dKd D o = 8) (h25 : gm 25 o = gm 14 o) (h2 : lg 2 = vp_updL l o v) (hv : v = nv7 (dAt D o) 1650811246) : SE9 D gm lg o :=
  ⟨fun q => by omega, fun q => by omega, fun _ => by rw [h2, vp_uL]; exact hv, fun q => by omega, fun q => by omega, fun _ _ => h25, fun q => by omega⟩
theorem SE_2 {D : List El7} {l : Nat → Int64} {v : Int64} (hk : dKd D o = 2) (h25 : gm 25 o = gm 14 o) (h2 : lg 2 = vp_updL l o v) (hv : v = nv7 (dAt D o) 1851878757) : SE9 D gm lg o :=
  ⟨fun q => by omega, fun q => by omega, fun q => by omega, fun _ => by rw [h2, vp_uL]; exact hv, fun q => by omega, fun _ _ => h25, fun q => by omega⟩
theorem SE_7 {D : List El7} {g1 : Nat → Nat → Int32} (hk : dKd D o = 7) (h25 : gm 25 o = gm 14 o) (hT : TXD D g1 o) (hC : CTX gm o C) (h11 : gm 11 = g1 11) (h56 : gm 56 = g1 56) (hN : NT9 gm lg o C) : SE9 D gm lg o :=
  ⟨fun q => by omega, fun q => by omega, fun q => by omega, fun q => by omega, fun q => by omega, fun _ _ => h25, fun _ => ⟨C, hC, hN, TXD_w (TXD_e hT h11 h56) hC⟩⟩
theorem SE_n {D : List El7} (h25 : gm 25 o = gm 14 o) (n4 : ¬ dKd D o = 4) (n5 : ¬ dKd D o = 5) (n10 : ¬ dKd D o = 10) (n8 : ¬ dKd D o = 8) (n2 : ¬ dKd D o = 2) (n7 : ¬ dKd D o = 7) : SE9 D gm lg o :=
  ⟨fun q => by omega, fun q => by omega, fun q => by omega, fun q => by omega, fun q => by omega, fun _ _ => h25, fun q => by omega⟩
/-- a bean that has begun -/
abbrev YN9 (A : At7) (k v : Int64) (r : Int32) : Prop := (r.toInt = 1 ∧ nv7 A k = v) ∨ (r.toInt = 0 ∧ ¬ nv7 A k = v)
def BH9 (A : At7) (gm : Nat → Nat → Int32) (lg : Nat → Nat → Int64) (b : Nat) : Prop := lg 4 b = nv7 A 26980 ∧ lg 5 b = nv7 A 123563833388660 ∧ lg 6 b = nv7 A 28259031083541619 ∧ YN9 A 7017298113369039732 7955827 (gm 34 b) ∧ YN9 A 495589486693 1835101817 (gm 35 b) ∧ YN9 A 1818327673 7955827 (gm 36 b)
def BZ9 (gm : Nat → Nat → Int32) (lg : Nat → Nat → Int64) (b : Nat) : Prop := lg 7 b = 0 ∧ gm 30 b = -1 ∧ gm 31 b = -1 ∧ gm 32 b = -1 ∧ gm 33 b = -1
def BF9 (gm gm2 : Nat → Nat → Int32) (lg lg2 : Nat → Nat → Int64) (b : Nat) : Prop := RO (gm 30) (gm2 30) b ∧ RO (gm 31) (gm2 31) b ∧ RO (gm 32) (gm2 32) b ∧ RO (gm 33) (gm2 33) b ∧ RO (gm 34) (gm2 34) b ∧ RO (gm 35) (gm2 35) b ∧ RO (gm 36) (gm2 36) b ∧ RL9 (lg 4) (lg2 4) b ∧ RL9 (lg 5) (lg2 5) b ∧ RL9 (lg 6) (lg2 6) b ∧ RL9 (lg 7) (lg2 7) b
theorem BH_o {b c : Nat} (h : BH9 A gm lg c) (hF : BF9 gm gm2 lg lg2 b) (hc : c ≠ b) : BH9 A gm2 lg2 c := by
  obtain ⟨_, _, _, _, r34, r35, r36, l4, l5, l6, _⟩ := hF
  unfold BH9
  rw [l4 c hc, l5 c hc, l6 c hc, r34 c hc, r35 c hc, r36 c hc]; exact h
theorem BZ_o {b c : Nat} (h : BZ9 gm lg c) (hF : BF9 gm gm2 lg lg2 b) (hc : c ≠ b) : BZ9 gm2 lg2 c := by
  obtain ⟨r30, r31, r32, r33, _, _, _, _, _, _, l7⟩ := hF
  unfold BZ9
  rw [l7 c hc, r30 c hc, r31 c hc, r32 c hc, r33 c hc]; exact h
theorem upd_av {f g : Nat → Int32} {k : Nat} {v : Int32} (h : g = upd f k v) : g k = v := by rw [h, upd_at]
theorem vpu_av {f g : Nat → Int64} {k : Nat} {v : Int64} (h : g = vp_updL f k v) : g k = v := by rw [h, vp_uL]
theorem LVP_lv {j : Nat} {k : Int64} {P5 P6 : Int} (h : LVP gm lg j k) (ha : ATC A gm lg j P5 P6) : 0 ≤ lv7 A k := by
  obtain ⟨a, h1, h2, h3, h4, h5⟩ := h
  have q := v_1 (z := gm 46 ((gm 44 a.toNatClampNeg).toNatClampNeg + (0 : Int32).toNatClampNeg)) h1 ha h2 h3 rfl
  rw [show (0 : Int32).toNatClampNeg = 0 by decide, Nat.add_zero] at q
  rw [(lv_s q).1, if_pos ⟨h4, h5⟩]; omega
end SE9
end
section
set_option maxHeartbeats 4000000 in
set_option maxRecDepth 100000 in
theorem d_typeValue9 (l : Launch) (dC : Nat → ClassId) (dI : Nat → Nat → Nat) (ad : Nat → Nat → Nat) (cid : Nat → ClassId) (a2 : Nat → Nat) (lx : List Nat) (sg : Nat → Int32) (gm : Nat → Nat → Int32) (lg : Nat → Nat → Int64) (x : Int32) (o : Int32) (w : Int32) (A7 : At7) (hI : CI sg gm) (hvx : iv 0 0 x) (hvo : iv 0 79 o) (hvw : iv 0 33 w) (hFA : FA sg gm) (how : o.toInt < (sg 4).toInt) (hVS : VS sg gm) (hat : ATC A7 gm lg o.toNatClampNeg (sg 5).toInt (sg 6).toInt) : CMt dC dI ad cid a2 lx l yX6_typeValue wm_X6_typeValue ({ frames := 2, cells := 1, slots := 6, locals := 51 }) [eV (ad 1) x, eV (ad 9) o, eV (ad 33) w] sg gm lg (fun v u => ∃ r : Int32, v = some (.int r) ∧ u = (sg, gm, lg) ∧ (iv (-1) 15 r) ∧ (TQ9 A7 (wKy.getD w.toNatClampNeg 0) r.toInt)) (fun _ _ => False) := by
  intro sz
  refine vx_ofW (cc := cX6_typeValue) (maxL := 5) (ret := (some .int)) (by decide) rfl ?_
  intro p e s m args below meth c s₁ B hml hxt hv
  obtain ⟨rfl, hsz, hP, hK, hD0, hG⟩ := hv
  have hx := B.exec
  have hb := B.bytes
  have hr := B.returns
  have hts := atoms_spec (ws := wm_X6_typeValue) B.pre
  have htb := fun (w : Cond) (h : w ∈ tb) => hts w (List.mem_cons_of_mem _ h)
  have hown : s.vm.findClass RX6 = some m.cls := findClass_of_methodNamed B.named
  have hlocks := B.notSynchronized
  subst hsz
  have hD := hD0.self (sz := s.heap.size)
  generalize hAe : va_A (cW ad cid a2 lx sg gm lg) s.heap.size = A at hD hG ⊢
  have hA : ∀ q : Nat, s.heap.size ≤ q → A q := fun q h => by rw [← hAe]; exact Or.inr h
  have hS : va_S A s.heap s.heap [] := va_S.rf
  have hl := lv_entry ([eV (ad 1) x, eV (ad 9) o, eV (ad 33) w]) (n := 5) (by rw [show (lg_sl ([eV (ad 1) x, eV (ad 9) o, eV (ad 33) w])).length = 3 from by simp [lg_sl, eV_cat, cat_i, cat_l]]; exact Nat.le_of_ble_eq_true rfl)
  rw [lg_entry_eq]
  generalize (lg_sl ([eV (ad 1) x, eV (ad 9) o, eV (ad 33) w]) ++ List.replicate (5 - (lg_sl ([eV (ad 1) x, eV (ad 9) o, eV (ad 33) w])).length) Slot.unset).toArray = ls at hl ⊢
  have hl : lv_has ls 5 [(0, eV (ad 1) x), (1, eV (ad 9) o), (2, eV (ad 33) w)] := by simp [lv_args, eV_cat, cat_i, cat_l] at hl; exact hl
  refine ec_aload_n hx hb dX6_typeValue_0 rfl (lv_at hl 0 rfl) ?_
  refine ec_aload_n hx hb dX6_typeValue_1 rfl (lv_at hl 1 rfl) ?_
  refine ec_aload_n hx hb dX6_typeValue_2 rfl (lv_at hl 2 rfl) ?_
  refine cm_callV (t := 1) (C := RX6) (T := TX6) (N := 8) (rest := []) (as := [eV (ad 9) o, eV (ad 33) w]) ⟨hx, hb, hml, hown, htb⟩ (d_classValue2 l dC dI ad cid a2 lx sg gm lg x o w A7 hI hvx hvo hvw hFA how hVS hat) (cwV 2 htb (gd_V kw_599 kw_586 kw_587 kw_20 kw_1476) rfl rfl rfl (by decide +kernel) ⟨Nat.le_of_ble_eq_true rfl, Nat.le_of_ble_eq_true rfl⟩) hvx (by decide) (by decide) rfl rfl hl.1 rfl (Nat.le_trans cs_n (by decide)) dX6_typeValue_3 ⟨Nat.le_of_ble_eq_true rfl, Nat.le_of_ble_eq_true rfl⟩ hK hP hD hS hA hG (fun E ce q9 u_2 H locs hw hP hD hS hce hcv hcl => ?_) (fun v9 u_2 H locs hw hP hD hS => ?_)
  · exact hw.elim
  obtain ⟨r_1, rfl, rfl, hr_1, fK_r_1⟩ := hw
  have hP : va_P (dC, dI) vwCl (cW ad cid a2 lx sg gm lg) H := hP
  have hD : va_D A (cW ad cid a2 lx sg gm lg) := hD
  refine W.eq (g2 := F0 m 6 ls [.int r_1]) rfl ?_
  refine lv_istore_n (i := 3) (lv' := [(3, .int r_1), (0, eV (ad 1) x), (1, eV (ad 9) o), (2, eV (ad 33) w)]) hx hb dX6_typeValue_6 rfl hl (by decide) (by simp [List.filter, eV_cat, cat_i, cat_l]) (fun ls hl => ?_)
  refine lv_iload_n hx hb dX6_typeValue_7 rfl (lv_at hl 0 rfl) ?_
  refine lv_iconst (v := (-1)) hx hb dX6_typeValue_8 (by decide) ?_
  refine lv_icmp_eq (tgt := 17) hx hb dX6_typeValue_9 (by decide) (fun c_4 => ?_) (fun c_4 => ?_)
  · have h_5 : iv (-1) (-1) r_1 := iv_eq c_4 hr_1 (iv_k (by decide) : iv (-1) (-1) (-1)) (by decide)
    refine ec_aload_n hx hb dX6_typeValue_17 rfl (lv_at hl 1 rfl) ?_
    refine ec_aload_n hx hb dX6_typeValue_18 rfl (lv_at hl 2 rfl) ?_
    refine ec_aload_n hx hb dX6_typeValue_19 rfl (lv_at hl 3 rfl) ?_
    refine cm_callV (t := 1) (C := RX6) (T := TX6) (N := 8) (rest := []) (as := [eV (ad 9) o, eV (ad 33) w]) ⟨hx, hb, hml, hown, htb⟩ (d_nameValue3 l dC dI ad cid a2 lx sg gm lg x o w A7 hI hvx hvo hvw hFA how hVS hat) (cwV 2 htb (gd_V kw_591 kw_583 kw_584 kw_20 kw_1475) rfl rfl rfl (by decide +kernel) ⟨Nat.le_of_ble_eq_true rfl, Nat.le_of_ble_eq_true rfl⟩) hvx (by decide) (by decide) rfl rfl hl.1 rfl (Nat.le_trans cs_n (by decide)) dX6_typeValue_20 ⟨Nat.le_of_ble_eq_true rfl, Nat.le_of_ble_eq_true rfl⟩ hK hP hD hS hA hG (fun E ce q9 u_7 H locs hw hP hD hS hce hcv hcl => ?_) (fun v9 u_7 H locs hw hP hD hS => ?_)
    · exact hw.elim
    obtain ⟨r_6, rfl, rfl, fN_r_6, fZ_r_6⟩ := hw
    have hP : va_P (dC, dI) vwCl (cW ad cid a2 lx sg gm lg) H := hP
    have hD : va_D A (cW ad cid a2 lx sg gm lg) := hD
    refine W.eq (g2 := F0 m 23 ls [.long r_6]) rfl ?_
    refine cm_callS (rest := []) (as := [.long r_6]) ⟨hx, hb, hml, hown, htb⟩ (d_withKey2 l dC dI ad cid a2 lx sg gm lg r_6 hI) (va_cwS 1 htb (gd_S kw_563 kw_409 kw_410 kw_1431) rfl rfl rfl (by decide +kernel) ⟨Nat.le_of_ble_eq_true rfl, Nat.le_of_ble_eq_true rfl⟩)  rfl hl.1 rfl (Nat.le_trans cs_n (by decide)) dX6_typeValue_23 ⟨Nat.le_of_ble_eq_true rfl, Nat.le_of_ble_eq_true rfl⟩ hK hP hD hS hA hG (fun E ce q9 u_10 H locs hw hP hD hS hce hcv hcl => ?_) (fun v9 u_10 H locs hw hP hD hS => ?_)
    · exact hw.elim
    obtain ⟨r_9, rfl, rfl, hr_9, fW_r_9⟩ := hw
    have hP : va_P (dC, dI) vwCl (cW ad cid a2 lx sg gm lg) H := hP
    have hD : va_D A (cW ad cid a2 lx sg gm lg) := hD
    refine W.eq (g2 := F0 m 26 ls [eV (ad 33) r_9]) rfl ?_
    refine ec_astore (i := 4) (lv' := [(4, eV (ad 33) r_9), (3, .int r_1), (0, eV (ad 1) x), (1, eV (ad 9) o), (2, eV (ad 33) w)]) hx hb dX6_typeValue_26 hl (by decide) rfl (fun ls hl => ?_)
    refine ec_aload hx hb dX6_typeValue_28 (lv_at hl 0 rfl) ?_
    refine ec_ifnonnull (tgt := 35) hx hb dX6_typeValue_30 (by decide) (fun c_12 => ?_) (fun c_12 => ?_)
    · have h_13 : iv 0 33 r_9 := ⟨c_12, (hr_9).2⟩
      refine cw_sw hx hb hG hS hown (htb _ kw_598) dX6_typeValue_35 ?_
      refine ec_aload hx hb dX6_typeValue_38 (lv_at hl 0 rfl) ?_
      refine cw_ord ⟨hx, hb, hml, hown, htb⟩ kw_600 h_13 hl.1 (Nat.le_trans (cs_c (eV_cat _ _) cs_n) (by decide)) dX6_typeValue_40 ⟨Nat.le_of_ble_eq_true rfl, Nat.le_of_ble_eq_true rfl⟩ ⟨Nat.le_of_ble_eq_true rfl, Nat.le_of_ble_eq_true rfl⟩ hP hD hS hA hG (fun H locs hP hS => ?_)
      refine cw_swld (iv_k (by decide) : iv 0 0 0) hx hb hG hS h_13 dX6_typeValue_43 ?_
      refine lv_topi (fun z_14 ez_14 => ?_)
      have hz_14 : iv 0 29 z_14 := iv_of ez_14 (sw_iv r_9)
      by_cases c_15 : (z_14 : Int32).toInt = 1
      · refine lv_tableIn (tgt := 80) hx hb dX6_typeValue_44 (by rw [c_15]; decide) (by rw [c_15]; decide) (by rw [c_15]; rfl) (by decide) ?_
        have h_16 : iv 1 1 z_14 := iv_at c_15
        refine lv_iconst (v := 0) hx hb dX6_typeValue_80 (by decide) ?_
        exact W.nb (fun hN => W.widen (k := 1) (n := 6) (by decide) (by decide) (vx_ret (W.iret (v := 0) hx hb hr (fun t ht hW => ⟨⟨some (.int 0), (sg, gm, lg), rfl, ⟨0, rfl, rfl, (iv_w (iv_k (by decide) : iv 0 0 0) (by decide)), (Or.inr (Or.inl ⟨(by rw [← fK_r_1]; have := i32_0; have := i32_1; have := i32_2; have := i32_m1; have := (hvx).1; have := (hvx).2; have := (hvo).1; have := (hvo).2; have := (hvw).1; have := (hvw).2; have := (h_5).1; have := (h_5).2; have := (h_13).1; have := (h_13).2; have := (h_16).1; have := (h_16).2; omega), 0, (by decide), (by decide), ty_w (n := 29) (by have q9 := fW_r_9; rw [fN_r_6] at q9; exact q9) (by have := i32_0; have := i32_1; have := i32_2; have := i32_m1; have := (hvx).1; have := (hvx).2; have := (hvo).1; have := (hvo).2; have := (hvw).1; have := (hvw).2; have := (h_5).1; have := (h_5).2; have := (h_13).1; have := (h_13).2; have := (h_16).1; have := (h_16).2; omega) (swy 29 1 (by decide) (h_13) ez_14 c_15)⟩))⟩, by rw [ht]; exact hP, va_K.moved hW.alike hK, hD⟩, hS.F ht, by rw [ht]; exact hN⟩) hS.2.2 dX6_typeValue_81)))
      by_cases c_17 : (z_14 : Int32).toInt = 2
      · refine lv_tableIn (tgt := 82) hx hb dX6_typeValue_44 (by rw [c_17]; decide) (by rw [c_17]; decide) (by rw [c_17]; rfl) (by decide) ?_
        have h_18 : iv 2 2 z_14 := iv_at c_17
        refine lv_iconst (v := 1) hx hb dX6_typeValue_82 (by decide) ?_
        exact W.nb (fun hN => W.widen (k := 1) (n := 6) (by decide) (by decide) (vx_ret (W.iret (v := 1) hx hb hr (fun t ht hW => ⟨⟨some (.int 1), (sg, gm, lg), rfl, ⟨1, rfl, rfl, (iv_w (iv_k (by decide) : iv 1 1 1) (by decide)), (Or.inr (Or.inl ⟨(by rw [← fK_r_1]; have := i32_0; have := i32_1; have := i32_2; have := i32_m1; have := (hvx).1; have := (hvx).2; have := (hvo).1; have := (hvo).2; have := (hvw).1; have := (hvw).2; have := (h_5).1; have := (h_5).2; have := (h_13).1; have := (h_13).2; have := (h_18).1; have := (h_18).2; omega), 1, (by decide), (by decide), ty_w (n := 30) (by have q9 := fW_r_9; rw [fN_r_6] at q9; exact q9) (by have := i32_0; have := i32_1; have := i32_2; have := i32_m1; have := (hvx).1; have := (hvx).2; have := (hvo).1; have := (hvo).2; have := (hvw).1; have := (hvw).2; have := (h_5).1; have := (h_5).2; have := (h_13).1; have := (h_13).2; have := (h_18).1; have := (h_18).2; omega) (swy 30 2 (by decide) (h_13) ez_14 c_17)⟩))⟩, by rw [ht]; exact hP, va_K.moved hW.alike hK, hD⟩, hS.F ht, by rw [ht]; exact hN⟩) hS.2.2 dX6_typeValue_83)))
      by_cases c_19 : (z_14 : Int32).toInt = 3
      · refine lv_tableIn (tgt := 84) hx hb dX6_typeValue_44 (by rw [c_19]; decide) (by rw [c_19]; decide) (by rw [c_19]; rfl) (by decide) ?_
        have h_20 : iv 3 3 z_14 := iv_at c_19
        refine lv_iconst (v := 2) hx hb dX6_typeValue_84 (by decide) ?_
        exact W.nb (fun hN => W.widen (k := 1) (n := 6) (by decide) (by decide) (vx_ret (W.iret (v := 2) hx hb hr (fun t ht hW => ⟨⟨some (.int 2), (sg, gm, lg), rfl, ⟨2, rfl, rfl, (iv_w (iv_k (by decide) : iv 2 2 2) (by decide)), (Or.inr (Or.inl ⟨(by rw [← fK_r_1]; have := i32_0; have := i32_1; have := i32_2; have := i32_m1; have := (hvx).1; have := (hvx).2; have := (hvo).1; have := (hvo).2; have := (hvw).1; have := (hvw).2; have := (h_5).1; have := (h_5).2; have := (h_13).1; have := (h_13).2; have := (h_20).1; have := (h_20).2; omega), 2, (by decide), (by decide), ty_w (n := 31) (by have q9 := fW_r_9; rw [fN_r_6] at q9; exact q9) (by have := i32_0; have := i32_1; have := i32_2; have := i32_m1; have := (hvx).1; have := (hvx).2; have := (hvo).1; have := (hvo).2; have := (hvw).1; have := (hvw).2; have := (h_5).1; have := (h_5).2; have := (h_13).1; have := (h_13).2; have := (h_20).1; have := (h_20).2; omega) (swy 31 3 (by decide) (h_13) ez_14 c_19)⟩))⟩, by rw [ht]; exact hP, va_K.moved hW.alike hK, hD⟩, hS.F ht, by rw [ht]; exact hN⟩) hS.2.2 dX6_typeValue_85)))
      by_cases c_21 : (z_14 : Int32).toInt = 4
      · refine lv_tableIn (tgt := 86) hx hb dX6_typeValue_44 (by rw [c_21]; decide) (by rw [c_21]; decide) (by rw [c_21]; rfl) (by decide) ?_
        have h_22 : iv 4 4 z_14 := iv_at c_21
        refine lv_iconst (v := 3) hx hb dX6_typeValue_86 (by decide) ?_
        exact W.nb (fun hN => W.widen (k := 1) (n := 6) (by decide) (by decide) (vx_ret (W.iret (v := 3) hx hb hr (fun t ht hW => ⟨⟨some (.int 3), (sg, gm, lg), rfl, ⟨3, rfl, rfl, (iv_w (iv_k (by decide) : iv 3 3 3) (by decide)), (Or.inr (Or.inl ⟨(by rw [← fK_r_1]; have := i32_0; have := i32_1; have := i32_2; have := i32_m1; have := (hvx).1; have := (hvx).2; have := (hvo).1; have := (hvo).2; have := (hvw).1; have := (hvw).2; have := (h_5).1; have := (h_5).2; have := (h_13).1; have := (h_13).2; have := (h_22).1; have := (h_22).2; omega), 3, (by decide), (by decide), ty_w (n := 32) (by have q9 := fW_r_9; rw [fN_r_6] at q9; exact q9) (by have := i32_0; have := i32_1; have := i32_2; have := i32_m1; have := (hvx).1; have := (hvx).2; have := (hvo).1; have := (hvo).2; have := (hvw).1; have := (hvw).2; have := (h_5).1; have := (h_5).2; have := (h_13).1; have := (h_13).2; have := (h_22).1; have := (h_22).2; omega) (swy 32 4 (by decide) (h_13) ez_14 c_21)⟩))⟩, by rw [ht]; exact hP, va_K.moved hW.alike hK, hD⟩, hS.F ht, by rw [ht]; exact hN⟩) hS.2.2 dX6_typeValue_87)))
      by_cases c_23 : (z_14 : Int32).toInt = 5
      · refine lv_tableIn (tgt := 88) hx hb dX6_typeValue_44 (by rw [c_23]; decide) (by rw [c_23]; decide) (by rw [c_23]; rfl) (by decide) ?_
        have h_24 : iv 5 5 z_14 := iv_at c_23
        refine lv_iconst (v := 4) hx hb dX6_typeValue_88 (by decide) ?_
        exact W.nb (fun hN => W.widen (k := 1) (n := 6) (by decide) (by decide) (vx_ret (W.iret (v := 4) hx hb hr (fun t ht hW => ⟨⟨some (.int 4), (sg, gm, lg), rfl, ⟨4, rfl, rfl, (iv_w (iv_k (by decide) : iv 4 4 4) (by decide)), (Or.inr (Or.inl ⟨(by rw [← fK_r_1]; have := i32_0; have := i32_1; have := i32_2; have := i32_m1; have := (hvx).1; have := (hvx).2; have := (hvo).1; have := (hvo).2; have := (hvw).1; have := (hvw).2; have := (h_5).1; have := (h_5).2; have := (h_13).1; have := (h_13).2; have := (h_24).1; have := (h_24).2; omega), 4, (by decide), (by decide), ty_w (n := 33) (by have q9 := fW_r_9; rw [fN_r_6] at q9; exact q9) (by have := i32_0; have := i32_1; have := i32_2; have := i32_m1; have := (hvx).1; have := (hvx).2; have := (hvo).1; have := (hvo).2; have := (hvw).1; have := (hvw).2; have := (h_5).1; have := (h_5).2; have := (h_13).1; have := (h_13).2; have := (h_24).1; have := (h_24).2; omega) (swy 33 5 (by decide) (h_13) ez_14 c_23)⟩))⟩, by rw [ht]; exact hP, va_K.moved hW.alike hK, hD⟩, hS.F ht, by rw [ht]; exact hN⟩) hS.2.2 dX6_typeValue_89)))
      refine lv_tableOut (tgt := 90) hx hb dX6_typeValue_44 (by have q1 := (hz_14).1; have q2 := (hz_14).2; omega) (by decide) ?_
      refine lv_iconst (v := (-1)) hx hb dX6_typeValue_90 (by decide) ?_
      exact W.nb (fun hN => W.widen (k := 1) (n := 6) (by decide) (by decide) (vx_ret (W.iret (v := (-1)) hx hb hr (fun t ht hW => ⟨⟨some (.int (-1)), (sg, gm, lg), rfl, ⟨(-1), rfl, rfl, (iv_w (iv_k (by decide) : iv (-1) (-1) (-1)) (by decide)), (Or.inr (Or.inr ⟨rfl, ty_f (by have q9 := fW_r_9; rw [fN_r_6] at q9; exact q9) (by rw [← fK_r_1]; have := i32_0; have := i32_1; have := i32_2; have := i32_m1; have := (hvx).1; have := (hvx).2; have := (hvo).1; have := (hvo).2; have := (hvw).1; have := (hvw).2; have := (h_5).1; have := (h_5).2; have := (h_13).1; have := (h_13).2; have := (hz_14).1; have := (hz_14).2; omega) (fun q8 => by have q7 := swT r_9.toNatClampNeg (by have := q8.2; have : r_9.toNatClampNeg = r_9.toInt.toNat := rfl; omega); rw [← ez_14] at q7; have : r_9.toNatClampNeg = r_9.toInt.toNat := rfl; have := i32_0; have := i32_1; have := i32_2; have := i32_m1; have := (hvx).1; have := (hvx).2; have := (hvo).1; have := (hvo).2; have := (hvw).1; have := (hvw).2; have := (h_5).1; have := (h_5).2; have := (h_13).1; have := (h_13).2; have := (hz_14).1; have := (hz_14).2; omega)⟩))⟩, by rw [ht]; exact hP, va_K.moved hW.alike hK, hD⟩, hS.F ht, by rw [ht]; exact hN⟩) hS.2.2 dX6_typeValue_91)))
    · have h_25 : iv (-1) (-1) r_9 := ⟨(hr_9).1, by omega⟩
      refine lv_iconst (v := (-1)) hx hb dX6_typeValue_33 (by decide) ?_
      exact W.nb (fun hN => W.widen (k := 1) (n := 6) (by decide) (by decide) (vx_ret (W.iret (v := (-1)) hx hb hr (fun t ht hW => ⟨⟨some (.int (-1)), (sg, gm, lg), rfl, ⟨(-1), rfl, rfl, (iv_w (iv_k (by decide) : iv (-1) (-1) (-1)) (by decide)), (Or.inr (Or.inr ⟨rfl, ty_f (by have q9 := fW_r_9; rw [fN_r_6] at q9; exact q9) (by rw [← fK_r_1]; have := i32_0; have := i32_1; have := i32_2; have := i32_m1; have := (hvx).1; have := (hvx).2; have := (hvo).1; have := (hvo).2; have := (hvw).1; have := (hvw).2; have := (h_5).1; have := (h_5).2; have := (h_25).1; have := (h_25).2; omega) (by have := i32_0; have := i32_1; have := i32_2; have := i32_m1; have := (hvx).1; have := (hvx).2; have := (hvo).1; have := (hvo).2; have := (hvw).1; have := (hvw).2; have := (h_5).1; have := (h_5).2; have := (h_25).1; have := (h_25).2; omega)⟩))⟩, by rw [ht]; exact hP, va_K.moved hW.alike hK, hD⟩, hS.F ht, by rw [ht]; exact hN⟩) hS.2.2 dX6_typeValue_34)))
  · have h_26 : iv 0 7 r_1 := iv_neL c_4 hr_1 (by decide)
    refine lv_bipush (v := 8) hx hb dX6_typeValue_12 (by decide) ?_
    refine lv_iload_n hx hb dX6_typeValue_14 rfl (lv_at hl 0 rfl) ?_
    refine lv_iadd hx hb dX6_typeValue_15 ?_
    refine lv_topi (fun z_27 ez_27 => ?_)
    have hz_27 : iv 8 15 z_27 := iv_of ez_27 (iv_add (iv_k (by decide) : iv 8 8 8) h_26 (by decide))
    have tz_27 : z_27.toInt = 8 + (r_1 : Int32).toInt := by rw [ez_27]; exact iv_addE (iv_k (by decide) : iv 8 8 8) h_26 (by decide)
    exact W.nb (fun hN => W.widen (k := 1) (n := 6) (by decide) (by decide) (vx_ret (W.iret (v := z_27) hx hb hr (fun t ht hW => ⟨⟨some (.int z_27), (sg, gm, lg), rfl, ⟨z_27, rfl, rfl, (iv_w hz_27 (by decide)), (Or.inl ⟨(by rw [← fK_r_1]; have := i32_0; have := i32_1; have := i32_2; have := i32_m1; have := (hvx).1; have := (hvx).2; have := (hvo).1; have := (hvo).2; have := (hvw).1; have := (hvw).2; have := (h_26).1; have := (h_26).2; have := (hz_27).1; have := (hz_27).2; omega), (by rw [← fK_r_1]; have := i32_0; have := i32_1; have := i32_2; have := i32_m1; have := (hvx).1; have := (hvx).2; have := (hvo).1; have := (hvo).2; have := (hvw).1; have := (hvw).2; have := (h_26).1; have := (h_26).2; have := (hz_27).1; have := (hz_27).2; omega)⟩)⟩, by rw [ht]; exact hP, va_K.moved hW.alike hK, hD⟩, hS.F ht, by rw [ht]; exact hN⟩) hS.2.2 dX6_typeValue_16)))
end
section
def VL9 (A7 : At7) : List Int := (gA A7 508440638821).getD []
theorem gA_some {A7 : At7} (h : aH A7 508440638821 = 1) : gA A7 508440638821 = some (VL9 A7) := by
  rcases gA_h (q := A7) (k := 508440638821) with ⟨_, q⟩ | ⟨v, q, _⟩
  · rw [q] at h; exact absurd h (by decide)
  · unfold VL9; rw [q]; rfl

set_option maxHeartbeats 4000000 in
set_option maxRecDepth 100000 in
theorem d_settleContent9 (l : Launch) (dC : Nat → ClassId) (dI : Nat → Nat → Nat) (ad : Nat → Nat → Nat) (cid : Nat → ClassId) (a2 : Nat → Nat) (lx : List Nat) (sg : Nat → Int32) (gm : Nat → Nat → Int32) (lg : Nat → Nat → Int64) (x : Int32) (o : Int32) (A7 : At7) (hI : CI sg gm) (hvx : iv 0 0 x) (hvo : iv 0 79 o) (hFA : FA sg gm) (how : o.toInt < (sg 4).toInt) (hVS : VS sg gm) (hat : ATC A7 gm lg o.toNatClampNeg (sg 5).toInt (sg 6).toInt) : CMt dC dI ad cid a2 lx l yX10_settleContent wm_X10_settleContent ({ frames := 6, cells := 1, slots := 6, locals := 132 }) [eV (ad 4) x, eV (ad 9) o] sg gm lg (fun v u => v = none ∧ ∃ (sg2 : Nat → Int32) (gm2 : Nat → Nat → Int32) (lg2 : Nat → Nat → Int64), u = (sg2, gm2, lg2) ∧ CI sg2 gm2 ∧ KS [] sg sg2 ∧ KS [11, 21, 25, 26, 56] gm gm2 ∧ KS [2, 3] lg lg2 ∧ (∃ c9 : Int32, gm2 26 = upd (gm 26) o.toNatClampNeg c9 ∧ ((0 ≤ (gm 16 o.toNatClampNeg).toInt ∧ c9 = gm 16 o.toNatClampNeg) ∨ ((gm 16 o.toNatClampNeg).toInt < 0 ∧ c9 = o))) ∧ ((0 ≤ (gm 16 o.toNatClampNeg).toInt ∧ gm2 25 = gm 25) ∨ ((gm 16 o.toNatClampNeg).toInt < 0 ∧ (gm2 25 = upd (gm 25) o.toNatClampNeg 7 ∨ gm2 25 = upd (gm 25) o.toNatClampNeg 8))) ∧ (SC9 A7 gm gm2 lg2 o.toNatClampNeg (gm 25 o.toNatClampNeg)) ∧ (GF9 gm gm2 lg lg2 o.toNatClampNeg)) (fun _ _ => False) := by
  intro sz
  refine vx_ofW (cc := cX10_settleContent) (maxL := 2) (ret := none) (by decide) rfl ?_
  intro p e s m args below meth c s₁ B hml hxt hv
  obtain ⟨rfl, hsz, hP, hK, hD0, hG⟩ := hv
  have hx := B.exec
  have hb := B.bytes
  have hr := B.returns
  have hts := atoms_spec (ws := wm_X10_settleContent) B.pre
  have htb := fun (w : Cond) (h : w ∈ tb) => hts w (List.mem_cons_of_mem _ h)
  have hown : s.vm.findClass RX10 = some m.cls := findClass_of_methodNamed B.named
  have hlocks := B.notSynchronized
  subst hsz
  have hD := hD0.self (sz := s.heap.size)
  generalize hAe : va_A (cW ad cid a2 lx sg gm lg) s.heap.size = A at hD hG ⊢
  have hA : ∀ q : Nat, s.heap.size ≤ q → A q := fun q h => by rw [← hAe]; exact Or.inr h
  have hS : va_S A s.heap s.heap [] := va_S.rf
  have hl := lv_entry ([eV (ad 4) x, eV (ad 9) o]) (n := 2) (by rw [show (lg_sl ([eV (ad 4) x, eV (ad 9) o])).length = 2 from by simp [lg_sl, eV_cat, cat_i, cat_l]]; exact Nat.le_of_ble_eq_true rfl)
  rw [lg_entry_eq]
  generalize (lg_sl ([eV (ad 4) x, eV (ad 9) o]) ++ List.replicate (2 - (lg_sl ([eV (ad 4) x, eV (ad 9) o])).length) Slot.unset).toArray = ls at hl ⊢
  have hl : lv_has ls 2 [(0, eV (ad 4) x), (1, eV (ad 9) o)] := by simp [lv_args, eV_cat, cat_i, cat_l] at hl; exact hl
  refine ec_aload_n hx hb dX10_settleContent_0 rfl (lv_at hl 1 rfl) ?_
  refine cr_get (t := 9) (j := 6) (C := RX3) (T := TX3) (N := 21) (v := eV (ad 9) (gm 16 o.toNatClampNeg)) hx hb htb inX3 hown hK hP hvo (by decide) (by decide) (by decide) rfl (by decide) (htb _ kw_686) rfl dX10_settleContent_1 ?_
  obtain ⟨z_1, ez_1⟩ : ∃ z : Int32, z = (gm 16 o.toNatClampNeg) := ⟨_, rfl⟩
  refine W.eq (g2 := F0 m 4 ls [eV (ad 9) z_1]) (by rw [ez_1]) ?_
  have hz_1 : iv (-1) 79 z_1 := iv_of ez_1 (CI_a hI 16 hvo (by decide))
  refine ec_ifnull (tgt := 16) hx hb dX10_settleContent_4 (by decide) (fun c_2 => ?_) (fun c_2 => ?_)
  · have h_3 : iv (-1) (-1) z_1 := ⟨(hz_1).1, by omega⟩
    refine ec_aload_n hx hb dX10_settleContent_16 rfl (lv_at hl 1 rfl) ?_
    refine ec_aload_n hx hb dX10_settleContent_17 rfl (lv_at hl 1 rfl) ?_
    refine cr_putg (t := 9) (j := 19) (C := RX3) (T := TX3) (N := 21) (ty0 := tyX3) (k := 26) (y := o) hx hb htb inX3 tyX3_ok nmX3 hown hK hP hD hS hvo (by decide) (by decide) (by decide) (by decide) rfl rfl (by decide) (htb _ kw_687) rfl (by show eV (ad 9) o = eV (ad 9) (va_up gm 26 (upd (gm 26) o.toNatClampNeg o) 26 o.toNatClampNeg); rw [va_up_self, upd_at]) (ev_n _) (ev_f _) dX10_settleContent_18 (fun gm_4 H locs egm_4 hP hD hS => ?_)
    have hI_gm_4 := CI_st hI egm_4 hvo (by decide)
    refine ec_aload_n hx hb dX10_settleContent_21 rfl (lv_at hl 0 rfl) ?_
    refine cr_get (t := 4) (j := 0) (C := RX10) (T := TX10) (N := 4) (v := eV (ad 1) 0) hx hb htb inX10 hown hK hP hvx (by decide) (by decide) (by decide) rfl (by decide) (htb _ kw_86) (cV_c rfl (by decide) (by rw [show cMu 4 0 = 0 from rfl, Nat.zero_mul]; rfl)) dX10_settleContent_22 ?_
    refine ec_aload_n hx hb dX10_settleContent_25 rfl (lv_at hl 1 rfl) ?_
    refine cw_word (k := 7) (kx := 7) hx hb hG hS (by decide) rfl ⟨by decide, by decide⟩ hown (htb _ kw_688) dX10_settleContent_26 ?_
    refine cm_callV (t := 1) (C := RX6) (T := TX6) (N := 8) (rest := []) (as := [eV (ad 9) o, eV (ad 33) 7]) ⟨hx, hb, hml, hown, htb⟩ (d_has2 l dC dI ad cid a2 lx sg gm_4 lg 0 o 7 A7 hI_gm_4 (iv_k (by decide) : iv 0 0 0) hvo (iv_w (iv_k (by decide) : iv 7 7 7) (by decide)) (FA_e hFA rfl rfl (up_ne egm_4 (by decide)) (up_ne egm_4 (by decide))) how (ATC_k hat (up_ne egm_4 (by decide)) (up_ne egm_4 (by decide)) (up_ne egm_4 (by decide)) (up_ne egm_4 (by decide)) (up_ne egm_4 (by decide)) rfl (Int.le_refl _) (Int.le_refl _))) (cwV 2 htb (gd_V kw_690 kw_605 kw_606 kw_20 kw_1481) rfl rfl rfl (by decide +kernel) ⟨Nat.le_of_ble_eq_true rfl, Nat.le_of_ble_eq_true rfl⟩) (iv_k (by decide) : iv 0 0 0) (by decide) (by decide) rfl rfl hl.1 rfl (Nat.le_trans cs_n (by decide)) dX10_settleContent_29 ⟨Nat.le_of_ble_eq_true rfl, Nat.le_of_ble_eq_true rfl⟩ hK hP hD hS hA hG (fun E ce q9 u_6 H locs hw hP hD hS hce hcv hcl => ?_) (fun v9 u_6 H locs hw hP hD hS => ?_)
    · exact hw.elim
    obtain ⟨r_5, rfl, rfl, hr_5, fH_r_5⟩ := hw
    have hP : va_P (dC, dI) vwCl (cW ad cid a2 lx sg gm_4 lg) H := hP
    have hD : va_D A (cW ad cid a2 lx sg gm_4 lg) := hD
    refine W.eq (g2 := F0 m 32 ls [.int r_5]) rfl ?_
    refine lv_if_eq (tgt := 60) hx hb dX10_settleContent_32 (by decide) (fun c_8 => ?_) (fun c_8 => ?_)
    · have h_9 : iv 0 0 r_5 := iv_eq c_8 hr_5 (iv_k (by decide) : iv 0 0 0) (by decide)
      refine ec_aload_n hx hb dX10_settleContent_60 rfl (lv_at hl 1 rfl) ?_
      refine cw_word (k := 8) (kx := 8) hx hb hG hS (by decide) rfl ⟨by decide, by decide⟩ hown (htb _ kw_689) dX10_settleContent_61 ?_
      refine cr_putg (t := 9) (j := 18) (C := RX3) (T := TX3) (N := 21) (ty0 := tyX3) (k := 25) (y := 8) hx hb htb inX3 tyX3_ok nmX3 hown hK hP hD hS hvo (by decide) (by decide) (by decide) (by decide) rfl rfl (by decide) (htb _ kw_631) rfl (by show eV (ad 33) 8 = eV (ad 33) (va_up gm_4 25 (upd (gm_4 25) o.toNatClampNeg 8) 25 o.toNatClampNeg); rw [va_up_self, upd_at]) (ev_n _) (ev_f _) dX10_settleContent_64 (fun gm_10 H locs egm_10 hP hD hS => ?_)
      have hI_gm_10 := CI_st hI_gm_4 egm_10 (iv_k (by decide) : iv 8 8 8) (by decide)
      refine ec_aload_n hx hb dX10_settleContent_67 rfl (lv_at hl 1 rfl) ?_
      refine ec_aload_n hx hb dX10_settleContent_68 rfl (lv_at hl 0 rfl) ?_
      refine cr_get (t := 4) (j := 0) (C := RX10) (T := TX10) (N := 4) (v := eV (ad 1) 0) hx hb htb inX10 hown hK hP hvx (by decide) (by decide) (by decide) rfl (by decide) (htb _ kw_86) (cV_c rfl (by decide) (by rw [show cMu 4 0 = 0 from rfl, Nat.zero_mul]; rfl)) dX10_settleContent_69 ?_
      refine ec_aload_n hx hb dX10_settleContent_72 rfl (lv_at hl 1 rfl) ?_
      refine cw_word (k := 8) (kx := 8) hx hb hG hS (by decide) rfl ⟨by decide, by decide⟩ hown (htb _ kw_689) dX10_settleContent_73 ?_
      refine cm_callV (t := 1) (C := RX6) (T := TX6) (N := 8) (rest := [eV (ad 9) o]) (as := [eV (ad 9) o, eV (ad 33) 8]) ⟨hx, hb, hml, hown, htb⟩ (d_nameValue3 l dC dI ad cid a2 lx sg gm_10 lg 0 o 8 A7 hI_gm_10 (iv_k (by decide) : iv 0 0 0) hvo (iv_w (iv_k (by decide) : iv 8 8 8) (by decide)) (FA_e hFA rfl rfl (Eq.trans (up_ne egm_10 (by decide)) (up_ne egm_4 (by decide))) (Eq.trans (up_ne egm_10 (by decide)) (up_ne egm_4 (by decide)))) how (VS_e hVS rfl rfl (Eq.trans (up_ne egm_10 (by decide)) (up_ne egm_4 (by decide))) (Eq.trans (up_ne egm_10 (by decide)) (up_ne egm_4 (by decide)))) (ATC_k hat (Eq.trans (up_ne egm_10 (by decide)) (up_ne egm_4 (by decide))) (Eq.trans (up_ne egm_10 (by decide)) (up_ne egm_4 (by decide))) (Eq.trans (up_ne egm_10 (by decide)) (up_ne egm_4 (by decide))) (Eq.trans (up_ne egm_10 (by decide)) (up_ne egm_4 (by decide))) (Eq.trans (up_ne egm_10 (by decide)) (up_ne egm_4 (by decide))) rfl (Int.le_refl _) (Int.le_refl _))) (cwV 2 htb (gd_V kw_646 kw_583 kw_584 kw_20 kw_1475) rfl rfl rfl (by decide +kernel) ⟨Nat.le_of_ble_eq_true rfl, Nat.le_of_ble_eq_true rfl⟩) (iv_k (by decide) : iv 0 0 0) (by decide) (by decide) rfl rfl hl.1 rfl (Nat.le_trans (cs_c (eV_cat _ _) cs_n) (by decide)) dX10_settleContent_76 ⟨Nat.le_of_ble_eq_true rfl, Nat.le_of_ble_eq_true rfl⟩ hK hP hD hS hA hG (fun E ce q9 u_12 H locs hw hP hD hS hce hcv hcl => ?_) (fun v9 u_12 H locs hw hP hD hS => ?_)
      · exact hw.elim
      obtain ⟨r_11, rfl, rfl, fN_r_11, fZ_r_11⟩ := hw
      have hP : va_P (dC, dI) vwCl (cW ad cid a2 lx sg gm_10 lg) H := hP
      have hD : va_D A (cW ad cid a2 lx sg gm_10 lg) := hD
      refine W.eq (g2 := F0 m 79 ls [.long r_11, eV (ad 9) o]) rfl ?_
      refine cr_putl (t := 9) (j := 12) (C := RX3) (T := TX3) (N := 21) (ty0 := tyX3) (k := 2) (y := r_11) hx hb htb inX3 tyX3_ok nmX3 hown hK hP hD hS hvo (by decide) (by decide) (by decide) rfl rfl rfl (by decide) (htb _ kw_636) rfl (by show Value.long r_11 = Value.long (va_up lg 2 (vp_updL (lg 2) o.toNatClampNeg r_11) 2 o.toNatClampNeg); rw [va_up_self, pk_uLs]) rfl rfl dX10_settleContent_79 (fun lg_14 H locs elg_14 hP hD hS => ?_)
      exact W.nb (fun hN => W.widen (k := 1) (n := 6) (by decide) (by decide) (vx_ret (W.vret hx hb hr (fun t ht hW => ⟨⟨none, (sg, gm_10, lg_14), rfl, ⟨rfl, sg, gm_10, lg_14, rfl, hI_gm_10, KS_rf, (KS_up (KS_up KS_rf egm_4 (by decide)) egm_10 (by decide)), (KS_up KS_rf elg_14 (by decide)), (⟨o, (show gm_10 26 = upd (gm 26) (o : Int32).toNatClampNeg o from ((up_ne egm_10 (by decide)).trans ((up_at egm_4).trans (by rw [show gm 26 = gm 26 from rfl])))), Or.inr ⟨(by rw [← ez_1]; have := i32_0; have := i32_1; have := i32_2; have := i32_m1; have := (hvx).1; have := (hvx).2; have := (hvo).1; have := (hvo).2; have := (h_3).1; have := (h_3).2; have := (h_9).1; have := (h_9).2; omega), rfl⟩⟩), (Or.inr ⟨(by rw [← ez_1]; have := i32_0; have := i32_1; have := i32_2; have := i32_m1; have := (hvx).1; have := (hvx).2; have := (hvo).1; have := (hvo).2; have := (h_3).1; have := (h_3).2; have := (h_9).1; have := (h_9).2; omega), Or.inr (show gm_10 25 = upd (gm 25) (o : Int32).toNatClampNeg 8 from ((up_at egm_10).trans (by rw [show gm_4 25 = gm 25 from ((up_ne egm_4 (by decide)).trans rfl)])))⟩), ((SC_2 (by rw [← ez_1]; have := i32_0; have := i32_1; have := i32_2; have := i32_m1; have := (hvx).1; have := (hvx).2; have := (hvo).1; have := (hvo).2; have := (h_3).1; have := (h_3).2; have := (h_9).1; have := (h_9).2; omega) hvo (show gm_10 26 = upd (gm 26) (o : Int32).toNatClampNeg o from ((up_ne egm_10 (by decide)).trans ((up_at egm_4).trans (by rw [show gm 26 = gm 26 from rfl])))) (by have q9 := fH_r_5; rw [show wKy.getD (7 : Int32).toNatClampNeg 0 = 508440638821 from by decide] at q9; rw [← q9]; have := i32_0; have := i32_1; have := i32_2; have := i32_m1; have := (hvx).1; have := (hvx).2; have := (hvo).1; have := (hvo).2; have := (h_3).1; have := (h_3).2; have := (h_9).1; have := (h_9).2; omega) (show gm_10 25 = upd (gm 25) (o : Int32).toNatClampNeg 8 from ((up_at egm_10).trans (by rw [show gm_4 25 = gm 25 from ((up_ne egm_4 (by decide)).trans rfl)]))) (show lg_14 2 = vp_updL (lg 2) (o : Int32).toNatClampNeg r_11 from ((up_at elg_14).trans (by rw [show lg 2 = lg 2 from rfl]))) (by rw [fN_r_11, show wKy.getD (8 : Int32).toNatClampNeg 0 = 7497062 from by decide]))), (⟨(RO_t (RO_e (up_ne egm_4 (by decide))) (RO_e (up_ne egm_10 (by decide)))), (RO_t (RO_e (up_ne egm_4 (by decide))) (RO_e (up_ne egm_10 (by decide)))), (RO_t (RO_e (up_ne egm_4 (by decide))) (RO_e (up_ne egm_10 (by decide)))), (RO_t (RO_e (up_ne egm_4 (by decide))) (RO_e (up_ne egm_10 (by decide)))), (RO_t (RO_e (up_ne egm_4 (by decide))) (RO_e (up_ne egm_10 (by decide)))), (RO_t (RO_e (up_ne egm_4 (by decide))) (RO_u (up_at egm_10))), (RO_t (RO_u (up_at egm_4)) (RO_e (up_ne egm_10 (by decide)))), (RX_t (RX_e (up_ne egm_4 (by decide))) (RX_e (up_ne egm_10 (by decide)))), (RL_u (up_at elg_14)), (RL_e (up_ne elg_14 (by decide)))⟩)⟩, by rw [ht]; exact hP, va_K.moved hW.alike hK, hD⟩, hS.F ht, by rw [ht]; exact hN⟩) hS.2.2 dX10_settleContent_82)))
    · have h_15 : iv 1 1 r_5 := iv_neL c_8 hr_5 (by decide)
      refine ec_aload_n hx hb dX10_settleContent_35 rfl (lv_at hl 1 rfl) ?_
      refine cw_word (k := 7) (kx := 7) hx hb hG hS (by decide) rfl ⟨by decide, by decide⟩ hown (htb _ kw_688) dX10_settleContent_36 ?_
      refine cr_putg (t := 9) (j := 18) (C := RX3) (T := TX3) (N := 21) (ty0 := tyX3) (k := 25) (y := 7) hx hb htb inX3 tyX3_ok nmX3 hown hK hP hD hS hvo (by decide) (by decide) (by decide) (by decide) rfl rfl (by decide) (htb _ kw_631) rfl (by show eV (ad 33) 7 = eV (ad 33) (va_up gm_4 25 (upd (gm_4 25) o.toNatClampNeg 7) 25 o.toNatClampNeg); rw [va_up_self, upd_at]) (ev_n _) (ev_f _) dX10_settleContent_39 (fun gm_16 H locs egm_16 hP hD hS => ?_)
      have hI_gm_16 := CI_st hI_gm_4 egm_16 (iv_k (by decide) : iv 7 7 7) (by decide)
      refine ec_aload_n hx hb dX10_settleContent_42 rfl (lv_at hl 0 rfl) ?_
      refine cr_get (t := 4) (j := 0) (C := RX10) (T := TX10) (N := 4) (v := eV (ad 1) 0) hx hb htb inX10 hown hK hP hvx (by decide) (by decide) (by decide) rfl (by decide) (htb _ kw_86) (cV_c rfl (by decide) (by rw [show cMu 4 0 = 0 from rfl, Nat.zero_mul]; rfl)) dX10_settleContent_43 ?_
      refine ec_aload_n hx hb dX10_settleContent_46 rfl (lv_at hl 1 rfl) ?_
      refine cw_word (k := 7) (kx := 7) hx hb hG hS (by decide) rfl ⟨by decide, by decide⟩ hown (htb _ kw_688) dX10_settleContent_47 ?_
      refine cm_callV (t := 1) (C := RX6) (T := TX6) (N := 8) (rest := []) (as := [eV (ad 9) o, eV (ad 33) 7]) ⟨hx, hb, hml, hown, htb⟩ (d_valueToText9 l dC dI ad cid a2 lx sg gm_16 lg 0 o 7 A7 (VL9 A7) hI_gm_16 (iv_k (by decide) : iv 0 0 0) hvo (iv_w (iv_k (by decide) : iv 7 7 7) (by decide)) (FA_e hFA rfl rfl (Eq.trans (up_ne egm_16 (by decide)) (up_ne egm_4 (by decide))) (Eq.trans (up_ne egm_16 (by decide)) (up_ne egm_4 (by decide)))) how (VS_e hVS rfl rfl (Eq.trans (up_ne egm_16 (by decide)) (up_ne egm_4 (by decide))) (Eq.trans (up_ne egm_16 (by decide)) (up_ne egm_4 (by decide)))) (ATC_k hat (Eq.trans (up_ne egm_16 (by decide)) (up_ne egm_4 (by decide))) (Eq.trans (up_ne egm_16 (by decide)) (up_ne egm_4 (by decide))) (Eq.trans (up_ne egm_16 (by decide)) (up_ne egm_4 (by decide))) (Eq.trans (up_ne egm_16 (by decide)) (up_ne egm_4 (by decide))) (Eq.trans (up_ne egm_16 (by decide)) (up_ne egm_4 (by decide))) rfl (Int.le_refl _) (Int.le_refl _)) (by rw [show wKy.getD (7 : Int32).toNatClampNeg 0 = 508440638821 from by decide]; exact (gA_some (show aH A7 508440638821 = 1 from (by have q9 := fH_r_5; rw [show wKy.getD (7 : Int32).toNatClampNeg 0 = 508440638821 from by decide] at q9; rw [← q9]; have := i32_0; have := i32_1; have := i32_2; have := i32_m1; have := (hvx).1; have := (hvx).2; have := (hvo).1; have := (hvo).2; have := (h_3).1; have := (h_3).2; have := (h_15).1; have := (h_15).2; omega))))) (cwV 2 htb (gd_V kw_691 kw_692 kw_693 kw_20 kw_1489) rfl rfl rfl (by decide +kernel) ⟨Nat.le_of_ble_eq_true rfl, Nat.le_of_ble_eq_true rfl⟩) (iv_k (by decide) : iv 0 0 0) (by decide) (by decide) rfl rfl hl.1 rfl (Nat.le_trans cs_n (by decide)) dX10_settleContent_50 ⟨Nat.le_of_ble_eq_true rfl, Nat.le_of_ble_eq_true rfl⟩ hK hP hD hS hA hG (fun E ce q9 u_18 H locs hw hP hD hS hce hcv hcl => ?_) (fun v9 u_18 H locs hw hP hD hS => ?_)
      · exact hw.elim
      obtain ⟨rfl, sgv_19, gmv_19, lgv_19, rfl, hIv_19, ksv_19, kgv_19, klv_19, fX_r_17, f11_r_17, f56_r_17⟩ := hw
      obtain rfl := KS_nil ksv_19
      obtain rfl := KS_nil klv_19
      have hP : va_P (dC, dI) vwCl (cW ad cid a2 lx sg gmv_19 lg) H := hP
      have hD : va_D A (cW ad cid a2 lx sg gmv_19 lg) := hD
      refine W.eq (g2 := F0 m 53 ls []) rfl ?_
      refine ec_aload_n hx hb dX10_settleContent_53 rfl (lv_at hl 1 rfl) ?_
      refine cm_callV (t := 9) (C := RX3) (T := TX3) (N := 21) (rest := []) (as := []) ⟨hx, hb, hml, hown, htb⟩ (d_weighText9 l dC dI ad cid a2 lx sg gmv_19 lg o (VL9 A7) hIv_19 hvo fX_r_17) (cwV 0 htb (gd_V kw_696 kw_697 kw_698 kw_66 kw_1490) rfl rfl rfl (by decide +kernel) ⟨Nat.le_of_ble_eq_true rfl, Nat.le_of_ble_eq_true rfl⟩) hvo (by decide) (by decide) rfl rfl hl.1 rfl (Nat.le_trans cs_n (by decide)) dX10_settleContent_54 ⟨Nat.le_of_ble_eq_true rfl, Nat.le_of_ble_eq_true rfl⟩ hK hP hD hS hA hG (fun E ce q9 u_21 H locs hw hP hD hS hce hcv hcl => ?_) (fun v9 u_21 H locs hw hP hD hS => ?_)
      · exact hw.elim
      obtain ⟨rfl, sgv_22, gmv_22, lgv_22, rfl, hIv_22, ksv_22, kgv_22, klv_22, f3_r_20, f21_r_20⟩ := hw
      obtain rfl := KS_nil ksv_22
      have hP : va_P (dC, dI) vwCl (cW ad cid a2 lx sg gmv_22 lgv_22) H := hP
      have hD : va_D A (cW ad cid a2 lx sg gmv_22 lgv_22) := hD
      refine W.eq (g2 := F0 m 57 ls []) rfl ?_
      refine lv_goto (tgt := 82) hx hb dX10_settleContent_57 (by decide) ?_
      exact W.nb (fun hN => W.widen (k := 1) (n := 6) (by decide) (by decide) (vx_ret (W.vret hx hb hr (fun t ht hW => ⟨⟨none, (sg, gmv_22, lgv_22), rfl, ⟨rfl, sg, gmv_22, lgv_22, rfl, hIv_22, KS_rf, (KS_tr (L := [11, 21, 25, 26, 56]) (KS_tr (L := [11, 21, 25, 26, 56]) (KS_up (KS_up KS_rf egm_4 (by decide)) egm_16 (by decide)) kgv_19 (by decide)) kgv_22 (by decide)), (KS_tr (L := [2, 3]) KS_rf klv_22 (by decide)), (⟨o, (show gmv_22 26 = upd (gm 26) (o : Int32).toNatClampNeg o from ((kgv_22 26 (by decide)).trans ((kgv_19 26 (by decide)).trans ((up_ne egm_16 (by decide)).trans ((up_at egm_4).trans (by rw [show gm 26 = gm 26 from rfl])))))), Or.inr ⟨(by rw [← ez_1]; have := i32_0; have := i32_1; have := i32_2; have := i32_m1; have := (hvx).1; have := (hvx).2; have := (hvo).1; have := (hvo).2; have := (h_3).1; have := (h_3).2; have := (h_15).1; have := (h_15).2; omega), rfl⟩⟩), (Or.inr ⟨(by rw [← ez_1]; have := i32_0; have := i32_1; have := i32_2; have := i32_m1; have := (hvx).1; have := (hvx).2; have := (hvo).1; have := (hvo).2; have := (h_3).1; have := (h_3).2; have := (h_15).1; have := (h_15).2; omega), Or.inl (show gmv_22 25 = upd (gm 25) (o : Int32).toNatClampNeg 7 from ((kgv_22 25 (by decide)).trans ((kgv_19 25 (by decide)).trans ((up_at egm_16).trans (by rw [show gm_4 25 = gm 25 from ((up_ne egm_4 (by decide)).trans rfl)])))))⟩), ((SC_1 (V := VL9 A7) (by rw [← ez_1]; have := i32_0; have := i32_1; have := i32_2; have := i32_m1; have := (hvx).1; have := (hvx).2; have := (hvo).1; have := (hvo).2; have := (h_3).1; have := (h_3).2; have := (h_15).1; have := (h_15).2; omega) hvo (show gmv_22 26 = upd (gm 26) (o : Int32).toNatClampNeg o from ((kgv_22 26 (by decide)).trans ((kgv_19 26 (by decide)).trans ((up_ne egm_16 (by decide)).trans ((up_at egm_4).trans (by rw [show gm 26 = gm 26 from rfl])))))) (by have q9 := fH_r_5; rw [show wKy.getD (7 : Int32).toNatClampNeg 0 = 508440638821 from by decide] at q9; rw [← q9]; have := i32_0; have := i32_1; have := i32_2; have := i32_m1; have := (hvx).1; have := (hvx).2; have := (hvo).1; have := (hvo).2; have := (h_3).1; have := (h_3).2; have := (h_15).1; have := (h_15).2; omega) (show gmv_22 25 = upd (gm 25) (o : Int32).toNatClampNeg 7 from ((kgv_22 25 (by decide)).trans ((kgv_19 25 (by decide)).trans ((up_at egm_16).trans (by rw [show gm_4 25 = gm 25 from ((up_ne egm_4 (by decide)).trans rfl)]))))) (gA_some (show aH A7 508440638821 = 1 from (by have q9 := fH_r_5; rw [show wKy.getD (7 : Int32).toNatClampNeg 0 = 508440638821 from by decide] at q9; rw [← q9]; have := i32_0; have := i32_1; have := i32_2; have := i32_m1; have := (hvx).1; have := (hvx).2; have := (hvo).1; have := (hvo).2; have := (h_3).1; have := (h_3).2; have := (h_15).1; have := (h_15).2; omega))) (CTX_k fX_r_17 ((show gmv_22 11 = gmv_19 11 from (kgv_22 11 (by decide)))) ((show gmv_22 56 = gmv_19 56 from (kgv_22 56 (by decide))))) (NT_of f3_r_20 f21_r_20))), (⟨(RO_t (RO_t (RO_t (RO_e (up_ne egm_4 (by decide))) (RO_e (up_ne egm_16 (by decide)))) (RO_x f11_r_17)) (RO_e (kgv_22 11 (by decide)))), (RO_t (RO_t (RO_t (RO_e (up_ne egm_4 (by decide))) (RO_e (up_ne egm_16 (by decide)))) (RO_e (kgv_19 21 (by decide)))) (RO_p f21_r_20)), (RO_t (RO_t (RO_t (RO_e (up_ne egm_4 (by decide))) (RO_e (up_ne egm_16 (by decide)))) (RO_e (kgv_19 22 (by decide)))) (RO_e (kgv_22 22 (by decide)))), (RO_t (RO_t (RO_t (RO_e (up_ne egm_4 (by decide))) (RO_e (up_ne egm_16 (by decide)))) (RO_e (kgv_19 23 (by decide)))) (RO_e (kgv_22 23 (by decide)))), (RO_t (RO_t (RO_t (RO_e (up_ne egm_4 (by decide))) (RO_e (up_ne egm_16 (by decide)))) (RO_e (kgv_19 24 (by decide)))) (RO_e (kgv_22 24 (by decide)))), (RO_t (RO_t (RO_t (RO_e (up_ne egm_4 (by decide))) (RO_u (up_at egm_16))) (RO_e (kgv_19 25 (by decide)))) (RO_e (kgv_22 25 (by decide)))), (RO_t (RO_t (RO_t (RO_u (up_at egm_4)) (RO_e (up_ne egm_16 (by decide)))) (RO_e (kgv_19 26 (by decide)))) (RO_e (kgv_22 26 (by decide)))), (RX_t (RX_t (RX_t (RX_e (up_ne egm_4 (by decide))) (RX_e (up_ne egm_16 (by decide)))) f56_r_17) (RX_e (kgv_22 56 (by decide)))), (RL_e (klv_22 2 (by decide))), (RL_p f3_r_20)⟩)⟩, by rw [ht]; exact hP, va_K.moved hW.alike hK, hD⟩, hS.F ht, by rw [ht]; exact hN⟩) hS.2.2 dX10_settleContent_82)))
  · have h_23 : iv 0 79 z_1 := ⟨c_2, (hz_1).2⟩
    refine ec_aload_n hx hb dX10_settleContent_7 rfl (lv_at hl 1 rfl) ?_
    refine ec_aload_n hx hb dX10_settleContent_8 rfl (lv_at hl 1 rfl) ?_
    refine cr_get (t := 9) (j := 6) (C := RX3) (T := TX3) (N := 21) (v := eV (ad 9) (gm 16 o.toNatClampNeg)) hx hb htb inX3 hown hK hP hvo (by decide) (by decide) (by decide) rfl (by decide) (htb _ kw_686) rfl dX10_settleContent_9 ?_
    refine W.eq (g2 := F0 m 12 ls [eV (ad 9) z_1, eV (ad 9) o]) (by rw [show (gm 16 o.toNatClampNeg) = z_1 from ez_1.symm]) ?_
    refine cr_putg (t := 9) (j := 19) (C := RX3) (T := TX3) (N := 21) (ty0 := tyX3) (k := 26) (y := z_1) hx hb htb inX3 tyX3_ok nmX3 hown hK hP hD hS hvo (by decide) (by decide) (by decide) (by decide) rfl rfl (by decide) (htb _ kw_687) rfl (by show eV (ad 9) z_1 = eV (ad 9) (va_up gm 26 (upd (gm 26) o.toNatClampNeg z_1) 26 o.toNatClampNeg); rw [va_up_self, upd_at]) (ev_n _) (ev_f _) dX10_settleContent_12 (fun gm_24 H locs egm_24 hP hD hS => ?_)
    have hI_gm_24 := CI_st hI egm_24 h_23 (by decide)
    exact W.nb (fun hN => W.widen (k := 1) (n := 6) (by decide) (by decide) (vx_ret (W.vret hx hb hr (fun t ht hW => ⟨⟨none, (sg, gm_24, lg), rfl, ⟨rfl, sg, gm_24, lg, rfl, hI_gm_24, KS_rf, (KS_up KS_rf egm_24 (by decide)), KS_rf, (⟨z_1, (show gm_24 26 = upd (gm 26) (o : Int32).toNatClampNeg z_1 from ((up_at egm_24).trans (by rw [show gm 26 = gm 26 from rfl]))), Or.inl ⟨(by rw [← ez_1]; have := i32_0; have := i32_1; have := i32_2; have := i32_m1; have := (hvx).1; have := (hvx).2; have := (hvo).1; have := (hvo).2; have := (h_23).1; have := (h_23).2; omega), ez_1⟩⟩), (Or.inl ⟨(by rw [← ez_1]; have := i32_0; have := i32_1; have := i32_2; have := i32_m1; have := (hvx).1; have := (hvx).2; have := (hvo).1; have := (hvo).2; have := (h_23).1; have := (h_23).2; omega), (up_ne egm_24 (by decide))⟩), ((SC_0 (by rw [← ez_1]; have := i32_0; have := i32_1; have := i32_2; have := i32_m1; have := (hvx).1; have := (hvx).2; have := (hvo).1; have := (hvo).2; have := (h_23).1; have := (h_23).2; omega) (show gm_24 26 = upd (gm 26) (o : Int32).toNatClampNeg z_1 from ((up_at egm_24).trans (by rw [show gm 26 = gm 26 from rfl]))) ez_1 (congrFun (up_ne egm_24 (by decide)) _))), (⟨(RO_e (up_ne egm_24 (by decide))), (RO_e (up_ne egm_24 (by decide))), (RO_e (up_ne egm_24 (by decide))), (RO_e (up_ne egm_24 (by decide))), (RO_e (up_ne egm_24 (by decide))), (RO_e (up_ne egm_24 (by decide))), (RO_u (up_at egm_24)), (RX_e (up_ne egm_24 (by decide))), (RL_e rfl), (RL_e rfl)⟩)⟩, by rw [ht]; exact hP, va_K.moved hW.alike hK, hD⟩, hS.F ht, by rw [ht]; exact hN⟩) hS.2.2 dX10_settleContent_15)))
end
section
set_option maxHeartbeats 4000000 in
set_option maxRecDepth 100000 in
theorem d_beginBe9 (l : Launch) (dC : Nat → ClassId) (dI : Nat → Nat → Nat) (ad : Nat → Nat → Nat) (cid : Nat → ClassId) (a2 : Nat → Nat) (lx : List Nat) (sg : Nat → Int32) (gm : Nat → Nat → Int32) (lg : Nat → Nat → Int64) (b : Int32) (o : Int32) (pp : Int32) (A7 : At7) (hI : CI sg gm) (hvb : iv 0 79 b) (hvo : iv 0 79 o) (hvpp : iv 0 0 pp) (hFA : FA sg gm) (how : o.toInt < (sg 4).toInt) (hVS : VS sg gm) (hLD : LDI lx gm) (hat : ATC A7 gm lg o.toNatClampNeg (sg 5).toInt (sg 6).toInt) : CMt dC dI ad cid a2 lx l yX1_begin wm_X1_begin ({ frames := 3, cells := 1, slots := 6, locals := 74 }) [eV (ad 10) b, eV (ad 9) o, eV (ad 1) pp] sg gm lg (fun v u => v = none ∧ ∃ (sg2 : Nat → Int32) (gm2 : Nat → Nat → Int32) (lg2 : Nat → Nat → Int64), u = (sg2, gm2, lg2) ∧ CI sg2 gm2 ∧ KS [] sg sg2 ∧ KS [29, 30, 31, 32, 33, 34, 35, 36, 37, 38, 39, 40, 41, 57] gm gm2 ∧ KS [4, 5, 6, 7] lg lg2 ∧ (gm2 29 = upd (gm 29) b.toNatClampNeg o) ∧ (gm2 37 = upd (gm 37) b.toNatClampNeg 0) ∧ (gm2 38 = upd (gm 38) b.toNatClampNeg 0) ∧ (gm2 39 = upd (gm 39) b.toNatClampNeg (-1)) ∧ (gm2 41 = upd (upd (upd (gm 41) (3 * b.toNatClampNeg + 0) 0) (3 * b.toNatClampNeg + 1) 0) (3 * b.toNatClampNeg + 2) 0) ∧ (LDI lx gm2) ∧ (∃ id9 : Int64, lg2 4 = vp_updL (lg 4) b.toNatClampNeg id9 ∧ (id9 = 0 ∨ HSK gm lg o.toNatClampNeg (wKy.getD 10 0))) ∧ (lg2 4 = vp_updL (lg 4) b.toNatClampNeg (nv7 A7 26980)) ∧ (lg2 5 = vp_updL (lg 5) b.toNatClampNeg (nv7 A7 123563833388660)) ∧ (BH9 A7 gm2 lg2 b.toNatClampNeg) ∧ (BZ9 gm2 lg2 b.toNatClampNeg) ∧ (BF9 gm gm2 lg lg2 b.toNatClampNeg)) (fun _ _ => False) := by
  intro sz
  refine vx_ofW (cc := cX1_begin) (maxL := 3) (ret := none) (by decide) rfl ?_
  intro p e s m args below meth c s₁ B hml hxt hv
  obtain ⟨rfl, hsz, hP, hK, hD0, hG⟩ := hv
  have hx := B.exec
  have hb := B.bytes
  have hr := B.returns
  have hts := atoms_spec (ws := wm_X1_begin) B.pre
  have htb := fun (w : Cond) (h : w ∈ tb) => hts w (List.mem_cons_of_mem _ h)
  have hown : s.vm.findClass RX1 = some m.cls := findClass_of_methodNamed B.named
  have hlocks := B.notSynchronized
  subst hsz
  have hD := hD0.self (sz := s.heap.size)
  generalize hAe : va_A (cW ad cid a2 lx sg gm lg) s.heap.size = A at hD hG ⊢
  have hA : ∀ q : Nat, s.heap.size ≤ q → A q := fun q h => by rw [← hAe]; exact Or.inr h
  have hS : va_S A s.heap s.heap [] := va_S.rf
  have hl := lv_entry ([eV (ad 10) b, eV (ad 9) o, eV (ad 1) pp]) (n := 3) (by rw [show (lg_sl ([eV (ad 10) b, eV (ad 9) o, eV (ad 1) pp])).length = 3 from by simp [lg_sl, eV_cat, cat_i, cat_l]]; exact Nat.le_of_ble_eq_true rfl)
  rw [lg_entry_eq]
  generalize (lg_sl ([eV (ad 10) b, eV (ad 9) o, eV (ad 1) pp]) ++ List.replicate (3 - (lg_sl ([eV (ad 10) b, eV (ad 9) o, eV (ad 1) pp])).length) Slot.unset).toArray = ls at hl ⊢
  have hl : lv_has ls 3 [(0, eV (ad 10) b), (1, eV (ad 9) o), (2, eV (ad 1) pp)] := by simp [lv_args, eV_cat, cat_i, cat_l] at hl; exact hl
  refine ec_aload_n hx hb dX1_begin_0 rfl (lv_at hl 0 rfl) ?_
  refine ec_aload_n hx hb dX1_begin_1 rfl (lv_at hl 1 rfl) ?_
  refine cr_putg (t := 10) (j := 4) (C := RX1) (T := TX1) (N := 19) (ty0 := tyX1) (k := 29) (y := o) hx hb htb inX1 tyX1_ok nmX1 hown hK hP hD hS hvb (by decide) (by decide) (by decide) (by decide) rfl rfl (by decide) (htb _ kw_650) rfl (by show eV (ad 9) o = eV (ad 9) (va_up gm 29 (upd (gm 29) b.toNatClampNeg o) 29 b.toNatClampNeg); rw [va_up_self, upd_at]) (ev_n _) (ev_f _) dX1_begin_2 (fun gm_1 H locs egm_1 hP hD hS => ?_)
  have hI_gm_1 := CI_st hI egm_1 hvo (by decide)
  refine ec_aload_n hx hb dX1_begin_5 rfl (lv_at hl 0 rfl) ?_
  obtain ⟨q_2, hq_2, nq_2, tq_2⟩ := ix_mk (3 * b.toNatClampNeg + 0) 239 (by have q1 := iv_cl hvb (by decide); have q2 := (hvb).2; omega) (by decide)
  refine cr_get (t := 10) (j := 1) (C := RX1) (T := TX1) (N := 19) (v := eV (ad 11) q_2) hx hb htb inX1 hown hK hP hvb (by decide) (by decide) (by decide) rfl (by decide) (htb _ kw_99) (cV_c rfl hq_2.1 nq_2) dX1_begin_6 ?_
  refine cm_callV (t := 11) (C := RJx4a65c) (T := TJx4a65c) (N := 3) (rest := []) (as := []) ⟨hx, hb, hml, hown, htb⟩ (d_lclear l dC dI ad cid a2 lx sg gm_1 lg q_2 hI_gm_1 hq_2 (LDI_e hLD ((show KS [29] gm gm_1 from (KS_up KS_rf egm_1 (by decide))) 41 (by decide)) ((show KS [29] gm gm_1 from (KS_up KS_rf egm_1 (by decide))) 42 (by decide)) ((show KS [29] gm gm_1 from (KS_up KS_rf egm_1 (by decide))) 57 (by decide)))) (cwV 0 htb (gd_V kw_673 kw_674 kw_675 kw_98 kw_1487) rfl rfl rfl (by decide +kernel) ⟨Nat.le_of_ble_eq_true rfl, Nat.le_of_ble_eq_true rfl⟩) hq_2 (by decide) (by decide) rfl rfl hl.1 rfl (Nat.le_trans cs_n (by decide)) dX1_begin_9 ⟨Nat.le_of_ble_eq_true rfl, Nat.le_of_ble_eq_true rfl⟩ hK hP hD hS hA hG (fun E ce q9 u_4 H locs hw hP hD hS hce hcv hcl => ?_) (fun v9 u_4 H locs hw hP hD hS => ?_)
  · exact hw.elim
  obtain ⟨rfl, sgv_5, gmv_5, lgv_5, rfl, hIv_5, ksv_5, kgv_5, klv_5, f41_r_3, f57_r_3, fLD_r_3⟩ := hw
  obtain rfl := KS_nil ksv_5
  obtain rfl := KS_nil klv_5
  have hP : va_P (dC, dI) vwCl (cW ad cid a2 lx sg gmv_5 lg) H := hP
  have hD : va_D A (cW ad cid a2 lx sg gmv_5 lg) := hD
  refine W.eq (g2 := F0 m 12 ls []) rfl ?_
  refine ec_aload_n hx hb dX1_begin_12 rfl (lv_at hl 0 rfl) ?_
  obtain ⟨q_6, hq_6, nq_6, tq_6⟩ := ix_mk (3 * b.toNatClampNeg + 1) 239 (by have q1 := iv_cl hvb (by decide); have q2 := (hvb).2; omega) (by decide)
  refine cr_get (t := 10) (j := 2) (C := RX1) (T := TX1) (N := 19) (v := eV (ad 11) q_6) hx hb htb inX1 hown hK hP hvb (by decide) (by decide) (by decide) rfl (by decide) (htb _ kw_100) (cV_c rfl hq_6.1 nq_6) dX1_begin_13 ?_
  refine cm_callV (t := 11) (C := RJx4a65c) (T := TJx4a65c) (N := 3) (rest := []) (as := []) ⟨hx, hb, hml, hown, htb⟩ (d_lclear l dC dI ad cid a2 lx sg gmv_5 lg q_6 hIv_5 hq_6 fLD_r_3) (cwV 0 htb (gd_V kw_673 kw_674 kw_675 kw_98 kw_1487) rfl rfl rfl (by decide +kernel) ⟨Nat.le_of_ble_eq_true rfl, Nat.le_of_ble_eq_true rfl⟩) hq_6 (by decide) (by decide) rfl rfl hl.1 rfl (Nat.le_trans cs_n (by decide)) dX1_begin_16 ⟨Nat.le_of_ble_eq_true rfl, Nat.le_of_ble_eq_true rfl⟩ hK hP hD hS hA hG (fun E ce q9 u_8 H locs hw hP hD hS hce hcv hcl => ?_) (fun v9 u_8 H locs hw hP hD hS => ?_)
  · exact hw.elim
  obtain ⟨rfl, sgv_9, gmv_9, lgv_9, rfl, hIv_9, ksv_9, kgv_9, klv_9, f41_r_7, f57_r_7, fLD_r_7⟩ := hw
  obtain rfl := KS_nil ksv_9
  obtain rfl := KS_nil klv_9
  have hP : va_P (dC, dI) vwCl (cW ad cid a2 lx sg gmv_9 lg) H := hP
  have hD : va_D A (cW ad cid a2 lx sg gmv_9 lg) := hD
  refine W.eq (g2 := F0 m 19 ls []) rfl ?_
  refine ec_aload_n hx hb dX1_begin_19 rfl (lv_at hl 0 rfl) ?_
  obtain ⟨q_10, hq_10, nq_10, tq_10⟩ := ix_mk (3 * b.toNatClampNeg + 2) 239 (by have q1 := iv_cl hvb (by decide); have q2 := (hvb).2; omega) (by decide)
  refine cr_get (t := 10) (j := 3) (C := RX1) (T := TX1) (N := 19) (v := eV (ad 11) q_10) hx hb htb inX1 hown hK hP hvb (by decide) (by decide) (by decide) rfl (by decide) (htb _ kw_101) (cV_c rfl hq_10.1 nq_10) dX1_begin_20 ?_
  refine cm_callV (t := 11) (C := RJx4a65c) (T := TJx4a65c) (N := 3) (rest := []) (as := []) ⟨hx, hb, hml, hown, htb⟩ (d_lclear l dC dI ad cid a2 lx sg gmv_9 lg q_10 hIv_9 hq_10 fLD_r_7) (cwV 0 htb (gd_V kw_673 kw_674 kw_675 kw_98 kw_1487) rfl rfl rfl (by decide +kernel) ⟨Nat.le_of_ble_eq_true rfl, Nat.le_of_ble_eq_true rfl⟩) hq_10 (by decide) (by decide) rfl rfl hl.1 rfl (Nat.le_trans cs_n (by decide)) dX1_begin_23 ⟨Nat.le_of_ble_eq_true rfl, Nat.le_of_ble_eq_true rfl⟩ hK hP hD hS hA hG (fun E ce q9 u_12 H locs hw hP hD hS hce hcv hcl => ?_) (fun v9 u_12 H locs hw hP hD hS => ?_)
  · exact hw.elim
  obtain ⟨rfl, sgv_13, gmv_13, lgv_13, rfl, hIv_13, ksv_13, kgv_13, klv_13, f41_r_11, f57_r_11, fLD_r_11⟩ := hw
  obtain rfl := KS_nil ksv_13
  obtain rfl := KS_nil klv_13
  have hP : va_P (dC, dI) vwCl (cW ad cid a2 lx sg gmv_13 lg) H := hP
  have hD : va_D A (cW ad cid a2 lx sg gmv_13 lg) := hD
  refine W.eq (g2 := F0 m 26 ls []) rfl ?_
  refine ec_aload_n hx hb dX1_begin_26 rfl (lv_at hl 0 rfl) ?_
  refine ec_aload_n hx hb dX1_begin_27 rfl (lv_at hl 2 rfl) ?_
  refine ec_aload_n hx hb dX1_begin_28 rfl (lv_at hl 1 rfl) ?_
  refine cw_word (k := 10) (kx := 10) hx hb hG hS (by decide) rfl ⟨by decide, by decide⟩ hown (htb _ kw_651) dX1_begin_29 ?_
  refine cm_callV (t := 1) (C := RX6) (T := TX6) (N := 8) (rest := [eV (ad 10) b]) (as := [eV (ad 9) o, eV (ad 33) 10]) ⟨hx, hb, hml, hown, htb⟩ (d_nameValue3 l dC dI ad cid a2 lx sg gmv_13 lg pp o 10 A7 hIv_13 hvpp hvo (iv_w (iv_k (by decide) : iv 10 10 10) (by decide)) (FA_e hFA rfl rfl (Eq.trans (Eq.trans (Eq.trans (kgv_13 19 (by decide)) (kgv_9 19 (by decide))) (kgv_5 19 (by decide))) (up_ne egm_1 (by decide))) (Eq.trans (Eq.trans (Eq.trans (kgv_13 20 (by decide)) (kgv_9 20 (by decide))) (kgv_5 20 (by decide))) (up_ne egm_1 (by decide)))) how (VS_e hVS rfl rfl (Eq.trans (Eq.trans (Eq.trans (kgv_13 44 (by decide)) (kgv_9 44 (by decide))) (kgv_5 44 (by decide))) (up_ne egm_1 (by decide))) (Eq.trans (Eq.trans (Eq.trans (kgv_13 45 (by decide)) (kgv_9 45 (by decide))) (kgv_5 45 (by decide))) (up_ne egm_1 (by decide)))) (ATC_k hat (Eq.trans (Eq.trans (Eq.trans (kgv_13 19 (by decide)) (kgv_9 19 (by decide))) (kgv_5 19 (by decide))) (up_ne egm_1 (by decide))) (Eq.trans (Eq.trans (Eq.trans (kgv_13 20 (by decide)) (kgv_9 20 (by decide))) (kgv_5 20 (by decide))) (up_ne egm_1 (by decide))) (Eq.trans (Eq.trans (Eq.trans (kgv_13 44 (by decide)) (kgv_9 44 (by decide))) (kgv_5 44 (by decide))) (up_ne egm_1 (by decide))) (Eq.trans (Eq.trans (Eq.trans (kgv_13 45 (by decide)) (kgv_9 45 (by decide))) (kgv_5 45 (by decide))) (up_ne egm_1 (by decide))) (Eq.trans (Eq.trans (Eq.trans (kgv_13 46 (by decide)) (kgv_9 46 (by decide))) (kgv_5 46 (by decide))) (up_ne egm_1 (by decide))) rfl (Int.le_refl _) (Int.le_refl _))) (cwV 2 htb (gd_V kw_679 kw_583 kw_584 kw_20 kw_1475) rfl rfl rfl (by decide +kernel) ⟨Nat.le_of_ble_eq_true rfl, Nat.le_of_ble_eq_true rfl⟩) hvpp (by decide) (by decide) rfl rfl hl.1 rfl (Nat.le_trans (cs_c (eV_cat _ _) cs_n) (by decide)) dX1_begin_32 ⟨Nat.le_of_ble_eq_true rfl, Nat.le_of_ble_eq_true rfl⟩ hK hP hD hS hA hG (fun E ce q9 u_15 H locs hw hP hD hS hce hcv hcl => ?_) (fun v9 u_15 H locs hw hP hD hS => ?_)
  · exact hw.elim
  obtain ⟨r_14, rfl, rfl, fN_r_14, fZ_r_14⟩ := hw
  have hP : va_P (dC, dI) vwCl (cW ad cid a2 lx sg gmv_13 lg) H := hP
  have hD : va_D A (cW ad cid a2 lx sg gmv_13 lg) := hD
  refine W.eq (g2 := F0 m 35 ls [.long r_14, eV (ad 10) b]) rfl ?_
  refine cr_putl (t := 10) (j := 5) (C := RX1) (T := TX1) (N := 19) (ty0 := tyX1) (k := 4) (y := r_14) hx hb htb inX1 tyX1_ok nmX1 hown hK hP hD hS hvb (by decide) (by decide) (by decide) rfl rfl rfl (by decide) (htb _ kw_652) rfl (by show Value.long r_14 = Value.long (va_up lg 4 (vp_updL (lg 4) b.toNatClampNeg r_14) 4 b.toNatClampNeg); rw [va_up_self, pk_uLs]) rfl rfl dX1_begin_35 (fun lg_17 H locs elg_17 hP hD hS => ?_)
  refine ec_aload_n hx hb dX1_begin_38 rfl (lv_at hl 0 rfl) ?_
  refine ec_aload_n hx hb dX1_begin_39 rfl (lv_at hl 2 rfl) ?_
  refine ec_aload_n hx hb dX1_begin_40 rfl (lv_at hl 1 rfl) ?_
  refine cw_word (k := 12) (kx := 12) hx hb hG hS (by decide) rfl ⟨by decide, by decide⟩ hown (htb _ kw_653) dX1_begin_41 ?_
  refine cm_callV (t := 1) (C := RX6) (T := TX6) (N := 8) (rest := [eV (ad 10) b]) (as := [eV (ad 9) o, eV (ad 33) 12]) ⟨hx, hb, hml, hown, htb⟩ (d_nameValue3 l dC dI ad cid a2 lx sg gmv_13 lg_17 pp o 12 A7 hIv_13 hvpp hvo (iv_w (iv_k (by decide) : iv 12 12 12) (by decide)) (FA_e hFA rfl rfl (Eq.trans (Eq.trans (Eq.trans (kgv_13 19 (by decide)) (kgv_9 19 (by decide))) (kgv_5 19 (by decide))) (up_ne egm_1 (by decide))) (Eq.trans (Eq.trans (Eq.trans (kgv_13 20 (by decide)) (kgv_9 20 (by decide))) (kgv_5 20 (by decide))) (up_ne egm_1 (by decide)))) how (VS_e hVS rfl rfl (Eq.trans (Eq.trans (Eq.trans (kgv_13 44 (by decide)) (kgv_9 44 (by decide))) (kgv_5 44 (by decide))) (up_ne egm_1 (by decide))) (Eq.trans (Eq.trans (Eq.trans (kgv_13 45 (by decide)) (kgv_9 45 (by decide))) (kgv_5 45 (by decide))) (up_ne egm_1 (by decide)))) (ATC_k hat (Eq.trans (Eq.trans (Eq.trans (kgv_13 19 (by decide)) (kgv_9 19 (by decide))) (kgv_5 19 (by decide))) (up_ne egm_1 (by decide))) (Eq.trans (Eq.trans (Eq.trans (kgv_13 20 (by decide)) (kgv_9 20 (by decide))) (kgv_5 20 (by decide))) (up_ne egm_1 (by decide))) (Eq.trans (Eq.trans (Eq.trans (kgv_13 44 (by decide)) (kgv_9 44 (by decide))) (kgv_5 44 (by decide))) (up_ne egm_1 (by decide))) (Eq.trans (Eq.trans (Eq.trans (kgv_13 45 (by decide)) (kgv_9 45 (by decide))) (kgv_5 45 (by decide))) (up_ne egm_1 (by decide))) (Eq.trans (Eq.trans (Eq.trans (kgv_13 46 (by decide)) (kgv_9 46 (by decide))) (kgv_5 46 (by decide))) (up_ne egm_1 (by decide))) (up_ne elg_17 (by decide)) (Int.le_refl _) (Int.le_refl _))) (cwV 2 htb (gd_V kw_679 kw_583 kw_584 kw_20 kw_1475) rfl rfl rfl (by decide +kernel) ⟨Nat.le_of_ble_eq_true rfl, Nat.le_of_ble_eq_true rfl⟩) hvpp (by decide) (by decide) rfl rfl hl.1 rfl (Nat.le_trans (cs_c (eV_cat _ _) cs_n) (by decide)) dX1_begin_44 ⟨Nat.le_of_ble_eq_true rfl, Nat.le_of_ble_eq_true rfl⟩ hK hP hD hS hA hG (fun E ce q9 u_19 H locs hw hP hD hS hce hcv hcl => ?_) (fun v9 u_19 H locs hw hP hD hS => ?_)
  · exact hw.elim
  obtain ⟨r_18, rfl, rfl, fN_r_18, fZ_r_18⟩ := hw
  have hP : va_P (dC, dI) vwCl (cW ad cid a2 lx sg gmv_13 lg_17) H := hP
  have hD : va_D A (cW ad cid a2 lx sg gmv_13 lg_17) := hD
  refine W.eq (g2 := F0 m 47 ls [.long r_18, eV (ad 10) b]) rfl ?_
  refine cr_putl (t := 10) (j := 6) (C := RX1) (T := TX1) (N := 19) (ty0 := tyX1) (k := 5) (y := r_18) hx hb htb inX1 tyX1_ok nmX1 hown hK hP hD hS hvb (by decide) (by decide) (by decide) rfl rfl rfl (by decide) (htb _ kw_654) rfl (by show Value.long r_18 = Value.long (va_up lg_17 5 (vp_updL (lg_17 5) b.toNatClampNeg r_18) 5 b.toNatClampNeg); rw [va_up_self, pk_uLs]) rfl rfl dX1_begin_47 (fun lg_21 H locs elg_21 hP hD hS => ?_)
  refine ec_aload_n hx hb dX1_begin_50 rfl (lv_at hl 0 rfl) ?_
  refine ec_aload_n hx hb dX1_begin_51 rfl (lv_at hl 2 rfl) ?_
  refine ec_aload_n hx hb dX1_begin_52 rfl (lv_at hl 1 rfl) ?_
  refine cw_word (k := 20) (kx := 20) hx hb hG hS (by decide) rfl ⟨by decide, by decide⟩ hown (htb _ kw_655) dX1_begin_53 ?_
  refine cm_callV (t := 1) (C := RX6) (T := TX6) (N := 8) (rest := [eV (ad 10) b]) (as := [eV (ad 9) o, eV (ad 33) 20]) ⟨hx, hb, hml, hown, htb⟩ (d_nameValue3 l dC dI ad cid a2 lx sg gmv_13 lg_21 pp o 20 A7 hIv_13 hvpp hvo (iv_w (iv_k (by decide) : iv 20 20 20) (by decide)) (FA_e hFA rfl rfl (Eq.trans (Eq.trans (Eq.trans (kgv_13 19 (by decide)) (kgv_9 19 (by decide))) (kgv_5 19 (by decide))) (up_ne egm_1 (by decide))) (Eq.trans (Eq.trans (Eq.trans (kgv_13 20 (by decide)) (kgv_9 20 (by decide))) (kgv_5 20 (by decide))) (up_ne egm_1 (by decide)))) how (VS_e hVS rfl rfl (Eq.trans (Eq.trans (Eq.trans (kgv_13 44 (by decide)) (kgv_9 44 (by decide))) (kgv_5 44 (by decide))) (up_ne egm_1 (by decide))) (Eq.trans (Eq.trans (Eq.trans (kgv_13 45 (by decide)) (kgv_9 45 (by decide))) (kgv_5 45 (by decide))) (up_ne egm_1 (by decide)))) (ATC_k hat (Eq.trans (Eq.trans (Eq.trans (kgv_13 19 (by decide)) (kgv_9 19 (by decide))) (kgv_5 19 (by decide))) (up_ne egm_1 (by decide))) (Eq.trans (Eq.trans (Eq.trans (kgv_13 20 (by decide)) (kgv_9 20 (by decide))) (kgv_5 20 (by decide))) (up_ne egm_1 (by decide))) (Eq.trans (Eq.trans (Eq.trans (kgv_13 44 (by decide)) (kgv_9 44 (by decide))) (kgv_5 44 (by decide))) (up_ne egm_1 (by decide))) (Eq.trans (Eq.trans (Eq.trans (kgv_13 45 (by decide)) (kgv_9 45 (by decide))) (kgv_5 45 (by decide))) (up_ne egm_1 (by decide))) (Eq.trans (Eq.trans (Eq.trans (kgv_13 46 (by decide)) (kgv_9 46 (by decide))) (kgv_5 46 (by decide))) (up_ne egm_1 (by decide))) (Eq.trans (up_ne elg_21 (by decide)) (up_ne elg_17 (by decide))) (Int.le_refl _) (Int.le_refl _))) (cwV 2 htb (gd_V kw_679 kw_583 kw_584 kw_20 kw_1475) rfl rfl rfl (by decide +kernel) ⟨Nat.le_of_ble_eq_true rfl, Nat.le_of_ble_eq_true rfl⟩) hvpp (by decide) (by decide) rfl rfl hl.1 rfl (Nat.le_trans (cs_c (eV_cat _ _) cs_n) (by decide)) dX1_begin_56 ⟨Nat.le_of_ble_eq_true rfl, Nat.le_of_ble_eq_true rfl⟩ hK hP hD hS hA hG (fun E ce q9 u_23 H locs hw hP hD hS hce hcv hcl => ?_) (fun v9 u_23 H locs hw hP hD hS => ?_)
  · exact hw.elim
  obtain ⟨r_22, rfl, rfl, fN_r_22, fZ_r_22⟩ := hw
  have hP : va_P (dC, dI) vwCl (cW ad cid a2 lx sg gmv_13 lg_21) H := hP
  have hD : va_D A (cW ad cid a2 lx sg gmv_13 lg_21) := hD
  refine W.eq (g2 := F0 m 59 ls [.long r_22, eV (ad 10) b]) rfl ?_
  refine cr_putl (t := 10) (j := 7) (C := RX1) (T := TX1) (N := 19) (ty0 := tyX1) (k := 6) (y := r_22) hx hb htb inX1 tyX1_ok nmX1 hown hK hP hD hS hvb (by decide) (by decide) (by decide) rfl rfl rfl (by decide) (htb _ kw_656) rfl (by show Value.long r_22 = Value.long (va_up lg_21 6 (vp_updL (lg_21 6) b.toNatClampNeg r_22) 6 b.toNatClampNeg); rw [va_up_self, pk_uLs]) rfl rfl dX1_begin_59 (fun lg_25 H locs elg_25 hP hD hS => ?_)
  refine ec_aload_n hx hb dX1_begin_62 rfl (lv_at hl 0 rfl) ?_
  refine ec_aload_n hx hb dX1_begin_63 rfl (lv_at hl 2 rfl) ?_
  refine ec_aload_n hx hb dX1_begin_64 rfl (lv_at hl 1 rfl) ?_
  refine cw_word (k := 13) (kx := 13) hx hb hG hS (by decide) rfl ⟨by decide, by decide⟩ hown (htb _ kw_657) dX1_begin_65 ?_
  refine cw_word (k := 25) (kx := 25) hx hb hG hS (by decide) rfl ⟨by decide, by decide⟩ hown (htb _ kw_658) dX1_begin_68 ?_
  refine cm_callV (t := 1) (C := RX6) (T := TX6) (N := 8) (rest := [eV (ad 10) b]) (as := [eV (ad 9) o, eV (ad 33) 13, eV (ad 33) 25]) ⟨hx, hb, hml, hown, htb⟩ (d_valueIs2 l dC dI ad cid a2 lx sg gmv_13 lg_25 pp o 13 25 A7 hIv_13 hvpp hvo (iv_w (iv_k (by decide) : iv 13 13 13) (by decide)) (iv_w (iv_k (by decide) : iv 25 25 25) (by decide)) (FA_e hFA rfl rfl (Eq.trans (Eq.trans (Eq.trans (kgv_13 19 (by decide)) (kgv_9 19 (by decide))) (kgv_5 19 (by decide))) (up_ne egm_1 (by decide))) (Eq.trans (Eq.trans (Eq.trans (kgv_13 20 (by decide)) (kgv_9 20 (by decide))) (kgv_5 20 (by decide))) (up_ne egm_1 (by decide)))) how (VS_e hVS rfl rfl (Eq.trans (Eq.trans (Eq.trans (kgv_13 44 (by decide)) (kgv_9 44 (by decide))) (kgv_5 44 (by decide))) (up_ne egm_1 (by decide))) (Eq.trans (Eq.trans (Eq.trans (kgv_13 45 (by decide)) (kgv_9 45 (by decide))) (kgv_5 45 (by decide))) (up_ne egm_1 (by decide)))) (ATC_k hat (Eq.trans (Eq.trans (Eq.trans (kgv_13 19 (by decide)) (kgv_9 19 (by decide))) (kgv_5 19 (by decide))) (up_ne egm_1 (by decide))) (Eq.trans (Eq.trans (Eq.trans (kgv_13 20 (by decide)) (kgv_9 20 (by decide))) (kgv_5 20 (by decide))) (up_ne egm_1 (by decide))) (Eq.trans (Eq.trans (Eq.trans (kgv_13 44 (by decide)) (kgv_9 44 (by decide))) (kgv_5 44 (by decide))) (up_ne egm_1 (by decide))) (Eq.trans (Eq.trans (Eq.trans (kgv_13 45 (by decide)) (kgv_9 45 (by decide))) (kgv_5 45 (by decide))) (up_ne egm_1 (by decide))) (Eq.trans (Eq.trans (Eq.trans (kgv_13 46 (by decide)) (kgv_9 46 (by decide))) (kgv_5 46 (by decide))) (up_ne egm_1 (by decide))) (Eq.trans (Eq.trans (up_ne elg_25 (by decide)) (up_ne elg_21 (by decide))) (up_ne elg_17 (by decide))) (Int.le_refl _) (Int.le_refl _))) (cwV 3 htb (gd_V kw_680 kw_589 kw_590 kw_20 kw_1477) rfl rfl rfl (by decide +kernel) ⟨Nat.le_of_ble_eq_true rfl, Nat.le_of_ble_eq_true rfl⟩) hvpp (by decide) (by decide) rfl rfl hl.1 rfl (Nat.le_trans (cs_c (eV_cat _ _) cs_n) (by decide)) dX1_begin_71 ⟨Nat.le_of_ble_eq_true rfl, Nat.le_of_ble_eq_true rfl⟩ hK hP hD hS hA hG (fun E ce q9 u_27 H locs hw hP hD hS hce hcv hcl => ?_) (fun v9 u_27 H locs hw hP hD hS => ?_)
  · exact hw.elim
  obtain ⟨r_26, rfl, rfl, hr_26, fV_r_26⟩ := hw
  have hP : va_P (dC, dI) vwCl (cW ad cid a2 lx sg gmv_13 lg_25) H := hP
  have hD : va_D A (cW ad cid a2 lx sg gmv_13 lg_25) := hD
  refine W.eq (g2 := F0 m 74 ls [.int r_26, eV (ad 10) b]) rfl ?_
  refine cr_putg (t := 10) (j := 13) (C := RX1) (T := TX1) (N := 19) (ty0 := tyX1) (k := 34) (y := r_26) hx hb htb inX1 tyX1_ok nmX1 hown hK hP hD hS hvb (by decide) (by decide) (by decide) (by decide) rfl rfl (by decide) (htb _ kw_659) rfl (by show Value.int r_26 = Value.int (va_up gmv_13 34 (upd (gmv_13 34) b.toNatClampNeg r_26) 34 b.toNatClampNeg); rw [va_up_self, upd_at]) (iv_nb hr_26) (iv_fb hr_26) dX1_begin_74 (fun gm_29 H locs egm_29 hP hD hS => ?_)
  have hI_gm_29 := CI_st hIv_13 egm_29 hr_26 (by decide)
  refine ec_aload_n hx hb dX1_begin_77 rfl (lv_at hl 0 rfl) ?_
  refine ec_aload_n hx hb dX1_begin_78 rfl (lv_at hl 2 rfl) ?_
  refine ec_aload_n hx hb dX1_begin_79 rfl (lv_at hl 1 rfl) ?_
  refine cw_word (k := 14) (kx := 14) hx hb hG hS (by decide) rfl ⟨by decide, by decide⟩ hown (htb _ kw_660) dX1_begin_80 ?_
  refine cw_word (k := 28) (kx := 28) hx hb hG hS (by decide) rfl ⟨by decide, by decide⟩ hown (htb _ kw_661) dX1_begin_83 ?_
  refine cm_callV (t := 1) (C := RX6) (T := TX6) (N := 8) (rest := [eV (ad 10) b]) (as := [eV (ad 9) o, eV (ad 33) 14, eV (ad 33) 28]) ⟨hx, hb, hml, hown, htb⟩ (d_valueIs2 l dC dI ad cid a2 lx sg gm_29 lg_25 pp o 14 28 A7 hI_gm_29 hvpp hvo (iv_w (iv_k (by decide) : iv 14 14 14) (by decide)) (iv_w (iv_k (by decide) : iv 28 28 28) (by decide)) (FA_e hFA rfl rfl (Eq.trans (Eq.trans (Eq.trans (Eq.trans (up_ne egm_29 (by decide)) (kgv_13 19 (by decide))) (kgv_9 19 (by decide))) (kgv_5 19 (by decide))) (up_ne egm_1 (by decide))) (Eq.trans (Eq.trans (Eq.trans (Eq.trans (up_ne egm_29 (by decide)) (kgv_13 20 (by decide))) (kgv_9 20 (by decide))) (kgv_5 20 (by decide))) (up_ne egm_1 (by decide)))) how (VS_e hVS rfl rfl (Eq.trans (Eq.trans (Eq.trans (Eq.trans (up_ne egm_29 (by decide)) (kgv_13 44 (by decide))) (kgv_9 44 (by decide))) (kgv_5 44 (by decide))) (up_ne egm_1 (by decide))) (Eq.trans (Eq.trans (Eq.trans (Eq.trans (up_ne egm_29 (by decide)) (kgv_13 45 (by decide))) (kgv_9 45 (by decide))) (kgv_5 45 (by decide))) (up_ne egm_1 (by decide)))) (ATC_k hat (Eq.trans (Eq.trans (Eq.trans (Eq.trans (up_ne egm_29 (by decide)) (kgv_13 19 (by decide))) (kgv_9 19 (by decide))) (kgv_5 19 (by decide))) (up_ne egm_1 (by decide))) (Eq.trans (Eq.trans (Eq.trans (Eq.trans (up_ne egm_29 (by decide)) (kgv_13 20 (by decide))) (kgv_9 20 (by decide))) (kgv_5 20 (by decide))) (up_ne egm_1 (by decide))) (Eq.trans (Eq.trans (Eq.trans (Eq.trans (up_ne egm_29 (by decide)) (kgv_13 44 (by decide))) (kgv_9 44 (by decide))) (kgv_5 44 (by decide))) (up_ne egm_1 (by decide))) (Eq.trans (Eq.trans (Eq.trans (Eq.trans (up_ne egm_29 (by decide)) (kgv_13 45 (by decide))) (kgv_9 45 (by decide))) (kgv_5 45 (by decide))) (up_ne egm_1 (by decide))) (Eq.trans (Eq.trans (Eq.trans (Eq.trans (up_ne egm_29 (by decide)) (kgv_13 46 (by decide))) (kgv_9 46 (by decide))) (kgv_5 46 (by decide))) (up_ne egm_1 (by decide))) (Eq.trans (Eq.trans (up_ne elg_25 (by decide)) (up_ne elg_21 (by decide))) (up_ne elg_17 (by decide))) (Int.le_refl _) (Int.le_refl _))) (cwV 3 htb (gd_V kw_680 kw_589 kw_590 kw_20 kw_1477) rfl rfl rfl (by decide +kernel) ⟨Nat.le_of_ble_eq_true rfl, Nat.le_of_ble_eq_true rfl⟩) hvpp (by decide) (by decide) rfl rfl hl.1 rfl (Nat.le_trans (cs_c (eV_cat _ _) cs_n) (by decide)) dX1_begin_86 ⟨Nat.le_of_ble_eq_true rfl, Nat.le_of_ble_eq_true rfl⟩ hK hP hD hS hA hG (fun E ce q9 u_31 H locs hw hP hD hS hce hcv hcl => ?_) (fun v9 u_31 H locs hw hP hD hS => ?_)
  · exact hw.elim
  obtain ⟨r_30, rfl, rfl, hr_30, fV_r_30⟩ := hw
  have hP : va_P (dC, dI) vwCl (cW ad cid a2 lx sg gm_29 lg_25) H := hP
  have hD : va_D A (cW ad cid a2 lx sg gm_29 lg_25) := hD
  refine W.eq (g2 := F0 m 89 ls [.int r_30, eV (ad 10) b]) rfl ?_
  refine cr_putg (t := 10) (j := 14) (C := RX1) (T := TX1) (N := 19) (ty0 := tyX1) (k := 35) (y := r_30) hx hb htb inX1 tyX1_ok nmX1 hown hK hP hD hS hvb (by decide) (by decide) (by decide) (by decide) rfl rfl (by decide) (htb _ kw_662) rfl (by show Value.int r_30 = Value.int (va_up gm_29 35 (upd (gm_29 35) b.toNatClampNeg r_30) 35 b.toNatClampNeg); rw [va_up_self, upd_at]) (iv_nb hr_30) (iv_fb hr_30) dX1_begin_89 (fun gm_33 H locs egm_33 hP hD hS => ?_)
  have hI_gm_33 := CI_st hI_gm_29 egm_33 hr_30 (by decide)
  refine ec_aload_n hx hb dX1_begin_92 rfl (lv_at hl 0 rfl) ?_
  refine ec_aload_n hx hb dX1_begin_93 rfl (lv_at hl 2 rfl) ?_
  refine ec_aload_n hx hb dX1_begin_94 rfl (lv_at hl 1 rfl) ?_
  refine cw_word (k := 15) (kx := 15) hx hb hG hS (by decide) rfl ⟨by decide, by decide⟩ hown (htb _ kw_663) dX1_begin_95 ?_
  refine cw_word (k := 25) (kx := 25) hx hb hG hS (by decide) rfl ⟨by decide, by decide⟩ hown (htb _ kw_658) dX1_begin_98 ?_
  refine cm_callV (t := 1) (C := RX6) (T := TX6) (N := 8) (rest := [eV (ad 10) b]) (as := [eV (ad 9) o, eV (ad 33) 15, eV (ad 33) 25]) ⟨hx, hb, hml, hown, htb⟩ (d_valueIs2 l dC dI ad cid a2 lx sg gm_33 lg_25 pp o 15 25 A7 hI_gm_33 hvpp hvo (iv_w (iv_k (by decide) : iv 15 15 15) (by decide)) (iv_w (iv_k (by decide) : iv 25 25 25) (by decide)) (FA_e hFA rfl rfl (Eq.trans (Eq.trans (Eq.trans (Eq.trans (Eq.trans (up_ne egm_33 (by decide)) (up_ne egm_29 (by decide))) (kgv_13 19 (by decide))) (kgv_9 19 (by decide))) (kgv_5 19 (by decide))) (up_ne egm_1 (by decide))) (Eq.trans (Eq.trans (Eq.trans (Eq.trans (Eq.trans (up_ne egm_33 (by decide)) (up_ne egm_29 (by decide))) (kgv_13 20 (by decide))) (kgv_9 20 (by decide))) (kgv_5 20 (by decide))) (up_ne egm_1 (by decide)))) how (VS_e hVS rfl rfl (Eq.trans (Eq.trans (Eq.trans (Eq.trans (Eq.trans (up_ne egm_33 (by decide)) (up_ne egm_29 (by decide))) (kgv_13 44 (by decide))) (kgv_9 44 (by decide))) (kgv_5 44 (by decide))) (up_ne egm_1 (by decide))) (Eq.trans (Eq.trans (Eq.trans (Eq.trans (Eq.trans (up_ne egm_33 (by decide)) (up_ne egm_29 (by decide))) (kgv_13 45 (by decide))) (kgv_9 45 (by decide))) (kgv_5 45 (by decide))) (up_ne egm_1 (by decide)))) (ATC_k hat (Eq.trans (Eq.trans (Eq.trans (Eq.trans (Eq.trans (up_ne egm_33 (by decide)) (up_ne egm_29 (by decide))) (kgv_13 19 (by decide))) (kgv_9 19 (by decide))) (kgv_5 19 (by decide))) (up_ne egm_1 (by decide))) (Eq.trans (Eq.trans (Eq.trans (Eq.trans (Eq.trans (up_ne egm_33 (by decide)) (up_ne egm_29 (by decide))) (kgv_13 20 (by decide))) (kgv_9 20 (by decide))) (kgv_5 20 (by decide))) (up_ne egm_1 (by decide))) (Eq.trans (Eq.trans (Eq.trans (Eq.trans (Eq.trans (up_ne egm_33 (by decide)) (up_ne egm_29 (by decide))) (kgv_13 44 (by decide))) (kgv_9 44 (by decide))) (kgv_5 44 (by decide))) (up_ne egm_1 (by decide))) (Eq.trans (Eq.trans (Eq.trans (Eq.trans (Eq.trans (up_ne egm_33 (by decide)) (up_ne egm_29 (by decide))) (kgv_13 45 (by decide))) (kgv_9 45 (by decide))) (kgv_5 45 (by decide))) (up_ne egm_1 (by decide))) (Eq.trans (Eq.trans (Eq.trans (Eq.trans (Eq.trans (up_ne egm_33 (by decide)) (up_ne egm_29 (by decide))) (kgv_13 46 (by decide))) (kgv_9 46 (by decide))) (kgv_5 46 (by decide))) (up_ne egm_1 (by decide))) (Eq.trans (Eq.trans (up_ne elg_25 (by decide)) (up_ne elg_21 (by decide))) (up_ne elg_17 (by decide))) (Int.le_refl _) (Int.le_refl _))) (cwV 3 htb (gd_V kw_680 kw_589 kw_590 kw_20 kw_1477) rfl rfl rfl (by decide +kernel) ⟨Nat.le_of_ble_eq_true rfl, Nat.le_of_ble_eq_true rfl⟩) hvpp (by decide) (by decide) rfl rfl hl.1 rfl (Nat.le_trans (cs_c (eV_cat _ _) cs_n) (by decide)) dX1_begin_101 ⟨Nat.le_of_ble_eq_true rfl, Nat.le_of_ble_eq_true rfl⟩ hK hP hD hS hA hG (fun E ce q9 u_35 H locs hw hP hD hS hce hcv hcl => ?_) (fun v9 u_35 H locs hw hP hD hS => ?_)
  · exact hw.elim
  obtain ⟨r_34, rfl, rfl, hr_34, fV_r_34⟩ := hw
  have hP : va_P (dC, dI) vwCl (cW ad cid a2 lx sg gm_33 lg_25) H := hP
  have hD : va_D A (cW ad cid a2 lx sg gm_33 lg_25) := hD
  refine W.eq (g2 := F0 m 104 ls [.int r_34, eV (ad 10) b]) rfl ?_
  refine cr_putg (t := 10) (j := 15) (C := RX1) (T := TX1) (N := 19) (ty0 := tyX1) (k := 36) (y := r_34) hx hb htb inX1 tyX1_ok nmX1 hown hK hP hD hS hvb (by decide) (by decide) (by decide) (by decide) rfl rfl (by decide) (htb _ kw_664) rfl (by show Value.int r_34 = Value.int (va_up gm_33 36 (upd (gm_33 36) b.toNatClampNeg r_34) 36 b.toNatClampNeg); rw [va_up_self, upd_at]) (iv_nb hr_34) (iv_fb hr_34) dX1_begin_104 (fun gm_37 H locs egm_37 hP hD hS => ?_)
  have hI_gm_37 := CI_st hI_gm_33 egm_37 hr_34 (by decide)
  refine ec_aload_n hx hb dX1_begin_107 rfl (lv_at hl 0 rfl) ?_
  refine lv_lconst (v := 0) hx hb dX1_begin_108 (by decide) ?_
  refine cr_putl (t := 10) (j := 8) (C := RX1) (T := TX1) (N := 19) (ty0 := tyX1) (k := 7) (y := 0) hx hb htb inX1 tyX1_ok nmX1 hown hK hP hD hS hvb (by decide) (by decide) (by decide) rfl rfl rfl (by decide) (htb _ kw_665) rfl (by show Value.long 0 = Value.long (va_up lg_25 7 (vp_updL (lg_25 7) b.toNatClampNeg 0) 7 b.toNatClampNeg); rw [va_up_self, pk_uLs]) rfl rfl dX1_begin_109 (fun lg_38 H locs elg_38 hP hD hS => ?_)
  refine ec_aload_n hx hb dX1_begin_112 rfl (lv_at hl 0 rfl) ?_
  refine lv_iconst (v := (-1)) hx hb dX1_begin_113 (by decide) ?_
  refine cr_putg (t := 10) (j := 9) (C := RX1) (T := TX1) (N := 19) (ty0 := tyX1) (k := 30) (y := (-1)) hx hb htb inX1 tyX1_ok nmX1 hown hK hP hD hS hvb (by decide) (by decide) (by decide) (by decide) rfl rfl (by decide) (htb _ kw_666) rfl (by show Value.int (-1) = Value.int (va_up gm_37 30 (upd (gm_37 30) b.toNatClampNeg (-1)) 30 b.toNatClampNeg); rw [va_up_self, upd_at]) rfl rfl dX1_begin_114 (fun gm_39 H locs egm_39 hP hD hS => ?_)
  have hI_gm_39 := CI_st hI_gm_37 egm_39 (iv_k (by decide) : iv (-1) (-1) (-1)) (by decide)
  refine ec_aload_n hx hb dX1_begin_117 rfl (lv_at hl 0 rfl) ?_
  refine lv_iconst (v := (-1)) hx hb dX1_begin_118 (by decide) ?_
  refine cr_putg (t := 10) (j := 10) (C := RX1) (T := TX1) (N := 19) (ty0 := tyX1) (k := 31) (y := (-1)) hx hb htb inX1 tyX1_ok nmX1 hown hK hP hD hS hvb (by decide) (by decide) (by decide) (by decide) rfl rfl (by decide) (htb _ kw_667) rfl (by show Value.int (-1) = Value.int (va_up gm_39 31 (upd (gm_39 31) b.toNatClampNeg (-1)) 31 b.toNatClampNeg); rw [va_up_self, upd_at]) rfl rfl dX1_begin_119 (fun gm_40 H locs egm_40 hP hD hS => ?_)
  have hI_gm_40 := CI_st hI_gm_39 egm_40 (iv_k (by decide) : iv (-1) (-1) (-1)) (by decide)
  refine ec_aload_n hx hb dX1_begin_122 rfl (lv_at hl 0 rfl) ?_
  refine lv_iconst (v := (-1)) hx hb dX1_begin_123 (by decide) ?_
  refine cr_putg (t := 10) (j := 11) (C := RX1) (T := TX1) (N := 19) (ty0 := tyX1) (k := 32) (y := (-1)) hx hb htb inX1 tyX1_ok nmX1 hown hK hP hD hS hvb (by decide) (by decide) (by decide) (by decide) rfl rfl (by decide) (htb _ kw_668) rfl (by show Value.int (-1) = Value.int (va_up gm_40 32 (upd (gm_40 32) b.toNatClampNeg (-1)) 32 b.toNatClampNeg); rw [va_up_self, upd_at]) rfl rfl dX1_begin_124 (fun gm_41 H locs egm_41 hP hD hS => ?_)
  have hI_gm_41 := CI_st hI_gm_40 egm_41 (iv_k (by decide) : iv (-1) (-1) (-1)) (by decide)
  refine ec_aload_n hx hb dX1_begin_127 rfl (lv_at hl 0 rfl) ?_
  refine lv_iconst (v := (-1)) hx hb dX1_begin_128 (by decide) ?_
  refine cr_putg (t := 10) (j := 12) (C := RX1) (T := TX1) (N := 19) (ty0 := tyX1) (k := 33) (y := (-1)) hx hb htb inX1 tyX1_ok nmX1 hown hK hP hD hS hvb (by decide) (by decide) (by decide) (by decide) rfl rfl (by decide) (htb _ kw_669) rfl (by show Value.int (-1) = Value.int (va_up gm_41 33 (upd (gm_41 33) b.toNatClampNeg (-1)) 33 b.toNatClampNeg); rw [va_up_self, upd_at]) rfl rfl dX1_begin_129 (fun gm_42 H locs egm_42 hP hD hS => ?_)
  have hI_gm_42 := CI_st hI_gm_41 egm_42 (iv_k (by decide) : iv (-1) (-1) (-1)) (by decide)
  refine ec_aload_n hx hb dX1_begin_132 rfl (lv_at hl 0 rfl) ?_
  refine lv_iconst (v := 0) hx hb dX1_begin_133 (by decide) ?_
  refine cr_putg (t := 10) (j := 16) (C := RX1) (T := TX1) (N := 19) (ty0 := tyX1) (k := 37) (y := 0) hx hb htb inX1 tyX1_ok nmX1 hown hK hP hD hS hvb (by decide) (by decide) (by decide) (by decide) rfl rfl (by decide) (htb _ kw_670) rfl (by show Value.int 0 = Value.int (va_up gm_42 37 (upd (gm_42 37) b.toNatClampNeg 0) 37 b.toNatClampNeg); rw [va_up_self, upd_at]) (iv_nb (iv_w (iv_k (by decide) : iv 0 0 0) (by decide))) (iv_fb (iv_w (iv_k (by decide) : iv 0 0 0) (by decide))) dX1_begin_134 (fun gm_43 H locs egm_43 hP hD hS => ?_)
  have hI_gm_43 := CI_st hI_gm_42 egm_43 (iv_k (by decide) : iv 0 0 0) (by decide)
  refine ec_aload_n hx hb dX1_begin_137 rfl (lv_at hl 0 rfl) ?_
  refine lv_iconst (v := 0) hx hb dX1_begin_138 (by decide) ?_
  refine cr_putg (t := 10) (j := 17) (C := RX1) (T := TX1) (N := 19) (ty0 := tyX1) (k := 38) (y := 0) hx hb htb inX1 tyX1_ok nmX1 hown hK hP hD hS hvb (by decide) (by decide) (by decide) (by decide) rfl rfl (by decide) (htb _ kw_671) rfl (by show Value.int 0 = Value.int (va_up gm_43 38 (upd (gm_43 38) b.toNatClampNeg 0) 38 b.toNatClampNeg); rw [va_up_self, upd_at]) (iv_nb (iv_w (iv_k (by decide) : iv 0 0 0) (by decide))) (iv_fb (iv_w (iv_k (by decide) : iv 0 0 0) (by decide))) dX1_begin_139 (fun gm_44 H locs egm_44 hP hD hS => ?_)
  have hI_gm_44 := CI_st hI_gm_43 egm_44 (iv_k (by decide) : iv 0 0 0) (by decide)
  refine ec_aload_n hx hb dX1_begin_142 rfl (lv_at hl 0 rfl) ?_
  refine lv_iconst (v := (-1)) hx hb dX1_begin_143 (by decide) ?_
  refine cr_putg (t := 10) (j := 18) (C := RX1) (T := TX1) (N := 19) (ty0 := tyX1) (k := 39) (y := (-1)) hx hb htb inX1 tyX1_ok nmX1 hown hK hP hD hS hvb (by decide) (by decide) (by decide) (by decide) rfl rfl (by decide) (htb _ kw_672) rfl (by show Value.int (-1) = Value.int (va_up gm_44 39 (upd (gm_44 39) b.toNatClampNeg (-1)) 39 b.toNatClampNeg); rw [va_up_self, upd_at]) rfl rfl dX1_begin_144 (fun gm_45 H locs egm_45 hP hD hS => ?_)
  have hI_gm_45 := CI_st hI_gm_44 egm_45 (iv_k (by decide) : iv (-1) (-1) (-1)) (by decide)
  exact W.nb (fun hN => W.widen (k := 1) (n := 6) (by decide) (by decide) (vx_ret (W.vret hx hb hr (fun t ht hW => ⟨⟨none, (sg, gm_45, lg_38), rfl, ⟨rfl, sg, gm_45, lg_38, rfl, hI_gm_45, KS_rf, (KS_up (KS_up (KS_up (KS_up (KS_up (KS_up (KS_up (KS_up (KS_up (KS_up (KS_tr (L := [29, 30, 31, 32, 33, 34, 35, 36, 37, 38, 39, 40, 41, 57]) (KS_tr (L := [29, 30, 31, 32, 33, 34, 35, 36, 37, 38, 39, 40, 41, 57]) (KS_tr (L := [29, 30, 31, 32, 33, 34, 35, 36, 37, 38, 39, 40, 41, 57]) (KS_up KS_rf egm_1 (by decide)) kgv_5 (by decide)) kgv_9 (by decide)) kgv_13 (by decide)) egm_29 (by decide)) egm_33 (by decide)) egm_37 (by decide)) egm_39 (by decide)) egm_40 (by decide)) egm_41 (by decide)) egm_42 (by decide)) egm_43 (by decide)) egm_44 (by decide)) egm_45 (by decide)), (KS_up (KS_up (KS_up (KS_up KS_rf elg_17 (by decide)) elg_21 (by decide)) elg_25 (by decide)) elg_38 (by decide)), ((show gm_45 29 = upd (gm 29) (b : Int32).toNatClampNeg o from ((up_ne egm_45 (by decide)).trans ((up_ne egm_44 (by decide)).trans ((up_ne egm_43 (by decide)).trans ((up_ne egm_42 (by decide)).trans ((up_ne egm_41 (by decide)).trans ((up_ne egm_40 (by decide)).trans ((up_ne egm_39 (by decide)).trans ((up_ne egm_37 (by decide)).trans ((up_ne egm_33 (by decide)).trans ((up_ne egm_29 (by decide)).trans ((kgv_13 29 (by decide)).trans ((kgv_9 29 (by decide)).trans ((kgv_5 29 (by decide)).trans ((up_at egm_1).trans (by rw [show gm 29 = gm 29 from rfl]))))))))))))))))), ((show gm_45 37 = upd (gm 37) (b : Int32).toNatClampNeg 0 from ((up_ne egm_45 (by decide)).trans ((up_ne egm_44 (by decide)).trans ((up_at egm_43).trans (by rw [show gm_42 37 = gm 37 from ((up_ne egm_42 (by decide)).trans ((up_ne egm_41 (by decide)).trans ((up_ne egm_40 (by decide)).trans ((up_ne egm_39 (by decide)).trans ((up_ne egm_37 (by decide)).trans ((up_ne egm_33 (by decide)).trans ((up_ne egm_29 (by decide)).trans ((kgv_13 37 (by decide)).trans ((kgv_9 37 (by decide)).trans ((kgv_5 37 (by decide)).trans ((up_ne egm_1 (by decide)).trans rfl)))))))))))])))))), ((show gm_45 38 = upd (gm 38) (b : Int32).toNatClampNeg 0 from ((up_ne egm_45 (by decide)).trans ((up_at egm_44).trans (by rw [show gm_43 38 = gm 38 from ((up_ne egm_43 (by decide)).trans ((up_ne egm_42 (by decide)).trans ((up_ne egm_41 (by decide)).trans ((up_ne egm_40 (by decide)).trans ((up_ne egm_39 (by decide)).trans ((up_ne egm_37 (by decide)).trans ((up_ne egm_33 (by decide)).trans ((up_ne egm_29 (by decide)).trans ((kgv_13 38 (by decide)).trans ((kgv_9 38 (by decide)).trans ((kgv_5 38 (by decide)).trans ((up_ne egm_1 (by decide)).trans rfl))))))))))))]))))), ((show gm_45 39 = upd (gm 39) (b : Int32).toNatClampNeg (-1) from ((up_at egm_45).trans (by rw [show gm_44 39 = gm 39 from ((up_ne egm_44 (by decide)).trans ((up_ne egm_43 (by decide)).trans ((up_ne egm_42 (by decide)).trans ((up_ne egm_41 (by decide)).trans ((up_ne egm_40 (by decide)).trans ((up_ne egm_39 (by decide)).trans ((up_ne egm_37 (by decide)).trans ((up_ne egm_33 (by decide)).trans ((up_ne egm_29 (by decide)).trans ((kgv_13 39 (by decide)).trans ((kgv_9 39 (by decide)).trans ((kgv_5 39 (by decide)).trans ((up_ne egm_1 (by decide)).trans rfl)))))))))))))])))), ((by rw [show gm_45 41 = gmv_13 41 from (show KS [30, 31, 32, 33, 34, 35, 36, 37, 38, 39] gmv_13 gm_45 from (KS_up (KS_up (KS_up (KS_up (KS_up (KS_up (KS_up (KS_up (KS_up (KS_up KS_rf egm_29 (by decide)) egm_33 (by decide)) egm_37 (by decide)) egm_39 (by decide)) egm_40 (by decide)) egm_41 (by decide)) egm_42 (by decide)) egm_43 (by decide)) egm_44 (by decide)) egm_45 (by decide))) 41 (by decide), f41_r_11, f41_r_7, f41_r_3, show gm_1 41 = gm 41 from (show KS [29] gm gm_1 from (KS_up KS_rf egm_1 (by decide))) 41 (by decide), nq_2, nq_6, nq_10])), ((LDI_e fLD_r_11 ((show KS [30, 31, 32, 33, 34, 35, 36, 37, 38, 39] gmv_13 gm_45 from (KS_up (KS_up (KS_up (KS_up (KS_up (KS_up (KS_up (KS_up (KS_up (KS_up KS_rf egm_29 (by decide)) egm_33 (by decide)) egm_37 (by decide)) egm_39 (by decide)) egm_40 (by decide)) egm_41 (by decide)) egm_42 (by decide)) egm_43 (by decide)) egm_44 (by decide)) egm_45 (by decide))) 41 (by decide)) ((show KS [30, 31, 32, 33, 34, 35, 36, 37, 38, 39] gmv_13 gm_45 from (KS_up (KS_up (KS_up (KS_up (KS_up (KS_up (KS_up (KS_up (KS_up (KS_up KS_rf egm_29 (by decide)) egm_33 (by decide)) egm_37 (by decide)) egm_39 (by decide)) egm_40 (by decide)) egm_41 (by decide)) egm_42 (by decide)) egm_43 (by decide)) egm_44 (by decide)) egm_45 (by decide))) 42 (by decide)) ((show KS [30, 31, 32, 33, 34, 35, 36, 37, 38, 39] gmv_13 gm_45 from (KS_up (KS_up (KS_up (KS_up (KS_up (KS_up (KS_up (KS_up (KS_up (KS_up KS_rf egm_29 (by decide)) egm_33 (by decide)) egm_37 (by decide)) egm_39 (by decide)) egm_40 (by decide)) egm_41 (by decide)) egm_42 (by decide)) egm_43 (by decide)) egm_44 (by decide)) egm_45 (by decide))) 57 (by decide)))), (⟨r_14, (show lg_38 4 = vp_updL (lg 4) (b : Int32).toNatClampNeg r_14 from ((up_ne elg_38 (by decide)).trans ((up_ne elg_25 (by decide)).trans ((up_ne elg_21 (by decide)).trans ((up_at elg_17).trans (by rw [show lg 4 = lg 4 from rfl])))))), fZ_r_14.imp id (fun q9 => HSK_e q9 (show gmv_13 19 = gm 19 from (Eq.trans (Eq.trans (Eq.trans (kgv_13 19 (by decide)) (kgv_9 19 (by decide))) (kgv_5 19 (by decide))) (up_ne egm_1 (by decide)))).symm (show gmv_13 20 = gm 20 from (Eq.trans (Eq.trans (Eq.trans (kgv_13 20 (by decide)) (kgv_9 20 (by decide))) (kgv_5 20 (by decide))) (up_ne egm_1 (by decide)))).symm rfl)⟩), ((by rw [show lg_38 4 = vp_updL (lg 4) (b : Int32).toNatClampNeg r_14 from ((up_ne elg_38 (by decide)).trans ((up_ne elg_25 (by decide)).trans ((up_ne elg_21 (by decide)).trans ((up_at elg_17).trans (by rw [show lg 4 = lg 4 from rfl]))))), fN_r_14, show wKy.getD (10 : Int32).toNatClampNeg 0 = 26980 from by decide])), ((by rw [show lg_38 5 = vp_updL (lg 5) (b : Int32).toNatClampNeg r_18 from ((up_ne elg_38 (by decide)).trans ((up_ne elg_25 (by decide)).trans ((up_at elg_21).trans (by rw [show lg_17 5 = lg 5 from ((up_ne elg_17 (by decide)).trans rfl)])))), fN_r_18, show wKy.getD (12 : Int32).toNatClampNeg 0 = 123563833388660 from by decide])), (⟨(vpu_av (show lg_38 4 = vp_updL (lg 4) (b : Int32).toNatClampNeg r_14 from ((up_ne elg_38 (by decide)).trans ((up_ne elg_25 (by decide)).trans ((up_ne elg_21 (by decide)).trans ((up_at elg_17).trans (by rw [show lg 4 = lg 4 from rfl]))))))).trans (by rw [fN_r_14, show wKy.getD (10 : Int32).toNatClampNeg 0 = 26980 from by decide]), (vpu_av (show lg_38 5 = vp_updL (lg 5) (b : Int32).toNatClampNeg r_18 from ((up_ne elg_38 (by decide)).trans ((up_ne elg_25 (by decide)).trans ((up_at elg_21).trans (by rw [show lg_17 5 = lg 5 from ((up_ne elg_17 (by decide)).trans rfl)])))))).trans (by rw [fN_r_18, show wKy.getD (12 : Int32).toNatClampNeg 0 = 123563833388660 from by decide]), (vpu_av (show lg_38 6 = vp_updL (lg 6) (b : Int32).toNatClampNeg r_22 from ((up_ne elg_38 (by decide)).trans ((up_at elg_25).trans (by rw [show lg_21 6 = lg 6 from ((up_ne elg_21 (by decide)).trans ((up_ne elg_17 (by decide)).trans rfl))]))))).trans (by rw [fN_r_22, show wKy.getD (20 : Int32).toNatClampNeg 0 = 28259031083541619 from by decide]), (by have q9 := fV_r_26; rw [show gm_45 34 b.toNatClampNeg = _ from upd_av (show gm_45 34 = upd (gm 34) (b : Int32).toNatClampNeg r_26 from ((up_ne egm_45 (by decide)).trans ((up_ne egm_44 (by decide)).trans ((up_ne egm_43 (by decide)).trans ((up_ne egm_42 (by decide)).trans ((up_ne egm_41 (by decide)).trans ((up_ne egm_40 (by decide)).trans ((up_ne egm_39 (by decide)).trans ((up_ne egm_37 (by decide)).trans ((up_ne egm_33 (by decide)).trans ((up_at egm_29).trans (by rw [show gmv_13 34 = gm 34 from ((kgv_13 34 (by decide)).trans ((kgv_9 34 (by decide)).trans ((kgv_5 34 (by decide)).trans ((up_ne egm_1 (by decide)).trans rfl))))]))))))))))))]; first | exact q9 | (rw [xb9]; exact q9)), (by have q9 := fV_r_30; rw [show gm_45 35 b.toNatClampNeg = _ from upd_av (show gm_45 35 = upd (gm 35) (b : Int32).toNatClampNeg r_30 from ((up_ne egm_45 (by decide)).trans ((up_ne egm_44 (by decide)).trans ((up_ne egm_43 (by decide)).trans ((up_ne egm_42 (by decide)).trans ((up_ne egm_41 (by decide)).trans ((up_ne egm_40 (by decide)).trans ((up_ne egm_39 (by decide)).trans ((up_ne egm_37 (by decide)).trans ((up_at egm_33).trans (by rw [show gm_29 35 = gm 35 from ((up_ne egm_29 (by decide)).trans ((kgv_13 35 (by decide)).trans ((kgv_9 35 (by decide)).trans ((kgv_5 35 (by decide)).trans ((up_ne egm_1 (by decide)).trans rfl)))))])))))))))))]; first | exact q9 | (rw [xb9]; exact q9)), (by have q9 := fV_r_34; rw [show gm_45 36 b.toNatClampNeg = _ from upd_av (show gm_45 36 = upd (gm 36) (b : Int32).toNatClampNeg r_34 from ((up_ne egm_45 (by decide)).trans ((up_ne egm_44 (by decide)).trans ((up_ne egm_43 (by decide)).trans ((up_ne egm_42 (by decide)).trans ((up_ne egm_41 (by decide)).trans ((up_ne egm_40 (by decide)).trans ((up_ne egm_39 (by decide)).trans ((up_at egm_37).trans (by rw [show gm_33 36 = gm 36 from ((up_ne egm_33 (by decide)).trans ((up_ne egm_29 (by decide)).trans ((kgv_13 36 (by decide)).trans ((kgv_9 36 (by decide)).trans ((kgv_5 36 (by decide)).trans ((up_ne egm_1 (by decide)).trans rfl))))))]))))))))))]; first | exact q9 | (rw [xb9]; exact q9))⟩), (⟨vpu_av (show lg_38 7 = vp_updL (lg 7) (b : Int32).toNatClampNeg 0 from ((up_at elg_38).trans (by rw [show lg_25 7 = lg 7 from ((up_ne elg_25 (by decide)).trans ((up_ne elg_21 (by decide)).trans ((up_ne elg_17 (by decide)).trans rfl)))]))), upd_av (show gm_45 30 = upd (gm 30) (b : Int32).toNatClampNeg (-1) from ((up_ne egm_45 (by decide)).trans ((up_ne egm_44 (by decide)).trans ((up_ne egm_43 (by decide)).trans ((up_ne egm_42 (by decide)).trans ((up_ne egm_41 (by decide)).trans ((up_ne egm_40 (by decide)).trans ((up_at egm_39).trans (by rw [show gm_37 30 = gm 30 from ((up_ne egm_37 (by decide)).trans ((up_ne egm_33 (by decide)).trans ((up_ne egm_29 (by decide)).trans ((kgv_13 30 (by decide)).trans ((kgv_9 30 (by decide)).trans ((kgv_5 30 (by decide)).trans ((up_ne egm_1 (by decide)).trans rfl)))))))]))))))))), upd_av (show gm_45 31 = upd (gm 31) (b : Int32).toNatClampNeg (-1) from ((up_ne egm_45 (by decide)).trans ((up_ne egm_44 (by decide)).trans ((up_ne egm_43 (by decide)).trans ((up_ne egm_42 (by decide)).trans ((up_ne egm_41 (by decide)).trans ((up_at egm_40).trans (by rw [show gm_39 31 = gm 31 from ((up_ne egm_39 (by decide)).trans ((up_ne egm_37 (by decide)).trans ((up_ne egm_33 (by decide)).trans ((up_ne egm_29 (by decide)).trans ((kgv_13 31 (by decide)).trans ((kgv_9 31 (by decide)).trans ((kgv_5 31 (by decide)).trans ((up_ne egm_1 (by decide)).trans rfl))))))))])))))))), upd_av (show gm_45 32 = upd (gm 32) (b : Int32).toNatClampNeg (-1) from ((up_ne egm_45 (by decide)).trans ((up_ne egm_44 (by decide)).trans ((up_ne egm_43 (by decide)).trans ((up_ne egm_42 (by decide)).trans ((up_at egm_41).trans (by rw [show gm_40 32 = gm 32 from ((up_ne egm_40 (by decide)).trans ((up_ne egm_39 (by decide)).trans ((up_ne egm_37 (by decide)).trans ((up_ne egm_33 (by decide)).trans ((up_ne egm_29 (by decide)).trans ((kgv_13 32 (by decide)).trans ((kgv_9 32 (by decide)).trans ((kgv_5 32 (by decide)).trans ((up_ne egm_1 (by decide)).trans rfl)))))))))]))))))), upd_av (show gm_45 33 = upd (gm 33) (b : Int32).toNatClampNeg (-1) from ((up_ne egm_45 (by decide)).trans ((up_ne egm_44 (by decide)).trans ((up_ne egm_43 (by decide)).trans ((up_at egm_42).trans (by rw [show gm_41 33 = gm 33 from ((up_ne egm_41 (by decide)).trans ((up_ne egm_40 (by decide)).trans ((up_ne egm_39 (by decide)).trans ((up_ne egm_37 (by decide)).trans ((up_ne egm_33 (by decide)).trans ((up_ne egm_29 (by decide)).trans ((kgv_13 33 (by decide)).trans ((kgv_9 33 (by decide)).trans ((kgv_5 33 (by decide)).trans ((up_ne egm_1 (by decide)).trans rfl))))))))))]))))))⟩), (⟨(RO_t (RO_t (RO_t (RO_t (RO_t (RO_t (RO_t (RO_t (RO_t (RO_t (RO_t (RO_t (RO_t (RO_e (up_ne egm_1 (by decide))) (RO_e (kgv_5 30 (by decide)))) (RO_e (kgv_9 30 (by decide)))) (RO_e (kgv_13 30 (by decide)))) (RO_e (up_ne egm_29 (by decide)))) (RO_e (up_ne egm_33 (by decide)))) (RO_e (up_ne egm_37 (by decide)))) (RO_u (up_at egm_39))) (RO_e (up_ne egm_40 (by decide)))) (RO_e (up_ne egm_41 (by decide)))) (RO_e (up_ne egm_42 (by decide)))) (RO_e (up_ne egm_43 (by decide)))) (RO_e (up_ne egm_44 (by decide)))) (RO_e (up_ne egm_45 (by decide)))), (RO_t (RO_t (RO_t (RO_t (RO_t (RO_t (RO_t (RO_t (RO_t (RO_t (RO_t (RO_t (RO_t (RO_e (up_ne egm_1 (by decide))) (RO_e (kgv_5 31 (by decide)))) (RO_e (kgv_9 31 (by decide)))) (RO_e (kgv_13 31 (by decide)))) (RO_e (up_ne egm_29 (by decide)))) (RO_e (up_ne egm_33 (by decide)))) (RO_e (up_ne egm_37 (by decide)))) (RO_e (up_ne egm_39 (by decide)))) (RO_u (up_at egm_40))) (RO_e (up_ne egm_41 (by decide)))) (RO_e (up_ne egm_42 (by decide)))) (RO_e (up_ne egm_43 (by decide)))) (RO_e (up_ne egm_44 (by decide)))) (RO_e (up_ne egm_45 (by decide)))), (RO_t (RO_t (RO_t (RO_t (RO_t (RO_t (RO_t (RO_t (RO_t (RO_t (RO_t (RO_t (RO_t (RO_e (up_ne egm_1 (by decide))) (RO_e (kgv_5 32 (by decide)))) (RO_e (kgv_9 32 (by decide)))) (RO_e (kgv_13 32 (by decide)))) (RO_e (up_ne egm_29 (by decide)))) (RO_e (up_ne egm_33 (by decide)))) (RO_e (up_ne egm_37 (by decide)))) (RO_e (up_ne egm_39 (by decide)))) (RO_e (up_ne egm_40 (by decide)))) (RO_u (up_at egm_41))) (RO_e (up_ne egm_42 (by decide)))) (RO_e (up_ne egm_43 (by decide)))) (RO_e (up_ne egm_44 (by decide)))) (RO_e (up_ne egm_45 (by decide)))), (RO_t (RO_t (RO_t (RO_t (RO_t (RO_t (RO_t (RO_t (RO_t (RO_t (RO_t (RO_t (RO_t (RO_e (up_ne egm_1 (by decide))) (RO_e (kgv_5 33 (by decide)))) (RO_e (kgv_9 33 (by decide)))) (RO_e (kgv_13 33 (by decide)))) (RO_e (up_ne egm_29 (by decide)))) (RO_e (up_ne egm_33 (by decide)))) (RO_e (up_ne egm_37 (by decide)))) (RO_e (up_ne egm_39 (by decide)))) (RO_e (up_ne egm_40 (by decide)))) (RO_e (up_ne egm_41 (by decide)))) (RO_u (up_at egm_42))) (RO_e (up_ne egm_43 (by decide)))) (RO_e (up_ne egm_44 (by decide)))) (RO_e (up_ne egm_45 (by decide)))), (RO_t (RO_t (RO_t (RO_t (RO_t (RO_t (RO_t (RO_t (RO_t (RO_t (RO_t (RO_t (RO_t (RO_e (up_ne egm_1 (by decide))) (RO_e (kgv_5 34 (by decide)))) (RO_e (kgv_9 34 (by decide)))) (RO_e (kgv_13 34 (by decide)))) (RO_u (up_at egm_29))) (RO_e (up_ne egm_33 (by decide)))) (RO_e (up_ne egm_37 (by decide)))) (RO_e (up_ne egm_39 (by decide)))) (RO_e (up_ne egm_40 (by decide)))) (RO_e (up_ne egm_41 (by decide)))) (RO_e (up_ne egm_42 (by decide)))) (RO_e (up_ne egm_43 (by decide)))) (RO_e (up_ne egm_44 (by decide)))) (RO_e (up_ne egm_45 (by decide)))), (RO_t (RO_t (RO_t (RO_t (RO_t (RO_t (RO_t (RO_t (RO_t (RO_t (RO_t (RO_t (RO_t (RO_e (up_ne egm_1 (by decide))) (RO_e (kgv_5 35 (by decide)))) (RO_e (kgv_9 35 (by decide)))) (RO_e (kgv_13 35 (by decide)))) (RO_e (up_ne egm_29 (by decide)))) (RO_u (up_at egm_33))) (RO_e (up_ne egm_37 (by decide)))) (RO_e (up_ne egm_39 (by decide)))) (RO_e (up_ne egm_40 (by decide)))) (RO_e (up_ne egm_41 (by decide)))) (RO_e (up_ne egm_42 (by decide)))) (RO_e (up_ne egm_43 (by decide)))) (RO_e (up_ne egm_44 (by decide)))) (RO_e (up_ne egm_45 (by decide)))), (RO_t (RO_t (RO_t (RO_t (RO_t (RO_t (RO_t (RO_t (RO_t (RO_t (RO_t (RO_t (RO_t (RO_e (up_ne egm_1 (by decide))) (RO_e (kgv_5 36 (by decide)))) (RO_e (kgv_9 36 (by decide)))) (RO_e (kgv_13 36 (by decide)))) (RO_e (up_ne egm_29 (by decide)))) (RO_e (up_ne egm_33 (by decide)))) (RO_u (up_at egm_37))) (RO_e (up_ne egm_39 (by decide)))) (RO_e (up_ne egm_40 (by decide)))) (RO_e (up_ne egm_41 (by decide)))) (RO_e (up_ne egm_42 (by decide)))) (RO_e (up_ne egm_43 (by decide)))) (RO_e (up_ne egm_44 (by decide)))) (RO_e (up_ne egm_45 (by decide)))), (RL_t (RL_t (RL_t (RL_u (up_at elg_17)) (RL_e (up_ne elg_21 (by decide)))) (RL_e (up_ne elg_25 (by decide)))) (RL_e (up_ne elg_38 (by decide)))), (RL_t (RL_t (RL_t (RL_e (up_ne elg_17 (by decide))) (RL_u (up_at elg_21))) (RL_e (up_ne elg_25 (by decide)))) (RL_e (up_ne elg_38 (by decide)))), (RL_t (RL_t (RL_t (RL_e (up_ne elg_17 (by decide))) (RL_e (up_ne elg_21 (by decide)))) (RL_u (up_at elg_25))) (RL_e (up_ne elg_38 (by decide)))), (RL_t (RL_t (RL_t (RL_e (up_ne elg_17 (by decide))) (RL_e (up_ne elg_21 (by decide)))) (RL_e (up_ne elg_25 (by decide)))) (RL_u (up_at elg_38)))⟩)⟩, by rw [ht]; exact hP, va_K.moved hW.alike hK, hD⟩, hS.F ht, by rw [ht]; exact hN⟩) hS.2.2 dX1_begin_147)))
end
