section
set_option maxHeartbeats 4000000 in
set_option maxRecDepth 100000 in
theorem d_withoutZeros9 (l : Launch) (dC : Nat → ClassId) (dI : Nat → Nat → Nat) (ad : Nat → Nat → Nat) (cid : Nat → ClassId) (a2 : Nat → Nat) (lx : List Nat) (sg : Nat → Int32) (gm : Nat → Nat → Int32) (lg : Nat → Nat → Int64) (nm : Int64) (hI : CI sg gm) : CMt dC dI ad cid a2 lx l yX12_withoutZeros wm_X12_withoutZeros ({ frames := 0, cells := 1, slots := 6, locals := 0 }) [.long nm] sg gm lg (fun v u => ∃ r : Int64, v = some (.long r) ∧ u = (sg, gm, lg) ∧ (r = wz9 nm)) (fun _ _ => False) := by
  intro sz
  refine vx_ofW (cc := cX12_withoutZeros) (maxL := 7) (ret := (some .long)) (by decide) rfl ?_
  intro p e s m args below meth c s₁ B hml hxt hv
  obtain ⟨rfl, hsz, hP, hK, hD0, hG⟩ := hv
  have hx := B.exec
  have hb := B.bytes
  have hr := B.returns
  have hts := atoms_spec (ws := wm_X12_withoutZeros) B.pre
  have htb := fun (w : Cond) (h : w ∈ tb) => hts w (List.mem_cons_of_mem _ h)
  have hown : s.vm.findClass RX12 = some m.cls := findClass_of_methodNamed B.named
  have hlocks := B.notSynchronized
  subst hsz
  have hD := hD0.self (sz := s.heap.size)
  generalize hAe : va_A (cW ad cid a2 lx sg gm lg) s.heap.size = A at hD hG ⊢
  have hA : ∀ q : Nat, s.heap.size ≤ q → A q := fun q h => by rw [← hAe]; exact Or.inr h
  have hS : va_S A s.heap s.heap [] := va_S.rf
  have hl := lv_entry ([.long nm]) (n := 7) (Nat.le_of_ble_eq_true rfl)
  rw [lg_entry_eq]
  generalize (lg_sl ([.long nm]) ++ List.replicate (7 - (lg_sl ([.long nm])).length) Slot.unset).toArray = ls at hl ⊢
  have hl : lv_has ls 7 [(0, .long nm)] := hl
  have hj6 : ∀ (n : Nat) (x4_6 : Int32) (x2_6 : Int64) (_ : (x4_6.toInt + 8).toNat = n) (_ : iv (-8) 56 x4_6) (_ : wz9 nm = wzG nm ((x4_6.toInt + 8) / 8).toNat x4_6 x2_6) (H : Heap) (locs : List Loc) (ls : Array Slot), va_P (dC, dI) vwCl (cW ad cid a2 lx sg gm lg) H → va_D A (cW ad cid a2 lx sg gm lg) → va_S A s.heap H locs → lv_has ls 7 [(4, .int x4_6), (2, .long x2_6), (0, .long nm)] → W p l e (headSpec wm_X12_withoutZeros ({ frames := 0, cells := 1, slots := 6, locals := 0 })).room s m ([.long nm] : List Value).toArray below meth c H locs 0 0 (vx_MQ below (cQx dC dI ad cid a2 lx (fun v u => ∃ r : Int64, v = some (.long r) ∧ u = (sg, gm, lg) ∧ (r = wz9 nm)) A) (cX dC dI ad cid a2 lx (fun _ _ => False) A) ([.long nm] : List Value).toArray s 1 6 A) (F0 m 6 ls []) := by
    intro n
    induction n using Nat.strongRecOn with
    | ind n ih6 =>
      intro x4_6 x2_6 hn6 hx4_6 hwz H locs ls hP hD hS hl
      have hj36 : ∀ (x5_36 : Int64) (x2_36 : Int64) (_ : iv 0 56 x4_6) (_ : (x2_36 = x2_6 ∧ by9 nm x4_6 = 0) ∨ (¬ by9 nm x4_6 = 0 ∧ x2_36 = (x2_6 <<< ((8 : Int32).toInt64 &&& 63)) ||| by9 nm x4_6)) (H : Heap) (locs : List Loc) (ls : Array Slot), va_P (dC, dI) vwCl (cW ad cid a2 lx sg gm lg) H → va_D A (cW ad cid a2 lx sg gm lg) → va_S A s.heap H locs → lv_has ls 7 [(5, .long x5_36), (4, .int x4_6), (2, .long x2_36), (0, .long nm)] → W p l e (headSpec wm_X12_withoutZeros ({ frames := 0, cells := 1, slots := 6, locals := 0 })).room s m ([.long nm] : List Value).toArray below meth c H locs 0 0 (vx_MQ below (cQx dC dI ad cid a2 lx (fun v u => ∃ r : Int64, v = some (.long r) ∧ u = (sg, gm, lg) ∧ (r = wz9 nm)) A) (cX dC dI ad cid a2 lx (fun _ _ => False) A) ([.long nm] : List Value).toArray s 1 6 A) (F0 m 36 ls []) := by
        intro x5_36 x2_36 hsx4_36 u36 H locs ls hP hD hS hl
        obtain ⟨z_1, ez_1⟩ : ∃ z : Int32, z = x4_6 + (-8) := ⟨_, rfl⟩
        have hz_1 : iv (-8) 48 z_1 := iv_of ez_1 (iv_add hsx4_36 (iv_k (by decide) : iv (-8) (-8) (-8)) (by decide))
        have tz_1 : z_1.toInt = x4_6.toInt - 8 := by rw [ez_1]; exact iv_addE hsx4_36 (iv_k (by decide) : iv (-8) (-8) (-8)) (by decide)
        refine lv_iinc (v := z_1) (lv' := [(4, .int z_1), (5, .long x5_36), (2, .long x2_36), (0, .long nm)]) hx hb dX12_withoutZeros_36 hl (k := 1) rfl ez_1.symm (by decide) rfl (fun ls hl => ?_)
        refine lv_goto (tgt := 6) hx hb dX12_withoutZeros_39 (by decide) ?_
        exact ih6 _ (by rw [← hn6]; exact (by have := i32_0; have := i32_1; have := i32_2; have := i32_m1; have := (hsx4_36).1; have := (hsx4_36).2; have := (hz_1).1; have := (hz_1).2; omega)) z_1 x2_36 rfl (iv_w hz_1 (by decide)) ((by rcases u36 with ⟨q1, q2⟩ | ⟨q1, q2⟩; (rw [q1]; exact wzG_0 hwz (hsx4_36).1 ez_1 tz_1 q2); (exact wzG_1 hwz (hsx4_36).1 ez_1 tz_1 q1 q2))) _ _ _ hP hD hS (lv_sub hl [0, 2, 3] rfl)
      refine lv_iload hx hb dX12_withoutZeros_6 (lv_at hl 0 rfl) ?_
      refine lv_if_lt (tgt := 42) hx hb dX12_withoutZeros_8 (by decide) (fun c_2 => ?_) (fun c_2 => ?_)
      · have h_3 : iv (-8) (-1) x4_6 := iv_ltL c_2 hx4_6 (iv_k (by decide) : iv 0 0 0) (by decide)
        refine lv_lload_n hx hb dX12_withoutZeros_42 rfl (lv_at hl 1 rfl) ?_
        exact W.nb (fun hN => W.widen (k := 1) (n := 6) (by decide) (by decide) (vx_ret (W.lret (v := x2_6) hx hb hr (fun t ht hW => ⟨⟨some (.long x2_6), (sg, gm, lg), rfl, ⟨x2_6, rfl, rfl, ((by rw [hwz, wzG_e (by have := i32_0; have := i32_1; have := i32_2; have := i32_m1; have := (h_3).1; have := (h_3).2; omega)]))⟩, by rw [ht]; exact hP, va_K.moved hW.alike hK, hD⟩, hS.F ht, by rw [ht]; exact hN⟩) hS.2.2 dX12_withoutZeros_43)))
      · have h_4 : iv 0 56 x4_6 := iv_leR (i32_ge c_2) (iv_k (by decide) : iv 0 0 0) hx4_6 (by decide)
        refine lv_lload_n hx hb dX12_withoutZeros_11 rfl (lv_at hl 2 rfl) ?_
        refine lv_iload hx hb dX12_withoutZeros_12 (lv_at hl 0 rfl) ?_
        refine lv_lushr (v := (nm.toUInt64 >>> ((x4_6 : Int32).toInt64.toUInt64 &&& Int64.toUInt64 63)).toInt64) hx hb dX12_withoutZeros_14 rfl ?_
        refine lv_topl (fun z_5 ez_5 => ?_)
        refine lv_ldc2 (own := RX12) (v := 255) hx hb hown (htb _ kw_1270) dX12_withoutZeros_15 ?_
        refine lv_land hx hb dX12_withoutZeros_18 ?_
        refine lv_topl (fun z_6 ez_6 => ?_)
        refine lv_lstore (i := 5) (lv' := [(5, .long z_6), (4, .int x4_6), (2, .long x2_6), (0, .long nm)]) hx hb dX12_withoutZeros_19 hl (by decide) rfl (fun ls hl => ?_)
        refine lv_lload hx hb dX12_withoutZeros_21 (lv_at hl 0 rfl) ?_
        refine lv_lconst (v := 0) hx hb dX12_withoutZeros_23 (by decide) ?_
        refine W.lcmp hx hb dX12_withoutZeros_24 ?_
        refine lv_topi (fun z_7 ez_7 => ?_)
        have hz_7 : iv (-1) 1 z_7 := iv_of ez_7 (iv_cmp _ _)
        refine lv_if_eq (tgt := 36) hx hb dX12_withoutZeros_25 (by decide) (fun c_8 => ?_) (fun c_8 => ?_)
        · have h_9 : iv 0 0 z_7 := iv_eq c_8 hz_7 (iv_k (by decide) : iv 0 0 0) (by decide)
          exact hj36 z_6 x2_6 h_4 (Or.inl ⟨rfl, ((show by9 nm x4_6 = z_6 from (by rw [ez_6, ez_5]; rfl)).trans ((lg_cmp_eq _ _).mp (by rw [← ez_7]; exact c_8)))⟩) _ _ _ hP hD hS (lv_sub hl [0, 1, 2, 3] rfl)
        · have d_10 : ¬ (z_7 : Int32).toInt = 0 := lv_neT c_8 rfl
          refine lv_lload_n hx hb dX12_withoutZeros_28 rfl (lv_at hl 2 rfl) ?_
          refine lv_bipush (v := 8) hx hb dX12_withoutZeros_29 (by decide) ?_
          refine lv_lshl (v := x2_6 <<< ((8 : Int32).toInt64 &&& 63)) hx hb dX12_withoutZeros_31 rfl ?_
          refine lv_topl (fun z_11 ez_11 => ?_)
          refine lv_lload hx hb dX12_withoutZeros_32 (lv_at hl 0 rfl) ?_
          refine lv_lor hx hb dX12_withoutZeros_34 ?_
          refine lv_topl (fun z_12 ez_12 => ?_)
          refine lv_lstore_n (i := 2) (lv' := [(2, .long z_12), (5, .long z_6), (4, .int x4_6), (0, .long nm)]) hx hb dX12_withoutZeros_35 rfl hl (by decide) rfl (fun ls hl => ?_)
          exact hj36 z_6 z_12 h_4 (Or.inr ⟨(fun q9 => c_8 (by rw [ez_7]; exact (lg_cmp_eq _ _).mpr ((show by9 nm x4_6 = z_6 from (by rw [ez_6, ez_5]; rfl)).symm.trans q9))), (by rw [(show by9 nm x4_6 = z_6 from (by rw [ez_6, ez_5]; rfl)), ez_12, ez_11])⟩) _ _ _ hP hD hS (lv_sub hl [1, 2, 0, 3] rfl)
  refine lv_lconst (v := 0) hx hb dX12_withoutZeros_0 (by decide) ?_
  refine lv_lstore_n (i := 2) (lv' := [(2, .long 0), (0, .long nm)]) hx hb dX12_withoutZeros_1 rfl hl (by decide) rfl (fun ls hl => ?_)
  refine lv_bipush (v := 56) hx hb dX12_withoutZeros_2 (by decide) ?_
  refine lv_istore (i := 4) (lv' := [(4, .int 56), (2, .long 0), (0, .long nm)]) hx hb dX12_withoutZeros_4 hl (by decide) rfl (fun ls hl => ?_)
  exact hj6 _ 56 0 rfl (iv_w (iv_k (by decide) : iv 56 56 56) (by decide)) ((by unfold wz9; rfl)) _ _ _ hP hD hS (lv_sub hl [0, 1, 2] rfl)

set_option maxHeartbeats 4000000 in
set_option maxRecDepth 100000 in
theorem d_lookupNamed9 (l : Launch) (dC : Nat → ClassId) (dI : Nat → Nat → Nat) (ad : Nat → Nat → Nat) (cid : Nat → ClassId) (a2 : Nat → Nat) (lx : List Nat) (sg : Nat → Int32) (gm : Nat → Nat → Int32) (lg : Nat → Nat → Int64) (b : Int32) (nm : Int32) (wg : Nat → Nat → Int32) (hI : CI sg gm) (hvb : iv 0 79 b) (hLD : LDI lx gm) (hSW : st9 gm = wg) : CMt dC dI ad cid a2 lx l yX1_lookupNamed wm_X1_lookupNamed ({ frames := 3, cells := 1, slots := 6, locals := 64 }) [eV (ad 10) b, .int nm] sg gm lg (fun v u => ∃ r : Int32, v = some (eV (ad 9) r) ∧ u = (sg, gm, lg) ∧ (iv (-1) 79 r) ∧ (r.toInt = lkL wg nm.toInt (liL wg (3 * b.toNatClampNeg + 2)))) (fun _ _ => False) := by
  intro sz
  refine vx_ofW (cc := cX1_lookupNamed) (maxL := 3) (ret := (some (.object "WiredBeans$Element"))) (by decide) rfl ?_
  intro p e s m args below meth c s₁ B hml hxt hv
  obtain ⟨rfl, hsz, hP, hK, hD0, hG⟩ := hv
  have hx := B.exec
  have hb := B.bytes
  have hr := B.returns
  have hts := atoms_spec (ws := wm_X1_lookupNamed) B.pre
  have htb := fun (w : Cond) (h : w ∈ tb) => hts w (List.mem_cons_of_mem _ h)
  have hown : s.vm.findClass RX1 = some m.cls := findClass_of_methodNamed B.named
  have hlocks := B.notSynchronized
  subst hsz
  have hD := hD0.self (sz := s.heap.size)
  generalize hAe : va_A (cW ad cid a2 lx sg gm lg) s.heap.size = A at hD hG ⊢
  have hA : ∀ q : Nat, s.heap.size ≤ q → A q := fun q h => by rw [← hAe]; exact Or.inr h
  have hS : va_S A s.heap s.heap [] := va_S.rf
  have hl := lv_entry ([eV (ad 10) b, .int nm]) (n := 3) (by rw [show (lg_sl ([eV (ad 10) b, .int nm])).length = 2 from by simp [lg_sl, eV_cat, cat_i, cat_l]]; exact Nat.le_of_ble_eq_true rfl)
  rw [lg_entry_eq]
  generalize (lg_sl ([eV (ad 10) b, .int nm]) ++ List.replicate (3 - (lg_sl ([eV (ad 10) b, .int nm])).length) Slot.unset).toArray = ls at hl ⊢
  have hl : lv_has ls 3 [(0, eV (ad 10) b), (1, .int nm)] := by simp [lv_args, eV_cat, cat_i, cat_l] at hl; exact hl
  have hj2 : ∀ (n : Nat) (x2_2 : Int32) (_ : (80 - x2_2.toInt).toNat = n) (_ : iv 0 80 x2_2) (_ : iv 0 79 b) (_ : lkL wg nm.toInt (liL wg (3 * b.toNatClampNeg + 2)) = lkL wg nm.toInt ((liL wg (3 * b.toNatClampNeg + 2)).drop x2_2.toNatClampNeg)) (H : Heap) (locs : List Loc) (ls : Array Slot), va_P (dC, dI) vwCl (cW ad cid a2 lx sg gm lg) H → va_D A (cW ad cid a2 lx sg gm lg) → va_S A s.heap H locs → lv_has ls 3 [(2, .int x2_2), (0, eV (ad 10) b), (1, .int nm)] → W p l e (headSpec wm_X1_lookupNamed ({ frames := 3, cells := 1, slots := 6, locals := 64 })).room s m ([eV (ad 10) b, .int nm] : List Value).toArray below meth c H locs 0 0 (vx_MQ below (cQx dC dI ad cid a2 lx (fun v u => ∃ r : Int32, v = some (eV (ad 9) r) ∧ u = (sg, gm, lg) ∧ (iv (-1) 79 r) ∧ (r.toInt = lkL wg nm.toInt (liL wg (3 * b.toNatClampNeg + 2)))) A) (cX dC dI ad cid a2 lx (fun _ _ => False) A) ([eV (ad 10) b, .int nm] : List Value).toArray s 1 6 A) (F0 m 2 ls []) := by
    intro n
    induction n using Nat.strongRecOn with
    | ind n ih2 =>
      intro x2_2 hn2 hx2_2 hsx0_2 hlk H locs ls hP hD hS hl
      refine lv_iload_n hx hb dX1_lookupNamed_2 rfl (lv_at hl 0 rfl) ?_
      refine ec_aload_n hx hb dX1_lookupNamed_3 rfl (lv_at hl 1 rfl) ?_
      obtain ⟨q_1, hq_1, nq_1, tq_1⟩ := ix_mk (3 * b.toNatClampNeg + 2) 239 (by have q1 := iv_cl hsx0_2 (by decide); have q2 := (hsx0_2).2; omega) (by decide)
      refine cr_get (t := 10) (j := 3) (C := RX1) (T := TX1) (N := 19) (v := eV (ad 11) q_1) hx hb htb inX1 hown hK hP hsx0_2 (by decide) (by decide) (by decide) rfl (by decide) (htb _ kw_101) (cV_c rfl hq_1.1 nq_1) dX1_lookupNamed_4 ?_
      refine cm_callV (t := 11) (C := RJx4a65c) (T := TJx4a65c) (N := 3) (rest := [.int x2_2]) (as := []) ⟨hx, hb, hml, hown, htb⟩ (d_lsize l dC dI ad cid a2 lx sg gm lg q_1 hI hq_1) (cwV 0 htb (gd_V kw_790 kw_791 kw_792 kw_98 kw_1511) rfl rfl rfl (by decide +kernel) ⟨Nat.le_of_ble_eq_true rfl, Nat.le_of_ble_eq_true rfl⟩) hq_1 (by decide) (by decide) rfl rfl hl.1 rfl (Nat.le_trans (cs_c (cat_i _) cs_n) (by decide)) dX1_lookupNamed_7 ⟨Nat.le_of_ble_eq_true rfl, Nat.le_of_ble_eq_true rfl⟩ hK hP hD hS hA hG (fun E ce q9 u_3 H locs hw hP hD hS hce hcv hcl => ?_) (fun v9 u_3 H locs hw hP hD hS => ?_)
      · exact hw.elim
      obtain ⟨r_2, rfl, rfl, hr_2, fr_r_2⟩ := hw
      have hP : va_P (dC, dI) vwCl (cW ad cid a2 lx sg gm lg) H := hP
      have hD : va_D A (cW ad cid a2 lx sg gm lg) := hD
      refine W.eq (g2 := F0 m 10 ls [.int r_2, .int x2_2]) rfl ?_
      refine lv_icmp_ge (tgt := 49) hx hb dX1_lookupNamed_10 (by decide) (fun c_5 => ?_) (fun c_5 => ?_)
      · have d_6 : (r_2 : Int32).toInt ≤ (x2_2 : Int32).toInt := Int32.le_iff_toInt_le.mp c_5
        refine ec_null (a := ad 9) hx hb dX1_lookupNamed_49 ?_
        exact W.nb (fun hN => W.widen (k := 1) (n := 6) (by decide) (by decide) (vx_ret (W.aret (v := eV (ad 9) (-1)) hx hb hr (Or.inl ⟨_, rfl⟩) (eV_is _ _) (fun t ht hW => ⟨⟨some (eV (ad 9) (-1)), (sg, gm, lg), rfl, ⟨(-1), rfl, rfl, (iv_w (iv_k (by decide) : iv (-1) (-1) (-1)) (by decide)), ((by have q9 := lkL_e hlk (by rw [liL_l, sw9 hSW 41 rfl]; have q1 := congrArg Int32.toInt fr_r_2; rw [show q_1.toNatClampNeg = 3 * b.toNatClampNeg + 2 from nq_1] at q1; have q5 : (gm 41 (3 * b.toNatClampNeg + 2)).toNatClampNeg = (gm 41 (3 * b.toNatClampNeg + 2)).toInt.toNat := rfl; have q1 : x2_2.toNatClampNeg = x2_2.toInt.toNat := rfl; have := i32_0; have := i32_1; have := i32_2; have := i32_m1; have := (hsx0_2).1; have := (hsx0_2).2; have := (hx2_2).1; have := (hx2_2).2; have := (hq_1).1; have := (hq_1).2; have := (hr_2).1; have := (hr_2).2; omega); rw [q9]; rfl))⟩, by rw [ht]; exact hP, va_K.moved hW.alike hK, hD⟩, hS.F ht, by rw [ht]; exact hN⟩) hS.2.2 dX1_lookupNamed_50)))
      · have d_7 : (x2_2 : Int32).toInt < (r_2 : Int32).toInt := Int32.lt_iff_toInt_lt.mp (i32_lt c_5)
        have h_8 : iv 0 79 x2_2 := iv_ltL (i32_lt c_5) hx2_2 hr_2 (by decide)
        have h_9 : iv 1 80 r_2 := iv_ltR (i32_lt c_5) hx2_2 hr_2 (by decide)
        refine ec_aload_n hx hb dX1_lookupNamed_13 rfl (lv_at hl 1 rfl) ?_
        refine cr_get (t := 10) (j := 3) (C := RX1) (T := TX1) (N := 19) (v := eV (ad 11) q_1) hx hb htb inX1 hown hK hP hsx0_2 (by decide) (by decide) (by decide) rfl (by decide) (htb _ kw_101) (cV_c rfl hq_1.1 nq_1) dX1_lookupNamed_14 ?_
        refine lv_iload_n hx hb dX1_lookupNamed_17 rfl (lv_at hl 0 rfl) ?_
        refine cm_callV (t := 11) (C := RJx4a65c) (T := TJx4a65c) (N := 3) (rest := []) (as := [.int x2_2]) ⟨hx, hb, hml, hown, htb⟩ (d_lget l dC dI ad cid a2 lx sg gm lg q_1 x2_2 hI hq_1 hLD (by have := i32_0; have := i32_1; have := i32_2; have := i32_m1; have := (hsx0_2).1; have := (hsx0_2).2; have := (h_8).1; have := (h_8).2; have := (hq_1).1; have := (hq_1).2; have := (h_9).1; have := (h_9).2; omega) (by rw [← fr_r_2]; have := i32_0; have := i32_1; have := i32_2; have := i32_m1; have := (hsx0_2).1; have := (hsx0_2).2; have := (h_8).1; have := (h_8).2; have := (hq_1).1; have := (hq_1).2; have := (h_9).1; have := (h_9).2; omega)) (cwV 1 htb (gd_V kw_793 kw_794 kw_795 kw_98 kw_1512) rfl rfl rfl (by decide +kernel) ⟨Nat.le_of_ble_eq_true rfl, Nat.le_of_ble_eq_true rfl⟩) hq_1 (by decide) (by decide) rfl rfl hl.1 rfl (Nat.le_trans cs_n (by decide)) dX1_lookupNamed_18 ⟨Nat.le_of_ble_eq_true rfl, Nat.le_of_ble_eq_true rfl⟩ hK hP hD hS hA hG (fun E ce q9 u_11 H locs hw hP hD hS hce hcv hcl => ?_) (fun v9 u_11 H locs hw hP hD hS => ?_)
        · exact hw.elim
        obtain ⟨r_10, rfl, rfl, hr_10, fr_r_10⟩ := hw
        have hP : va_P (dC, dI) vwCl (cW ad cid a2 lx sg gm lg) H := hP
        have hD : va_D A (cW ad cid a2 lx sg gm lg) := hD
        refine W.eq (g2 := F0 m 21 ls [eV (ad 9) r_10]) rfl ?_
        refine cl_cast hx hb hG hown (htb _ kw_788) hK hP hr_10 (by decide) dX1_lookupNamed_21 ?_
        refine cr_get (t := 9) (j := 15) (C := RX3) (T := TX3) (N := 21) (v := .int (gm 22 r_10.toNatClampNeg)) hx hb htb inX3 hown hK hP hr_10 (by decide) (by decide) (by decide) rfl (by decide) (htb _ kw_789) rfl dX1_lookupNamed_24 ?_
        obtain ⟨z_13, ez_13⟩ : ∃ z : Int32, z = (gm 22 r_10.toNatClampNeg) := ⟨_, rfl⟩
        refine W.eq (g2 := F0 m 27 ls [.int z_13]) (by rw [ez_13]) ?_
        have hz_13 : iv (-1) 25 z_13 := iv_of ez_13 (CI_a hI 22 hr_10 (by decide))
        refine lv_iload_n hx hb dX1_lookupNamed_27 rfl (lv_at hl 2 rfl) ?_
        refine lv_icmp_ne (tgt := 43) hx hb dX1_lookupNamed_28 (by decide) (fun c_14 => ?_) (fun c_14 => ?_)
        · obtain ⟨z_15, ez_15⟩ : ∃ z : Int32, z = x2_2 + 1 := ⟨_, rfl⟩
          have hz_15 : iv 1 80 z_15 := iv_of ez_15 (iv_add h_8 (iv_k (by decide) : iv 1 1 1) (by decide))
          have tz_15 : z_15.toInt = x2_2.toInt + 1 := by rw [ez_15]; exact iv_addE h_8 (iv_k (by decide) : iv 1 1 1) (by decide)
          refine lv_iinc (v := z_15) (lv' := [(2, .int z_15), (0, eV (ad 10) b), (1, .int nm)]) hx hb dX1_lookupNamed_43 hl (k := 0) rfl ez_15.symm (by decide) rfl (fun ls hl => ?_)
          refine lv_goto (tgt := 2) hx hb dX1_lookupNamed_46 (by decide) ?_
          exact ih2 _ (by rw [← hn2]; exact (iv_meas tz_15 h_8 (by decide))) z_15 rfl (iv_w hz_15 (by decide)) hsx0_2 ((by rw [show z_15.toNatClampNeg = x2_2.toNatClampNeg + 1 from (by have q1 : z_15.toNatClampNeg = z_15.toInt.toNat := rfl; have q1 : x2_2.toNatClampNeg = x2_2.toInt.toNat := rfl; have := i32_0; have := i32_1; have := i32_2; have := i32_m1; have := (hsx0_2).1; have := (hsx0_2).2; have := (h_8).1; have := (h_8).2; have := (hq_1).1; have := (hq_1).2; have := (h_9).1; have := (h_9).2; have := (hr_10).1; have := (hr_10).2; have := (hz_13).1; have := (hz_13).2; have := (hz_15).1; have := (hz_15).2; omega)]; exact lkL_st hlk (show (liL wg (3 * b.toNatClampNeg + 2))[x2_2.toNatClampNeg]? = some r_10.toNatClampNeg from (by rw [liL_g (by rw [sw9 hSW 41 rfl]; have q1 := congrArg Int32.toInt fr_r_2; rw [show q_1.toNatClampNeg = 3 * b.toNatClampNeg + 2 from nq_1] at q1; have q5 : (gm 41 (3 * b.toNatClampNeg + 2)).toNatClampNeg = (gm 41 (3 * b.toNatClampNeg + 2)).toInt.toNat := rfl; have q1 : x2_2.toNatClampNeg = x2_2.toInt.toNat := rfl; have := i32_0; have := i32_1; have := i32_2; have := i32_m1; have := (hsx0_2).1; have := (hsx0_2).2; have := (h_8).1; have := (h_8).2; have := (hq_1).1; have := (hq_1).2; have := (h_9).1; have := (h_9).2; have := (hr_10).1; have := (hr_10).2; have := (hz_13).1; have := (hz_13).2; have := (hz_15).1; have := (hz_15).2; omega), show wg 57 (128 * (3 * b.toNatClampNeg + 2) + x2_2.toNatClampNeg) = r_10 from (by rw [sw9 hSW 57 rfl, fr_r_10, show q_1.toNatClampNeg = 3 * b.toNatClampNeg + 2 from nq_1])])) (by rw [(swt9 hSW ez_13 rfl)]; exact (fun q7 => c_14 (Int32.toInt_inj.mp q7))))) _ _ _ hP hD hS (lv_sub hl [0, 1, 2] rfl)
        · have d_16 : (z_13 : Int32).toInt = (nm : Int32).toInt := congrArg Int32.toInt c_14
          have h_17 : iv (-1) 25 nm := iv_eq (Eq.symm c_14) (iv_all nm) hz_13 (by decide)
          refine ec_aload_n hx hb dX1_lookupNamed_31 rfl (lv_at hl 1 rfl) ?_
          refine cr_get (t := 10) (j := 3) (C := RX1) (T := TX1) (N := 19) (v := eV (ad 11) q_1) hx hb htb inX1 hown hK hP hsx0_2 (by decide) (by decide) (by decide) rfl (by decide) (htb _ kw_101) (cV_c rfl hq_1.1 nq_1) dX1_lookupNamed_32 ?_
          refine lv_iload_n hx hb dX1_lookupNamed_35 rfl (lv_at hl 0 rfl) ?_
          refine cm_callV (t := 11) (C := RJx4a65c) (T := TJx4a65c) (N := 3) (rest := []) (as := [.int x2_2]) ⟨hx, hb, hml, hown, htb⟩ (d_lget l dC dI ad cid a2 lx sg gm lg q_1 x2_2 hI hq_1 hLD (by have := i32_0; have := i32_1; have := i32_2; have := i32_m1; have := (hsx0_2).1; have := (hsx0_2).2; have := (h_8).1; have := (h_8).2; have := (hq_1).1; have := (hq_1).2; have := (h_9).1; have := (h_9).2; have := (hr_10).1; have := (hr_10).2; have := (hz_13).1; have := (hz_13).2; have := (h_17).1; have := (h_17).2; omega) (by rw [← fr_r_2]; have := i32_0; have := i32_1; have := i32_2; have := i32_m1; have := (hsx0_2).1; have := (hsx0_2).2; have := (h_8).1; have := (h_8).2; have := (hq_1).1; have := (hq_1).2; have := (h_9).1; have := (h_9).2; have := (hr_10).1; have := (hr_10).2; have := (hz_13).1; have := (hz_13).2; have := (h_17).1; have := (h_17).2; omega)) (cwV 1 htb (gd_V kw_793 kw_794 kw_795 kw_98 kw_1512) rfl rfl rfl (by decide +kernel) ⟨Nat.le_of_ble_eq_true rfl, Nat.le_of_ble_eq_true rfl⟩) hq_1 (by decide) (by decide) rfl rfl hl.1 rfl (Nat.le_trans cs_n (by decide)) dX1_lookupNamed_36 ⟨Nat.le_of_ble_eq_true rfl, Nat.le_of_ble_eq_true rfl⟩ hK hP hD hS hA hG (fun E ce q9 u_19 H locs hw hP hD hS hce hcv hcl => ?_) (fun v9 u_19 H locs hw hP hD hS => ?_)
          · exact hw.elim
          obtain ⟨r_18, rfl, rfl, hr_18, fr_r_18⟩ := hw
          have hP : va_P (dC, dI) vwCl (cW ad cid a2 lx sg gm lg) H := hP
          have hD : va_D A (cW ad cid a2 lx sg gm lg) := hD
          refine W.eq (g2 := F0 m 39 ls [eV (ad 9) r_18]) rfl ?_
          refine cl_cast hx hb hG hown (htb _ kw_788) hK hP hr_18 (by decide) dX1_lookupNamed_39 ?_
          exact W.nb (fun hN => W.widen (k := 1) (n := 6) (by decide) (by decide) (vx_ret (W.aret (v := eV (ad 9) r_18) hx hb hr (Or.inl ⟨_, rfl⟩) (eV_is _ _) (fun t ht hW => ⟨⟨some (eV (ad 9) r_18), (sg, gm, lg), rfl, ⟨r_18, rfl, rfl, (iv_w hr_18 (by decide)), ((by have q9 := lkL_h hlk (show (liL wg (3 * b.toNatClampNeg + 2))[x2_2.toNatClampNeg]? = some r_10.toNatClampNeg from (by rw [liL_g (by rw [sw9 hSW 41 rfl]; have q1 := congrArg Int32.toInt fr_r_2; rw [show q_1.toNatClampNeg = 3 * b.toNatClampNeg + 2 from nq_1] at q1; have q5 : (gm 41 (3 * b.toNatClampNeg + 2)).toNatClampNeg = (gm 41 (3 * b.toNatClampNeg + 2)).toInt.toNat := rfl; have q1 : x2_2.toNatClampNeg = x2_2.toInt.toNat := rfl; have := i32_0; have := i32_1; have := i32_2; have := i32_m1; have := (hsx0_2).1; have := (hsx0_2).2; have := (h_8).1; have := (h_8).2; have := (hq_1).1; have := (hq_1).2; have := (h_9).1; have := (h_9).2; have := (hr_10).1; have := (hr_10).2; have := (hz_13).1; have := (hz_13).2; have := (h_17).1; have := (h_17).2; have := (hr_18).1; have := (hr_18).2; omega), show wg 57 (128 * (3 * b.toNatClampNeg + 2) + x2_2.toNatClampNeg) = r_10 from (by rw [sw9 hSW 57 rfl, fr_r_10, show q_1.toNatClampNeg = 3 * b.toNatClampNeg + 2 from nq_1])])) (by rw [(swt9 hSW ez_13 rfl)]; have := i32_0; have := i32_1; have := i32_2; have := i32_m1; have := (hsx0_2).1; have := (hsx0_2).2; have := (h_8).1; have := (h_8).2; have := (hq_1).1; have := (hq_1).2; have := (h_9).1; have := (h_9).2; have := (hr_10).1; have := (hr_10).2; have := (hz_13).1; have := (hz_13).2; have := (h_17).1; have := (h_17).2; have := (hr_18).1; have := (hr_18).2; omega); rw [q9, cln9 (hr_10).1, fr_r_18, fr_r_10]))⟩, by rw [ht]; exact hP, va_K.moved hW.alike hK, hD⟩, hS.F ht, by rw [ht]; exact hN⟩) hS.2.2 dX1_lookupNamed_42)))
  refine lv_iconst (v := 0) hx hb dX1_lookupNamed_0 (by decide) ?_
  refine lv_istore_n (i := 2) (lv' := [(2, .int 0), (0, eV (ad 10) b), (1, .int nm)]) hx hb dX1_lookupNamed_1 rfl hl (by decide) rfl (fun ls hl => ?_)
  exact hj2 _ 0 rfl (iv_w (iv_k (by decide) : iv 0 0 0) (by decide)) hvb (rfl) _ _ _ hP hD hS (lv_sub hl [0, 1, 2] rfl)

set_option maxHeartbeats 4000000 in
set_option maxRecDepth 100000 in
theorem d_isObject9 (l : Launch) (dC : Nat → ClassId) (dI : Nat → Nat → Nat) (ad : Nat → Nat → Nat) (cid : Nat → ClassId) (a2 : Nat → Nat) (lx : List Nat) (sg : Nat → Int32) (gm : Nat → Nat → Int32) (lg : Nat → Nat → Int64) (x : Int32) (k : Int32) (hI : CI sg gm) (hvx : iv 0 0 x) : CMt dC dI ad cid a2 lx l yX5_isObject wm_X5_isObject ({ frames := 0, cells := 1, slots := 6, locals := 0 }) [eV (ad 6) x, .int k] sg gm lg (fun v u => ∃ r : Int32, v = some (.int r) ∧ u = (sg, gm, lg) ∧ (iv 0 1 r) ∧ (r.toInt = 0 ∨ iv 0 59 k) ∧ ((r.toInt = 1 ∧ 0 ≤ k.toInt ∧ k.toInt < (sg 14).toInt) ∨ (r.toInt = 0 ∧ ¬ (0 ≤ k.toInt ∧ k.toInt < (sg 14).toInt)))) (fun _ _ => False) := by
  intro sz
  refine vx_ofW (cc := cX5_isObject) (maxL := 2) (ret := (some .boolean)) (by decide) rfl ?_
  intro p e s m args below meth c s₁ B hml hxt hv
  obtain ⟨rfl, hsz, hP, hK, hD0, hG⟩ := hv
  have hx := B.exec
  have hb := B.bytes
  have hr := B.returns
  have hts := atoms_spec (ws := wm_X5_isObject) B.pre
  have htb := fun (w : Cond) (h : w ∈ tb) => hts w (List.mem_cons_of_mem _ h)
  have hown : s.vm.findClass RX5 = some m.cls := findClass_of_methodNamed B.named
  have hlocks := B.notSynchronized
  subst hsz
  have hD := hD0.self (sz := s.heap.size)
  generalize hAe : va_A (cW ad cid a2 lx sg gm lg) s.heap.size = A at hD hG ⊢
  have hA : ∀ q : Nat, s.heap.size ≤ q → A q := fun q h => by rw [← hAe]; exact Or.inr h
  have hS : va_S A s.heap s.heap [] := va_S.rf
  have hl := lv_entry ([eV (ad 6) x, .int k]) (n := 2) (by rw [show (lg_sl ([eV (ad 6) x, .int k])).length = 2 from by simp [lg_sl, eV_cat, cat_i, cat_l]]; exact Nat.le_of_ble_eq_true rfl)
  rw [lg_entry_eq]
  generalize (lg_sl ([eV (ad 6) x, .int k]) ++ List.replicate (2 - (lg_sl ([eV (ad 6) x, .int k])).length) Slot.unset).toArray = ls at hl ⊢
  have hl : lv_has ls 2 [(0, eV (ad 6) x), (1, .int k)] := by simp [lv_args, eV_cat, cat_i, cat_l] at hl; exact hl
  have hj17 : ∀ (y0_17 : Int32) (_ : iv 0 0 x) (_ : iv 0 1 y0_17) (_ : y0_17.toInt = 0 ∨ iv 0 59 k) (_ : (y0_17.toInt = 1 ∧ 0 ≤ k.toInt ∧ k.toInt < (sg 14).toInt) ∨ (y0_17.toInt = 0 ∧ ¬ (0 ≤ k.toInt ∧ k.toInt < (sg 14).toInt))) (H : Heap) (locs : List Loc) (ls : Array Slot), va_P (dC, dI) vwCl (cW ad cid a2 lx sg gm lg) H → va_D A (cW ad cid a2 lx sg gm lg) → va_S A s.heap H locs → lv_has ls 2 [(0, eV (ad 6) x), (1, .int k)] → W p l e (headSpec wm_X5_isObject ({ frames := 0, cells := 1, slots := 6, locals := 0 })).room s m ([eV (ad 6) x, .int k] : List Value).toArray below meth c H locs 0 0 (vx_MQ below (cQx dC dI ad cid a2 lx (fun v u => ∃ r : Int32, v = some (.int r) ∧ u = (sg, gm, lg) ∧ (iv 0 1 r) ∧ (r.toInt = 0 ∨ iv 0 59 k) ∧ ((r.toInt = 1 ∧ 0 ≤ k.toInt ∧ k.toInt < (sg 14).toInt) ∨ (r.toInt = 0 ∧ ¬ (0 ≤ k.toInt ∧ k.toInt < (sg 14).toInt)))) A) (cX dC dI ad cid a2 lx (fun _ _ => False) A) ([eV (ad 6) x, .int k] : List Value).toArray s 1 6 A) (F0 m 17 ls [.int y0_17]) := by
    intro y0_17 hsx0_17 hy0_17 ho hi H locs ls hP hD hS hl
    exact W.nb (fun hN => W.widen (k := 1) (n := 6) (by decide) (by decide) (vx_ret (W.zret (v := y0_17) hx hb hr (iv_nb hy0_17) (fun t ht hW => ⟨⟨some (.int y0_17), (sg, gm, lg), rfl, ⟨y0_17, rfl, rfl, hy0_17, (ho), (hi)⟩, by rw [ht]; exact hP, va_K.moved hW.alike hK, hD⟩, hS.F ht, by rw [ht]; exact hN⟩) hS.2.2 dX5_isObject_17)))
  have hj16 : ∀ (_ : iv 0 0 x) (_ : ¬ (0 ≤ k.toInt ∧ k.toInt < (sg 14).toInt)) (H : Heap) (locs : List Loc) (ls : Array Slot), va_P (dC, dI) vwCl (cW ad cid a2 lx sg gm lg) H → va_D A (cW ad cid a2 lx sg gm lg) → va_S A s.heap H locs → lv_has ls 2 [(0, eV (ad 6) x), (1, .int k)] → W p l e (headSpec wm_X5_isObject ({ frames := 0, cells := 1, slots := 6, locals := 0 })).room s m ([eV (ad 6) x, .int k] : List Value).toArray below meth c H locs 0 0 (vx_MQ below (cQx dC dI ad cid a2 lx (fun v u => ∃ r : Int32, v = some (.int r) ∧ u = (sg, gm, lg) ∧ (iv 0 1 r) ∧ (r.toInt = 0 ∨ iv 0 59 k) ∧ ((r.toInt = 1 ∧ 0 ≤ k.toInt ∧ k.toInt < (sg 14).toInt) ∨ (r.toInt = 0 ∧ ¬ (0 ≤ k.toInt ∧ k.toInt < (sg 14).toInt)))) A) (cX dC dI ad cid a2 lx (fun _ _ => False) A) ([eV (ad 6) x, .int k] : List Value).toArray s 1 6 A) (F0 m 16 ls []) := by
    intro  hsx0_16 u16 H locs ls hP hD hS hl
    refine lv_iconst (v := 0) hx hb dX5_isObject_16 (by decide) ?_
    exact hj17 0 hsx0_16 (iv_w (iv_k (by decide) : iv 0 0 0) (by decide)) (Or.inl rfl) (Or.inr ⟨rfl, u16⟩) _ _ _ hP hD hS (lv_sub hl [0, 1] rfl)
  refine lv_iload_n hx hb dX5_isObject_0 rfl (lv_at hl 1 rfl) ?_
  refine lv_if_lt (tgt := 16) hx hb dX5_isObject_1 (by decide) (fun c_1 => ?_) (fun c_1 => ?_)
  · have h_2 : iv (-2147483648) (-1) k := iv_ltL c_1 (iv_all k) (iv_k (by decide) : iv 0 0 0) (by decide)
    exact hj16 hvx ((by have := i32_0; have := i32_1; have := i32_2; have := i32_m1; have := (show iv 0 60 (sg 14) from CI_s hI 14).1; have := (show iv 0 60 (sg 14) from CI_s hI 14).2; have := (hvx).1; have := (hvx).2; have := (h_2).1; have := (h_2).2; omega)) _ _ _ hP hD hS (lv_sub hl [0, 1] rfl)
  · have h_3 : iv 0 2147483647 k := iv_leR (i32_ge c_1) (iv_k (by decide) : iv 0 0 0) (iv_all k) (by decide)
    refine lv_iload_n hx hb dX5_isObject_4 rfl (lv_at hl 1 rfl) ?_
    refine ec_aload_n hx hb dX5_isObject_5 rfl (lv_at hl 0 rfl) ?_
    refine cr_get (t := 6) (j := 5) (C := RX5) (T := TX5) (N := 13) (v := .int (sg 14)) hx hb htb inX5 hown hK hP hvx (by decide) (by decide) (by decide) rfl (by decide) (htb _ kw_316) rfl dX5_isObject_6 ?_
    refine lv_icmp_ge (tgt := 16) hx hb dX5_isObject_9 (by decide) (fun c_4 => ?_) (fun c_4 => ?_)
    · have d_5 : ((sg 14) : Int32).toInt ≤ (k : Int32).toInt := Int32.le_iff_toInt_le.mp c_4
      exact hj16 hvx ((by have := i32_0; have := i32_1; have := i32_2; have := i32_m1; have := (show iv 0 60 (sg 14) from CI_s hI 14).1; have := (show iv 0 60 (sg 14) from CI_s hI 14).2; have := (hvx).1; have := (hvx).2; have := (h_3).1; have := (h_3).2; have := ((show iv 0 60 (sg 14) from CI_s hI 14)).1; have := ((show iv 0 60 (sg 14) from CI_s hI 14)).2; omega)) _ _ _ hP hD hS (lv_sub hl [0, 1] rfl)
    · have d_6 : (k : Int32).toInt < ((sg 14) : Int32).toInt := Int32.lt_iff_toInt_lt.mp (i32_lt c_4)
      have h_7 : iv 0 59 k := iv_ltL (i32_lt c_4) h_3 (show iv 0 60 (sg 14) from CI_s hI 14) (by decide)
      have h_8 : iv 1 60 (sg 14) := iv_ltR (i32_lt c_4) h_3 (show iv 0 60 (sg 14) from CI_s hI 14) (by decide)
      refine lv_iconst (v := 1) hx hb dX5_isObject_12 (by decide) ?_
      refine lv_goto (tgt := 17) hx hb dX5_isObject_13 (by decide) ?_
      exact hj17 1 hvx (iv_w (iv_k (by decide) : iv 1 1 1) (by decide)) (Or.inr ⟨by have := i32_0; have := i32_1; have := i32_2; have := i32_m1; have := (show iv 0 60 (sg 14) from CI_s hI 14).1; have := (show iv 0 60 (sg 14) from CI_s hI 14).2; have := (hvx).1; have := (hvx).2; have := (h_7).1; have := (h_7).2; have := (h_8).1; have := (h_8).2; omega, by have := i32_0; have := i32_1; have := i32_2; have := i32_m1; have := (show iv 0 60 (sg 14) from CI_s hI 14).1; have := (show iv 0 60 (sg 14) from CI_s hI 14).2; have := (hvx).1; have := (hvx).2; have := (h_7).1; have := (h_7).2; have := (h_8).1; have := (h_8).2; omega⟩) (Or.inl ⟨rfl, by have := i32_0; have := i32_1; have := i32_2; have := i32_m1; have := (show iv 0 60 (sg 14) from CI_s hI 14).1; have := (show iv 0 60 (sg 14) from CI_s hI 14).2; have := (hvx).1; have := (hvx).2; have := (h_7).1; have := (h_7).2; have := (h_8).1; have := (h_8).2; omega, by have := i32_0; have := i32_1; have := i32_2; have := i32_m1; have := (show iv 0 60 (sg 14) from CI_s hI 14).1; have := (show iv 0 60 (sg 14) from CI_s hI 14).2; have := (hvx).1; have := (hvx).2; have := (h_7).1; have := (h_7).2; have := (h_8).1; have := (h_8).2; omega⟩) _ _ _ hP hD hS (lv_sub hl [0, 1] rfl)

set_option maxHeartbeats 4000000 in
set_option maxRecDepth 100000 in
theorem d_lookupOf9 (l : Launch) (dC : Nat → ClassId) (dI : Nat → Nat → Nat) (ad : Nat → Nat → Nat) (cid : Nat → ClassId) (a2 : Nat → Nat) (lx : List Nat) (sg : Nat → Int32) (gm : Nat → Nat → Int32) (lg : Nat → Nat → Int64) (x : Int32) (k : Int32) (nm : Int32) (wg : Nat → Nat → Int32) (S : S9) (hI : CI sg gm) (hvx : iv 0 0 x) (hLD : LDI lx gm) (hSW : st9 gm = wg) (hRC : RC wg lg S sg gm) : CMt dC dI ad cid a2 lx l yX5_lookupOf wm_X5_lookupOf ({ frames := 4, cells := 1, slots := 6, locals := 86 }) [eV (ad 6) x, .int k, .int nm] sg gm lg (fun v u => ∃ r : Int32, v = some (eV (ad 9) r) ∧ u = (sg, gm, lg) ∧ (iv (-1) 79 r) ∧ (r.toInt = zLk wg k.toInt nm.toInt S)) (fun _ _ => False) := by
  intro sz
  refine vx_ofW (cc := cX5_lookupOf) (maxL := 3) (ret := (some (.object "WiredBeans$Element"))) (by decide) rfl ?_
  intro p e s m args below meth c s₁ B hml hxt hv
  obtain ⟨rfl, hsz, hP, hK, hD0, hG⟩ := hv
  have hx := B.exec
  have hb := B.bytes
  have hr := B.returns
  have hts := atoms_spec (ws := wm_X5_lookupOf) B.pre
  have htb := fun (w : Cond) (h : w ∈ tb) => hts w (List.mem_cons_of_mem _ h)
  have hown : s.vm.findClass RX5 = some m.cls := findClass_of_methodNamed B.named
  have hlocks := B.notSynchronized
  subst hsz
  have hD := hD0.self (sz := s.heap.size)
  generalize hAe : va_A (cW ad cid a2 lx sg gm lg) s.heap.size = A at hD hG ⊢
  have hA : ∀ q : Nat, s.heap.size ≤ q → A q := fun q h => by rw [← hAe]; exact Or.inr h
  have hS : va_S A s.heap s.heap [] := va_S.rf
  have hl := lv_entry ([eV (ad 6) x, .int k, .int nm]) (n := 3) (by rw [show (lg_sl ([eV (ad 6) x, .int k, .int nm])).length = 3 from by simp [lg_sl, eV_cat, cat_i, cat_l]]; exact Nat.le_of_ble_eq_true rfl)
  rw [lg_entry_eq]
  generalize (lg_sl ([eV (ad 6) x, .int k, .int nm]) ++ List.replicate (3 - (lg_sl ([eV (ad 6) x, .int k, .int nm])).length) Slot.unset).toArray = ls at hl ⊢
  have hl : lv_has ls 3 [(0, eV (ad 6) x), (1, .int k), (2, .int nm)] := by simp [lv_args, eV_cat, cat_i, cat_l] at hl; exact hl
  refine ec_aload_n hx hb dX5_lookupOf_0 rfl (lv_at hl 0 rfl) ?_
  refine lv_iload_n hx hb dX5_lookupOf_1 rfl (lv_at hl 1 rfl) ?_
  refine cm_callV (t := 6) (C := RX5) (T := TX5) (N := 13) (rest := []) (as := [.int k]) ⟨hx, hb, hml, hown, htb⟩ (d_isObject9 l dC dI ad cid a2 lx sg gm lg x k hI hvx) (cwV 1 htb (gd_V kw_1291 kw_1292 kw_1293 kw_40 kw_1645) rfl rfl rfl (by decide +kernel) ⟨Nat.le_of_ble_eq_true rfl, Nat.le_of_ble_eq_true rfl⟩) hvx (by decide) (by decide) rfl rfl hl.1 rfl (Nat.le_trans cs_n (by decide)) dX5_lookupOf_2 ⟨Nat.le_of_ble_eq_true rfl, Nat.le_of_ble_eq_true rfl⟩ hK hP hD hS hA hG (fun E ce q9 u_2 H locs hw hP hD hS hce hcv hcl => ?_) (fun v9 u_2 H locs hw hP hD hS => ?_)
  · exact hw.elim
  obtain ⟨r_1, rfl, rfl, hr_1, fo_r_1, fi_r_1⟩ := hw
  have hP : va_P (dC, dI) vwCl (cW ad cid a2 lx sg gm lg) H := hP
  have hD : va_D A (cW ad cid a2 lx sg gm lg) := hD
  refine W.eq (g2 := F0 m 5 ls [.int r_1]) rfl ?_
  refine lv_if_eq (tgt := 28) hx hb dX5_lookupOf_5 (by decide) (fun c_4 => ?_) (fun c_4 => ?_)
  · have h_5 : iv 0 0 r_1 := iv_eq c_4 hr_1 (iv_k (by decide) : iv 0 0 0) (by decide)
    refine ec_null (a := ad 9) hx hb dX5_lookupOf_28 ?_
    exact W.nb (fun hN => W.widen (k := 1) (n := 6) (by decide) (by decide) (vx_ret (W.aret (v := eV (ad 9) (-1)) hx hb hr (Or.inl ⟨_, rfl⟩) (eV_is _ _) (fun t ht hW => ⟨⟨some (eV (ad 9) (-1)), (sg, gm, lg), rfl, ⟨(-1), rfl, rfl, (iv_w (iv_k (by decide) : iv (-1) (-1) (-1)) (by decide)), ((by rw [zLk_n hRC (fi_r_1.resolve_left (fun q8 => absurd q8.1 (by have := i32_0; have := i32_1; have := i32_2; have := i32_m1; have := (hvx).1; have := (hvx).2; have := (h_5).1; have := (h_5).2; omega))).2]; rfl))⟩, by rw [ht]; exact hP, va_K.moved hW.alike hK, hD⟩, hS.F ht, by rw [ht]; exact hN⟩) hS.2.2 dX5_lookupOf_29)))
  · have h_6 : iv 1 1 r_1 := iv_neL c_4 hr_1 (by decide)
    have h59 := fo_r_1.resolve_left (by have := i32_0; have := i32_1; have := i32_2; have := i32_m1; have := (hvx).1; have := (hvx).2; have := (h_6).1; have := (h_6).2; omega)
    refine ec_aload_n hx hb dX5_lookupOf_8 rfl (lv_at hl 0 rfl) ?_
    refine cr_get (t := 6) (j := 0) (C := RX5) (T := TX5) (N := 13) (v := eV (ad 4) 0) hx hb htb inX5 hown hK hP hvx (by decide) (by decide) (by decide) rfl (by decide) (htb _ kw_121) (cV_c rfl (by decide) (by rw [show cMu 6 0 = 0 from rfl, Nat.zero_mul]; rfl)) dX5_lookupOf_9 ?_
    refine ec_aload_n hx hb dX5_lookupOf_12 rfl (lv_at hl 0 rfl) ?_
    refine cr_get (t := 6) (j := 4) (C := RX5) (T := TX5) (N := 13) (v := eV (ad 23) 0) hx hb htb inX5 hown hK hP hvx (by decide) (by decide) (by decide) rfl (by decide) (htb _ kw_125) (cV_c rfl (by decide) (by rw [show cMu 6 4 = 0 from rfl, Nat.zero_mul]; rfl)) dX5_lookupOf_13 ?_
    refine lv_iload_n hx hb dX5_lookupOf_16 rfl (lv_at hl 1 rfl) ?_
    refine cr_iald (t := 23) (z := (gm 50 (k : Int32).toNatClampNeg)) hx hb hK hP (iv_k (by decide) : iv 0 0 0) (by decide) (by decide) (by decide) rfl rfl (show vp_in k (cLen 23) from (show vp_in k 60 from (iv_in h59 (by decide)))) rfl dX5_lookupOf_17 ?_
    obtain ⟨z_7, ez_7⟩ : ∃ z : Int32, z = (gm 50 (k : Int32).toNatClampNeg) := ⟨_, rfl⟩
    refine W.eq (g2 := F0 m 18 ls [.int z_7, eV (ad 4) 0]) (by rw [ez_7]) ?_
    have hz_7 : iv 0 79 z_7 := iv_of ez_7 (CI_a hI 50 h59 (by decide))
    refine cm_callV (t := 4) (C := RX10) (T := TX10) (N := 4) (rest := []) (as := [.int z_7]) ⟨hx, hb, hml, hown, htb⟩ (d_numbered l dC dI ad cid a2 lx sg gm lg 0 z_7 hI (iv_k (by decide) : iv 0 0 0) hz_7) (cwV 1 htb (gd_V kw_326 kw_327 kw_328 kw_32 kw_1414) rfl rfl rfl (by decide +kernel) ⟨Nat.le_of_ble_eq_true rfl, Nat.le_of_ble_eq_true rfl⟩) (iv_k (by decide) : iv 0 0 0) (by decide) (by decide) rfl rfl hl.1 rfl (Nat.le_trans cs_n (by decide)) dX5_lookupOf_18 ⟨Nat.le_of_ble_eq_true rfl, Nat.le_of_ble_eq_true rfl⟩ hK hP hD hS hA hG (fun E ce q9 u_9 H locs hw hP hD hS hce hcv hcl => ?_) (fun v9 u_9 H locs hw hP hD hS => ?_)
    · exact hw.elim
    obtain ⟨r_8, rfl, rfl, hr_8, fr_r_8⟩ := hw
    have hP : va_P (dC, dI) vwCl (cW ad cid a2 lx sg gm lg) H := hP
    have hD : va_D A (cW ad cid a2 lx sg gm lg) := hD
    refine W.eq (g2 := F0 m 21 ls [eV (ad 10) r_8]) rfl ?_
    refine lv_iload_n hx hb dX5_lookupOf_21 rfl (lv_at hl 2 rfl) ?_
    refine cm_callV (t := 10) (C := RX1) (T := TX1) (N := 19) (rest := []) (as := [.int nm]) ⟨hx, hb, hml, hown, htb⟩ (d_lookupNamed9 l dC dI ad cid a2 lx sg gm lg r_8 nm wg hI hr_8 hLD hSW) (cwV 1 htb (gd_V kw_1294 kw_1295 kw_1296 kw_90 kw_1646) rfl rfl rfl (by decide +kernel) ⟨Nat.le_of_ble_eq_true rfl, Nat.le_of_ble_eq_true rfl⟩) hr_8 (by decide) (by decide) rfl rfl hl.1 rfl (Nat.le_trans cs_n (by decide)) dX5_lookupOf_22 ⟨Nat.le_of_ble_eq_true rfl, Nat.le_of_ble_eq_true rfl⟩ hK hP hD hS hA hG (fun E ce q9 u_12 H locs hw hP hD hS hce hcv hcl => ?_) (fun v9 u_12 H locs hw hP hD hS => ?_)
    · exact hw.elim
    obtain ⟨r_11, rfl, rfl, hr_11, fL_r_11⟩ := hw
    have hP : va_P (dC, dI) vwCl (cW ad cid a2 lx sg gm lg) H := hP
    have hD : va_D A (cW ad cid a2 lx sg gm lg) := hD
    refine W.eq (g2 := F0 m 25 ls [eV (ad 9) r_11]) rfl ?_
    refine lv_goto (tgt := 29) hx hb dX5_lookupOf_25 (by decide) ?_
    exact W.nb (fun hN => W.widen (k := 1) (n := 6) (by decide) (by decide) (vx_ret (W.aret (v := eV (ad 9) r_11) hx hb hr (Or.inl ⟨_, rfl⟩) (eV_is _ _) (fun t ht hW => ⟨⟨some (eV (ad 9) r_11), (sg, gm, lg), rfl, ⟨r_11, rfl, rfl, hr_11, ((by rw [zLk_y hRC (fi_r_1.resolve_right (fun q8 => absurd q8.1 (by have := i32_0; have := i32_1; have := i32_2; have := i32_m1; have := (hvx).1; have := (hvx).2; have := (h_6).1; have := (h_6).2; have := (h59).1; have := (h59).2; have := (hz_7).1; have := (hz_7).2; have := (hr_8).1; have := (hr_8).2; have := (hr_11).1; have := (hr_11).2; omega))).2.1 (fi_r_1.resolve_right (fun q8 => absurd q8.1 (by have := i32_0; have := i32_1; have := i32_2; have := i32_m1; have := (hvx).1; have := (hvx).2; have := (h_6).1; have := (h_6).2; have := (h59).1; have := (h59).2; have := (hz_7).1; have := (hz_7).2; have := (hr_8).1; have := (hr_8).2; have := (hr_11).1; have := (hr_11).2; omega))).2.2, ← ez_7]; have q9 := fL_r_11; rw [fr_r_8] at q9; exact q9))⟩, by rw [ht]; exact hP, va_K.moved hW.alike hK, hD⟩, hS.F ht, by rw [ht]; exact hN⟩) hS.2.2 dX5_lookupOf_29)))

set_option maxHeartbeats 4000000 in
set_option maxRecDepth 100000 in
theorem d_classOfObject9 (l : Launch) (dC : Nat → ClassId) (dI : Nat → Nat → Nat) (ad : Nat → Nat → Nat) (cid : Nat → ClassId) (a2 : Nat → Nat) (lx : List Nat) (sg : Nat → Int32) (gm : Nat → Nat → Int32) (lg : Nat → Nat → Int64) (x : Int32) (k : Int32) (wg : Nat → Nat → Int32) (S : S9) (hI : CI sg gm) (hvx : iv 0 0 x) (hRC : RC wg lg S sg gm) : CMt dC dI ad cid a2 lx l yX5_classOfObject wm_X5_classOfObject ({ frames := 1, cells := 1, slots := 6, locals := 21 }) [eV (ad 6) x, .int k] sg gm lg (fun v u => ∃ r : Int32, v = some (.int r) ∧ u = (sg, gm, lg) ∧ (iv (-1) 7 r) ∧ (r.toInt = zOb k.toInt 0 S)) (fun _ _ => False) := by
  intro sz
  refine vx_ofW (cc := cX5_classOfObject) (maxL := 2) (ret := (some .int)) (by decide) rfl ?_
  intro p e s m args below meth c s₁ B hml hxt hv
  obtain ⟨rfl, hsz, hP, hK, hD0, hG⟩ := hv
  have hx := B.exec
  have hb := B.bytes
  have hr := B.returns
  have hts := atoms_spec (ws := wm_X5_classOfObject) B.pre
  have htb := fun (w : Cond) (h : w ∈ tb) => hts w (List.mem_cons_of_mem _ h)
  have hown : s.vm.findClass RX5 = some m.cls := findClass_of_methodNamed B.named
  have hlocks := B.notSynchronized
  subst hsz
  have hD := hD0.self (sz := s.heap.size)
  generalize hAe : va_A (cW ad cid a2 lx sg gm lg) s.heap.size = A at hD hG ⊢
  have hA : ∀ q : Nat, s.heap.size ≤ q → A q := fun q h => by rw [← hAe]; exact Or.inr h
  have hS : va_S A s.heap s.heap [] := va_S.rf
  have hl := lv_entry ([eV (ad 6) x, .int k]) (n := 2) (by rw [show (lg_sl ([eV (ad 6) x, .int k])).length = 2 from by simp [lg_sl, eV_cat, cat_i, cat_l]]; exact Nat.le_of_ble_eq_true rfl)
  rw [lg_entry_eq]
  generalize (lg_sl ([eV (ad 6) x, .int k]) ++ List.replicate (2 - (lg_sl ([eV (ad 6) x, .int k])).length) Slot.unset).toArray = ls at hl ⊢
  have hl : lv_has ls 2 [(0, eV (ad 6) x), (1, .int k)] := by simp [lv_args, eV_cat, cat_i, cat_l] at hl; exact hl
  refine ec_aload_n hx hb dX5_classOfObject_0 rfl (lv_at hl 0 rfl) ?_
  refine lv_iload_n hx hb dX5_classOfObject_1 rfl (lv_at hl 1 rfl) ?_
  refine cm_callV (t := 6) (C := RX5) (T := TX5) (N := 13) (rest := []) (as := [.int k]) ⟨hx, hb, hml, hown, htb⟩ (d_isObject9 l dC dI ad cid a2 lx sg gm lg x k hI hvx) (cwV 1 htb (gd_V kw_1291 kw_1292 kw_1293 kw_40 kw_1645) rfl rfl rfl (by decide +kernel) ⟨Nat.le_of_ble_eq_true rfl, Nat.le_of_ble_eq_true rfl⟩) hvx (by decide) (by decide) rfl rfl hl.1 rfl (Nat.le_trans cs_n (by decide)) dX5_classOfObject_2 ⟨Nat.le_of_ble_eq_true rfl, Nat.le_of_ble_eq_true rfl⟩ hK hP hD hS hA hG (fun E ce q9 u_2 H locs hw hP hD hS hce hcv hcl => ?_) (fun v9 u_2 H locs hw hP hD hS => ?_)
  · exact hw.elim
  obtain ⟨r_1, rfl, rfl, hr_1, fo_r_1, fi_r_1⟩ := hw
  have hP : va_P (dC, dI) vwCl (cW ad cid a2 lx sg gm lg) H := hP
  have hD : va_D A (cW ad cid a2 lx sg gm lg) := hD
  refine W.eq (g2 := F0 m 5 ls [.int r_1]) rfl ?_
  refine lv_if_eq (tgt := 17) hx hb dX5_classOfObject_5 (by decide) (fun c_4 => ?_) (fun c_4 => ?_)
  · have h_5 : iv 0 0 r_1 := iv_eq c_4 hr_1 (iv_k (by decide) : iv 0 0 0) (by decide)
    refine lv_iconst (v := (-1)) hx hb dX5_classOfObject_17 (by decide) ?_
    exact W.nb (fun hN => W.widen (k := 1) (n := 6) (by decide) (by decide) (vx_ret (W.iret (v := (-1)) hx hb hr (fun t ht hW => ⟨⟨some (.int (-1)), (sg, gm, lg), rfl, ⟨(-1), rfl, rfl, (iv_w (iv_k (by decide) : iv (-1) (-1) (-1)) (by decide)), ((by rw [zOb_n hRC (fi_r_1.resolve_left (fun q8 => absurd q8.1 (by have := i32_0; have := i32_1; have := i32_2; have := i32_m1; have := (hvx).1; have := (hvx).2; have := (h_5).1; have := (h_5).2; omega))).2]; rfl))⟩, by rw [ht]; exact hP, va_K.moved hW.alike hK, hD⟩, hS.F ht, by rw [ht]; exact hN⟩) hS.2.2 dX5_classOfObject_18)))
  · have h_6 : iv 1 1 r_1 := iv_neL c_4 hr_1 (by decide)
    have h59 := fo_r_1.resolve_left (by have := i32_0; have := i32_1; have := i32_2; have := i32_m1; have := (hvx).1; have := (hvx).2; have := (h_6).1; have := (h_6).2; omega)
    refine ec_aload_n hx hb dX5_classOfObject_8 rfl (lv_at hl 0 rfl) ?_
    refine cr_get (t := 6) (j := 3) (C := RX5) (T := TX5) (N := 13) (v := eV (ad 22) 0) hx hb htb inX5 hown hK hP hvx (by decide) (by decide) (by decide) rfl (by decide) (htb _ kw_124) (cV_c rfl (by decide) (by rw [show cMu 6 3 = 0 from rfl, Nat.zero_mul]; rfl)) dX5_classOfObject_9 ?_
    refine lv_iload_n hx hb dX5_classOfObject_12 rfl (lv_at hl 1 rfl) ?_
    refine cr_iald (t := 22) (z := (gm 49 (k : Int32).toNatClampNeg)) hx hb hK hP (iv_k (by decide) : iv 0 0 0) (by decide) (by decide) (by decide) rfl rfl (show vp_in k (cLen 22) from (show vp_in k 60 from (iv_in h59 (by decide)))) rfl dX5_classOfObject_13 ?_
    obtain ⟨z_7, ez_7⟩ : ∃ z : Int32, z = (gm 49 (k : Int32).toNatClampNeg) := ⟨_, rfl⟩
    refine W.eq (g2 := F0 m 14 ls [.int z_7]) (by rw [ez_7]) ?_
    have hz_7 : iv 0 7 z_7 := iv_of ez_7 (CI_a hI 49 h59 (by decide))
    refine lv_goto (tgt := 18) hx hb dX5_classOfObject_14 (by decide) ?_
    exact W.nb (fun hN => W.widen (k := 1) (n := 6) (by decide) (by decide) (vx_ret (W.iret (v := z_7) hx hb hr (fun t ht hW => ⟨⟨some (.int z_7), (sg, gm, lg), rfl, ⟨z_7, rfl, rfl, (iv_w hz_7 (by decide)), ((by rw [zOb_y hRC (fi_r_1.resolve_right (fun q8 => absurd q8.1 (by have := i32_0; have := i32_1; have := i32_2; have := i32_m1; have := (hvx).1; have := (hvx).2; have := (h_6).1; have := (h_6).2; have := (h59).1; have := (h59).2; have := (hz_7).1; have := (hz_7).2; omega))).2.1 (fi_r_1.resolve_right (fun q8 => absurd q8.1 (by have := i32_0; have := i32_1; have := i32_2; have := i32_m1; have := (hvx).1; have := (hvx).2; have := (h_6).1; have := (h_6).2; have := (h59).1; have := (h59).2; have := (hz_7).1; have := (hz_7).2; omega))).2.2]; rw [if_pos rfl, ← ez_7]))⟩, by rw [ht]; exact hP, va_K.moved hW.alike hK, hD⟩, hS.F ht, by rw [ht]; exact hN⟩) hS.2.2 dX5_classOfObject_18)))

set_option maxHeartbeats 4000000 in
set_option maxRecDepth 100000 in
theorem d_beanOfObject9 (l : Launch) (dC : Nat → ClassId) (dI : Nat → Nat → Nat) (ad : Nat → Nat → Nat) (cid : Nat → ClassId) (a2 : Nat → Nat) (lx : List Nat) (sg : Nat → Int32) (gm : Nat → Nat → Int32) (lg : Nat → Nat → Int64) (x : Int32) (k : Int32) (wg : Nat → Nat → Int32) (S : S9) (hI : CI sg gm) (hvx : iv 0 0 x) (hRC : RC wg lg S sg gm) : CMt dC dI ad cid a2 lx l yX5_beanOfObject wm_X5_beanOfObject ({ frames := 1, cells := 1, slots := 6, locals := 21 }) [eV (ad 6) x, .int k] sg gm lg (fun v u => ∃ r : Int32, v = some (.int r) ∧ u = (sg, gm, lg) ∧ (iv (-1) 79 r) ∧ (r.toInt = zOb k.toInt 1 S)) (fun _ _ => False) := by
  intro sz
  refine vx_ofW (cc := cX5_beanOfObject) (maxL := 2) (ret := (some .int)) (by decide) rfl ?_
  intro p e s m args below meth c s₁ B hml hxt hv
  obtain ⟨rfl, hsz, hP, hK, hD0, hG⟩ := hv
  have hx := B.exec
  have hb := B.bytes
  have hr := B.returns
  have hts := atoms_spec (ws := wm_X5_beanOfObject) B.pre
  have htb := fun (w : Cond) (h : w ∈ tb) => hts w (List.mem_cons_of_mem _ h)
  have hown : s.vm.findClass RX5 = some m.cls := findClass_of_methodNamed B.named
  have hlocks := B.notSynchronized
  subst hsz
  have hD := hD0.self (sz := s.heap.size)
  generalize hAe : va_A (cW ad cid a2 lx sg gm lg) s.heap.size = A at hD hG ⊢
  have hA : ∀ q : Nat, s.heap.size ≤ q → A q := fun q h => by rw [← hAe]; exact Or.inr h
  have hS : va_S A s.heap s.heap [] := va_S.rf
  have hl := lv_entry ([eV (ad 6) x, .int k]) (n := 2) (by rw [show (lg_sl ([eV (ad 6) x, .int k])).length = 2 from by simp [lg_sl, eV_cat, cat_i, cat_l]]; exact Nat.le_of_ble_eq_true rfl)
  rw [lg_entry_eq]
  generalize (lg_sl ([eV (ad 6) x, .int k]) ++ List.replicate (2 - (lg_sl ([eV (ad 6) x, .int k])).length) Slot.unset).toArray = ls at hl ⊢
  have hl : lv_has ls 2 [(0, eV (ad 6) x), (1, .int k)] := by simp [lv_args, eV_cat, cat_i, cat_l] at hl; exact hl
  refine ec_aload_n hx hb dX5_beanOfObject_0 rfl (lv_at hl 0 rfl) ?_
  refine lv_iload_n hx hb dX5_beanOfObject_1 rfl (lv_at hl 1 rfl) ?_
  refine cm_callV (t := 6) (C := RX5) (T := TX5) (N := 13) (rest := []) (as := [.int k]) ⟨hx, hb, hml, hown, htb⟩ (d_isObject9 l dC dI ad cid a2 lx sg gm lg x k hI hvx) (cwV 1 htb (gd_V kw_1291 kw_1292 kw_1293 kw_40 kw_1645) rfl rfl rfl (by decide +kernel) ⟨Nat.le_of_ble_eq_true rfl, Nat.le_of_ble_eq_true rfl⟩) hvx (by decide) (by decide) rfl rfl hl.1 rfl (Nat.le_trans cs_n (by decide)) dX5_beanOfObject_2 ⟨Nat.le_of_ble_eq_true rfl, Nat.le_of_ble_eq_true rfl⟩ hK hP hD hS hA hG (fun E ce q9 u_2 H locs hw hP hD hS hce hcv hcl => ?_) (fun v9 u_2 H locs hw hP hD hS => ?_)
  · exact hw.elim
  obtain ⟨r_1, rfl, rfl, hr_1, fo_r_1, fi_r_1⟩ := hw
  have hP : va_P (dC, dI) vwCl (cW ad cid a2 lx sg gm lg) H := hP
  have hD : va_D A (cW ad cid a2 lx sg gm lg) := hD
  refine W.eq (g2 := F0 m 5 ls [.int r_1]) rfl ?_
  refine lv_if_eq (tgt := 17) hx hb dX5_beanOfObject_5 (by decide) (fun c_4 => ?_) (fun c_4 => ?_)
  · have h_5 : iv 0 0 r_1 := iv_eq c_4 hr_1 (iv_k (by decide) : iv 0 0 0) (by decide)
    refine lv_iconst (v := (-1)) hx hb dX5_beanOfObject_17 (by decide) ?_
    exact W.nb (fun hN => W.widen (k := 1) (n := 6) (by decide) (by decide) (vx_ret (W.iret (v := (-1)) hx hb hr (fun t ht hW => ⟨⟨some (.int (-1)), (sg, gm, lg), rfl, ⟨(-1), rfl, rfl, (iv_w (iv_k (by decide) : iv (-1) (-1) (-1)) (by decide)), ((by rw [zOb_n hRC (fi_r_1.resolve_left (fun q8 => absurd q8.1 (by have := i32_0; have := i32_1; have := i32_2; have := i32_m1; have := (hvx).1; have := (hvx).2; have := (h_5).1; have := (h_5).2; omega))).2]; rfl))⟩, by rw [ht]; exact hP, va_K.moved hW.alike hK, hD⟩, hS.F ht, by rw [ht]; exact hN⟩) hS.2.2 dX5_beanOfObject_18)))
  · have h_6 : iv 1 1 r_1 := iv_neL c_4 hr_1 (by decide)
    have h59 := fo_r_1.resolve_left (by have := i32_0; have := i32_1; have := i32_2; have := i32_m1; have := (hvx).1; have := (hvx).2; have := (h_6).1; have := (h_6).2; omega)
    refine ec_aload_n hx hb dX5_beanOfObject_8 rfl (lv_at hl 0 rfl) ?_
    refine cr_get (t := 6) (j := 4) (C := RX5) (T := TX5) (N := 13) (v := eV (ad 23) 0) hx hb htb inX5 hown hK hP hvx (by decide) (by decide) (by decide) rfl (by decide) (htb _ kw_125) (cV_c rfl (by decide) (by rw [show cMu 6 4 = 0 from rfl, Nat.zero_mul]; rfl)) dX5_beanOfObject_9 ?_
    refine lv_iload_n hx hb dX5_beanOfObject_12 rfl (lv_at hl 1 rfl) ?_
    refine cr_iald (t := 23) (z := (gm 50 (k : Int32).toNatClampNeg)) hx hb hK hP (iv_k (by decide) : iv 0 0 0) (by decide) (by decide) (by decide) rfl rfl (show vp_in k (cLen 23) from (show vp_in k 60 from (iv_in h59 (by decide)))) rfl dX5_beanOfObject_13 ?_
    obtain ⟨z_7, ez_7⟩ : ∃ z : Int32, z = (gm 50 (k : Int32).toNatClampNeg) := ⟨_, rfl⟩
    refine W.eq (g2 := F0 m 14 ls [.int z_7]) (by rw [ez_7]) ?_
    have hz_7 : iv 0 79 z_7 := iv_of ez_7 (CI_a hI 50 h59 (by decide))
    refine lv_goto (tgt := 18) hx hb dX5_beanOfObject_14 (by decide) ?_
    exact W.nb (fun hN => W.widen (k := 1) (n := 6) (by decide) (by decide) (vx_ret (W.iret (v := z_7) hx hb hr (fun t ht hW => ⟨⟨some (.int z_7), (sg, gm, lg), rfl, ⟨z_7, rfl, rfl, (iv_w hz_7 (by decide)), ((by rw [zOb_y hRC (fi_r_1.resolve_right (fun q8 => absurd q8.1 (by have := i32_0; have := i32_1; have := i32_2; have := i32_m1; have := (hvx).1; have := (hvx).2; have := (h_6).1; have := (h_6).2; have := (h59).1; have := (h59).2; have := (hz_7).1; have := (hz_7).2; omega))).2.1 (fi_r_1.resolve_right (fun q8 => absurd q8.1 (by have := i32_0; have := i32_1; have := i32_2; have := i32_m1; have := (hvx).1; have := (hvx).2; have := (h_6).1; have := (h_6).2; have := (h59).1; have := (h59).2; have := (hz_7).1; have := (hz_7).2; omega))).2.2]; rw [if_neg (by decide), if_pos rfl, ← ez_7]))⟩, by rw [ht]; exact hP, va_K.moved hW.alike hK, hD⟩, hS.F ht, by rw [ht]; exact hN⟩) hS.2.2 dX5_beanOfObject_18)))

set_option maxHeartbeats 4000000 in
set_option maxRecDepth 100000 in
theorem d_numberEv9 (l : Launch) (dC : Nat → ClassId) (dI : Nat → Nat → Nat) (ad : Nat → Nat → Nat) (cid : Nat → ClassId) (a2 : Nat → Nat) (lx : List Nat) (sg : Nat → Int32) (gm : Nat → Nat → Int32) (lg : Nat → Nat → Int64) (x : Int32) (a : Int32) (b : Int32) (wg : Nat → Nat → Int32) (S : S9) (hI : CI sg gm) (hvx : iv 0 0 x) (hRC : RC wg lg S sg gm) : CMt dC dI ad cid a2 lx l yX4_number wm_X4_number ({ frames := 0, cells := 1, slots := 6, locals := 0 }) [eV (ad 5) x, .int a, .int b] sg gm lg (fun v u => ∃ r : Int32, v = some (.int r) ∧ u = (sg, gm, lg) ∧ (r.toInt = zEv a.toInt b.toInt S)) (fun _ _ => False) := by
  intro sz
  refine vx_ofW (cc := cX4_number) (maxL := 3) (ret := (some .int)) (by decide) rfl ?_
  intro p e s m args below meth c s₁ B hml hxt hv
  obtain ⟨rfl, hsz, hP, hK, hD0, hG⟩ := hv
  have hx := B.exec
  have hb := B.bytes
  have hr := B.returns
  have hts := atoms_spec (ws := wm_X4_number) B.pre
  have htb := fun (w : Cond) (h : w ∈ tb) => hts w (List.mem_cons_of_mem _ h)
  have hown : s.vm.findClass RX4 = some m.cls := findClass_of_methodNamed B.named
  have hlocks := B.notSynchronized
  subst hsz
  have hD := hD0.self (sz := s.heap.size)
  generalize hAe : va_A (cW ad cid a2 lx sg gm lg) s.heap.size = A at hD hG ⊢
  have hA : ∀ q : Nat, s.heap.size ≤ q → A q := fun q h => by rw [← hAe]; exact Or.inr h
  have hS : va_S A s.heap s.heap [] := va_S.rf
  have hl := lv_entry ([eV (ad 5) x, .int a, .int b]) (n := 3) (by rw [show (lg_sl ([eV (ad 5) x, .int a, .int b])).length = 3 from by simp [lg_sl, eV_cat, cat_i, cat_l]]; exact Nat.le_of_ble_eq_true rfl)
  rw [lg_entry_eq]
  generalize (lg_sl ([eV (ad 5) x, .int a, .int b]) ++ List.replicate (3 - (lg_sl ([eV (ad 5) x, .int a, .int b])).length) Slot.unset).toArray = ls at hl ⊢
  have hl : lv_has ls 3 [(0, eV (ad 5) x), (1, .int a), (2, .int b)] := by simp [lv_args, eV_cat, cat_i, cat_l] at hl; exact hl
  have hj34 : ∀ (_ : iv 0 0 x) (_ : ¬ (0 ≤ a.toInt ∧ a.toInt < (sg 13).toInt ∧ 0 ≤ b.toInt ∧ b.toInt < 4)) (H : Heap) (locs : List Loc) (ls : Array Slot), va_P (dC, dI) vwCl (cW ad cid a2 lx sg gm lg) H → va_D A (cW ad cid a2 lx sg gm lg) → va_S A s.heap H locs → lv_has ls 3 [(0, eV (ad 5) x), (1, .int a), (2, .int b)] → W p l e (headSpec wm_X4_number ({ frames := 0, cells := 1, slots := 6, locals := 0 })).room s m ([eV (ad 5) x, .int a, .int b] : List Value).toArray below meth c H locs 0 0 (vx_MQ below (cQx dC dI ad cid a2 lx (fun v u => ∃ r : Int32, v = some (.int r) ∧ u = (sg, gm, lg) ∧ (r.toInt = zEv a.toInt b.toInt S)) A) (cX dC dI ad cid a2 lx (fun _ _ => False) A) ([eV (ad 5) x, .int a, .int b] : List Value).toArray s 1 6 A) (F0 m 34 ls []) := by
    intro  hsx0_34 u34 H locs ls hP hD hS hl
    refine lv_iconst (v := (-1)) hx hb dX4_number_34 (by decide) ?_
    exact W.nb (fun hN => W.widen (k := 1) (n := 6) (by decide) (by decide) (vx_ret (W.iret (v := (-1)) hx hb hr (fun t ht hW => ⟨⟨some (.int (-1)), (sg, gm, lg), rfl, ⟨(-1), rfl, rfl, ((by rw [zEv_n hRC u34]; rfl))⟩, by rw [ht]; exact hP, va_K.moved hW.alike hK, hD⟩, hS.F ht, by rw [ht]; exact hN⟩) hS.2.2 dX4_number_35)))
  refine lv_iload_n hx hb dX4_number_0 rfl (lv_at hl 1 rfl) ?_
  refine lv_if_lt (tgt := 34) hx hb dX4_number_1 (by decide) (fun c_1 => ?_) (fun c_1 => ?_)
  · have h_2 : iv (-2147483648) (-1) a := iv_ltL c_1 (iv_all a) (iv_k (by decide) : iv 0 0 0) (by decide)
    exact hj34 hvx ((by have := i32_0; have := i32_1; have := i32_2; have := i32_m1; have := (show iv 0 400 (sg 13) from CI_s hI 13).1; have := (show iv 0 400 (sg 13) from CI_s hI 13).2; have := (hvx).1; have := (hvx).2; have := (h_2).1; have := (h_2).2; omega)) _ _ _ hP hD hS (lv_sub hl [0, 1, 2] rfl)
  · have h_3 : iv 0 2147483647 a := iv_leR (i32_ge c_1) (iv_k (by decide) : iv 0 0 0) (iv_all a) (by decide)
    refine lv_iload_n hx hb dX4_number_4 rfl (lv_at hl 1 rfl) ?_
    refine ec_aload_n hx hb dX4_number_5 rfl (lv_at hl 0 rfl) ?_
    refine cr_get (t := 5) (j := 1) (C := RX4) (T := TX4) (N := 2) (v := .int (sg 13)) hx hb htb inX4 hown hK hP hvx (by decide) (by decide) (by decide) rfl (by decide) (htb _ kw_332) rfl dX4_number_6 ?_
    refine lv_icmp_ge (tgt := 34) hx hb dX4_number_9 (by decide) (fun c_4 => ?_) (fun c_4 => ?_)
    · have d_5 : ((sg 13) : Int32).toInt ≤ (a : Int32).toInt := Int32.le_iff_toInt_le.mp c_4
      exact hj34 hvx ((by have := i32_0; have := i32_1; have := i32_2; have := i32_m1; have := (show iv 0 400 (sg 13) from CI_s hI 13).1; have := (show iv 0 400 (sg 13) from CI_s hI 13).2; have := (hvx).1; have := (hvx).2; have := (h_3).1; have := (h_3).2; have := ((show iv 0 400 (sg 13) from CI_s hI 13)).1; have := ((show iv 0 400 (sg 13) from CI_s hI 13)).2; omega)) _ _ _ hP hD hS (lv_sub hl [0, 1, 2] rfl)
    · have d_6 : (a : Int32).toInt < ((sg 13) : Int32).toInt := Int32.lt_iff_toInt_lt.mp (i32_lt c_4)
      have h_7 : iv 0 399 a := iv_ltL (i32_lt c_4) h_3 (show iv 0 400 (sg 13) from CI_s hI 13) (by decide)
      have h_8 : iv 1 400 (sg 13) := iv_ltR (i32_lt c_4) h_3 (show iv 0 400 (sg 13) from CI_s hI 13) (by decide)
      refine lv_iload_n hx hb dX4_number_12 rfl (lv_at hl 2 rfl) ?_
      refine lv_if_lt (tgt := 34) hx hb dX4_number_13 (by decide) (fun c_9 => ?_) (fun c_9 => ?_)
      · have h_10 : iv (-2147483648) (-1) b := iv_ltL c_9 (iv_all b) (iv_k (by decide) : iv 0 0 0) (by decide)
        exact hj34 hvx ((by have := i32_0; have := i32_1; have := i32_2; have := i32_m1; have := (show iv 0 400 (sg 13) from CI_s hI 13).1; have := (show iv 0 400 (sg 13) from CI_s hI 13).2; have := (hvx).1; have := (hvx).2; have := (h_7).1; have := (h_7).2; have := (h_8).1; have := (h_8).2; have := (h_10).1; have := (h_10).2; omega)) _ _ _ hP hD hS (lv_sub hl [0, 1, 2] rfl)
      · have h_11 : iv 0 2147483647 b := iv_leR (i32_ge c_9) (iv_k (by decide) : iv 0 0 0) (iv_all b) (by decide)
        refine lv_iload_n hx hb dX4_number_16 rfl (lv_at hl 2 rfl) ?_
        refine lv_iconst (v := 4) hx hb dX4_number_17 (by decide) ?_
        refine lv_icmp_ge (tgt := 34) hx hb dX4_number_18 (by decide) (fun c_12 => ?_) (fun c_12 => ?_)
        · have h_13 : iv 4 2147483647 b := iv_leR c_12 (iv_k (by decide) : iv 4 4 4) h_11 (by decide)
          exact hj34 hvx ((by have := i32_0; have := i32_1; have := i32_2; have := i32_m1; have := (show iv 0 400 (sg 13) from CI_s hI 13).1; have := (show iv 0 400 (sg 13) from CI_s hI 13).2; have := (hvx).1; have := (hvx).2; have := (h_7).1; have := (h_7).2; have := (h_8).1; have := (h_8).2; have := (h_13).1; have := (h_13).2; omega)) _ _ _ hP hD hS (lv_sub hl [0, 1, 2] rfl)
        · have h_14 : iv 0 3 b := iv_ltL (i32_lt c_12) h_11 (iv_k (by decide) : iv 4 4 4) (by decide)
          refine ec_aload_n hx hb dX4_number_21 rfl (lv_at hl 0 rfl) ?_
          refine cr_get (t := 5) (j := 0) (C := RX4) (T := TX4) (N := 2) (v := eV (ad 21) 0) hx hb htb inX4 hown hK hP hvx (by decide) (by decide) (by decide) rfl (by decide) (htb _ kw_117) (cV_c rfl (by decide) (by rw [show cMu 5 0 = 0 from rfl, Nat.zero_mul]; rfl)) dX4_number_22 ?_
          refine lv_iload_n hx hb dX4_number_25 rfl (lv_at hl 1 rfl) ?_
          refine lv_iconst (v := 4) hx hb dX4_number_26 (by decide) ?_
          refine lv_imul hx hb dX4_number_27 ?_
          refine lv_topi (fun z_15 ez_15 => ?_)
          have hz_15 : iv 0 1596 z_15 := iv_of ez_15 (iv_mul h_7 (iv_k (by decide) : iv 4 4 4) (by decide))
          have tz_15 : z_15.toInt = (a : Int32).toInt * 4 := by rw [ez_15]; exact iv_mulE h_7 (iv_k (by decide) : iv 4 4 4) (by decide)
          refine lv_iload_n hx hb dX4_number_28 rfl (lv_at hl 2 rfl) ?_
          refine lv_iadd hx hb dX4_number_29 ?_
          refine lv_topi (fun z_16 ez_16 => ?_)
          have hz_16 : iv 0 1599 z_16 := iv_of ez_16 (iv_add hz_15 h_14 (by decide))
          have tz_16 : z_16.toInt = (z_15 : Int32).toInt + (b : Int32).toInt := by rw [ez_16]; exact iv_addE hz_15 h_14 (by decide)
          refine cr_iald (t := 21) (z := (gm 48 (z_16 : Int32).toNatClampNeg)) hx hb hK hP (iv_k (by decide) : iv 0 0 0) (by decide) (by decide) (by decide) rfl rfl (show vp_in z_16 (cLen 21) from (show vp_in z_16 1600 from (iv_in hz_16 (by decide)))) rfl dX4_number_30 ?_
          obtain ⟨z_17, ez_17⟩ : ∃ z : Int32, z = (gm 48 (z_16 : Int32).toNatClampNeg) := ⟨_, rfl⟩
          refine W.eq (g2 := F0 m 31 ls [.int z_17]) (by rw [ez_17]) ?_
          refine lv_goto (tgt := 35) hx hb dX4_number_31 (by decide) ?_
          exact W.nb (fun hN => W.widen (k := 1) (n := 6) (by decide) (by decide) (vx_ret (W.iret (v := z_17) hx hb hr (fun t ht hW => ⟨⟨some (.int z_17), (sg, gm, lg), rfl, ⟨z_17, rfl, rfl, ((zEv_y hRC (by have := i32_0; have := i32_1; have := i32_2; have := i32_m1; have := (hvx).1; have := (hvx).2; have := (h_7).1; have := (h_7).2; have := (h_8).1; have := (h_8).2; have := (h_14).1; have := (h_14).2; have := (hz_15).1; have := (hz_15).2; have := (hz_16).1; have := (hz_16).2; omega) (by have := i32_0; have := i32_1; have := i32_2; have := i32_m1; have := (show iv 0 400 (sg 13) from CI_s hI 13).1; have := (show iv 0 400 (sg 13) from CI_s hI 13).2; have := (hvx).1; have := (hvx).2; have := (h_7).1; have := (h_7).2; have := (h_8).1; have := (h_8).2; have := (h_14).1; have := (h_14).2; have := (hz_15).1; have := (hz_15).2; have := (hz_16).1; have := (hz_16).2; omega) (by have := i32_0; have := i32_1; have := i32_2; have := i32_m1; have := (hvx).1; have := (hvx).2; have := (h_7).1; have := (h_7).2; have := (h_8).1; have := (h_8).2; have := (h_14).1; have := (h_14).2; have := (hz_15).1; have := (hz_15).2; have := (hz_16).1; have := (hz_16).2; omega) (by have := i32_0; have := i32_1; have := i32_2; have := i32_m1; have := (hvx).1; have := (hvx).2; have := (h_7).1; have := (h_7).2; have := (h_8).1; have := (h_8).2; have := (h_14).1; have := (h_14).2; have := (hz_15).1; have := (hz_15).2; have := (hz_16).1; have := (hz_16).2; omega) ez_17 (by have q1 : (z_16 : Int32).toNatClampNeg = (z_16 : Int32).toInt.toNat := rfl; have := i32_0; have := i32_1; have := i32_2; have := i32_m1; have := (show iv 0 400 (sg 13) from CI_s hI 13).1; have := (show iv 0 400 (sg 13) from CI_s hI 13).2; have := (hvx).1; have := (hvx).2; have := (h_7).1; have := (h_7).2; have := (h_8).1; have := (h_8).2; have := (h_14).1; have := (h_14).2; have := (hz_15).1; have := (hz_15).2; have := (hz_16).1; have := (hz_16).2; omega)))⟩, by rw [ht]; exact hP, va_K.moved hW.alike hK, hD⟩, hS.F ht, by rw [ht]; exact hN⟩) hS.2.2 dX4_number_35)))

set_option maxHeartbeats 4000000 in
set_option maxRecDepth 100000 in
theorem d_events9 (l : Launch) (dC : Nat → ClassId) (dI : Nat → Nat → Nat) (ad : Nat → Nat → Nat) (cid : Nat → ClassId) (a2 : Nat → Nat) (lx : List Nat) (sg : Nat → Int32) (gm : Nat → Nat → Int32) (lg : Nat → Nat → Int64) (x : Int32) (wg : Nat → Nat → Int32) (S : S9) (hI : CI sg gm) (hvx : iv 0 0 x) (hRC : RC wg lg S sg gm) : CMt dC dI ad cid a2 lx l yX12_events wm_X12_events ({ frames := 1, cells := 1, slots := 6, locals := 20 }) [eV (ad 0) x] sg gm lg (fun v u => ∃ r : Int32, v = some (.int r) ∧ u = (sg, gm, lg) ∧ (iv 0 400 r) ∧ (r.toInt = ((zE S).length : Int))) (fun _ _ => False) := by
  intro sz
  refine vx_ofW (cc := cX12_events) (maxL := 1) (ret := (some .int)) (by decide) rfl ?_
  intro p e s m args below meth c s₁ B hml hxt hv
  obtain ⟨rfl, hsz, hP, hK, hD0, hG⟩ := hv
  have hx := B.exec
  have hb := B.bytes
  have hr := B.returns
  have hts := atoms_spec (ws := wm_X12_events) B.pre
  have htb := fun (w : Cond) (h : w ∈ tb) => hts w (List.mem_cons_of_mem _ h)
  have hown : s.vm.findClass RX12 = some m.cls := findClass_of_methodNamed B.named
  have hlocks := B.notSynchronized
  subst hsz
  have hD := hD0.self (sz := s.heap.size)
  generalize hAe : va_A (cW ad cid a2 lx sg gm lg) s.heap.size = A at hD hG ⊢
  have hA : ∀ q : Nat, s.heap.size ≤ q → A q := fun q h => by rw [← hAe]; exact Or.inr h
  have hS : va_S A s.heap s.heap [] := va_S.rf
  have hl := lv_entry ([eV (ad 0) x]) (n := 1) (by rw [show (lg_sl ([eV (ad 0) x])).length = 1 from by simp [lg_sl, eV_cat, cat_i, cat_l]]; exact Nat.le_of_ble_eq_true rfl)
  rw [lg_entry_eq]
  generalize (lg_sl ([eV (ad 0) x]) ++ List.replicate (1 - (lg_sl ([eV (ad 0) x])).length) Slot.unset).toArray = ls at hl ⊢
  have hl : lv_has ls 1 [(0, eV (ad 0) x)] := by simp [lv_args, eV_cat, cat_i, cat_l] at hl; exact hl
  refine ec_aload_n hx hb dX12_events_0 rfl (lv_at hl 0 rfl) ?_
  refine cr_get (t := 0) (j := 6) (C := RX12) (T := TX12) (N := 12) (v := eV (ad 5) 0) hx hb htb inX12 hown hK hP hvx (by decide) (by decide) (by decide) rfl (by decide) (htb _ kw_37) (cV_c rfl (by decide) (by rw [show cMu 0 6 = 0 from rfl, Nat.zero_mul]; rfl)) dX12_events_1 ?_
  refine cm_callV (t := 5) (C := RX4) (T := TX4) (N := 2) (rest := []) (as := []) ⟨hx, hb, hml, hown, htb⟩ (d_countEv9 l dC dI ad cid a2 lx sg gm lg 0 hI (iv_k (by decide) : iv 0 0 0)) (cwV 0 htb (gd_V kw_1304 kw_1305 kw_1306 kw_36 kw_1649) rfl rfl rfl (by decide +kernel) ⟨Nat.le_of_ble_eq_true rfl, Nat.le_of_ble_eq_true rfl⟩) (iv_k (by decide) : iv 0 0 0) (by decide) (by decide) rfl rfl hl.1 rfl (Nat.le_trans cs_n (by decide)) dX12_events_4 ⟨Nat.le_of_ble_eq_true rfl, Nat.le_of_ble_eq_true rfl⟩ hK hP hD hS hA hG (fun E ce q9 u_2 H locs hw hP hD hS hce hcv hcl => ?_) (fun v9 u_2 H locs hw hP hD hS => ?_)
  · exact hw.elim
  obtain ⟨r_1, rfl, rfl, hr_1, fr_r_1⟩ := hw
  have hP : va_P (dC, dI) vwCl (cW ad cid a2 lx sg gm lg) H := hP
  have hD : va_D A (cW ad cid a2 lx sg gm lg) := hD
  refine W.eq (g2 := F0 m 7 ls [.int r_1]) rfl ?_
  exact W.nb (fun hN => W.widen (k := 1) (n := 6) (by decide) (by decide) (vx_ret (W.iret (v := r_1) hx hb hr (fun t ht hW => ⟨⟨some (.int r_1), (sg, gm, lg), rfl, ⟨r_1, rfl, rfl, hr_1, ((by rw [fr_r_1]; exact hRC.2.1.1))⟩, by rw [ht]; exact hP, va_K.moved hW.alike hK, hD⟩, hS.F ht, by rw [ht]; exact hN⟩) hS.2.2 dX12_events_7)))

set_option maxHeartbeats 4000000 in
set_option maxRecDepth 100000 in
theorem d_event9 (l : Launch) (dC : Nat → ClassId) (dI : Nat → Nat → Nat) (ad : Nat → Nat → Nat) (cid : Nat → ClassId) (a2 : Nat → Nat) (lx : List Nat) (sg : Nat → Int32) (gm : Nat → Nat → Int32) (lg : Nat → Nat → Int64) (x : Int32) (k : Int32) (wh : Int32) (wg : Nat → Nat → Int32) (S : S9) (hI : CI sg gm) (hvx : iv 0 0 x) (hRC : RC wg lg S sg gm) : CMt dC dI ad cid a2 lx l yX12_event wm_X12_event ({ frames := 1, cells := 1, slots := 6, locals := 22 }) [eV (ad 0) x, .int k, .int wh] sg gm lg (fun v u => ∃ r : Int32, v = some (.int r) ∧ u = (sg, gm, lg) ∧ (r.toInt = zEv k.toInt wh.toInt S)) (fun _ _ => False) := by
  intro sz
  refine vx_ofW (cc := cX12_event) (maxL := 3) (ret := (some .int)) (by decide) rfl ?_
  intro p e s m args below meth c s₁ B hml hxt hv
  obtain ⟨rfl, hsz, hP, hK, hD0, hG⟩ := hv
  have hx := B.exec
  have hb := B.bytes
  have hr := B.returns
  have hts := atoms_spec (ws := wm_X12_event) B.pre
  have htb := fun (w : Cond) (h : w ∈ tb) => hts w (List.mem_cons_of_mem _ h)
  have hown : s.vm.findClass RX12 = some m.cls := findClass_of_methodNamed B.named
  have hlocks := B.notSynchronized
  subst hsz
  have hD := hD0.self (sz := s.heap.size)
  generalize hAe : va_A (cW ad cid a2 lx sg gm lg) s.heap.size = A at hD hG ⊢
  have hA : ∀ q : Nat, s.heap.size ≤ q → A q := fun q h => by rw [← hAe]; exact Or.inr h
  have hS : va_S A s.heap s.heap [] := va_S.rf
  have hl := lv_entry ([eV (ad 0) x, .int k, .int wh]) (n := 3) (by rw [show (lg_sl ([eV (ad 0) x, .int k, .int wh])).length = 3 from by simp [lg_sl, eV_cat, cat_i, cat_l]]; exact Nat.le_of_ble_eq_true rfl)
  rw [lg_entry_eq]
  generalize (lg_sl ([eV (ad 0) x, .int k, .int wh]) ++ List.replicate (3 - (lg_sl ([eV (ad 0) x, .int k, .int wh])).length) Slot.unset).toArray = ls at hl ⊢
  have hl : lv_has ls 3 [(0, eV (ad 0) x), (1, .int k), (2, .int wh)] := by simp [lv_args, eV_cat, cat_i, cat_l] at hl; exact hl
  refine ec_aload_n hx hb dX12_event_0 rfl (lv_at hl 0 rfl) ?_
  refine cr_get (t := 0) (j := 6) (C := RX12) (T := TX12) (N := 12) (v := eV (ad 5) 0) hx hb htb inX12 hown hK hP hvx (by decide) (by decide) (by decide) rfl (by decide) (htb _ kw_37) (cV_c rfl (by decide) (by rw [show cMu 0 6 = 0 from rfl, Nat.zero_mul]; rfl)) dX12_event_1 ?_
  refine lv_iload_n hx hb dX12_event_4 rfl (lv_at hl 1 rfl) ?_
  refine lv_iload_n hx hb dX12_event_5 rfl (lv_at hl 2 rfl) ?_
  refine cm_callV (t := 5) (C := RX4) (T := TX4) (N := 2) (rest := []) (as := [.int k, .int wh]) ⟨hx, hb, hml, hown, htb⟩ (d_numberEv9 l dC dI ad cid a2 lx sg gm lg 0 k wh wg S hI (iv_k (by decide) : iv 0 0 0) hRC) (cwV 2 htb (gd_V kw_1319 kw_1320 kw_1321 kw_36 kw_1654) rfl rfl rfl (by decide +kernel) ⟨Nat.le_of_ble_eq_true rfl, Nat.le_of_ble_eq_true rfl⟩) (iv_k (by decide) : iv 0 0 0) (by decide) (by decide) rfl rfl hl.1 rfl (Nat.le_trans cs_n (by decide)) dX12_event_6 ⟨Nat.le_of_ble_eq_true rfl, Nat.le_of_ble_eq_true rfl⟩ hK hP hD hS hA hG (fun E ce q9 u_2 H locs hw hP hD hS hce hcv hcl => ?_) (fun v9 u_2 H locs hw hP hD hS => ?_)
  · exact hw.elim
  obtain ⟨r_1, rfl, rfl, fE_r_1⟩ := hw
  have hP : va_P (dC, dI) vwCl (cW ad cid a2 lx sg gm lg) H := hP
  have hD : va_D A (cW ad cid a2 lx sg gm lg) := hD
  refine W.eq (g2 := F0 m 9 ls [.int r_1]) rfl ?_
  exact W.nb (fun hN => W.widen (k := 1) (n := 6) (by decide) (by decide) (vx_ret (W.iret (v := r_1) hx hb hr (fun t ht hW => ⟨⟨some (.int r_1), (sg, gm, lg), rfl, ⟨r_1, rfl, rfl, (fE_r_1)⟩, by rw [ht]; exact hP, va_K.moved hW.alike hK, hD⟩, hS.F ht, by rw [ht]; exact hN⟩) hS.2.2 dX12_event_9)))

set_option maxHeartbeats 4000000 in
set_option maxRecDepth 100000 in
theorem d_object9 (l : Launch) (dC : Nat → ClassId) (dI : Nat → Nat → Nat) (ad : Nat → Nat → Nat) (cid : Nat → ClassId) (a2 : Nat → Nat) (lx : List Nat) (sg : Nat → Int32) (gm : Nat → Nat → Int32) (lg : Nat → Nat → Int64) (x : Int32) (k : Int32) (wh : Int32) (wg : Nat → Nat → Int32) (S : S9) (hI : CI sg gm) (hvx : iv 0 0 x) (hRC : RC wg lg S sg gm) : CMt dC dI ad cid a2 lx l yX12_object wm_X12_object ({ frames := 2, cells := 1, slots := 6, locals := 42 }) [eV (ad 0) x, .int k, .int wh] sg gm lg (fun v u => ∃ r : Int32, v = some (.int r) ∧ u = (sg, gm, lg) ∧ (iv (-1) 79 r) ∧ (r.toInt = zOb k.toInt wh.toInt S)) (fun _ _ => False) := by
  intro sz
  refine vx_ofW (cc := cX12_object) (maxL := 3) (ret := (some .int)) (by decide) rfl ?_
  intro p e s m args below meth c s₁ B hml hxt hv
  obtain ⟨rfl, hsz, hP, hK, hD0, hG⟩ := hv
  have hx := B.exec
  have hb := B.bytes
  have hr := B.returns
  have hts := atoms_spec (ws := wm_X12_object) B.pre
  have htb := fun (w : Cond) (h : w ∈ tb) => hts w (List.mem_cons_of_mem _ h)
  have hown : s.vm.findClass RX12 = some m.cls := findClass_of_methodNamed B.named
  have hlocks := B.notSynchronized
  subst hsz
  have hD := hD0.self (sz := s.heap.size)
  generalize hAe : va_A (cW ad cid a2 lx sg gm lg) s.heap.size = A at hD hG ⊢
  have hA : ∀ q : Nat, s.heap.size ≤ q → A q := fun q h => by rw [← hAe]; exact Or.inr h
  have hS : va_S A s.heap s.heap [] := va_S.rf
  have hl := lv_entry ([eV (ad 0) x, .int k, .int wh]) (n := 3) (by rw [show (lg_sl ([eV (ad 0) x, .int k, .int wh])).length = 3 from by simp [lg_sl, eV_cat, cat_i, cat_l]]; exact Nat.le_of_ble_eq_true rfl)
  rw [lg_entry_eq]
  generalize (lg_sl ([eV (ad 0) x, .int k, .int wh]) ++ List.replicate (3 - (lg_sl ([eV (ad 0) x, .int k, .int wh])).length) Slot.unset).toArray = ls at hl ⊢
  have hl : lv_has ls 3 [(0, eV (ad 0) x), (1, .int k), (2, .int wh)] := by simp [lv_args, eV_cat, cat_i, cat_l] at hl; exact hl
  refine lv_iload_n hx hb dX12_object_0 rfl (lv_at hl 2 rfl) ?_
  refine lv_if_ne (tgt := 13) hx hb dX12_object_1 (by decide) (fun c_1 => ?_) (fun c_1 => ?_)
  · have d_2 : ¬ (wh : Int32).toInt = 0 := lv_neT c_1 rfl
    refine lv_iload_n hx hb dX12_object_13 rfl (lv_at hl 2 rfl) ?_
    refine lv_iconst (v := 1) hx hb dX12_object_14 (by decide) ?_
    refine lv_icmp_ne (tgt := 29) hx hb dX12_object_15 (by decide) (fun c_3 => ?_) (fun c_3 => ?_)
    · have d_4 : ¬ (wh : Int32).toInt = 1 := lv_neT c_3 rfl
      refine lv_iconst (v := (-1)) hx hb dX12_object_29 (by decide) ?_
      exact W.nb (fun hN => W.widen (k := 1) (n := 6) (by decide) (by decide) (vx_ret (W.iret (v := (-1)) hx hb hr (fun t ht hW => ⟨⟨some (.int (-1)), (sg, gm, lg), rfl, ⟨(-1), rfl, rfl, (iv_w (iv_k (by decide) : iv (-1) (-1) (-1)) (by decide)), ((by rw [zOb_w (by have := i32_0; have := i32_1; have := i32_2; have := i32_m1; have := (hvx).1; have := (hvx).2; omega) (by have := i32_0; have := i32_1; have := i32_2; have := i32_m1; have := (hvx).1; have := (hvx).2; omega)]; rfl))⟩, by rw [ht]; exact hP, va_K.moved hW.alike hK, hD⟩, hS.F ht, by rw [ht]; exact hN⟩) hS.2.2 dX12_object_30)))
    · have h_5 : iv 1 1 wh := iv_eq c_3 (iv_all wh) (iv_k (by decide) : iv 1 1 1) (by decide)
      refine ec_aload_n hx hb dX12_object_18 rfl (lv_at hl 0 rfl) ?_
      refine cr_get (t := 0) (j := 7) (C := RX12) (T := TX12) (N := 12) (v := eV (ad 6) 0) hx hb htb inX12 hown hK hP hvx (by decide) (by decide) (by decide) rfl (by decide) (htb _ kw_41) (cV_c rfl (by decide) (by rw [show cMu 0 7 = 0 from rfl, Nat.zero_mul]; rfl)) dX12_object_19 ?_
      refine lv_iload_n hx hb dX12_object_22 rfl (lv_at hl 1 rfl) ?_
      refine cm_callV (t := 6) (C := RX5) (T := TX5) (N := 13) (rest := []) (as := [.int k]) ⟨hx, hb, hml, hown, htb⟩ (d_beanOfObject9 l dC dI ad cid a2 lx sg gm lg 0 k wg S hI (iv_k (by decide) : iv 0 0 0) hRC) (cwV 1 htb (gd_V kw_1331 kw_1332 kw_1333 kw_40 kw_1658) rfl rfl rfl (by decide +kernel) ⟨Nat.le_of_ble_eq_true rfl, Nat.le_of_ble_eq_true rfl⟩) (iv_k (by decide) : iv 0 0 0) (by decide) (by decide) rfl rfl hl.1 rfl (Nat.le_trans cs_n (by decide)) dX12_object_23 ⟨Nat.le_of_ble_eq_true rfl, Nat.le_of_ble_eq_true rfl⟩ hK hP hD hS hA hG (fun E ce q9 u_7 H locs hw hP hD hS hce hcv hcl => ?_) (fun v9 u_7 H locs hw hP hD hS => ?_)
      · exact hw.elim
      obtain ⟨r_6, rfl, rfl, hr_6, fo_r_6⟩ := hw
      have hP : va_P (dC, dI) vwCl (cW ad cid a2 lx sg gm lg) H := hP
      have hD : va_D A (cW ad cid a2 lx sg gm lg) := hD
      refine W.eq (g2 := F0 m 26 ls [.int r_6]) rfl ?_
      refine lv_goto (tgt := 30) hx hb dX12_object_26 (by decide) ?_
      exact W.nb (fun hN => W.widen (k := 1) (n := 6) (by decide) (by decide) (vx_ret (W.iret (v := r_6) hx hb hr (fun t ht hW => ⟨⟨some (.int r_6), (sg, gm, lg), rfl, ⟨r_6, rfl, rfl, hr_6, ((by have q9 := fo_r_6; rw [show wh.toInt = 1 from (by have := i32_0; have := i32_1; have := i32_2; have := i32_m1; have := (hvx).1; have := (hvx).2; have := (h_5).1; have := (h_5).2; have := (hr_6).1; have := (hr_6).2; omega)]; exact q9))⟩, by rw [ht]; exact hP, va_K.moved hW.alike hK, hD⟩, hS.F ht, by rw [ht]; exact hN⟩) hS.2.2 dX12_object_30)))
  · have h_9 : iv 0 0 wh := iv_eq c_1 (iv_all wh) (iv_k (by decide) : iv 0 0 0) (by decide)
    refine ec_aload_n hx hb dX12_object_4 rfl (lv_at hl 0 rfl) ?_
    refine cr_get (t := 0) (j := 7) (C := RX12) (T := TX12) (N := 12) (v := eV (ad 6) 0) hx hb htb inX12 hown hK hP hvx (by decide) (by decide) (by decide) rfl (by decide) (htb _ kw_41) (cV_c rfl (by decide) (by rw [show cMu 0 7 = 0 from rfl, Nat.zero_mul]; rfl)) dX12_object_5 ?_
    refine lv_iload_n hx hb dX12_object_8 rfl (lv_at hl 1 rfl) ?_
    refine cm_callV (t := 6) (C := RX5) (T := TX5) (N := 13) (rest := []) (as := [.int k]) ⟨hx, hb, hml, hown, htb⟩ (d_classOfObject9 l dC dI ad cid a2 lx sg gm lg 0 k wg S hI (iv_k (by decide) : iv 0 0 0) hRC) (cwV 1 htb (gd_V kw_1328 kw_1329 kw_1330 kw_40 kw_1657) rfl rfl rfl (by decide +kernel) ⟨Nat.le_of_ble_eq_true rfl, Nat.le_of_ble_eq_true rfl⟩) (iv_k (by decide) : iv 0 0 0) (by decide) (by decide) rfl rfl hl.1 rfl (Nat.le_trans cs_n (by decide)) dX12_object_9 ⟨Nat.le_of_ble_eq_true rfl, Nat.le_of_ble_eq_true rfl⟩ hK hP hD hS hA hG (fun E ce q9 u_11 H locs hw hP hD hS hce hcv hcl => ?_) (fun v9 u_11 H locs hw hP hD hS => ?_)
    · exact hw.elim
    obtain ⟨r_10, rfl, rfl, hr_10, fo_r_10⟩ := hw
    have hP : va_P (dC, dI) vwCl (cW ad cid a2 lx sg gm lg) H := hP
    have hD : va_D A (cW ad cid a2 lx sg gm lg) := hD
    refine W.eq (g2 := F0 m 12 ls [.int r_10]) rfl ?_
    exact W.nb (fun hN => W.widen (k := 1) (n := 6) (by decide) (by decide) (vx_ret (W.iret (v := r_10) hx hb hr (fun t ht hW => ⟨⟨some (.int r_10), (sg, gm, lg), rfl, ⟨r_10, rfl, rfl, (iv_w hr_10 (by decide)), ((by have q9 := fo_r_10; rw [show wh.toInt = 0 from (by have := i32_0; have := i32_1; have := i32_2; have := i32_m1; have := (hvx).1; have := (hvx).2; have := (h_9).1; have := (h_9).2; have := (hr_10).1; have := (hr_10).2; omega)]; exact q9))⟩, by rw [ht]; exact hP, va_K.moved hW.alike hK, hD⟩, hS.F ht, by rw [ht]; exact hN⟩) hS.2.2 dX12_object_12)))

set_option maxHeartbeats 4000000 in
set_option maxRecDepth 100000 in
theorem d_close9 (l : Launch) (dC : Nat → ClassId) (dI : Nat → Nat → Nat) (ad : Nat → Nat → Nat) (cid : Nat → ClassId) (a2 : Nat → Nat) (lx : List Nat) (sg : Nat → Int32) (gm : Nat → Nat → Int32) (lg : Nat → Nat → Int64) (x : Int32) (wg : Nat → Nat → Int32) (S : S9) (hI : CI sg gm) (hvx : iv 0 0 x) (hFND9 : FND9 sg gm) (hSW : st9 gm = wg) (hRC : RC wg lg S sg gm) : CMt dC dI ad cid a2 lx l yX12_close wm_X12_close ({ frames := 3, cells := 1, slots := 6, locals := 63 }) [eV (ad 0) x] sg gm lg (fun v u => ∃ r : Int32, v = some (.int r) ∧ ∃ (sg2 : Nat → Int32) (gm2 : Nat → Nat → Int32) (lg2 : Nat → Nat → Int64), u = (sg2, gm2, lg2) ∧ CI sg2 gm2 ∧ KS [13, 15] sg sg2 ∧ KS [38, 48] gm gm2 ∧ KS [] lg lg2 ∧ (iv 0 400 r) ∧ (∀ j9, j9 < (sg 12).toNatClampNeg → gm2 38 j9 = 0) ∧ ((sg2 15).toInt = 0) ∧ (RC wg lg (zCl wg S) sg2 gm2) ∧ (r.toInt = ((zE (zCl wg S)).length : Int))) (fun _ _ => False) := by
  intro sz
  refine vx_ofW (cc := cX12_close) (maxL := 1) (ret := (some .int)) (by decide) rfl ?_
  intro p e s m args below meth c s₁ B hml hxt hv
  obtain ⟨rfl, hsz, hP, hK, hD0, hG⟩ := hv
  have hx := B.exec
  have hb := B.bytes
  have hr := B.returns
  have hts := atoms_spec (ws := wm_X12_close) B.pre
  have htb := fun (w : Cond) (h : w ∈ tb) => hts w (List.mem_cons_of_mem _ h)
  have hown : s.vm.findClass RX12 = some m.cls := findClass_of_methodNamed B.named
  have hlocks := B.notSynchronized
  subst hsz
  have hD := hD0.self (sz := s.heap.size)
  generalize hAe : va_A (cW ad cid a2 lx sg gm lg) s.heap.size = A at hD hG ⊢
  have hA : ∀ q : Nat, s.heap.size ≤ q → A q := fun q h => by rw [← hAe]; exact Or.inr h
  have hS : va_S A s.heap s.heap [] := va_S.rf
  have hl := lv_entry ([eV (ad 0) x]) (n := 1) (by rw [show (lg_sl ([eV (ad 0) x])).length = 1 from by simp [lg_sl, eV_cat, cat_i, cat_l]]; exact Nat.le_of_ble_eq_true rfl)
  rw [lg_entry_eq]
  generalize (lg_sl ([eV (ad 0) x]) ++ List.replicate (1 - (lg_sl ([eV (ad 0) x])).length) Slot.unset).toArray = ls at hl ⊢
  have hl : lv_has ls 1 [(0, eV (ad 0) x)] := by simp [lv_args, eV_cat, cat_i, cat_l] at hl; exact hl
  refine ec_aload_n hx hb dX12_close_0 rfl (lv_at hl 0 rfl) ?_
  refine cr_get (t := 0) (j := 7) (C := RX12) (T := TX12) (N := 12) (v := eV (ad 6) 0) hx hb htb inX12 hown hK hP hvx (by decide) (by decide) (by decide) rfl (by decide) (htb _ kw_41) (cV_c rfl (by decide) (by rw [show cMu 0 7 = 0 from rfl, Nat.zero_mul]; rfl)) dX12_close_1 ?_
  refine cm_callV (t := 6) (C := RX5) (T := TX5) (N := 13) (rest := []) (as := []) ⟨hx, hb, hml, hown, htb⟩ (d_destroyAll9 l dC dI ad cid a2 lx sg gm lg 0 wg S hI (iv_k (by decide) : iv 0 0 0) hFND9 hSW hRC) (cwV 0 htb (gd_V kw_1303 kw_1139 kw_1140 kw_40 kw_1597) rfl rfl rfl (by decide +kernel) ⟨Nat.le_of_ble_eq_true rfl, Nat.le_of_ble_eq_true rfl⟩) (iv_k (by decide) : iv 0 0 0) (by decide) (by decide) rfl rfl hl.1 rfl (Nat.le_trans cs_n (by decide)) dX12_close_4 ⟨Nat.le_of_ble_eq_true rfl, Nat.le_of_ble_eq_true rfl⟩ hK hP hD hS hA hG (fun E ce q9 u_2 H locs hw hP hD hS hce hcv hcl => ?_) (fun v9 u_2 H locs hw hP hD hS => ?_)
  · exact hw.elim
  obtain ⟨rfl, sgv_3, gmv_3, lgv_3, rfl, hIv_3, ksv_3, kgv_3, klv_3, fM_r_1, f15_r_1, fR_r_1⟩ := hw
  obtain rfl := KS_nil klv_3
  have hP : va_P (dC, dI) vwCl (cW ad cid a2 lx sgv_3 gmv_3 lg) H := hP
  have hD : va_D A (cW ad cid a2 lx sgv_3 gmv_3 lg) := hD
  refine W.eq (g2 := F0 m 7 ls []) rfl ?_
  refine ec_aload_n hx hb dX12_close_7 rfl (lv_at hl 0 rfl) ?_
  refine cr_get (t := 0) (j := 6) (C := RX12) (T := TX12) (N := 12) (v := eV (ad 5) 0) hx hb htb inX12 hown hK hP hvx (by decide) (by decide) (by decide) rfl (by decide) (htb _ kw_37) (cV_c rfl (by decide) (by rw [show cMu 0 6 = 0 from rfl, Nat.zero_mul]; rfl)) dX12_close_8 ?_
  refine cm_callV (t := 5) (C := RX4) (T := TX4) (N := 2) (rest := []) (as := []) ⟨hx, hb, hml, hown, htb⟩ (d_countEv9 l dC dI ad cid a2 lx sgv_3 gmv_3 lg 0 hIv_3 (iv_k (by decide) : iv 0 0 0)) (cwV 0 htb (gd_V kw_1304 kw_1305 kw_1306 kw_36 kw_1649) rfl rfl rfl (by decide +kernel) ⟨Nat.le_of_ble_eq_true rfl, Nat.le_of_ble_eq_true rfl⟩) (iv_k (by decide) : iv 0 0 0) (by decide) (by decide) rfl rfl hl.1 rfl (Nat.le_trans cs_n (by decide)) dX12_close_11 ⟨Nat.le_of_ble_eq_true rfl, Nat.le_of_ble_eq_true rfl⟩ hK hP hD hS hA hG (fun E ce q9 u_5 H locs hw hP hD hS hce hcv hcl => ?_) (fun v9 u_5 H locs hw hP hD hS => ?_)
  · exact hw.elim
  obtain ⟨r_4, rfl, rfl, hr_4, fr_r_4⟩ := hw
  have hP : va_P (dC, dI) vwCl (cW ad cid a2 lx sgv_3 gmv_3 lg) H := hP
  have hD : va_D A (cW ad cid a2 lx sgv_3 gmv_3 lg) := hD
  refine W.eq (g2 := F0 m 14 ls [.int r_4]) rfl ?_
  exact W.nb (fun hN => W.widen (k := 1) (n := 6) (by decide) (by decide) (vx_ret (W.iret (v := r_4) hx hb hr (fun t ht hW => ⟨⟨some (.int r_4), (sgv_3, gmv_3, lg), rfl, ⟨r_4, rfl, sgv_3, gmv_3, lg, rfl, hIv_3, (KS_tr (L := [13, 15]) KS_rf ksv_3 (by decide)), (KS_tr (L := [38, 48]) KS_rf kgv_3 (by decide)), KS_rf, hr_4, (fM_r_1), (f15_r_1), (fR_r_1), ((by rw [fr_r_4]; exact fR_r_1.2.1.1))⟩, by rw [ht]; exact hP, va_K.moved hW.alike hK, hD⟩, hS.F ht, by rw [ht]; exact hN⟩) hS.2.2 dX12_close_14)))

set_option maxHeartbeats 4000000 in
set_option maxRecDepth 100000 in
theorem d_refresh9 (l : Launch) (dC : Nat → ClassId) (dI : Nat → Nat → Nat) (ad : Nat → Nat → Nat) (cid : Nat → ClassId) (a2 : Nat → Nat) (lx : List Nat) (sg : Nat → Int32) (gm : Nat → Nat → Int32) (lg : Nat → Nat → Int64) (hl9 : l.stackTraces = false) (x : Int32) (wg : Nat → Nat → Int32) (ws : Nat → Int32) (S : S9) (hI : CI sg gm) (hvx : iv 0 0 x) (hDC : (sg 1).toInt = 0 ∨ (WRD sg gm lg ∧ MOK sg gm lg)) (hLD : LDI lx gm) (hFN : FND9 sg gm) (hSW : st9 gm = wg) (hSS : ss9 sg = ws) (hSV : (sg 1).toInt = 0 ∨ SV ws wg lg) (hRC : RC wg lg S sg gm) : CMg dC dI ad cid l yX12_refresh wm_X12_refresh ({ frames := 344, cells := 60962, slots := 243852, locals := 11086 }) [eV (ad 0) x] a2 lx sg gm lg 1 60962 243852 (fun v u => ∃ r : Int32, v = some (.int r) ∧ ∃ (sg2 : Nat → Int32) (gm2 : Nat → Nat → Int32) (lg2 : Nat → Nat → Int64), u = (a2, lx, sg2, gm2, lg2) ∧ CI sg2 gm2 ∧ KS [13, 14, 15, 16, 17, 18] sg sg2 ∧ KS [37, 38, 39, 48, 49, 50, 51, 52, 53] gm gm2 ∧ KS [] lg lg2 ∧ (iv 0 60 r) ∧ ((sg 1).toInt = 0 ∨ MOK sg2 gm2 lg2) ∧ (FND9 sg2 gm2) ∧ (¬ (sg 1).toInt = 0 ∧ ∃ S2, zRf ws wg lg 40 S = (some r.toInt, S2) ∧ RC wg lg S2 sg2 gm2)) (fun E u => (E = "java/lang/IllegalStateException" ∨ E = "java/lang/UnsupportedOperationException") ∧ ∃ (sg2 : Nat → Int32) (gm2 : Nat → Nat → Int32) (lg2 : Nat → Nat → Int64), u = (a2, lx, sg2, gm2, lg2) ∧ CI sg2 gm2 ∧ KS [13, 14, 15, 16, 17, 18] sg sg2 ∧ KS [37, 38, 39, 48, 49, 50, 51, 52, 53] gm gm2 ∧ KS [] lg lg2 ∧ ((sg 1).toInt = 0 ∨ MOK sg2 gm2 lg2) ∧ (FND9 sg2 gm2) ∧ ((E = "java/lang/IllegalStateException" ∧ (sg 1).toInt = 0 ∧ RC wg lg S sg2 gm2) ∨ (E = "java/lang/UnsupportedOperationException" ∧ ¬ (sg 1).toInt = 0 ∧ ∃ S2, zRf ws wg lg 40 S = (none, S2) ∧ RC wg lg S2 sg2 gm2))) := by
  intro sz
  refine vx_ofW (cc := cX12_refresh) (maxL := 1) (ret := (some .int)) (by decide) rfl ?_
  intro p e s m args below meth c s₁ B hml hxt hv
  obtain ⟨rfl, hsz, hP, hK, hD0, hG⟩ := hv
  have hx := B.exec
  have hb := B.bytes
  have hr := B.returns
  have hts := atoms_spec (ws := wm_X12_refresh) B.pre
  have htb := fun (w : Cond) (h : w ∈ tb) => hts w (List.mem_cons_of_mem _ h)
  have hown : s.vm.findClass RX12 = some m.cls := findClass_of_methodNamed B.named
  have hlocks := B.notSynchronized
  subst hsz
  have hD := hD0.self (sz := s.heap.size)
  generalize hAe : va_A (cW ad cid a2 lx sg gm lg) s.heap.size = A at hD hG ⊢
  have hA : ∀ q : Nat, s.heap.size ≤ q → A q := fun q h => by rw [← hAe]; exact Or.inr h
  have hS : va_S A s.heap s.heap [] := va_S.rf
  have hl := lv_entry ([eV (ad 0) x]) (n := 1) (by rw [show (lg_sl ([eV (ad 0) x])).length = 1 from by simp [lg_sl, eV_cat, cat_i, cat_l]]; exact Nat.le_of_ble_eq_true rfl)
  rw [lg_entry_eq]
  generalize (lg_sl ([eV (ad 0) x]) ++ List.replicate (1 - (lg_sl ([eV (ad 0) x])).length) Slot.unset).toArray = ls at hl ⊢
  have hl : lv_has ls 1 [(0, eV (ad 0) x)] := by simp [lv_args, eV_cat, cat_i, cat_l] at hl; exact hl
  refine W.widen (k := gc gm gm 0) (n := gs gm gm 0) (Nat.zero_le _) (Nat.zero_le _) ?_
  refine ec_aload_n hx hb dX12_refresh_0 rfl (lv_at hl 0 rfl) ?_
  refine cr_get (t := 0) (j := 7) (C := RX12) (T := TX12) (N := 12) (v := eV (ad 6) 0) hx hb htb inX12 hown hK hP hvx (by decide) (by decide) (by decide) rfl (by decide) (htb _ kw_41) (cV_c rfl (by decide) (by rw [show cMu 0 7 = 0 from rfl, Nat.zero_mul]; rfl)) dX12_refresh_1 ?_
  refine cm_callTV (t := 6) (C := RX5) (T := TX5) (N := 13) (rest := []) (as := []) ⟨hx, hb, hml, hown, htb⟩ (d_forgetFailure l dC dI ad cid a2 lx sg gm lg 0 hI (iv_k (by decide) : iv 0 0 0)) (cwV 0 htb (gd_V kw_992 kw_993 kw_994 kw_40 kw_1565) rfl rfl rfl (by decide +kernel) ⟨Nat.le_of_ble_eq_true rfl, Nat.le_of_ble_eq_true rfl⟩) (iv_k (by decide) : iv 0 0 0) (by decide) (by decide) rfl rfl hl.1 rfl (Nat.le_trans cs_n (by decide)) dX12_refresh_4 ⟨Nat.le_trans (gc_le hI) (Nat.le_of_ble_eq_true rfl), Nat.le_trans (gs_le hI) (Nat.le_of_ble_eq_true rfl)⟩ hK hP hD hS hA hG (fun E ce q9 u_2 H locs hw hP hD hS hce hcv hcl => ?_) (fun v9 u_2 H locs hw hP hD hS => ?_)
  · exact hw.elim
  obtain ⟨rfl, sgv_3, gmv_3, lgv_3, rfl, hIv_3, ksv_3, kgv_3, klv_3⟩ := hw
  obtain rfl := KS_nil kgv_3
  obtain rfl := KS_nil klv_3
  have hP : va_P (dC, dI) vwCl (cW ad cid a2 lx sgv_3 gm lg) H := hP
  have hD : va_D A (cW ad cid a2 lx sgv_3 gm lg) := hD
  refine W.eq (g2 := F0 m 7 ls []) rfl ?_
  refine ec_aload_n hx hb dX12_refresh_7 rfl (lv_at hl 0 rfl) ?_
  refine cr_get (t := 0) (j := 9) (C := RX12) (T := TX12) (N := 12) (v := .int (sgv_3 1)) hx hb htb inX12 hown hK hP hvx (by decide) (by decide) (by decide) rfl (by decide) (htb _ kw_312) rfl dX12_refresh_8 ?_
  refine W.eq (g2 := F0 m 11 ls [.int (sg 1)]) (by rw [show sgv_3 1 = sg 1 from (ksv_3 1 (by decide))]) ?_
  refine lv_if_ne (tgt := 22) hx hb dX12_refresh_11 (by decide) (fun c_4 => ?_) (fun c_4 => ?_)
  · have h_5 : iv 1 1 (sg 1) := iv_neL c_4 (show iv 0 1 (sg 1) from CI_s hI 1) (by decide)
    have hdc := hDC.resolve_left (by have := i32_0; have := i32_1; have := i32_2; have := i32_m1; have := congrArg Int32.toInt (show sgv_3 1 = sg 1 from ksv_3 1 (by decide)); have := (show iv 0 1 (sg 1) from CI_s hI 1).1; have := (show iv 0 1 (sg 1) from CI_s hI 1).2; have := (hvx).1; have := (hvx).2; have := (h_5).1; have := (h_5).2; omega)
    have hW := hdc.1
    have hMO := hdc.2
    have hSV := hSV.resolve_left (by have := i32_0; have := i32_1; have := i32_2; have := i32_m1; have := congrArg Int32.toInt (show sgv_3 1 = sg 1 from ksv_3 1 (by decide)); have := (show iv 0 1 (sg 1) from CI_s hI 1).1; have := (show iv 0 1 (sg 1) from CI_s hI 1).2; have := (hvx).1; have := (hvx).2; have := (h_5).1; have := (h_5).2; omega)
    refine ec_aload_n hx hb dX12_refresh_22 rfl (lv_at hl 0 rfl) ?_
    refine cr_get (t := 0) (j := 7) (C := RX12) (T := TX12) (N := 12) (v := eV (ad 6) 0) hx hb htb inX12 hown hK hP hvx (by decide) (by decide) (by decide) rfl (by decide) (htb _ kw_41) (cV_c rfl (by decide) (by rw [show cMu 0 7 = 0 from rfl, Nat.zero_mul]; rfl)) dX12_refresh_23 ?_
    refine cm_callGVX (t := 6) (C := RX5) (T := TX5) (N := 13) (rest := []) (as := []) ⟨hx, hb, hml, hown, htb⟩ (d_renewsAll9 l dC dI ad cid a2 lx sgv_3 gm lg hl9 0 wg ws S hIv_3 (iv_k (by decide) : iv 0 0 0) (WRD_e hW (ksv_3 4 (by decide)) (ksv_3 12 (by decide)) rfl rfl rfl rfl rfl rfl rfl rfl rfl rfl rfl rfl rfl rfl rfl rfl rfl rfl) hLD hSW ((ss9_ks (L := [17, 18]) (KS_tr (L := [17, 18]) KS_rf ksv_3 (by decide)) rfl rfl).trans hSS) hSV (RC_ks (L := [17, 18]) (M := []) hRC (KS_tr (L := [17, 18]) KS_rf ksv_3 (by decide)) KS_rf (by decide) (by decide))) (vx_cwVW 0 htb (gd_V kw_995 kw_996 kw_997 kw_40 kw_1566) rfl rfl rfl (by decide +kernel) ⟨Nat.le_of_ble_eq_true rfl, Nat.le_of_ble_eq_true rfl⟩) (iv_k (by decide) : iv 0 0 0) (by decide) (by decide) rfl rfl hl.1 rfl (Nat.le_trans cs_n (by decide)) dX12_refresh_26 ⟨Nat.le_trans (gc_le hI) (Nat.le_of_ble_eq_true rfl), Nat.le_trans (gs_le hI) (Nat.le_of_ble_eq_true rfl)⟩ hK hP hD hS hA hG (fun E ce q9 u_7 H locs hw hmu hP hD hS hce hcv hcl => ?_) (fun v9 u_7 H locs hw hmu hP hD hS => ?_)
    · exact hw.elim
    obtain ⟨r_6, rfl, sgv_8, gmv_8, lgv_8, rfl, hIv_8, ksv_8, kgv_8, klv_8, hr_6, fMO_r_6, fFN_r_6, fR_r_6⟩ := hw
    obtain rfl := KS_nil klv_8
    have hP : va_P (dC, dI) vwCl (cW ad cid a2 lx sgv_8 gmv_8 lg) H := hP
    have hD : va_D A (cW ad cid a2 lx sgv_8 gmv_8 lg) := hD
    have hmu : PHs gm ≤ PHs gmv_8 := hmu
    rw [show (gc gm gm 0 + gc gm gmv_8 1) = gc gm gmv_8 1 from gc_t (Nat.le_refl _) hmu, show (gs gm gm 0 + gs gm gmv_8 1) = gs gm gmv_8 1 from gs_t (Nat.le_refl _) hmu]
    have hm_9 : PHs gm ≤ PHs gmv_8 := Nat.le_trans (Nat.le_refl _) hmu
    refine W.eq (g2 := F0 m 29 ls [.int r_6]) rfl ?_
    refine lv_if_ne (tgt := 40) hx hb dX12_refresh_29 (by decide) (fun c_10 => ?_) (fun c_10 => ?_)
    · have h_11 : iv 1 1 r_6 := iv_neL c_10 hr_6 (by decide)
      refine ec_aload_n hx hb dX12_refresh_40 rfl (lv_at hl 0 rfl) ?_
      refine cr_get (t := 0) (j := 7) (C := RX12) (T := TX12) (N := 12) (v := eV (ad 6) 0) hx hb htb inX12 hown hK hP hvx (by decide) (by decide) (by decide) rfl (by decide) (htb _ kw_41) (cV_c rfl (by decide) (by rw [show cMu 0 7 = 0 from rfl, Nat.zero_mul]; rfl)) dX12_refresh_41 ?_
      refine cm_callTV (t := 6) (C := RX5) (T := TX5) (N := 13) (rest := []) (as := []) ⟨hx, hb, hml, hown, htb⟩ (d_objectCount9 l dC dI ad cid a2 lx sgv_8 gmv_8 lg 0 hIv_8 (iv_k (by decide) : iv 0 0 0)) (cwV 0 htb (gd_V kw_1142 kw_1143 kw_1144 kw_40 kw_1598) rfl rfl rfl (by decide +kernel) ⟨Nat.le_of_ble_eq_true rfl, Nat.le_of_ble_eq_true rfl⟩) (iv_k (by decide) : iv 0 0 0) (by decide) (by decide) rfl rfl hl.1 rfl (Nat.le_trans cs_n (by decide)) dX12_refresh_44 ⟨Nat.le_trans (gc_le hIv_8) (Nat.le_of_ble_eq_true rfl), Nat.le_trans (gs_le hIv_8) (Nat.le_of_ble_eq_true rfl)⟩ hK hP hD hS hA hG (fun E ce q9 u_13 H locs hw hP hD hS hce hcv hcl => ?_) (fun v9 u_13 H locs hw hP hD hS => ?_)
      · exact hw.elim
      obtain ⟨r_12, rfl, rfl, hr_12, fr_r_12⟩ := hw
      have hP : va_P (dC, dI) vwCl (cW ad cid a2 lx sgv_8 gmv_8 lg) H := hP
      have hD : va_D A (cW ad cid a2 lx sgv_8 gmv_8 lg) := hD
      refine W.eq (g2 := F0 m 47 ls [.int r_12]) rfl ?_
      exact W.nb (fun hN => W.widen (k := 60962) (n := 243852) (Nat.le_trans (gc_l0 (gm := gm) (k := 1) hIv_8) (Nat.le_of_ble_eq_true rfl)) (Nat.le_trans (gs_l0 (gm := gm) (k := 1) hIv_8) (Nat.le_of_ble_eq_true rfl)) (vx_ret (W.iret (v := r_12) hx hb hr (fun t ht hW => ⟨⟨some (.int r_12), (a2, lx, sgv_8, gmv_8, lg), rfl, ⟨r_12, rfl, sgv_8, gmv_8, lg, rfl, hIv_8, (KS_tr (L := [13, 14, 15, 16, 17, 18]) (KS_tr (L := [13, 14, 15, 16, 17, 18]) KS_rf ksv_3 (by decide)) ksv_8 (by decide)), (KS_tr (L := [37, 38, 39, 48, 49, 50, 51, 52, 53]) KS_rf kgv_8 (by decide)), KS_rf, hr_12, (Or.inr fMO_r_6), (fFN_r_6), ((by obtain ⟨_, S2, h1, h2⟩ := fR_r_6.resolve_right (fun q8 => absurd q8.1 (by have := i32_0; have := i32_1; have := i32_2; have := i32_m1; have := (hvx).1; have := (hvx).2; have := (h_5).1; have := (h_5).2; have := (h_11).1; have := (h_11).2; have := (hr_12).1; have := (hr_12).2; omega)); exact ⟨(by have := i32_0; have := i32_1; have := i32_2; have := i32_m1; have := congrArg Int32.toInt (show sgv_8 1 = sgv_3 1 from ksv_8 1 (by decide)); have := congrArg Int32.toInt (show sgv_3 1 = sg 1 from ksv_3 1 (by decide)); have := (show iv 0 1 (sg 1) from CI_s hI 1).1; have := (show iv 0 1 (sg 1) from CI_s hI 1).2; have := (hvx).1; have := (hvx).2; have := (h_5).1; have := (h_5).2; have := (h_11).1; have := (h_11).2; have := (hr_12).1; have := (hr_12).2; omega), S2, (by rw [h1, fr_r_12]), h2⟩))⟩, ⟨by rw [ht]; exact hP, va_K.moved hW.alike hK, hD⟩, hm_9, by rw [ht]; exact hN⟩, hS.F ht⟩) hS.2.2 dX12_refresh_47)))
    · have h_15 : iv 0 0 r_6 := iv_eq c_10 hr_6 (iv_k (by decide) : iv 0 0 0) (by decide)
      refine vx_throw1 (own := RX12) (cls := "java/lang/UnsupportedOperationException") (names := ["java/lang/RuntimeException", "java/lang/Exception"]) (ik := 151) (ic := 153) (A := A) hx hb hl9 hown (by decide +kernel) (by decide +kernel) (htb _ kw_990) (htb _ kw_991) (vx_hat (fun w h => htb w (inT_3 w h)) inU_3 (vx_c (va_Nw.use rfl hG.2.1.1) (vx_c (va_Nw.use rfl hG.1.2.1.2.2.1) (vx_c (va_Nw.use rfl hG.1.2.1.2.2.2.1) (vx_c (va_Nw.use rfl hG.1.2.1.2.2.2.2) vx_n))))) (fun w hw => ?_) hG.1.2.2.2.1 hG.1.2.2.2.2 hS (by rw [hml]; exact hl.1) dX12_refresh_32 dX12_refresh_35 dX12_refresh_36 dX12_refresh_39 (fun x hx9 => (hxt x hx9).elim) (Nat.le_of_ble_eq_true rfl) (Nat.le_trans (Nat.add_le_add_right (show _ ≤ 8 from (Nat.le_trans cs_n (by decide))) _) (Nat.le_of_ble_eq_true rfl)) (Nat.le_trans (gc_le (gm := gm) (k := 1) (j := 1) hIv_8) (Nat.le_of_ble_eq_true rfl)) (Nat.le_trans (gs_le (gm := gm) (k := 1) (j := 6) hIv_8) (Nat.le_of_ble_eq_true rfl)) hlocks (fun t ht1 hz2 hk2 hnb => ⟨⟨(a2, lx, sgv_8, gmv_8, lg), ⟨(Or.inr rfl), sgv_8, gmv_8, lg, rfl, hIv_8, (KS_tr (L := [13, 14, 15, 16, 17, 18]) (KS_tr (L := [13, 14, 15, 16, 17, 18]) KS_rf ksv_3 (by decide)) ksv_8 (by decide)), (KS_tr (L := [37, 38, 39, 48, 49, 50, 51, 52, 53]) KS_rf kgv_8 (by decide)), KS_rf, (Or.inr fMO_r_6), (fFN_r_6), ((by obtain ⟨_, S2, h1, h2⟩ := fR_r_6.resolve_left (fun q8 => absurd q8.1 (by have := i32_0; have := i32_1; have := i32_2; have := i32_m1; have := (hvx).1; have := (hvx).2; have := (h_5).1; have := (h_5).2; have := (h_15).1; have := (h_15).2; omega)); exact Or.inr ⟨rfl, (by have := i32_0; have := i32_1; have := i32_2; have := i32_m1; have := congrArg Int32.toInt (show sgv_8 1 = sgv_3 1 from ksv_8 1 (by decide)); have := congrArg Int32.toInt (show sgv_3 1 = sg 1 from ksv_3 1 (by decide)); have := (show iv 0 1 (sg 1) from CI_s hI 1).1; have := (show iv 0 1 (sg 1) from CI_s hI 1).2; have := (hvx).1; have := (hvx).2; have := (h_5).1; have := (h_5).2; have := (h_15).1; have := (h_15).2; omega), S2, h1, h2⟩))⟩, ⟨hP.kept (fun k q hq => hk2 _ (vx_lt hP hq)), va_K.moved ht1 hK, hD⟩, hm_9, NBw_w hnb (show gc gm gmv_8 1 + 1 ≤ gc gm gmv_8 (1 + 1) from (by unfold gc; omega)) (show gs gm gmv_8 1 + 6 ≤ gs gm gmv_8 (1 + 1) from (by unfold gs; omega))⟩, ⟨Nat.le_trans hS.1 hz2, fun q h1 h2 => (hk2 q (Nat.lt_of_lt_of_le h1 hS.1)).trans (hS.2.1 q h1 h2)⟩⟩) hS.2.2 (Nat.le_trans (gc_le (gm := gm) (k := 1) (j := 1) hIv_8) (Nat.le_of_ble_eq_true rfl)) (Nat.le_trans (gs_le (gm := gm) (k := 1) (j := 6) hIv_8) (Nat.le_of_ble_eq_true rfl))
      rcases List.mem_cons.mp hw with rfl | hw
      · rfl
      rcases List.mem_cons.mp hw with rfl | hw
      · rfl
      exact inV_3 w hw
  · have h_16 : iv 0 0 (sg 1) := iv_eq c_4 (show iv 0 1 (sg 1) from CI_s hI 1) (iv_k (by decide) : iv 0 0 0) (by decide)
    refine vx_throw1 (own := RX12) (cls := "java/lang/IllegalStateException") (names := ["java/lang/RuntimeException", "java/lang/Exception"]) (ik := 144) (ic := 146) (A := A) hx hb hl9 hown (by decide +kernel) (by decide +kernel) (htb _ kw_988) (htb _ kw_989) (vx_hat (fun w h => htb w (inT_2 w h)) inU_2 (vx_c (va_Nw.use rfl hG.1.2.1.2.1) (vx_c (va_Nw.use rfl hG.1.2.1.2.2.1) (vx_c (va_Nw.use rfl hG.1.2.1.2.2.2.1) (vx_c (va_Nw.use rfl hG.1.2.1.2.2.2.2) vx_n))))) (fun w hw => ?_) hG.1.2.2.2.1 hG.1.2.2.2.2 hS (by rw [hml]; exact hl.1) dX12_refresh_14 dX12_refresh_17 dX12_refresh_18 dX12_refresh_21 (fun x hx9 => (hxt x hx9).elim) (Nat.le_of_ble_eq_true rfl) (Nat.le_trans (Nat.add_le_add_right (show _ ≤ 8 from (Nat.le_trans cs_n (by decide))) _) (Nat.le_of_ble_eq_true rfl)) (Nat.le_trans (gc_le (gm := gm) (k := 0) (j := 1) hI) (Nat.le_of_ble_eq_true rfl)) (Nat.le_trans (gs_le (gm := gm) (k := 0) (j := 6) hI) (Nat.le_of_ble_eq_true rfl)) hlocks (fun t ht1 hz2 hk2 hnb => ⟨⟨(a2, lx, sgv_3, gm, lg), ⟨(Or.inl rfl), sgv_3, gm, lg, rfl, hIv_3, (KS_tr (L := [13, 14, 15, 16, 17, 18]) KS_rf ksv_3 (by decide)), KS_rf, KS_rf, (Or.inl (by have := i32_0; have := i32_1; have := i32_2; have := i32_m1; have := congrArg Int32.toInt (show sgv_3 1 = sg 1 from ksv_3 1 (by decide)); have := (show iv 0 1 (sg 1) from CI_s hI 1).1; have := (show iv 0 1 (sg 1) from CI_s hI 1).2; have := (hvx).1; have := (hvx).2; have := (h_16).1; have := (h_16).2; omega)), ((FND9_e hFN (show sgv_3 15 = sg 15 from (ksv_3 15 (by decide))) rfl)), (Or.inl ⟨rfl, by have := i32_0; have := i32_1; have := i32_2; have := i32_m1; have := congrArg Int32.toInt (show sgv_3 1 = sg 1 from ksv_3 1 (by decide)); have := (show iv 0 1 (sg 1) from CI_s hI 1).1; have := (show iv 0 1 (sg 1) from CI_s hI 1).2; have := (hvx).1; have := (hvx).2; have := (h_16).1; have := (h_16).2; omega, (RC_ks (L := [17, 18]) (M := []) hRC (KS_tr (L := [17, 18]) KS_rf ksv_3 (by decide)) KS_rf (by decide) (by decide))⟩)⟩, ⟨hP.kept (fun k q hq => hk2 _ (vx_lt hP hq)), va_K.moved ht1 hK, hD⟩, (Nat.le_refl _), NBw_w hnb (show gc gm gm 0 + 1 ≤ gc gm gm (1 + 1) from (by unfold gc; omega)) (show gs gm gm 0 + 6 ≤ gs gm gm (1 + 1) from (by unfold gs; omega))⟩, ⟨Nat.le_trans hS.1 hz2, fun q h1 h2 => (hk2 q (Nat.lt_of_lt_of_le h1 hS.1)).trans (hS.2.1 q h1 h2)⟩⟩) hS.2.2 (Nat.le_trans (gc_le (gm := gm) (k := 0) (j := 1) hI) (Nat.le_of_ble_eq_true rfl)) (Nat.le_trans (gs_le (gm := gm) (k := 0) (j := 6) hI) (Nat.le_of_ble_eq_true rfl))
    rcases List.mem_cons.mp hw with rfl | hw
    · rfl
    rcases List.mem_cons.mp hw with rfl | hw
    · rfl
    exact inV_2 w hw

set_option maxHeartbeats 4000000 in
set_option maxRecDepth 100000 in
theorem d_get9 (l : Launch) (dC : Nat → ClassId) (dI : Nat → Nat → Nat) (ad : Nat → Nat → Nat) (cid : Nat → ClassId) (a2 : Nat → Nat) (lx : List Nat) (sg : Nat → Int32) (gm : Nat → Nat → Int32) (lg : Nat → Nat → Int64) (hl9 : l.stackTraces = false) (x : Int32) (nm : Int64) (wg : Nat → Nat → Int32) (ws : Nat → Int32) (S : S9) (hI : CI sg gm) (hvx : iv 0 0 x) (hDC : (sg 1).toInt = 0 ∨ (WRD sg gm lg ∧ MOK sg gm lg)) (hLD : LDI lx gm) (hFN : FND9 sg gm) (hSW : st9 gm = wg) (hSS : ss9 sg = ws) (hSV : (sg 1).toInt = 0 ∨ SV ws wg lg) (hRC : RC wg lg S sg gm) : CMg dC dI ad cid l yX12_get wm_X12_get ({ frames := 344, cells := 60962, slots := 243852, locals := 11087 }) [eV (ad 0) x, .long nm] a2 lx sg gm lg 1 60962 243852 (fun v u => ∃ r : Int32, v = some (.int r) ∧ ∃ (sg2 : Nat → Int32) (gm2 : Nat → Nat → Int32) (lg2 : Nat → Nat → Int64), u = (a2, lx, sg2, gm2, lg2) ∧ CI sg2 gm2 ∧ KS [13, 14, 15, 16, 17, 18] sg sg2 ∧ KS [37, 38, 39, 48, 49, 50, 51, 52, 53] gm gm2 ∧ KS [] lg lg2 ∧ (iv 0 59 r) ∧ ((sg 1).toInt = 0 ∨ MOK sg2 gm2 lg2) ∧ (FND9 sg2 gm2) ∧ (¬ (sg 1).toInt = 0 ∧ ∃ S2, zGt ws wg lg 40 (wz9 nm) S = (some r.toInt, S2) ∧ RC wg lg S2 sg2 gm2)) (fun E u => (E = "java/lang/IllegalStateException" ∨ E = "java/lang/UnsupportedOperationException") ∧ ∃ (sg2 : Nat → Int32) (gm2 : Nat → Nat → Int32) (lg2 : Nat → Nat → Int64), u = (a2, lx, sg2, gm2, lg2) ∧ CI sg2 gm2 ∧ KS [13, 14, 15, 16, 17, 18] sg sg2 ∧ KS [37, 38, 39, 48, 49, 50, 51, 52, 53] gm gm2 ∧ KS [] lg lg2 ∧ ((sg 1).toInt = 0 ∨ MOK sg2 gm2 lg2) ∧ (FND9 sg2 gm2) ∧ ((E = "java/lang/IllegalStateException" ∧ (sg 1).toInt = 0 ∧ RC wg lg S sg2 gm2) ∨ (E = "java/lang/UnsupportedOperationException" ∧ ¬ (sg 1).toInt = 0 ∧ ∃ S2, zGt ws wg lg 40 (wz9 nm) S = (none, S2) ∧ RC wg lg S2 sg2 gm2))) := by
  intro sz
  refine vx_ofW (cc := cX12_get) (maxL := 4) (ret := (some .int)) (by decide) rfl ?_
  intro p e s m args below meth c s₁ B hml hxt hv
  obtain ⟨rfl, hsz, hP, hK, hD0, hG⟩ := hv
  have hx := B.exec
  have hb := B.bytes
  have hr := B.returns
  have hts := atoms_spec (ws := wm_X12_get) B.pre
  have htb := fun (w : Cond) (h : w ∈ tb) => hts w (List.mem_cons_of_mem _ h)
  have hown : s.vm.findClass RX12 = some m.cls := findClass_of_methodNamed B.named
  have hlocks := B.notSynchronized
  subst hsz
  have hD := hD0.self (sz := s.heap.size)
  generalize hAe : va_A (cW ad cid a2 lx sg gm lg) s.heap.size = A at hD hG ⊢
  have hA : ∀ q : Nat, s.heap.size ≤ q → A q := fun q h => by rw [← hAe]; exact Or.inr h
  have hS : va_S A s.heap s.heap [] := va_S.rf
  have hl := lv_entry ([eV (ad 0) x, .long nm]) (n := 4) (by rw [show (lg_sl ([eV (ad 0) x, .long nm])).length = 3 from by simp [lg_sl, eV_cat, cat_i, cat_l]]; exact Nat.le_of_ble_eq_true rfl)
  rw [lg_entry_eq]
  generalize (lg_sl ([eV (ad 0) x, .long nm]) ++ List.replicate (4 - (lg_sl ([eV (ad 0) x, .long nm])).length) Slot.unset).toArray = ls at hl ⊢
  have hl : lv_has ls 4 [(0, eV (ad 0) x), (1, .long nm)] := by simp [lv_args, eV_cat, cat_i, cat_l] at hl; exact hl
  refine W.widen (k := gc gm gm 0) (n := gs gm gm 0) (Nat.zero_le _) (Nat.zero_le _) ?_
  refine ec_aload_n hx hb dX12_get_0 rfl (lv_at hl 0 rfl) ?_
  refine cr_get (t := 0) (j := 7) (C := RX12) (T := TX12) (N := 12) (v := eV (ad 6) 0) hx hb htb inX12 hown hK hP hvx (by decide) (by decide) (by decide) rfl (by decide) (htb _ kw_41) (cV_c rfl (by decide) (by rw [show cMu 0 7 = 0 from rfl, Nat.zero_mul]; rfl)) dX12_get_1 ?_
  refine cm_callTV (t := 6) (C := RX5) (T := TX5) (N := 13) (rest := []) (as := []) ⟨hx, hb, hml, hown, htb⟩ (d_forgetFailure l dC dI ad cid a2 lx sg gm lg 0 hI (iv_k (by decide) : iv 0 0 0)) (cwV 0 htb (gd_V kw_992 kw_993 kw_994 kw_40 kw_1565) rfl rfl rfl (by decide +kernel) ⟨Nat.le_of_ble_eq_true rfl, Nat.le_of_ble_eq_true rfl⟩) (iv_k (by decide) : iv 0 0 0) (by decide) (by decide) rfl rfl hl.1 rfl (Nat.le_trans cs_n (by decide)) dX12_get_4 ⟨Nat.le_trans (gc_le hI) (Nat.le_of_ble_eq_true rfl), Nat.le_trans (gs_le hI) (Nat.le_of_ble_eq_true rfl)⟩ hK hP hD hS hA hG (fun E ce q9 u_2 H locs hw hP hD hS hce hcv hcl => ?_) (fun v9 u_2 H locs hw hP hD hS => ?_)
  · exact hw.elim
  obtain ⟨rfl, sgv_3, gmv_3, lgv_3, rfl, hIv_3, ksv_3, kgv_3, klv_3⟩ := hw
  obtain rfl := KS_nil kgv_3
  obtain rfl := KS_nil klv_3
  have hP : va_P (dC, dI) vwCl (cW ad cid a2 lx sgv_3 gm lg) H := hP
  have hD : va_D A (cW ad cid a2 lx sgv_3 gm lg) := hD
  refine W.eq (g2 := F0 m 7 ls []) rfl ?_
  refine ec_aload_n hx hb dX12_get_7 rfl (lv_at hl 0 rfl) ?_
  refine cr_get (t := 0) (j := 9) (C := RX12) (T := TX12) (N := 12) (v := .int (sgv_3 1)) hx hb htb inX12 hown hK hP hvx (by decide) (by decide) (by decide) rfl (by decide) (htb _ kw_312) rfl dX12_get_8 ?_
  refine W.eq (g2 := F0 m 11 ls [.int (sg 1)]) (by rw [show sgv_3 1 = sg 1 from (ksv_3 1 (by decide))]) ?_
  refine lv_if_ne (tgt := 22) hx hb dX12_get_11 (by decide) (fun c_4 => ?_) (fun c_4 => ?_)
  · have h_5 : iv 1 1 (sg 1) := iv_neL c_4 (show iv 0 1 (sg 1) from CI_s hI 1) (by decide)
    have hdc := hDC.resolve_left (by have := i32_0; have := i32_1; have := i32_2; have := i32_m1; have := congrArg Int32.toInt (show sgv_3 1 = sg 1 from ksv_3 1 (by decide)); have := (show iv 0 1 (sg 1) from CI_s hI 1).1; have := (show iv 0 1 (sg 1) from CI_s hI 1).2; have := (hvx).1; have := (hvx).2; have := (h_5).1; have := (h_5).2; omega)
    have hW := hdc.1
    have hMO := hdc.2
    have hSV := hSV.resolve_left (by have := i32_0; have := i32_1; have := i32_2; have := i32_m1; have := congrArg Int32.toInt (show sgv_3 1 = sg 1 from ksv_3 1 (by decide)); have := (show iv 0 1 (sg 1) from CI_s hI 1).1; have := (show iv 0 1 (sg 1) from CI_s hI 1).2; have := (hvx).1; have := (hvx).2; have := (h_5).1; have := (h_5).2; omega)
    refine ec_aload_n hx hb dX12_get_22 rfl (lv_at hl 0 rfl) ?_
    refine cr_get (t := 0) (j := 7) (C := RX12) (T := TX12) (N := 12) (v := eV (ad 6) 0) hx hb htb inX12 hown hK hP hvx (by decide) (by decide) (by decide) rfl (by decide) (htb _ kw_41) (cV_c rfl (by decide) (by rw [show cMu 0 7 = 0 from rfl, Nat.zero_mul]; rfl)) dX12_get_23 ?_
    refine lv_lload_n hx hb dX12_get_26 rfl (lv_at hl 1 rfl) ?_
    refine cm_callTS (rest := [eV (ad 6) 0]) (as := [.long nm]) ⟨hx, hb, hml, hown, htb⟩ (d_withoutZeros9 l dC dI ad cid a2 lx sgv_3 gm lg nm hIv_3) (va_cwS 1 htb (gd_S kw_1268 kw_1269 kw_2 kw_1638) rfl rfl rfl (by decide +kernel) ⟨Nat.le_of_ble_eq_true rfl, Nat.le_of_ble_eq_true rfl⟩)  rfl hl.1 rfl (Nat.le_trans (cs_c (eV_cat _ _) cs_n) (by decide)) dX12_get_27 ⟨Nat.le_trans (gc_le hI) (Nat.le_of_ble_eq_true rfl), Nat.le_trans (gs_le hI) (Nat.le_of_ble_eq_true rfl)⟩ hK hP hD hS hA hG (fun E ce q9 u_7 H locs hw hP hD hS hce hcv hcl => ?_) (fun v9 u_7 H locs hw hP hD hS => ?_)
    · exact hw.elim
    obtain ⟨r_6, rfl, rfl, fz_r_6⟩ := hw
    have hP : va_P (dC, dI) vwCl (cW ad cid a2 lx sgv_3 gm lg) H := hP
    have hD : va_D A (cW ad cid a2 lx sgv_3 gm lg) := hD
    refine W.eq (g2 := F0 m 30 ls [.long r_6, eV (ad 6) 0]) rfl ?_
    refine cm_callGVX (t := 6) (C := RX5) (T := TX5) (N := 13) (rest := []) (as := [.long r_6]) ⟨hx, hb, hml, hown, htb⟩ (d_objectCalled9 l dC dI ad cid a2 lx sgv_3 gm lg hl9 0 r_6 wg ws S hIv_3 (iv_k (by decide) : iv 0 0 0) (WRD_e hW (ksv_3 4 (by decide)) (ksv_3 12 (by decide)) rfl rfl rfl rfl rfl rfl rfl rfl rfl rfl rfl rfl rfl rfl rfl rfl rfl rfl) hLD (MOK_e hMO (show sgv_3 12 = sg 12 from (ksv_3 12 (by decide))) rfl rfl rfl rfl) (FND9_e hFN (show sgv_3 15 = sg 15 from (ksv_3 15 (by decide))) rfl) hSW ((ss9_ks (L := [17, 18]) (KS_tr (L := [17, 18]) KS_rf ksv_3 (by decide)) rfl rfl).trans hSS) hSV (RC_ks (L := [17, 18]) (M := []) hRC (KS_tr (L := [17, 18]) KS_rf ksv_3 (by decide)) KS_rf (by decide) (by decide))) (vx_cwVW 1 htb (gd_V kw_1271 kw_1272 kw_1273 kw_40 kw_1639) rfl rfl rfl (by decide +kernel) ⟨Nat.le_of_ble_eq_true rfl, Nat.le_of_ble_eq_true rfl⟩) (iv_k (by decide) : iv 0 0 0) (by decide) (by decide) rfl rfl hl.1 rfl (Nat.le_trans cs_n (by decide)) dX12_get_30 ⟨Nat.le_trans (gc_le hI) (Nat.le_of_ble_eq_true rfl), Nat.le_trans (gs_le hI) (Nat.le_of_ble_eq_true rfl)⟩ hK hP hD hS hA hG (fun E ce q9 u_10 H locs hw hmu hP hD hS hce hcv hcl => ?_) (fun v9 u_10 H locs hw hmu hP hD hS => ?_)
    · exact hw.elim
    obtain ⟨r_9, rfl, sgv_11, gmv_11, lgv_11, rfl, hIv_11, ksv_11, kgv_11, klv_11, hr_9, fMO_r_9, fFN_r_9, fO_r_9⟩ := hw
    obtain rfl := KS_nil klv_11
    have hP : va_P (dC, dI) vwCl (cW ad cid a2 lx sgv_11 gmv_11 lg) H := hP
    have hD : va_D A (cW ad cid a2 lx sgv_11 gmv_11 lg) := hD
    have hmu : PHs gm ≤ PHs gmv_11 := hmu
    rw [show (gc gm gm 0 + gc gm gmv_11 1) = gc gm gmv_11 1 from gc_t (Nat.le_refl _) hmu, show (gs gm gm 0 + gs gm gmv_11 1) = gs gm gmv_11 1 from gs_t (Nat.le_refl _) hmu]
    have hm_12 : PHs gm ≤ PHs gmv_11 := Nat.le_trans (Nat.le_refl _) hmu
    refine W.eq (g2 := F0 m 33 ls [.int r_9]) rfl ?_
    refine lv_istore_n (i := 3) (lv' := [(3, .int r_9), (0, eV (ad 0) x), (1, .long nm)]) hx hb dX12_get_33 rfl hl (by decide) rfl (fun ls hl => ?_)
    refine lv_iload_n hx hb dX12_get_34 rfl (lv_at hl 0 rfl) ?_
    refine lv_iconst (v := (-1)) hx hb dX12_get_35 (by decide) ?_
    refine lv_icmp_ne (tgt := 47) hx hb dX12_get_36 (by decide) (fun c_13 => ?_) (fun c_13 => ?_)
    · have h_14 : iv 0 59 r_9 := iv_neL c_13 hr_9 (by decide)
      refine lv_iload_n hx hb dX12_get_47 rfl (lv_at hl 0 rfl) ?_
      exact W.nb (fun hN => W.widen (k := 60962) (n := 243852) (Nat.le_trans (gc_l0 (gm := gm) (k := 1) hIv_11) (Nat.le_of_ble_eq_true rfl)) (Nat.le_trans (gs_l0 (gm := gm) (k := 1) hIv_11) (Nat.le_of_ble_eq_true rfl)) (vx_ret (W.iret (v := r_9) hx hb hr (fun t ht hW => ⟨⟨some (.int r_9), (a2, lx, sgv_11, gmv_11, lg), rfl, ⟨r_9, rfl, sgv_11, gmv_11, lg, rfl, hIv_11, (KS_tr (L := [13, 14, 15, 16, 17, 18]) (KS_tr (L := [13, 14, 15, 16, 17, 18]) KS_rf ksv_3 (by decide)) ksv_11 (by decide)), (KS_tr (L := [37, 38, 39, 48, 49, 50, 51, 52, 53]) KS_rf kgv_11 (by decide)), KS_rf, h_14, (Or.inr fMO_r_9), (fFN_r_9), ((by obtain ⟨S2, h1, h2, _⟩ := fO_r_9.resolve_right (fun q8 => absurd q8.1 (by have := i32_0; have := i32_1; have := i32_2; have := i32_m1; have := (hvx).1; have := (hvx).2; have := (h_5).1; have := (h_5).2; have := (h_14).1; have := (h_14).2; omega)); exact ⟨(by have := i32_0; have := i32_1; have := i32_2; have := i32_m1; have := congrArg Int32.toInt (show sgv_11 1 = sgv_3 1 from ksv_11 1 (by decide)); have := congrArg Int32.toInt (show sgv_3 1 = sg 1 from ksv_3 1 (by decide)); have := (show iv 0 1 (sg 1) from CI_s hI 1).1; have := (show iv 0 1 (sg 1) from CI_s hI 1).2; have := (hvx).1; have := (hvx).2; have := (h_5).1; have := (h_5).2; have := (h_14).1; have := (h_14).2; omega), S2, (by rw [← fz_r_6]; exact h1), h2⟩))⟩, ⟨by rw [ht]; exact hP, va_K.moved hW.alike hK, hD⟩, hm_12, by rw [ht]; exact hN⟩, hS.F ht⟩) hS.2.2 dX12_get_48)))
    · have h_15 : iv (-1) (-1) r_9 := iv_eq c_13 hr_9 (iv_k (by decide) : iv (-1) (-1) (-1)) (by decide)
      refine vx_throw1 (own := RX12) (cls := "java/lang/UnsupportedOperationException") (names := ["java/lang/RuntimeException", "java/lang/Exception"]) (ik := 151) (ic := 153) (A := A) hx hb hl9 hown (by decide +kernel) (by decide +kernel) (htb _ kw_990) (htb _ kw_991) (vx_hat (fun w h => htb w (inT_3 w h)) inU_3 (vx_c (va_Nw.use rfl hG.2.1.1) (vx_c (va_Nw.use rfl hG.1.2.1.2.2.1) (vx_c (va_Nw.use rfl hG.1.2.1.2.2.2.1) (vx_c (va_Nw.use rfl hG.1.2.1.2.2.2.2) vx_n))))) (fun w hw => ?_) hG.1.2.2.2.1 hG.1.2.2.2.2 hS (by rw [hml]; exact hl.1) dX12_get_39 dX12_get_42 dX12_get_43 dX12_get_46 (fun x hx9 => (hxt x hx9).elim) (Nat.le_of_ble_eq_true rfl) (Nat.le_trans (Nat.add_le_add_right (show _ ≤ 8 from (Nat.le_trans cs_n (by decide))) _) (Nat.le_of_ble_eq_true rfl)) (Nat.le_trans (gc_le (gm := gm) (k := 1) (j := 1) hIv_11) (Nat.le_of_ble_eq_true rfl)) (Nat.le_trans (gs_le (gm := gm) (k := 1) (j := 6) hIv_11) (Nat.le_of_ble_eq_true rfl)) hlocks (fun t ht1 hz2 hk2 hnb => ⟨⟨(a2, lx, sgv_11, gmv_11, lg), ⟨(Or.inr rfl), sgv_11, gmv_11, lg, rfl, hIv_11, (KS_tr (L := [13, 14, 15, 16, 17, 18]) (KS_tr (L := [13, 14, 15, 16, 17, 18]) KS_rf ksv_3 (by decide)) ksv_11 (by decide)), (KS_tr (L := [37, 38, 39, 48, 49, 50, 51, 52, 53]) KS_rf kgv_11 (by decide)), KS_rf, (Or.inr fMO_r_9), (fFN_r_9), ((by obtain ⟨_, S2, h1, h2⟩ := fO_r_9.resolve_left (fun ⟨S2, h1, h2, h3⟩ => absurd h3 (by have := i32_0; have := i32_1; have := i32_2; have := i32_m1; have := (hvx).1; have := (hvx).2; have := (h_5).1; have := (h_5).2; have := (h_15).1; have := (h_15).2; omega)); exact Or.inr ⟨rfl, (by have := i32_0; have := i32_1; have := i32_2; have := i32_m1; have := congrArg Int32.toInt (show sgv_11 1 = sgv_3 1 from ksv_11 1 (by decide)); have := congrArg Int32.toInt (show sgv_3 1 = sg 1 from ksv_3 1 (by decide)); have := (show iv 0 1 (sg 1) from CI_s hI 1).1; have := (show iv 0 1 (sg 1) from CI_s hI 1).2; have := (hvx).1; have := (hvx).2; have := (h_5).1; have := (h_5).2; have := (h_15).1; have := (h_15).2; omega), S2, (by rw [← fz_r_6]; exact h1), h2⟩))⟩, ⟨hP.kept (fun k q hq => hk2 _ (vx_lt hP hq)), va_K.moved ht1 hK, hD⟩, hm_12, NBw_w hnb (show gc gm gmv_11 1 + 1 ≤ gc gm gmv_11 (1 + 1) from (by unfold gc; omega)) (show gs gm gmv_11 1 + 6 ≤ gs gm gmv_11 (1 + 1) from (by unfold gs; omega))⟩, ⟨Nat.le_trans hS.1 hz2, fun q h1 h2 => (hk2 q (Nat.lt_of_lt_of_le h1 hS.1)).trans (hS.2.1 q h1 h2)⟩⟩) hS.2.2 (Nat.le_trans (gc_le (gm := gm) (k := 1) (j := 1) hIv_11) (Nat.le_of_ble_eq_true rfl)) (Nat.le_trans (gs_le (gm := gm) (k := 1) (j := 6) hIv_11) (Nat.le_of_ble_eq_true rfl))
      rcases List.mem_cons.mp hw with rfl | hw
      · rfl
      rcases List.mem_cons.mp hw with rfl | hw
      · rfl
      exact inV_3 w hw
  · have h_16 : iv 0 0 (sg 1) := iv_eq c_4 (show iv 0 1 (sg 1) from CI_s hI 1) (iv_k (by decide) : iv 0 0 0) (by decide)
    refine vx_throw1 (own := RX12) (cls := "java/lang/IllegalStateException") (names := ["java/lang/RuntimeException", "java/lang/Exception"]) (ik := 144) (ic := 146) (A := A) hx hb hl9 hown (by decide +kernel) (by decide +kernel) (htb _ kw_988) (htb _ kw_989) (vx_hat (fun w h => htb w (inT_2 w h)) inU_2 (vx_c (va_Nw.use rfl hG.1.2.1.2.1) (vx_c (va_Nw.use rfl hG.1.2.1.2.2.1) (vx_c (va_Nw.use rfl hG.1.2.1.2.2.2.1) (vx_c (va_Nw.use rfl hG.1.2.1.2.2.2.2) vx_n))))) (fun w hw => ?_) hG.1.2.2.2.1 hG.1.2.2.2.2 hS (by rw [hml]; exact hl.1) dX12_get_14 dX12_get_17 dX12_get_18 dX12_get_21 (fun x hx9 => (hxt x hx9).elim) (Nat.le_of_ble_eq_true rfl) (Nat.le_trans (Nat.add_le_add_right (show _ ≤ 8 from (Nat.le_trans cs_n (by decide))) _) (Nat.le_of_ble_eq_true rfl)) (Nat.le_trans (gc_le (gm := gm) (k := 0) (j := 1) hI) (Nat.le_of_ble_eq_true rfl)) (Nat.le_trans (gs_le (gm := gm) (k := 0) (j := 6) hI) (Nat.le_of_ble_eq_true rfl)) hlocks (fun t ht1 hz2 hk2 hnb => ⟨⟨(a2, lx, sgv_3, gm, lg), ⟨(Or.inl rfl), sgv_3, gm, lg, rfl, hIv_3, (KS_tr (L := [13, 14, 15, 16, 17, 18]) KS_rf ksv_3 (by decide)), KS_rf, KS_rf, (Or.inl (by have := i32_0; have := i32_1; have := i32_2; have := i32_m1; have := congrArg Int32.toInt (show sgv_3 1 = sg 1 from ksv_3 1 (by decide)); have := (show iv 0 1 (sg 1) from CI_s hI 1).1; have := (show iv 0 1 (sg 1) from CI_s hI 1).2; have := (hvx).1; have := (hvx).2; have := (h_16).1; have := (h_16).2; omega)), ((FND9_e hFN (show sgv_3 15 = sg 15 from (ksv_3 15 (by decide))) rfl)), (Or.inl ⟨rfl, by have := i32_0; have := i32_1; have := i32_2; have := i32_m1; have := congrArg Int32.toInt (show sgv_3 1 = sg 1 from ksv_3 1 (by decide)); have := (show iv 0 1 (sg 1) from CI_s hI 1).1; have := (show iv 0 1 (sg 1) from CI_s hI 1).2; have := (hvx).1; have := (hvx).2; have := (h_16).1; have := (h_16).2; omega, (RC_ks (L := [17, 18]) (M := []) hRC (KS_tr (L := [17, 18]) KS_rf ksv_3 (by decide)) KS_rf (by decide) (by decide))⟩)⟩, ⟨hP.kept (fun k q hq => hk2 _ (vx_lt hP hq)), va_K.moved ht1 hK, hD⟩, (Nat.le_refl _), NBw_w hnb (show gc gm gm 0 + 1 ≤ gc gm gm (1 + 1) from (by unfold gc; omega)) (show gs gm gm 0 + 6 ≤ gs gm gm (1 + 1) from (by unfold gs; omega))⟩, ⟨Nat.le_trans hS.1 hz2, fun q h1 h2 => (hk2 q (Nat.lt_of_lt_of_le h1 hS.1)).trans (hS.2.1 q h1 h2)⟩⟩) hS.2.2 (Nat.le_trans (gc_le (gm := gm) (k := 0) (j := 1) hI) (Nat.le_of_ble_eq_true rfl)) (Nat.le_trans (gs_le (gm := gm) (k := 0) (j := 6) hI) (Nat.le_of_ble_eq_true rfl))
    rcases List.mem_cons.mp hw with rfl | hw
    · rfl
    rcases List.mem_cons.mp hw with rfl | hw
    · rfl
    exact inV_2 w hw

set_option maxHeartbeats 4000000 in
set_option maxRecDepth 100000 in
theorem d_call9 (l : Launch) (dC : Nat → ClassId) (dI : Nat → Nat → Nat) (ad : Nat → Nat → Nat) (cid : Nat → ClassId) (a2 : Nat → Nat) (lx : List Nat) (sg : Nat → Int32) (gm : Nat → Nat → Int32) (lg : Nat → Nat → Int64) (hl9 : l.stackTraces = false) (x : Int32) (k : Int32) (wh : Int32) (wg : Nat → Nat → Int32) (ws : Nat → Int32) (S : S9) (hI : CI sg gm) (hvx : iv 0 0 x) (hDC : (sg 1).toInt = 0 ∨ (WRD sg gm lg ∧ MOK sg gm lg)) (hLD : LDI lx gm) (hFN : FND9 sg gm) (hSW : st9 gm = wg) (hSS : ss9 sg = ws) (hSV : (sg 1).toInt = 0 ∨ SV ws wg lg) (hRC : RC wg lg S sg gm) : CMg dC dI ad cid l yX12_call wm_X12_call ({ frames := 344, cells := 60962, slots := 243852, locals := 11087 }) [eV (ad 0) x, .int k, .int wh] a2 lx sg gm lg 1 60962 243852 (fun v u => ∃ r : Int32, v = some (.int r) ∧ ∃ (sg2 : Nat → Int32) (gm2 : Nat → Nat → Int32) (lg2 : Nat → Nat → Int64), u = (a2, lx, sg2, gm2, lg2) ∧ CI sg2 gm2 ∧ KS [13, 14, 15, 16, 17, 18] sg sg2 ∧ KS [37, 38, 39, 48, 49, 50, 51, 52, 53] gm gm2 ∧ KS [] lg lg2 ∧ (iv 0 59 r) ∧ ((sg 1).toInt = 0 ∨ MOK sg2 gm2 lg2) ∧ (FND9 sg2 gm2) ∧ (¬ (sg 1).toInt = 0 ∧ 0 ≤ zLk wg k.toInt wh.toInt S ∧ ∃ S2, zGt ws wg lg 40 (lg 2 (zLk wg k.toInt wh.toInt S).toNat) S = (some r.toInt, S2) ∧ RC wg lg S2 sg2 gm2)) (fun E u => (E = "java/lang/IllegalStateException" ∨ E = "java/lang/IndexOutOfBoundsException" ∨ E = "java/lang/UnsupportedOperationException") ∧ ∃ (sg2 : Nat → Int32) (gm2 : Nat → Nat → Int32) (lg2 : Nat → Nat → Int64), u = (a2, lx, sg2, gm2, lg2) ∧ CI sg2 gm2 ∧ KS [13, 14, 15, 16, 17, 18] sg sg2 ∧ KS [37, 38, 39, 48, 49, 50, 51, 52, 53] gm gm2 ∧ KS [] lg lg2 ∧ ((sg 1).toInt = 0 ∨ MOK sg2 gm2 lg2) ∧ (FND9 sg2 gm2) ∧ ((E = "java/lang/IllegalStateException" ∧ (sg 1).toInt = 0 ∧ RC wg lg S sg2 gm2) ∨ (E = "java/lang/IndexOutOfBoundsException" ∧ ¬ (sg 1).toInt = 0 ∧ zLk wg k.toInt wh.toInt S < 0 ∧ RC wg lg S sg2 gm2) ∨ (E = "java/lang/UnsupportedOperationException" ∧ ¬ (sg 1).toInt = 0 ∧ 0 ≤ zLk wg k.toInt wh.toInt S ∧ ∃ S2, zGt ws wg lg 40 (lg 2 (zLk wg k.toInt wh.toInt S).toNat) S = (none, S2) ∧ RC wg lg S2 sg2 gm2))) := by
  intro sz
  refine vx_ofW (cc := cX12_call) (maxL := 5) (ret := (some .int)) (by decide) rfl ?_
  intro p e s m args below meth c s₁ B hml hxt hv
  obtain ⟨rfl, hsz, hP, hK, hD0, hG⟩ := hv
  have hx := B.exec
  have hb := B.bytes
  have hr := B.returns
  have hts := atoms_spec (ws := wm_X12_call) B.pre
  have htb := fun (w : Cond) (h : w ∈ tb) => hts w (List.mem_cons_of_mem _ h)
  have hown : s.vm.findClass RX12 = some m.cls := findClass_of_methodNamed B.named
  have hlocks := B.notSynchronized
  subst hsz
  have hD := hD0.self (sz := s.heap.size)
  generalize hAe : va_A (cW ad cid a2 lx sg gm lg) s.heap.size = A at hD hG ⊢
  have hA : ∀ q : Nat, s.heap.size ≤ q → A q := fun q h => by rw [← hAe]; exact Or.inr h
  have hS : va_S A s.heap s.heap [] := va_S.rf
  have hl := lv_entry ([eV (ad 0) x, .int k, .int wh]) (n := 5) (by rw [show (lg_sl ([eV (ad 0) x, .int k, .int wh])).length = 3 from by simp [lg_sl, eV_cat, cat_i, cat_l]]; exact Nat.le_of_ble_eq_true rfl)
  rw [lg_entry_eq]
  generalize (lg_sl ([eV (ad 0) x, .int k, .int wh]) ++ List.replicate (5 - (lg_sl ([eV (ad 0) x, .int k, .int wh])).length) Slot.unset).toArray = ls at hl ⊢
  have hl : lv_has ls 5 [(0, eV (ad 0) x), (1, .int k), (2, .int wh)] := by simp [lv_args, eV_cat, cat_i, cat_l] at hl; exact hl
  refine W.widen (k := gc gm gm 0) (n := gs gm gm 0) (Nat.zero_le _) (Nat.zero_le _) ?_
  refine ec_aload_n hx hb dX12_call_0 rfl (lv_at hl 0 rfl) ?_
  refine cr_get (t := 0) (j := 7) (C := RX12) (T := TX12) (N := 12) (v := eV (ad 6) 0) hx hb htb inX12 hown hK hP hvx (by decide) (by decide) (by decide) rfl (by decide) (htb _ kw_41) (cV_c rfl (by decide) (by rw [show cMu 0 7 = 0 from rfl, Nat.zero_mul]; rfl)) dX12_call_1 ?_
  refine cm_callTV (t := 6) (C := RX5) (T := TX5) (N := 13) (rest := []) (as := []) ⟨hx, hb, hml, hown, htb⟩ (d_forgetFailure l dC dI ad cid a2 lx sg gm lg 0 hI (iv_k (by decide) : iv 0 0 0)) (cwV 0 htb (gd_V kw_992 kw_993 kw_994 kw_40 kw_1565) rfl rfl rfl (by decide +kernel) ⟨Nat.le_of_ble_eq_true rfl, Nat.le_of_ble_eq_true rfl⟩) (iv_k (by decide) : iv 0 0 0) (by decide) (by decide) rfl rfl hl.1 rfl (Nat.le_trans cs_n (by decide)) dX12_call_4 ⟨Nat.le_trans (gc_le hI) (Nat.le_of_ble_eq_true rfl), Nat.le_trans (gs_le hI) (Nat.le_of_ble_eq_true rfl)⟩ hK hP hD hS hA hG (fun E ce q9 u_2 H locs hw hP hD hS hce hcv hcl => ?_) (fun v9 u_2 H locs hw hP hD hS => ?_)
  · exact hw.elim
  obtain ⟨rfl, sgv_3, gmv_3, lgv_3, rfl, hIv_3, ksv_3, kgv_3, klv_3⟩ := hw
  obtain rfl := KS_nil kgv_3
  obtain rfl := KS_nil klv_3
  have hP : va_P (dC, dI) vwCl (cW ad cid a2 lx sgv_3 gm lg) H := hP
  have hD : va_D A (cW ad cid a2 lx sgv_3 gm lg) := hD
  refine W.eq (g2 := F0 m 7 ls []) rfl ?_
  refine ec_aload_n hx hb dX12_call_7 rfl (lv_at hl 0 rfl) ?_
  refine cr_get (t := 0) (j := 9) (C := RX12) (T := TX12) (N := 12) (v := .int (sgv_3 1)) hx hb htb inX12 hown hK hP hvx (by decide) (by decide) (by decide) rfl (by decide) (htb _ kw_312) rfl dX12_call_8 ?_
  refine W.eq (g2 := F0 m 11 ls [.int (sg 1)]) (by rw [show sgv_3 1 = sg 1 from (ksv_3 1 (by decide))]) ?_
  refine lv_if_ne (tgt := 22) hx hb dX12_call_11 (by decide) (fun c_4 => ?_) (fun c_4 => ?_)
  · have h_5 : iv 1 1 (sg 1) := iv_neL c_4 (show iv 0 1 (sg 1) from CI_s hI 1) (by decide)
    have hdc := hDC.resolve_left (by have := i32_0; have := i32_1; have := i32_2; have := i32_m1; have := congrArg Int32.toInt (show sgv_3 1 = sg 1 from ksv_3 1 (by decide)); have := (show iv 0 1 (sg 1) from CI_s hI 1).1; have := (show iv 0 1 (sg 1) from CI_s hI 1).2; have := (hvx).1; have := (hvx).2; have := (h_5).1; have := (h_5).2; omega)
    have hW := hdc.1
    have hMO := hdc.2
    have hSV := hSV.resolve_left (by have := i32_0; have := i32_1; have := i32_2; have := i32_m1; have := congrArg Int32.toInt (show sgv_3 1 = sg 1 from ksv_3 1 (by decide)); have := (show iv 0 1 (sg 1) from CI_s hI 1).1; have := (show iv 0 1 (sg 1) from CI_s hI 1).2; have := (hvx).1; have := (hvx).2; have := (h_5).1; have := (h_5).2; omega)
    refine ec_aload_n hx hb dX12_call_22 rfl (lv_at hl 0 rfl) ?_
    refine cr_get (t := 0) (j := 7) (C := RX12) (T := TX12) (N := 12) (v := eV (ad 6) 0) hx hb htb inX12 hown hK hP hvx (by decide) (by decide) (by decide) rfl (by decide) (htb _ kw_41) (cV_c rfl (by decide) (by rw [show cMu 0 7 = 0 from rfl, Nat.zero_mul]; rfl)) dX12_call_23 ?_
    refine lv_iload_n hx hb dX12_call_26 rfl (lv_at hl 1 rfl) ?_
    refine lv_iload_n hx hb dX12_call_27 rfl (lv_at hl 2 rfl) ?_
    refine cm_callTV (t := 6) (C := RX5) (T := TX5) (N := 13) (rest := []) (as := [.int k, .int wh]) ⟨hx, hb, hml, hown, htb⟩ (d_lookupOf9 l dC dI ad cid a2 lx sgv_3 gm lg 0 k wh wg S hIv_3 (iv_k (by decide) : iv 0 0 0) hLD hSW (RC_ks (L := [17, 18]) (M := []) hRC (KS_tr (L := [17, 18]) KS_rf ksv_3 (by decide)) KS_rf (by decide) (by decide))) (cwV 2 htb (gd_V kw_1288 kw_1289 kw_1290 kw_40 kw_1644) rfl rfl rfl (by decide +kernel) ⟨Nat.le_of_ble_eq_true rfl, Nat.le_of_ble_eq_true rfl⟩) (iv_k (by decide) : iv 0 0 0) (by decide) (by decide) rfl rfl hl.1 rfl (Nat.le_trans cs_n (by decide)) dX12_call_28 ⟨Nat.le_trans (gc_le hI) (Nat.le_of_ble_eq_true rfl), Nat.le_trans (gs_le hI) (Nat.le_of_ble_eq_true rfl)⟩ hK hP hD hS hA hG (fun E ce q9 u_7 H locs hw hP hD hS hce hcv hcl => ?_) (fun v9 u_7 H locs hw hP hD hS => ?_)
    · exact hw.elim
    obtain ⟨r_6, rfl, rfl, hr_6, fL_r_6⟩ := hw
    have hP : va_P (dC, dI) vwCl (cW ad cid a2 lx sgv_3 gm lg) H := hP
    have hD : va_D A (cW ad cid a2 lx sgv_3 gm lg) := hD
    refine W.eq (g2 := F0 m 31 ls [eV (ad 9) r_6]) rfl ?_
    refine ec_astore_n (i := 3) (lv' := [(3, eV (ad 9) r_6), (0, eV (ad 0) x), (1, .int k), (2, .int wh)]) hx hb dX12_call_31 rfl hl (by decide) rfl (fun ls hl => ?_)
    refine ec_aload_n hx hb dX12_call_32 rfl (lv_at hl 0 rfl) ?_
    refine ec_ifnonnull (tgt := 44) hx hb dX12_call_33 (by decide) (fun c_9 => ?_) (fun c_9 => ?_)
    · have h_10 : iv 0 79 r_6 := ⟨c_9, (hr_6).2⟩
      refine ec_aload_n hx hb dX12_call_44 rfl (lv_at hl 1 rfl) ?_
      refine cr_get (t := 0) (j := 7) (C := RX12) (T := TX12) (N := 12) (v := eV (ad 6) 0) hx hb htb inX12 hown hK hP hvx (by decide) (by decide) (by decide) rfl (by decide) (htb _ kw_41) (cV_c rfl (by decide) (by rw [show cMu 0 7 = 0 from rfl, Nat.zero_mul]; rfl)) dX12_call_45 ?_
      refine ec_aload_n hx hb dX12_call_48 rfl (lv_at hl 0 rfl) ?_
      refine cr_get (t := 9) (j := 12) (C := RX3) (T := TX3) (N := 21) (v := .long (lg 2 r_6.toNatClampNeg)) hx hb htb inX3 hown hK hP h_10 (by decide) (by decide) (by decide) rfl (by decide) (htb _ kw_1287) rfl dX12_call_49 ?_
      refine lv_topl (fun z_11 ez_11 => ?_)
      refine cm_callGVX (t := 6) (C := RX5) (T := TX5) (N := 13) (rest := []) (as := [.long z_11]) ⟨hx, hb, hml, hown, htb⟩ (d_objectCalled9 l dC dI ad cid a2 lx sgv_3 gm lg hl9 0 z_11 wg ws S hIv_3 (iv_k (by decide) : iv 0 0 0) (WRD_e hW (ksv_3 4 (by decide)) (ksv_3 12 (by decide)) rfl rfl rfl rfl rfl rfl rfl rfl rfl rfl rfl rfl rfl rfl rfl rfl rfl rfl) hLD (MOK_e hMO (show sgv_3 12 = sg 12 from (ksv_3 12 (by decide))) rfl rfl rfl rfl) (FND9_e hFN (show sgv_3 15 = sg 15 from (ksv_3 15 (by decide))) rfl) hSW ((ss9_ks (L := [17, 18]) (KS_tr (L := [17, 18]) KS_rf ksv_3 (by decide)) rfl rfl).trans hSS) hSV (RC_ks (L := [17, 18]) (M := []) hRC (KS_tr (L := [17, 18]) KS_rf ksv_3 (by decide)) KS_rf (by decide) (by decide))) (vx_cwVW 1 htb (gd_V kw_1271 kw_1272 kw_1273 kw_40 kw_1639) rfl rfl rfl (by decide +kernel) ⟨Nat.le_of_ble_eq_true rfl, Nat.le_of_ble_eq_true rfl⟩) (iv_k (by decide) : iv 0 0 0) (by decide) (by decide) rfl rfl hl.1 rfl (Nat.le_trans cs_n (by decide)) dX12_call_52 ⟨Nat.le_trans (gc_le hI) (Nat.le_of_ble_eq_true rfl), Nat.le_trans (gs_le hI) (Nat.le_of_ble_eq_true rfl)⟩ hK hP hD hS hA hG (fun E ce q9 u_13 H locs hw hmu hP hD hS hce hcv hcl => ?_) (fun v9 u_13 H locs hw hmu hP hD hS => ?_)
      · exact hw.elim
      obtain ⟨r_12, rfl, sgv_14, gmv_14, lgv_14, rfl, hIv_14, ksv_14, kgv_14, klv_14, hr_12, fMO_r_12, fFN_r_12, fO_r_12⟩ := hw
      obtain rfl := KS_nil klv_14
      have hP : va_P (dC, dI) vwCl (cW ad cid a2 lx sgv_14 gmv_14 lg) H := hP
      have hD : va_D A (cW ad cid a2 lx sgv_14 gmv_14 lg) := hD
      have hmu : PHs gm ≤ PHs gmv_14 := hmu
      rw [show (gc gm gm 0 + gc gm gmv_14 1) = gc gm gmv_14 1 from gc_t (Nat.le_refl _) hmu, show (gs gm gm 0 + gs gm gmv_14 1) = gs gm gmv_14 1 from gs_t (Nat.le_refl _) hmu]
      have hm_15 : PHs gm ≤ PHs gmv_14 := Nat.le_trans (Nat.le_refl _) hmu
      refine W.eq (g2 := F0 m 55 ls [.int r_12]) rfl ?_
      refine lv_istore (i := 4) (lv' := [(4, .int r_12), (3, eV (ad 9) r_6), (0, eV (ad 0) x), (1, .int k), (2, .int wh)]) hx hb dX12_call_55 hl (by decide) (by simp [List.filter, eV_cat, cat_i, cat_l]) (fun ls hl => ?_)
      refine lv_iload hx hb dX12_call_57 (lv_at hl 0 rfl) ?_
      refine lv_iconst (v := (-1)) hx hb dX12_call_59 (by decide) ?_
      refine lv_icmp_ne (tgt := 71) hx hb dX12_call_60 (by decide) (fun c_16 => ?_) (fun c_16 => ?_)
      · have h_17 : iv 0 59 r_12 := iv_neL c_16 hr_12 (by decide)
        refine lv_iload hx hb dX12_call_71 (lv_at hl 0 rfl) ?_
        exact W.nb (fun hN => W.widen (k := 60962) (n := 243852) (Nat.le_trans (gc_l0 (gm := gm) (k := 1) hIv_14) (Nat.le_of_ble_eq_true rfl)) (Nat.le_trans (gs_l0 (gm := gm) (k := 1) hIv_14) (Nat.le_of_ble_eq_true rfl)) (vx_ret (W.iret (v := r_12) hx hb hr (fun t ht hW => ⟨⟨some (.int r_12), (a2, lx, sgv_14, gmv_14, lg), rfl, ⟨r_12, rfl, sgv_14, gmv_14, lg, rfl, hIv_14, (KS_tr (L := [13, 14, 15, 16, 17, 18]) (KS_tr (L := [13, 14, 15, 16, 17, 18]) KS_rf ksv_3 (by decide)) ksv_14 (by decide)), (KS_tr (L := [37, 38, 39, 48, 49, 50, 51, 52, 53]) KS_rf kgv_14 (by decide)), KS_rf, h_17, (Or.inr fMO_r_12), (fFN_r_12), ((by obtain ⟨S2, h1, h2, _⟩ := fO_r_12.resolve_right (fun q8 => absurd q8.1 (by have := i32_0; have := i32_1; have := i32_2; have := i32_m1; have := (hvx).1; have := (hvx).2; have := (h_5).1; have := (h_5).2; have := (h_10).1; have := (h_10).2; have := (h_17).1; have := (h_17).2; omega)); exact ⟨(by have := i32_0; have := i32_1; have := i32_2; have := i32_m1; have := congrArg Int32.toInt (show sgv_14 1 = sgv_3 1 from ksv_14 1 (by decide)); have := congrArg Int32.toInt (show sgv_3 1 = sg 1 from ksv_3 1 (by decide)); have := (show iv 0 1 (sg 1) from CI_s hI 1).1; have := (show iv 0 1 (sg 1) from CI_s hI 1).2; have := (hvx).1; have := (hvx).2; have := (h_5).1; have := (h_5).2; have := (h_10).1; have := (h_10).2; have := (h_17).1; have := (h_17).2; omega), (by rw [← fL_r_6]; exact (h_10).1), S2, (by rw [(show lg 2 (zLk wg k.toInt wh.toInt S).toNat = z_11 from (by rw [← fL_r_6, ez_11]; rfl))]; exact h1), h2⟩))⟩, ⟨by rw [ht]; exact hP, va_K.moved hW.alike hK, hD⟩, hm_15, by rw [ht]; exact hN⟩, hS.F ht⟩) hS.2.2 dX12_call_73)))
      · have h_18 : iv (-1) (-1) r_12 := iv_eq c_16 hr_12 (iv_k (by decide) : iv (-1) (-1) (-1)) (by decide)
        refine vx_throw1 (own := RX12) (cls := "java/lang/UnsupportedOperationException") (names := ["java/lang/RuntimeException", "java/lang/Exception"]) (ik := 151) (ic := 153) (A := A) hx hb hl9 hown (by decide +kernel) (by decide +kernel) (htb _ kw_990) (htb _ kw_991) (vx_hat (fun w h => htb w (inT_3 w h)) inU_3 (vx_c (va_Nw.use rfl hG.2.1.1) (vx_c (va_Nw.use rfl hG.1.2.1.2.2.1) (vx_c (va_Nw.use rfl hG.1.2.1.2.2.2.1) (vx_c (va_Nw.use rfl hG.1.2.1.2.2.2.2) vx_n))))) (fun w hw => ?_) hG.1.2.2.2.1 hG.1.2.2.2.2 hS (by rw [hml]; exact hl.1) dX12_call_63 dX12_call_66 dX12_call_67 dX12_call_70 (fun x hx9 => (hxt x hx9).elim) (Nat.le_of_ble_eq_true rfl) (Nat.le_trans (Nat.add_le_add_right (show _ ≤ 8 from (Nat.le_trans cs_n (by decide))) _) (Nat.le_of_ble_eq_true rfl)) (Nat.le_trans (gc_le (gm := gm) (k := 1) (j := 1) hIv_14) (Nat.le_of_ble_eq_true rfl)) (Nat.le_trans (gs_le (gm := gm) (k := 1) (j := 6) hIv_14) (Nat.le_of_ble_eq_true rfl)) hlocks (fun t ht1 hz2 hk2 hnb => ⟨⟨(a2, lx, sgv_14, gmv_14, lg), ⟨(Or.inr (Or.inr rfl)), sgv_14, gmv_14, lg, rfl, hIv_14, (KS_tr (L := [13, 14, 15, 16, 17, 18]) (KS_tr (L := [13, 14, 15, 16, 17, 18]) KS_rf ksv_3 (by decide)) ksv_14 (by decide)), (KS_tr (L := [37, 38, 39, 48, 49, 50, 51, 52, 53]) KS_rf kgv_14 (by decide)), KS_rf, (Or.inr fMO_r_12), (fFN_r_12), ((by obtain ⟨_, S2, h1, h2⟩ := fO_r_12.resolve_left (fun ⟨S2, h1, h2, h3⟩ => absurd h3 (by have := i32_0; have := i32_1; have := i32_2; have := i32_m1; have := (hvx).1; have := (hvx).2; have := (h_5).1; have := (h_5).2; have := (h_10).1; have := (h_10).2; have := (h_18).1; have := (h_18).2; omega)); exact Or.inr (Or.inr ⟨rfl, (by have := i32_0; have := i32_1; have := i32_2; have := i32_m1; have := congrArg Int32.toInt (show sgv_14 1 = sgv_3 1 from ksv_14 1 (by decide)); have := congrArg Int32.toInt (show sgv_3 1 = sg 1 from ksv_3 1 (by decide)); have := (show iv 0 1 (sg 1) from CI_s hI 1).1; have := (show iv 0 1 (sg 1) from CI_s hI 1).2; have := (hvx).1; have := (hvx).2; have := (h_5).1; have := (h_5).2; have := (h_10).1; have := (h_10).2; have := (h_18).1; have := (h_18).2; omega), (by rw [← fL_r_6]; exact (h_10).1), S2, (by rw [(show lg 2 (zLk wg k.toInt wh.toInt S).toNat = z_11 from (by rw [← fL_r_6, ez_11]; rfl))]; exact h1), h2⟩)))⟩, ⟨hP.kept (fun k q hq => hk2 _ (vx_lt hP hq)), va_K.moved ht1 hK, hD⟩, hm_15, NBw_w hnb (show gc gm gmv_14 1 + 1 ≤ gc gm gmv_14 (1 + 1) from (by unfold gc; omega)) (show gs gm gmv_14 1 + 6 ≤ gs gm gmv_14 (1 + 1) from (by unfold gs; omega))⟩, ⟨Nat.le_trans hS.1 hz2, fun q h1 h2 => (hk2 q (Nat.lt_of_lt_of_le h1 hS.1)).trans (hS.2.1 q h1 h2)⟩⟩) hS.2.2 (Nat.le_trans (gc_le (gm := gm) (k := 1) (j := 1) hIv_14) (Nat.le_of_ble_eq_true rfl)) (Nat.le_trans (gs_le (gm := gm) (k := 1) (j := 6) hIv_14) (Nat.le_of_ble_eq_true rfl))
        rcases List.mem_cons.mp hw with rfl | hw
        · rfl
        rcases List.mem_cons.mp hw with rfl | hw
        · rfl
        exact inV_3 w hw
    · have h_19 : iv (-1) (-1) r_6 := ⟨(hr_6).1, by omega⟩
      refine vx_throw1 (own := RX12) (cls := "java/lang/IndexOutOfBoundsException") (names := ["java/lang/RuntimeException", "java/lang/Exception"]) (ik := 169) (ic := 171) (A := A) hx hb hl9 hown (by decide +kernel) (by decide +kernel) (htb _ kw_1285) (htb _ kw_1286) (vx_hat (fun w h => htb w (inT_5 w h)) inU_5 (vx_c (va_Nw.use rfl hG.2.1.2.1) (vx_c (va_Nw.use rfl hG.1.2.1.2.2.1) (vx_c (va_Nw.use rfl hG.1.2.1.2.2.2.1) (vx_c (va_Nw.use rfl hG.1.2.1.2.2.2.2) vx_n))))) (fun w hw => ?_) hG.1.2.2.2.1 hG.1.2.2.2.2 hS (by rw [hml]; exact hl.1) dX12_call_36 dX12_call_39 dX12_call_40 dX12_call_43 (fun x hx9 => (hxt x hx9).elim) (Nat.le_of_ble_eq_true rfl) (Nat.le_trans (Nat.add_le_add_right (show _ ≤ 8 from (Nat.le_trans cs_n (by decide))) _) (Nat.le_of_ble_eq_true rfl)) (Nat.le_trans (gc_le (gm := gm) (k := 0) (j := 1) hI) (Nat.le_of_ble_eq_true rfl)) (Nat.le_trans (gs_le (gm := gm) (k := 0) (j := 6) hI) (Nat.le_of_ble_eq_true rfl)) hlocks (fun t ht1 hz2 hk2 hnb => ⟨⟨(a2, lx, sgv_3, gm, lg), ⟨(Or.inr (Or.inl rfl)), sgv_3, gm, lg, rfl, hIv_3, (KS_tr (L := [13, 14, 15, 16, 17, 18]) KS_rf ksv_3 (by decide)), KS_rf, KS_rf, (Or.inr (MOK_e hMO (show sgv_3 12 = sg 12 from (ksv_3 12 (by decide))) rfl rfl rfl rfl)), ((FND9_e hFN (show sgv_3 15 = sg 15 from (ksv_3 15 (by decide))) rfl)), (Or.inr (Or.inl ⟨rfl, by have := i32_0; have := i32_1; have := i32_2; have := i32_m1; have := congrArg Int32.toInt (show sgv_3 1 = sg 1 from ksv_3 1 (by decide)); have := (show iv 0 1 (sg 1) from CI_s hI 1).1; have := (show iv 0 1 (sg 1) from CI_s hI 1).2; have := (hvx).1; have := (hvx).2; have := (h_5).1; have := (h_5).2; have := (h_19).1; have := (h_19).2; omega, (by rw [← fL_r_6]; have := i32_0; have := i32_1; have := i32_2; have := i32_m1; have := (hvx).1; have := (hvx).2; have := (h_5).1; have := (h_5).2; have := (h_19).1; have := (h_19).2; have := (h_19).2; omega), (RC_ks (L := [17, 18]) (M := []) hRC (KS_tr (L := [17, 18]) KS_rf ksv_3 (by decide)) KS_rf (by decide) (by decide))⟩))⟩, ⟨hP.kept (fun k q hq => hk2 _ (vx_lt hP hq)), va_K.moved ht1 hK, hD⟩, (Nat.le_refl _), NBw_w hnb (show gc gm gm 0 + 1 ≤ gc gm gm (1 + 1) from (by unfold gc; omega)) (show gs gm gm 0 + 6 ≤ gs gm gm (1 + 1) from (by unfold gs; omega))⟩, ⟨Nat.le_trans hS.1 hz2, fun q h1 h2 => (hk2 q (Nat.lt_of_lt_of_le h1 hS.1)).trans (hS.2.1 q h1 h2)⟩⟩) hS.2.2 (Nat.le_trans (gc_le (gm := gm) (k := 0) (j := 1) hI) (Nat.le_of_ble_eq_true rfl)) (Nat.le_trans (gs_le (gm := gm) (k := 0) (j := 6) hI) (Nat.le_of_ble_eq_true rfl))
      rcases List.mem_cons.mp hw with rfl | hw
      · rfl
      rcases List.mem_cons.mp hw with rfl | hw
      · rfl
      exact inV_5 w hw
  · have h_20 : iv 0 0 (sg 1) := iv_eq c_4 (show iv 0 1 (sg 1) from CI_s hI 1) (iv_k (by decide) : iv 0 0 0) (by decide)
    refine vx_throw1 (own := RX12) (cls := "java/lang/IllegalStateException") (names := ["java/lang/RuntimeException", "java/lang/Exception"]) (ik := 144) (ic := 146) (A := A) hx hb hl9 hown (by decide +kernel) (by decide +kernel) (htb _ kw_988) (htb _ kw_989) (vx_hat (fun w h => htb w (inT_2 w h)) inU_2 (vx_c (va_Nw.use rfl hG.1.2.1.2.1) (vx_c (va_Nw.use rfl hG.1.2.1.2.2.1) (vx_c (va_Nw.use rfl hG.1.2.1.2.2.2.1) (vx_c (va_Nw.use rfl hG.1.2.1.2.2.2.2) vx_n))))) (fun w hw => ?_) hG.1.2.2.2.1 hG.1.2.2.2.2 hS (by rw [hml]; exact hl.1) dX12_call_14 dX12_call_17 dX12_call_18 dX12_call_21 (fun x hx9 => (hxt x hx9).elim) (Nat.le_of_ble_eq_true rfl) (Nat.le_trans (Nat.add_le_add_right (show _ ≤ 8 from (Nat.le_trans cs_n (by decide))) _) (Nat.le_of_ble_eq_true rfl)) (Nat.le_trans (gc_le (gm := gm) (k := 0) (j := 1) hI) (Nat.le_of_ble_eq_true rfl)) (Nat.le_trans (gs_le (gm := gm) (k := 0) (j := 6) hI) (Nat.le_of_ble_eq_true rfl)) hlocks (fun t ht1 hz2 hk2 hnb => ⟨⟨(a2, lx, sgv_3, gm, lg), ⟨(Or.inl rfl), sgv_3, gm, lg, rfl, hIv_3, (KS_tr (L := [13, 14, 15, 16, 17, 18]) KS_rf ksv_3 (by decide)), KS_rf, KS_rf, (Or.inl (by have := i32_0; have := i32_1; have := i32_2; have := i32_m1; have := congrArg Int32.toInt (show sgv_3 1 = sg 1 from ksv_3 1 (by decide)); have := (show iv 0 1 (sg 1) from CI_s hI 1).1; have := (show iv 0 1 (sg 1) from CI_s hI 1).2; have := (hvx).1; have := (hvx).2; have := (h_20).1; have := (h_20).2; omega)), ((FND9_e hFN (show sgv_3 15 = sg 15 from (ksv_3 15 (by decide))) rfl)), (Or.inl ⟨rfl, by have := i32_0; have := i32_1; have := i32_2; have := i32_m1; have := congrArg Int32.toInt (show sgv_3 1 = sg 1 from ksv_3 1 (by decide)); have := (show iv 0 1 (sg 1) from CI_s hI 1).1; have := (show iv 0 1 (sg 1) from CI_s hI 1).2; have := (hvx).1; have := (hvx).2; have := (h_20).1; have := (h_20).2; omega, (RC_ks (L := [17, 18]) (M := []) hRC (KS_tr (L := [17, 18]) KS_rf ksv_3 (by decide)) KS_rf (by decide) (by decide))⟩)⟩, ⟨hP.kept (fun k q hq => hk2 _ (vx_lt hP hq)), va_K.moved ht1 hK, hD⟩, (Nat.le_refl _), NBw_w hnb (show gc gm gm 0 + 1 ≤ gc gm gm (1 + 1) from (by unfold gc; omega)) (show gs gm gm 0 + 6 ≤ gs gm gm (1 + 1) from (by unfold gs; omega))⟩, ⟨Nat.le_trans hS.1 hz2, fun q h1 h2 => (hk2 q (Nat.lt_of_lt_of_le h1 hS.1)).trans (hS.2.1 q h1 h2)⟩⟩) hS.2.2 (Nat.le_trans (gc_le (gm := gm) (k := 0) (j := 1) hI) (Nat.le_of_ble_eq_true rfl)) (Nat.le_trans (gs_le (gm := gm) (k := 0) (j := 6) hI) (Nat.le_of_ble_eq_true rfl))
    rcases List.mem_cons.mp hw with rfl | hw
    · rfl
    rcases List.mem_cons.mp hw with rfl | hw
    · rfl
    exact inV_2 w hw
end
section
/-- the reference's rows that making leaves as they are -/
def dynR : List Nat := [53, 54, 55, 56, 57, 58, 59, 60, 61, 62, 64, 65, 66, 67, 68, 69, 70, 71, 72, 73, 75]
def rt9 (gm : Nat → Nat → Int32) : Nat → Nat → Int32 := fun k => if dynR.contains k = true then (fun _ => 0) else gm k
def rs9 (sg : Nat → Int32) : Nat → Int32 := fun k => if k = 24 ∨ k = 41 then sg k else 0
theorem rt9_e {gm : Nat → Nat → Int32} {k : Nat} (h : dynR.contains k = false) : rt9 gm k = gm k := by unfold rt9; rw [h]; rfl
theorem rt9_ks {gm gm2 : Nat → Nat → Int32} {L : List Nat} (h : KS L gm gm2) (hL : L.all (fun k => dynR.contains k) = true) : rt9 gm2 = rt9 gm := by
  funext k
  unfold rt9
  by_cases q : dynR.contains k = true
  · rw [if_pos q, if_pos q]
  · rw [if_neg q, if_neg q]
    refine h k ?_
    cases hk : L.contains k with
    | false => rfl
    | true => exact absurd (List.all_eq_true.mp hL k (List.contains_iff_mem.mp hk)) q
theorem rs9_ks {sg sg2 : Nat → Int32} {L : List Nat} (h : KS L sg sg2) (h4 : L.contains 24 = false) (h12 : L.contains 41 = false) : rs9 sg2 = rs9 sg := by
  funext k
  unfold rs9
  by_cases q : k = 24 ∨ k = 41
  · rw [if_pos q, if_pos q]
    rcases q with rfl | rfl
    · exact h 24 h4
    · exact h 41 h12
  · rw [if_neg q, if_neg q]
theorem rw9 {gm rg : Nat → Nat → Int32} (h : rt9 gm = rg) (k : Nat) (hk : dynR.contains k = false) (i : Nat) : rg k i = gm k i := by rw [← h, rt9_e hk]
theorem rwt9 {gm rg : Nat → Nat → Int32} (h : rt9 gm = rg) {k i : Nat} {z : Int32} (e : z = gm k i) (hk : dynR.contains k = false) : rg k i = z := (rw9 h k hk i).trans e.symm
theorem rs9_41 {sg rs : Nat → Int32} (h : rs9 sg = rs) : rs 41 = sg 41 := by rw [← h]; rfl
theorem DK_r {sg rs : Nat → Int32} {gm rg : Nat → Nat → Int32} {lg : Nat → Nat → Int64} (h : rt9 gm = rg) (hs : rs9 sg = rs) : DK sg gm lg rs rg lg := by
  subst h; subst hs
  exact ⟨⟨rfl, rfl, rfl, rfl, rfl, rfl, rfl, rfl, rfl⟩, rfl, rfl, rfl⟩
/-- scope one, of beans -/
abbrev one9 (wg : Nat → Nat → Int32) (wl : Nat → Nat → Int64) (b : Nat) : Prop := ¬ wl 4 b = 0 ∧ wg 35 b = 0
def RRo (S : S9) (sg : Nat → Int32) (gm : Nat → Nat → Int32) : Prop := (sg 48).toInt = ((zO S).length : Int) ∧ ∀ k o, (zO S)[k]? = some o → (gm 53 k).toInt = o.1 ∧ (gm 54 k).toInt = o.2
def RRe (S : S9) (sg : Nat → Int32) (gm : Nat → Nat → Int32) : Prop := (sg 49).toInt = ((zE S).length : Int) ∧ ∀ k e, (zE S)[k]? = some e → (gm 55 k).toInt = e.1 ∧ (gm 56 k).toInt = e.2.1 ∧ (gm 57 k).toInt = e.2.2.1 ∧ (gm 58 k).toInt = e.2.2.2
def RRb (wg : Nat → Nat → Int32) (wl : Nat → Nat → Int64) (S : S9) (sg : Nat → Int32) (gm : Nat → Nat → Int32) : Prop := ∀ b, b < (sg 41).toNatClampNeg → (zS S b = 1 ↔ ¬ gm 62 b = 0) ∧ (one9 wg wl b → (zS S b = 2 ↔ ¬ gm 61 b = 0) ∧ (gm 60 b).toInt = (if zS S b = 0 then -1 else zW S b)) ∧ zS S b ≤ 2
def RRf (wg : Nat → Nat → Int32) (wl : Nat → Nat → Int64) (S : S9) (sg : Nat → Int32) (gm : Nat → Nat → Int32) : Prop := (sg 50).toInt = ((zF S).length : Int) ∧ (∀ (k b : Nat), (zF S)[k]? = some b → (gm 59 k).toInt = (b : Int) ∧ b < (sg 41).toNatClampNeg ∧ one9 wg wl b ∧ zS S b = 2) ∧ (zF S).Nodup
def RR (wg : Nat → Nat → Int32) (wl : Nat → Nat → Int64) (S : S9) (sg : Nat → Int32) (gm : Nat → Nat → Int32) : Prop := RRo S sg gm ∧ RRe S sg gm ∧ RRb wg wl S sg gm ∧ RRf wg wl S sg gm
def rq9 : List Nat := [53, 54, 55, 56, 57, 58, 59, 60, 61, 62]
theorem RR_ks {wg : Nat → Nat → Int32} {wl : Nat → Nat → Int64} {S : S9} {sg sg2 : Nat → Int32} {gm gm2 : Nat → Nat → Int32} {L M : List Nat} (h : RR wg wl S sg gm) (hs : KS L sg sg2) (hg : KS M gm gm2) (hL : [41, 48, 49, 50].all (fun k => !L.contains k) = true) (hM : rq9.all (fun k => !M.contains k) = true) : RR wg wl S sg2 gm2 := by
  have f : ∀ k, k ∈ [41, 48, 49, 50] → sg2 k = sg k := fun k hk => hs k (by
    have := List.all_eq_true.mp hL k hk
    simpa using this)
  have g : ∀ k, k ∈ rq9 → gm2 k = gm k := fun k hk => hg k (by
    have := List.all_eq_true.mp hM k hk
    simpa using this)
  obtain ⟨a, b, c, d⟩ := h
  unfold RRo at a; unfold RRe at b; unfold RRb at c; unfold RRf at d
  unfold RR RRo RRe RRb RRf
  rw [f 41 (by decide), f 48 (by decide), f 49 (by decide), f 50 (by decide), g 53 (by decide), g 54 (by decide), g 55 (by decide), g 56 (by decide), g 57 (by decide), g 58 (by decide), g 59 (by decide), g 60 (by decide), g 61 (by decide), g 62 (by decide)]
  exact ⟨a, b, c, d⟩
theorem RR_full {wg : Nat → Nat → Int32} {wl : Nat → Nat → Int64} {S : S9} {sg : Nat → Int32} {gm : Nat → Nat → Int32} {e : Ev9} (h : RR wg wl S sg gm) (hf : 400 ≤ (sg 49).toInt) : RR wg wl (zAdd S e) sg gm := by
  have h1 := h.2.1.1
  have : zAdd S e = S := by unfold zAdd; rw [if_pos (by omega)]
  rw [this]; exact h
theorem RR_ev {wg : Nat → Nat → Int32} {wl : Nat → Nat → Int64} {S : S9} {sg sg2 : Nat → Int32} {gm gm2 : Nat → Nat → Int32} {a b c d : Int32} {i0 i1 i2 i3 : Nat} (h : RR wg wl S sg gm) (hs : KS [49] sg sg2) (hg : KS [55, 56, 57, 58] gm gm2) (hlt : (sg 49).toInt < 400) (h13 : (sg2 49).toInt = (sg 49).toInt + 1) (h5 : gm2 55 = upd (gm 55) i0 a) (h6 : gm2 56 = upd (gm 56) i1 b) (h7 : gm2 57 = upd (gm 57) i2 c) (h8 : gm2 58 = upd (gm 58) i3 d) (e0 : (i0 : Int) = (sg 49).toInt) (e1 : i1 = i0) (e2 : i2 = i0) (e3 : i3 = i0) : RR wg wl (zAdd S (a.toInt, b.toInt, c.toInt, d.toInt)) sg2 gm2 := by
  obtain ⟨ho, he, hb, hf⟩ := h
  have h1 := he.1
  have hz : zAdd S (a.toInt, b.toInt, c.toInt, d.toInt) = (zO S, zE S ++ [(a.toInt, b.toInt, c.toInt, d.toInt)], zS S, zW S, zF S) := by unfold zAdd; rw [if_neg (by omega)]
  rw [hz]
  have s41 := hs 41 (by decide); have s48 := hs 48 (by decide); have s50 := hs 50 (by decide)
  have g53 := hg 53 (by decide); have g54 := hg 54 (by decide); have g59 := hg 59 (by decide); have g60 := hg 60 (by decide); have g61 := hg 61 (by decide); have g62 := hg 62 (by decide)
  subst e1; subst e2; subst e3
  refine ⟨?_, ?_, ?_, ?_⟩
  · unfold RRo; rw [s48, g53, g54]; exact ho
  · refine ⟨by rw [h13, h1]; show _ = ((zE S ++ [_]).length : Int); rw [List.length_append]; rfl, ?_⟩
    intro k e hk
    have hk : (zE S ++ [(a.toInt, b.toInt, c.toInt, d.toInt)])[k]? = some e := hk
    rw [h5, h6, h7, h8]
    rcases ga9 hk with ⟨hl, hk⟩ | ⟨hl, hk⟩
    · rw [upd_ne (by omega), upd_ne (by omega), upd_ne (by omega), upd_ne (by omega)]
      exact he.2 k e hk
    · subst hk
      have e9 : k = i3 := by omega
      subst e9
      rw [upd_at, upd_at, upd_at, upd_at]
      exact ⟨rfl, rfl, rfl, rfl⟩
  · unfold RRb; rw [s41, g60, g61, g62]; exact hb
  · unfold RRf; rw [s41, s50, g59]; exact hf
theorem RR_cl {wg : Nat → Nat → Int32} {wl : Nat → Nat → Int64} {S : S9} {sg : Nat → Int32} {gm : Nat → Nat → Int32} {nb : Int32} (h : RR wg wl S sg gm) (h0 : 0 ≤ nb.toInt) (hl : nb.toInt < ((zO S).length : Int)) : (((zO S)[nb.toInt.toNat]?).getD (0, 0)).1 = (gm 53 nb.toNatClampNeg).toInt ∧ (((zO S)[nb.toInt.toNat]?).getD (0, 0)).2 = (gm 54 nb.toNatClampNeg).toInt := by
  have hk : nb.toInt.toNat < (zO S).length := by omega
  have h2 := h.1.2 nb.toInt.toNat _ (List.getElem?_eq_getElem hk)
  rw [List.getElem?_eq_getElem hk]
  exact ⟨h2.1.symm, h2.2.symm⟩
/-- the declared classes, on both sides -/
def CL9 (wg rg : Nat → Nat → Int32) (c : Nat) : Prop := (wg 2 c).toInt = (c : Int) ∧ (rg 6 c).toInt = (wg 4 c).toInt ∧ (rg 7 c).toInt = (wg 0 c).toInt ∧ (rg 13 c).toInt = (wg 1 c).toInt
  ∧ (∀ i, i < (wg 0 c).toNatClampNeg → (rg 8 (4 * c + i)).toInt = (wg 7 (8 * c + i)).toInt ∧ (∀ p, p < (wg 7 (8 * c + i)).toNatClampNeg → (rg 9 (3 * (4 * c + i) + p)).toInt = (wg 54 (3 * (8 * c + i) + p)).toInt) ∧ (wg 8 (8 * c + i)).toInt = -1 ∧ (wg 9 (8 * c + i)).toInt = 0 ∧ (wg 10 (8 * c + i)).toInt = (c : Int) ∧ (wg 6 (8 * c + i)).toInt = (i : Int))
  ∧ (∀ i, i < (wg 1 c).toNatClampNeg → (rg 14 (4 * c + i)).toInt = (wg 8 (8 * c + 4 + i)).toInt ∧ (rg 18 (4 * c + i)).toInt = (wg 9 (8 * c + 4 + i)).toInt ∧ (rg 15 (4 * c + i)).toInt = (wg 10 (8 * c + 4 + i)).toInt ∧ (rg 16 (4 * c + i)).toInt = (wg 7 (8 * c + 4 + i)).toInt ∧ (∀ p, p < (wg 7 (8 * c + 4 + i)).toNatClampNeg → (rg 17 (3 * (4 * c + i) + p)).toInt = (wg 54 (3 * (8 * c + 4 + i) + p)).toInt) ∧ (wg 5 (8 * c + 4 + i)).toInt = (c : Int) ∧ (wg 6 (8 * c + 4 + i)).toInt = (i : Int) ∧ 0 ≤ (wg 8 (8 * c + 4 + i)).toInt)
  ∧ (∀ k, k < (rg 10 c).toNatClampNeg → (wg 55 (26 * c + (rg 11 (8 * c + k)).toNatClampNeg)).toInt = (rg 12 (8 * c + k)).toInt)
  ∧ (∀ n, n < 26 → (∀ k, k < (rg 10 c).toNatClampNeg → ¬ (rg 11 (8 * c + k)).toNatClampNeg = n) → (wg 55 (26 * c + n)).toInt = -1)
def CLS9 (wg rg : Nat → Nat → Int32) : Prop := ∀ c, c < 8 → CL9 wg rg c
/-- valid types -/
abbrev ty9 (t : Int) : Prop := (0 ≤ t ∧ t ≤ 4) ∨ 8 ≤ t
end
section
/-- a text as a number, as a truth -/
def dgF : List Int → Int → Option Int
  | [], a => some a
  | x :: l, a => if 48 ≤ x ∧ x ≤ 57 then dgF l (a * 10 + (x - 48)) else none
def ng9 (T : List Int) : Bool := decide (T.head? = some 45)
def nuL (T : List Int) : Option Int :=
  if (if ng9 T = true then T.drop 1 else T).length = 0 ∨ 10 < (if ng9 T = true then T.drop 1 else T).length then none
  else match dgF (if ng9 T = true then T.drop 1 else T) 0 with
    | none => none
    | some v => if -2147483648 ≤ (if ng9 T = true then -v else v) ∧ (if ng9 T = true then -v else v) ≤ 2147483647 then some (if ng9 T = true then -v else v) else none
def trL (T : List Int) : Int := if T = [116, 114, 117, 101] then 1 else if T = [102, 97, 108, 115, 101] then 0 else -1
/-- a source of the reference bears these characters -/
def SRq (rg : Nat → Nat → Int32) (s : Int32) (T : List Int) : Prop := T.length ≤ 24 ∧ (∀ x, x ∈ T → 1 ≤ x ∧ x ≤ 126) ∧ ((0 ≤ s.toInt ∧ s.toInt ≤ 959 ∧ (rg 37 s.toNatClampNeg).toInt = (T.length : Int) ∧ (∀ i x, T[i]? = some x → (rg 38 ((rg 36 s.toNatClampNeg).toNatClampNeg + i)).toInt = x)) ∨ (1000 ≤ s.toInt ∧ s.toInt ≤ 1079 ∧ (rg 31 (s.toInt - 1000).toNat).toInt = (T.length : Int) ∧ (∀ i x, T[i]? = some x → (rg 39 (24 * (s.toInt - 1000).toNat + i)).toInt = x)))
/-- the class's rows of a content that is a text -/
def TXT9 (wg : Nat → Nat → Int32) (wl : Nat → Nat → Int64) (c : Nat) (T : List Int) : Prop := (wg 11 c).toInt = (T.length : Int) ∧ (wl 3 c).toInt = (nuL T).getD 1099511627776 ∧ (wg 21 c).toInt = trL T ∧ (∀ x, T = [x] → (wg 56 (24 * c)).toInt = x)
/-- value and kind of the reference against what is worked out -/
def VR9 (wg : Nat → Nat → Int32) (wl : Nat → Nat → Int64) (rg : Nat → Nat → Int32) (ob : List Ob9) (c : Nat) (V : List Int) (kd v : Int32) : Prop :=
  ((wg 25 c).toInt = 7 ∧ kd.toInt = 0 ∧ ∃ T, SRq rg v T ∧ TXT9 wg wl c T) ∨ ((wg 25 c).toInt = 9 ∧ kd.toInt = 2) ∨ ((wg 25 c).toInt = 6 ∧ kd.toInt = 3 ∧ v.toInt = (wg 18 c).toInt) ∨ (((wg 25 c).toInt = 8 ∨ (wg 25 c).toInt = 2) ∧ kd.toInt = 1 ∧ V = [v.toInt] ∧ 0 ≤ v.toInt ∧ v.toInt < (ob.length : Int))
def IT1 (rg : Nat → Nat → Int32) (kd v : Int32) (x : Int) : Prop := (kd.toInt = 0 ∧ ∃ T, SRq rg v T ∧ x = 1000 + (T.length : Int)) ∨ (kd.toInt = 2 ∧ x = -1) ∨ (kd.toInt = 1 ∧ x = 3000 + v.toInt)
end
section
section FU9
variable {wg : Nat → Nat → Int32}
theorem sgF_fu {nm : Nat} (hp : ∀ c : Nat, c < 8 → (wg 4 c).toInt < (c : Int)) : ∀ (f g : Nat) (c : Int), c < (f : Int) → c < (g : Int) → c < 8 → sgF wg nm f c = sgF wg nm g c := by
  intro f
  induction f with
  | zero => intro g c h1 h2 h3; rw [sgF_o (by omega), sgF_o (by omega)]
  | succ f ih =>
    intro g c h1 h2 h3
    by_cases hc : c < 0
    · rw [sgF_o hc, sgF_o hc]
    · obtain ⟨k, rfl⟩ : ∃ k, g = k + 1 := ⟨g - 1, by omega⟩
      show (if c < 0 then (-1 : Int) else if _ then _ else _) = (if c < 0 then (-1 : Int) else if _ then _ else _)
      have h4 := hp c.toNat (by omega)
      rw [ih k (wg 4 c.toNat).toInt (by omega) (by omega) (by omega)]
theorem stF_fu {o : Int} (hp : ∀ c : Nat, c < 8 → (wg 4 c).toInt < (c : Int)) : ∀ (f g : Nat) (c u : Int), c < (f : Int) → c < (g : Int) → c < 8 → stF wg o f c u = stF wg o g c u := by
  intro f
  induction f with
  | zero => intro g c u h1 h2 h3; rw [stF_o (by omega), stF_o (by omega)]
  | succ f ih =>
    intro g c u h1 h2 h3
    by_cases hc : c < 0
    · rw [stF_o hc, stF_o hc]
    · obtain ⟨k, rfl⟩ : ∃ k, g = k + 1 := ⟨g - 1, by omega⟩
      show (if c < 0 then (-1 : Int) else if _ then _ else _) = (if c < 0 then (-1 : Int) else if _ then _ else _)
      have h4 := hp c.toNat (by omega)
      rw [ih k (wg 4 c.toNat).toInt (u + 1) (by omega) (by omega) (by omega)]
theorem wfF_fu {m st : Int} (hp : ∀ c : Nat, c < 8 → (wg 4 c).toInt < (c : Int)) : ∀ (f g : Nat) (c : Int), c < (f : Int) → c < (g : Int) → c < 8 → wfF wg m st f c = wfF wg m st g c := by
  intro f
  induction f with
  | zero => intro g c h1 h2 h3; rw [wfF_o (by omega), wfF_o (by omega)]
  | succ f ih =>
    intro g c h1 h2 h3
    by_cases hc : c < 0
    · rw [wfF_o hc, wfF_o hc]
    · obtain ⟨k, rfl⟩ : ∃ k, g = k + 1 := ⟨g - 1, by omega⟩
      show (if c < 0 then (-1 : Int) else if _ then _ else _) = (if c < 0 then (-1 : Int) else if _ then _ else _)
      have h4 := hp c.toNat (by omega)
      rw [ih k (wg 4 c.toNat).toInt (by omega) (by omega) (by omega)]
end FU9
section CU9
variable {wg rg gm : Nat → Nat → Int32}
theorem CL_pw (h : CLS9 wg rg) (hr : rt9 gm = rg) (hp : PR gm) : ∀ c : Nat, c < 8 → (wg 4 c).toInt < (c : Int) := fun c hc => by
  have a := (h c hc).2.1
  have b := hp c hc
  rw [rw9 hr 6 rfl] at a
  omega
/-- up one class: the setter -/
theorem sgR_up {R : Int} {nm : Nat} {x y : Int32} (h : CLS9 wg rg) (hr : rt9 gm = rg) (hp : PR gm) (hx : iv 0 7 x) (hR : R = sgF wg nm (x.toInt + 1).toNat x.toInt) (hn : (wg 55 (26 * x.toNatClampNeg + nm)).toInt = -1) (hy : y = gm 6 x.toNatClampNeg) : R = sgF wg nm (y.toInt + 1).toNat y.toInt := by
  have pw := CL_pw h hr hp
  have hc := cln9 hx.1
  have h7 := hx.2
  have a := (h x.toNatClampNeg (by omega)).2.1
  rw [rw9 hr 6 rfl, ← hy] at a
  have b := pw x.toNatClampNeg (by omega)
  rw [hR, show (x.toInt + 1).toNat = x.toInt.toNat + 1 by omega]
  show (if x.toInt < 0 then (-1 : Int) else if ¬ (wg 55 (26 * x.toNatClampNeg + nm)).toInt = -1 then _ else sgF wg nm x.toInt.toNat (wg 4 x.toNatClampNeg).toInt) = _
  rw [if_neg (by omega), if_neg (by omega), ← a]
  exact sgF_fu pw _ _ _ (by omega) (by omega) (by omega)
theorem sgR_h {R : Int} {nm : Nat} {x : Int32} (hx : iv 0 7 x) (hR : R = sgF wg nm (x.toInt + 1).toNat x.toInt) (hn : ¬ (wg 55 (26 * x.toNatClampNeg + nm)).toInt = -1) : R = (wg 55 (26 * x.toNatClampNeg + nm)).toInt := by
  have h0 := hx.1
  rw [hR, show (x.toInt + 1).toNat = x.toInt.toNat + 1 by omega]
  show (if x.toInt < 0 then (-1 : Int) else if ¬ (wg 55 (26 * x.toNatClampNeg + nm)).toInt = -1 then (wg 55 (26 * x.toNatClampNeg + nm)).toInt else _) = _
  rw [if_neg (by omega), if_pos hn]
theorem sgR_0 {nm : Nat} {a : Int32} (h : CLS9 wg rg) (hr : rt9 gm = rg) (hp : PR gm) (ha : iv (-1) 7 a) : sgF wg nm 8 a.toInt = sgF wg nm (a.toInt + 1).toNat a.toInt := sgF_fu (CL_pw h hr hp) _ _ _ (by have := ha.2; omega) (by have := ha.1; omega) (by have := ha.2; omega)
theorem stR_up {R o u : Int} {x y : Int32} (h : CLS9 wg rg) (hr : rt9 gm = rg) (hp : PR gm) (hx : iv 0 7 x) (hR : R = stF wg o (x.toInt + 1).toNat x.toInt u) (hn : ¬ x.toInt = o) (hy : y = gm 6 x.toNatClampNeg) : R = stF wg o (y.toInt + 1).toNat y.toInt (u + 1) := by
  have pw := CL_pw h hr hp
  have hc := cln9 hx.1
  have h7 := hx.2
  have h2 := (h x.toNatClampNeg (by omega)).1
  have a := (h x.toNatClampNeg (by omega)).2.1
  rw [rw9 hr 6 rfl, ← hy] at a
  have b := pw x.toNatClampNeg (by omega)
  rw [hR, show (x.toInt + 1).toNat = x.toInt.toNat + 1 by omega, stF_s hx.1 (by show ¬ (wg 2 x.toNatClampNeg).toInt = o; omega)]
  show stF wg o x.toInt.toNat (wg 4 x.toNatClampNeg).toInt (u + 1) = _
  rw [← a]
  exact stF_fu pw _ _ _ _ (by omega) (by omega) (by omega)
theorem stR_h {R o u : Int} {x : Int32} (h : CLS9 wg rg) (hx : iv 0 7 x) (hR : R = stF wg o (x.toInt + 1).toNat x.toInt u) (hn : x.toInt = o) : R = u := by
  have hc := cln9 hx.1
  have h7 := hx.2
  have h2 := (h x.toNatClampNeg (by omega)).1
  rw [hR, stF_y (by omega) hx.1 (by show (wg 2 x.toNatClampNeg).toInt = o; omega)]
theorem stR_0 {o u : Int} {a : Int32} (h : CLS9 wg rg) (hr : rt9 gm = rg) (hp : PR gm) (ha : iv (-1) 7 a) : stF wg o 8 a.toInt u = stF wg o (a.toInt + 1).toNat a.toInt u := stF_fu (CL_pw h hr hp) _ _ _ _ (by have := ha.2; omega) (by have := ha.1; omega) (by have := ha.2; omega)
theorem wfR_up {R m st : Int} {x y : Int32} (h : CLS9 wg rg) (hr : rt9 gm = rg) (hp : PR gm) (hx : iv 0 7 x) (hR : R = wfF wg m st (x.toInt + 1).toNat x.toInt) (hn : owB wg m st x.toNatClampNeg = false) (hy : y = gm 6 x.toNatClampNeg) : R = wfF wg m st (y.toInt + 1).toNat y.toInt := by
  have pw := CL_pw h hr hp
  have hc := cln9 hx.1
  have h7 := hx.2
  have a := (h x.toNatClampNeg (by omega)).2.1
  rw [rw9 hr 6 rfl, ← hy] at a
  have b := pw x.toNatClampNeg (by omega)
  rw [hR, show (x.toInt + 1).toNat = x.toInt.toNat + 1 by omega]
  show (if x.toInt < 0 then (-1 : Int) else if owB wg m st x.toNatClampNeg = true then _ else wfF wg m st x.toInt.toNat (wg 4 x.toNatClampNeg).toInt) = _
  rw [if_neg (by omega), if_neg (by rw [hn]; decide), ← a]
  exact wfF_fu pw _ _ _ (by omega) (by omega) (by omega)
theorem wfR_h {R m st : Int} {x : Int32} (hx : iv 0 7 x) (hR : R = wfF wg m st (x.toInt + 1).toNat x.toInt) (hn : owB wg m st x.toNatClampNeg = true) : R = x.toInt := by
  have h0 := hx.1
  rw [hR, show (x.toInt + 1).toNat = x.toInt.toNat + 1 by omega]
  show (if x.toInt < 0 then (-1 : Int) else if owB wg m st x.toNatClampNeg = true then _ else _) = _
  rw [if_neg (by omega), if_pos hn]
theorem wfR_0 {m st : Int} {a : Int32} (h : CLS9 wg rg) (hr : rt9 gm = rg) (hp : PR gm) (ha : iv (-1) 7 a) : wfF wg m st 8 a.toInt = wfF wg m st (a.toInt + 1).toNat a.toInt := wfF_fu (CL_pw h hr hp) _ _ _ (by have := ha.2; omega) (by have := ha.1; omega) (by have := ha.2; omega)
end CU9
end
