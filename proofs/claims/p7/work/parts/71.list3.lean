theorem LDI_set {lx : List Nat} {gm gm1 : Nat → Nat → Int32} {q n : Nat} {z : Int32} (h : LDI lx gm) (e : gm1 = va_up gm 57 (upd (gm 57) (128 * q + n) z)) (hz : 0 ≤ z.toInt) : LDI lx gm1 := fun q2 h2 => by
  subst e
  rw [va_up_ne gm _ (show (41 : Nat) ≠ 57 by decide), va_up_ne gm _ (show (42 : Nat) ≠ 57 by decide)]
  obtain ⟨a1, a2, a3⟩ := h q2 h2
  refine ⟨a1, a2, fun j hj => ?_⟩
  rw [show va_up gm 57 (upd (gm 57) (128 * q + n) z) 57 = upd (gm 57) (128 * q + n) z from up_at rfl]
  by_cases e9 : 128 * q2 + j = 128 * q + n
  · rw [e9, upd_at]; exact hz
  · rw [upd_ne e9]; exact a3 j hj

theorem dJx4a65c_set_bcc79_0 : decode cJx4a65c_set_bcc79 0 = .ok (.iload_n 1, 1) := by decide +kernel
theorem dJx4a65c_set_bcc79_1 : decode cJx4a65c_set_bcc79 1 = .ok (.aload_n 0, 1) := by decide +kernel
theorem dJx4a65c_set_bcc79_2 : decode cJx4a65c_set_bcc79 2 = .ok (.getfield 48, 3) := by decide +kernel
theorem dJx4a65c_set_bcc79_5 : decode cJx4a65c_set_bcc79 5 = .ok (.invokestatic 118, 3) := by decide +kernel
theorem dJx4a65c_set_bcc79_8 : decode cJx4a65c_set_bcc79 8 = .ok (.pop, 1) := by decide +kernel
theorem dJx4a65c_set_bcc79_9 : decode cJx4a65c_set_bcc79 9 = .ok (.aload_n 0, 1) := by decide +kernel
theorem dJx4a65c_set_bcc79_10 : decode cJx4a65c_set_bcc79 10 = .ok (.iload_n 1, 1) := by decide +kernel
theorem dJx4a65c_set_bcc79_11 : decode cJx4a65c_set_bcc79 11 = .ok (.invokevirtual 123, 3) := by decide +kernel
theorem dJx4a65c_set_bcc79_14 : decode cJx4a65c_set_bcc79 14 = .ok (.astore_n 3, 1) := by decide +kernel
theorem dJx4a65c_set_bcc79_15 : decode cJx4a65c_set_bcc79 15 = .ok (.aload_n 0, 1) := by decide +kernel
theorem dJx4a65c_set_bcc79_16 : decode cJx4a65c_set_bcc79 16 = .ok (.getfield 9, 3) := by decide +kernel
theorem dJx4a65c_set_bcc79_19 : decode cJx4a65c_set_bcc79 19 = .ok (.iload_n 1, 1) := by decide +kernel
theorem dJx4a65c_set_bcc79_20 : decode cJx4a65c_set_bcc79 20 = .ok (.aload_n 2, 1) := by decide +kernel
theorem dJx4a65c_set_bcc79_21 : decode cJx4a65c_set_bcc79 21 = .ok (.aastore, 1) := by decide +kernel
theorem dJx4a65c_set_bcc79_22 : decode cJx4a65c_set_bcc79 22 = .ok (.aload_n 3, 1) := by decide +kernel
theorem dJx4a65c_set_bcc79_23 : decode cJx4a65c_set_bcc79 23 = .ok (.areturn, 1) := by decide +kernel

set_option maxHeartbeats 4000000 in
set_option maxRecDepth 100000 in
theorem d_lset (l : Launch) (dC : Nat → ClassId) (dI : Nat → Nat → Nat) (ad : Nat → Nat → Nat) (cid : Nat → ClassId) (a2 : Nat → Nat) (lx : List Nat) (sg : Nat → Int32) (gm : Nat → Nat → Int32) (lg : Nat → Nat → Int64) (x : Int32) (i : Int32) (el : Int32) (hI : CI sg gm) (hvx : iv 0 239 x) (hvel : iv 0 79 el) (hLD : LDI lx gm) (hi0 : 0 ≤ i.toInt) (hil : i.toInt < (gm 41 x.toNatClampNeg).toInt) : CMt dC dI ad cid a2 lx l yJx4a65c_set_bcc79 wm_Jx4a65c_set_bcc79 ({ frames := 2, cells := 1, slots := 6, locals := 43 }) [eV (ad 11) x, .int i, eV (ad 9) el] sg gm lg (fun v u => ∃ r : Int32, v = some (eV (ad 9) r) ∧ ∃ (sg2 : Nat → Int32) (gm2 : Nat → Nat → Int32) (lg2 : Nat → Nat → Int64), u = (sg2, gm2, lg2) ∧ CI sg2 gm2 ∧ KS [] sg sg2 ∧ KS [57] gm gm2 ∧ KS [] lg lg2 ∧ (iv 0 79 r) ∧ (gm2 57 = upd (gm 57) (128 * x.toNatClampNeg + i.toNatClampNeg) el) ∧ (LDI lx gm2)) (fun _ _ => False) := by
  intro sz
  refine vx_ofW (cc := cJx4a65c_set_bcc79) (maxL := 4) (ret := (some (.object "java/lang/Object"))) (by decide) rfl ?_
  intro p e s m args below meth c s₁ B hml hxt hv
  obtain ⟨rfl, hsz, hP, hK, hD0, hG⟩ := hv
  have hx := B.exec
  have hb := B.bytes
  have hr := B.returns
  have hts := atoms_spec (ws := wm_Jx4a65c_set_bcc79) B.pre
  have htb := fun (w : Cond) (h : w ∈ tb) => hts w (List.mem_cons_of_mem _ h)
  have hown : s.vm.findClass RJx4a65c = some m.cls := findClass_of_methodNamed B.named
  have hlocks := B.notSynchronized
  subst hsz
  have hD := hD0.self (sz := s.heap.size)
  generalize hAe : va_A (cW ad cid a2 lx sg gm lg) s.heap.size = A at hD hG ⊢
  have hA : ∀ q : Nat, s.heap.size ≤ q → A q := fun q h => by rw [← hAe]; exact Or.inr h
  have hS : va_S A s.heap s.heap [] := va_S.rf
  have hl := lv_entry ([eV (ad 11) x, .int i, eV (ad 9) el]) (n := 4) (by rw [show (lg_sl ([eV (ad 11) x, .int i, eV (ad 9) el])).length = 3 from by simp [lg_sl, eV_cat, cat_i, cat_l]]; exact Nat.le_of_ble_eq_true rfl)
  rw [lg_entry_eq]
  generalize (lg_sl ([eV (ad 11) x, .int i, eV (ad 9) el]) ++ List.replicate (4 - (lg_sl ([eV (ad 11) x, .int i, eV (ad 9) el])).length) Slot.unset).toArray = ls at hl ⊢
  have hl : lv_has ls 4 [(0, eV (ad 11) x), (1, .int i), (2, eV (ad 9) el)] := by simp [lv_args, eV_cat, cat_i, cat_l] at hl; exact hl
  refine lv_iload_n hx hb dJx4a65c_set_bcc79_0 rfl (lv_at hl 1 rfl) ?_
  refine ec_aload_n hx hb dJx4a65c_set_bcc79_1 rfl (lv_at hl 0 rfl) ?_
  refine cr_get (t := 11) (j := 2) (C := RJx4a65c) (T := TJx4a65c) (N := 3) (v := .int (gm 41 x.toNatClampNeg)) hx hb htb inJx4a65c hown hK hP hvx (by decide) (by decide) (by decide) rfl (by decide) (htb _ kw_678) rfl dJx4a65c_set_bcc79_2 ?_
  obtain ⟨z_1, ez_1⟩ : ∃ z : Int32, z = (gm 41 x.toNatClampNeg) := ⟨_, rfl⟩
  refine W.eq (g2 := F0 m 5 ls [.int z_1, .int i]) (by rw [ez_1]) ?_
  have hz_1 : iv 0 80 z_1 := iv_of ez_1 (CI_a hI 41 hvx (by decide))
  refine cm_callS (rest := []) (as := [.int i, .int z_1]) ⟨hx, hb, hml, hown, htb⟩ (d_chk l dC dI ad cid a2 lx sg gm lg i z_1 hI hi0 (by rw [ez_1]; exact hil)) (va_cwS 2 htb (gd_S kw_796 kw_797 kw_798 kw_1513) rfl rfl rfl (by decide +kernel) ⟨Nat.le_of_ble_eq_true rfl, Nat.le_of_ble_eq_true rfl⟩)  rfl hl.1 rfl (Nat.le_trans cs_n (by decide)) dJx4a65c_set_bcc79_5 ⟨Nat.le_of_ble_eq_true rfl, Nat.le_of_ble_eq_true rfl⟩ hK hP hD hS hA hG (fun E ce q9 u_3 H locs hw hP hD hS hce hcv hcl => ?_) (fun v9 u_3 H locs hw hP hD hS => ?_)
  · exact hw.elim
  obtain ⟨r_2, rfl, rfl, fr_r_2⟩ := hw
  have hP : va_P (dC, dI) vwCl (cW ad cid a2 lx sg gm lg) H := hP
  have hD : va_D A (cW ad cid a2 lx sg gm lg) := hD
  refine W.eq (g2 := F0 m 8 ls [.int r_2]) rfl ?_
  refine lv_pop hx hb dJx4a65c_set_bcc79_8 rfl ?_
  refine ec_aload_n hx hb dJx4a65c_set_bcc79_9 rfl (lv_at hl 0 rfl) ?_
  refine lv_iload_n hx hb dJx4a65c_set_bcc79_10 rfl (lv_at hl 1 rfl) ?_
  refine cm_callV (t := 11) (C := RJx4a65c) (T := TJx4a65c) (N := 3) (rest := []) (as := [.int i]) ⟨hx, hb, hml, hown, htb⟩ (d_elementData l dC dI ad cid a2 lx sg gm lg x i hI hvx hLD hi0 hil) (cwV 1 htb (gd_V kw_800 kw_801 kw_802 kw_98 kw_1514) rfl rfl rfl (by decide +kernel) ⟨Nat.le_of_ble_eq_true rfl, Nat.le_of_ble_eq_true rfl⟩) hvx (by decide) (by decide) rfl rfl hl.1 rfl (Nat.le_trans cs_n (by decide)) dJx4a65c_set_bcc79_11 ⟨Nat.le_of_ble_eq_true rfl, Nat.le_of_ble_eq_true rfl⟩ hK hP hD hS hA hG (fun E ce q9 u_6 H locs hw hP hD hS hce hcv hcl => ?_) (fun v9 u_6 H locs hw hP hD hS => ?_)
  · exact hw.elim
  obtain ⟨r_5, rfl, rfl, hr_5, fr_r_5⟩ := hw
  have hP : va_P (dC, dI) vwCl (cW ad cid a2 lx sg gm lg) H := hP
  have hD : va_D A (cW ad cid a2 lx sg gm lg) := hD
  refine W.eq (g2 := F0 m 14 ls [eV (ad 9) r_5]) rfl ?_
  refine ec_astore_n (i := 3) (lv' := [(3, eV (ad 9) r_5), (0, eV (ad 11) x), (1, .int i), (2, eV (ad 9) el)]) hx hb dJx4a65c_set_bcc79_14 rfl hl (by decide) (by simp [List.filter, eV_cat, cat_i, cat_l]) (fun ls hl => ?_)
  refine ec_aload_n hx hb dJx4a65c_set_bcc79_15 rfl (lv_at hl 1 rfl) ?_
  refine cr_get (t := 11) (j := 1) (C := RJx4a65c) (T := TJx4a65c) (N := 3) (v := dV ad a2 gm x.toNatClampNeg) hx hb htb inJx4a65c hown hK hP hvx (by decide) (by decide) (by decide) rfl (by decide) (htb _ kw_105) rfl dJx4a65c_set_bcc79_16 ?_
  refine lv_iload_n hx hb dJx4a65c_set_bcc79_19 rfl (lv_at hl 2 rfl) ?_
  refine ec_aload_n hx hb dJx4a65c_set_bcc79_20 rfl (lv_at hl 3 rfl) ?_
  have hq := hLD x.toNatClampNeg (by have := iv_cl hvx (by decide); have := hvx.2; omega)
  have h42 := (show iv 0 127 (gm 42 x.toNatClampNeg) from CI_a hI 42 hvx (by decide))
  have h41 := (show iv 0 80 (gm 41 x.toNatClampNeg) from CI_a hI 41 hvx (by decide))
  have hc9 : ¬ (gm 42 x.toNatClampNeg).toInt = 0 := by have := hq.1; omega
  have k1 := cl_0 hi0
  have k2 := iv_cl h42 (by decide)
  have k3 := iv_cl h41 (by decide)
  refine cl_aast hx hb hG hK hP hD hS (hq.2.1 hc9) hc9 (vp_in_iff.mpr ⟨hi0, by have := hq.1; omega⟩) (by have := hq.1; have := h42.2; omega) hvel (by decide) dJx4a65c_set_bcc79_21 (fun gm_8 H locs egm_8 hP hD hS => ?_)
  have hI_gm_8 := CI_st hI egm_8 hvel (by decide)
  refine ec_aload_n hx hb dJx4a65c_set_bcc79_22 rfl (lv_at hl 0 rfl) ?_
  exact W.nb (fun hN => W.widen (k := 1) (n := 6) (by decide) (by decide) (vx_ret (W.aret (v := eV (ad 9) r_5) hx hb hr (Or.inl ⟨_, rfl⟩) (eV_is _ _) (fun t ht hW => ⟨⟨some (eV (ad 9) r_5), (sg, gm_8, lg), rfl, ⟨r_5, rfl, sg, gm_8, lg, rfl, hI_gm_8, KS_rf, (KS_up KS_rf egm_8 (by decide)), KS_rf, hr_5, (up_at egm_8), (LDI_set hLD egm_8 hvel.1)⟩, by rw [ht]; exact hP, va_K.moved hW.alike hK, hD⟩, hS.F ht, by rw [ht]; exact hN⟩) hS.2.2 dJx4a65c_set_bcc79_23)))

set_option maxHeartbeats 4000000 in
set_option maxRecDepth 100000 in
theorem d_lookupNamed (l : Launch) (dC : Nat → ClassId) (dI : Nat → Nat → Nat) (ad : Nat → Nat → Nat) (cid : Nat → ClassId) (a2 : Nat → Nat) (lx : List Nat) (sg : Nat → Int32) (gm : Nat → Nat → Int32) (lg : Nat → Nat → Int64) (b : Int32) (nm : Int32) (hI : CI sg gm) (hvb : iv 0 79 b) (hLD : LDI lx gm) : CMt dC dI ad cid a2 lx l yX1_lookupNamed wm_X1_lookupNamed ({ frames := 3, cells := 1, slots := 6, locals := 64 }) [eV (ad 10) b, .int nm] sg gm lg (fun v u => ∃ r : Int32, v = some (eV (ad 9) r) ∧ u = (sg, gm, lg) ∧ (iv (-1) 79 r)) (fun _ _ => False) := by
  intro sz
  refine vx_ofW (cc := cX1_lookupNamed) (maxL := 3) (ret := (some (.object "WiredBeans$Element"))) (by decide) rfl ?_
  intro p e s m args below meth c s₁ B hml hxt hv
  obtain ⟨rfl, hsz, hP, hK, hD0, hG⟩ := hv
  have hx := B.exec
  have hb := B.bytes
  have hr := B.returns
  have hts := atoms_spec (ws := wm_X1_lookupNamed) B.pre
  have htb := fun (w : Cond) (h : w ∈ tb) => hts w (List.mem_cons_of_mem _ h)
  have hown : s.vm.findClass RX1 = some m.cls := findClass_of_methodNamed B.named
  have hlocks := B.notSynchronized
  subst hsz
  have hD := hD0.self (sz := s.heap.size)
  generalize hAe : va_A (cW ad cid a2 lx sg gm lg) s.heap.size = A at hD hG ⊢
  have hA : ∀ q : Nat, s.heap.size ≤ q → A q := fun q h => by rw [← hAe]; exact Or.inr h
  have hS : va_S A s.heap s.heap [] := va_S.rf
  have hl := lv_entry ([eV (ad 10) b, .int nm]) (n := 3) (by rw [show (lg_sl ([eV (ad 10) b, .int nm])).length = 2 from by simp [lg_sl, eV_cat, cat_i, cat_l]]; exact Nat.le_of_ble_eq_true rfl)
  rw [lg_entry_eq]
  generalize (lg_sl ([eV (ad 10) b, .int nm]) ++ List.replicate (3 - (lg_sl ([eV (ad 10) b, .int nm])).length) Slot.unset).toArray = ls at hl ⊢
  have hl : lv_has ls 3 [(0, eV (ad 10) b), (1, .int nm)] := by simp [lv_args, eV_cat, cat_i, cat_l] at hl; exact hl
  have hj2 : ∀ (n : Nat) (x2_2 : Int32) (_ : (80 - x2_2.toInt).toNat = n) (_ : iv 0 80 x2_2) (_ : iv 0 79 b) (H : Heap) (locs : List Loc) (ls : Array Slot), va_P (dC, dI) vwCl (cW ad cid a2 lx sg gm lg) H → va_D A (cW ad cid a2 lx sg gm lg) → va_S A s.heap H locs → lv_has ls 3 [(2, .int x2_2), (0, eV (ad 10) b), (1, .int nm)] → W p l e (headSpec wm_X1_lookupNamed ({ frames := 3, cells := 1, slots := 6, locals := 64 })).room s m ([eV (ad 10) b, .int nm] : List Value).toArray below meth c H locs 0 0 (vx_MQ below (cQx dC dI ad cid a2 lx (fun v u => ∃ r : Int32, v = some (eV (ad 9) r) ∧ u = (sg, gm, lg) ∧ (iv (-1) 79 r)) A) (cX dC dI ad cid a2 lx (fun _ _ => False) A) ([eV (ad 10) b, .int nm] : List Value).toArray s 1 6 A) (F0 m 2 ls []) := by
    intro n
    induction n using Nat.strongRecOn with
    | ind n ih2 =>
      intro x2_2 hn2 hx2_2 hsx0_2 H locs ls hP hD hS hl
      refine lv_iload_n hx hb dX1_lookupNamed_2 rfl (lv_at hl 0 rfl) ?_
      refine ec_aload_n hx hb dX1_lookupNamed_3 rfl (lv_at hl 1 rfl) ?_
      obtain ⟨q_1, hq_1, nq_1, tq_1⟩ := ix_mk (3 * b.toNatClampNeg + 2) 239 (by have q1 := iv_cl hsx0_2 (by decide); have q2 := (hsx0_2).2; omega) (by decide)
      refine cr_get (t := 10) (j := 3) (C := RX1) (T := TX1) (N := 19) (v := eV (ad 11) q_1) hx hb htb inX1 hown hK hP hsx0_2 (by decide) (by decide) (by decide) rfl (by decide) (htb _ kw_101) (cV_c rfl hq_1.1 nq_1) dX1_lookupNamed_4 ?_
      refine cm_callV (t := 11) (C := RJx4a65c) (T := TJx4a65c) (N := 3) (rest := [.int x2_2]) (as := []) ⟨hx, hb, hml, hown, htb⟩ (d_lsize l dC dI ad cid a2 lx sg gm lg q_1 hI hq_1) (cwV 0 htb (gd_V kw_790 kw_791 kw_792 kw_98 kw_1511) rfl rfl rfl (by decide +kernel) ⟨Nat.le_of_ble_eq_true rfl, Nat.le_of_ble_eq_true rfl⟩) hq_1 (by decide) (by decide) rfl rfl hl.1 rfl (Nat.le_trans (cs_c (cat_i _) cs_n) (by decide)) dX1_lookupNamed_7 ⟨Nat.le_of_ble_eq_true rfl, Nat.le_of_ble_eq_true rfl⟩ hK hP hD hS hA hG (fun E ce q9 u_3 H locs hw hP hD hS hce hcv hcl => ?_) (fun v9 u_3 H locs hw hP hD hS => ?_)
      · exact hw.elim
      obtain ⟨r_2, rfl, rfl, hr_2, fr_r_2⟩ := hw
      have hP : va_P (dC, dI) vwCl (cW ad cid a2 lx sg gm lg) H := hP
      have hD : va_D A (cW ad cid a2 lx sg gm lg) := hD
      refine W.eq (g2 := F0 m 10 ls [.int r_2, .int x2_2]) rfl ?_
      refine lv_icmp_ge (tgt := 49) hx hb dX1_lookupNamed_10 (by decide) (fun c_5 => ?_) (fun c_5 => ?_)
      · have d_6 : (r_2 : Int32).toInt ≤ (x2_2 : Int32).toInt := Int32.le_iff_toInt_le.mp c_5
        refine ec_null (a := ad 9) hx hb dX1_lookupNamed_49 ?_
        exact W.nb (fun hN => W.widen (k := 1) (n := 6) (by decide) (by decide) (vx_ret (W.aret (v := eV (ad 9) (-1)) hx hb hr (Or.inl ⟨_, rfl⟩) (eV_is _ _) (fun t ht hW => ⟨⟨some (eV (ad 9) (-1)), (sg, gm, lg), rfl, ⟨(-1), rfl, rfl, (iv_w (iv_k (by decide) : iv (-1) (-1) (-1)) (by decide))⟩, by rw [ht]; exact hP, va_K.moved hW.alike hK, hD⟩, hS.F ht, by rw [ht]; exact hN⟩) hS.2.2 dX1_lookupNamed_50)))
      · have d_7 : (x2_2 : Int32).toInt < (r_2 : Int32).toInt := Int32.lt_iff_toInt_lt.mp (i32_lt c_5)
        have h_8 : iv 0 79 x2_2 := iv_ltL (i32_lt c_5) hx2_2 hr_2 (by decide)
        have h_9 : iv 1 80 r_2 := iv_ltR (i32_lt c_5) hx2_2 hr_2 (by decide)
        refine ec_aload_n hx hb dX1_lookupNamed_13 rfl (lv_at hl 1 rfl) ?_
        refine cr_get (t := 10) (j := 3) (C := RX1) (T := TX1) (N := 19) (v := eV (ad 11) q_1) hx hb htb inX1 hown hK hP hsx0_2 (by decide) (by decide) (by decide) rfl (by decide) (htb _ kw_101) (cV_c rfl hq_1.1 nq_1) dX1_lookupNamed_14 ?_
        refine lv_iload_n hx hb dX1_lookupNamed_17 rfl (lv_at hl 0 rfl) ?_
        refine cm_callV (t := 11) (C := RJx4a65c) (T := TJx4a65c) (N := 3) (rest := []) (as := [.int x2_2]) ⟨hx, hb, hml, hown, htb⟩ (d_lget l dC dI ad cid a2 lx sg gm lg q_1 x2_2 hI hq_1 hLD (by have := i32_0; have := i32_1; have := i32_2; have := i32_m1; have := (hsx0_2).1; have := (hsx0_2).2; have := (h_8).1; have := (h_8).2; have := (hq_1).1; have := (hq_1).2; have := (h_9).1; have := (h_9).2; omega) (by rw [← fr_r_2]; have := i32_0; have := i32_1; have := i32_2; have := i32_m1; have := (hsx0_2).1; have := (hsx0_2).2; have := (h_8).1; have := (h_8).2; have := (hq_1).1; have := (hq_1).2; have := (h_9).1; have := (h_9).2; omega)) (cwV 1 htb (gd_V kw_793 kw_794 kw_795 kw_98 kw_1512) rfl rfl rfl (by decide +kernel) ⟨Nat.le_of_ble_eq_true rfl, Nat.le_of_ble_eq_true rfl⟩) hq_1 (by decide) (by decide) rfl rfl hl.1 rfl (Nat.le_trans cs_n (by decide)) dX1_lookupNamed_18 ⟨Nat.le_of_ble_eq_true rfl, Nat.le_of_ble_eq_true rfl⟩ hK hP hD hS hA hG (fun E ce q9 u_11 H locs hw hP hD hS hce hcv hcl => ?_) (fun v9 u_11 H locs hw hP hD hS => ?_)
        · exact hw.elim
        obtain ⟨r_10, rfl, rfl, hr_10, fr_r_10⟩ := hw
        have hP : va_P (dC, dI) vwCl (cW ad cid a2 lx sg gm lg) H := hP
        have hD : va_D A (cW ad cid a2 lx sg gm lg) := hD
        refine W.eq (g2 := F0 m 21 ls [eV (ad 9) r_10]) rfl ?_
        refine cl_cast hx hb hG hown (htb _ kw_788) hK hP hr_10 (by decide) dX1_lookupNamed_21 ?_
        refine cr_get (t := 9) (j := 15) (C := RX3) (T := TX3) (N := 21) (v := .int (gm 22 r_10.toNatClampNeg)) hx hb htb inX3 hown hK hP hr_10 (by decide) (by decide) (by decide) rfl (by decide) (htb _ kw_789) rfl dX1_lookupNamed_24 ?_
        obtain ⟨z_13, ez_13⟩ : ∃ z : Int32, z = (gm 22 r_10.toNatClampNeg) := ⟨_, rfl⟩
        refine W.eq (g2 := F0 m 27 ls [.int z_13]) (by rw [ez_13]) ?_
        have hz_13 : iv (-1) 25 z_13 := iv_of ez_13 (CI_a hI 22 hr_10 (by decide))
        refine lv_iload_n hx hb dX1_lookupNamed_27 rfl (lv_at hl 2 rfl) ?_
        refine lv_icmp_ne (tgt := 43) hx hb dX1_lookupNamed_28 (by decide) (fun c_14 => ?_) (fun c_14 => ?_)
        · obtain ⟨z_15, ez_15⟩ : ∃ z : Int32, z = x2_2 + 1 := ⟨_, rfl⟩
          have hz_15 : iv 1 80 z_15 := iv_of ez_15 (iv_add h_8 (iv_k (by decide) : iv 1 1 1) (by decide))
          have tz_15 : z_15.toInt = x2_2.toInt + 1 := by rw [ez_15]; exact iv_addE h_8 (iv_k (by decide) : iv 1 1 1) (by decide)
          refine lv_iinc (v := z_15) (lv' := [(2, .int z_15), (0, eV (ad 10) b), (1, .int nm)]) hx hb dX1_lookupNamed_43 hl (k := 0) rfl ez_15.symm (by decide) rfl (fun ls hl => ?_)
          refine lv_goto (tgt := 2) hx hb dX1_lookupNamed_46 (by decide) ?_
          exact ih2 _ (by rw [← hn2]; exact (iv_meas tz_15 h_8 (by decide))) z_15 rfl (iv_w hz_15 (by decide)) hsx0_2 _ _ _ hP hD hS (lv_sub hl [0, 1, 2] rfl)
        · have d_16 : (z_13 : Int32).toInt = (nm : Int32).toInt := congrArg Int32.toInt c_14
          have h_17 : iv (-1) 25 nm := iv_eq (Eq.symm c_14) (iv_all nm) hz_13 (by decide)
          refine ec_aload_n hx hb dX1_lookupNamed_31 rfl (lv_at hl 1 rfl) ?_
          refine cr_get (t := 10) (j := 3) (C := RX1) (T := TX1) (N := 19) (v := eV (ad 11) q_1) hx hb htb inX1 hown hK hP hsx0_2 (by decide) (by decide) (by decide) rfl (by decide) (htb _ kw_101) (cV_c rfl hq_1.1 nq_1) dX1_lookupNamed_32 ?_
          refine lv_iload_n hx hb dX1_lookupNamed_35 rfl (lv_at hl 0 rfl) ?_
          refine cm_callV (t := 11) (C := RJx4a65c) (T := TJx4a65c) (N := 3) (rest := []) (as := [.int x2_2]) ⟨hx, hb, hml, hown, htb⟩ (d_lget l dC dI ad cid a2 lx sg gm lg q_1 x2_2 hI hq_1 hLD (by have := i32_0; have := i32_1; have := i32_2; have := i32_m1; have := (hsx0_2).1; have := (hsx0_2).2; have := (h_8).1; have := (h_8).2; have := (hq_1).1; have := (hq_1).2; have := (h_9).1; have := (h_9).2; have := (hr_10).1; have := (hr_10).2; have := (hz_13).1; have := (hz_13).2; have := (h_17).1; have := (h_17).2; omega) (by rw [← fr_r_2]; have := i32_0; have := i32_1; have := i32_2; have := i32_m1; have := (hsx0_2).1; have := (hsx0_2).2; have := (h_8).1; have := (h_8).2; have := (hq_1).1; have := (hq_1).2; have := (h_9).1; have := (h_9).2; have := (hr_10).1; have := (hr_10).2; have := (hz_13).1; have := (hz_13).2; have := (h_17).1; have := (h_17).2; omega)) (cwV 1 htb (gd_V kw_793 kw_794 kw_795 kw_98 kw_1512) rfl rfl rfl (by decide +kernel) ⟨Nat.le_of_ble_eq_true rfl, Nat.le_of_ble_eq_true rfl⟩) hq_1 (by decide) (by decide) rfl rfl hl.1 rfl (Nat.le_trans cs_n (by decide)) dX1_lookupNamed_36 ⟨Nat.le_of_ble_eq_true rfl, Nat.le_of_ble_eq_true rfl⟩ hK hP hD hS hA hG (fun E ce q9 u_19 H locs hw hP hD hS hce hcv hcl => ?_) (fun v9 u_19 H locs hw hP hD hS => ?_)
          · exact hw.elim
          obtain ⟨r_18, rfl, rfl, hr_18, fr_r_18⟩ := hw
          have hP : va_P (dC, dI) vwCl (cW ad cid a2 lx sg gm lg) H := hP
          have hD : va_D A (cW ad cid a2 lx sg gm lg) := hD
          refine W.eq (g2 := F0 m 39 ls [eV (ad 9) r_18]) rfl ?_
          refine cl_cast hx hb hG hown (htb _ kw_788) hK hP hr_18 (by decide) dX1_lookupNamed_39 ?_
          exact W.nb (fun hN => W.widen (k := 1) (n := 6) (by decide) (by decide) (vx_ret (W.aret (v := eV (ad 9) r_18) hx hb hr (Or.inl ⟨_, rfl⟩) (eV_is _ _) (fun t ht hW => ⟨⟨some (eV (ad 9) r_18), (sg, gm, lg), rfl, ⟨r_18, rfl, rfl, (iv_w hr_18 (by decide))⟩, by rw [ht]; exact hP, va_K.moved hW.alike hK, hD⟩, hS.F ht, by rw [ht]; exact hN⟩) hS.2.2 dX1_lookupNamed_42)))
  refine lv_iconst (v := 0) hx hb dX1_lookupNamed_0 (by decide) ?_
  refine lv_istore_n (i := 2) (lv' := [(2, .int 0), (0, eV (ad 10) b), (1, .int nm)]) hx hb dX1_lookupNamed_1 rfl hl (by decide) rfl (fun ls hl => ?_)
  exact hj2 _ 0 rfl (iv_w (iv_k (by decide) : iv 0 0 0) (by decide)) hvb _ _ _ hP hD hS (lv_sub hl [0, 1, 2] rfl)

set_option maxHeartbeats 4000000 in
set_option maxRecDepth 100000 in
theorem d_lookupOf (l : Launch) (dC : Nat → ClassId) (dI : Nat → Nat → Nat) (ad : Nat → Nat → Nat) (cid : Nat → ClassId) (a2 : Nat → Nat) (lx : List Nat) (sg : Nat → Int32) (gm : Nat → Nat → Int32) (lg : Nat → Nat → Int64) (x : Int32) (k : Int32) (nm : Int32) (hI : CI sg gm) (hvx : iv 0 0 x) (hLD : LDI lx gm) : CMt dC dI ad cid a2 lx l yX5_lookupOf wm_X5_lookupOf ({ frames := 4, cells := 1, slots := 6, locals := 86 }) [eV (ad 6) x, .int k, .int nm] sg gm lg (fun v u => ∃ r : Int32, v = some (eV (ad 9) r) ∧ u = (sg, gm, lg) ∧ (iv (-1) 79 r)) (fun _ _ => False) := by
  intro sz
  refine vx_ofW (cc := cX5_lookupOf) (maxL := 3) (ret := (some (.object "WiredBeans$Element"))) (by decide) rfl ?_
  intro p e s m args below meth c s₁ B hml hxt hv
  obtain ⟨rfl, hsz, hP, hK, hD0, hG⟩ := hv
  have hx := B.exec
  have hb := B.bytes
  have hr := B.returns
  have hts := atoms_spec (ws := wm_X5_lookupOf) B.pre
  have htb := fun (w : Cond) (h : w ∈ tb) => hts w (List.mem_cons_of_mem _ h)
  have hown : s.vm.findClass RX5 = some m.cls := findClass_of_methodNamed B.named
  have hlocks := B.notSynchronized
  subst hsz
  have hD := hD0.self (sz := s.heap.size)
  generalize hAe : va_A (cW ad cid a2 lx sg gm lg) s.heap.size = A at hD hG ⊢
  have hA : ∀ q : Nat, s.heap.size ≤ q → A q := fun q h => by rw [← hAe]; exact Or.inr h
  have hS : va_S A s.heap s.heap [] := va_S.rf
  have hl := lv_entry ([eV (ad 6) x, .int k, .int nm]) (n := 3) (by rw [show (lg_sl ([eV (ad 6) x, .int k, .int nm])).length = 3 from by simp [lg_sl, eV_cat, cat_i, cat_l]]; exact Nat.le_of_ble_eq_true rfl)
  rw [lg_entry_eq]
  generalize (lg_sl ([eV (ad 6) x, .int k, .int nm]) ++ List.replicate (3 - (lg_sl ([eV (ad 6) x, .int k, .int nm])).length) Slot.unset).toArray = ls at hl ⊢
  have hl : lv_has ls 3 [(0, eV (ad 6) x), (1, .int k), (2, .int nm)] := by simp [lv_args, eV_cat, cat_i, cat_l] at hl; exact hl
  have hj29 : ∀ (y0_29 : Int32) (_ : iv 0 0 x) (_ : iv (-1) 79 y0_29) (H : Heap) (locs : List Loc) (ls : Array Slot), va_P (dC, dI) vwCl (cW ad cid a2 lx sg gm lg) H → va_D A (cW ad cid a2 lx sg gm lg) → va_S A s.heap H locs → lv_has ls 3 [(0, eV (ad 6) x), (1, .int k), (2, .int nm)] → W p l e (headSpec wm_X5_lookupOf ({ frames := 4, cells := 1, slots := 6, locals := 86 })).room s m ([eV (ad 6) x, .int k, .int nm] : List Value).toArray below meth c H locs 0 0 (vx_MQ below (cQx dC dI ad cid a2 lx (fun v u => ∃ r : Int32, v = some (eV (ad 9) r) ∧ u = (sg, gm, lg) ∧ (iv (-1) 79 r)) A) (cX dC dI ad cid a2 lx (fun _ _ => False) A) ([eV (ad 6) x, .int k, .int nm] : List Value).toArray s 1 6 A) (F0 m 29 ls [eV (ad 9) y0_29]) := by
    intro y0_29 hsx0_29 hy0_29 H locs ls hP hD hS hl
    exact W.nb (fun hN => W.widen (k := 1) (n := 6) (by decide) (by decide) (vx_ret (W.aret (v := eV (ad 9) y0_29) hx hb hr (Or.inl ⟨_, rfl⟩) (eV_is _ _) (fun t ht hW => ⟨⟨some (eV (ad 9) y0_29), (sg, gm, lg), rfl, ⟨y0_29, rfl, rfl, hy0_29⟩, by rw [ht]; exact hP, va_K.moved hW.alike hK, hD⟩, hS.F ht, by rw [ht]; exact hN⟩) hS.2.2 dX5_lookupOf_29)))
  refine ec_aload_n hx hb dX5_lookupOf_0 rfl (lv_at hl 0 rfl) ?_
  refine lv_iload_n hx hb dX5_lookupOf_1 rfl (lv_at hl 1 rfl) ?_
  refine cm_callV (t := 6) (C := RX5) (T := TX5) (N := 13) (rest := []) (as := [.int k]) ⟨hx, hb, hml, hown, htb⟩ (d_isObject l dC dI ad cid a2 lx sg gm lg x k hI hvx) (cwV 1 htb (gd_V kw_1294 kw_1295 kw_1296 kw_40 kw_1646) rfl rfl rfl (by decide +kernel) ⟨Nat.le_of_ble_eq_true rfl, Nat.le_of_ble_eq_true rfl⟩) hvx (by decide) (by decide) rfl rfl hl.1 rfl (Nat.le_trans cs_n (by decide)) dX5_lookupOf_2 ⟨Nat.le_of_ble_eq_true rfl, Nat.le_of_ble_eq_true rfl⟩ hK hP hD hS hA hG (fun E ce q9 u_2 H locs hw hP hD hS hce hcv hcl => ?_) (fun v9 u_2 H locs hw hP hD hS => ?_)
  · exact hw.elim
  obtain ⟨r_1, rfl, rfl, hr_1, fo_r_1⟩ := hw
  have hP : va_P (dC, dI) vwCl (cW ad cid a2 lx sg gm lg) H := hP
  have hD : va_D A (cW ad cid a2 lx sg gm lg) := hD
  refine W.eq (g2 := F0 m 5 ls [.int r_1]) rfl ?_
  refine lv_if_eq (tgt := 28) hx hb dX5_lookupOf_5 (by decide) (fun c_4 => ?_) (fun c_4 => ?_)
  · have h_5 : iv 0 0 r_1 := iv_eq c_4 hr_1 (iv_k (by decide) : iv 0 0 0) (by decide)
    refine ec_null (a := ad 9) hx hb dX5_lookupOf_28 ?_
    exact hj29 (-1) hvx (iv_w (iv_k (by decide) : iv (-1) (-1) (-1)) (by decide)) _ _ _ hP hD hS (lv_sub hl [0, 1, 2] rfl)
  · have h_6 : iv 1 1 r_1 := iv_neL c_4 hr_1 (by decide)
    have h59 := fo_r_1.resolve_left (by have := i32_0; have := i32_1; have := i32_2; have := i32_m1; have := (hvx).1; have := (hvx).2; have := (h_6).1; have := (h_6).2; omega)
    refine ec_aload_n hx hb dX5_lookupOf_8 rfl (lv_at hl 0 rfl) ?_
    refine cr_get (t := 6) (j := 0) (C := RX5) (T := TX5) (N := 13) (v := eV (ad 4) 0) hx hb htb inX5 hown hK hP hvx (by decide) (by decide) (by decide) rfl (by decide) (htb _ kw_121) (cV_c rfl (by decide) (by rw [show cMu 6 0 = 0 from rfl, Nat.zero_mul]; rfl)) dX5_lookupOf_9 ?_
    refine ec_aload_n hx hb dX5_lookupOf_12 rfl (lv_at hl 0 rfl) ?_
    refine cr_get (t := 6) (j := 4) (C := RX5) (T := TX5) (N := 13) (v := eV (ad 23) 0) hx hb htb inX5 hown hK hP hvx (by decide) (by decide) (by decide) rfl (by decide) (htb _ kw_125) (cV_c rfl (by decide) (by rw [show cMu 6 4 = 0 from rfl, Nat.zero_mul]; rfl)) dX5_lookupOf_13 ?_
    refine lv_iload_n hx hb dX5_lookupOf_16 rfl (lv_at hl 1 rfl) ?_
    refine cr_iald (t := 23) (z := (gm 50 (k : Int32).toNatClampNeg)) hx hb hK hP (iv_k (by decide) : iv 0 0 0) (by decide) (by decide) (by decide) rfl rfl (show vp_in k (cLen 23) from (show vp_in k 60 from (iv_in h59 (by decide)))) rfl dX5_lookupOf_17 ?_
    obtain ⟨z_7, ez_7⟩ : ∃ z : Int32, z = (gm 50 (k : Int32).toNatClampNeg) := ⟨_, rfl⟩
    refine W.eq (g2 := F0 m 18 ls [.int z_7, eV (ad 4) 0]) (by rw [ez_7]) ?_
    have hz_7 : iv 0 79 z_7 := iv_of ez_7 (CI_a hI 50 h59 (by decide))
    refine cm_callV (t := 4) (C := RX10) (T := TX10) (N := 4) (rest := []) (as := [.int z_7]) ⟨hx, hb, hml, hown, htb⟩ (d_numbered l dC dI ad cid a2 lx sg gm lg 0 z_7 hI (iv_k (by decide) : iv 0 0 0) hz_7) (cwV 1 htb (gd_V kw_326 kw_327 kw_328 kw_32 kw_1414) rfl rfl rfl (by decide +kernel) ⟨Nat.le_of_ble_eq_true rfl, Nat.le_of_ble_eq_true rfl⟩) (iv_k (by decide) : iv 0 0 0) (by decide) (by decide) rfl rfl hl.1 rfl (Nat.le_trans cs_n (by decide)) dX5_lookupOf_18 ⟨Nat.le_of_ble_eq_true rfl, Nat.le_of_ble_eq_true rfl⟩ hK hP hD hS hA hG (fun E ce q9 u_9 H locs hw hP hD hS hce hcv hcl => ?_) (fun v9 u_9 H locs hw hP hD hS => ?_)
    · exact hw.elim
    obtain ⟨r_8, rfl, rfl, hr_8, fr_r_8⟩ := hw
    have hP : va_P (dC, dI) vwCl (cW ad cid a2 lx sg gm lg) H := hP
    have hD : va_D A (cW ad cid a2 lx sg gm lg) := hD
    refine W.eq (g2 := F0 m 21 ls [eV (ad 10) r_8]) rfl ?_
    refine lv_iload_n hx hb dX5_lookupOf_21 rfl (lv_at hl 2 rfl) ?_
    refine cm_callV (t := 10) (C := RX1) (T := TX1) (N := 19) (rest := []) (as := [.int nm]) ⟨hx, hb, hml, hown, htb⟩ (d_lookupNamed l dC dI ad cid a2 lx sg gm lg r_8 nm hI hr_8 hLD) (cwV 1 htb (gd_V kw_1297 kw_1298 kw_1299 kw_90 kw_1647) rfl rfl rfl (by decide +kernel) ⟨Nat.le_of_ble_eq_true rfl, Nat.le_of_ble_eq_true rfl⟩) hr_8 (by decide) (by decide) rfl rfl hl.1 rfl (Nat.le_trans cs_n (by decide)) dX5_lookupOf_22 ⟨Nat.le_of_ble_eq_true rfl, Nat.le_of_ble_eq_true rfl⟩ hK hP hD hS hA hG (fun E ce q9 u_12 H locs hw hP hD hS hce hcv hcl => ?_) (fun v9 u_12 H locs hw hP hD hS => ?_)
    · exact hw.elim
    obtain ⟨r_11, rfl, rfl, hr_11⟩ := hw
    have hP : va_P (dC, dI) vwCl (cW ad cid a2 lx sg gm lg) H := hP
    have hD : va_D A (cW ad cid a2 lx sg gm lg) := hD
    refine W.eq (g2 := F0 m 25 ls [eV (ad 9) r_11]) rfl ?_
    refine lv_goto (tgt := 29) hx hb dX5_lookupOf_25 (by decide) ?_
    exact hj29 r_11 hvx hr_11 _ _ _ hP hD hS (lv_sub hl [0, 1, 2] rfl)
