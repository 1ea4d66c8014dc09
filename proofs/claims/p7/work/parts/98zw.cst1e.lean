theorem MK_w {k : Int64} (h : MK7 k.toInt) : ∃ j, j < 34 ∧ wKy.getD j 0 = k := by
  unfold MK7 at h
  have key : ∀ (x : Int64) (j : Nat), j < 34 → wKy.getD j 0 = x → k.toInt = x.toInt → ∃ j, j < 34 ∧ wKy.getD j 0 = k := fun x j hj hx e => ⟨j, hj, hx.trans (Int64.toInt_inj.mp e).symm⟩
  rcases h with e | e | e | e | e | e | e | e | e | e | e | e | e | e | e | e | e | e
  · exact key 1851878757 21 (by decide) (by decide) (e.trans (by decide))
  · exact key 29807 22 (by decide) (by decide) (e.trans (by decide))
  · exact key 26980 10 (by decide) (by decide) (e.trans (by decide))
  · exact key 7017298113369039732 13 (by decide) (by decide) (e.trans (by decide))
  · exact key 1818327673 15 (by decide) (by decide) (e.trans (by decide))
  · exact key 427020088179 11 (by decide) (by decide) (e.trans (by decide))
  · exact key 123563833388660 12 (by decide) (by decide) (e.trans (by decide))
  · exact key 495589486693 14 (by decide) (by decide) (e.trans (by decide))
  · exact key 28817527407604345 16 (by decide) (by decide) (e.trans (by decide))
  · exact key 120282512125796 17 (by decide) (by decide) (e.trans (by decide))
  · exact key 1768843636 18 (by decide) (by decide) (e.trans (by decide))
  · exact key 28259044220366713 19 (by decide) (by decide) (e.trans (by decide))
  · exact key 28259031083541619 20 (by decide) (by decide) (e.trans (by decide))
  · exact key 24948 23 (by decide) (by decide) (e.trans (by decide))
  · exact key 1954115685 24 (by decide) (by decide) (e.trans (by decide))
  · exact key 508440638821 7 (by decide) (by decide) (e.trans (by decide))
  · exact key 7497062 8 (by decide) (by decide) (e.trans (by decide))
  · exact key 1650811246 2 (by decide) (by decide) (e.trans (by decide))
theorem NEE_2 {D : List El7} {x : Nat} (h : dKd D x = 2) : NEE D x ↔ (aH (dAt D x) 1851878757 = 1 ∧ aH (dAt D x) 29807 = 1) := ⟨fun q => q.1.resolve_left (fun v => v h), fun p => ⟨Or.inr p, Or.inl (by omega), Or.inl (by omega), Or.inl (by omega), Or.inl (by omega)⟩⟩
theorem NEE_3 {D : List El7} {x : Nat} (h : dKd D x = 3) : NEE D x ↔ NBE D x := ⟨fun q => q.2.1.resolve_left (fun v => v h), fun p => ⟨Or.inl (by omega), Or.inr p, Or.inl (by omega), Or.inl (by omega), Or.inl (by omega)⟩⟩
theorem NEE_5 {D : List El7} {x : Nat} (h : dKd D x = 5) : NEE D x ↔ aH (dAt D x) 1851878757 = 1 := ⟨fun q => q.2.2.1.resolve_left (fun v => v h), fun p => ⟨Or.inl (by omega), Or.inl (by omega), Or.inr p, Or.inl (by omega), Or.inl (by omega)⟩⟩
theorem NEE_8 {D : List El7} {x : Nat} (h : dKd D x = 8) : NEE D x ↔ aH (dAt D x) 1650811246 = 1 := ⟨fun q => q.2.2.2.1.resolve_left (fun v => v h), fun p => ⟨Or.inl (by omega), Or.inl (by omega), Or.inl (by omega), Or.inr p, Or.inl (by omega)⟩⟩
theorem NEE_10 {D : List El7} {x : Nat} (h : dKd D x = 10) : NEE D x ↔ (aH (dAt D x) 1851878757 = 1 ∧ aH (dAt D x) 1650811246 = 1) := ⟨fun q => q.2.2.2.2.resolve_left (fun v => v h), fun p => ⟨Or.inl (by omega), Or.inl (by omega), Or.inl (by omega), Or.inl (by omega), Or.inr p⟩⟩
theorem NEE_0 {D : List El7} {x : Nat} (h : ¬ dKd D x = 2 ∧ ¬ dKd D x = 3 ∧ ¬ dKd D x = 5 ∧ ¬ dKd D x = 8 ∧ ¬ dKd D x = 10) : NEE D x := ⟨Or.inl h.1, Or.inl h.2.1, Or.inl h.2.2.1, Or.inl h.2.2.2.1, Or.inl h.2.2.2.2⟩

set_option maxHeartbeats 4000000 in
set_option maxRecDepth 100000 in
theorem d_attributeWord2 (l : Launch) (dC : Nat → ClassId) (dI : Nat → Nat → Nat) (ad : Nat → Nat → Nat) (cid : Nat → ClassId) (a2 : Nat → Nat) (lx : List Nat) (sg : Nat → Int32) (gm : Nat → Nat → Int32) (lg : Nat → Nat → Int64) (x : Int32) (i : Int32) (hI : CI sg gm) (hvx : iv 0 0 x) (hvi : iv 0 239 i) : CMt dC dI ad cid a2 lx l yX6_attributeWord wm_X6_attributeWord ({ frames := 1, cells := 1, slots := 6, locals := 25 }) [eV (ad 1) x, .int i] sg gm lg (fun v u => ∃ r : Int32, v = some (eV (ad 33) r) ∧ u = (sg, gm, lg) ∧ (iv (-1) 33 r) ∧ (WKR r (lg 0 i.toNatClampNeg))) (fun _ _ => False) := by
  intro sz
  refine vx_ofW (cc := cX6_attributeWord) (maxL := 2) (ret := (some (.object "WiredBeans$Word"))) (by decide) rfl ?_
  intro p e s m args below meth c s₁ B hml hxt hv
  obtain ⟨rfl, hsz, hP, hK, hD0, hG⟩ := hv
  have hx := B.exec
  have hb := B.bytes
  have hr := B.returns
  have hts := atoms_spec (ws := wm_X6_attributeWord) B.pre
  have htb := fun (w : Cond) (h : w ∈ tb) => hts w (List.mem_cons_of_mem _ h)
  have hown : s.vm.findClass RX6 = some m.cls := findClass_of_methodNamed B.named
  have hlocks := B.notSynchronized
  subst hsz
  have hD := hD0.self (sz := s.heap.size)
  generalize hAe : va_A (cW ad cid a2 lx sg gm lg) s.heap.size = A at hD hG ⊢
  have hA : ∀ q : Nat, s.heap.size ≤ q → A q := fun q h => by rw [← hAe]; exact Or.inr h
  have hS : va_S A s.heap s.heap [] := va_S.rf
  have hl := lv_entry ([eV (ad 1) x, .int i]) (n := 2) (by rw [show (lg_sl ([eV (ad 1) x, .int i])).length = 2 from by simp [lg_sl, eV_cat, cat_i, cat_l]]; exact Nat.le_of_ble_eq_true rfl)
  rw [lg_entry_eq]
  generalize (lg_sl ([eV (ad 1) x, .int i]) ++ List.replicate (2 - (lg_sl ([eV (ad 1) x, .int i])).length) Slot.unset).toArray = ls at hl ⊢
  have hl : lv_has ls 2 [(0, eV (ad 1) x), (1, .int i)] := by simp [lv_args, eV_cat, cat_i, cat_l] at hl; exact hl
  refine ec_aload_n hx hb dX6_attributeWord_0 rfl (lv_at hl 0 rfl) ?_
  refine cr_get (t := 1) (j := 1) (C := RX6) (T := TX6) (N := 8) (v := eV (ad 15) 0) hx hb htb inX6 hown hK hP hvx (by decide) (by decide) (by decide) rfl (by decide) (htb _ kw_67) (cV_c rfl (by decide) (by rw [show cMu 1 1 = 0 from rfl, Nat.zero_mul]; rfl)) dX6_attributeWord_1 ?_
  refine lv_iload_n hx hb dX6_attributeWord_4 rfl (lv_at hl 1 rfl) ?_
  refine cr_lald hx hb hK hP (iv_k (by decide) : iv 0 0 0) (show vp_in i 240 from (iv_in hvi (by decide))) dX6_attributeWord_5 ?_
  refine lv_topl (fun z_1 ez_1 => ?_)
  refine cm_callS (rest := []) (as := [.long z_1]) ⟨hx, hb, hml, hown, htb⟩ (d_withKey2 l dC dI ad cid a2 lx sg gm lg z_1 hI) (va_cwS 1 htb (gd_S kw_563 kw_409 kw_410 kw_1431) rfl rfl rfl (by decide +kernel) ⟨Nat.le_of_ble_eq_true rfl, Nat.le_of_ble_eq_true rfl⟩)  rfl hl.1 rfl (Nat.le_trans cs_n (by decide)) dX6_attributeWord_6 ⟨Nat.le_of_ble_eq_true rfl, Nat.le_of_ble_eq_true rfl⟩ hK hP hD hS hA hG (fun E ce q9 u_3 H locs hw hP hD hS hce hcv hcl => ?_) (fun v9 u_3 H locs hw hP hD hS => ?_)
  · exact hw.elim
  obtain ⟨r_2, rfl, rfl, hr_2, fW_r_2⟩ := hw
  have hP : va_P (dC, dI) vwCl (cW ad cid a2 lx sg gm lg) H := hP
  have hD : va_D A (cW ad cid a2 lx sg gm lg) := hD
  refine W.eq (g2 := F0 m 9 ls [eV (ad 33) r_2]) rfl ?_
  exact W.nb (fun hN => W.widen (k := 1) (n := 6) (by decide) (by decide) (vx_ret (W.aret (v := eV (ad 33) r_2) hx hb hr (Or.inl ⟨_, rfl⟩) (eV_is _ _) (fun t ht hW => ⟨⟨some (eV (ad 33) r_2), (sg, gm, lg), rfl, ⟨r_2, rfl, rfl, hr_2, ((by rw [← ez_1]; exact fW_r_2))⟩, by rw [ht]; exact hP, va_K.moved hW.alike hK, hD⟩, hS.F ht, by rw [ht]; exact hN⟩) hS.2.2 dX6_attributeWord_9)))

set_option maxHeartbeats 4000000 in
set_option maxRecDepth 100000 in
theorem d_hasRightAttributes2 (l : Launch) (dC : Nat → ClassId) (dI : Nat → Nat → Nat) (ad : Nat → Nat → Nat) (cid : Nat → ClassId) (a2 : Nat → Nat) (lx : List Nat) (sg : Nat → Int32) (gm : Nat → Nat → Int32) (lg : Nat → Nat → Int64) (x : Int32) (o : Int32) (D : List El7) (hI : CI sg gm) (hvx : iv 0 0 x) (hvo : iv 0 79 o) (hFA : FA sg gm) (how : o.toInt < (sg 4).toInt) (hVS : VS sg gm) (hw0 : 0 ≤ (gm 14 o.toNatClampNeg).toInt) (hEV : EV7 D sg gm lg o.toNatClampNeg) (hPA : PA7 (dAt D o.toNatClampNeg)) : CMt dC dI ad cid a2 lx l yX9_hasRightAttributes wm_X9_hasRightAttributes ({ frames := 4, cells := 1, slots := 6, locals := 97 }) [eV (ad 3) x, eV (ad 9) o] sg gm lg (fun v u => ∃ r : Int32, v = some (.int r) ∧ u = (sg, gm, lg) ∧ (iv 0 1 r) ∧ ((r.toInt = 1 ∧ (ATN D o.toNatClampNeg)) ∨ (r.toInt = 0 ∧ ¬ (ATN D o.toNatClampNeg)))) (fun _ _ => False) := by
  intro sz
  refine vx_ofW (cc := cX9_hasRightAttributes) (maxL := 4) (ret := (some .boolean)) (by decide) rfl ?_
  intro p e s m args below meth c s₁ B hml hxt hv
  obtain ⟨rfl, hsz, hP, hK, hD0, hG⟩ := hv
  have hx := B.exec
  have hb := B.bytes
  have hr := B.returns
  have hts := atoms_spec (ws := wm_X9_hasRightAttributes) B.pre
  have htb := fun (w : Cond) (h : w ∈ tb) => hts w (List.mem_cons_of_mem _ h)
  have hown : s.vm.findClass RX9 = some m.cls := findClass_of_methodNamed B.named
  have hlocks := B.notSynchronized
  subst hsz
  have hD := hD0.self (sz := s.heap.size)
  generalize hAe : va_A (cW ad cid a2 lx sg gm lg) s.heap.size = A at hD hG ⊢
  have hA : ∀ q : Nat, s.heap.size ≤ q → A q := fun q h => by rw [← hAe]; exact Or.inr h
  have hS : va_S A s.heap s.heap [] := va_S.rf
  have hl := lv_entry ([eV (ad 3) x, eV (ad 9) o]) (n := 4) (by rw [show (lg_sl ([eV (ad 3) x, eV (ad 9) o])).length = 2 from by simp [lg_sl, eV_cat, cat_i, cat_l]]; exact Nat.le_of_ble_eq_true rfl)
  rw [lg_entry_eq]
  generalize (lg_sl ([eV (ad 3) x, eV (ad 9) o]) ++ List.replicate (4 - (lg_sl ([eV (ad 3) x, eV (ad 9) o])).length) Slot.unset).toArray = ls at hl ⊢
  have hl : lv_has ls 4 [(0, eV (ad 3) x), (1, eV (ad 9) o)] := by simp [lv_args, eV_cat, cat_i, cat_l] at hl; exact hl
  have hj46 : ∀ (x3_46 : Int32) (x2_46 : Int32) (_ : iv (-1) 33 x3_46) (_ : iv 0 11 x2_46) (_ : iv 0 0 x) (_ : iv 0 79 o) (_ : ¬ ATN D o.toNatClampNeg) (H : Heap) (locs : List Loc) (ls : Array Slot), va_P (dC, dI) vwCl (cW ad cid a2 lx sg gm lg) H → va_D A (cW ad cid a2 lx sg gm lg) → va_S A s.heap H locs → lv_has ls 4 [(3, eV (ad 33) x3_46), (2, .int x2_46), (0, eV (ad 3) x), (1, eV (ad 9) o)] → W p l e (headSpec wm_X9_hasRightAttributes ({ frames := 4, cells := 1, slots := 6, locals := 97 })).room s m ([eV (ad 3) x, eV (ad 9) o] : List Value).toArray below meth c H locs 0 0 (vx_MQ below (cQx dC dI ad cid a2 lx (fun v u => ∃ r : Int32, v = some (.int r) ∧ u = (sg, gm, lg) ∧ (iv 0 1 r) ∧ ((r.toInt = 1 ∧ (ATN D o.toNatClampNeg)) ∨ (r.toInt = 0 ∧ ¬ (ATN D o.toNatClampNeg)))) A) (cX dC dI ad cid a2 lx (fun _ _ => False) A) ([eV (ad 3) x, eV (ad 9) o] : List Value).toArray s 1 6 A) (F0 m 46 ls []) := by
    intro x3_46 x2_46 hx3_46 hx2_46 hsx0_46 hsx1_46 u46 H locs ls hP hD hS hl
    refine lv_iconst (v := 0) hx hb dX9_hasRightAttributes_46 (by decide) ?_
    exact W.nb (fun hN => W.widen (k := 1) (n := 6) (by decide) (by decide) (vx_ret (W.zret (v := 0) hx hb hr (iv_nb (iv_w (iv_k (by decide) : iv 0 0 0) (by decide))) (fun t ht hW => ⟨⟨some (.int 0), (sg, gm, lg), rfl, ⟨0, rfl, rfl, (iv_w (iv_k (by decide) : iv 0 0 0) (by decide)), (Or.inr ⟨rfl, u46⟩)⟩, by rw [ht]; exact hP, va_K.moved hW.alike hK, hD⟩, hS.F ht, by rw [ht]; exact hN⟩) hS.2.2 dX9_hasRightAttributes_47)))
  have hj2 : ∀ (n : Nat) (x2_2 : Int32) (_ : (12 - x2_2.toInt).toNat = n) (_ : iv 0 12 x2_2) (_ : iv 0 0 x) (_ : iv 0 79 o) (_ : ∀ (i : Nat) (y : Int64 × List Int), i < x2_2.toNatClampNeg → (dAt D o.toNatClampNeg)[i]? = some y → MAY (dKd D o.toNatClampNeg) (dIn D o.toNatClampNeg) y.1.toInt ∧ RVL (dKd D o.toNatClampNeg) (dAt D o.toNatClampNeg) y.1) (H : Heap) (locs : List Loc) (ls : Array Slot), va_P (dC, dI) vwCl (cW ad cid a2 lx sg gm lg) H → va_D A (cW ad cid a2 lx sg gm lg) → va_S A s.heap H locs → lv_has ls 4 [(2, .int x2_2), (0, eV (ad 3) x), (1, eV (ad 9) o)] → W p l e (headSpec wm_X9_hasRightAttributes ({ frames := 4, cells := 1, slots := 6, locals := 97 })).room s m ([eV (ad 3) x, eV (ad 9) o] : List Value).toArray below meth c H locs 0 0 (vx_MQ below (cQx dC dI ad cid a2 lx (fun v u => ∃ r : Int32, v = some (.int r) ∧ u = (sg, gm, lg) ∧ (iv 0 1 r) ∧ ((r.toInt = 1 ∧ (ATN D o.toNatClampNeg)) ∨ (r.toInt = 0 ∧ ¬ (ATN D o.toNatClampNeg)))) A) (cX dC dI ad cid a2 lx (fun _ _ => False) A) ([eV (ad 3) x, eV (ad 9) o] : List Value).toArray s 1 6 A) (F0 m 2 ls []) := by
    intro n
    induction n using Nat.strongRecOn with
    | ind n ih2 =>
      intro x2_2 hn2 hx2_2 hsx0_2 hsx1_2 hA9 H locs ls hP hD hS hl
      refine lv_iload_n hx hb dX9_hasRightAttributes_2 rfl (lv_at hl 0 rfl) ?_
      refine ec_aload_n hx hb dX9_hasRightAttributes_3 rfl (lv_at hl 2 rfl) ?_
      refine cr_get (t := 9) (j := 10) (C := RX3) (T := TX3) (N := 21) (v := .int (gm 20 o.toNatClampNeg)) hx hb htb inX3 hown hK hP hsx1_2 (by decide) (by decide) (by decide) rfl (by decide) (htb _ kw_558) rfl dX9_hasRightAttributes_4 ?_
      obtain ⟨z_1, ez_1⟩ : ∃ z : Int32, z = (gm 20 o.toNatClampNeg) := ⟨_, rfl⟩
      refine W.eq (g2 := F0 m 7 ls [.int z_1, .int x2_2]) (by rw [ez_1]) ?_
      have hz_1 : iv 0 12 z_1 := iv_of ez_1 (CI_a hI 20 hsx1_2 (by decide))
      refine lv_icmp_ge (tgt := 54) hx hb dX9_hasRightAttributes_7 (by decide) (fun c_2 => ?_) (fun c_2 => ?_)
      · have d_3 : (z_1 : Int32).toInt ≤ (x2_2 : Int32).toInt := Int32.le_iff_toInt_le.mp c_2
        refine lv_iconst (v := 1) hx hb dX9_hasRightAttributes_54 (by decide) ?_
        exact W.nb (fun hN => W.widen (k := 1) (n := 6) (by decide) (by decide) (vx_ret (W.zret (v := 1) hx hb hr (iv_nb (iv_w (iv_k (by decide) : iv 1 1 1) (by decide))) (fun t ht hW => ⟨⟨some (.int 1), (sg, gm, lg), rfl, ⟨1, rfl, rfl, (iv_w (iv_k (by decide) : iv 1 1 1) (by decide)), (Or.inl ⟨rfl, fun y hy => by obtain ⟨i, hi, he⟩ := List.mem_iff_getElem.mp hy; exact hA9 i y (by have := hEV.2.1.1; have := iv_cl hx2_2 (by decide); have := congrArg Int32.toInt ez_1; have := i32_0; have := i32_1; have := i32_2; have := i32_m1; have := (hsx0_2).1; have := (hsx0_2).2; have := (hsx1_2).1; have := (hsx1_2).2; have := (hx2_2).1; have := (hx2_2).2; have := (hz_1).1; have := (hz_1).2; omega) (by rw [List.getElem?_eq_getElem hi, he])⟩)⟩, by rw [ht]; exact hP, va_K.moved hW.alike hK, hD⟩, hS.F ht, by rw [ht]; exact hN⟩) hS.2.2 dX9_hasRightAttributes_55)))
      · have d_4 : (x2_2 : Int32).toInt < (z_1 : Int32).toInt := Int32.lt_iff_toInt_lt.mp (i32_lt c_2)
        have h_5 : iv 0 11 x2_2 := iv_ltL (i32_lt c_2) hx2_2 hz_1 (by decide)
        have h_6 : iv 1 12 z_1 := iv_ltR (i32_lt c_2) hx2_2 hz_1 (by decide)
        refine ec_aload_n hx hb dX9_hasRightAttributes_10 rfl (lv_at hl 1 rfl) ?_
        refine cr_get (t := 3) (j := 0) (C := RX9) (T := TX9) (N := 1) (v := eV (ad 1) 0) hx hb htb inX9 hown hK hP hsx0_2 (by decide) (by decide) (by decide) rfl (by decide) (htb _ kw_82) (cV_c rfl (by decide) (by rw [show cMu 3 0 = 0 from rfl, Nat.zero_mul]; rfl)) dX9_hasRightAttributes_11 ?_
        refine ec_aload_n hx hb dX9_hasRightAttributes_14 rfl (lv_at hl 2 rfl) ?_
        refine cr_get (t := 9) (j := 9) (C := RX3) (T := TX3) (N := 21) (v := .int (gm 19 o.toNatClampNeg)) hx hb htb inX3 hown hK hP hsx1_2 (by decide) (by decide) (by decide) rfl (by decide) (htb _ kw_559) rfl dX9_hasRightAttributes_15 ?_
        obtain ⟨z_7, ez_7⟩ : ∃ z : Int32, z = (gm 19 o.toNatClampNeg) := ⟨_, rfl⟩
        refine W.eq (g2 := F0 m 18 ls [.int z_7, eV (ad 1) 0]) (by rw [ez_7]) ?_
        have hz_7 : iv 0 240 z_7 := iv_of ez_7 (CI_a hI 19 hsx1_2 (by decide))
        refine lv_iload_n hx hb dX9_hasRightAttributes_18 rfl (lv_at hl 0 rfl) ?_
        have hfa9 : (z_7 : Int32).toInt + (z_1 : Int32).toInt ≤ (sg 5).toInt := by rw [ez_7, ez_1]; exact hFA _ (lt_cl hvo (show iv 0 80 (sg 4) from CI_s hI 4) (by decide) (by decide) how)
        refine lv_iadd hx hb dX9_hasRightAttributes_19 ?_
        refine lv_topi (fun z_8 ez_8 => ?_)
        have hz_8 : iv 0 251 z_8 := iv_of ez_8 (iv_add hz_7 h_5 (by decide))
        have tz_8 : z_8.toInt = (z_7 : Int32).toInt + (x2_2 : Int32).toInt := by rw [ez_8]; exact iv_addE hz_7 h_5 (by decide)
        have h_9 : iv 0 239 z_8 := ⟨by have := i32_0; have := i32_1; have := i32_2; have := i32_m1; have := (show iv 0 240 (sg 5) from CI_s hI 5).1; have := (show iv 0 240 (sg 5) from CI_s hI 5).2; have := (hsx0_2).1; have := (hsx0_2).2; have := (hsx1_2).1; have := (hsx1_2).2; have := (h_5).1; have := (h_5).2; have := (h_6).1; have := (h_6).2; have := (hz_7).1; have := (hz_7).2; have := (hz_8).1; have := (hz_8).2; omega, by have := i32_0; have := i32_1; have := i32_2; have := i32_m1; have := (show iv 0 240 (sg 5) from CI_s hI 5).1; have := (show iv 0 240 (sg 5) from CI_s hI 5).2; have := (hsx0_2).1; have := (hsx0_2).2; have := (hsx1_2).1; have := (hsx1_2).2; have := (h_5).1; have := (h_5).2; have := (h_6).1; have := (h_6).2; have := (hz_7).1; have := (hz_7).2; have := (hz_8).1; have := (hz_8).2; omega⟩
        refine cm_callV (t := 1) (C := RX6) (T := TX6) (N := 8) (rest := []) (as := [.int z_8]) ⟨hx, hb, hml, hown, htb⟩ (d_attributeWord2 l dC dI ad cid a2 lx sg gm lg 0 z_8 hI (iv_k (by decide) : iv 0 0 0) h_9) (cwV 1 htb (gd_V kw_560 kw_561 kw_562 kw_20 kw_1471) rfl rfl rfl (by decide +kernel) ⟨Nat.le_of_ble_eq_true rfl, Nat.le_of_ble_eq_true rfl⟩) (iv_k (by decide) : iv 0 0 0) (by decide) (by decide) rfl rfl hl.1 rfl (Nat.le_trans cs_n (by decide)) dX9_hasRightAttributes_20 ⟨Nat.le_of_ble_eq_true rfl, Nat.le_of_ble_eq_true rfl⟩ hK hP hD hS hA hG (fun E ce q9 u_11 H locs hw hP hD hS hce hcv hcl => ?_) (fun v9 u_11 H locs hw hP hD hS => ?_)
        · exact hw.elim
        obtain ⟨r_10, rfl, rfl, hr_10, fA_r_10⟩ := hw
        have hP : va_P (dC, dI) vwCl (cW ad cid a2 lx sg gm lg) H := hP
        have hD : va_D A (cW ad cid a2 lx sg gm lg) := hD
        refine W.eq (g2 := F0 m 23 ls [eV (ad 33) r_10]) rfl ?_
        refine ec_astore_n (i := 3) (lv' := [(3, eV (ad 33) r_10), (2, .int x2_2), (0, eV (ad 3) x), (1, eV (ad 9) o)]) hx hb dX9_hasRightAttributes_23 rfl hl (by decide) rfl (fun ls hl => ?_)
        obtain ⟨yy, hyy⟩ : ∃ y, (dAt D o.toNatClampNeg)[x2_2.toNatClampNeg]? = some y := ⟨_, List.getElem?_eq_getElem (show x2_2.toNatClampNeg < (dAt D o.toNatClampNeg).length from (by have := hEV.2.1.1; have := iv_cl h_5 (by decide); have := congrArg Int32.toInt ez_1; have := i32_0; have := i32_1; have := i32_2; have := i32_m1; have := (hsx0_2).1; have := (hsx0_2).2; have := (hsx1_2).1; have := (hsx1_2).2; have := (h_5).1; have := (h_5).2; have := (h_6).1; have := (h_6).2; have := (hz_7).1; have := (hz_7).2; have := (h_9).1; have := (h_9).2; have := (hr_10).1; have := (hr_10).2; omega))⟩
        have hwk : WKR r_10 yy.1 := by have q9 := fA_r_10; rw [cl_add hz_7 h_5 (by decide) (by decide) tz_8, ez_7] at q9; rw [show lg 0 ((gm 19 o.toNatClampNeg).toNatClampNeg + x2_2.toNatClampNeg) = yy.1 from (hEV.2.1.2.2.2 _ _ hyy).1] at q9; exact q9
        refine ec_aload_n hx hb dX9_hasRightAttributes_24 rfl (lv_at hl 0 rfl) ?_
        refine ec_ifnull (tgt := 46) hx hb dX9_hasRightAttributes_25 (by decide) (fun c_13 => ?_) (fun c_13 => ?_)
        · have h_14 : iv (-1) (-1) r_10 := ⟨(hr_10).1, by omega⟩
          exact hj46 r_10 x2_2 (iv_w h_14 (by decide)) h_5 hsx0_2 hsx1_2 ((fun h => by have q9 := (hwk.resolve_left (fun q8 => absurd q8.1 (by have := i32_0; have := i32_1; have := i32_2; have := i32_m1; have := (hsx0_2).1; have := (hsx0_2).2; have := (hsx1_2).1; have := (hsx1_2).2; have := (h_5).1; have := (h_5).2; have := (h_6).1; have := (h_6).2; have := (hz_7).1; have := (hz_7).2; have := (h_9).1; have := (h_9).2; have := (h_14).1; have := (h_14).2; omega))).2; obtain ⟨j, j1, j2⟩ := MK_w (MAY_k (h yy (List.mem_of_getElem? hyy)).1); exact q9 j j1 j2)) _ _ _ hP hD hS (lv_sub hl [0, 1, 2, 3] rfl)
        · have h_15 : iv 0 33 r_10 := ⟨c_13, (hr_10).2⟩
          refine ec_aload_n hx hb dX9_hasRightAttributes_28 rfl (lv_at hl 2 rfl) ?_
          refine ec_aload_n hx hb dX9_hasRightAttributes_29 rfl (lv_at hl 3 rfl) ?_
          refine ec_aload_n hx hb dX9_hasRightAttributes_30 rfl (lv_at hl 0 rfl) ?_
          refine cm_callV (t := 3) (C := RX9) (T := TX9) (N := 1) (rest := []) (as := [eV (ad 9) o, eV (ad 33) r_10]) ⟨hx, hb, hml, hown, htb⟩ (d_mayHave2 l dC dI ad cid a2 lx sg gm lg x o r_10 D hI hsx0_2 hsx1_2 h_15 (by first | assumption | decide) hEV) (cwV 2 htb (gd_V kw_564 kw_565 kw_566 kw_28 kw_1472) rfl rfl rfl (by decide +kernel) ⟨Nat.le_of_ble_eq_true rfl, Nat.le_of_ble_eq_true rfl⟩) hsx0_2 (by decide) (by decide) rfl rfl hl.1 rfl (Nat.le_trans cs_n (by decide)) dX9_hasRightAttributes_31 ⟨Nat.le_of_ble_eq_true rfl, Nat.le_of_ble_eq_true rfl⟩ hK hP hD hS hA hG (fun E ce q9 u_17 H locs hw hP hD hS hce hcv hcl => ?_) (fun v9 u_17 H locs hw hP hD hS => ?_)
          · exact hw.elim
          obtain ⟨r_16, rfl, rfl, hr_16, fM_r_16⟩ := hw
          have hP : va_P (dC, dI) vwCl (cW ad cid a2 lx sg gm lg) H := hP
          have hD : va_D A (cW ad cid a2 lx sg gm lg) := hD
          refine W.eq (g2 := F0 m 34 ls [.int r_16]) rfl ?_
          refine lv_if_eq (tgt := 46) hx hb dX9_hasRightAttributes_34 (by decide) (fun c_19 => ?_) (fun c_19 => ?_)
          · have h_20 : iv 0 0 r_16 := iv_eq c_19 hr_16 (iv_k (by decide) : iv 0 0 0) (by decide)
            exact hj46 r_10 x2_2 (iv_w h_15 (by decide)) h_5 hsx0_2 hsx1_2 ((fun h => (fM_r_16.resolve_left (fun q8 => absurd q8.1 (by have := i32_0; have := i32_1; have := i32_2; have := i32_m1; have := (hsx0_2).1; have := (hsx0_2).2; have := (hsx1_2).1; have := (hsx1_2).2; have := (h_5).1; have := (h_5).2; have := (h_6).1; have := (h_6).2; have := (hz_7).1; have := (hz_7).2; have := (h_9).1; have := (h_9).2; have := (h_15).1; have := (h_15).2; have := (h_20).1; have := (h_20).2; omega))).2 (by rw [(hwk.resolve_right (fun q8 => absurd q8.1 (by have := i32_0; have := i32_1; have := i32_2; have := i32_m1; have := (hsx0_2).1; have := (hsx0_2).2; have := (hsx1_2).1; have := (hsx1_2).2; have := (h_5).1; have := (h_5).2; have := (h_6).1; have := (h_6).2; have := (hz_7).1; have := (hz_7).2; have := (h_9).1; have := (h_9).2; have := (h_15).1; have := (h_15).2; have := (h_20).1; have := (h_20).2; omega))).2.2]; exact (h yy (List.mem_of_getElem? hyy)).1))) _ _ _ hP hD hS (lv_sub hl [0, 1, 2, 3] rfl)
          · have h_21 : iv 1 1 r_16 := iv_neL c_19 hr_16 (by decide)
            refine ec_aload_n hx hb dX9_hasRightAttributes_37 rfl (lv_at hl 2 rfl) ?_
            refine ec_aload_n hx hb dX9_hasRightAttributes_38 rfl (lv_at hl 3 rfl) ?_
            refine ec_aload_n hx hb dX9_hasRightAttributes_39 rfl (lv_at hl 0 rfl) ?_
            refine cm_callV (t := 3) (C := RX9) (T := TX9) (N := 1) (rest := []) (as := [eV (ad 9) o, eV (ad 33) r_10]) ⟨hx, hb, hml, hown, htb⟩ (d_hasRightValue2 l dC dI ad cid a2 lx sg gm lg x o r_10 D hI hsx0_2 hsx1_2 h_15 hFA how hVS (by first | assumption | decide) hEV hPA (MAY_k (fM_r_16.resolve_right (fun q8 => absurd q8.1 (by have := i32_0; have := i32_1; have := i32_2; have := i32_m1; have := (hsx0_2).1; have := (hsx0_2).2; have := (hsx1_2).1; have := (hsx1_2).2; have := (h_5).1; have := (h_5).2; have := (h_6).1; have := (h_6).2; have := (hz_7).1; have := (hz_7).2; have := (h_9).1; have := (h_9).2; have := (h_15).1; have := (h_15).2; have := (h_21).1; have := (h_21).2; omega))).2)) (cwV 2 htb (gd_V kw_574 kw_575 kw_576 kw_28 kw_1474) rfl rfl rfl (by decide +kernel) ⟨Nat.le_of_ble_eq_true rfl, Nat.le_of_ble_eq_true rfl⟩) hsx0_2 (by decide) (by decide) rfl rfl hl.1 rfl (Nat.le_trans cs_n (by decide)) dX9_hasRightAttributes_40 ⟨Nat.le_of_ble_eq_true rfl, Nat.le_of_ble_eq_true rfl⟩ hK hP hD hS hA hG (fun E ce q9 u_23 H locs hw hP hD hS hce hcv hcl => ?_) (fun v9 u_23 H locs hw hP hD hS => ?_)
            · exact hw.elim
            obtain ⟨r_22, rfl, rfl, hr_22, fV_r_22⟩ := hw
            have hP : va_P (dC, dI) vwCl (cW ad cid a2 lx sg gm lg) H := hP
            have hD : va_D A (cW ad cid a2 lx sg gm lg) := hD
            refine W.eq (g2 := F0 m 43 ls [.int r_22]) rfl ?_
            refine lv_if_ne (tgt := 48) hx hb dX9_hasRightAttributes_43 (by decide) (fun c_25 => ?_) (fun c_25 => ?_)
            · have h_26 : iv 1 1 r_22 := iv_neL c_25 hr_22 (by decide)
              obtain ⟨z_27, ez_27⟩ : ∃ z : Int32, z = x2_2 + 1 := ⟨_, rfl⟩
              have hz_27 : iv 1 12 z_27 := iv_of ez_27 (iv_add h_5 (iv_k (by decide) : iv 1 1 1) (by decide))
              have tz_27 : z_27.toInt = x2_2.toInt + 1 := by rw [ez_27]; exact iv_addE h_5 (iv_k (by decide) : iv 1 1 1) (by decide)
              refine lv_iinc (v := z_27) (lv' := [(2, .int z_27), (3, eV (ad 33) r_10), (0, eV (ad 3) x), (1, eV (ad 9) o)]) hx hb dX9_hasRightAttributes_48 hl (k := 1) rfl ez_27.symm (by decide) (by simp [List.filter, eV_cat, cat_i, cat_l]) (fun ls hl => ?_)
              refine lv_goto (tgt := 2) hx hb dX9_hasRightAttributes_51 (by decide) ?_
              exact ih2 _ (by rw [← hn2]; exact (iv_meas tz_27 h_5 (by decide))) z_27 rfl (iv_w hz_27 (by decide)) hsx0_2 hsx1_2 ((fun i y hi hy => by rw [s_cl h_5 (by decide) tz_27] at hi; by_cases hq : i = x2_2.toNatClampNeg; (rw [hq, hyy] at hy; cases hy; rw [← (hwk.resolve_right (fun q8 => absurd q8.1 (by have := i32_0; have := i32_1; have := i32_2; have := i32_m1; have := (hsx0_2).1; have := (hsx0_2).2; have := (hsx1_2).1; have := (hsx1_2).2; have := (h_5).1; have := (h_5).2; have := (h_6).1; have := (h_6).2; have := (hz_7).1; have := (hz_7).2; have := (h_9).1; have := (h_9).2; have := (h_15).1; have := (h_15).2; have := (h_21).1; have := (h_21).2; have := (h_26).1; have := (h_26).2; have := (hz_27).1; have := (hz_27).2; omega))).2.2]; exact ⟨(fM_r_16.resolve_right (fun q8 => absurd q8.1 (by have := i32_0; have := i32_1; have := i32_2; have := i32_m1; have := (hsx0_2).1; have := (hsx0_2).2; have := (hsx1_2).1; have := (hsx1_2).2; have := (h_5).1; have := (h_5).2; have := (h_6).1; have := (h_6).2; have := (hz_7).1; have := (hz_7).2; have := (h_9).1; have := (h_9).2; have := (h_15).1; have := (h_15).2; have := (h_21).1; have := (h_21).2; have := (h_26).1; have := (h_26).2; have := (hz_27).1; have := (hz_27).2; omega))).2, (fV_r_22.resolve_right (fun q8 => absurd q8.1 (by have := i32_0; have := i32_1; have := i32_2; have := i32_m1; have := (hsx0_2).1; have := (hsx0_2).2; have := (hsx1_2).1; have := (hsx1_2).2; have := (h_5).1; have := (h_5).2; have := (h_6).1; have := (h_6).2; have := (hz_7).1; have := (hz_7).2; have := (h_9).1; have := (h_9).2; have := (h_15).1; have := (h_15).2; have := (h_21).1; have := (h_21).2; have := (h_26).1; have := (h_26).2; have := (hz_27).1; have := (hz_27).2; omega))).2⟩); exact hA9 i y (by omega) hy)) _ _ _ hP hD hS (lv_sub hl [0, 2, 3] rfl)
            · have h_28 : iv 0 0 r_22 := iv_eq c_25 hr_22 (iv_k (by decide) : iv 0 0 0) (by decide)
              exact hj46 r_10 x2_2 (iv_w h_15 (by decide)) h_5 hsx0_2 hsx1_2 ((fun h => (fV_r_22.resolve_left (fun q8 => absurd q8.1 (by have := i32_0; have := i32_1; have := i32_2; have := i32_m1; have := (hsx0_2).1; have := (hsx0_2).2; have := (hsx1_2).1; have := (hsx1_2).2; have := (h_5).1; have := (h_5).2; have := (h_6).1; have := (h_6).2; have := (hz_7).1; have := (hz_7).2; have := (h_9).1; have := (h_9).2; have := (h_15).1; have := (h_15).2; have := (h_21).1; have := (h_21).2; have := (h_28).1; have := (h_28).2; omega))).2 (by rw [(hwk.resolve_right (fun q8 => absurd q8.1 (by have := i32_0; have := i32_1; have := i32_2; have := i32_m1; have := (hsx0_2).1; have := (hsx0_2).2; have := (hsx1_2).1; have := (hsx1_2).2; have := (h_5).1; have := (h_5).2; have := (h_6).1; have := (h_6).2; have := (hz_7).1; have := (hz_7).2; have := (h_9).1; have := (h_9).2; have := (h_15).1; have := (h_15).2; have := (h_21).1; have := (h_21).2; have := (h_28).1; have := (h_28).2; omega))).2.2]; exact (h yy (List.mem_of_getElem? hyy)).2))) _ _ _ hP hD hS (lv_sub hl [0, 1, 2, 3] rfl)
  refine lv_iconst (v := 0) hx hb dX9_hasRightAttributes_0 (by decide) ?_
  refine lv_istore_n (i := 2) (lv' := [(2, .int 0), (0, eV (ad 3) x), (1, eV (ad 9) o)]) hx hb dX9_hasRightAttributes_1 rfl hl (by decide) (by simp [List.filter, eV_cat, cat_i, cat_l]) (fun ls hl => ?_)
  exact hj2 _ 0 rfl (iv_w (iv_k (by decide) : iv 0 0 0) (by decide)) hvx hvo ((fun i y hi => absurd hi (Nat.not_lt_zero _))) _ _ _ hP hD hS (lv_sub hl [0, 1, 2] rfl)
