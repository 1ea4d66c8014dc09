set_option maxHeartbeats 4000000 in
set_option maxRecDepth 100000 in
theorem d_isIn2 (l : Launch) (dC : Nat → ClassId) (dI : Nat → Nat → Nat) (ad : Nat → Nat → Nat) (cid : Nat → ClassId) (a2 : Nat → Nat) (lx : List Nat) (sg : Nat → Int32) (gm : Nat → Nat → Int32) (lg : Nat → Nat → Int64) (x : Int32) (a : Int32) (hI : CI sg gm) (hvx : iv 0 79 x) (hva : iv (-1) 33 a) : CMt dC dI ad cid a2 lx l yX3_isIn wm_X3_isIn ({ frames := 0, cells := 1, slots := 6, locals := 0 }) [eV (ad 9) x, eV (ad 33) a] sg gm lg (fun v u => ∃ r : Int32, v = some (.int r) ∧ u = (sg, gm, lg) ∧ (iv 0 1 r) ∧ ((r.toInt = 1 ∧ (ISI gm x.toNatClampNeg a)) ∨ (r.toInt = 0 ∧ ¬ (ISI gm x.toNatClampNeg a)))) (fun _ _ => False) := by
  intro sz
  refine vx_ofW (cc := cX3_isIn) (maxL := 2) (ret := (some .boolean)) (by decide) rfl ?_
  intro p e s m args below meth c s₁ B hml hxt hv
  obtain ⟨rfl, hsz, hP, hK, hD0, hG⟩ := hv
  have hx := B.exec
  have hb := B.bytes
  have hr := B.returns
  have hts := atoms_spec (ws := wm_X3_isIn) B.pre
  have htb := fun (w : Cond) (h : w ∈ tb) => hts w (List.mem_cons_of_mem _ h)
  have hown : s.vm.findClass RX3 = some m.cls := findClass_of_methodNamed B.named
  have hlocks := B.notSynchronized
  subst hsz
  have hD := hD0.self (sz := s.heap.size)
  generalize hAe : va_A (cW ad cid a2 lx sg gm lg) s.heap.size = A at hD hG ⊢
  have hA : ∀ q : Nat, s.heap.size ≤ q → A q := fun q h => by rw [← hAe]; exact Or.inr h
  have hS : va_S A s.heap s.heap [] := va_S.rf
  have hl := lv_entry ([eV (ad 9) x, eV (ad 33) a]) (n := 2) (by rw [show (lg_sl ([eV (ad 9) x, eV (ad 33) a])).length = 2 from by simp [lg_sl, eV_cat, cat_i, cat_l]]; exact Nat.le_of_ble_eq_true rfl)
  rw [lg_entry_eq]
  generalize (lg_sl ([eV (ad 9) x, eV (ad 33) a]) ++ List.replicate (2 - (lg_sl ([eV (ad 9) x, eV (ad 33) a])).length) Slot.unset).toArray = ls at hl ⊢
  have hl : lv_has ls 2 [(0, eV (ad 9) x), (1, eV (ad 33) a)] := by simp [lv_args, eV_cat, cat_i, cat_l] at hl; exact hl
  have hj23 : ∀ (y0_23 : Int32) (_ : iv 0 79 x) (_ : iv (-1) 33 a) (_ : iv 0 1 y0_23) (_ : (y0_23.toInt = 1 ∧ (ISI gm x.toNatClampNeg a)) ∨ (y0_23.toInt = 0 ∧ ¬ (ISI gm x.toNatClampNeg a))) (H : Heap) (locs : List Loc) (ls : Array Slot), va_P (dC, dI) vwCl (cW ad cid a2 lx sg gm lg) H → va_D A (cW ad cid a2 lx sg gm lg) → va_S A s.heap H locs → lv_has ls 2 [(0, eV (ad 9) x), (1, eV (ad 33) a)] → W p l e (headSpec wm_X3_isIn ({ frames := 0, cells := 1, slots := 6, locals := 0 })).room s m ([eV (ad 9) x, eV (ad 33) a] : List Value).toArray below meth c H locs 0 0 (vx_MQ below (cQx dC dI ad cid a2 lx (fun v u => ∃ r : Int32, v = some (.int r) ∧ u = (sg, gm, lg) ∧ (iv 0 1 r) ∧ ((r.toInt = 1 ∧ (ISI gm x.toNatClampNeg a)) ∨ (r.toInt = 0 ∧ ¬ (ISI gm x.toNatClampNeg a)))) A) (cX dC dI ad cid a2 lx (fun _ _ => False) A) ([eV (ad 9) x, eV (ad 33) a] : List Value).toArray s 1 6 A) (F0 m 23 ls [.int y0_23]) := by
    intro y0_23 hsx0_23 hsx1_23 hy0_23 u23 H locs ls hP hD hS hl
    exact W.nb (fun hN => W.widen (k := 1) (n := 6) (by decide) (by decide) (vx_ret (W.zret (v := y0_23) hx hb hr (iv_nb hy0_23) (fun t ht hW => ⟨⟨some (.int y0_23), (sg, gm, lg), rfl, ⟨y0_23, rfl, rfl, hy0_23, (u23)⟩, by rw [ht]; exact hP, va_K.moved hW.alike hK, hD⟩, hS.F ht, by rw [ht]; exact hN⟩) hS.2.2 dX3_isIn_23)))
  have hj22 : ∀ (_ : iv 0 79 x) (_ : iv (-1) 33 a) (_ : ¬ ISI gm x.toNatClampNeg a) (H : Heap) (locs : List Loc) (ls : Array Slot), va_P (dC, dI) vwCl (cW ad cid a2 lx sg gm lg) H → va_D A (cW ad cid a2 lx sg gm lg) → va_S A s.heap H locs → lv_has ls 2 [(0, eV (ad 9) x), (1, eV (ad 33) a)] → W p l e (headSpec wm_X3_isIn ({ frames := 0, cells := 1, slots := 6, locals := 0 })).room s m ([eV (ad 9) x, eV (ad 33) a] : List Value).toArray below meth c H locs 0 0 (vx_MQ below (cQx dC dI ad cid a2 lx (fun v u => ∃ r : Int32, v = some (.int r) ∧ u = (sg, gm, lg) ∧ (iv 0 1 r) ∧ ((r.toInt = 1 ∧ (ISI gm x.toNatClampNeg a)) ∨ (r.toInt = 0 ∧ ¬ (ISI gm x.toNatClampNeg a)))) A) (cX dC dI ad cid a2 lx (fun _ _ => False) A) ([eV (ad 9) x, eV (ad 33) a] : List Value).toArray s 1 6 A) (F0 m 22 ls []) := by
    intro  hsx0_22 hsx1_22 u22 H locs ls hP hD hS hl
    refine lv_iconst (v := 0) hx hb dX3_isIn_22 (by decide) ?_
    exact hj23 0 hsx0_22 hsx1_22 (iv_w (iv_k (by decide) : iv 0 0 0) (by decide)) (Or.inr ⟨rfl, u22⟩) _ _ _ hP hD hS (lv_sub hl [0, 1] rfl)
  refine ec_aload_n hx hb dX3_isIn_0 rfl (lv_at hl 0 rfl) ?_
  refine cr_get (t := 9) (j := 5) (C := RX3) (T := TX3) (N := 21) (v := eV (ad 9) (gm 15 x.toNatClampNeg)) hx hb htb inX3 hown hK hP hvx (by decide) (by decide) (by decide) rfl (by decide) (htb _ kw_385) rfl dX3_isIn_1 ?_
  obtain ⟨z_1, ez_1⟩ : ∃ z : Int32, z = (gm 15 x.toNatClampNeg) := ⟨_, rfl⟩
  refine W.eq (g2 := F0 m 4 ls [eV (ad 9) z_1]) (by rw [ez_1]) ?_
  have hz_1 : iv (-1) 79 z_1 := iv_of ez_1 (CI_a hI 15 hvx (by decide))
  refine ec_ifnull (tgt := 22) hx hb dX3_isIn_4 (by decide) (fun c_2 => ?_) (fun c_2 => ?_)
  · have h_3 : iv (-1) (-1) z_1 := ⟨(hz_1).1, by omega⟩
    exact hj22 hvx hva ((fun q9 => absurd q9.1 (by rw [← ez_1]; have := i32_0; have := i32_1; have := i32_2; have := i32_m1; have := (hvx).1; have := (hvx).2; have := (hva).1; have := (hva).2; have := (h_3).1; have := (h_3).2; omega))) _ _ _ hP hD hS (lv_sub hl [0, 1] rfl)
  · have h_4 : iv 0 79 z_1 := ⟨c_2, (hz_1).2⟩
    refine ec_aload_n hx hb dX3_isIn_7 rfl (lv_at hl 0 rfl) ?_
    refine cr_get (t := 9) (j := 5) (C := RX3) (T := TX3) (N := 21) (v := eV (ad 9) (gm 15 x.toNatClampNeg)) hx hb htb inX3 hown hK hP hvx (by decide) (by decide) (by decide) rfl (by decide) (htb _ kw_385) rfl dX3_isIn_8 ?_
    refine W.eq (g2 := F0 m 11 ls [eV (ad 9) z_1]) (by rw [show (gm 15 x.toNatClampNeg) = z_1 from ez_1.symm]) ?_
    refine cr_get (t := 9) (j := 4) (C := RX3) (T := TX3) (N := 21) (v := eV (ad 33) (gm 14 z_1.toNatClampNeg)) hx hb htb inX3 hown hK hP h_4 (by decide) (by decide) (by decide) rfl (by decide) (htb _ kw_384) rfl dX3_isIn_11 ?_
    obtain ⟨z_5, ez_5⟩ : ∃ z : Int32, z = (gm 14 z_1.toNatClampNeg) := ⟨_, rfl⟩
    refine W.eq (g2 := F0 m 14 ls [eV (ad 33) z_5]) (by rw [ez_5]) ?_
    have hz_5 : iv (-1) 33 z_5 := iv_of ez_5 (CI_a hI 14 h_4 (by decide))
    refine ec_aload_n hx hb dX3_isIn_14 rfl (lv_at hl 1 rfl) ?_
    refine ec_acmp_ne (tgt := 22) hx hb dX3_isIn_15 (by decide) (fun c_6 => ?_) (fun c_6 => ?_)
    · have wc_6 : ¬ z_5.toInt = a.toInt := fun q9 => c_6 (congrArg (er (ad 33)) (Int32.toInt_inj.mp q9))
      exact hj22 hvx hva ((fun q9 => wc_6 (by have q8 := q9.2; rw [← ez_1, ← ez_5] at q8; exact congrArg Int32.toInt q8))) _ _ _ hP hD hS (lv_sub hl [0, 1] rfl)
    · have wc_6 : z_5.toInt = a.toInt := er_wd hG hz_5 hva c_6
      refine lv_iconst (v := 1) hx hb dX3_isIn_18 (by decide) ?_
      refine lv_goto (tgt := 23) hx hb dX3_isIn_19 (by decide) ?_
      exact hj23 1 hvx hva (iv_w (iv_k (by decide) : iv 1 1 1) (by decide)) (Or.inl ⟨rfl, ⟨by rw [← ez_1]; exact (h_4).1, by rw [← ez_1, ← ez_5]; exact Int32.toInt_inj.mp wc_6⟩⟩) _ _ _ hP hD hS (lv_sub hl [0, 1] rfl)

set_option maxHeartbeats 4000000 in
set_option maxRecDepth 100000 in
theorem d_isHeld2 (l : Launch) (dC : Nat → ClassId) (dI : Nat → Nat → Nat) (ad : Nat → Nat → Nat) (cid : Nat → ClassId) (a2 : Nat → Nat) (lx : List Nat) (sg : Nat → Int32) (gm : Nat → Nat → Int32) (lg : Nat → Nat → Int64) (x : Int32) (o : Int32) (D : List El7) (hI : CI sg gm) (hvx : iv 0 0 x) (hvo : iv 0 79 o) (hEV : EV7 D sg gm lg o.toNatClampNeg) : CMt dC dI ad cid a2 lx l yX9_isHeld wm_X9_isHeld ({ frames := 1, cells := 1, slots := 6, locals := 21 }) [eV (ad 3) x, eV (ad 9) o] sg gm lg (fun v u => ∃ r : Int32, v = some (.int r) ∧ u = (sg, gm, lg) ∧ (iv 0 1 r) ∧ ((r.toInt = 1 ∧ (dIn D o.toNatClampNeg = 4 ∨ dIn D o.toNatClampNeg = 5 ∨ dIn D o.toNatClampNeg = 6)) ∨ (r.toInt = 0 ∧ ¬ (dIn D o.toNatClampNeg = 4 ∨ dIn D o.toNatClampNeg = 5 ∨ dIn D o.toNatClampNeg = 6)))) (fun _ _ => False) := by
  intro sz
  refine vx_ofW (cc := cX9_isHeld) (maxL := 2) (ret := (some .boolean)) (by decide) rfl ?_
  intro p e s m args below meth c s₁ B hml hxt hv
  obtain ⟨rfl, hsz, hP, hK, hD0, hG⟩ := hv
  have hx := B.exec
  have hb := B.bytes
  have hr := B.returns
  have hts := atoms_spec (ws := wm_X9_isHeld) B.pre
  have htb := fun (w : Cond) (h : w ∈ tb) => hts w (List.mem_cons_of_mem _ h)
  have hown : s.vm.findClass RX9 = some m.cls := findClass_of_methodNamed B.named
  have hlocks := B.notSynchronized
  subst hsz
  have hD := hD0.self (sz := s.heap.size)
  generalize hAe : va_A (cW ad cid a2 lx sg gm lg) s.heap.size = A at hD hG ⊢
  have hA : ∀ q : Nat, s.heap.size ≤ q → A q := fun q h => by rw [← hAe]; exact Or.inr h
  have hS : va_S A s.heap s.heap [] := va_S.rf
  have hl := lv_entry ([eV (ad 3) x, eV (ad 9) o]) (n := 2) (by rw [show (lg_sl ([eV (ad 3) x, eV (ad 9) o])).length = 2 from by simp [lg_sl, eV_cat, cat_i, cat_l]]; exact Nat.le_of_ble_eq_true rfl)
  rw [lg_entry_eq]
  generalize (lg_sl ([eV (ad 3) x, eV (ad 9) o]) ++ List.replicate (2 - (lg_sl ([eV (ad 3) x, eV (ad 9) o])).length) Slot.unset).toArray = ls at hl ⊢
  have hl : lv_has ls 2 [(0, eV (ad 3) x), (1, eV (ad 9) o)] := by simp [lv_args, eV_cat, cat_i, cat_l] at hl; exact hl
  have hj35 : ∀ (y0_35 : Int32) (_ : iv 0 0 x) (_ : iv 0 79 o) (_ : iv 0 1 y0_35) (_ : (y0_35.toInt = 1 ∧ (dIn D o.toNatClampNeg = 4 ∨ dIn D o.toNatClampNeg = 5 ∨ dIn D o.toNatClampNeg = 6)) ∨ (y0_35.toInt = 0 ∧ ¬ (dIn D o.toNatClampNeg = 4 ∨ dIn D o.toNatClampNeg = 5 ∨ dIn D o.toNatClampNeg = 6))) (H : Heap) (locs : List Loc) (ls : Array Slot), va_P (dC, dI) vwCl (cW ad cid a2 lx sg gm lg) H → va_D A (cW ad cid a2 lx sg gm lg) → va_S A s.heap H locs → lv_has ls 2 [(0, eV (ad 3) x), (1, eV (ad 9) o)] → W p l e (headSpec wm_X9_isHeld ({ frames := 1, cells := 1, slots := 6, locals := 21 })).room s m ([eV (ad 3) x, eV (ad 9) o] : List Value).toArray below meth c H locs 0 0 (vx_MQ below (cQx dC dI ad cid a2 lx (fun v u => ∃ r : Int32, v = some (.int r) ∧ u = (sg, gm, lg) ∧ (iv 0 1 r) ∧ ((r.toInt = 1 ∧ (dIn D o.toNatClampNeg = 4 ∨ dIn D o.toNatClampNeg = 5 ∨ dIn D o.toNatClampNeg = 6)) ∨ (r.toInt = 0 ∧ ¬ (dIn D o.toNatClampNeg = 4 ∨ dIn D o.toNatClampNeg = 5 ∨ dIn D o.toNatClampNeg = 6)))) A) (cX dC dI ad cid a2 lx (fun _ _ => False) A) ([eV (ad 3) x, eV (ad 9) o] : List Value).toArray s 1 6 A) (F0 m 35 ls [.int y0_35]) := by
    intro y0_35 hsx0_35 hsx1_35 hy0_35 u35 H locs ls hP hD hS hl
    exact W.nb (fun hN => W.widen (k := 1) (n := 6) (by decide) (by decide) (vx_ret (W.zret (v := y0_35) hx hb hr (iv_nb hy0_35) (fun t ht hW => ⟨⟨some (.int y0_35), (sg, gm, lg), rfl, ⟨y0_35, rfl, rfl, hy0_35, (u35)⟩, by rw [ht]; exact hP, va_K.moved hW.alike hK, hD⟩, hS.F ht, by rw [ht]; exact hN⟩) hS.2.2 dX9_isHeld_35)))
  have hj30 : ∀ (_ : iv 0 0 x) (_ : iv 0 79 o) (_ : dIn D o.toNatClampNeg = 4 ∨ dIn D o.toNatClampNeg = 5 ∨ dIn D o.toNatClampNeg = 6) (H : Heap) (locs : List Loc) (ls : Array Slot), va_P (dC, dI) vwCl (cW ad cid a2 lx sg gm lg) H → va_D A (cW ad cid a2 lx sg gm lg) → va_S A s.heap H locs → lv_has ls 2 [(0, eV (ad 3) x), (1, eV (ad 9) o)] → W p l e (headSpec wm_X9_isHeld ({ frames := 1, cells := 1, slots := 6, locals := 21 })).room s m ([eV (ad 3) x, eV (ad 9) o] : List Value).toArray below meth c H locs 0 0 (vx_MQ below (cQx dC dI ad cid a2 lx (fun v u => ∃ r : Int32, v = some (.int r) ∧ u = (sg, gm, lg) ∧ (iv 0 1 r) ∧ ((r.toInt = 1 ∧ (dIn D o.toNatClampNeg = 4 ∨ dIn D o.toNatClampNeg = 5 ∨ dIn D o.toNatClampNeg = 6)) ∨ (r.toInt = 0 ∧ ¬ (dIn D o.toNatClampNeg = 4 ∨ dIn D o.toNatClampNeg = 5 ∨ dIn D o.toNatClampNeg = 6)))) A) (cX dC dI ad cid a2 lx (fun _ _ => False) A) ([eV (ad 3) x, eV (ad 9) o] : List Value).toArray s 1 6 A) (F0 m 30 ls []) := by
    intro  hsx0_30 hsx1_30 u30 H locs ls hP hD hS hl
    refine lv_iconst (v := 1) hx hb dX9_isHeld_30 (by decide) ?_
    refine lv_goto (tgt := 35) hx hb dX9_isHeld_31 (by decide) ?_
    exact hj35 1 hsx0_30 hsx1_30 (iv_w (iv_k (by decide) : iv 1 1 1) (by decide)) (Or.inl ⟨rfl, u30⟩) _ _ _ hP hD hS (lv_sub hl [0, 1] rfl)
  refine ec_aload_n hx hb dX9_isHeld_0 rfl (lv_at hl 1 rfl) ?_
  refine cw_word (k := 3) (kx := 3) hx hb hG hS (by decide) rfl ⟨by decide, by decide⟩ hown (htb _ kw_518) dX9_isHeld_1 ?_
  refine cm_callV (t := 9) (C := RX3) (T := TX3) (N := 21) (rest := []) (as := [eV (ad 33) 3]) ⟨hx, hb, hml, hown, htb⟩ (d_isIn2 l dC dI ad cid a2 lx sg gm lg o 3 hI hvo (iv_w (iv_k (by decide) : iv 3 3 3) (by decide))) (cwV 1 htb (gd_V kw_526 kw_527 kw_528 kw_66 kw_1462) rfl rfl rfl (by decide +kernel) ⟨Nat.le_of_ble_eq_true rfl, Nat.le_of_ble_eq_true rfl⟩) hvo (by decide) (by decide) rfl rfl hl.1 rfl (Nat.le_trans cs_n (by decide)) dX9_isHeld_4 ⟨Nat.le_of_ble_eq_true rfl, Nat.le_of_ble_eq_true rfl⟩ hK hP hD hS hA hG (fun E ce q9 u_2 H locs hw hP hD hS hce hcv hcl => ?_) (fun v9 u_2 H locs hw hP hD hS => ?_)
  · exact hw.elim
  obtain ⟨r_1, rfl, rfl, hr_1, fI_r_1⟩ := hw
  have hP : va_P (dC, dI) vwCl (cW ad cid a2 lx sg gm lg) H := hP
  have hD : va_D A (cW ad cid a2 lx sg gm lg) := hD
  refine W.eq (g2 := F0 m 7 ls [.int r_1]) rfl ?_
  have gI_r_1 : (r_1.toInt = 1 ∧ dIn D o.toNatClampNeg = 4) ∨ (r_1.toInt = 0 ∧ ¬ dIn D o.toNatClampNeg = 4) := by rw [← ISI_d hEV (a := 3) (K := 4) (by unfold KW7; decide) (by decide)]; exact fI_r_1
  refine lv_if_ne (tgt := 30) hx hb dX9_isHeld_7 (by decide) (fun c_4 => ?_) (fun c_4 => ?_)
  · have h_5 : iv 1 1 r_1 := iv_neL c_4 hr_1 (by decide)
    exact hj30 hvx hvo (by have := i32_0; have := i32_1; have := i32_2; have := i32_m1; have := (hvx).1; have := (hvx).2; have := (hvo).1; have := (hvo).2; have := (h_5).1; have := (h_5).2; omega) _ _ _ hP hD hS (lv_sub hl [0, 1] rfl)
  · have h_6 : iv 0 0 r_1 := iv_eq c_4 hr_1 (iv_k (by decide) : iv 0 0 0) (by decide)
    refine ec_aload_n hx hb dX9_isHeld_10 rfl (lv_at hl 1 rfl) ?_
    refine cw_word (k := 4) (kx := 4) hx hb hG hS (by decide) rfl ⟨by decide, by decide⟩ hown (htb _ kw_519) dX9_isHeld_11 ?_
    refine cm_callV (t := 9) (C := RX3) (T := TX3) (N := 21) (rest := []) (as := [eV (ad 33) 4]) ⟨hx, hb, hml, hown, htb⟩ (d_isIn2 l dC dI ad cid a2 lx sg gm lg o 4 hI hvo (iv_w (iv_k (by decide) : iv 4 4 4) (by decide))) (cwV 1 htb (gd_V kw_526 kw_527 kw_528 kw_66 kw_1462) rfl rfl rfl (by decide +kernel) ⟨Nat.le_of_ble_eq_true rfl, Nat.le_of_ble_eq_true rfl⟩) hvo (by decide) (by decide) rfl rfl hl.1 rfl (Nat.le_trans cs_n (by decide)) dX9_isHeld_14 ⟨Nat.le_of_ble_eq_true rfl, Nat.le_of_ble_eq_true rfl⟩ hK hP hD hS hA hG (fun E ce q9 u_8 H locs hw hP hD hS hce hcv hcl => ?_) (fun v9 u_8 H locs hw hP hD hS => ?_)
    · exact hw.elim
    obtain ⟨r_7, rfl, rfl, hr_7, fI_r_7⟩ := hw
    have hP : va_P (dC, dI) vwCl (cW ad cid a2 lx sg gm lg) H := hP
    have hD : va_D A (cW ad cid a2 lx sg gm lg) := hD
    refine W.eq (g2 := F0 m 17 ls [.int r_7]) rfl ?_
    have gI_r_7 : (r_7.toInt = 1 ∧ dIn D o.toNatClampNeg = 5) ∨ (r_7.toInt = 0 ∧ ¬ dIn D o.toNatClampNeg = 5) := by rw [← ISI_d hEV (a := 4) (K := 5) (by unfold KW7; decide) (by decide)]; exact fI_r_7
    refine lv_if_ne (tgt := 30) hx hb dX9_isHeld_17 (by decide) (fun c_10 => ?_) (fun c_10 => ?_)
    · have h_11 : iv 1 1 r_7 := iv_neL c_10 hr_7 (by decide)
      exact hj30 hvx hvo (by have := i32_0; have := i32_1; have := i32_2; have := i32_m1; have := (hvx).1; have := (hvx).2; have := (hvo).1; have := (hvo).2; have := (h_6).1; have := (h_6).2; have := (h_11).1; have := (h_11).2; omega) _ _ _ hP hD hS (lv_sub hl [0, 1] rfl)
    · have h_12 : iv 0 0 r_7 := iv_eq c_10 hr_7 (iv_k (by decide) : iv 0 0 0) (by decide)
      refine ec_aload_n hx hb dX9_isHeld_20 rfl (lv_at hl 1 rfl) ?_
      refine cw_word (k := 6) (kx := 6) hx hb hG hS (by decide) rfl ⟨by decide, by decide⟩ hown (htb _ kw_532) dX9_isHeld_21 ?_
      refine cm_callV (t := 9) (C := RX3) (T := TX3) (N := 21) (rest := []) (as := [eV (ad 33) 6]) ⟨hx, hb, hml, hown, htb⟩ (d_isIn2 l dC dI ad cid a2 lx sg gm lg o 6 hI hvo (iv_w (iv_k (by decide) : iv 6 6 6) (by decide))) (cwV 1 htb (gd_V kw_526 kw_527 kw_528 kw_66 kw_1462) rfl rfl rfl (by decide +kernel) ⟨Nat.le_of_ble_eq_true rfl, Nat.le_of_ble_eq_true rfl⟩) hvo (by decide) (by decide) rfl rfl hl.1 rfl (Nat.le_trans cs_n (by decide)) dX9_isHeld_24 ⟨Nat.le_of_ble_eq_true rfl, Nat.le_of_ble_eq_true rfl⟩ hK hP hD hS hA hG (fun E ce q9 u_14 H locs hw hP hD hS hce hcv hcl => ?_) (fun v9 u_14 H locs hw hP hD hS => ?_)
      · exact hw.elim
      obtain ⟨r_13, rfl, rfl, hr_13, fI_r_13⟩ := hw
      have hP : va_P (dC, dI) vwCl (cW ad cid a2 lx sg gm lg) H := hP
      have hD : va_D A (cW ad cid a2 lx sg gm lg) := hD
      refine W.eq (g2 := F0 m 27 ls [.int r_13]) rfl ?_
      have gI_r_13 : (r_13.toInt = 1 ∧ dIn D o.toNatClampNeg = 6) ∨ (r_13.toInt = 0 ∧ ¬ dIn D o.toNatClampNeg = 6) := by rw [← ISI_d hEV (a := 6) (K := 6) (by unfold KW7; decide) (by decide)]; exact fI_r_13
      refine lv_if_eq (tgt := 34) hx hb dX9_isHeld_27 (by decide) (fun c_16 => ?_) (fun c_16 => ?_)
      · have h_17 : iv 0 0 r_13 := iv_eq c_16 hr_13 (iv_k (by decide) : iv 0 0 0) (by decide)
        refine lv_iconst (v := 0) hx hb dX9_isHeld_34 (by decide) ?_
        exact hj35 0 hvx hvo (iv_w (iv_k (by decide) : iv 0 0 0) (by decide)) (Or.inr ⟨rfl, by have := i32_0; have := i32_1; have := i32_2; have := i32_m1; have := (hvx).1; have := (hvx).2; have := (hvo).1; have := (hvo).2; have := (h_6).1; have := (h_6).2; have := (h_12).1; have := (h_12).2; have := (h_17).1; have := (h_17).2; omega⟩) _ _ _ hP hD hS (lv_sub hl [0, 1] rfl)
      · have h_18 : iv 1 1 r_13 := iv_neL c_16 hr_13 (by decide)
        exact hj30 hvx hvo (by have := i32_0; have := i32_1; have := i32_2; have := i32_m1; have := (hvx).1; have := (hvx).2; have := (hvo).1; have := (hvo).2; have := (h_6).1; have := (h_6).2; have := (h_12).1; have := (h_12).2; have := (h_18).1; have := (h_18).2; omega) _ _ _ hP hD hS (lv_sub hl [0, 1] rfl)

set_option maxHeartbeats 4000000 in
set_option maxRecDepth 100000 in
theorem d_valueIs2 (l : Launch) (dC : Nat → ClassId) (dI : Nat → Nat → Nat) (ad : Nat → Nat → Nat) (cid : Nat → ClassId) (a2 : Nat → Nat) (lx : List Nat) (sg : Nat → Int32) (gm : Nat → Nat → Int32) (lg : Nat → Nat → Int64) (x : Int32) (o : Int32) (w : Int32) (w2 : Int32) (A7 : At7) (hI : CI sg gm) (hvx : iv 0 0 x) (hvo : iv 0 79 o) (hvw : iv 0 33 w) (hvw2 : iv 0 33 w2) (hFA : FA sg gm) (how : o.toInt < (sg 4).toInt) (hVS : VS sg gm) (hat : ATC A7 gm lg o.toNatClampNeg (sg 5).toInt (sg 6).toInt) : CMt dC dI ad cid a2 lx l yX6_valueIs wm_X6_valueIs ({ frames := 2, cells := 1, slots := 6, locals := 51 }) [eV (ad 1) x, eV (ad 9) o, eV (ad 33) w, eV (ad 33) w2] sg gm lg (fun v u => ∃ r : Int32, v = some (.int r) ∧ u = (sg, gm, lg) ∧ (iv 0 1 r) ∧ ((r.toInt = 1 ∧ (nv7 A7 (wKy.getD w.toNatClampNeg 0) = (wKy.getD w2.toNatClampNeg 0))) ∨ (r.toInt = 0 ∧ ¬ (nv7 A7 (wKy.getD w.toNatClampNeg 0) = (wKy.getD w2.toNatClampNeg 0))))) (fun _ _ => False) := by
  intro sz
  refine vx_ofW (cc := cX6_valueIs) (maxL := 4) (ret := (some .boolean)) (by decide) rfl ?_
  intro p e s m args below meth c s₁ B hml hxt hv
  obtain ⟨rfl, hsz, hP, hK, hD0, hG⟩ := hv
  have hx := B.exec
  have hb := B.bytes
  have hr := B.returns
  have hts := atoms_spec (ws := wm_X6_valueIs) B.pre
  have htb := fun (w : Cond) (h : w ∈ tb) => hts w (List.mem_cons_of_mem _ h)
  have hown : s.vm.findClass RX6 = some m.cls := findClass_of_methodNamed B.named
  have hlocks := B.notSynchronized
  subst hsz
  have hD := hD0.self (sz := s.heap.size)
  generalize hAe : va_A (cW ad cid a2 lx sg gm lg) s.heap.size = A at hD hG ⊢
  have hA : ∀ q : Nat, s.heap.size ≤ q → A q := fun q h => by rw [← hAe]; exact Or.inr h
  have hS : va_S A s.heap s.heap [] := va_S.rf
  have hl := lv_entry ([eV (ad 1) x, eV (ad 9) o, eV (ad 33) w, eV (ad 33) w2]) (n := 4) (by rw [show (lg_sl ([eV (ad 1) x, eV (ad 9) o, eV (ad 33) w, eV (ad 33) w2])).length = 4 from by simp [lg_sl, eV_cat, cat_i, cat_l]]; exact Nat.le_of_ble_eq_true rfl)
  rw [lg_entry_eq]
  generalize (lg_sl ([eV (ad 1) x, eV (ad 9) o, eV (ad 33) w, eV (ad 33) w2]) ++ List.replicate (4 - (lg_sl ([eV (ad 1) x, eV (ad 9) o, eV (ad 33) w, eV (ad 33) w2])).length) Slot.unset).toArray = ls at hl ⊢
  have hl : lv_has ls 4 [(0, eV (ad 1) x), (1, eV (ad 9) o), (2, eV (ad 33) w), (3, eV (ad 33) w2)] := by simp [lv_args, eV_cat, cat_i, cat_l] at hl; exact hl
  have hj19 : ∀ (y0_19 : Int32) (_ : iv 0 0 x) (_ : iv 0 79 o) (_ : iv 0 33 w) (_ : iv 0 33 w2) (_ : iv 0 1 y0_19) (_ : (y0_19.toInt = 1 ∧ (nv7 A7 (wKy.getD w.toNatClampNeg 0) = (wKy.getD w2.toNatClampNeg 0))) ∨ (y0_19.toInt = 0 ∧ ¬ (nv7 A7 (wKy.getD w.toNatClampNeg 0) = (wKy.getD w2.toNatClampNeg 0)))) (H : Heap) (locs : List Loc) (ls : Array Slot), va_P (dC, dI) vwCl (cW ad cid a2 lx sg gm lg) H → va_D A (cW ad cid a2 lx sg gm lg) → va_S A s.heap H locs → lv_has ls 4 [(0, eV (ad 1) x), (1, eV (ad 9) o), (2, eV (ad 33) w), (3, eV (ad 33) w2)] → W p l e (headSpec wm_X6_valueIs ({ frames := 2, cells := 1, slots := 6, locals := 51 })).room s m ([eV (ad 1) x, eV (ad 9) o, eV (ad 33) w, eV (ad 33) w2] : List Value).toArray below meth c H locs 0 0 (vx_MQ below (cQx dC dI ad cid a2 lx (fun v u => ∃ r : Int32, v = some (.int r) ∧ u = (sg, gm, lg) ∧ (iv 0 1 r) ∧ ((r.toInt = 1 ∧ (nv7 A7 (wKy.getD w.toNatClampNeg 0) = (wKy.getD w2.toNatClampNeg 0))) ∨ (r.toInt = 0 ∧ ¬ (nv7 A7 (wKy.getD w.toNatClampNeg 0) = (wKy.getD w2.toNatClampNeg 0))))) A) (cX dC dI ad cid a2 lx (fun _ _ => False) A) ([eV (ad 1) x, eV (ad 9) o, eV (ad 33) w, eV (ad 33) w2] : List Value).toArray s 1 6 A) (F0 m 19 ls [.int y0_19]) := by
    intro y0_19 hsx0_19 hsx1_19 hsx2_19 hsx3_19 hy0_19 u19 H locs ls hP hD hS hl
    exact W.nb (fun hN => W.widen (k := 1) (n := 6) (by decide) (by decide) (vx_ret (W.zret (v := y0_19) hx hb hr (iv_nb hy0_19) (fun t ht hW => ⟨⟨some (.int y0_19), (sg, gm, lg), rfl, ⟨y0_19, rfl, rfl, hy0_19, (u19)⟩, by rw [ht]; exact hP, va_K.moved hW.alike hK, hD⟩, hS.F ht, by rw [ht]; exact hN⟩) hS.2.2 dX6_valueIs_19)))
  refine ec_aload_n hx hb dX6_valueIs_0 rfl (lv_at hl 0 rfl) ?_
  refine ec_aload_n hx hb dX6_valueIs_1 rfl (lv_at hl 1 rfl) ?_
  refine ec_aload_n hx hb dX6_valueIs_2 rfl (lv_at hl 2 rfl) ?_
  refine cm_callV (t := 1) (C := RX6) (T := TX6) (N := 8) (rest := []) (as := [eV (ad 9) o, eV (ad 33) w]) ⟨hx, hb, hml, hown, htb⟩ (d_nameValue3 l dC dI ad cid a2 lx sg gm lg x o w A7 hI hvx hvo hvw hFA how hVS hat) (cwV 2 htb (gd_V kw_591 kw_583 kw_584 kw_20 kw_1475) rfl rfl rfl (by decide +kernel) ⟨Nat.le_of_ble_eq_true rfl, Nat.le_of_ble_eq_true rfl⟩) hvx (by decide) (by decide) rfl rfl hl.1 rfl (Nat.le_trans cs_n (by decide)) dX6_valueIs_3 ⟨Nat.le_of_ble_eq_true rfl, Nat.le_of_ble_eq_true rfl⟩ hK hP hD hS hA hG (fun E ce q9 u_2 H locs hw hP hD hS hce hcv hcl => ?_) (fun v9 u_2 H locs hw hP hD hS => ?_)
  · exact hw.elim
  obtain ⟨r_1, rfl, rfl, fN_r_1, fZ_r_1⟩ := hw
  have hP : va_P (dC, dI) vwCl (cW ad cid a2 lx sg gm lg) H := hP
  have hD : va_D A (cW ad cid a2 lx sg gm lg) := hD
  refine W.eq (g2 := F0 m 6 ls [.long r_1]) rfl ?_
  refine ec_aload_n hx hb dX6_valueIs_6 rfl (lv_at hl 3 rfl) ?_
  refine cw_key hx hb hG hS hvw2 hown (htb _ kw_548) dX6_valueIs_7 ?_
  refine lv_topl (fun z_4 ez_4 => ?_)
  refine W.lcmp hx hb dX6_valueIs_10 ?_
  refine lv_topi (fun z_5 ez_5 => ?_)
  have hz_5 : iv (-1) 1 z_5 := iv_of ez_5 (iv_cmp _ _)
  refine lv_if_ne (tgt := 18) hx hb dX6_valueIs_11 (by decide) (fun c_6 => ?_) (fun c_6 => ?_)
  · have d_7 : ¬ (z_5 : Int32).toInt = 0 := lv_neT c_6 rfl
    refine lv_iconst (v := 0) hx hb dX6_valueIs_18 (by decide) ?_
    exact hj19 0 hvx hvo hvw hvw2 (iv_w (iv_k (by decide) : iv 0 0 0) (by decide)) (Or.inr ⟨rfl, (fun q9 => c_6 (by rw [ez_5, ez_4, fN_r_1, q9]; exact (lg_cmp_eq _ _).mpr rfl))⟩) _ _ _ hP hD hS (lv_sub hl [0, 1, 2, 3] rfl)
  · have h_8 : iv 0 0 z_5 := iv_eq c_6 hz_5 (iv_k (by decide) : iv 0 0 0) (by decide)
    refine lv_iconst (v := 1) hx hb dX6_valueIs_14 (by decide) ?_
    refine lv_goto (tgt := 19) hx hb dX6_valueIs_15 (by decide) ?_
    exact hj19 1 hvx hvo hvw hvw2 (iv_w (iv_k (by decide) : iv 1 1 1) (by decide)) (Or.inl ⟨rfl, (by rw [← fN_r_1, ← ez_4]; exact (lg_cmp_eq _ _).mp (by rw [← ez_5]; exact c_6))⟩) _ _ _ hP hD hS (lv_sub hl [0, 1, 2, 3] rfl)

set_option maxHeartbeats 4000000 in
set_option maxRecDepth 100000 in
theorem d_typeValue2 (l : Launch) (dC : Nat → ClassId) (dI : Nat → Nat → Nat) (ad : Nat → Nat → Nat) (cid : Nat → ClassId) (a2 : Nat → Nat) (lx : List Nat) (sg : Nat → Int32) (gm : Nat → Nat → Int32) (lg : Nat → Nat → Int64) (x : Int32) (o : Int32) (w : Int32) (A7 : At7) (hI : CI sg gm) (hvx : iv 0 0 x) (hvo : iv 0 79 o) (hvw : iv 0 33 w) (hFA : FA sg gm) (how : o.toInt < (sg 4).toInt) (hVS : VS sg gm) (hat : ATC A7 gm lg o.toNatClampNeg (sg 5).toInt (sg 6).toInt) : CMt dC dI ad cid a2 lx l yX6_typeValue wm_X6_typeValue ({ frames := 2, cells := 1, slots := 6, locals := 51 }) [eV (ad 1) x, eV (ad 9) o, eV (ad 33) w] sg gm lg (fun v u => ∃ r : Int32, v = some (.int r) ∧ u = (sg, gm, lg) ∧ (iv (-1) 15 r) ∧ ((0 ≤ r.toInt ∧ ty7 A7 (wKy.getD w.toNatClampNeg 0)) ∨ (r.toInt = -1 ∧ ¬ ty7 A7 (wKy.getD w.toNatClampNeg 0)))) (fun _ _ => False) := by
  intro sz
  refine vx_ofW (cc := cX6_typeValue) (maxL := 5) (ret := (some .int)) (by decide) rfl ?_
  intro p e s m args below meth c s₁ B hml hxt hv
  obtain ⟨rfl, hsz, hP, hK, hD0, hG⟩ := hv
  have hx := B.exec
  have hb := B.bytes
  have hr := B.returns
  have hts := atoms_spec (ws := wm_X6_typeValue) B.pre
  have htb := fun (w : Cond) (h : w ∈ tb) => hts w (List.mem_cons_of_mem _ h)
  have hown : s.vm.findClass RX6 = some m.cls := findClass_of_methodNamed B.named
  have hlocks := B.notSynchronized
  subst hsz
  have hD := hD0.self (sz := s.heap.size)
  generalize hAe : va_A (cW ad cid a2 lx sg gm lg) s.heap.size = A at hD hG ⊢
  have hA : ∀ q : Nat, s.heap.size ≤ q → A q := fun q h => by rw [← hAe]; exact Or.inr h
  have hS : va_S A s.heap s.heap [] := va_S.rf
  have hl := lv_entry ([eV (ad 1) x, eV (ad 9) o, eV (ad 33) w]) (n := 5) (by rw [show (lg_sl ([eV (ad 1) x, eV (ad 9) o, eV (ad 33) w])).length = 3 from by simp [lg_sl, eV_cat, cat_i, cat_l]]; exact Nat.le_of_ble_eq_true rfl)
  rw [lg_entry_eq]
  generalize (lg_sl ([eV (ad 1) x, eV (ad 9) o, eV (ad 33) w]) ++ List.replicate (5 - (lg_sl ([eV (ad 1) x, eV (ad 9) o, eV (ad 33) w])).length) Slot.unset).toArray = ls at hl ⊢
  have hl : lv_has ls 5 [(0, eV (ad 1) x), (1, eV (ad 9) o), (2, eV (ad 33) w)] := by simp [lv_args, eV_cat, cat_i, cat_l] at hl; exact hl
  refine ec_aload_n hx hb dX6_typeValue_0 rfl (lv_at hl 0 rfl) ?_
  refine ec_aload_n hx hb dX6_typeValue_1 rfl (lv_at hl 1 rfl) ?_
  refine ec_aload_n hx hb dX6_typeValue_2 rfl (lv_at hl 2 rfl) ?_
  refine cm_callV (t := 1) (C := RX6) (T := TX6) (N := 8) (rest := []) (as := [eV (ad 9) o, eV (ad 33) w]) ⟨hx, hb, hml, hown, htb⟩ (d_classValue2 l dC dI ad cid a2 lx sg gm lg x o w A7 hI hvx hvo hvw hFA how hVS hat) (cwV 2 htb (gd_V kw_599 kw_586 kw_587 kw_20 kw_1476) rfl rfl rfl (by decide +kernel) ⟨Nat.le_of_ble_eq_true rfl, Nat.le_of_ble_eq_true rfl⟩) hvx (by decide) (by decide) rfl rfl hl.1 rfl (Nat.le_trans cs_n (by decide)) dX6_typeValue_3 ⟨Nat.le_of_ble_eq_true rfl, Nat.le_of_ble_eq_true rfl⟩ hK hP hD hS hA hG (fun E ce q9 u_2 H locs hw hP hD hS hce hcv hcl => ?_) (fun v9 u_2 H locs hw hP hD hS => ?_)
  · exact hw.elim
  obtain ⟨r_1, rfl, rfl, hr_1, fK_r_1⟩ := hw
  have hP : va_P (dC, dI) vwCl (cW ad cid a2 lx sg gm lg) H := hP
  have hD : va_D A (cW ad cid a2 lx sg gm lg) := hD
  refine W.eq (g2 := F0 m 6 ls [.int r_1]) rfl ?_
  refine lv_istore_n (i := 3) (lv' := [(3, .int r_1), (0, eV (ad 1) x), (1, eV (ad 9) o), (2, eV (ad 33) w)]) hx hb dX6_typeValue_6 rfl hl (by decide) (by simp [List.filter, eV_cat, cat_i, cat_l]) (fun ls hl => ?_)
  refine lv_iload_n hx hb dX6_typeValue_7 rfl (lv_at hl 0 rfl) ?_
  refine lv_iconst (v := (-1)) hx hb dX6_typeValue_8 (by decide) ?_
  refine lv_icmp_eq (tgt := 17) hx hb dX6_typeValue_9 (by decide) (fun c_4 => ?_) (fun c_4 => ?_)
  · have h_5 : iv (-1) (-1) r_1 := iv_eq c_4 hr_1 (iv_k (by decide) : iv (-1) (-1) (-1)) (by decide)
    refine ec_aload_n hx hb dX6_typeValue_17 rfl (lv_at hl 1 rfl) ?_
    refine ec_aload_n hx hb dX6_typeValue_18 rfl (lv_at hl 2 rfl) ?_
    refine ec_aload_n hx hb dX6_typeValue_19 rfl (lv_at hl 3 rfl) ?_
    refine cm_callV (t := 1) (C := RX6) (T := TX6) (N := 8) (rest := []) (as := [eV (ad 9) o, eV (ad 33) w]) ⟨hx, hb, hml, hown, htb⟩ (d_nameValue3 l dC dI ad cid a2 lx sg gm lg x o w A7 hI hvx hvo hvw hFA how hVS hat) (cwV 2 htb (gd_V kw_591 kw_583 kw_584 kw_20 kw_1475) rfl rfl rfl (by decide +kernel) ⟨Nat.le_of_ble_eq_true rfl, Nat.le_of_ble_eq_true rfl⟩) hvx (by decide) (by decide) rfl rfl hl.1 rfl (Nat.le_trans cs_n (by decide)) dX6_typeValue_20 ⟨Nat.le_of_ble_eq_true rfl, Nat.le_of_ble_eq_true rfl⟩ hK hP hD hS hA hG (fun E ce q9 u_7 H locs hw hP hD hS hce hcv hcl => ?_) (fun v9 u_7 H locs hw hP hD hS => ?_)
    · exact hw.elim
    obtain ⟨r_6, rfl, rfl, fN_r_6, fZ_r_6⟩ := hw
    have hP : va_P (dC, dI) vwCl (cW ad cid a2 lx sg gm lg) H := hP
    have hD : va_D A (cW ad cid a2 lx sg gm lg) := hD
    refine W.eq (g2 := F0 m 23 ls [.long r_6]) rfl ?_
    refine cm_callS (rest := []) (as := [.long r_6]) ⟨hx, hb, hml, hown, htb⟩ (d_withKey2 l dC dI ad cid a2 lx sg gm lg r_6 hI) (va_cwS 1 htb (gd_S kw_563 kw_409 kw_410 kw_1431) rfl rfl rfl (by decide +kernel) ⟨Nat.le_of_ble_eq_true rfl, Nat.le_of_ble_eq_true rfl⟩)  rfl hl.1 rfl (Nat.le_trans cs_n (by decide)) dX6_typeValue_23 ⟨Nat.le_of_ble_eq_true rfl, Nat.le_of_ble_eq_true rfl⟩ hK hP hD hS hA hG (fun E ce q9 u_10 H locs hw hP hD hS hce hcv hcl => ?_) (fun v9 u_10 H locs hw hP hD hS => ?_)
    · exact hw.elim
    obtain ⟨r_9, rfl, rfl, hr_9, fW_r_9⟩ := hw
    have hP : va_P (dC, dI) vwCl (cW ad cid a2 lx sg gm lg) H := hP
    have hD : va_D A (cW ad cid a2 lx sg gm lg) := hD
    refine W.eq (g2 := F0 m 26 ls [eV (ad 33) r_9]) rfl ?_
    refine ec_astore (i := 4) (lv' := [(4, eV (ad 33) r_9), (3, .int r_1), (0, eV (ad 1) x), (1, eV (ad 9) o), (2, eV (ad 33) w)]) hx hb dX6_typeValue_26 hl (by decide) rfl (fun ls hl => ?_)
    refine ec_aload hx hb dX6_typeValue_28 (lv_at hl 0 rfl) ?_
    refine ec_ifnonnull (tgt := 35) hx hb dX6_typeValue_30 (by decide) (fun c_12 => ?_) (fun c_12 => ?_)
    · have h_13 : iv 0 33 r_9 := ⟨c_12, (hr_9).2⟩
      refine cw_sw hx hb hG hS hown (htb _ kw_598) dX6_typeValue_35 ?_
      refine ec_aload hx hb dX6_typeValue_38 (lv_at hl 0 rfl) ?_
      refine cw_ord ⟨hx, hb, hml, hown, htb⟩ kw_600 h_13 hl.1 (Nat.le_trans (cs_c (eV_cat _ _) cs_n) (by decide)) dX6_typeValue_40 ⟨Nat.le_of_ble_eq_true rfl, Nat.le_of_ble_eq_true rfl⟩ ⟨Nat.le_of_ble_eq_true rfl, Nat.le_of_ble_eq_true rfl⟩ hP hD hS hA hG (fun H locs hP hS => ?_)
      refine cw_swld (iv_k (by decide) : iv 0 0 0) hx hb hG hS h_13 dX6_typeValue_43 ?_
      refine lv_topi (fun z_14 ez_14 => ?_)
      have hz_14 : iv 0 29 z_14 := iv_of ez_14 (sw_iv r_9)
      by_cases c_15 : (z_14 : Int32).toInt = 1
      · refine lv_tableIn (tgt := 80) hx hb dX6_typeValue_44 (by rw [c_15]; decide) (by rw [c_15]; decide) (by rw [c_15]; rfl) (by decide) ?_
        have h_16 : iv 1 1 z_14 := iv_at c_15
        refine lv_iconst (v := 0) hx hb dX6_typeValue_80 (by decide) ?_
        exact W.nb (fun hN => W.widen (k := 1) (n := 6) (by decide) (by decide) (vx_ret (W.iret (v := 0) hx hb hr (fun t ht hW => ⟨⟨some (.int 0), (sg, gm, lg), rfl, ⟨0, rfl, rfl, (iv_w (iv_k (by decide) : iv 0 0 0) (by decide)), (Or.inl ⟨(by decide), ty_t (n := 29) (by have q9 := fW_r_9; rw [fN_r_6] at q9; exact q9) (by have := i32_0; have := i32_1; have := i32_2; have := i32_m1; have := (hvx).1; have := (hvx).2; have := (hvo).1; have := (hvo).2; have := (hvw).1; have := (hvw).2; have := (h_5).1; have := (h_5).2; have := (h_13).1; have := (h_13).2; have := (h_16).1; have := (h_16).2; omega) (swy 29 1 (by decide) (h_13) ez_14 c_15) (by decide) (by decide)⟩)⟩, by rw [ht]; exact hP, va_K.moved hW.alike hK, hD⟩, hS.F ht, by rw [ht]; exact hN⟩) hS.2.2 dX6_typeValue_81)))
      by_cases c_17 : (z_14 : Int32).toInt = 2
      · refine lv_tableIn (tgt := 82) hx hb dX6_typeValue_44 (by rw [c_17]; decide) (by rw [c_17]; decide) (by rw [c_17]; rfl) (by decide) ?_
        have h_18 : iv 2 2 z_14 := iv_at c_17
        refine lv_iconst (v := 1) hx hb dX6_typeValue_82 (by decide) ?_
        exact W.nb (fun hN => W.widen (k := 1) (n := 6) (by decide) (by decide) (vx_ret (W.iret (v := 1) hx hb hr (fun t ht hW => ⟨⟨some (.int 1), (sg, gm, lg), rfl, ⟨1, rfl, rfl, (iv_w (iv_k (by decide) : iv 1 1 1) (by decide)), (Or.inl ⟨(by decide), ty_t (n := 30) (by have q9 := fW_r_9; rw [fN_r_6] at q9; exact q9) (by have := i32_0; have := i32_1; have := i32_2; have := i32_m1; have := (hvx).1; have := (hvx).2; have := (hvo).1; have := (hvo).2; have := (hvw).1; have := (hvw).2; have := (h_5).1; have := (h_5).2; have := (h_13).1; have := (h_13).2; have := (h_18).1; have := (h_18).2; omega) (swy 30 2 (by decide) (h_13) ez_14 c_17) (by decide) (by decide)⟩)⟩, by rw [ht]; exact hP, va_K.moved hW.alike hK, hD⟩, hS.F ht, by rw [ht]; exact hN⟩) hS.2.2 dX6_typeValue_83)))
      by_cases c_19 : (z_14 : Int32).toInt = 3
      · refine lv_tableIn (tgt := 84) hx hb dX6_typeValue_44 (by rw [c_19]; decide) (by rw [c_19]; decide) (by rw [c_19]; rfl) (by decide) ?_
        have h_20 : iv 3 3 z_14 := iv_at c_19
        refine lv_iconst (v := 2) hx hb dX6_typeValue_84 (by decide) ?_
        exact W.nb (fun hN => W.widen (k := 1) (n := 6) (by decide) (by decide) (vx_ret (W.iret (v := 2) hx hb hr (fun t ht hW => ⟨⟨some (.int 2), (sg, gm, lg), rfl, ⟨2, rfl, rfl, (iv_w (iv_k (by decide) : iv 2 2 2) (by decide)), (Or.inl ⟨(by decide), ty_t (n := 31) (by have q9 := fW_r_9; rw [fN_r_6] at q9; exact q9) (by have := i32_0; have := i32_1; have := i32_2; have := i32_m1; have := (hvx).1; have := (hvx).2; have := (hvo).1; have := (hvo).2; have := (hvw).1; have := (hvw).2; have := (h_5).1; have := (h_5).2; have := (h_13).1; have := (h_13).2; have := (h_20).1; have := (h_20).2; omega) (swy 31 3 (by decide) (h_13) ez_14 c_19) (by decide) (by decide)⟩)⟩, by rw [ht]; exact hP, va_K.moved hW.alike hK, hD⟩, hS.F ht, by rw [ht]; exact hN⟩) hS.2.2 dX6_typeValue_85)))
      by_cases c_21 : (z_14 : Int32).toInt = 4
      · refine lv_tableIn (tgt := 86) hx hb dX6_typeValue_44 (by rw [c_21]; decide) (by rw [c_21]; decide) (by rw [c_21]; rfl) (by decide) ?_
        have h_22 : iv 4 4 z_14 := iv_at c_21
        refine lv_iconst (v := 3) hx hb dX6_typeValue_86 (by decide) ?_
        exact W.nb (fun hN => W.widen (k := 1) (n := 6) (by decide) (by decide) (vx_ret (W.iret (v := 3) hx hb hr (fun t ht hW => ⟨⟨some (.int 3), (sg, gm, lg), rfl, ⟨3, rfl, rfl, (iv_w (iv_k (by decide) : iv 3 3 3) (by decide)), (Or.inl ⟨(by decide), ty_t (n := 32) (by have q9 := fW_r_9; rw [fN_r_6] at q9; exact q9) (by have := i32_0; have := i32_1; have := i32_2; have := i32_m1; have := (hvx).1; have := (hvx).2; have := (hvo).1; have := (hvo).2; have := (hvw).1; have := (hvw).2; have := (h_5).1; have := (h_5).2; have := (h_13).1; have := (h_13).2; have := (h_22).1; have := (h_22).2; omega) (swy 32 4 (by decide) (h_13) ez_14 c_21) (by decide) (by decide)⟩)⟩, by rw [ht]; exact hP, va_K.moved hW.alike hK, hD⟩, hS.F ht, by rw [ht]; exact hN⟩) hS.2.2 dX6_typeValue_87)))
      by_cases c_23 : (z_14 : Int32).toInt = 5
      · refine lv_tableIn (tgt := 88) hx hb dX6_typeValue_44 (by rw [c_23]; decide) (by rw [c_23]; decide) (by rw [c_23]; rfl) (by decide) ?_
        have h_24 : iv 5 5 z_14 := iv_at c_23
        refine lv_iconst (v := 4) hx hb dX6_typeValue_88 (by decide) ?_
        exact W.nb (fun hN => W.widen (k := 1) (n := 6) (by decide) (by decide) (vx_ret (W.iret (v := 4) hx hb hr (fun t ht hW => ⟨⟨some (.int 4), (sg, gm, lg), rfl, ⟨4, rfl, rfl, (iv_w (iv_k (by decide) : iv 4 4 4) (by decide)), (Or.inl ⟨(by decide), ty_t (n := 33) (by have q9 := fW_r_9; rw [fN_r_6] at q9; exact q9) (by have := i32_0; have := i32_1; have := i32_2; have := i32_m1; have := (hvx).1; have := (hvx).2; have := (hvo).1; have := (hvo).2; have := (hvw).1; have := (hvw).2; have := (h_5).1; have := (h_5).2; have := (h_13).1; have := (h_13).2; have := (h_24).1; have := (h_24).2; omega) (swy 33 5 (by decide) (h_13) ez_14 c_23) (by decide) (by decide)⟩)⟩, by rw [ht]; exact hP, va_K.moved hW.alike hK, hD⟩, hS.F ht, by rw [ht]; exact hN⟩) hS.2.2 dX6_typeValue_89)))
      refine lv_tableOut (tgt := 90) hx hb dX6_typeValue_44 (by have q1 := (hz_14).1; have q2 := (hz_14).2; omega) (by decide) ?_
      refine lv_iconst (v := (-1)) hx hb dX6_typeValue_90 (by decide) ?_
      exact W.nb (fun hN => W.widen (k := 1) (n := 6) (by decide) (by decide) (vx_ret (W.iret (v := (-1)) hx hb hr (fun t ht hW => ⟨⟨some (.int (-1)), (sg, gm, lg), rfl, ⟨(-1), rfl, rfl, (iv_w (iv_k (by decide) : iv (-1) (-1) (-1)) (by decide)), (Or.inr ⟨rfl, ty_f (by have q9 := fW_r_9; rw [fN_r_6] at q9; exact q9) (by rw [← fK_r_1]; have := i32_0; have := i32_1; have := i32_2; have := i32_m1; have := (hvx).1; have := (hvx).2; have := (hvo).1; have := (hvo).2; have := (hvw).1; have := (hvw).2; have := (h_5).1; have := (h_5).2; have := (h_13).1; have := (h_13).2; have := (hz_14).1; have := (hz_14).2; omega) (fun q8 => by have q7 := swT r_9.toNatClampNeg (by have := q8.2; have : r_9.toNatClampNeg = r_9.toInt.toNat := rfl; omega); rw [← ez_14] at q7; have : r_9.toNatClampNeg = r_9.toInt.toNat := rfl; have := i32_0; have := i32_1; have := i32_2; have := i32_m1; have := (hvx).1; have := (hvx).2; have := (hvo).1; have := (hvo).2; have := (hvw).1; have := (hvw).2; have := (h_5).1; have := (h_5).2; have := (h_13).1; have := (h_13).2; have := (hz_14).1; have := (hz_14).2; omega)⟩)⟩, by rw [ht]; exact hP, va_K.moved hW.alike hK, hD⟩, hS.F ht, by rw [ht]; exact hN⟩) hS.2.2 dX6_typeValue_91)))
    · have h_25 : iv (-1) (-1) r_9 := ⟨(hr_9).1, by omega⟩
      refine lv_iconst (v := (-1)) hx hb dX6_typeValue_33 (by decide) ?_
      exact W.nb (fun hN => W.widen (k := 1) (n := 6) (by decide) (by decide) (vx_ret (W.iret (v := (-1)) hx hb hr (fun t ht hW => ⟨⟨some (.int (-1)), (sg, gm, lg), rfl, ⟨(-1), rfl, rfl, (iv_w (iv_k (by decide) : iv (-1) (-1) (-1)) (by decide)), (Or.inr ⟨rfl, ty_f (by have q9 := fW_r_9; rw [fN_r_6] at q9; exact q9) (by rw [← fK_r_1]; have := i32_0; have := i32_1; have := i32_2; have := i32_m1; have := (hvx).1; have := (hvx).2; have := (hvo).1; have := (hvo).2; have := (hvw).1; have := (hvw).2; have := (h_5).1; have := (h_5).2; have := (h_25).1; have := (h_25).2; omega) (by have := i32_0; have := i32_1; have := i32_2; have := i32_m1; have := (hvx).1; have := (hvx).2; have := (hvo).1; have := (hvo).2; have := (hvw).1; have := (hvw).2; have := (h_5).1; have := (h_5).2; have := (h_25).1; have := (h_25).2; omega)⟩)⟩, by rw [ht]; exact hP, va_K.moved hW.alike hK, hD⟩, hS.F ht, by rw [ht]; exact hN⟩) hS.2.2 dX6_typeValue_34)))
  · have h_26 : iv 0 7 r_1 := iv_neL c_4 hr_1 (by decide)
    refine lv_bipush (v := 8) hx hb dX6_typeValue_12 (by decide) ?_
    refine lv_iload_n hx hb dX6_typeValue_14 rfl (lv_at hl 0 rfl) ?_
    refine lv_iadd hx hb dX6_typeValue_15 ?_
    refine lv_topi (fun z_27 ez_27 => ?_)
    have hz_27 : iv 8 15 z_27 := iv_of ez_27 (iv_add (iv_k (by decide) : iv 8 8 8) h_26 (by decide))
    have tz_27 : z_27.toInt = 8 + (r_1 : Int32).toInt := by rw [ez_27]; exact iv_addE (iv_k (by decide) : iv 8 8 8) h_26 (by decide)
    exact W.nb (fun hN => W.widen (k := 1) (n := 6) (by decide) (by decide) (vx_ret (W.iret (v := z_27) hx hb hr (fun t ht hW => ⟨⟨some (.int z_27), (sg, gm, lg), rfl, ⟨z_27, rfl, rfl, (iv_w hz_27 (by decide)), (Or.inl ⟨by have := i32_0; have := i32_1; have := i32_2; have := i32_m1; have := (hvx).1; have := (hvx).2; have := (hvo).1; have := (hvo).2; have := (hvw).1; have := (hvw).2; have := (h_26).1; have := (h_26).2; have := (hz_27).1; have := (hz_27).2; omega, Or.inl (by rw [← fK_r_1]; have := i32_0; have := i32_1; have := i32_2; have := i32_m1; have := (hvx).1; have := (hvx).2; have := (hvo).1; have := (hvo).2; have := (hvw).1; have := (hvw).2; have := (h_26).1; have := (h_26).2; have := (hz_27).1; have := (hz_27).2; omega)⟩)⟩, by rw [ht]; exact hP, va_K.moved hW.alike hK, hD⟩, hS.F ht, by rw [ht]; exact hN⟩) hS.2.2 dX6_typeValue_16)))
