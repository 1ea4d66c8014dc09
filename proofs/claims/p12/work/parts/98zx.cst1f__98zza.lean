section
set_option maxHeartbeats 4000000 in
set_option maxRecDepth 100000 in
theorem d_beanHas2 (l : Launch) (dC : Nat → ClassId) (dI : Nat → Nat → Nat) (ad : Nat → Nat → Nat) (cid : Nat → ClassId) (a2 : Nat → Nat) (lx : List Nat) (sg : Nat → Int32) (gm : Nat → Nat → Int32) (lg : Nat → Nat → Int64) (x : Int32) (o : Int32) (D : List El7) (hI : CI sg gm) (hvx : iv 0 0 x) (hvo : iv 0 79 o) (hFA : FA sg gm) (how : o.toInt < (sg 4).toInt) (hVS : VS sg gm) (hEV : EV7 D sg gm lg o.toNatClampNeg) : CMt dC dI ad cid a2 lx l yX9_beanHasWhatItNeeds wm_X9_beanHasWhatItNeeds ({ frames := 3, cells := 1, slots := 6, locals := 74 }) [eV (ad 3) x, eV (ad 9) o] sg gm lg (fun v u => ∃ r : Int32, v = some (.int r) ∧ u = (sg, gm, lg) ∧ (iv 0 1 r) ∧ ((r.toInt = 1 ∧ (NBE D o.toNatClampNeg)) ∨ (r.toInt = 0 ∧ ¬ (NBE D o.toNatClampNeg)))) (fun _ _ => False) := by
  intro sz
  refine vx_ofW (cc := cX9_beanHasWhatItNeeds) (maxL := 2) (ret := (some .boolean)) (by decide) rfl ?_
  intro p e s m args below meth c s₁ B hml hxt hv
  obtain ⟨rfl, hsz, hP, hK, hD0, hG⟩ := hv
  have hx := B.exec
  have hb := B.bytes
  have hr := B.returns
  have hts := atoms_spec (ws := wm_X9_beanHasWhatItNeeds) B.pre
  have htb := fun (w : Cond) (h : w ∈ tb) => hts w (List.mem_cons_of_mem _ h)
  have hown : s.vm.findClass RX9 = some m.cls := findClass_of_methodNamed B.named
  have hlocks := B.notSynchronized
  subst hsz
  have hD := hD0.self (sz := s.heap.size)
  generalize hAe : va_A (cW ad cid a2 lx sg gm lg) s.heap.size = A at hD hG ⊢
  have hA : ∀ q : Nat, s.heap.size ≤ q → A q := fun q h => by rw [← hAe]; exact Or.inr h
  have hS : va_S A s.heap s.heap [] := va_S.rf
  have hl := lv_entry ([eV (ad 3) x, eV (ad 9) o]) (n := 2) (by rw [show (lg_sl ([eV (ad 3) x, eV (ad 9) o])).length = 2 from by simp [lg_sl, eV_cat, cat_i, cat_l]]; exact Nat.le_of_ble_eq_true rfl)
  rw [lg_entry_eq]
  generalize (lg_sl ([eV (ad 3) x, eV (ad 9) o]) ++ List.replicate (2 - (lg_sl ([eV (ad 3) x, eV (ad 9) o])).length) Slot.unset).toArray = ls at hl ⊢
  have hl : lv_has ls 2 [(0, eV (ad 3) x), (1, eV (ad 9) o)] := by simp [lv_args, eV_cat, cat_i, cat_l] at hl; exact hl
  have hj120 : ∀ (y0_120 : Int32) (_ : iv 0 0 x) (_ : iv 0 79 o) (_ : iv 0 1 y0_120) (_ : (y0_120.toInt = 1 ∧ (NBE D o.toNatClampNeg)) ∨ (y0_120.toInt = 0 ∧ ¬ (NBE D o.toNatClampNeg))) (H : Heap) (locs : List Loc) (ls : Array Slot), va_P (dC, dI) vwCl (cW ad cid a2 lx sg gm lg) H → va_D A (cW ad cid a2 lx sg gm lg) → va_S A s.heap H locs → lv_has ls 2 [(0, eV (ad 3) x), (1, eV (ad 9) o)] → W p l e (headSpec wm_X9_beanHasWhatItNeeds ({ frames := 3, cells := 1, slots := 6, locals := 74 })).room s m ([eV (ad 3) x, eV (ad 9) o] : List Value).toArray below meth c H locs 0 0 (vx_MQ below (cQx dC dI ad cid a2 lx (fun v u => ∃ r : Int32, v = some (.int r) ∧ u = (sg, gm, lg) ∧ (iv 0 1 r) ∧ ((r.toInt = 1 ∧ (NBE D o.toNatClampNeg)) ∨ (r.toInt = 0 ∧ ¬ (NBE D o.toNatClampNeg)))) A) (cX dC dI ad cid a2 lx (fun _ _ => False) A) ([eV (ad 3) x, eV (ad 9) o] : List Value).toArray s 1 6 A) (F0 m 120 ls [.int y0_120]) := by
    intro y0_120 hsx0_120 hsx1_120 hy0_120 u120 H locs ls hP hD hS hl
    exact W.nb (fun hN => W.widen (k := 1) (n := 6) (by decide) (by decide) (vx_ret (W.zret (v := y0_120) hx hb hr (iv_nb hy0_120) (fun t ht hW => ⟨⟨some (.int y0_120), (sg, gm, lg), rfl, ⟨y0_120, rfl, rfl, hy0_120, (u120)⟩, by rw [ht]; exact hP, va_K.moved hW.alike hK, hD⟩, hS.F ht, by rw [ht]; exact hN⟩) hS.2.2 dX9_beanHasWhatItNeeds_120)))
  have hj115 : ∀ (_ : iv 0 0 x) (_ : iv 0 79 o) (_ : (¬ dIn D o.toNatClampNeg = 1 ∨ aH (dAt D o.toNatClampNeg) 26980 = 1)) (_ : (aH (dAt D o.toNatClampNeg) 28817527407604345 = 0 ∨ aH (dAt D o.toNatClampNeg) 120282512125796 = 1)) (_ : (nv7 (dAt D o.toNatClampNeg) 7017298113369039732 = 7955827 ∨ aH (dAt D o.toNatClampNeg) 427020088179 = 1 ∨ aH (dAt D o.toNatClampNeg) 123563833388660 = 1 ∨ aH (dAt D o.toNatClampNeg) 28817527407604345 = 1)) (H : Heap) (locs : List Loc) (ls : Array Slot), va_P (dC, dI) vwCl (cW ad cid a2 lx sg gm lg) H → va_D A (cW ad cid a2 lx sg gm lg) → va_S A s.heap H locs → lv_has ls 2 [(0, eV (ad 3) x), (1, eV (ad 9) o)] → W p l e (headSpec wm_X9_beanHasWhatItNeeds ({ frames := 3, cells := 1, slots := 6, locals := 74 })).room s m ([eV (ad 3) x, eV (ad 9) o] : List Value).toArray below meth c H locs 0 0 (vx_MQ below (cQx dC dI ad cid a2 lx (fun v u => ∃ r : Int32, v = some (.int r) ∧ u = (sg, gm, lg) ∧ (iv 0 1 r) ∧ ((r.toInt = 1 ∧ (NBE D o.toNatClampNeg)) ∨ (r.toInt = 0 ∧ ¬ (NBE D o.toNatClampNeg)))) A) (cX dC dI ad cid a2 lx (fun _ _ => False) A) ([eV (ad 3) x, eV (ad 9) o] : List Value).toArray s 1 6 A) (F0 m 115 ls []) := by
    intro  hsx0_115 hsx1_115 u26 u56 u115 H locs ls hP hD hS hl
    refine lv_iconst (v := 1) hx hb dX9_beanHasWhatItNeeds_115 (by decide) ?_
    refine lv_goto (tgt := 120) hx hb dX9_beanHasWhatItNeeds_116 (by decide) ?_
    exact hj120 1 hsx0_115 hsx1_115 (iv_w (iv_k (by decide) : iv 1 1 1) (by decide)) (Or.inl ⟨rfl, u26, u56, u115⟩) _ _ _ hP hD hS (lv_sub hl [0, 1] rfl)
  have hj56 : ∀ (_ : iv 0 0 x) (_ : iv 0 79 o) (_ : (¬ dIn D o.toNatClampNeg = 1 ∨ aH (dAt D o.toNatClampNeg) 26980 = 1)) (_ : (aH (dAt D o.toNatClampNeg) 28817527407604345 = 0 ∨ aH (dAt D o.toNatClampNeg) 120282512125796 = 1)) (H : Heap) (locs : List Loc) (ls : Array Slot), va_P (dC, dI) vwCl (cW ad cid a2 lx sg gm lg) H → va_D A (cW ad cid a2 lx sg gm lg) → va_S A s.heap H locs → lv_has ls 2 [(0, eV (ad 3) x), (1, eV (ad 9) o)] → W p l e (headSpec wm_X9_beanHasWhatItNeeds ({ frames := 3, cells := 1, slots := 6, locals := 74 })).room s m ([eV (ad 3) x, eV (ad 9) o] : List Value).toArray below meth c H locs 0 0 (vx_MQ below (cQx dC dI ad cid a2 lx (fun v u => ∃ r : Int32, v = some (.int r) ∧ u = (sg, gm, lg) ∧ (iv 0 1 r) ∧ ((r.toInt = 1 ∧ (NBE D o.toNatClampNeg)) ∨ (r.toInt = 0 ∧ ¬ (NBE D o.toNatClampNeg)))) A) (cX dC dI ad cid a2 lx (fun _ _ => False) A) ([eV (ad 3) x, eV (ad 9) o] : List Value).toArray s 1 6 A) (F0 m 56 ls []) := by
    intro  hsx0_56 hsx1_56 u26 u56 H locs ls hP hD hS hl
    refine ec_aload_n hx hb dX9_beanHasWhatItNeeds_56 rfl (lv_at hl 0 rfl) ?_
    refine cr_get (t := 3) (j := 0) (C := RX9) (T := TX9) (N := 1) (v := eV (ad 1) 0) hx hb htb inX9 hown hK hP hsx0_56 (by decide) (by decide) (by decide) rfl (by decide) (htb _ kw_82) (cV_c rfl (by decide) (by rw [show cMu 3 0 = 0 from rfl, Nat.zero_mul]; rfl)) dX9_beanHasWhatItNeeds_57 ?_
    refine ec_aload_n hx hb dX9_beanHasWhatItNeeds_60 rfl (lv_at hl 1 rfl) ?_
    refine cw_word (k := 13) (kx := 13) hx hb hG hS (by decide) rfl ⟨by decide, by decide⟩ hown (htb _ kw_614) dX9_beanHasWhatItNeeds_61 ?_
    refine cw_word (k := 25) (kx := 25) hx hb hG hS (by decide) rfl ⟨by decide, by decide⟩ hown (htb _ kw_578) dX9_beanHasWhatItNeeds_64 ?_
    refine cm_callV (t := 1) (C := RX6) (T := TX6) (N := 8) (rest := []) (as := [eV (ad 9) o, eV (ad 33) 13, eV (ad 33) 25]) ⟨hx, hb, hml, hown, htb⟩ (d_valueIs2 l dC dI ad cid a2 lx sg gm lg 0 o 13 25 (dAt D o.toNatClampNeg) hI (iv_k (by decide) : iv 0 0 0) hsx1_56 (iv_w (iv_k (by decide) : iv 13 13 13) (by decide)) (iv_w (iv_k (by decide) : iv 25 25 25) (by decide)) hFA how hVS hEV.2.1) (cwV 3 htb (gd_V kw_588 kw_589 kw_590 kw_20 kw_1477) rfl rfl rfl (by decide +kernel) ⟨Nat.le_of_ble_eq_true rfl, Nat.le_of_ble_eq_true rfl⟩) (iv_k (by decide) : iv 0 0 0) (by decide) (by decide) rfl rfl hl.1 rfl (Nat.le_trans cs_n (by decide)) dX9_beanHasWhatItNeeds_67 ⟨Nat.le_of_ble_eq_true rfl, Nat.le_of_ble_eq_true rfl⟩ hK hP hD hS hA hG (fun E ce q9 u_2 H locs hw hP hD hS hce hcv hcl => ?_) (fun v9 u_2 H locs hw hP hD hS => ?_)
    · exact hw.elim
    obtain ⟨r_1, rfl, rfl, hr_1, fV_r_1⟩ := hw
    have hP : va_P (dC, dI) vwCl (cW ad cid a2 lx sg gm lg) H := hP
    have hD : va_D A (cW ad cid a2 lx sg gm lg) := hD
    refine W.eq (g2 := F0 m 70 ls [.int r_1]) rfl ?_
    have hV_r_1 : (r_1.toInt = 1 ∧ nv7 (dAt D o.toNatClampNeg) 7017298113369039732 = 7955827) ∨ (r_1.toInt = 0 ∧ ¬ nv7 (dAt D o.toNatClampNeg) 7017298113369039732 = 7955827) := by have q9 := fV_r_1; rw [show wKy.getD (13 : Int32).toNatClampNeg 0 = 7017298113369039732 from by decide, show wKy.getD (25 : Int32).toNatClampNeg 0 = 7955827 from by decide] at q9; exact q9
    refine lv_if_ne (tgt := 115) hx hb dX9_beanHasWhatItNeeds_70 (by decide) (fun c_4 => ?_) (fun c_4 => ?_)
    · have h_5 : iv 1 1 r_1 := iv_neL c_4 hr_1 (by decide)
      exact hj115 hsx0_56 hsx1_56 (u26) (u56) (Or.inl (hV_r_1.resolve_right (fun q8 => absurd q8.1 (by have := i32_0; have := i32_1; have := i32_2; have := i32_m1; have := (hsx0_56).1; have := (hsx0_56).2; have := (hsx1_56).1; have := (hsx1_56).2; have := (h_5).1; have := (h_5).2; omega))).2) _ _ _ hP hD hS (lv_sub hl [0, 1] rfl)
    · have h_6 : iv 0 0 r_1 := iv_eq c_4 hr_1 (iv_k (by decide) : iv 0 0 0) (by decide)
      refine ec_aload_n hx hb dX9_beanHasWhatItNeeds_73 rfl (lv_at hl 0 rfl) ?_
      refine cr_get (t := 3) (j := 0) (C := RX9) (T := TX9) (N := 1) (v := eV (ad 1) 0) hx hb htb inX9 hown hK hP hsx0_56 (by decide) (by decide) (by decide) rfl (by decide) (htb _ kw_82) (cV_c rfl (by decide) (by rw [show cMu 3 0 = 0 from rfl, Nat.zero_mul]; rfl)) dX9_beanHasWhatItNeeds_74 ?_
      refine ec_aload_n hx hb dX9_beanHasWhatItNeeds_77 rfl (lv_at hl 1 rfl) ?_
      refine cw_word (k := 11) (kx := 11) hx hb hG hS (by decide) rfl ⟨by decide, by decide⟩ hown (htb _ kw_615) dX9_beanHasWhatItNeeds_78 ?_
      refine cm_callV (t := 1) (C := RX6) (T := TX6) (N := 8) (rest := []) (as := [eV (ad 9) o, eV (ad 33) 11]) ⟨hx, hb, hml, hown, htb⟩ (d_has2 l dC dI ad cid a2 lx sg gm lg 0 o 11 (dAt D o.toNatClampNeg) hI (iv_k (by decide) : iv 0 0 0) hsx1_56 (iv_w (iv_k (by decide) : iv 11 11 11) (by decide)) hFA how hEV.2.1) (cwV 2 htb (gd_V kw_604 kw_605 kw_606 kw_20 kw_1481) rfl rfl rfl (by decide +kernel) ⟨Nat.le_of_ble_eq_true rfl, Nat.le_of_ble_eq_true rfl⟩) (iv_k (by decide) : iv 0 0 0) (by decide) (by decide) rfl rfl hl.1 rfl (Nat.le_trans cs_n (by decide)) dX9_beanHasWhatItNeeds_81 ⟨Nat.le_of_ble_eq_true rfl, Nat.le_of_ble_eq_true rfl⟩ hK hP hD hS hA hG (fun E ce q9 u_8 H locs hw hP hD hS hce hcv hcl => ?_) (fun v9 u_8 H locs hw hP hD hS => ?_)
      · exact hw.elim
      obtain ⟨r_7, rfl, rfl, hr_7, fH_r_7⟩ := hw
      have hP : va_P (dC, dI) vwCl (cW ad cid a2 lx sg gm lg) H := hP
      have hD : va_D A (cW ad cid a2 lx sg gm lg) := hD
      refine W.eq (g2 := F0 m 84 ls [.int r_7]) rfl ?_
      have hH_r_7 : r_7.toInt = aH (dAt D o.toNatClampNeg) 427020088179 := by have q9 := fH_r_7; rw [show wKy.getD (11 : Int32).toNatClampNeg 0 = 427020088179 from by decide] at q9; exact q9
      refine lv_if_ne (tgt := 115) hx hb dX9_beanHasWhatItNeeds_84 (by decide) (fun c_10 => ?_) (fun c_10 => ?_)
      · have h_11 : iv 1 1 r_7 := iv_neL c_10 hr_7 (by decide)
        exact hj115 hsx0_56 hsx1_56 (u26) (u56) (Or.inr (Or.inl (by rw [← hH_r_7]; have := i32_0; have := i32_1; have := i32_2; have := i32_m1; have := (hsx0_56).1; have := (hsx0_56).2; have := (hsx1_56).1; have := (hsx1_56).2; have := (h_6).1; have := (h_6).2; have := (h_11).1; have := (h_11).2; omega))) _ _ _ hP hD hS (lv_sub hl [0, 1] rfl)
      · have h_12 : iv 0 0 r_7 := iv_eq c_10 hr_7 (iv_k (by decide) : iv 0 0 0) (by decide)
        refine ec_aload_n hx hb dX9_beanHasWhatItNeeds_87 rfl (lv_at hl 0 rfl) ?_
        refine cr_get (t := 3) (j := 0) (C := RX9) (T := TX9) (N := 1) (v := eV (ad 1) 0) hx hb htb inX9 hown hK hP hsx0_56 (by decide) (by decide) (by decide) rfl (by decide) (htb _ kw_82) (cV_c rfl (by decide) (by rw [show cMu 3 0 = 0 from rfl, Nat.zero_mul]; rfl)) dX9_beanHasWhatItNeeds_88 ?_
        refine ec_aload_n hx hb dX9_beanHasWhatItNeeds_91 rfl (lv_at hl 1 rfl) ?_
        refine cw_word (k := 12) (kx := 12) hx hb hG hS (by decide) rfl ⟨by decide, by decide⟩ hown (htb _ kw_616) dX9_beanHasWhatItNeeds_92 ?_
        refine cm_callV (t := 1) (C := RX6) (T := TX6) (N := 8) (rest := []) (as := [eV (ad 9) o, eV (ad 33) 12]) ⟨hx, hb, hml, hown, htb⟩ (d_has2 l dC dI ad cid a2 lx sg gm lg 0 o 12 (dAt D o.toNatClampNeg) hI (iv_k (by decide) : iv 0 0 0) hsx1_56 (iv_w (iv_k (by decide) : iv 12 12 12) (by decide)) hFA how hEV.2.1) (cwV 2 htb (gd_V kw_604 kw_605 kw_606 kw_20 kw_1481) rfl rfl rfl (by decide +kernel) ⟨Nat.le_of_ble_eq_true rfl, Nat.le_of_ble_eq_true rfl⟩) (iv_k (by decide) : iv 0 0 0) (by decide) (by decide) rfl rfl hl.1 rfl (Nat.le_trans cs_n (by decide)) dX9_beanHasWhatItNeeds_95 ⟨Nat.le_of_ble_eq_true rfl, Nat.le_of_ble_eq_true rfl⟩ hK hP hD hS hA hG (fun E ce q9 u_14 H locs hw hP hD hS hce hcv hcl => ?_) (fun v9 u_14 H locs hw hP hD hS => ?_)
        · exact hw.elim
        obtain ⟨r_13, rfl, rfl, hr_13, fH_r_13⟩ := hw
        have hP : va_P (dC, dI) vwCl (cW ad cid a2 lx sg gm lg) H := hP
        have hD : va_D A (cW ad cid a2 lx sg gm lg) := hD
        refine W.eq (g2 := F0 m 98 ls [.int r_13]) rfl ?_
        have hH_r_13 : r_13.toInt = aH (dAt D o.toNatClampNeg) 123563833388660 := by have q9 := fH_r_13; rw [show wKy.getD (12 : Int32).toNatClampNeg 0 = 123563833388660 from by decide] at q9; exact q9
        refine lv_if_ne (tgt := 115) hx hb dX9_beanHasWhatItNeeds_98 (by decide) (fun c_16 => ?_) (fun c_16 => ?_)
        · have h_17 : iv 1 1 r_13 := iv_neL c_16 hr_13 (by decide)
          exact hj115 hsx0_56 hsx1_56 (u26) (u56) (Or.inr (Or.inr (Or.inl (by rw [← hH_r_13]; have := i32_0; have := i32_1; have := i32_2; have := i32_m1; have := (hsx0_56).1; have := (hsx0_56).2; have := (hsx1_56).1; have := (hsx1_56).2; have := (h_6).1; have := (h_6).2; have := (h_12).1; have := (h_12).2; have := (h_17).1; have := (h_17).2; omega)))) _ _ _ hP hD hS (lv_sub hl [0, 1] rfl)
        · have h_18 : iv 0 0 r_13 := iv_eq c_16 hr_13 (iv_k (by decide) : iv 0 0 0) (by decide)
          refine ec_aload_n hx hb dX9_beanHasWhatItNeeds_101 rfl (lv_at hl 0 rfl) ?_
          refine cr_get (t := 3) (j := 0) (C := RX9) (T := TX9) (N := 1) (v := eV (ad 1) 0) hx hb htb inX9 hown hK hP hsx0_56 (by decide) (by decide) (by decide) rfl (by decide) (htb _ kw_82) (cV_c rfl (by decide) (by rw [show cMu 3 0 = 0 from rfl, Nat.zero_mul]; rfl)) dX9_beanHasWhatItNeeds_102 ?_
          refine ec_aload_n hx hb dX9_beanHasWhatItNeeds_105 rfl (lv_at hl 1 rfl) ?_
          refine cw_word (k := 16) (kx := 16) hx hb hG hS (by decide) rfl ⟨by decide, by decide⟩ hown (htb _ kw_612) dX9_beanHasWhatItNeeds_106 ?_
          refine cm_callV (t := 1) (C := RX6) (T := TX6) (N := 8) (rest := []) (as := [eV (ad 9) o, eV (ad 33) 16]) ⟨hx, hb, hml, hown, htb⟩ (d_has2 l dC dI ad cid a2 lx sg gm lg 0 o 16 (dAt D o.toNatClampNeg) hI (iv_k (by decide) : iv 0 0 0) hsx1_56 (iv_w (iv_k (by decide) : iv 16 16 16) (by decide)) hFA how hEV.2.1) (cwV 2 htb (gd_V kw_604 kw_605 kw_606 kw_20 kw_1481) rfl rfl rfl (by decide +kernel) ⟨Nat.le_of_ble_eq_true rfl, Nat.le_of_ble_eq_true rfl⟩) (iv_k (by decide) : iv 0 0 0) (by decide) (by decide) rfl rfl hl.1 rfl (Nat.le_trans cs_n (by decide)) dX9_beanHasWhatItNeeds_109 ⟨Nat.le_of_ble_eq_true rfl, Nat.le_of_ble_eq_true rfl⟩ hK hP hD hS hA hG (fun E ce q9 u_20 H locs hw hP hD hS hce hcv hcl => ?_) (fun v9 u_20 H locs hw hP hD hS => ?_)
          · exact hw.elim
          obtain ⟨r_19, rfl, rfl, hr_19, fH_r_19⟩ := hw
          have hP : va_P (dC, dI) vwCl (cW ad cid a2 lx sg gm lg) H := hP
          have hD : va_D A (cW ad cid a2 lx sg gm lg) := hD
          refine W.eq (g2 := F0 m 112 ls [.int r_19]) rfl ?_
          have hH_r_19 : r_19.toInt = aH (dAt D o.toNatClampNeg) 28817527407604345 := by have q9 := fH_r_19; rw [show wKy.getD (16 : Int32).toNatClampNeg 0 = 28817527407604345 from by decide] at q9; exact q9
          refine lv_if_eq (tgt := 119) hx hb dX9_beanHasWhatItNeeds_112 (by decide) (fun c_22 => ?_) (fun c_22 => ?_)
          · have h_23 : iv 0 0 r_19 := iv_eq c_22 hr_19 (iv_k (by decide) : iv 0 0 0) (by decide)
            refine lv_iconst (v := 0) hx hb dX9_beanHasWhatItNeeds_119 (by decide) ?_
            exact hj120 0 hsx0_56 hsx1_56 (iv_w (iv_k (by decide) : iv 0 0 0) (by decide)) (Or.inr ⟨rfl, fun h => by rcases h.2.2 with q | q | q | q; (exact (hV_r_1.resolve_left (fun q8 => absurd q8.1 (by have := i32_0; have := i32_1; have := i32_2; have := i32_m1; have := (hsx0_56).1; have := (hsx0_56).2; have := (hsx1_56).1; have := (hsx1_56).2; have := (h_6).1; have := (h_6).2; have := (h_12).1; have := (h_12).2; have := (h_18).1; have := (h_18).2; have := (h_23).1; have := (h_23).2; omega))).2 q); (rw [← hH_r_7] at q; have := i32_0; have := i32_1; have := i32_2; have := i32_m1; have := (hsx0_56).1; have := (hsx0_56).2; have := (hsx1_56).1; have := (hsx1_56).2; have := (h_6).1; have := (h_6).2; have := (h_12).1; have := (h_12).2; have := (h_18).1; have := (h_18).2; have := (h_23).1; have := (h_23).2; omega); (rw [← hH_r_13] at q; have := i32_0; have := i32_1; have := i32_2; have := i32_m1; have := (hsx0_56).1; have := (hsx0_56).2; have := (hsx1_56).1; have := (hsx1_56).2; have := (h_6).1; have := (h_6).2; have := (h_12).1; have := (h_12).2; have := (h_18).1; have := (h_18).2; have := (h_23).1; have := (h_23).2; omega); (rw [← hH_r_19] at q; have := i32_0; have := i32_1; have := i32_2; have := i32_m1; have := (hsx0_56).1; have := (hsx0_56).2; have := (hsx1_56).1; have := (hsx1_56).2; have := (h_6).1; have := (h_6).2; have := (h_12).1; have := (h_12).2; have := (h_18).1; have := (h_18).2; have := (h_23).1; have := (h_23).2; omega)⟩) _ _ _ hP hD hS (lv_sub hl [0, 1] rfl)
          · have h_24 : iv 1 1 r_19 := iv_neL c_22 hr_19 (by decide)
            exact hj115 hsx0_56 hsx1_56 (u26) (u56) (Or.inr (Or.inr (Or.inr (by rw [← hH_r_19]; have := i32_0; have := i32_1; have := i32_2; have := i32_m1; have := (hsx0_56).1; have := (hsx0_56).2; have := (hsx1_56).1; have := (hsx1_56).2; have := (h_6).1; have := (h_6).2; have := (h_12).1; have := (h_12).2; have := (h_18).1; have := (h_18).2; have := (h_24).1; have := (h_24).2; omega)))) _ _ _ hP hD hS (lv_sub hl [0, 1] rfl)
  have hj26 : ∀ (_ : iv 0 0 x) (_ : iv 0 79 o) (_ : (¬ dIn D o.toNatClampNeg = 1 ∨ aH (dAt D o.toNatClampNeg) 26980 = 1)) (H : Heap) (locs : List Loc) (ls : Array Slot), va_P (dC, dI) vwCl (cW ad cid a2 lx sg gm lg) H → va_D A (cW ad cid a2 lx sg gm lg) → va_S A s.heap H locs → lv_has ls 2 [(0, eV (ad 3) x), (1, eV (ad 9) o)] → W p l e (headSpec wm_X9_beanHasWhatItNeeds ({ frames := 3, cells := 1, slots := 6, locals := 74 })).room s m ([eV (ad 3) x, eV (ad 9) o] : List Value).toArray below meth c H locs 0 0 (vx_MQ below (cQx dC dI ad cid a2 lx (fun v u => ∃ r : Int32, v = some (.int r) ∧ u = (sg, gm, lg) ∧ (iv 0 1 r) ∧ ((r.toInt = 1 ∧ (NBE D o.toNatClampNeg)) ∨ (r.toInt = 0 ∧ ¬ (NBE D o.toNatClampNeg)))) A) (cX dC dI ad cid a2 lx (fun _ _ => False) A) ([eV (ad 3) x, eV (ad 9) o] : List Value).toArray s 1 6 A) (F0 m 26 ls []) := by
    intro  hsx0_26 hsx1_26 u26 H locs ls hP hD hS hl
    refine ec_aload_n hx hb dX9_beanHasWhatItNeeds_26 rfl (lv_at hl 0 rfl) ?_
    refine cr_get (t := 3) (j := 0) (C := RX9) (T := TX9) (N := 1) (v := eV (ad 1) 0) hx hb htb inX9 hown hK hP hsx0_26 (by decide) (by decide) (by decide) rfl (by decide) (htb _ kw_82) (cV_c rfl (by decide) (by rw [show cMu 3 0 = 0 from rfl, Nat.zero_mul]; rfl)) dX9_beanHasWhatItNeeds_27 ?_
    refine ec_aload_n hx hb dX9_beanHasWhatItNeeds_30 rfl (lv_at hl 1 rfl) ?_
    refine cw_word (k := 16) (kx := 16) hx hb hG hS (by decide) rfl ⟨by decide, by decide⟩ hown (htb _ kw_612) dX9_beanHasWhatItNeeds_31 ?_
    refine cm_callV (t := 1) (C := RX6) (T := TX6) (N := 8) (rest := []) (as := [eV (ad 9) o, eV (ad 33) 16]) ⟨hx, hb, hml, hown, htb⟩ (d_has2 l dC dI ad cid a2 lx sg gm lg 0 o 16 (dAt D o.toNatClampNeg) hI (iv_k (by decide) : iv 0 0 0) hsx1_26 (iv_w (iv_k (by decide) : iv 16 16 16) (by decide)) hFA how hEV.2.1) (cwV 2 htb (gd_V kw_604 kw_605 kw_606 kw_20 kw_1481) rfl rfl rfl (by decide +kernel) ⟨Nat.le_of_ble_eq_true rfl, Nat.le_of_ble_eq_true rfl⟩) (iv_k (by decide) : iv 0 0 0) (by decide) (by decide) rfl rfl hl.1 rfl (Nat.le_trans cs_n (by decide)) dX9_beanHasWhatItNeeds_34 ⟨Nat.le_of_ble_eq_true rfl, Nat.le_of_ble_eq_true rfl⟩ hK hP hD hS hA hG (fun E ce q9 u_26 H locs hw hP hD hS hce hcv hcl => ?_) (fun v9 u_26 H locs hw hP hD hS => ?_)
    · exact hw.elim
    obtain ⟨r_25, rfl, rfl, hr_25, fH_r_25⟩ := hw
    have hP : va_P (dC, dI) vwCl (cW ad cid a2 lx sg gm lg) H := hP
    have hD : va_D A (cW ad cid a2 lx sg gm lg) := hD
    refine W.eq (g2 := F0 m 37 ls [.int r_25]) rfl ?_
    have hH_r_25 : r_25.toInt = aH (dAt D o.toNatClampNeg) 28817527407604345 := by have q9 := fH_r_25; rw [show wKy.getD (16 : Int32).toNatClampNeg 0 = 28817527407604345 from by decide] at q9; exact q9
    refine lv_if_eq (tgt := 56) hx hb dX9_beanHasWhatItNeeds_37 (by decide) (fun c_28 => ?_) (fun c_28 => ?_)
    · have h_29 : iv 0 0 r_25 := iv_eq c_28 hr_25 (iv_k (by decide) : iv 0 0 0) (by decide)
      exact hj56 hsx0_26 hsx1_26 (u26) ((by have := hH_r_25; have := i32_0; have := i32_1; have := i32_2; have := i32_m1; have := (hsx0_26).1; have := (hsx0_26).2; have := (hsx1_26).1; have := (hsx1_26).2; have := (h_29).1; have := (h_29).2; omega)) _ _ _ hP hD hS (lv_sub hl [0, 1] rfl)
    · have h_30 : iv 1 1 r_25 := iv_neL c_28 hr_25 (by decide)
      refine ec_aload_n hx hb dX9_beanHasWhatItNeeds_40 rfl (lv_at hl 0 rfl) ?_
      refine cr_get (t := 3) (j := 0) (C := RX9) (T := TX9) (N := 1) (v := eV (ad 1) 0) hx hb htb inX9 hown hK hP hsx0_26 (by decide) (by decide) (by decide) rfl (by decide) (htb _ kw_82) (cV_c rfl (by decide) (by rw [show cMu 3 0 = 0 from rfl, Nat.zero_mul]; rfl)) dX9_beanHasWhatItNeeds_41 ?_
      refine ec_aload_n hx hb dX9_beanHasWhatItNeeds_44 rfl (lv_at hl 1 rfl) ?_
      refine cw_word (k := 17) (kx := 17) hx hb hG hS (by decide) rfl ⟨by decide, by decide⟩ hown (htb _ kw_613) dX9_beanHasWhatItNeeds_45 ?_
      refine cm_callV (t := 1) (C := RX6) (T := TX6) (N := 8) (rest := []) (as := [eV (ad 9) o, eV (ad 33) 17]) ⟨hx, hb, hml, hown, htb⟩ (d_has2 l dC dI ad cid a2 lx sg gm lg 0 o 17 (dAt D o.toNatClampNeg) hI (iv_k (by decide) : iv 0 0 0) hsx1_26 (iv_w (iv_k (by decide) : iv 17 17 17) (by decide)) hFA how hEV.2.1) (cwV 2 htb (gd_V kw_604 kw_605 kw_606 kw_20 kw_1481) rfl rfl rfl (by decide +kernel) ⟨Nat.le_of_ble_eq_true rfl, Nat.le_of_ble_eq_true rfl⟩) (iv_k (by decide) : iv 0 0 0) (by decide) (by decide) rfl rfl hl.1 rfl (Nat.le_trans cs_n (by decide)) dX9_beanHasWhatItNeeds_48 ⟨Nat.le_of_ble_eq_true rfl, Nat.le_of_ble_eq_true rfl⟩ hK hP hD hS hA hG (fun E ce q9 u_32 H locs hw hP hD hS hce hcv hcl => ?_) (fun v9 u_32 H locs hw hP hD hS => ?_)
      · exact hw.elim
      obtain ⟨r_31, rfl, rfl, hr_31, fH_r_31⟩ := hw
      have hP : va_P (dC, dI) vwCl (cW ad cid a2 lx sg gm lg) H := hP
      have hD : va_D A (cW ad cid a2 lx sg gm lg) := hD
      refine W.eq (g2 := F0 m 51 ls [.int r_31]) rfl ?_
      have hH_r_31 : r_31.toInt = aH (dAt D o.toNatClampNeg) 120282512125796 := by have q9 := fH_r_31; rw [show wKy.getD (17 : Int32).toNatClampNeg 0 = 120282512125796 from by decide] at q9; exact q9
      refine lv_if_ne (tgt := 56) hx hb dX9_beanHasWhatItNeeds_51 (by decide) (fun c_34 => ?_) (fun c_34 => ?_)
      · have h_35 : iv 1 1 r_31 := iv_neL c_34 hr_31 (by decide)
        exact hj56 hsx0_26 hsx1_26 (u26) ((by have := hH_r_25; have := hH_r_31; have := i32_0; have := i32_1; have := i32_2; have := i32_m1; have := (hsx0_26).1; have := (hsx0_26).2; have := (hsx1_26).1; have := (hsx1_26).2; have := (h_30).1; have := (h_30).2; have := (h_35).1; have := (h_35).2; omega)) _ _ _ hP hD hS (lv_sub hl [0, 1] rfl)
      · have h_36 : iv 0 0 r_31 := iv_eq c_34 hr_31 (iv_k (by decide) : iv 0 0 0) (by decide)
        refine lv_iconst (v := 0) hx hb dX9_beanHasWhatItNeeds_54 (by decide) ?_
        exact W.nb (fun hN => W.widen (k := 1) (n := 6) (by decide) (by decide) (vx_ret (W.zret (v := 0) hx hb hr (iv_nb (iv_w (iv_k (by decide) : iv 0 0 0) (by decide))) (fun t ht hW => ⟨⟨some (.int 0), (sg, gm, lg), rfl, ⟨0, rfl, rfl, (iv_w (iv_k (by decide) : iv 0 0 0) (by decide)), (Or.inr ⟨rfl, fun h => by have q := h.2.1; have := hH_r_25; have := hH_r_31; have := i32_0; have := i32_1; have := i32_2; have := i32_m1; have := (hsx0_26).1; have := (hsx0_26).2; have := (hsx1_26).1; have := (hsx1_26).2; have := (h_30).1; have := (h_30).2; have := (h_36).1; have := (h_36).2; omega⟩)⟩, by rw [ht]; exact hP, va_K.moved hW.alike hK, hD⟩, hS.F ht, by rw [ht]; exact hN⟩) hS.2.2 dX9_beanHasWhatItNeeds_55)))
  refine ec_aload_n hx hb dX9_beanHasWhatItNeeds_0 rfl (lv_at hl 1 rfl) ?_
  refine cw_word (k := 0) (kx := 0) hx hb hG hS (by decide) rfl ⟨by decide, by decide⟩ hown (htb _ kw_516) dX9_beanHasWhatItNeeds_1 ?_
  refine cm_callV (t := 9) (C := RX3) (T := TX3) (N := 21) (rest := []) (as := [eV (ad 33) 0]) ⟨hx, hb, hml, hown, htb⟩ (d_isIn2 l dC dI ad cid a2 lx sg gm lg o 0 hI hvo (iv_w (iv_k (by decide) : iv 0 0 0) (by decide))) (cwV 1 htb (gd_V kw_526 kw_527 kw_528 kw_66 kw_1462) rfl rfl rfl (by decide +kernel) ⟨Nat.le_of_ble_eq_true rfl, Nat.le_of_ble_eq_true rfl⟩) hvo (by decide) (by decide) rfl rfl hl.1 rfl (Nat.le_trans cs_n (by decide)) dX9_beanHasWhatItNeeds_4 ⟨Nat.le_of_ble_eq_true rfl, Nat.le_of_ble_eq_true rfl⟩ hK hP hD hS hA hG (fun E ce q9 u_38 H locs hw hP hD hS hce hcv hcl => ?_) (fun v9 u_38 H locs hw hP hD hS => ?_)
  · exact hw.elim
  obtain ⟨r_37, rfl, rfl, hr_37, fI_r_37⟩ := hw
  have hP : va_P (dC, dI) vwCl (cW ad cid a2 lx sg gm lg) H := hP
  have hD : va_D A (cW ad cid a2 lx sg gm lg) := hD
  refine W.eq (g2 := F0 m 7 ls [.int r_37]) rfl ?_
  have gI_r_37 : (r_37.toInt = 1 ∧ dIn D o.toNatClampNeg = 1) ∨ (r_37.toInt = 0 ∧ ¬ dIn D o.toNatClampNeg = 1) := by rw [← ISI_d hEV (a := 0) (K := 1) (by unfold KW7; decide) (by decide)]; exact fI_r_37
  refine lv_if_eq (tgt := 26) hx hb dX9_beanHasWhatItNeeds_7 (by decide) (fun c_40 => ?_) (fun c_40 => ?_)
  · have h_41 : iv 0 0 r_37 := iv_eq c_40 hr_37 (iv_k (by decide) : iv 0 0 0) (by decide)
    exact hj26 hvx hvo ((by have := gI_r_37; have := i32_0; have := i32_1; have := i32_2; have := i32_m1; have := (hvx).1; have := (hvx).2; have := (hvo).1; have := (hvo).2; have := (h_41).1; have := (h_41).2; omega)) _ _ _ hP hD hS (lv_sub hl [0, 1] rfl)
  · have h_42 : iv 1 1 r_37 := iv_neL c_40 hr_37 (by decide)
    refine ec_aload_n hx hb dX9_beanHasWhatItNeeds_10 rfl (lv_at hl 0 rfl) ?_
    refine cr_get (t := 3) (j := 0) (C := RX9) (T := TX9) (N := 1) (v := eV (ad 1) 0) hx hb htb inX9 hown hK hP hvx (by decide) (by decide) (by decide) rfl (by decide) (htb _ kw_82) (cV_c rfl (by decide) (by rw [show cMu 3 0 = 0 from rfl, Nat.zero_mul]; rfl)) dX9_beanHasWhatItNeeds_11 ?_
    refine ec_aload_n hx hb dX9_beanHasWhatItNeeds_14 rfl (lv_at hl 1 rfl) ?_
    refine cw_word (k := 10) (kx := 10) hx hb hG hS (by decide) rfl ⟨by decide, by decide⟩ hown (htb _ kw_611) dX9_beanHasWhatItNeeds_15 ?_
    refine cm_callV (t := 1) (C := RX6) (T := TX6) (N := 8) (rest := []) (as := [eV (ad 9) o, eV (ad 33) 10]) ⟨hx, hb, hml, hown, htb⟩ (d_has2 l dC dI ad cid a2 lx sg gm lg 0 o 10 (dAt D o.toNatClampNeg) hI (iv_k (by decide) : iv 0 0 0) hvo (iv_w (iv_k (by decide) : iv 10 10 10) (by decide)) hFA how hEV.2.1) (cwV 2 htb (gd_V kw_604 kw_605 kw_606 kw_20 kw_1481) rfl rfl rfl (by decide +kernel) ⟨Nat.le_of_ble_eq_true rfl, Nat.le_of_ble_eq_true rfl⟩) (iv_k (by decide) : iv 0 0 0) (by decide) (by decide) rfl rfl hl.1 rfl (Nat.le_trans cs_n (by decide)) dX9_beanHasWhatItNeeds_18 ⟨Nat.le_of_ble_eq_true rfl, Nat.le_of_ble_eq_true rfl⟩ hK hP hD hS hA hG (fun E ce q9 u_44 H locs hw hP hD hS hce hcv hcl => ?_) (fun v9 u_44 H locs hw hP hD hS => ?_)
    · exact hw.elim
    obtain ⟨r_43, rfl, rfl, hr_43, fH_r_43⟩ := hw
    have hP : va_P (dC, dI) vwCl (cW ad cid a2 lx sg gm lg) H := hP
    have hD : va_D A (cW ad cid a2 lx sg gm lg) := hD
    refine W.eq (g2 := F0 m 21 ls [.int r_43]) rfl ?_
    have hH_r_43 : r_43.toInt = aH (dAt D o.toNatClampNeg) 26980 := by have q9 := fH_r_43; rw [show wKy.getD (10 : Int32).toNatClampNeg 0 = 26980 from by decide] at q9; exact q9
    refine lv_if_ne (tgt := 26) hx hb dX9_beanHasWhatItNeeds_21 (by decide) (fun c_46 => ?_) (fun c_46 => ?_)
    · have h_47 : iv 1 1 r_43 := iv_neL c_46 hr_43 (by decide)
      exact hj26 hvx hvo ((by have := gI_r_37; have := hH_r_43; have := i32_0; have := i32_1; have := i32_2; have := i32_m1; have := (hvx).1; have := (hvx).2; have := (hvo).1; have := (hvo).2; have := (h_42).1; have := (h_42).2; have := (h_47).1; have := (h_47).2; omega)) _ _ _ hP hD hS (lv_sub hl [0, 1] rfl)
    · have h_48 : iv 0 0 r_43 := iv_eq c_46 hr_43 (iv_k (by decide) : iv 0 0 0) (by decide)
      refine lv_iconst (v := 0) hx hb dX9_beanHasWhatItNeeds_24 (by decide) ?_
      exact W.nb (fun hN => W.widen (k := 1) (n := 6) (by decide) (by decide) (vx_ret (W.zret (v := 0) hx hb hr (iv_nb (iv_w (iv_k (by decide) : iv 0 0 0) (by decide))) (fun t ht hW => ⟨⟨some (.int 0), (sg, gm, lg), rfl, ⟨0, rfl, rfl, (iv_w (iv_k (by decide) : iv 0 0 0) (by decide)), (Or.inr ⟨rfl, fun h => by have q := h.1; have := gI_r_37; have := hH_r_43; have := aH_01 (q := dAt D o.toNatClampNeg) (k := 26980); have := i32_0; have := i32_1; have := i32_2; have := i32_m1; have := (hvx).1; have := (hvx).2; have := (hvo).1; have := (hvo).2; have := (h_42).1; have := (h_42).2; have := (h_48).1; have := (h_48).2; omega⟩)⟩, by rw [ht]; exact hP, va_K.moved hW.alike hK, hD⟩, hS.F ht, by rw [ht]; exact hN⟩) hS.2.2 dX9_beanHasWhatItNeeds_25)))

set_option maxHeartbeats 4000000 in
set_option maxRecDepth 100000 in
theorem d_hasWhat2 (l : Launch) (dC : Nat → ClassId) (dI : Nat → Nat → Nat) (ad : Nat → Nat → Nat) (cid : Nat → ClassId) (a2 : Nat → Nat) (lx : List Nat) (sg : Nat → Int32) (gm : Nat → Nat → Int32) (lg : Nat → Nat → Int64) (x : Int32) (o : Int32) (D : List El7) (hI : CI sg gm) (hvx : iv 0 0 x) (hvo : iv 0 79 o) (hFA : FA sg gm) (how : o.toInt < (sg 4).toInt) (hVS : VS sg gm) (hw0 : 0 ≤ (gm 14 o.toNatClampNeg).toInt) (hEV : EV7 D sg gm lg o.toNatClampNeg) : CMt dC dI ad cid a2 lx l yX9_hasWhatItNeeds wm_X9_hasWhatItNeeds ({ frames := 4, cells := 1, slots := 6, locals := 95 }) [eV (ad 3) x, eV (ad 9) o] sg gm lg (fun v u => ∃ r : Int32, v = some (.int r) ∧ u = (sg, gm, lg) ∧ (iv 0 1 r) ∧ ((r.toInt = 1 ∧ (NEE D o.toNatClampNeg)) ∨ (r.toInt = 0 ∧ ¬ (NEE D o.toNatClampNeg)))) (fun _ _ => False) := by
  intro sz
  refine vx_ofW (cc := cX9_hasWhatItNeeds) (maxL := 2) (ret := (some .boolean)) (by decide) rfl ?_
  intro p e s m args below meth c s₁ B hml hxt hv
  obtain ⟨rfl, hsz, hP, hK, hD0, hG⟩ := hv
  have hx := B.exec
  have hb := B.bytes
  have hr := B.returns
  have hts := atoms_spec (ws := wm_X9_hasWhatItNeeds) B.pre
  have htb := fun (w : Cond) (h : w ∈ tb) => hts w (List.mem_cons_of_mem _ h)
  have hown : s.vm.findClass RX9 = some m.cls := findClass_of_methodNamed B.named
  have hlocks := B.notSynchronized
  subst hsz
  have hD := hD0.self (sz := s.heap.size)
  generalize hAe : va_A (cW ad cid a2 lx sg gm lg) s.heap.size = A at hD hG ⊢
  have hA : ∀ q : Nat, s.heap.size ≤ q → A q := fun q h => by rw [← hAe]; exact Or.inr h
  have hS : va_S A s.heap s.heap [] := va_S.rf
  have hl := lv_entry ([eV (ad 3) x, eV (ad 9) o]) (n := 2) (by rw [show (lg_sl ([eV (ad 3) x, eV (ad 9) o])).length = 2 from by simp [lg_sl, eV_cat, cat_i, cat_l]]; exact Nat.le_of_ble_eq_true rfl)
  rw [lg_entry_eq]
  generalize (lg_sl ([eV (ad 3) x, eV (ad 9) o]) ++ List.replicate (2 - (lg_sl ([eV (ad 3) x, eV (ad 9) o])).length) Slot.unset).toArray = ls at hl ⊢
  have hl : lv_has ls 2 [(0, eV (ad 3) x), (1, eV (ad 9) o)] := by simp [lv_args, eV_cat, cat_i, cat_l] at hl; exact hl
  have hj89 : ∀ (y0_89 : Int32) (_ : iv 0 0 x) (_ : iv 0 79 o) (_ : iv 0 1 y0_89) (_ : (y0_89.toInt = 1 ∧ (NEE D o.toNatClampNeg)) ∨ (y0_89.toInt = 0 ∧ ¬ (NEE D o.toNatClampNeg))) (H : Heap) (locs : List Loc) (ls : Array Slot), va_P (dC, dI) vwCl (cW ad cid a2 lx sg gm lg) H → va_D A (cW ad cid a2 lx sg gm lg) → va_S A s.heap H locs → lv_has ls 2 [(0, eV (ad 3) x), (1, eV (ad 9) o)] → W p l e (headSpec wm_X9_hasWhatItNeeds ({ frames := 4, cells := 1, slots := 6, locals := 95 })).room s m ([eV (ad 3) x, eV (ad 9) o] : List Value).toArray below meth c H locs 0 0 (vx_MQ below (cQx dC dI ad cid a2 lx (fun v u => ∃ r : Int32, v = some (.int r) ∧ u = (sg, gm, lg) ∧ (iv 0 1 r) ∧ ((r.toInt = 1 ∧ (NEE D o.toNatClampNeg)) ∨ (r.toInt = 0 ∧ ¬ (NEE D o.toNatClampNeg)))) A) (cX dC dI ad cid a2 lx (fun _ _ => False) A) ([eV (ad 3) x, eV (ad 9) o] : List Value).toArray s 1 6 A) (F0 m 89 ls [.int y0_89]) := by
    intro y0_89 hsx0_89 hsx1_89 hy0_89 u89 H locs ls hP hD hS hl
    exact W.nb (fun hN => W.widen (k := 1) (n := 6) (by decide) (by decide) (vx_ret (W.zret (v := y0_89) hx hb hr (iv_nb hy0_89) (fun t ht hW => ⟨⟨some (.int y0_89), (sg, gm, lg), rfl, ⟨y0_89, rfl, rfl, hy0_89, (u89)⟩, by rw [ht]; exact hP, va_K.moved hW.alike hK, hD⟩, hS.F ht, by rw [ht]; exact hN⟩) hS.2.2 dX9_hasWhatItNeeds_89)))
  have hj88 : ∀ (_ : iv 0 0 x) (_ : iv 0 79 o) (_ : ¬ NEE D o.toNatClampNeg) (H : Heap) (locs : List Loc) (ls : Array Slot), va_P (dC, dI) vwCl (cW ad cid a2 lx sg gm lg) H → va_D A (cW ad cid a2 lx sg gm lg) → va_S A s.heap H locs → lv_has ls 2 [(0, eV (ad 3) x), (1, eV (ad 9) o)] → W p l e (headSpec wm_X9_hasWhatItNeeds ({ frames := 4, cells := 1, slots := 6, locals := 95 })).room s m ([eV (ad 3) x, eV (ad 9) o] : List Value).toArray below meth c H locs 0 0 (vx_MQ below (cQx dC dI ad cid a2 lx (fun v u => ∃ r : Int32, v = some (.int r) ∧ u = (sg, gm, lg) ∧ (iv 0 1 r) ∧ ((r.toInt = 1 ∧ (NEE D o.toNatClampNeg)) ∨ (r.toInt = 0 ∧ ¬ (NEE D o.toNatClampNeg)))) A) (cX dC dI ad cid a2 lx (fun _ _ => False) A) ([eV (ad 3) x, eV (ad 9) o] : List Value).toArray s 1 6 A) (F0 m 88 ls []) := by
    intro  hsx0_88 hsx1_88 u88 H locs ls hP hD hS hl
    refine lv_iconst (v := 0) hx hb dX9_hasWhatItNeeds_88 (by decide) ?_
    exact hj89 0 hsx0_88 hsx1_88 (iv_w (iv_k (by decide) : iv 0 0 0) (by decide)) (Or.inr ⟨rfl, u88⟩) _ _ _ hP hD hS (lv_sub hl [0, 1] rfl)
  have hj154 : ∀ (_ : iv 0 0 x) (_ : iv 0 79 o) (_ : NEE D o.toNatClampNeg) (H : Heap) (locs : List Loc) (ls : Array Slot), va_P (dC, dI) vwCl (cW ad cid a2 lx sg gm lg) H → va_D A (cW ad cid a2 lx sg gm lg) → va_S A s.heap H locs → lv_has ls 2 [(0, eV (ad 3) x), (1, eV (ad 9) o)] → W p l e (headSpec wm_X9_hasWhatItNeeds ({ frames := 4, cells := 1, slots := 6, locals := 95 })).room s m ([eV (ad 3) x, eV (ad 9) o] : List Value).toArray below meth c H locs 0 0 (vx_MQ below (cQx dC dI ad cid a2 lx (fun v u => ∃ r : Int32, v = some (.int r) ∧ u = (sg, gm, lg) ∧ (iv 0 1 r) ∧ ((r.toInt = 1 ∧ (NEE D o.toNatClampNeg)) ∨ (r.toInt = 0 ∧ ¬ (NEE D o.toNatClampNeg)))) A) (cX dC dI ad cid a2 lx (fun _ _ => False) A) ([eV (ad 3) x, eV (ad 9) o] : List Value).toArray s 1 6 A) (F0 m 154 ls []) := by
    intro  hsx0_154 hsx1_154 u154 H locs ls hP hD hS hl
    refine lv_iconst (v := 1) hx hb dX9_hasWhatItNeeds_154 (by decide) ?_
    exact W.nb (fun hN => W.widen (k := 1) (n := 6) (by decide) (by decide) (vx_ret (W.zret (v := 1) hx hb hr (iv_nb (iv_w (iv_k (by decide) : iv 1 1 1) (by decide))) (fun t ht hW => ⟨⟨some (.int 1), (sg, gm, lg), rfl, ⟨1, rfl, rfl, (iv_w (iv_k (by decide) : iv 1 1 1) (by decide)), (Or.inl ⟨rfl, u154⟩)⟩, by rw [ht]; exact hP, va_K.moved hW.alike hK, hD⟩, hS.F ht, by rw [ht]; exact hN⟩) hS.2.2 dX9_hasWhatItNeeds_155)))
  have hj153 : ∀ (y0_153 : Int32) (_ : iv 0 0 x) (_ : iv 0 79 o) (_ : iv 0 1 y0_153) (_ : (y0_153.toInt = 1 ∧ (NEE D o.toNatClampNeg)) ∨ (y0_153.toInt = 0 ∧ ¬ (NEE D o.toNatClampNeg))) (H : Heap) (locs : List Loc) (ls : Array Slot), va_P (dC, dI) vwCl (cW ad cid a2 lx sg gm lg) H → va_D A (cW ad cid a2 lx sg gm lg) → va_S A s.heap H locs → lv_has ls 2 [(0, eV (ad 3) x), (1, eV (ad 9) o)] → W p l e (headSpec wm_X9_hasWhatItNeeds ({ frames := 4, cells := 1, slots := 6, locals := 95 })).room s m ([eV (ad 3) x, eV (ad 9) o] : List Value).toArray below meth c H locs 0 0 (vx_MQ below (cQx dC dI ad cid a2 lx (fun v u => ∃ r : Int32, v = some (.int r) ∧ u = (sg, gm, lg) ∧ (iv 0 1 r) ∧ ((r.toInt = 1 ∧ (NEE D o.toNatClampNeg)) ∨ (r.toInt = 0 ∧ ¬ (NEE D o.toNatClampNeg)))) A) (cX dC dI ad cid a2 lx (fun _ _ => False) A) ([eV (ad 3) x, eV (ad 9) o] : List Value).toArray s 1 6 A) (F0 m 153 ls [.int y0_153]) := by
    intro y0_153 hsx0_153 hsx1_153 hy0_153 u153 H locs ls hP hD hS hl
    exact W.nb (fun hN => W.widen (k := 1) (n := 6) (by decide) (by decide) (vx_ret (W.zret (v := y0_153) hx hb hr (iv_nb hy0_153) (fun t ht hW => ⟨⟨some (.int y0_153), (sg, gm, lg), rfl, ⟨y0_153, rfl, rfl, hy0_153, (u153)⟩, by rw [ht]; exact hP, va_K.moved hW.alike hK, hD⟩, hS.F ht, by rw [ht]; exact hN⟩) hS.2.2 dX9_hasWhatItNeeds_153)))
  have hj152 : ∀ (_ : iv 0 0 x) (_ : iv 0 79 o) (_ : ¬ NEE D o.toNatClampNeg) (H : Heap) (locs : List Loc) (ls : Array Slot), va_P (dC, dI) vwCl (cW ad cid a2 lx sg gm lg) H → va_D A (cW ad cid a2 lx sg gm lg) → va_S A s.heap H locs → lv_has ls 2 [(0, eV (ad 3) x), (1, eV (ad 9) o)] → W p l e (headSpec wm_X9_hasWhatItNeeds ({ frames := 4, cells := 1, slots := 6, locals := 95 })).room s m ([eV (ad 3) x, eV (ad 9) o] : List Value).toArray below meth c H locs 0 0 (vx_MQ below (cQx dC dI ad cid a2 lx (fun v u => ∃ r : Int32, v = some (.int r) ∧ u = (sg, gm, lg) ∧ (iv 0 1 r) ∧ ((r.toInt = 1 ∧ (NEE D o.toNatClampNeg)) ∨ (r.toInt = 0 ∧ ¬ (NEE D o.toNatClampNeg)))) A) (cX dC dI ad cid a2 lx (fun _ _ => False) A) ([eV (ad 3) x, eV (ad 9) o] : List Value).toArray s 1 6 A) (F0 m 152 ls []) := by
    intro  hsx0_152 hsx1_152 u152 H locs ls hP hD hS hl
    refine lv_iconst (v := 0) hx hb dX9_hasWhatItNeeds_152 (by decide) ?_
    exact hj153 0 hsx0_152 hsx1_152 (iv_w (iv_k (by decide) : iv 0 0 0) (by decide)) (Or.inr ⟨rfl, u152⟩) _ _ _ hP hD hS (lv_sub hl [0, 1] rfl)
  refine cw_sw hx hb hG hS hown (htb _ kw_514) dX9_hasWhatItNeeds_0 ?_
  refine ec_aload_n hx hb dX9_hasWhatItNeeds_3 rfl (lv_at hl 1 rfl) ?_
  refine cr_get (t := 9) (j := 4) (C := RX3) (T := TX3) (N := 21) (v := eV (ad 33) (gm 14 o.toNatClampNeg)) hx hb htb inX3 hown hK hP hvo (by decide) (by decide) (by decide) rfl (by decide) (htb _ kw_508) rfl dX9_hasWhatItNeeds_4 ?_
  obtain ⟨z_1, ez_1⟩ : ∃ z : Int32, z = (gm 14 o.toNatClampNeg) := ⟨_, rfl⟩
  refine W.eq (g2 := F0 m 7 ls [eV (ad 33) z_1, eV (ad 36) 0]) (by rw [ez_1]) ?_
  have hz_1 : iv (-1) 33 z_1 := iv_of ez_1 (CI_a hI 14 hvo (by decide))
  have h_2 : iv 0 33 z_1 := ⟨by rw [ez_1]; exact hw0, (hz_1).2⟩
  refine cw_ord ⟨hx, hb, hml, hown, htb⟩ kw_520 h_2 hl.1 (Nat.le_trans (cs_c (eV_cat _ _) cs_n) (by decide)) dX9_hasWhatItNeeds_7 ⟨Nat.le_of_ble_eq_true rfl, Nat.le_of_ble_eq_true rfl⟩ ⟨Nat.le_of_ble_eq_true rfl, Nat.le_of_ble_eq_true rfl⟩ hP hD hS hA hG (fun H locs hP hS => ?_)
  refine cw_swld (iv_k (by decide) : iv 0 0 0) hx hb hG hS h_2 dX9_hasWhatItNeeds_10 ?_
  refine lv_topi (fun z_3 ez_3 => ?_)
  have hz_3 : iv 0 29 z_3 := iv_of ez_3 (sw_iv z_1)
  by_cases c_4 : (z_3 : Int32).toInt = 7
  · refine lv_tableIn (tgt := 56) hx hb dX9_hasWhatItNeeds_11 (by rw [c_4]; decide) (by rw [c_4]; decide) (by rw [c_4]; rfl) (by decide) ?_
    have h_5 : iv 7 7 z_3 := iv_at c_4
    refine ec_aload_n hx hb dX9_hasWhatItNeeds_56 rfl (lv_at hl 0 rfl) ?_
    refine cr_get (t := 3) (j := 0) (C := RX9) (T := TX9) (N := 1) (v := eV (ad 1) 0) hx hb htb inX9 hown hK hP hvx (by decide) (by decide) (by decide) rfl (by decide) (htb _ kw_82) (cV_c rfl (by decide) (by rw [show cMu 3 0 = 0 from rfl, Nat.zero_mul]; rfl)) dX9_hasWhatItNeeds_57 ?_
    refine ec_aload_n hx hb dX9_hasWhatItNeeds_60 rfl (lv_at hl 1 rfl) ?_
    refine cw_word (k := 21) (kx := 21) hx hb hG hS (by decide) rfl ⟨by decide, by decide⟩ hown (htb _ kw_541) dX9_hasWhatItNeeds_61 ?_
    refine cm_callV (t := 1) (C := RX6) (T := TX6) (N := 8) (rest := []) (as := [eV (ad 9) o, eV (ad 33) 21]) ⟨hx, hb, hml, hown, htb⟩ (d_has2 l dC dI ad cid a2 lx sg gm lg 0 o 21 (dAt D o.toNatClampNeg) hI (iv_k (by decide) : iv 0 0 0) hvo (iv_w (iv_k (by decide) : iv 21 21 21) (by decide)) hFA how hEV.2.1) (cwV 2 htb (gd_V kw_604 kw_605 kw_606 kw_20 kw_1481) rfl rfl rfl (by decide +kernel) ⟨Nat.le_of_ble_eq_true rfl, Nat.le_of_ble_eq_true rfl⟩) (iv_k (by decide) : iv 0 0 0) (by decide) (by decide) rfl rfl hl.1 rfl (Nat.le_trans cs_n (by decide)) dX9_hasWhatItNeeds_64 ⟨Nat.le_of_ble_eq_true rfl, Nat.le_of_ble_eq_true rfl⟩ hK hP hD hS hA hG (fun E ce q9 u_7 H locs hw hP hD hS hce hcv hcl => ?_) (fun v9 u_7 H locs hw hP hD hS => ?_)
    · exact hw.elim
    obtain ⟨r_6, rfl, rfl, hr_6, fH_r_6⟩ := hw
    have hP : va_P (dC, dI) vwCl (cW ad cid a2 lx sg gm lg) H := hP
    have hD : va_D A (cW ad cid a2 lx sg gm lg) := hD
    refine W.eq (g2 := F0 m 67 ls [.int r_6]) rfl ?_
    have hH_r_6 : r_6.toInt = aH (dAt D o.toNatClampNeg) 1851878757 := by have q9 := fH_r_6; rw [show wKy.getD (21 : Int32).toNatClampNeg 0 = 1851878757 from by decide] at q9; exact q9
    refine lv_if_eq (tgt := 88) hx hb dX9_hasWhatItNeeds_67 (by decide) (fun c_9 => ?_) (fun c_9 => ?_)
    · have h_10 : iv 0 0 r_6 := iv_eq c_9 hr_6 (iv_k (by decide) : iv 0 0 0) (by decide)
      exact hj88 hvx hvo ((fun q9 => by have hkd : dKd D o.toNatClampNeg = 2 := KW_f hEV.1 (by unfold KW7; rw [show (gm 14 o.toNatClampNeg).toInt = (1 : Int) from (by rw [← ez_1]; exact swy 1 7 (by decide) (h_2) ez_3 c_4)]; decide); have q8 := (NEE_2 hkd).mp q9; have := hH_r_6; have := i32_0; have := i32_1; have := i32_2; have := i32_m1; have := (hvx).1; have := (hvx).2; have := (hvo).1; have := (hvo).2; have := (h_2).1; have := (h_2).2; have := (h_5).1; have := (h_5).2; have := (h_10).1; have := (h_10).2; omega)) _ _ _ hP hD hS (lv_sub hl [0, 1] rfl)
    · have h_11 : iv 1 1 r_6 := iv_neL c_9 hr_6 (by decide)
      refine ec_aload_n hx hb dX9_hasWhatItNeeds_70 rfl (lv_at hl 0 rfl) ?_
      refine cr_get (t := 3) (j := 0) (C := RX9) (T := TX9) (N := 1) (v := eV (ad 1) 0) hx hb htb inX9 hown hK hP hvx (by decide) (by decide) (by decide) rfl (by decide) (htb _ kw_82) (cV_c rfl (by decide) (by rw [show cMu 3 0 = 0 from rfl, Nat.zero_mul]; rfl)) dX9_hasWhatItNeeds_71 ?_
      refine ec_aload_n hx hb dX9_hasWhatItNeeds_74 rfl (lv_at hl 1 rfl) ?_
      refine cw_word (k := 22) (kx := 22) hx hb hG hS (by decide) rfl ⟨by decide, by decide⟩ hown (htb _ kw_567) dX9_hasWhatItNeeds_75 ?_
      refine cm_callV (t := 1) (C := RX6) (T := TX6) (N := 8) (rest := []) (as := [eV (ad 9) o, eV (ad 33) 22]) ⟨hx, hb, hml, hown, htb⟩ (d_has2 l dC dI ad cid a2 lx sg gm lg 0 o 22 (dAt D o.toNatClampNeg) hI (iv_k (by decide) : iv 0 0 0) hvo (iv_w (iv_k (by decide) : iv 22 22 22) (by decide)) hFA how hEV.2.1) (cwV 2 htb (gd_V kw_604 kw_605 kw_606 kw_20 kw_1481) rfl rfl rfl (by decide +kernel) ⟨Nat.le_of_ble_eq_true rfl, Nat.le_of_ble_eq_true rfl⟩) (iv_k (by decide) : iv 0 0 0) (by decide) (by decide) rfl rfl hl.1 rfl (Nat.le_trans cs_n (by decide)) dX9_hasWhatItNeeds_78 ⟨Nat.le_of_ble_eq_true rfl, Nat.le_of_ble_eq_true rfl⟩ hK hP hD hS hA hG (fun E ce q9 u_13 H locs hw hP hD hS hce hcv hcl => ?_) (fun v9 u_13 H locs hw hP hD hS => ?_)
      · exact hw.elim
      obtain ⟨r_12, rfl, rfl, hr_12, fH_r_12⟩ := hw
      have hP : va_P (dC, dI) vwCl (cW ad cid a2 lx sg gm lg) H := hP
      have hD : va_D A (cW ad cid a2 lx sg gm lg) := hD
      refine W.eq (g2 := F0 m 81 ls [.int r_12]) rfl ?_
      have hH_r_12 : r_12.toInt = aH (dAt D o.toNatClampNeg) 29807 := by have q9 := fH_r_12; rw [show wKy.getD (22 : Int32).toNatClampNeg 0 = 29807 from by decide] at q9; exact q9
      refine lv_if_eq (tgt := 88) hx hb dX9_hasWhatItNeeds_81 (by decide) (fun c_15 => ?_) (fun c_15 => ?_)
      · have h_16 : iv 0 0 r_12 := iv_eq c_15 hr_12 (iv_k (by decide) : iv 0 0 0) (by decide)
        exact hj88 hvx hvo ((fun q9 => by have hkd : dKd D o.toNatClampNeg = 2 := KW_f hEV.1 (by unfold KW7; rw [show (gm 14 o.toNatClampNeg).toInt = (1 : Int) from (by rw [← ez_1]; exact swy 1 7 (by decide) (h_2) ez_3 c_4)]; decide); have q8 := (NEE_2 hkd).mp q9; have := hH_r_6; have := hH_r_12; have := i32_0; have := i32_1; have := i32_2; have := i32_m1; have := (hvx).1; have := (hvx).2; have := (hvo).1; have := (hvo).2; have := (h_2).1; have := (h_2).2; have := (h_5).1; have := (h_5).2; have := (h_11).1; have := (h_11).2; have := (h_16).1; have := (h_16).2; omega)) _ _ _ hP hD hS (lv_sub hl [0, 1] rfl)
      · have h_17 : iv 1 1 r_12 := iv_neL c_15 hr_12 (by decide)
        refine lv_iconst (v := 1) hx hb dX9_hasWhatItNeeds_84 (by decide) ?_
        refine lv_goto (tgt := 89) hx hb dX9_hasWhatItNeeds_85 (by decide) ?_
        exact hj89 1 hvx hvo (iv_w (iv_k (by decide) : iv 1 1 1) (by decide)) (Or.inl ⟨rfl, (by have hkd : dKd D o.toNatClampNeg = 2 := KW_f hEV.1 (by unfold KW7; rw [show (gm 14 o.toNatClampNeg).toInt = (1 : Int) from (by rw [← ez_1]; exact swy 1 7 (by decide) (h_2) ez_3 c_4)]; decide); exact (NEE_2 hkd).mpr ⟨(by rw [← hH_r_6]; have := i32_0; have := i32_1; have := i32_2; have := i32_m1; have := (hvx).1; have := (hvx).2; have := (hvo).1; have := (hvo).2; have := (h_2).1; have := (h_2).2; have := (h_5).1; have := (h_5).2; have := (h_11).1; have := (h_11).2; have := (h_17).1; have := (h_17).2; omega), (by rw [← hH_r_12]; have := i32_0; have := i32_1; have := i32_2; have := i32_m1; have := (hvx).1; have := (hvx).2; have := (hvo).1; have := (hvo).2; have := (h_2).1; have := (h_2).2; have := (h_5).1; have := (h_5).2; have := (h_11).1; have := (h_11).2; have := (h_17).1; have := (h_17).2; omega)⟩)⟩) _ _ _ hP hD hS (lv_sub hl [0, 1] rfl)
  by_cases c_18 : (z_3 : Int32).toInt = 8
  · refine lv_tableIn (tgt := 90) hx hb dX9_hasWhatItNeeds_11 (by rw [c_18]; decide) (by rw [c_18]; decide) (by rw [c_18]; rfl) (by decide) ?_
    have h_19 : iv 8 8 z_3 := iv_at c_18
    refine ec_aload_n hx hb dX9_hasWhatItNeeds_90 rfl (lv_at hl 0 rfl) ?_
    refine ec_aload_n hx hb dX9_hasWhatItNeeds_91 rfl (lv_at hl 1 rfl) ?_
    refine cm_callV (t := 3) (C := RX9) (T := TX9) (N := 1) (rest := []) (as := [eV (ad 9) o]) ⟨hx, hb, hml, hown, htb⟩ (d_beanHas2 l dC dI ad cid a2 lx sg gm lg x o D hI hvx hvo hFA how hVS hEV) (cwV 1 htb (gd_V kw_608 kw_609 kw_610 kw_28 kw_1482) rfl rfl rfl (by decide +kernel) ⟨Nat.le_of_ble_eq_true rfl, Nat.le_of_ble_eq_true rfl⟩) hvx (by decide) (by decide) rfl rfl hl.1 rfl (Nat.le_trans cs_n (by decide)) dX9_hasWhatItNeeds_92 ⟨Nat.le_of_ble_eq_true rfl, Nat.le_of_ble_eq_true rfl⟩ hK hP hD hS hA hG (fun E ce q9 u_21 H locs hw hP hD hS hce hcv hcl => ?_) (fun v9 u_21 H locs hw hP hD hS => ?_)
    · exact hw.elim
    obtain ⟨r_20, rfl, rfl, hr_20, fN_r_20⟩ := hw
    have hP : va_P (dC, dI) vwCl (cW ad cid a2 lx sg gm lg) H := hP
    have hD : va_D A (cW ad cid a2 lx sg gm lg) := hD
    refine W.eq (g2 := F0 m 95 ls [.int r_20]) rfl ?_
    exact W.nb (fun hN => W.widen (k := 1) (n := 6) (by decide) (by decide) (vx_ret (W.zret (v := r_20) hx hb hr (iv_nb hr_20) (fun t ht hW => ⟨⟨some (.int r_20), (sg, gm, lg), rfl, ⟨r_20, rfl, rfl, hr_20, ((by have hkd : dKd D o.toNatClampNeg = 3 := KW_f hEV.1 (by unfold KW7; rw [show (gm 14 o.toNatClampNeg).toInt = (2 : Int) from (by rw [← ez_1]; exact swy 2 8 (by decide) (h_2) ez_3 c_18)]; decide); rw [NEE_3 hkd]; exact fN_r_20))⟩, by rw [ht]; exact hP, va_K.moved hW.alike hK, hD⟩, hS.F ht, by rw [ht]; exact hN⟩) hS.2.2 dX9_hasWhatItNeeds_95)))
  by_cases c_23 : (z_3 : Int32).toInt = 9
  · refine lv_tableIn (tgt := 154) hx hb dX9_hasWhatItNeeds_11 (by rw [c_23]; decide) (by rw [c_23]; decide) (by rw [c_23]; rfl) (by decide) ?_
    have h_24 : iv 9 9 z_3 := iv_at c_23
    exact hj154 hvx hvo ((by have hkd : dKd D o.toNatClampNeg = 4 := KW_f hEV.1 (by unfold KW7; rw [show (gm 14 o.toNatClampNeg).toInt = (3 : Int) from (by rw [← ez_1]; exact swy 3 9 (by decide) (h_2) ez_3 c_23)]; decide); exact NEE_0 (by omega))) _ _ _ hP hD hS (lv_sub hl [0, 1] rfl)
  by_cases c_25 : (z_3 : Int32).toInt = 10
  · refine lv_tableIn (tgt := 96) hx hb dX9_hasWhatItNeeds_11 (by rw [c_25]; decide) (by rw [c_25]; decide) (by rw [c_25]; rfl) (by decide) ?_
    have h_26 : iv 10 10 z_3 := iv_at c_25
    refine ec_aload_n hx hb dX9_hasWhatItNeeds_96 rfl (lv_at hl 0 rfl) ?_
    refine cr_get (t := 3) (j := 0) (C := RX9) (T := TX9) (N := 1) (v := eV (ad 1) 0) hx hb htb inX9 hown hK hP hvx (by decide) (by decide) (by decide) rfl (by decide) (htb _ kw_82) (cV_c rfl (by decide) (by rw [show cMu 3 0 = 0 from rfl, Nat.zero_mul]; rfl)) dX9_hasWhatItNeeds_97 ?_
    refine ec_aload_n hx hb dX9_hasWhatItNeeds_100 rfl (lv_at hl 1 rfl) ?_
    refine cw_word (k := 21) (kx := 21) hx hb hG hS (by decide) rfl ⟨by decide, by decide⟩ hown (htb _ kw_541) dX9_hasWhatItNeeds_101 ?_
    refine cm_callV (t := 1) (C := RX6) (T := TX6) (N := 8) (rest := []) (as := [eV (ad 9) o, eV (ad 33) 21]) ⟨hx, hb, hml, hown, htb⟩ (d_has2 l dC dI ad cid a2 lx sg gm lg 0 o 21 (dAt D o.toNatClampNeg) hI (iv_k (by decide) : iv 0 0 0) hvo (iv_w (iv_k (by decide) : iv 21 21 21) (by decide)) hFA how hEV.2.1) (cwV 2 htb (gd_V kw_604 kw_605 kw_606 kw_20 kw_1481) rfl rfl rfl (by decide +kernel) ⟨Nat.le_of_ble_eq_true rfl, Nat.le_of_ble_eq_true rfl⟩) (iv_k (by decide) : iv 0 0 0) (by decide) (by decide) rfl rfl hl.1 rfl (Nat.le_trans cs_n (by decide)) dX9_hasWhatItNeeds_104 ⟨Nat.le_of_ble_eq_true rfl, Nat.le_of_ble_eq_true rfl⟩ hK hP hD hS hA hG (fun E ce q9 u_28 H locs hw hP hD hS hce hcv hcl => ?_) (fun v9 u_28 H locs hw hP hD hS => ?_)
    · exact hw.elim
    obtain ⟨r_27, rfl, rfl, hr_27, fH_r_27⟩ := hw
    have hP : va_P (dC, dI) vwCl (cW ad cid a2 lx sg gm lg) H := hP
    have hD : va_D A (cW ad cid a2 lx sg gm lg) := hD
    refine W.eq (g2 := F0 m 107 ls [.int r_27]) rfl ?_
    have hH_r_27 : r_27.toInt = aH (dAt D o.toNatClampNeg) 1851878757 := by have q9 := fH_r_27; rw [show wKy.getD (21 : Int32).toNatClampNeg 0 = 1851878757 from by decide] at q9; exact q9
    exact W.nb (fun hN => W.widen (k := 1) (n := 6) (by decide) (by decide) (vx_ret (W.zret (v := r_27) hx hb hr (iv_nb hr_27) (fun t ht hW => ⟨⟨some (.int r_27), (sg, gm, lg), rfl, ⟨r_27, rfl, rfl, hr_27, ((by have hkd : dKd D o.toNatClampNeg = 5 := KW_f hEV.1 (by unfold KW7; rw [show (gm 14 o.toNatClampNeg).toInt = (4 : Int) from (by rw [← ez_1]; exact swy 4 10 (by decide) (h_2) ez_3 c_25)]; decide); rw [NEE_5 hkd, ← hH_r_27]; have := aH_01 (q := dAt D o.toNatClampNeg) (k := 1851878757); have := hH_r_27; omega))⟩, by rw [ht]; exact hP, va_K.moved hW.alike hK, hD⟩, hS.F ht, by rw [ht]; exact hN⟩) hS.2.2 dX9_hasWhatItNeeds_107)))
  by_cases c_30 : (z_3 : Int32).toInt = 11
  · refine lv_tableIn (tgt := 120) hx hb dX9_hasWhatItNeeds_11 (by rw [c_30]; decide) (by rw [c_30]; decide) (by rw [c_30]; rfl) (by decide) ?_
    have h_31 : iv 11 11 z_3 := iv_at c_30
    refine ec_aload_n hx hb dX9_hasWhatItNeeds_120 rfl (lv_at hl 0 rfl) ?_
    refine cr_get (t := 3) (j := 0) (C := RX9) (T := TX9) (N := 1) (v := eV (ad 1) 0) hx hb htb inX9 hown hK hP hvx (by decide) (by decide) (by decide) rfl (by decide) (htb _ kw_82) (cV_c rfl (by decide) (by rw [show cMu 3 0 = 0 from rfl, Nat.zero_mul]; rfl)) dX9_hasWhatItNeeds_121 ?_
    refine ec_aload_n hx hb dX9_hasWhatItNeeds_124 rfl (lv_at hl 1 rfl) ?_
    refine cw_word (k := 21) (kx := 21) hx hb hG hS (by decide) rfl ⟨by decide, by decide⟩ hown (htb _ kw_541) dX9_hasWhatItNeeds_125 ?_
    refine cm_callV (t := 1) (C := RX6) (T := TX6) (N := 8) (rest := []) (as := [eV (ad 9) o, eV (ad 33) 21]) ⟨hx, hb, hml, hown, htb⟩ (d_has2 l dC dI ad cid a2 lx sg gm lg 0 o 21 (dAt D o.toNatClampNeg) hI (iv_k (by decide) : iv 0 0 0) hvo (iv_w (iv_k (by decide) : iv 21 21 21) (by decide)) hFA how hEV.2.1) (cwV 2 htb (gd_V kw_604 kw_605 kw_606 kw_20 kw_1481) rfl rfl rfl (by decide +kernel) ⟨Nat.le_of_ble_eq_true rfl, Nat.le_of_ble_eq_true rfl⟩) (iv_k (by decide) : iv 0 0 0) (by decide) (by decide) rfl rfl hl.1 rfl (Nat.le_trans cs_n (by decide)) dX9_hasWhatItNeeds_128 ⟨Nat.le_of_ble_eq_true rfl, Nat.le_of_ble_eq_true rfl⟩ hK hP hD hS hA hG (fun E ce q9 u_33 H locs hw hP hD hS hce hcv hcl => ?_) (fun v9 u_33 H locs hw hP hD hS => ?_)
    · exact hw.elim
    obtain ⟨r_32, rfl, rfl, hr_32, fH_r_32⟩ := hw
    have hP : va_P (dC, dI) vwCl (cW ad cid a2 lx sg gm lg) H := hP
    have hD : va_D A (cW ad cid a2 lx sg gm lg) := hD
    refine W.eq (g2 := F0 m 131 ls [.int r_32]) rfl ?_
    have hH_r_32 : r_32.toInt = aH (dAt D o.toNatClampNeg) 1851878757 := by have q9 := fH_r_32; rw [show wKy.getD (21 : Int32).toNatClampNeg 0 = 1851878757 from by decide] at q9; exact q9
    refine lv_if_eq (tgt := 152) hx hb dX9_hasWhatItNeeds_131 (by decide) (fun c_35 => ?_) (fun c_35 => ?_)
    · have h_36 : iv 0 0 r_32 := iv_eq c_35 hr_32 (iv_k (by decide) : iv 0 0 0) (by decide)
      exact hj152 hvx hvo ((fun q9 => by have hkd : dKd D o.toNatClampNeg = 10 := KW_f hEV.1 (by unfold KW7; rw [show (gm 14 o.toNatClampNeg).toInt = (5 : Int) from (by rw [← ez_1]; exact swy 5 11 (by decide) (h_2) ez_3 c_30)]; decide); have q8 := (NEE_10 hkd).mp q9; have := hH_r_32; have := i32_0; have := i32_1; have := i32_2; have := i32_m1; have := (hvx).1; have := (hvx).2; have := (hvo).1; have := (hvo).2; have := (h_2).1; have := (h_2).2; have := (h_31).1; have := (h_31).2; have := (h_36).1; have := (h_36).2; omega)) _ _ _ hP hD hS (lv_sub hl [0, 1] rfl)
    · have h_37 : iv 1 1 r_32 := iv_neL c_35 hr_32 (by decide)
      refine ec_aload_n hx hb dX9_hasWhatItNeeds_134 rfl (lv_at hl 0 rfl) ?_
      refine cr_get (t := 3) (j := 0) (C := RX9) (T := TX9) (N := 1) (v := eV (ad 1) 0) hx hb htb inX9 hown hK hP hvx (by decide) (by decide) (by decide) rfl (by decide) (htb _ kw_82) (cV_c rfl (by decide) (by rw [show cMu 3 0 = 0 from rfl, Nat.zero_mul]; rfl)) dX9_hasWhatItNeeds_135 ?_
      refine ec_aload_n hx hb dX9_hasWhatItNeeds_138 rfl (lv_at hl 1 rfl) ?_
      refine cw_word (k := 2) (kx := 2) hx hb hG hS (by decide) rfl ⟨by decide, by decide⟩ hown (htb _ kw_517) dX9_hasWhatItNeeds_139 ?_
      refine cm_callV (t := 1) (C := RX6) (T := TX6) (N := 8) (rest := []) (as := [eV (ad 9) o, eV (ad 33) 2]) ⟨hx, hb, hml, hown, htb⟩ (d_has2 l dC dI ad cid a2 lx sg gm lg 0 o 2 (dAt D o.toNatClampNeg) hI (iv_k (by decide) : iv 0 0 0) hvo (iv_w (iv_k (by decide) : iv 2 2 2) (by decide)) hFA how hEV.2.1) (cwV 2 htb (gd_V kw_604 kw_605 kw_606 kw_20 kw_1481) rfl rfl rfl (by decide +kernel) ⟨Nat.le_of_ble_eq_true rfl, Nat.le_of_ble_eq_true rfl⟩) (iv_k (by decide) : iv 0 0 0) (by decide) (by decide) rfl rfl hl.1 rfl (Nat.le_trans cs_n (by decide)) dX9_hasWhatItNeeds_142 ⟨Nat.le_of_ble_eq_true rfl, Nat.le_of_ble_eq_true rfl⟩ hK hP hD hS hA hG (fun E ce q9 u_39 H locs hw hP hD hS hce hcv hcl => ?_) (fun v9 u_39 H locs hw hP hD hS => ?_)
      · exact hw.elim
      obtain ⟨r_38, rfl, rfl, hr_38, fH_r_38⟩ := hw
      have hP : va_P (dC, dI) vwCl (cW ad cid a2 lx sg gm lg) H := hP
      have hD : va_D A (cW ad cid a2 lx sg gm lg) := hD
      refine W.eq (g2 := F0 m 145 ls [.int r_38]) rfl ?_
      have hH_r_38 : r_38.toInt = aH (dAt D o.toNatClampNeg) 1650811246 := by have q9 := fH_r_38; rw [show wKy.getD (2 : Int32).toNatClampNeg 0 = 1650811246 from by decide] at q9; exact q9
      refine lv_if_eq (tgt := 152) hx hb dX9_hasWhatItNeeds_145 (by decide) (fun c_41 => ?_) (fun c_41 => ?_)
      · have h_42 : iv 0 0 r_38 := iv_eq c_41 hr_38 (iv_k (by decide) : iv 0 0 0) (by decide)
        exact hj152 hvx hvo ((fun q9 => by have hkd : dKd D o.toNatClampNeg = 10 := KW_f hEV.1 (by unfold KW7; rw [show (gm 14 o.toNatClampNeg).toInt = (5 : Int) from (by rw [← ez_1]; exact swy 5 11 (by decide) (h_2) ez_3 c_30)]; decide); have q8 := (NEE_10 hkd).mp q9; have := hH_r_32; have := hH_r_38; have := i32_0; have := i32_1; have := i32_2; have := i32_m1; have := (hvx).1; have := (hvx).2; have := (hvo).1; have := (hvo).2; have := (h_2).1; have := (h_2).2; have := (h_31).1; have := (h_31).2; have := (h_37).1; have := (h_37).2; have := (h_42).1; have := (h_42).2; omega)) _ _ _ hP hD hS (lv_sub hl [0, 1] rfl)
      · have h_43 : iv 1 1 r_38 := iv_neL c_41 hr_38 (by decide)
        refine lv_iconst (v := 1) hx hb dX9_hasWhatItNeeds_148 (by decide) ?_
        refine lv_goto (tgt := 153) hx hb dX9_hasWhatItNeeds_149 (by decide) ?_
        exact hj153 1 hvx hvo (iv_w (iv_k (by decide) : iv 1 1 1) (by decide)) (Or.inl ⟨rfl, (by have hkd : dKd D o.toNatClampNeg = 10 := KW_f hEV.1 (by unfold KW7; rw [show (gm 14 o.toNatClampNeg).toInt = (5 : Int) from (by rw [← ez_1]; exact swy 5 11 (by decide) (h_2) ez_3 c_30)]; decide); exact (NEE_10 hkd).mpr ⟨(by rw [← hH_r_32]; have := i32_0; have := i32_1; have := i32_2; have := i32_m1; have := (hvx).1; have := (hvx).2; have := (hvo).1; have := (hvo).2; have := (h_2).1; have := (h_2).2; have := (h_31).1; have := (h_31).2; have := (h_37).1; have := (h_37).2; have := (h_43).1; have := (h_43).2; omega), (by rw [← hH_r_38]; have := i32_0; have := i32_1; have := i32_2; have := i32_m1; have := (hvx).1; have := (hvx).2; have := (hvo).1; have := (hvo).2; have := (h_2).1; have := (h_2).2; have := (h_31).1; have := (h_31).2; have := (h_37).1; have := (h_37).2; have := (h_43).1; have := (h_43).2; omega)⟩)⟩) _ _ _ hP hD hS (lv_sub hl [0, 1] rfl)
  by_cases c_44 : (z_3 : Int32).toInt = 12
  · refine lv_tableIn (tgt := 154) hx hb dX9_hasWhatItNeeds_11 (by rw [c_44]; decide) (by rw [c_44]; decide) (by rw [c_44]; rfl) (by decide) ?_
    have h_45 : iv 12 12 z_3 := iv_at c_44
    exact hj154 hvx hvo ((by have hkd : dKd D o.toNatClampNeg = 6 := KW_f hEV.1 (by unfold KW7; rw [show (gm 14 o.toNatClampNeg).toInt = (6 : Int) from (by rw [← ez_1]; exact swy 6 12 (by decide) (h_2) ez_3 c_44)]; decide); exact NEE_0 (by omega))) _ _ _ hP hD hS (lv_sub hl [0, 1] rfl)
  by_cases c_46 : (z_3 : Int32).toInt = 13
  · refine lv_tableIn (tgt := 154) hx hb dX9_hasWhatItNeeds_11 (by rw [c_46]; decide) (by rw [c_46]; decide) (by rw [c_46]; rfl) (by decide) ?_
    have h_47 : iv 13 13 z_3 := iv_at c_46
    exact hj154 hvx hvo ((by have hkd : dKd D o.toNatClampNeg = 7 := KW_f hEV.1 (by unfold KW7; rw [show (gm 14 o.toNatClampNeg).toInt = (7 : Int) from (by rw [← ez_1]; exact swy 7 13 (by decide) (h_2) ez_3 c_46)]; decide); exact NEE_0 (by omega))) _ _ _ hP hD hS (lv_sub hl [0, 1] rfl)
  by_cases c_48 : (z_3 : Int32).toInt = 14
  · refine lv_tableIn (tgt := 108) hx hb dX9_hasWhatItNeeds_11 (by rw [c_48]; decide) (by rw [c_48]; decide) (by rw [c_48]; rfl) (by decide) ?_
    have h_49 : iv 14 14 z_3 := iv_at c_48
    refine ec_aload_n hx hb dX9_hasWhatItNeeds_108 rfl (lv_at hl 0 rfl) ?_
    refine cr_get (t := 3) (j := 0) (C := RX9) (T := TX9) (N := 1) (v := eV (ad 1) 0) hx hb htb inX9 hown hK hP hvx (by decide) (by decide) (by decide) rfl (by decide) (htb _ kw_82) (cV_c rfl (by decide) (by rw [show cMu 3 0 = 0 from rfl, Nat.zero_mul]; rfl)) dX9_hasWhatItNeeds_109 ?_
    refine ec_aload_n hx hb dX9_hasWhatItNeeds_112 rfl (lv_at hl 1 rfl) ?_
    refine cw_word (k := 2) (kx := 2) hx hb hG hS (by decide) rfl ⟨by decide, by decide⟩ hown (htb _ kw_517) dX9_hasWhatItNeeds_113 ?_
    refine cm_callV (t := 1) (C := RX6) (T := TX6) (N := 8) (rest := []) (as := [eV (ad 9) o, eV (ad 33) 2]) ⟨hx, hb, hml, hown, htb⟩ (d_has2 l dC dI ad cid a2 lx sg gm lg 0 o 2 (dAt D o.toNatClampNeg) hI (iv_k (by decide) : iv 0 0 0) hvo (iv_w (iv_k (by decide) : iv 2 2 2) (by decide)) hFA how hEV.2.1) (cwV 2 htb (gd_V kw_604 kw_605 kw_606 kw_20 kw_1481) rfl rfl rfl (by decide +kernel) ⟨Nat.le_of_ble_eq_true rfl, Nat.le_of_ble_eq_true rfl⟩) (iv_k (by decide) : iv 0 0 0) (by decide) (by decide) rfl rfl hl.1 rfl (Nat.le_trans cs_n (by decide)) dX9_hasWhatItNeeds_116 ⟨Nat.le_of_ble_eq_true rfl, Nat.le_of_ble_eq_true rfl⟩ hK hP hD hS hA hG (fun E ce q9 u_51 H locs hw hP hD hS hce hcv hcl => ?_) (fun v9 u_51 H locs hw hP hD hS => ?_)
    · exact hw.elim
    obtain ⟨r_50, rfl, rfl, hr_50, fH_r_50⟩ := hw
    have hP : va_P (dC, dI) vwCl (cW ad cid a2 lx sg gm lg) H := hP
    have hD : va_D A (cW ad cid a2 lx sg gm lg) := hD
    refine W.eq (g2 := F0 m 119 ls [.int r_50]) rfl ?_
    have hH_r_50 : r_50.toInt = aH (dAt D o.toNatClampNeg) 1650811246 := by have q9 := fH_r_50; rw [show wKy.getD (2 : Int32).toNatClampNeg 0 = 1650811246 from by decide] at q9; exact q9
    exact W.nb (fun hN => W.widen (k := 1) (n := 6) (by decide) (by decide) (vx_ret (W.zret (v := r_50) hx hb hr (iv_nb hr_50) (fun t ht hW => ⟨⟨some (.int r_50), (sg, gm, lg), rfl, ⟨r_50, rfl, rfl, hr_50, ((by have hkd : dKd D o.toNatClampNeg = 8 := KW_f hEV.1 (by unfold KW7; rw [show (gm 14 o.toNatClampNeg).toInt = (8 : Int) from (by rw [← ez_1]; exact swy 8 14 (by decide) (h_2) ez_3 c_48)]; decide); rw [NEE_8 hkd, ← hH_r_50]; have := aH_01 (q := dAt D o.toNatClampNeg) (k := 1650811246); have := hH_r_50; omega))⟩, by rw [ht]; exact hP, va_K.moved hW.alike hK, hD⟩, hS.F ht, by rw [ht]; exact hN⟩) hS.2.2 dX9_hasWhatItNeeds_119)))
  refine lv_tableOut (tgt := 154) hx hb dX9_hasWhatItNeeds_11 (by have q1 := (hz_3).1; have q2 := (hz_3).2; omega) (by decide) ?_
  exact hj154 hvx hvo ((by have n2 : ¬ dKd D o.toNatClampNeg = 2 := fun q8 => absurd (KW_j (q8 ▸ hEV.1 : KW7 (gm 14 o.toNatClampNeg).toInt 2) (by decide)) (by rw [show wkF 2 = 1 by decide]; have n9 := swx (y := z_1) 1 7 (by decide) (h_2) ez_3 (by omega); rw [ez_1] at n9; exact n9); have n3 : ¬ dKd D o.toNatClampNeg = 3 := fun q8 => absurd (KW_j (q8 ▸ hEV.1 : KW7 (gm 14 o.toNatClampNeg).toInt 3) (by decide)) (by rw [show wkF 3 = 2 by decide]; have n9 := swx (y := z_1) 2 8 (by decide) (h_2) ez_3 (by omega); rw [ez_1] at n9; exact n9); have n5 : ¬ dKd D o.toNatClampNeg = 5 := fun q8 => absurd (KW_j (q8 ▸ hEV.1 : KW7 (gm 14 o.toNatClampNeg).toInt 5) (by decide)) (by rw [show wkF 5 = 4 by decide]; have n9 := swx (y := z_1) 4 10 (by decide) (h_2) ez_3 (by omega); rw [ez_1] at n9; exact n9); have n10 : ¬ dKd D o.toNatClampNeg = 10 := fun q8 => absurd (KW_j (q8 ▸ hEV.1 : KW7 (gm 14 o.toNatClampNeg).toInt 10) (by decide)) (by rw [show wkF 10 = 5 by decide]; have n9 := swx (y := z_1) 5 11 (by decide) (h_2) ez_3 (by omega); rw [ez_1] at n9; exact n9); have n8 : ¬ dKd D o.toNatClampNeg = 8 := fun q8 => absurd (KW_j (q8 ▸ hEV.1 : KW7 (gm 14 o.toNatClampNeg).toInt 8) (by decide)) (by rw [show wkF 8 = 8 by decide]; have n9 := swx (y := z_1) 8 14 (by decide) (h_2) ez_3 (by omega); rw [ez_1] at n9; exact n9); exact NEE_0 (by omega))) _ _ _ hP hD hS (lv_sub hl [0, 1] rfl)

set_option maxHeartbeats 4000000 in
set_option maxRecDepth 100000 in
theorem d_hasRightCount2 (l : Launch) (dC : Nat → ClassId) (dI : Nat → Nat → Nat) (ad : Nat → Nat → Nat) (cid : Nat → ClassId) (a2 : Nat → Nat) (lx : List Nat) (sg : Nat → Int32) (gm : Nat → Nat → Int32) (lg : Nat → Nat → Int64) (x : Int32) (o : Int32) (D : List El7) (hI : CI sg gm) (hvx : iv 0 0 x) (hvo : iv 0 79 o) (hFA : FA sg gm) (how : o.toInt < (sg 4).toInt) (hVS : VS sg gm) (hw0 : 0 ≤ (gm 14 o.toNatClampNeg).toInt) (hEV : EV7 D sg gm lg o.toNatClampNeg) (hk0 : ¬ dKd D o.toNatClampNeg = 0) : CMt dC dI ad cid a2 lx l yX9_hasRightCount wm_X9_hasRightCount ({ frames := 2, cells := 1, slots := 6, locals := 46 }) [eV (ad 3) x, eV (ad 9) o] sg gm lg (fun v u => ∃ r : Int32, v = some (.int r) ∧ u = (sg, gm, lg) ∧ (iv 0 1 r) ∧ ((r.toInt = 1 ∧ (CNT D o.toNatClampNeg)) ∨ (r.toInt = 0 ∧ ¬ (CNT D o.toNatClampNeg)))) (fun _ _ => False) := by
  intro sz
  refine vx_ofW (cc := cX9_hasRightCount) (maxL := 2) (ret := (some .boolean)) (by decide) rfl ?_
  intro p e s m args below meth c s₁ B hml hxt hv
  obtain ⟨rfl, hsz, hP, hK, hD0, hG⟩ := hv
  have hx := B.exec
  have hb := B.bytes
  have hr := B.returns
  have hts := atoms_spec (ws := wm_X9_hasRightCount) B.pre
  have htb := fun (w : Cond) (h : w ∈ tb) => hts w (List.mem_cons_of_mem _ h)
  have hown : s.vm.findClass RX9 = some m.cls := findClass_of_methodNamed B.named
  have hlocks := B.notSynchronized
  subst hsz
  have hD := hD0.self (sz := s.heap.size)
  generalize hAe : va_A (cW ad cid a2 lx sg gm lg) s.heap.size = A at hD hG ⊢
  have hA : ∀ q : Nat, s.heap.size ≤ q → A q := fun q h => by rw [← hAe]; exact Or.inr h
  have hS : va_S A s.heap s.heap [] := va_S.rf
  have hl := lv_entry ([eV (ad 3) x, eV (ad 9) o]) (n := 2) (by rw [show (lg_sl ([eV (ad 3) x, eV (ad 9) o])).length = 2 from by simp [lg_sl, eV_cat, cat_i, cat_l]]; exact Nat.le_of_ble_eq_true rfl)
  rw [lg_entry_eq]
  generalize (lg_sl ([eV (ad 3) x, eV (ad 9) o]) ++ List.replicate (2 - (lg_sl ([eV (ad 3) x, eV (ad 9) o])).length) Slot.unset).toArray = ls at hl ⊢
  have hl : lv_has ls 2 [(0, eV (ad 3) x), (1, eV (ad 9) o)] := by simp [lv_args, eV_cat, cat_i, cat_l] at hl; exact hl
  have hj52 : ∀ (_ : iv 0 0 x) (_ : iv 0 79 o) (_ : dKd D o.toNatClampNeg = 1 ∨ dKd D o.toNatClampNeg = 3) (H : Heap) (locs : List Loc) (ls : Array Slot), va_P (dC, dI) vwCl (cW ad cid a2 lx sg gm lg) H → va_D A (cW ad cid a2 lx sg gm lg) → va_S A s.heap H locs → lv_has ls 2 [(0, eV (ad 3) x), (1, eV (ad 9) o)] → W p l e (headSpec wm_X9_hasRightCount ({ frames := 2, cells := 1, slots := 6, locals := 46 })).room s m ([eV (ad 3) x, eV (ad 9) o] : List Value).toArray below meth c H locs 0 0 (vx_MQ below (cQx dC dI ad cid a2 lx (fun v u => ∃ r : Int32, v = some (.int r) ∧ u = (sg, gm, lg) ∧ (iv 0 1 r) ∧ ((r.toInt = 1 ∧ (CNT D o.toNatClampNeg)) ∨ (r.toInt = 0 ∧ ¬ (CNT D o.toNatClampNeg)))) A) (cX dC dI ad cid a2 lx (fun _ _ => False) A) ([eV (ad 3) x, eV (ad 9) o] : List Value).toArray s 1 6 A) (F0 m 52 ls []) := by
    intro  hsx0_52 hsx1_52 uK H locs ls hP hD hS hl
    refine lv_iconst (v := 1) hx hb dX9_hasRightCount_52 (by decide) ?_
    exact W.nb (fun hN => W.widen (k := 1) (n := 6) (by decide) (by decide) (vx_ret (W.zret (v := 1) hx hb hr (iv_nb (iv_w (iv_k (by decide) : iv 1 1 1) (by decide))) (fun t ht hW => ⟨⟨some (.int 1), (sg, gm, lg), rfl, ⟨1, rfl, rfl, (iv_w (iv_k (by decide) : iv 1 1 1) (by decide)), (Or.inl ⟨rfl, (by unfold CNT; omega)⟩)⟩, by rw [ht]; exact hP, va_K.moved hW.alike hK, hD⟩, hS.F ht, by rw [ht]; exact hN⟩) hS.2.2 dX9_hasRightCount_53)))
  have hj135 : ∀ (y0_135 : Int32) (_ : iv 0 0 x) (_ : iv 0 79 o) (_ : iv 0 1 y0_135) (_ : (y0_135.toInt = 1 ∧ (CNT D o.toNatClampNeg)) ∨ (y0_135.toInt = 0 ∧ ¬ (CNT D o.toNatClampNeg))) (H : Heap) (locs : List Loc) (ls : Array Slot), va_P (dC, dI) vwCl (cW ad cid a2 lx sg gm lg) H → va_D A (cW ad cid a2 lx sg gm lg) → va_S A s.heap H locs → lv_has ls 2 [(0, eV (ad 3) x), (1, eV (ad 9) o)] → W p l e (headSpec wm_X9_hasRightCount ({ frames := 2, cells := 1, slots := 6, locals := 46 })).room s m ([eV (ad 3) x, eV (ad 9) o] : List Value).toArray below meth c H locs 0 0 (vx_MQ below (cQx dC dI ad cid a2 lx (fun v u => ∃ r : Int32, v = some (.int r) ∧ u = (sg, gm, lg) ∧ (iv 0 1 r) ∧ ((r.toInt = 1 ∧ (CNT D o.toNatClampNeg)) ∨ (r.toInt = 0 ∧ ¬ (CNT D o.toNatClampNeg)))) A) (cX dC dI ad cid a2 lx (fun _ _ => False) A) ([eV (ad 3) x, eV (ad 9) o] : List Value).toArray s 1 6 A) (F0 m 135 ls [.int y0_135]) := by
    intro y0_135 hsx0_135 hsx1_135 hy0_135 u135 H locs ls hP hD hS hl
    exact W.nb (fun hN => W.widen (k := 1) (n := 6) (by decide) (by decide) (vx_ret (W.zret (v := y0_135) hx hb hr (iv_nb hy0_135) (fun t ht hW => ⟨⟨some (.int y0_135), (sg, gm, lg), rfl, ⟨y0_135, rfl, rfl, hy0_135, (u135)⟩, by rw [ht]; exact hP, va_K.moved hW.alike hK, hD⟩, hS.F ht, by rw [ht]; exact hN⟩) hS.2.2 dX9_hasRightCount_135)))
  have hj123 : ∀ (_ : iv 0 0 x) (_ : iv 0 79 o) (_ : dKd D o.toNatClampNeg = 2 ∨ dKd D o.toNatClampNeg = 7 ∨ dKd D o.toNatClampNeg = 8 ∨ dKd D o.toNatClampNeg = 9 ∨ dKd D o.toNatClampNeg = 10) (H : Heap) (locs : List Loc) (ls : Array Slot), va_P (dC, dI) vwCl (cW ad cid a2 lx sg gm lg) H → va_D A (cW ad cid a2 lx sg gm lg) → va_S A s.heap H locs → lv_has ls 2 [(0, eV (ad 3) x), (1, eV (ad 9) o)] → W p l e (headSpec wm_X9_hasRightCount ({ frames := 2, cells := 1, slots := 6, locals := 46 })).room s m ([eV (ad 3) x, eV (ad 9) o] : List Value).toArray below meth c H locs 0 0 (vx_MQ below (cQx dC dI ad cid a2 lx (fun v u => ∃ r : Int32, v = some (.int r) ∧ u = (sg, gm, lg) ∧ (iv 0 1 r) ∧ ((r.toInt = 1 ∧ (CNT D o.toNatClampNeg)) ∨ (r.toInt = 0 ∧ ¬ (CNT D o.toNatClampNeg)))) A) (cX dC dI ad cid a2 lx (fun _ _ => False) A) ([eV (ad 3) x, eV (ad 9) o] : List Value).toArray s 1 6 A) (F0 m 123 ls []) := by
    intro  hsx0_123 hsx1_123 uK H locs ls hP hD hS hl
    refine ec_aload_n hx hb dX9_hasRightCount_123 rfl (lv_at hl 1 rfl) ?_
    refine cr_get (t := 9) (j := 8) (C := RX3) (T := TX3) (N := 21) (v := .int (gm 18 o.toNatClampNeg)) hx hb htb inX3 hown hK hP hsx1_123 (by decide) (by decide) (by decide) rfl (by decide) (htb _ kw_620) rfl dX9_hasRightCount_124 ?_
    obtain ⟨z_1, ez_1⟩ : ∃ z : Int32, z = (gm 18 o.toNatClampNeg) := ⟨_, rfl⟩
    refine W.eq (g2 := F0 m 127 ls [.int z_1]) (by rw [ez_1]) ?_
    have hz_1 : iv 0 2000000 z_1 := iv_of ez_1 (CI_a hI 18 hsx1_123 (by decide))
    refine lv_if_ne (tgt := 134) hx hb dX9_hasRightCount_127 (by decide) (fun c_2 => ?_) (fun c_2 => ?_)
    · have h_3 : iv 1 2000000 z_1 := iv_neL c_2 hz_1 (by decide)
      refine lv_iconst (v := 0) hx hb dX9_hasRightCount_134 (by decide) ?_
      exact hj135 0 hsx0_123 hsx1_123 (iv_w (iv_k (by decide) : iv 0 0 0) (by decide)) (Or.inr ⟨rfl, (fun q9 => by have := congrArg Int32.toInt ez_1; have := hEV.2.2.2.2.2; have := uK; have := i32_0; have := i32_1; have := i32_2; have := i32_m1; have := (hsx0_123).1; have := (hsx0_123).2; have := (hsx1_123).1; have := (hsx1_123).2; have := (h_3).1; have := (h_3).2; unfold CNT at q9; omega)⟩) _ _ _ hP hD hS (lv_sub hl [0, 1] rfl)
    · have h_4 : iv 0 0 z_1 := iv_eq c_2 hz_1 (iv_k (by decide) : iv 0 0 0) (by decide)
      refine lv_iconst (v := 1) hx hb dX9_hasRightCount_130 (by decide) ?_
      refine lv_goto (tgt := 135) hx hb dX9_hasRightCount_131 (by decide) ?_
      exact hj135 1 hsx0_123 hsx1_123 (iv_w (iv_k (by decide) : iv 1 1 1) (by decide)) (Or.inl ⟨rfl, (by have := congrArg Int32.toInt ez_1; have := hEV.2.2.2.2.2; have := uK; have := i32_0; have := i32_1; have := i32_2; have := i32_m1; have := (hsx0_123).1; have := (hsx0_123).2; have := (hsx1_123).1; have := (hsx1_123).2; have := (h_4).1; have := (h_4).2; unfold CNT; omega)⟩) _ _ _ hP hD hS (lv_sub hl [0, 1] rfl)
  have hj107 : ∀ (y0_107 : Int32) (_ : iv 0 0 x) (_ : iv 0 79 o) (_ : iv 0 1 y0_107) (_ : (y0_107.toInt = 1 ∧ (CNT D o.toNatClampNeg)) ∨ (y0_107.toInt = 0 ∧ ¬ (CNT D o.toNatClampNeg))) (H : Heap) (locs : List Loc) (ls : Array Slot), va_P (dC, dI) vwCl (cW ad cid a2 lx sg gm lg) H → va_D A (cW ad cid a2 lx sg gm lg) → va_S A s.heap H locs → lv_has ls 2 [(0, eV (ad 3) x), (1, eV (ad 9) o)] → W p l e (headSpec wm_X9_hasRightCount ({ frames := 2, cells := 1, slots := 6, locals := 46 })).room s m ([eV (ad 3) x, eV (ad 9) o] : List Value).toArray below meth c H locs 0 0 (vx_MQ below (cQx dC dI ad cid a2 lx (fun v u => ∃ r : Int32, v = some (.int r) ∧ u = (sg, gm, lg) ∧ (iv 0 1 r) ∧ ((r.toInt = 1 ∧ (CNT D o.toNatClampNeg)) ∨ (r.toInt = 0 ∧ ¬ (CNT D o.toNatClampNeg)))) A) (cX dC dI ad cid a2 lx (fun _ _ => False) A) ([eV (ad 3) x, eV (ad 9) o] : List Value).toArray s 1 6 A) (F0 m 107 ls [.int y0_107]) := by
    intro y0_107 hsx0_107 hsx1_107 hy0_107 u107 H locs ls hP hD hS hl
    exact W.nb (fun hN => W.widen (k := 1) (n := 6) (by decide) (by decide) (vx_ret (W.zret (v := y0_107) hx hb hr (iv_nb hy0_107) (fun t ht hW => ⟨⟨some (.int y0_107), (sg, gm, lg), rfl, ⟨y0_107, rfl, rfl, hy0_107, (u107)⟩, by rw [ht]; exact hP, va_K.moved hW.alike hK, hD⟩, hS.F ht, by rw [ht]; exact hN⟩) hS.2.2 dX9_hasRightCount_107)))
  have hj92 : ∀ (y0_92 : Int32) (y1_92 : Int32) (_ : iv 0 0 x) (_ : iv 0 79 o) (_ : iv 0 1 y0_92) (_ : iv 0 1 y1_92) (_ : dKd D o.toNatClampNeg = 4 ∨ dKd D o.toNatClampNeg = 5) (_ : y1_92.toInt = aH (dAt D o.toNatClampNeg) 508440638821) (_ : y0_92.toInt = aH (dAt D o.toNatClampNeg) 7497062) (H : Heap) (locs : List Loc) (ls : Array Slot), va_P (dC, dI) vwCl (cW ad cid a2 lx sg gm lg) H → va_D A (cW ad cid a2 lx sg gm lg) → va_S A s.heap H locs → lv_has ls 2 [(0, eV (ad 3) x), (1, eV (ad 9) o)] → W p l e (headSpec wm_X9_hasRightCount ({ frames := 2, cells := 1, slots := 6, locals := 46 })).room s m ([eV (ad 3) x, eV (ad 9) o] : List Value).toArray below meth c H locs 0 0 (vx_MQ below (cQx dC dI ad cid a2 lx (fun v u => ∃ r : Int32, v = some (.int r) ∧ u = (sg, gm, lg) ∧ (iv 0 1 r) ∧ ((r.toInt = 1 ∧ (CNT D o.toNatClampNeg)) ∨ (r.toInt = 0 ∧ ¬ (CNT D o.toNatClampNeg)))) A) (cX dC dI ad cid a2 lx (fun _ _ => False) A) ([eV (ad 3) x, eV (ad 9) o] : List Value).toArray s 1 6 A) (F0 m 92 ls [.int y0_92, .int y1_92]) := by
    intro y0_92 y1_92 hsx0_92 hsx1_92 hy0_92 hy1_92 uK u73 u92 H locs ls hP hD hS hl
    refine lv_iadd hx hb dX9_hasRightCount_92 ?_
    refine lv_topi (fun z_5 ez_5 => ?_)
    have hz_5 : iv 0 2 z_5 := iv_of ez_5 (iv_add hy1_92 hy0_92 (by decide))
    have tz_5 : z_5.toInt = (y1_92 : Int32).toInt + (y0_92 : Int32).toInt := by rw [ez_5]; exact iv_addE hy1_92 hy0_92 (by decide)
    refine ec_aload_n hx hb dX9_hasRightCount_93 rfl (lv_at hl 1 rfl) ?_
    refine cr_get (t := 9) (j := 8) (C := RX3) (T := TX3) (N := 21) (v := .int (gm 18 o.toNatClampNeg)) hx hb htb inX3 hown hK hP hsx1_92 (by decide) (by decide) (by decide) rfl (by decide) (htb _ kw_620) rfl dX9_hasRightCount_94 ?_
    obtain ⟨z_6, ez_6⟩ : ∃ z : Int32, z = (gm 18 o.toNatClampNeg) := ⟨_, rfl⟩
    refine W.eq (g2 := F0 m 97 ls [.int z_6, .int z_5]) (by rw [ez_6]) ?_
    have hz_6 : iv 0 2000000 z_6 := iv_of ez_6 (CI_a hI 18 hsx1_92 (by decide))
    refine lv_iadd hx hb dX9_hasRightCount_97 ?_
    refine lv_topi (fun z_7 ez_7 => ?_)
    have hz_7 : iv 0 2000002 z_7 := iv_of ez_7 (iv_add hz_5 hz_6 (by decide))
    have tz_7 : z_7.toInt = (z_5 : Int32).toInt + (z_6 : Int32).toInt := by rw [ez_7]; exact iv_addE hz_5 hz_6 (by decide)
    refine lv_iconst (v := 1) hx hb dX9_hasRightCount_98 (by decide) ?_
    refine lv_icmp_ne (tgt := 106) hx hb dX9_hasRightCount_99 (by decide) (fun c_8 => ?_) (fun c_8 => ?_)
    · have d_9 : ¬ (z_7 : Int32).toInt = 1 := lv_neT c_8 rfl
      refine lv_iconst (v := 0) hx hb dX9_hasRightCount_106 (by decide) ?_
      exact hj107 0 hsx0_92 hsx1_92 (iv_w (iv_k (by decide) : iv 0 0 0) (by decide)) (Or.inr ⟨rfl, (fun q9 => by have := congrArg Int32.toInt ez_6; have := hEV.2.2.2.2.2; have := u73; have := u92; have := tz_7; have := tz_5; have := tz_7; have := uK; have := i32_0; have := i32_1; have := i32_2; have := i32_m1; have := (hsx0_92).1; have := (hsx0_92).2; have := (hsx1_92).1; have := (hsx1_92).2; have := (hy0_92).1; have := (hy0_92).2; have := (hy1_92).1; have := (hy1_92).2; have := (hz_5).1; have := (hz_5).2; have := (hz_6).1; have := (hz_6).2; have := (hz_7).1; have := (hz_7).2; unfold CNT at q9; omega)⟩) _ _ _ hP hD hS (lv_sub hl [0, 1] rfl)
    · have h_10 : iv 1 1 z_7 := iv_eq c_8 hz_7 (iv_k (by decide) : iv 1 1 1) (by decide)
      refine lv_iconst (v := 1) hx hb dX9_hasRightCount_102 (by decide) ?_
      refine lv_goto (tgt := 107) hx hb dX9_hasRightCount_103 (by decide) ?_
      exact hj107 1 hsx0_92 hsx1_92 (iv_w (iv_k (by decide) : iv 1 1 1) (by decide)) (Or.inl ⟨rfl, (by have := congrArg Int32.toInt ez_6; have := hEV.2.2.2.2.2; have := u73; have := u92; have := tz_7; have := tz_5; have := tz_7; have := uK; have := i32_0; have := i32_1; have := i32_2; have := i32_m1; have := (hsx0_92).1; have := (hsx0_92).2; have := (hsx1_92).1; have := (hsx1_92).2; have := (hy0_92).1; have := (hy0_92).2; have := (hy1_92).1; have := (hy1_92).2; have := (hz_5).1; have := (hz_5).2; have := (hz_6).1; have := (hz_6).2; have := (h_10).1; have := (h_10).2; unfold CNT; omega)⟩) _ _ _ hP hD hS (lv_sub hl [0, 1] rfl)
  have hj73 : ∀ (y0_73 : Int32) (_ : iv 0 0 x) (_ : iv 0 79 o) (_ : iv 0 1 y0_73) (_ : dKd D o.toNatClampNeg = 4 ∨ dKd D o.toNatClampNeg = 5) (_ : y0_73.toInt = aH (dAt D o.toNatClampNeg) 508440638821) (H : Heap) (locs : List Loc) (ls : Array Slot), va_P (dC, dI) vwCl (cW ad cid a2 lx sg gm lg) H → va_D A (cW ad cid a2 lx sg gm lg) → va_S A s.heap H locs → lv_has ls 2 [(0, eV (ad 3) x), (1, eV (ad 9) o)] → W p l e (headSpec wm_X9_hasRightCount ({ frames := 2, cells := 1, slots := 6, locals := 46 })).room s m ([eV (ad 3) x, eV (ad 9) o] : List Value).toArray below meth c H locs 0 0 (vx_MQ below (cQx dC dI ad cid a2 lx (fun v u => ∃ r : Int32, v = some (.int r) ∧ u = (sg, gm, lg) ∧ (iv 0 1 r) ∧ ((r.toInt = 1 ∧ (CNT D o.toNatClampNeg)) ∨ (r.toInt = 0 ∧ ¬ (CNT D o.toNatClampNeg)))) A) (cX dC dI ad cid a2 lx (fun _ _ => False) A) ([eV (ad 3) x, eV (ad 9) o] : List Value).toArray s 1 6 A) (F0 m 73 ls [.int y0_73]) := by
    intro y0_73 hsx0_73 hsx1_73 hy0_73 uK u73 H locs ls hP hD hS hl
    refine ec_aload_n hx hb dX9_hasRightCount_73 rfl (lv_at hl 0 rfl) ?_
    refine cr_get (t := 3) (j := 0) (C := RX9) (T := TX9) (N := 1) (v := eV (ad 1) 0) hx hb htb inX9 hown hK hP hsx0_73 (by decide) (by decide) (by decide) rfl (by decide) (htb _ kw_82) (cV_c rfl (by decide) (by rw [show cMu 3 0 = 0 from rfl, Nat.zero_mul]; rfl)) dX9_hasRightCount_74 ?_
    refine ec_aload_n hx hb dX9_hasRightCount_77 rfl (lv_at hl 1 rfl) ?_
    refine cw_word (k := 8) (kx := 8) hx hb hG hS (by decide) rfl ⟨by decide, by decide⟩ hown (htb _ kw_570) dX9_hasRightCount_78 ?_
    refine cm_callV (t := 1) (C := RX6) (T := TX6) (N := 8) (rest := [.int y0_73]) (as := [eV (ad 9) o, eV (ad 33) 8]) ⟨hx, hb, hml, hown, htb⟩ (d_has2 l dC dI ad cid a2 lx sg gm lg 0 o 8 (dAt D o.toNatClampNeg) hI (iv_k (by decide) : iv 0 0 0) hsx1_73 (iv_w (iv_k (by decide) : iv 8 8 8) (by decide)) hFA how hEV.2.1) (cwV 2 htb (gd_V kw_604 kw_605 kw_606 kw_20 kw_1481) rfl rfl rfl (by decide +kernel) ⟨Nat.le_of_ble_eq_true rfl, Nat.le_of_ble_eq_true rfl⟩) (iv_k (by decide) : iv 0 0 0) (by decide) (by decide) rfl rfl hl.1 rfl (Nat.le_trans (cs_c (cat_i _) cs_n) (by decide)) dX9_hasRightCount_81 ⟨Nat.le_of_ble_eq_true rfl, Nat.le_of_ble_eq_true rfl⟩ hK hP hD hS hA hG (fun E ce q9 u_12 H locs hw hP hD hS hce hcv hcl => ?_) (fun v9 u_12 H locs hw hP hD hS => ?_)
    · exact hw.elim
    obtain ⟨r_11, rfl, rfl, hr_11, fH_r_11⟩ := hw
    have hP : va_P (dC, dI) vwCl (cW ad cid a2 lx sg gm lg) H := hP
    have hD : va_D A (cW ad cid a2 lx sg gm lg) := hD
    refine W.eq (g2 := F0 m 84 ls [.int r_11, .int y0_73]) rfl ?_
    have hH_r_11 : r_11.toInt = aH (dAt D o.toNatClampNeg) 7497062 := by have q9 := fH_r_11; rw [show wKy.getD (8 : Int32).toNatClampNeg 0 = 7497062 from by decide] at q9; exact q9
    refine lv_if_eq (tgt := 91) hx hb dX9_hasRightCount_84 (by decide) (fun c_14 => ?_) (fun c_14 => ?_)
    · have h_15 : iv 0 0 r_11 := iv_eq c_14 hr_11 (iv_k (by decide) : iv 0 0 0) (by decide)
      refine lv_iconst (v := 0) hx hb dX9_hasRightCount_91 (by decide) ?_
      exact hj92 0 y0_73 hsx0_73 hsx1_73 (iv_w (iv_k (by decide) : iv 0 0 0) (by decide)) hy0_73 (uK) (u73) ((by have := hH_r_11; have := aH_01 (q := dAt D o.toNatClampNeg) (k := 7497062); have := i32_0; have := i32_1; have := i32_2; have := i32_m1; have := (hsx0_73).1; have := (hsx0_73).2; have := (hsx1_73).1; have := (hsx1_73).2; have := (hy0_73).1; have := (hy0_73).2; have := (h_15).1; have := (h_15).2; omega)) _ _ _ hP hD hS (lv_sub hl [0, 1] rfl)
    · have h_16 : iv 1 1 r_11 := iv_neL c_14 hr_11 (by decide)
      refine lv_iconst (v := 1) hx hb dX9_hasRightCount_87 (by decide) ?_
      refine lv_goto (tgt := 92) hx hb dX9_hasRightCount_88 (by decide) ?_
      exact hj92 1 y0_73 hsx0_73 hsx1_73 (iv_w (iv_k (by decide) : iv 1 1 1) (by decide)) hy0_73 (uK) (u73) ((by have := hH_r_11; have := aH_01 (q := dAt D o.toNatClampNeg) (k := 7497062); have := i32_0; have := i32_1; have := i32_2; have := i32_m1; have := (hsx0_73).1; have := (hsx0_73).2; have := (hsx1_73).1; have := (hsx1_73).2; have := (hy0_73).1; have := (hy0_73).2; have := (h_16).1; have := (h_16).2; omega)) _ _ _ hP hD hS (lv_sub hl [0, 1] rfl)
  have hj54 : ∀ (_ : iv 0 0 x) (_ : iv 0 79 o) (_ : dKd D o.toNatClampNeg = 4 ∨ dKd D o.toNatClampNeg = 5) (H : Heap) (locs : List Loc) (ls : Array Slot), va_P (dC, dI) vwCl (cW ad cid a2 lx sg gm lg) H → va_D A (cW ad cid a2 lx sg gm lg) → va_S A s.heap H locs → lv_has ls 2 [(0, eV (ad 3) x), (1, eV (ad 9) o)] → W p l e (headSpec wm_X9_hasRightCount ({ frames := 2, cells := 1, slots := 6, locals := 46 })).room s m ([eV (ad 3) x, eV (ad 9) o] : List Value).toArray below meth c H locs 0 0 (vx_MQ below (cQx dC dI ad cid a2 lx (fun v u => ∃ r : Int32, v = some (.int r) ∧ u = (sg, gm, lg) ∧ (iv 0 1 r) ∧ ((r.toInt = 1 ∧ (CNT D o.toNatClampNeg)) ∨ (r.toInt = 0 ∧ ¬ (CNT D o.toNatClampNeg)))) A) (cX dC dI ad cid a2 lx (fun _ _ => False) A) ([eV (ad 3) x, eV (ad 9) o] : List Value).toArray s 1 6 A) (F0 m 54 ls []) := by
    intro  hsx0_54 hsx1_54 uK H locs ls hP hD hS hl
    refine ec_aload_n hx hb dX9_hasRightCount_54 rfl (lv_at hl 0 rfl) ?_
    refine cr_get (t := 3) (j := 0) (C := RX9) (T := TX9) (N := 1) (v := eV (ad 1) 0) hx hb htb inX9 hown hK hP hsx0_54 (by decide) (by decide) (by decide) rfl (by decide) (htb _ kw_82) (cV_c rfl (by decide) (by rw [show cMu 3 0 = 0 from rfl, Nat.zero_mul]; rfl)) dX9_hasRightCount_55 ?_
    refine ec_aload_n hx hb dX9_hasRightCount_58 rfl (lv_at hl 1 rfl) ?_
    refine cw_word (k := 7) (kx := 7) hx hb hG hS (by decide) rfl ⟨by decide, by decide⟩ hown (htb _ kw_510) dX9_hasRightCount_59 ?_
    refine cm_callV (t := 1) (C := RX6) (T := TX6) (N := 8) (rest := []) (as := [eV (ad 9) o, eV (ad 33) 7]) ⟨hx, hb, hml, hown, htb⟩ (d_has2 l dC dI ad cid a2 lx sg gm lg 0 o 7 (dAt D o.toNatClampNeg) hI (iv_k (by decide) : iv 0 0 0) hsx1_54 (iv_w (iv_k (by decide) : iv 7 7 7) (by decide)) hFA how hEV.2.1) (cwV 2 htb (gd_V kw_604 kw_605 kw_606 kw_20 kw_1481) rfl rfl rfl (by decide +kernel) ⟨Nat.le_of_ble_eq_true rfl, Nat.le_of_ble_eq_true rfl⟩) (iv_k (by decide) : iv 0 0 0) (by decide) (by decide) rfl rfl hl.1 rfl (Nat.le_trans cs_n (by decide)) dX9_hasRightCount_62 ⟨Nat.le_of_ble_eq_true rfl, Nat.le_of_ble_eq_true rfl⟩ hK hP hD hS hA hG (fun E ce q9 u_18 H locs hw hP hD hS hce hcv hcl => ?_) (fun v9 u_18 H locs hw hP hD hS => ?_)
    · exact hw.elim
    obtain ⟨r_17, rfl, rfl, hr_17, fH_r_17⟩ := hw
    have hP : va_P (dC, dI) vwCl (cW ad cid a2 lx sg gm lg) H := hP
    have hD : va_D A (cW ad cid a2 lx sg gm lg) := hD
    refine W.eq (g2 := F0 m 65 ls [.int r_17]) rfl ?_
    have hH_r_17 : r_17.toInt = aH (dAt D o.toNatClampNeg) 508440638821 := by have q9 := fH_r_17; rw [show wKy.getD (7 : Int32).toNatClampNeg 0 = 508440638821 from by decide] at q9; exact q9
    refine lv_if_eq (tgt := 72) hx hb dX9_hasRightCount_65 (by decide) (fun c_20 => ?_) (fun c_20 => ?_)
    · have h_21 : iv 0 0 r_17 := iv_eq c_20 hr_17 (iv_k (by decide) : iv 0 0 0) (by decide)
      refine lv_iconst (v := 0) hx hb dX9_hasRightCount_72 (by decide) ?_
      exact hj73 0 hsx0_54 hsx1_54 (iv_w (iv_k (by decide) : iv 0 0 0) (by decide)) (uK) ((by have := hH_r_17; have := aH_01 (q := dAt D o.toNatClampNeg) (k := 508440638821); have := i32_0; have := i32_1; have := i32_2; have := i32_m1; have := (hsx0_54).1; have := (hsx0_54).2; have := (hsx1_54).1; have := (hsx1_54).2; have := (h_21).1; have := (h_21).2; omega)) _ _ _ hP hD hS (lv_sub hl [0, 1] rfl)
    · have h_22 : iv 1 1 r_17 := iv_neL c_20 hr_17 (by decide)
      refine lv_iconst (v := 1) hx hb dX9_hasRightCount_68 (by decide) ?_
      refine lv_goto (tgt := 73) hx hb dX9_hasRightCount_69 (by decide) ?_
      exact hj73 1 hsx0_54 hsx1_54 (iv_w (iv_k (by decide) : iv 1 1 1) (by decide)) (uK) ((by have := hH_r_17; have := aH_01 (q := dAt D o.toNatClampNeg) (k := 508440638821); have := i32_0; have := i32_1; have := i32_2; have := i32_m1; have := (hsx0_54).1; have := (hsx0_54).2; have := (hsx1_54).1; have := (hsx1_54).2; have := (h_22).1; have := (h_22).2; omega)) _ _ _ hP hD hS (lv_sub hl [0, 1] rfl)
  have hj122 : ∀ (y0_122 : Int32) (_ : iv 0 0 x) (_ : iv 0 79 o) (_ : iv 0 1 y0_122) (_ : (y0_122.toInt = 1 ∧ (CNT D o.toNatClampNeg)) ∨ (y0_122.toInt = 0 ∧ ¬ (CNT D o.toNatClampNeg))) (H : Heap) (locs : List Loc) (ls : Array Slot), va_P (dC, dI) vwCl (cW ad cid a2 lx sg gm lg) H → va_D A (cW ad cid a2 lx sg gm lg) → va_S A s.heap H locs → lv_has ls 2 [(0, eV (ad 3) x), (1, eV (ad 9) o)] → W p l e (headSpec wm_X9_hasRightCount ({ frames := 2, cells := 1, slots := 6, locals := 46 })).room s m ([eV (ad 3) x, eV (ad 9) o] : List Value).toArray below meth c H locs 0 0 (vx_MQ below (cQx dC dI ad cid a2 lx (fun v u => ∃ r : Int32, v = some (.int r) ∧ u = (sg, gm, lg) ∧ (iv 0 1 r) ∧ ((r.toInt = 1 ∧ (CNT D o.toNatClampNeg)) ∨ (r.toInt = 0 ∧ ¬ (CNT D o.toNatClampNeg)))) A) (cX dC dI ad cid a2 lx (fun _ _ => False) A) ([eV (ad 3) x, eV (ad 9) o] : List Value).toArray s 1 6 A) (F0 m 122 ls [.int y0_122]) := by
    intro y0_122 hsx0_122 hsx1_122 hy0_122 u122 H locs ls hP hD hS hl
    exact W.nb (fun hN => W.widen (k := 1) (n := 6) (by decide) (by decide) (vx_ret (W.zret (v := y0_122) hx hb hr (iv_nb hy0_122) (fun t ht hW => ⟨⟨some (.int y0_122), (sg, gm, lg), rfl, ⟨y0_122, rfl, rfl, hy0_122, (u122)⟩, by rw [ht]; exact hP, va_K.moved hW.alike hK, hD⟩, hS.F ht, by rw [ht]; exact hN⟩) hS.2.2 dX9_hasRightCount_122)))
  refine cw_sw hx hb hG hS hown (htb _ kw_514) dX9_hasRightCount_0 ?_
  refine ec_aload_n hx hb dX9_hasRightCount_3 rfl (lv_at hl 1 rfl) ?_
  refine cr_get (t := 9) (j := 4) (C := RX3) (T := TX3) (N := 21) (v := eV (ad 33) (gm 14 o.toNatClampNeg)) hx hb htb inX3 hown hK hP hvo (by decide) (by decide) (by decide) rfl (by decide) (htb _ kw_508) rfl dX9_hasRightCount_4 ?_
  obtain ⟨z_23, ez_23⟩ : ∃ z : Int32, z = (gm 14 o.toNatClampNeg) := ⟨_, rfl⟩
  refine W.eq (g2 := F0 m 7 ls [eV (ad 33) z_23, eV (ad 36) 0]) (by rw [ez_23]) ?_
  have hz_23 : iv (-1) 33 z_23 := iv_of ez_23 (CI_a hI 14 hvo (by decide))
  have h_24 : iv 0 33 z_23 := ⟨by rw [ez_23]; exact hw0, (hz_23).2⟩
  refine cw_ord ⟨hx, hb, hml, hown, htb⟩ kw_520 h_24 hl.1 (Nat.le_trans (cs_c (eV_cat _ _) cs_n) (by decide)) dX9_hasRightCount_7 ⟨Nat.le_of_ble_eq_true rfl, Nat.le_of_ble_eq_true rfl⟩ ⟨Nat.le_of_ble_eq_true rfl, Nat.le_of_ble_eq_true rfl⟩ hP hD hS hA hG (fun H locs hP hS => ?_)
  refine cw_swld (iv_k (by decide) : iv 0 0 0) hx hb hG hS h_24 dX9_hasRightCount_10 ?_
  refine lv_topi (fun z_25 ez_25 => ?_)
  have hz_25 : iv 0 29 z_25 := iv_of ez_25 (sw_iv z_23)
  by_cases c_26 : (z_25 : Int32).toInt = 6
  · refine lv_tableIn (tgt := 52) hx hb dX9_hasRightCount_11 (by rw [c_26]; decide) (by rw [c_26]; decide) (by rw [c_26]; rfl) (by decide) ?_
    have h_27 : iv 6 6 z_25 := iv_at c_26
    exact hj52 hvx hvo ((by have hkd : dKd D o.toNatClampNeg = 1 := KW_f hEV.1 (by unfold KW7; rw [show (gm 14 o.toNatClampNeg).toInt = (0 : Int) from (by rw [← ez_23]; exact swy 0 6 (by decide) (h_24) ez_25 c_26)]; decide); omega)) _ _ _ hP hD hS (lv_sub hl [0, 1] rfl)
  by_cases c_28 : (z_25 : Int32).toInt = 7
  · refine lv_tableIn (tgt := 123) hx hb dX9_hasRightCount_11 (by rw [c_28]; decide) (by rw [c_28]; decide) (by rw [c_28]; rfl) (by decide) ?_
    have h_29 : iv 7 7 z_25 := iv_at c_28
    exact hj123 hvx hvo ((by have hkd : dKd D o.toNatClampNeg = 2 := KW_f hEV.1 (by unfold KW7; rw [show (gm 14 o.toNatClampNeg).toInt = (1 : Int) from (by rw [← ez_23]; exact swy 1 7 (by decide) (h_24) ez_25 c_28)]; decide); omega)) _ _ _ hP hD hS (lv_sub hl [0, 1] rfl)
  by_cases c_30 : (z_25 : Int32).toInt = 8
  · refine lv_tableIn (tgt := 52) hx hb dX9_hasRightCount_11 (by rw [c_30]; decide) (by rw [c_30]; decide) (by rw [c_30]; rfl) (by decide) ?_
    have h_31 : iv 8 8 z_25 := iv_at c_30
    exact hj52 hvx hvo ((by have hkd : dKd D o.toNatClampNeg = 3 := KW_f hEV.1 (by unfold KW7; rw [show (gm 14 o.toNatClampNeg).toInt = (2 : Int) from (by rw [← ez_23]; exact swy 2 8 (by decide) (h_24) ez_25 c_30)]; decide); omega)) _ _ _ hP hD hS (lv_sub hl [0, 1] rfl)
  by_cases c_32 : (z_25 : Int32).toInt = 9
  · refine lv_tableIn (tgt := 54) hx hb dX9_hasRightCount_11 (by rw [c_32]; decide) (by rw [c_32]; decide) (by rw [c_32]; rfl) (by decide) ?_
    have h_33 : iv 9 9 z_25 := iv_at c_32
    exact hj54 hvx hvo ((by have hkd : dKd D o.toNatClampNeg = 4 := KW_f hEV.1 (by unfold KW7; rw [show (gm 14 o.toNatClampNeg).toInt = (3 : Int) from (by rw [← ez_23]; exact swy 3 9 (by decide) (h_24) ez_25 c_32)]; decide); omega)) _ _ _ hP hD hS (lv_sub hl [0, 1] rfl)
  by_cases c_34 : (z_25 : Int32).toInt = 10
  · refine lv_tableIn (tgt := 54) hx hb dX9_hasRightCount_11 (by rw [c_34]; decide) (by rw [c_34]; decide) (by rw [c_34]; rfl) (by decide) ?_
    have h_35 : iv 10 10 z_25 := iv_at c_34
    exact hj54 hvx hvo ((by have hkd : dKd D o.toNatClampNeg = 5 := KW_f hEV.1 (by unfold KW7; rw [show (gm 14 o.toNatClampNeg).toInt = (4 : Int) from (by rw [← ez_23]; exact swy 4 10 (by decide) (h_24) ez_25 c_34)]; decide); omega)) _ _ _ hP hD hS (lv_sub hl [0, 1] rfl)
  by_cases c_36 : (z_25 : Int32).toInt = 11
  · refine lv_tableIn (tgt := 123) hx hb dX9_hasRightCount_11 (by rw [c_36]; decide) (by rw [c_36]; decide) (by rw [c_36]; rfl) (by decide) ?_
    have h_37 : iv 11 11 z_25 := iv_at c_36
    exact hj123 hvx hvo ((by have hkd : dKd D o.toNatClampNeg = 10 := KW_f hEV.1 (by unfold KW7; rw [show (gm 14 o.toNatClampNeg).toInt = (5 : Int) from (by rw [← ez_23]; exact swy 5 11 (by decide) (h_24) ez_25 c_36)]; decide); omega)) _ _ _ hP hD hS (lv_sub hl [0, 1] rfl)
  by_cases c_38 : (z_25 : Int32).toInt = 12
  · refine lv_tableIn (tgt := 108) hx hb dX9_hasRightCount_11 (by rw [c_38]; decide) (by rw [c_38]; decide) (by rw [c_38]; rfl) (by decide) ?_
    have h_39 : iv 12 12 z_25 := iv_at c_38
    refine ec_aload_n hx hb dX9_hasRightCount_108 rfl (lv_at hl 1 rfl) ?_
    refine cr_get (t := 9) (j := 8) (C := RX3) (T := TX3) (N := 21) (v := .int (gm 18 o.toNatClampNeg)) hx hb htb inX3 hown hK hP hvo (by decide) (by decide) (by decide) rfl (by decide) (htb _ kw_620) rfl dX9_hasRightCount_109 ?_
    obtain ⟨z_40, ez_40⟩ : ∃ z : Int32, z = (gm 18 o.toNatClampNeg) := ⟨_, rfl⟩
    refine W.eq (g2 := F0 m 112 ls [.int z_40]) (by rw [ez_40]) ?_
    have hz_40 : iv 0 2000000 z_40 := iv_of ez_40 (CI_a hI 18 hvo (by decide))
    refine lv_bipush (v := 6) hx hb dX9_hasRightCount_112 (by decide) ?_
    refine lv_icmp_gt (tgt := 121) hx hb dX9_hasRightCount_114 (by decide) (fun c_41 => ?_) (fun c_41 => ?_)
    · have h_42 : iv 7 2000000 z_40 := iv_ltR c_41 (iv_k (by decide) : iv 6 6 6) hz_40 (by decide)
      refine lv_iconst (v := 0) hx hb dX9_hasRightCount_121 (by decide) ?_
      exact hj122 0 hvx hvo (iv_w (iv_k (by decide) : iv 0 0 0) (by decide)) (Or.inr ⟨rfl, (fun q9 => by have := congrArg Int32.toInt ez_40; have := hEV.2.2.2.2.2; have hkd : dKd D o.toNatClampNeg = 6 := KW_f hEV.1 (by unfold KW7; rw [show (gm 14 o.toNatClampNeg).toInt = (6 : Int) from (by rw [← ez_23]; exact swy 6 12 (by decide) (h_24) ez_25 c_38)]; decide); have := i32_0; have := i32_1; have := i32_2; have := i32_m1; have := (hvx).1; have := (hvx).2; have := (hvo).1; have := (hvo).2; have := (h_24).1; have := (h_24).2; have := (h_39).1; have := (h_39).2; have := (h_42).1; have := (h_42).2; unfold CNT at q9; omega)⟩) _ _ _ hP hD hS (lv_sub hl [0, 1] rfl)
    · have h_43 : iv 0 6 z_40 := iv_leL (i32_ge c_41) hz_40 (iv_k (by decide) : iv 6 6 6) (by decide)
      refine lv_iconst (v := 1) hx hb dX9_hasRightCount_117 (by decide) ?_
      refine lv_goto (tgt := 122) hx hb dX9_hasRightCount_118 (by decide) ?_
      exact hj122 1 hvx hvo (iv_w (iv_k (by decide) : iv 1 1 1) (by decide)) (Or.inl ⟨rfl, (by have := congrArg Int32.toInt ez_40; have := hEV.2.2.2.2.2; have hkd : dKd D o.toNatClampNeg = 6 := KW_f hEV.1 (by unfold KW7; rw [show (gm 14 o.toNatClampNeg).toInt = (6 : Int) from (by rw [← ez_23]; exact swy 6 12 (by decide) (h_24) ez_25 c_38)]; decide); have := i32_0; have := i32_1; have := i32_2; have := i32_m1; have := (hvx).1; have := (hvx).2; have := (hvo).1; have := (hvo).2; have := (h_24).1; have := (h_24).2; have := (h_39).1; have := (h_39).2; have := (h_43).1; have := (h_43).2; unfold CNT; omega)⟩) _ _ _ hP hD hS (lv_sub hl [0, 1] rfl)
  refine lv_tableOut (tgt := 123) hx hb dX9_hasRightCount_11 (by have q1 := (hz_25).1; have q2 := (hz_25).2; omega) (by decide) ?_
  exact hj123 hvx hvo ((by have n1 : ¬ dKd D o.toNatClampNeg = 1 := fun q8 => absurd (KW_j (q8 ▸ hEV.1 : KW7 (gm 14 o.toNatClampNeg).toInt 1) (by decide)) (by rw [show wkF 1 = 0 by decide]; have n9 := swx (y := z_23) 0 6 (by decide) (h_24) ez_25 (by omega); rw [ez_23] at n9; exact n9); have n2 : ¬ dKd D o.toNatClampNeg = 2 := fun q8 => absurd (KW_j (q8 ▸ hEV.1 : KW7 (gm 14 o.toNatClampNeg).toInt 2) (by decide)) (by rw [show wkF 2 = 1 by decide]; have n9 := swx (y := z_23) 1 7 (by decide) (h_24) ez_25 (by omega); rw [ez_23] at n9; exact n9); have n3 : ¬ dKd D o.toNatClampNeg = 3 := fun q8 => absurd (KW_j (q8 ▸ hEV.1 : KW7 (gm 14 o.toNatClampNeg).toInt 3) (by decide)) (by rw [show wkF 3 = 2 by decide]; have n9 := swx (y := z_23) 2 8 (by decide) (h_24) ez_25 (by omega); rw [ez_23] at n9; exact n9); have n4 : ¬ dKd D o.toNatClampNeg = 4 := fun q8 => absurd (KW_j (q8 ▸ hEV.1 : KW7 (gm 14 o.toNatClampNeg).toInt 4) (by decide)) (by rw [show wkF 4 = 3 by decide]; have n9 := swx (y := z_23) 3 9 (by decide) (h_24) ez_25 (by omega); rw [ez_23] at n9; exact n9); have n5 : ¬ dKd D o.toNatClampNeg = 5 := fun q8 => absurd (KW_j (q8 ▸ hEV.1 : KW7 (gm 14 o.toNatClampNeg).toInt 5) (by decide)) (by rw [show wkF 5 = 4 by decide]; have n9 := swx (y := z_23) 4 10 (by decide) (h_24) ez_25 (by omega); rw [ez_23] at n9; exact n9); have n10 : ¬ dKd D o.toNatClampNeg = 10 := fun q8 => absurd (KW_j (q8 ▸ hEV.1 : KW7 (gm 14 o.toNatClampNeg).toInt 10) (by decide)) (by rw [show wkF 10 = 5 by decide]; have n9 := swx (y := z_23) 5 11 (by decide) (h_24) ez_25 (by omega); rw [ez_23] at n9; exact n9); have n6 : ¬ dKd D o.toNatClampNeg = 6 := fun q8 => absurd (KW_j (q8 ▸ hEV.1 : KW7 (gm 14 o.toNatClampNeg).toInt 6) (by decide)) (by rw [show wkF 6 = 6 by decide]; have n9 := swx (y := z_23) 6 12 (by decide) (h_24) ez_25 (by omega); rw [ez_23] at n9; exact n9); have := kd7_r (dEl D o.toNatClampNeg).2.2.1.toInt; have : dKd D o.toNatClampNeg = kd7 (dEl D o.toNatClampNeg).2.2.1.toInt := rfl; omega)) _ _ _ hP hD hS (lv_sub hl [0, 1] rfl)
end
section
theorem er_in {ad : Nat → Nat → Nat} {cid : Nat → ClassId} {a2 : Nat → Nat} {lx : List Nat} {sg : Nat → Int32} {gm : Nat → Nat → Int32} {lg : Nat → Nat → Int64} {A : Nat → Prop} (hD : va_D A (cW ad cid a2 lx sg gm lg)) {t : Nat} {x y : Int32} (ht : t < 32) (hx : 0 ≤ x.toInt) (hxn : x.toInt.toNat < cNum t) (hy : -1 ≤ y.toInt) (hyn : y.toInt.toNat < cNum t) (h : er (ad t) x = er (ad t) y) : x.toInt = y.toInt := by
  by_cases hy0 : 0 ≤ y.toInt
  · obtain ⟨i, hi⟩ := cPL_at (t := t) (i := x.toNatClampNeg) ht hxn
    obtain ⟨j, hj⟩ := cPL_at (t := t) (i := y.toNatClampNeg) ht hyn
    rw [er_some hx, er_some hy0] at h
    have h := Option.some.inj h
    have e := hD.1 i j _ _ (cW_at hi) (cW_at hj) h
    subst e
    rw [hi] at hj
    have q : x.toNatClampNeg = y.toNatClampNeg := (Prod.mk.inj (Option.some.inj hj)).2
    have q1 : x.toNatClampNeg = x.toInt.toNat := rfl
    have q2 : y.toNatClampNeg = y.toInt.toNat := rfl
    omega
  · rw [er_some hx, er_none (by omega)] at h
    cases h
theorem fi_d {D : List El7} {sg : Nat → Int32} {gm : Nat → Nat → Int32} {lg : Nat → Nat → Int64} (h : RDC D sg gm lg) {e j : Nat} (he : e < D.length) (hj : j < D.length) (hje : dAb D j = (e : Int)) : ∃ a : Nat, (gm 16 e).toInt = (a : Int) ∧ a ≤ j ∧ dAb D a = (e : Int) ∧ ∀ i, i < a → ¬ dAb D i = (e : Int) := by
  have hn := RDC_n h
  have q := (h.2.1 e (by omega)).2.2.1
  rw [hn] at q
  rcases fiR_p (f := fun j => (gm 15 j).toInt) (e := (e : Int)) D.length with ⟨_, b⟩ | ⟨a1, a2, a3, a4⟩
  · exact absurd ((RDC_f h hj).1.trans hje) (b j hj)
  · refine ⟨(fiR (fun j => (gm 15 j).toInt) (e : Int) D.length).toNat, by omega, ?_, ?_, fun i hi q2 => ?_⟩
    · rcases Nat.lt_or_ge j (fiR (fun j => (gm 15 j).toInt) (e : Int) D.length).toNat with w | w
      · exact absurd ((RDC_f h hj).1.trans hje) (a4 j (by omega))
      · exact w
    · rw [← (RDC_f h (by omega)).1]; exact a3
    · exact a4 i (by omega) ((RDC_f h (by omega)).1.trans q2)
theorem nx_d {D : List El7} {sg : Nat → Int32} {gm : Nat → Nat → Int32} {lg : Nat → Nat → Int64} (h : RDC D sg gm lg) {k j : Nat} (hk : k < D.length) (hj : j < D.length) (hkj : k < j) (e : dAb D j = dAb D k) : ∃ a : Nat, (gm 17 k).toInt = (a : Int) ∧ k < a ∧ a ≤ j ∧ dAb D a = dAb D k ∧ ∀ i, k < i → i < a → ¬ dAb D i = dAb D k := by
  have hn := RDC_n h
  have q := (h.2.1 k (by omega)).2.2.2.1
  rw [hn] at q
  have ek := (RDC_f h hk).1
  rcases nxR_p (f := fun j => (gm 15 j).toInt) (k := k) D.length with ⟨_, b⟩ | ⟨a1, a2, a3, a4, a5⟩
  · exact absurd (((RDC_f h hj).1.trans e).trans ek.symm) (b j hkj hj)
  · refine ⟨(nxR (fun j => (gm 15 j).toInt) k D.length).toNat, by omega, by omega, ?_, ?_, fun i h1 h2 q2 => ?_⟩
    · rcases Nat.lt_or_ge j (nxR (fun j => (gm 15 j).toInt) k D.length).toNat with w | w
      · exact absurd (((RDC_f h hj).1.trans e).trans ek.symm) (a5 j hkj (by omega))
      · exact w
    · rw [← (RDC_f h (by omega)).1, ← ek]; exact a4
    · exact a5 i h1 (by omega) (((RDC_f h (by omega)).1.trans q2).trans ek.symm)
theorem ah_sk {D : List El7} {f : Int} {x a : Nat} : ∀ b, a ≤ b → (∀ i, a ≤ i → i < b → ¬ dAb D i = dAb D x) → ahD D f x b = ahD D f x a := by
  intro b
  induction b with
  | zero => intro h _; rw [Nat.le_zero.mp h]
  | succ b ih =>
    intro h hn
    by_cases e : a = b + 1
    · rw [e]
    · show ahD D f x b + (if AQD D f x b then 1 else 0) = _
      rw [if_neg (fun q => hn b (by omega) (by omega) q.1), Nat.add_zero, ih (by omega) (fun i h1 h2 => hn i h1 (by omega))]
/-- of one word, of one kind -/
theorem wd_kd {D : List El7} {sg : Nat → Int32} {gm : Nat → Nat → Int32} {lg : Nat → Nat → Int64} (h : RDC D sg gm lg) {k x : Nat} (hk : k < D.length) (hx : x < D.length) (h1 : 1 ≤ dKd D x) : (gm 14 k).toInt = (gm 14 x).toInt ↔ dKd D k = dKd D x := by
  have a := (EV_of h hk).1
  have b := (EV_of h hx).1
  constructor
  · intro e; rw [e] at a; exact KW_f a b
  · intro e; rw [e] at a; exact KW_i a b h1

set_option maxHeartbeats 4000000 in
set_option maxRecDepth 100000 in
theorem d_likeBefore2 (l : Launch) (dC : Nat → ClassId) (dI : Nat → Nat → Nat) (ad : Nat → Nat → Nat) (cid : Nat → ClassId) (a2 : Nat → Nat) (lx : List Nat) (sg : Nat → Int32) (gm : Nat → Nat → Int32) (lg : Nat → Nat → Int64) (x : Int32) (o : Int32) (D : List El7) (hI : CI sg gm) (hvx : iv 0 0 x) (hvo : iv 0 79 o) (ho0 : 0 ≤ (gm 15 o.toNatClampNeg).toInt) (how : o.toInt < (sg 4).toInt) (hRC : RDC D sg gm lg) (hk1 : 1 ≤ dKd D o.toNatClampNeg) : CMt dC dI ad cid a2 lx l yX9_likeBefore wm_X9_likeBefore ({ frames := 0, cells := 1, slots := 6, locals := 0 }) [eV (ad 3) x, eV (ad 9) o] sg gm lg (fun v u => ∃ r : Int32, v = some (.int r) ∧ u = (sg, gm, lg) ∧ (iv 0 80 r) ∧ (r.toInt = (ahD D 0 o.toNatClampNeg o.toNatClampNeg : Int))) (fun _ _ => False) := by
  intro sz
  refine vx_ofW (cc := cX9_likeBefore) (maxL := 5) (ret := (some .int)) (by decide) rfl ?_
  intro p e s m args below meth c s₁ B hml hxt hv
  obtain ⟨rfl, hsz, hP, hK, hD0, hG⟩ := hv
  have hx := B.exec
  have hb := B.bytes
  have hr := B.returns
  have hts := atoms_spec (ws := wm_X9_likeBefore) B.pre
  have htb := fun (w : Cond) (h : w ∈ tb) => hts w (List.mem_cons_of_mem _ h)
  have hown : s.vm.findClass RX9 = some m.cls := findClass_of_methodNamed B.named
  have hlocks := B.notSynchronized
  subst hsz
  have hD := hD0.self (sz := s.heap.size)
  generalize hAe : va_A (cW ad cid a2 lx sg gm lg) s.heap.size = A at hD hG ⊢
  have hA : ∀ q : Nat, s.heap.size ≤ q → A q := fun q h => by rw [← hAe]; exact Or.inr h
  have hS : va_S A s.heap s.heap [] := va_S.rf
  have hl := lv_entry ([eV (ad 3) x, eV (ad 9) o]) (n := 5) (by rw [show (lg_sl ([eV (ad 3) x, eV (ad 9) o])).length = 2 from by simp [lg_sl, eV_cat, cat_i, cat_l]]; exact Nat.le_of_ble_eq_true rfl)
  rw [lg_entry_eq]
  generalize (lg_sl ([eV (ad 3) x, eV (ad 9) o]) ++ List.replicate (5 - (lg_sl ([eV (ad 3) x, eV (ad 9) o])).length) Slot.unset).toArray = ls at hl ⊢
  have hl : lv_has ls 5 [(0, eV (ad 3) x), (1, eV (ad 9) o)] := by simp [lv_args, eV_cat, cat_i, cat_l] at hl; exact hl
  have hj54 : ∀ (x4_54 : Int32) (x3_54 : Int32) (x2_54 : Int32) (_ : iv 0 80 x4_54) (_ : iv (-1) 79 x3_54) (_ : iv 0 80 x2_54) (_ : iv 0 0 x) (_ : iv 0 79 o) (_ : x2_54.toInt = (ahD D 0 o.toNatClampNeg o.toNatClampNeg : Int)) (H : Heap) (locs : List Loc) (ls : Array Slot), va_P (dC, dI) vwCl (cW ad cid a2 lx sg gm lg) H → va_D A (cW ad cid a2 lx sg gm lg) → va_S A s.heap H locs → lv_has ls 5 [(4, .int x4_54), (3, eV (ad 9) x3_54), (2, .int x2_54), (0, eV (ad 3) x), (1, eV (ad 9) o)] → W p l e (headSpec wm_X9_likeBefore ({ frames := 0, cells := 1, slots := 6, locals := 0 })).room s m ([eV (ad 3) x, eV (ad 9) o] : List Value).toArray below meth c H locs 0 0 (vx_MQ below (cQx dC dI ad cid a2 lx (fun v u => ∃ r : Int32, v = some (.int r) ∧ u = (sg, gm, lg) ∧ (iv 0 80 r) ∧ (r.toInt = (ahD D 0 o.toNatClampNeg o.toNatClampNeg : Int))) A) (cX dC dI ad cid a2 lx (fun _ _ => False) A) ([eV (ad 3) x, eV (ad 9) o] : List Value).toArray s 1 6 A) (F0 m 54 ls []) := by
    intro x4_54 x3_54 x2_54 hx4_54 hx3_54 hx2_54 hsx0_54 hsx1_54 u54 H locs ls hP hD hS hl
    refine lv_iload_n hx hb dX9_likeBefore_54 rfl (lv_at hl 2 rfl) ?_
    exact W.nb (fun hN => W.widen (k := 1) (n := 6) (by decide) (by decide) (vx_ret (W.iret (v := x2_54) hx hb hr (fun t ht hW => ⟨⟨some (.int x2_54), (sg, gm, lg), rfl, ⟨x2_54, rfl, rfl, hx2_54, (u54)⟩, by rw [ht]; exact hP, va_K.moved hW.alike hK, hD⟩, hS.F ht, by rw [ht]; exact hN⟩) hS.2.2 dX9_likeBefore_55)))
  have hj13 : ∀ (n : Nat) (x4_13 : Int32) (x3_13 : Int32) (x2_13 : Int32) (_ : (80 - x4_13.toInt).toNat = n) (_ : iv 0 80 x4_13) (_ : iv (-1) 79 x3_13) (_ : iv 0 80 x2_13) (_ : iv 0 0 x) (_ : iv 0 79 o) (_ : x2_13.toInt ≤ x4_13.toInt) (_ : 0 ≤ x3_13.toInt ∧ x3_13.toInt ≤ o.toInt ∧ dAb D x3_13.toNatClampNeg = dAb D o.toNatClampNeg ∧ x4_13.toInt ≤ x3_13.toInt) (_ : x2_13.toInt = (ahD D 0 o.toNatClampNeg x3_13.toNatClampNeg : Int)) (H : Heap) (locs : List Loc) (ls : Array Slot), va_P (dC, dI) vwCl (cW ad cid a2 lx sg gm lg) H → va_D A (cW ad cid a2 lx sg gm lg) → va_S A s.heap H locs → lv_has ls 5 [(4, .int x4_13), (3, eV (ad 9) x3_13), (2, .int x2_13), (0, eV (ad 3) x), (1, eV (ad 9) o)] → W p l e (headSpec wm_X9_likeBefore ({ frames := 0, cells := 1, slots := 6, locals := 0 })).room s m ([eV (ad 3) x, eV (ad 9) o] : List Value).toArray below meth c H locs 0 0 (vx_MQ below (cQx dC dI ad cid a2 lx (fun v u => ∃ r : Int32, v = some (.int r) ∧ u = (sg, gm, lg) ∧ (iv 0 80 r) ∧ (r.toInt = (ahD D 0 o.toNatClampNeg o.toNatClampNeg : Int))) A) (cX dC dI ad cid a2 lx (fun _ _ => False) A) ([eV (ad 3) x, eV (ad 9) o] : List Value).toArray s 1 6 A) (F0 m 13 ls []) := by
    intro n
    induction n using Nat.strongRecOn with
    | ind n ih13 =>
      intro x4_13 x3_13 x2_13 hn13 hx4_13 hx3_13 hx2_13 hsx0_13 hsx1_13 h24 h3i hct H locs ls hP hD hS hl
      have hj43 : ∀ (x2_43 : Int32) (_ : iv 0 79 x4_13) (_ : iv 0 79 x3_13) (_ : iv 0 80 x2_43) (_ : iv 0 0 x) (_ : iv 0 79 o) (_ : x2_43.toInt ≤ x4_13.toInt + 1) (_ : 0 ≤ x3_13.toInt ∧ x3_13.toInt ≤ o.toInt ∧ dAb D x3_13.toNatClampNeg = dAb D o.toNatClampNeg ∧ x4_13.toInt ≤ x3_13.toInt) (_ : x3_13.toInt < o.toInt) (_ : x2_43.toInt = (ahD D 0 o.toNatClampNeg (x3_13.toNatClampNeg + 1) : Int)) (H : Heap) (locs : List Loc) (ls : Array Slot), va_P (dC, dI) vwCl (cW ad cid a2 lx sg gm lg) H → va_D A (cW ad cid a2 lx sg gm lg) → va_S A s.heap H locs → lv_has ls 5 [(4, .int x4_13), (3, eV (ad 9) x3_13), (2, .int x2_43), (0, eV (ad 3) x), (1, eV (ad 9) o)] → W p l e (headSpec wm_X9_likeBefore ({ frames := 0, cells := 1, slots := 6, locals := 0 })).room s m ([eV (ad 3) x, eV (ad 9) o] : List Value).toArray below meth c H locs 0 0 (vx_MQ below (cQx dC dI ad cid a2 lx (fun v u => ∃ r : Int32, v = some (.int r) ∧ u = (sg, gm, lg) ∧ (iv 0 80 r) ∧ (r.toInt = (ahD D 0 o.toNatClampNeg o.toNatClampNeg : Int))) A) (cX dC dI ad cid a2 lx (fun _ _ => False) A) ([eV (ad 3) x, eV (ad 9) o] : List Value).toArray s 1 6 A) (F0 m 43 ls []) := by
        intro x2_43 hsx4_43 hsx3_43 hx2_43 hsx0_43 hsx1_43 h24 h3i hlt hct H locs ls hP hD hS hl
        refine ec_aload_n hx hb dX9_likeBefore_43 rfl (lv_at hl 1 rfl) ?_
        refine cr_get (t := 9) (j := 7) (C := RX3) (T := TX3) (N := 21) (v := eV (ad 9) (gm 17 x3_13.toNatClampNeg)) hx hb htb inX3 hown hK hP hsx3_43 (by decide) (by decide) (by decide) rfl (by decide) (htb _ kw_537) rfl dX9_likeBefore_44 ?_
        obtain ⟨z_1, ez_1⟩ : ∃ z : Int32, z = (gm 17 x3_13.toNatClampNeg) := ⟨_, rfl⟩
        refine W.eq (g2 := F0 m 47 ls [eV (ad 9) z_1]) (by rw [ez_1]) ?_
        have hz_1 : iv (-1) 79 z_1 := iv_of ez_1 (CI_a hI 17 hsx3_43 (by decide))
        refine ec_astore_n (i := 3) (lv' := [(3, eV (ad 9) z_1), (4, .int x4_13), (2, .int x2_43), (0, eV (ad 3) x), (1, eV (ad 9) o)]) hx hb dX9_likeBefore_47 rfl hl (by decide) rfl (fun ls hl => ?_)
        obtain ⟨z_2, ez_2⟩ : ∃ z : Int32, z = x4_13 + 1 := ⟨_, rfl⟩
        have hz_2 : iv 1 80 z_2 := iv_of ez_2 (iv_add hsx4_43 (iv_k (by decide) : iv 1 1 1) (by decide))
        have tz_2 : z_2.toInt = x4_13.toInt + 1 := by rw [ez_2]; exact iv_addE hsx4_43 (iv_k (by decide) : iv 1 1 1) (by decide)
        refine lv_iinc (v := z_2) (lv' := [(4, .int z_2), (3, eV (ad 9) z_1), (2, .int x2_43), (0, eV (ad 3) x), (1, eV (ad 9) o)]) hx hb dX9_likeBefore_48 hl (k := 1) rfl ez_2.symm (by decide) (by simp [List.filter, eV_cat, cat_i, cat_l]) (fun ls hl => ?_)
        refine lv_goto (tgt := 13) hx hb dX9_likeBefore_51 (by decide) ?_
        exact ih13 _ (by rw [← hn13]; exact (by have := i32_0; have := i32_1; have := i32_2; have := i32_m1; have := (hsx0_43).1; have := (hsx0_43).2; have := (hsx1_43).1; have := (hsx1_43).2; have := (hsx4_43).1; have := (hsx4_43).2; have := (hsx3_43).1; have := (hsx3_43).2; have := (hx2_13).1; have := (hx2_13).2; have := (hx2_43).1; have := (hx2_43).2; have := (hz_1).1; have := (hz_1).2; have := (hz_2).1; have := (hz_2).2; omega)) z_2 z_1 x2_43 rfl (iv_w hz_2 (by decide)) hz_1 hx2_43 hsx0_43 hsx1_43 (by have := i32_0; have := i32_1; have := i32_2; have := i32_m1; have := (hsx0_43).1; have := (hsx0_43).2; have := (hsx1_43).1; have := (hsx1_43).2; have := (hsx4_43).1; have := (hsx4_43).2; have := (hsx3_43).1; have := (hsx3_43).2; have := (hx2_13).1; have := (hx2_13).2; have := (hx2_43).1; have := (hx2_43).2; have := (hz_1).1; have := (hz_1).2; have := (hz_2).1; have := (hz_2).2; omega) ((by have c7 : o.toNatClampNeg = o.toInt.toNat := rfl; have c6 : x3_13.toNatClampNeg = x3_13.toInt.toNat := rfl; obtain ⟨a9, b1, b2, b3, b4, b5⟩ := nx_d hRC (k := x3_13.toNatClampNeg) (j := o.toNatClampNeg) (show x3_13.toNatClampNeg < D.length from (by have := hRC.1; have := h3i; have : x3_13.toNatClampNeg = x3_13.toInt.toNat := rfl; have := i32_0; have := i32_1; have := i32_2; have := i32_m1; have := (show iv 0 80 (sg 4) from CI_s hI 4).1; have := (show iv 0 80 (sg 4) from CI_s hI 4).2; have := (hsx0_43).1; have := (hsx0_43).2; have := (hsx1_43).1; have := (hsx1_43).2; have := (hsx4_43).1; have := (hsx4_43).2; have := (hsx3_43).1; have := (hsx3_43).2; have := (hx2_13).1; have := (hx2_13).2; have := (hx2_43).1; have := (hx2_43).2; have := (hz_1).1; have := (hz_1).2; have := (hz_2).1; have := (hz_2).2; omega)) (show o.toNatClampNeg < D.length from (by have := hRC.1; have : o.toNatClampNeg = o.toInt.toNat := rfl; have := hvo.1; omega)) (by have := h3i; have := hlt; omega) h3i.2.2.1.symm; rw [← ez_1] at b1; have c9 : z_1.toNatClampNeg = a9 := (by show z_1.toInt.toNat = a9; omega); exact ⟨(by omega), (by omega), (by rw [c9, b4]; exact h3i.2.2.1), (by have := h3i; have := i32_0; have := i32_1; have := i32_2; have := i32_m1; have := (hsx0_43).1; have := (hsx0_43).2; have := (hsx1_43).1; have := (hsx1_43).2; have := (hsx4_43).1; have := (hsx4_43).2; have := (hsx3_43).1; have := (hsx3_43).2; have := (hx2_13).1; have := (hx2_13).2; have := (hx2_43).1; have := (hx2_43).2; have := (hz_1).1; have := (hz_1).2; have := (hz_2).1; have := (hz_2).2; omega)⟩)) ((by have c7 : o.toNatClampNeg = o.toInt.toNat := rfl; have c6 : x3_13.toNatClampNeg = x3_13.toInt.toNat := rfl; obtain ⟨a9, b1, b2, b3, b4, b5⟩ := nx_d hRC (k := x3_13.toNatClampNeg) (j := o.toNatClampNeg) (show x3_13.toNatClampNeg < D.length from (by have := hRC.1; have := h3i; have : x3_13.toNatClampNeg = x3_13.toInt.toNat := rfl; have := i32_0; have := i32_1; have := i32_2; have := i32_m1; have := (show iv 0 80 (sg 4) from CI_s hI 4).1; have := (show iv 0 80 (sg 4) from CI_s hI 4).2; have := (hsx0_43).1; have := (hsx0_43).2; have := (hsx1_43).1; have := (hsx1_43).2; have := (hsx4_43).1; have := (hsx4_43).2; have := (hsx3_43).1; have := (hsx3_43).2; have := (hx2_13).1; have := (hx2_13).2; have := (hx2_43).1; have := (hx2_43).2; have := (hz_1).1; have := (hz_1).2; have := (hz_2).1; have := (hz_2).2; omega)) (show o.toNatClampNeg < D.length from (by have := hRC.1; have : o.toNatClampNeg = o.toInt.toNat := rfl; have := hvo.1; omega)) (by have := h3i; have := hlt; omega) h3i.2.2.1.symm; rw [← ez_1] at b1; have c9 : z_1.toNatClampNeg = a9 := (by show z_1.toInt.toNat = a9; omega); rw [c9, ah_sk (a := x3_13.toNatClampNeg + 1) a9 (by omega) (fun i h1 h2 => by have := b5 i (by omega) h2; have := h3i.2.2.1; omega)]; exact hct)) _ _ _ hP hD hS (lv_sub hl [0, 1, 2, 3, 4] rfl)
      refine lv_iload hx hb dX9_likeBefore_13 (lv_at hl 0 rfl) ?_
      refine lv_bipush (v := 80) hx hb dX9_likeBefore_15 (by decide) ?_
      refine lv_icmp_ge (tgt := 54) hx hb dX9_likeBefore_17 (by decide) (fun c_3 => ?_) (fun c_3 => ?_)
      · have h_4 : iv 80 80 x4_13 := iv_leR c_3 (iv_k (by decide) : iv 80 80 80) hx4_13 (by decide)
        exact hj54 x4_13 x3_13 x2_13 (iv_w h_4 (by decide)) hx3_13 hx2_13 hsx0_13 hsx1_13 ((by exfalso; have := h3i; have := i32_0; have := i32_1; have := i32_2; have := i32_m1; have := (hsx0_13).1; have := (hsx0_13).2; have := (hsx1_13).1; have := (hsx1_13).2; have := (h_4).1; have := (h_4).2; have := (hx3_13).1; have := (hx3_13).2; have := (hx2_13).1; have := (hx2_13).2; omega)) _ _ _ hP hD hS (lv_sub hl [0, 1, 2, 3, 4] rfl)
      · have h_5 : iv 0 79 x4_13 := iv_ltL (i32_lt c_3) hx4_13 (iv_k (by decide) : iv 80 80 80) (by decide)
        refine ec_aload_n hx hb dX9_likeBefore_20 rfl (lv_at hl 1 rfl) ?_
        refine ec_ifnull (tgt := 54) hx hb dX9_likeBefore_21 (by decide) (fun c_6 => ?_) (fun c_6 => ?_)
        · have h_7 : iv (-1) (-1) x3_13 := ⟨(hx3_13).1, by omega⟩
          exact hj54 x4_13 x3_13 x2_13 (iv_w h_5 (by decide)) (iv_w h_7 (by decide)) hx2_13 hsx0_13 hsx1_13 ((by exfalso; have := h3i; have := i32_0; have := i32_1; have := i32_2; have := i32_m1; have := (hsx0_13).1; have := (hsx0_13).2; have := (hsx1_13).1; have := (hsx1_13).2; have := (h_5).1; have := (h_5).2; have := (h_7).1; have := (h_7).2; have := (hx2_13).1; have := (hx2_13).2; omega)) _ _ _ hP hD hS (lv_sub hl [0, 1, 2, 3, 4] rfl)
        · have h_8 : iv 0 79 x3_13 := ⟨c_6, (hx3_13).2⟩
          refine ec_aload_n hx hb dX9_likeBefore_24 rfl (lv_at hl 1 rfl) ?_
          refine ec_aload_n hx hb dX9_likeBefore_25 rfl (lv_at hl 4 rfl) ?_
          refine ec_acmp_eq (tgt := 54) hx hb dX9_likeBefore_26 (by decide) (fun c_9 => ?_) (fun c_9 => ?_)
          · have wc_9 : x3_13.toInt = o.toInt := er_in hD (t := 9) (by decide) (by have := (h_8).1; omega) (show _ < 80 by have := (h_8).2; omega) (by have := (hsx1_13).1; omega) (show _ < 80 by have := (hsx1_13).2; omega) c_9
            exact hj54 x4_13 x3_13 x2_13 (iv_w h_5 (by decide)) (iv_w h_8 (by decide)) hx2_13 hsx0_13 hsx1_13 ((by have q9 : x3_13.toNatClampNeg = o.toNatClampNeg := (by show x3_13.toInt.toNat = o.toInt.toNat; rw [wc_9]); rw [q9] at hct; exact hct)) _ _ _ hP hD hS (lv_sub hl [0, 1, 2, 3, 4] rfl)
          · have wc_9 : ¬ x3_13.toInt = o.toInt := fun q9 => c_9 (congrArg (er (ad 9)) (Int32.toInt_inj.mp q9))
            refine ec_aload_n hx hb dX9_likeBefore_29 rfl (lv_at hl 1 rfl) ?_
            refine cr_get (t := 9) (j := 4) (C := RX3) (T := TX3) (N := 21) (v := eV (ad 33) (gm 14 x3_13.toNatClampNeg)) hx hb htb inX3 hown hK hP h_8 (by decide) (by decide) (by decide) rfl (by decide) (htb _ kw_508) rfl dX9_likeBefore_30 ?_
            obtain ⟨z_10, ez_10⟩ : ∃ z : Int32, z = (gm 14 x3_13.toNatClampNeg) := ⟨_, rfl⟩
            refine W.eq (g2 := F0 m 33 ls [eV (ad 33) z_10]) (by rw [ez_10]) ?_
            have hz_10 : iv (-1) 33 z_10 := iv_of ez_10 (CI_a hI 14 h_8 (by decide))
            refine ec_aload_n hx hb dX9_likeBefore_33 rfl (lv_at hl 4 rfl) ?_
            refine cr_get (t := 9) (j := 4) (C := RX3) (T := TX3) (N := 21) (v := eV (ad 33) (gm 14 o.toNatClampNeg)) hx hb htb inX3 hown hK hP hsx1_13 (by decide) (by decide) (by decide) rfl (by decide) (htb _ kw_508) rfl dX9_likeBefore_34 ?_
            obtain ⟨z_11, ez_11⟩ : ∃ z : Int32, z = (gm 14 o.toNatClampNeg) := ⟨_, rfl⟩
            refine W.eq (g2 := F0 m 37 ls [eV (ad 33) z_11, eV (ad 33) z_10]) (by rw [ez_11]) ?_
            have hz_11 : iv (-1) 33 z_11 := iv_of ez_11 (CI_a hI 14 hsx1_13 (by decide))
            refine ec_acmp_ne (tgt := 43) hx hb dX9_likeBefore_37 (by decide) (fun c_12 => ?_) (fun c_12 => ?_)
            · have wc_12 : ¬ z_10.toInt = z_11.toInt := fun q9 => c_12 (congrArg (er (ad 33)) (Int32.toInt_inj.mp q9))
              exact hj43 x2_13 h_5 h_8 hx2_13 hsx0_13 hsx1_13 (by have := i32_0; have := i32_1; have := i32_2; have := i32_m1; have := (hsx0_13).1; have := (hsx0_13).2; have := (hsx1_13).1; have := (hsx1_13).2; have := (h_5).1; have := (h_5).2; have := (h_8).1; have := (h_8).2; have := (hx2_13).1; have := (hx2_13).2; have := (hz_10).1; have := (hz_10).2; have := (hz_11).1; have := (hz_11).2; omega) (h3i) ((by have := h3i; have := i32_0; have := i32_1; have := i32_2; have := i32_m1; have := (hsx0_13).1; have := (hsx0_13).2; have := (hsx1_13).1; have := (hsx1_13).2; have := (h_5).1; have := (h_5).2; have := (h_8).1; have := (h_8).2; have := (hx2_13).1; have := (hx2_13).2; have := (hz_10).1; have := (hz_10).2; have := (hz_11).1; have := (hz_11).2; omega)) ((by have := congrArg Int32.toInt ez_10; have := congrArg Int32.toInt ez_11; show _ = ((ahD D 0 o.toNatClampNeg x3_13.toNatClampNeg + (if AQD D 0 o.toNatClampNeg x3_13.toNatClampNeg then 1 else 0) : Nat) : Int); rw [if_neg (fun q9 => wc_12 (by have := (wd_kd hRC (show x3_13.toNatClampNeg < D.length from (by have := hRC.1; have := h3i; have : x3_13.toNatClampNeg = x3_13.toInt.toNat := rfl; have := i32_0; have := i32_1; have := i32_2; have := i32_m1; have := (show iv 0 80 (sg 4) from CI_s hI 4).1; have := (show iv 0 80 (sg 4) from CI_s hI 4).2; have := (hsx0_13).1; have := (hsx0_13).2; have := (hsx1_13).1; have := (hsx1_13).2; have := (h_5).1; have := (h_5).2; have := (h_8).1; have := (h_8).2; have := (hx2_13).1; have := (hx2_13).2; have := (hz_10).1; have := (hz_10).2; have := (hz_11).1; have := (hz_11).2; omega)) (show o.toNatClampNeg < D.length from (by have := hRC.1; have : o.toNatClampNeg = o.toInt.toNat := rfl; have := hvo.1; omega)) hk1).mpr q9.2.1; omega))]; exact hct)) _ _ _ hP hD hS (lv_sub hl [0, 1, 2, 3, 4] rfl)
            · have wc_12 : z_10.toInt = z_11.toInt := er_wd hG hz_10 hz_11 c_12
              have h_13 : iv 0 79 x2_13 := ⟨(hx2_13).1, by have := i32_0; have := i32_1; have := i32_2; have := i32_m1; have := (hsx0_13).1; have := (hsx0_13).2; have := (hsx1_13).1; have := (hsx1_13).2; have := (h_5).1; have := (h_5).2; have := (h_8).1; have := (h_8).2; have := (hx2_13).1; have := (hx2_13).2; have := (hz_10).1; have := (hz_10).2; have := (hz_11).1; have := (hz_11).2; omega⟩
              obtain ⟨z_14, ez_14⟩ : ∃ z : Int32, z = x2_13 + 1 := ⟨_, rfl⟩
              have hz_14 : iv 1 80 z_14 := iv_of ez_14 (iv_add h_13 (iv_k (by decide) : iv 1 1 1) (by decide))
              have tz_14 : z_14.toInt = x2_13.toInt + 1 := by rw [ez_14]; exact iv_addE h_13 (iv_k (by decide) : iv 1 1 1) (by decide)
              refine lv_iinc (v := z_14) (lv' := [(2, .int z_14), (4, .int x4_13), (3, eV (ad 9) x3_13), (0, eV (ad 3) x), (1, eV (ad 9) o)]) hx hb dX9_likeBefore_40 hl (k := 2) rfl ez_14.symm (by decide) (by simp [List.filter, eV_cat, cat_i, cat_l]) (fun ls hl => ?_)
              exact hj43 z_14 h_5 h_8 (iv_w hz_14 (by decide)) hsx0_13 hsx1_13 (by have := i32_0; have := i32_1; have := i32_2; have := i32_m1; have := (hsx0_13).1; have := (hsx0_13).2; have := (hsx1_13).1; have := (hsx1_13).2; have := (h_5).1; have := (h_5).2; have := (h_8).1; have := (h_8).2; have := (h_13).1; have := (h_13).2; have := (hz_10).1; have := (hz_10).2; have := (hz_11).1; have := (hz_11).2; have := (hz_14).1; have := (hz_14).2; omega) (h3i) ((by have := h3i; have := i32_0; have := i32_1; have := i32_2; have := i32_m1; have := (hsx0_13).1; have := (hsx0_13).2; have := (hsx1_13).1; have := (hsx1_13).2; have := (h_5).1; have := (h_5).2; have := (h_8).1; have := (h_8).2; have := (h_13).1; have := (h_13).2; have := (hz_10).1; have := (hz_10).2; have := (hz_11).1; have := (hz_11).2; have := (hz_14).1; have := (hz_14).2; omega)) ((by have := congrArg Int32.toInt ez_10; have := congrArg Int32.toInt ez_11; show _ = ((ahD D 0 o.toNatClampNeg x3_13.toNatClampNeg + (if AQD D 0 o.toNatClampNeg x3_13.toNatClampNeg then 1 else 0) : Nat) : Int); rw [if_pos ⟨h3i.2.2.1, (wd_kd hRC (show x3_13.toNatClampNeg < D.length from (by have := hRC.1; have := h3i; have : x3_13.toNatClampNeg = x3_13.toInt.toNat := rfl; have := i32_0; have := i32_1; have := i32_2; have := i32_m1; have := (show iv 0 80 (sg 4) from CI_s hI 4).1; have := (show iv 0 80 (sg 4) from CI_s hI 4).2; have := (hsx0_13).1; have := (hsx0_13).2; have := (hsx1_13).1; have := (hsx1_13).2; have := (h_5).1; have := (h_5).2; have := (h_8).1; have := (h_8).2; have := (h_13).1; have := (h_13).2; have := (hz_10).1; have := (hz_10).2; have := (hz_11).1; have := (hz_11).2; have := (hz_14).1; have := (hz_14).2; omega)) (show o.toNatClampNeg < D.length from (by have := hRC.1; have : o.toNatClampNeg = o.toInt.toNat := rfl; have := hvo.1; omega)) hk1).mp (by have := wc_12; omega), Or.inl rfl⟩]; have := hct; have := tz_14; omega)) _ _ _ hP hD hS (lv_sub hl [1, 2, 0, 3, 4] rfl)
  refine lv_iconst (v := 0) hx hb dX9_likeBefore_0 (by decide) ?_
  refine lv_istore_n (i := 2) (lv' := [(2, .int 0), (0, eV (ad 3) x), (1, eV (ad 9) o)]) hx hb dX9_likeBefore_1 rfl hl (by decide) (by simp [List.filter, eV_cat, cat_i, cat_l]) (fun ls hl => ?_)
  refine ec_aload_n hx hb dX9_likeBefore_2 rfl (lv_at hl 2 rfl) ?_
  refine cr_get (t := 9) (j := 5) (C := RX3) (T := TX3) (N := 21) (v := eV (ad 9) (gm 15 o.toNatClampNeg)) hx hb htb inX3 hown hK hP hvo (by decide) (by decide) (by decide) rfl (by decide) (htb _ kw_515) rfl dX9_likeBefore_3 ?_
  obtain ⟨z_15, ez_15⟩ : ∃ z : Int32, z = (gm 15 o.toNatClampNeg) := ⟨_, rfl⟩
  refine W.eq (g2 := F0 m 6 ls [eV (ad 9) z_15]) (by rw [ez_15]) ?_
  have hz_15 : iv (-1) 79 z_15 := iv_of ez_15 (CI_a hI 15 hvo (by decide))
  have h_16 : iv 0 79 z_15 := ⟨by rw [ez_15]; exact ho0, (hz_15).2⟩
  refine cr_get (t := 9) (j := 6) (C := RX3) (T := TX3) (N := 21) (v := eV (ad 9) (gm 16 z_15.toNatClampNeg)) hx hb htb inX3 hown hK hP h_16 (by decide) (by decide) (by decide) rfl (by decide) (htb _ kw_536) rfl dX9_likeBefore_6 ?_
  obtain ⟨z_17, ez_17⟩ : ∃ z : Int32, z = (gm 16 z_15.toNatClampNeg) := ⟨_, rfl⟩
  refine W.eq (g2 := F0 m 9 ls [eV (ad 9) z_17]) (by rw [ez_17]) ?_
  have hz_17 : iv (-1) 79 z_17 := iv_of ez_17 (CI_a hI 16 h_16 (by decide))
  refine ec_astore_n (i := 3) (lv' := [(3, eV (ad 9) z_17), (2, .int 0), (0, eV (ad 3) x), (1, eV (ad 9) o)]) hx hb dX9_likeBefore_9 rfl hl (by decide) rfl (fun ls hl => ?_)
  refine lv_iconst (v := 0) hx hb dX9_likeBefore_10 (by decide) ?_
  refine lv_istore (i := 4) (lv' := [(4, .int 0), (3, eV (ad 9) z_17), (2, .int 0), (0, eV (ad 3) x), (1, eV (ad 9) o)]) hx hb dX9_likeBefore_11 hl (by decide) (by simp [List.filter, eV_cat, cat_i, cat_l]) (fun ls hl => ?_)
  exact hj13 _ 0 z_17 0 rfl (iv_w (iv_k (by decide) : iv 0 0 0) (by decide)) hz_17 (iv_w (iv_k (by decide) : iv 0 0 0) (by decide)) hvx hvo (by have := i32_0; have := i32_1; have := i32_2; have := i32_m1; have := (hvx).1; have := (hvx).2; have := (hvo).1; have := (hvo).2; have := (h_16).1; have := (h_16).2; have := (hz_17).1; have := (hz_17).2; omega) ((by have q5 := (RDC_f hRC (show o.toNatClampNeg < D.length from (by have := hRC.1; have : o.toNatClampNeg = o.toInt.toNat := rfl; have := hvo.1; omega))).1; have q6 := hRC.2.1 _ (by rw [RDC_n hRC]; exact (show o.toNatClampNeg < D.length from (by have := hRC.1; have : o.toNatClampNeg = o.toInt.toNat := rfl; have := hvo.1; omega))); have q7 := congrArg Int32.toInt ez_15; have q8 : z_15.toNatClampNeg = (dAb D o.toNatClampNeg).toNat := (by show z_15.toInt.toNat = _; omega); obtain ⟨a9, b1, b2, b3, b4⟩ := fi_d hRC (e := z_15.toNatClampNeg) (j := o.toNatClampNeg) (by rw [q8]; have := (show o.toNatClampNeg < D.length from (by have := hRC.1; have : o.toNatClampNeg = o.toInt.toNat := rfl; have := hvo.1; omega)); omega) (show o.toNatClampNeg < D.length from (by have := hRC.1; have : o.toNatClampNeg = o.toInt.toNat := rfl; have := hvo.1; omega)) (by omega); rw [← ez_17] at b1; have c9 : z_17.toNatClampNeg = a9 := (by show z_17.toInt.toNat = a9; omega); have c8 : ((z_15.toNatClampNeg : Nat) : Int) = dAb D o.toNatClampNeg := (by omega); have c7 : o.toNatClampNeg = o.toInt.toNat := rfl; exact ⟨(by omega), (by omega), (by rw [c9, b3]; omega), (by have := i32_0; omega)⟩)) ((by have q5 := (RDC_f hRC (show o.toNatClampNeg < D.length from (by have := hRC.1; have : o.toNatClampNeg = o.toInt.toNat := rfl; have := hvo.1; omega))).1; have q6 := hRC.2.1 _ (by rw [RDC_n hRC]; exact (show o.toNatClampNeg < D.length from (by have := hRC.1; have : o.toNatClampNeg = o.toInt.toNat := rfl; have := hvo.1; omega))); have q7 := congrArg Int32.toInt ez_15; have q8 : z_15.toNatClampNeg = (dAb D o.toNatClampNeg).toNat := (by show z_15.toInt.toNat = _; omega); obtain ⟨a9, b1, b2, b3, b4⟩ := fi_d hRC (e := z_15.toNatClampNeg) (j := o.toNatClampNeg) (by rw [q8]; have := (show o.toNatClampNeg < D.length from (by have := hRC.1; have : o.toNatClampNeg = o.toInt.toNat := rfl; have := hvo.1; omega)); omega) (show o.toNatClampNeg < D.length from (by have := hRC.1; have : o.toNatClampNeg = o.toInt.toNat := rfl; have := hvo.1; omega)) (by omega); rw [← ez_17] at b1; have c9 : z_17.toNatClampNeg = a9 := (by show z_17.toInt.toNat = a9; omega); have c8 : ((z_15.toNatClampNeg : Nat) : Int) = dAb D o.toNatClampNeg := (by omega); have c7 : o.toNatClampNeg = o.toInt.toNat := rfl; rw [c9, ah_sk (a := 0) a9 (Nat.zero_le _) (fun i _ hi => by have := b4 i hi; omega)]; rfl)) _ _ _ hP hD hS (lv_sub hl [0, 1, 2, 3, 4] rfl)
end
section
set_option maxHeartbeats 4000000 in
set_option maxRecDepth 100000 in
theorem d_isFirstOfName2 (l : Launch) (dC : Nat → ClassId) (dI : Nat → Nat → Nat) (ad : Nat → Nat → Nat) (cid : Nat → ClassId) (a2 : Nat → Nat) (lx : List Nat) (sg : Nat → Int32) (gm : Nat → Nat → Int32) (lg : Nat → Nat → Int64) (x : Int32) (o : Int32) (D : List El7) (hI : CI sg gm) (hvx : iv 0 0 x) (hvo : iv 0 79 o) (hFA : FA sg gm) (how : o.toInt < (sg 4).toInt) (hVS : VS sg gm) (hLK : LK sg gm) (ho0 : 0 ≤ (gm 15 o.toNatClampNeg).toInt) (hRC : RDC D sg gm lg) (hk1 : 1 ≤ dKd D o.toNatClampNeg) : CMt dC dI ad cid a2 lx l yX9_isFirstOfName wm_X9_isFirstOfName ({ frames := 2, cells := 1, slots := 6, locals := 47 }) [eV (ad 3) x, eV (ad 9) o] sg gm lg (fun v u => ∃ r : Int32, v = some (.int r) ∧ u = (sg, gm, lg) ∧ (iv 0 1 r) ∧ ((r.toInt = 1 ∧ (FON D o.toNatClampNeg)) ∨ (r.toInt = 0 ∧ ¬ (FON D o.toNatClampNeg)))) (fun _ _ => False) := by
  intro sz
  refine vx_ofW (cc := cX9_isFirstOfName) (maxL := 5) (ret := (some .boolean)) (by decide) rfl ?_
  intro p e s m args below meth c s₁ B hml hxt hv
  obtain ⟨rfl, hsz, hP, hK, hD0, hG⟩ := hv
  have hx := B.exec
  have hb := B.bytes
  have hr := B.returns
  have hts := atoms_spec (ws := wm_X9_isFirstOfName) B.pre
  have htb := fun (w : Cond) (h : w ∈ tb) => hts w (List.mem_cons_of_mem _ h)
  have hown : s.vm.findClass RX9 = some m.cls := findClass_of_methodNamed B.named
  have hlocks := B.notSynchronized
  subst hsz
  have hD := hD0.self (sz := s.heap.size)
  generalize hAe : va_A (cW ad cid a2 lx sg gm lg) s.heap.size = A at hD hG ⊢
  have hA : ∀ q : Nat, s.heap.size ≤ q → A q := fun q h => by rw [← hAe]; exact Or.inr h
  have hS : va_S A s.heap s.heap [] := va_S.rf
  have hl := lv_entry ([eV (ad 3) x, eV (ad 9) o]) (n := 5) (by rw [show (lg_sl ([eV (ad 3) x, eV (ad 9) o])).length = 2 from by simp [lg_sl, eV_cat, cat_i, cat_l]]; exact Nat.le_of_ble_eq_true rfl)
  rw [lg_entry_eq]
  generalize (lg_sl ([eV (ad 3) x, eV (ad 9) o]) ++ List.replicate (5 - (lg_sl ([eV (ad 3) x, eV (ad 9) o])).length) Slot.unset).toArray = ls at hl ⊢
  have hl : lv_has ls 5 [(0, eV (ad 3) x), (1, eV (ad 9) o)] := by simp [lv_args, eV_cat, cat_i, cat_l] at hl; exact hl
  have hj78 : ∀ (x4_78 : Int32) (x3_78 : Int32) (x2_78 : Int32) (_ : iv 0 80 x4_78) (_ : iv (-1) 79 x3_78) (_ : iv (-1) 25 x2_78) (_ : iv 0 0 x) (_ : iv 0 79 o) (_ : FON D o.toNatClampNeg) (H : Heap) (locs : List Loc) (ls : Array Slot), va_P (dC, dI) vwCl (cW ad cid a2 lx sg gm lg) H → va_D A (cW ad cid a2 lx sg gm lg) → va_S A s.heap H locs → lv_has ls 5 [(4, .int x4_78), (3, eV (ad 9) x3_78), (2, .int x2_78), (0, eV (ad 3) x), (1, eV (ad 9) o)] → W p l e (headSpec wm_X9_isFirstOfName ({ frames := 2, cells := 1, slots := 6, locals := 47 })).room s m ([eV (ad 3) x, eV (ad 9) o] : List Value).toArray below meth c H locs 0 0 (vx_MQ below (cQx dC dI ad cid a2 lx (fun v u => ∃ r : Int32, v = some (.int r) ∧ u = (sg, gm, lg) ∧ (iv 0 1 r) ∧ ((r.toInt = 1 ∧ (FON D o.toNatClampNeg)) ∨ (r.toInt = 0 ∧ ¬ (FON D o.toNatClampNeg)))) A) (cX dC dI ad cid a2 lx (fun _ _ => False) A) ([eV (ad 3) x, eV (ad 9) o] : List Value).toArray s 1 6 A) (F0 m 78 ls []) := by
    intro x4_78 x3_78 x2_78 hx4_78 hx3_78 hx2_78 hsx0_78 hsx1_78 u78 H locs ls hP hD hS hl
    refine lv_iconst (v := 1) hx hb dX9_isFirstOfName_78 (by decide) ?_
    exact W.nb (fun hN => W.widen (k := 1) (n := 6) (by decide) (by decide) (vx_ret (W.zret (v := 1) hx hb hr (iv_nb (iv_w (iv_k (by decide) : iv 1 1 1) (by decide))) (fun t ht hW => ⟨⟨some (.int 1), (sg, gm, lg), rfl, ⟨1, rfl, rfl, (iv_w (iv_k (by decide) : iv 1 1 1) (by decide)), (Or.inl ⟨rfl, u78⟩)⟩, by rw [ht]; exact hP, va_K.moved hW.alike hK, hD⟩, hS.F ht, by rw [ht]; exact hN⟩) hS.2.2 dX9_isFirstOfName_79)))
  have hj23 : ∀ (n : Nat) (x4_23 : Int32) (x3_23 : Int32) (x2_23 : Int32) (_ : (80 - x4_23.toInt).toNat = n) (_ : iv 0 80 x4_23) (_ : iv (-1) 79 x3_23) (_ : iv (-1) 25 x2_23) (_ : iv 0 0 x) (_ : iv 0 79 o) (_ : x3_23.toInt < (sg 4).toInt) (_ : 0 ≤ x3_23.toInt ∧ x3_23.toInt ≤ o.toInt ∧ dAb D x3_23.toNatClampNeg = dAb D o.toNatClampNeg ∧ x4_23.toInt ≤ x3_23.toInt) (_ : x2_23.toInt = lv7 (dAt D o.toNatClampNeg) 1851878757) (_ : ∀ k, k < x3_23.toNatClampNeg → dAb D k = dAb D o.toNatClampNeg → dKd D k = dKd D o.toNatClampNeg → ¬ lv7 (dAt D k) 1851878757 = lv7 (dAt D o.toNatClampNeg) 1851878757) (H : Heap) (locs : List Loc) (ls : Array Slot), va_P (dC, dI) vwCl (cW ad cid a2 lx sg gm lg) H → va_D A (cW ad cid a2 lx sg gm lg) → va_S A s.heap H locs → lv_has ls 5 [(4, .int x4_23), (3, eV (ad 9) x3_23), (2, .int x2_23), (0, eV (ad 3) x), (1, eV (ad 9) o)] → W p l e (headSpec wm_X9_isFirstOfName ({ frames := 2, cells := 1, slots := 6, locals := 47 })).room s m ([eV (ad 3) x, eV (ad 9) o] : List Value).toArray below meth c H locs 0 0 (vx_MQ below (cQx dC dI ad cid a2 lx (fun v u => ∃ r : Int32, v = some (.int r) ∧ u = (sg, gm, lg) ∧ (iv 0 1 r) ∧ ((r.toInt = 1 ∧ (FON D o.toNatClampNeg)) ∨ (r.toInt = 0 ∧ ¬ (FON D o.toNatClampNeg)))) A) (cX dC dI ad cid a2 lx (fun _ _ => False) A) ([eV (ad 3) x, eV (ad 9) o] : List Value).toArray s 1 6 A) (F0 m 23 ls []) := by
    intro n
    induction n using Nat.strongRecOn with
    | ind n ih23 =>
      intro x4_23 x3_23 x2_23 hn23 hx4_23 hx3_23 hx2_23 hsx0_23 hsx1_23 hl3 h3i h2l hnf H locs ls hP hD hS hl
      have hj67 : ∀ (_ : iv 0 79 x4_23) (_ : iv 0 79 x3_23) (_ : iv (-1) 25 x2_23) (_ : iv 0 0 x) (_ : iv 0 79 o) (_ : x3_23.toInt < (sg 4).toInt) (_ : 0 ≤ x3_23.toInt ∧ x3_23.toInt ≤ o.toInt ∧ dAb D x3_23.toNatClampNeg = dAb D o.toNatClampNeg ∧ x4_23.toInt ≤ x3_23.toInt) (_ : x3_23.toInt < o.toInt) (_ : x2_23.toInt = lv7 (dAt D o.toNatClampNeg) 1851878757) (_ : ∀ k, k < x3_23.toNatClampNeg + 1 → dAb D k = dAb D o.toNatClampNeg → dKd D k = dKd D o.toNatClampNeg → ¬ lv7 (dAt D k) 1851878757 = lv7 (dAt D o.toNatClampNeg) 1851878757) (H : Heap) (locs : List Loc) (ls : Array Slot), va_P (dC, dI) vwCl (cW ad cid a2 lx sg gm lg) H → va_D A (cW ad cid a2 lx sg gm lg) → va_S A s.heap H locs → lv_has ls 5 [(4, .int x4_23), (3, eV (ad 9) x3_23), (2, .int x2_23), (0, eV (ad 3) x), (1, eV (ad 9) o)] → W p l e (headSpec wm_X9_isFirstOfName ({ frames := 2, cells := 1, slots := 6, locals := 47 })).room s m ([eV (ad 3) x, eV (ad 9) o] : List Value).toArray below meth c H locs 0 0 (vx_MQ below (cQx dC dI ad cid a2 lx (fun v u => ∃ r : Int32, v = some (.int r) ∧ u = (sg, gm, lg) ∧ (iv 0 1 r) ∧ ((r.toInt = 1 ∧ (FON D o.toNatClampNeg)) ∨ (r.toInt = 0 ∧ ¬ (FON D o.toNatClampNeg)))) A) (cX dC dI ad cid a2 lx (fun _ _ => False) A) ([eV (ad 3) x, eV (ad 9) o] : List Value).toArray s 1 6 A) (F0 m 67 ls []) := by
        intro  hsx4_67 hsx3_67 hsx2_67 hsx0_67 hsx1_67 hl3 h3i hlt h2l hnf H locs ls hP hD hS hl
        refine ec_aload_n hx hb dX9_isFirstOfName_67 rfl (lv_at hl 1 rfl) ?_
        refine cr_get (t := 9) (j := 7) (C := RX3) (T := TX3) (N := 21) (v := eV (ad 9) (gm 17 x3_23.toNatClampNeg)) hx hb htb inX3 hown hK hP hsx3_67 (by decide) (by decide) (by decide) rfl (by decide) (htb _ kw_537) rfl dX9_isFirstOfName_68 ?_
        obtain ⟨z_1, ez_1⟩ : ∃ z : Int32, z = (gm 17 x3_23.toNatClampNeg) := ⟨_, rfl⟩
        refine W.eq (g2 := F0 m 71 ls [eV (ad 9) z_1]) (by rw [ez_1]) ?_
        have hz_1 : iv (-1) 79 z_1 := iv_of ez_1 (CI_a hI 17 hsx3_67 (by decide))
        refine ec_astore_n (i := 3) (lv' := [(3, eV (ad 9) z_1), (4, .int x4_23), (2, .int x2_23), (0, eV (ad 3) x), (1, eV (ad 9) o)]) hx hb dX9_isFirstOfName_71 rfl hl (by decide) rfl (fun ls hl => ?_)
        obtain ⟨z_2, ez_2⟩ : ∃ z : Int32, z = x4_23 + 1 := ⟨_, rfl⟩
        have hz_2 : iv 1 80 z_2 := iv_of ez_2 (iv_add hsx4_67 (iv_k (by decide) : iv 1 1 1) (by decide))
        have tz_2 : z_2.toInt = x4_23.toInt + 1 := by rw [ez_2]; exact iv_addE hsx4_67 (iv_k (by decide) : iv 1 1 1) (by decide)
        refine lv_iinc (v := z_2) (lv' := [(4, .int z_2), (3, eV (ad 9) z_1), (2, .int x2_23), (0, eV (ad 3) x), (1, eV (ad 9) o)]) hx hb dX9_isFirstOfName_72 hl (k := 1) rfl ez_2.symm (by decide) (by simp [List.filter, eV_cat, cat_i, cat_l]) (fun ls hl => ?_)
        refine lv_goto (tgt := 23) hx hb dX9_isFirstOfName_75 (by decide) ?_
        exact ih23 _ (by rw [← hn23]; exact (iv_meas tz_2 hsx4_67 (by decide))) z_2 z_1 x2_23 rfl (iv_w hz_2 (by decide)) hz_1 hsx2_67 hsx0_67 hsx1_67 ((by rw [ez_1]; exact (hLK _ (lt_cl hsx3_67 (show iv 0 80 (sg 4) from CI_s hI 4) (by decide) (by decide) (by have := i32_0; have := i32_1; have := i32_2; have := i32_m1; have := (show iv 0 80 (sg 4) from CI_s hI 4).1; have := (show iv 0 80 (sg 4) from CI_s hI 4).2; have := (hsx0_67).1; have := (hsx0_67).2; have := (hsx1_67).1; have := (hsx1_67).2; have := (hsx4_67).1; have := (hsx4_67).2; have := (hsx3_67).1; have := (hsx3_67).2; have := (hsx2_67).1; have := (hsx2_67).2; have := (hz_1).1; have := (hz_1).2; have := (hz_2).1; have := (hz_2).2; omega))).2.2.1)) ((by have c7 : o.toNatClampNeg = o.toInt.toNat := rfl; have c6 : x3_23.toNatClampNeg = x3_23.toInt.toNat := rfl; obtain ⟨a9, b1, b2, b3, b4, b5⟩ := nx_d hRC (k := x3_23.toNatClampNeg) (j := o.toNatClampNeg) (show x3_23.toNatClampNeg < D.length from (by have := hRC.1; have := h3i; have : x3_23.toNatClampNeg = x3_23.toInt.toNat := rfl; have := i32_0; have := i32_1; have := i32_2; have := i32_m1; have := (show iv 0 80 (sg 4) from CI_s hI 4).1; have := (show iv 0 80 (sg 4) from CI_s hI 4).2; have := (hsx0_67).1; have := (hsx0_67).2; have := (hsx1_67).1; have := (hsx1_67).2; have := (hsx4_67).1; have := (hsx4_67).2; have := (hsx3_67).1; have := (hsx3_67).2; have := (hsx2_67).1; have := (hsx2_67).2; have := (hz_1).1; have := (hz_1).2; have := (hz_2).1; have := (hz_2).2; omega)) (show o.toNatClampNeg < D.length from (by have := hRC.1; have : o.toNatClampNeg = o.toInt.toNat := rfl; have := hvo.1; omega)) (by have := h3i; have := hlt; omega) h3i.2.2.1.symm; rw [← ez_1] at b1; have c9 : z_1.toNatClampNeg = a9 := (by show z_1.toInt.toNat = a9; omega); exact ⟨(by omega), (by omega), (by rw [c9, b4]; exact h3i.2.2.1), (by have := h3i; have := i32_0; have := i32_1; have := i32_2; have := i32_m1; have := (hsx0_67).1; have := (hsx0_67).2; have := (hsx1_67).1; have := (hsx1_67).2; have := (hsx4_67).1; have := (hsx4_67).2; have := (hsx3_67).1; have := (hsx3_67).2; have := (hsx2_67).1; have := (hsx2_67).2; have := (hz_1).1; have := (hz_1).2; have := (hz_2).1; have := (hz_2).2; omega)⟩)) (h2l) ((by have c7 : o.toNatClampNeg = o.toInt.toNat := rfl; have c6 : x3_23.toNatClampNeg = x3_23.toInt.toNat := rfl; obtain ⟨a9, b1, b2, b3, b4, b5⟩ := nx_d hRC (k := x3_23.toNatClampNeg) (j := o.toNatClampNeg) (show x3_23.toNatClampNeg < D.length from (by have := hRC.1; have := h3i; have : x3_23.toNatClampNeg = x3_23.toInt.toNat := rfl; have := i32_0; have := i32_1; have := i32_2; have := i32_m1; have := (show iv 0 80 (sg 4) from CI_s hI 4).1; have := (show iv 0 80 (sg 4) from CI_s hI 4).2; have := (hsx0_67).1; have := (hsx0_67).2; have := (hsx1_67).1; have := (hsx1_67).2; have := (hsx4_67).1; have := (hsx4_67).2; have := (hsx3_67).1; have := (hsx3_67).2; have := (hsx2_67).1; have := (hsx2_67).2; have := (hz_1).1; have := (hz_1).2; have := (hz_2).1; have := (hz_2).2; omega)) (show o.toNatClampNeg < D.length from (by have := hRC.1; have : o.toNatClampNeg = o.toInt.toNat := rfl; have := hvo.1; omega)) (by have := h3i; have := hlt; omega) h3i.2.2.1.symm; rw [← ez_1] at b1; have c9 : z_1.toNatClampNeg = a9 := (by show z_1.toInt.toNat = a9; omega); intro k hk q1 q2; rw [c9] at hk; by_cases hq : k < x3_23.toNatClampNeg + 1; exact hnf k hq q1 q2; exact absurd (q1.trans h3i.2.2.1.symm) (b5 k (by omega) hk))) _ _ _ hP hD hS (lv_sub hl [0, 1, 2, 3, 4] rfl)
      refine lv_iload hx hb dX9_isFirstOfName_23 (lv_at hl 0 rfl) ?_
      refine lv_bipush (v := 80) hx hb dX9_isFirstOfName_25 (by decide) ?_
      refine lv_icmp_ge (tgt := 78) hx hb dX9_isFirstOfName_27 (by decide) (fun c_3 => ?_) (fun c_3 => ?_)
      · have h_4 : iv 80 80 x4_23 := iv_leR c_3 (iv_k (by decide) : iv 80 80 80) hx4_23 (by decide)
        exact hj78 x4_23 x3_23 x2_23 (iv_w h_4 (by decide)) hx3_23 hx2_23 hsx0_23 hsx1_23 ((by exfalso; have := h3i; have := i32_0; have := i32_1; have := i32_2; have := i32_m1; have := (hsx0_23).1; have := (hsx0_23).2; have := (hsx1_23).1; have := (hsx1_23).2; have := (h_4).1; have := (h_4).2; have := (hx3_23).1; have := (hx3_23).2; have := (hx2_23).1; have := (hx2_23).2; omega)) _ _ _ hP hD hS (lv_sub hl [0, 1, 2, 3, 4] rfl)
      · have h_5 : iv 0 79 x4_23 := iv_ltL (i32_lt c_3) hx4_23 (iv_k (by decide) : iv 80 80 80) (by decide)
        refine ec_aload_n hx hb dX9_isFirstOfName_30 rfl (lv_at hl 1 rfl) ?_
        refine ec_ifnull (tgt := 78) hx hb dX9_isFirstOfName_31 (by decide) (fun c_6 => ?_) (fun c_6 => ?_)
        · have h_7 : iv (-1) (-1) x3_23 := ⟨(hx3_23).1, by omega⟩
          exact hj78 x4_23 x3_23 x2_23 (iv_w h_5 (by decide)) (iv_w h_7 (by decide)) hx2_23 hsx0_23 hsx1_23 ((by exfalso; have := h3i; have := i32_0; have := i32_1; have := i32_2; have := i32_m1; have := (hsx0_23).1; have := (hsx0_23).2; have := (hsx1_23).1; have := (hsx1_23).2; have := (h_5).1; have := (h_5).2; have := (h_7).1; have := (h_7).2; have := (hx2_23).1; have := (hx2_23).2; omega)) _ _ _ hP hD hS (lv_sub hl [0, 1, 2, 3, 4] rfl)
        · have h_8 : iv 0 79 x3_23 := ⟨c_6, (hx3_23).2⟩
          refine ec_aload_n hx hb dX9_isFirstOfName_34 rfl (lv_at hl 1 rfl) ?_
          refine ec_aload_n hx hb dX9_isFirstOfName_35 rfl (lv_at hl 4 rfl) ?_
          refine ec_acmp_eq (tgt := 78) hx hb dX9_isFirstOfName_36 (by decide) (fun c_9 => ?_) (fun c_9 => ?_)
          · have wc_9 : x3_23.toInt = o.toInt := er_in hD (t := 9) (by decide) (by have := (h_8).1; omega) (show _ < 80 by have := (h_8).2; omega) (by have := (hsx1_23).1; omega) (show _ < 80 by have := (hsx1_23).2; omega) c_9
            exact hj78 x4_23 x3_23 x2_23 (iv_w h_5 (by decide)) (iv_w h_8 (by decide)) hx2_23 hsx0_23 hsx1_23 ((by have q9 : x3_23.toNatClampNeg = o.toNatClampNeg := (by show x3_23.toInt.toNat = o.toInt.toNat; rw [wc_9]); rw [q9] at hnf; exact hnf)) _ _ _ hP hD hS (lv_sub hl [0, 1, 2, 3, 4] rfl)
          · have wc_9 : ¬ x3_23.toInt = o.toInt := fun q9 => c_9 (congrArg (er (ad 9)) (Int32.toInt_inj.mp q9))
            refine ec_aload_n hx hb dX9_isFirstOfName_39 rfl (lv_at hl 1 rfl) ?_
            refine cr_get (t := 9) (j := 4) (C := RX3) (T := TX3) (N := 21) (v := eV (ad 33) (gm 14 x3_23.toNatClampNeg)) hx hb htb inX3 hown hK hP h_8 (by decide) (by decide) (by decide) rfl (by decide) (htb _ kw_508) rfl dX9_isFirstOfName_40 ?_
            obtain ⟨z_10, ez_10⟩ : ∃ z : Int32, z = (gm 14 x3_23.toNatClampNeg) := ⟨_, rfl⟩
            refine W.eq (g2 := F0 m 43 ls [eV (ad 33) z_10]) (by rw [ez_10]) ?_
            have hz_10 : iv (-1) 33 z_10 := iv_of ez_10 (CI_a hI 14 h_8 (by decide))
            refine ec_aload_n hx hb dX9_isFirstOfName_43 rfl (lv_at hl 4 rfl) ?_
            refine cr_get (t := 9) (j := 4) (C := RX3) (T := TX3) (N := 21) (v := eV (ad 33) (gm 14 o.toNatClampNeg)) hx hb htb inX3 hown hK hP hsx1_23 (by decide) (by decide) (by decide) rfl (by decide) (htb _ kw_508) rfl dX9_isFirstOfName_44 ?_
            obtain ⟨z_11, ez_11⟩ : ∃ z : Int32, z = (gm 14 o.toNatClampNeg) := ⟨_, rfl⟩
            refine W.eq (g2 := F0 m 47 ls [eV (ad 33) z_11, eV (ad 33) z_10]) (by rw [ez_11]) ?_
            have hz_11 : iv (-1) 33 z_11 := iv_of ez_11 (CI_a hI 14 hsx1_23 (by decide))
            refine ec_acmp_ne (tgt := 67) hx hb dX9_isFirstOfName_47 (by decide) (fun c_12 => ?_) (fun c_12 => ?_)
            · have wc_12 : ¬ z_10.toInt = z_11.toInt := fun q9 => c_12 (congrArg (er (ad 33)) (Int32.toInt_inj.mp q9))
              exact hj67 h_5 h_8 hx2_23 hsx0_23 hsx1_23 (hl3) (h3i) ((by have := h3i; have := i32_0; have := i32_1; have := i32_2; have := i32_m1; have := (hsx0_23).1; have := (hsx0_23).2; have := (hsx1_23).1; have := (hsx1_23).2; have := (h_5).1; have := (h_5).2; have := (h_8).1; have := (h_8).2; have := (hx2_23).1; have := (hx2_23).2; have := (hz_10).1; have := (hz_10).2; have := (hz_11).1; have := (hz_11).2; omega)) (h2l) ((fun k hk q1 q2 => by by_cases hq : k = x3_23.toNatClampNeg; (subst hq; exact absurd (by have := (wd_kd hRC (show x3_23.toNatClampNeg < D.length from (by have := hRC.1; have := h3i; have : x3_23.toNatClampNeg = x3_23.toInt.toNat := rfl; have := i32_0; have := i32_1; have := i32_2; have := i32_m1; have := (show iv 0 80 (sg 4) from CI_s hI 4).1; have := (show iv 0 80 (sg 4) from CI_s hI 4).2; have := (hsx0_23).1; have := (hsx0_23).2; have := (hsx1_23).1; have := (hsx1_23).2; have := (h_5).1; have := (h_5).2; have := (h_8).1; have := (h_8).2; have := (hx2_23).1; have := (hx2_23).2; have := (hz_10).1; have := (hz_10).2; have := (hz_11).1; have := (hz_11).2; omega)) (show o.toNatClampNeg < D.length from (by have := hRC.1; have : o.toNatClampNeg = o.toInt.toNat := rfl; have := hvo.1; omega)) hk1).mpr q2; have := congrArg Int32.toInt ez_10; have := congrArg Int32.toInt ez_11; omega) wc_12); exact hnf k (by omega) q1 q2)) _ _ _ hP hD hS (lv_sub hl [0, 1, 2, 3, 4] rfl)
            · have wc_12 : z_10.toInt = z_11.toInt := er_wd hG hz_10 hz_11 c_12
              refine ec_aload_n hx hb dX9_isFirstOfName_50 rfl (lv_at hl 3 rfl) ?_
              refine cr_get (t := 3) (j := 0) (C := RX9) (T := TX9) (N := 1) (v := eV (ad 1) 0) hx hb htb inX9 hown hK hP hsx0_23 (by decide) (by decide) (by decide) rfl (by decide) (htb _ kw_82) (cV_c rfl (by decide) (by rw [show cMu 3 0 = 0 from rfl, Nat.zero_mul]; rfl)) dX9_isFirstOfName_51 ?_
              refine ec_aload_n hx hb dX9_isFirstOfName_54 rfl (lv_at hl 1 rfl) ?_
              refine cw_word (k := 21) (kx := 21) hx hb hG hS (by decide) rfl ⟨by decide, by decide⟩ hown (htb _ kw_541) dX9_isFirstOfName_55 ?_
              refine cm_callV (t := 1) (C := RX6) (T := TX6) (N := 8) (rest := []) (as := [eV (ad 9) x3_23, eV (ad 33) 21]) ⟨hx, hb, hml, hown, htb⟩ (d_letterValue2 l dC dI ad cid a2 lx sg gm lg 0 x3_23 21 (dAt D x3_23.toNatClampNeg) hI (iv_k (by decide) : iv 0 0 0) h_8 (iv_w (iv_k (by decide) : iv 21 21 21) (by decide)) hFA (by have := i32_0; have := i32_1; have := i32_2; have := i32_m1; have := (show iv 0 80 (sg 4) from CI_s hI 4).1; have := (show iv 0 80 (sg 4) from CI_s hI 4).2; have := (hsx0_23).1; have := (hsx0_23).2; have := (hsx1_23).1; have := (hsx1_23).2; have := (h_5).1; have := (h_5).2; have := (h_8).1; have := (h_8).2; have := (hx2_23).1; have := (hx2_23).2; have := (hz_10).1; have := (hz_10).2; have := (hz_11).1; have := (hz_11).2; omega) hVS ((EV_of hRC (show x3_23.toNatClampNeg < D.length from (by have := hRC.1; have := h3i; have : x3_23.toNatClampNeg = x3_23.toInt.toNat := rfl; have := i32_0; have := i32_1; have := i32_2; have := i32_m1; have := (show iv 0 80 (sg 4) from CI_s hI 4).1; have := (show iv 0 80 (sg 4) from CI_s hI 4).2; have := (hsx0_23).1; have := (hsx0_23).2; have := (hsx1_23).1; have := (hsx1_23).2; have := (h_5).1; have := (h_5).2; have := (h_8).1; have := (h_8).2; have := (hx2_23).1; have := (hx2_23).2; have := (hz_10).1; have := (hz_10).2; have := (hz_11).1; have := (hz_11).2; omega))).2.1)) (cwV 2 htb (gd_V kw_542 kw_543 kw_544 kw_20 kw_1466) rfl rfl rfl (by decide +kernel) ⟨Nat.le_of_ble_eq_true rfl, Nat.le_of_ble_eq_true rfl⟩) (iv_k (by decide) : iv 0 0 0) (by decide) (by decide) rfl rfl hl.1 rfl (Nat.le_trans cs_n (by decide)) dX9_isFirstOfName_58 ⟨Nat.le_of_ble_eq_true rfl, Nat.le_of_ble_eq_true rfl⟩ hK hP hD hS hA hG (fun E ce q9 u_14 H locs hw hP hD hS hce hcv hcl => ?_) (fun v9 u_14 H locs hw hP hD hS => ?_)
              · exact hw.elim
              obtain ⟨r_13, rfl, rfl, hr_13, fL_r_13⟩ := hw
              have hP : va_P (dC, dI) vwCl (cW ad cid a2 lx sg gm lg) H := hP
              have hD : va_D A (cW ad cid a2 lx sg gm lg) := hD
              refine W.eq (g2 := F0 m 61 ls [.int r_13]) rfl ?_
              have gL_r_13 : r_13.toInt = lv7 (dAt D x3_23.toNatClampNeg) 1851878757 := by have q9 := fL_r_13; rw [show wKy.getD (21 : Int32).toNatClampNeg 0 = 1851878757 from by decide] at q9; exact q9
              refine lv_iload_n hx hb dX9_isFirstOfName_61 rfl (lv_at hl 2 rfl) ?_
              refine lv_icmp_ne (tgt := 67) hx hb dX9_isFirstOfName_62 (by decide) (fun c_16 => ?_) (fun c_16 => ?_)
              · exact hj67 h_5 h_8 hx2_23 hsx0_23 hsx1_23 (hl3) (h3i) ((by have := h3i; have := i32_0; have := i32_1; have := i32_2; have := i32_m1; have := (hsx0_23).1; have := (hsx0_23).2; have := (hsx1_23).1; have := (hsx1_23).2; have := (h_5).1; have := (h_5).2; have := (h_8).1; have := (h_8).2; have := (hx2_23).1; have := (hx2_23).2; have := (hz_10).1; have := (hz_10).2; have := (hz_11).1; have := (hz_11).2; have := (hr_13).1; have := (hr_13).2; omega)) (h2l) ((fun k hk q1 q2 => by by_cases hq : k = x3_23.toNatClampNeg; (subst hq; intro q3; have g9 := gL_r_13; rw [q3, ← h2l] at g9; exact c_16 (Int32.toInt_inj.mp g9)); exact hnf k (by omega) q1 q2)) _ _ _ hP hD hS (lv_sub hl [0, 1, 2, 3, 4] rfl)
              · have d_17 : (r_13 : Int32).toInt = (x2_23 : Int32).toInt := congrArg Int32.toInt c_16
                refine lv_iconst (v := 0) hx hb dX9_isFirstOfName_65 (by decide) ?_
                exact W.nb (fun hN => W.widen (k := 1) (n := 6) (by decide) (by decide) (vx_ret (W.zret (v := 0) hx hb hr (iv_nb (iv_w (iv_k (by decide) : iv 0 0 0) (by decide))) (fun t ht hW => ⟨⟨some (.int 0), (sg, gm, lg), rfl, ⟨0, rfl, rfl, (iv_w (iv_k (by decide) : iv 0 0 0) (by decide)), (Or.inr ⟨rfl, fun h => h x3_23.toNatClampNeg (by have := h3i; have : x3_23.toNatClampNeg = x3_23.toInt.toNat := rfl; have : o.toNatClampNeg = o.toInt.toNat := rfl; have := i32_0; have := i32_1; have := i32_2; have := i32_m1; have := (hsx0_23).1; have := (hsx0_23).2; have := (hsx1_23).1; have := (hsx1_23).2; have := (h_5).1; have := (h_5).2; have := (h_8).1; have := (h_8).2; have := (hx2_23).1; have := (hx2_23).2; have := (hz_10).1; have := (hz_10).2; have := (hz_11).1; have := (hz_11).2; have := (hr_13).1; have := (hr_13).2; omega) h3i.2.2.1 ((wd_kd hRC (show x3_23.toNatClampNeg < D.length from (by have := hRC.1; have := h3i; have : x3_23.toNatClampNeg = x3_23.toInt.toNat := rfl; have := i32_0; have := i32_1; have := i32_2; have := i32_m1; have := (show iv 0 80 (sg 4) from CI_s hI 4).1; have := (show iv 0 80 (sg 4) from CI_s hI 4).2; have := (hsx0_23).1; have := (hsx0_23).2; have := (hsx1_23).1; have := (hsx1_23).2; have := (h_5).1; have := (h_5).2; have := (h_8).1; have := (h_8).2; have := (hx2_23).1; have := (hx2_23).2; have := (hz_10).1; have := (hz_10).2; have := (hz_11).1; have := (hz_11).2; have := (hr_13).1; have := (hr_13).2; omega)) (show o.toNatClampNeg < D.length from (by have := hRC.1; have : o.toNatClampNeg = o.toInt.toNat := rfl; have := hvo.1; omega)) hk1).mp (by have := wc_12; have := congrArg Int32.toInt ez_10; have := congrArg Int32.toInt ez_11; omega)) (by rw [← gL_r_13, ← h2l]; have := i32_0; have := i32_1; have := i32_2; have := i32_m1; have := (hsx0_23).1; have := (hsx0_23).2; have := (hsx1_23).1; have := (hsx1_23).2; have := (h_5).1; have := (h_5).2; have := (h_8).1; have := (h_8).2; have := (hx2_23).1; have := (hx2_23).2; have := (hz_10).1; have := (hz_10).2; have := (hz_11).1; have := (hz_11).2; have := (hr_13).1; have := (hr_13).2; omega)⟩)⟩, by rw [ht]; exact hP, va_K.moved hW.alike hK, hD⟩, hS.F ht, by rw [ht]; exact hN⟩) hS.2.2 dX9_isFirstOfName_66)))
  refine ec_aload_n hx hb dX9_isFirstOfName_0 rfl (lv_at hl 0 rfl) ?_
  refine cr_get (t := 3) (j := 0) (C := RX9) (T := TX9) (N := 1) (v := eV (ad 1) 0) hx hb htb inX9 hown hK hP hvx (by decide) (by decide) (by decide) rfl (by decide) (htb _ kw_82) (cV_c rfl (by decide) (by rw [show cMu 3 0 = 0 from rfl, Nat.zero_mul]; rfl)) dX9_isFirstOfName_1 ?_
  refine ec_aload_n hx hb dX9_isFirstOfName_4 rfl (lv_at hl 1 rfl) ?_
  refine cw_word (k := 21) (kx := 21) hx hb hG hS (by decide) rfl ⟨by decide, by decide⟩ hown (htb _ kw_541) dX9_isFirstOfName_5 ?_
  refine cm_callV (t := 1) (C := RX6) (T := TX6) (N := 8) (rest := []) (as := [eV (ad 9) o, eV (ad 33) 21]) ⟨hx, hb, hml, hown, htb⟩ (d_letterValue2 l dC dI ad cid a2 lx sg gm lg 0 o 21 (dAt D o.toNatClampNeg) hI (iv_k (by decide) : iv 0 0 0) hvo (iv_w (iv_k (by decide) : iv 21 21 21) (by decide)) hFA how hVS ((EV_of hRC (show o.toNatClampNeg < D.length from (by have := hRC.1; have : o.toNatClampNeg = o.toInt.toNat := rfl; have := hvo.1; omega))).2.1)) (cwV 2 htb (gd_V kw_542 kw_543 kw_544 kw_20 kw_1466) rfl rfl rfl (by decide +kernel) ⟨Nat.le_of_ble_eq_true rfl, Nat.le_of_ble_eq_true rfl⟩) (iv_k (by decide) : iv 0 0 0) (by decide) (by decide) rfl rfl hl.1 rfl (Nat.le_trans cs_n (by decide)) dX9_isFirstOfName_8 ⟨Nat.le_of_ble_eq_true rfl, Nat.le_of_ble_eq_true rfl⟩ hK hP hD hS hA hG (fun E ce q9 u_19 H locs hw hP hD hS hce hcv hcl => ?_) (fun v9 u_19 H locs hw hP hD hS => ?_)
  · exact hw.elim
  obtain ⟨r_18, rfl, rfl, hr_18, fL_r_18⟩ := hw
  have hP : va_P (dC, dI) vwCl (cW ad cid a2 lx sg gm lg) H := hP
  have hD : va_D A (cW ad cid a2 lx sg gm lg) := hD
  refine W.eq (g2 := F0 m 11 ls [.int r_18]) rfl ?_
  have gL_r_18 : r_18.toInt = lv7 (dAt D o.toNatClampNeg) 1851878757 := by have q9 := fL_r_18; rw [show wKy.getD (21 : Int32).toNatClampNeg 0 = 1851878757 from by decide] at q9; exact q9
  refine lv_istore_n (i := 2) (lv' := [(2, .int r_18), (0, eV (ad 3) x), (1, eV (ad 9) o)]) hx hb dX9_isFirstOfName_11 rfl hl (by decide) (by simp [List.filter, eV_cat, cat_i, cat_l]) (fun ls hl => ?_)
  refine ec_aload_n hx hb dX9_isFirstOfName_12 rfl (lv_at hl 2 rfl) ?_
  refine cr_get (t := 9) (j := 5) (C := RX3) (T := TX3) (N := 21) (v := eV (ad 9) (gm 15 o.toNatClampNeg)) hx hb htb inX3 hown hK hP hvo (by decide) (by decide) (by decide) rfl (by decide) (htb _ kw_515) rfl dX9_isFirstOfName_13 ?_
  obtain ⟨z_21, ez_21⟩ : ∃ z : Int32, z = (gm 15 o.toNatClampNeg) := ⟨_, rfl⟩
  refine W.eq (g2 := F0 m 16 ls [eV (ad 9) z_21]) (by rw [ez_21]) ?_
  have hz_21 : iv (-1) 79 z_21 := iv_of ez_21 (CI_a hI 15 hvo (by decide))
  have h_22 : iv 0 79 z_21 := ⟨by rw [ez_21]; exact ho0, (hz_21).2⟩
  refine cr_get (t := 9) (j := 6) (C := RX3) (T := TX3) (N := 21) (v := eV (ad 9) (gm 16 z_21.toNatClampNeg)) hx hb htb inX3 hown hK hP h_22 (by decide) (by decide) (by decide) rfl (by decide) (htb _ kw_536) rfl dX9_isFirstOfName_16 ?_
  obtain ⟨z_23, ez_23⟩ : ∃ z : Int32, z = (gm 16 z_21.toNatClampNeg) := ⟨_, rfl⟩
  refine W.eq (g2 := F0 m 19 ls [eV (ad 9) z_23]) (by rw [ez_23]) ?_
  have hz_23 : iv (-1) 79 z_23 := iv_of ez_23 (CI_a hI 16 h_22 (by decide))
  refine ec_astore_n (i := 3) (lv' := [(3, eV (ad 9) z_23), (2, .int r_18), (0, eV (ad 3) x), (1, eV (ad 9) o)]) hx hb dX9_isFirstOfName_19 rfl hl (by decide) rfl (fun ls hl => ?_)
  refine lv_iconst (v := 0) hx hb dX9_isFirstOfName_20 (by decide) ?_
  refine lv_istore (i := 4) (lv' := [(4, .int 0), (3, eV (ad 9) z_23), (2, .int r_18), (0, eV (ad 3) x), (1, eV (ad 9) o)]) hx hb dX9_isFirstOfName_21 hl (by decide) (by simp [List.filter, eV_cat, cat_i, cat_l]) (fun ls hl => ?_)
  exact hj23 _ 0 z_23 r_18 rfl (iv_w (iv_k (by decide) : iv 0 0 0) (by decide)) hz_23 hr_18 hvx hvo ((by rw [ez_23]; exact (hLK _ (lt_cl h_22 (show iv 0 80 (sg 4) from CI_s hI 4) (by decide) (by decide) (by rw [ez_21]; exact (hLK _ (lt_cl hvo (show iv 0 80 (sg 4) from CI_s hI 4) (by decide) (by decide) how)).1))).2.1)) ((by have q5 := (RDC_f hRC (show o.toNatClampNeg < D.length from (by have := hRC.1; have : o.toNatClampNeg = o.toInt.toNat := rfl; have := hvo.1; omega))).1; have q6 := hRC.2.1 _ (by rw [RDC_n hRC]; exact (show o.toNatClampNeg < D.length from (by have := hRC.1; have : o.toNatClampNeg = o.toInt.toNat := rfl; have := hvo.1; omega))); have q7 := congrArg Int32.toInt ez_21; have q8 : z_21.toNatClampNeg = (dAb D o.toNatClampNeg).toNat := (by show z_21.toInt.toNat = _; omega); obtain ⟨a9, b1, b2, b3, b4⟩ := fi_d hRC (e := z_21.toNatClampNeg) (j := o.toNatClampNeg) (by rw [q8]; have := (show o.toNatClampNeg < D.length from (by have := hRC.1; have : o.toNatClampNeg = o.toInt.toNat := rfl; have := hvo.1; omega)); omega) (show o.toNatClampNeg < D.length from (by have := hRC.1; have : o.toNatClampNeg = o.toInt.toNat := rfl; have := hvo.1; omega)) (by omega); rw [← ez_23] at b1; have c9 : z_23.toNatClampNeg = a9 := (by show z_23.toInt.toNat = a9; omega); have c8 : ((z_21.toNatClampNeg : Nat) : Int) = dAb D o.toNatClampNeg := (by omega); have c7 : o.toNatClampNeg = o.toInt.toNat := rfl; exact ⟨(by omega), (by omega), (by rw [c9, b3]; omega), (by have := i32_0; omega)⟩)) (gL_r_18) ((by have q5 := (RDC_f hRC (show o.toNatClampNeg < D.length from (by have := hRC.1; have : o.toNatClampNeg = o.toInt.toNat := rfl; have := hvo.1; omega))).1; have q6 := hRC.2.1 _ (by rw [RDC_n hRC]; exact (show o.toNatClampNeg < D.length from (by have := hRC.1; have : o.toNatClampNeg = o.toInt.toNat := rfl; have := hvo.1; omega))); have q7 := congrArg Int32.toInt ez_21; have q8 : z_21.toNatClampNeg = (dAb D o.toNatClampNeg).toNat := (by show z_21.toInt.toNat = _; omega); obtain ⟨a9, b1, b2, b3, b4⟩ := fi_d hRC (e := z_21.toNatClampNeg) (j := o.toNatClampNeg) (by rw [q8]; have := (show o.toNatClampNeg < D.length from (by have := hRC.1; have : o.toNatClampNeg = o.toInt.toNat := rfl; have := hvo.1; omega)); omega) (show o.toNatClampNeg < D.length from (by have := hRC.1; have : o.toNatClampNeg = o.toInt.toNat := rfl; have := hvo.1; omega)) (by omega); rw [← ez_23] at b1; have c9 : z_23.toNatClampNeg = a9 := (by show z_23.toInt.toNat = a9; omega); have c8 : ((z_21.toNatClampNeg : Nat) : Int) = dAb D o.toNatClampNeg := (by omega); have c7 : o.toNatClampNeg = o.toInt.toNat := rfl; intro k hk q1; rw [c9] at hk; exact absurd (q1.trans c8.symm) (b4 k hk))) _ _ _ hP hD hS (lv_sub hl [0, 1, 2, 3, 4] rfl)
end
