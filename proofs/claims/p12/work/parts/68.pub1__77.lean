section
theorem dJx4a65c_size_8abf5_0 : decode cJx4a65c_size_8abf5 0 = .ok (.aload_n 0, 1) := by decide +kernel
theorem dJx4a65c_size_8abf5_1 : decode cJx4a65c_size_8abf5 1 = .ok (.getfield 48, 3) := by decide +kernel
theorem dJx4a65c_size_8abf5_4 : decode cJx4a65c_size_8abf5 4 = .ok (.ireturn, 1) := by decide +kernel

/-- every bean has its element -/
def BEL9 (sg : Nat → Int32) (gm : Nat → Nat → Int32) : Prop := ∀ b, b < (sg 12).toNatClampNeg → 0 ≤ (gm 29 b).toInt

set_option maxHeartbeats 4000000 in
set_option maxRecDepth 100000 in
theorem d_isClass2 (l : Launch) (dC : Nat → ClassId) (dI : Nat → Nat → Nat) (ad : Nat → Nat → Nat) (cid : Nat → ClassId) (a2 : Nat → Nat) (lx : List Nat) (sg : Nat → Int32) (gm : Nat → Nat → Int32) (lg : Nat → Nat → Int64) (a : Int32) (hI : CI sg gm) : CMt dC dI ad cid a2 lx l yX12_isClass wm_X12_isClass ({ frames := 0, cells := 1, slots := 6, locals := 0 }) [.int a] sg gm lg (fun v u => ∃ r : Int32, v = some (.int r) ∧ u = (sg, gm, lg) ∧ (iv 0 1 r) ∧ (r.toInt = 0 ∧ (a.toInt < 0 ∨ 7 < a.toInt) ∨ r.toInt = 1 ∧ 0 ≤ a.toInt ∧ a.toInt ≤ 7)) (fun _ _ => False) := by
  intro sz
  refine vx_ofW (cc := cX12_isClass) (maxL := 1) (ret := (some .boolean)) (by decide) rfl ?_
  intro p e s m args below meth c s₁ B hml hxt hv
  obtain ⟨rfl, hsz, hP, hK, hD0, hG⟩ := hv
  have hx := B.exec
  have hb := B.bytes
  have hr := B.returns
  have hts := atoms_spec (ws := wm_X12_isClass) B.pre
  have htb := fun (w : Cond) (h : w ∈ tb) => hts w (List.mem_cons_of_mem _ h)
  have hown : s.vm.findClass RX12 = some m.cls := findClass_of_methodNamed B.named
  have hlocks := B.notSynchronized
  subst hsz
  have hD := hD0.self (sz := s.heap.size)
  generalize hAe : va_A (cW ad cid a2 lx sg gm lg) s.heap.size = A at hD hG ⊢
  have hA : ∀ q : Nat, s.heap.size ≤ q → A q := fun q h => by rw [← hAe]; exact Or.inr h
  have hS : va_S A s.heap s.heap [] := va_S.rf
  have hl := lv_entry ([.int a]) (n := 1) (Nat.le_of_ble_eq_true rfl)
  rw [lg_entry_eq]
  generalize (lg_sl ([.int a]) ++ List.replicate (1 - (lg_sl ([.int a])).length) Slot.unset).toArray = ls at hl ⊢
  have hl : lv_has ls 1 [(0, .int a)] := hl
  have hj15 : ∀ (y0_15 : Int32) (_ : iv 0 1 y0_15) (_ : y0_15.toInt = 0 ∧ (a.toInt < 0 ∨ 7 < a.toInt) ∨ y0_15.toInt = 1 ∧ 0 ≤ a.toInt ∧ a.toInt ≤ 7) (H : Heap) (locs : List Loc) (ls : Array Slot), va_P (dC, dI) vwCl (cW ad cid a2 lx sg gm lg) H → va_D A (cW ad cid a2 lx sg gm lg) → va_S A s.heap H locs → lv_has ls 1 [(0, .int a)] → W p l e (headSpec wm_X12_isClass ({ frames := 0, cells := 1, slots := 6, locals := 0 })).room s m ([.int a] : List Value).toArray below meth c H locs 0 0 (vx_MQ below (cQx dC dI ad cid a2 lx (fun v u => ∃ r : Int32, v = some (.int r) ∧ u = (sg, gm, lg) ∧ (iv 0 1 r) ∧ (r.toInt = 0 ∧ (a.toInt < 0 ∨ 7 < a.toInt) ∨ r.toInt = 1 ∧ 0 ≤ a.toInt ∧ a.toInt ≤ 7)) A) (cX dC dI ad cid a2 lx (fun _ _ => False) A) ([.int a] : List Value).toArray s 1 6 A) (F0 m 15 ls [.int y0_15]) := by
    intro y0_15 hy0_15 hc H locs ls hP hD hS hl
    exact W.nb (fun hN => W.widen (k := 1) (n := 6) (by decide) (by decide) (vx_ret (W.zret (v := y0_15) hx hb hr (iv_nb hy0_15) (fun t ht hW => ⟨⟨some (.int y0_15), (sg, gm, lg), rfl, ⟨y0_15, rfl, rfl, hy0_15, (hc)⟩, by rw [ht]; exact hP, va_K.moved hW.alike hK, hD⟩, hS.F ht, by rw [ht]; exact hN⟩) hS.2.2 dX12_isClass_15)))
  have hj14 : ∀ (_ : a.toInt < 0 ∨ 7 < a.toInt) (H : Heap) (locs : List Loc) (ls : Array Slot), va_P (dC, dI) vwCl (cW ad cid a2 lx sg gm lg) H → va_D A (cW ad cid a2 lx sg gm lg) → va_S A s.heap H locs → lv_has ls 1 [(0, .int a)] → W p l e (headSpec wm_X12_isClass ({ frames := 0, cells := 1, slots := 6, locals := 0 })).room s m ([.int a] : List Value).toArray below meth c H locs 0 0 (vx_MQ below (cQx dC dI ad cid a2 lx (fun v u => ∃ r : Int32, v = some (.int r) ∧ u = (sg, gm, lg) ∧ (iv 0 1 r) ∧ (r.toInt = 0 ∧ (a.toInt < 0 ∨ 7 < a.toInt) ∨ r.toInt = 1 ∧ 0 ≤ a.toInt ∧ a.toInt ≤ 7)) A) (cX dC dI ad cid a2 lx (fun _ _ => False) A) ([.int a] : List Value).toArray s 1 6 A) (F0 m 14 ls []) := by
    intro  hnn H locs ls hP hD hS hl
    refine lv_iconst (v := 0) hx hb dX12_isClass_14 (by decide) ?_
    exact hj15 0 (iv_w (iv_k (by decide) : iv 0 0 0) (by decide)) (Or.inl ⟨rfl, hnn⟩) _ _ _ hP hD hS (lv_sub hl [0] rfl)
  refine lv_iload_n hx hb dX12_isClass_0 rfl (lv_at hl 0 rfl) ?_
  refine lv_if_lt (tgt := 14) hx hb dX12_isClass_1 (by decide) (fun c_1 => ?_) (fun c_1 => ?_)
  · have h_2 : iv (-2147483648) (-1) a := iv_ltL c_1 (iv_all a) (iv_k (by decide) : iv 0 0 0) (by decide)
    exact hj14 (by have := i32_0; have := i32_1; have := i32_2; have := i32_m1; have := (h_2).1; have := (h_2).2; omega) _ _ _ hP hD hS (lv_sub hl [0] rfl)
  · have h_3 : iv 0 2147483647 a := iv_leR (i32_ge c_1) (iv_k (by decide) : iv 0 0 0) (iv_all a) (by decide)
    refine lv_iload_n hx hb dX12_isClass_4 rfl (lv_at hl 0 rfl) ?_
    refine lv_bipush (v := 8) hx hb dX12_isClass_5 (by decide) ?_
    refine lv_icmp_ge (tgt := 14) hx hb dX12_isClass_7 (by decide) (fun c_4 => ?_) (fun c_4 => ?_)
    · have h_5 : iv 8 2147483647 a := iv_leR c_4 (iv_k (by decide) : iv 8 8 8) h_3 (by decide)
      exact hj14 (by have := i32_0; have := i32_1; have := i32_2; have := i32_m1; have := (h_5).1; have := (h_5).2; omega) _ _ _ hP hD hS (lv_sub hl [0] rfl)
    · have h_6 : iv 0 7 a := iv_ltL (i32_lt c_4) h_3 (iv_k (by decide) : iv 8 8 8) (by decide)
      refine lv_iconst (v := 1) hx hb dX12_isClass_10 (by decide) ?_
      refine lv_goto (tgt := 15) hx hb dX12_isClass_11 (by decide) ?_
      exact hj15 1 (iv_w (iv_k (by decide) : iv 1 1 1) (by decide)) (Or.inr ⟨rfl, by have := i32_0; have := i32_1; have := i32_2; have := i32_m1; have := (h_6).1; have := (h_6).2; omega, by have := i32_0; have := i32_1; have := i32_2; have := i32_m1; have := (h_6).1; have := (h_6).2; omega⟩) _ _ _ hP hD hS (lv_sub hl [0] rfl)

set_option maxHeartbeats 4000000 in
set_option maxRecDepth 100000 in
theorem d_fault (l : Launch) (dC : Nat → ClassId) (dI : Nat → Nat → Nat) (ad : Nat → Nat → Nat) (cid : Nat → ClassId) (a2 : Nat → Nat) (lx : List Nat) (sg : Nat → Int32) (gm : Nat → Nat → Int32) (lg : Nat → Nat → Int64) (x : Int32) (wh : Int32) (hI : CI sg gm) (hvx : iv 0 0 x) : CMt dC dI ad cid a2 lx l yX12_fault wm_X12_fault ({ frames := 1, cells := 1, slots := 6, locals := 20 }) [eV (ad 0) x, .int wh] sg gm lg (fun v u => ∃ r : Int32, v = some (.int r) ∧ u = (sg, gm, lg) ∧ (iv (-1) 1201 r)) (fun _ _ => False) := by
  intro sz
  refine vx_ofW (cc := cX12_fault) (maxL := 2) (ret := (some .int)) (by decide) rfl ?_
  intro p e s m args below meth c s₁ B hml hxt hv
  obtain ⟨rfl, hsz, hP, hK, hD0, hG⟩ := hv
  have hx := B.exec
  have hb := B.bytes
  have hr := B.returns
  have hts := atoms_spec (ws := wm_X12_fault) B.pre
  have htb := fun (w : Cond) (h : w ∈ tb) => hts w (List.mem_cons_of_mem _ h)
  have hown : s.vm.findClass RX12 = some m.cls := findClass_of_methodNamed B.named
  have hlocks := B.notSynchronized
  subst hsz
  have hD := hD0.self (sz := s.heap.size)
  generalize hAe : va_A (cW ad cid a2 lx sg gm lg) s.heap.size = A at hD hG ⊢
  have hA : ∀ q : Nat, s.heap.size ≤ q → A q := fun q h => by rw [← hAe]; exact Or.inr h
  have hS : va_S A s.heap s.heap [] := va_S.rf
  have hl := lv_entry ([eV (ad 0) x, .int wh]) (n := 2) (by rw [show (lg_sl ([eV (ad 0) x, .int wh])).length = 2 from by simp [lg_sl, eV_cat, cat_i, cat_l]]; exact Nat.le_of_ble_eq_true rfl)
  rw [lg_entry_eq]
  generalize (lg_sl ([eV (ad 0) x, .int wh]) ++ List.replicate (2 - (lg_sl ([eV (ad 0) x, .int wh])).length) Slot.unset).toArray = ls at hl ⊢
  have hl : lv_has ls 2 [(0, eV (ad 0) x), (1, .int wh)] := by simp [lv_args, eV_cat, cat_i, cat_l] at hl; exact hl
  refine lv_iload_n hx hb dX12_fault_0 rfl (lv_at hl 1 rfl) ?_
  by_cases c_1 : (wh : Int32).toInt = 0
  · refine lv_tableIn (tgt := 32) hx hb dX12_fault_1 (by rw [c_1]; decide) (by rw [c_1]; decide) (by rw [c_1]; rfl) (by decide) ?_
    have h_2 : iv 0 0 wh := iv_at c_1
    refine ec_aload_n hx hb dX12_fault_32 rfl (lv_at hl 0 rfl) ?_
    refine cr_get (t := 0) (j := 10) (C := RX12) (T := TX12) (N := 12) (v := .int (sg 2)) hx hb htb inX12 hown hK hP hvx (by decide) (by decide) (by decide) rfl (by decide) (htb _ kw_311) rfl dX12_fault_33 ?_
    exact W.nb (fun hN => W.widen (k := 1) (n := 6) (by decide) (by decide) (vx_ret (W.iret (v := (sg 2)) hx hb hr (fun t ht hW => ⟨⟨some (.int (sg 2)), (sg, gm, lg), rfl, ⟨(sg 2), rfl, rfl, (iv_w (show iv 0 3 (sg 2) from CI_s hI 2) (by decide))⟩, by rw [ht]; exact hP, va_K.moved hW.alike hK, hD⟩, hS.F ht, by rw [ht]; exact hN⟩) hS.2.2 dX12_fault_36)))
  by_cases c_3 : (wh : Int32).toInt = 1
  · refine lv_tableIn (tgt := 37) hx hb dX12_fault_1 (by rw [c_3]; decide) (by rw [c_3]; decide) (by rw [c_3]; rfl) (by decide) ?_
    have h_4 : iv 1 1 wh := iv_at c_3
    refine ec_aload_n hx hb dX12_fault_37 rfl (lv_at hl 0 rfl) ?_
    refine cr_get (t := 0) (j := 11) (C := RX12) (T := TX12) (N := 12) (v := .int (sg 3)) hx hb htb inX12 hown hK hP hvx (by decide) (by decide) (by decide) rfl (by decide) (htb _ kw_42) rfl dX12_fault_38 ?_
    exact W.nb (fun hN => W.widen (k := 1) (n := 6) (by decide) (by decide) (vx_ret (W.iret (v := (sg 3)) hx hb hr (fun t ht hW => ⟨⟨some (.int (sg 3)), (sg, gm, lg), rfl, ⟨(sg 3), rfl, rfl, (show iv (-1) 1201 (sg 3) from CI_s hI 3)⟩, by rw [ht]; exact hP, va_K.moved hW.alike hK, hD⟩, hS.F ht, by rw [ht]; exact hN⟩) hS.2.2 dX12_fault_41)))
  by_cases c_5 : (wh : Int32).toInt = 2
  · refine lv_tableIn (tgt := 42) hx hb dX12_fault_1 (by rw [c_5]; decide) (by rw [c_5]; decide) (by rw [c_5]; rfl) (by decide) ?_
    have h_6 : iv 2 2 wh := iv_at c_5
    refine ec_aload_n hx hb dX12_fault_42 rfl (lv_at hl 0 rfl) ?_
    refine cr_get (t := 0) (j := 7) (C := RX12) (T := TX12) (N := 12) (v := eV (ad 6) 0) hx hb htb inX12 hown hK hP hvx (by decide) (by decide) (by decide) rfl (by decide) (htb _ kw_41) (cV_c rfl (by decide) (by rw [show cMu 0 7 = 0 from rfl, Nat.zero_mul]; rfl)) dX12_fault_43 ?_
    refine cm_callV (t := 6) (C := RX5) (T := TX5) (N := 13) (rest := []) (as := []) ⟨hx, hb, hml, hown, htb⟩ (d_failure l dC dI ad cid a2 lx sg gm lg 0 hI (iv_k (by decide) : iv 0 0 0)) (cwV 0 htb (gd_V kw_970 kw_971 kw_972 kw_40 kw_1560) rfl rfl rfl (by decide +kernel) ⟨Nat.le_of_ble_eq_true rfl, Nat.le_of_ble_eq_true rfl⟩) (iv_k (by decide) : iv 0 0 0) (by decide) (by decide) rfl rfl hl.1 rfl (Nat.le_trans cs_n (by decide)) dX12_fault_46 ⟨Nat.le_of_ble_eq_true rfl, Nat.le_of_ble_eq_true rfl⟩ hK hP hD hS hA hG (fun E ce q9 u_8 H locs hw hP hD hS hce hcv hcl => ?_) (fun v9 u_8 H locs hw hP hD hS => ?_)
    · exact hw.elim
    obtain ⟨r_7, rfl, rfl, hr_7⟩ := hw
    have hP : va_P (dC, dI) vwCl (cW ad cid a2 lx sg gm lg) H := hP
    have hD : va_D A (cW ad cid a2 lx sg gm lg) := hD
    refine W.eq (g2 := F0 m 49 ls [.int r_7]) rfl ?_
    exact W.nb (fun hN => W.widen (k := 1) (n := 6) (by decide) (by decide) (vx_ret (W.iret (v := r_7) hx hb hr (fun t ht hW => ⟨⟨some (.int r_7), (sg, gm, lg), rfl, ⟨r_7, rfl, rfl, (iv_w hr_7 (by decide))⟩, by rw [ht]; exact hP, va_K.moved hW.alike hK, hD⟩, hS.F ht, by rw [ht]; exact hN⟩) hS.2.2 dX12_fault_49)))
  by_cases c_10 : (wh : Int32).toInt = 3
  · refine lv_tableIn (tgt := 50) hx hb dX12_fault_1 (by rw [c_10]; decide) (by rw [c_10]; decide) (by rw [c_10]; rfl) (by decide) ?_
    have h_11 : iv 3 3 wh := iv_at c_10
    refine ec_aload_n hx hb dX12_fault_50 rfl (lv_at hl 0 rfl) ?_
    refine cr_get (t := 0) (j := 7) (C := RX12) (T := TX12) (N := 12) (v := eV (ad 6) 0) hx hb htb inX12 hown hK hP hvx (by decide) (by decide) (by decide) rfl (by decide) (htb _ kw_41) (cV_c rfl (by decide) (by rw [show cMu 0 7 = 0 from rfl, Nat.zero_mul]; rfl)) dX12_fault_51 ?_
    refine cm_callV (t := 6) (C := RX5) (T := TX5) (N := 13) (rest := []) (as := []) ⟨hx, hb, hml, hown, htb⟩ (d_failureBean l dC dI ad cid a2 lx sg gm lg 0 hI (iv_k (by decide) : iv 0 0 0)) (cwV 0 htb (gd_V kw_974 kw_975 kw_976 kw_40 kw_1561) rfl rfl rfl (by decide +kernel) ⟨Nat.le_of_ble_eq_true rfl, Nat.le_of_ble_eq_true rfl⟩) (iv_k (by decide) : iv 0 0 0) (by decide) (by decide) rfl rfl hl.1 rfl (Nat.le_trans cs_n (by decide)) dX12_fault_54 ⟨Nat.le_of_ble_eq_true rfl, Nat.le_of_ble_eq_true rfl⟩ hK hP hD hS hA hG (fun E ce q9 u_13 H locs hw hP hD hS hce hcv hcl => ?_) (fun v9 u_13 H locs hw hP hD hS => ?_)
    · exact hw.elim
    obtain ⟨r_12, rfl, rfl, hr_12⟩ := hw
    have hP : va_P (dC, dI) vwCl (cW ad cid a2 lx sg gm lg) H := hP
    have hD : va_D A (cW ad cid a2 lx sg gm lg) := hD
    refine W.eq (g2 := F0 m 57 ls [.int r_12]) rfl ?_
    exact W.nb (fun hN => W.widen (k := 1) (n := 6) (by decide) (by decide) (vx_ret (W.iret (v := r_12) hx hb hr (fun t ht hW => ⟨⟨some (.int r_12), (sg, gm, lg), rfl, ⟨r_12, rfl, rfl, (iv_w hr_12 (by decide))⟩, by rw [ht]; exact hP, va_K.moved hW.alike hK, hD⟩, hS.F ht, by rw [ht]; exact hN⟩) hS.2.2 dX12_fault_57)))
  refine lv_tableOut (tgt := 58) hx hb dX12_fault_1 (by have q1 := ((iv_all wh)).1; have q2 := ((iv_all wh)).2; omega) (by decide) ?_
  refine lv_iconst (v := (-1)) hx hb dX12_fault_58 (by decide) ?_
  exact W.nb (fun hN => W.widen (k := 1) (n := 6) (by decide) (by decide) (vx_ret (W.iret (v := (-1)) hx hb hr (fun t ht hW => ⟨⟨some (.int (-1)), (sg, gm, lg), rfl, ⟨(-1), rfl, rfl, (iv_w (iv_k (by decide) : iv (-1) (-1) (-1)) (by decide))⟩, by rw [ht]; exact hP, va_K.moved hW.alike hK, hD⟩, hS.F ht, by rw [ht]; exact hN⟩) hS.2.2 dX12_fault_59)))

set_option maxHeartbeats 4000000 in
set_option maxRecDepth 100000 in
theorem d_lsize (l : Launch) (dC : Nat → ClassId) (dI : Nat → Nat → Nat) (ad : Nat → Nat → Nat) (cid : Nat → ClassId) (a2 : Nat → Nat) (lx : List Nat) (sg : Nat → Int32) (gm : Nat → Nat → Int32) (lg : Nat → Nat → Int64) (x : Int32) (hI : CI sg gm) (hvx : iv 0 239 x) : CMt dC dI ad cid a2 lx l yJx4a65c_size_8abf5 wm_Jx4a65c_size_8abf5 ({ frames := 0, cells := 1, slots := 6, locals := 0 }) [eV (ad 11) x] sg gm lg (fun v u => ∃ r : Int32, v = some (.int r) ∧ u = (sg, gm, lg) ∧ (iv 0 80 r) ∧ (r = gm 41 x.toNatClampNeg)) (fun _ _ => False) := by
  intro sz
  refine vx_ofW (cc := cJx4a65c_size_8abf5) (maxL := 1) (ret := (some .int)) (by decide) rfl ?_
  intro p e s m args below meth c s₁ B hml hxt hv
  obtain ⟨rfl, hsz, hP, hK, hD0, hG⟩ := hv
  have hx := B.exec
  have hb := B.bytes
  have hr := B.returns
  have hts := atoms_spec (ws := wm_Jx4a65c_size_8abf5) B.pre
  have htb := fun (w : Cond) (h : w ∈ tb) => hts w (List.mem_cons_of_mem _ h)
  have hown : s.vm.findClass RJx4a65c = some m.cls := findClass_of_methodNamed B.named
  have hlocks := B.notSynchronized
  subst hsz
  have hD := hD0.self (sz := s.heap.size)
  generalize hAe : va_A (cW ad cid a2 lx sg gm lg) s.heap.size = A at hD hG ⊢
  have hA : ∀ q : Nat, s.heap.size ≤ q → A q := fun q h => by rw [← hAe]; exact Or.inr h
  have hS : va_S A s.heap s.heap [] := va_S.rf
  have hl := lv_entry ([eV (ad 11) x]) (n := 1) (by rw [show (lg_sl ([eV (ad 11) x])).length = 1 from by simp [lg_sl, eV_cat, cat_i, cat_l]]; exact Nat.le_of_ble_eq_true rfl)
  rw [lg_entry_eq]
  generalize (lg_sl ([eV (ad 11) x]) ++ List.replicate (1 - (lg_sl ([eV (ad 11) x])).length) Slot.unset).toArray = ls at hl ⊢
  have hl : lv_has ls 1 [(0, eV (ad 11) x)] := by simp [lv_args, eV_cat, cat_i, cat_l] at hl; exact hl
  refine ec_aload_n hx hb dJx4a65c_size_8abf5_0 rfl (lv_at hl 0 rfl) ?_
  refine cr_get (t := 11) (j := 2) (C := RJx4a65c) (T := TJx4a65c) (N := 3) (v := .int (gm 41 x.toNatClampNeg)) hx hb htb inJx4a65c hown hK hP hvx (by decide) (by decide) (by decide) rfl (by decide) (htb _ kw_678) rfl dJx4a65c_size_8abf5_1 ?_
  obtain ⟨z_1, ez_1⟩ : ∃ z : Int32, z = (gm 41 x.toNatClampNeg) := ⟨_, rfl⟩
  refine W.eq (g2 := F0 m 4 ls [.int z_1]) (by rw [ez_1]) ?_
  have hz_1 : iv 0 80 z_1 := iv_of ez_1 (CI_a hI 41 hvx (by decide))
  exact W.nb (fun hN => W.widen (k := 1) (n := 6) (by decide) (by decide) (vx_ret (W.iret (v := z_1) hx hb hr (fun t ht hW => ⟨⟨some (.int z_1), (sg, gm, lg), rfl, ⟨z_1, rfl, rfl, hz_1, (ez_1)⟩, by rw [ht]; exact hP, va_K.moved hW.alike hK, hD⟩, hS.F ht, by rw [ht]; exact hN⟩) hS.2.2 dJx4a65c_size_8abf5_4)))

set_option maxHeartbeats 4000000 in
set_option maxRecDepth 100000 in
theorem d_told (l : Launch) (dC : Nat → ClassId) (dI : Nat → Nat → Nat) (ad : Nat → Nat → Nat) (cid : Nat → ClassId) (a2 : Nat → Nat) (lx : List Nat) (sg : Nat → Int32) (gm : Nat → Nat → Int32) (lg : Nat → Nat → Int64) (b : Int32) (wh : Int32) (hI : CI sg gm) (hvb : iv 0 79 b) (hel : 0 ≤ (gm 29 b.toNatClampNeg).toInt) : CMt dC dI ad cid a2 lx l yX1_told wm_X1_told ({ frames := 1, cells := 1, slots := 6, locals := 20 }) [eV (ad 10) b, .int wh] sg gm lg (fun v u => ∃ r : Int32, v = some (.int r) ∧ u = (sg, gm, lg) ∧ (iv (-1) 1201 r)) (fun _ _ => False) := by
  intro sz
  refine vx_ofW (cc := cX1_told) (maxL := 2) (ret := (some .int)) (by decide) rfl ?_
  intro p e s m args below meth c s₁ B hml hxt hv
  obtain ⟨rfl, hsz, hP, hK, hD0, hG⟩ := hv
  have hx := B.exec
  have hb := B.bytes
  have hr := B.returns
  have hts := atoms_spec (ws := wm_X1_told) B.pre
  have htb := fun (w : Cond) (h : w ∈ tb) => hts w (List.mem_cons_of_mem _ h)
  have hown : s.vm.findClass RX1 = some m.cls := findClass_of_methodNamed B.named
  have hlocks := B.notSynchronized
  subst hsz
  have hD := hD0.self (sz := s.heap.size)
  generalize hAe : va_A (cW ad cid a2 lx sg gm lg) s.heap.size = A at hD hG ⊢
  have hA : ∀ q : Nat, s.heap.size ≤ q → A q := fun q h => by rw [← hAe]; exact Or.inr h
  have hS : va_S A s.heap s.heap [] := va_S.rf
  have hl := lv_entry ([eV (ad 10) b, .int wh]) (n := 2) (by rw [show (lg_sl ([eV (ad 10) b, .int wh])).length = 2 from by simp [lg_sl, eV_cat, cat_i, cat_l]]; exact Nat.le_of_ble_eq_true rfl)
  rw [lg_entry_eq]
  generalize (lg_sl ([eV (ad 10) b, .int wh]) ++ List.replicate (2 - (lg_sl ([eV (ad 10) b, .int wh])).length) Slot.unset).toArray = ls at hl ⊢
  have hl : lv_has ls 2 [(0, eV (ad 10) b), (1, .int wh)] := by simp [lv_args, eV_cat, cat_i, cat_l] at hl; exact hl
  have hj120 : ∀ (y0_120 : Int32) (_ : iv 0 79 b) (_ : iv 7 7 wh) (_ : iv 0 1 y0_120) (H : Heap) (locs : List Loc) (ls : Array Slot), va_P (dC, dI) vwCl (cW ad cid a2 lx sg gm lg) H → va_D A (cW ad cid a2 lx sg gm lg) → va_S A s.heap H locs → lv_has ls 2 [(0, eV (ad 10) b), (1, .int wh)] → W p l e (headSpec wm_X1_told ({ frames := 1, cells := 1, slots := 6, locals := 20 })).room s m ([eV (ad 10) b, .int wh] : List Value).toArray below meth c H locs 0 0 (vx_MQ below (cQx dC dI ad cid a2 lx (fun v u => ∃ r : Int32, v = some (.int r) ∧ u = (sg, gm, lg) ∧ (iv (-1) 1201 r)) A) (cX dC dI ad cid a2 lx (fun _ _ => False) A) ([eV (ad 10) b, .int wh] : List Value).toArray s 1 6 A) (F0 m 120 ls [.int y0_120]) := by
    intro y0_120 hsx0_120 hsx1_120 hy0_120 H locs ls hP hD hS hl
    exact W.nb (fun hN => W.widen (k := 1) (n := 6) (by decide) (by decide) (vx_ret (W.iret (v := y0_120) hx hb hr (fun t ht hW => ⟨⟨some (.int y0_120), (sg, gm, lg), rfl, ⟨y0_120, rfl, rfl, (iv_w hy0_120 (by decide))⟩, by rw [ht]; exact hP, va_K.moved hW.alike hK, hD⟩, hS.F ht, by rw [ht]; exact hN⟩) hS.2.2 dX1_told_120)))
  have hj133 : ∀ (y0_133 : Int32) (_ : iv 0 79 b) (_ : iv 8 8 wh) (_ : iv 0 1 y0_133) (H : Heap) (locs : List Loc) (ls : Array Slot), va_P (dC, dI) vwCl (cW ad cid a2 lx sg gm lg) H → va_D A (cW ad cid a2 lx sg gm lg) → va_S A s.heap H locs → lv_has ls 2 [(0, eV (ad 10) b), (1, .int wh)] → W p l e (headSpec wm_X1_told ({ frames := 1, cells := 1, slots := 6, locals := 20 })).room s m ([eV (ad 10) b, .int wh] : List Value).toArray below meth c H locs 0 0 (vx_MQ below (cQx dC dI ad cid a2 lx (fun v u => ∃ r : Int32, v = some (.int r) ∧ u = (sg, gm, lg) ∧ (iv (-1) 1201 r)) A) (cX dC dI ad cid a2 lx (fun _ _ => False) A) ([eV (ad 10) b, .int wh] : List Value).toArray s 1 6 A) (F0 m 133 ls [.int y0_133]) := by
    intro y0_133 hsx0_133 hsx1_133 hy0_133 H locs ls hP hD hS hl
    exact W.nb (fun hN => W.widen (k := 1) (n := 6) (by decide) (by decide) (vx_ret (W.iret (v := y0_133) hx hb hr (fun t ht hW => ⟨⟨some (.int y0_133), (sg, gm, lg), rfl, ⟨y0_133, rfl, rfl, (iv_w hy0_133 (by decide))⟩, by rw [ht]; exact hP, va_K.moved hW.alike hK, hD⟩, hS.F ht, by rw [ht]; exact hN⟩) hS.2.2 dX1_told_133)))
  have hj146 : ∀ (y0_146 : Int32) (_ : iv 0 79 b) (_ : iv 9 9 wh) (_ : iv 0 1 y0_146) (H : Heap) (locs : List Loc) (ls : Array Slot), va_P (dC, dI) vwCl (cW ad cid a2 lx sg gm lg) H → va_D A (cW ad cid a2 lx sg gm lg) → va_S A s.heap H locs → lv_has ls 2 [(0, eV (ad 10) b), (1, .int wh)] → W p l e (headSpec wm_X1_told ({ frames := 1, cells := 1, slots := 6, locals := 20 })).room s m ([eV (ad 10) b, .int wh] : List Value).toArray below meth c H locs 0 0 (vx_MQ below (cQx dC dI ad cid a2 lx (fun v u => ∃ r : Int32, v = some (.int r) ∧ u = (sg, gm, lg) ∧ (iv (-1) 1201 r)) A) (cX dC dI ad cid a2 lx (fun _ _ => False) A) ([eV (ad 10) b, .int wh] : List Value).toArray s 1 6 A) (F0 m 146 ls [.int y0_146]) := by
    intro y0_146 hsx0_146 hsx1_146 hy0_146 H locs ls hP hD hS hl
    exact W.nb (fun hN => W.widen (k := 1) (n := 6) (by decide) (by decide) (vx_ret (W.iret (v := y0_146) hx hb hr (fun t ht hW => ⟨⟨some (.int y0_146), (sg, gm, lg), rfl, ⟨y0_146, rfl, rfl, (iv_w hy0_146 (by decide))⟩, by rw [ht]; exact hP, va_K.moved hW.alike hK, hD⟩, hS.F ht, by rw [ht]; exact hN⟩) hS.2.2 dX1_told_146)))
  have hj159 : ∀ (y0_159 : Int32) (_ : iv 0 79 b) (_ : iv 10 10 wh) (_ : iv 0 1 y0_159) (H : Heap) (locs : List Loc) (ls : Array Slot), va_P (dC, dI) vwCl (cW ad cid a2 lx sg gm lg) H → va_D A (cW ad cid a2 lx sg gm lg) → va_S A s.heap H locs → lv_has ls 2 [(0, eV (ad 10) b), (1, .int wh)] → W p l e (headSpec wm_X1_told ({ frames := 1, cells := 1, slots := 6, locals := 20 })).room s m ([eV (ad 10) b, .int wh] : List Value).toArray below meth c H locs 0 0 (vx_MQ below (cQx dC dI ad cid a2 lx (fun v u => ∃ r : Int32, v = some (.int r) ∧ u = (sg, gm, lg) ∧ (iv (-1) 1201 r)) A) (cX dC dI ad cid a2 lx (fun _ _ => False) A) ([eV (ad 10) b, .int wh] : List Value).toArray s 1 6 A) (F0 m 159 ls [.int y0_159]) := by
    intro y0_159 hsx0_159 hsx1_159 hy0_159 H locs ls hP hD hS hl
    exact W.nb (fun hN => W.widen (k := 1) (n := 6) (by decide) (by decide) (vx_ret (W.iret (v := y0_159) hx hb hr (fun t ht hW => ⟨⟨some (.int y0_159), (sg, gm, lg), rfl, ⟨y0_159, rfl, rfl, (iv_w hy0_159 (by decide))⟩, by rw [ht]; exact hP, va_K.moved hW.alike hK, hD⟩, hS.F ht, by rw [ht]; exact hN⟩) hS.2.2 dX1_told_159)))
  refine lv_iload_n hx hb dX1_told_0 rfl (lv_at hl 1 rfl) ?_
  by_cases c_1 : (wh : Int32).toInt = 0
  · refine lv_tableIn (tgt := 64) hx hb dX1_told_1 (by rw [c_1]; decide) (by rw [c_1]; decide) (by rw [c_1]; rfl) (by decide) ?_
    have h_2 : iv 0 0 wh := iv_at c_1
    refine ec_aload_n hx hb dX1_told_64 rfl (lv_at hl 0 rfl) ?_
    refine cr_get (t := 10) (j := 9) (C := RX1) (T := TX1) (N := 19) (v := .int (gm 30 b.toNatClampNeg)) hx hb htb inX1 hown hK hP hvb (by decide) (by decide) (by decide) rfl (by decide) (htb _ kw_666) rfl dX1_told_65 ?_
    obtain ⟨z_3, ez_3⟩ : ∃ z : Int32, z = (gm 30 b.toNatClampNeg) := ⟨_, rfl⟩
    refine W.eq (g2 := F0 m 68 ls [.int z_3]) (by rw [ez_3]) ?_
    have hz_3 : iv (-1) 7 z_3 := iv_of ez_3 (CI_a hI 30 hvb (by decide))
    exact W.nb (fun hN => W.widen (k := 1) (n := 6) (by decide) (by decide) (vx_ret (W.iret (v := z_3) hx hb hr (fun t ht hW => ⟨⟨some (.int z_3), (sg, gm, lg), rfl, ⟨z_3, rfl, rfl, (iv_w hz_3 (by decide))⟩, by rw [ht]; exact hP, va_K.moved hW.alike hK, hD⟩, hS.F ht, by rw [ht]; exact hN⟩) hS.2.2 dX1_told_68)))
  by_cases c_4 : (wh : Int32).toInt = 1
  · refine lv_tableIn (tgt := 69) hx hb dX1_told_1 (by rw [c_4]; decide) (by rw [c_4]; decide) (by rw [c_4]; rfl) (by decide) ?_
    have h_5 : iv 1 1 wh := iv_at c_4
    refine ec_aload_n hx hb dX1_told_69 rfl (lv_at hl 0 rfl) ?_
    obtain ⟨q_6, hq_6, nq_6, tq_6⟩ := ix_mk (3 * b.toNatClampNeg + 0) 239 (by have q1 := iv_cl hvb (by decide); have q2 := (hvb).2; omega) (by decide)
    refine cr_get (t := 10) (j := 1) (C := RX1) (T := TX1) (N := 19) (v := eV (ad 11) q_6) hx hb htb inX1 hown hK hP hvb (by decide) (by decide) (by decide) rfl (by decide) (htb _ kw_99) (cV_c rfl hq_6.1 nq_6) dX1_told_70 ?_
    refine cm_callV (t := 11) (C := RJx4a65c) (T := TJx4a65c) (N := 3) (rest := []) (as := []) ⟨hx, hb, hml, hown, htb⟩ (d_lsize l dC dI ad cid a2 lx sg gm lg q_6 hI hq_6) (cwV 0 htb (gd_V kw_790 kw_791 kw_792 kw_98 kw_1511) rfl rfl rfl (by decide +kernel) ⟨Nat.le_of_ble_eq_true rfl, Nat.le_of_ble_eq_true rfl⟩) hq_6 (by decide) (by decide) rfl rfl hl.1 rfl (Nat.le_trans cs_n (by decide)) dX1_told_73 ⟨Nat.le_of_ble_eq_true rfl, Nat.le_of_ble_eq_true rfl⟩ hK hP hD hS hA hG (fun E ce q9 u_8 H locs hw hP hD hS hce hcv hcl => ?_) (fun v9 u_8 H locs hw hP hD hS => ?_)
    · exact hw.elim
    obtain ⟨r_7, rfl, rfl, hr_7, fr_r_7⟩ := hw
    have hP : va_P (dC, dI) vwCl (cW ad cid a2 lx sg gm lg) H := hP
    have hD : va_D A (cW ad cid a2 lx sg gm lg) := hD
    refine W.eq (g2 := F0 m 76 ls [.int r_7]) rfl ?_
    exact W.nb (fun hN => W.widen (k := 1) (n := 6) (by decide) (by decide) (vx_ret (W.iret (v := r_7) hx hb hr (fun t ht hW => ⟨⟨some (.int r_7), (sg, gm, lg), rfl, ⟨r_7, rfl, rfl, (iv_w hr_7 (by decide))⟩, by rw [ht]; exact hP, va_K.moved hW.alike hK, hD⟩, hS.F ht, by rw [ht]; exact hN⟩) hS.2.2 dX1_told_76)))
  by_cases c_10 : (wh : Int32).toInt = 2
  · refine lv_tableIn (tgt := 77) hx hb dX1_told_1 (by rw [c_10]; decide) (by rw [c_10]; decide) (by rw [c_10]; rfl) (by decide) ?_
    have h_11 : iv 2 2 wh := iv_at c_10
    refine ec_aload_n hx hb dX1_told_77 rfl (lv_at hl 0 rfl) ?_
    obtain ⟨q_12, hq_12, nq_12, tq_12⟩ := ix_mk (3 * b.toNatClampNeg + 1) 239 (by have q1 := iv_cl hvb (by decide); have q2 := (hvb).2; omega) (by decide)
    refine cr_get (t := 10) (j := 2) (C := RX1) (T := TX1) (N := 19) (v := eV (ad 11) q_12) hx hb htb inX1 hown hK hP hvb (by decide) (by decide) (by decide) rfl (by decide) (htb _ kw_100) (cV_c rfl hq_12.1 nq_12) dX1_told_78 ?_
    refine cm_callV (t := 11) (C := RJx4a65c) (T := TJx4a65c) (N := 3) (rest := []) (as := []) ⟨hx, hb, hml, hown, htb⟩ (d_lsize l dC dI ad cid a2 lx sg gm lg q_12 hI hq_12) (cwV 0 htb (gd_V kw_790 kw_791 kw_792 kw_98 kw_1511) rfl rfl rfl (by decide +kernel) ⟨Nat.le_of_ble_eq_true rfl, Nat.le_of_ble_eq_true rfl⟩) hq_12 (by decide) (by decide) rfl rfl hl.1 rfl (Nat.le_trans cs_n (by decide)) dX1_told_81 ⟨Nat.le_of_ble_eq_true rfl, Nat.le_of_ble_eq_true rfl⟩ hK hP hD hS hA hG (fun E ce q9 u_14 H locs hw hP hD hS hce hcv hcl => ?_) (fun v9 u_14 H locs hw hP hD hS => ?_)
    · exact hw.elim
    obtain ⟨r_13, rfl, rfl, hr_13, fr_r_13⟩ := hw
    have hP : va_P (dC, dI) vwCl (cW ad cid a2 lx sg gm lg) H := hP
    have hD : va_D A (cW ad cid a2 lx sg gm lg) := hD
    refine W.eq (g2 := F0 m 84 ls [.int r_13]) rfl ?_
    exact W.nb (fun hN => W.widen (k := 1) (n := 6) (by decide) (by decide) (vx_ret (W.iret (v := r_13) hx hb hr (fun t ht hW => ⟨⟨some (.int r_13), (sg, gm, lg), rfl, ⟨r_13, rfl, rfl, (iv_w hr_13 (by decide))⟩, by rw [ht]; exact hP, va_K.moved hW.alike hK, hD⟩, hS.F ht, by rw [ht]; exact hN⟩) hS.2.2 dX1_told_84)))
  by_cases c_16 : (wh : Int32).toInt = 3
  · refine lv_tableIn (tgt := 85) hx hb dX1_told_1 (by rw [c_16]; decide) (by rw [c_16]; decide) (by rw [c_16]; rfl) (by decide) ?_
    have h_17 : iv 3 3 wh := iv_at c_16
    refine ec_aload_n hx hb dX1_told_85 rfl (lv_at hl 0 rfl) ?_
    obtain ⟨q_18, hq_18, nq_18, tq_18⟩ := ix_mk (3 * b.toNatClampNeg + 2) 239 (by have q1 := iv_cl hvb (by decide); have q2 := (hvb).2; omega) (by decide)
    refine cr_get (t := 10) (j := 3) (C := RX1) (T := TX1) (N := 19) (v := eV (ad 11) q_18) hx hb htb inX1 hown hK hP hvb (by decide) (by decide) (by decide) rfl (by decide) (htb _ kw_101) (cV_c rfl hq_18.1 nq_18) dX1_told_86 ?_
    refine cm_callV (t := 11) (C := RJx4a65c) (T := TJx4a65c) (N := 3) (rest := []) (as := []) ⟨hx, hb, hml, hown, htb⟩ (d_lsize l dC dI ad cid a2 lx sg gm lg q_18 hI hq_18) (cwV 0 htb (gd_V kw_790 kw_791 kw_792 kw_98 kw_1511) rfl rfl rfl (by decide +kernel) ⟨Nat.le_of_ble_eq_true rfl, Nat.le_of_ble_eq_true rfl⟩) hq_18 (by decide) (by decide) rfl rfl hl.1 rfl (Nat.le_trans cs_n (by decide)) dX1_told_89 ⟨Nat.le_of_ble_eq_true rfl, Nat.le_of_ble_eq_true rfl⟩ hK hP hD hS hA hG (fun E ce q9 u_20 H locs hw hP hD hS hce hcv hcl => ?_) (fun v9 u_20 H locs hw hP hD hS => ?_)
    · exact hw.elim
    obtain ⟨r_19, rfl, rfl, hr_19, fr_r_19⟩ := hw
    have hP : va_P (dC, dI) vwCl (cW ad cid a2 lx sg gm lg) H := hP
    have hD : va_D A (cW ad cid a2 lx sg gm lg) := hD
    refine W.eq (g2 := F0 m 92 ls [.int r_19]) rfl ?_
    exact W.nb (fun hN => W.widen (k := 1) (n := 6) (by decide) (by decide) (vx_ret (W.iret (v := r_19) hx hb hr (fun t ht hW => ⟨⟨some (.int r_19), (sg, gm, lg), rfl, ⟨r_19, rfl, rfl, (iv_w hr_19 (by decide))⟩, by rw [ht]; exact hP, va_K.moved hW.alike hK, hD⟩, hS.F ht, by rw [ht]; exact hN⟩) hS.2.2 dX1_told_92)))
  by_cases c_22 : (wh : Int32).toInt = 4
  · refine lv_tableIn (tgt := 93) hx hb dX1_told_1 (by rw [c_22]; decide) (by rw [c_22]; decide) (by rw [c_22]; rfl) (by decide) ?_
    have h_23 : iv 4 4 wh := iv_at c_22
    refine ec_aload_n hx hb dX1_told_93 rfl (lv_at hl 0 rfl) ?_
    refine cr_get (t := 10) (j := 10) (C := RX1) (T := TX1) (N := 19) (v := .int (gm 31 b.toNatClampNeg)) hx hb htb inX1 hown hK hP hvb (by decide) (by decide) (by decide) rfl (by decide) (htb _ kw_667) rfl dX1_told_94 ?_
    obtain ⟨z_24, ez_24⟩ : ∃ z : Int32, z = (gm 31 b.toNatClampNeg) := ⟨_, rfl⟩
    refine W.eq (g2 := F0 m 97 ls [.int z_24]) (by rw [ez_24]) ?_
    have hz_24 : iv (-1) 25 z_24 := iv_of ez_24 (CI_a hI 31 hvb (by decide))
    exact W.nb (fun hN => W.widen (k := 1) (n := 6) (by decide) (by decide) (vx_ret (W.iret (v := z_24) hx hb hr (fun t ht hW => ⟨⟨some (.int z_24), (sg, gm, lg), rfl, ⟨z_24, rfl, rfl, (iv_w hz_24 (by decide))⟩, by rw [ht]; exact hP, va_K.moved hW.alike hK, hD⟩, hS.F ht, by rw [ht]; exact hN⟩) hS.2.2 dX1_told_97)))
  by_cases c_25 : (wh : Int32).toInt = 5
  · refine lv_tableIn (tgt := 98) hx hb dX1_told_1 (by rw [c_25]; decide) (by rw [c_25]; decide) (by rw [c_25]; rfl) (by decide) ?_
    have h_26 : iv 5 5 wh := iv_at c_25
    refine ec_aload_n hx hb dX1_told_98 rfl (lv_at hl 0 rfl) ?_
    refine cr_get (t := 10) (j := 11) (C := RX1) (T := TX1) (N := 19) (v := .int (gm 32 b.toNatClampNeg)) hx hb htb inX1 hown hK hP hvb (by decide) (by decide) (by decide) rfl (by decide) (htb _ kw_668) rfl dX1_told_99 ?_
    obtain ⟨z_27, ez_27⟩ : ∃ z : Int32, z = (gm 32 b.toNatClampNeg) := ⟨_, rfl⟩
    refine W.eq (g2 := F0 m 102 ls [.int z_27]) (by rw [ez_27]) ?_
    have hz_27 : iv (-1) 25 z_27 := iv_of ez_27 (CI_a hI 32 hvb (by decide))
    exact W.nb (fun hN => W.widen (k := 1) (n := 6) (by decide) (by decide) (vx_ret (W.iret (v := z_27) hx hb hr (fun t ht hW => ⟨⟨some (.int z_27), (sg, gm, lg), rfl, ⟨z_27, rfl, rfl, (iv_w hz_27 (by decide))⟩, by rw [ht]; exact hP, va_K.moved hW.alike hK, hD⟩, hS.F ht, by rw [ht]; exact hN⟩) hS.2.2 dX1_told_102)))
  by_cases c_28 : (wh : Int32).toInt = 6
  · refine lv_tableIn (tgt := 103) hx hb dX1_told_1 (by rw [c_28]; decide) (by rw [c_28]; decide) (by rw [c_28]; rfl) (by decide) ?_
    have h_29 : iv 6 6 wh := iv_at c_28
    refine ec_aload_n hx hb dX1_told_103 rfl (lv_at hl 0 rfl) ?_
    refine cr_get (t := 10) (j := 12) (C := RX1) (T := TX1) (N := 19) (v := .int (gm 33 b.toNatClampNeg)) hx hb htb inX1 hown hK hP hvb (by decide) (by decide) (by decide) rfl (by decide) (htb _ kw_669) rfl dX1_told_104 ?_
    obtain ⟨z_30, ez_30⟩ : ∃ z : Int32, z = (gm 33 b.toNatClampNeg) := ⟨_, rfl⟩
    refine W.eq (g2 := F0 m 107 ls [.int z_30]) (by rw [ez_30]) ?_
    have hz_30 : iv (-1) 25 z_30 := iv_of ez_30 (CI_a hI 33 hvb (by decide))
    exact W.nb (fun hN => W.widen (k := 1) (n := 6) (by decide) (by decide) (vx_ret (W.iret (v := z_30) hx hb hr (fun t ht hW => ⟨⟨some (.int z_30), (sg, gm, lg), rfl, ⟨z_30, rfl, rfl, (iv_w hz_30 (by decide))⟩, by rw [ht]; exact hP, va_K.moved hW.alike hK, hD⟩, hS.F ht, by rw [ht]; exact hN⟩) hS.2.2 dX1_told_107)))
  by_cases c_31 : (wh : Int32).toInt = 7
  · refine lv_tableIn (tgt := 108) hx hb dX1_told_1 (by rw [c_31]; decide) (by rw [c_31]; decide) (by rw [c_31]; rfl) (by decide) ?_
    have h_32 : iv 7 7 wh := iv_at c_31
    refine ec_aload_n hx hb dX1_told_108 rfl (lv_at hl 0 rfl) ?_
    refine cr_get (t := 10) (j := 13) (C := RX1) (T := TX1) (N := 19) (v := .int (gm 34 b.toNatClampNeg)) hx hb htb inX1 hown hK hP hvb (by decide) (by decide) (by decide) rfl (by decide) (htb _ kw_659) rfl dX1_told_109 ?_
    obtain ⟨z_33, ez_33⟩ : ∃ z : Int32, z = (gm 34 b.toNatClampNeg) := ⟨_, rfl⟩
    refine W.eq (g2 := F0 m 112 ls [.int z_33]) (by rw [ez_33]) ?_
    have hz_33 : iv 0 1 z_33 := iv_of ez_33 (CI_a hI 34 hvb (by decide))
    refine lv_if_eq (tgt := 119) hx hb dX1_told_112 (by decide) (fun c_34 => ?_) (fun c_34 => ?_)
    · have h_35 : iv 0 0 z_33 := iv_eq c_34 hz_33 (iv_k (by decide) : iv 0 0 0) (by decide)
      refine lv_iconst (v := 0) hx hb dX1_told_119 (by decide) ?_
      exact hj120 0 hvb h_32 (iv_w (iv_k (by decide) : iv 0 0 0) (by decide)) _ _ _ hP hD hS (lv_sub hl [0, 1] rfl)
    · have h_36 : iv 1 1 z_33 := iv_neL c_34 hz_33 (by decide)
      refine lv_iconst (v := 1) hx hb dX1_told_115 (by decide) ?_
      refine lv_goto (tgt := 120) hx hb dX1_told_116 (by decide) ?_
      exact hj120 1 hvb h_32 (iv_w (iv_k (by decide) : iv 1 1 1) (by decide)) _ _ _ hP hD hS (lv_sub hl [0, 1] rfl)
  by_cases c_37 : (wh : Int32).toInt = 8
  · refine lv_tableIn (tgt := 121) hx hb dX1_told_1 (by rw [c_37]; decide) (by rw [c_37]; decide) (by rw [c_37]; rfl) (by decide) ?_
    have h_38 : iv 8 8 wh := iv_at c_37
    refine ec_aload_n hx hb dX1_told_121 rfl (lv_at hl 0 rfl) ?_
    refine cr_get (t := 10) (j := 14) (C := RX1) (T := TX1) (N := 19) (v := .int (gm 35 b.toNatClampNeg)) hx hb htb inX1 hown hK hP hvb (by decide) (by decide) (by decide) rfl (by decide) (htb _ kw_662) rfl dX1_told_122 ?_
    obtain ⟨z_39, ez_39⟩ : ∃ z : Int32, z = (gm 35 b.toNatClampNeg) := ⟨_, rfl⟩
    refine W.eq (g2 := F0 m 125 ls [.int z_39]) (by rw [ez_39]) ?_
    have hz_39 : iv 0 1 z_39 := iv_of ez_39 (CI_a hI 35 hvb (by decide))
    refine lv_if_eq (tgt := 132) hx hb dX1_told_125 (by decide) (fun c_40 => ?_) (fun c_40 => ?_)
    · have h_41 : iv 0 0 z_39 := iv_eq c_40 hz_39 (iv_k (by decide) : iv 0 0 0) (by decide)
      refine lv_iconst (v := 0) hx hb dX1_told_132 (by decide) ?_
      exact hj133 0 hvb h_38 (iv_w (iv_k (by decide) : iv 0 0 0) (by decide)) _ _ _ hP hD hS (lv_sub hl [0, 1] rfl)
    · have h_42 : iv 1 1 z_39 := iv_neL c_40 hz_39 (by decide)
      refine lv_iconst (v := 1) hx hb dX1_told_128 (by decide) ?_
      refine lv_goto (tgt := 133) hx hb dX1_told_129 (by decide) ?_
      exact hj133 1 hvb h_38 (iv_w (iv_k (by decide) : iv 1 1 1) (by decide)) _ _ _ hP hD hS (lv_sub hl [0, 1] rfl)
  by_cases c_43 : (wh : Int32).toInt = 9
  · refine lv_tableIn (tgt := 134) hx hb dX1_told_1 (by rw [c_43]; decide) (by rw [c_43]; decide) (by rw [c_43]; rfl) (by decide) ?_
    have h_44 : iv 9 9 wh := iv_at c_43
    refine ec_aload_n hx hb dX1_told_134 rfl (lv_at hl 0 rfl) ?_
    refine cr_get (t := 10) (j := 15) (C := RX1) (T := TX1) (N := 19) (v := .int (gm 36 b.toNatClampNeg)) hx hb htb inX1 hown hK hP hvb (by decide) (by decide) (by decide) rfl (by decide) (htb _ kw_664) rfl dX1_told_135 ?_
    obtain ⟨z_45, ez_45⟩ : ∃ z : Int32, z = (gm 36 b.toNatClampNeg) := ⟨_, rfl⟩
    refine W.eq (g2 := F0 m 138 ls [.int z_45]) (by rw [ez_45]) ?_
    have hz_45 : iv 0 1 z_45 := iv_of ez_45 (CI_a hI 36 hvb (by decide))
    refine lv_if_eq (tgt := 145) hx hb dX1_told_138 (by decide) (fun c_46 => ?_) (fun c_46 => ?_)
    · have h_47 : iv 0 0 z_45 := iv_eq c_46 hz_45 (iv_k (by decide) : iv 0 0 0) (by decide)
      refine lv_iconst (v := 0) hx hb dX1_told_145 (by decide) ?_
      exact hj146 0 hvb h_44 (iv_w (iv_k (by decide) : iv 0 0 0) (by decide)) _ _ _ hP hD hS (lv_sub hl [0, 1] rfl)
    · have h_48 : iv 1 1 z_45 := iv_neL c_46 hz_45 (by decide)
      refine lv_iconst (v := 1) hx hb dX1_told_141 (by decide) ?_
      refine lv_goto (tgt := 146) hx hb dX1_told_142 (by decide) ?_
      exact hj146 1 hvb h_44 (iv_w (iv_k (by decide) : iv 1 1 1) (by decide)) _ _ _ hP hD hS (lv_sub hl [0, 1] rfl)
  by_cases c_49 : (wh : Int32).toInt = 10
  · refine lv_tableIn (tgt := 147) hx hb dX1_told_1 (by rw [c_49]; decide) (by rw [c_49]; decide) (by rw [c_49]; rfl) (by decide) ?_
    have h_50 : iv 10 10 wh := iv_at c_49
    refine ec_aload_n hx hb dX1_told_147 rfl (lv_at hl 0 rfl) ?_
    refine cr_get (t := 10) (j := 17) (C := RX1) (T := TX1) (N := 19) (v := .int (gm 38 b.toNatClampNeg)) hx hb htb inX1 hown hK hP hvb (by decide) (by decide) (by decide) rfl (by decide) (htb _ kw_671) rfl dX1_told_148 ?_
    obtain ⟨z_51, ez_51⟩ : ∃ z : Int32, z = (gm 38 b.toNatClampNeg) := ⟨_, rfl⟩
    refine W.eq (g2 := F0 m 151 ls [.int z_51]) (by rw [ez_51]) ?_
    have hz_51 : iv 0 1 z_51 := iv_of ez_51 (CI_a hI 38 hvb (by decide))
    refine lv_if_eq (tgt := 158) hx hb dX1_told_151 (by decide) (fun c_52 => ?_) (fun c_52 => ?_)
    · have h_53 : iv 0 0 z_51 := iv_eq c_52 hz_51 (iv_k (by decide) : iv 0 0 0) (by decide)
      refine lv_iconst (v := 0) hx hb dX1_told_158 (by decide) ?_
      exact hj159 0 hvb h_50 (iv_w (iv_k (by decide) : iv 0 0 0) (by decide)) _ _ _ hP hD hS (lv_sub hl [0, 1] rfl)
    · have h_54 : iv 1 1 z_51 := iv_neL c_52 hz_51 (by decide)
      refine lv_iconst (v := 1) hx hb dX1_told_154 (by decide) ?_
      refine lv_goto (tgt := 159) hx hb dX1_told_155 (by decide) ?_
      exact hj159 1 hvb h_50 (iv_w (iv_k (by decide) : iv 1 1 1) (by decide)) _ _ _ hP hD hS (lv_sub hl [0, 1] rfl)
  by_cases c_55 : (wh : Int32).toInt = 11
  · refine lv_tableIn (tgt := 160) hx hb dX1_told_1 (by rw [c_55]; decide) (by rw [c_55]; decide) (by rw [c_55]; rfl) (by decide) ?_
    have h_56 : iv 11 11 wh := iv_at c_55
    refine ec_aload_n hx hb dX1_told_160 rfl (lv_at hl 0 rfl) ?_
    refine cr_get (t := 10) (j := 4) (C := RX1) (T := TX1) (N := 19) (v := eV (ad 9) (gm 29 b.toNatClampNeg)) hx hb htb inX1 hown hK hP hvb (by decide) (by decide) (by decide) rfl (by decide) (htb _ kw_650) rfl dX1_told_161 ?_
    obtain ⟨z_57, ez_57⟩ : ∃ z : Int32, z = (gm 29 b.toNatClampNeg) := ⟨_, rfl⟩
    refine W.eq (g2 := F0 m 164 ls [eV (ad 9) z_57]) (by rw [ez_57]) ?_
    have hz_57 : iv (-1) 79 z_57 := iv_of ez_57 (CI_a hI 29 hvb (by decide))
    have h_58 : iv 0 79 z_57 := ⟨by rw [ez_57]; exact hel, (hz_57).2⟩
    refine cr_get (t := 9) (j := 3) (C := RX3) (T := TX3) (N := 21) (v := .int (gm 13 z_57.toNatClampNeg)) hx hb htb inX3 hown hK hP h_58 (by decide) (by decide) (by decide) rfl (by decide) (htb _ kw_1344) rfl dX1_told_164 ?_
    obtain ⟨z_59, ez_59⟩ : ∃ z : Int32, z = (gm 13 z_57.toNatClampNeg) := ⟨_, rfl⟩
    refine W.eq (g2 := F0 m 167 ls [.int z_59]) (by rw [ez_59]) ?_
    have hz_59 : iv 0 1201 z_59 := iv_of ez_59 (CI_a hI 13 h_58 (by decide))
    exact W.nb (fun hN => W.widen (k := 1) (n := 6) (by decide) (by decide) (vx_ret (W.iret (v := z_59) hx hb hr (fun t ht hW => ⟨⟨some (.int z_59), (sg, gm, lg), rfl, ⟨z_59, rfl, rfl, (iv_w hz_59 (by decide))⟩, by rw [ht]; exact hP, va_K.moved hW.alike hK, hD⟩, hS.F ht, by rw [ht]; exact hN⟩) hS.2.2 dX1_told_167)))
  refine lv_tableOut (tgt := 168) hx hb dX1_told_1 (by have q1 := ((iv_all wh)).1; have q2 := ((iv_all wh)).2; omega) (by decide) ?_
  refine lv_iconst (v := (-1)) hx hb dX1_told_168 (by decide) ?_
  exact W.nb (fun hN => W.widen (k := 1) (n := 6) (by decide) (by decide) (vx_ret (W.iret (v := (-1)) hx hb hr (fun t ht hW => ⟨⟨some (.int (-1)), (sg, gm, lg), rfl, ⟨(-1), rfl, rfl, (iv_w (iv_k (by decide) : iv (-1) (-1) (-1)) (by decide))⟩, by rw [ht]; exact hP, va_K.moved hW.alike hK, hD⟩, hS.F ht, by rw [ht]; exact hN⟩) hS.2.2 dX1_told_169)))

set_option maxHeartbeats 4000000 in
set_option maxRecDepth 100000 in
theorem d_bean (l : Launch) (dC : Nat → ClassId) (dI : Nat → Nat → Nat) (ad : Nat → Nat → Nat) (cid : Nat → ClassId) (a2 : Nat → Nat) (lx : List Nat) (sg : Nat → Int32) (gm : Nat → Nat → Int32) (lg : Nat → Nat → Int64) (x : Int32) (k : Int32) (wh : Int32) (hI : CI sg gm) (hvx : iv 0 0 x) (hBEL9 : BEL9 sg gm) : CMt dC dI ad cid a2 lx l yX12_bean wm_X12_bean ({ frames := 2, cells := 1, slots := 6, locals := 41 }) [eV (ad 0) x, .int k, .int wh] sg gm lg (fun v u => ∃ r : Int32, v = some (.int r) ∧ u = (sg, gm, lg) ∧ (iv (-1) 1201 r)) (fun _ _ => False) := by
  intro sz
  refine vx_ofW (cc := cX12_bean) (maxL := 3) (ret := (some .int)) (by decide) rfl ?_
  intro p e s m args below meth c s₁ B hml hxt hv
  obtain ⟨rfl, hsz, hP, hK, hD0, hG⟩ := hv
  have hx := B.exec
  have hb := B.bytes
  have hr := B.returns
  have hts := atoms_spec (ws := wm_X12_bean) B.pre
  have htb := fun (w : Cond) (h : w ∈ tb) => hts w (List.mem_cons_of_mem _ h)
  have hown : s.vm.findClass RX12 = some m.cls := findClass_of_methodNamed B.named
  have hlocks := B.notSynchronized
  subst hsz
  have hD := hD0.self (sz := s.heap.size)
  generalize hAe : va_A (cW ad cid a2 lx sg gm lg) s.heap.size = A at hD hG ⊢
  have hA : ∀ q : Nat, s.heap.size ≤ q → A q := fun q h => by rw [← hAe]; exact Or.inr h
  have hS : va_S A s.heap s.heap [] := va_S.rf
  have hl := lv_entry ([eV (ad 0) x, .int k, .int wh]) (n := 3) (by rw [show (lg_sl ([eV (ad 0) x, .int k, .int wh])).length = 3 from by simp [lg_sl, eV_cat, cat_i, cat_l]]; exact Nat.le_of_ble_eq_true rfl)
  rw [lg_entry_eq]
  generalize (lg_sl ([eV (ad 0) x, .int k, .int wh]) ++ List.replicate (3 - (lg_sl ([eV (ad 0) x, .int k, .int wh])).length) Slot.unset).toArray = ls at hl ⊢
  have hl : lv_has ls 3 [(0, eV (ad 0) x), (1, .int k), (2, .int wh)] := by simp [lv_args, eV_cat, cat_i, cat_l] at hl; exact hl
  have hj31 : ∀ (y0_31 : Int32) (_ : iv 0 0 x) (_ : iv (-1) 1201 y0_31) (H : Heap) (locs : List Loc) (ls : Array Slot), va_P (dC, dI) vwCl (cW ad cid a2 lx sg gm lg) H → va_D A (cW ad cid a2 lx sg gm lg) → va_S A s.heap H locs → lv_has ls 3 [(0, eV (ad 0) x), (1, .int k), (2, .int wh)] → W p l e (headSpec wm_X12_bean ({ frames := 2, cells := 1, slots := 6, locals := 41 })).room s m ([eV (ad 0) x, .int k, .int wh] : List Value).toArray below meth c H locs 0 0 (vx_MQ below (cQx dC dI ad cid a2 lx (fun v u => ∃ r : Int32, v = some (.int r) ∧ u = (sg, gm, lg) ∧ (iv (-1) 1201 r)) A) (cX dC dI ad cid a2 lx (fun _ _ => False) A) ([eV (ad 0) x, .int k, .int wh] : List Value).toArray s 1 6 A) (F0 m 31 ls [.int y0_31]) := by
    intro y0_31 hsx0_31 hy0_31 H locs ls hP hD hS hl
    exact W.nb (fun hN => W.widen (k := 1) (n := 6) (by decide) (by decide) (vx_ret (W.iret (v := y0_31) hx hb hr (fun t ht hW => ⟨⟨some (.int y0_31), (sg, gm, lg), rfl, ⟨y0_31, rfl, rfl, hy0_31⟩, by rw [ht]; exact hP, va_K.moved hW.alike hK, hD⟩, hS.F ht, by rw [ht]; exact hN⟩) hS.2.2 dX12_bean_31)))
  have hj30 : ∀ (_ : iv 0 0 x) (H : Heap) (locs : List Loc) (ls : Array Slot), va_P (dC, dI) vwCl (cW ad cid a2 lx sg gm lg) H → va_D A (cW ad cid a2 lx sg gm lg) → va_S A s.heap H locs → lv_has ls 3 [(0, eV (ad 0) x), (1, .int k), (2, .int wh)] → W p l e (headSpec wm_X12_bean ({ frames := 2, cells := 1, slots := 6, locals := 41 })).room s m ([eV (ad 0) x, .int k, .int wh] : List Value).toArray below meth c H locs 0 0 (vx_MQ below (cQx dC dI ad cid a2 lx (fun v u => ∃ r : Int32, v = some (.int r) ∧ u = (sg, gm, lg) ∧ (iv (-1) 1201 r)) A) (cX dC dI ad cid a2 lx (fun _ _ => False) A) ([eV (ad 0) x, .int k, .int wh] : List Value).toArray s 1 6 A) (F0 m 30 ls []) := by
    intro  hsx0_30 H locs ls hP hD hS hl
    refine lv_iconst (v := (-1)) hx hb dX12_bean_30 (by decide) ?_
    exact hj31 (-1) hsx0_30 (iv_w (iv_k (by decide) : iv (-1) (-1) (-1)) (by decide)) _ _ _ hP hD hS (lv_sub hl [0, 1, 2] rfl)
  refine lv_iload_n hx hb dX12_bean_0 rfl (lv_at hl 1 rfl) ?_
  refine lv_if_lt (tgt := 30) hx hb dX12_bean_1 (by decide) (fun c_1 => ?_) (fun c_1 => ?_)
  · have h_2 : iv (-2147483648) (-1) k := iv_ltL c_1 (iv_all k) (iv_k (by decide) : iv 0 0 0) (by decide)
    exact hj30 hvx _ _ _ hP hD hS (lv_sub hl [0, 1, 2] rfl)
  · have h_3 : iv 0 2147483647 k := iv_leR (i32_ge c_1) (iv_k (by decide) : iv 0 0 0) (iv_all k) (by decide)
    refine lv_iload_n hx hb dX12_bean_4 rfl (lv_at hl 1 rfl) ?_
    refine ec_aload_n hx hb dX12_bean_5 rfl (lv_at hl 0 rfl) ?_
    refine cr_get (t := 0) (j := 5) (C := RX12) (T := TX12) (N := 12) (v := eV (ad 4) 0) hx hb htb inX12 hown hK hP hvx (by decide) (by decide) (by decide) rfl (by decide) (htb _ kw_33) (cV_c rfl (by decide) (by rw [show cMu 0 5 = 0 from rfl, Nat.zero_mul]; rfl)) dX12_bean_6 ?_
    refine cm_callV (t := 4) (C := RX10) (T := TX10) (N := 4) (rest := [.int k]) (as := []) ⟨hx, hb, hml, hown, htb⟩ (d_countWi l dC dI ad cid a2 lx sg gm lg 0 hI (iv_k (by decide) : iv 0 0 0)) (cwV 0 htb (gd_V kw_809 kw_323 kw_324 kw_32 kw_1413) rfl rfl rfl (by decide +kernel) ⟨Nat.le_of_ble_eq_true rfl, Nat.le_of_ble_eq_true rfl⟩) (iv_k (by decide) : iv 0 0 0) (by decide) (by decide) rfl rfl hl.1 rfl (Nat.le_trans (cs_c (cat_i _) cs_n) (by decide)) dX12_bean_9 ⟨Nat.le_of_ble_eq_true rfl, Nat.le_of_ble_eq_true rfl⟩ hK hP hD hS hA hG (fun E ce q9 u_5 H locs hw hP hD hS hce hcv hcl => ?_) (fun v9 u_5 H locs hw hP hD hS => ?_)
    · exact hw.elim
    obtain ⟨r_4, rfl, rfl, hr_4, fr_r_4⟩ := hw
    have hP : va_P (dC, dI) vwCl (cW ad cid a2 lx sg gm lg) H := hP
    have hD : va_D A (cW ad cid a2 lx sg gm lg) := hD
    refine W.eq (g2 := F0 m 12 ls [.int r_4, .int k]) rfl ?_
    refine lv_icmp_ge (tgt := 30) hx hb dX12_bean_12 (by decide) (fun c_7 => ?_) (fun c_7 => ?_)
    · have d_8 : (r_4 : Int32).toInt ≤ (k : Int32).toInt := Int32.le_iff_toInt_le.mp c_7
      exact hj30 hvx _ _ _ hP hD hS (lv_sub hl [0, 1, 2] rfl)
    · have d_9 : (k : Int32).toInt < (r_4 : Int32).toInt := Int32.lt_iff_toInt_lt.mp (i32_lt c_7)
      have h_10 : iv 0 79 k := iv_ltL (i32_lt c_7) h_3 hr_4 (by decide)
      have h_11 : iv 1 80 r_4 := iv_ltR (i32_lt c_7) h_3 hr_4 (by decide)
      refine ec_aload_n hx hb dX12_bean_15 rfl (lv_at hl 0 rfl) ?_
      refine cr_get (t := 0) (j := 5) (C := RX12) (T := TX12) (N := 12) (v := eV (ad 4) 0) hx hb htb inX12 hown hK hP hvx (by decide) (by decide) (by decide) rfl (by decide) (htb _ kw_33) (cV_c rfl (by decide) (by rw [show cMu 0 5 = 0 from rfl, Nat.zero_mul]; rfl)) dX12_bean_16 ?_
      refine lv_iload_n hx hb dX12_bean_19 rfl (lv_at hl 1 rfl) ?_
      refine cm_callV (t := 4) (C := RX10) (T := TX10) (N := 4) (rest := []) (as := [.int k]) ⟨hx, hb, hml, hown, htb⟩ (d_numbered l dC dI ad cid a2 lx sg gm lg 0 k hI (iv_k (by decide) : iv 0 0 0) h_10) (cwV 1 htb (gd_V kw_1340 kw_327 kw_328 kw_32 kw_1414) rfl rfl rfl (by decide +kernel) ⟨Nat.le_of_ble_eq_true rfl, Nat.le_of_ble_eq_true rfl⟩) (iv_k (by decide) : iv 0 0 0) (by decide) (by decide) rfl rfl hl.1 rfl (Nat.le_trans cs_n (by decide)) dX12_bean_20 ⟨Nat.le_of_ble_eq_true rfl, Nat.le_of_ble_eq_true rfl⟩ hK hP hD hS hA hG (fun E ce q9 u_13 H locs hw hP hD hS hce hcv hcl => ?_) (fun v9 u_13 H locs hw hP hD hS => ?_)
      · exact hw.elim
      obtain ⟨r_12, rfl, rfl, hr_12, fr_r_12⟩ := hw
      have hP : va_P (dC, dI) vwCl (cW ad cid a2 lx sg gm lg) H := hP
      have hD : va_D A (cW ad cid a2 lx sg gm lg) := hD
      refine W.eq (g2 := F0 m 23 ls [eV (ad 10) r_12]) rfl ?_
      refine lv_iload_n hx hb dX12_bean_23 rfl (lv_at hl 2 rfl) ?_
      refine cm_callV (t := 10) (C := RX1) (T := TX1) (N := 19) (rest := []) (as := [.int wh]) ⟨hx, hb, hml, hown, htb⟩ (d_told l dC dI ad cid a2 lx sg gm lg r_12 wh hI hr_12 (by rw [fr_r_12]; exact hBEL9 _ (lt_cl h_10 (show iv 0 80 (sg 12) from CI_s hI 12) (by decide) (by decide) (by have q3 := congrArg Int32.toInt fr_r_4; have := i32_0; have := i32_1; have := i32_2; have := i32_m1; have := (show iv 0 80 (sg 12) from CI_s hI 12).1; have := (show iv 0 80 (sg 12) from CI_s hI 12).2; have := (hvx).1; have := (hvx).2; have := (h_10).1; have := (h_10).2; have := (h_11).1; have := (h_11).2; have := (hr_12).1; have := (hr_12).2; omega)))) (cwV 1 htb (gd_V kw_1341 kw_1342 kw_1343 kw_90 kw_1661) rfl rfl rfl (by decide +kernel) ⟨Nat.le_of_ble_eq_true rfl, Nat.le_of_ble_eq_true rfl⟩) hr_12 (by decide) (by decide) rfl rfl hl.1 rfl (Nat.le_trans cs_n (by decide)) dX12_bean_24 ⟨Nat.le_of_ble_eq_true rfl, Nat.le_of_ble_eq_true rfl⟩ hK hP hD hS hA hG (fun E ce q9 u_16 H locs hw hP hD hS hce hcv hcl => ?_) (fun v9 u_16 H locs hw hP hD hS => ?_)
      · exact hw.elim
      obtain ⟨r_15, rfl, rfl, hr_15⟩ := hw
      have hP : va_P (dC, dI) vwCl (cW ad cid a2 lx sg gm lg) H := hP
      have hD : va_D A (cW ad cid a2 lx sg gm lg) := hD
      refine W.eq (g2 := F0 m 27 ls [.int r_15]) rfl ?_
      refine lv_goto (tgt := 31) hx hb dX12_bean_27 (by decide) ?_
      exact hj31 r_15 hvx hr_15 _ _ _ hP hD hS (lv_sub hl [0, 1, 2] rfl)
end
section
/-- the place of a list's cells -/
def dV (ad : Nat → Nat → Nat) (a2 : Nat → Nat) (gm : Nat → Nat → Int32) (q : Nat) : Value := .ref (if (gm 42 q).toInt = 0 then ad 34 0 else a2 q)
theorem dV_cat (ad : Nat → Nat → Nat) (a2 : Nat → Nat) (gm : Nat → Nat → Int32) (q : Nat) : (dV ad a2 gm q).category = 1 := rfl
theorem dV_n {ad : Nat → Nat → Nat} {a2 : Nat → Nat} {gm : Nat → Nat → Int32} {q : Nat} (h : ¬ (gm 42 q).toInt = 0) : dV ad a2 gm q = .ref (a2 q) := by unfold dV; rw [if_neg h]
/-- what the lists bear: as many elements as they say, all there -/
def LDI (lx : List Nat) (gm : Nat → Nat → Int32) : Prop := ∀ q, q < 240 → (gm 41 q).toInt ≤ (gm 42 q).toInt ∧ (¬ (gm 42 q).toInt = 0 → q ∈ lx) ∧ ∀ j, j < (gm 41 q).toNatClampNeg → 0 ≤ (gm 57 (128 * q + j)).toInt
section LST
variable {p : Program} {l : Launch} {e : Env} {R : Room} {s : State} {m : MethodId} {args : Array Value} {below : List Frame} {meth : Method} {c : Code} {H : Heap} {locs : List Loc} {cells slots : Nat} {Q : State → Prop} {cc : ByteArray} {pc : Nat} {ls : Array Slot} {rest : List Value} {A : Nat → Prop} {H0 : Heap}
variable {dC : Nat → ClassId} {dI : Nat → Nat → Nat} {ad : Nat → Nat → Nat} {cid : Nat → ClassId} {a2 : Nat → Nat} {lx : List Nat} {sg : Nat → Int32} {gm : Nat → Nat → Int32} {lg : Nat → Nat → Int64} {own : String} {index : Nat}
theorem cW_ld {q : Nat} (h : q ∈ lx) : ∃ p9 : Nat, (cW ad cid a2 lx sg gm lg)[p9]? = some (a2 q, cD ad cid gm q) := by
  obtain ⟨i, hi⟩ := List.getElem?_of_mem h
  refine ⟨(cFx ad cid a2 sg gm lg).length + i, ?_⟩
  unfold cW
  rw [List.getElem?_append_right (Nat.le_add_right _ _), Nat.add_sub_cancel_left, List.getElem?_map, hi]
  rfl
theorem cl_aald {q : Nat} {y : Int32} (hexec : p.tables.exec = Jvm.exec) (hb : c.code = cc) (hK : va_K (dC, dI) vwCl (cT cid) s) (hP : va_P (dC, dI) vwCl (cW ad cid a2 lx sg gm lg) H) (hl : q ∈ lx) (hc : ¬ (gm 42 q).toInt = 0) (hin : vp_in y (gm 42 q).toNatClampNeg) (h8 : y.toNatClampNeg < 128) (hdg : decode cc pc = .ok (.aaload, 1))
    (kk : W p l e R s m args below meth c H locs cells slots Q (F0 m (pc + 1) ls (eV (ad 9) (gm 57 (128 * q + y.toNatClampNeg)) :: rest))) : W p l e R s m args below meth c H locs cells slots Q (F0 m pc ls (.int y :: dV ad a2 gm q :: rest)) := by
  rw [dV_n hc]
  obtain ⟨p9, hp⟩ := cW_ld (ad := ad) (cid := cid) (a2 := a2) (sg := sg) (gm := gm) (lg := lg) hl
  refine va_aldq (D := (dC, dI)) (C := "java/lang/Object") (f := cDr ad gm q) hexec hb hK hP p9 32 hp (by rw [cT_at (by decide)]; rfl) hin hdg ?_
  rw [show va_rf (cDr ad gm q y.toNatClampNeg) = eV (ad 9) (gm 57 (128 * q + y.toNatClampNeg)) from by unfold cDr; rw [if_pos h8]; rfl]
  exact kk
theorem cl_cast {h : Int} {z : Int32} (hexec : p.tables.exec = Jvm.exec) (hb : c.code = cc) (hG : CE ad A s) (hown : s.vm.findClass own = some m.cls) (hlink : (Cond.classLink own index "WiredBeans$Element").before args s = true) (hK : va_K (dC, dI) vwCl (cT cid) s) (hP : va_P (dC, dI) vwCl (cW ad cid a2 lx sg gm lg) H) (hz : iv 0 h z) (hn : h < (cNum 9 : Int)) (hdg : decode cc pc = .ok (.checkcast index, 3))
    (kk : W p l e R s m args below meth c H locs cells slots Q (F0 m (pc + 3) ls (eV (ad 9) z :: rest))) : W p l e R s m args below meth c H locs cells slots Q (F0 m pc ls (eV (ad 9) z :: rest)) := by
  rw [eV_ref hz.1] at kk ⊢
  exact va_castY hexec hb hown hlink hG.2.1.2.2.1.2 (cm_recv (C := RX3) (T := TX3) (N := 21) hK hP hz hn (by decide) rfl) hdg kk
end LST

theorem dJ15_checkIndex_7cf53_0 : decode cJ15_checkIndex_7cf53 0 = .ok (.iload_n 0, 1) := by decide +kernel
theorem dJ15_checkIndex_7cf53_1 : decode cJ15_checkIndex_7cf53 1 = .ok (.iload_n 1, 1) := by decide +kernel
theorem dJ15_checkIndex_7cf53_2 : decode cJ15_checkIndex_7cf53 2 = .ok (.aconst_null, 1) := by decide +kernel
theorem dJ15_checkIndex_7cf53_3 : decode cJ15_checkIndex_7cf53 3 = .ok (.invokestatic 105, 3) := by decide +kernel
theorem dJ15_checkIndex_7cf53_6 : decode cJ15_checkIndex_7cf53 6 = .ok (.ireturn, 1) := by decide +kernel
theorem dJx4a65c_elementData_915e3_0 : decode cJx4a65c_elementData_915e3 0 = .ok (.aload_n 0, 1) := by decide +kernel
theorem dJx4a65c_elementData_915e3_1 : decode cJx4a65c_elementData_915e3 1 = .ok (.getfield 9, 3) := by decide +kernel
theorem dJx4a65c_elementData_915e3_4 : decode cJx4a65c_elementData_915e3 4 = .ok (.iload_n 1, 1) := by decide +kernel
theorem dJx4a65c_elementData_915e3_5 : decode cJx4a65c_elementData_915e3 5 = .ok (.aaload, 1) := by decide +kernel
theorem dJx4a65c_elementData_915e3_6 : decode cJx4a65c_elementData_915e3 6 = .ok (.areturn, 1) := by decide +kernel
theorem dJx4a65c_get_915e3_0 : decode cJx4a65c_get_915e3 0 = .ok (.iload_n 1, 1) := by decide +kernel
theorem dJx4a65c_get_915e3_1 : decode cJx4a65c_get_915e3 1 = .ok (.aload_n 0, 1) := by decide +kernel
theorem dJx4a65c_get_915e3_2 : decode cJx4a65c_get_915e3 2 = .ok (.getfield 48, 3) := by decide +kernel
theorem dJx4a65c_get_915e3_5 : decode cJx4a65c_get_915e3 5 = .ok (.invokestatic 118, 3) := by decide +kernel
theorem dJx4a65c_get_915e3_8 : decode cJx4a65c_get_915e3 8 = .ok (.pop, 1) := by decide +kernel
theorem dJx4a65c_get_915e3_9 : decode cJx4a65c_get_915e3 9 = .ok (.aload_n 0, 1) := by decide +kernel
theorem dJx4a65c_get_915e3_10 : decode cJx4a65c_get_915e3 10 = .ok (.iload_n 1, 1) := by decide +kernel
theorem dJx4a65c_get_915e3_11 : decode cJx4a65c_get_915e3 11 = .ok (.invokevirtual 123, 3) := by decide +kernel
theorem dJx4a65c_get_915e3_14 : decode cJx4a65c_get_915e3 14 = .ok (.areturn, 1) := by decide +kernel

set_option maxHeartbeats 4000000 in
set_option maxRecDepth 100000 in
theorem d_pchk (l : Launch) (dC : Nat → ClassId) (dI : Nat → Nat → Nat) (ad : Nat → Nat → Nat) (cid : Nat → ClassId) (a2 : Nat → Nat) (lx : List Nat) (sg : Nat → Int32) (gm : Nat → Nat → Int32) (lg : Nat → Nat → Int64) (i : Int32) (j : Int32) (fn : Int32) (hI : CI sg gm) (hvfn : iv (-1) (-1) fn) (hi0 : 0 ≤ i.toInt) (hij : i.toInt < j.toInt) : CMt dC dI ad cid a2 lx l yJ3_checkIndex_8e157 wm_J3_checkIndex_8e157 ({ frames := 0, cells := 1, slots := 6, locals := 0 }) [.int i, .int j, eV (ad 36) fn] sg gm lg (fun v u => ∃ r : Int32, v = some (.int r) ∧ u = (sg, gm, lg) ∧ (r = i)) (fun _ _ => False) := by
  intro sz
  refine vx_ofW (cc := cJ3_checkIndex_8e157) (maxL := 3) (ret := (some .int)) (by decide) rfl ?_
  intro p e s m args below meth c s₁ B hml hxt hv
  obtain ⟨rfl, hsz, hP, hK, hD0, hG⟩ := hv
  have hx := B.exec
  have hb := B.bytes
  have hr := B.returns
  have hts := atoms_spec (ws := wm_J3_checkIndex_8e157) B.pre
  have htb := fun (w : Cond) (h : w ∈ tb) => hts w (List.mem_cons_of_mem _ h)
  have hown : s.vm.findClass RJ3 = some m.cls := findClass_of_methodNamed B.named
  have hlocks := B.notSynchronized
  subst hsz
  have hD := hD0.self (sz := s.heap.size)
  generalize hAe : va_A (cW ad cid a2 lx sg gm lg) s.heap.size = A at hD hG ⊢
  have hA : ∀ q : Nat, s.heap.size ≤ q → A q := fun q h => by rw [← hAe]; exact Or.inr h
  have hS : va_S A s.heap s.heap [] := va_S.rf
  have hl := lv_entry ([.int i, .int j, eV (ad 36) fn]) (n := 3) (by rw [show (lg_sl ([.int i, .int j, eV (ad 36) fn])).length = 3 from by simp [lg_sl, eV_cat, cat_i, cat_l]]; exact Nat.le_of_ble_eq_true rfl)
  rw [lg_entry_eq]
  generalize (lg_sl ([.int i, .int j, eV (ad 36) fn]) ++ List.replicate (3 - (lg_sl ([.int i, .int j, eV (ad 36) fn])).length) Slot.unset).toArray = ls at hl ⊢
  have hl : lv_has ls 3 [(0, .int i), (1, .int j), (2, eV (ad 36) fn)] := by simp [lv_args, eV_cat, cat_i, cat_l] at hl; exact hl
  have hj9 : ∀ (_ : iv (-1) (-1) fn) (_ : False) (H : Heap) (locs : List Loc) (ls : Array Slot), va_P (dC, dI) vwCl (cW ad cid a2 lx sg gm lg) H → va_D A (cW ad cid a2 lx sg gm lg) → va_S A s.heap H locs → lv_has ls 3 [(0, .int i), (1, .int j), (2, eV (ad 36) fn)] → W p l e (headSpec wm_J3_checkIndex_8e157 ({ frames := 0, cells := 1, slots := 6, locals := 0 })).room s m ([.int i, .int j, eV (ad 36) fn] : List Value).toArray below meth c H locs 0 0 (vx_MQ below (cQx dC dI ad cid a2 lx (fun v u => ∃ r : Int32, v = some (.int r) ∧ u = (sg, gm, lg) ∧ (r = i)) A) (cX dC dI ad cid a2 lx (fun _ _ => False) A) ([.int i, .int j, eV (ad 36) fn] : List Value).toArray s 1 6 A) (F0 m 9 ls []) := by
    intro  hsx2_9 hbad H locs ls hP hD hS hl
    exact hbad.elim
  refine lv_iload_n hx hb dJ3_checkIndex_8e157_0 rfl (lv_at hl 0 rfl) ?_
  refine lv_if_lt (tgt := 9) hx hb dJ3_checkIndex_8e157_1 (by decide) (fun c_1 => ?_) (fun c_1 => ?_)
  · have h_2 : iv (-2147483648) (-1) i := iv_ltL c_1 (iv_all i) (iv_k (by decide) : iv 0 0 0) (by decide)
    exact hj9 hvfn (by have := i32_0; have := i32_1; have := i32_2; have := i32_m1; have := (hvfn).1; have := (hvfn).2; have := (h_2).1; have := (h_2).2; omega) _ _ _ hP hD hS (lv_sub hl [0, 1, 2] rfl)
  · have h_3 : iv 0 2147483647 i := iv_leR (i32_ge c_1) (iv_k (by decide) : iv 0 0 0) (iv_all i) (by decide)
    refine lv_iload_n hx hb dJ3_checkIndex_8e157_4 rfl (lv_at hl 0 rfl) ?_
    refine lv_iload_n hx hb dJ3_checkIndex_8e157_5 rfl (lv_at hl 1 rfl) ?_
    refine lv_icmp_lt (tgt := 16) hx hb dJ3_checkIndex_8e157_6 (by decide) (fun c_4 => ?_) (fun c_4 => ?_)
    · have d_5 : (i : Int32).toInt < (j : Int32).toInt := Int32.lt_iff_toInt_lt.mp c_4
      have h_6 : iv 0 2147483646 i := iv_ltL c_4 h_3 (iv_all j) (by decide)
      have h_7 : iv 1 2147483647 j := iv_ltR c_4 h_3 (iv_all j) (by decide)
      refine lv_iload_n hx hb dJ3_checkIndex_8e157_16 rfl (lv_at hl 0 rfl) ?_
      exact W.nb (fun hN => W.widen (k := 1) (n := 6) (by decide) (by decide) (vx_ret (W.iret (v := i) hx hb hr (fun t ht hW => ⟨⟨some (.int i), (sg, gm, lg), rfl, ⟨i, rfl, rfl, (rfl)⟩, by rw [ht]; exact hP, va_K.moved hW.alike hK, hD⟩, hS.F ht, by rw [ht]; exact hN⟩) hS.2.2 dJ3_checkIndex_8e157_17)))
    · have d_8 : (j : Int32).toInt ≤ (i : Int32).toInt := Int32.le_iff_toInt_le.mp (i32_ge c_4)
      exact hj9 hvfn (by have := i32_0; have := i32_1; have := i32_2; have := i32_m1; have := (hvfn).1; have := (hvfn).2; have := (h_3).1; have := (h_3).2; omega) _ _ _ hP hD hS (lv_sub hl [0, 1, 2] rfl)

set_option maxHeartbeats 4000000 in
set_option maxRecDepth 100000 in
theorem d_chk (l : Launch) (dC : Nat → ClassId) (dI : Nat → Nat → Nat) (ad : Nat → Nat → Nat) (cid : Nat → ClassId) (a2 : Nat → Nat) (lx : List Nat) (sg : Nat → Int32) (gm : Nat → Nat → Int32) (lg : Nat → Nat → Int64) (i : Int32) (j : Int32) (hI : CI sg gm) (hi0 : 0 ≤ i.toInt) (hij : i.toInt < j.toInt) : CMt dC dI ad cid a2 lx l yJ15_checkIndex_7cf53 wm_J15_checkIndex_7cf53 ({ frames := 1, cells := 1, slots := 6, locals := 22 }) [.int i, .int j] sg gm lg (fun v u => ∃ r : Int32, v = some (.int r) ∧ u = (sg, gm, lg) ∧ (r = i)) (fun _ _ => False) := by
  intro sz
  refine vx_ofW (cc := cJ15_checkIndex_7cf53) (maxL := 2) (ret := (some .int)) (by decide) rfl ?_
  intro p e s m args below meth c s₁ B hml hxt hv
  obtain ⟨rfl, hsz, hP, hK, hD0, hG⟩ := hv
  have hx := B.exec
  have hb := B.bytes
  have hr := B.returns
  have hts := atoms_spec (ws := wm_J15_checkIndex_7cf53) B.pre
  have htb := fun (w : Cond) (h : w ∈ tb) => hts w (List.mem_cons_of_mem _ h)
  have hown : s.vm.findClass RJ15 = some m.cls := findClass_of_methodNamed B.named
  have hlocks := B.notSynchronized
  subst hsz
  have hD := hD0.self (sz := s.heap.size)
  generalize hAe : va_A (cW ad cid a2 lx sg gm lg) s.heap.size = A at hD hG ⊢
  have hA : ∀ q : Nat, s.heap.size ≤ q → A q := fun q h => by rw [← hAe]; exact Or.inr h
  have hS : va_S A s.heap s.heap [] := va_S.rf
  have hl := lv_entry ([.int i, .int j]) (n := 2) (Nat.le_of_ble_eq_true rfl)
  rw [lg_entry_eq]
  generalize (lg_sl ([.int i, .int j]) ++ List.replicate (2 - (lg_sl ([.int i, .int j])).length) Slot.unset).toArray = ls at hl ⊢
  have hl : lv_has ls 2 [(0, .int i), (1, .int j)] := hl
  refine lv_iload_n hx hb dJ15_checkIndex_7cf53_0 rfl (lv_at hl 0 rfl) ?_
  refine lv_iload_n hx hb dJ15_checkIndex_7cf53_1 rfl (lv_at hl 1 rfl) ?_
  refine ec_null (a := ad 36) hx hb dJ15_checkIndex_7cf53_2 ?_
  refine cm_callS (rest := []) (as := [.int i, .int j, eV (ad 36) (-1)]) ⟨hx, hb, hml, hown, htb⟩ (d_pchk l dC dI ad cid a2 lx sg gm lg i j (-1) hI (iv_k (by decide) : iv (-1) (-1) (-1)) hi0 hij) (va_cwS 3 htb (gd_S kw_799 kw_454 kw_455 kw_1443) rfl rfl rfl (by decide +kernel) ⟨Nat.le_of_ble_eq_true rfl, Nat.le_of_ble_eq_true rfl⟩)  rfl hl.1 rfl (Nat.le_trans cs_n (by decide)) dJ15_checkIndex_7cf53_3 ⟨Nat.le_of_ble_eq_true rfl, Nat.le_of_ble_eq_true rfl⟩ hK hP hD hS hA hG (fun E ce q9 u_2 H locs hw hP hD hS hce hcv hcl => ?_) (fun v9 u_2 H locs hw hP hD hS => ?_)
  · exact hw.elim
  obtain ⟨r_1, rfl, rfl, fr_r_1⟩ := hw
  have hP : va_P (dC, dI) vwCl (cW ad cid a2 lx sg gm lg) H := hP
  have hD : va_D A (cW ad cid a2 lx sg gm lg) := hD
  refine W.eq (g2 := F0 m 6 ls [.int r_1]) rfl ?_
  exact W.nb (fun hN => W.widen (k := 1) (n := 6) (by decide) (by decide) (vx_ret (W.iret (v := r_1) hx hb hr (fun t ht hW => ⟨⟨some (.int r_1), (sg, gm, lg), rfl, ⟨r_1, rfl, rfl, (fr_r_1)⟩, by rw [ht]; exact hP, va_K.moved hW.alike hK, hD⟩, hS.F ht, by rw [ht]; exact hN⟩) hS.2.2 dJ15_checkIndex_7cf53_6)))

set_option maxHeartbeats 4000000 in
set_option maxRecDepth 100000 in
theorem d_elementData (l : Launch) (dC : Nat → ClassId) (dI : Nat → Nat → Nat) (ad : Nat → Nat → Nat) (cid : Nat → ClassId) (a2 : Nat → Nat) (lx : List Nat) (sg : Nat → Int32) (gm : Nat → Nat → Int32) (lg : Nat → Nat → Int64) (x : Int32) (i : Int32) (hI : CI sg gm) (hvx : iv 0 239 x) (hLD : LDI lx gm) (hi0 : 0 ≤ i.toInt) (hil : i.toInt < (gm 41 x.toNatClampNeg).toInt) : CMt dC dI ad cid a2 lx l yJx4a65c_elementData_915e3 wm_Jx4a65c_elementData_915e3 ({ frames := 0, cells := 1, slots := 6, locals := 0 }) [eV (ad 11) x, .int i] sg gm lg (fun v u => ∃ r : Int32, v = some (eV (ad 9) r) ∧ u = (sg, gm, lg) ∧ (iv 0 79 r) ∧ (r = gm 57 (128 * x.toNatClampNeg + i.toNatClampNeg))) (fun _ _ => False) := by
  intro sz
  refine vx_ofW (cc := cJx4a65c_elementData_915e3) (maxL := 2) (ret := (some (.object "java/lang/Object"))) (by decide) rfl ?_
  intro p e s m args below meth c s₁ B hml hxt hv
  obtain ⟨rfl, hsz, hP, hK, hD0, hG⟩ := hv
  have hx := B.exec
  have hb := B.bytes
  have hr := B.returns
  have hts := atoms_spec (ws := wm_Jx4a65c_elementData_915e3) B.pre
  have htb := fun (w : Cond) (h : w ∈ tb) => hts w (List.mem_cons_of_mem _ h)
  have hown : s.vm.findClass RJx4a65c = some m.cls := findClass_of_methodNamed B.named
  have hlocks := B.notSynchronized
  subst hsz
  have hD := hD0.self (sz := s.heap.size)
  generalize hAe : va_A (cW ad cid a2 lx sg gm lg) s.heap.size = A at hD hG ⊢
  have hA : ∀ q : Nat, s.heap.size ≤ q → A q := fun q h => by rw [← hAe]; exact Or.inr h
  have hS : va_S A s.heap s.heap [] := va_S.rf
  have hl := lv_entry ([eV (ad 11) x, .int i]) (n := 2) (by rw [show (lg_sl ([eV (ad 11) x, .int i])).length = 2 from by simp [lg_sl, eV_cat, cat_i, cat_l]]; exact Nat.le_of_ble_eq_true rfl)
  rw [lg_entry_eq]
  generalize (lg_sl ([eV (ad 11) x, .int i]) ++ List.replicate (2 - (lg_sl ([eV (ad 11) x, .int i])).length) Slot.unset).toArray = ls at hl ⊢
  have hl : lv_has ls 2 [(0, eV (ad 11) x), (1, .int i)] := by simp [lv_args, eV_cat, cat_i, cat_l] at hl; exact hl
  refine ec_aload_n hx hb dJx4a65c_elementData_915e3_0 rfl (lv_at hl 0 rfl) ?_
  refine cr_get (t := 11) (j := 1) (C := RJx4a65c) (T := TJx4a65c) (N := 3) (v := dV ad a2 gm x.toNatClampNeg) hx hb htb inJx4a65c hown hK hP hvx (by decide) (by decide) (by decide) rfl (by decide) (htb _ kw_105) rfl dJx4a65c_elementData_915e3_1 ?_
  refine lv_iload_n hx hb dJx4a65c_elementData_915e3_4 rfl (lv_at hl 1 rfl) ?_
  have hq := hLD x.toNatClampNeg (by have := iv_cl hvx (by decide); have := hvx.2; omega)
  have h42 := (show iv 0 127 (gm 42 x.toNatClampNeg) from CI_a hI 42 hvx (by decide))
  have h41 := (show iv 0 80 (gm 41 x.toNatClampNeg) from CI_a hI 41 hvx (by decide))
  have hc9 : ¬ (gm 42 x.toNatClampNeg).toInt = 0 := by have := hq.1; omega
  have k1 := cl_0 hi0
  have k2 := iv_cl h42 (by decide)
  have k3 := iv_cl h41 (by decide)
  refine cl_aald hx hb hK hP (hq.2.1 hc9) hc9 (vp_in_iff.mpr ⟨hi0, by have := hq.1; omega⟩) (by have := hq.1; have := h42.2; omega) dJx4a65c_elementData_915e3_5 ?_
  obtain ⟨z_1, ez_1⟩ : ∃ z : Int32, z = gm 57 (128 * x.toNatClampNeg + i.toNatClampNeg) := ⟨_, rfl⟩
  refine W.eq (g2 := F0 m 6 ls [eV (ad 9) z_1]) (by rw [ez_1]) ?_
  have hz_1 : iv 0 79 z_1 := ⟨by rw [ez_1]; exact hq.2.2 _ (by omega), by rw [ez_1]; exact (show iv (-1) 79 _ from CI_n hI 57 (show 128 * x.toNatClampNeg + i.toNatClampNeg < crLen 57 from by have := iv_cl hvx (by decide); have := hvx.2; have := hq.1; have := h42.2; show _ < 30720; omega)).2⟩
  exact W.nb (fun hN => W.widen (k := 1) (n := 6) (by decide) (by decide) (vx_ret (W.aret (v := eV (ad 9) z_1) hx hb hr (Or.inl ⟨_, rfl⟩) (eV_is _ _) (fun t ht hW => ⟨⟨some (eV (ad 9) z_1), (sg, gm, lg), rfl, ⟨z_1, rfl, rfl, hz_1, (ez_1)⟩, by rw [ht]; exact hP, va_K.moved hW.alike hK, hD⟩, hS.F ht, by rw [ht]; exact hN⟩) hS.2.2 dJx4a65c_elementData_915e3_6)))

set_option maxHeartbeats 4000000 in
set_option maxRecDepth 100000 in
theorem d_lget (l : Launch) (dC : Nat → ClassId) (dI : Nat → Nat → Nat) (ad : Nat → Nat → Nat) (cid : Nat → ClassId) (a2 : Nat → Nat) (lx : List Nat) (sg : Nat → Int32) (gm : Nat → Nat → Int32) (lg : Nat → Nat → Int64) (x : Int32) (i : Int32) (hI : CI sg gm) (hvx : iv 0 239 x) (hLD : LDI lx gm) (hi0 : 0 ≤ i.toInt) (hil : i.toInt < (gm 41 x.toNatClampNeg).toInt) : CMt dC dI ad cid a2 lx l yJx4a65c_get_915e3 wm_Jx4a65c_get_915e3 ({ frames := 2, cells := 1, slots := 6, locals := 43 }) [eV (ad 11) x, .int i] sg gm lg (fun v u => ∃ r : Int32, v = some (eV (ad 9) r) ∧ u = (sg, gm, lg) ∧ (iv 0 79 r) ∧ (r = gm 57 (128 * x.toNatClampNeg + i.toNatClampNeg))) (fun _ _ => False) := by
  intro sz
  refine vx_ofW (cc := cJx4a65c_get_915e3) (maxL := 2) (ret := (some (.object "java/lang/Object"))) (by decide) rfl ?_
  intro p e s m args below meth c s₁ B hml hxt hv
  obtain ⟨rfl, hsz, hP, hK, hD0, hG⟩ := hv
  have hx := B.exec
  have hb := B.bytes
  have hr := B.returns
  have hts := atoms_spec (ws := wm_Jx4a65c_get_915e3) B.pre
  have htb := fun (w : Cond) (h : w ∈ tb) => hts w (List.mem_cons_of_mem _ h)
  have hown : s.vm.findClass RJx4a65c = some m.cls := findClass_of_methodNamed B.named
  have hlocks := B.notSynchronized
  subst hsz
  have hD := hD0.self (sz := s.heap.size)
  generalize hAe : va_A (cW ad cid a2 lx sg gm lg) s.heap.size = A at hD hG ⊢
  have hA : ∀ q : Nat, s.heap.size ≤ q → A q := fun q h => by rw [← hAe]; exact Or.inr h
  have hS : va_S A s.heap s.heap [] := va_S.rf
  have hl := lv_entry ([eV (ad 11) x, .int i]) (n := 2) (by rw [show (lg_sl ([eV (ad 11) x, .int i])).length = 2 from by simp [lg_sl, eV_cat, cat_i, cat_l]]; exact Nat.le_of_ble_eq_true rfl)
  rw [lg_entry_eq]
  generalize (lg_sl ([eV (ad 11) x, .int i]) ++ List.replicate (2 - (lg_sl ([eV (ad 11) x, .int i])).length) Slot.unset).toArray = ls at hl ⊢
  have hl : lv_has ls 2 [(0, eV (ad 11) x), (1, .int i)] := by simp [lv_args, eV_cat, cat_i, cat_l] at hl; exact hl
  refine lv_iload_n hx hb dJx4a65c_get_915e3_0 rfl (lv_at hl 1 rfl) ?_
  refine ec_aload_n hx hb dJx4a65c_get_915e3_1 rfl (lv_at hl 0 rfl) ?_
  refine cr_get (t := 11) (j := 2) (C := RJx4a65c) (T := TJx4a65c) (N := 3) (v := .int (gm 41 x.toNatClampNeg)) hx hb htb inJx4a65c hown hK hP hvx (by decide) (by decide) (by decide) rfl (by decide) (htb _ kw_678) rfl dJx4a65c_get_915e3_2 ?_
  obtain ⟨z_1, ez_1⟩ : ∃ z : Int32, z = (gm 41 x.toNatClampNeg) := ⟨_, rfl⟩
  refine W.eq (g2 := F0 m 5 ls [.int z_1, .int i]) (by rw [ez_1]) ?_
  have hz_1 : iv 0 80 z_1 := iv_of ez_1 (CI_a hI 41 hvx (by decide))
  refine cm_callS (rest := []) (as := [.int i, .int z_1]) ⟨hx, hb, hml, hown, htb⟩ (d_chk l dC dI ad cid a2 lx sg gm lg i z_1 hI hi0 (by rw [ez_1]; exact hil)) (va_cwS 2 htb (gd_S kw_796 kw_797 kw_798 kw_1513) rfl rfl rfl (by decide +kernel) ⟨Nat.le_of_ble_eq_true rfl, Nat.le_of_ble_eq_true rfl⟩)  rfl hl.1 rfl (Nat.le_trans cs_n (by decide)) dJx4a65c_get_915e3_5 ⟨Nat.le_of_ble_eq_true rfl, Nat.le_of_ble_eq_true rfl⟩ hK hP hD hS hA hG (fun E ce q9 u_3 H locs hw hP hD hS hce hcv hcl => ?_) (fun v9 u_3 H locs hw hP hD hS => ?_)
  · exact hw.elim
  obtain ⟨r_2, rfl, rfl, fr_r_2⟩ := hw
  have hP : va_P (dC, dI) vwCl (cW ad cid a2 lx sg gm lg) H := hP
  have hD : va_D A (cW ad cid a2 lx sg gm lg) := hD
  refine W.eq (g2 := F0 m 8 ls [.int r_2]) rfl ?_
  refine lv_pop hx hb dJx4a65c_get_915e3_8 rfl ?_
  refine ec_aload_n hx hb dJx4a65c_get_915e3_9 rfl (lv_at hl 0 rfl) ?_
  refine lv_iload_n hx hb dJx4a65c_get_915e3_10 rfl (lv_at hl 1 rfl) ?_
  refine cm_callV (t := 11) (C := RJx4a65c) (T := TJx4a65c) (N := 3) (rest := []) (as := [.int i]) ⟨hx, hb, hml, hown, htb⟩ (d_elementData l dC dI ad cid a2 lx sg gm lg x i hI hvx hLD hi0 hil) (cwV 1 htb (gd_V kw_800 kw_801 kw_802 kw_98 kw_1514) rfl rfl rfl (by decide +kernel) ⟨Nat.le_of_ble_eq_true rfl, Nat.le_of_ble_eq_true rfl⟩) hvx (by decide) (by decide) rfl rfl hl.1 rfl (Nat.le_trans cs_n (by decide)) dJx4a65c_get_915e3_11 ⟨Nat.le_of_ble_eq_true rfl, Nat.le_of_ble_eq_true rfl⟩ hK hP hD hS hA hG (fun E ce q9 u_6 H locs hw hP hD hS hce hcv hcl => ?_) (fun v9 u_6 H locs hw hP hD hS => ?_)
  · exact hw.elim
  obtain ⟨r_5, rfl, rfl, hr_5, fr_r_5⟩ := hw
  have hP : va_P (dC, dI) vwCl (cW ad cid a2 lx sg gm lg) H := hP
  have hD : va_D A (cW ad cid a2 lx sg gm lg) := hD
  refine W.eq (g2 := F0 m 14 ls [eV (ad 9) r_5]) rfl ?_
  exact W.nb (fun hN => W.widen (k := 1) (n := 6) (by decide) (by decide) (vx_ret (W.aret (v := eV (ad 9) r_5) hx hb hr (Or.inl ⟨_, rfl⟩) (eV_is _ _) (fun t ht hW => ⟨⟨some (eV (ad 9) r_5), (sg, gm, lg), rfl, ⟨r_5, rfl, rfl, hr_5, (fr_r_5)⟩, by rw [ht]; exact hP, va_K.moved hW.alike hK, hD⟩, hS.F ht, by rw [ht]; exact hN⟩) hS.2.2 dJx4a65c_get_915e3_14)))
end
section
theorem ky57 : ∀ t, t < 12 → ∀ j, j < cNf t → cKy t j ≠ 57 := by decide
theorem ay57 : ∀ t, t < 32 → cAy t ≠ 57 := by decide
section LSW
variable {p : Program} {l : Launch} {e : Env} {R : Room} {s : State} {m : MethodId} {args : Array Value} {below : List Frame} {meth : Method} {c : Code} {H : Heap} {locs : List Loc} {cells slots : Nat} {Q : State → Prop} {cc : ByteArray} {pc : Nat} {ls : Array Slot} {rest : List Value} {A : Nat → Prop} {H0 : Heap}
variable {dC : Nat → ClassId} {dI : Nat → Nat → Nat} {ad : Nat → Nat → Nat} {cid : Nat → ClassId} {a2 : Nat → Nat} {lx : List Nat} {sg : Nat → Int32} {gm : Nat → Nat → Int32} {lg : Nat → Nat → Int64} {own : String} {index : Nat}
theorem cE_57 {t i : Nat} {g : Nat → Int32} (ht : t < 32) : cE ad cid a2 sg (va_up gm 57 g) lg t i = cE ad cid a2 sg gm lg t i := by
  have hy : ∀ k, k ≠ 57 → va_up gm 57 g k = gm k := fun k hk => va_up_ne gm g hk
  by_cases h12 : t < 12
  · refine cE_eq (fun j hj => ?_) (fun h => absurd h12 (by omega)) (fun h => absurd h12 (by omega)) (fun h => absurd h12 (by omega))
    unfold cV
    rw [hy _ (ky57 t h12 j hj), hy 42 (by decide)]
  · refine cE_eq (fun j hj => ?_) (fun _ _ j => ?_) (fun _ _ => rfl) (fun _ j => ?_)
    · have h0 : cNf t = 0 := by
        have : ∀ t, t < 32 → ¬ t < 12 → cNf t = 0 := by decide
        exact this t ht h12
      omega
    · unfold cAi; rw [hy _ (ay57 t ht)]
    · unfold cAr; rw [hy _ (ay57 t ht)]
theorem cDr_ne {q q2 n : Nat} {z : Int32} (hq : q2 ≠ q) (hn : n < 128) : cD ad cid (va_up gm 57 (upd (gm 57) (128 * q + n) z)) q2 = cD ad cid gm q2 := by
  unfold cD
  rw [va_up_ne gm _ (show (42 : Nat) ≠ 57 by decide)]
  have : cDr ad (va_up gm 57 (upd (gm 57) (128 * q + n) z)) q2 = cDr ad gm q2 := funext fun j => by
    unfold cDr
    by_cases hj : j < 128
    · rw [if_pos hj, if_pos hj, show va_up gm 57 (upd (gm 57) (128 * q + n) z) 57 = upd (gm 57) (128 * q + n) z from up_at rfl, upd_ne (by omega)]
    · rw [if_neg hj, if_neg hj]
  rw [this]
theorem cDr_at {q n : Nat} {z : Int32} (hn : n < 128) : cDr ad (va_up gm 57 (upd (gm 57) (128 * q + n) z)) q = va_up (cDr ad gm q) n (er (ad 9) z) := funext fun j => by
  by_cases e9 : j = n
  · subst e9
    rw [show va_up (cDr ad gm q) j (er (ad 9) z) j = er (ad 9) z from up_at rfl]
    unfold cDr
    rw [if_pos hn, show va_up gm 57 (upd (gm 57) (128 * q + j) z) 57 = upd (gm 57) (128 * q + j) z from up_at rfl, upd_at]
  · rw [va_up_ne _ _ e9]
    unfold cDr
    by_cases hj : j < 128
    · rw [if_pos hj, if_pos hj, show va_up gm 57 (upd (gm 57) (128 * q + n) z) 57 = upd (gm 57) (128 * q + n) z from up_at rfl, upd_ne (by omega)]
    · rw [if_neg hj, if_neg hj]
theorem cW_lat {i q : Nat} (hi : lx[i]? = some q) : (cW ad cid a2 lx sg gm lg)[(cFx ad cid a2 sg gm lg).length + i]? = some (a2 q, cD ad cid gm q) := by
  unfold cW
  rw [List.getElem?_append_right (Nat.le_add_right _ _), Nat.add_sub_cancel_left, List.getElem?_map, hi]
  rfl
theorem cFx_57 {g : Nat → Int32} : cFx ad cid a2 sg (va_up gm 57 g) lg = cFx ad cid a2 sg gm lg := by
  unfold cFx
  generalize hL : cPL = L
  refine List.map_congr_left (fun x hx => ?_)
  obtain ⟨k, hk⟩ := List.getElem?_of_mem hx
  rw [← hL] at hk
  rw [cE_57 (cPL_in hk).1]
theorem cW_dist {i j q : Nat} (hD : va_D A (cW ad cid a2 lx sg gm lg)) (hi : lx[i]? = some q) (hj : lx[j]? = some q) : j = i := by
  have h := hD.1 _ _ _ _ (cW_lat (ad := ad) (cid := cid) (a2 := a2) (sg := sg) (gm := gm) (lg := lg) hj) (cW_lat (ad := ad) (cid := cid) (a2 := a2) (sg := sg) (gm := gm) (lg := lg) hi) rfl
  generalize (cFx ad cid a2 sg gm lg).length = N at h
  omega
theorem cD_at {q n : Nat} {z : Int32} (hn : n < 128) : cD ad cid (va_up gm 57 (upd (gm 57) (128 * q + n) z)) q = .inl (cid 32, (gm 42 q).toNatClampNeg, .inr (.inr (.inr (.inr (va_up (cDr ad gm q) n (er (ad 9) z)))))) := by
  unfold cD
  rw [cDr_at hn, va_up_ne gm _ (show (42 : Nat) ≠ 57 by decide)]
theorem map_set {α β : Type} {f g : α → β} {x : α} : ∀ (L : List α) (i : Nat), L[i]? = some x → (∀ j y, L[j]? = some y → j ≠ i → f y = g y) → (L.map f).set i (g x) = L.map g
  | [], i, h, _ => by cases h
  | y :: L, 0, h, hne => by
    have e1 : y = x := Option.some.inj h
    subst e1
    show g y :: L.map f = g y :: L.map g
    rw [List.map_congr_left (fun b hb => by
      obtain ⟨k, hk⟩ := List.getElem?_of_mem hb
      exact hne (k + 1) b hk (Nat.succ_ne_zero k))]
  | y :: L, i + 1, h, hne => by
    show f y :: (L.map f).set i (g x) = g y :: L.map g
    rw [map_set L i h (fun j b hb hj => hne (j + 1) b hb (fun e9 => hj (Nat.succ.inj e9))), hne 0 y rfl (Ne.symm (Nat.succ_ne_zero i))]
theorem cl_set {F : va_W} {i q n : Nat} {z : Int32} (hd : ∀ j, lx[j]? = some q → j = i) (hi : lx[i]? = some q) (hn : n < 128) :
    (F ++ lx.map (fun q => (a2 q, cD ad cid gm q))).set (F.length + i) (a2 q, .inl (cid 32, (gm 42 q).toNatClampNeg, .inr (.inr (.inr (.inr (va_up (cDr ad gm q) n (er (ad 9) z))))))) = F ++ lx.map (fun q2 => (a2 q2, cD ad cid (va_up gm 57 (upd (gm 57) (128 * q + n) z)) q2)) := by
  rw [List.set_append_right _ _ (Nat.le_add_right _ _), Nat.add_sub_cancel_left, ← cD_at hn]
  rw [map_set (f := fun q => (a2 q, cD ad cid gm q)) (g := fun q2 => (a2 q2, cD ad cid (va_up gm 57 (upd (gm 57) (128 * q + n) z)) q2)) lx i hi (fun j y hy hj => by rw [cDr_ne (fun e9 => hj (hd j (by rw [hy, e9]))) hn])]
theorem cW_d {i q n : Nat} {z : Int32} {r : Option Nat} (hD : va_D A (cW ad cid a2 lx sg gm lg)) (hi : lx[i]? = some q) (hn : n < 128) (hr : r = er (ad 9) z) :
    (cW ad cid a2 lx sg gm lg).set ((cFx ad cid a2 sg gm lg).length + i) (a2 q, .inl (cid 32, (gm 42 q).toNatClampNeg, .inr (.inr (.inr (.inr (va_up (cDr ad gm q) n r)))))) = cW ad cid a2 lx sg (va_up gm 57 (upd (gm 57) (128 * q + n) z)) lg := by
  subst hr
  have hd : ∀ j, lx[j]? = some q → j = i := fun j hj => cW_dist hD hi hj
  unfold cW
  rw [cFx_57]
  exact cl_set hd hi hn
theorem va_astO {D : va_G} {cl : List vw_C} {tys : List (ClassId × FieldType)} {ws : va_W} {a : Nat} (hexec : p.tables.exec = Jvm.exec) (hb : c.code = cc) (hK : va_K D cl tys s) (hP : va_P D cl ws H) (hD : va_D A ws) (hS : va_S A H0 H locs) (q0 t0 : Nat) {cA : ClassId} {C : String} {n v : Nat} {f : Nat → Option Nat} (ha : ws[q0]? = some (a, .inl (cA, n, .inr (.inr (.inr (.inr f)))))) (ht : tys[t0]? = some (cA, .object "java/lang/Object"))
    (hr : ∃ cell : Cell, H[v]? = some cell ∧ cell.vm.isStatics = false ∧ s.vm.findClass C = some cell.cls) (hc : va_Nw (.castable C "java/lang/Object") s) {i : Int32} (hin : vp_in i n) (hdg : decode cc pc = .ok (.aastore, 1))
    (kk : ∀ (H1 : Heap) (locs1 : List Loc), va_P D cl (ws.set q0 (a, .inl (cA, n, .inr (.inr (.inr (.inr (va_up f i.toNatClampNeg (some v)))))))) H1 → va_D A (ws.set q0 (a, .inl (cA, n, .inr (.inr (.inr (.inr (va_up f i.toNatClampNeg (some v)))))))) → va_S A H0 H1 locs1 → W p l e R s m args below meth c H1 locs1 cells slots Q (F0 m (pc + 1) ls rest)) : W p l e R s m args below meth c H locs cells slots Q (F0 m pc ls (.ref v :: .int i :: .ref a :: rest)) := by
  have hlt : i.toNatClampNeg < n := Nat.not_le.mp fun q => hin (Or.inr q)
  have h0 : ¬ i < 0 := fun q => hin (Or.inl q)
  obtain ⟨cellV, g1, g2, g3⟩ := hr
  obtain ⟨c0, t9, f1, f2, f3⟩ := Cond.castable_spec (va_Nw.use (A := args) rfl hc)
  cases g3.symm.trans f1
  obtain ⟨kA, comp, k1, k2, k3, -⟩ := (hK.2 t0 _ ht).2
  cases k3.symm.trans f2
  obtain ⟨kC, hkC, -⟩ := Vm.findClass_spec f2
  obtain ⟨kV, hkV, -⟩ := Vm.findClass_spec f1
  refine W.aast hexec hb (hP q0 _ ha) (fun q h => by cases h) (fun h => by cases h) k1 k2 rfl hkC ⟨h0, by show _ < (arrV _ _ _).slots.size; rw [arrV_size]; exact hlt⟩ g1 (fun q h => by rw [h] at g2; cases g2) hkV f3 rfl rfl hdg fun H1 e z oq => ?_
  refine kk H1 _ (hP.set hD ha ?_ oq) (hD.set ha) (hS.put z oq (hD.2 q0 _ ha))
  show H1[a]? = some (vp_cell _ _)
  rw [e]
  rw [vp_cell_q, vp_cell_q, arrV_store]
  congr 2
  funext q
  by_cases hq : q = i.toNatClampNeg
  · subst hq
    simp [updV, va_up, va_rf]
  · simp [updV, va_up, hq]
/-- an element is written into a list's cells -/
theorem cl_aast {q : Nat} {h : Int} {y z : Int32} (hexec : p.tables.exec = Jvm.exec) (hb : c.code = cc) (hG : CE ad A s) (hK : va_K (dC, dI) vwCl (cT cid) s) (hP : va_P (dC, dI) vwCl (cW ad cid a2 lx sg gm lg) H) (hD : va_D A (cW ad cid a2 lx sg gm lg)) (hS : va_S A H0 H locs) (hl : q ∈ lx) (hc : ¬ (gm 42 q).toInt = 0) (hin : vp_in y (gm 42 q).toNatClampNeg) (h8 : y.toNatClampNeg < 128) (hz : iv 0 h z) (hn : h < (cNum 9 : Int)) (hdg : decode cc pc = .ok (.aastore, 1))
    (kk : ∀ (gm1 : Nat → Nat → Int32) (H1 : Heap) (locs1 : List Loc), gm1 = va_up gm 57 (upd (gm 57) (128 * q + y.toNatClampNeg) z) → va_P (dC, dI) vwCl (cW ad cid a2 lx sg gm1 lg) H1 → va_D A (cW ad cid a2 lx sg gm1 lg) → va_S A H0 H1 locs1 → W p l e R s m args below meth c H1 locs1 cells slots Q (F0 m (pc + 1) ls rest)) : W p l e R s m args below meth c H locs cells slots Q (F0 m pc ls (eV (ad 9) z :: .int y :: dV ad a2 gm q :: rest)) := by
  rw [dV_n hc, eV_ref hz.1]
  obtain ⟨i, hi⟩ := List.getElem?_of_mem hl
  refine va_astO (D := (dC, dI)) (C := RX3) hexec hb hK hP hD hS _ 32 (cW_lat hi) (by rw [cT_at (by decide)]; rfl) (cm_recv (C := RX3) (T := TX3) (N := 21) hK hP hz hn (by decide) rfl) hG.2.1.2.2.1.1 hin hdg (fun H1 locs1 g1 g2 g3 => kk _ H1 locs1 rfl ?_ ?_ g3)
  · rw [cW_d hD hi h8 (er_some hz.1).symm] at g1; exact g1
  · rw [cW_d hD hi h8 (er_some hz.1).symm] at g2; exact g2
/-- a place of a list's cells is emptied -/
theorem cl_aastN {q : Nat} {y : Int32} {a9 : Nat → Nat} (hexec : p.tables.exec = Jvm.exec) (hb : c.code = cc) (hK : va_K (dC, dI) vwCl (cT cid) s) (hP : va_P (dC, dI) vwCl (cW ad cid a2 lx sg gm lg) H) (hD : va_D A (cW ad cid a2 lx sg gm lg)) (hS : va_S A H0 H locs) (hl : q ∈ lx) (hc : ¬ (gm 42 q).toInt = 0) (hin : vp_in y (gm 42 q).toNatClampNeg) (h8 : y.toNatClampNeg < 128) (hdg : decode cc pc = .ok (.aastore, 1))
    (kk : ∀ (gm1 : Nat → Nat → Int32) (H1 : Heap) (locs1 : List Loc), gm1 = va_up gm 57 (upd (gm 57) (128 * q + y.toNatClampNeg) (-1)) → va_P (dC, dI) vwCl (cW ad cid a2 lx sg gm1 lg) H1 → va_D A (cW ad cid a2 lx sg gm1 lg) → va_S A H0 H1 locs1 → W p l e R s m args below meth c H1 locs1 cells slots Q (F0 m (pc + 1) ls rest)) : W p l e R s m args below meth c H locs cells slots Q (F0 m pc ls (eV a9 (-1) :: .int y :: dV ad a2 gm q :: rest)) := by
  rw [dV_n hc, eV_null (by decide)]
  obtain ⟨i, hi⟩ := List.getElem?_of_mem hl
  refine va_astqN (D := (dC, dI)) (C := "java/lang/Object") hexec hb hK hP hD hS _ 32 (cW_lat hi) (by rw [cT_at (by decide)]; rfl) hin hdg (fun H1 locs1 g1 g2 g3 => kk _ H1 locs1 rfl ?_ ?_ g3)
  · rw [cW_d hD hi h8 (er_none (a := ad 9) (x := -1) (by decide)).symm] at g1; exact g1
  · rw [cW_d hD hi h8 (er_none (a := ad 9) (x := -1) (by decide)).symm] at g2; exact g2
end LSW
end
section
theorem LDI_set {lx : List Nat} {gm gm1 : Nat → Nat → Int32} {q n : Nat} {z : Int32} (h : LDI lx gm) (e : gm1 = va_up gm 57 (upd (gm 57) (128 * q + n) z)) (hz : 0 ≤ z.toInt) : LDI lx gm1 := fun q2 h2 => by
  subst e
  rw [va_up_ne gm _ (show (41 : Nat) ≠ 57 by decide), va_up_ne gm _ (show (42 : Nat) ≠ 57 by decide)]
  obtain ⟨a1, a2, a3⟩ := h q2 h2
  refine ⟨a1, a2, fun j hj => ?_⟩
  rw [show va_up gm 57 (upd (gm 57) (128 * q + n) z) 57 = upd (gm 57) (128 * q + n) z from up_at rfl]
  by_cases e9 : 128 * q2 + j = 128 * q + n
  · rw [e9, upd_at]; exact hz
  · rw [upd_ne e9]; exact a3 j hj

theorem dJx4a65c_set_bcc79_0 : decode cJx4a65c_set_bcc79 0 = .ok (.iload_n 1, 1) := by decide +kernel
theorem dJx4a65c_set_bcc79_1 : decode cJx4a65c_set_bcc79 1 = .ok (.aload_n 0, 1) := by decide +kernel
theorem dJx4a65c_set_bcc79_2 : decode cJx4a65c_set_bcc79 2 = .ok (.getfield 48, 3) := by decide +kernel
theorem dJx4a65c_set_bcc79_5 : decode cJx4a65c_set_bcc79 5 = .ok (.invokestatic 118, 3) := by decide +kernel
theorem dJx4a65c_set_bcc79_8 : decode cJx4a65c_set_bcc79 8 = .ok (.pop, 1) := by decide +kernel
theorem dJx4a65c_set_bcc79_9 : decode cJx4a65c_set_bcc79 9 = .ok (.aload_n 0, 1) := by decide +kernel
theorem dJx4a65c_set_bcc79_10 : decode cJx4a65c_set_bcc79 10 = .ok (.iload_n 1, 1) := by decide +kernel
theorem dJx4a65c_set_bcc79_11 : decode cJx4a65c_set_bcc79 11 = .ok (.invokevirtual 123, 3) := by decide +kernel
theorem dJx4a65c_set_bcc79_14 : decode cJx4a65c_set_bcc79 14 = .ok (.astore_n 3, 1) := by decide +kernel
theorem dJx4a65c_set_bcc79_15 : decode cJx4a65c_set_bcc79 15 = .ok (.aload_n 0, 1) := by decide +kernel
theorem dJx4a65c_set_bcc79_16 : decode cJx4a65c_set_bcc79 16 = .ok (.getfield 9, 3) := by decide +kernel
theorem dJx4a65c_set_bcc79_19 : decode cJx4a65c_set_bcc79 19 = .ok (.iload_n 1, 1) := by decide +kernel
theorem dJx4a65c_set_bcc79_20 : decode cJx4a65c_set_bcc79 20 = .ok (.aload_n 2, 1) := by decide +kernel
theorem dJx4a65c_set_bcc79_21 : decode cJx4a65c_set_bcc79 21 = .ok (.aastore, 1) := by decide +kernel
theorem dJx4a65c_set_bcc79_22 : decode cJx4a65c_set_bcc79 22 = .ok (.aload_n 3, 1) := by decide +kernel
theorem dJx4a65c_set_bcc79_23 : decode cJx4a65c_set_bcc79 23 = .ok (.areturn, 1) := by decide +kernel

set_option maxHeartbeats 4000000 in
set_option maxRecDepth 100000 in
theorem d_lset (l : Launch) (dC : Nat → ClassId) (dI : Nat → Nat → Nat) (ad : Nat → Nat → Nat) (cid : Nat → ClassId) (a2 : Nat → Nat) (lx : List Nat) (sg : Nat → Int32) (gm : Nat → Nat → Int32) (lg : Nat → Nat → Int64) (x : Int32) (i : Int32) (el : Int32) (hI : CI sg gm) (hvx : iv 0 239 x) (hvel : iv 0 79 el) (hLD : LDI lx gm) (hi0 : 0 ≤ i.toInt) (hil : i.toInt < (gm 41 x.toNatClampNeg).toInt) : CMt dC dI ad cid a2 lx l yJx4a65c_set_bcc79 wm_Jx4a65c_set_bcc79 ({ frames := 2, cells := 1, slots := 6, locals := 43 }) [eV (ad 11) x, .int i, eV (ad 9) el] sg gm lg (fun v u => ∃ r : Int32, v = some (eV (ad 9) r) ∧ ∃ (sg2 : Nat → Int32) (gm2 : Nat → Nat → Int32) (lg2 : Nat → Nat → Int64), u = (sg2, gm2, lg2) ∧ CI sg2 gm2 ∧ KS [] sg sg2 ∧ KS [57] gm gm2 ∧ KS [] lg lg2 ∧ (iv 0 79 r) ∧ (gm2 57 = upd (gm 57) (128 * x.toNatClampNeg + i.toNatClampNeg) el) ∧ (LDI lx gm2)) (fun _ _ => False) := by
  intro sz
  refine vx_ofW (cc := cJx4a65c_set_bcc79) (maxL := 4) (ret := (some (.object "java/lang/Object"))) (by decide) rfl ?_
  intro p e s m args below meth c s₁ B hml hxt hv
  obtain ⟨rfl, hsz, hP, hK, hD0, hG⟩ := hv
  have hx := B.exec
  have hb := B.bytes
  have hr := B.returns
  have hts := atoms_spec (ws := wm_Jx4a65c_set_bcc79) B.pre
  have htb := fun (w : Cond) (h : w ∈ tb) => hts w (List.mem_cons_of_mem _ h)
  have hown : s.vm.findClass RJx4a65c = some m.cls := findClass_of_methodNamed B.named
  have hlocks := B.notSynchronized
  subst hsz
  have hD := hD0.self (sz := s.heap.size)
  generalize hAe : va_A (cW ad cid a2 lx sg gm lg) s.heap.size = A at hD hG ⊢
  have hA : ∀ q : Nat, s.heap.size ≤ q → A q := fun q h => by rw [← hAe]; exact Or.inr h
  have hS : va_S A s.heap s.heap [] := va_S.rf
  have hl := lv_entry ([eV (ad 11) x, .int i, eV (ad 9) el]) (n := 4) (by rw [show (lg_sl ([eV (ad 11) x, .int i, eV (ad 9) el])).length = 3 from by simp [lg_sl, eV_cat, cat_i, cat_l]]; exact Nat.le_of_ble_eq_true rfl)
  rw [lg_entry_eq]
  generalize (lg_sl ([eV (ad 11) x, .int i, eV (ad 9) el]) ++ List.replicate (4 - (lg_sl ([eV (ad 11) x, .int i, eV (ad 9) el])).length) Slot.unset).toArray = ls at hl ⊢
  have hl : lv_has ls 4 [(0, eV (ad 11) x), (1, .int i), (2, eV (ad 9) el)] := by simp [lv_args, eV_cat, cat_i, cat_l] at hl; exact hl
  refine lv_iload_n hx hb dJx4a65c_set_bcc79_0 rfl (lv_at hl 1 rfl) ?_
  refine ec_aload_n hx hb dJx4a65c_set_bcc79_1 rfl (lv_at hl 0 rfl) ?_
  refine cr_get (t := 11) (j := 2) (C := RJx4a65c) (T := TJx4a65c) (N := 3) (v := .int (gm 41 x.toNatClampNeg)) hx hb htb inJx4a65c hown hK hP hvx (by decide) (by decide) (by decide) rfl (by decide) (htb _ kw_678) rfl dJx4a65c_set_bcc79_2 ?_
  obtain ⟨z_1, ez_1⟩ : ∃ z : Int32, z = (gm 41 x.toNatClampNeg) := ⟨_, rfl⟩
  refine W.eq (g2 := F0 m 5 ls [.int z_1, .int i]) (by rw [ez_1]) ?_
  have hz_1 : iv 0 80 z_1 := iv_of ez_1 (CI_a hI 41 hvx (by decide))
  refine cm_callS (rest := []) (as := [.int i, .int z_1]) ⟨hx, hb, hml, hown, htb⟩ (d_chk l dC dI ad cid a2 lx sg gm lg i z_1 hI hi0 (by rw [ez_1]; exact hil)) (va_cwS 2 htb (gd_S kw_796 kw_797 kw_798 kw_1513) rfl rfl rfl (by decide +kernel) ⟨Nat.le_of_ble_eq_true rfl, Nat.le_of_ble_eq_true rfl⟩)  rfl hl.1 rfl (Nat.le_trans cs_n (by decide)) dJx4a65c_set_bcc79_5 ⟨Nat.le_of_ble_eq_true rfl, Nat.le_of_ble_eq_true rfl⟩ hK hP hD hS hA hG (fun E ce q9 u_3 H locs hw hP hD hS hce hcv hcl => ?_) (fun v9 u_3 H locs hw hP hD hS => ?_)
  · exact hw.elim
  obtain ⟨r_2, rfl, rfl, fr_r_2⟩ := hw
  have hP : va_P (dC, dI) vwCl (cW ad cid a2 lx sg gm lg) H := hP
  have hD : va_D A (cW ad cid a2 lx sg gm lg) := hD
  refine W.eq (g2 := F0 m 8 ls [.int r_2]) rfl ?_
  refine lv_pop hx hb dJx4a65c_set_bcc79_8 rfl ?_
  refine ec_aload_n hx hb dJx4a65c_set_bcc79_9 rfl (lv_at hl 0 rfl) ?_
  refine lv_iload_n hx hb dJx4a65c_set_bcc79_10 rfl (lv_at hl 1 rfl) ?_
  refine cm_callV (t := 11) (C := RJx4a65c) (T := TJx4a65c) (N := 3) (rest := []) (as := [.int i]) ⟨hx, hb, hml, hown, htb⟩ (d_elementData l dC dI ad cid a2 lx sg gm lg x i hI hvx hLD hi0 hil) (cwV 1 htb (gd_V kw_800 kw_801 kw_802 kw_98 kw_1514) rfl rfl rfl (by decide +kernel) ⟨Nat.le_of_ble_eq_true rfl, Nat.le_of_ble_eq_true rfl⟩) hvx (by decide) (by decide) rfl rfl hl.1 rfl (Nat.le_trans cs_n (by decide)) dJx4a65c_set_bcc79_11 ⟨Nat.le_of_ble_eq_true rfl, Nat.le_of_ble_eq_true rfl⟩ hK hP hD hS hA hG (fun E ce q9 u_6 H locs hw hP hD hS hce hcv hcl => ?_) (fun v9 u_6 H locs hw hP hD hS => ?_)
  · exact hw.elim
  obtain ⟨r_5, rfl, rfl, hr_5, fr_r_5⟩ := hw
  have hP : va_P (dC, dI) vwCl (cW ad cid a2 lx sg gm lg) H := hP
  have hD : va_D A (cW ad cid a2 lx sg gm lg) := hD
  refine W.eq (g2 := F0 m 14 ls [eV (ad 9) r_5]) rfl ?_
  refine ec_astore_n (i := 3) (lv' := [(3, eV (ad 9) r_5), (0, eV (ad 11) x), (1, .int i), (2, eV (ad 9) el)]) hx hb dJx4a65c_set_bcc79_14 rfl hl (by decide) (by simp [List.filter, eV_cat, cat_i, cat_l]) (fun ls hl => ?_)
  refine ec_aload_n hx hb dJx4a65c_set_bcc79_15 rfl (lv_at hl 1 rfl) ?_
  refine cr_get (t := 11) (j := 1) (C := RJx4a65c) (T := TJx4a65c) (N := 3) (v := dV ad a2 gm x.toNatClampNeg) hx hb htb inJx4a65c hown hK hP hvx (by decide) (by decide) (by decide) rfl (by decide) (htb _ kw_105) rfl dJx4a65c_set_bcc79_16 ?_
  refine lv_iload_n hx hb dJx4a65c_set_bcc79_19 rfl (lv_at hl 2 rfl) ?_
  refine ec_aload_n hx hb dJx4a65c_set_bcc79_20 rfl (lv_at hl 3 rfl) ?_
  have hq := hLD x.toNatClampNeg (by have := iv_cl hvx (by decide); have := hvx.2; omega)
  have h42 := (show iv 0 127 (gm 42 x.toNatClampNeg) from CI_a hI 42 hvx (by decide))
  have h41 := (show iv 0 80 (gm 41 x.toNatClampNeg) from CI_a hI 41 hvx (by decide))
  have hc9 : ¬ (gm 42 x.toNatClampNeg).toInt = 0 := by have := hq.1; omega
  have k1 := cl_0 hi0
  have k2 := iv_cl h42 (by decide)
  have k3 := iv_cl h41 (by decide)
  refine cl_aast hx hb hG hK hP hD hS (hq.2.1 hc9) hc9 (vp_in_iff.mpr ⟨hi0, by have := hq.1; omega⟩) (by have := hq.1; have := h42.2; omega) hvel (by decide) dJx4a65c_set_bcc79_21 (fun gm_8 H locs egm_8 hP hD hS => ?_)
  have hI_gm_8 := CI_st hI egm_8 hvel (by decide)
  refine ec_aload_n hx hb dJx4a65c_set_bcc79_22 rfl (lv_at hl 0 rfl) ?_
  exact W.nb (fun hN => W.widen (k := 1) (n := 6) (by decide) (by decide) (vx_ret (W.aret (v := eV (ad 9) r_5) hx hb hr (Or.inl ⟨_, rfl⟩) (eV_is _ _) (fun t ht hW => ⟨⟨some (eV (ad 9) r_5), (sg, gm_8, lg), rfl, ⟨r_5, rfl, sg, gm_8, lg, rfl, hI_gm_8, KS_rf, (KS_up KS_rf egm_8 (by decide)), KS_rf, hr_5, (up_at egm_8), (LDI_set hLD egm_8 hvel.1)⟩, by rw [ht]; exact hP, va_K.moved hW.alike hK, hD⟩, hS.F ht, by rw [ht]; exact hN⟩) hS.2.2 dJx4a65c_set_bcc79_23)))
end
section
section LSM
variable {p : Program} {l : Launch} {e : Env} {R : Room} {s : State} {m : MethodId} {args : Array Value} {below : List Frame} {meth : Method} {c : Code} {H : Heap} {locs : List Loc} {cells slots : Nat} {Q : State → Prop} {cc : ByteArray} {pc : Nat} {ls : Array Slot} {rest : List Value} {A : Nat → Prop} {H0 : Heap}
variable {dC : Nat → ClassId} {dI : Nat → Nat → Nat} {ad : Nat → Nat → Nat} {cid : Nat → ClassId} {a2 : Nat → Nat} {lx : List Nat} {sg : Nat → Int32} {gm : Nat → Nat → Int32} {lg : Nat → Nat → Int64} {own : String} {index : Nat}
theorem cl_getM {h : Int} {x : Int32} (hexec : p.tables.exec = Jvm.exec) (hb : c.code = cc) (htb : ∀ w ∈ tb, w.before args s = true) (hown : s.vm.findClass own = some m.cls) (hK : va_K (dC, dI) vwCl (cT cid) s) (hP : va_P (dC, dI) vwCl (cW ad cid a2 lx sg gm lg) H) (hx : iv 0 h x) (hn : h < (cNum 11 : Int)) (hlink : (Cond.fieldLink own index "java/util/ArrayList" "modCount" "I").before args s = true) (hdg : decode cc pc = .ok (.getfield index, 3))
    (kk : W p l e R s m args below meth c H locs cells slots Q (F0 m (pc + 3) ls (.int (gm 40 x.toNatClampNeg) :: rest))) : W p l e R s m args below meth c H locs cells slots Q (F0 m pc ls (eV (ad 11) x :: rest)) := by
  obtain ⟨p9, hp⟩ := cPL_at (t := 11) (by decide) (cnx hx hn)
  rw [eV_ref hx.1]
  exact va_get (D := (dC, dI)) (ci := cIx 11) (C := RJx4a65c) (T := TJx4a65c) (N := 3) (ref := "java/util/ArrayList") hexec hb htb inJx4a65c hown hK hP p9 (by rw [cW_at hp, cE_o (by decide)]) rfl 0 (by decide) hlink (fun x9 h9 => u_same (htb _ kw_677) x9 h9) (by rw [cFs_get (by decide)]; rfl) hdg kk
theorem cl_putM {h : Int} {x y : Int32} (hexec : p.tables.exec = Jvm.exec) (hb : c.code = cc) (htb : ∀ w ∈ tb, w.before args s = true) (hown : s.vm.findClass own = some m.cls) (hK : va_K (dC, dI) vwCl (cT cid) s) (hP : va_P (dC, dI) vwCl (cW ad cid a2 lx sg gm lg) H) (hD : va_D A (cW ad cid a2 lx sg gm lg)) (hS : va_S A H0 H locs) (hx : iv 0 h x) (hn : h < (cNum 11 : Int)) (hlink : (Cond.fieldLink own index "java/util/ArrayList" "modCount" "I").before args s = true) (hdg : decode cc pc = .ok (.putfield index, 3))
    (kk : ∀ (gm1 : Nat → Nat → Int32) (H1 : Heap) (locs1 : List Loc), gm1 = va_up gm 40 (upd (gm 40) x.toNatClampNeg y) → va_P (dC, dI) vwCl (cW ad cid a2 lx sg gm1 lg) H1 → va_D A (cW ad cid a2 lx sg gm1 lg) → va_S A H0 H1 locs1 → W p l e R s m args below meth c H1 locs1 cells slots Q (F0 m (pc + 3) ls rest)) : W p l e R s m args below meth c H locs cells slots Q (F0 m pc ls (.int y :: eV (ad 11) x :: rest)) := by
  obtain ⟨p9, hp⟩ := cPL_at (t := 11) (by decide) (cnx hx hn)
  rw [eV_ref hx.1]
  have hv : Value.int y = cV ad a2 sg (va_up gm (cKy 11 0) (upd (gm (cKy 11 0)) x.toNatClampNeg y)) lg 11 0 x.toNatClampNeg := by
    show _ = Value.int (va_up gm 40 (upd (gm 40) x.toNatClampNeg y) 40 x.toNatClampNeg)
    rw [show va_up gm 40 (upd (gm 40) x.toNatClampNeg y) 40 = upd (gm 40) x.toNatClampNeg y from up_at rfl, upd_at]
  refine va_put (D := (dC, dI)) (ci := cIx 11) (v := .int y) (ty := tyJx4a65c 0) (C := RJx4a65c) (T := TJx4a65c) (N := 3) (ref := "java/util/ArrayList") hexec hb htb inJx4a65c tyJx4a65c tyJx4a65c_ok nmJx4a65c hown hK hP hD hS p9 (by rw [cW_at hp, cE_o (by decide)]) rfl 0 (by decide) hlink (fun x9 h9 => u_same (htb _ kw_677) x9 h9) rfl (tyJx4a65c_ok 0 (by decide)) rfl rfl (by rw [cFs_len]; decide) hdg (fun H1 locs1 g1 g2 g3 => kk _ H1 locs1 rfl ?_ ?_ g3)
  · rw [hv, cW_g hp (by decide) (by decide) (Or.inl rfl)] at g1; exact g1
  · rw [hv, cW_g hp (by decide) (by decide) (Or.inl rfl)] at g2; exact g2
end LSM
theorem iv_fl (x : Int32) : iv (-2147483648) 2147483647 x := ⟨x.le_toInt, by have := x.toInt_lt; omega⟩
theorem LDI_clr {lx : List Nat} {sg : Nat → Int32} {gm gm2 : Nat → Nat → Int32} {q : Nat} (hI : CI sg gm) (h : LDI lx gm) (h41 : gm2 41 = upd (gm 41) q 0) (h42 : gm2 42 = gm 42) (h57 : ∀ q2, q2 ≠ q → ∀ j9, j9 < 128 → gm2 57 (128 * q2 + j9) = gm 57 (128 * q2 + j9)) : LDI lx gm2 := fun q2 hq2 => by
  obtain ⟨b1, b2, b3⟩ := h q2 hq2
  have c42 := (show iv 0 127 (gm 42 q2) from CI_n hI 42 hq2)
  have c41 := (show iv 0 80 (gm 41 q2) from CI_n hI 41 hq2)
  rw [h41, h42]
  by_cases e9 : q2 = q
  · rw [e9, upd_at]
    rw [e9] at b2 c42
    refine ⟨c42.1, b2, fun j hj => absurd hj (Nat.not_lt_zero _)⟩
  · rw [upd_ne e9]
    refine ⟨b1, b2, fun j hj => ?_⟩
    have k := iv_cl c41 (by decide)
    have k2 := c41.2
    rw [h57 q2 e9 j (by omega)]
    exact b3 j hj

theorem dJx4a65c_clear_da8c8_0 : decode cJx4a65c_clear_da8c8 0 = .ok (.aload_n 0, 1) := by decide +kernel
theorem dJx4a65c_clear_da8c8_1 : decode cJx4a65c_clear_da8c8 1 = .ok (.dup, 1) := by decide +kernel
theorem dJx4a65c_clear_da8c8_2 : decode cJx4a65c_clear_da8c8 2 = .ok (.getfield 63, 3) := by decide +kernel
theorem dJx4a65c_clear_da8c8_5 : decode cJx4a65c_clear_da8c8 5 = .ok (.iconst 1, 1) := by decide +kernel
theorem dJx4a65c_clear_da8c8_6 : decode cJx4a65c_clear_da8c8 6 = .ok (.iadd, 1) := by decide +kernel
theorem dJx4a65c_clear_da8c8_7 : decode cJx4a65c_clear_da8c8 7 = .ok (.putfield 63, 3) := by decide +kernel
theorem dJx4a65c_clear_da8c8_10 : decode cJx4a65c_clear_da8c8 10 = .ok (.aload_n 0, 1) := by decide +kernel
theorem dJx4a65c_clear_da8c8_11 : decode cJx4a65c_clear_da8c8 11 = .ok (.getfield 9, 3) := by decide +kernel
theorem dJx4a65c_clear_da8c8_14 : decode cJx4a65c_clear_da8c8 14 = .ok (.astore_n 1, 1) := by decide +kernel
theorem dJx4a65c_clear_da8c8_15 : decode cJx4a65c_clear_da8c8 15 = .ok (.aload_n 0, 1) := by decide +kernel
theorem dJx4a65c_clear_da8c8_16 : decode cJx4a65c_clear_da8c8 16 = .ok (.getfield 48, 3) := by decide +kernel
theorem dJx4a65c_clear_da8c8_19 : decode cJx4a65c_clear_da8c8 19 = .ok (.istore_n 2, 1) := by decide +kernel
theorem dJx4a65c_clear_da8c8_20 : decode cJx4a65c_clear_da8c8 20 = .ok (.aload_n 0, 1) := by decide +kernel
theorem dJx4a65c_clear_da8c8_21 : decode cJx4a65c_clear_da8c8 21 = .ok (.iconst 0, 1) := by decide +kernel
theorem dJx4a65c_clear_da8c8_22 : decode cJx4a65c_clear_da8c8 22 = .ok (.dup_x1, 1) := by decide +kernel
theorem dJx4a65c_clear_da8c8_23 : decode cJx4a65c_clear_da8c8 23 = .ok (.putfield 48, 3) := by decide +kernel
theorem dJx4a65c_clear_da8c8_26 : decode cJx4a65c_clear_da8c8 26 = .ok (.istore_n 3, 1) := by decide +kernel
theorem dJx4a65c_clear_da8c8_27 : decode cJx4a65c_clear_da8c8 27 = .ok (.iload_n 3, 1) := by decide +kernel
theorem dJx4a65c_clear_da8c8_28 : decode cJx4a65c_clear_da8c8 28 = .ok (.iload_n 2, 1) := by decide +kernel
theorem dJx4a65c_clear_da8c8_29 : decode cJx4a65c_clear_da8c8 29 = .ok (.if_icmp .ge 13, 3) := by decide +kernel
theorem dJx4a65c_clear_da8c8_32 : decode cJx4a65c_clear_da8c8 32 = .ok (.aload_n 1, 1) := by decide +kernel
theorem dJx4a65c_clear_da8c8_33 : decode cJx4a65c_clear_da8c8 33 = .ok (.iload_n 3, 1) := by decide +kernel
theorem dJx4a65c_clear_da8c8_34 : decode cJx4a65c_clear_da8c8 34 = .ok (.aconst_null, 1) := by decide +kernel
theorem dJx4a65c_clear_da8c8_35 : decode cJx4a65c_clear_da8c8 35 = .ok (.aastore, 1) := by decide +kernel
theorem dJx4a65c_clear_da8c8_36 : decode cJx4a65c_clear_da8c8 36 = .ok (.iinc 3 1, 3) := by decide +kernel
theorem dJx4a65c_clear_da8c8_39 : decode cJx4a65c_clear_da8c8 39 = .ok (.goto (-12), 3) := by decide +kernel
theorem dJx4a65c_clear_da8c8_42 : decode cJx4a65c_clear_da8c8 42 = .ok (.return_, 1) := by decide +kernel

set_option maxHeartbeats 4000000 in
set_option maxRecDepth 100000 in
theorem d_lclear (l : Launch) (dC : Nat → ClassId) (dI : Nat → Nat → Nat) (ad : Nat → Nat → Nat) (cid : Nat → ClassId) (a2 : Nat → Nat) (lx : List Nat) (sg : Nat → Int32) (gm : Nat → Nat → Int32) (lg : Nat → Nat → Int64) (x : Int32) (hI : CI sg gm) (hvx : iv 0 239 x) (hLD : LDI lx gm) : CMt dC dI ad cid a2 lx l yJx4a65c_clear_da8c8 wm_Jx4a65c_clear_da8c8 ({ frames := 0, cells := 1, slots := 6, locals := 0 }) [eV (ad 11) x] sg gm lg (fun v u => v = none ∧ ∃ (sg2 : Nat → Int32) (gm2 : Nat → Nat → Int32) (lg2 : Nat → Nat → Int64), u = (sg2, gm2, lg2) ∧ CI sg2 gm2 ∧ KS [] sg sg2 ∧ KS [40, 41, 57] gm gm2 ∧ KS [] lg lg2 ∧ (gm2 41 = upd (gm 41) x.toNatClampNeg 0) ∧ (∀ q2, q2 ≠ x.toNatClampNeg → ∀ j9, j9 < 128 → gm2 57 (128 * q2 + j9) = gm 57 (128 * q2 + j9)) ∧ (LDI lx gm2)) (fun _ _ => False) := by
  intro sz
  refine vx_ofW (cc := cJx4a65c_clear_da8c8) (maxL := 4) (ret := none) (by decide) rfl ?_
  intro p e s m args below meth c s₁ B hml hxt hv
  obtain ⟨rfl, hsz, hP, hK, hD0, hG⟩ := hv
  have hx := B.exec
  have hb := B.bytes
  have hr := B.returns
  have hts := atoms_spec (ws := wm_Jx4a65c_clear_da8c8) B.pre
  have htb := fun (w : Cond) (h : w ∈ tb) => hts w (List.mem_cons_of_mem _ h)
  have hown : s.vm.findClass RJx4a65c = some m.cls := findClass_of_methodNamed B.named
  have hlocks := B.notSynchronized
  subst hsz
  have hD := hD0.self (sz := s.heap.size)
  generalize hAe : va_A (cW ad cid a2 lx sg gm lg) s.heap.size = A at hD hG ⊢
  have hA : ∀ q : Nat, s.heap.size ≤ q → A q := fun q h => by rw [← hAe]; exact Or.inr h
  have hS : va_S A s.heap s.heap [] := va_S.rf
  have hl := lv_entry ([eV (ad 11) x]) (n := 4) (by rw [show (lg_sl ([eV (ad 11) x])).length = 1 from by simp [lg_sl, eV_cat, cat_i, cat_l]]; exact Nat.le_of_ble_eq_true rfl)
  rw [lg_entry_eq]
  generalize (lg_sl ([eV (ad 11) x]) ++ List.replicate (4 - (lg_sl ([eV (ad 11) x])).length) Slot.unset).toArray = ls at hl ⊢
  have hl : lv_has ls 4 [(0, eV (ad 11) x)] := by simp [lv_args, eV_cat, cat_i, cat_l] at hl; exact hl
  have hj27 : ∀ (n : Nat) (gm_j27 : Nat → Nat → Int32) (x3_27 : Int32) (x2_27 : Int32) (_ : (80 - x3_27.toInt).toNat = n) (_ : iv 0 80 x3_27) (_ : iv 0 80 x2_27) (_ : iv 0 239 x) (_ : KS [40, 41, 57] gm gm_j27) (_ : CI sg gm_j27) (_ : ∀ q2, q2 ≠ x.toNatClampNeg → ∀ j9, j9 < 128 → gm_j27 57 (128 * q2 + j9) = gm 57 (128 * q2 + j9)) (_ : x2_27 = gm 41 x.toNatClampNeg) (_ : gm_j27 41 = upd (gm 41) x.toNatClampNeg 0) (H : Heap) (locs : List Loc) (ls : Array Slot), va_P (dC, dI) vwCl (cW ad cid a2 lx sg gm_j27 lg) H → va_D A (cW ad cid a2 lx sg gm_j27 lg) → va_S A s.heap H locs → lv_has ls 4 [(3, .int x3_27), (2, .int x2_27), (1, .ref (if (gm 42 x.toNatClampNeg).toInt = 0 then ad 34 0 else a2 x.toNatClampNeg)), (0, eV (ad 11) x)] → W p l e (headSpec wm_Jx4a65c_clear_da8c8 ({ frames := 0, cells := 1, slots := 6, locals := 0 })).room s m ([eV (ad 11) x] : List Value).toArray below meth c H locs 0 0 (vx_MQ below (cQx dC dI ad cid a2 lx (fun v u => v = none ∧ ∃ (sg2 : Nat → Int32) (gm2 : Nat → Nat → Int32) (lg2 : Nat → Nat → Int64), u = (sg2, gm2, lg2) ∧ CI sg2 gm2 ∧ KS [] sg sg2 ∧ KS [40, 41, 57] gm gm2 ∧ KS [] lg lg2 ∧ (gm2 41 = upd (gm 41) x.toNatClampNeg 0) ∧ (∀ q2, q2 ≠ x.toNatClampNeg → ∀ j9, j9 < 128 → gm2 57 (128 * q2 + j9) = gm 57 (128 * q2 + j9)) ∧ (LDI lx gm2)) A) (cX dC dI ad cid a2 lx (fun _ _ => False) A) ([eV (ad 11) x] : List Value).toArray s 1 6 A) (F0 m 27 ls []) := by
    intro n
    induction n using Nat.strongRecOn with
    | ind n ih27 =>
      intro gm_j27 x3_27 x2_27 hn27 hx3_27 hx2_27 hsx0_27 hkg_j27 hI_j27 h57 h2e h41b H locs ls hP hD hS hl
      refine lv_iload_n hx hb dJx4a65c_clear_da8c8_27 rfl (lv_at hl 0 rfl) ?_
      refine lv_iload_n hx hb dJx4a65c_clear_da8c8_28 rfl (lv_at hl 1 rfl) ?_
      refine lv_icmp_ge (tgt := 42) hx hb dJx4a65c_clear_da8c8_29 (by decide) (fun c_1 => ?_) (fun c_1 => ?_)
      · have d_2 : (x2_27 : Int32).toInt ≤ (x3_27 : Int32).toInt := Int32.le_iff_toInt_le.mp c_1
        exact W.nb (fun hN => W.widen (k := 1) (n := 6) (by decide) (by decide) (vx_ret (W.vret hx hb hr (fun t ht hW => ⟨⟨none, (sg, gm_j27, lg), rfl, ⟨rfl, sg, gm_j27, lg, rfl, hI_j27, KS_rf, (KS_tr (L := [40, 41, 57]) KS_rf hkg_j27 (by decide)), KS_rf, (h41b), (h57), (LDI_clr hI hLD h41b (hkg_j27 42 (by decide)) h57)⟩, by rw [ht]; exact hP, va_K.moved hW.alike hK, hD⟩, hS.F ht, by rw [ht]; exact hN⟩) hS.2.2 dJx4a65c_clear_da8c8_42)))
      · have d_3 : (x3_27 : Int32).toInt < (x2_27 : Int32).toInt := Int32.lt_iff_toInt_lt.mp (i32_lt c_1)
        have h_4 : iv 0 79 x3_27 := iv_ltL (i32_lt c_1) hx3_27 hx2_27 (by decide)
        have h_5 : iv 1 80 x2_27 := iv_ltR (i32_lt c_1) hx3_27 hx2_27 (by decide)
        refine lv_aload_n hx hb dJx4a65c_clear_da8c8_32 rfl (lv_at hl 2 rfl) ?_
        refine lv_iload_n hx hb dJx4a65c_clear_da8c8_33 rfl (lv_at hl 0 rfl) ?_
        refine ec_null (a := ad 9) hx hb dJx4a65c_clear_da8c8_34 ?_
        have e42 : gm_j27 42 = gm 42 := (hkg_j27 42 (by decide))
        have hq := hLD x.toNatClampNeg (by have := iv_cl hvx (by decide); have := hvx.2; omega)
        have h42 := (show iv 0 127 (gm 42 x.toNatClampNeg) from CI_a hI 42 hvx (by decide))
        have q41 := congrArg Int32.toInt h2e
        have hc9 : ¬ (gm_j27 42 x.toNatClampNeg).toInt = 0 := by rw [e42]; have := hq.1; have := i32_0; have := i32_1; have := i32_2; have := i32_m1; have := (hsx0_27).1; have := (hsx0_27).2; have := (h_4).1; have := (h_4).2; have := (h_5).1; have := (h_5).2; omega
        have k1 := cl_0 (x := x3_27) (by have := i32_0; have := i32_1; have := i32_2; have := i32_m1; have := (hsx0_27).1; have := (hsx0_27).2; have := (h_4).1; have := (h_4).2; have := (h_5).1; have := (h_5).2; omega)
        have k2 := iv_cl h42 (by decide)
        refine W.eq (g2 := F0 m 35 ls [eV (ad 9) (-1), .int x3_27, dV ad a2 gm_j27 x.toNatClampNeg]) (by unfold dV; rw [e42]) ?_
        refine cl_aastN hx hb hK hP hD hS (hq.2.1 (by rw [← e42]; exact hc9)) hc9 (by rw [e42]; exact vp_in_iff.mpr ⟨by have := i32_0; have := i32_1; have := i32_2; have := i32_m1; have := (hsx0_27).1; have := (hsx0_27).2; have := (h_4).1; have := (h_4).2; have := (h_5).1; have := (h_5).2; omega, by have := hq.1; have := i32_0; have := i32_1; have := i32_2; have := i32_m1; have := (hsx0_27).1; have := (hsx0_27).2; have := (h_4).1; have := (h_4).2; have := (h_5).1; have := (h_5).2; omega⟩) (by have := hq.1; have := h42.2; have := i32_0; have := i32_1; have := i32_2; have := i32_m1; have := (hsx0_27).1; have := (hsx0_27).2; have := (h_4).1; have := (h_4).2; have := (h_5).1; have := (h_5).2; omega) dJx4a65c_clear_da8c8_35 (fun gm_6 H locs egm_6 hP hD hS => ?_)
        have hI_gm_6 := CI_st hI_j27 egm_6 (iv_k (by decide) : iv (-1) (-1) (-1)) (by decide)
        have h57b : ∀ q2, q2 ≠ x.toNatClampNeg → ∀ j9, j9 < 128 → gm_6 57 (128 * q2 + j9) = gm 57 (128 * q2 + j9) := fun q2 a9 j9 b9 => by { rw [show gm_6 57 = _ from up_at egm_6, upd_ne (by have := hq.1; have := h42.2; have := i32_0; have := i32_1; have := i32_2; have := i32_m1; have := (hsx0_27).1; have := (hsx0_27).2; have := (h_4).1; have := (h_4).2; have := (h_5).1; have := (h_5).2; omega)]; exact h57 q2 a9 j9 b9 }
        obtain ⟨z_7, ez_7⟩ : ∃ z : Int32, z = x3_27 + 1 := ⟨_, rfl⟩
        have hz_7 : iv 1 80 z_7 := iv_of ez_7 (iv_add h_4 (iv_k (by decide) : iv 1 1 1) (by decide))
        have tz_7 : z_7.toInt = x3_27.toInt + 1 := by rw [ez_7]; exact iv_addE h_4 (iv_k (by decide) : iv 1 1 1) (by decide)
        refine lv_iinc (v := z_7) (lv' := [(3, .int z_7), (2, .int x2_27), (1, .ref (if (gm 42 x.toNatClampNeg).toInt = 0 then ad 34 0 else a2 x.toNatClampNeg)), (0, eV (ad 11) x)]) hx hb dJx4a65c_clear_da8c8_36 hl (k := 0) rfl ez_7.symm (by decide) rfl (fun ls hl => ?_)
        refine lv_goto (tgt := 27) hx hb dJx4a65c_clear_da8c8_39 (by decide) ?_
        exact ih27 _ (by rw [← hn27]; exact (iv_meas tz_7 h_4 (by decide))) gm_6 z_7 x2_27 rfl (iv_w hz_7 (by decide)) (iv_w h_5 (by decide)) hsx0_27 (KS_up (KS_tr (L := [40, 41, 57]) KS_rf hkg_j27 (by decide)) egm_6 (by decide)) hI_gm_6 (h57b) (h2e) ((by rw [show gm_6 41 = gm_j27 41 from (show KS [57] gm_j27 gm_6 from (KS_up KS_rf egm_6 (by decide))) 41 (by decide)]; exact h41b)) _ _ _ hP hD hS (lv_sub hl [0, 1, 2, 3] rfl)
  refine ec_aload_n hx hb dJx4a65c_clear_da8c8_0 rfl (lv_at hl 0 rfl) ?_
  refine lv_dup hx hb dJx4a65c_clear_da8c8_1 (eV_cat _ _) ?_
  refine cl_getM hx hb htb hown hK hP hvx (by decide) (htb _ kw_676) dJx4a65c_clear_da8c8_2 ?_
  refine lv_topi (fun z_8 ez_8 => ?_)
  refine lv_iconst (v := 1) hx hb dJx4a65c_clear_da8c8_5 (by decide) ?_
  refine lv_iadd hx hb dJx4a65c_clear_da8c8_6 ?_
  refine lv_topi (fun z_9 ez_9 => ?_)
  refine cl_putM (y := z_9) hx hb htb hown hK hP hD hS hvx (by decide) (htb _ kw_676) dJx4a65c_clear_da8c8_7 (fun gm_10 H locs egm_10 hP hD hS => ?_)
  have hI_gm_10 := CI_st hI egm_10 (iv_fl z_9) (by decide)
  refine ec_aload_n hx hb dJx4a65c_clear_da8c8_10 rfl (lv_at hl 0 rfl) ?_
  refine cr_get (t := 11) (j := 1) (C := RJx4a65c) (T := TJx4a65c) (N := 3) (v := .ref (if (gm 42 x.toNatClampNeg).toInt = 0 then ad 34 0 else a2 x.toNatClampNeg)) hx hb htb inJx4a65c hown hK hP hvx (by decide) (by decide) (by decide) rfl (by decide) (htb _ kw_105) (by rw [← show gm_10 42 = gm 42 from (up_ne egm_10 (by decide))]; rfl) dJx4a65c_clear_da8c8_11 ?_
  refine lv_astore_n (i := 1) (lv' := [(1, .ref (if (gm 42 x.toNatClampNeg).toInt = 0 then ad 34 0 else a2 x.toNatClampNeg)), (0, eV (ad 11) x)]) hx hb dJx4a65c_clear_da8c8_14 rfl hl (by decide) (by simp [List.filter, eV_cat, cat_i, cat_l]) (fun ls hl => ?_)
  refine ec_aload_n hx hb dJx4a65c_clear_da8c8_15 rfl (lv_at hl 1 rfl) ?_
  refine cr_get (t := 11) (j := 2) (C := RJx4a65c) (T := TJx4a65c) (N := 3) (v := .int (gm_10 41 x.toNatClampNeg)) hx hb htb inJx4a65c hown hK hP hvx (by decide) (by decide) (by decide) rfl (by decide) (htb _ kw_678) rfl dJx4a65c_clear_da8c8_16 ?_
  obtain ⟨z_11, ez_11⟩ : ∃ z : Int32, z = (gm_10 41 x.toNatClampNeg) := ⟨_, rfl⟩
  refine W.eq (g2 := F0 m 19 ls [.int z_11]) (by rw [ez_11]) ?_
  have hz_11 : iv 0 80 z_11 := iv_of ez_11 (CI_a hI_gm_10 41 hvx (by decide))
  have ez_11 := ez_11.trans (congrFun (up_ne egm_10 (by decide)) _)
  refine lv_istore_n (i := 2) (lv' := [(2, .int z_11), (1, .ref (if (gm 42 x.toNatClampNeg).toInt = 0 then ad 34 0 else a2 x.toNatClampNeg)), (0, eV (ad 11) x)]) hx hb dJx4a65c_clear_da8c8_19 rfl hl (by decide) rfl (fun ls hl => ?_)
  refine ec_aload_n hx hb dJx4a65c_clear_da8c8_20 rfl (lv_at hl 2 rfl) ?_
  refine lv_iconst (v := 0) hx hb dJx4a65c_clear_da8c8_21 (by decide) ?_
  refine lv_dup_x1 hx hb dJx4a65c_clear_da8c8_22 rfl (eV_cat _ _) ?_
  refine cr_putg (t := 11) (j := 2) (C := RJx4a65c) (T := TJx4a65c) (N := 3) (ty0 := tyJx4a65c) (k := 41) (y := 0) hx hb htb inJx4a65c tyJx4a65c_ok nmJx4a65c hown hK hP hD hS hvx (by decide) (by decide) (by decide) (by decide) rfl rfl (by decide) (htb _ kw_678) rfl (by show Value.int 0 = Value.int (va_up gm_10 41 (upd (gm_10 41) x.toNatClampNeg 0) 41 x.toNatClampNeg); rw [va_up_self, upd_at]) rfl rfl dJx4a65c_clear_da8c8_23 (fun gm_12 H locs egm_12 hP hD hS => ?_)
  have hI_gm_12 := CI_st hI_gm_10 egm_12 (iv_k (by decide) : iv 0 0 0) (by decide)
  refine lv_istore_n (i := 3) (lv' := [(3, .int 0), (2, .int z_11), (1, .ref (if (gm 42 x.toNatClampNeg).toInt = 0 then ad 34 0 else a2 x.toNatClampNeg)), (0, eV (ad 11) x)]) hx hb dJx4a65c_clear_da8c8_26 rfl hl (by decide) rfl (fun ls hl => ?_)
  exact hj27 _ gm_12 0 z_11 rfl (iv_w (iv_k (by decide) : iv 0 0 0) (by decide)) hz_11 hvx (KS_up (KS_up KS_rf egm_10 (by decide)) egm_12 (by decide)) hI_gm_12 (fun q2 _ j9 _ => by rw [(Eq.trans (up_ne egm_12 (by decide)) (up_ne egm_10 (by decide)))]) (ez_11) ((show gm_12 41 = upd (gm 41) (x : Int32).toNatClampNeg 0 from ((up_at egm_12).trans (by rw [show gm_10 41 = gm 41 from ((up_ne egm_10 (by decide)).trans rfl)])))) _ _ _ hP hD hS (lv_sub hl [0, 1, 2, 3] rfl)
end
section
theorem HSK_e {gm gm2 : Nat → Nat → Int32} {lg lg2 : Nat → Nat → Int64} {j : Nat} {k : Int64} (h : HSK gm lg j k) (h19 : gm2 19 = gm 19) (h20 : gm2 20 = gm 20) (h0 : lg2 0 = lg 0) : HSK gm2 lg2 j k := by
  unfold HSK at *; rw [h19, h20, h0]; exact h
theorem LDI_e {lx : List Nat} {gm gm2 : Nat → Nat → Int32} (h : LDI lx gm) (h41 : gm2 41 = gm 41) (h42 : gm2 42 = gm 42) (h57 : gm2 57 = gm 57) : LDI lx gm2 := by
  unfold LDI at *; rw [h41, h42, h57]; exact h
end
section
theorem mmax_i {a b z : Int32} (e : z = if a < b then b else a) : (a.toInt < b.toInt ∧ z.toInt = b.toInt) ∨ (b.toInt ≤ a.toInt ∧ z.toInt = a.toInt) := by
  by_cases h : a < b
  · rw [if_pos h] at e; exact Or.inl ⟨Int32.lt_iff_toInt_lt.mp h, by rw [e]⟩
  · rw [if_neg h] at e; exact Or.inr ⟨Int.not_lt.mp (fun q => h (Int32.lt_iff_toInt_lt.mpr q)), by rw [e]⟩

theorem dJ8_newLength_cabcc_0 : decode cJ8_newLength_cabcc 0 = .ok (.iload_n 0, 1) := by decide +kernel
theorem dJ8_newLength_cabcc_1 : decode cJ8_newLength_cabcc 1 = .ok (.iload_n 1, 1) := by decide +kernel
theorem dJ8_newLength_cabcc_2 : decode cJ8_newLength_cabcc 2 = .ok (.iload_n 2, 1) := by decide +kernel
theorem dJ8_newLength_cabcc_3 : decode cJ8_newLength_cabcc 3 = .ok (.invokestatic 194, 3) := by decide +kernel
theorem dJ8_newLength_cabcc_6 : decode cJ8_newLength_cabcc 6 = .ok (.iadd, 1) := by decide +kernel
theorem dJ8_newLength_cabcc_7 : decode cJ8_newLength_cabcc 7 = .ok (.istore_n 3, 1) := by decide +kernel
theorem dJ8_newLength_cabcc_8 : decode cJ8_newLength_cabcc 8 = .ok (.iconst 0, 1) := by decide +kernel
theorem dJ8_newLength_cabcc_9 : decode cJ8_newLength_cabcc 9 = .ok (.iload_n 3, 1) := by decide +kernel
theorem dJ8_newLength_cabcc_10 : decode cJ8_newLength_cabcc 10 = .ok (.if_icmp .ge 11, 3) := by decide +kernel
theorem dJ8_newLength_cabcc_13 : decode cJ8_newLength_cabcc 13 = .ok (.iload_n 3, 1) := by decide +kernel
theorem dJ8_newLength_cabcc_14 : decode cJ8_newLength_cabcc 14 = .ok (.ldc 200, 2) := by decide +kernel
theorem dJ8_newLength_cabcc_16 : decode cJ8_newLength_cabcc 16 = .ok (.if_icmp .gt 5, 3) := by decide +kernel
theorem dJ8_newLength_cabcc_19 : decode cJ8_newLength_cabcc 19 = .ok (.iload_n 3, 1) := by decide +kernel
theorem dJ8_newLength_cabcc_20 : decode cJ8_newLength_cabcc 20 = .ok (.ireturn, 1) := by decide +kernel
set_option maxHeartbeats 4000000 in
set_option maxRecDepth 100000 in
theorem d_newLength (l : Launch) (dC : Nat → ClassId) (dI : Nat → Nat → Nat) (ad : Nat → Nat → Nat) (cid : Nat → ClassId) (a2 : Nat → Nat) (lx : List Nat) (sg : Nat → Int32) (gm : Nat → Nat → Int32) (lg : Nat → Nat → Int64) (ol : Int32) (mn : Int32) (pf : Int32) (hI : CI sg gm) (hvol : iv 0 109 ol) (hvmn : iv 1 110 mn) (hvpf : iv 0 54 pf) : CMt dC dI ad cid a2 lx l yJ8_newLength_cabcc wm_J8_newLength_cabcc ({ frames := 1, cells := 1, slots := 6, locals := 40 }) [.int ol, .int mn, .int pf] sg gm lg (fun v u => ∃ r : Int32, v = some (.int r) ∧ u = (sg, gm, lg) ∧ (iv 1 219 r) ∧ (r.toInt = ol.toInt + mn.toInt ∧ pf.toInt ≤ mn.toInt ∨ r.toInt = ol.toInt + pf.toInt ∧ mn.toInt ≤ pf.toInt)) (fun _ _ => False) := by
  intro sz
  refine vx_ofW (cc := cJ8_newLength_cabcc) (maxL := 4) (ret := (some .int)) (by decide) rfl ?_
  intro p e s m args below meth c s₁ B hml hxt hv
  obtain ⟨rfl, hsz, hP, hK, hD0, hG⟩ := hv
  have hx := B.exec
  have hb := B.bytes
  have hr := B.returns
  have hts := atoms_spec (ws := wm_J8_newLength_cabcc) B.pre
  have htb := fun (w : Cond) (h : w ∈ tb) => hts w (List.mem_cons_of_mem _ h)
  have hown : s.vm.findClass RJ8 = some m.cls := findClass_of_methodNamed B.named
  have hlocks := B.notSynchronized
  subst hsz
  have hD := hD0.self (sz := s.heap.size)
  generalize hAe : va_A (cW ad cid a2 lx sg gm lg) s.heap.size = A at hD hG ⊢
  have hA : ∀ q : Nat, s.heap.size ≤ q → A q := fun q h => by rw [← hAe]; exact Or.inr h
  have hS : va_S A s.heap s.heap [] := va_S.rf
  have hl := lv_entry ([.int ol, .int mn, .int pf]) (n := 4) (Nat.le_of_ble_eq_true rfl)
  rw [lg_entry_eq]
  generalize (lg_sl ([.int ol, .int mn, .int pf]) ++ List.replicate (4 - (lg_sl ([.int ol, .int mn, .int pf])).length) Slot.unset).toArray = ls at hl ⊢
  have hl : lv_has ls 4 [(0, .int ol), (1, .int mn), (2, .int pf)] := hl
  refine lv_iload_n hx hb dJ8_newLength_cabcc_0 rfl (lv_at hl 0 rfl) ?_
  refine lv_iload_n hx hb dJ8_newLength_cabcc_1 rfl (lv_at hl 1 rfl) ?_
  refine lv_iload_n hx hb dJ8_newLength_cabcc_2 rfl (lv_at hl 2 rfl) ?_
  refine va_mmax hx hb (hml.trans hl.1.symm) hown (htb _ kw_765) (htb _ kw_759) (htb _ kw_760) (htb _ kw_1504) (Nat.le_of_ble_eq_true rfl) (Nat.le_trans (Nat.add_le_add_right (show _ ≤ 8 from (Nat.le_trans (cs_c (cat_i _) cs_n) (by decide))) _) (Nat.le_of_ble_eq_true rfl)) (Nat.zero_le _) (Nat.zero_le _) dJ8_newLength_cabcc_3 ?_
  refine lv_topi (fun z_1 ez_1 => ?_)
  have xz_1 := mmax_i ez_1
  have hz_1 : iv 1 110 z_1 := by { have q1 := (hvmn).1; have q2 := (hvmn).2; have q3 := (hvpf).1; have q4 := (hvpf).2; exact ⟨by omega, by omega⟩ }
  refine lv_iadd hx hb dJ8_newLength_cabcc_6 ?_
  refine lv_topi (fun z_2 ez_2 => ?_)
  have hz_2 : iv 1 219 z_2 := iv_of ez_2 (iv_add hvol hz_1 (by decide))
  have tz_2 : z_2.toInt = (ol : Int32).toInt + (z_1 : Int32).toInt := by rw [ez_2]; exact iv_addE hvol hz_1 (by decide)
  refine lv_istore_n (i := 3) (lv' := [(3, .int z_2), (0, .int ol), (1, .int mn), (2, .int pf)]) hx hb dJ8_newLength_cabcc_7 rfl hl (by decide) rfl (fun ls hl => ?_)
  refine lv_iconst (v := 0) hx hb dJ8_newLength_cabcc_8 (by decide) ?_
  refine lv_iload_n hx hb dJ8_newLength_cabcc_9 rfl (lv_at hl 0 rfl) ?_
  refine lv_icmp_ge (tgt := 21) hx hb dJ8_newLength_cabcc_10 (by decide) (fun c_3 => ?_) (fun c_3 => ?_)
  · have h_4 : iv 1 0 z_2 := iv_leL c_3 hz_2 (iv_k (by decide) : iv 0 0 0) (by decide)
    exact (iv_no h_4 (by decide)).elim
  · refine lv_iload_n hx hb dJ8_newLength_cabcc_13 rfl (lv_at hl 0 rfl) ?_
    refine lv_ldc (v := 2147483639) hx hb hown (htb _ kw_766) dJ8_newLength_cabcc_14 ?_
    refine lv_icmp_gt (tgt := 21) hx hb dJ8_newLength_cabcc_16 (by decide) (fun c_5 => ?_) (fun c_5 => ?_)
    · have h_6 : iv 2147483640 219 z_2 := iv_ltR c_5 (iv_k (by decide) : iv 2147483639 2147483639 2147483639) hz_2 (by decide)
      exact (iv_no h_6 (by decide)).elim
    · refine lv_iload_n hx hb dJ8_newLength_cabcc_19 rfl (lv_at hl 0 rfl) ?_
      exact W.nb (fun hN => W.widen (k := 1) (n := 6) (by decide) (by decide) (vx_ret (W.iret (v := z_2) hx hb hr (fun t ht hW => ⟨⟨some (.int z_2), (sg, gm, lg), rfl, ⟨z_2, rfl, rfl, hz_2, (by have := i32_0; have := i32_1; have := i32_2; have := i32_m1; have := (hvol).1; have := (hvol).2; have := (hvmn).1; have := (hvmn).2; have := (hvpf).1; have := (hvpf).2; have := (hz_1).1; have := (hz_1).2; have := (hz_2).1; have := (hz_2).2; omega)⟩, by rw [ht]; exact hP, va_K.moved hW.alike hK, hD⟩, hS.F ht, by rw [ht]; exact hN⟩) hS.2.2 dJ8_newLength_cabcc_20)))
end
section
section VXT1
variable {p : Program} {l : Launch} {e : Env} {R : Room} {s : State} {m : MethodId} {args : Array Value} {below : List Frame} {meth : Method} {c : Code} {H : Heap} {locs : List Loc} {cells slots : Nat} {Q : State → Prop}
variable {mc ms : Nat} {free : Addr → Prop} {A0 A1 : Nat → Prop} {H0 : Heap} {a : Array Value} {ls : Array Slot} {st0 rest : List Value}
variable {Qc : Array Value → State → Outcome → State → Prop} {XC : String → State → State → Prop}
theorem vx_throw1 {cc : ByteArray} {pc : Nat} (hexec : p.tables.exec = Jvm.exec) (hb : c.code = cc) (hl : l.stackTraces = false) {own cls : String} {names : List String} {ik ic mc ms : Nat} {A : Nat → Prop}
    (hown : s.vm.findClass own = some m.cls) (hcls : Bundle.fit cls = true) (hnames : ∀ n ∈ names, Bundle.fit n = true)
    (hk : (Cond.classLink own ik cls).before args s = true) (hini : (Cond.initialized cls).before args s = true) (hat : ∀ w ∈ vx_at0 own ic cls names, w.before args s = true)
    (hgood : ∀ w ∈ Cond.classLink own ik cls :: Cond.initialized cls :: vx_at0 own ic cls names, vx_ot w = true)
    (hU : vx_Zq Bundle.tN "UNASSIGNED_STACK" Bundle.steD A s s.heap) (hN : vx_Zq Bundle.tN "SUPPRESSED_SENTINEL" Bundle.listD A s s.heap) (hS : va_S A s.heap H locs) (hsize : ls.size = c.maxLocals)
    (d0 : decode cc pc = .ok (.new ik, 3)) (d3 : decode cc (pc + 3) = .ok (.dup, 1)) (d4 : decode cc (pc + 4) = .ok (.invokespecial ic, 3)) (d7 : decode cc (pc + 7) = .ok (.athrow, 1))
    (hout : ∀ x ∈ c.exceptionTable.toList, covers x (pc + 7) = false)
    (hRframes : names.length + 3 < R.frames) (hRlocals : (rest.map fun v => v.category).sum + (13 * (names.length + 1) + 42) ≤ R.locals) (hRcells : cells + 1 ≤ R.cells) (hRslots : slots + 6 ≤ R.slots) (hlocks : meth.locks = false)
    (hx : ∀ t : State, s.vm.Alike t.vm → H.size ≤ t.heap.size → (∀ q : Nat, q < H.size → t.heap[q]? = H[q]?) → NBw s.heap t.heap (cells + 1) (slots + 6) → XC cls s t)
    (hf : ∀ z ∈ locs, free z.base) (hc : cells + 1 ≤ mc) (hs : slots + 6 ≤ ms) :
    W p l e R s m args below meth c H locs cells slots (vx_MQ below Qc XC args s mc ms free) (F0 m pc ls rest) := by
  intro T hT X
  have htr : e.platform.stackTraces = false := (show e.platform.stackTraces = l.stackTraces by rw [X.admits.platform]).trans hl
  have Y := vx_rebase X (R' := { frames := R.frames, locals := R.locals, cells := 1, slots := 6 }) (Nat.le_refl _) (Nat.le_refl _) hRcells hRslots
  obtain ⟨s', hA⟩ : ∃ z, z = (T.setVm s.vm).setFrames (.invoking m args :: below) := ⟨_, rfl⟩
  rw [← hA] at Y
  have hvm : s'.vm = s.vm := by rw [hA]; rfl
  have hhp : s'.heap = H := by rw [hA]; exact hT
  have hW0 : s.WarmedH s'.vm := by rw [hvm]; exact State.WarmedH.refl s
  have hat' : ∀ w ∈ vx_at0 own ic cls names, w.before args s' = true := fun w hw => vx_ot_at hW0 hvm.symm (hgood w (List.mem_cons_of_mem _ (List.mem_cons_of_mem _ hw))) (hat w hw)
  have hk' : (Cond.classLink own ik cls).before args s' = true := vx_ot_at hW0 hvm.symm (hgood _ List.mem_cons_self) hk
  have hini' : (Cond.initialized cls).before args s' = true := vx_ot_at hW0 hvm.symm (hgood _ (List.mem_cons_of_mem _ List.mem_cons_self)) hini
  have hU' : vx_Zq Bundle.tN "UNASSIGNED_STACK" Bundle.steD A s' s'.heap := by rw [hhp]; exact vx_Zq.moved hW0.alike (hU.kept hS.2.1)
  have hN' : vx_Zq Bundle.tN "SUPPRESSED_SENTINEL" Bundle.listD A s' s'.heap := by rw [hhp]; exact vx_Zq.moved hW0.alike (hN.kept hS.2.1)
  have h : ∀ w ∈ Bundle.ownAtoms0 own ic cls names, w.before args s' = true := vx_own hat' (vx_isRefq hU'.1) (vx_isRefq hN'.1) hU'.2.word hN'.2.word
  have hown' : s'.vm.findClass own = some m.cls := by rw [hvm]; exact hown
  have hins : (Cond.instantiable cls 6).before args s' = true := h _ (by simp [Bundle.ownAtoms0])
  obtain ⟨vm₁, cX, kX, hfX, hkX, -, -, X₁, st1⟩ := Y.newCold hexec (own := own) (C := cls) (index := ik) (n := 6) hown' hk' hins hini'
    (g := F0 m pc ls rest) rfl (by rw [hb]; exact d0) (Nat.le_refl _) (Nat.le_refl _)
  generalize hT1 : (T.setVm vm₁).pushCell { cls := cX, slots := kX.instanceTypes.map defaultValue, vm := .none } = T1 at X₁ st1
  have hcat : (Value.ref T.heap.size).category = 1 := rfl
  have hcellA : T1.heap[T.heap.size]? = some (freshCell cX kX) := by rw [← hT1]; exact State.heap_pushCell_size _ _
  have d3' : decode c.code (pc + 3) = .ok (.dup, 1) := by rw [hb]; exact d3
  obtain ⟨U, hsteps, hrun, hend, hW, hsame, ce, hce, hO⟩ := X₁.ctorThrow0 hexec htr (own := own) (cls := cls) (names := names) (ic := ic) hown' hcls hnames h (fun x hx => nomatch hx) hfX hkX hcellA (by rw [hhp, hT]; exact Nat.le_refl _)
    (g := { method := m, pc := pc + 4, locals := ls, stack := .ref T.heap.size :: .ref T.heap.size :: rest, locked := none }) rfl hsize rfl rfl (rest := rest) rfl
    (by rw [hb]; exact d4) (by rw [hb]; exact d7) hout hRframes (by simp only [List.map_cons, List.sum_cons, hcat]; omega) hlocks
  obtain ⟨f1, f2⟩ := vx_frame hsame
  rw [hhp] at f1 f2
  have hWs : s.WarmedH U.vm := State.WarmedH.trans hW0 hW
  have hcl : s.vm.findClass cls = some ce.cls := by
    have h9 := hO.cls
    rw [hvm] at h9
    exact h9
  have hall3 : s.sameButNew ({ U with vm := s.vm } : State) locs (cells + 1) (slots + 6) := by
    subst hA
    obtain ⟨e1, e2⟩ := hsame
    rw [State.setFrames_setFrames] at e1
    have h2 : (T.setVm s.vm).sameButNew ({ U with vm := s.vm } : State) [] (0 + 1) (0 + 6) := ⟨e1, e2⟩
    have h3 := X.same.trans h2
    rw [List.append_nil] at h3
    exact h3
  have hall := hall3.mono hc hs
  have hnb : NBw s.heap U.heap (cells + 1) (slots + 6) := by
    have q2 := hz_new hall3
    obtain ⟨-, -, q4, -, q5, -⟩ := hall3
    refine ⟨q4, ?_⟩
    have q6 : hz U.heap = hz s.heap + ((U.heap.toList.drop s.heap.size).map (·.slots.size)).sum := q2
    have q7 : ((U.heap.toList.drop s.heap.size).map (·.slots.size)).sum ≤ slots + 6 := q5
    omega
  refine ⟨U, ?_, .threw T.heap.size, hrun, hend, Or.inr ⟨T.heap.size, rfl, cls, ce, locs, hx U hWs.alike f1 (fun q hq => f2 q hq (fun z hz => nomatch hz)) hnb, hce, hO.vm, hcl, hWs, hall, hf⟩⟩
  refine st1 _ ?_
  show Steps p.tables e below (T1.setTop { method := m, pc := pc + 3, locals := ls, stack := .ref T.heap.size :: rest, locked := none }) _
  jvm_step X₁.here [X₁.here.top, hexec, d3', Value.category]
  exact hsteps
end VXT1
end
section
theorem vd_pw {ws : va_W} : (∀ (i j : Nat) (p q : Nat × va_E), ws[i]? = some p → ws[j]? = some q → p.1 = q.1 → i = j) ↔ ws.Pairwise (fun p q => p.1 ≠ q.1) := by
  rw [List.pairwise_iff_getElem]
  constructor
  · intro h i j hi hj hij e
    exact absurd (h i j _ _ (List.getElem?_eq_getElem hi) (List.getElem?_eq_getElem hj) e) (Nat.ne_of_lt hij)
  · intro h i j p q hi hj e
    obtain ⟨hi', ei⟩ := List.getElem?_eq_some_iff.mp hi
    obtain ⟨hj', ej⟩ := List.getElem?_eq_some_iff.mp hj
    rcases Nat.lt_trichotomy i j with g | g | g
    · exact absurd (by rw [ei, ej]; exact e) (h i j hi' hj' g)
    · exact g
    · exact absurd (by rw [ei, ej]; exact e.symm) (h j i hj' hi' g)
theorem va_Dsl {A : Nat → Prop} {ws ws' : va_W} (hD : va_D A ws) (h : ws'.Sublist ws) : va_D A ws' :=
  ⟨vd_pw.mpr ((vd_pw.mp hD.1).sublist h), fun k q hk => by
    obtain ⟨i, hi⟩ := List.getElem?_of_mem (h.subset (List.mem_of_getElem? hk))
    exact hD.2 i q hi⟩
theorem va_Psl {D : va_G} {cl : List vw_C} {ws ws' : va_W} {H : Heap} (hP : va_P D cl ws H) (h : ws'.Sublist ws) : va_P D cl ws' H := fun k q hk => by
  obtain ⟨i, hi⟩ := List.getElem?_of_mem (h.subset (List.mem_of_getElem? hk))
  exact hP i q hi
/-- a list's cells are exchanged for larger ones -/
def gG (gm : Nat → Nat → Int32) (q : Nat) (n : Int32) : Nat → Nat → Int32 := va_up (va_up gm 42 (upd (gm 42) q n)) 57 (fun i => if 128 * q + (gm 42 q).toNatClampNeg ≤ i ∧ i < 128 * q + 128 then -1 else gm 57 i)
def lG (lx : List Nat) (q : Nat) : List Nat := lx.filter (fun q2 => !(q2 == q)) ++ [q]
theorem gG_42 {gm : Nat → Nat → Int32} {q : Nat} {n : Int32} : gG gm q n 42 = upd (gm 42) q n := by
  unfold gG; rw [va_up_ne _ _ (show (42 : Nat) ≠ 57 by decide)]; exact up_at rfl
theorem gG_57 {gm : Nat → Nat → Int32} {q : Nat} {n : Int32} : gG gm q n 57 = fun i => if 128 * q + (gm 42 q).toNatClampNeg ≤ i ∧ i < 128 * q + 128 then -1 else gm 57 i := up_at rfl
theorem gG_k {gm : Nat → Nat → Int32} {q k : Nat} {n : Int32} (h : k ≠ 42) (h2 : k ≠ 57) : gG gm q n k = gm k := by
  unfold gG; rw [va_up_ne _ _ h2, va_up_ne _ _ h]
theorem gG_lt {gm : Nat → Nat → Int32} {q j : Nat} {n : Int32} (h : j < (gm 42 q).toNatClampNeg) : gG gm q n 57 (128 * q + j) = gm 57 (128 * q + j) := by
  rw [gG_57]; show (if _ then _ else _) = _; rw [if_neg (by omega)]
theorem gG_ne {gm : Nat → Nat → Int32} {q q2 j : Nat} {n : Int32} (h : q2 ≠ q) (hj : j < 128) : gG gm q n 57 (128 * q2 + j) = gm 57 (128 * q2 + j) := by
  rw [gG_57]; show (if _ then _ else _) = _; rw [if_neg (by omega)]
theorem gG_ge {gm : Nat → Nat → Int32} {q j : Nat} {n : Int32} (h : ¬ j < (gm 42 q).toNatClampNeg) (hj : j < 128) : gG gm q n 57 (128 * q + j) = -1 := by
  have h1 : 128 * q + (gm 42 q).toNatClampNeg ≤ 128 * q + j ∧ 128 * q + j < 128 * q + 128 := ⟨by omega, by omega⟩
  rw [gG_57]; exact if_pos h1
theorem ky42 : ∀ t, t < 12 → ∀ j, j < cNf t → cKy t j ≠ 42 := by decide
theorem ay42 : ∀ t, t < 32 → cAy t ≠ 42 := by decide
theorem kd6 : ∀ t, t < 12 → ∀ j, j < cNf t → t = 11 ∧ j = 1 ∨ cKd t j = 0 ∨ cKd t j = 1 ∨ cKd t j = 2 ∨ cKd t j = 3 ∨ cKd t j = 4 ∨ cKd t j = 5 := by decide
section LGR
variable {ad : Nat → Nat → Nat} {cid : Nat → ClassId} {a2 : Nat → Nat} {lx : List Nat} {sg : Nat → Int32} {gm : Nat → Nat → Int32} {lg : Nat → Nat → Int64}
theorem cV_gr {t i j q a : Nat} {n : Int32} (ht : t < 12) (hj : j < cNf t) (hne : ¬ (t = 11 ∧ i = q)) : cV ad (va_up a2 q a) sg (gG gm q n) lg t j i = cV ad a2 sg gm lg t j i := by
  have e1 : gG gm q n (cKy t j) = gm (cKy t j) := gG_k (ky42 t ht j hj) (ky57 t ht j hj)
  rcases kd6 t ht j hj with ⟨h1, h2⟩ | h
  · subst h1; subst h2
    have hi : i ≠ q := fun q9 => hne ⟨rfl, q9⟩
    show Value.ref (if (gG gm q n 42 i).toInt = 0 then ad 34 0 else va_up a2 q a i) = Value.ref (if (gm 42 i).toInt = 0 then ad 34 0 else a2 i)
    rw [gG_42, upd_ne hi, va_up_ne _ _ hi]
  · unfold cV
    rw [e1]
    rcases h with h | h | h | h | h | h <;> simp [h]
theorem cE_gr {t i q a : Nat} {n : Int32} (ht : t < 32) (hne : ¬ (t = 11 ∧ i = q)) : cE ad cid (va_up a2 q a) sg (gG gm q n) lg t i = cE ad cid a2 sg gm lg t i := by
  unfold cE
  by_cases h12 : t < 12
  · rw [if_pos h12, if_pos h12]
    have : cFs ad (va_up a2 q a) sg (gG gm q n) lg t i = cFs ad a2 sg gm lg t i := List.map_congr_left (fun j hj => cV_gr h12 (List.mem_range.mp hj) hne)
    rw [this]
  · rw [if_neg h12, if_neg h12]
    have e0 : gG gm q n (cAy t) = gm (cAy t) := gG_k (ay42 t ht) (ay57 t ht)
    have e1 : cAi (gG gm q n) t i = cAi gm t i := funext fun j => by unfold cAi; rw [e0]
    have e2 : cAr ad (gG gm q n) t i = cAr ad gm t i := funext fun j => by unfold cAr; rw [e0]
    rw [e1, e2]
theorem cD_gr {q q2 : Nat} {n : Int32} (h : q2 ≠ q) : cD ad cid (gG gm q n) q2 = cD ad cid gm q2 := by
  unfold cD
  rw [gG_42, upd_ne h]
  have : cDr ad (gG gm q n) q2 = cDr ad gm q2 := funext fun j => by
    unfold cDr
    by_cases hj : j < 128
    · rw [if_pos hj, if_pos hj, gG_ne h hj]
    · rw [if_neg hj, if_neg hj]
  rw [this]
theorem cDr_gr {q : Nat} {n : Int32} (h : (gm 42 q).toNatClampNeg ≤ 128) : cDr ad (gG gm q n) q = va_cpy (cDr ad gm q) (fun _ => none) 0 0 (gm 42 q).toNatClampNeg := funext fun j => by
  unfold va_cpy
  show cDr ad (gG gm q n) q j = if 0 ≤ j ∧ j < 0 + (gm 42 q).toNatClampNeg then cDr ad gm q (0 + (j - 0)) else none
  by_cases h2 : j < (gm 42 q).toNatClampNeg
  · rw [if_pos ⟨Nat.zero_le _, by omega⟩, show 0 + (j - 0) = j from by omega]
    unfold cDr
    rw [if_pos (by omega), if_pos (by omega), gG_lt h2]
  · rw [if_neg (by omega)]
    unfold cDr
    by_cases hj : j < 128
    · rw [if_pos hj, gG_ge h2 hj]
      exact er_none (by decide)
    · rw [if_neg hj]
/-- the larger cells of a list, not yet in it -/
def nD (ad : Nat → Nat → Nat) (cid : Nat → ClassId) (gm : Nat → Nat → Int32) (q N : Nat) : va_E := .inl (cid 32, N, .inr (.inr (.inr (.inr (va_cpy (cDr ad gm q) (fun _ => none) 0 0 (gm 42 q).toNatClampNeg)))))
theorem cW_gr {p9 q a : Nat} {n : Int32} (hp : cPL[p9]? = some (11, q)) (hn : ¬ n.toInt = 0) (h8 : (gm 42 q).toNatClampNeg ≤ 128) :
    (cW ad cid (va_up a2 q a) (lG lx q) sg (gG gm q n) lg).Sublist ((cW ad cid a2 lx sg gm lg ++ [(a, nD ad cid gm q n.toNatClampNeg)]).set p9 (ad 11 q, .inr (cIx 11, (cFs ad a2 sg gm lg 11 q).set 1 (.ref a)))) := by
  have c0 : cV ad (va_up a2 q a) sg (gG gm q n) lg 11 0 q = cV ad a2 sg gm lg 11 0 q := by
    show Value.int (gG gm q n 40 q) = Value.int (gm 40 q); rw [gG_k (by decide) (by decide)]
  have c2 : cV ad (va_up a2 q a) sg (gG gm q n) lg 11 2 q = cV ad a2 sg gm lg 11 2 q := by
    show Value.int (gG gm q n 41 q) = Value.int (gm 41 q); rw [gG_k (by decide) (by decide)]
  have c1 : cV ad (va_up a2 q a) sg (gG gm q n) lg 11 1 q = .ref a := by
    show Value.ref (if (gG gm q n 42 q).toInt = 0 then ad 34 0 else va_up a2 q a q) = .ref a
    rw [gG_42, upd_at, if_neg hn, va_up_self]
  have hg : (ad 11 q, (Sum.inr (cIx 11, (cFs ad a2 sg gm lg 11 q).set 1 (.ref a)) : va_E)) = (fun x : Nat × Nat => (ad x.1 x.2, cE ad cid (va_up a2 q a) sg (gG gm q n) lg x.1 x.2)) (11, q) := by
    show _ = (ad 11 q, cE ad cid (va_up a2 q a) sg (gG gm q n) lg 11 q)
    rw [cE_o (by decide)]
    show (ad 11 q, (Sum.inr (cIx 11, [cV ad a2 sg gm lg 11 0 q, .ref a, cV ad a2 sg gm lg 11 2 q]) : va_E)) = (ad 11 q, .inr (cIx 11, [cV ad (va_up a2 q a) sg (gG gm q n) lg 11 0 q, cV ad (va_up a2 q a) sg (gG gm q n) lg 11 1 q, cV ad (va_up a2 q a) sg (gG gm q n) lg 11 2 q]))
    rw [c0, c1, c2]
  rw [hg]
  unfold cW cFx
  rw [List.append_assoc]
  generalize hL : cPL = L at hp ⊢
  rw [cW_setG (g := fun x : Nat × Nat => (ad x.1 x.2, cE ad cid (va_up a2 q a) sg (gG gm q n) lg x.1 x.2)) hp (fun j x hx hj => by
    have hx2 : cPL[j]? = some x := by rw [hL]; exact hx
    have hp2 : cPL[p9]? = some (11, q) := by rw [hL]; exact hp
    show (ad x.1 x.2, cE ad cid (va_up a2 q a) sg (gG gm q n) lg x.1 x.2) = (ad x.1 x.2, cE ad cid a2 sg gm lg x.1 x.2)
    rw [cE_gr (cPL_in hx2).1 (fun q9 => hj (cPL_inj hx2 (by rw [show x = (11, q) from Prod.ext q9.1 q9.2]; exact hp2)))])]
  refine List.Sublist.append (List.Sublist.refl _) ?_
  unfold lG
  rw [List.map_append]
  refine List.Sublist.append ?_ ?_
  · rw [List.map_congr_left (g := fun q2 => (a2 q2, cD ad cid gm q2)) (fun b hb => by
      have h9 : b ≠ q := fun q9 => by have := (List.mem_filter.mp hb).2; rw [q9] at this; simp at this
      rw [va_up_ne _ _ h9, cD_gr h9])]
    exact List.filter_sublist.map _
  · show [(va_up a2 q a q, cD ad cid (gG gm q n) q)].Sublist _
    rw [va_up_self]
    unfold cD nD
    rw [cDr_gr h8, gG_42, upd_at]
    exact List.Sublist.refl _
end LGR
theorem sum_ite {g : Nat → Nat} {q a : Nat} (m9 : Nat) : ((List.range m9).map (fun i => if i = q then a else g i)).sum + (if q < m9 then g q else 0) = ((List.range m9).map g).sum + (if q < m9 then a else 0) := by
  induction m9 with
  | zero => rw [if_neg (Nat.not_lt_zero q), if_neg (Nat.not_lt_zero q)]; rfl
  | succ m9 ih =>
    rw [List.range_succ, List.map_append, List.map_append, List.sum_append, List.sum_append, List.map_cons, List.map_cons, List.map_nil, List.map_nil, List.sum_cons, List.sum_cons, List.sum_nil]
    by_cases e9 : q = m9
    · subst e9
      rw [if_neg (Nat.lt_irrefl q), if_neg (Nat.lt_irrefl q)] at ih
      rw [if_pos (Nat.lt_succ_self q), if_pos (Nat.lt_succ_self q), if_pos rfl]
      omega
    · rw [if_neg (Ne.symm e9)]
      by_cases h9 : q < m9
      · rw [if_pos h9, if_pos h9] at ih
        rw [if_pos (by omega), if_pos (by omega)]
        omega
      · rw [if_neg h9, if_neg h9] at ih
        rw [if_neg (by omega), if_neg (by omega)]
        omega
theorem PHs_a {f : Nat → Int32} {q : Nat} {n : Int32} : (fun i => (upd f q n i).toNatClampNeg) = fun i => if i = q then n.toNatClampNeg else (f i).toNatClampNeg := funext fun i => by
  by_cases h : i = q
  · rw [h, upd_at, if_pos rfl]
  · rw [upd_ne h, if_neg h]
theorem PHs_gG {gm : Nat → Nat → Int32} {q : Nat} {n : Int32} (h : q < 240) : PHs (gG gm q n) + (gm 42 q).toNatClampNeg = PHs gm + n.toNatClampNeg := by
  have h1 := sum_ite (g := fun i => (gm 42 i).toNatClampNeg) (q := q) (a := n.toNatClampNeg) 240
  rw [if_pos h, if_pos h] at h1
  unfold PHs
  rw [gG_42, PHs_a]
  exact h1
theorem LDI_gG {lx : List Nat} {sg : Nat → Int32} {gm : Nat → Nat → Int32} {q : Nat} {n : Int32} (hI : CI sg gm) (h : LDI lx gm) (hn : (gm 42 q).toInt ≤ n.toInt) : LDI (lG lx q) (gG gm q n) := fun q2 h2 => by
  obtain ⟨b1, b2, b3⟩ := h q2 h2
  have i41 := (show iv 0 80 (gm 41 q2) from CI_n hI 41 h2)
  have k1 : (gm 41 q2).toNatClampNeg = (gm 41 q2).toInt.toNat := rfl
  have i411 := i41.1
  have i412 := i41.2
  rw [gG_42, gG_k (show (41 : Nat) ≠ 42 by decide) (by decide)]
  by_cases e9 : q2 = q
  · subst e9
    rw [upd_at]
    refine ⟨by omega, fun _ => List.mem_append_right _ List.mem_cons_self, fun j hj => ?_⟩
    rw [gG_lt (by have k2 : (gm 42 q2).toNatClampNeg = (gm 42 q2).toInt.toNat := rfl; omega)]
    exact b3 j hj
  · rw [upd_ne e9]
    refine ⟨b1, fun q9 => List.mem_append_left _ (List.mem_filter.mpr ⟨b2 q9, by simp [e9]⟩), fun j hj => ?_⟩
    rw [gG_ne e9 (by omega)]; exact b3 j hj
theorem CI_gG {sg : Nat → Int32} {gm : Nat → Nat → Int32} {q : Nat} {n : Int32} (hI : CI sg gm) (hn : iv 0 127 n) : CI sg (gG gm q n) := ⟨hI.1, fun k i hi => by
  by_cases h42 : k = 42
  · subst h42
    rw [gG_42]
    by_cases e9 : i = q
    · rw [e9, upd_at]; exact hn
    · rw [upd_ne e9]; exact hI.2 42 i hi
  · by_cases h57 : k = 57
    · subst h57
      rw [gG_57]
      show iv (-1) 79 (if _ then _ else _)
      by_cases h9 : 128 * q + (gm 42 q).toNatClampNeg ≤ i ∧ i < 128 * q + 128
      · rw [if_pos h9]; exact ⟨by decide, by decide⟩
      · rw [if_neg h9]; exact hI.2 57 i hi
    · rw [gG_k h42 h57]; exact hI.2 k i hi⟩
theorem shr1 {a : Int32} (h : iv 0 127 a) : (a >>> ((1 : Int32) &&& 31)).toInt = a.toInt / 2 := by
  have key : ∀ n : Fin 128, ((nI n.val) >>> ((1 : Int32) &&& 31)).toInt = (n.val : Int) / 2 := by decide +kernel
  have h1 := h.1
  have h2 := h.2
  have e1 : a = nI a.toInt.toNat := Int32.toInt_inj.mp (by rw [nI_toInt (by omega)]; omega)
  have := key ⟨a.toInt.toNat, by omega⟩
  rw [← e1] at this
  rw [this]
  show ((a.toInt.toNat : Nat) : Int) / 2 = _
  rw [Int.toNat_of_nonneg h1]
theorem cT_len {cid : Nat → ClassId} : (cT cid).length = 33 := by unfold cT; rw [List.length_map, List.length_range]
theorem set_last {α : Type} (L : List α) (x y : α) : (L ++ [x]).set L.length y = L ++ [y] := by
  rw [List.set_append_right _ _ (Nat.le_refl _), Nat.sub_self]; rfl
section LGM
variable {p : Program} {l : Launch} {e : Env} {R : Room} {s : State} {m : MethodId} {args : Array Value} {below : List Frame} {meth : Method} {c : Code} {H : Heap} {locs : List Loc} {Q : State → Prop} {cc : ByteArray} {pc : Nat} {ls : Array Slot} {rest : List Value} {A : Nat → Prop}
variable {dC : Nat → ClassId} {dI : Nat → Nat → Nat} {ad : Nat → Nat → Nat} {cid : Nat → ClassId} {a2 : Nat → Nat} {lx : List Nat} {sg : Nat → Int32} {gm : Nat → Nat → Int32} {lg : Nat → Nat → Int64} {own : String} {index : Nat} {cells slots : Nat} {st0 : List Value}
/-- new cells are of the class that the lists' cells have -/
theorem cA_eq {cA : ClassId} (hK : va_K (dC, dI) vwCl (cT cid) s) (hK2 : va_K (dC, dI) vwCl (cT cid ++ [(cA, .object "java/lang/Object")]) s) : cA = cid 32 := by
  have r1 := (hK2.2 33 (cA, .object "java/lang/Object") (by rw [List.getElem?_append_right (by rw [cT_len]; decide), cT_len]; rfl)).2
  have r2 := (hK.2 32 (cid 32, .object "java/lang/Object") (cT_at (by decide))).2
  exact Option.some.inj ((va_nmO r1 rfl).symm.trans (va_nmO r2 rfl))
def cQn (dC : Nat → ClassId) (dI : Nat → Nat → Nat) (ad : Nat → Nat → Nat) (cid : Nat → ClassId) (a2 : Nat → Nat) (lx : List Nat) (sg : Nat → Int32) (gm : Nat → Nat → Int32) (lg : Nat → Nat → Int64) (q N : Nat) (A : Nat → Prop) : Array Value → State → Outcome → State → Prop := fun _ st oc t => (∃ a : Nat, oc = .returned (some (.ref a)) ∧ va_P (dC, dI) vwCl (cW ad cid a2 lx sg gm lg ++ [(a, nD ad cid gm q N)]) t.heap ∧ va_K (dC, dI) vwCl (cT cid) t ∧ va_D A (cW ad cid a2 lx sg gm lg ++ [(a, nD ad cid gm q N)])) ∧ va_F A st t ∧ NBw st.heap t.heap 1 N
theorem cm_goN {a : Array Value} {q N : Nat} (hr : vx_Run p l e R s m args below meth c H locs cells slots 1 127 (F0 m pc ls st0) rest (cQn dC dI ad cid a2 lx sg gm lg q N (va_A (cW ad cid a2 lx sg gm lg) H.size) a) (fun _ _ _ => False) (va_A (cW ad cid a2 lx sg gm lg) H.size)) (hD : va_D A (cW ad cid a2 lx sg gm lg)) (hS : va_S A s.heap H locs) (hA : ∀ q, s.heap.size ≤ q → A q)
    (kk : ∀ (a : Nat) (H1 : Heap) (locs1 : List Loc), va_P (dC, dI) vwCl (cW ad cid a2 lx sg gm lg ++ [(a, nD ad cid gm q N)]) H1 → va_D A (cW ad cid a2 lx sg gm lg ++ [(a, nD ad cid gm q N)]) → va_S A s.heap H1 locs1 → W p l e R s m args below meth c H1 locs1 (cells + 1) (slots + N) Q (F0 m (pc + 3) ls (.ref a :: rest))) : W p l e R s m args below meth c H locs cells slots Q (F0 m pc ls st0) := by
  have hFc := cfree hD hS hA
  refine W.nb (fun hN => ?_)
  intro T hT X
  rcases hr T hT X with ⟨v, st₀, t, T', L, h0, X', hL, e1, e2, ⟨⟨a9, hv, b1, b2, b3⟩, hF, hN1⟩, st⟩ | ⟨q9, st₀, t, T', L, E, ce, h0, X', hL, e1, e2, hf, hce, hcv, hcl, st⟩
  · cases hv
    obtain ⟨k1, k2, k3⟩ := vx_keep h0 e1 hS (fun q _ h => hFc q h) hFc hL hF
    rw [h0, ← e1] at hN1
    obtain ⟨t2, a1, c1⟩ := W.narrow (NBw_tr hN hN1) (kk a9 T'.heap (locs ++ L) (by rw [e1]; exact b1) (b3.weaken (fun _ _ _ h => hFc _ h)) k3) T' rfl X'
    exact ⟨t2, st t2 a1, c1⟩
  · exact hf.elim
/-- the cells of a list as a receiver -/
theorem cl_recv {i q : Nat} (hK : va_K (dC, dI) vwCl (cT cid) s) (hP : va_P (dC, dI) vwCl (cW ad cid a2 lx sg gm lg) H) (hi : lx[i]? = some q) : ∃ cell : Cell, H[a2 q]? = some cell ∧ cell.vm.isStatics = false ∧ s.vm.findClass "[Ljava/lang/Object;" = some cell.cls := by
  have r2 := (hK.2 32 (cid 32, .object "java/lang/Object") (cT_at (by decide))).2
  exact ⟨_, hP _ _ (cW_lat hi), rfl, va_nmO r2 rfl⟩
/-- the larger cells come into the list -/
theorem cl_putD {h : Int} {x n : Int32} {a : Nat} (hexec : p.tables.exec = Jvm.exec) (hb : c.code = cc) (htb : ∀ w ∈ tb, w.before args s = true) (hown : s.vm.findClass own = some m.cls) (hK : va_K (dC, dI) vwCl (cT cid) s) {H0 : Heap} (hP : va_P (dC, dI) vwCl (cW ad cid a2 lx sg gm lg ++ [(a, nD ad cid gm x.toNatClampNeg n.toNatClampNeg)]) H) (hD : va_D A (cW ad cid a2 lx sg gm lg ++ [(a, nD ad cid gm x.toNatClampNeg n.toNatClampNeg)])) (hS : va_S A H0 H locs) (hx : iv 0 h x) (hn : h < (cNum 11 : Int)) (h1 : ¬ n.toInt = 0) (h8 : (gm 42 x.toNatClampNeg).toNatClampNeg ≤ 128) (hlink : (Cond.fieldLink own index "java/util/ArrayList" "elementData" "[Ljava/lang/Object;").before args s = true) (hdg : decode cc pc = .ok (.putfield index, 3))
    (kk : ∀ (H1 : Heap) (locs1 : List Loc), va_P (dC, dI) vwCl (cW ad cid (va_up a2 x.toNatClampNeg a) (lG lx x.toNatClampNeg) sg (gG gm x.toNatClampNeg n) lg) H1 → va_D A (cW ad cid (va_up a2 x.toNatClampNeg a) (lG lx x.toNatClampNeg) sg (gG gm x.toNatClampNeg n) lg) → va_S A H0 H1 locs1 → W p l e R s m args below meth c H1 locs1 cells slots Q (F0 m (pc + 3) ls rest)) : W p l e R s m args below meth c H locs cells slots Q (F0 m pc ls (.ref a :: eV (ad 11) x :: rest)) := by
  obtain ⟨p9, hp⟩ := cPL_at (t := 11) (by decide) (cnx hx hn)
  rw [eV_ref hx.1]
  have hlt : p9 < (cW ad cid a2 lx sg gm lg).length := (List.getElem?_eq_some_iff.mp (cW_at (ad := ad) (cid := cid) (a2 := a2) (lx := lx) (sg := sg) (gm := gm) (lg := lg) hp)).1
  refine va_put (D := (dC, dI)) (ci := cIx 11) (v := .ref a) (ty := tyJx4a65c 1) (C := RJx4a65c) (T := TJx4a65c) (N := 3) (ref := "java/util/ArrayList") hexec hb htb inJx4a65c tyJx4a65c tyJx4a65c_ok nmJx4a65c hown hK hP hD hS p9 (by rw [List.getElem?_append_left hlt, cW_at hp, cE_o (by decide)]) rfl 1 (by decide) hlink (fun x9 h9 => h9) rfl (tyJx4a65c_ok 1 (by decide)) rfl rfl (by rw [cFs_len]; decide) hdg (fun H1 locs1 g1 g2 g3 => kk H1 locs1 ?_ ?_ g3)
  · exact va_Psl g1 (cW_gr hp h1 h8)
  · exact va_Dsl g2 (cW_gr hp h1 h8)
end LGM
end
section
theorem gc_l0 {sg : Nat → Int32} {gm gm2 : Nat → Nat → Int32} {k : Nat} (hI : CI sg gm2) : gc gm gm2 k ≤ 30480 + k := by have := PH_le (gm := gm) hI; unfold gc; omega
theorem gs_l0 {sg : Nat → Int32} {gm gm2 : Nat → Nat → Int32} {k : Nat} (hI : CI sg gm2) : gs gm gm2 k ≤ 121920 + 6 * k := by have := PH_le (gm := gm) hI; unfold gs; omega

theorem dJ7_copyOf_6403c_0 : decode cJ7_copyOf_6403c 0 = .ok (.aload_n 2, 1) := by decide +kernel
theorem dJ7_copyOf_6403c_1 : decode cJ7_copyOf_6403c 1 = .ok (.ldc 110, 2) := by decide +kernel
theorem dJ7_copyOf_6403c_3 : decode cJ7_copyOf_6403c 3 = .ok (.if_acmp .ne 10, 3) := by decide +kernel
theorem dJ7_copyOf_6403c_6 : decode cJ7_copyOf_6403c 6 = .ok (.iload_n 1, 1) := by decide +kernel
theorem dJ7_copyOf_6403c_7 : decode cJ7_copyOf_6403c 7 = .ok (.anewarray 2, 3) := by decide +kernel
theorem dJ7_copyOf_6403c_10 : decode cJ7_copyOf_6403c 10 = .ok (.goto 14, 3) := by decide +kernel
theorem dJ7_copyOf_6403c_24 : decode cJ7_copyOf_6403c 24 = .ok (.astore_n 3, 1) := by decide +kernel
theorem dJ7_copyOf_6403c_25 : decode cJ7_copyOf_6403c 25 = .ok (.aload_n 0, 1) := by decide +kernel
theorem dJ7_copyOf_6403c_26 : decode cJ7_copyOf_6403c 26 = .ok (.iconst 0, 1) := by decide +kernel
theorem dJ7_copyOf_6403c_27 : decode cJ7_copyOf_6403c 27 = .ok (.aload_n 3, 1) := by decide +kernel
theorem dJ7_copyOf_6403c_28 : decode cJ7_copyOf_6403c 28 = .ok (.iconst 0, 1) := by decide +kernel
theorem dJ7_copyOf_6403c_29 : decode cJ7_copyOf_6403c 29 = .ok (.aload_n 0, 1) := by decide +kernel
theorem dJ7_copyOf_6403c_30 : decode cJ7_copyOf_6403c 30 = .ok (.arraylength, 1) := by decide +kernel
theorem dJ7_copyOf_6403c_31 : decode cJ7_copyOf_6403c 31 = .ok (.iload_n 1, 1) := by decide +kernel
theorem dJ7_copyOf_6403c_32 : decode cJ7_copyOf_6403c 32 = .ok (.invokestatic 304, 3) := by decide +kernel
theorem dJ7_copyOf_6403c_35 : decode cJ7_copyOf_6403c 35 = .ok (.invokestatic 150, 3) := by decide +kernel
theorem dJ7_copyOf_6403c_38 : decode cJ7_copyOf_6403c 38 = .ok (.aload_n 3, 1) := by decide +kernel
theorem dJ7_copyOf_6403c_39 : decode cJ7_copyOf_6403c 39 = .ok (.areturn, 1) := by decide +kernel
theorem dJ7_copyOf_1904c_0 : decode cJ7_copyOf_1904c 0 = .ok (.aload_n 0, 1) := by decide +kernel
theorem dJ7_copyOf_1904c_1 : decode cJ7_copyOf_1904c 1 = .ok (.iload_n 1, 1) := by decide +kernel
theorem dJ7_copyOf_1904c_2 : decode cJ7_copyOf_1904c 2 = .ok (.aload_n 0, 1) := by decide +kernel
theorem dJ7_copyOf_1904c_3 : decode cJ7_copyOf_1904c 3 = .ok (.invokevirtual 86, 3) := by decide +kernel
theorem dJ7_copyOf_1904c_6 : decode cJ7_copyOf_1904c 6 = .ok (.invokestatic 300, 3) := by decide +kernel
theorem dJ7_copyOf_1904c_9 : decode cJ7_copyOf_1904c 9 = .ok (.areturn, 1) := by decide +kernel

theorem cap_of {sg : Nat → Int32} {gm : Nat → Nat → Int32} {q : Nat} (hI : CI sg gm) (hq : q < 240) : (gm 42 q).toNatClampNeg ≤ 127 ∧ 0 ≤ (gm 42 q).toInt ∧ (gm 42 q).toInt = ((gm 42 q).toNatClampNeg : Int) ∧ Int32.ofNat (gm 42 q).toNatClampNeg = gm 42 q := by
  have h := (show iv 0 127 (gm 42 q) from CI_n hI 42 hq)
  have h1 := h.1
  have h2 := h.2
  have h3 : (gm 42 q).toNatClampNeg = (gm 42 q).toInt.toNat := rfl
  refine ⟨by omega, h1, by omega, Int32.toInt_inj.mp ?_⟩
  rw [show Int32.ofNat (gm 42 q).toNatClampNeg = nI (gm 42 q).toNatClampNeg from rfl, nI_toInt (by omega)]
  omega
set_option maxHeartbeats 4000000 in
set_option maxRecDepth 100000 in
theorem d_copyOf3 (l : Launch) (dC : Nat → ClassId) (dI : Nat → Nat → Nat) (ad : Nat → Nat → Nat) (cid : Nat → ClassId) (a2 : Nat → Nat) (lx : List Nat) (sg : Nat → Int32) (gm : Nat → Nat → Int32) (lg : Nat → Nat → Int64) (q i : Nat) (n : Int32) (hI : CI sg gm) (hq : q < 240) (hi : lx[i]? = some q) (hvn : iv 1 127 n) (hge : (gm 42 q).toInt ≤ n.toInt) :
    ∀ sz, vx_Met l yJ7_copyOf_6403c wm_J7_copyOf_6403c ({ frames := 4, cells := 1, slots := 127, locals := 80 }) (va_Pc [.ref (a2 q), .int n, .ref (ad 39 0)] (CPre dC dI ad cid a2 lx sg gm lg sz)) (cQn dC dI ad cid a2 lx sg gm lg q n.toNatClampNeg (va_A (cW ad cid a2 lx sg gm lg) sz)) (fun _ _ _ => False) 1 127 (va_A (cW ad cid a2 lx sg gm lg) sz) := by
  intro sz
  refine vx_ofW (cc := cJ7_copyOf_6403c) (maxL := 4) (ret := (some (.array (.object "java/lang/Object")))) (by decide) rfl ?_
  intro p e s m args below meth c s₁ B hml hxt hv
  obtain ⟨rfl, hsz, hP, hK, hD0, hG⟩ := hv
  have hx := B.exec
  have hb := B.bytes
  have hr := B.returns
  have hts := atoms_spec (ws := wm_J7_copyOf_6403c) B.pre
  have htb := fun (w : Cond) (h : w ∈ tb) => hts w (List.mem_cons_of_mem _ h)
  have hown : s.vm.findClass RJ7 = some m.cls := findClass_of_methodNamed B.named
  have hlocks := B.notSynchronized
  subst hsz
  have hD := hD0.self (sz := s.heap.size)
  generalize hAe : va_A (cW ad cid a2 lx sg gm lg) s.heap.size = A at hD hG ⊢
  have hA : ∀ q : Nat, s.heap.size ≤ q → A q := fun q h => by rw [← hAe]; exact Or.inr h
  have hS : va_S A s.heap s.heap [] := va_S.rf
  have hl := lv_entry ([.ref (a2 q), .int n, .ref (ad 39 0)]) (n := 4) (Nat.le_of_ble_eq_true rfl)
  rw [lg_entry_eq]
  generalize (lg_sl ([.ref (a2 q), .int n, .ref (ad 39 0)]) ++ List.replicate (4 - (lg_sl ([.ref (a2 q), .int n, .ref (ad 39 0)])).length) Slot.unset).toArray = ls at hl ⊢
  have hl : lv_has ls 4 [(0, .ref (a2 q)), (1, .int n), (2, .ref (ad 39 0))] := hl
  obtain ⟨k1, k2, k3, k4⟩ := cap_of hI hq
  have hn1 := hvn.1
  have hn2 := hvn.2
  have hn3 : n.toNatClampNeg = n.toInt.toNat := rfl
  have hn4 : n.toNatClampNeg ≤ 127 := by omega
  have n0 : ¬ n < 0 := fun q9 => by have := Int32.lt_iff_toInt_lt.mp q9; have z0 : (0 : Int32).toInt = 0 := (by decide); omega
  have c0 : ¬ gm 42 q < 0 := fun q9 => by have := Int32.lt_iff_toInt_lt.mp q9; have z0 : (0 : Int32).toInt = 0 := (by decide); omega
  have nc : ¬ n < gm 42 q := fun q9 => by have := Int32.lt_iff_toInt_lt.mp q9; omega
  refine lv_aload_n hx hb dJ7_copyOf_6403c_0 rfl (lv_at hl 2 rfl) ?_
  refine va_ldcM hx hb hown (htb _ kw_778) hG.2.1.2.2.2.1.2.2 dJ7_copyOf_6403c_1 ?_
  refine lv_acmp_ne (rx := some (ad 39 0)) (ry := some (ad 39 0)) (tgt := 13) hx hb dJ7_copyOf_6403c_3 (by decide) (fun q9 => absurd rfl q9) (fun _ => ?_)
  refine lv_iload_n hx hb dJ7_copyOf_6403c_6 rfl (lv_at hl 1 rfl) ?_
  refine va_newq (D := (dC, dI)) (N' := n.toNatClampNeg) (C := "java/lang/Object") hx hb hown (htb _ kw_779) hG.2.1.2.2.2.1.1 hK hP hD hS hA n0 rfl (by omega) (Nat.le_of_ble_eq_true rfl) (show 0 + n.toNatClampNeg ≤ 127 from (by omega)) dJ7_copyOf_6403c_7 (fun a cA H hK2 hP hD hS => ?_)
  obtain rfl : cA = cid 32 := cA_eq hK hK2
  refine lv_goto (tgt := 24) hx hb dJ7_copyOf_6403c_10 (by decide) ?_
  refine lv_astore_n (lv' := [(3, .ref a), (0, .ref (a2 q)), (1, .int n), (2, .ref (ad 39 0))]) hx hb dJ7_copyOf_6403c_24 rfl hl (by decide) rfl (fun ls hl => ?_)
  refine lv_aload_n hx hb dJ7_copyOf_6403c_25 rfl (lv_at hl 1 rfl) ?_
  refine lv_iconst (v := 0) hx hb dJ7_copyOf_6403c_26 (by decide) ?_
  refine lv_aload_n hx hb dJ7_copyOf_6403c_27 rfl (lv_at hl 0 rfl) ?_
  refine lv_iconst (v := 0) hx hb dJ7_copyOf_6403c_28 (by decide) ?_
  refine lv_aload_n hx hb dJ7_copyOf_6403c_29 rfl (lv_at hl 1 rfl) ?_
  have hlat := cW_lat (ad := ad) (cid := cid) (a2 := a2) (sg := sg) (gm := gm) (lg := lg) hi
  have hsrc : (cW ad cid a2 lx sg gm lg ++ [(a, (.inl (cid 32, n.toNatClampNeg, .inr (.inr (.inr (.inr (fun _ => none))))) : va_E))])[(cFx ad cid a2 sg gm lg).length + i]? = some (a2 q, cD ad cid gm q) := by
    rw [List.getElem?_append_left (List.getElem?_eq_some_iff.mp hlat).1]; exact hlat
  have hdst : (cW ad cid a2 lx sg gm lg ++ [(a, (.inl (cid 32, n.toNatClampNeg, .inr (.inr (.inr (.inr (fun _ => none))))) : va_E))])[(cW ad cid a2 lx sg gm lg).length]? = some (a, .inl (cid 32, n.toNatClampNeg, .inr (.inr (.inr (.inr (fun _ => none)))))) := by
    rw [List.getElem?_append_right (Nat.le_refl _), Nat.sub_self]; rfl
  refine va_alen (D := (dC, dI)) (v := gm 42 q) hx hb hK hP _ 32 hsrc (cT_at (by decide)) k4 dJ7_copyOf_6403c_30 ?_
  refine lv_iload_n hx hb dJ7_copyOf_6403c_31 rfl (lv_at hl 2 rfl) ?_
  refine va_mmin hx hb (hml.trans hl.1.symm) hown (htb _ kw_780) (htb _ kw_781) (htb _ kw_760) (htb _ kw_1509) (Nat.le_of_ble_eq_true rfl) (Nat.le_of_ble_eq_true rfl) (Nat.le_of_ble_eq_true rfl) (show 0 + n.toNatClampNeg ≤ 127 from (by omega)) dJ7_copyOf_6403c_32 ?_
  refine W.eq (g2 := F0 m 35 ls [.int (gm 42 q), .int 0, .ref a, .int 0, .ref (a2 q)]) (by rw [if_neg nc]) ?_
  refine va_copyq (D := (dC, dI)) (C := "WiredBeans$Element") hx hb (hml.trans hl.1.symm) hown (htb _ kw_782) (htb _ kw_783) (htb _ kw_784) (htb _ kw_785) hK hP hD hS _ _ 32 32 hsrc hdst (cT_at (by decide)) (cT_at (by decide)) (by decide) (by decide) c0 (by rw [show (0 : Int32).toNatClampNeg = 0 from by decide, Nat.zero_add]; exact Nat.le_refl _) (by rw [show (0 : Int32).toNatClampNeg = 0 from by decide]; omega) (fun j hj y hy => ?_) (fun comp c0 f2 f1 => ?_) (Nat.le_of_ble_eq_true rfl) (Nat.le_of_ble_eq_true rfl) dJ7_copyOf_6403c_35 (fun H locs hP hD hS => ?_)
  · rw [show (0 : Int32).toNatClampNeg + j = j from by rw [show (0 : Int32).toNatClampNeg = 0 from by decide, Nat.zero_add]] at hy
    unfold cDr at hy
    rw [if_pos (by omega)] at hy
    by_cases h9 : (gm 57 (128 * q + j)).toInt < 0
    · rw [er_none h9] at hy; cases hy
    · rw [er_some (by omega)] at hy
      cases hy
      exact cm_recv (C := RX3) (T := TX3) (N := 21) (t := 9) (h := 79) hK (va_Psl hP (List.sublist_append_left _ _)) ⟨by omega, (show iv (-1) 79 _ from CI_n hI 57 (show 128 * q + j < crLen 57 from by show _ < 30720; omega)).2⟩ (by decide) (by decide) rfl
  · obtain ⟨c9, t9, g1, g2, g3⟩ := Cond.castable_spec (va_Nw.use (A := #[]) rfl hG.2.1.2.2.1.1)
    cases g1.symm.trans f1
    cases g2.symm.trans f2
    exact g3
  rw [show (0 : Int32).toNatClampNeg = 0 from by decide] at hP hD
  rw [set_last] at hP hD
  refine lv_aload_n hx hb dJ7_copyOf_6403c_38 rfl (lv_at hl 0 rfl) ?_
  exact W.nb (fun hN => W.widen (k := 1) (n := 127) (Nat.le_of_ble_eq_true rfl) (by omega) (vx_ret (W.aret (v := .ref a) hx hb hr (Or.inr ⟨_, rfl⟩) (Or.inr ⟨_, rfl⟩) (fun t ht hW => ⟨⟨a, rfl, by rw [ht]; exact hP, va_K.moved hW.alike hK, hD⟩, hS.F ht, by rw [ht]; exact NBw_w hN (Nat.le_of_ble_eq_true rfl) (by omega)⟩) hS.2.2 dJ7_copyOf_6403c_39)))
set_option maxHeartbeats 4000000 in
set_option maxRecDepth 100000 in
theorem d_copyOf2 (l : Launch) (dC : Nat → ClassId) (dI : Nat → Nat → Nat) (ad : Nat → Nat → Nat) (cid : Nat → ClassId) (a2 : Nat → Nat) (lx : List Nat) (sg : Nat → Int32) (gm : Nat → Nat → Int32) (lg : Nat → Nat → Int64) (q i : Nat) (n : Int32) (hI : CI sg gm) (hq : q < 240) (hi : lx[i]? = some q) (hvn : iv 1 127 n) (hge : (gm 42 q).toInt ≤ n.toInt) :
    ∀ sz, vx_Met l yJ7_copyOf_1904c wm_J7_copyOf_1904c ({ frames := 6, cells := 1, slots := 127, locals := 120 }) (va_Pc [.ref (a2 q), .int n] (CPre dC dI ad cid a2 lx sg gm lg sz)) (cQn dC dI ad cid a2 lx sg gm lg q n.toNatClampNeg (va_A (cW ad cid a2 lx sg gm lg) sz)) (fun _ _ _ => False) 1 127 (va_A (cW ad cid a2 lx sg gm lg) sz) := by
  intro sz
  refine vx_ofW (cc := cJ7_copyOf_1904c) (maxL := 2) (ret := (some (.array (.object "java/lang/Object")))) (by decide) rfl ?_
  intro p e s m args below meth c s₁ B hml hxt hv
  obtain ⟨rfl, hsz, hP, hK, hD0, hG⟩ := hv
  have hx := B.exec
  have hb := B.bytes
  have hr := B.returns
  have hts := atoms_spec (ws := wm_J7_copyOf_1904c) B.pre
  have htb := fun (w : Cond) (h : w ∈ tb) => hts w (List.mem_cons_of_mem _ h)
  have hown : s.vm.findClass RJ7 = some m.cls := findClass_of_methodNamed B.named
  have hlocks := B.notSynchronized
  subst hsz
  have hD := hD0.self (sz := s.heap.size)
  generalize hAe : va_A (cW ad cid a2 lx sg gm lg) s.heap.size = A at hD hG ⊢
  have hA : ∀ q : Nat, s.heap.size ≤ q → A q := fun q h => by rw [← hAe]; exact Or.inr h
  have hS : va_S A s.heap s.heap [] := va_S.rf
  have hl := lv_entry ([.ref (a2 q), .int n]) (n := 2) (Nat.le_of_ble_eq_true rfl)
  rw [lg_entry_eq]
  generalize (lg_sl ([.ref (a2 q), .int n]) ++ List.replicate (2 - (lg_sl ([.ref (a2 q), .int n])).length) Slot.unset).toArray = ls at hl ⊢
  have hl : lv_has ls 2 [(0, .ref (a2 q)), (1, .int n)] := hl
  refine lv_aload_n hx hb dJ7_copyOf_1904c_0 rfl (lv_at hl 0 rfl) ?_
  refine lv_iload_n hx hb dJ7_copyOf_1904c_1 rfl (lv_at hl 1 rfl) ?_
  refine lv_aload_n hx hb dJ7_copyOf_1904c_2 rfl (lv_at hl 0 rfl) ?_
  refine va_getC hx hb (hml.trans hl.1.symm) hown (htb _ kw_772) (va_Dc.use hG.2.1.2.2.2.1.2.1) (htb _ kw_773) (htb _ kw_774) (htb _ kw_775) hG.2.1.2.2.2.1.2.2 (cl_recv hK hP hi) (Nat.le_of_ble_eq_true rfl) (Nat.le_of_ble_eq_true rfl) dJ7_copyOf_1904c_3 ?_
  have hFc := cfree hD hS hA
  refine cm_goN (q := q) (N := n.toNatClampNeg) (vx_runS (cells := 0) (slots := 0) (As := [.ref (a2 q), .int n, .ref (ad 39 0)]) (rest := []) ⟨hx, hb, hml, hown, htb⟩ (d_copyOf3 l dC dI ad cid a2 lx sg gm lg q i n hI hq hi hvn hge s.heap.size) (va_cwS 3 htb (gd_S kw_776 kw_777 kw_771 kw_1508) rfl rfl rfl (by decide +kernel) ⟨Nat.le_of_ble_eq_true rfl, Nat.le_of_ble_eq_true rfl⟩) ⟨CPre_blind, fun U hU hW => ⟨rfl, by rw [hU], by rw [hU]; exact hP, va_K.moved hW.alike hK, hD.weaken (fun _ _ _ _ => trivial), hG.go hS hFc hU hW⟩⟩ rfl rfl hl.1 rfl (lv_room (by decide)) dJ7_copyOf_1904c_6 ⟨Nat.le_of_ble_eq_true rfl, Nat.le_of_ble_eq_true rfl⟩) hD hS hA (fun a H locs hP hD hS => ?_)
  have hn4 : n.toNatClampNeg ≤ 127 := by have h2 := hvn.2; have h3 : n.toNatClampNeg = n.toInt.toNat := rfl; omega
  exact W.nb (fun hN => W.widen (k := 1) (n := 127) (Nat.le_of_ble_eq_true rfl) (by omega) (vx_ret (W.aret (v := .ref a) hx hb hr (Or.inr ⟨_, rfl⟩) (Or.inr ⟨_, rfl⟩) (fun t ht hW => ⟨⟨a, rfl, by rw [ht]; exact hP, va_K.moved hW.alike hK, hD⟩, hS.F ht, by rw [ht]; exact NBw_w hN (Nat.le_of_ble_eq_true rfl) (by omega)⟩) hS.2.2 dJ7_copyOf_1904c_9)))
end
