theorem LVP_1 {gm : Nat → Nat → Int32} {lg : Nat → Nat → Int64} {j : Nat} {k : Int64} {a c9 : Int32} (h : FND gm lg j k a) (h0 : 0 ≤ a.toInt) (h1 : (gm 45 a.toNatClampNeg).toInt = 1) (hc : c9 = gm 46 ((gm 44 a.toNatClampNeg).toNatClampNeg + (0 : Int32).toNatClampNeg)) (g1 : 97 ≤ c9.toInt) (g2 : c9.toInt ≤ 122) : LVP gm lg j k := by
  rw [show (0 : Int32).toNatClampNeg = 0 by decide, Nat.add_zero] at hc
  exact ⟨a, h, h0, h1, by rw [← hc]; exact g1, by rw [← hc]; exact g2⟩
theorem LVP_2 {gm : Nat → Nat → Int32} {lg : Nat → Nat → Int64} {j : Nat} {k : Int64} {a : Int32} (h : FND gm lg j k a) (q : LVP gm lg j k) : 0 ≤ a.toInt ∧ (gm 45 a.toNatClampNeg).toInt = 1 ∧ ∀ c9 : Int32, c9 = gm 46 ((gm 44 a.toNatClampNeg).toNatClampNeg + (0 : Int32).toNatClampNeg) → 97 ≤ c9.toInt ∧ c9.toInt ≤ 122 := by
  obtain ⟨b, h1, h2, h3, h4, h5⟩ := q
  rw [FND_u h h1]
  refine ⟨h2, h3, fun c9 hc => ?_⟩
  rw [show (0 : Int32).toNatClampNeg = 0 by decide, Nat.add_zero] at hc
  rw [hc]; exact ⟨h4, h5⟩

set_option maxHeartbeats 4000000 in
set_option maxRecDepth 100000 in
theorem d_valueLength (l : Launch) (dC : Nat → ClassId) (dI : Nat → Nat → Nat) (ad : Nat → Nat → Nat) (cid : Nat → ClassId) (a2 : Nat → Nat) (lx : List Nat) (sg : Nat → Int32) (gm : Nat → Nat → Int32) (lg : Nat → Nat → Int64) (x : Int32) (a : Int32) (hI : CI sg gm) (hvx : iv 0 0 x) (hva : iv (-1) 239 a) : CMt dC dI ad cid a2 lx l yX6_valueLength wm_X6_valueLength ({ frames := 0, cells := 1, slots := 6, locals := 0 }) [eV (ad 1) x, .int a] sg gm lg (fun v u => ∃ r : Int32, v = some (.int r) ∧ u = (sg, gm, lg) ∧ (iv 0 24 r) ∧ ((a.toInt = -1 ∧ r.toInt = 0) ∨ (0 ≤ a.toInt ∧ r = gm 45 a.toNatClampNeg))) (fun _ _ => False) := by
  intro sz
  refine vx_ofW (cc := cX6_valueLength) (maxL := 2) (ret := (some .int)) (by decide) rfl ?_
  intro p e s m args below meth c s₁ B hml hxt hv
  obtain ⟨rfl, hsz, hP, hK, hD0, hG⟩ := hv
  have hx := B.exec
  have hb := B.bytes
  have hr := B.returns
  have hts := atoms_spec (ws := wm_X6_valueLength) B.pre
  have htb := fun (w : Cond) (h : w ∈ tb) => hts w (List.mem_cons_of_mem _ h)
  have hown : s.vm.findClass RX6 = some m.cls := findClass_of_methodNamed B.named
  have hlocks := B.notSynchronized
  subst hsz
  have hD := hD0.self (sz := s.heap.size)
  generalize hAe : va_A (cW ad cid a2 lx sg gm lg) s.heap.size = A at hD hG ⊢
  have hA : ∀ q : Nat, s.heap.size ≤ q → A q := fun q h => by rw [← hAe]; exact Or.inr h
  have hS : va_S A s.heap s.heap [] := va_S.rf
  have hl := lv_entry ([eV (ad 1) x, .int a]) (n := 2) (by rw [show (lg_sl ([eV (ad 1) x, .int a])).length = 2 from by simp [lg_sl, eV_cat, cat_i, cat_l]]; exact Nat.le_of_ble_eq_true rfl)
  rw [lg_entry_eq]
  generalize (lg_sl ([eV (ad 1) x, .int a]) ++ List.replicate (2 - (lg_sl ([eV (ad 1) x, .int a])).length) Slot.unset).toArray = ls at hl ⊢
  have hl : lv_has ls 2 [(0, eV (ad 1) x), (1, .int a)] := by simp [lv_args, eV_cat, cat_i, cat_l] at hl; exact hl
  have hj15 : ∀ (y0_15 : Int32) (_ : iv 0 0 x) (_ : iv (-1) 239 a) (_ : iv 0 24 y0_15) (_ : (a.toInt = -1 ∧ y0_15.toInt = 0) ∨ (0 ≤ a.toInt ∧ y0_15 = gm 45 a.toNatClampNeg)) (H : Heap) (locs : List Loc) (ls : Array Slot), va_P (dC, dI) vwCl (cW ad cid a2 lx sg gm lg) H → va_D A (cW ad cid a2 lx sg gm lg) → va_S A s.heap H locs → lv_has ls 2 [(0, eV (ad 1) x), (1, .int a)] → W p l e (headSpec wm_X6_valueLength ({ frames := 0, cells := 1, slots := 6, locals := 0 })).room s m ([eV (ad 1) x, .int a] : List Value).toArray below meth c H locs 0 0 (vx_MQ below (cQx dC dI ad cid a2 lx (fun v u => ∃ r : Int32, v = some (.int r) ∧ u = (sg, gm, lg) ∧ (iv 0 24 r) ∧ ((a.toInt = -1 ∧ r.toInt = 0) ∨ (0 ≤ a.toInt ∧ r = gm 45 a.toNatClampNeg))) A) (cX dC dI ad cid a2 lx (fun _ _ => False) A) ([eV (ad 1) x, .int a] : List Value).toArray s 1 6 A) (F0 m 15 ls [.int y0_15]) := by
    intro y0_15 hsx0_15 hsx1_15 hy0_15 hV H locs ls hP hD hS hl
    exact W.nb (fun hN => W.widen (k := 1) (n := 6) (by decide) (by decide) (vx_ret (W.iret (v := y0_15) hx hb hr (fun t ht hW => ⟨⟨some (.int y0_15), (sg, gm, lg), rfl, ⟨y0_15, rfl, rfl, hy0_15, (hV)⟩, by rw [ht]; exact hP, va_K.moved hW.alike hK, hD⟩, hS.F ht, by rw [ht]; exact hN⟩) hS.2.2 dX6_valueLength_15)))
  refine lv_iload_n hx hb dX6_valueLength_0 rfl (lv_at hl 1 rfl) ?_
  refine lv_iconst (v := (-1)) hx hb dX6_valueLength_1 (by decide) ?_
  refine lv_icmp_ne (tgt := 9) hx hb dX6_valueLength_2 (by decide) (fun c_1 => ?_) (fun c_1 => ?_)
  · have h_2 : iv 0 239 a := iv_neL c_1 hva (by decide)
    refine ec_aload_n hx hb dX6_valueLength_9 rfl (lv_at hl 0 rfl) ?_
    refine cr_get (t := 1) (j := 3) (C := RX6) (T := TX6) (N := 8) (v := eV (ad 17) 0) hx hb htb inX6 hown hK hP hvx (by decide) (by decide) (by decide) rfl (by decide) (htb _ kw_69) (cV_c rfl (by decide) (by rw [show cMu 1 3 = 0 from rfl, Nat.zero_mul]; rfl)) dX6_valueLength_10 ?_
    refine lv_iload_n hx hb dX6_valueLength_13 rfl (lv_at hl 1 rfl) ?_
    refine cr_iald (t := 17) (z := (gm 45 (a : Int32).toNatClampNeg)) hx hb hK hP (iv_k (by decide) : iv 0 0 0) (by decide) (by decide) (by decide) rfl rfl (show vp_in a (cLen 17) from (show vp_in a 240 from (iv_in h_2 (by decide)))) rfl dX6_valueLength_14 ?_
    obtain ⟨z_3, ez_3⟩ : ∃ z : Int32, z = (gm 45 (a : Int32).toNatClampNeg) := ⟨_, rfl⟩
    refine W.eq (g2 := F0 m 15 ls [.int z_3]) (by rw [ez_3]) ?_
    have hz_3 : iv 0 24 z_3 := iv_of ez_3 (CI_a hI 45 h_2 (by decide))
    exact hj15 z_3 hvx (iv_w h_2 (by decide)) hz_3 (Or.inr ⟨by have := i32_0; have := i32_1; have := i32_2; have := i32_m1; have := (hvx).1; have := (hvx).2; have := (h_2).1; have := (h_2).2; have := (hz_3).1; have := (hz_3).2; omega, ez_3⟩) _ _ _ hP hD hS (lv_sub hl [0, 1] rfl)
  · have h_4 : iv (-1) (-1) a := iv_eq c_1 hva (iv_k (by decide) : iv (-1) (-1) (-1)) (by decide)
    refine lv_iconst (v := 0) hx hb dX6_valueLength_5 (by decide) ?_
    refine lv_goto (tgt := 15) hx hb dX6_valueLength_6 (by decide) ?_
    exact hj15 0 hvx (iv_w h_4 (by decide)) (iv_w (iv_k (by decide) : iv 0 0 0) (by decide)) (Or.inl ⟨by have := i32_0; have := i32_1; have := i32_2; have := i32_m1; have := (hvx).1; have := (hvx).2; have := (h_4).1; have := (h_4).2; omega, rfl⟩) _ _ _ hP hD hS (lv_sub hl [0, 1] rfl)

set_option maxHeartbeats 4000000 in
set_option maxRecDepth 100000 in
theorem d_valueChar (l : Launch) (dC : Nat → ClassId) (dI : Nat → Nat → Nat) (ad : Nat → Nat → Nat) (cid : Nat → ClassId) (a2 : Nat → Nat) (lx : List Nat) (sg : Nat → Int32) (gm : Nat → Nat → Int32) (lg : Nat → Nat → Int64) (x : Int32) (a : Int32) (i : Int32) (hI : CI sg gm) (hvx : iv 0 0 x) (hva : iv 0 239 a) (hvi : iv 0 23 i) (hVS : VS sg gm) (hal : a.toInt < (sg 5).toInt) (hil : i.toInt < (gm 45 a.toNatClampNeg).toInt) : CMt dC dI ad cid a2 lx l yX6_valueChar wm_X6_valueChar ({ frames := 0, cells := 1, slots := 6, locals := 0 }) [eV (ad 1) x, .int a, .int i] sg gm lg (fun v u => ∃ r : Int32, v = some (.int r) ∧ u = (sg, gm, lg) ∧ (iv 0 65535 r) ∧ (r = gm 46 ((gm 44 a.toNatClampNeg).toNatClampNeg + i.toNatClampNeg))) (fun _ _ => False) := by
  intro sz
  refine vx_ofW (cc := cX6_valueChar) (maxL := 3) (ret := (some .char)) (by decide) rfl ?_
  intro p e s m args below meth c s₁ B hml hxt hv
  obtain ⟨rfl, hsz, hP, hK, hD0, hG⟩ := hv
  have hx := B.exec
  have hb := B.bytes
  have hr := B.returns
  have hts := atoms_spec (ws := wm_X6_valueChar) B.pre
  have htb := fun (w : Cond) (h : w ∈ tb) => hts w (List.mem_cons_of_mem _ h)
  have hown : s.vm.findClass RX6 = some m.cls := findClass_of_methodNamed B.named
  have hlocks := B.notSynchronized
  subst hsz
  have hD := hD0.self (sz := s.heap.size)
  generalize hAe : va_A (cW ad cid a2 lx sg gm lg) s.heap.size = A at hD hG ⊢
  have hA : ∀ q : Nat, s.heap.size ≤ q → A q := fun q h => by rw [← hAe]; exact Or.inr h
  have hS : va_S A s.heap s.heap [] := va_S.rf
  have hl := lv_entry ([eV (ad 1) x, .int a, .int i]) (n := 3) (by rw [show (lg_sl ([eV (ad 1) x, .int a, .int i])).length = 3 from by simp [lg_sl, eV_cat, cat_i, cat_l]]; exact Nat.le_of_ble_eq_true rfl)
  rw [lg_entry_eq]
  generalize (lg_sl ([eV (ad 1) x, .int a, .int i]) ++ List.replicate (3 - (lg_sl ([eV (ad 1) x, .int a, .int i])).length) Slot.unset).toArray = ls at hl ⊢
  have hl : lv_has ls 3 [(0, eV (ad 1) x), (1, .int a), (2, .int i)] := by simp [lv_args, eV_cat, cat_i, cat_l] at hl; exact hl
  refine ec_aload_n hx hb dX6_valueChar_0 rfl (lv_at hl 0 rfl) ?_
  refine cr_get (t := 1) (j := 4) (C := RX6) (T := TX6) (N := 8) (v := eV (ad 18) 0) hx hb htb inX6 hown hK hP hvx (by decide) (by decide) (by decide) rfl (by decide) (htb _ kw_70) (cV_c rfl (by decide) (by rw [show cMu 1 4 = 0 from rfl, Nat.zero_mul]; rfl)) dX6_valueChar_1 ?_
  refine ec_aload_n hx hb dX6_valueChar_4 rfl (lv_at hl 0 rfl) ?_
  refine cr_get (t := 1) (j := 2) (C := RX6) (T := TX6) (N := 8) (v := eV (ad 16) 0) hx hb htb inX6 hown hK hP hvx (by decide) (by decide) (by decide) rfl (by decide) (htb _ kw_68) (cV_c rfl (by decide) (by rw [show cMu 1 2 = 0 from rfl, Nat.zero_mul]; rfl)) dX6_valueChar_5 ?_
  refine lv_iload_n hx hb dX6_valueChar_8 rfl (lv_at hl 1 rfl) ?_
  refine cr_iald (t := 16) (z := (gm 44 (a : Int32).toNatClampNeg)) hx hb hK hP (iv_k (by decide) : iv 0 0 0) (by decide) (by decide) (by decide) rfl rfl (show vp_in a (cLen 16) from (show vp_in a 240 from (iv_in hva (by decide)))) rfl dX6_valueChar_9 ?_
  obtain ⟨z_1, ez_1⟩ : ∃ z : Int32, z = (gm 44 (a : Int32).toNatClampNeg) := ⟨_, rfl⟩
  refine W.eq (g2 := F0 m 10 ls [.int z_1, eV (ad 18) 0]) (by rw [ez_1]) ?_
  have hz_1 : iv 0 1200 z_1 := iv_of ez_1 (CI_a hI 44 hva (by decide))
  refine lv_iload_n hx hb dX6_valueChar_10 rfl (lv_at hl 2 rfl) ?_
  have hvs9 : (z_1 : Int32).toInt + (gm 45 a.toNatClampNeg).toInt ≤ (sg 6).toInt := by rw [ez_1]; exact hVS _ (lt_cl hva (show iv 0 240 (sg 5) from CI_s hI 5) (by decide) (by decide) hal)
  have h69 := (show iv 0 1200 (sg 6) from CI_s hI 6).2
  refine lv_iadd hx hb dX6_valueChar_11 ?_
  refine lv_topi (fun z_2 ez_2 => ?_)
  have hz_2 : iv 0 1223 z_2 := iv_of ez_2 (iv_add hz_1 hvi (by decide))
  have tz_2 : z_2.toInt = (z_1 : Int32).toInt + (i : Int32).toInt := by rw [ez_2]; exact iv_addE hz_1 hvi (by decide)
  refine cr_cald (t := 18) (z := (gm 46 (z_2 : Int32).toNatClampNeg)) hx hb hK hP (iv_k (by decide) : iv 0 0 0) (by decide) (by decide) (by decide) rfl rfl (show vp_in z_2 (cLen 18) from (show vp_in z_2 1200 from (vp_in_iff.mpr ⟨by have := i32_0; have := i32_1; have := i32_2; have := i32_m1; have := (show iv 0 240 (sg 5) from CI_s hI 5).1; have := (show iv 0 240 (sg 5) from CI_s hI 5).2; have := (hvx).1; have := (hvx).2; have := (hva).1; have := (hva).2; have := (hvi).1; have := (hvi).2; have := (hz_1).1; have := (hz_1).2; have := (hz_2).1; have := (hz_2).2; omega, by have := i32_0; have := i32_1; have := i32_2; have := i32_m1; have := (show iv 0 240 (sg 5) from CI_s hI 5).1; have := (show iv 0 240 (sg 5) from CI_s hI 5).2; have := (hvx).1; have := (hvx).2; have := (hva).1; have := (hva).2; have := (hvi).1; have := (hvi).2; have := (hz_1).1; have := (hz_1).2; have := (hz_2).1; have := (hz_2).2; omega⟩))) rfl dX6_valueChar_12 ?_
  obtain ⟨z_3, ez_3⟩ : ∃ z : Int32, z = (gm 46 (z_2 : Int32).toNatClampNeg) := ⟨_, rfl⟩
  refine W.eq (g2 := F0 m 13 ls [.int z_3]) (by rw [ez_3]) ?_
  have hz_3 : iv 0 65535 z_3 := iv_of ez_3 (CI_n hI 46 (show _ < crLen 46 from vin_lt (show vp_in z_2 1200 from (vp_in_iff.mpr ⟨by have := i32_0; have := i32_1; have := i32_2; have := i32_m1; have := (show iv 0 240 (sg 5) from CI_s hI 5).1; have := (show iv 0 240 (sg 5) from CI_s hI 5).2; have := (hvx).1; have := (hvx).2; have := (hva).1; have := (hva).2; have := (hvi).1; have := (hvi).2; have := (hz_1).1; have := (hz_1).2; have := (hz_2).1; have := (hz_2).2; omega, by have := i32_0; have := i32_1; have := i32_2; have := i32_m1; have := (show iv 0 240 (sg 5) from CI_s hI 5).1; have := (show iv 0 240 (sg 5) from CI_s hI 5).2; have := (hvx).1; have := (hvx).2; have := (hva).1; have := (hva).2; have := (hvi).1; have := (hvi).2; have := (hz_1).1; have := (hz_1).2; have := (hz_2).1; have := (hz_2).2; omega⟩))))
  exact W.nb (fun hN => W.widen (k := 1) (n := 6) (by decide) (by decide) (vx_ret (W.zret (v := z_3) hx hb hr (iv_ncr hz_3) (fun t ht hW => ⟨⟨some (.int z_3), (sg, gm, lg), rfl, ⟨z_3, rfl, rfl, hz_3, (by rw [ez_3, cl_add hz_1 hvi (by decide) (by decide) tz_2, ez_1])⟩, by rw [ht]; exact hP, va_K.moved hW.alike hK, hD⟩, hS.F ht, by rw [ht]; exact hN⟩) hS.2.2 dX6_valueChar_13)))

set_option maxHeartbeats 4000000 in
set_option maxRecDepth 100000 in
theorem d_letterValue (l : Launch) (dC : Nat → ClassId) (dI : Nat → Nat → Nat) (ad : Nat → Nat → Nat) (cid : Nat → ClassId) (a2 : Nat → Nat) (lx : List Nat) (sg : Nat → Int32) (gm : Nat → Nat → Int32) (lg : Nat → Nat → Int64) (x : Int32) (o : Int32) (w : Int32) (hI : CI sg gm) (hvx : iv 0 0 x) (hvo : iv 0 79 o) (hvw : iv 0 33 w) (hFA : FA sg gm) (how : o.toInt < (sg 4).toInt) (hVS : VS sg gm) : CMt dC dI ad cid a2 lx l yX6_letterValue wm_X6_letterValue ({ frames := 1, cells := 1, slots := 6, locals := 23 }) [eV (ad 1) x, eV (ad 9) o, eV (ad 33) w] sg gm lg (fun v u => ∃ r : Int32, v = some (.int r) ∧ u = (sg, gm, lg) ∧ (iv (-1) 25 r) ∧ (r.toInt = -1 ∨ LVP gm lg o.toNatClampNeg (wKy.getD w.toNatClampNeg 0)) ∧ (LVP gm lg o.toNatClampNeg (wKy.getD w.toNatClampNeg 0) → 0 ≤ r.toInt)) (fun _ _ => False) := by
  intro sz
  refine vx_ofW (cc := cX6_letterValue) (maxL := 5) (ret := (some .int)) (by decide) rfl ?_
  intro p e s m args below meth c s₁ B hml hxt hv
  obtain ⟨rfl, hsz, hP, hK, hD0, hG⟩ := hv
  have hx := B.exec
  have hb := B.bytes
  have hr := B.returns
  have hts := atoms_spec (ws := wm_X6_letterValue) B.pre
  have htb := fun (w : Cond) (h : w ∈ tb) => hts w (List.mem_cons_of_mem _ h)
  have hown : s.vm.findClass RX6 = some m.cls := findClass_of_methodNamed B.named
  have hlocks := B.notSynchronized
  subst hsz
  have hD := hD0.self (sz := s.heap.size)
  generalize hAe : va_A (cW ad cid a2 lx sg gm lg) s.heap.size = A at hD hG ⊢
  have hA : ∀ q : Nat, s.heap.size ≤ q → A q := fun q h => by rw [← hAe]; exact Or.inr h
  have hS : va_S A s.heap s.heap [] := va_S.rf
  have hl := lv_entry ([eV (ad 1) x, eV (ad 9) o, eV (ad 33) w]) (n := 5) (by rw [show (lg_sl ([eV (ad 1) x, eV (ad 9) o, eV (ad 33) w])).length = 3 from by simp [lg_sl, eV_cat, cat_i, cat_l]]; exact Nat.le_of_ble_eq_true rfl)
  rw [lg_entry_eq]
  generalize (lg_sl ([eV (ad 1) x, eV (ad 9) o, eV (ad 33) w]) ++ List.replicate (5 - (lg_sl ([eV (ad 1) x, eV (ad 9) o, eV (ad 33) w])).length) Slot.unset).toArray = ls at hl ⊢
  have hl : lv_has ls 5 [(0, eV (ad 1) x), (1, eV (ad 9) o), (2, eV (ad 33) w)] := by simp [lv_args, eV_cat, cat_i, cat_l] at hl; exact hl
  have hj49 : ∀ (x4_49 : Int32) (x3_49 : Int32) (y0_49 : Int32) (_ : iv 0 65535 x4_49) (_ : iv 0 239 x3_49) (_ : iv 0 0 x) (_ : iv 0 79 o) (_ : iv 0 33 w) (_ : iv (-1) 25 y0_49) (_ : y0_49.toInt = -1 ∨ LVP gm lg o.toNatClampNeg (wKy.getD w.toNatClampNeg 0)) (_ : LVP gm lg o.toNatClampNeg (wKy.getD w.toNatClampNeg 0) → 0 ≤ y0_49.toInt) (H : Heap) (locs : List Loc) (ls : Array Slot), va_P (dC, dI) vwCl (cW ad cid a2 lx sg gm lg) H → va_D A (cW ad cid a2 lx sg gm lg) → va_S A s.heap H locs → lv_has ls 5 [(4, .int x4_49), (3, .int x3_49), (0, eV (ad 1) x), (1, eV (ad 9) o), (2, eV (ad 33) w)] → W p l e (headSpec wm_X6_letterValue ({ frames := 1, cells := 1, slots := 6, locals := 23 })).room s m ([eV (ad 1) x, eV (ad 9) o, eV (ad 33) w] : List Value).toArray below meth c H locs 0 0 (vx_MQ below (cQx dC dI ad cid a2 lx (fun v u => ∃ r : Int32, v = some (.int r) ∧ u = (sg, gm, lg) ∧ (iv (-1) 25 r) ∧ (r.toInt = -1 ∨ LVP gm lg o.toNatClampNeg (wKy.getD w.toNatClampNeg 0)) ∧ (LVP gm lg o.toNatClampNeg (wKy.getD w.toNatClampNeg 0) → 0 ≤ r.toInt)) A) (cX dC dI ad cid a2 lx (fun _ _ => False) A) ([eV (ad 1) x, eV (ad 9) o, eV (ad 33) w] : List Value).toArray s 1 6 A) (F0 m 49 ls [.int y0_49]) := by
    intro x4_49 x3_49 y0_49 hx4_49 hx3_49 hsx0_49 hsx1_49 hsx2_49 hy0_49 hP9 hQ9 H locs ls hP hD hS hl
    exact W.nb (fun hN => W.widen (k := 1) (n := 6) (by decide) (by decide) (vx_ret (W.iret (v := y0_49) hx hb hr (fun t ht hW => ⟨⟨some (.int y0_49), (sg, gm, lg), rfl, ⟨y0_49, rfl, rfl, hy0_49, (hP9), (hQ9)⟩, by rw [ht]; exact hP, va_K.moved hW.alike hK, hD⟩, hS.F ht, by rw [ht]; exact hN⟩) hS.2.2 dX6_letterValue_49)))
  have hj48 : ∀ (x4_48 : Int32) (x3_48 : Int32) (_ : iv 0 65535 x4_48) (_ : iv 0 239 x3_48) (_ : iv 0 0 x) (_ : iv 0 79 o) (_ : iv 0 33 w) (_ : ¬ LVP gm lg o.toNatClampNeg (wKy.getD w.toNatClampNeg 0)) (H : Heap) (locs : List Loc) (ls : Array Slot), va_P (dC, dI) vwCl (cW ad cid a2 lx sg gm lg) H → va_D A (cW ad cid a2 lx sg gm lg) → va_S A s.heap H locs → lv_has ls 5 [(4, .int x4_48), (3, .int x3_48), (0, eV (ad 1) x), (1, eV (ad 9) o), (2, eV (ad 33) w)] → W p l e (headSpec wm_X6_letterValue ({ frames := 1, cells := 1, slots := 6, locals := 23 })).room s m ([eV (ad 1) x, eV (ad 9) o, eV (ad 33) w] : List Value).toArray below meth c H locs 0 0 (vx_MQ below (cQx dC dI ad cid a2 lx (fun v u => ∃ r : Int32, v = some (.int r) ∧ u = (sg, gm, lg) ∧ (iv (-1) 25 r) ∧ (r.toInt = -1 ∨ LVP gm lg o.toNatClampNeg (wKy.getD w.toNatClampNeg 0)) ∧ (LVP gm lg o.toNatClampNeg (wKy.getD w.toNatClampNeg 0) → 0 ≤ r.toInt)) A) (cX dC dI ad cid a2 lx (fun _ _ => False) A) ([eV (ad 1) x, eV (ad 9) o, eV (ad 33) w] : List Value).toArray s 1 6 A) (F0 m 48 ls []) := by
    intro x4_48 x3_48 hx4_48 hx3_48 hsx0_48 hsx1_48 hsx2_48 hN48 H locs ls hP hD hS hl
    refine lv_iconst (v := (-1)) hx hb dX6_letterValue_48 (by decide) ?_
    exact hj49 x4_48 x3_48 (-1) hx4_48 hx3_48 hsx0_48 hsx1_48 hsx2_48 (iv_w (iv_k (by decide) : iv (-1) (-1) (-1)) (by decide)) (Or.inl rfl) (fun q9 => absurd q9 hN48) _ _ _ hP hD hS (lv_sub hl [0, 1, 2, 3, 4] rfl)
  refine ec_aload_n hx hb dX6_letterValue_0 rfl (lv_at hl 0 rfl) ?_
  refine ec_aload_n hx hb dX6_letterValue_1 rfl (lv_at hl 1 rfl) ?_
  refine ec_aload_n hx hb dX6_letterValue_2 rfl (lv_at hl 2 rfl) ?_
  refine cm_callV (t := 1) (C := RX6) (T := TX6) (N := 8) (rest := []) (as := [eV (ad 9) o, eV (ad 33) w]) ⟨hx, hb, hml, hown, htb⟩ (d_find l dC dI ad cid a2 lx sg gm lg x o w hI hvx hvo hvw hFA how) (cwV 2 htb (gd_V kw_545 kw_546 kw_547 kw_20 kw_1467) rfl rfl rfl (by decide +kernel) ⟨Nat.le_of_ble_eq_true rfl, Nat.le_of_ble_eq_true rfl⟩) hvx (by decide) (by decide) rfl rfl hl.1 rfl (Nat.le_trans cs_n (by decide)) dX6_letterValue_3 ⟨Nat.le_of_ble_eq_true rfl, Nat.le_of_ble_eq_true rfl⟩ hK hP hD hS hA hG (fun E ce q9 u_2 H locs hw hP hD hS hce hcv hcl => ?_) (fun v9 u_2 H locs hw hP hD hS => ?_)
  · exact hw.elim
  obtain ⟨r_1, rfl, rfl, hr_1, fF_r_1, fLt_r_1⟩ := hw
  have hP : va_P (dC, dI) vwCl (cW ad cid a2 lx sg gm lg) H := hP
  have hD : va_D A (cW ad cid a2 lx sg gm lg) := hD
  refine W.eq (g2 := F0 m 6 ls [.int r_1]) rfl ?_
  refine lv_istore_n (i := 3) (lv' := [(3, .int r_1), (0, eV (ad 1) x), (1, eV (ad 9) o), (2, eV (ad 33) w)]) hx hb dX6_letterValue_6 rfl hl (by decide) (by simp [List.filter, eV_cat, cat_i, cat_l]) (fun ls hl => ?_)
  refine ec_aload_n hx hb dX6_letterValue_7 rfl (lv_at hl 1 rfl) ?_
  refine lv_iload_n hx hb dX6_letterValue_8 rfl (lv_at hl 0 rfl) ?_
  refine cm_callV (t := 1) (C := RX6) (T := TX6) (N := 8) (rest := []) (as := [.int r_1]) ⟨hx, hb, hml, hown, htb⟩ (d_valueLength l dC dI ad cid a2 lx sg gm lg x r_1 hI hvx hr_1) (cwV 1 htb (gd_V kw_549 kw_550 kw_551 kw_20 kw_1468) rfl rfl rfl (by decide +kernel) ⟨Nat.le_of_ble_eq_true rfl, Nat.le_of_ble_eq_true rfl⟩) hvx (by decide) (by decide) rfl rfl hl.1 rfl (Nat.le_trans cs_n (by decide)) dX6_letterValue_9 ⟨Nat.le_of_ble_eq_true rfl, Nat.le_of_ble_eq_true rfl⟩ hK hP hD hS hA hG (fun E ce q9 u_5 H locs hw hP hD hS hce hcv hcl => ?_) (fun v9 u_5 H locs hw hP hD hS => ?_)
  · exact hw.elim
  obtain ⟨r_4, rfl, rfl, hr_4, fV_r_4⟩ := hw
  have hP : va_P (dC, dI) vwCl (cW ad cid a2 lx sg gm lg) H := hP
  have hD : va_D A (cW ad cid a2 lx sg gm lg) := hD
  refine W.eq (g2 := F0 m 12 ls [.int r_4]) rfl ?_
  refine lv_iconst (v := 1) hx hb dX6_letterValue_12 (by decide) ?_
  refine lv_icmp_eq (tgt := 18) hx hb dX6_letterValue_13 (by decide) (fun c_7 => ?_) (fun c_7 => ?_)
  · have h_8 : iv 1 1 r_4 := iv_eq c_7 hr_4 (iv_k (by decide) : iv 1 1 1) (by decide)
    obtain ⟨h9z, h9e⟩ : 0 ≤ r_1.toInt ∧ r_4 = gm 45 r_1.toNatClampNeg := fV_r_4.resolve_left (fun q9 => by have := q9.2; have := i32_0; have := i32_1; have := i32_2; have := i32_m1; have := (hvx).1; have := (hvx).2; have := (hvo).1; have := (hvo).2; have := (hvw).1; have := (hvw).2; have := (hr_1).1; have := (hr_1).2; have := (h_8).1; have := (h_8).2; omega)
    have h9p : iv 0 239 r_1 := ⟨h9z, (hr_1).2⟩
    refine ec_aload_n hx hb dX6_letterValue_18 rfl (lv_at hl 1 rfl) ?_
    refine lv_iload_n hx hb dX6_letterValue_19 rfl (lv_at hl 0 rfl) ?_
    refine lv_iconst (v := 0) hx hb dX6_letterValue_20 (by decide) ?_
    refine cm_callV (t := 1) (C := RX6) (T := TX6) (N := 8) (rest := []) (as := [.int r_1, .int 0]) ⟨hx, hb, hml, hown, htb⟩ (d_valueChar l dC dI ad cid a2 lx sg gm lg x r_1 0 hI hvx h9p (iv_w (iv_k (by decide) : iv 0 0 0) (by decide)) hVS fLt_r_1 (by rw [← h9e]; have q8 : (0 : Int32).toInt = 0 := (by decide); have := i32_0; have := i32_1; have := i32_2; have := i32_m1; have := (hvx).1; have := (hvx).2; have := (hvo).1; have := (hvo).2; have := (hvw).1; have := (hvw).2; have := (h9p).1; have := (h9p).2; have := (h_8).1; have := (h_8).2; omega)) (cwV 2 htb (gd_V kw_552 kw_553 kw_554 kw_20 kw_1469) rfl rfl rfl (by decide +kernel) ⟨Nat.le_of_ble_eq_true rfl, Nat.le_of_ble_eq_true rfl⟩) hvx (by decide) (by decide) rfl rfl hl.1 rfl (Nat.le_trans cs_n (by decide)) dX6_letterValue_21 ⟨Nat.le_of_ble_eq_true rfl, Nat.le_of_ble_eq_true rfl⟩ hK hP hD hS hA hG (fun E ce q9 u_10 H locs hw hP hD hS hce hcv hcl => ?_) (fun v9 u_10 H locs hw hP hD hS => ?_)
    · exact hw.elim
    obtain ⟨r_9, rfl, rfl, hr_9, fC_r_9⟩ := hw
    have hP : va_P (dC, dI) vwCl (cW ad cid a2 lx sg gm lg) H := hP
    have hD : va_D A (cW ad cid a2 lx sg gm lg) := hD
    refine W.eq (g2 := F0 m 24 ls [.int r_9]) rfl ?_
    refine lv_istore (i := 4) (lv' := [(4, .int r_9), (3, .int r_1), (0, eV (ad 1) x), (1, eV (ad 9) o), (2, eV (ad 33) w)]) hx hb dX6_letterValue_24 hl (by decide) rfl (fun ls hl => ?_)
    refine lv_iload hx hb dX6_letterValue_26 (lv_at hl 0 rfl) ?_
    refine lv_bipush (v := 97) hx hb dX6_letterValue_28 (by decide) ?_
    refine lv_icmp_lt (tgt := 48) hx hb dX6_letterValue_30 (by decide) (fun c_12 => ?_) (fun c_12 => ?_)
    · have h_13 : iv 0 96 r_9 := iv_ltL c_12 hr_9 (iv_k (by decide) : iv 97 97 97) (by decide)
      exact hj48 r_9 r_1 (iv_w h_13 (by decide)) h9p hvx hvo hvw (fun q9 => by { obtain ⟨q1, q2⟩ := (LVP_2 fF_r_1 q9).2.2 _ fC_r_9; have := i32_0; have := i32_1; have := i32_2; have := i32_m1; have := (hvx).1; have := (hvx).2; have := (hvo).1; have := (hvo).2; have := (hvw).1; have := (hvw).2; have := (h9p).1; have := (h9p).2; have := (h_8).1; have := (h_8).2; have := (h_13).1; have := (h_13).2; omega }) _ _ _ hP hD hS (lv_sub hl [0, 1, 2, 3, 4] rfl)
    · have h_14 : iv 97 65535 r_9 := iv_leR (i32_ge c_12) (iv_k (by decide) : iv 97 97 97) hr_9 (by decide)
      refine lv_iload hx hb dX6_letterValue_33 (lv_at hl 0 rfl) ?_
      refine lv_bipush (v := 122) hx hb dX6_letterValue_35 (by decide) ?_
      refine lv_icmp_gt (tgt := 48) hx hb dX6_letterValue_37 (by decide) (fun c_15 => ?_) (fun c_15 => ?_)
      · have h_16 : iv 123 65535 r_9 := iv_ltR c_15 (iv_k (by decide) : iv 122 122 122) h_14 (by decide)
        exact hj48 r_9 r_1 (iv_w h_16 (by decide)) h9p hvx hvo hvw (fun q9 => by { obtain ⟨q1, q2⟩ := (LVP_2 fF_r_1 q9).2.2 _ fC_r_9; have := i32_0; have := i32_1; have := i32_2; have := i32_m1; have := (hvx).1; have := (hvx).2; have := (hvo).1; have := (hvo).2; have := (hvw).1; have := (hvw).2; have := (h9p).1; have := (h9p).2; have := (h_8).1; have := (h_8).2; have := (h_16).1; have := (h_16).2; omega }) _ _ _ hP hD hS (lv_sub hl [0, 1, 2, 3, 4] rfl)
      · have h_17 : iv 97 122 r_9 := iv_leL (i32_ge c_15) h_14 (iv_k (by decide) : iv 122 122 122) (by decide)
        refine lv_iload hx hb dX6_letterValue_40 (lv_at hl 0 rfl) ?_
        refine lv_bipush (v := 97) hx hb dX6_letterValue_42 (by decide) ?_
        refine lv_isub hx hb dX6_letterValue_44 ?_
        refine lv_topi (fun z_18 ez_18 => ?_)
        have hz_18 : iv 0 25 z_18 := iv_of ez_18 (iv_sub h_17 (iv_k (by decide) : iv 97 97 97) (by decide))
        have tz_18 : z_18.toInt = (r_9 : Int32).toInt - 97 := by rw [ez_18]; exact iv_subE h_17 (iv_k (by decide) : iv 97 97 97) (by decide)
        refine lv_goto (tgt := 49) hx hb dX6_letterValue_45 (by decide) ?_
        exact hj49 r_9 r_1 z_18 (iv_w h_17 (by decide)) h9p hvx hvo hvw (iv_w hz_18 (by decide)) (Or.inr (LVP_1 fF_r_1 h9z (by rw [← h9e]; have := i32_0; have := i32_1; have := i32_2; have := i32_m1; have := (hvx).1; have := (hvx).2; have := (hvo).1; have := (hvo).2; have := (hvw).1; have := (hvw).2; have := (h9p).1; have := (h9p).2; have := (h_8).1; have := (h_8).2; have := (h_17).1; have := (h_17).2; have := (hz_18).1; have := (hz_18).2; omega) fC_r_9 (by have := i32_0; have := i32_1; have := i32_2; have := i32_m1; have := (hvx).1; have := (hvx).2; have := (hvo).1; have := (hvo).2; have := (hvw).1; have := (hvw).2; have := (h9p).1; have := (h9p).2; have := (h_8).1; have := (h_8).2; have := (h_17).1; have := (h_17).2; have := (hz_18).1; have := (hz_18).2; omega) (by have := i32_0; have := i32_1; have := i32_2; have := i32_m1; have := (hvx).1; have := (hvx).2; have := (hvo).1; have := (hvo).2; have := (hvw).1; have := (hvw).2; have := (h9p).1; have := (h9p).2; have := (h_8).1; have := (h_8).2; have := (h_17).1; have := (h_17).2; have := (hz_18).1; have := (hz_18).2; omega))) (fun _ => by have := i32_0; have := i32_1; have := i32_2; have := i32_m1; have := (hvx).1; have := (hvx).2; have := (hvo).1; have := (hvo).2; have := (hvw).1; have := (hvw).2; have := (h9p).1; have := (h9p).2; have := (h_8).1; have := (h_8).2; have := (h_17).1; have := (h_17).2; have := (hz_18).1; have := (hz_18).2; omega) _ _ _ hP hD hS (lv_sub hl [0, 1, 2, 3, 4] rfl)
  · have d_19 : ¬ (r_4 : Int32).toInt = 1 := lv_neT c_7 rfl
    refine lv_iconst (v := (-1)) hx hb dX6_letterValue_16 (by decide) ?_
    exact W.nb (fun hN => W.widen (k := 1) (n := 6) (by decide) (by decide) (vx_ret (W.iret (v := (-1)) hx hb hr (fun t ht hW => ⟨⟨some (.int (-1)), (sg, gm, lg), rfl, ⟨(-1), rfl, rfl, (iv_w (iv_k (by decide) : iv (-1) (-1) (-1)) (by decide)), (Or.inl rfl), (fun q9 => absurd (LVP_2 fF_r_1 q9).2.1 (fun q8 => by { rcases fV_r_4 with ⟨q1, q2⟩ | ⟨q1, q2⟩; (have := (LVP_2 fF_r_1 q9).1; omega); (rw [← q2] at q8; exact c_7 (Int32.toInt_inj.mp q8)) }))⟩, by rw [ht]; exact hP, va_K.moved hW.alike hK, hD⟩, hS.F ht, by rw [ht]; exact hN⟩) hS.2.2 dX6_letterValue_17)))

set_option maxHeartbeats 4000000 in
set_option maxRecDepth 100000 in
theorem d_placeValue (l : Launch) (dC : Nat → ClassId) (dI : Nat → Nat → Nat) (ad : Nat → Nat → Nat) (cid : Nat → ClassId) (a2 : Nat → Nat) (lx : List Nat) (sg : Nat → Int32) (gm : Nat → Nat → Int32) (lg : Nat → Nat → Int64) (x : Int32) (o : Int32) (w : Int32) (hI : CI sg gm) (hvx : iv 0 0 x) (hvo : iv 0 79 o) (hvw : iv 0 33 w) (hFA : FA sg gm) (how : o.toInt < (sg 4).toInt) (hVS : VS sg gm) : CMt dC dI ad cid a2 lx l yX6_placeValue wm_X6_placeValue ({ frames := 1, cells := 1, slots := 6, locals := 23 }) [eV (ad 1) x, eV (ad 9) o, eV (ad 33) w] sg gm lg (fun v u => ∃ r : Int32, v = some (.int r) ∧ u = (sg, gm, lg) ∧ (iv (-1) 2 r)) (fun _ _ => False) := by
  intro sz
  refine vx_ofW (cc := cX6_placeValue) (maxL := 5) (ret := (some .int)) (by decide) rfl ?_
  intro p e s m args below meth c s₁ B hml hxt hv
  obtain ⟨rfl, hsz, hP, hK, hD0, hG⟩ := hv
  have hx := B.exec
  have hb := B.bytes
  have hr := B.returns
  have hts := atoms_spec (ws := wm_X6_placeValue) B.pre
  have htb := fun (w : Cond) (h : w ∈ tb) => hts w (List.mem_cons_of_mem _ h)
  have hown : s.vm.findClass RX6 = some m.cls := findClass_of_methodNamed B.named
  have hlocks := B.notSynchronized
  subst hsz
  have hD := hD0.self (sz := s.heap.size)
  generalize hAe : va_A (cW ad cid a2 lx sg gm lg) s.heap.size = A at hD hG ⊢
  have hA : ∀ q : Nat, s.heap.size ≤ q → A q := fun q h => by rw [← hAe]; exact Or.inr h
  have hS : va_S A s.heap s.heap [] := va_S.rf
  have hl := lv_entry ([eV (ad 1) x, eV (ad 9) o, eV (ad 33) w]) (n := 5) (by rw [show (lg_sl ([eV (ad 1) x, eV (ad 9) o, eV (ad 33) w])).length = 3 from by simp [lg_sl, eV_cat, cat_i, cat_l]]; exact Nat.le_of_ble_eq_true rfl)
  rw [lg_entry_eq]
  generalize (lg_sl ([eV (ad 1) x, eV (ad 9) o, eV (ad 33) w]) ++ List.replicate (5 - (lg_sl ([eV (ad 1) x, eV (ad 9) o, eV (ad 33) w])).length) Slot.unset).toArray = ls at hl ⊢
  have hl : lv_has ls 5 [(0, eV (ad 1) x), (1, eV (ad 9) o), (2, eV (ad 33) w)] := by simp [lv_args, eV_cat, cat_i, cat_l] at hl; exact hl
  have hj49 : ∀ (x4_49 : Int32) (x3_49 : Int32) (y0_49 : Int32) (_ : iv 0 65535 x4_49) (_ : iv 0 239 x3_49) (_ : iv 0 0 x) (_ : iv 0 79 o) (_ : iv 0 33 w) (_ : iv (-1) 2 y0_49) (H : Heap) (locs : List Loc) (ls : Array Slot), va_P (dC, dI) vwCl (cW ad cid a2 lx sg gm lg) H → va_D A (cW ad cid a2 lx sg gm lg) → va_S A s.heap H locs → lv_has ls 5 [(4, .int x4_49), (3, .int x3_49), (0, eV (ad 1) x), (1, eV (ad 9) o), (2, eV (ad 33) w)] → W p l e (headSpec wm_X6_placeValue ({ frames := 1, cells := 1, slots := 6, locals := 23 })).room s m ([eV (ad 1) x, eV (ad 9) o, eV (ad 33) w] : List Value).toArray below meth c H locs 0 0 (vx_MQ below (cQx dC dI ad cid a2 lx (fun v u => ∃ r : Int32, v = some (.int r) ∧ u = (sg, gm, lg) ∧ (iv (-1) 2 r)) A) (cX dC dI ad cid a2 lx (fun _ _ => False) A) ([eV (ad 1) x, eV (ad 9) o, eV (ad 33) w] : List Value).toArray s 1 6 A) (F0 m 49 ls [.int y0_49]) := by
    intro x4_49 x3_49 y0_49 hx4_49 hx3_49 hsx0_49 hsx1_49 hsx2_49 hy0_49 H locs ls hP hD hS hl
    exact W.nb (fun hN => W.widen (k := 1) (n := 6) (by decide) (by decide) (vx_ret (W.iret (v := y0_49) hx hb hr (fun t ht hW => ⟨⟨some (.int y0_49), (sg, gm, lg), rfl, ⟨y0_49, rfl, rfl, hy0_49⟩, by rw [ht]; exact hP, va_K.moved hW.alike hK, hD⟩, hS.F ht, by rw [ht]; exact hN⟩) hS.2.2 dX6_placeValue_49)))
  have hj48 : ∀ (x4_48 : Int32) (x3_48 : Int32) (_ : iv 0 65535 x4_48) (_ : iv 0 239 x3_48) (_ : iv 0 0 x) (_ : iv 0 79 o) (_ : iv 0 33 w) (H : Heap) (locs : List Loc) (ls : Array Slot), va_P (dC, dI) vwCl (cW ad cid a2 lx sg gm lg) H → va_D A (cW ad cid a2 lx sg gm lg) → va_S A s.heap H locs → lv_has ls 5 [(4, .int x4_48), (3, .int x3_48), (0, eV (ad 1) x), (1, eV (ad 9) o), (2, eV (ad 33) w)] → W p l e (headSpec wm_X6_placeValue ({ frames := 1, cells := 1, slots := 6, locals := 23 })).room s m ([eV (ad 1) x, eV (ad 9) o, eV (ad 33) w] : List Value).toArray below meth c H locs 0 0 (vx_MQ below (cQx dC dI ad cid a2 lx (fun v u => ∃ r : Int32, v = some (.int r) ∧ u = (sg, gm, lg) ∧ (iv (-1) 2 r)) A) (cX dC dI ad cid a2 lx (fun _ _ => False) A) ([eV (ad 1) x, eV (ad 9) o, eV (ad 33) w] : List Value).toArray s 1 6 A) (F0 m 48 ls []) := by
    intro x4_48 x3_48 hx4_48 hx3_48 hsx0_48 hsx1_48 hsx2_48 H locs ls hP hD hS hl
    refine lv_iconst (v := (-1)) hx hb dX6_placeValue_48 (by decide) ?_
    exact hj49 x4_48 x3_48 (-1) hx4_48 hx3_48 hsx0_48 hsx1_48 hsx2_48 (iv_w (iv_k (by decide) : iv (-1) (-1) (-1)) (by decide)) _ _ _ hP hD hS (lv_sub hl [0, 1, 2, 3, 4] rfl)
  refine ec_aload_n hx hb dX6_placeValue_0 rfl (lv_at hl 0 rfl) ?_
  refine ec_aload_n hx hb dX6_placeValue_1 rfl (lv_at hl 1 rfl) ?_
  refine ec_aload_n hx hb dX6_placeValue_2 rfl (lv_at hl 2 rfl) ?_
  refine cm_callV (t := 1) (C := RX6) (T := TX6) (N := 8) (rest := []) (as := [eV (ad 9) o, eV (ad 33) w]) ⟨hx, hb, hml, hown, htb⟩ (d_find l dC dI ad cid a2 lx sg gm lg x o w hI hvx hvo hvw hFA how) (cwV 2 htb (gd_V kw_545 kw_546 kw_547 kw_20 kw_1467) rfl rfl rfl (by decide +kernel) ⟨Nat.le_of_ble_eq_true rfl, Nat.le_of_ble_eq_true rfl⟩) hvx (by decide) (by decide) rfl rfl hl.1 rfl (Nat.le_trans cs_n (by decide)) dX6_placeValue_3 ⟨Nat.le_of_ble_eq_true rfl, Nat.le_of_ble_eq_true rfl⟩ hK hP hD hS hA hG (fun E ce q9 u_2 H locs hw hP hD hS hce hcv hcl => ?_) (fun v9 u_2 H locs hw hP hD hS => ?_)
  · exact hw.elim
  obtain ⟨r_1, rfl, rfl, hr_1, fF_r_1, fLt_r_1⟩ := hw
  have hP : va_P (dC, dI) vwCl (cW ad cid a2 lx sg gm lg) H := hP
  have hD : va_D A (cW ad cid a2 lx sg gm lg) := hD
  refine W.eq (g2 := F0 m 6 ls [.int r_1]) rfl ?_
  refine lv_istore_n (i := 3) (lv' := [(3, .int r_1), (0, eV (ad 1) x), (1, eV (ad 9) o), (2, eV (ad 33) w)]) hx hb dX6_placeValue_6 rfl hl (by decide) (by simp [List.filter, eV_cat, cat_i, cat_l]) (fun ls hl => ?_)
  refine ec_aload_n hx hb dX6_placeValue_7 rfl (lv_at hl 1 rfl) ?_
  refine lv_iload_n hx hb dX6_placeValue_8 rfl (lv_at hl 0 rfl) ?_
  refine cm_callV (t := 1) (C := RX6) (T := TX6) (N := 8) (rest := []) (as := [.int r_1]) ⟨hx, hb, hml, hown, htb⟩ (d_valueLength l dC dI ad cid a2 lx sg gm lg x r_1 hI hvx hr_1) (cwV 1 htb (gd_V kw_549 kw_550 kw_551 kw_20 kw_1468) rfl rfl rfl (by decide +kernel) ⟨Nat.le_of_ble_eq_true rfl, Nat.le_of_ble_eq_true rfl⟩) hvx (by decide) (by decide) rfl rfl hl.1 rfl (Nat.le_trans cs_n (by decide)) dX6_placeValue_9 ⟨Nat.le_of_ble_eq_true rfl, Nat.le_of_ble_eq_true rfl⟩ hK hP hD hS hA hG (fun E ce q9 u_5 H locs hw hP hD hS hce hcv hcl => ?_) (fun v9 u_5 H locs hw hP hD hS => ?_)
  · exact hw.elim
  obtain ⟨r_4, rfl, rfl, hr_4, fV_r_4⟩ := hw
  have hP : va_P (dC, dI) vwCl (cW ad cid a2 lx sg gm lg) H := hP
  have hD : va_D A (cW ad cid a2 lx sg gm lg) := hD
  refine W.eq (g2 := F0 m 12 ls [.int r_4]) rfl ?_
  refine lv_iconst (v := 1) hx hb dX6_placeValue_12 (by decide) ?_
  refine lv_icmp_eq (tgt := 18) hx hb dX6_placeValue_13 (by decide) (fun c_7 => ?_) (fun c_7 => ?_)
  · have h_8 : iv 1 1 r_4 := iv_eq c_7 hr_4 (iv_k (by decide) : iv 1 1 1) (by decide)
    obtain ⟨h9z, h9e⟩ : 0 ≤ r_1.toInt ∧ r_4 = gm 45 r_1.toNatClampNeg := fV_r_4.resolve_left (fun q9 => by have := q9.2; have := i32_0; have := i32_1; have := i32_2; have := i32_m1; have := (hvx).1; have := (hvx).2; have := (hvo).1; have := (hvo).2; have := (hvw).1; have := (hvw).2; have := (hr_1).1; have := (hr_1).2; have := (h_8).1; have := (h_8).2; omega)
    have h9p : iv 0 239 r_1 := ⟨h9z, (hr_1).2⟩
    refine ec_aload_n hx hb dX6_placeValue_18 rfl (lv_at hl 1 rfl) ?_
    refine lv_iload_n hx hb dX6_placeValue_19 rfl (lv_at hl 0 rfl) ?_
    refine lv_iconst (v := 0) hx hb dX6_placeValue_20 (by decide) ?_
    refine cm_callV (t := 1) (C := RX6) (T := TX6) (N := 8) (rest := []) (as := [.int r_1, .int 0]) ⟨hx, hb, hml, hown, htb⟩ (d_valueChar l dC dI ad cid a2 lx sg gm lg x r_1 0 hI hvx h9p (iv_w (iv_k (by decide) : iv 0 0 0) (by decide)) hVS fLt_r_1 (by rw [← h9e]; have q8 : (0 : Int32).toInt = 0 := (by decide); have := i32_0; have := i32_1; have := i32_2; have := i32_m1; have := (hvx).1; have := (hvx).2; have := (hvo).1; have := (hvo).2; have := (hvw).1; have := (hvw).2; have := (h9p).1; have := (h9p).2; have := (h_8).1; have := (h_8).2; omega)) (cwV 2 htb (gd_V kw_552 kw_553 kw_554 kw_20 kw_1469) rfl rfl rfl (by decide +kernel) ⟨Nat.le_of_ble_eq_true rfl, Nat.le_of_ble_eq_true rfl⟩) hvx (by decide) (by decide) rfl rfl hl.1 rfl (Nat.le_trans cs_n (by decide)) dX6_placeValue_21 ⟨Nat.le_of_ble_eq_true rfl, Nat.le_of_ble_eq_true rfl⟩ hK hP hD hS hA hG (fun E ce q9 u_10 H locs hw hP hD hS hce hcv hcl => ?_) (fun v9 u_10 H locs hw hP hD hS => ?_)
    · exact hw.elim
    obtain ⟨r_9, rfl, rfl, hr_9, fC_r_9⟩ := hw
    have hP : va_P (dC, dI) vwCl (cW ad cid a2 lx sg gm lg) H := hP
    have hD : va_D A (cW ad cid a2 lx sg gm lg) := hD
    refine W.eq (g2 := F0 m 24 ls [.int r_9]) rfl ?_
    refine lv_istore (i := 4) (lv' := [(4, .int r_9), (3, .int r_1), (0, eV (ad 1) x), (1, eV (ad 9) o), (2, eV (ad 33) w)]) hx hb dX6_placeValue_24 hl (by decide) rfl (fun ls hl => ?_)
    refine lv_iload hx hb dX6_placeValue_26 (lv_at hl 0 rfl) ?_
    refine lv_bipush (v := 48) hx hb dX6_placeValue_28 (by decide) ?_
    refine lv_icmp_lt (tgt := 48) hx hb dX6_placeValue_30 (by decide) (fun c_12 => ?_) (fun c_12 => ?_)
    · have h_13 : iv 0 47 r_9 := iv_ltL c_12 hr_9 (iv_k (by decide) : iv 48 48 48) (by decide)
      exact hj48 r_9 r_1 (iv_w h_13 (by decide)) h9p hvx hvo hvw _ _ _ hP hD hS (lv_sub hl [0, 1, 2, 3, 4] rfl)
    · have h_14 : iv 48 65535 r_9 := iv_leR (i32_ge c_12) (iv_k (by decide) : iv 48 48 48) hr_9 (by decide)
      refine lv_iload hx hb dX6_placeValue_33 (lv_at hl 0 rfl) ?_
      refine lv_bipush (v := 51) hx hb dX6_placeValue_35 (by decide) ?_
      refine lv_icmp_ge (tgt := 48) hx hb dX6_placeValue_37 (by decide) (fun c_15 => ?_) (fun c_15 => ?_)
      · have h_16 : iv 51 65535 r_9 := iv_leR c_15 (iv_k (by decide) : iv 51 51 51) h_14 (by decide)
        exact hj48 r_9 r_1 (iv_w h_16 (by decide)) h9p hvx hvo hvw _ _ _ hP hD hS (lv_sub hl [0, 1, 2, 3, 4] rfl)
      · have h_17 : iv 48 50 r_9 := iv_ltL (i32_lt c_15) h_14 (iv_k (by decide) : iv 51 51 51) (by decide)
        refine lv_iload hx hb dX6_placeValue_40 (lv_at hl 0 rfl) ?_
        refine lv_bipush (v := 48) hx hb dX6_placeValue_42 (by decide) ?_
        refine lv_isub hx hb dX6_placeValue_44 ?_
        refine lv_topi (fun z_18 ez_18 => ?_)
        have hz_18 : iv 0 2 z_18 := iv_of ez_18 (iv_sub h_17 (iv_k (by decide) : iv 48 48 48) (by decide))
        have tz_18 : z_18.toInt = (r_9 : Int32).toInt - 48 := by rw [ez_18]; exact iv_subE h_17 (iv_k (by decide) : iv 48 48 48) (by decide)
        refine lv_goto (tgt := 49) hx hb dX6_placeValue_45 (by decide) ?_
        exact hj49 r_9 r_1 z_18 (iv_w h_17 (by decide)) h9p hvx hvo hvw (iv_w hz_18 (by decide)) _ _ _ hP hD hS (lv_sub hl [0, 1, 2, 3, 4] rfl)
  · have d_19 : ¬ (r_4 : Int32).toInt = 1 := lv_neT c_7 rfl
    refine lv_iconst (v := (-1)) hx hb dX6_placeValue_16 (by decide) ?_
    exact W.nb (fun hN => W.widen (k := 1) (n := 6) (by decide) (by decide) (vx_ret (W.iret (v := (-1)) hx hb hr (fun t ht hW => ⟨⟨some (.int (-1)), (sg, gm, lg), rfl, ⟨(-1), rfl, rfl, (iv_w (iv_k (by decide) : iv (-1) (-1) (-1)) (by decide))⟩, by rw [ht]; exact hP, va_K.moved hW.alike hK, hD⟩, hS.F ht, by rw [ht]; exact hN⟩) hS.2.2 dX6_placeValue_17)))

set_option maxHeartbeats 4000000 in
set_option maxRecDepth 100000 in
theorem d_classValue (l : Launch) (dC : Nat → ClassId) (dI : Nat → Nat → Nat) (ad : Nat → Nat → Nat) (cid : Nat → ClassId) (a2 : Nat → Nat) (lx : List Nat) (sg : Nat → Int32) (gm : Nat → Nat → Int32) (lg : Nat → Nat → Int64) (x : Int32) (o : Int32) (w : Int32) (hI : CI sg gm) (hvx : iv 0 0 x) (hvo : iv 0 79 o) (hvw : iv 0 33 w) (hFA : FA sg gm) (how : o.toInt < (sg 4).toInt) (hVS : VS sg gm) : CMt dC dI ad cid a2 lx l yX6_classValue wm_X6_classValue ({ frames := 1, cells := 1, slots := 6, locals := 23 }) [eV (ad 1) x, eV (ad 9) o, eV (ad 33) w] sg gm lg (fun v u => ∃ r : Int32, v = some (.int r) ∧ u = (sg, gm, lg) ∧ (iv (-1) 7 r)) (fun _ _ => False) := by
  intro sz
  refine vx_ofW (cc := cX6_classValue) (maxL := 5) (ret := (some .int)) (by decide) rfl ?_
  intro p e s m args below meth c s₁ B hml hxt hv
  obtain ⟨rfl, hsz, hP, hK, hD0, hG⟩ := hv
  have hx := B.exec
  have hb := B.bytes
  have hr := B.returns
  have hts := atoms_spec (ws := wm_X6_classValue) B.pre
  have htb := fun (w : Cond) (h : w ∈ tb) => hts w (List.mem_cons_of_mem _ h)
  have hown : s.vm.findClass RX6 = some m.cls := findClass_of_methodNamed B.named
  have hlocks := B.notSynchronized
  subst hsz
  have hD := hD0.self (sz := s.heap.size)
  generalize hAe : va_A (cW ad cid a2 lx sg gm lg) s.heap.size = A at hD hG ⊢
  have hA : ∀ q : Nat, s.heap.size ≤ q → A q := fun q h => by rw [← hAe]; exact Or.inr h
  have hS : va_S A s.heap s.heap [] := va_S.rf
  have hl := lv_entry ([eV (ad 1) x, eV (ad 9) o, eV (ad 33) w]) (n := 5) (by rw [show (lg_sl ([eV (ad 1) x, eV (ad 9) o, eV (ad 33) w])).length = 3 from by simp [lg_sl, eV_cat, cat_i, cat_l]]; exact Nat.le_of_ble_eq_true rfl)
  rw [lg_entry_eq]
  generalize (lg_sl ([eV (ad 1) x, eV (ad 9) o, eV (ad 33) w]) ++ List.replicate (5 - (lg_sl ([eV (ad 1) x, eV (ad 9) o, eV (ad 33) w])).length) Slot.unset).toArray = ls at hl ⊢
  have hl : lv_has ls 5 [(0, eV (ad 1) x), (1, eV (ad 9) o), (2, eV (ad 33) w)] := by simp [lv_args, eV_cat, cat_i, cat_l] at hl; exact hl
  have hj27 : ∀ (x3_27 : Int32) (_ : iv (-1) 239 x3_27) (_ : iv 0 0 x) (_ : iv 0 79 o) (_ : iv 0 33 w) (H : Heap) (locs : List Loc) (ls : Array Slot), va_P (dC, dI) vwCl (cW ad cid a2 lx sg gm lg) H → va_D A (cW ad cid a2 lx sg gm lg) → va_S A s.heap H locs → lv_has ls 5 [(3, .int x3_27), (0, eV (ad 1) x), (1, eV (ad 9) o), (2, eV (ad 33) w)] → W p l e (headSpec wm_X6_classValue ({ frames := 1, cells := 1, slots := 6, locals := 23 })).room s m ([eV (ad 1) x, eV (ad 9) o, eV (ad 33) w] : List Value).toArray below meth c H locs 0 0 (vx_MQ below (cQx dC dI ad cid a2 lx (fun v u => ∃ r : Int32, v = some (.int r) ∧ u = (sg, gm, lg) ∧ (iv (-1) 7 r)) A) (cX dC dI ad cid a2 lx (fun _ _ => False) A) ([eV (ad 1) x, eV (ad 9) o, eV (ad 33) w] : List Value).toArray s 1 6 A) (F0 m 27 ls []) := by
    intro x3_27 hx3_27 hsx0_27 hsx1_27 hsx2_27 H locs ls hP hD hS hl
    refine lv_iconst (v := (-1)) hx hb dX6_classValue_27 (by decide) ?_
    exact W.nb (fun hN => W.widen (k := 1) (n := 6) (by decide) (by decide) (vx_ret (W.iret (v := (-1)) hx hb hr (fun t ht hW => ⟨⟨some (.int (-1)), (sg, gm, lg), rfl, ⟨(-1), rfl, rfl, (iv_w (iv_k (by decide) : iv (-1) (-1) (-1)) (by decide))⟩, by rw [ht]; exact hP, va_K.moved hW.alike hK, hD⟩, hS.F ht, by rw [ht]; exact hN⟩) hS.2.2 dX6_classValue_28)))
  have hj60 : ∀ (x4_60 : Int32) (x3_60 : Int32) (y0_60 : Int32) (_ : iv 0 65535 x4_60) (_ : iv 0 239 x3_60) (_ : iv 0 0 x) (_ : iv 0 79 o) (_ : iv 0 33 w) (_ : iv (-1) 7 y0_60) (H : Heap) (locs : List Loc) (ls : Array Slot), va_P (dC, dI) vwCl (cW ad cid a2 lx sg gm lg) H → va_D A (cW ad cid a2 lx sg gm lg) → va_S A s.heap H locs → lv_has ls 5 [(4, .int x4_60), (3, .int x3_60), (0, eV (ad 1) x), (1, eV (ad 9) o), (2, eV (ad 33) w)] → W p l e (headSpec wm_X6_classValue ({ frames := 1, cells := 1, slots := 6, locals := 23 })).room s m ([eV (ad 1) x, eV (ad 9) o, eV (ad 33) w] : List Value).toArray below meth c H locs 0 0 (vx_MQ below (cQx dC dI ad cid a2 lx (fun v u => ∃ r : Int32, v = some (.int r) ∧ u = (sg, gm, lg) ∧ (iv (-1) 7 r)) A) (cX dC dI ad cid a2 lx (fun _ _ => False) A) ([eV (ad 1) x, eV (ad 9) o, eV (ad 33) w] : List Value).toArray s 1 6 A) (F0 m 60 ls [.int y0_60]) := by
    intro x4_60 x3_60 y0_60 hx4_60 hx3_60 hsx0_60 hsx1_60 hsx2_60 hy0_60 H locs ls hP hD hS hl
    exact W.nb (fun hN => W.widen (k := 1) (n := 6) (by decide) (by decide) (vx_ret (W.iret (v := y0_60) hx hb hr (fun t ht hW => ⟨⟨some (.int y0_60), (sg, gm, lg), rfl, ⟨y0_60, rfl, rfl, hy0_60⟩, by rw [ht]; exact hP, va_K.moved hW.alike hK, hD⟩, hS.F ht, by rw [ht]; exact hN⟩) hS.2.2 dX6_classValue_60)))
  have hj59 : ∀ (x4_59 : Int32) (x3_59 : Int32) (_ : iv 0 65535 x4_59) (_ : iv 0 239 x3_59) (_ : iv 0 0 x) (_ : iv 0 79 o) (_ : iv 0 33 w) (H : Heap) (locs : List Loc) (ls : Array Slot), va_P (dC, dI) vwCl (cW ad cid a2 lx sg gm lg) H → va_D A (cW ad cid a2 lx sg gm lg) → va_S A s.heap H locs → lv_has ls 5 [(4, .int x4_59), (3, .int x3_59), (0, eV (ad 1) x), (1, eV (ad 9) o), (2, eV (ad 33) w)] → W p l e (headSpec wm_X6_classValue ({ frames := 1, cells := 1, slots := 6, locals := 23 })).room s m ([eV (ad 1) x, eV (ad 9) o, eV (ad 33) w] : List Value).toArray below meth c H locs 0 0 (vx_MQ below (cQx dC dI ad cid a2 lx (fun v u => ∃ r : Int32, v = some (.int r) ∧ u = (sg, gm, lg) ∧ (iv (-1) 7 r)) A) (cX dC dI ad cid a2 lx (fun _ _ => False) A) ([eV (ad 1) x, eV (ad 9) o, eV (ad 33) w] : List Value).toArray s 1 6 A) (F0 m 59 ls []) := by
    intro x4_59 x3_59 hx4_59 hx3_59 hsx0_59 hsx1_59 hsx2_59 H locs ls hP hD hS hl
    refine lv_iconst (v := (-1)) hx hb dX6_classValue_59 (by decide) ?_
    exact hj60 x4_59 x3_59 (-1) hx4_59 hx3_59 hsx0_59 hsx1_59 hsx2_59 (iv_w (iv_k (by decide) : iv (-1) (-1) (-1)) (by decide)) _ _ _ hP hD hS (lv_sub hl [0, 1, 2, 3, 4] rfl)
  refine ec_aload_n hx hb dX6_classValue_0 rfl (lv_at hl 0 rfl) ?_
  refine ec_aload_n hx hb dX6_classValue_1 rfl (lv_at hl 1 rfl) ?_
  refine ec_aload_n hx hb dX6_classValue_2 rfl (lv_at hl 2 rfl) ?_
  refine cm_callV (t := 1) (C := RX6) (T := TX6) (N := 8) (rest := []) (as := [eV (ad 9) o, eV (ad 33) w]) ⟨hx, hb, hml, hown, htb⟩ (d_find l dC dI ad cid a2 lx sg gm lg x o w hI hvx hvo hvw hFA how) (cwV 2 htb (gd_V kw_545 kw_546 kw_547 kw_20 kw_1467) rfl rfl rfl (by decide +kernel) ⟨Nat.le_of_ble_eq_true rfl, Nat.le_of_ble_eq_true rfl⟩) hvx (by decide) (by decide) rfl rfl hl.1 rfl (Nat.le_trans cs_n (by decide)) dX6_classValue_3 ⟨Nat.le_of_ble_eq_true rfl, Nat.le_of_ble_eq_true rfl⟩ hK hP hD hS hA hG (fun E ce q9 u_2 H locs hw hP hD hS hce hcv hcl => ?_) (fun v9 u_2 H locs hw hP hD hS => ?_)
  · exact hw.elim
  obtain ⟨r_1, rfl, rfl, hr_1, fF_r_1, fLt_r_1⟩ := hw
  have hP : va_P (dC, dI) vwCl (cW ad cid a2 lx sg gm lg) H := hP
  have hD : va_D A (cW ad cid a2 lx sg gm lg) := hD
  refine W.eq (g2 := F0 m 6 ls [.int r_1]) rfl ?_
  refine lv_istore_n (i := 3) (lv' := [(3, .int r_1), (0, eV (ad 1) x), (1, eV (ad 9) o), (2, eV (ad 33) w)]) hx hb dX6_classValue_6 rfl hl (by decide) (by simp [List.filter, eV_cat, cat_i, cat_l]) (fun ls hl => ?_)
  refine ec_aload_n hx hb dX6_classValue_7 rfl (lv_at hl 1 rfl) ?_
  refine lv_iload_n hx hb dX6_classValue_8 rfl (lv_at hl 0 rfl) ?_
  refine cm_callV (t := 1) (C := RX6) (T := TX6) (N := 8) (rest := []) (as := [.int r_1]) ⟨hx, hb, hml, hown, htb⟩ (d_valueLength l dC dI ad cid a2 lx sg gm lg x r_1 hI hvx hr_1) (cwV 1 htb (gd_V kw_549 kw_550 kw_551 kw_20 kw_1468) rfl rfl rfl (by decide +kernel) ⟨Nat.le_of_ble_eq_true rfl, Nat.le_of_ble_eq_true rfl⟩) hvx (by decide) (by decide) rfl rfl hl.1 rfl (Nat.le_trans cs_n (by decide)) dX6_classValue_9 ⟨Nat.le_of_ble_eq_true rfl, Nat.le_of_ble_eq_true rfl⟩ hK hP hD hS hA hG (fun E ce q9 u_5 H locs hw hP hD hS hce hcv hcl => ?_) (fun v9 u_5 H locs hw hP hD hS => ?_)
  · exact hw.elim
  obtain ⟨r_4, rfl, rfl, hr_4, fV_r_4⟩ := hw
  have hP : va_P (dC, dI) vwCl (cW ad cid a2 lx sg gm lg) H := hP
  have hD : va_D A (cW ad cid a2 lx sg gm lg) := hD
  refine W.eq (g2 := F0 m 12 ls [.int r_4]) rfl ?_
  refine lv_iconst (v := 2) hx hb dX6_classValue_12 (by decide) ?_
  refine lv_icmp_ne (tgt := 27) hx hb dX6_classValue_13 (by decide) (fun c_7 => ?_) (fun c_7 => ?_)
  · have d_8 : ¬ (r_4 : Int32).toInt = 2 := lv_neT c_7 rfl
    exact hj27 r_1 hr_1 hvx hvo hvw _ _ _ hP hD hS (lv_sub hl [0, 1, 2, 3] rfl)
  · have h_9 : iv 2 2 r_4 := iv_eq c_7 hr_4 (iv_k (by decide) : iv 2 2 2) (by decide)
    obtain ⟨h9z, h9e⟩ : 0 ≤ r_1.toInt ∧ r_4 = gm 45 r_1.toNatClampNeg := fV_r_4.resolve_left (fun q9 => by have := q9.2; have := i32_0; have := i32_1; have := i32_2; have := i32_m1; have := (hvx).1; have := (hvx).2; have := (hvo).1; have := (hvo).2; have := (hvw).1; have := (hvw).2; have := (hr_1).1; have := (hr_1).2; have := (h_9).1; have := (h_9).2; omega)
    have h9p : iv 0 239 r_1 := ⟨h9z, (hr_1).2⟩
    refine ec_aload_n hx hb dX6_classValue_16 rfl (lv_at hl 1 rfl) ?_
    refine lv_iload_n hx hb dX6_classValue_17 rfl (lv_at hl 0 rfl) ?_
    refine lv_iconst (v := 0) hx hb dX6_classValue_18 (by decide) ?_
    refine cm_callV (t := 1) (C := RX6) (T := TX6) (N := 8) (rest := []) (as := [.int r_1, .int 0]) ⟨hx, hb, hml, hown, htb⟩ (d_valueChar l dC dI ad cid a2 lx sg gm lg x r_1 0 hI hvx h9p (iv_w (iv_k (by decide) : iv 0 0 0) (by decide)) hVS fLt_r_1 (by rw [← h9e]; have q8 : (0 : Int32).toInt = 0 := (by decide); have := i32_0; have := i32_1; have := i32_2; have := i32_m1; have := (hvx).1; have := (hvx).2; have := (hvo).1; have := (hvo).2; have := (hvw).1; have := (hvw).2; have := (h9p).1; have := (h9p).2; have := (h_9).1; have := (h_9).2; omega)) (cwV 2 htb (gd_V kw_552 kw_553 kw_554 kw_20 kw_1469) rfl rfl rfl (by decide +kernel) ⟨Nat.le_of_ble_eq_true rfl, Nat.le_of_ble_eq_true rfl⟩) hvx (by decide) (by decide) rfl rfl hl.1 rfl (Nat.le_trans cs_n (by decide)) dX6_classValue_19 ⟨Nat.le_of_ble_eq_true rfl, Nat.le_of_ble_eq_true rfl⟩ hK hP hD hS hA hG (fun E ce q9 u_11 H locs hw hP hD hS hce hcv hcl => ?_) (fun v9 u_11 H locs hw hP hD hS => ?_)
    · exact hw.elim
    obtain ⟨r_10, rfl, rfl, hr_10, fC_r_10⟩ := hw
    have hP : va_P (dC, dI) vwCl (cW ad cid a2 lx sg gm lg) H := hP
    have hD : va_D A (cW ad cid a2 lx sg gm lg) := hD
    refine W.eq (g2 := F0 m 22 ls [.int r_10]) rfl ?_
    refine lv_bipush (v := 75) hx hb dX6_classValue_22 (by decide) ?_
    refine lv_icmp_eq (tgt := 29) hx hb dX6_classValue_24 (by decide) (fun c_13 => ?_) (fun c_13 => ?_)
    · have h_14 : iv 75 75 r_10 := iv_eq c_13 hr_10 (iv_k (by decide) : iv 75 75 75) (by decide)
      refine ec_aload_n hx hb dX6_classValue_29 rfl (lv_at hl 1 rfl) ?_
      refine lv_iload_n hx hb dX6_classValue_30 rfl (lv_at hl 0 rfl) ?_
      refine lv_iconst (v := 1) hx hb dX6_classValue_31 (by decide) ?_
      refine cm_callV (t := 1) (C := RX6) (T := TX6) (N := 8) (rest := []) (as := [.int r_1, .int 1]) ⟨hx, hb, hml, hown, htb⟩ (d_valueChar l dC dI ad cid a2 lx sg gm lg x r_1 1 hI hvx h9p (iv_w (iv_k (by decide) : iv 1 1 1) (by decide)) hVS fLt_r_1 (by rw [← h9e]; have q8 : (1 : Int32).toInt = 1 := (by decide); have := i32_0; have := i32_1; have := i32_2; have := i32_m1; have := (hvx).1; have := (hvx).2; have := (hvo).1; have := (hvo).2; have := (hvw).1; have := (hvw).2; have := (h9p).1; have := (h9p).2; have := (h_9).1; have := (h_9).2; have := (h_14).1; have := (h_14).2; omega)) (cwV 2 htb (gd_V kw_552 kw_553 kw_554 kw_20 kw_1469) rfl rfl rfl (by decide +kernel) ⟨Nat.le_of_ble_eq_true rfl, Nat.le_of_ble_eq_true rfl⟩) hvx (by decide) (by decide) rfl rfl hl.1 rfl (Nat.le_trans cs_n (by decide)) dX6_classValue_32 ⟨Nat.le_of_ble_eq_true rfl, Nat.le_of_ble_eq_true rfl⟩ hK hP hD hS hA hG (fun E ce q9 u_16 H locs hw hP hD hS hce hcv hcl => ?_) (fun v9 u_16 H locs hw hP hD hS => ?_)
      · exact hw.elim
      obtain ⟨r_15, rfl, rfl, hr_15, fC_r_15⟩ := hw
      have hP : va_P (dC, dI) vwCl (cW ad cid a2 lx sg gm lg) H := hP
      have hD : va_D A (cW ad cid a2 lx sg gm lg) := hD
      refine W.eq (g2 := F0 m 35 ls [.int r_15]) rfl ?_
      refine lv_istore (i := 4) (lv' := [(4, .int r_15), (3, .int r_1), (0, eV (ad 1) x), (1, eV (ad 9) o), (2, eV (ad 33) w)]) hx hb dX6_classValue_35 hl (by decide) rfl (fun ls hl => ?_)
      refine lv_iload hx hb dX6_classValue_37 (lv_at hl 0 rfl) ?_
      refine lv_bipush (v := 48) hx hb dX6_classValue_39 (by decide) ?_
      refine lv_icmp_lt (tgt := 59) hx hb dX6_classValue_41 (by decide) (fun c_18 => ?_) (fun c_18 => ?_)
      · have h_19 : iv 0 47 r_15 := iv_ltL c_18 hr_15 (iv_k (by decide) : iv 48 48 48) (by decide)
        exact hj59 r_15 r_1 (iv_w h_19 (by decide)) h9p hvx hvo hvw _ _ _ hP hD hS (lv_sub hl [0, 1, 2, 3, 4] rfl)
      · have h_20 : iv 48 65535 r_15 := iv_leR (i32_ge c_18) (iv_k (by decide) : iv 48 48 48) hr_15 (by decide)
        refine lv_iload hx hb dX6_classValue_44 (lv_at hl 0 rfl) ?_
        refine lv_bipush (v := 56) hx hb dX6_classValue_46 (by decide) ?_
        refine lv_icmp_ge (tgt := 59) hx hb dX6_classValue_48 (by decide) (fun c_21 => ?_) (fun c_21 => ?_)
        · have h_22 : iv 56 65535 r_15 := iv_leR c_21 (iv_k (by decide) : iv 56 56 56) h_20 (by decide)
          exact hj59 r_15 r_1 (iv_w h_22 (by decide)) h9p hvx hvo hvw _ _ _ hP hD hS (lv_sub hl [0, 1, 2, 3, 4] rfl)
        · have h_23 : iv 48 55 r_15 := iv_ltL (i32_lt c_21) h_20 (iv_k (by decide) : iv 56 56 56) (by decide)
          refine lv_iload hx hb dX6_classValue_51 (lv_at hl 0 rfl) ?_
          refine lv_bipush (v := 48) hx hb dX6_classValue_53 (by decide) ?_
          refine lv_isub hx hb dX6_classValue_55 ?_
          refine lv_topi (fun z_24 ez_24 => ?_)
          have hz_24 : iv 0 7 z_24 := iv_of ez_24 (iv_sub h_23 (iv_k (by decide) : iv 48 48 48) (by decide))
          have tz_24 : z_24.toInt = (r_15 : Int32).toInt - 48 := by rw [ez_24]; exact iv_subE h_23 (iv_k (by decide) : iv 48 48 48) (by decide)
          refine lv_goto (tgt := 60) hx hb dX6_classValue_56 (by decide) ?_
          exact hj60 r_15 r_1 z_24 (iv_w h_23 (by decide)) h9p hvx hvo hvw (iv_w hz_24 (by decide)) _ _ _ hP hD hS (lv_sub hl [0, 1, 2, 3, 4] rfl)
    · have d_25 : ¬ (r_10 : Int32).toInt = 75 := lv_neT c_13 rfl
      exact hj27 r_1 (iv_w h9p (by decide)) hvx hvo hvw _ _ _ hP hD hS (lv_sub hl [0, 1, 2, 3] rfl)

set_option maxHeartbeats 4000000 in
set_option maxRecDepth 100000 in
theorem d_nameValue (l : Launch) (dC : Nat → ClassId) (dI : Nat → Nat → Nat) (ad : Nat → Nat → Nat) (cid : Nat → ClassId) (a2 : Nat → Nat) (lx : List Nat) (sg : Nat → Int32) (gm : Nat → Nat → Int32) (lg : Nat → Nat → Int64) (x : Int32) (o : Int32) (w : Int32) (hI : CI sg gm) (hvx : iv 0 0 x) (hvo : iv 0 79 o) (hvw : iv 0 33 w) (hFA : FA sg gm) (how : o.toInt < (sg 4).toInt) (hVS : VS sg gm) : CMt dC dI ad cid a2 lx l yX6_nameValue wm_X6_nameValue ({ frames := 1, cells := 1, slots := 6, locals := 23 }) [eV (ad 1) x, eV (ad 9) o, eV (ad 33) w] sg gm lg (fun v u => ∃ r : Int64, v = some (.long r) ∧ u = (sg, gm, lg)) (fun _ _ => False) := by
  intro sz
  refine vx_ofW (cc := cX6_nameValue) (maxL := 9) (ret := (some .long)) (by decide) rfl ?_
  intro p e s m args below meth c s₁ B hml hxt hv
  obtain ⟨rfl, hsz, hP, hK, hD0, hG⟩ := hv
  have hx := B.exec
  have hb := B.bytes
  have hr := B.returns
  have hts := atoms_spec (ws := wm_X6_nameValue) B.pre
  have htb := fun (w : Cond) (h : w ∈ tb) => hts w (List.mem_cons_of_mem _ h)
  have hown : s.vm.findClass RX6 = some m.cls := findClass_of_methodNamed B.named
  have hlocks := B.notSynchronized
  subst hsz
  have hD := hD0.self (sz := s.heap.size)
  generalize hAe : va_A (cW ad cid a2 lx sg gm lg) s.heap.size = A at hD hG ⊢
  have hA : ∀ q : Nat, s.heap.size ≤ q → A q := fun q h => by rw [← hAe]; exact Or.inr h
  have hS : va_S A s.heap s.heap [] := va_S.rf
  have hl := lv_entry ([eV (ad 1) x, eV (ad 9) o, eV (ad 33) w]) (n := 9) (by rw [show (lg_sl ([eV (ad 1) x, eV (ad 9) o, eV (ad 33) w])).length = 3 from by simp [lg_sl, eV_cat, cat_i, cat_l]]; exact Nat.le_of_ble_eq_true rfl)
  rw [lg_entry_eq]
  generalize (lg_sl ([eV (ad 1) x, eV (ad 9) o, eV (ad 33) w]) ++ List.replicate (9 - (lg_sl ([eV (ad 1) x, eV (ad 9) o, eV (ad 33) w])).length) Slot.unset).toArray = ls at hl ⊢
  have hl : lv_has ls 9 [(0, eV (ad 1) x), (1, eV (ad 9) o), (2, eV (ad 33) w)] := by simp [lv_args, eV_cat, cat_i, cat_l] at hl; exact hl
  have hj27 : ∀ (x4_27 : Int32) (x3_27 : Int32) (_ : iv 0 24 x4_27) (_ : iv (-1) 239 x3_27) (_ : iv 0 0 x) (_ : iv 0 79 o) (_ : iv 0 33 w) (H : Heap) (locs : List Loc) (ls : Array Slot), va_P (dC, dI) vwCl (cW ad cid a2 lx sg gm lg) H → va_D A (cW ad cid a2 lx sg gm lg) → va_S A s.heap H locs → lv_has ls 9 [(4, .int x4_27), (3, .int x3_27), (0, eV (ad 1) x), (1, eV (ad 9) o), (2, eV (ad 33) w)] → W p l e (headSpec wm_X6_nameValue ({ frames := 1, cells := 1, slots := 6, locals := 23 })).room s m ([eV (ad 1) x, eV (ad 9) o, eV (ad 33) w] : List Value).toArray below meth c H locs 0 0 (vx_MQ below (cQx dC dI ad cid a2 lx (fun v u => ∃ r : Int64, v = some (.long r) ∧ u = (sg, gm, lg)) A) (cX dC dI ad cid a2 lx (fun _ _ => False) A) ([eV (ad 1) x, eV (ad 9) o, eV (ad 33) w] : List Value).toArray s 1 6 A) (F0 m 27 ls []) := by
    intro x4_27 x3_27 hx4_27 hx3_27 hsx0_27 hsx1_27 hsx2_27 H locs ls hP hD hS hl
    refine lv_lconst (v := 0) hx hb dX6_nameValue_27 (by decide) ?_
    exact W.nb (fun hN => W.widen (k := 1) (n := 6) (by decide) (by decide) (vx_ret (W.lret (v := 0) hx hb hr (fun t ht hW => ⟨⟨some (.long 0), (sg, gm, lg), rfl, ⟨0, rfl, rfl⟩, by rw [ht]; exact hP, va_K.moved hW.alike hK, hD⟩, hS.F ht, by rw [ht]; exact hN⟩) hS.2.2 dX6_nameValue_28)))
  have hj65 : ∀ (x8_65 : Int32) (x7_65 : Int32) (x5_65 : Int64) (x4_65 : Int32) (x3_65 : Int32) (_ : iv 0 65535 x8_65) (_ : iv 0 7 x7_65) (_ : iv 1 8 x4_65) (_ : iv 0 239 x3_65) (_ : iv 0 0 x) (_ : iv 0 79 o) (_ : iv 0 33 w) (H : Heap) (locs : List Loc) (ls : Array Slot), va_P (dC, dI) vwCl (cW ad cid a2 lx sg gm lg) H → va_D A (cW ad cid a2 lx sg gm lg) → va_S A s.heap H locs → lv_has ls 9 [(8, .int x8_65), (7, .int x7_65), (5, .long x5_65), (4, .int x4_65), (3, .int x3_65), (0, eV (ad 1) x), (1, eV (ad 9) o), (2, eV (ad 33) w)] → W p l e (headSpec wm_X6_nameValue ({ frames := 1, cells := 1, slots := 6, locals := 23 })).room s m ([eV (ad 1) x, eV (ad 9) o, eV (ad 33) w] : List Value).toArray below meth c H locs 0 0 (vx_MQ below (cQx dC dI ad cid a2 lx (fun v u => ∃ r : Int64, v = some (.long r) ∧ u = (sg, gm, lg)) A) (cX dC dI ad cid a2 lx (fun _ _ => False) A) ([eV (ad 1) x, eV (ad 9) o, eV (ad 33) w] : List Value).toArray s 1 6 A) (F0 m 65 ls []) := by
    intro x8_65 x7_65 x5_65 x4_65 x3_65 hx8_65 hx7_65 hx4_65 hx3_65 hsx0_65 hsx1_65 hsx2_65 H locs ls hP hD hS hl
    refine lv_lconst (v := 0) hx hb dX6_nameValue_65 (by decide) ?_
    exact W.nb (fun hN => W.widen (k := 1) (n := 6) (by decide) (by decide) (vx_ret (W.lret (v := 0) hx hb hr (fun t ht hW => ⟨⟨some (.long 0), (sg, gm, lg), rfl, ⟨0, rfl, rfl⟩, by rw [ht]; exact hP, va_K.moved hW.alike hK, hD⟩, hS.F ht, by rw [ht]; exact hN⟩) hS.2.2 dX6_nameValue_66)))
  have hj35 : ∀ (n : Nat) (x7_35 : Int32) (x5_35 : Int64) (x4_35 : Int32) (x3_35 : Int32) (_ : (8 - x7_35.toInt).toNat = n) (_ : iv 0 8 x7_35) (_ : iv 1 8 x4_35) (_ : iv 0 239 x3_35) (_ : iv 0 0 x) (_ : iv 0 79 o) (_ : iv 0 33 w) (_ : 0 ≤ x3_35.toInt) (_ : x3_35.toInt < (sg 5).toInt) (_ : x4_35 = gm 45 x3_35.toNatClampNeg) (H : Heap) (locs : List Loc) (ls : Array Slot), va_P (dC, dI) vwCl (cW ad cid a2 lx sg gm lg) H → va_D A (cW ad cid a2 lx sg gm lg) → va_S A s.heap H locs → lv_has ls 9 [(7, .int x7_35), (5, .long x5_35), (4, .int x4_35), (3, .int x3_35), (0, eV (ad 1) x), (1, eV (ad 9) o), (2, eV (ad 33) w)] → W p l e (headSpec wm_X6_nameValue ({ frames := 1, cells := 1, slots := 6, locals := 23 })).room s m ([eV (ad 1) x, eV (ad 9) o, eV (ad 33) w] : List Value).toArray below meth c H locs 0 0 (vx_MQ below (cQx dC dI ad cid a2 lx (fun v u => ∃ r : Int64, v = some (.long r) ∧ u = (sg, gm, lg)) A) (cX dC dI ad cid a2 lx (fun _ _ => False) A) ([eV (ad 1) x, eV (ad 9) o, eV (ad 33) w] : List Value).toArray s 1 6 A) (F0 m 35 ls []) := by
    intro n
    induction n using Nat.strongRecOn with
    | ind n ih35 =>
      intro x7_35 x5_35 x4_35 x3_35 hn35 hx7_35 hx4_35 hx3_35 hsx0_35 hsx1_35 hsx2_35 h3p h3l h4e H locs ls hP hD hS hl
      refine lv_iload hx hb dX6_nameValue_35 (lv_at hl 0 rfl) ?_
      refine lv_iload hx hb dX6_nameValue_37 (lv_at hl 2 rfl) ?_
      refine lv_icmp_ge (tgt := 84) hx hb dX6_nameValue_39 (by decide) (fun c_1 => ?_) (fun c_1 => ?_)
      · have d_2 : (x4_35 : Int32).toInt ≤ (x7_35 : Int32).toInt := Int32.le_iff_toInt_le.mp c_1
        have h_3 : iv 1 8 x7_35 := iv_leR c_1 hx4_35 hx7_35 (by decide)
        refine lv_lload hx hb dX6_nameValue_84 (lv_at hl 1 rfl) ?_
        exact W.nb (fun hN => W.widen (k := 1) (n := 6) (by decide) (by decide) (vx_ret (W.lret (v := x5_35) hx hb hr (fun t ht hW => ⟨⟨some (.long x5_35), (sg, gm, lg), rfl, ⟨x5_35, rfl, rfl⟩, by rw [ht]; exact hP, va_K.moved hW.alike hK, hD⟩, hS.F ht, by rw [ht]; exact hN⟩) hS.2.2 dX6_nameValue_86)))
      · have d_4 : (x7_35 : Int32).toInt < (x4_35 : Int32).toInt := Int32.lt_iff_toInt_lt.mp (i32_lt c_1)
        have h_5 : iv 0 7 x7_35 := iv_ltL (i32_lt c_1) hx7_35 hx4_35 (by decide)
        have h42 : iv 0 239 x3_35 := ⟨h3p, (hx3_35).2⟩
        refine ec_aload_n hx hb dX6_nameValue_42 rfl (lv_at hl 4 rfl) ?_
        refine lv_iload_n hx hb dX6_nameValue_43 rfl (lv_at hl 3 rfl) ?_
        refine lv_iload hx hb dX6_nameValue_44 (lv_at hl 0 rfl) ?_
        refine cm_callV (t := 1) (C := RX6) (T := TX6) (N := 8) (rest := []) (as := [.int x3_35, .int x7_35]) ⟨hx, hb, hml, hown, htb⟩ (d_valueChar l dC dI ad cid a2 lx sg gm lg x x3_35 x7_35 hI hsx0_35 h42 (iv_w h_5 (by decide)) hVS h3l (by rw [← h4e]; have := i32_0; have := i32_1; have := i32_2; have := i32_m1; have := (hsx0_35).1; have := (hsx0_35).2; have := (hsx1_35).1; have := (hsx1_35).2; have := (hsx2_35).1; have := (hsx2_35).2; have := (h_5).1; have := (h_5).2; have := (hx4_35).1; have := (hx4_35).2; have := (h42).1; have := (h42).2; omega)) (cwV 2 htb (gd_V kw_552 kw_553 kw_554 kw_20 kw_1469) rfl rfl rfl (by decide +kernel) ⟨Nat.le_of_ble_eq_true rfl, Nat.le_of_ble_eq_true rfl⟩) hsx0_35 (by decide) (by decide) rfl rfl hl.1 rfl (Nat.le_trans cs_n (by decide)) dX6_nameValue_46 ⟨Nat.le_of_ble_eq_true rfl, Nat.le_of_ble_eq_true rfl⟩ hK hP hD hS hA hG (fun E ce q9 u_7 H locs hw hP hD hS hce hcv hcl => ?_) (fun v9 u_7 H locs hw hP hD hS => ?_)
        · exact hw.elim
        obtain ⟨r_6, rfl, rfl, hr_6, fC_r_6⟩ := hw
        have hP : va_P (dC, dI) vwCl (cW ad cid a2 lx sg gm lg) H := hP
        have hD : va_D A (cW ad cid a2 lx sg gm lg) := hD
        refine W.eq (g2 := F0 m 49 ls [.int r_6]) rfl ?_
        refine lv_istore (i := 8) (lv' := [(8, .int r_6), (7, .int x7_35), (5, .long x5_35), (4, .int x4_35), (3, .int x3_35), (0, eV (ad 1) x), (1, eV (ad 9) o), (2, eV (ad 33) w)]) hx hb dX6_nameValue_49 hl (by decide) rfl (fun ls hl => ?_)
        refine lv_iload hx hb dX6_nameValue_51 (lv_at hl 0 rfl) ?_
        refine lv_bipush (v := 97) hx hb dX6_nameValue_53 (by decide) ?_
        refine lv_icmp_lt (tgt := 65) hx hb dX6_nameValue_55 (by decide) (fun c_9 => ?_) (fun c_9 => ?_)
        · have h_10 : iv 0 96 r_6 := iv_ltL c_9 hr_6 (iv_k (by decide) : iv 97 97 97) (by decide)
          exact hj65 r_6 x7_35 x5_35 x4_35 x3_35 (iv_w h_10 (by decide)) h_5 hx4_35 h42 hsx0_35 hsx1_35 hsx2_35 _ _ _ hP hD hS (lv_sub hl [0, 1, 2, 3, 4, 5, 6, 7] rfl)
        · have h_11 : iv 97 65535 r_6 := iv_leR (i32_ge c_9) (iv_k (by decide) : iv 97 97 97) hr_6 (by decide)
          refine lv_iload hx hb dX6_nameValue_58 (lv_at hl 0 rfl) ?_
          refine lv_bipush (v := 122) hx hb dX6_nameValue_60 (by decide) ?_
          refine lv_icmp_le (tgt := 67) hx hb dX6_nameValue_62 (by decide) (fun c_12 => ?_) (fun c_12 => ?_)
          · have h_13 : iv 97 122 r_6 := iv_leL c_12 h_11 (iv_k (by decide) : iv 122 122 122) (by decide)
            refine lv_lload hx hb dX6_nameValue_67 (lv_at hl 2 rfl) ?_
            refine lv_bipush (v := 8) hx hb dX6_nameValue_69 (by decide) ?_
            refine lv_lshl (v := x5_35 <<< ((8 : Int32).toInt64 &&& 63)) hx hb dX6_nameValue_71 rfl ?_
            refine lv_topl (fun z_14 ez_14 => ?_)
            refine lv_iload hx hb dX6_nameValue_72 (lv_at hl 0 rfl) ?_
            refine lv_i2l (v := (r_6 : Int32).toInt64) hx hb dX6_nameValue_74 rfl ?_
            refine lv_topl (fun z_15 ez_15 => ?_)
            refine lv_lor hx hb dX6_nameValue_75 ?_
            refine lv_topl (fun z_16 ez_16 => ?_)
            refine lv_lstore (i := 5) (lv' := [(5, .long z_16), (8, .int r_6), (7, .int x7_35), (4, .int x4_35), (3, .int x3_35), (0, eV (ad 1) x), (1, eV (ad 9) o), (2, eV (ad 33) w)]) hx hb dX6_nameValue_76 hl (by decide) rfl (fun ls hl => ?_)
            obtain ⟨z_17, ez_17⟩ : ∃ z : Int32, z = x7_35 + 1 := ⟨_, rfl⟩
            have hz_17 : iv 1 8 z_17 := iv_of ez_17 (iv_add h_5 (iv_k (by decide) : iv 1 1 1) (by decide))
            have tz_17 : z_17.toInt = x7_35.toInt + 1 := by rw [ez_17]; exact iv_addE h_5 (iv_k (by decide) : iv 1 1 1) (by decide)
            refine lv_iinc (v := z_17) (lv' := [(7, .int z_17), (5, .long z_16), (8, .int r_6), (4, .int x4_35), (3, .int x3_35), (0, eV (ad 1) x), (1, eV (ad 9) o), (2, eV (ad 33) w)]) hx hb dX6_nameValue_78 hl (k := 2) rfl ez_17.symm (by decide) rfl (fun ls hl => ?_)
            refine lv_goto (tgt := 35) hx hb dX6_nameValue_81 (by decide) ?_
            exact ih35 _ (by rw [← hn35]; exact (iv_meas tz_17 h_5 (by decide))) z_17 z_16 x4_35 x3_35 rfl (iv_w hz_17 (by decide)) hx4_35 h42 hsx0_35 hsx1_35 hsx2_35 (h3p) (h3l) (h4e) _ _ _ hP hD hS (lv_sub hl [0, 1, 3, 4, 5, 6, 7] rfl)
          · have h_18 : iv 123 65535 r_6 := iv_ltR (i32_lt c_12) (iv_k (by decide) : iv 122 122 122) h_11 (by decide)
            exact hj65 r_6 x7_35 x5_35 x4_35 x3_35 (iv_w h_18 (by decide)) h_5 hx4_35 h42 hsx0_35 hsx1_35 hsx2_35 _ _ _ hP hD hS (lv_sub hl [0, 1, 2, 3, 4, 5, 6, 7] rfl)
  refine ec_aload_n hx hb dX6_nameValue_0 rfl (lv_at hl 0 rfl) ?_
  refine ec_aload_n hx hb dX6_nameValue_1 rfl (lv_at hl 1 rfl) ?_
  refine ec_aload_n hx hb dX6_nameValue_2 rfl (lv_at hl 2 rfl) ?_
  refine cm_callV (t := 1) (C := RX6) (T := TX6) (N := 8) (rest := []) (as := [eV (ad 9) o, eV (ad 33) w]) ⟨hx, hb, hml, hown, htb⟩ (d_find l dC dI ad cid a2 lx sg gm lg x o w hI hvx hvo hvw hFA how) (cwV 2 htb (gd_V kw_545 kw_546 kw_547 kw_20 kw_1467) rfl rfl rfl (by decide +kernel) ⟨Nat.le_of_ble_eq_true rfl, Nat.le_of_ble_eq_true rfl⟩) hvx (by decide) (by decide) rfl rfl hl.1 rfl (Nat.le_trans cs_n (by decide)) dX6_nameValue_3 ⟨Nat.le_of_ble_eq_true rfl, Nat.le_of_ble_eq_true rfl⟩ hK hP hD hS hA hG (fun E ce q9 u_20 H locs hw hP hD hS hce hcv hcl => ?_) (fun v9 u_20 H locs hw hP hD hS => ?_)
  · exact hw.elim
  obtain ⟨r_19, rfl, rfl, hr_19, fF_r_19, fLt_r_19⟩ := hw
  have hP : va_P (dC, dI) vwCl (cW ad cid a2 lx sg gm lg) H := hP
  have hD : va_D A (cW ad cid a2 lx sg gm lg) := hD
  refine W.eq (g2 := F0 m 6 ls [.int r_19]) rfl ?_
  refine lv_istore_n (i := 3) (lv' := [(3, .int r_19), (0, eV (ad 1) x), (1, eV (ad 9) o), (2, eV (ad 33) w)]) hx hb dX6_nameValue_6 rfl hl (by decide) (by simp [List.filter, eV_cat, cat_i, cat_l]) (fun ls hl => ?_)
  refine ec_aload_n hx hb dX6_nameValue_7 rfl (lv_at hl 1 rfl) ?_
  refine lv_iload_n hx hb dX6_nameValue_8 rfl (lv_at hl 0 rfl) ?_
  refine cm_callV (t := 1) (C := RX6) (T := TX6) (N := 8) (rest := []) (as := [.int r_19]) ⟨hx, hb, hml, hown, htb⟩ (d_valueLength l dC dI ad cid a2 lx sg gm lg x r_19 hI hvx hr_19) (cwV 1 htb (gd_V kw_549 kw_550 kw_551 kw_20 kw_1468) rfl rfl rfl (by decide +kernel) ⟨Nat.le_of_ble_eq_true rfl, Nat.le_of_ble_eq_true rfl⟩) hvx (by decide) (by decide) rfl rfl hl.1 rfl (Nat.le_trans cs_n (by decide)) dX6_nameValue_9 ⟨Nat.le_of_ble_eq_true rfl, Nat.le_of_ble_eq_true rfl⟩ hK hP hD hS hA hG (fun E ce q9 u_23 H locs hw hP hD hS hce hcv hcl => ?_) (fun v9 u_23 H locs hw hP hD hS => ?_)
  · exact hw.elim
  obtain ⟨r_22, rfl, rfl, hr_22, fV_r_22⟩ := hw
  have hP : va_P (dC, dI) vwCl (cW ad cid a2 lx sg gm lg) H := hP
  have hD : va_D A (cW ad cid a2 lx sg gm lg) := hD
  refine W.eq (g2 := F0 m 12 ls [.int r_22]) rfl ?_
  refine lv_istore (i := 4) (lv' := [(4, .int r_22), (3, .int r_19), (0, eV (ad 1) x), (1, eV (ad 9) o), (2, eV (ad 33) w)]) hx hb dX6_nameValue_12 hl (by decide) rfl (fun ls hl => ?_)
  refine lv_iload hx hb dX6_nameValue_14 (lv_at hl 0 rfl) ?_
  refine lv_iconst (v := 1) hx hb dX6_nameValue_16 (by decide) ?_
  refine lv_icmp_lt (tgt := 27) hx hb dX6_nameValue_17 (by decide) (fun c_25 => ?_) (fun c_25 => ?_)
  · have h_26 : iv 0 0 r_22 := iv_ltL c_25 hr_22 (iv_k (by decide) : iv 1 1 1) (by decide)
    exact hj27 r_22 r_19 (iv_w h_26 (by decide)) hr_19 hvx hvo hvw _ _ _ hP hD hS (lv_sub hl [0, 1, 2, 3, 4] rfl)
  · have h_27 : iv 1 24 r_22 := iv_leR (i32_ge c_25) (iv_k (by decide) : iv 1 1 1) hr_22 (by decide)
    refine lv_iload hx hb dX6_nameValue_20 (lv_at hl 0 rfl) ?_
    refine lv_bipush (v := 8) hx hb dX6_nameValue_22 (by decide) ?_
    refine lv_icmp_le (tgt := 29) hx hb dX6_nameValue_24 (by decide) (fun c_28 => ?_) (fun c_28 => ?_)
    · have h_29 : iv 1 8 r_22 := iv_leL c_28 h_27 (iv_k (by decide) : iv 8 8 8) (by decide)
      obtain ⟨h9z, h9e⟩ : 0 ≤ r_19.toInt ∧ r_22 = gm 45 r_19.toNatClampNeg := fV_r_22.resolve_left (fun q9 => by have := q9.2; have := i32_0; have := i32_1; have := i32_2; have := i32_m1; have := (hvx).1; have := (hvx).2; have := (hvo).1; have := (hvo).2; have := (hvw).1; have := (hvw).2; have := (hr_19).1; have := (hr_19).2; have := (h_29).1; have := (h_29).2; omega)
      have h9p : iv 0 239 r_19 := ⟨h9z, (hr_19).2⟩
      refine lv_lconst (v := 0) hx hb dX6_nameValue_29 (by decide) ?_
      refine lv_lstore (i := 5) (lv' := [(5, .long 0), (4, .int r_22), (3, .int r_19), (0, eV (ad 1) x), (1, eV (ad 9) o), (2, eV (ad 33) w)]) hx hb dX6_nameValue_30 hl (by decide) rfl (fun ls hl => ?_)
      refine lv_iconst (v := 0) hx hb dX6_nameValue_32 (by decide) ?_
      refine lv_istore (i := 7) (lv' := [(7, .int 0), (5, .long 0), (4, .int r_22), (3, .int r_19), (0, eV (ad 1) x), (1, eV (ad 9) o), (2, eV (ad 33) w)]) hx hb dX6_nameValue_33 hl (by decide) rfl (fun ls hl => ?_)
      exact hj35 _ 0 0 r_22 r_19 rfl (iv_w (iv_k (by decide) : iv 0 0 0) (by decide)) h_29 h9p hvx hvo hvw (h9z) (fLt_r_19) (h9e) _ _ _ hP hD hS (lv_sub hl [0, 1, 2, 3, 4, 5, 6] rfl)
    · have h_30 : iv 9 24 r_22 := iv_ltR (i32_lt c_28) (iv_k (by decide) : iv 8 8 8) h_27 (by decide)
      exact hj27 r_22 r_19 (iv_w h_30 (by decide)) hr_19 hvx hvo hvw _ _ _ hP hD hS (lv_sub hl [0, 1, 2, 3, 4] rfl)

set_option maxHeartbeats 4000000 in
set_option maxRecDepth 100000 in
theorem d_valueIs (l : Launch) (dC : Nat → ClassId) (dI : Nat → Nat → Nat) (ad : Nat → Nat → Nat) (cid : Nat → ClassId) (a2 : Nat → Nat) (lx : List Nat) (sg : Nat → Int32) (gm : Nat → Nat → Int32) (lg : Nat → Nat → Int64) (x : Int32) (o : Int32) (w : Int32) (w2 : Int32) (hI : CI sg gm) (hvx : iv 0 0 x) (hvo : iv 0 79 o) (hvw : iv 0 33 w) (hvw2 : iv 0 33 w2) (hFA : FA sg gm) (how : o.toInt < (sg 4).toInt) (hVS : VS sg gm) : CMt dC dI ad cid a2 lx l yX6_valueIs wm_X6_valueIs ({ frames := 2, cells := 1, slots := 6, locals := 51 }) [eV (ad 1) x, eV (ad 9) o, eV (ad 33) w, eV (ad 33) w2] sg gm lg (fun v u => ∃ r : Int32, v = some (.int r) ∧ u = (sg, gm, lg) ∧ (iv 0 1 r)) (fun _ _ => False) := by
  intro sz
  refine vx_ofW (cc := cX6_valueIs) (maxL := 4) (ret := (some .boolean)) (by decide) rfl ?_
  intro p e s m args below meth c s₁ B hml hxt hv
  obtain ⟨rfl, hsz, hP, hK, hD0, hG⟩ := hv
  have hx := B.exec
  have hb := B.bytes
  have hr := B.returns
  have hts := atoms_spec (ws := wm_X6_valueIs) B.pre
  have htb := fun (w : Cond) (h : w ∈ tb) => hts w (List.mem_cons_of_mem _ h)
  have hown : s.vm.findClass RX6 = some m.cls := findClass_of_methodNamed B.named
  have hlocks := B.notSynchronized
  subst hsz
  have hD := hD0.self (sz := s.heap.size)
  generalize hAe : va_A (cW ad cid a2 lx sg gm lg) s.heap.size = A at hD hG ⊢
  have hA : ∀ q : Nat, s.heap.size ≤ q → A q := fun q h => by rw [← hAe]; exact Or.inr h
  have hS : va_S A s.heap s.heap [] := va_S.rf
  have hl := lv_entry ([eV (ad 1) x, eV (ad 9) o, eV (ad 33) w, eV (ad 33) w2]) (n := 4) (by rw [show (lg_sl ([eV (ad 1) x, eV (ad 9) o, eV (ad 33) w, eV (ad 33) w2])).length = 4 from by simp [lg_sl, eV_cat, cat_i, cat_l]]; exact Nat.le_of_ble_eq_true rfl)
  rw [lg_entry_eq]
  generalize (lg_sl ([eV (ad 1) x, eV (ad 9) o, eV (ad 33) w, eV (ad 33) w2]) ++ List.replicate (4 - (lg_sl ([eV (ad 1) x, eV (ad 9) o, eV (ad 33) w, eV (ad 33) w2])).length) Slot.unset).toArray = ls at hl ⊢
  have hl : lv_has ls 4 [(0, eV (ad 1) x), (1, eV (ad 9) o), (2, eV (ad 33) w), (3, eV (ad 33) w2)] := by simp [lv_args, eV_cat, cat_i, cat_l] at hl; exact hl
  have hj19 : ∀ (y0_19 : Int32) (_ : iv 0 0 x) (_ : iv 0 79 o) (_ : iv 0 33 w) (_ : iv 0 33 w2) (_ : iv 0 1 y0_19) (H : Heap) (locs : List Loc) (ls : Array Slot), va_P (dC, dI) vwCl (cW ad cid a2 lx sg gm lg) H → va_D A (cW ad cid a2 lx sg gm lg) → va_S A s.heap H locs → lv_has ls 4 [(0, eV (ad 1) x), (1, eV (ad 9) o), (2, eV (ad 33) w), (3, eV (ad 33) w2)] → W p l e (headSpec wm_X6_valueIs ({ frames := 2, cells := 1, slots := 6, locals := 51 })).room s m ([eV (ad 1) x, eV (ad 9) o, eV (ad 33) w, eV (ad 33) w2] : List Value).toArray below meth c H locs 0 0 (vx_MQ below (cQx dC dI ad cid a2 lx (fun v u => ∃ r : Int32, v = some (.int r) ∧ u = (sg, gm, lg) ∧ (iv 0 1 r)) A) (cX dC dI ad cid a2 lx (fun _ _ => False) A) ([eV (ad 1) x, eV (ad 9) o, eV (ad 33) w, eV (ad 33) w2] : List Value).toArray s 1 6 A) (F0 m 19 ls [.int y0_19]) := by
    intro y0_19 hsx0_19 hsx1_19 hsx2_19 hsx3_19 hy0_19 H locs ls hP hD hS hl
    exact W.nb (fun hN => W.widen (k := 1) (n := 6) (by decide) (by decide) (vx_ret (W.zret (v := y0_19) hx hb hr (iv_nb hy0_19) (fun t ht hW => ⟨⟨some (.int y0_19), (sg, gm, lg), rfl, ⟨y0_19, rfl, rfl, hy0_19⟩, by rw [ht]; exact hP, va_K.moved hW.alike hK, hD⟩, hS.F ht, by rw [ht]; exact hN⟩) hS.2.2 dX6_valueIs_19)))
  refine ec_aload_n hx hb dX6_valueIs_0 rfl (lv_at hl 0 rfl) ?_
  refine ec_aload_n hx hb dX6_valueIs_1 rfl (lv_at hl 1 rfl) ?_
  refine ec_aload_n hx hb dX6_valueIs_2 rfl (lv_at hl 2 rfl) ?_
  refine cm_callV (t := 1) (C := RX6) (T := TX6) (N := 8) (rest := []) (as := [eV (ad 9) o, eV (ad 33) w]) ⟨hx, hb, hml, hown, htb⟩ (d_nameValue l dC dI ad cid a2 lx sg gm lg x o w hI hvx hvo hvw hFA how hVS) (cwV 2 htb (gd_V kw_591 kw_583 kw_584 kw_20 kw_1475) rfl rfl rfl (by decide +kernel) ⟨Nat.le_of_ble_eq_true rfl, Nat.le_of_ble_eq_true rfl⟩) hvx (by decide) (by decide) rfl rfl hl.1 rfl (Nat.le_trans cs_n (by decide)) dX6_valueIs_3 ⟨Nat.le_of_ble_eq_true rfl, Nat.le_of_ble_eq_true rfl⟩ hK hP hD hS hA hG (fun E ce q9 u_2 H locs hw hP hD hS hce hcv hcl => ?_) (fun v9 u_2 H locs hw hP hD hS => ?_)
  · exact hw.elim
  obtain ⟨r_1, rfl, rfl⟩ := hw
  have hP : va_P (dC, dI) vwCl (cW ad cid a2 lx sg gm lg) H := hP
  have hD : va_D A (cW ad cid a2 lx sg gm lg) := hD
  refine W.eq (g2 := F0 m 6 ls [.long r_1]) rfl ?_
  refine ec_aload_n hx hb dX6_valueIs_6 rfl (lv_at hl 3 rfl) ?_
  refine cw_key hx hb hG hS hvw2 hown (htb _ kw_548) dX6_valueIs_7 ?_
  refine lv_topl (fun z_4 ez_4 => ?_)
  refine W.lcmp hx hb dX6_valueIs_10 ?_
  refine lv_topi (fun z_5 ez_5 => ?_)
  have hz_5 : iv (-1) 1 z_5 := iv_of ez_5 (iv_cmp _ _)
  refine lv_if_ne (tgt := 18) hx hb dX6_valueIs_11 (by decide) (fun c_6 => ?_) (fun c_6 => ?_)
  · have d_7 : ¬ (z_5 : Int32).toInt = 0 := lv_neT c_6 rfl
    refine lv_iconst (v := 0) hx hb dX6_valueIs_18 (by decide) ?_
    exact hj19 0 hvx hvo hvw hvw2 (iv_w (iv_k (by decide) : iv 0 0 0) (by decide)) _ _ _ hP hD hS (lv_sub hl [0, 1, 2, 3] rfl)
  · have h_8 : iv 0 0 z_5 := iv_eq c_6 hz_5 (iv_k (by decide) : iv 0 0 0) (by decide)
    refine lv_iconst (v := 1) hx hb dX6_valueIs_14 (by decide) ?_
    refine lv_goto (tgt := 19) hx hb dX6_valueIs_15 (by decide) ?_
    exact hj19 1 hvx hvo hvw hvw2 (iv_w (iv_k (by decide) : iv 1 1 1) (by decide)) _ _ _ hP hD hS (lv_sub hl [0, 1, 2, 3] rfl)

set_option maxHeartbeats 4000000 in
set_option maxRecDepth 100000 in
theorem d_typeValue (l : Launch) (dC : Nat → ClassId) (dI : Nat → Nat → Nat) (ad : Nat → Nat → Nat) (cid : Nat → ClassId) (a2 : Nat → Nat) (lx : List Nat) (sg : Nat → Int32) (gm : Nat → Nat → Int32) (lg : Nat → Nat → Int64) (x : Int32) (o : Int32) (w : Int32) (hI : CI sg gm) (hvx : iv 0 0 x) (hvo : iv 0 79 o) (hvw : iv 0 33 w) (hFA : FA sg gm) (how : o.toInt < (sg 4).toInt) (hVS : VS sg gm) : CMt dC dI ad cid a2 lx l yX6_typeValue wm_X6_typeValue ({ frames := 2, cells := 1, slots := 6, locals := 51 }) [eV (ad 1) x, eV (ad 9) o, eV (ad 33) w] sg gm lg (fun v u => ∃ r : Int32, v = some (.int r) ∧ u = (sg, gm, lg) ∧ (iv (-1) 15 r)) (fun _ _ => False) := by
  intro sz
  refine vx_ofW (cc := cX6_typeValue) (maxL := 5) (ret := (some .int)) (by decide) rfl ?_
  intro p e s m args below meth c s₁ B hml hxt hv
  obtain ⟨rfl, hsz, hP, hK, hD0, hG⟩ := hv
  have hx := B.exec
  have hb := B.bytes
  have hr := B.returns
  have hts := atoms_spec (ws := wm_X6_typeValue) B.pre
  have htb := fun (w : Cond) (h : w ∈ tb) => hts w (List.mem_cons_of_mem _ h)
  have hown : s.vm.findClass RX6 = some m.cls := findClass_of_methodNamed B.named
  have hlocks := B.notSynchronized
  subst hsz
  have hD := hD0.self (sz := s.heap.size)
  generalize hAe : va_A (cW ad cid a2 lx sg gm lg) s.heap.size = A at hD hG ⊢
  have hA : ∀ q : Nat, s.heap.size ≤ q → A q := fun q h => by rw [← hAe]; exact Or.inr h
  have hS : va_S A s.heap s.heap [] := va_S.rf
  have hl := lv_entry ([eV (ad 1) x, eV (ad 9) o, eV (ad 33) w]) (n := 5) (by rw [show (lg_sl ([eV (ad 1) x, eV (ad 9) o, eV (ad 33) w])).length = 3 from by simp [lg_sl, eV_cat, cat_i, cat_l]]; exact Nat.le_of_ble_eq_true rfl)
  rw [lg_entry_eq]
  generalize (lg_sl ([eV (ad 1) x, eV (ad 9) o, eV (ad 33) w]) ++ List.replicate (5 - (lg_sl ([eV (ad 1) x, eV (ad 9) o, eV (ad 33) w])).length) Slot.unset).toArray = ls at hl ⊢
  have hl : lv_has ls 5 [(0, eV (ad 1) x), (1, eV (ad 9) o), (2, eV (ad 33) w)] := by simp [lv_args, eV_cat, cat_i, cat_l] at hl; exact hl
  refine ec_aload_n hx hb dX6_typeValue_0 rfl (lv_at hl 0 rfl) ?_
  refine ec_aload_n hx hb dX6_typeValue_1 rfl (lv_at hl 1 rfl) ?_
  refine ec_aload_n hx hb dX6_typeValue_2 rfl (lv_at hl 2 rfl) ?_
  refine cm_callV (t := 1) (C := RX6) (T := TX6) (N := 8) (rest := []) (as := [eV (ad 9) o, eV (ad 33) w]) ⟨hx, hb, hml, hown, htb⟩ (d_classValue l dC dI ad cid a2 lx sg gm lg x o w hI hvx hvo hvw hFA how hVS) (cwV 2 htb (gd_V kw_599 kw_586 kw_587 kw_20 kw_1476) rfl rfl rfl (by decide +kernel) ⟨Nat.le_of_ble_eq_true rfl, Nat.le_of_ble_eq_true rfl⟩) hvx (by decide) (by decide) rfl rfl hl.1 rfl (Nat.le_trans cs_n (by decide)) dX6_typeValue_3 ⟨Nat.le_of_ble_eq_true rfl, Nat.le_of_ble_eq_true rfl⟩ hK hP hD hS hA hG (fun E ce q9 u_2 H locs hw hP hD hS hce hcv hcl => ?_) (fun v9 u_2 H locs hw hP hD hS => ?_)
  · exact hw.elim
  obtain ⟨r_1, rfl, rfl, hr_1⟩ := hw
  have hP : va_P (dC, dI) vwCl (cW ad cid a2 lx sg gm lg) H := hP
  have hD : va_D A (cW ad cid a2 lx sg gm lg) := hD
  refine W.eq (g2 := F0 m 6 ls [.int r_1]) rfl ?_
  refine lv_istore_n (i := 3) (lv' := [(3, .int r_1), (0, eV (ad 1) x), (1, eV (ad 9) o), (2, eV (ad 33) w)]) hx hb dX6_typeValue_6 rfl hl (by decide) (by simp [List.filter, eV_cat, cat_i, cat_l]) (fun ls hl => ?_)
  refine lv_iload_n hx hb dX6_typeValue_7 rfl (lv_at hl 0 rfl) ?_
  refine lv_iconst (v := (-1)) hx hb dX6_typeValue_8 (by decide) ?_
  refine lv_icmp_eq (tgt := 17) hx hb dX6_typeValue_9 (by decide) (fun c_4 => ?_) (fun c_4 => ?_)
  · have h_5 : iv (-1) (-1) r_1 := iv_eq c_4 hr_1 (iv_k (by decide) : iv (-1) (-1) (-1)) (by decide)
    refine ec_aload_n hx hb dX6_typeValue_17 rfl (lv_at hl 1 rfl) ?_
    refine ec_aload_n hx hb dX6_typeValue_18 rfl (lv_at hl 2 rfl) ?_
    refine ec_aload_n hx hb dX6_typeValue_19 rfl (lv_at hl 3 rfl) ?_
    refine cm_callV (t := 1) (C := RX6) (T := TX6) (N := 8) (rest := []) (as := [eV (ad 9) o, eV (ad 33) w]) ⟨hx, hb, hml, hown, htb⟩ (d_nameValue l dC dI ad cid a2 lx sg gm lg x o w hI hvx hvo hvw hFA how hVS) (cwV 2 htb (gd_V kw_591 kw_583 kw_584 kw_20 kw_1475) rfl rfl rfl (by decide +kernel) ⟨Nat.le_of_ble_eq_true rfl, Nat.le_of_ble_eq_true rfl⟩) hvx (by decide) (by decide) rfl rfl hl.1 rfl (Nat.le_trans cs_n (by decide)) dX6_typeValue_20 ⟨Nat.le_of_ble_eq_true rfl, Nat.le_of_ble_eq_true rfl⟩ hK hP hD hS hA hG (fun E ce q9 u_7 H locs hw hP hD hS hce hcv hcl => ?_) (fun v9 u_7 H locs hw hP hD hS => ?_)
    · exact hw.elim
    obtain ⟨r_6, rfl, rfl⟩ := hw
    have hP : va_P (dC, dI) vwCl (cW ad cid a2 lx sg gm lg) H := hP
    have hD : va_D A (cW ad cid a2 lx sg gm lg) := hD
    refine W.eq (g2 := F0 m 23 ls [.long r_6]) rfl ?_
    refine cm_callS (rest := []) (as := [.long r_6]) ⟨hx, hb, hml, hown, htb⟩ (d_withKey l dC dI ad cid a2 lx sg gm lg r_6 hI) (va_cwS 1 htb (gd_S kw_563 kw_409 kw_410 kw_1431) rfl rfl rfl (by decide +kernel) ⟨Nat.le_of_ble_eq_true rfl, Nat.le_of_ble_eq_true rfl⟩)  rfl hl.1 rfl (Nat.le_trans cs_n (by decide)) dX6_typeValue_23 ⟨Nat.le_of_ble_eq_true rfl, Nat.le_of_ble_eq_true rfl⟩ hK hP hD hS hA hG (fun E ce q9 u_10 H locs hw hP hD hS hce hcv hcl => ?_) (fun v9 u_10 H locs hw hP hD hS => ?_)
    · exact hw.elim
    obtain ⟨r_9, rfl, rfl, hr_9, fW_r_9⟩ := hw
    have hP : va_P (dC, dI) vwCl (cW ad cid a2 lx sg gm lg) H := hP
    have hD : va_D A (cW ad cid a2 lx sg gm lg) := hD
    refine W.eq (g2 := F0 m 26 ls [eV (ad 33) r_9]) rfl ?_
    refine ec_astore (i := 4) (lv' := [(4, eV (ad 33) r_9), (3, .int r_1), (0, eV (ad 1) x), (1, eV (ad 9) o), (2, eV (ad 33) w)]) hx hb dX6_typeValue_26 hl (by decide) rfl (fun ls hl => ?_)
    refine ec_aload hx hb dX6_typeValue_28 (lv_at hl 0 rfl) ?_
    refine ec_ifnonnull (tgt := 35) hx hb dX6_typeValue_30 (by decide) (fun c_12 => ?_) (fun c_12 => ?_)
    · have h_13 : iv 0 33 r_9 := ⟨c_12, (hr_9).2⟩
      refine cw_sw hx hb hG hS hown (htb _ kw_598) dX6_typeValue_35 ?_
      refine ec_aload hx hb dX6_typeValue_38 (lv_at hl 0 rfl) ?_
      refine cw_ord ⟨hx, hb, hml, hown, htb⟩ kw_600 h_13 hl.1 (Nat.le_trans (cs_c (eV_cat _ _) cs_n) (by decide)) dX6_typeValue_40 ⟨Nat.le_of_ble_eq_true rfl, Nat.le_of_ble_eq_true rfl⟩ ⟨Nat.le_of_ble_eq_true rfl, Nat.le_of_ble_eq_true rfl⟩ hP hD hS hA hG (fun H locs hP hS => ?_)
      refine cw_swld (iv_k (by decide) : iv 0 0 0) hx hb hG hS h_13 dX6_typeValue_43 ?_
      refine lv_topi (fun z_14 ez_14 => ?_)
      have hz_14 : iv 0 29 z_14 := iv_of ez_14 (sw_iv r_9)
      by_cases c_15 : (z_14 : Int32).toInt = 1
      · refine lv_tableIn (tgt := 80) hx hb dX6_typeValue_44 (by rw [c_15]; decide) (by rw [c_15]; decide) (by rw [c_15]; rfl) (by decide) ?_
        have h_16 : iv 1 1 z_14 := iv_at c_15
        refine lv_iconst (v := 0) hx hb dX6_typeValue_80 (by decide) ?_
        exact W.nb (fun hN => W.widen (k := 1) (n := 6) (by decide) (by decide) (vx_ret (W.iret (v := 0) hx hb hr (fun t ht hW => ⟨⟨some (.int 0), (sg, gm, lg), rfl, ⟨0, rfl, rfl, (iv_w (iv_k (by decide) : iv 0 0 0) (by decide))⟩, by rw [ht]; exact hP, va_K.moved hW.alike hK, hD⟩, hS.F ht, by rw [ht]; exact hN⟩) hS.2.2 dX6_typeValue_81)))
      by_cases c_17 : (z_14 : Int32).toInt = 2
      · refine lv_tableIn (tgt := 82) hx hb dX6_typeValue_44 (by rw [c_17]; decide) (by rw [c_17]; decide) (by rw [c_17]; rfl) (by decide) ?_
        have h_18 : iv 2 2 z_14 := iv_at c_17
        refine lv_iconst (v := 1) hx hb dX6_typeValue_82 (by decide) ?_
        exact W.nb (fun hN => W.widen (k := 1) (n := 6) (by decide) (by decide) (vx_ret (W.iret (v := 1) hx hb hr (fun t ht hW => ⟨⟨some (.int 1), (sg, gm, lg), rfl, ⟨1, rfl, rfl, (iv_w (iv_k (by decide) : iv 1 1 1) (by decide))⟩, by rw [ht]; exact hP, va_K.moved hW.alike hK, hD⟩, hS.F ht, by rw [ht]; exact hN⟩) hS.2.2 dX6_typeValue_83)))
      by_cases c_19 : (z_14 : Int32).toInt = 3
      · refine lv_tableIn (tgt := 84) hx hb dX6_typeValue_44 (by rw [c_19]; decide) (by rw [c_19]; decide) (by rw [c_19]; rfl) (by decide) ?_
        have h_20 : iv 3 3 z_14 := iv_at c_19
        refine lv_iconst (v := 2) hx hb dX6_typeValue_84 (by decide) ?_
        exact W.nb (fun hN => W.widen (k := 1) (n := 6) (by decide) (by decide) (vx_ret (W.iret (v := 2) hx hb hr (fun t ht hW => ⟨⟨some (.int 2), (sg, gm, lg), rfl, ⟨2, rfl, rfl, (iv_w (iv_k (by decide) : iv 2 2 2) (by decide))⟩, by rw [ht]; exact hP, va_K.moved hW.alike hK, hD⟩, hS.F ht, by rw [ht]; exact hN⟩) hS.2.2 dX6_typeValue_85)))
      by_cases c_21 : (z_14 : Int32).toInt = 4
      · refine lv_tableIn (tgt := 86) hx hb dX6_typeValue_44 (by rw [c_21]; decide) (by rw [c_21]; decide) (by rw [c_21]; rfl) (by decide) ?_
        have h_22 : iv 4 4 z_14 := iv_at c_21
        refine lv_iconst (v := 3) hx hb dX6_typeValue_86 (by decide) ?_
        exact W.nb (fun hN => W.widen (k := 1) (n := 6) (by decide) (by decide) (vx_ret (W.iret (v := 3) hx hb hr (fun t ht hW => ⟨⟨some (.int 3), (sg, gm, lg), rfl, ⟨3, rfl, rfl, (iv_w (iv_k (by decide) : iv 3 3 3) (by decide))⟩, by rw [ht]; exact hP, va_K.moved hW.alike hK, hD⟩, hS.F ht, by rw [ht]; exact hN⟩) hS.2.2 dX6_typeValue_87)))
      by_cases c_23 : (z_14 : Int32).toInt = 5
      · refine lv_tableIn (tgt := 88) hx hb dX6_typeValue_44 (by rw [c_23]; decide) (by rw [c_23]; decide) (by rw [c_23]; rfl) (by decide) ?_
        have h_24 : iv 5 5 z_14 := iv_at c_23
        refine lv_iconst (v := 4) hx hb dX6_typeValue_88 (by decide) ?_
        exact W.nb (fun hN => W.widen (k := 1) (n := 6) (by decide) (by decide) (vx_ret (W.iret (v := 4) hx hb hr (fun t ht hW => ⟨⟨some (.int 4), (sg, gm, lg), rfl, ⟨4, rfl, rfl, (iv_w (iv_k (by decide) : iv 4 4 4) (by decide))⟩, by rw [ht]; exact hP, va_K.moved hW.alike hK, hD⟩, hS.F ht, by rw [ht]; exact hN⟩) hS.2.2 dX6_typeValue_89)))
      refine lv_tableOut (tgt := 90) hx hb dX6_typeValue_44 (by have q1 := (hz_14).1; have q2 := (hz_14).2; omega) (by decide) ?_
      refine lv_iconst (v := (-1)) hx hb dX6_typeValue_90 (by decide) ?_
      exact W.nb (fun hN => W.widen (k := 1) (n := 6) (by decide) (by decide) (vx_ret (W.iret (v := (-1)) hx hb hr (fun t ht hW => ⟨⟨some (.int (-1)), (sg, gm, lg), rfl, ⟨(-1), rfl, rfl, (iv_w (iv_k (by decide) : iv (-1) (-1) (-1)) (by decide))⟩, by rw [ht]; exact hP, va_K.moved hW.alike hK, hD⟩, hS.F ht, by rw [ht]; exact hN⟩) hS.2.2 dX6_typeValue_91)))
    · have h_25 : iv (-1) (-1) r_9 := ⟨(hr_9).1, by omega⟩
      refine lv_iconst (v := (-1)) hx hb dX6_typeValue_33 (by decide) ?_
      exact W.nb (fun hN => W.widen (k := 1) (n := 6) (by decide) (by decide) (vx_ret (W.iret (v := (-1)) hx hb hr (fun t ht hW => ⟨⟨some (.int (-1)), (sg, gm, lg), rfl, ⟨(-1), rfl, rfl, (iv_w (iv_k (by decide) : iv (-1) (-1) (-1)) (by decide))⟩, by rw [ht]; exact hP, va_K.moved hW.alike hK, hD⟩, hS.F ht, by rw [ht]; exact hN⟩) hS.2.2 dX6_typeValue_34)))
  · have h_26 : iv 0 7 r_1 := iv_neL c_4 hr_1 (by decide)
    refine lv_bipush (v := 8) hx hb dX6_typeValue_12 (by decide) ?_
    refine lv_iload_n hx hb dX6_typeValue_14 rfl (lv_at hl 0 rfl) ?_
    refine lv_iadd hx hb dX6_typeValue_15 ?_
    refine lv_topi (fun z_27 ez_27 => ?_)
    have hz_27 : iv 8 15 z_27 := iv_of ez_27 (iv_add (iv_k (by decide) : iv 8 8 8) h_26 (by decide))
    have tz_27 : z_27.toInt = 8 + (r_1 : Int32).toInt := by rw [ez_27]; exact iv_addE (iv_k (by decide) : iv 8 8 8) h_26 (by decide)
    exact W.nb (fun hN => W.widen (k := 1) (n := 6) (by decide) (by decide) (vx_ret (W.iret (v := z_27) hx hb hr (fun t ht hW => ⟨⟨some (.int z_27), (sg, gm, lg), rfl, ⟨z_27, rfl, rfl, (iv_w hz_27 (by decide))⟩, by rw [ht]; exact hP, va_K.moved hW.alike hK, hD⟩, hS.F ht, by rw [ht]; exact hN⟩) hS.2.2 dX6_typeValue_16)))

set_option maxHeartbeats 4000000 in
set_option maxRecDepth 100000 in
theorem d_valueToText (l : Launch) (dC : Nat → ClassId) (dI : Nat → Nat → Nat) (ad : Nat → Nat → Nat) (cid : Nat → ClassId) (a2 : Nat → Nat) (lx : List Nat) (sg : Nat → Int32) (gm : Nat → Nat → Int32) (lg : Nat → Nat → Int64) (x : Int32) (o : Int32) (w : Int32) (hI : CI sg gm) (hvx : iv 0 0 x) (hvo : iv 0 79 o) (hvw : iv 0 33 w) (hFA : FA sg gm) (how : o.toInt < (sg 4).toInt) (hVS : VS sg gm) : CMt dC dI ad cid a2 lx l yX6_valueToText wm_X6_valueToText ({ frames := 1, cells := 1, slots := 6, locals := 23 }) [eV (ad 1) x, eV (ad 9) o, eV (ad 33) w] sg gm lg (fun v u => v = none ∧ ∃ (sg2 : Nat → Int32) (gm2 : Nat → Nat → Int32) (lg2 : Nat → Nat → Int64), u = (sg2, gm2, lg2) ∧ CI sg2 gm2 ∧ KS [] sg sg2 ∧ KS [11, 56] gm gm2 ∧ KS [] lg lg2) (fun _ _ => False) := by
  intro sz
  refine vx_ofW (cc := cX6_valueToText) (maxL := 6) (ret := none) (by decide) rfl ?_
  intro p e s m args below meth c s₁ B hml hxt hv
  obtain ⟨rfl, hsz, hP, hK, hD0, hG⟩ := hv
  have hx := B.exec
  have hb := B.bytes
  have hr := B.returns
  have hts := atoms_spec (ws := wm_X6_valueToText) B.pre
  have htb := fun (w : Cond) (h : w ∈ tb) => hts w (List.mem_cons_of_mem _ h)
  have hown : s.vm.findClass RX6 = some m.cls := findClass_of_methodNamed B.named
  have hlocks := B.notSynchronized
  subst hsz
  have hD := hD0.self (sz := s.heap.size)
  generalize hAe : va_A (cW ad cid a2 lx sg gm lg) s.heap.size = A at hD hG ⊢
  have hA : ∀ q : Nat, s.heap.size ≤ q → A q := fun q h => by rw [← hAe]; exact Or.inr h
  have hS : va_S A s.heap s.heap [] := va_S.rf
  have hl := lv_entry ([eV (ad 1) x, eV (ad 9) o, eV (ad 33) w]) (n := 6) (by rw [show (lg_sl ([eV (ad 1) x, eV (ad 9) o, eV (ad 33) w])).length = 3 from by simp [lg_sl, eV_cat, cat_i, cat_l]]; exact Nat.le_of_ble_eq_true rfl)
  rw [lg_entry_eq]
  generalize (lg_sl ([eV (ad 1) x, eV (ad 9) o, eV (ad 33) w]) ++ List.replicate (6 - (lg_sl ([eV (ad 1) x, eV (ad 9) o, eV (ad 33) w])).length) Slot.unset).toArray = ls at hl ⊢
  have hl : lv_has ls 6 [(0, eV (ad 1) x), (1, eV (ad 9) o), (2, eV (ad 33) w)] := by simp [lv_args, eV_cat, cat_i, cat_l] at hl; exact hl
  have hj17 : ∀ (n : Nat) (gm_j17 : Nat → Nat → Int32) (x5_17 : Int32) (x4_17 : Int32) (x3_17 : Int32) (_ : (24 - x5_17.toInt).toNat = n) (_ : iv 0 24 x5_17) (_ : iv 0 24 x4_17) (_ : iv (-1) 239 x3_17) (_ : iv 0 0 x) (_ : iv 0 79 o) (_ : iv 0 33 w) (_ : KS [56] gm gm_j17) (_ : CI sg gm_j17) (_ : (x3_17.toInt = -1 ∧ x4_17.toInt = 0) ∨ (0 ≤ x3_17.toInt ∧ x4_17 = gm 45 x3_17.toNatClampNeg)) (_ : x3_17.toInt < (sg 5).toInt) (H : Heap) (locs : List Loc) (ls : Array Slot), va_P (dC, dI) vwCl (cW ad cid a2 lx sg gm_j17 lg) H → va_D A (cW ad cid a2 lx sg gm_j17 lg) → va_S A s.heap H locs → lv_has ls 6 [(5, .int x5_17), (4, .int x4_17), (3, .int x3_17), (0, eV (ad 1) x), (1, eV (ad 9) o), (2, eV (ad 33) w)] → W p l e (headSpec wm_X6_valueToText ({ frames := 1, cells := 1, slots := 6, locals := 23 })).room s m ([eV (ad 1) x, eV (ad 9) o, eV (ad 33) w] : List Value).toArray below meth c H locs 0 0 (vx_MQ below (cQx dC dI ad cid a2 lx (fun v u => v = none ∧ ∃ (sg2 : Nat → Int32) (gm2 : Nat → Nat → Int32) (lg2 : Nat → Nat → Int64), u = (sg2, gm2, lg2) ∧ CI sg2 gm2 ∧ KS [] sg sg2 ∧ KS [11, 56] gm gm2 ∧ KS [] lg lg2) A) (cX dC dI ad cid a2 lx (fun _ _ => False) A) ([eV (ad 1) x, eV (ad 9) o, eV (ad 33) w] : List Value).toArray s 1 6 A) (F0 m 17 ls []) := by
    intro n
    induction n using Nat.strongRecOn with
    | ind n ih17 =>
      intro gm_j17 x5_17 x4_17 x3_17 hn17 hx5_17 hx4_17 hx3_17 hsx0_17 hsx1_17 hsx2_17 hkg_j17 hI_j17 hV9 h3l H locs ls hP hD hS hl
      refine lv_iload hx hb dX6_valueToText_17 (lv_at hl 0 rfl) ?_
      refine lv_iload hx hb dX6_valueToText_19 (lv_at hl 1 rfl) ?_
      refine lv_icmp_ge (tgt := 44) hx hb dX6_valueToText_21 (by decide) (fun c_1 => ?_) (fun c_1 => ?_)
      · have d_2 : (x4_17 : Int32).toInt ≤ (x5_17 : Int32).toInt := Int32.le_iff_toInt_le.mp c_1
        refine ec_aload_n hx hb dX6_valueToText_44 rfl (lv_at hl 4 rfl) ?_
        refine lv_iload hx hb dX6_valueToText_45 (lv_at hl 1 rfl) ?_
        refine cr_putg (t := 9) (j := 1) (C := RX3) (T := TX3) (N := 21) (ty0 := tyX3) (k := 11) (y := x4_17) hx hb htb inX3 tyX3_ok nmX3 hown hK hP hD hS hsx1_17 (by decide) (by decide) (by decide) (by decide) rfl rfl (by decide) (htb _ kw_695) rfl (by show Value.int x4_17 = Value.int (va_up gm_j17 11 (upd (gm_j17 11) o.toNatClampNeg x4_17) 11 o.toNatClampNeg); rw [va_up_self, upd_at]) rfl rfl dX6_valueToText_47 (fun gm_3 H locs egm_3 hP hD hS => ?_)
        have hI_gm_3 := CI_st hI_j17 egm_3 hx4_17 (by decide)
        exact W.nb (fun hN => W.widen (k := 1) (n := 6) (by decide) (by decide) (vx_ret (W.vret hx hb hr (fun t ht hW => ⟨⟨none, (sg, gm_3, lg), rfl, ⟨rfl, sg, gm_3, lg, rfl, hI_gm_3, KS_rf, (KS_up (KS_tr (L := [11, 56]) KS_rf hkg_j17 (by decide)) egm_3 (by decide)), KS_rf⟩, by rw [ht]; exact hP, va_K.moved hW.alike hK, hD⟩, hS.F ht, by rw [ht]; exact hN⟩) hS.2.2 dX6_valueToText_50)))
      · have d_4 : (x5_17 : Int32).toInt < (x4_17 : Int32).toInt := Int32.lt_iff_toInt_lt.mp (i32_lt c_1)
        have h_5 : iv 0 23 x5_17 := iv_ltL (i32_lt c_1) hx5_17 hx4_17 (by decide)
        have h_6 : iv 1 24 x4_17 := iv_ltR (i32_lt c_1) hx5_17 hx4_17 (by decide)
        obtain ⟨h9z, h9e⟩ : 0 ≤ x3_17.toInt ∧ x4_17 = gm 45 x3_17.toNatClampNeg := hV9.resolve_left (fun q9 => by have := q9.2; have := i32_0; have := i32_1; have := i32_2; have := i32_m1; have := (hsx0_17).1; have := (hsx0_17).2; have := (hsx1_17).1; have := (hsx1_17).2; have := (hsx2_17).1; have := (hsx2_17).2; have := (h_5).1; have := (h_5).2; have := (h_6).1; have := (h_6).2; have := (hx3_17).1; have := (hx3_17).2; omega)
        have h24 : iv 0 239 x3_17 := ⟨h9z, (hx3_17).2⟩
        refine ec_aload_n hx hb dX6_valueToText_24 rfl (lv_at hl 4 rfl) ?_
        refine cr_get (t := 9) (j := 0) (C := RX3) (T := TX3) (N := 21) (v := eV (ad 31) o) hx hb htb inX3 hown hK hP hsx1_17 (by decide) (by decide) (by decide) rfl (by decide) (htb _ kw_694) (cV_c rfl (hsx1_17).1 (by rw [show cMu 9 0 = 1 from rfl, Nat.one_mul]; rfl)) dX6_valueToText_25 ?_
        refine lv_iload hx hb dX6_valueToText_28 (lv_at hl 0 rfl) ?_
        refine ec_aload_n hx hb dX6_valueToText_30 rfl (lv_at hl 3 rfl) ?_
        refine lv_iload_n hx hb dX6_valueToText_31 rfl (lv_at hl 2 rfl) ?_
        refine lv_iload hx hb dX6_valueToText_32 (lv_at hl 0 rfl) ?_
        refine cm_callV (t := 1) (C := RX6) (T := TX6) (N := 8) (rest := [.int x5_17, eV (ad 31) o]) (as := [.int x3_17, .int x5_17]) ⟨hx, hb, hml, hown, htb⟩ (d_valueChar l dC dI ad cid a2 lx sg gm_j17 lg x x3_17 x5_17 hI_j17 hsx0_17 h24 h_5 (VS_e hVS rfl rfl (hkg_j17 44 (by decide)) (hkg_j17 45 (by decide))) h3l (by rw [(hkg_j17 45 (by decide)), ← h9e]; have := i32_0; have := i32_1; have := i32_2; have := i32_m1; have := (hsx0_17).1; have := (hsx0_17).2; have := (hsx1_17).1; have := (hsx1_17).2; have := (hsx2_17).1; have := (hsx2_17).2; have := (h_5).1; have := (h_5).2; have := (h_6).1; have := (h_6).2; have := (h24).1; have := (h24).2; omega)) (cwV 2 htb (gd_V kw_552 kw_553 kw_554 kw_20 kw_1469) rfl rfl rfl (by decide +kernel) ⟨Nat.le_of_ble_eq_true rfl, Nat.le_of_ble_eq_true rfl⟩) hsx0_17 (by decide) (by decide) rfl rfl hl.1 rfl (Nat.le_trans (cs_c (cat_i _) (cs_c (eV_cat _ _) cs_n)) (by decide)) dX6_valueToText_34 ⟨Nat.le_of_ble_eq_true rfl, Nat.le_of_ble_eq_true rfl⟩ hK hP hD hS hA hG (fun E ce q9 u_8 H locs hw hP hD hS hce hcv hcl => ?_) (fun v9 u_8 H locs hw hP hD hS => ?_)
        · exact hw.elim
        obtain ⟨r_7, rfl, rfl, hr_7, fC_r_7⟩ := hw
        have hP : va_P (dC, dI) vwCl (cW ad cid a2 lx sg gm_j17 lg) H := hP
        have hD : va_D A (cW ad cid a2 lx sg gm_j17 lg) := hD
        refine W.eq (g2 := F0 m 37 ls [.int r_7, .int x5_17, eV (ad 31) o]) rfl ?_
        refine cr_cast (t := 31) (k := 56) (n9 := (24 * o.toNatClampNeg + (x5_17 : Int32).toNatClampNeg)) (z := r_7) hx hb hK hP hD hS hsx1_17 (by decide) (by decide) (by decide) rfl rfl rfl (show vp_in x5_17 (cLen 31) from (show vp_in x5_17 24 from (iv_in h_5 (by decide)))) (Or.inr (vin_lt (show vp_in x5_17 (cLen 31) from (show vp_in x5_17 24 from (iv_in h_5 (by decide)))))) rfl dX6_valueToText_37 (fun gm_10 H locs egm_10 hP hD hS => ?_)
        rw [vnc hr_7] at egm_10
        have hI_gm_10 := CI_st hI_j17 egm_10 hr_7 (by decide)
        obtain ⟨z_11, ez_11⟩ : ∃ z : Int32, z = x5_17 + 1 := ⟨_, rfl⟩
        have hz_11 : iv 1 24 z_11 := iv_of ez_11 (iv_add h_5 (iv_k (by decide) : iv 1 1 1) (by decide))
        have tz_11 : z_11.toInt = x5_17.toInt + 1 := by rw [ez_11]; exact iv_addE h_5 (iv_k (by decide) : iv 1 1 1) (by decide)
        refine lv_iinc (v := z_11) (lv' := [(5, .int z_11), (4, .int x4_17), (3, .int x3_17), (0, eV (ad 1) x), (1, eV (ad 9) o), (2, eV (ad 33) w)]) hx hb dX6_valueToText_38 hl (k := 0) rfl ez_11.symm (by decide) rfl (fun ls hl => ?_)
        refine lv_goto (tgt := 17) hx hb dX6_valueToText_41 (by decide) ?_
        exact ih17 _ (by rw [← hn17]; exact (iv_meas tz_11 h_5 (by decide))) gm_10 z_11 x4_17 x3_17 rfl (iv_w hz_11 (by decide)) (iv_w h_6 (by decide)) (iv_w h24 (by decide)) hsx0_17 hsx1_17 hsx2_17 (KS_up (KS_tr (L := [56]) KS_rf hkg_j17 (by decide)) egm_10 (by decide)) hI_gm_10 (hV9) (h3l) _ _ _ hP hD hS (lv_sub hl [0, 1, 2, 3, 4, 5] rfl)
  refine ec_aload_n hx hb dX6_valueToText_0 rfl (lv_at hl 0 rfl) ?_
  refine ec_aload_n hx hb dX6_valueToText_1 rfl (lv_at hl 1 rfl) ?_
  refine ec_aload_n hx hb dX6_valueToText_2 rfl (lv_at hl 2 rfl) ?_
  refine cm_callV (t := 1) (C := RX6) (T := TX6) (N := 8) (rest := []) (as := [eV (ad 9) o, eV (ad 33) w]) ⟨hx, hb, hml, hown, htb⟩ (d_find l dC dI ad cid a2 lx sg gm lg x o w hI hvx hvo hvw hFA how) (cwV 2 htb (gd_V kw_545 kw_546 kw_547 kw_20 kw_1467) rfl rfl rfl (by decide +kernel) ⟨Nat.le_of_ble_eq_true rfl, Nat.le_of_ble_eq_true rfl⟩) hvx (by decide) (by decide) rfl rfl hl.1 rfl (Nat.le_trans cs_n (by decide)) dX6_valueToText_3 ⟨Nat.le_of_ble_eq_true rfl, Nat.le_of_ble_eq_true rfl⟩ hK hP hD hS hA hG (fun E ce q9 u_13 H locs hw hP hD hS hce hcv hcl => ?_) (fun v9 u_13 H locs hw hP hD hS => ?_)
  · exact hw.elim
  obtain ⟨r_12, rfl, rfl, hr_12, fF_r_12, fLt_r_12⟩ := hw
  have hP : va_P (dC, dI) vwCl (cW ad cid a2 lx sg gm lg) H := hP
  have hD : va_D A (cW ad cid a2 lx sg gm lg) := hD
  refine W.eq (g2 := F0 m 6 ls [.int r_12]) rfl ?_
  refine lv_istore_n (i := 3) (lv' := [(3, .int r_12), (0, eV (ad 1) x), (1, eV (ad 9) o), (2, eV (ad 33) w)]) hx hb dX6_valueToText_6 rfl hl (by decide) (by simp [List.filter, eV_cat, cat_i, cat_l]) (fun ls hl => ?_)
  refine ec_aload_n hx hb dX6_valueToText_7 rfl (lv_at hl 1 rfl) ?_
  refine lv_iload_n hx hb dX6_valueToText_8 rfl (lv_at hl 0 rfl) ?_
  refine cm_callV (t := 1) (C := RX6) (T := TX6) (N := 8) (rest := []) (as := [.int r_12]) ⟨hx, hb, hml, hown, htb⟩ (d_valueLength l dC dI ad cid a2 lx sg gm lg x r_12 hI hvx hr_12) (cwV 1 htb (gd_V kw_549 kw_550 kw_551 kw_20 kw_1468) rfl rfl rfl (by decide +kernel) ⟨Nat.le_of_ble_eq_true rfl, Nat.le_of_ble_eq_true rfl⟩) hvx (by decide) (by decide) rfl rfl hl.1 rfl (Nat.le_trans cs_n (by decide)) dX6_valueToText_9 ⟨Nat.le_of_ble_eq_true rfl, Nat.le_of_ble_eq_true rfl⟩ hK hP hD hS hA hG (fun E ce q9 u_16 H locs hw hP hD hS hce hcv hcl => ?_) (fun v9 u_16 H locs hw hP hD hS => ?_)
  · exact hw.elim
  obtain ⟨r_15, rfl, rfl, hr_15, fV_r_15⟩ := hw
  have hP : va_P (dC, dI) vwCl (cW ad cid a2 lx sg gm lg) H := hP
  have hD : va_D A (cW ad cid a2 lx sg gm lg) := hD
  refine W.eq (g2 := F0 m 12 ls [.int r_15]) rfl ?_
  refine lv_istore (i := 4) (lv' := [(4, .int r_15), (3, .int r_12), (0, eV (ad 1) x), (1, eV (ad 9) o), (2, eV (ad 33) w)]) hx hb dX6_valueToText_12 hl (by decide) rfl (fun ls hl => ?_)
  refine lv_iconst (v := 0) hx hb dX6_valueToText_14 (by decide) ?_
  refine lv_istore (i := 5) (lv' := [(5, .int 0), (4, .int r_15), (3, .int r_12), (0, eV (ad 1) x), (1, eV (ad 9) o), (2, eV (ad 33) w)]) hx hb dX6_valueToText_15 hl (by decide) rfl (fun ls hl => ?_)
  exact hj17 _ gm 0 r_15 r_12 rfl (iv_w (iv_k (by decide) : iv 0 0 0) (by decide)) hr_15 hr_12 hvx hvo hvw KS_rf hI (fV_r_15) (fLt_r_12) _ _ _ hP hD hS (lv_sub hl [0, 1, 2, 3, 4, 5] rfl)
