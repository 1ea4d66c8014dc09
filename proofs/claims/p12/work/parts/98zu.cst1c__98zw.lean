section
set_option maxHeartbeats 4000000 in
set_option maxRecDepth 100000 in
theorem d_beanMayHave2 (l : Launch) (dC : Nat → ClassId) (dI : Nat → Nat → Nat) (ad : Nat → Nat → Nat) (cid : Nat → ClassId) (a2 : Nat → Nat) (lx : List Nat) (sg : Nat → Int32) (gm : Nat → Nat → Int32) (lg : Nat → Nat → Int64) (x : Int32) (w : Int32) (b : Int32) (hI : CI sg gm) (hvx : iv 0 0 x) (hvw : iv 0 33 w) (hvb : iv 0 1 b) : CMt dC dI ad cid a2 lx l yX9_beanMayHave wm_X9_beanMayHave ({ frames := 1, cells := 1, slots := 6, locals := 20 }) [eV (ad 3) x, eV (ad 33) w, .int b] sg gm lg (fun v u => ∃ r : Int32, v = some (.int r) ∧ u = (sg, gm, lg) ∧ (iv 0 1 r) ∧ ((r.toInt = 1 ∧ (BM7 (wKy.getD w.toNatClampNeg 0).toInt b.toInt)) ∨ (r.toInt = 0 ∧ ¬ (BM7 (wKy.getD w.toNatClampNeg 0).toInt b.toInt)))) (fun _ _ => False) := by
  intro sz
  refine vx_ofW (cc := cX9_beanMayHave) (maxL := 3) (ret := (some .boolean)) (by decide) rfl ?_
  intro p e s m args below meth c s₁ B hml hxt hv
  obtain ⟨rfl, hsz, hP, hK, hD0, hG⟩ := hv
  have hx := B.exec
  have hb := B.bytes
  have hr := B.returns
  have hts := atoms_spec (ws := wm_X9_beanMayHave) B.pre
  have htb := fun (w : Cond) (h : w ∈ tb) => hts w (List.mem_cons_of_mem _ h)
  have hown : s.vm.findClass RX9 = some m.cls := findClass_of_methodNamed B.named
  have hlocks := B.notSynchronized
  subst hsz
  have hD := hD0.self (sz := s.heap.size)
  generalize hAe : va_A (cW ad cid a2 lx sg gm lg) s.heap.size = A at hD hG ⊢
  have hA : ∀ q : Nat, s.heap.size ≤ q → A q := fun q h => by rw [← hAe]; exact Or.inr h
  have hS : va_S A s.heap s.heap [] := va_S.rf
  have hl := lv_entry ([eV (ad 3) x, eV (ad 33) w, .int b]) (n := 3) (by rw [show (lg_sl ([eV (ad 3) x, eV (ad 33) w, .int b])).length = 3 from by simp [lg_sl, eV_cat, cat_i, cat_l]]; exact Nat.le_of_ble_eq_true rfl)
  rw [lg_entry_eq]
  generalize (lg_sl ([eV (ad 3) x, eV (ad 33) w, .int b]) ++ List.replicate (3 - (lg_sl ([eV (ad 3) x, eV (ad 33) w, .int b])).length) Slot.unset).toArray = ls at hl ⊢
  have hl : lv_has ls 3 [(0, eV (ad 3) x), (1, eV (ad 33) w), (2, .int b)] := by simp [lv_args, eV_cat, cat_i, cat_l] at hl; exact hl
  have hj68 : ∀ (_ : iv 0 0 x) (_ : iv 0 33 w) (_ : iv 0 1 b) (_ : (wKy.getD w.toNatClampNeg 0).toInt = 26980 ∨ (wKy.getD w.toNatClampNeg 0).toInt = 7017298113369039732 ∨ (wKy.getD w.toNatClampNeg 0).toInt = 1818327673) (H : Heap) (locs : List Loc) (ls : Array Slot), va_P (dC, dI) vwCl (cW ad cid a2 lx sg gm lg) H → va_D A (cW ad cid a2 lx sg gm lg) → va_S A s.heap H locs → lv_has ls 3 [(0, eV (ad 3) x), (1, eV (ad 33) w), (2, .int b)] → W p l e (headSpec wm_X9_beanMayHave ({ frames := 1, cells := 1, slots := 6, locals := 20 })).room s m ([eV (ad 3) x, eV (ad 33) w, .int b] : List Value).toArray below meth c H locs 0 0 (vx_MQ below (cQx dC dI ad cid a2 lx (fun v u => ∃ r : Int32, v = some (.int r) ∧ u = (sg, gm, lg) ∧ (iv 0 1 r) ∧ ((r.toInt = 1 ∧ (BM7 (wKy.getD w.toNatClampNeg 0).toInt b.toInt)) ∨ (r.toInt = 0 ∧ ¬ (BM7 (wKy.getD w.toNatClampNeg 0).toInt b.toInt)))) A) (cX dC dI ad cid a2 lx (fun _ _ => False) A) ([eV (ad 3) x, eV (ad 33) w, .int b] : List Value).toArray s 1 6 A) (F0 m 68 ls []) := by
    intro  hsx0_68 hsx1_68 hsx2_68 u68 H locs ls hP hD hS hl
    refine lv_iload_n hx hb dX9_beanMayHave_68 rfl (lv_at hl 2 rfl) ?_
    exact W.nb (fun hN => W.widen (k := 1) (n := 6) (by decide) (by decide) (vx_ret (W.zret (v := b) hx hb hr (iv_nb hsx2_68) (fun t ht hW => ⟨⟨some (.int b), (sg, gm, lg), rfl, ⟨b, rfl, rfl, hsx2_68, ((by have := hvb.1; have := hvb.2; unfold BM7; omega))⟩, by rw [ht]; exact hP, va_K.moved hW.alike hK, hD⟩, hS.F ht, by rw [ht]; exact hN⟩) hS.2.2 dX9_beanMayHave_69)))
  have hj70 : ∀ (_ : iv 0 0 x) (_ : iv 0 33 w) (_ : iv 0 1 b) (_ : (wKy.getD w.toNatClampNeg 0).toInt = 427020088179 ∨ (wKy.getD w.toNatClampNeg 0).toInt = 123563833388660 ∨ (wKy.getD w.toNatClampNeg 0).toInt = 495589486693 ∨ (wKy.getD w.toNatClampNeg 0).toInt = 28817527407604345 ∨ (wKy.getD w.toNatClampNeg 0).toInt = 120282512125796 ∨ (wKy.getD w.toNatClampNeg 0).toInt = 1768843636 ∨ (wKy.getD w.toNatClampNeg 0).toInt = 28259044220366713 ∨ (wKy.getD w.toNatClampNeg 0).toInt = 28259031083541619) (H : Heap) (locs : List Loc) (ls : Array Slot), va_P (dC, dI) vwCl (cW ad cid a2 lx sg gm lg) H → va_D A (cW ad cid a2 lx sg gm lg) → va_S A s.heap H locs → lv_has ls 3 [(0, eV (ad 3) x), (1, eV (ad 33) w), (2, .int b)] → W p l e (headSpec wm_X9_beanMayHave ({ frames := 1, cells := 1, slots := 6, locals := 20 })).room s m ([eV (ad 3) x, eV (ad 33) w, .int b] : List Value).toArray below meth c H locs 0 0 (vx_MQ below (cQx dC dI ad cid a2 lx (fun v u => ∃ r : Int32, v = some (.int r) ∧ u = (sg, gm, lg) ∧ (iv 0 1 r) ∧ ((r.toInt = 1 ∧ (BM7 (wKy.getD w.toNatClampNeg 0).toInt b.toInt)) ∨ (r.toInt = 0 ∧ ¬ (BM7 (wKy.getD w.toNatClampNeg 0).toInt b.toInt)))) A) (cX dC dI ad cid a2 lx (fun _ _ => False) A) ([eV (ad 3) x, eV (ad 33) w, .int b] : List Value).toArray s 1 6 A) (F0 m 70 ls []) := by
    intro  hsx0_70 hsx1_70 hsx2_70 u70 H locs ls hP hD hS hl
    refine lv_iconst (v := 1) hx hb dX9_beanMayHave_70 (by decide) ?_
    exact W.nb (fun hN => W.widen (k := 1) (n := 6) (by decide) (by decide) (vx_ret (W.zret (v := 1) hx hb hr (iv_nb (iv_w (iv_k (by decide) : iv 1 1 1) (by decide))) (fun t ht hW => ⟨⟨some (.int 1), (sg, gm, lg), rfl, ⟨1, rfl, rfl, (iv_w (iv_k (by decide) : iv 1 1 1) (by decide)), (Or.inl ⟨rfl, Or.inr u70⟩)⟩, by rw [ht]; exact hP, va_K.moved hW.alike hK, hD⟩, hS.F ht, by rw [ht]; exact hN⟩) hS.2.2 dX9_beanMayHave_71)))
  refine cw_sw hx hb hG hS hown (htb _ kw_514) dX9_beanMayHave_0 ?_
  refine ec_aload_n hx hb dX9_beanMayHave_3 rfl (lv_at hl 1 rfl) ?_
  refine cw_ord ⟨hx, hb, hml, hown, htb⟩ kw_520 hvw hl.1 (Nat.le_trans (cs_c (eV_cat _ _) cs_n) (by decide)) dX9_beanMayHave_4 ⟨Nat.le_of_ble_eq_true rfl, Nat.le_of_ble_eq_true rfl⟩ ⟨Nat.le_of_ble_eq_true rfl, Nat.le_of_ble_eq_true rfl⟩ hP hD hS hA hG (fun H locs hP hS => ?_)
  refine cw_swld (iv_k (by decide) : iv 0 0 0) hx hb hG hS hvw dX9_beanMayHave_7 ?_
  refine lv_topi (fun z_1 ez_1 => ?_)
  have hz_1 : iv 0 29 z_1 := iv_of ez_1 (sw_iv w)
  by_cases c_2 : (z_1 : Int32).toInt = 16
  · refine lv_tableIn (tgt := 68) hx hb dX9_beanMayHave_8 (by rw [c_2]; decide) (by rw [c_2]; decide) (by rw [c_2]; rfl) (by decide) ?_
    have h_3 : iv 16 16 z_1 := iv_at c_2
    exact hj68 hvx hvw hvb ((by have hK9 : (wKy.getD w.toNatClampNeg 0).toInt = 26980 := wkz (j := 10) hvw (swy 10 16 (by decide) hvw ez_1 c_2) (by decide); omega)) _ _ _ hP hD hS (lv_sub hl [0, 1, 2] rfl)
  by_cases c_4 : (z_1 : Int32).toInt = 17
  · refine lv_tableIn (tgt := 68) hx hb dX9_beanMayHave_8 (by rw [c_4]; decide) (by rw [c_4]; decide) (by rw [c_4]; rfl) (by decide) ?_
    have h_5 : iv 17 17 z_1 := iv_at c_4
    exact hj68 hvx hvw hvb ((by have hK9 : (wKy.getD w.toNatClampNeg 0).toInt = 7017298113369039732 := wkz (j := 13) hvw (swy 13 17 (by decide) hvw ez_1 c_4) (by decide); omega)) _ _ _ hP hD hS (lv_sub hl [0, 1, 2] rfl)
  by_cases c_6 : (z_1 : Int32).toInt = 18
  · refine lv_tableIn (tgt := 68) hx hb dX9_beanMayHave_8 (by rw [c_6]; decide) (by rw [c_6]; decide) (by rw [c_6]; rfl) (by decide) ?_
    have h_7 : iv 18 18 z_1 := iv_at c_6
    exact hj68 hvx hvw hvb ((by have hK9 : (wKy.getD w.toNatClampNeg 0).toInt = 1818327673 := wkz (j := 15) hvw (swy 15 18 (by decide) hvw ez_1 c_6) (by decide); omega)) _ _ _ hP hD hS (lv_sub hl [0, 1, 2] rfl)
  by_cases c_8 : (z_1 : Int32).toInt = 19
  · refine lv_tableIn (tgt := 70) hx hb dX9_beanMayHave_8 (by rw [c_8]; decide) (by rw [c_8]; decide) (by rw [c_8]; rfl) (by decide) ?_
    have h_9 : iv 19 19 z_1 := iv_at c_8
    exact hj70 hvx hvw hvb ((by have hK9 : (wKy.getD w.toNatClampNeg 0).toInt = 427020088179 := wkz (j := 11) hvw (swy 11 19 (by decide) hvw ez_1 c_8) (by decide); omega)) _ _ _ hP hD hS (lv_sub hl [0, 1, 2] rfl)
  by_cases c_10 : (z_1 : Int32).toInt = 20
  · refine lv_tableIn (tgt := 70) hx hb dX9_beanMayHave_8 (by rw [c_10]; decide) (by rw [c_10]; decide) (by rw [c_10]; rfl) (by decide) ?_
    have h_11 : iv 20 20 z_1 := iv_at c_10
    exact hj70 hvx hvw hvb ((by have hK9 : (wKy.getD w.toNatClampNeg 0).toInt = 123563833388660 := wkz (j := 12) hvw (swy 12 20 (by decide) hvw ez_1 c_10) (by decide); omega)) _ _ _ hP hD hS (lv_sub hl [0, 1, 2] rfl)
  by_cases c_12 : (z_1 : Int32).toInt = 21
  · refine lv_tableIn (tgt := 70) hx hb dX9_beanMayHave_8 (by rw [c_12]; decide) (by rw [c_12]; decide) (by rw [c_12]; rfl) (by decide) ?_
    have h_13 : iv 21 21 z_1 := iv_at c_12
    exact hj70 hvx hvw hvb ((by have hK9 : (wKy.getD w.toNatClampNeg 0).toInt = 495589486693 := wkz (j := 14) hvw (swy 14 21 (by decide) hvw ez_1 c_12) (by decide); omega)) _ _ _ hP hD hS (lv_sub hl [0, 1, 2] rfl)
  by_cases c_14 : (z_1 : Int32).toInt = 22
  · refine lv_tableIn (tgt := 70) hx hb dX9_beanMayHave_8 (by rw [c_14]; decide) (by rw [c_14]; decide) (by rw [c_14]; rfl) (by decide) ?_
    have h_15 : iv 22 22 z_1 := iv_at c_14
    exact hj70 hvx hvw hvb ((by have hK9 : (wKy.getD w.toNatClampNeg 0).toInt = 28817527407604345 := wkz (j := 16) hvw (swy 16 22 (by decide) hvw ez_1 c_14) (by decide); omega)) _ _ _ hP hD hS (lv_sub hl [0, 1, 2] rfl)
  by_cases c_16 : (z_1 : Int32).toInt = 23
  · refine lv_tableIn (tgt := 70) hx hb dX9_beanMayHave_8 (by rw [c_16]; decide) (by rw [c_16]; decide) (by rw [c_16]; rfl) (by decide) ?_
    have h_17 : iv 23 23 z_1 := iv_at c_16
    exact hj70 hvx hvw hvb ((by have hK9 : (wKy.getD w.toNatClampNeg 0).toInt = 120282512125796 := wkz (j := 17) hvw (swy 17 23 (by decide) hvw ez_1 c_16) (by decide); omega)) _ _ _ hP hD hS (lv_sub hl [0, 1, 2] rfl)
  by_cases c_18 : (z_1 : Int32).toInt = 24
  · refine lv_tableIn (tgt := 70) hx hb dX9_beanMayHave_8 (by rw [c_18]; decide) (by rw [c_18]; decide) (by rw [c_18]; rfl) (by decide) ?_
    have h_19 : iv 24 24 z_1 := iv_at c_18
    exact hj70 hvx hvw hvb ((by have hK9 : (wKy.getD w.toNatClampNeg 0).toInt = 1768843636 := wkz (j := 18) hvw (swy 18 24 (by decide) hvw ez_1 c_18) (by decide); omega)) _ _ _ hP hD hS (lv_sub hl [0, 1, 2] rfl)
  by_cases c_20 : (z_1 : Int32).toInt = 25
  · refine lv_tableIn (tgt := 70) hx hb dX9_beanMayHave_8 (by rw [c_20]; decide) (by rw [c_20]; decide) (by rw [c_20]; rfl) (by decide) ?_
    have h_21 : iv 25 25 z_1 := iv_at c_20
    exact hj70 hvx hvw hvb ((by have hK9 : (wKy.getD w.toNatClampNeg 0).toInt = 28259044220366713 := wkz (j := 19) hvw (swy 19 25 (by decide) hvw ez_1 c_20) (by decide); omega)) _ _ _ hP hD hS (lv_sub hl [0, 1, 2] rfl)
  by_cases c_22 : (z_1 : Int32).toInt = 26
  · refine lv_tableIn (tgt := 70) hx hb dX9_beanMayHave_8 (by rw [c_22]; decide) (by rw [c_22]; decide) (by rw [c_22]; rfl) (by decide) ?_
    have h_23 : iv 26 26 z_1 := iv_at c_22
    exact hj70 hvx hvw hvb ((by have hK9 : (wKy.getD w.toNatClampNeg 0).toInt = 28259031083541619 := wkz (j := 20) hvw (swy 20 26 (by decide) hvw ez_1 c_22) (by decide); omega)) _ _ _ hP hD hS (lv_sub hl [0, 1, 2] rfl)
  refine lv_tableOut (tgt := 72) hx hb dX9_beanMayHave_8 (by have q1 := (hz_1).1; have q2 := (hz_1).2; omega) (by decide) ?_
  refine lv_iconst (v := 0) hx hb dX9_beanMayHave_72 (by decide) ?_
  exact W.nb (fun hN => W.widen (k := 1) (n := 6) (by decide) (by decide) (vx_ret (W.zret (v := 0) hx hb hr (iv_nb (iv_w (iv_k (by decide) : iv 0 0 0) (by decide))) (fun t ht hW => ⟨⟨some (.int 0), (sg, gm, lg), rfl, ⟨0, rfl, rfl, (iv_w (iv_k (by decide) : iv 0 0 0) (by decide)), (Or.inr ⟨rfl, fun h => by have n_ID := wkn (x := 26980) (j := 10) (by decide) hvw (swx 10 16 (by decide) hvw ez_1 (by omega)); have n_ABSTRACT := wkn (x := 7017298113369039732) (j := 13) (by decide) hvw (swx 13 17 (by decide) hvw ez_1 (by omega)); have n_LAZY := wkn (x := 1818327673) (j := 15) (by decide) hvw (swx 15 18 (by decide) hvw ez_1 (by omega)); have n_CLASS := wkn (x := 427020088179) (j := 11) (by decide) hvw (swx 11 19 (by decide) hvw ez_1 (by omega)); have n_PARENT := wkn (x := 123563833388660) (j := 12) (by decide) hvw (swx 12 20 (by decide) hvw ez_1 (by omega)); have n_SCOPE := wkn (x := 495589486693) (j := 14) (by decide) hvw (swx 14 21 (by decide) hvw ez_1 (by omega)); have n_FACTORY := wkn (x := 28817527407604345) (j := 16) (by decide) hvw (swx 16 22 (by decide) hvw ez_1 (by omega)); have n_METHOD := wkn (x := 120282512125796) (j := 17) (by decide) hvw (swx 17 23 (by decide) hvw ez_1 (by omega)); have n_INIT := wkn (x := 1768843636) (j := 18) (by decide) hvw (swx 18 24 (by decide) hvw ez_1 (by omega)); have n_DESTROY := wkn (x := 28259044220366713) (j := 19) (by decide) hvw (swx 19 25 (by decide) hvw ez_1 (by omega)); have n_DEPENDS := wkn (x := 28259031083541619) (j := 20) (by decide) hvw (swx 20 26 (by decide) hvw ez_1 (by omega)); unfold BM7 at h; omega⟩)⟩, by rw [ht]; exact hP, va_K.moved hW.alike hK, hD⟩, hS.F ht, by rw [ht]; exact hN⟩) hS.2.2 dX9_beanMayHave_73)))

set_option maxHeartbeats 4000000 in
set_option maxRecDepth 100000 in
theorem d_mayHave2 (l : Launch) (dC : Nat → ClassId) (dI : Nat → Nat → Nat) (ad : Nat → Nat → Nat) (cid : Nat → ClassId) (a2 : Nat → Nat) (lx : List Nat) (sg : Nat → Int32) (gm : Nat → Nat → Int32) (lg : Nat → Nat → Int64) (x : Int32) (o : Int32) (w : Int32) (D : List El7) (hI : CI sg gm) (hvx : iv 0 0 x) (hvo : iv 0 79 o) (hvw : iv 0 33 w) (hw0 : 0 ≤ (gm 14 o.toNatClampNeg).toInt) (hEV : EV7 D sg gm lg o.toNatClampNeg) : CMt dC dI ad cid a2 lx l yX9_mayHave wm_X9_mayHave ({ frames := 2, cells := 1, slots := 6, locals := 42 }) [eV (ad 3) x, eV (ad 9) o, eV (ad 33) w] sg gm lg (fun v u => ∃ r : Int32, v = some (.int r) ∧ u = (sg, gm, lg) ∧ (iv 0 1 r) ∧ ((r.toInt = 1 ∧ (MAY (dKd D o.toNatClampNeg) (dIn D o.toNatClampNeg) (wKy.getD w.toNatClampNeg 0).toInt)) ∨ (r.toInt = 0 ∧ ¬ (MAY (dKd D o.toNatClampNeg) (dIn D o.toNatClampNeg) (wKy.getD w.toNatClampNeg 0).toInt)))) (fun _ _ => False) := by
  intro sz
  refine vx_ofW (cc := cX9_mayHave) (maxL := 3) (ret := (some .boolean)) (by decide) rfl ?_
  intro p e s m args below meth c s₁ B hml hxt hv
  obtain ⟨rfl, hsz, hP, hK, hD0, hG⟩ := hv
  have hx := B.exec
  have hb := B.bytes
  have hr := B.returns
  have hts := atoms_spec (ws := wm_X9_mayHave) B.pre
  have htb := fun (w : Cond) (h : w ∈ tb) => hts w (List.mem_cons_of_mem _ h)
  have hown : s.vm.findClass RX9 = some m.cls := findClass_of_methodNamed B.named
  have hlocks := B.notSynchronized
  subst hsz
  have hD := hD0.self (sz := s.heap.size)
  generalize hAe : va_A (cW ad cid a2 lx sg gm lg) s.heap.size = A at hD hG ⊢
  have hA : ∀ q : Nat, s.heap.size ≤ q → A q := fun q h => by rw [← hAe]; exact Or.inr h
  have hS : va_S A s.heap s.heap [] := va_S.rf
  have hl := lv_entry ([eV (ad 3) x, eV (ad 9) o, eV (ad 33) w]) (n := 3) (by rw [show (lg_sl ([eV (ad 3) x, eV (ad 9) o, eV (ad 33) w])).length = 3 from by simp [lg_sl, eV_cat, cat_i, cat_l]]; exact Nat.le_of_ble_eq_true rfl)
  rw [lg_entry_eq]
  generalize (lg_sl ([eV (ad 3) x, eV (ad 9) o, eV (ad 33) w]) ++ List.replicate (3 - (lg_sl ([eV (ad 3) x, eV (ad 9) o, eV (ad 33) w])).length) Slot.unset).toArray = ls at hl ⊢
  have hl : lv_has ls 3 [(0, eV (ad 3) x), (1, eV (ad 9) o), (2, eV (ad 33) w)] := by simp [lv_args, eV_cat, cat_i, cat_l] at hl; exact hl
  have hj75 : ∀ (y0_75 : Int32) (_ : iv 0 0 x) (_ : iv 0 79 o) (_ : iv 0 33 w) (_ : iv 0 1 y0_75) (_ : (y0_75.toInt = 1 ∧ (MAY (dKd D o.toNatClampNeg) (dIn D o.toNatClampNeg) (wKy.getD w.toNatClampNeg 0).toInt)) ∨ (y0_75.toInt = 0 ∧ ¬ (MAY (dKd D o.toNatClampNeg) (dIn D o.toNatClampNeg) (wKy.getD w.toNatClampNeg 0).toInt))) (H : Heap) (locs : List Loc) (ls : Array Slot), va_P (dC, dI) vwCl (cW ad cid a2 lx sg gm lg) H → va_D A (cW ad cid a2 lx sg gm lg) → va_S A s.heap H locs → lv_has ls 3 [(0, eV (ad 3) x), (1, eV (ad 9) o), (2, eV (ad 33) w)] → W p l e (headSpec wm_X9_mayHave ({ frames := 2, cells := 1, slots := 6, locals := 42 })).room s m ([eV (ad 3) x, eV (ad 9) o, eV (ad 33) w] : List Value).toArray below meth c H locs 0 0 (vx_MQ below (cQx dC dI ad cid a2 lx (fun v u => ∃ r : Int32, v = some (.int r) ∧ u = (sg, gm, lg) ∧ (iv 0 1 r) ∧ ((r.toInt = 1 ∧ (MAY (dKd D o.toNatClampNeg) (dIn D o.toNatClampNeg) (wKy.getD w.toNatClampNeg 0).toInt)) ∨ (r.toInt = 0 ∧ ¬ (MAY (dKd D o.toNatClampNeg) (dIn D o.toNatClampNeg) (wKy.getD w.toNatClampNeg 0).toInt)))) A) (cX dC dI ad cid a2 lx (fun _ _ => False) A) ([eV (ad 3) x, eV (ad 9) o, eV (ad 33) w] : List Value).toArray s 1 6 A) (F0 m 75 ls [.int y0_75]) := by
    intro y0_75 hsx0_75 hsx1_75 hsx2_75 hy0_75 u75 H locs ls hP hD hS hl
    exact W.nb (fun hN => W.widen (k := 1) (n := 6) (by decide) (by decide) (vx_ret (W.zret (v := y0_75) hx hb hr (iv_nb hy0_75) (fun t ht hW => ⟨⟨some (.int y0_75), (sg, gm, lg), rfl, ⟨y0_75, rfl, rfl, hy0_75, (u75)⟩, by rw [ht]; exact hP, va_K.moved hW.alike hK, hD⟩, hS.F ht, by rw [ht]; exact hN⟩) hS.2.2 dX9_mayHave_75)))
  have hj70 : ∀ (_ : iv 0 0 x) (_ : iv 0 79 o) (_ : iv 0 33 w) (_ : MAY (dKd D o.toNatClampNeg) (dIn D o.toNatClampNeg) (wKy.getD w.toNatClampNeg 0).toInt) (H : Heap) (locs : List Loc) (ls : Array Slot), va_P (dC, dI) vwCl (cW ad cid a2 lx sg gm lg) H → va_D A (cW ad cid a2 lx sg gm lg) → va_S A s.heap H locs → lv_has ls 3 [(0, eV (ad 3) x), (1, eV (ad 9) o), (2, eV (ad 33) w)] → W p l e (headSpec wm_X9_mayHave ({ frames := 2, cells := 1, slots := 6, locals := 42 })).room s m ([eV (ad 3) x, eV (ad 9) o, eV (ad 33) w] : List Value).toArray below meth c H locs 0 0 (vx_MQ below (cQx dC dI ad cid a2 lx (fun v u => ∃ r : Int32, v = some (.int r) ∧ u = (sg, gm, lg) ∧ (iv 0 1 r) ∧ ((r.toInt = 1 ∧ (MAY (dKd D o.toNatClampNeg) (dIn D o.toNatClampNeg) (wKy.getD w.toNatClampNeg 0).toInt)) ∨ (r.toInt = 0 ∧ ¬ (MAY (dKd D o.toNatClampNeg) (dIn D o.toNatClampNeg) (wKy.getD w.toNatClampNeg 0).toInt)))) A) (cX dC dI ad cid a2 lx (fun _ _ => False) A) ([eV (ad 3) x, eV (ad 9) o, eV (ad 33) w] : List Value).toArray s 1 6 A) (F0 m 70 ls []) := by
    intro  hsx0_70 hsx1_70 hsx2_70 u70 H locs ls hP hD hS hl
    refine lv_iconst (v := 1) hx hb dX9_mayHave_70 (by decide) ?_
    refine lv_goto (tgt := 75) hx hb dX9_mayHave_71 (by decide) ?_
    exact hj75 1 hsx0_70 hsx1_70 hsx2_70 (iv_w (iv_k (by decide) : iv 1 1 1) (by decide)) (Or.inl ⟨rfl, u70⟩) _ _ _ hP hD hS (lv_sub hl [0, 1, 2] rfl)
  have hj122 : ∀ (y0_122 : Int32) (_ : iv 0 0 x) (_ : iv 0 79 o) (_ : iv 0 33 w) (_ : iv 0 1 y0_122) (_ : (y0_122.toInt = 1 ∧ (MAY (dKd D o.toNatClampNeg) (dIn D o.toNatClampNeg) (wKy.getD w.toNatClampNeg 0).toInt)) ∨ (y0_122.toInt = 0 ∧ ¬ (MAY (dKd D o.toNatClampNeg) (dIn D o.toNatClampNeg) (wKy.getD w.toNatClampNeg 0).toInt))) (H : Heap) (locs : List Loc) (ls : Array Slot), va_P (dC, dI) vwCl (cW ad cid a2 lx sg gm lg) H → va_D A (cW ad cid a2 lx sg gm lg) → va_S A s.heap H locs → lv_has ls 3 [(0, eV (ad 3) x), (1, eV (ad 9) o), (2, eV (ad 33) w)] → W p l e (headSpec wm_X9_mayHave ({ frames := 2, cells := 1, slots := 6, locals := 42 })).room s m ([eV (ad 3) x, eV (ad 9) o, eV (ad 33) w] : List Value).toArray below meth c H locs 0 0 (vx_MQ below (cQx dC dI ad cid a2 lx (fun v u => ∃ r : Int32, v = some (.int r) ∧ u = (sg, gm, lg) ∧ (iv 0 1 r) ∧ ((r.toInt = 1 ∧ (MAY (dKd D o.toNatClampNeg) (dIn D o.toNatClampNeg) (wKy.getD w.toNatClampNeg 0).toInt)) ∨ (r.toInt = 0 ∧ ¬ (MAY (dKd D o.toNatClampNeg) (dIn D o.toNatClampNeg) (wKy.getD w.toNatClampNeg 0).toInt)))) A) (cX dC dI ad cid a2 lx (fun _ _ => False) A) ([eV (ad 3) x, eV (ad 9) o, eV (ad 33) w] : List Value).toArray s 1 6 A) (F0 m 122 ls [.int y0_122]) := by
    intro y0_122 hsx0_122 hsx1_122 hsx2_122 hy0_122 u122 H locs ls hP hD hS hl
    exact W.nb (fun hN => W.widen (k := 1) (n := 6) (by decide) (by decide) (vx_ret (W.zret (v := y0_122) hx hb hr (iv_nb hy0_122) (fun t ht hW => ⟨⟨some (.int y0_122), (sg, gm, lg), rfl, ⟨y0_122, rfl, rfl, hy0_122, (u122)⟩, by rw [ht]; exact hP, va_K.moved hW.alike hK, hD⟩, hS.F ht, by rw [ht]; exact hN⟩) hS.2.2 dX9_mayHave_122)))
  have hj117 : ∀ (_ : iv 0 0 x) (_ : iv 0 79 o) (_ : iv 0 33 w) (_ : MAY (dKd D o.toNatClampNeg) (dIn D o.toNatClampNeg) (wKy.getD w.toNatClampNeg 0).toInt) (H : Heap) (locs : List Loc) (ls : Array Slot), va_P (dC, dI) vwCl (cW ad cid a2 lx sg gm lg) H → va_D A (cW ad cid a2 lx sg gm lg) → va_S A s.heap H locs → lv_has ls 3 [(0, eV (ad 3) x), (1, eV (ad 9) o), (2, eV (ad 33) w)] → W p l e (headSpec wm_X9_mayHave ({ frames := 2, cells := 1, slots := 6, locals := 42 })).room s m ([eV (ad 3) x, eV (ad 9) o, eV (ad 33) w] : List Value).toArray below meth c H locs 0 0 (vx_MQ below (cQx dC dI ad cid a2 lx (fun v u => ∃ r : Int32, v = some (.int r) ∧ u = (sg, gm, lg) ∧ (iv 0 1 r) ∧ ((r.toInt = 1 ∧ (MAY (dKd D o.toNatClampNeg) (dIn D o.toNatClampNeg) (wKy.getD w.toNatClampNeg 0).toInt)) ∨ (r.toInt = 0 ∧ ¬ (MAY (dKd D o.toNatClampNeg) (dIn D o.toNatClampNeg) (wKy.getD w.toNatClampNeg 0).toInt)))) A) (cX dC dI ad cid a2 lx (fun _ _ => False) A) ([eV (ad 3) x, eV (ad 9) o, eV (ad 33) w] : List Value).toArray s 1 6 A) (F0 m 117 ls []) := by
    intro  hsx0_117 hsx1_117 hsx2_117 u117 H locs ls hP hD hS hl
    refine lv_iconst (v := 1) hx hb dX9_mayHave_117 (by decide) ?_
    refine lv_goto (tgt := 122) hx hb dX9_mayHave_118 (by decide) ?_
    exact hj122 1 hsx0_117 hsx1_117 hsx2_117 (iv_w (iv_k (by decide) : iv 1 1 1) (by decide)) (Or.inl ⟨rfl, u117⟩) _ _ _ hP hD hS (lv_sub hl [0, 1, 2] rfl)
  have hj149 : ∀ (y0_149 : Int32) (_ : iv 0 0 x) (_ : iv 0 79 o) (_ : iv 0 33 w) (_ : iv 0 1 y0_149) (_ : (y0_149.toInt = 1 ∧ (MAY (dKd D o.toNatClampNeg) (dIn D o.toNatClampNeg) (wKy.getD w.toNatClampNeg 0).toInt)) ∨ (y0_149.toInt = 0 ∧ ¬ (MAY (dKd D o.toNatClampNeg) (dIn D o.toNatClampNeg) (wKy.getD w.toNatClampNeg 0).toInt))) (H : Heap) (locs : List Loc) (ls : Array Slot), va_P (dC, dI) vwCl (cW ad cid a2 lx sg gm lg) H → va_D A (cW ad cid a2 lx sg gm lg) → va_S A s.heap H locs → lv_has ls 3 [(0, eV (ad 3) x), (1, eV (ad 9) o), (2, eV (ad 33) w)] → W p l e (headSpec wm_X9_mayHave ({ frames := 2, cells := 1, slots := 6, locals := 42 })).room s m ([eV (ad 3) x, eV (ad 9) o, eV (ad 33) w] : List Value).toArray below meth c H locs 0 0 (vx_MQ below (cQx dC dI ad cid a2 lx (fun v u => ∃ r : Int32, v = some (.int r) ∧ u = (sg, gm, lg) ∧ (iv 0 1 r) ∧ ((r.toInt = 1 ∧ (MAY (dKd D o.toNatClampNeg) (dIn D o.toNatClampNeg) (wKy.getD w.toNatClampNeg 0).toInt)) ∨ (r.toInt = 0 ∧ ¬ (MAY (dKd D o.toNatClampNeg) (dIn D o.toNatClampNeg) (wKy.getD w.toNatClampNeg 0).toInt)))) A) (cX dC dI ad cid a2 lx (fun _ _ => False) A) ([eV (ad 3) x, eV (ad 9) o, eV (ad 33) w] : List Value).toArray s 1 6 A) (F0 m 149 ls [.int y0_149]) := by
    intro y0_149 hsx0_149 hsx1_149 hsx2_149 hy0_149 u149 H locs ls hP hD hS hl
    exact W.nb (fun hN => W.widen (k := 1) (n := 6) (by decide) (by decide) (vx_ret (W.zret (v := y0_149) hx hb hr (iv_nb hy0_149) (fun t ht hW => ⟨⟨some (.int y0_149), (sg, gm, lg), rfl, ⟨y0_149, rfl, rfl, hy0_149, (u149)⟩, by rw [ht]; exact hP, va_K.moved hW.alike hK, hD⟩, hS.F ht, by rw [ht]; exact hN⟩) hS.2.2 dX9_mayHave_149)))
  have hj144 : ∀ (_ : iv 0 0 x) (_ : iv 0 79 o) (_ : iv 0 33 w) (_ : MAY (dKd D o.toNatClampNeg) (dIn D o.toNatClampNeg) (wKy.getD w.toNatClampNeg 0).toInt) (H : Heap) (locs : List Loc) (ls : Array Slot), va_P (dC, dI) vwCl (cW ad cid a2 lx sg gm lg) H → va_D A (cW ad cid a2 lx sg gm lg) → va_S A s.heap H locs → lv_has ls 3 [(0, eV (ad 3) x), (1, eV (ad 9) o), (2, eV (ad 33) w)] → W p l e (headSpec wm_X9_mayHave ({ frames := 2, cells := 1, slots := 6, locals := 42 })).room s m ([eV (ad 3) x, eV (ad 9) o, eV (ad 33) w] : List Value).toArray below meth c H locs 0 0 (vx_MQ below (cQx dC dI ad cid a2 lx (fun v u => ∃ r : Int32, v = some (.int r) ∧ u = (sg, gm, lg) ∧ (iv 0 1 r) ∧ ((r.toInt = 1 ∧ (MAY (dKd D o.toNatClampNeg) (dIn D o.toNatClampNeg) (wKy.getD w.toNatClampNeg 0).toInt)) ∨ (r.toInt = 0 ∧ ¬ (MAY (dKd D o.toNatClampNeg) (dIn D o.toNatClampNeg) (wKy.getD w.toNatClampNeg 0).toInt)))) A) (cX dC dI ad cid a2 lx (fun _ _ => False) A) ([eV (ad 3) x, eV (ad 9) o, eV (ad 33) w] : List Value).toArray s 1 6 A) (F0 m 144 ls []) := by
    intro  hsx0_144 hsx1_144 hsx2_144 u144 H locs ls hP hD hS hl
    refine lv_iconst (v := 1) hx hb dX9_mayHave_144 (by decide) ?_
    refine lv_goto (tgt := 149) hx hb dX9_mayHave_145 (by decide) ?_
    exact hj149 1 hsx0_144 hsx1_144 hsx2_144 (iv_w (iv_k (by decide) : iv 1 1 1) (by decide)) (Or.inl ⟨rfl, u144⟩) _ _ _ hP hD hS (lv_sub hl [0, 1, 2] rfl)
  have hj182 : ∀ (y0_182 : Int32) (_ : iv 0 0 x) (_ : iv 0 79 o) (_ : iv 0 33 w) (_ : iv 0 1 y0_182) (_ : (y0_182.toInt = 1 ∧ (MAY (dKd D o.toNatClampNeg) (dIn D o.toNatClampNeg) (wKy.getD w.toNatClampNeg 0).toInt)) ∨ (y0_182.toInt = 0 ∧ ¬ (MAY (dKd D o.toNatClampNeg) (dIn D o.toNatClampNeg) (wKy.getD w.toNatClampNeg 0).toInt))) (H : Heap) (locs : List Loc) (ls : Array Slot), va_P (dC, dI) vwCl (cW ad cid a2 lx sg gm lg) H → va_D A (cW ad cid a2 lx sg gm lg) → va_S A s.heap H locs → lv_has ls 3 [(0, eV (ad 3) x), (1, eV (ad 9) o), (2, eV (ad 33) w)] → W p l e (headSpec wm_X9_mayHave ({ frames := 2, cells := 1, slots := 6, locals := 42 })).room s m ([eV (ad 3) x, eV (ad 9) o, eV (ad 33) w] : List Value).toArray below meth c H locs 0 0 (vx_MQ below (cQx dC dI ad cid a2 lx (fun v u => ∃ r : Int32, v = some (.int r) ∧ u = (sg, gm, lg) ∧ (iv 0 1 r) ∧ ((r.toInt = 1 ∧ (MAY (dKd D o.toNatClampNeg) (dIn D o.toNatClampNeg) (wKy.getD w.toNatClampNeg 0).toInt)) ∨ (r.toInt = 0 ∧ ¬ (MAY (dKd D o.toNatClampNeg) (dIn D o.toNatClampNeg) (wKy.getD w.toNatClampNeg 0).toInt)))) A) (cX dC dI ad cid a2 lx (fun _ _ => False) A) ([eV (ad 3) x, eV (ad 9) o, eV (ad 33) w] : List Value).toArray s 1 6 A) (F0 m 182 ls [.int y0_182]) := by
    intro y0_182 hsx0_182 hsx1_182 hsx2_182 hy0_182 u182 H locs ls hP hD hS hl
    exact W.nb (fun hN => W.widen (k := 1) (n := 6) (by decide) (by decide) (vx_ret (W.zret (v := y0_182) hx hb hr (iv_nb hy0_182) (fun t ht hW => ⟨⟨some (.int y0_182), (sg, gm, lg), rfl, ⟨y0_182, rfl, rfl, hy0_182, (u182)⟩, by rw [ht]; exact hP, va_K.moved hW.alike hK, hD⟩, hS.F ht, by rw [ht]; exact hN⟩) hS.2.2 dX9_mayHave_182)))
  have hj177 : ∀ (_ : iv 0 0 x) (_ : iv 0 79 o) (_ : iv 0 33 w) (_ : MAY (dKd D o.toNatClampNeg) (dIn D o.toNatClampNeg) (wKy.getD w.toNatClampNeg 0).toInt) (H : Heap) (locs : List Loc) (ls : Array Slot), va_P (dC, dI) vwCl (cW ad cid a2 lx sg gm lg) H → va_D A (cW ad cid a2 lx sg gm lg) → va_S A s.heap H locs → lv_has ls 3 [(0, eV (ad 3) x), (1, eV (ad 9) o), (2, eV (ad 33) w)] → W p l e (headSpec wm_X9_mayHave ({ frames := 2, cells := 1, slots := 6, locals := 42 })).room s m ([eV (ad 3) x, eV (ad 9) o, eV (ad 33) w] : List Value).toArray below meth c H locs 0 0 (vx_MQ below (cQx dC dI ad cid a2 lx (fun v u => ∃ r : Int32, v = some (.int r) ∧ u = (sg, gm, lg) ∧ (iv 0 1 r) ∧ ((r.toInt = 1 ∧ (MAY (dKd D o.toNatClampNeg) (dIn D o.toNatClampNeg) (wKy.getD w.toNatClampNeg 0).toInt)) ∨ (r.toInt = 0 ∧ ¬ (MAY (dKd D o.toNatClampNeg) (dIn D o.toNatClampNeg) (wKy.getD w.toNatClampNeg 0).toInt)))) A) (cX dC dI ad cid a2 lx (fun _ _ => False) A) ([eV (ad 3) x, eV (ad 9) o, eV (ad 33) w] : List Value).toArray s 1 6 A) (F0 m 177 ls []) := by
    intro  hsx0_177 hsx1_177 hsx2_177 u177 H locs ls hP hD hS hl
    refine lv_iconst (v := 1) hx hb dX9_mayHave_177 (by decide) ?_
    refine lv_goto (tgt := 182) hx hb dX9_mayHave_178 (by decide) ?_
    exact hj182 1 hsx0_177 hsx1_177 hsx2_177 (iv_w (iv_k (by decide) : iv 1 1 1) (by decide)) (Or.inl ⟨rfl, u177⟩) _ _ _ hP hD hS (lv_sub hl [0, 1, 2] rfl)
  have hj183 : ∀ (_ : iv 0 0 x) (_ : iv 0 79 o) (_ : iv 0 33 w) (_ : ¬ MAY (dKd D o.toNatClampNeg) (dIn D o.toNatClampNeg) (wKy.getD w.toNatClampNeg 0).toInt) (H : Heap) (locs : List Loc) (ls : Array Slot), va_P (dC, dI) vwCl (cW ad cid a2 lx sg gm lg) H → va_D A (cW ad cid a2 lx sg gm lg) → va_S A s.heap H locs → lv_has ls 3 [(0, eV (ad 3) x), (1, eV (ad 9) o), (2, eV (ad 33) w)] → W p l e (headSpec wm_X9_mayHave ({ frames := 2, cells := 1, slots := 6, locals := 42 })).room s m ([eV (ad 3) x, eV (ad 9) o, eV (ad 33) w] : List Value).toArray below meth c H locs 0 0 (vx_MQ below (cQx dC dI ad cid a2 lx (fun v u => ∃ r : Int32, v = some (.int r) ∧ u = (sg, gm, lg) ∧ (iv 0 1 r) ∧ ((r.toInt = 1 ∧ (MAY (dKd D o.toNatClampNeg) (dIn D o.toNatClampNeg) (wKy.getD w.toNatClampNeg 0).toInt)) ∨ (r.toInt = 0 ∧ ¬ (MAY (dKd D o.toNatClampNeg) (dIn D o.toNatClampNeg) (wKy.getD w.toNatClampNeg 0).toInt)))) A) (cX dC dI ad cid a2 lx (fun _ _ => False) A) ([eV (ad 3) x, eV (ad 9) o, eV (ad 33) w] : List Value).toArray s 1 6 A) (F0 m 183 ls []) := by
    intro  hsx0_183 hsx1_183 hsx2_183 u183 H locs ls hP hD hS hl
    refine lv_iconst (v := 0) hx hb dX9_mayHave_183 (by decide) ?_
    exact W.nb (fun hN => W.widen (k := 1) (n := 6) (by decide) (by decide) (vx_ret (W.zret (v := 0) hx hb hr (iv_nb (iv_w (iv_k (by decide) : iv 0 0 0) (by decide))) (fun t ht hW => ⟨⟨some (.int 0), (sg, gm, lg), rfl, ⟨0, rfl, rfl, (iv_w (iv_k (by decide) : iv 0 0 0) (by decide)), (Or.inr ⟨rfl, u183⟩)⟩, by rw [ht]; exact hP, va_K.moved hW.alike hK, hD⟩, hS.F ht, by rw [ht]; exact hN⟩) hS.2.2 dX9_mayHave_184)))
  have hj162 : ∀ (y0_162 : Int32) (_ : iv 0 0 x) (_ : iv 0 79 o) (_ : iv 0 33 w) (_ : iv 0 1 y0_162) (_ : (y0_162.toInt = 1 ∧ (MAY (dKd D o.toNatClampNeg) (dIn D o.toNatClampNeg) (wKy.getD w.toNatClampNeg 0).toInt)) ∨ (y0_162.toInt = 0 ∧ ¬ (MAY (dKd D o.toNatClampNeg) (dIn D o.toNatClampNeg) (wKy.getD w.toNatClampNeg 0).toInt))) (H : Heap) (locs : List Loc) (ls : Array Slot), va_P (dC, dI) vwCl (cW ad cid a2 lx sg gm lg) H → va_D A (cW ad cid a2 lx sg gm lg) → va_S A s.heap H locs → lv_has ls 3 [(0, eV (ad 3) x), (1, eV (ad 9) o), (2, eV (ad 33) w)] → W p l e (headSpec wm_X9_mayHave ({ frames := 2, cells := 1, slots := 6, locals := 42 })).room s m ([eV (ad 3) x, eV (ad 9) o, eV (ad 33) w] : List Value).toArray below meth c H locs 0 0 (vx_MQ below (cQx dC dI ad cid a2 lx (fun v u => ∃ r : Int32, v = some (.int r) ∧ u = (sg, gm, lg) ∧ (iv 0 1 r) ∧ ((r.toInt = 1 ∧ (MAY (dKd D o.toNatClampNeg) (dIn D o.toNatClampNeg) (wKy.getD w.toNatClampNeg 0).toInt)) ∨ (r.toInt = 0 ∧ ¬ (MAY (dKd D o.toNatClampNeg) (dIn D o.toNatClampNeg) (wKy.getD w.toNatClampNeg 0).toInt)))) A) (cX dC dI ad cid a2 lx (fun _ _ => False) A) ([eV (ad 3) x, eV (ad 9) o, eV (ad 33) w] : List Value).toArray s 1 6 A) (F0 m 162 ls [.int y0_162]) := by
    intro y0_162 hsx0_162 hsx1_162 hsx2_162 hy0_162 u162 H locs ls hP hD hS hl
    exact W.nb (fun hN => W.widen (k := 1) (n := 6) (by decide) (by decide) (vx_ret (W.zret (v := y0_162) hx hb hr (iv_nb hy0_162) (fun t ht hW => ⟨⟨some (.int y0_162), (sg, gm, lg), rfl, ⟨y0_162, rfl, rfl, hy0_162, (u162)⟩, by rw [ht]; exact hP, va_K.moved hW.alike hK, hD⟩, hS.F ht, by rw [ht]; exact hN⟩) hS.2.2 dX9_mayHave_162)))
  refine cw_sw hx hb hG hS hown (htb _ kw_514) dX9_mayHave_0 ?_
  refine ec_aload_n hx hb dX9_mayHave_3 rfl (lv_at hl 1 rfl) ?_
  refine cr_get (t := 9) (j := 4) (C := RX3) (T := TX3) (N := 21) (v := eV (ad 33) (gm 14 o.toNatClampNeg)) hx hb htb inX3 hown hK hP hvo (by decide) (by decide) (by decide) rfl (by decide) (htb _ kw_508) rfl dX9_mayHave_4 ?_
  obtain ⟨z_1, ez_1⟩ : ∃ z : Int32, z = (gm 14 o.toNatClampNeg) := ⟨_, rfl⟩
  refine W.eq (g2 := F0 m 7 ls [eV (ad 33) z_1, eV (ad 36) 0]) (by rw [ez_1]) ?_
  have hz_1 : iv (-1) 33 z_1 := iv_of ez_1 (CI_a hI 14 hvo (by decide))
  have h_2 : iv 0 33 z_1 := ⟨by rw [ez_1]; exact hw0, (hz_1).2⟩
  refine cw_ord ⟨hx, hb, hml, hown, htb⟩ kw_520 h_2 hl.1 (Nat.le_trans (cs_c (eV_cat _ _) cs_n) (by decide)) dX9_mayHave_7 ⟨Nat.le_of_ble_eq_true rfl, Nat.le_of_ble_eq_true rfl⟩ ⟨Nat.le_of_ble_eq_true rfl, Nat.le_of_ble_eq_true rfl⟩ hP hD hS hA hG (fun H locs hP hS => ?_)
  refine cw_swld (iv_k (by decide) : iv 0 0 0) hx hb hG hS h_2 dX9_mayHave_10 ?_
  refine lv_topi (fun z_3 ez_3 => ?_)
  have hz_3 : iv 0 29 z_3 := iv_of ez_3 (sw_iv z_1)
  by_cases c_4 : (z_3 : Int32).toInt = 7
  · refine lv_tableIn (tgt := 56) hx hb dX9_mayHave_11 (by rw [c_4]; decide) (by rw [c_4]; decide) (by rw [c_4]; rfl) (by decide) ?_
    have h_5 : iv 7 7 z_3 := iv_at c_4
    refine ec_aload_n hx hb dX9_mayHave_56 rfl (lv_at hl 2 rfl) ?_
    refine cw_word (k := 21) (kx := 21) hx hb hG hS (by decide) rfl ⟨by decide, by decide⟩ hown (htb _ kw_541) dX9_mayHave_57 ?_
    refine ec_acmp_eq (tgt := 70) hx hb dX9_mayHave_60 (by decide) (fun c_6 => ?_) (fun c_6 => ?_)
    · have wc_6 : w.toInt = (21 : Int) := er_wd hG (iv_w hvw (by decide)) (iv_w (iv_k (by decide) : iv 21 21 21) (by decide)) c_6
      exact hj70 hvx hvo hvw ((by have hkd : dKd D o.toNatClampNeg = 2 := KW_f hEV.1 (by unfold KW7; rw [show (gm 14 o.toNatClampNeg).toInt = (1 : Int) from (by rw [← ez_1]; exact swy 1 7 (by decide) (h_2) ez_3 c_4)]; decide); rw [hkd, MAY_2]; have k_NAME := wkz (w := w) (j := 21) (x := 1851878757) hvw (by have := wc_6; omega) (by decide); omega)) _ _ _ hP hD hS (lv_sub hl [0, 1, 2] rfl)
    · have wc_6 : ¬ w.toInt = (21 : Int) := fun q9 => c_6 (congrArg (er (ad 33)) (Int32.toInt_inj.mp q9))
      refine ec_aload_n hx hb dX9_mayHave_63 rfl (lv_at hl 2 rfl) ?_
      refine cw_word (k := 22) (kx := 22) hx hb hG hS (by decide) rfl ⟨by decide, by decide⟩ hown (htb _ kw_567) dX9_mayHave_64 ?_
      refine ec_acmp_ne (tgt := 74) hx hb dX9_mayHave_67 (by decide) (fun c_7 => ?_) (fun c_7 => ?_)
      · have wc_7 : ¬ w.toInt = (22 : Int) := fun q9 => c_7 (congrArg (er (ad 33)) (Int32.toInt_inj.mp q9))
        refine lv_iconst (v := 0) hx hb dX9_mayHave_74 (by decide) ?_
        exact hj75 0 hvx hvo hvw (iv_w (iv_k (by decide) : iv 0 0 0) (by decide)) (Or.inr ⟨rfl, (fun q9 => by have hkd : dKd D o.toNatClampNeg = 2 := KW_f hEV.1 (by unfold KW7; rw [show (gm 14 o.toNatClampNeg).toInt = (1 : Int) from (by rw [← ez_1]; exact swy 1 7 (by decide) (h_2) ez_3 c_4)]; decide); rw [hkd, MAY_2] at q9; have k_NAME := wkn (w := w) (x := 1851878757) (j := 21) (by decide) hvw (by have := wc_6; omega); have k_TO := wkn (w := w) (x := 29807) (j := 22) (by decide) hvw (by have := wc_7; omega); omega)⟩) _ _ _ hP hD hS (lv_sub hl [0, 1, 2] rfl)
      · have wc_7 : w.toInt = (22 : Int) := er_wd hG (iv_w hvw (by decide)) (iv_w (iv_k (by decide) : iv 22 22 22) (by decide)) c_7
        exact hj70 hvx hvo hvw ((by have hkd : dKd D o.toNatClampNeg = 2 := KW_f hEV.1 (by unfold KW7; rw [show (gm 14 o.toNatClampNeg).toInt = (1 : Int) from (by rw [← ez_1]; exact swy 1 7 (by decide) (h_2) ez_3 c_4)]; decide); rw [hkd, MAY_2]; have k_NAME := wkn (w := w) (x := 1851878757) (j := 21) (by decide) hvw (by have := wc_6; omega); have k_TO := wkz (w := w) (j := 22) (x := 29807) hvw (by have := wc_7; omega) (by decide); omega)) _ _ _ hP hD hS (lv_sub hl [0, 1, 2] rfl)
  by_cases c_8 : (z_3 : Int32).toInt = 8
  · refine lv_tableIn (tgt := 76) hx hb dX9_mayHave_11 (by rw [c_8]; decide) (by rw [c_8]; decide) (by rw [c_8]; rfl) (by decide) ?_
    have h_9 : iv 8 8 z_3 := iv_at c_8
    refine ec_aload_n hx hb dX9_mayHave_76 rfl (lv_at hl 0 rfl) ?_
    refine ec_aload_n hx hb dX9_mayHave_77 rfl (lv_at hl 2 rfl) ?_
    refine ec_aload_n hx hb dX9_mayHave_78 rfl (lv_at hl 1 rfl) ?_
    refine cw_word (k := 0) (kx := 0) hx hb hG hS (by decide) rfl ⟨by decide, by decide⟩ hown (htb _ kw_516) dX9_mayHave_79 ?_
    refine cm_callV (t := 9) (C := RX3) (T := TX3) (N := 21) (rest := [eV (ad 33) w, eV (ad 3) x]) (as := [eV (ad 33) 0]) ⟨hx, hb, hml, hown, htb⟩ (d_isIn2 l dC dI ad cid a2 lx sg gm lg o 0 hI hvo (iv_w (iv_k (by decide) : iv 0 0 0) (by decide))) (cwV 1 htb (gd_V kw_526 kw_527 kw_528 kw_66 kw_1462) rfl rfl rfl (by decide +kernel) ⟨Nat.le_of_ble_eq_true rfl, Nat.le_of_ble_eq_true rfl⟩) hvo (by decide) (by decide) rfl rfl hl.1 rfl (Nat.le_trans (cs_c (eV_cat _ _) (cs_c (eV_cat _ _) cs_n)) (by decide)) dX9_mayHave_82 ⟨Nat.le_of_ble_eq_true rfl, Nat.le_of_ble_eq_true rfl⟩ hK hP hD hS hA hG (fun E ce q9 u_11 H locs hw hP hD hS hce hcv hcl => ?_) (fun v9 u_11 H locs hw hP hD hS => ?_)
    · exact hw.elim
    obtain ⟨r_10, rfl, rfl, hr_10, fI_r_10⟩ := hw
    have hP : va_P (dC, dI) vwCl (cW ad cid a2 lx sg gm lg) H := hP
    have hD : va_D A (cW ad cid a2 lx sg gm lg) := hD
    refine W.eq (g2 := F0 m 85 ls [.int r_10, eV (ad 33) w, eV (ad 3) x]) rfl ?_
    have gI_r_10 : (r_10.toInt = 1 ∧ dIn D o.toNatClampNeg = 1) ∨ (r_10.toInt = 0 ∧ ¬ dIn D o.toNatClampNeg = 1) := by rw [← ISI_d hEV (a := 0) (K := 1) (by unfold KW7; decide) (by decide)]; exact fI_r_10
    refine cm_callV (t := 3) (C := RX9) (T := TX9) (N := 1) (rest := []) (as := [eV (ad 33) w, .int r_10]) ⟨hx, hb, hml, hown, htb⟩ (d_beanMayHave2 l dC dI ad cid a2 lx sg gm lg x w r_10 hI hvx hvw hr_10) (cwV 2 htb (gd_V kw_571 kw_572 kw_573 kw_28 kw_1473) rfl rfl rfl (by decide +kernel) ⟨Nat.le_of_ble_eq_true rfl, Nat.le_of_ble_eq_true rfl⟩) hvx (by decide) (by decide) rfl rfl hl.1 rfl (Nat.le_trans cs_n (by decide)) dX9_mayHave_85 ⟨Nat.le_of_ble_eq_true rfl, Nat.le_of_ble_eq_true rfl⟩ hK hP hD hS hA hG (fun E ce q9 u_14 H locs hw hP hD hS hce hcv hcl => ?_) (fun v9 u_14 H locs hw hP hD hS => ?_)
    · exact hw.elim
    obtain ⟨r_13, rfl, rfl, hr_13, fB_r_13⟩ := hw
    have hP : va_P (dC, dI) vwCl (cW ad cid a2 lx sg gm lg) H := hP
    have hD : va_D A (cW ad cid a2 lx sg gm lg) := hD
    refine W.eq (g2 := F0 m 88 ls [.int r_13]) rfl ?_
    exact W.nb (fun hN => W.widen (k := 1) (n := 6) (by decide) (by decide) (vx_ret (W.zret (v := r_13) hx hb hr (iv_nb hr_13) (fun t ht hW => ⟨⟨some (.int r_13), (sg, gm, lg), rfl, ⟨r_13, rfl, rfl, hr_13, ((by have hkd : dKd D o.toNatClampNeg = 3 := KW_f hEV.1 (by unfold KW7; rw [show (gm 14 o.toNatClampNeg).toInt = (2 : Int) from (by rw [← ez_1]; exact swy 2 8 (by decide) (h_2) ez_3 c_8)]; decide); rw [MAY_b hkd gI_r_10]; exact fB_r_13))⟩, by rw [ht]; exact hP, va_K.moved hW.alike hK, hD⟩, hS.F ht, by rw [ht]; exact hN⟩) hS.2.2 dX9_mayHave_88)))
  by_cases c_16 : (z_3 : Int32).toInt = 9
  · refine lv_tableIn (tgt := 89) hx hb dX9_mayHave_11 (by rw [c_16]; decide) (by rw [c_16]; decide) (by rw [c_16]; rfl) (by decide) ?_
    have h_17 : iv 9 9 z_3 := iv_at c_16
    refine ec_aload_n hx hb dX9_mayHave_89 rfl (lv_at hl 2 rfl) ?_
    refine cw_word (k := 23) (kx := 23) hx hb hG hS (by decide) rfl ⟨by decide, by decide⟩ hown (htb _ kw_568) dX9_mayHave_90 ?_
    refine ec_acmp_eq (tgt := 117) hx hb dX9_mayHave_93 (by decide) (fun c_18 => ?_) (fun c_18 => ?_)
    · have wc_18 : w.toInt = (23 : Int) := er_wd hG (iv_w hvw (by decide)) (iv_w (iv_k (by decide) : iv 23 23 23) (by decide)) c_18
      exact hj117 hvx hvo hvw ((by have hkd : dKd D o.toNatClampNeg = 4 := KW_f hEV.1 (by unfold KW7; rw [show (gm 14 o.toNatClampNeg).toInt = (3 : Int) from (by rw [← ez_1]; exact swy 3 9 (by decide) (h_2) ez_3 c_16)]; decide); rw [hkd, MAY_4]; have k_AT := wkz (w := w) (j := 23) (x := 24948) hvw (by have := wc_18; omega) (by decide); omega)) _ _ _ hP hD hS (lv_sub hl [0, 1, 2] rfl)
    · have wc_18 : ¬ w.toInt = (23 : Int) := fun q9 => c_18 (congrArg (er (ad 33)) (Int32.toInt_inj.mp q9))
      refine ec_aload_n hx hb dX9_mayHave_96 rfl (lv_at hl 2 rfl) ?_
      refine cw_word (k := 24) (kx := 24) hx hb hG hS (by decide) rfl ⟨by decide, by decide⟩ hown (htb _ kw_569) dX9_mayHave_97 ?_
      refine ec_acmp_eq (tgt := 117) hx hb dX9_mayHave_100 (by decide) (fun c_19 => ?_) (fun c_19 => ?_)
      · have wc_19 : w.toInt = (24 : Int) := er_wd hG (iv_w hvw (by decide)) (iv_w (iv_k (by decide) : iv 24 24 24) (by decide)) c_19
        exact hj117 hvx hvo hvw ((by have hkd : dKd D o.toNatClampNeg = 4 := KW_f hEV.1 (by unfold KW7; rw [show (gm 14 o.toNatClampNeg).toInt = (3 : Int) from (by rw [← ez_1]; exact swy 3 9 (by decide) (h_2) ez_3 c_16)]; decide); rw [hkd, MAY_4]; have k_AT := wkn (w := w) (x := 24948) (j := 23) (by decide) hvw (by have := wc_18; omega); have k_TYPE := wkz (w := w) (j := 24) (x := 1954115685) hvw (by have := wc_19; omega) (by decide); omega)) _ _ _ hP hD hS (lv_sub hl [0, 1, 2] rfl)
      · have wc_19 : ¬ w.toInt = (24 : Int) := fun q9 => c_19 (congrArg (er (ad 33)) (Int32.toInt_inj.mp q9))
        refine ec_aload_n hx hb dX9_mayHave_103 rfl (lv_at hl 2 rfl) ?_
        refine cw_word (k := 7) (kx := 7) hx hb hG hS (by decide) rfl ⟨by decide, by decide⟩ hown (htb _ kw_510) dX9_mayHave_104 ?_
        refine ec_acmp_eq (tgt := 117) hx hb dX9_mayHave_107 (by decide) (fun c_20 => ?_) (fun c_20 => ?_)
        · have wc_20 : w.toInt = (7 : Int) := er_wd hG (iv_w hvw (by decide)) (iv_w (iv_k (by decide) : iv 7 7 7) (by decide)) c_20
          exact hj117 hvx hvo hvw ((by have hkd : dKd D o.toNatClampNeg = 4 := KW_f hEV.1 (by unfold KW7; rw [show (gm 14 o.toNatClampNeg).toInt = (3 : Int) from (by rw [← ez_1]; exact swy 3 9 (by decide) (h_2) ez_3 c_16)]; decide); rw [hkd, MAY_4]; have k_AT := wkn (w := w) (x := 24948) (j := 23) (by decide) hvw (by have := wc_18; omega); have k_TYPE := wkn (w := w) (x := 1954115685) (j := 24) (by decide) hvw (by have := wc_19; omega); have k_VALUE := wkz (w := w) (j := 7) (x := 508440638821) hvw (by have := wc_20; omega) (by decide); omega)) _ _ _ hP hD hS (lv_sub hl [0, 1, 2] rfl)
        · have wc_20 : ¬ w.toInt = (7 : Int) := fun q9 => c_20 (congrArg (er (ad 33)) (Int32.toInt_inj.mp q9))
          refine ec_aload_n hx hb dX9_mayHave_110 rfl (lv_at hl 2 rfl) ?_
          refine cw_word (k := 8) (kx := 8) hx hb hG hS (by decide) rfl ⟨by decide, by decide⟩ hown (htb _ kw_570) dX9_mayHave_111 ?_
          refine ec_acmp_ne (tgt := 121) hx hb dX9_mayHave_114 (by decide) (fun c_21 => ?_) (fun c_21 => ?_)
          · have wc_21 : ¬ w.toInt = (8 : Int) := fun q9 => c_21 (congrArg (er (ad 33)) (Int32.toInt_inj.mp q9))
            refine lv_iconst (v := 0) hx hb dX9_mayHave_121 (by decide) ?_
            exact hj122 0 hvx hvo hvw (iv_w (iv_k (by decide) : iv 0 0 0) (by decide)) (Or.inr ⟨rfl, (fun q9 => by have hkd : dKd D o.toNatClampNeg = 4 := KW_f hEV.1 (by unfold KW7; rw [show (gm 14 o.toNatClampNeg).toInt = (3 : Int) from (by rw [← ez_1]; exact swy 3 9 (by decide) (h_2) ez_3 c_16)]; decide); rw [hkd, MAY_4] at q9; have k_AT := wkn (w := w) (x := 24948) (j := 23) (by decide) hvw (by have := wc_18; omega); have k_TYPE := wkn (w := w) (x := 1954115685) (j := 24) (by decide) hvw (by have := wc_19; omega); have k_VALUE := wkn (w := w) (x := 508440638821) (j := 7) (by decide) hvw (by have := wc_20; omega); have k_REF := wkn (w := w) (x := 7497062) (j := 8) (by decide) hvw (by have := wc_21; omega); omega)⟩) _ _ _ hP hD hS (lv_sub hl [0, 1, 2] rfl)
          · have wc_21 : w.toInt = (8 : Int) := er_wd hG (iv_w hvw (by decide)) (iv_w (iv_k (by decide) : iv 8 8 8) (by decide)) c_21
            exact hj117 hvx hvo hvw ((by have hkd : dKd D o.toNatClampNeg = 4 := KW_f hEV.1 (by unfold KW7; rw [show (gm 14 o.toNatClampNeg).toInt = (3 : Int) from (by rw [← ez_1]; exact swy 3 9 (by decide) (h_2) ez_3 c_16)]; decide); rw [hkd, MAY_4]; have k_AT := wkn (w := w) (x := 24948) (j := 23) (by decide) hvw (by have := wc_18; omega); have k_TYPE := wkn (w := w) (x := 1954115685) (j := 24) (by decide) hvw (by have := wc_19; omega); have k_VALUE := wkn (w := w) (x := 508440638821) (j := 7) (by decide) hvw (by have := wc_20; omega); have k_REF := wkz (w := w) (j := 8) (x := 7497062) hvw (by have := wc_21; omega) (by decide); omega)) _ _ _ hP hD hS (lv_sub hl [0, 1, 2] rfl)
  by_cases c_22 : (z_3 : Int32).toInt = 10
  · refine lv_tableIn (tgt := 123) hx hb dX9_mayHave_11 (by rw [c_22]; decide) (by rw [c_22]; decide) (by rw [c_22]; rfl) (by decide) ?_
    have h_23 : iv 10 10 z_3 := iv_at c_22
    refine ec_aload_n hx hb dX9_mayHave_123 rfl (lv_at hl 2 rfl) ?_
    refine cw_word (k := 21) (kx := 21) hx hb hG hS (by decide) rfl ⟨by decide, by decide⟩ hown (htb _ kw_541) dX9_mayHave_124 ?_
    refine ec_acmp_eq (tgt := 144) hx hb dX9_mayHave_127 (by decide) (fun c_24 => ?_) (fun c_24 => ?_)
    · have wc_24 : w.toInt = (21 : Int) := er_wd hG (iv_w hvw (by decide)) (iv_w (iv_k (by decide) : iv 21 21 21) (by decide)) c_24
      exact hj144 hvx hvo hvw ((by have hkd : dKd D o.toNatClampNeg = 5 := KW_f hEV.1 (by unfold KW7; rw [show (gm 14 o.toNatClampNeg).toInt = (4 : Int) from (by rw [← ez_1]; exact swy 4 10 (by decide) (h_2) ez_3 c_22)]; decide); rw [hkd, MAY_5]; have k_NAME := wkz (w := w) (j := 21) (x := 1851878757) hvw (by have := wc_24; omega) (by decide); omega)) _ _ _ hP hD hS (lv_sub hl [0, 1, 2] rfl)
    · have wc_24 : ¬ w.toInt = (21 : Int) := fun q9 => c_24 (congrArg (er (ad 33)) (Int32.toInt_inj.mp q9))
      refine ec_aload_n hx hb dX9_mayHave_130 rfl (lv_at hl 2 rfl) ?_
      refine cw_word (k := 7) (kx := 7) hx hb hG hS (by decide) rfl ⟨by decide, by decide⟩ hown (htb _ kw_510) dX9_mayHave_131 ?_
      refine ec_acmp_eq (tgt := 144) hx hb dX9_mayHave_134 (by decide) (fun c_25 => ?_) (fun c_25 => ?_)
      · have wc_25 : w.toInt = (7 : Int) := er_wd hG (iv_w hvw (by decide)) (iv_w (iv_k (by decide) : iv 7 7 7) (by decide)) c_25
        exact hj144 hvx hvo hvw ((by have hkd : dKd D o.toNatClampNeg = 5 := KW_f hEV.1 (by unfold KW7; rw [show (gm 14 o.toNatClampNeg).toInt = (4 : Int) from (by rw [← ez_1]; exact swy 4 10 (by decide) (h_2) ez_3 c_22)]; decide); rw [hkd, MAY_5]; have k_NAME := wkn (w := w) (x := 1851878757) (j := 21) (by decide) hvw (by have := wc_24; omega); have k_VALUE := wkz (w := w) (j := 7) (x := 508440638821) hvw (by have := wc_25; omega) (by decide); omega)) _ _ _ hP hD hS (lv_sub hl [0, 1, 2] rfl)
      · have wc_25 : ¬ w.toInt = (7 : Int) := fun q9 => c_25 (congrArg (er (ad 33)) (Int32.toInt_inj.mp q9))
        refine ec_aload_n hx hb dX9_mayHave_137 rfl (lv_at hl 2 rfl) ?_
        refine cw_word (k := 8) (kx := 8) hx hb hG hS (by decide) rfl ⟨by decide, by decide⟩ hown (htb _ kw_570) dX9_mayHave_138 ?_
        refine ec_acmp_ne (tgt := 148) hx hb dX9_mayHave_141 (by decide) (fun c_26 => ?_) (fun c_26 => ?_)
        · have wc_26 : ¬ w.toInt = (8 : Int) := fun q9 => c_26 (congrArg (er (ad 33)) (Int32.toInt_inj.mp q9))
          refine lv_iconst (v := 0) hx hb dX9_mayHave_148 (by decide) ?_
          exact hj149 0 hvx hvo hvw (iv_w (iv_k (by decide) : iv 0 0 0) (by decide)) (Or.inr ⟨rfl, (fun q9 => by have hkd : dKd D o.toNatClampNeg = 5 := KW_f hEV.1 (by unfold KW7; rw [show (gm 14 o.toNatClampNeg).toInt = (4 : Int) from (by rw [← ez_1]; exact swy 4 10 (by decide) (h_2) ez_3 c_22)]; decide); rw [hkd, MAY_5] at q9; have k_NAME := wkn (w := w) (x := 1851878757) (j := 21) (by decide) hvw (by have := wc_24; omega); have k_VALUE := wkn (w := w) (x := 508440638821) (j := 7) (by decide) hvw (by have := wc_25; omega); have k_REF := wkn (w := w) (x := 7497062) (j := 8) (by decide) hvw (by have := wc_26; omega); omega)⟩) _ _ _ hP hD hS (lv_sub hl [0, 1, 2] rfl)
        · have wc_26 : w.toInt = (8 : Int) := er_wd hG (iv_w hvw (by decide)) (iv_w (iv_k (by decide) : iv 8 8 8) (by decide)) c_26
          exact hj144 hvx hvo hvw ((by have hkd : dKd D o.toNatClampNeg = 5 := KW_f hEV.1 (by unfold KW7; rw [show (gm 14 o.toNatClampNeg).toInt = (4 : Int) from (by rw [← ez_1]; exact swy 4 10 (by decide) (h_2) ez_3 c_22)]; decide); rw [hkd, MAY_5]; have k_NAME := wkn (w := w) (x := 1851878757) (j := 21) (by decide) hvw (by have := wc_24; omega); have k_VALUE := wkn (w := w) (x := 508440638821) (j := 7) (by decide) hvw (by have := wc_25; omega); have k_REF := wkz (w := w) (j := 8) (x := 7497062) hvw (by have := wc_26; omega) (by decide); omega)) _ _ _ hP hD hS (lv_sub hl [0, 1, 2] rfl)
  by_cases c_27 : (z_3 : Int32).toInt = 11
  · refine lv_tableIn (tgt := 163) hx hb dX9_mayHave_11 (by rw [c_27]; decide) (by rw [c_27]; decide) (by rw [c_27]; rfl) (by decide) ?_
    have h_28 : iv 11 11 z_3 := iv_at c_27
    refine ec_aload_n hx hb dX9_mayHave_163 rfl (lv_at hl 2 rfl) ?_
    refine cw_word (k := 21) (kx := 21) hx hb hG hS (by decide) rfl ⟨by decide, by decide⟩ hown (htb _ kw_541) dX9_mayHave_164 ?_
    refine ec_acmp_eq (tgt := 177) hx hb dX9_mayHave_167 (by decide) (fun c_29 => ?_) (fun c_29 => ?_)
    · have wc_29 : w.toInt = (21 : Int) := er_wd hG (iv_w hvw (by decide)) (iv_w (iv_k (by decide) : iv 21 21 21) (by decide)) c_29
      exact hj177 hvx hvo hvw ((by have hkd : dKd D o.toNatClampNeg = 10 := KW_f hEV.1 (by unfold KW7; rw [show (gm 14 o.toNatClampNeg).toInt = (5 : Int) from (by rw [← ez_1]; exact swy 5 11 (by decide) (h_2) ez_3 c_27)]; decide); rw [hkd, MAY_10]; have k_NAME := wkz (w := w) (j := 21) (x := 1851878757) hvw (by have := wc_29; omega) (by decide); omega)) _ _ _ hP hD hS (lv_sub hl [0, 1, 2] rfl)
    · have wc_29 : ¬ w.toInt = (21 : Int) := fun q9 => c_29 (congrArg (er (ad 33)) (Int32.toInt_inj.mp q9))
      refine ec_aload_n hx hb dX9_mayHave_170 rfl (lv_at hl 2 rfl) ?_
      refine cw_word (k := 2) (kx := 2) hx hb hG hS (by decide) rfl ⟨by decide, by decide⟩ hown (htb _ kw_517) dX9_mayHave_171 ?_
      refine ec_acmp_ne (tgt := 181) hx hb dX9_mayHave_174 (by decide) (fun c_30 => ?_) (fun c_30 => ?_)
      · have wc_30 : ¬ w.toInt = (2 : Int) := fun q9 => c_30 (congrArg (er (ad 33)) (Int32.toInt_inj.mp q9))
        refine lv_iconst (v := 0) hx hb dX9_mayHave_181 (by decide) ?_
        exact hj182 0 hvx hvo hvw (iv_w (iv_k (by decide) : iv 0 0 0) (by decide)) (Or.inr ⟨rfl, (fun q9 => by have hkd : dKd D o.toNatClampNeg = 10 := KW_f hEV.1 (by unfold KW7; rw [show (gm 14 o.toNatClampNeg).toInt = (5 : Int) from (by rw [← ez_1]; exact swy 5 11 (by decide) (h_2) ez_3 c_27)]; decide); rw [hkd, MAY_10] at q9; have k_NAME := wkn (w := w) (x := 1851878757) (j := 21) (by decide) hvw (by have := wc_29; omega); have k_BEAN := wkn (w := w) (x := 1650811246) (j := 2) (by decide) hvw (by have := wc_30; omega); omega)⟩) _ _ _ hP hD hS (lv_sub hl [0, 1, 2] rfl)
      · have wc_30 : w.toInt = (2 : Int) := er_wd hG (iv_w hvw (by decide)) (iv_w (iv_k (by decide) : iv 2 2 2) (by decide)) c_30
        exact hj177 hvx hvo hvw ((by have hkd : dKd D o.toNatClampNeg = 10 := KW_f hEV.1 (by unfold KW7; rw [show (gm 14 o.toNatClampNeg).toInt = (5 : Int) from (by rw [← ez_1]; exact swy 5 11 (by decide) (h_2) ez_3 c_27)]; decide); rw [hkd, MAY_10]; have k_NAME := wkn (w := w) (x := 1851878757) (j := 21) (by decide) hvw (by have := wc_29; omega); have k_BEAN := wkz (w := w) (j := 2) (x := 1650811246) hvw (by have := wc_30; omega) (by decide); omega)) _ _ _ hP hD hS (lv_sub hl [0, 1, 2] rfl)
  by_cases c_31 : (z_3 : Int32).toInt = 12
  · refine lv_tableIn (tgt := 183) hx hb dX9_mayHave_11 (by rw [c_31]; decide) (by rw [c_31]; decide) (by rw [c_31]; rfl) (by decide) ?_
    have h_32 : iv 12 12 z_3 := iv_at c_31
    exact hj183 hvx hvo hvw ((fun q9 => by have hkd : dKd D o.toNatClampNeg = 6 := KW_f hEV.1 (by unfold KW7; rw [show (gm 14 o.toNatClampNeg).toInt = (6 : Int) from (by rw [← ez_1]; exact swy 6 12 (by decide) (h_2) ez_3 c_31)]; decide); rw [hkd, MAY_6] at q9; exact q9)) _ _ _ hP hD hS (lv_sub hl [0, 1, 2] rfl)
  by_cases c_33 : (z_3 : Int32).toInt = 13
  · refine lv_tableIn (tgt := 183) hx hb dX9_mayHave_11 (by rw [c_33]; decide) (by rw [c_33]; decide) (by rw [c_33]; rfl) (by decide) ?_
    have h_34 : iv 13 13 z_3 := iv_at c_33
    exact hj183 hvx hvo hvw ((fun q9 => by have hkd : dKd D o.toNatClampNeg = 7 := KW_f hEV.1 (by unfold KW7; rw [show (gm 14 o.toNatClampNeg).toInt = (7 : Int) from (by rw [← ez_1]; exact swy 7 13 (by decide) (h_2) ez_3 c_33)]; decide); rw [hkd, MAY_7] at q9; exact q9)) _ _ _ hP hD hS (lv_sub hl [0, 1, 2] rfl)
  by_cases c_35 : (z_3 : Int32).toInt = 14
  · refine lv_tableIn (tgt := 150) hx hb dX9_mayHave_11 (by rw [c_35]; decide) (by rw [c_35]; decide) (by rw [c_35]; rfl) (by decide) ?_
    have h_36 : iv 14 14 z_3 := iv_at c_35
    refine ec_aload_n hx hb dX9_mayHave_150 rfl (lv_at hl 2 rfl) ?_
    refine cw_word (k := 2) (kx := 2) hx hb hG hS (by decide) rfl ⟨by decide, by decide⟩ hown (htb _ kw_517) dX9_mayHave_151 ?_
    refine ec_acmp_ne (tgt := 161) hx hb dX9_mayHave_154 (by decide) (fun c_37 => ?_) (fun c_37 => ?_)
    · have wc_37 : ¬ w.toInt = (2 : Int) := fun q9 => c_37 (congrArg (er (ad 33)) (Int32.toInt_inj.mp q9))
      refine lv_iconst (v := 0) hx hb dX9_mayHave_161 (by decide) ?_
      exact hj162 0 hvx hvo hvw (iv_w (iv_k (by decide) : iv 0 0 0) (by decide)) (Or.inr ⟨rfl, (fun q9 => by have hkd : dKd D o.toNatClampNeg = 8 := KW_f hEV.1 (by unfold KW7; rw [show (gm 14 o.toNatClampNeg).toInt = (8 : Int) from (by rw [← ez_1]; exact swy 8 14 (by decide) (h_2) ez_3 c_35)]; decide); rw [hkd, MAY_8] at q9; have k_BEAN := wkn (w := w) (x := 1650811246) (j := 2) (by decide) hvw (by have := wc_37; omega); omega)⟩) _ _ _ hP hD hS (lv_sub hl [0, 1, 2] rfl)
    · have wc_37 : w.toInt = (2 : Int) := er_wd hG (iv_w hvw (by decide)) (iv_w (iv_k (by decide) : iv 2 2 2) (by decide)) c_37
      refine lv_iconst (v := 1) hx hb dX9_mayHave_157 (by decide) ?_
      refine lv_goto (tgt := 162) hx hb dX9_mayHave_158 (by decide) ?_
      exact hj162 1 hvx hvo hvw (iv_w (iv_k (by decide) : iv 1 1 1) (by decide)) (Or.inl ⟨rfl, (by have hkd : dKd D o.toNatClampNeg = 8 := KW_f hEV.1 (by unfold KW7; rw [show (gm 14 o.toNatClampNeg).toInt = (8 : Int) from (by rw [← ez_1]; exact swy 8 14 (by decide) (h_2) ez_3 c_35)]; decide); rw [hkd, MAY_8]; have k_BEAN := wkz (w := w) (j := 2) (x := 1650811246) hvw (by have := wc_37; omega) (by decide); omega)⟩) _ _ _ hP hD hS (lv_sub hl [0, 1, 2] rfl)
  refine lv_tableOut (tgt := 183) hx hb dX9_mayHave_11 (by have q1 := (hz_3).1; have q2 := (hz_3).2; omega) (by decide) ?_
  exact hj183 hvx hvo hvw ((fun q9 => by have n2 : ¬ dKd D o.toNatClampNeg = 2 := fun q8 => absurd (KW_j (q8 ▸ hEV.1 : KW7 (gm 14 o.toNatClampNeg).toInt 2) (by decide)) (by rw [show wkF 2 = 1 by decide]; have n9 := swx (y := z_1) 1 7 (by decide) (h_2) ez_3 (by omega); rw [ez_1] at n9; exact n9); have n3 : ¬ dKd D o.toNatClampNeg = 3 := fun q8 => absurd (KW_j (q8 ▸ hEV.1 : KW7 (gm 14 o.toNatClampNeg).toInt 3) (by decide)) (by rw [show wkF 3 = 2 by decide]; have n9 := swx (y := z_1) 2 8 (by decide) (h_2) ez_3 (by omega); rw [ez_1] at n9; exact n9); have n4 : ¬ dKd D o.toNatClampNeg = 4 := fun q8 => absurd (KW_j (q8 ▸ hEV.1 : KW7 (gm 14 o.toNatClampNeg).toInt 4) (by decide)) (by rw [show wkF 4 = 3 by decide]; have n9 := swx (y := z_1) 3 9 (by decide) (h_2) ez_3 (by omega); rw [ez_1] at n9; exact n9); have n5 : ¬ dKd D o.toNatClampNeg = 5 := fun q8 => absurd (KW_j (q8 ▸ hEV.1 : KW7 (gm 14 o.toNatClampNeg).toInt 5) (by decide)) (by rw [show wkF 5 = 4 by decide]; have n9 := swx (y := z_1) 4 10 (by decide) (h_2) ez_3 (by omega); rw [ez_1] at n9; exact n9); have n10 : ¬ dKd D o.toNatClampNeg = 10 := fun q8 => absurd (KW_j (q8 ▸ hEV.1 : KW7 (gm 14 o.toNatClampNeg).toInt 10) (by decide)) (by rw [show wkF 10 = 5 by decide]; have n9 := swx (y := z_1) 5 11 (by decide) (h_2) ez_3 (by omega); rw [ez_1] at n9; exact n9); have n8 : ¬ dKd D o.toNatClampNeg = 8 := fun q8 => absurd (KW_j (q8 ▸ hEV.1 : KW7 (gm 14 o.toNatClampNeg).toInt 8) (by decide)) (by rw [show wkF 8 = 8 by decide]; have n9 := swx (y := z_1) 8 14 (by decide) (h_2) ez_3 (by omega); rw [ez_1] at n9; exact n9); unfold MAY at q9; omega)) _ _ _ hP hD hS (lv_sub hl [0, 1, 2] rfl)
end
section
set_option maxHeartbeats 4000000 in
set_option maxRecDepth 100000 in
theorem d_hasRightValue2 (l : Launch) (dC : Nat → ClassId) (dI : Nat → Nat → Nat) (ad : Nat → Nat → Nat) (cid : Nat → ClassId) (a2 : Nat → Nat) (lx : List Nat) (sg : Nat → Int32) (gm : Nat → Nat → Int32) (lg : Nat → Nat → Int64) (x : Int32) (o : Int32) (w : Int32) (D : List El7) (hI : CI sg gm) (hvx : iv 0 0 x) (hvo : iv 0 79 o) (hvw : iv 0 33 w) (hFA : FA sg gm) (how : o.toInt < (sg 4).toInt) (hVS : VS sg gm) (hw0 : 0 ≤ (gm 14 o.toNatClampNeg).toInt) (hEV : EV7 D sg gm lg o.toNatClampNeg) (hPA : PA7 (dAt D o.toNatClampNeg)) (hMK : MK7 (wKy.getD w.toNatClampNeg 0).toInt) : CMt dC dI ad cid a2 lx l yX9_hasRightValue wm_X9_hasRightValue ({ frames := 3, cells := 1, slots := 6, locals := 75 }) [eV (ad 3) x, eV (ad 9) o, eV (ad 33) w] sg gm lg (fun v u => ∃ r : Int32, v = some (.int r) ∧ u = (sg, gm, lg) ∧ (iv 0 1 r) ∧ ((r.toInt = 1 ∧ (RVL (dKd D o.toNatClampNeg) (dAt D o.toNatClampNeg) (wKy.getD w.toNatClampNeg 0))) ∨ (r.toInt = 0 ∧ ¬ (RVL (dKd D o.toNatClampNeg) (dAt D o.toNatClampNeg) (wKy.getD w.toNatClampNeg 0))))) (fun _ _ => False) := by
  intro sz
  refine vx_ofW (cc := cX9_hasRightValue) (maxL := 3) (ret := (some .boolean)) (by decide) rfl ?_
  intro p e s m args below meth c s₁ B hml hxt hv
  obtain ⟨rfl, hsz, hP, hK, hD0, hG⟩ := hv
  have hx := B.exec
  have hb := B.bytes
  have hr := B.returns
  have hts := atoms_spec (ws := wm_X9_hasRightValue) B.pre
  have htb := fun (w : Cond) (h : w ∈ tb) => hts w (List.mem_cons_of_mem _ h)
  have hown : s.vm.findClass RX9 = some m.cls := findClass_of_methodNamed B.named
  have hlocks := B.notSynchronized
  subst hsz
  have hD := hD0.self (sz := s.heap.size)
  generalize hAe : va_A (cW ad cid a2 lx sg gm lg) s.heap.size = A at hD hG ⊢
  have hA : ∀ q : Nat, s.heap.size ≤ q → A q := fun q h => by rw [← hAe]; exact Or.inr h
  have hS : va_S A s.heap s.heap [] := va_S.rf
  have hl := lv_entry ([eV (ad 3) x, eV (ad 9) o, eV (ad 33) w]) (n := 3) (by rw [show (lg_sl ([eV (ad 3) x, eV (ad 9) o, eV (ad 33) w])).length = 3 from by simp [lg_sl, eV_cat, cat_i, cat_l]]; exact Nat.le_of_ble_eq_true rfl)
  rw [lg_entry_eq]
  generalize (lg_sl ([eV (ad 3) x, eV (ad 9) o, eV (ad 33) w]) ++ List.replicate (3 - (lg_sl ([eV (ad 3) x, eV (ad 9) o, eV (ad 33) w])).length) Slot.unset).toArray = ls at hl ⊢
  have hl : lv_has ls 3 [(0, eV (ad 3) x), (1, eV (ad 9) o), (2, eV (ad 33) w)] := by simp [lv_args, eV_cat, cat_i, cat_l] at hl; exact hl
  have hj312 : ∀ (y0_312 : Int32) (_ : iv 0 0 x) (_ : iv 0 79 o) (_ : iv 0 33 w) (_ : iv 0 1 y0_312) (_ : (y0_312.toInt = 1 ∧ (RVL (dKd D o.toNatClampNeg) (dAt D o.toNatClampNeg) (wKy.getD w.toNatClampNeg 0))) ∨ (y0_312.toInt = 0 ∧ ¬ (RVL (dKd D o.toNatClampNeg) (dAt D o.toNatClampNeg) (wKy.getD w.toNatClampNeg 0)))) (H : Heap) (locs : List Loc) (ls : Array Slot), va_P (dC, dI) vwCl (cW ad cid a2 lx sg gm lg) H → va_D A (cW ad cid a2 lx sg gm lg) → va_S A s.heap H locs → lv_has ls 3 [(0, eV (ad 3) x), (1, eV (ad 9) o), (2, eV (ad 33) w)] → W p l e (headSpec wm_X9_hasRightValue ({ frames := 3, cells := 1, slots := 6, locals := 75 })).room s m ([eV (ad 3) x, eV (ad 9) o, eV (ad 33) w] : List Value).toArray below meth c H locs 0 0 (vx_MQ below (cQx dC dI ad cid a2 lx (fun v u => ∃ r : Int32, v = some (.int r) ∧ u = (sg, gm, lg) ∧ (iv 0 1 r) ∧ ((r.toInt = 1 ∧ (RVL (dKd D o.toNatClampNeg) (dAt D o.toNatClampNeg) (wKy.getD w.toNatClampNeg 0))) ∨ (r.toInt = 0 ∧ ¬ (RVL (dKd D o.toNatClampNeg) (dAt D o.toNatClampNeg) (wKy.getD w.toNatClampNeg 0))))) A) (cX dC dI ad cid a2 lx (fun _ _ => False) A) ([eV (ad 3) x, eV (ad 9) o, eV (ad 33) w] : List Value).toArray s 1 6 A) (F0 m 312 ls [.int y0_312]) := by
    intro y0_312 hsx0_312 hsx1_312 hsx2_312 hy0_312 u312 H locs ls hP hD hS hl
    exact W.nb (fun hN => W.widen (k := 1) (n := 6) (by decide) (by decide) (vx_ret (W.zret (v := y0_312) hx hb hr (iv_nb hy0_312) (fun t ht hW => ⟨⟨some (.int y0_312), (sg, gm, lg), rfl, ⟨y0_312, rfl, rfl, hy0_312, (u312)⟩, by rw [ht]; exact hP, va_K.moved hW.alike hK, hD⟩, hS.F ht, by rw [ht]; exact hN⟩) hS.2.2 dX9_hasRightValue_312)))
  have hj293 : ∀ (_ : iv 0 0 x) (_ : iv 0 79 o) (_ : iv 0 33 w) (_ : (wKy.getD w.toNatClampNeg 0).toInt = 26980 ∨ (wKy.getD w.toNatClampNeg 0).toInt = 123563833388660 ∨ (wKy.getD w.toNatClampNeg 0).toInt = 28817527407604345 ∨ (wKy.getD w.toNatClampNeg 0).toInt = 28259031083541619 ∨ (wKy.getD w.toNatClampNeg 0).toInt = 29807 ∨ (wKy.getD w.toNatClampNeg 0).toInt = 7497062 ∨ (wKy.getD w.toNatClampNeg 0).toInt = 1650811246) (H : Heap) (locs : List Loc) (ls : Array Slot), va_P (dC, dI) vwCl (cW ad cid a2 lx sg gm lg) H → va_D A (cW ad cid a2 lx sg gm lg) → va_S A s.heap H locs → lv_has ls 3 [(0, eV (ad 3) x), (1, eV (ad 9) o), (2, eV (ad 33) w)] → W p l e (headSpec wm_X9_hasRightValue ({ frames := 3, cells := 1, slots := 6, locals := 75 })).room s m ([eV (ad 3) x, eV (ad 9) o, eV (ad 33) w] : List Value).toArray below meth c H locs 0 0 (vx_MQ below (cQx dC dI ad cid a2 lx (fun v u => ∃ r : Int32, v = some (.int r) ∧ u = (sg, gm, lg) ∧ (iv 0 1 r) ∧ ((r.toInt = 1 ∧ (RVL (dKd D o.toNatClampNeg) (dAt D o.toNatClampNeg) (wKy.getD w.toNatClampNeg 0))) ∨ (r.toInt = 0 ∧ ¬ (RVL (dKd D o.toNatClampNeg) (dAt D o.toNatClampNeg) (wKy.getD w.toNatClampNeg 0))))) A) (cX dC dI ad cid a2 lx (fun _ _ => False) A) ([eV (ad 3) x, eV (ad 9) o, eV (ad 33) w] : List Value).toArray s 1 6 A) (F0 m 293 ls []) := by
    intro  hsx0_293 hsx1_293 hsx2_293 uK H locs ls hP hD hS hl
    refine ec_aload_n hx hb dX9_hasRightValue_293 rfl (lv_at hl 0 rfl) ?_
    refine cr_get (t := 3) (j := 0) (C := RX9) (T := TX9) (N := 1) (v := eV (ad 1) 0) hx hb htb inX9 hown hK hP hsx0_293 (by decide) (by decide) (by decide) rfl (by decide) (htb _ kw_82) (cV_c rfl (by decide) (by rw [show cMu 3 0 = 0 from rfl, Nat.zero_mul]; rfl)) dX9_hasRightValue_294 ?_
    refine ec_aload_n hx hb dX9_hasRightValue_297 rfl (lv_at hl 1 rfl) ?_
    refine ec_aload_n hx hb dX9_hasRightValue_298 rfl (lv_at hl 2 rfl) ?_
    refine cm_callV (t := 1) (C := RX6) (T := TX6) (N := 8) (rest := []) (as := [eV (ad 9) o, eV (ad 33) w]) ⟨hx, hb, hml, hown, htb⟩ (d_nameValue3 l dC dI ad cid a2 lx sg gm lg 0 o w (dAt D o.toNatClampNeg) hI (iv_k (by decide) : iv 0 0 0) hsx1_293 hsx2_293 hFA how hVS hEV.2.1) (cwV 2 htb (gd_V kw_582 kw_583 kw_584 kw_20 kw_1475) rfl rfl rfl (by decide +kernel) ⟨Nat.le_of_ble_eq_true rfl, Nat.le_of_ble_eq_true rfl⟩) (iv_k (by decide) : iv 0 0 0) (by decide) (by decide) rfl rfl hl.1 rfl (Nat.le_trans cs_n (by decide)) dX9_hasRightValue_299 ⟨Nat.le_of_ble_eq_true rfl, Nat.le_of_ble_eq_true rfl⟩ hK hP hD hS hA hG (fun E ce q9 u_2 H locs hw hP hD hS hce hcv hcl => ?_) (fun v9 u_2 H locs hw hP hD hS => ?_)
    · exact hw.elim
    obtain ⟨r_1, rfl, rfl, fN_r_1, fZ_r_1⟩ := hw
    have hP : va_P (dC, dI) vwCl (cW ad cid a2 lx sg gm lg) H := hP
    have hD : va_D A (cW ad cid a2 lx sg gm lg) := hD
    refine W.eq (g2 := F0 m 302 ls [.long r_1]) rfl ?_
    refine lv_lconst (v := 0) hx hb dX9_hasRightValue_302 (by decide) ?_
    refine W.lcmp hx hb dX9_hasRightValue_303 ?_
    refine lv_topi (fun z_4 ez_4 => ?_)
    have hz_4 : iv (-1) 1 z_4 := iv_of ez_4 (iv_cmp _ _)
    refine lv_if_eq (tgt := 311) hx hb dX9_hasRightValue_304 (by decide) (fun c_5 => ?_) (fun c_5 => ?_)
    · have h_6 : iv 0 0 z_4 := iv_eq c_5 hz_4 (iv_k (by decide) : iv 0 0 0) (by decide)
      refine lv_iconst (v := 0) hx hb dX9_hasRightValue_311 (by decide) ?_
      exact hj312 0 hsx0_293 hsx1_293 hsx2_293 (iv_w (iv_k (by decide) : iv 0 0 0) (by decide)) (Or.inr ⟨rfl, fun q9 => (rvg_W hPA uK).mp q9 (by rw [← fN_r_1]; exact (lg_cmp_eq _ _).mp (by rw [← ez_4]; exact c_5))⟩) _ _ _ hP hD hS (lv_sub hl [0, 1, 2] rfl)
    · have d_7 : ¬ (z_4 : Int32).toInt = 0 := lv_neT c_5 rfl
      refine lv_iconst (v := 1) hx hb dX9_hasRightValue_307 (by decide) ?_
      refine lv_goto (tgt := 312) hx hb dX9_hasRightValue_308 (by decide) ?_
      exact hj312 1 hsx0_293 hsx1_293 hsx2_293 (iv_w (iv_k (by decide) : iv 1 1 1) (by decide)) (Or.inl ⟨rfl, (rvg_W hPA uK).mpr (fun q9 => c_5 (by rw [ez_4, fN_r_1, q9]; exact (lg_cmp_eq _ _).mpr rfl))⟩) _ _ _ hP hD hS (lv_sub hl [0, 1, 2] rfl)
  have hj197 : ∀ (y0_197 : Int32) (_ : iv 0 0 x) (_ : iv 0 79 o) (_ : iv 0 33 w) (_ : iv 0 1 y0_197) (_ : (y0_197.toInt = 1 ∧ (RVL (dKd D o.toNatClampNeg) (dAt D o.toNatClampNeg) (wKy.getD w.toNatClampNeg 0))) ∨ (y0_197.toInt = 0 ∧ ¬ (RVL (dKd D o.toNatClampNeg) (dAt D o.toNatClampNeg) (wKy.getD w.toNatClampNeg 0)))) (H : Heap) (locs : List Loc) (ls : Array Slot), va_P (dC, dI) vwCl (cW ad cid a2 lx sg gm lg) H → va_D A (cW ad cid a2 lx sg gm lg) → va_S A s.heap H locs → lv_has ls 3 [(0, eV (ad 3) x), (1, eV (ad 9) o), (2, eV (ad 33) w)] → W p l e (headSpec wm_X9_hasRightValue ({ frames := 3, cells := 1, slots := 6, locals := 75 })).room s m ([eV (ad 3) x, eV (ad 9) o, eV (ad 33) w] : List Value).toArray below meth c H locs 0 0 (vx_MQ below (cQx dC dI ad cid a2 lx (fun v u => ∃ r : Int32, v = some (.int r) ∧ u = (sg, gm, lg) ∧ (iv 0 1 r) ∧ ((r.toInt = 1 ∧ (RVL (dKd D o.toNatClampNeg) (dAt D o.toNatClampNeg) (wKy.getD w.toNatClampNeg 0))) ∨ (r.toInt = 0 ∧ ¬ (RVL (dKd D o.toNatClampNeg) (dAt D o.toNatClampNeg) (wKy.getD w.toNatClampNeg 0))))) A) (cX dC dI ad cid a2 lx (fun _ _ => False) A) ([eV (ad 3) x, eV (ad 9) o, eV (ad 33) w] : List Value).toArray s 1 6 A) (F0 m 197 ls [.int y0_197]) := by
    intro y0_197 hsx0_197 hsx1_197 hsx2_197 hy0_197 u197 H locs ls hP hD hS hl
    exact W.nb (fun hN => W.widen (k := 1) (n := 6) (by decide) (by decide) (vx_ret (W.zret (v := y0_197) hx hb hr (iv_nb hy0_197) (fun t ht hW => ⟨⟨some (.int y0_197), (sg, gm, lg), rfl, ⟨y0_197, rfl, rfl, hy0_197, (u197)⟩, by rw [ht]; exact hP, va_K.moved hW.alike hK, hD⟩, hS.F ht, by rw [ht]; exact hN⟩) hS.2.2 dX9_hasRightValue_197)))
  have hj192 : ∀ (_ : iv 0 0 x) (_ : iv 0 79 o) (_ : iv 0 33 w) (_ : RVL (dKd D o.toNatClampNeg) (dAt D o.toNatClampNeg) (wKy.getD w.toNatClampNeg 0)) (H : Heap) (locs : List Loc) (ls : Array Slot), va_P (dC, dI) vwCl (cW ad cid a2 lx sg gm lg) H → va_D A (cW ad cid a2 lx sg gm lg) → va_S A s.heap H locs → lv_has ls 3 [(0, eV (ad 3) x), (1, eV (ad 9) o), (2, eV (ad 33) w)] → W p l e (headSpec wm_X9_hasRightValue ({ frames := 3, cells := 1, slots := 6, locals := 75 })).room s m ([eV (ad 3) x, eV (ad 9) o, eV (ad 33) w] : List Value).toArray below meth c H locs 0 0 (vx_MQ below (cQx dC dI ad cid a2 lx (fun v u => ∃ r : Int32, v = some (.int r) ∧ u = (sg, gm, lg) ∧ (iv 0 1 r) ∧ ((r.toInt = 1 ∧ (RVL (dKd D o.toNatClampNeg) (dAt D o.toNatClampNeg) (wKy.getD w.toNatClampNeg 0))) ∨ (r.toInt = 0 ∧ ¬ (RVL (dKd D o.toNatClampNeg) (dAt D o.toNatClampNeg) (wKy.getD w.toNatClampNeg 0))))) A) (cX dC dI ad cid a2 lx (fun _ _ => False) A) ([eV (ad 3) x, eV (ad 9) o, eV (ad 33) w] : List Value).toArray s 1 6 A) (F0 m 192 ls []) := by
    intro  hsx0_192 hsx1_192 hsx2_192 u192 H locs ls hP hD hS hl
    refine lv_iconst (v := 1) hx hb dX9_hasRightValue_192 (by decide) ?_
    refine lv_goto (tgt := 197) hx hb dX9_hasRightValue_193 (by decide) ?_
    exact hj197 1 hsx0_192 hsx1_192 hsx2_192 (iv_w (iv_k (by decide) : iv 1 1 1) (by decide)) (Or.inl ⟨rfl, u192⟩) _ _ _ hP hD hS (lv_sub hl [0, 1, 2] rfl)
  have hj162 : ∀ (_ : iv 0 0 x) (_ : iv 0 79 o) (_ : iv 0 33 w) (_ : (wKy.getD w.toNatClampNeg 0).toInt = 7017298113369039732 ∨ (wKy.getD w.toNatClampNeg 0).toInt = 1818327673) (H : Heap) (locs : List Loc) (ls : Array Slot), va_P (dC, dI) vwCl (cW ad cid a2 lx sg gm lg) H → va_D A (cW ad cid a2 lx sg gm lg) → va_S A s.heap H locs → lv_has ls 3 [(0, eV (ad 3) x), (1, eV (ad 9) o), (2, eV (ad 33) w)] → W p l e (headSpec wm_X9_hasRightValue ({ frames := 3, cells := 1, slots := 6, locals := 75 })).room s m ([eV (ad 3) x, eV (ad 9) o, eV (ad 33) w] : List Value).toArray below meth c H locs 0 0 (vx_MQ below (cQx dC dI ad cid a2 lx (fun v u => ∃ r : Int32, v = some (.int r) ∧ u = (sg, gm, lg) ∧ (iv 0 1 r) ∧ ((r.toInt = 1 ∧ (RVL (dKd D o.toNatClampNeg) (dAt D o.toNatClampNeg) (wKy.getD w.toNatClampNeg 0))) ∨ (r.toInt = 0 ∧ ¬ (RVL (dKd D o.toNatClampNeg) (dAt D o.toNatClampNeg) (wKy.getD w.toNatClampNeg 0))))) A) (cX dC dI ad cid a2 lx (fun _ _ => False) A) ([eV (ad 3) x, eV (ad 9) o, eV (ad 33) w] : List Value).toArray s 1 6 A) (F0 m 162 ls []) := by
    intro  hsx0_162 hsx1_162 hsx2_162 uK H locs ls hP hD hS hl
    refine ec_aload_n hx hb dX9_hasRightValue_162 rfl (lv_at hl 0 rfl) ?_
    refine cr_get (t := 3) (j := 0) (C := RX9) (T := TX9) (N := 1) (v := eV (ad 1) 0) hx hb htb inX9 hown hK hP hsx0_162 (by decide) (by decide) (by decide) rfl (by decide) (htb _ kw_82) (cV_c rfl (by decide) (by rw [show cMu 3 0 = 0 from rfl, Nat.zero_mul]; rfl)) dX9_hasRightValue_163 ?_
    refine ec_aload_n hx hb dX9_hasRightValue_166 rfl (lv_at hl 1 rfl) ?_
    refine ec_aload_n hx hb dX9_hasRightValue_167 rfl (lv_at hl 2 rfl) ?_
    refine cw_word (k := 25) (kx := 25) hx hb hG hS (by decide) rfl ⟨by decide, by decide⟩ hown (htb _ kw_578) dX9_hasRightValue_168 ?_
    refine cm_callV (t := 1) (C := RX6) (T := TX6) (N := 8) (rest := []) (as := [eV (ad 9) o, eV (ad 33) w, eV (ad 33) 25]) ⟨hx, hb, hml, hown, htb⟩ (d_valueIs2 l dC dI ad cid a2 lx sg gm lg 0 o w 25 (dAt D o.toNatClampNeg) hI (iv_k (by decide) : iv 0 0 0) hsx1_162 hsx2_162 (iv_w (iv_k (by decide) : iv 25 25 25) (by decide)) hFA how hVS hEV.2.1) (cwV 3 htb (gd_V kw_588 kw_589 kw_590 kw_20 kw_1477) rfl rfl rfl (by decide +kernel) ⟨Nat.le_of_ble_eq_true rfl, Nat.le_of_ble_eq_true rfl⟩) (iv_k (by decide) : iv 0 0 0) (by decide) (by decide) rfl rfl hl.1 rfl (Nat.le_trans cs_n (by decide)) dX9_hasRightValue_171 ⟨Nat.le_of_ble_eq_true rfl, Nat.le_of_ble_eq_true rfl⟩ hK hP hD hS hA hG (fun E ce q9 u_9 H locs hw hP hD hS hce hcv hcl => ?_) (fun v9 u_9 H locs hw hP hD hS => ?_)
    · exact hw.elim
    obtain ⟨r_8, rfl, rfl, hr_8, fV_r_8⟩ := hw
    have hP : va_P (dC, dI) vwCl (cW ad cid a2 lx sg gm lg) H := hP
    have hD : va_D A (cW ad cid a2 lx sg gm lg) := hD
    refine W.eq (g2 := F0 m 174 ls [.int r_8]) rfl ?_
    refine lv_if_ne (tgt := 192) hx hb dX9_hasRightValue_174 (by decide) (fun c_11 => ?_) (fun c_11 => ?_)
    · have h_12 : iv 1 1 r_8 := iv_neL c_11 hr_8 (by decide)
      exact hj192 hsx0_162 hsx1_162 hsx2_162 ((rvg_Y hPA uK).mpr (Or.inl (fV_r_8.resolve_right (fun q8 => absurd q8.1 (by have := i32_0; have := i32_1; have := i32_2; have := i32_m1; have := (hsx0_162).1; have := (hsx0_162).2; have := (hsx1_162).1; have := (hsx1_162).2; have := (hsx2_162).1; have := (hsx2_162).2; have := (h_12).1; have := (h_12).2; omega))).2)) _ _ _ hP hD hS (lv_sub hl [0, 1, 2] rfl)
    · have h_13 : iv 0 0 r_8 := iv_eq c_11 hr_8 (iv_k (by decide) : iv 0 0 0) (by decide)
      refine ec_aload_n hx hb dX9_hasRightValue_177 rfl (lv_at hl 0 rfl) ?_
      refine cr_get (t := 3) (j := 0) (C := RX9) (T := TX9) (N := 1) (v := eV (ad 1) 0) hx hb htb inX9 hown hK hP hsx0_162 (by decide) (by decide) (by decide) rfl (by decide) (htb _ kw_82) (cV_c rfl (by decide) (by rw [show cMu 3 0 = 0 from rfl, Nat.zero_mul]; rfl)) dX9_hasRightValue_178 ?_
      refine ec_aload_n hx hb dX9_hasRightValue_181 rfl (lv_at hl 1 rfl) ?_
      refine ec_aload_n hx hb dX9_hasRightValue_182 rfl (lv_at hl 2 rfl) ?_
      refine cw_word (k := 26) (kx := 26) hx hb hG hS (by decide) rfl ⟨by decide, by decide⟩ hown (htb _ kw_579) dX9_hasRightValue_183 ?_
      refine cm_callV (t := 1) (C := RX6) (T := TX6) (N := 8) (rest := []) (as := [eV (ad 9) o, eV (ad 33) w, eV (ad 33) 26]) ⟨hx, hb, hml, hown, htb⟩ (d_valueIs2 l dC dI ad cid a2 lx sg gm lg 0 o w 26 (dAt D o.toNatClampNeg) hI (iv_k (by decide) : iv 0 0 0) hsx1_162 hsx2_162 (iv_w (iv_k (by decide) : iv 26 26 26) (by decide)) hFA how hVS hEV.2.1) (cwV 3 htb (gd_V kw_588 kw_589 kw_590 kw_20 kw_1477) rfl rfl rfl (by decide +kernel) ⟨Nat.le_of_ble_eq_true rfl, Nat.le_of_ble_eq_true rfl⟩) (iv_k (by decide) : iv 0 0 0) (by decide) (by decide) rfl rfl hl.1 rfl (Nat.le_trans cs_n (by decide)) dX9_hasRightValue_186 ⟨Nat.le_of_ble_eq_true rfl, Nat.le_of_ble_eq_true rfl⟩ hK hP hD hS hA hG (fun E ce q9 u_15 H locs hw hP hD hS hce hcv hcl => ?_) (fun v9 u_15 H locs hw hP hD hS => ?_)
      · exact hw.elim
      obtain ⟨r_14, rfl, rfl, hr_14, fV_r_14⟩ := hw
      have hP : va_P (dC, dI) vwCl (cW ad cid a2 lx sg gm lg) H := hP
      have hD : va_D A (cW ad cid a2 lx sg gm lg) := hD
      refine W.eq (g2 := F0 m 189 ls [.int r_14]) rfl ?_
      refine lv_if_eq (tgt := 196) hx hb dX9_hasRightValue_189 (by decide) (fun c_17 => ?_) (fun c_17 => ?_)
      · have h_18 : iv 0 0 r_14 := iv_eq c_17 hr_14 (iv_k (by decide) : iv 0 0 0) (by decide)
        refine lv_iconst (v := 0) hx hb dX9_hasRightValue_196 (by decide) ?_
        exact hj197 0 hsx0_162 hsx1_162 hsx2_162 (iv_w (iv_k (by decide) : iv 0 0 0) (by decide)) (Or.inr ⟨rfl, fun q9 => ((rvg_Y hPA uK).mp q9).elim (fV_r_8.resolve_left (fun q8 => absurd q8.1 (by have := i32_0; have := i32_1; have := i32_2; have := i32_m1; have := (hsx0_162).1; have := (hsx0_162).2; have := (hsx1_162).1; have := (hsx1_162).2; have := (hsx2_162).1; have := (hsx2_162).2; have := (h_13).1; have := (h_13).2; have := (h_18).1; have := (h_18).2; omega))).2 (fV_r_14.resolve_left (fun q8 => absurd q8.1 (by have := i32_0; have := i32_1; have := i32_2; have := i32_m1; have := (hsx0_162).1; have := (hsx0_162).2; have := (hsx1_162).1; have := (hsx1_162).2; have := (hsx2_162).1; have := (hsx2_162).2; have := (h_13).1; have := (h_13).2; have := (h_18).1; have := (h_18).2; omega))).2⟩) _ _ _ hP hD hS (lv_sub hl [0, 1, 2] rfl)
      · have h_19 : iv 1 1 r_14 := iv_neL c_17 hr_14 (by decide)
        exact hj192 hsx0_162 hsx1_162 hsx2_162 ((rvg_Y hPA uK).mpr (Or.inr (fV_r_14.resolve_right (fun q8 => absurd q8.1 (by have := i32_0; have := i32_1; have := i32_2; have := i32_m1; have := (hsx0_162).1; have := (hsx0_162).2; have := (hsx1_162).1; have := (hsx1_162).2; have := (hsx2_162).1; have := (hsx2_162).2; have := (h_13).1; have := (h_13).2; have := (h_19).1; have := (h_19).2; omega))).2)) _ _ _ hP hD hS (lv_sub hl [0, 1, 2] rfl)
  have hj161 : ∀ (y0_161 : Int32) (_ : iv 0 0 x) (_ : iv 0 79 o) (_ : iv 0 33 w) (_ : iv 0 1 y0_161) (_ : (y0_161.toInt = 1 ∧ (RVL (dKd D o.toNatClampNeg) (dAt D o.toNatClampNeg) (wKy.getD w.toNatClampNeg 0))) ∨ (y0_161.toInt = 0 ∧ ¬ (RVL (dKd D o.toNatClampNeg) (dAt D o.toNatClampNeg) (wKy.getD w.toNatClampNeg 0)))) (H : Heap) (locs : List Loc) (ls : Array Slot), va_P (dC, dI) vwCl (cW ad cid a2 lx sg gm lg) H → va_D A (cW ad cid a2 lx sg gm lg) → va_S A s.heap H locs → lv_has ls 3 [(0, eV (ad 3) x), (1, eV (ad 9) o), (2, eV (ad 33) w)] → W p l e (headSpec wm_X9_hasRightValue ({ frames := 3, cells := 1, slots := 6, locals := 75 })).room s m ([eV (ad 3) x, eV (ad 9) o, eV (ad 33) w] : List Value).toArray below meth c H locs 0 0 (vx_MQ below (cQx dC dI ad cid a2 lx (fun v u => ∃ r : Int32, v = some (.int r) ∧ u = (sg, gm, lg) ∧ (iv 0 1 r) ∧ ((r.toInt = 1 ∧ (RVL (dKd D o.toNatClampNeg) (dAt D o.toNatClampNeg) (wKy.getD w.toNatClampNeg 0))) ∨ (r.toInt = 0 ∧ ¬ (RVL (dKd D o.toNatClampNeg) (dAt D o.toNatClampNeg) (wKy.getD w.toNatClampNeg 0))))) A) (cX dC dI ad cid a2 lx (fun _ _ => False) A) ([eV (ad 3) x, eV (ad 9) o, eV (ad 33) w] : List Value).toArray s 1 6 A) (F0 m 161 ls [.int y0_161]) := by
    intro y0_161 hsx0_161 hsx1_161 hsx2_161 hy0_161 u161 H locs ls hP hD hS hl
    exact W.nb (fun hN => W.widen (k := 1) (n := 6) (by decide) (by decide) (vx_ret (W.zret (v := y0_161) hx hb hr (iv_nb hy0_161) (fun t ht hW => ⟨⟨some (.int y0_161), (sg, gm, lg), rfl, ⟨y0_161, rfl, rfl, hy0_161, (u161)⟩, by rw [ht]; exact hP, va_K.moved hW.alike hK, hD⟩, hS.F ht, by rw [ht]; exact hN⟩) hS.2.2 dX9_hasRightValue_161)))
  have hj233 : ∀ (y0_233 : Int32) (_ : iv 0 0 x) (_ : iv 0 79 o) (_ : iv 0 33 w) (_ : iv 0 1 y0_233) (_ : (y0_233.toInt = 1 ∧ (RVL (dKd D o.toNatClampNeg) (dAt D o.toNatClampNeg) (wKy.getD w.toNatClampNeg 0))) ∨ (y0_233.toInt = 0 ∧ ¬ (RVL (dKd D o.toNatClampNeg) (dAt D o.toNatClampNeg) (wKy.getD w.toNatClampNeg 0)))) (H : Heap) (locs : List Loc) (ls : Array Slot), va_P (dC, dI) vwCl (cW ad cid a2 lx sg gm lg) H → va_D A (cW ad cid a2 lx sg gm lg) → va_S A s.heap H locs → lv_has ls 3 [(0, eV (ad 3) x), (1, eV (ad 9) o), (2, eV (ad 33) w)] → W p l e (headSpec wm_X9_hasRightValue ({ frames := 3, cells := 1, slots := 6, locals := 75 })).room s m ([eV (ad 3) x, eV (ad 9) o, eV (ad 33) w] : List Value).toArray below meth c H locs 0 0 (vx_MQ below (cQx dC dI ad cid a2 lx (fun v u => ∃ r : Int32, v = some (.int r) ∧ u = (sg, gm, lg) ∧ (iv 0 1 r) ∧ ((r.toInt = 1 ∧ (RVL (dKd D o.toNatClampNeg) (dAt D o.toNatClampNeg) (wKy.getD w.toNatClampNeg 0))) ∨ (r.toInt = 0 ∧ ¬ (RVL (dKd D o.toNatClampNeg) (dAt D o.toNatClampNeg) (wKy.getD w.toNatClampNeg 0))))) A) (cX dC dI ad cid a2 lx (fun _ _ => False) A) ([eV (ad 3) x, eV (ad 9) o, eV (ad 33) w] : List Value).toArray s 1 6 A) (F0 m 233 ls [.int y0_233]) := by
    intro y0_233 hsx0_233 hsx1_233 hsx2_233 hy0_233 u233 H locs ls hP hD hS hl
    exact W.nb (fun hN => W.widen (k := 1) (n := 6) (by decide) (by decide) (vx_ret (W.zret (v := y0_233) hx hb hr (iv_nb hy0_233) (fun t ht hW => ⟨⟨some (.int y0_233), (sg, gm, lg), rfl, ⟨y0_233, rfl, rfl, hy0_233, (u233)⟩, by rw [ht]; exact hP, va_K.moved hW.alike hK, hD⟩, hS.F ht, by rw [ht]; exact hN⟩) hS.2.2 dX9_hasRightValue_233)))
  have hj228 : ∀ (_ : iv 0 0 x) (_ : iv 0 79 o) (_ : iv 0 33 w) (_ : RVL (dKd D o.toNatClampNeg) (dAt D o.toNatClampNeg) (wKy.getD w.toNatClampNeg 0)) (H : Heap) (locs : List Loc) (ls : Array Slot), va_P (dC, dI) vwCl (cW ad cid a2 lx sg gm lg) H → va_D A (cW ad cid a2 lx sg gm lg) → va_S A s.heap H locs → lv_has ls 3 [(0, eV (ad 3) x), (1, eV (ad 9) o), (2, eV (ad 33) w)] → W p l e (headSpec wm_X9_hasRightValue ({ frames := 3, cells := 1, slots := 6, locals := 75 })).room s m ([eV (ad 3) x, eV (ad 9) o, eV (ad 33) w] : List Value).toArray below meth c H locs 0 0 (vx_MQ below (cQx dC dI ad cid a2 lx (fun v u => ∃ r : Int32, v = some (.int r) ∧ u = (sg, gm, lg) ∧ (iv 0 1 r) ∧ ((r.toInt = 1 ∧ (RVL (dKd D o.toNatClampNeg) (dAt D o.toNatClampNeg) (wKy.getD w.toNatClampNeg 0))) ∨ (r.toInt = 0 ∧ ¬ (RVL (dKd D o.toNatClampNeg) (dAt D o.toNatClampNeg) (wKy.getD w.toNatClampNeg 0))))) A) (cX dC dI ad cid a2 lx (fun _ _ => False) A) ([eV (ad 3) x, eV (ad 9) o, eV (ad 33) w] : List Value).toArray s 1 6 A) (F0 m 228 ls []) := by
    intro  hsx0_228 hsx1_228 hsx2_228 u228 H locs ls hP hD hS hl
    refine lv_iconst (v := 1) hx hb dX9_hasRightValue_228 (by decide) ?_
    refine lv_goto (tgt := 233) hx hb dX9_hasRightValue_229 (by decide) ?_
    exact hj233 1 hsx0_228 hsx1_228 hsx2_228 (iv_w (iv_k (by decide) : iv 1 1 1) (by decide)) (Or.inl ⟨rfl, u228⟩) _ _ _ hP hD hS (lv_sub hl [0, 1, 2] rfl)
  have hj252 : ∀ (y0_252 : Int32) (_ : iv 0 0 x) (_ : iv 0 79 o) (_ : iv 0 33 w) (_ : iv 0 1 y0_252) (_ : (y0_252.toInt = 1 ∧ (RVL (dKd D o.toNatClampNeg) (dAt D o.toNatClampNeg) (wKy.getD w.toNatClampNeg 0))) ∨ (y0_252.toInt = 0 ∧ ¬ (RVL (dKd D o.toNatClampNeg) (dAt D o.toNatClampNeg) (wKy.getD w.toNatClampNeg 0)))) (H : Heap) (locs : List Loc) (ls : Array Slot), va_P (dC, dI) vwCl (cW ad cid a2 lx sg gm lg) H → va_D A (cW ad cid a2 lx sg gm lg) → va_S A s.heap H locs → lv_has ls 3 [(0, eV (ad 3) x), (1, eV (ad 9) o), (2, eV (ad 33) w)] → W p l e (headSpec wm_X9_hasRightValue ({ frames := 3, cells := 1, slots := 6, locals := 75 })).room s m ([eV (ad 3) x, eV (ad 9) o, eV (ad 33) w] : List Value).toArray below meth c H locs 0 0 (vx_MQ below (cQx dC dI ad cid a2 lx (fun v u => ∃ r : Int32, v = some (.int r) ∧ u = (sg, gm, lg) ∧ (iv 0 1 r) ∧ ((r.toInt = 1 ∧ (RVL (dKd D o.toNatClampNeg) (dAt D o.toNatClampNeg) (wKy.getD w.toNatClampNeg 0))) ∨ (r.toInt = 0 ∧ ¬ (RVL (dKd D o.toNatClampNeg) (dAt D o.toNatClampNeg) (wKy.getD w.toNatClampNeg 0))))) A) (cX dC dI ad cid a2 lx (fun _ _ => False) A) ([eV (ad 3) x, eV (ad 9) o, eV (ad 33) w] : List Value).toArray s 1 6 A) (F0 m 252 ls [.int y0_252]) := by
    intro y0_252 hsx0_252 hsx1_252 hsx2_252 hy0_252 u252 H locs ls hP hD hS hl
    exact W.nb (fun hN => W.widen (k := 1) (n := 6) (by decide) (by decide) (vx_ret (W.zret (v := y0_252) hx hb hr (iv_nb hy0_252) (fun t ht hW => ⟨⟨some (.int y0_252), (sg, gm, lg), rfl, ⟨y0_252, rfl, rfl, hy0_252, (u252)⟩, by rw [ht]; exact hP, va_K.moved hW.alike hK, hD⟩, hS.F ht, by rw [ht]; exact hN⟩) hS.2.2 dX9_hasRightValue_252)))
  have hj234 : ∀ (_ : iv 0 0 x) (_ : iv 0 79 o) (_ : iv 0 33 w) (_ : (wKy.getD w.toNatClampNeg 0).toInt = 120282512125796 ∨ (wKy.getD w.toNatClampNeg 0).toInt = 1768843636 ∨ (wKy.getD w.toNatClampNeg 0).toInt = 28259044220366713) (H : Heap) (locs : List Loc) (ls : Array Slot), va_P (dC, dI) vwCl (cW ad cid a2 lx sg gm lg) H → va_D A (cW ad cid a2 lx sg gm lg) → va_S A s.heap H locs → lv_has ls 3 [(0, eV (ad 3) x), (1, eV (ad 9) o), (2, eV (ad 33) w)] → W p l e (headSpec wm_X9_hasRightValue ({ frames := 3, cells := 1, slots := 6, locals := 75 })).room s m ([eV (ad 3) x, eV (ad 9) o, eV (ad 33) w] : List Value).toArray below meth c H locs 0 0 (vx_MQ below (cQx dC dI ad cid a2 lx (fun v u => ∃ r : Int32, v = some (.int r) ∧ u = (sg, gm, lg) ∧ (iv 0 1 r) ∧ ((r.toInt = 1 ∧ (RVL (dKd D o.toNatClampNeg) (dAt D o.toNatClampNeg) (wKy.getD w.toNatClampNeg 0))) ∨ (r.toInt = 0 ∧ ¬ (RVL (dKd D o.toNatClampNeg) (dAt D o.toNatClampNeg) (wKy.getD w.toNatClampNeg 0))))) A) (cX dC dI ad cid a2 lx (fun _ _ => False) A) ([eV (ad 3) x, eV (ad 9) o, eV (ad 33) w] : List Value).toArray s 1 6 A) (F0 m 234 ls []) := by
    intro  hsx0_234 hsx1_234 hsx2_234 uK H locs ls hP hD hS hl
    refine ec_aload_n hx hb dX9_hasRightValue_234 rfl (lv_at hl 0 rfl) ?_
    refine cr_get (t := 3) (j := 0) (C := RX9) (T := TX9) (N := 1) (v := eV (ad 1) 0) hx hb htb inX9 hown hK hP hsx0_234 (by decide) (by decide) (by decide) rfl (by decide) (htb _ kw_82) (cV_c rfl (by decide) (by rw [show cMu 3 0 = 0 from rfl, Nat.zero_mul]; rfl)) dX9_hasRightValue_235 ?_
    refine ec_aload_n hx hb dX9_hasRightValue_238 rfl (lv_at hl 1 rfl) ?_
    refine ec_aload_n hx hb dX9_hasRightValue_239 rfl (lv_at hl 2 rfl) ?_
    refine cm_callV (t := 1) (C := RX6) (T := TX6) (N := 8) (rest := []) (as := [eV (ad 9) o, eV (ad 33) w]) ⟨hx, hb, hml, hown, htb⟩ (d_letterValue2 l dC dI ad cid a2 lx sg gm lg 0 o w (dAt D o.toNatClampNeg) hI (iv_k (by decide) : iv 0 0 0) hsx1_234 hsx2_234 hFA how hVS hEV.2.1) (cwV 2 htb (gd_V kw_542 kw_543 kw_544 kw_20 kw_1466) rfl rfl rfl (by decide +kernel) ⟨Nat.le_of_ble_eq_true rfl, Nat.le_of_ble_eq_true rfl⟩) (iv_k (by decide) : iv 0 0 0) (by decide) (by decide) rfl rfl hl.1 rfl (Nat.le_trans cs_n (by decide)) dX9_hasRightValue_240 ⟨Nat.le_of_ble_eq_true rfl, Nat.le_of_ble_eq_true rfl⟩ hK hP hD hS hA hG (fun E ce q9 u_21 H locs hw hP hD hS hce hcv hcl => ?_) (fun v9 u_21 H locs hw hP hD hS => ?_)
    · exact hw.elim
    obtain ⟨r_20, rfl, rfl, hr_20, fL_r_20⟩ := hw
    have hP : va_P (dC, dI) vwCl (cW ad cid a2 lx sg gm lg) H := hP
    have hD : va_D A (cW ad cid a2 lx sg gm lg) := hD
    refine W.eq (g2 := F0 m 243 ls [.int r_20]) rfl ?_
    refine lv_iconst (v := (-1)) hx hb dX9_hasRightValue_243 (by decide) ?_
    refine lv_icmp_eq (tgt := 251) hx hb dX9_hasRightValue_244 (by decide) (fun c_23 => ?_) (fun c_23 => ?_)
    · have h_24 : iv (-1) (-1) r_20 := iv_eq c_23 hr_20 (iv_k (by decide) : iv (-1) (-1) (-1)) (by decide)
      refine lv_iconst (v := 0) hx hb dX9_hasRightValue_251 (by decide) ?_
      exact hj252 0 hsx0_234 hsx1_234 hsx2_234 (iv_w (iv_k (by decide) : iv 0 0 0) (by decide)) (Or.inr ⟨rfl, fun q9 => by have := (rvg_L hPA uK).mp q9; have := fL_r_20; have := i32_0; have := i32_1; have := i32_2; have := i32_m1; have := (hsx0_234).1; have := (hsx0_234).2; have := (hsx1_234).1; have := (hsx1_234).2; have := (hsx2_234).1; have := (hsx2_234).2; have := (h_24).1; have := (h_24).2; omega⟩) _ _ _ hP hD hS (lv_sub hl [0, 1, 2] rfl)
    · have h_25 : iv 0 25 r_20 := iv_neL c_23 hr_20 (by decide)
      refine lv_iconst (v := 1) hx hb dX9_hasRightValue_247 (by decide) ?_
      refine lv_goto (tgt := 252) hx hb dX9_hasRightValue_248 (by decide) ?_
      exact hj252 1 hsx0_234 hsx1_234 hsx2_234 (iv_w (iv_k (by decide) : iv 1 1 1) (by decide)) (Or.inl ⟨rfl, (rvg_L hPA uK).mpr (by have := fL_r_20; have := i32_0; have := i32_1; have := i32_2; have := i32_m1; have := (hsx0_234).1; have := (hsx0_234).2; have := (hsx1_234).1; have := (hsx1_234).2; have := (hsx2_234).1; have := (hsx2_234).2; have := (h_25).1; have := (h_25).2; omega)⟩) _ _ _ hP hD hS (lv_sub hl [0, 1, 2] rfl)
  have hj142 : ∀ (y0_142 : Int32) (_ : iv 0 0 x) (_ : iv 0 79 o) (_ : iv 0 33 w) (_ : iv 0 1 y0_142) (_ : (y0_142.toInt = 1 ∧ (RVL (dKd D o.toNatClampNeg) (dAt D o.toNatClampNeg) (wKy.getD w.toNatClampNeg 0))) ∨ (y0_142.toInt = 0 ∧ ¬ (RVL (dKd D o.toNatClampNeg) (dAt D o.toNatClampNeg) (wKy.getD w.toNatClampNeg 0)))) (H : Heap) (locs : List Loc) (ls : Array Slot), va_P (dC, dI) vwCl (cW ad cid a2 lx sg gm lg) H → va_D A (cW ad cid a2 lx sg gm lg) → va_S A s.heap H locs → lv_has ls 3 [(0, eV (ad 3) x), (1, eV (ad 9) o), (2, eV (ad 33) w)] → W p l e (headSpec wm_X9_hasRightValue ({ frames := 3, cells := 1, slots := 6, locals := 75 })).room s m ([eV (ad 3) x, eV (ad 9) o, eV (ad 33) w] : List Value).toArray below meth c H locs 0 0 (vx_MQ below (cQx dC dI ad cid a2 lx (fun v u => ∃ r : Int32, v = some (.int r) ∧ u = (sg, gm, lg) ∧ (iv 0 1 r) ∧ ((r.toInt = 1 ∧ (RVL (dKd D o.toNatClampNeg) (dAt D o.toNatClampNeg) (wKy.getD w.toNatClampNeg 0))) ∨ (r.toInt = 0 ∧ ¬ (RVL (dKd D o.toNatClampNeg) (dAt D o.toNatClampNeg) (wKy.getD w.toNatClampNeg 0))))) A) (cX dC dI ad cid a2 lx (fun _ _ => False) A) ([eV (ad 3) x, eV (ad 9) o, eV (ad 33) w] : List Value).toArray s 1 6 A) (F0 m 142 ls [.int y0_142]) := by
    intro y0_142 hsx0_142 hsx1_142 hsx2_142 hy0_142 u142 H locs ls hP hD hS hl
    exact W.nb (fun hN => W.widen (k := 1) (n := 6) (by decide) (by decide) (vx_ret (W.zret (v := y0_142) hx hb hr (iv_nb hy0_142) (fun t ht hW => ⟨⟨some (.int y0_142), (sg, gm, lg), rfl, ⟨y0_142, rfl, rfl, hy0_142, (u142)⟩, by rw [ht]; exact hP, va_K.moved hW.alike hK, hD⟩, hS.F ht, by rw [ht]; exact hN⟩) hS.2.2 dX9_hasRightValue_142)))
  have hj271 : ∀ (y0_271 : Int32) (_ : iv 0 0 x) (_ : iv 0 79 o) (_ : iv 0 33 w) (_ : iv 0 1 y0_271) (_ : (y0_271.toInt = 1 ∧ (RVL (dKd D o.toNatClampNeg) (dAt D o.toNatClampNeg) (wKy.getD w.toNatClampNeg 0))) ∨ (y0_271.toInt = 0 ∧ ¬ (RVL (dKd D o.toNatClampNeg) (dAt D o.toNatClampNeg) (wKy.getD w.toNatClampNeg 0)))) (H : Heap) (locs : List Loc) (ls : Array Slot), va_P (dC, dI) vwCl (cW ad cid a2 lx sg gm lg) H → va_D A (cW ad cid a2 lx sg gm lg) → va_S A s.heap H locs → lv_has ls 3 [(0, eV (ad 3) x), (1, eV (ad 9) o), (2, eV (ad 33) w)] → W p l e (headSpec wm_X9_hasRightValue ({ frames := 3, cells := 1, slots := 6, locals := 75 })).room s m ([eV (ad 3) x, eV (ad 9) o, eV (ad 33) w] : List Value).toArray below meth c H locs 0 0 (vx_MQ below (cQx dC dI ad cid a2 lx (fun v u => ∃ r : Int32, v = some (.int r) ∧ u = (sg, gm, lg) ∧ (iv 0 1 r) ∧ ((r.toInt = 1 ∧ (RVL (dKd D o.toNatClampNeg) (dAt D o.toNatClampNeg) (wKy.getD w.toNatClampNeg 0))) ∨ (r.toInt = 0 ∧ ¬ (RVL (dKd D o.toNatClampNeg) (dAt D o.toNatClampNeg) (wKy.getD w.toNatClampNeg 0))))) A) (cX dC dI ad cid a2 lx (fun _ _ => False) A) ([eV (ad 3) x, eV (ad 9) o, eV (ad 33) w] : List Value).toArray s 1 6 A) (F0 m 271 ls [.int y0_271]) := by
    intro y0_271 hsx0_271 hsx1_271 hsx2_271 hy0_271 u271 H locs ls hP hD hS hl
    exact W.nb (fun hN => W.widen (k := 1) (n := 6) (by decide) (by decide) (vx_ret (W.zret (v := y0_271) hx hb hr (iv_nb hy0_271) (fun t ht hW => ⟨⟨some (.int y0_271), (sg, gm, lg), rfl, ⟨y0_271, rfl, rfl, hy0_271, (u271)⟩, by rw [ht]; exact hP, va_K.moved hW.alike hK, hD⟩, hS.F ht, by rw [ht]; exact hN⟩) hS.2.2 dX9_hasRightValue_271)))
  have hj290 : ∀ (y0_290 : Int32) (_ : iv 0 0 x) (_ : iv 0 79 o) (_ : iv 0 33 w) (_ : iv 0 1 y0_290) (_ : (y0_290.toInt = 1 ∧ (RVL (dKd D o.toNatClampNeg) (dAt D o.toNatClampNeg) (wKy.getD w.toNatClampNeg 0))) ∨ (y0_290.toInt = 0 ∧ ¬ (RVL (dKd D o.toNatClampNeg) (dAt D o.toNatClampNeg) (wKy.getD w.toNatClampNeg 0)))) (H : Heap) (locs : List Loc) (ls : Array Slot), va_P (dC, dI) vwCl (cW ad cid a2 lx sg gm lg) H → va_D A (cW ad cid a2 lx sg gm lg) → va_S A s.heap H locs → lv_has ls 3 [(0, eV (ad 3) x), (1, eV (ad 9) o), (2, eV (ad 33) w)] → W p l e (headSpec wm_X9_hasRightValue ({ frames := 3, cells := 1, slots := 6, locals := 75 })).room s m ([eV (ad 3) x, eV (ad 9) o, eV (ad 33) w] : List Value).toArray below meth c H locs 0 0 (vx_MQ below (cQx dC dI ad cid a2 lx (fun v u => ∃ r : Int32, v = some (.int r) ∧ u = (sg, gm, lg) ∧ (iv 0 1 r) ∧ ((r.toInt = 1 ∧ (RVL (dKd D o.toNatClampNeg) (dAt D o.toNatClampNeg) (wKy.getD w.toNatClampNeg 0))) ∨ (r.toInt = 0 ∧ ¬ (RVL (dKd D o.toNatClampNeg) (dAt D o.toNatClampNeg) (wKy.getD w.toNatClampNeg 0))))) A) (cX dC dI ad cid a2 lx (fun _ _ => False) A) ([eV (ad 3) x, eV (ad 9) o, eV (ad 33) w] : List Value).toArray s 1 6 A) (F0 m 290 ls [.int y0_290]) := by
    intro y0_290 hsx0_290 hsx1_290 hsx2_290 hy0_290 u290 H locs ls hP hD hS hl
    exact W.nb (fun hN => W.widen (k := 1) (n := 6) (by decide) (by decide) (vx_ret (W.zret (v := y0_290) hx hb hr (iv_nb hy0_290) (fun t ht hW => ⟨⟨some (.int y0_290), (sg, gm, lg), rfl, ⟨y0_290, rfl, rfl, hy0_290, (u290)⟩, by rw [ht]; exact hP, va_K.moved hW.alike hK, hD⟩, hS.F ht, by rw [ht]; exact hN⟩) hS.2.2 dX9_hasRightValue_290)))
  refine cw_sw hx hb hG hS hown (htb _ kw_514) dX9_hasRightValue_0 ?_
  refine ec_aload_n hx hb dX9_hasRightValue_3 rfl (lv_at hl 2 rfl) ?_
  refine cw_ord ⟨hx, hb, hml, hown, htb⟩ kw_520 hvw hl.1 (Nat.le_trans (cs_c (eV_cat _ _) cs_n) (by decide)) dX9_hasRightValue_4 ⟨Nat.le_of_ble_eq_true rfl, Nat.le_of_ble_eq_true rfl⟩ ⟨Nat.le_of_ble_eq_true rfl, Nat.le_of_ble_eq_true rfl⟩ hP hD hS hA hG (fun H locs hP hS => ?_)
  refine cw_swld (iv_k (by decide) : iv 0 0 0) hx hb hG hS hvw dX9_hasRightValue_7 ?_
  refine lv_topi (fun z_26 ez_26 => ?_)
  have hz_26 : iv 0 29 z_26 := iv_of ez_26 (sw_iv w)
  by_cases c_27 : (z_26 : Int32).toInt = 13
  · refine lv_tableIn (tgt := 291) hx hb dX9_hasRightValue_8 (by rw [c_27]; decide) (by rw [c_27]; decide) (by rw [c_27]; rfl) (by decide) ?_
    have h_28 : iv 13 13 z_26 := iv_at c_27
    refine lv_iconst (v := 1) hx hb dX9_hasRightValue_291 (by decide) ?_
    exact W.nb (fun hN => W.widen (k := 1) (n := 6) (by decide) (by decide) (vx_ret (W.zret (v := 1) hx hb hr (iv_nb (iv_w (iv_k (by decide) : iv 1 1 1) (by decide))) (fun t ht hW => ⟨⟨some (.int 1), (sg, gm, lg), rfl, ⟨1, rfl, rfl, (iv_w (iv_k (by decide) : iv 1 1 1) (by decide)), (Or.inl ⟨rfl, rvg_V hPA (by have hK9 : (wKy.getD w.toNatClampNeg 0).toInt = 508440638821 := wkz (j := 7) hvw (swy 7 13 (by decide) hvw ez_26 c_27) (by decide); omega)⟩)⟩, by rw [ht]; exact hP, va_K.moved hW.alike hK, hD⟩, hS.F ht, by rw [ht]; exact hN⟩) hS.2.2 dX9_hasRightValue_292)))
  by_cases c_29 : (z_26 : Int32).toInt = 14
  · refine lv_tableIn (tgt := 293) hx hb dX9_hasRightValue_8 (by rw [c_29]; decide) (by rw [c_29]; decide) (by rw [c_29]; rfl) (by decide) ?_
    have h_30 : iv 14 14 z_26 := iv_at c_29
    exact hj293 hvx hvo hvw ((by have hK9 : (wKy.getD w.toNatClampNeg 0).toInt = 7497062 := wkz (j := 8) hvw (swy 8 14 (by decide) hvw ez_26 c_29) (by decide); omega)) _ _ _ hP hD hS (lv_sub hl [0, 1, 2] rfl)
  by_cases c_31 : (z_26 : Int32).toInt = 15
  · refine lv_tableIn (tgt := 293) hx hb dX9_hasRightValue_8 (by rw [c_31]; decide) (by rw [c_31]; decide) (by rw [c_31]; rfl) (by decide) ?_
    have h_32 : iv 15 15 z_26 := iv_at c_31
    exact hj293 hvx hvo hvw ((by have hK9 : (wKy.getD w.toNatClampNeg 0).toInt = 1853189228 := wkz (j := 9) hvw (swy 9 15 (by decide) hvw ez_26 c_31) (by decide); have := hMK; unfold MK7 at this; omega)) _ _ _ hP hD hS (lv_sub hl [0, 1, 2] rfl)
  by_cases c_33 : (z_26 : Int32).toInt = 16
  · refine lv_tableIn (tgt := 293) hx hb dX9_hasRightValue_8 (by rw [c_33]; decide) (by rw [c_33]; decide) (by rw [c_33]; rfl) (by decide) ?_
    have h_34 : iv 16 16 z_26 := iv_at c_33
    exact hj293 hvx hvo hvw ((by have hK9 : (wKy.getD w.toNatClampNeg 0).toInt = 26980 := wkz (j := 10) hvw (swy 10 16 (by decide) hvw ez_26 c_33) (by decide); omega)) _ _ _ hP hD hS (lv_sub hl [0, 1, 2] rfl)
  by_cases c_35 : (z_26 : Int32).toInt = 17
  · refine lv_tableIn (tgt := 162) hx hb dX9_hasRightValue_8 (by rw [c_35]; decide) (by rw [c_35]; decide) (by rw [c_35]; rfl) (by decide) ?_
    have h_36 : iv 17 17 z_26 := iv_at c_35
    exact hj162 hvx hvo hvw ((by have hK9 : (wKy.getD w.toNatClampNeg 0).toInt = 7017298113369039732 := wkz (j := 13) hvw (swy 13 17 (by decide) hvw ez_26 c_35) (by decide); omega)) _ _ _ hP hD hS (lv_sub hl [0, 1, 2] rfl)
  by_cases c_37 : (z_26 : Int32).toInt = 18
  · refine lv_tableIn (tgt := 162) hx hb dX9_hasRightValue_8 (by rw [c_37]; decide) (by rw [c_37]; decide) (by rw [c_37]; rfl) (by decide) ?_
    have h_38 : iv 18 18 z_26 := iv_at c_37
    exact hj162 hvx hvo hvw ((by have hK9 : (wKy.getD w.toNatClampNeg 0).toInt = 1818327673 := wkz (j := 15) hvw (swy 15 18 (by decide) hvw ez_26 c_37) (by decide); omega)) _ _ _ hP hD hS (lv_sub hl [0, 1, 2] rfl)
  by_cases c_39 : (z_26 : Int32).toInt = 19
  · refine lv_tableIn (tgt := 143) hx hb dX9_hasRightValue_8 (by rw [c_39]; decide) (by rw [c_39]; decide) (by rw [c_39]; rfl) (by decide) ?_
    have h_40 : iv 19 19 z_26 := iv_at c_39
    refine ec_aload_n hx hb dX9_hasRightValue_143 rfl (lv_at hl 0 rfl) ?_
    refine cr_get (t := 3) (j := 0) (C := RX9) (T := TX9) (N := 1) (v := eV (ad 1) 0) hx hb htb inX9 hown hK hP hvx (by decide) (by decide) (by decide) rfl (by decide) (htb _ kw_82) (cV_c rfl (by decide) (by rw [show cMu 3 0 = 0 from rfl, Nat.zero_mul]; rfl)) dX9_hasRightValue_144 ?_
    refine ec_aload_n hx hb dX9_hasRightValue_147 rfl (lv_at hl 1 rfl) ?_
    refine ec_aload_n hx hb dX9_hasRightValue_148 rfl (lv_at hl 2 rfl) ?_
    refine cm_callV (t := 1) (C := RX6) (T := TX6) (N := 8) (rest := []) (as := [eV (ad 9) o, eV (ad 33) w]) ⟨hx, hb, hml, hown, htb⟩ (d_classValue2 l dC dI ad cid a2 lx sg gm lg 0 o w (dAt D o.toNatClampNeg) hI (iv_k (by decide) : iv 0 0 0) hvo hvw hFA how hVS hEV.2.1) (cwV 2 htb (gd_V kw_585 kw_586 kw_587 kw_20 kw_1476) rfl rfl rfl (by decide +kernel) ⟨Nat.le_of_ble_eq_true rfl, Nat.le_of_ble_eq_true rfl⟩) (iv_k (by decide) : iv 0 0 0) (by decide) (by decide) rfl rfl hl.1 rfl (Nat.le_trans cs_n (by decide)) dX9_hasRightValue_149 ⟨Nat.le_of_ble_eq_true rfl, Nat.le_of_ble_eq_true rfl⟩ hK hP hD hS hA hG (fun E ce q9 u_42 H locs hw hP hD hS hce hcv hcl => ?_) (fun v9 u_42 H locs hw hP hD hS => ?_)
    · exact hw.elim
    obtain ⟨r_41, rfl, rfl, hr_41, fK_r_41⟩ := hw
    have hP : va_P (dC, dI) vwCl (cW ad cid a2 lx sg gm lg) H := hP
    have hD : va_D A (cW ad cid a2 lx sg gm lg) := hD
    refine W.eq (g2 := F0 m 152 ls [.int r_41]) rfl ?_
    refine lv_iconst (v := (-1)) hx hb dX9_hasRightValue_152 (by decide) ?_
    refine lv_icmp_eq (tgt := 160) hx hb dX9_hasRightValue_153 (by decide) (fun c_44 => ?_) (fun c_44 => ?_)
    · have h_45 : iv (-1) (-1) r_41 := iv_eq c_44 hr_41 (iv_k (by decide) : iv (-1) (-1) (-1)) (by decide)
      refine lv_iconst (v := 0) hx hb dX9_hasRightValue_160 (by decide) ?_
      exact hj161 0 hvx hvo hvw (iv_w (iv_k (by decide) : iv 0 0 0) (by decide)) (Or.inr ⟨rfl, fun q9 => by have := (rvg_C hPA (by have hK9 : (wKy.getD w.toNatClampNeg 0).toInt = 427020088179 := wkz (j := 11) hvw (swy 11 19 (by decide) hvw ez_26 c_39) (by decide); omega)).mp q9; have := fK_r_41; have := i32_0; have := i32_1; have := i32_2; have := i32_m1; have := (hvx).1; have := (hvx).2; have := (hvo).1; have := (hvo).2; have := (hvw).1; have := (hvw).2; have := (h_40).1; have := (h_40).2; have := (h_45).1; have := (h_45).2; omega⟩) _ _ _ hP hD hS (lv_sub hl [0, 1, 2] rfl)
    · have h_46 : iv 0 7 r_41 := iv_neL c_44 hr_41 (by decide)
      refine lv_iconst (v := 1) hx hb dX9_hasRightValue_156 (by decide) ?_
      refine lv_goto (tgt := 161) hx hb dX9_hasRightValue_157 (by decide) ?_
      exact hj161 1 hvx hvo hvw (iv_w (iv_k (by decide) : iv 1 1 1) (by decide)) (Or.inl ⟨rfl, (rvg_C hPA (by have hK9 : (wKy.getD w.toNatClampNeg 0).toInt = 427020088179 := wkz (j := 11) hvw (swy 11 19 (by decide) hvw ez_26 c_39) (by decide); omega)).mpr (by have := fK_r_41; have := i32_0; have := i32_1; have := i32_2; have := i32_m1; have := (hvx).1; have := (hvx).2; have := (hvo).1; have := (hvo).2; have := (hvw).1; have := (hvw).2; have := (h_40).1; have := (h_40).2; have := (h_46).1; have := (h_46).2; omega)⟩) _ _ _ hP hD hS (lv_sub hl [0, 1, 2] rfl)
  by_cases c_47 : (z_26 : Int32).toInt = 20
  · refine lv_tableIn (tgt := 293) hx hb dX9_hasRightValue_8 (by rw [c_47]; decide) (by rw [c_47]; decide) (by rw [c_47]; rfl) (by decide) ?_
    have h_48 : iv 20 20 z_26 := iv_at c_47
    exact hj293 hvx hvo hvw ((by have hK9 : (wKy.getD w.toNatClampNeg 0).toInt = 123563833388660 := wkz (j := 12) hvw (swy 12 20 (by decide) hvw ez_26 c_47) (by decide); omega)) _ _ _ hP hD hS (lv_sub hl [0, 1, 2] rfl)
  by_cases c_49 : (z_26 : Int32).toInt = 21
  · refine lv_tableIn (tgt := 198) hx hb dX9_hasRightValue_8 (by rw [c_49]; decide) (by rw [c_49]; decide) (by rw [c_49]; rfl) (by decide) ?_
    have h_50 : iv 21 21 z_26 := iv_at c_49
    refine ec_aload_n hx hb dX9_hasRightValue_198 rfl (lv_at hl 0 rfl) ?_
    refine cr_get (t := 3) (j := 0) (C := RX9) (T := TX9) (N := 1) (v := eV (ad 1) 0) hx hb htb inX9 hown hK hP hvx (by decide) (by decide) (by decide) rfl (by decide) (htb _ kw_82) (cV_c rfl (by decide) (by rw [show cMu 3 0 = 0 from rfl, Nat.zero_mul]; rfl)) dX9_hasRightValue_199 ?_
    refine ec_aload_n hx hb dX9_hasRightValue_202 rfl (lv_at hl 1 rfl) ?_
    refine ec_aload_n hx hb dX9_hasRightValue_203 rfl (lv_at hl 2 rfl) ?_
    refine cw_word (k := 27) (kx := 27) hx hb hG hS (by decide) rfl ⟨by decide, by decide⟩ hown (htb _ kw_580) dX9_hasRightValue_204 ?_
    refine cm_callV (t := 1) (C := RX6) (T := TX6) (N := 8) (rest := []) (as := [eV (ad 9) o, eV (ad 33) w, eV (ad 33) 27]) ⟨hx, hb, hml, hown, htb⟩ (d_valueIs2 l dC dI ad cid a2 lx sg gm lg 0 o w 27 (dAt D o.toNatClampNeg) hI (iv_k (by decide) : iv 0 0 0) hvo hvw (iv_w (iv_k (by decide) : iv 27 27 27) (by decide)) hFA how hVS hEV.2.1) (cwV 3 htb (gd_V kw_588 kw_589 kw_590 kw_20 kw_1477) rfl rfl rfl (by decide +kernel) ⟨Nat.le_of_ble_eq_true rfl, Nat.le_of_ble_eq_true rfl⟩) (iv_k (by decide) : iv 0 0 0) (by decide) (by decide) rfl rfl hl.1 rfl (Nat.le_trans cs_n (by decide)) dX9_hasRightValue_207 ⟨Nat.le_of_ble_eq_true rfl, Nat.le_of_ble_eq_true rfl⟩ hK hP hD hS hA hG (fun E ce q9 u_52 H locs hw hP hD hS hce hcv hcl => ?_) (fun v9 u_52 H locs hw hP hD hS => ?_)
    · exact hw.elim
    obtain ⟨r_51, rfl, rfl, hr_51, fV_r_51⟩ := hw
    have hP : va_P (dC, dI) vwCl (cW ad cid a2 lx sg gm lg) H := hP
    have hD : va_D A (cW ad cid a2 lx sg gm lg) := hD
    refine W.eq (g2 := F0 m 210 ls [.int r_51]) rfl ?_
    refine lv_if_ne (tgt := 228) hx hb dX9_hasRightValue_210 (by decide) (fun c_54 => ?_) (fun c_54 => ?_)
    · have h_55 : iv 1 1 r_51 := iv_neL c_54 hr_51 (by decide)
      exact hj228 hvx hvo hvw ((rvg_O hPA (by have hK9 : (wKy.getD w.toNatClampNeg 0).toInt = 495589486693 := wkz (j := 14) hvw (swy 14 21 (by decide) hvw ez_26 c_49) (by decide); omega)).mpr (Or.inl (fV_r_51.resolve_right (fun q8 => absurd q8.1 (by have := i32_0; have := i32_1; have := i32_2; have := i32_m1; have := (hvx).1; have := (hvx).2; have := (hvo).1; have := (hvo).2; have := (hvw).1; have := (hvw).2; have := (h_50).1; have := (h_50).2; have := (h_55).1; have := (h_55).2; omega))).2)) _ _ _ hP hD hS (lv_sub hl [0, 1, 2] rfl)
    · have h_56 : iv 0 0 r_51 := iv_eq c_54 hr_51 (iv_k (by decide) : iv 0 0 0) (by decide)
      refine ec_aload_n hx hb dX9_hasRightValue_213 rfl (lv_at hl 0 rfl) ?_
      refine cr_get (t := 3) (j := 0) (C := RX9) (T := TX9) (N := 1) (v := eV (ad 1) 0) hx hb htb inX9 hown hK hP hvx (by decide) (by decide) (by decide) rfl (by decide) (htb _ kw_82) (cV_c rfl (by decide) (by rw [show cMu 3 0 = 0 from rfl, Nat.zero_mul]; rfl)) dX9_hasRightValue_214 ?_
      refine ec_aload_n hx hb dX9_hasRightValue_217 rfl (lv_at hl 1 rfl) ?_
      refine ec_aload_n hx hb dX9_hasRightValue_218 rfl (lv_at hl 2 rfl) ?_
      refine cw_word (k := 28) (kx := 28) hx hb hG hS (by decide) rfl ⟨by decide, by decide⟩ hown (htb _ kw_581) dX9_hasRightValue_219 ?_
      refine cm_callV (t := 1) (C := RX6) (T := TX6) (N := 8) (rest := []) (as := [eV (ad 9) o, eV (ad 33) w, eV (ad 33) 28]) ⟨hx, hb, hml, hown, htb⟩ (d_valueIs2 l dC dI ad cid a2 lx sg gm lg 0 o w 28 (dAt D o.toNatClampNeg) hI (iv_k (by decide) : iv 0 0 0) hvo hvw (iv_w (iv_k (by decide) : iv 28 28 28) (by decide)) hFA how hVS hEV.2.1) (cwV 3 htb (gd_V kw_588 kw_589 kw_590 kw_20 kw_1477) rfl rfl rfl (by decide +kernel) ⟨Nat.le_of_ble_eq_true rfl, Nat.le_of_ble_eq_true rfl⟩) (iv_k (by decide) : iv 0 0 0) (by decide) (by decide) rfl rfl hl.1 rfl (Nat.le_trans cs_n (by decide)) dX9_hasRightValue_222 ⟨Nat.le_of_ble_eq_true rfl, Nat.le_of_ble_eq_true rfl⟩ hK hP hD hS hA hG (fun E ce q9 u_58 H locs hw hP hD hS hce hcv hcl => ?_) (fun v9 u_58 H locs hw hP hD hS => ?_)
      · exact hw.elim
      obtain ⟨r_57, rfl, rfl, hr_57, fV_r_57⟩ := hw
      have hP : va_P (dC, dI) vwCl (cW ad cid a2 lx sg gm lg) H := hP
      have hD : va_D A (cW ad cid a2 lx sg gm lg) := hD
      refine W.eq (g2 := F0 m 225 ls [.int r_57]) rfl ?_
      refine lv_if_eq (tgt := 232) hx hb dX9_hasRightValue_225 (by decide) (fun c_60 => ?_) (fun c_60 => ?_)
      · have h_61 : iv 0 0 r_57 := iv_eq c_60 hr_57 (iv_k (by decide) : iv 0 0 0) (by decide)
        refine lv_iconst (v := 0) hx hb dX9_hasRightValue_232 (by decide) ?_
        exact hj233 0 hvx hvo hvw (iv_w (iv_k (by decide) : iv 0 0 0) (by decide)) (Or.inr ⟨rfl, fun q9 => ((rvg_O hPA (by have hK9 : (wKy.getD w.toNatClampNeg 0).toInt = 495589486693 := wkz (j := 14) hvw (swy 14 21 (by decide) hvw ez_26 c_49) (by decide); omega)).mp q9).elim (fV_r_51.resolve_left (fun q8 => absurd q8.1 (by have := i32_0; have := i32_1; have := i32_2; have := i32_m1; have := (hvx).1; have := (hvx).2; have := (hvo).1; have := (hvo).2; have := (hvw).1; have := (hvw).2; have := (h_50).1; have := (h_50).2; have := (h_56).1; have := (h_56).2; have := (h_61).1; have := (h_61).2; omega))).2 (fV_r_57.resolve_left (fun q8 => absurd q8.1 (by have := i32_0; have := i32_1; have := i32_2; have := i32_m1; have := (hvx).1; have := (hvx).2; have := (hvo).1; have := (hvo).2; have := (hvw).1; have := (hvw).2; have := (h_50).1; have := (h_50).2; have := (h_56).1; have := (h_56).2; have := (h_61).1; have := (h_61).2; omega))).2⟩) _ _ _ hP hD hS (lv_sub hl [0, 1, 2] rfl)
      · have h_62 : iv 1 1 r_57 := iv_neL c_60 hr_57 (by decide)
        exact hj228 hvx hvo hvw ((rvg_O hPA (by have hK9 : (wKy.getD w.toNatClampNeg 0).toInt = 495589486693 := wkz (j := 14) hvw (swy 14 21 (by decide) hvw ez_26 c_49) (by decide); omega)).mpr (Or.inr (fV_r_57.resolve_right (fun q8 => absurd q8.1 (by have := i32_0; have := i32_1; have := i32_2; have := i32_m1; have := (hvx).1; have := (hvx).2; have := (hvo).1; have := (hvo).2; have := (hvw).1; have := (hvw).2; have := (h_50).1; have := (h_50).2; have := (h_56).1; have := (h_56).2; have := (h_62).1; have := (h_62).2; omega))).2)) _ _ _ hP hD hS (lv_sub hl [0, 1, 2] rfl)
  by_cases c_63 : (z_26 : Int32).toInt = 22
  · refine lv_tableIn (tgt := 293) hx hb dX9_hasRightValue_8 (by rw [c_63]; decide) (by rw [c_63]; decide) (by rw [c_63]; rfl) (by decide) ?_
    have h_64 : iv 22 22 z_26 := iv_at c_63
    exact hj293 hvx hvo hvw ((by have hK9 : (wKy.getD w.toNatClampNeg 0).toInt = 28817527407604345 := wkz (j := 16) hvw (swy 16 22 (by decide) hvw ez_26 c_63) (by decide); omega)) _ _ _ hP hD hS (lv_sub hl [0, 1, 2] rfl)
  by_cases c_65 : (z_26 : Int32).toInt = 23
  · refine lv_tableIn (tgt := 234) hx hb dX9_hasRightValue_8 (by rw [c_65]; decide) (by rw [c_65]; decide) (by rw [c_65]; rfl) (by decide) ?_
    have h_66 : iv 23 23 z_26 := iv_at c_65
    exact hj234 hvx hvo hvw ((by have hK9 : (wKy.getD w.toNatClampNeg 0).toInt = 120282512125796 := wkz (j := 17) hvw (swy 17 23 (by decide) hvw ez_26 c_65) (by decide); omega)) _ _ _ hP hD hS (lv_sub hl [0, 1, 2] rfl)
  by_cases c_67 : (z_26 : Int32).toInt = 24
  · refine lv_tableIn (tgt := 234) hx hb dX9_hasRightValue_8 (by rw [c_67]; decide) (by rw [c_67]; decide) (by rw [c_67]; rfl) (by decide) ?_
    have h_68 : iv 24 24 z_26 := iv_at c_67
    exact hj234 hvx hvo hvw ((by have hK9 : (wKy.getD w.toNatClampNeg 0).toInt = 1768843636 := wkz (j := 18) hvw (swy 18 24 (by decide) hvw ez_26 c_67) (by decide); omega)) _ _ _ hP hD hS (lv_sub hl [0, 1, 2] rfl)
  by_cases c_69 : (z_26 : Int32).toInt = 25
  · refine lv_tableIn (tgt := 234) hx hb dX9_hasRightValue_8 (by rw [c_69]; decide) (by rw [c_69]; decide) (by rw [c_69]; rfl) (by decide) ?_
    have h_70 : iv 25 25 z_26 := iv_at c_69
    exact hj234 hvx hvo hvw ((by have hK9 : (wKy.getD w.toNatClampNeg 0).toInt = 28259044220366713 := wkz (j := 19) hvw (swy 19 25 (by decide) hvw ez_26 c_69) (by decide); omega)) _ _ _ hP hD hS (lv_sub hl [0, 1, 2] rfl)
  by_cases c_71 : (z_26 : Int32).toInt = 26
  · refine lv_tableIn (tgt := 293) hx hb dX9_hasRightValue_8 (by rw [c_71]; decide) (by rw [c_71]; decide) (by rw [c_71]; rfl) (by decide) ?_
    have h_72 : iv 26 26 z_26 := iv_at c_71
    exact hj293 hvx hvo hvw ((by have hK9 : (wKy.getD w.toNatClampNeg 0).toInt = 28259031083541619 := wkz (j := 20) hvw (swy 20 26 (by decide) hvw ez_26 c_71) (by decide); omega)) _ _ _ hP hD hS (lv_sub hl [0, 1, 2] rfl)
  by_cases c_73 : (z_26 : Int32).toInt = 27
  · refine lv_tableIn (tgt := 92) hx hb dX9_hasRightValue_8 (by rw [c_73]; decide) (by rw [c_73]; decide) (by rw [c_73]; rfl) (by decide) ?_
    have h_74 : iv 27 27 z_26 := iv_at c_73
    refine ec_aload_n hx hb dX9_hasRightValue_92 rfl (lv_at hl 1 rfl) ?_
    refine cr_get (t := 9) (j := 4) (C := RX3) (T := TX3) (N := 21) (v := eV (ad 33) (gm 14 o.toNatClampNeg)) hx hb htb inX3 hown hK hP hvo (by decide) (by decide) (by decide) rfl (by decide) (htb _ kw_508) rfl dX9_hasRightValue_93 ?_
    obtain ⟨z_75, ez_75⟩ : ∃ z : Int32, z = (gm 14 o.toNatClampNeg) := ⟨_, rfl⟩
    refine W.eq (g2 := F0 m 96 ls [eV (ad 33) z_75]) (by rw [ez_75]) ?_
    have hz_75 : iv (-1) 33 z_75 := iv_of ez_75 (CI_a hI 14 hvo (by decide))
    refine cw_word (k := 1) (kx := 1) hx hb hG hS (by decide) rfl ⟨by decide, by decide⟩ hown (htb _ kw_577) dX9_hasRightValue_96 ?_
    refine ec_acmp_ne (tgt := 124) hx hb dX9_hasRightValue_99 (by decide) (fun c_76 => ?_) (fun c_76 => ?_)
    · have wc_76 : ¬ z_75.toInt = (1 : Int) := fun q9 => c_76 (congrArg (er (ad 33)) (Int32.toInt_inj.mp q9))
      refine ec_aload_n hx hb dX9_hasRightValue_124 rfl (lv_at hl 0 rfl) ?_
      refine cr_get (t := 3) (j := 0) (C := RX9) (T := TX9) (N := 1) (v := eV (ad 1) 0) hx hb htb inX9 hown hK hP hvx (by decide) (by decide) (by decide) rfl (by decide) (htb _ kw_82) (cV_c rfl (by decide) (by rw [show cMu 3 0 = 0 from rfl, Nat.zero_mul]; rfl)) dX9_hasRightValue_125 ?_
      refine ec_aload_n hx hb dX9_hasRightValue_128 rfl (lv_at hl 1 rfl) ?_
      refine ec_aload_n hx hb dX9_hasRightValue_129 rfl (lv_at hl 2 rfl) ?_
      refine cm_callV (t := 1) (C := RX6) (T := TX6) (N := 8) (rest := []) (as := [eV (ad 9) o, eV (ad 33) w]) ⟨hx, hb, hml, hown, htb⟩ (d_letterValue2 l dC dI ad cid a2 lx sg gm lg 0 o w (dAt D o.toNatClampNeg) hI (iv_k (by decide) : iv 0 0 0) hvo hvw hFA how hVS hEV.2.1) (cwV 2 htb (gd_V kw_542 kw_543 kw_544 kw_20 kw_1466) rfl rfl rfl (by decide +kernel) ⟨Nat.le_of_ble_eq_true rfl, Nat.le_of_ble_eq_true rfl⟩) (iv_k (by decide) : iv 0 0 0) (by decide) (by decide) rfl rfl hl.1 rfl (Nat.le_trans cs_n (by decide)) dX9_hasRightValue_130 ⟨Nat.le_of_ble_eq_true rfl, Nat.le_of_ble_eq_true rfl⟩ hK hP hD hS hA hG (fun E ce q9 u_78 H locs hw hP hD hS hce hcv hcl => ?_) (fun v9 u_78 H locs hw hP hD hS => ?_)
      · exact hw.elim
      obtain ⟨r_77, rfl, rfl, hr_77, fL_r_77⟩ := hw
      have hP : va_P (dC, dI) vwCl (cW ad cid a2 lx sg gm lg) H := hP
      have hD : va_D A (cW ad cid a2 lx sg gm lg) := hD
      refine W.eq (g2 := F0 m 133 ls [.int r_77]) rfl ?_
      refine lv_iconst (v := (-1)) hx hb dX9_hasRightValue_133 (by decide) ?_
      refine lv_icmp_eq (tgt := 141) hx hb dX9_hasRightValue_134 (by decide) (fun c_80 => ?_) (fun c_80 => ?_)
      · have h_81 : iv (-1) (-1) r_77 := iv_eq c_80 hr_77 (iv_k (by decide) : iv (-1) (-1) (-1)) (by decide)
        refine lv_iconst (v := 0) hx hb dX9_hasRightValue_141 (by decide) ?_
        exact hj142 0 hvx hvo hvw (iv_w (iv_k (by decide) : iv 0 0 0) (by decide)) (Or.inr ⟨rfl, fun q9 => by have h2 : ¬ dKd D o.toNatClampNeg = 2 := fun q6 => absurd (KW_j (q6 ▸ hEV.1 : KW7 (gm 14 o.toNatClampNeg).toInt 2) (by decide)) (by rw [show wkF 2 = 1 by decide]; have q7 : (gm 14 o.toNatClampNeg).toInt = z_75.toInt := (by rw [← ez_75]); have := wc_76; omega); exact ((rvg_N hPA (by have hK9 : (wKy.getD w.toNatClampNeg 0).toInt = 1851878757 := wkz (j := 21) hvw (swy 21 27 (by decide) hvw ez_26 c_73) (by decide); omega)).mp q9).elim (fun q8 => h2 q8.1) (fun q8 => by have := q8.2; have := fL_r_77; have := i32_0; have := i32_1; have := i32_2; have := i32_m1; have := (hvx).1; have := (hvx).2; have := (hvo).1; have := (hvo).2; have := (hvw).1; have := (hvw).2; have := (h_74).1; have := (h_74).2; have := (hz_75).1; have := (hz_75).2; have := (h_81).1; have := (h_81).2; omega)⟩) _ _ _ hP hD hS (lv_sub hl [0, 1, 2] rfl)
      · have h_82 : iv 0 25 r_77 := iv_neL c_80 hr_77 (by decide)
        refine lv_iconst (v := 1) hx hb dX9_hasRightValue_137 (by decide) ?_
        refine lv_goto (tgt := 142) hx hb dX9_hasRightValue_138 (by decide) ?_
        exact hj142 1 hvx hvo hvw (iv_w (iv_k (by decide) : iv 1 1 1) (by decide)) (Or.inl ⟨rfl, (by have h2 : ¬ dKd D o.toNatClampNeg = 2 := fun q6 => absurd (KW_j (q6 ▸ hEV.1 : KW7 (gm 14 o.toNatClampNeg).toInt 2) (by decide)) (by rw [show wkF 2 = 1 by decide]; have q7 : (gm 14 o.toNatClampNeg).toInt = z_75.toInt := (by rw [← ez_75]); have := wc_76; omega); exact (rvg_N hPA (by have hK9 : (wKy.getD w.toNatClampNeg 0).toInt = 1851878757 := wkz (j := 21) hvw (swy 21 27 (by decide) hvw ez_26 c_73) (by decide); omega)).mpr (Or.inr ⟨h2, (by have := fL_r_77; have := i32_0; have := i32_1; have := i32_2; have := i32_m1; have := (hvx).1; have := (hvx).2; have := (hvo).1; have := (hvo).2; have := (hvw).1; have := (hvw).2; have := (h_74).1; have := (h_74).2; have := (hz_75).1; have := (hz_75).2; have := (h_82).1; have := (h_82).2; omega)⟩))⟩) _ _ _ hP hD hS (lv_sub hl [0, 1, 2] rfl)
    · have wc_76 : z_75.toInt = (1 : Int) := er_wd hG hz_75 (iv_w (iv_k (by decide) : iv 1 1 1) (by decide)) c_76
      refine ec_aload_n hx hb dX9_hasRightValue_102 rfl (lv_at hl 0 rfl) ?_
      refine cr_get (t := 3) (j := 0) (C := RX9) (T := TX9) (N := 1) (v := eV (ad 1) 0) hx hb htb inX9 hown hK hP hvx (by decide) (by decide) (by decide) rfl (by decide) (htb _ kw_82) (cV_c rfl (by decide) (by rw [show cMu 3 0 = 0 from rfl, Nat.zero_mul]; rfl)) dX9_hasRightValue_103 ?_
      refine ec_aload_n hx hb dX9_hasRightValue_106 rfl (lv_at hl 1 rfl) ?_
      refine ec_aload_n hx hb dX9_hasRightValue_107 rfl (lv_at hl 2 rfl) ?_
      refine cm_callV (t := 1) (C := RX6) (T := TX6) (N := 8) (rest := []) (as := [eV (ad 9) o, eV (ad 33) w]) ⟨hx, hb, hml, hown, htb⟩ (d_nameValue3 l dC dI ad cid a2 lx sg gm lg 0 o w (dAt D o.toNatClampNeg) hI (iv_k (by decide) : iv 0 0 0) hvo hvw hFA how hVS hEV.2.1) (cwV 2 htb (gd_V kw_582 kw_583 kw_584 kw_20 kw_1475) rfl rfl rfl (by decide +kernel) ⟨Nat.le_of_ble_eq_true rfl, Nat.le_of_ble_eq_true rfl⟩) (iv_k (by decide) : iv 0 0 0) (by decide) (by decide) rfl rfl hl.1 rfl (Nat.le_trans cs_n (by decide)) dX9_hasRightValue_108 ⟨Nat.le_of_ble_eq_true rfl, Nat.le_of_ble_eq_true rfl⟩ hK hP hD hS hA hG (fun E ce q9 u_84 H locs hw hP hD hS hce hcv hcl => ?_) (fun v9 u_84 H locs hw hP hD hS => ?_)
      · exact hw.elim
      obtain ⟨r_83, rfl, rfl, fN_r_83, fZ_r_83⟩ := hw
      have hP : va_P (dC, dI) vwCl (cW ad cid a2 lx sg gm lg) H := hP
      have hD : va_D A (cW ad cid a2 lx sg gm lg) := hD
      refine W.eq (g2 := F0 m 111 ls [.long r_83]) rfl ?_
      refine lv_lconst (v := 0) hx hb dX9_hasRightValue_111 (by decide) ?_
      refine W.lcmp hx hb dX9_hasRightValue_112 ?_
      refine lv_topi (fun z_86 ez_86 => ?_)
      have hz_86 : iv (-1) 1 z_86 := iv_of ez_86 (iv_cmp _ _)
      refine lv_if_eq (tgt := 120) hx hb dX9_hasRightValue_113 (by decide) (fun c_87 => ?_) (fun c_87 => ?_)
      · have h_88 : iv 0 0 z_86 := iv_eq c_87 hz_86 (iv_k (by decide) : iv 0 0 0) (by decide)
        refine lv_iconst (v := 0) hx hb dX9_hasRightValue_120 (by decide) ?_
        refine lv_goto (tgt := 142) hx hb dX9_hasRightValue_121 (by decide) ?_
        exact hj142 0 hvx hvo hvw (iv_w (iv_k (by decide) : iv 0 0 0) (by decide)) (Or.inr ⟨rfl, fun q9 => by have h2 : dKd D o.toNatClampNeg = 2 := KW_f hEV.1 (by unfold KW7; rw [show (gm 14 o.toNatClampNeg).toInt = 1 from (by have q7 : (gm 14 o.toNatClampNeg).toInt = z_75.toInt := (by rw [← ez_75]); have := wc_76; omega)]; decide); exact ((rvg_N hPA (by have hK9 : (wKy.getD w.toNatClampNeg 0).toInt = 1851878757 := wkz (j := 21) hvw (swy 21 27 (by decide) hvw ez_26 c_73) (by decide); omega)).mp q9).elim (fun q8 => q8.2 (by rw [← fN_r_83]; exact (lg_cmp_eq _ _).mp (by rw [← ez_86]; exact c_87))) (fun q8 => q8.1 h2)⟩) _ _ _ hP hD hS (lv_sub hl [0, 1, 2] rfl)
      · have d_89 : ¬ (z_86 : Int32).toInt = 0 := lv_neT c_87 rfl
        refine lv_iconst (v := 1) hx hb dX9_hasRightValue_116 (by decide) ?_
        refine lv_goto (tgt := 142) hx hb dX9_hasRightValue_117 (by decide) ?_
        exact hj142 1 hvx hvo hvw (iv_w (iv_k (by decide) : iv 1 1 1) (by decide)) (Or.inl ⟨rfl, (by have h2 : dKd D o.toNatClampNeg = 2 := KW_f hEV.1 (by unfold KW7; rw [show (gm 14 o.toNatClampNeg).toInt = 1 from (by have q7 : (gm 14 o.toNatClampNeg).toInt = z_75.toInt := (by rw [← ez_75]); have := wc_76; omega)]; decide); exact (rvg_N hPA (by have hK9 : (wKy.getD w.toNatClampNeg 0).toInt = 1851878757 := wkz (j := 21) hvw (swy 21 27 (by decide) hvw ez_26 c_73) (by decide); omega)).mpr (Or.inl ⟨h2, fun q9 => c_87 (by rw [ez_86, fN_r_83, q9]; exact (lg_cmp_eq _ _).mpr rfl)⟩))⟩) _ _ _ hP hD hS (lv_sub hl [0, 1, 2] rfl)
  by_cases c_90 : (z_26 : Int32).toInt = 28
  · refine lv_tableIn (tgt := 253) hx hb dX9_hasRightValue_8 (by rw [c_90]; decide) (by rw [c_90]; decide) (by rw [c_90]; rfl) (by decide) ?_
    have h_91 : iv 28 28 z_26 := iv_at c_90
    refine ec_aload_n hx hb dX9_hasRightValue_253 rfl (lv_at hl 0 rfl) ?_
    refine cr_get (t := 3) (j := 0) (C := RX9) (T := TX9) (N := 1) (v := eV (ad 1) 0) hx hb htb inX9 hown hK hP hvx (by decide) (by decide) (by decide) rfl (by decide) (htb _ kw_82) (cV_c rfl (by decide) (by rw [show cMu 3 0 = 0 from rfl, Nat.zero_mul]; rfl)) dX9_hasRightValue_254 ?_
    refine ec_aload_n hx hb dX9_hasRightValue_257 rfl (lv_at hl 1 rfl) ?_
    refine ec_aload_n hx hb dX9_hasRightValue_258 rfl (lv_at hl 2 rfl) ?_
    refine cm_callV (t := 1) (C := RX6) (T := TX6) (N := 8) (rest := []) (as := [eV (ad 9) o, eV (ad 33) w]) ⟨hx, hb, hml, hown, htb⟩ (d_placeValue2 l dC dI ad cid a2 lx sg gm lg 0 o w (dAt D o.toNatClampNeg) hI (iv_k (by decide) : iv 0 0 0) hvo hvw hFA how hVS hEV.2.1) (cwV 2 htb (gd_V kw_592 kw_593 kw_594 kw_20 kw_1478) rfl rfl rfl (by decide +kernel) ⟨Nat.le_of_ble_eq_true rfl, Nat.le_of_ble_eq_true rfl⟩) (iv_k (by decide) : iv 0 0 0) (by decide) (by decide) rfl rfl hl.1 rfl (Nat.le_trans cs_n (by decide)) dX9_hasRightValue_259 ⟨Nat.le_of_ble_eq_true rfl, Nat.le_of_ble_eq_true rfl⟩ hK hP hD hS hA hG (fun E ce q9 u_93 H locs hw hP hD hS hce hcv hcl => ?_) (fun v9 u_93 H locs hw hP hD hS => ?_)
    · exact hw.elim
    obtain ⟨r_92, rfl, rfl, hr_92, fL_r_92⟩ := hw
    have hP : va_P (dC, dI) vwCl (cW ad cid a2 lx sg gm lg) H := hP
    have hD : va_D A (cW ad cid a2 lx sg gm lg) := hD
    refine W.eq (g2 := F0 m 262 ls [.int r_92]) rfl ?_
    refine lv_iconst (v := (-1)) hx hb dX9_hasRightValue_262 (by decide) ?_
    refine lv_icmp_eq (tgt := 270) hx hb dX9_hasRightValue_263 (by decide) (fun c_95 => ?_) (fun c_95 => ?_)
    · have h_96 : iv (-1) (-1) r_92 := iv_eq c_95 hr_92 (iv_k (by decide) : iv (-1) (-1) (-1)) (by decide)
      refine lv_iconst (v := 0) hx hb dX9_hasRightValue_270 (by decide) ?_
      exact hj271 0 hvx hvo hvw (iv_w (iv_k (by decide) : iv 0 0 0) (by decide)) (Or.inr ⟨rfl, fun q9 => by have := (rvg_A hPA (by have hK9 : (wKy.getD w.toNatClampNeg 0).toInt = 24948 := wkz (j := 23) hvw (swy 23 28 (by decide) hvw ez_26 c_90) (by decide); omega)).mp q9; have := fL_r_92; have := i32_0; have := i32_1; have := i32_2; have := i32_m1; have := (hvx).1; have := (hvx).2; have := (hvo).1; have := (hvo).2; have := (hvw).1; have := (hvw).2; have := (h_91).1; have := (h_91).2; have := (h_96).1; have := (h_96).2; omega⟩) _ _ _ hP hD hS (lv_sub hl [0, 1, 2] rfl)
    · have h_97 : iv 0 2 r_92 := iv_neL c_95 hr_92 (by decide)
      refine lv_iconst (v := 1) hx hb dX9_hasRightValue_266 (by decide) ?_
      refine lv_goto (tgt := 271) hx hb dX9_hasRightValue_267 (by decide) ?_
      exact hj271 1 hvx hvo hvw (iv_w (iv_k (by decide) : iv 1 1 1) (by decide)) (Or.inl ⟨rfl, (rvg_A hPA (by have hK9 : (wKy.getD w.toNatClampNeg 0).toInt = 24948 := wkz (j := 23) hvw (swy 23 28 (by decide) hvw ez_26 c_90) (by decide); omega)).mpr (by have := fL_r_92; have := i32_0; have := i32_1; have := i32_2; have := i32_m1; have := (hvx).1; have := (hvx).2; have := (hvo).1; have := (hvo).2; have := (hvw).1; have := (hvw).2; have := (h_91).1; have := (h_91).2; have := (h_97).1; have := (h_97).2; omega)⟩) _ _ _ hP hD hS (lv_sub hl [0, 1, 2] rfl)
  by_cases c_98 : (z_26 : Int32).toInt = 29
  · refine lv_tableIn (tgt := 272) hx hb dX9_hasRightValue_8 (by rw [c_98]; decide) (by rw [c_98]; decide) (by rw [c_98]; rfl) (by decide) ?_
    have h_99 : iv 29 29 z_26 := iv_at c_98
    refine ec_aload_n hx hb dX9_hasRightValue_272 rfl (lv_at hl 0 rfl) ?_
    refine cr_get (t := 3) (j := 0) (C := RX9) (T := TX9) (N := 1) (v := eV (ad 1) 0) hx hb htb inX9 hown hK hP hvx (by decide) (by decide) (by decide) rfl (by decide) (htb _ kw_82) (cV_c rfl (by decide) (by rw [show cMu 3 0 = 0 from rfl, Nat.zero_mul]; rfl)) dX9_hasRightValue_273 ?_
    refine ec_aload_n hx hb dX9_hasRightValue_276 rfl (lv_at hl 1 rfl) ?_
    refine ec_aload_n hx hb dX9_hasRightValue_277 rfl (lv_at hl 2 rfl) ?_
    refine cm_callV (t := 1) (C := RX6) (T := TX6) (N := 8) (rest := []) (as := [eV (ad 9) o, eV (ad 33) w]) ⟨hx, hb, hml, hown, htb⟩ (d_typeValue2 l dC dI ad cid a2 lx sg gm lg 0 o w (dAt D o.toNatClampNeg) hI (iv_k (by decide) : iv 0 0 0) hvo hvw hFA how hVS hEV.2.1) (cwV 2 htb (gd_V kw_595 kw_596 kw_597 kw_20 kw_1479) rfl rfl rfl (by decide +kernel) ⟨Nat.le_of_ble_eq_true rfl, Nat.le_of_ble_eq_true rfl⟩) (iv_k (by decide) : iv 0 0 0) (by decide) (by decide) rfl rfl hl.1 rfl (Nat.le_trans cs_n (by decide)) dX9_hasRightValue_278 ⟨Nat.le_of_ble_eq_true rfl, Nat.le_of_ble_eq_true rfl⟩ hK hP hD hS hA hG (fun E ce q9 u_101 H locs hw hP hD hS hce hcv hcl => ?_) (fun v9 u_101 H locs hw hP hD hS => ?_)
    · exact hw.elim
    obtain ⟨r_100, rfl, rfl, hr_100, fT_r_100⟩ := hw
    have hP : va_P (dC, dI) vwCl (cW ad cid a2 lx sg gm lg) H := hP
    have hD : va_D A (cW ad cid a2 lx sg gm lg) := hD
    refine W.eq (g2 := F0 m 281 ls [.int r_100]) rfl ?_
    refine lv_iconst (v := (-1)) hx hb dX9_hasRightValue_281 (by decide) ?_
    refine lv_icmp_eq (tgt := 289) hx hb dX9_hasRightValue_282 (by decide) (fun c_103 => ?_) (fun c_103 => ?_)
    · have h_104 : iv (-1) (-1) r_100 := iv_eq c_103 hr_100 (iv_k (by decide) : iv (-1) (-1) (-1)) (by decide)
      refine lv_iconst (v := 0) hx hb dX9_hasRightValue_289 (by decide) ?_
      exact hj290 0 hvx hvo hvw (iv_w (iv_k (by decide) : iv 0 0 0) (by decide)) (Or.inr ⟨rfl, fun q9 => (fT_r_100.resolve_left (fun q8 => absurd q8.1 (by have := i32_0; have := i32_1; have := i32_2; have := i32_m1; have := (hvx).1; have := (hvx).2; have := (hvo).1; have := (hvo).2; have := (hvw).1; have := (hvw).2; have := (h_99).1; have := (h_99).2; have := (h_104).1; have := (h_104).2; omega))).2 ((rvg_T hPA (by have hK9 : (wKy.getD w.toNatClampNeg 0).toInt = 1954115685 := wkz (j := 24) hvw (swy 24 29 (by decide) hvw ez_26 c_98) (by decide); omega)).mp q9)⟩) _ _ _ hP hD hS (lv_sub hl [0, 1, 2] rfl)
    · have h_105 : iv 0 15 r_100 := iv_neL c_103 hr_100 (by decide)
      refine lv_iconst (v := 1) hx hb dX9_hasRightValue_285 (by decide) ?_
      refine lv_goto (tgt := 290) hx hb dX9_hasRightValue_286 (by decide) ?_
      exact hj290 1 hvx hvo hvw (iv_w (iv_k (by decide) : iv 1 1 1) (by decide)) (Or.inl ⟨rfl, (rvg_T hPA (by have hK9 : (wKy.getD w.toNatClampNeg 0).toInt = 1954115685 := wkz (j := 24) hvw (swy 24 29 (by decide) hvw ez_26 c_98) (by decide); omega)).mpr (fT_r_100.resolve_right (fun q8 => absurd q8.1 (by have := i32_0; have := i32_1; have := i32_2; have := i32_m1; have := (hvx).1; have := (hvx).2; have := (hvo).1; have := (hvo).2; have := (hvw).1; have := (hvw).2; have := (h_99).1; have := (h_99).2; have := (h_105).1; have := (h_105).2; omega))).2⟩) _ _ _ hP hD hS (lv_sub hl [0, 1, 2] rfl)
  refine lv_tableOut (tgt := 293) hx hb dX9_hasRightValue_8 (by have q1 := (hz_26).1; have q2 := (hz_26).2; omega) (by decide) ?_
  have h_106 : iv 0 12 z_26 := ⟨by have q1 := (hz_26).1; have q2 := (hz_26).2; omega, by have q1 := (hz_26).1; have q2 := (hz_26).2; omega⟩
  exact hj293 hvx hvo hvw ((by have q9 := hMK; unfold MK7 at q9; have n_CLASS := wkn (x := 427020088179) (j := 11) (by decide) hvw (swx 11 19 (by decide) hvw ez_26 (by omega)); have n_ABSTRACT := wkn (x := 7017298113369039732) (j := 13) (by decide) hvw (swx 13 17 (by decide) hvw ez_26 (by omega)); have n_SCOPE := wkn (x := 495589486693) (j := 14) (by decide) hvw (swx 14 21 (by decide) hvw ez_26 (by omega)); have n_LAZY := wkn (x := 1818327673) (j := 15) (by decide) hvw (swx 15 18 (by decide) hvw ez_26 (by omega)); have n_METHOD := wkn (x := 120282512125796) (j := 17) (by decide) hvw (swx 17 23 (by decide) hvw ez_26 (by omega)); have n_INIT := wkn (x := 1768843636) (j := 18) (by decide) hvw (swx 18 24 (by decide) hvw ez_26 (by omega)); have n_DESTROY := wkn (x := 28259044220366713) (j := 19) (by decide) hvw (swx 19 25 (by decide) hvw ez_26 (by omega)); have n_NAME := wkn (x := 1851878757) (j := 21) (by decide) hvw (swx 21 27 (by decide) hvw ez_26 (by omega)); have n_AT := wkn (x := 24948) (j := 23) (by decide) hvw (swx 23 28 (by decide) hvw ez_26 (by omega)); have n_TYPE := wkn (x := 1954115685) (j := 24) (by decide) hvw (swx 24 29 (by decide) hvw ez_26 (by omega)); have n_VALUE := wkn (x := 508440638821) (j := 7) (by decide) hvw (swx 7 13 (by decide) hvw ez_26 (by omega)); omega)) _ _ _ hP hD hS (lv_sub hl [0, 1, 2] rfl)
end
section
theorem MK_w {k : Int64} (h : MK7 k.toInt) : ∃ j, j < 34 ∧ wKy.getD j 0 = k := by
  unfold MK7 at h
  have key : ∀ (x : Int64) (j : Nat), j < 34 → wKy.getD j 0 = x → k.toInt = x.toInt → ∃ j, j < 34 ∧ wKy.getD j 0 = k := fun x j hj hx e => ⟨j, hj, hx.trans (Int64.toInt_inj.mp e).symm⟩
  rcases h with e | e | e | e | e | e | e | e | e | e | e | e | e | e | e | e | e | e
  · exact key 1851878757 21 (by decide) (by decide) (e.trans (by decide))
  · exact key 29807 22 (by decide) (by decide) (e.trans (by decide))
  · exact key 26980 10 (by decide) (by decide) (e.trans (by decide))
  · exact key 7017298113369039732 13 (by decide) (by decide) (e.trans (by decide))
  · exact key 1818327673 15 (by decide) (by decide) (e.trans (by decide))
  · exact key 427020088179 11 (by decide) (by decide) (e.trans (by decide))
  · exact key 123563833388660 12 (by decide) (by decide) (e.trans (by decide))
  · exact key 495589486693 14 (by decide) (by decide) (e.trans (by decide))
  · exact key 28817527407604345 16 (by decide) (by decide) (e.trans (by decide))
  · exact key 120282512125796 17 (by decide) (by decide) (e.trans (by decide))
  · exact key 1768843636 18 (by decide) (by decide) (e.trans (by decide))
  · exact key 28259044220366713 19 (by decide) (by decide) (e.trans (by decide))
  · exact key 28259031083541619 20 (by decide) (by decide) (e.trans (by decide))
  · exact key 24948 23 (by decide) (by decide) (e.trans (by decide))
  · exact key 1954115685 24 (by decide) (by decide) (e.trans (by decide))
  · exact key 508440638821 7 (by decide) (by decide) (e.trans (by decide))
  · exact key 7497062 8 (by decide) (by decide) (e.trans (by decide))
  · exact key 1650811246 2 (by decide) (by decide) (e.trans (by decide))
theorem NEE_2 {D : List El7} {x : Nat} (h : dKd D x = 2) : NEE D x ↔ (aH (dAt D x) 1851878757 = 1 ∧ aH (dAt D x) 29807 = 1) := ⟨fun q => q.1.resolve_left (fun v => v h), fun p => ⟨Or.inr p, Or.inl (by omega), Or.inl (by omega), Or.inl (by omega), Or.inl (by omega)⟩⟩
theorem NEE_3 {D : List El7} {x : Nat} (h : dKd D x = 3) : NEE D x ↔ NBE D x := ⟨fun q => q.2.1.resolve_left (fun v => v h), fun p => ⟨Or.inl (by omega), Or.inr p, Or.inl (by omega), Or.inl (by omega), Or.inl (by omega)⟩⟩
theorem NEE_5 {D : List El7} {x : Nat} (h : dKd D x = 5) : NEE D x ↔ aH (dAt D x) 1851878757 = 1 := ⟨fun q => q.2.2.1.resolve_left (fun v => v h), fun p => ⟨Or.inl (by omega), Or.inl (by omega), Or.inr p, Or.inl (by omega), Or.inl (by omega)⟩⟩
theorem NEE_8 {D : List El7} {x : Nat} (h : dKd D x = 8) : NEE D x ↔ aH (dAt D x) 1650811246 = 1 := ⟨fun q => q.2.2.2.1.resolve_left (fun v => v h), fun p => ⟨Or.inl (by omega), Or.inl (by omega), Or.inl (by omega), Or.inr p, Or.inl (by omega)⟩⟩
theorem NEE_10 {D : List El7} {x : Nat} (h : dKd D x = 10) : NEE D x ↔ (aH (dAt D x) 1851878757 = 1 ∧ aH (dAt D x) 1650811246 = 1) := ⟨fun q => q.2.2.2.2.resolve_left (fun v => v h), fun p => ⟨Or.inl (by omega), Or.inl (by omega), Or.inl (by omega), Or.inl (by omega), Or.inr p⟩⟩
theorem NEE_0 {D : List El7} {x : Nat} (h : ¬ dKd D x = 2 ∧ ¬ dKd D x = 3 ∧ ¬ dKd D x = 5 ∧ ¬ dKd D x = 8 ∧ ¬ dKd D x = 10) : NEE D x := ⟨Or.inl h.1, Or.inl h.2.1, Or.inl h.2.2.1, Or.inl h.2.2.2.1, Or.inl h.2.2.2.2⟩

set_option maxHeartbeats 4000000 in
set_option maxRecDepth 100000 in
theorem d_attributeWord2 (l : Launch) (dC : Nat → ClassId) (dI : Nat → Nat → Nat) (ad : Nat → Nat → Nat) (cid : Nat → ClassId) (a2 : Nat → Nat) (lx : List Nat) (sg : Nat → Int32) (gm : Nat → Nat → Int32) (lg : Nat → Nat → Int64) (x : Int32) (i : Int32) (hI : CI sg gm) (hvx : iv 0 0 x) (hvi : iv 0 239 i) : CMt dC dI ad cid a2 lx l yX6_attributeWord wm_X6_attributeWord ({ frames := 1, cells := 1, slots := 6, locals := 25 }) [eV (ad 1) x, .int i] sg gm lg (fun v u => ∃ r : Int32, v = some (eV (ad 33) r) ∧ u = (sg, gm, lg) ∧ (iv (-1) 33 r) ∧ (WKR r (lg 0 i.toNatClampNeg))) (fun _ _ => False) := by
  intro sz
  refine vx_ofW (cc := cX6_attributeWord) (maxL := 2) (ret := (some (.object "WiredBeans$Word"))) (by decide) rfl ?_
  intro p e s m args below meth c s₁ B hml hxt hv
  obtain ⟨rfl, hsz, hP, hK, hD0, hG⟩ := hv
  have hx := B.exec
  have hb := B.bytes
  have hr := B.returns
  have hts := atoms_spec (ws := wm_X6_attributeWord) B.pre
  have htb := fun (w : Cond) (h : w ∈ tb) => hts w (List.mem_cons_of_mem _ h)
  have hown : s.vm.findClass RX6 = some m.cls := findClass_of_methodNamed B.named
  have hlocks := B.notSynchronized
  subst hsz
  have hD := hD0.self (sz := s.heap.size)
  generalize hAe : va_A (cW ad cid a2 lx sg gm lg) s.heap.size = A at hD hG ⊢
  have hA : ∀ q : Nat, s.heap.size ≤ q → A q := fun q h => by rw [← hAe]; exact Or.inr h
  have hS : va_S A s.heap s.heap [] := va_S.rf
  have hl := lv_entry ([eV (ad 1) x, .int i]) (n := 2) (by rw [show (lg_sl ([eV (ad 1) x, .int i])).length = 2 from by simp [lg_sl, eV_cat, cat_i, cat_l]]; exact Nat.le_of_ble_eq_true rfl)
  rw [lg_entry_eq]
  generalize (lg_sl ([eV (ad 1) x, .int i]) ++ List.replicate (2 - (lg_sl ([eV (ad 1) x, .int i])).length) Slot.unset).toArray = ls at hl ⊢
  have hl : lv_has ls 2 [(0, eV (ad 1) x), (1, .int i)] := by simp [lv_args, eV_cat, cat_i, cat_l] at hl; exact hl
  refine ec_aload_n hx hb dX6_attributeWord_0 rfl (lv_at hl 0 rfl) ?_
  refine cr_get (t := 1) (j := 1) (C := RX6) (T := TX6) (N := 8) (v := eV (ad 15) 0) hx hb htb inX6 hown hK hP hvx (by decide) (by decide) (by decide) rfl (by decide) (htb _ kw_67) (cV_c rfl (by decide) (by rw [show cMu 1 1 = 0 from rfl, Nat.zero_mul]; rfl)) dX6_attributeWord_1 ?_
  refine lv_iload_n hx hb dX6_attributeWord_4 rfl (lv_at hl 1 rfl) ?_
  refine cr_lald hx hb hK hP (iv_k (by decide) : iv 0 0 0) (show vp_in i 240 from (iv_in hvi (by decide))) dX6_attributeWord_5 ?_
  refine lv_topl (fun z_1 ez_1 => ?_)
  refine cm_callS (rest := []) (as := [.long z_1]) ⟨hx, hb, hml, hown, htb⟩ (d_withKey2 l dC dI ad cid a2 lx sg gm lg z_1 hI) (va_cwS 1 htb (gd_S kw_563 kw_409 kw_410 kw_1431) rfl rfl rfl (by decide +kernel) ⟨Nat.le_of_ble_eq_true rfl, Nat.le_of_ble_eq_true rfl⟩)  rfl hl.1 rfl (Nat.le_trans cs_n (by decide)) dX6_attributeWord_6 ⟨Nat.le_of_ble_eq_true rfl, Nat.le_of_ble_eq_true rfl⟩ hK hP hD hS hA hG (fun E ce q9 u_3 H locs hw hP hD hS hce hcv hcl => ?_) (fun v9 u_3 H locs hw hP hD hS => ?_)
  · exact hw.elim
  obtain ⟨r_2, rfl, rfl, hr_2, fW_r_2⟩ := hw
  have hP : va_P (dC, dI) vwCl (cW ad cid a2 lx sg gm lg) H := hP
  have hD : va_D A (cW ad cid a2 lx sg gm lg) := hD
  refine W.eq (g2 := F0 m 9 ls [eV (ad 33) r_2]) rfl ?_
  exact W.nb (fun hN => W.widen (k := 1) (n := 6) (by decide) (by decide) (vx_ret (W.aret (v := eV (ad 33) r_2) hx hb hr (Or.inl ⟨_, rfl⟩) (eV_is _ _) (fun t ht hW => ⟨⟨some (eV (ad 33) r_2), (sg, gm, lg), rfl, ⟨r_2, rfl, rfl, hr_2, ((by rw [← ez_1]; exact fW_r_2))⟩, by rw [ht]; exact hP, va_K.moved hW.alike hK, hD⟩, hS.F ht, by rw [ht]; exact hN⟩) hS.2.2 dX6_attributeWord_9)))

set_option maxHeartbeats 4000000 in
set_option maxRecDepth 100000 in
theorem d_hasRightAttributes2 (l : Launch) (dC : Nat → ClassId) (dI : Nat → Nat → Nat) (ad : Nat → Nat → Nat) (cid : Nat → ClassId) (a2 : Nat → Nat) (lx : List Nat) (sg : Nat → Int32) (gm : Nat → Nat → Int32) (lg : Nat → Nat → Int64) (x : Int32) (o : Int32) (D : List El7) (hI : CI sg gm) (hvx : iv 0 0 x) (hvo : iv 0 79 o) (hFA : FA sg gm) (how : o.toInt < (sg 4).toInt) (hVS : VS sg gm) (hw0 : 0 ≤ (gm 14 o.toNatClampNeg).toInt) (hEV : EV7 D sg gm lg o.toNatClampNeg) (hPA : PA7 (dAt D o.toNatClampNeg)) : CMt dC dI ad cid a2 lx l yX9_hasRightAttributes wm_X9_hasRightAttributes ({ frames := 4, cells := 1, slots := 6, locals := 97 }) [eV (ad 3) x, eV (ad 9) o] sg gm lg (fun v u => ∃ r : Int32, v = some (.int r) ∧ u = (sg, gm, lg) ∧ (iv 0 1 r) ∧ ((r.toInt = 1 ∧ (ATN D o.toNatClampNeg)) ∨ (r.toInt = 0 ∧ ¬ (ATN D o.toNatClampNeg)))) (fun _ _ => False) := by
  intro sz
  refine vx_ofW (cc := cX9_hasRightAttributes) (maxL := 4) (ret := (some .boolean)) (by decide) rfl ?_
  intro p e s m args below meth c s₁ B hml hxt hv
  obtain ⟨rfl, hsz, hP, hK, hD0, hG⟩ := hv
  have hx := B.exec
  have hb := B.bytes
  have hr := B.returns
  have hts := atoms_spec (ws := wm_X9_hasRightAttributes) B.pre
  have htb := fun (w : Cond) (h : w ∈ tb) => hts w (List.mem_cons_of_mem _ h)
  have hown : s.vm.findClass RX9 = some m.cls := findClass_of_methodNamed B.named
  have hlocks := B.notSynchronized
  subst hsz
  have hD := hD0.self (sz := s.heap.size)
  generalize hAe : va_A (cW ad cid a2 lx sg gm lg) s.heap.size = A at hD hG ⊢
  have hA : ∀ q : Nat, s.heap.size ≤ q → A q := fun q h => by rw [← hAe]; exact Or.inr h
  have hS : va_S A s.heap s.heap [] := va_S.rf
  have hl := lv_entry ([eV (ad 3) x, eV (ad 9) o]) (n := 4) (by rw [show (lg_sl ([eV (ad 3) x, eV (ad 9) o])).length = 2 from by simp [lg_sl, eV_cat, cat_i, cat_l]]; exact Nat.le_of_ble_eq_true rfl)
  rw [lg_entry_eq]
  generalize (lg_sl ([eV (ad 3) x, eV (ad 9) o]) ++ List.replicate (4 - (lg_sl ([eV (ad 3) x, eV (ad 9) o])).length) Slot.unset).toArray = ls at hl ⊢
  have hl : lv_has ls 4 [(0, eV (ad 3) x), (1, eV (ad 9) o)] := by simp [lv_args, eV_cat, cat_i, cat_l] at hl; exact hl
  have hj46 : ∀ (x3_46 : Int32) (x2_46 : Int32) (_ : iv (-1) 33 x3_46) (_ : iv 0 11 x2_46) (_ : iv 0 0 x) (_ : iv 0 79 o) (_ : ¬ ATN D o.toNatClampNeg) (H : Heap) (locs : List Loc) (ls : Array Slot), va_P (dC, dI) vwCl (cW ad cid a2 lx sg gm lg) H → va_D A (cW ad cid a2 lx sg gm lg) → va_S A s.heap H locs → lv_has ls 4 [(3, eV (ad 33) x3_46), (2, .int x2_46), (0, eV (ad 3) x), (1, eV (ad 9) o)] → W p l e (headSpec wm_X9_hasRightAttributes ({ frames := 4, cells := 1, slots := 6, locals := 97 })).room s m ([eV (ad 3) x, eV (ad 9) o] : List Value).toArray below meth c H locs 0 0 (vx_MQ below (cQx dC dI ad cid a2 lx (fun v u => ∃ r : Int32, v = some (.int r) ∧ u = (sg, gm, lg) ∧ (iv 0 1 r) ∧ ((r.toInt = 1 ∧ (ATN D o.toNatClampNeg)) ∨ (r.toInt = 0 ∧ ¬ (ATN D o.toNatClampNeg)))) A) (cX dC dI ad cid a2 lx (fun _ _ => False) A) ([eV (ad 3) x, eV (ad 9) o] : List Value).toArray s 1 6 A) (F0 m 46 ls []) := by
    intro x3_46 x2_46 hx3_46 hx2_46 hsx0_46 hsx1_46 u46 H locs ls hP hD hS hl
    refine lv_iconst (v := 0) hx hb dX9_hasRightAttributes_46 (by decide) ?_
    exact W.nb (fun hN => W.widen (k := 1) (n := 6) (by decide) (by decide) (vx_ret (W.zret (v := 0) hx hb hr (iv_nb (iv_w (iv_k (by decide) : iv 0 0 0) (by decide))) (fun t ht hW => ⟨⟨some (.int 0), (sg, gm, lg), rfl, ⟨0, rfl, rfl, (iv_w (iv_k (by decide) : iv 0 0 0) (by decide)), (Or.inr ⟨rfl, u46⟩)⟩, by rw [ht]; exact hP, va_K.moved hW.alike hK, hD⟩, hS.F ht, by rw [ht]; exact hN⟩) hS.2.2 dX9_hasRightAttributes_47)))
  have hj2 : ∀ (n : Nat) (x2_2 : Int32) (_ : (12 - x2_2.toInt).toNat = n) (_ : iv 0 12 x2_2) (_ : iv 0 0 x) (_ : iv 0 79 o) (_ : ∀ (i : Nat) (y : Int64 × List Int), i < x2_2.toNatClampNeg → (dAt D o.toNatClampNeg)[i]? = some y → MAY (dKd D o.toNatClampNeg) (dIn D o.toNatClampNeg) y.1.toInt ∧ RVL (dKd D o.toNatClampNeg) (dAt D o.toNatClampNeg) y.1) (H : Heap) (locs : List Loc) (ls : Array Slot), va_P (dC, dI) vwCl (cW ad cid a2 lx sg gm lg) H → va_D A (cW ad cid a2 lx sg gm lg) → va_S A s.heap H locs → lv_has ls 4 [(2, .int x2_2), (0, eV (ad 3) x), (1, eV (ad 9) o)] → W p l e (headSpec wm_X9_hasRightAttributes ({ frames := 4, cells := 1, slots := 6, locals := 97 })).room s m ([eV (ad 3) x, eV (ad 9) o] : List Value).toArray below meth c H locs 0 0 (vx_MQ below (cQx dC dI ad cid a2 lx (fun v u => ∃ r : Int32, v = some (.int r) ∧ u = (sg, gm, lg) ∧ (iv 0 1 r) ∧ ((r.toInt = 1 ∧ (ATN D o.toNatClampNeg)) ∨ (r.toInt = 0 ∧ ¬ (ATN D o.toNatClampNeg)))) A) (cX dC dI ad cid a2 lx (fun _ _ => False) A) ([eV (ad 3) x, eV (ad 9) o] : List Value).toArray s 1 6 A) (F0 m 2 ls []) := by
    intro n
    induction n using Nat.strongRecOn with
    | ind n ih2 =>
      intro x2_2 hn2 hx2_2 hsx0_2 hsx1_2 hA9 H locs ls hP hD hS hl
      refine lv_iload_n hx hb dX9_hasRightAttributes_2 rfl (lv_at hl 0 rfl) ?_
      refine ec_aload_n hx hb dX9_hasRightAttributes_3 rfl (lv_at hl 2 rfl) ?_
      refine cr_get (t := 9) (j := 10) (C := RX3) (T := TX3) (N := 21) (v := .int (gm 20 o.toNatClampNeg)) hx hb htb inX3 hown hK hP hsx1_2 (by decide) (by decide) (by decide) rfl (by decide) (htb _ kw_558) rfl dX9_hasRightAttributes_4 ?_
      obtain ⟨z_1, ez_1⟩ : ∃ z : Int32, z = (gm 20 o.toNatClampNeg) := ⟨_, rfl⟩
      refine W.eq (g2 := F0 m 7 ls [.int z_1, .int x2_2]) (by rw [ez_1]) ?_
      have hz_1 : iv 0 12 z_1 := iv_of ez_1 (CI_a hI 20 hsx1_2 (by decide))
      refine lv_icmp_ge (tgt := 54) hx hb dX9_hasRightAttributes_7 (by decide) (fun c_2 => ?_) (fun c_2 => ?_)
      · have d_3 : (z_1 : Int32).toInt ≤ (x2_2 : Int32).toInt := Int32.le_iff_toInt_le.mp c_2
        refine lv_iconst (v := 1) hx hb dX9_hasRightAttributes_54 (by decide) ?_
        exact W.nb (fun hN => W.widen (k := 1) (n := 6) (by decide) (by decide) (vx_ret (W.zret (v := 1) hx hb hr (iv_nb (iv_w (iv_k (by decide) : iv 1 1 1) (by decide))) (fun t ht hW => ⟨⟨some (.int 1), (sg, gm, lg), rfl, ⟨1, rfl, rfl, (iv_w (iv_k (by decide) : iv 1 1 1) (by decide)), (Or.inl ⟨rfl, fun y hy => by obtain ⟨i, hi, he⟩ := List.mem_iff_getElem.mp hy; exact hA9 i y (by have := hEV.2.1.1; have := iv_cl hx2_2 (by decide); have := congrArg Int32.toInt ez_1; have := i32_0; have := i32_1; have := i32_2; have := i32_m1; have := (hsx0_2).1; have := (hsx0_2).2; have := (hsx1_2).1; have := (hsx1_2).2; have := (hx2_2).1; have := (hx2_2).2; have := (hz_1).1; have := (hz_1).2; omega) (by rw [List.getElem?_eq_getElem hi, he])⟩)⟩, by rw [ht]; exact hP, va_K.moved hW.alike hK, hD⟩, hS.F ht, by rw [ht]; exact hN⟩) hS.2.2 dX9_hasRightAttributes_55)))
      · have d_4 : (x2_2 : Int32).toInt < (z_1 : Int32).toInt := Int32.lt_iff_toInt_lt.mp (i32_lt c_2)
        have h_5 : iv 0 11 x2_2 := iv_ltL (i32_lt c_2) hx2_2 hz_1 (by decide)
        have h_6 : iv 1 12 z_1 := iv_ltR (i32_lt c_2) hx2_2 hz_1 (by decide)
        refine ec_aload_n hx hb dX9_hasRightAttributes_10 rfl (lv_at hl 1 rfl) ?_
        refine cr_get (t := 3) (j := 0) (C := RX9) (T := TX9) (N := 1) (v := eV (ad 1) 0) hx hb htb inX9 hown hK hP hsx0_2 (by decide) (by decide) (by decide) rfl (by decide) (htb _ kw_82) (cV_c rfl (by decide) (by rw [show cMu 3 0 = 0 from rfl, Nat.zero_mul]; rfl)) dX9_hasRightAttributes_11 ?_
        refine ec_aload_n hx hb dX9_hasRightAttributes_14 rfl (lv_at hl 2 rfl) ?_
        refine cr_get (t := 9) (j := 9) (C := RX3) (T := TX3) (N := 21) (v := .int (gm 19 o.toNatClampNeg)) hx hb htb inX3 hown hK hP hsx1_2 (by decide) (by decide) (by decide) rfl (by decide) (htb _ kw_559) rfl dX9_hasRightAttributes_15 ?_
        obtain ⟨z_7, ez_7⟩ : ∃ z : Int32, z = (gm 19 o.toNatClampNeg) := ⟨_, rfl⟩
        refine W.eq (g2 := F0 m 18 ls [.int z_7, eV (ad 1) 0]) (by rw [ez_7]) ?_
        have hz_7 : iv 0 240 z_7 := iv_of ez_7 (CI_a hI 19 hsx1_2 (by decide))
        refine lv_iload_n hx hb dX9_hasRightAttributes_18 rfl (lv_at hl 0 rfl) ?_
        have hfa9 : (z_7 : Int32).toInt + (z_1 : Int32).toInt ≤ (sg 5).toInt := by rw [ez_7, ez_1]; exact hFA _ (lt_cl hvo (show iv 0 80 (sg 4) from CI_s hI 4) (by decide) (by decide) how)
        refine lv_iadd hx hb dX9_hasRightAttributes_19 ?_
        refine lv_topi (fun z_8 ez_8 => ?_)
        have hz_8 : iv 0 251 z_8 := iv_of ez_8 (iv_add hz_7 h_5 (by decide))
        have tz_8 : z_8.toInt = (z_7 : Int32).toInt + (x2_2 : Int32).toInt := by rw [ez_8]; exact iv_addE hz_7 h_5 (by decide)
        have h_9 : iv 0 239 z_8 := ⟨by have := i32_0; have := i32_1; have := i32_2; have := i32_m1; have := (show iv 0 240 (sg 5) from CI_s hI 5).1; have := (show iv 0 240 (sg 5) from CI_s hI 5).2; have := (hsx0_2).1; have := (hsx0_2).2; have := (hsx1_2).1; have := (hsx1_2).2; have := (h_5).1; have := (h_5).2; have := (h_6).1; have := (h_6).2; have := (hz_7).1; have := (hz_7).2; have := (hz_8).1; have := (hz_8).2; omega, by have := i32_0; have := i32_1; have := i32_2; have := i32_m1; have := (show iv 0 240 (sg 5) from CI_s hI 5).1; have := (show iv 0 240 (sg 5) from CI_s hI 5).2; have := (hsx0_2).1; have := (hsx0_2).2; have := (hsx1_2).1; have := (hsx1_2).2; have := (h_5).1; have := (h_5).2; have := (h_6).1; have := (h_6).2; have := (hz_7).1; have := (hz_7).2; have := (hz_8).1; have := (hz_8).2; omega⟩
        refine cm_callV (t := 1) (C := RX6) (T := TX6) (N := 8) (rest := []) (as := [.int z_8]) ⟨hx, hb, hml, hown, htb⟩ (d_attributeWord2 l dC dI ad cid a2 lx sg gm lg 0 z_8 hI (iv_k (by decide) : iv 0 0 0) h_9) (cwV 1 htb (gd_V kw_560 kw_561 kw_562 kw_20 kw_1471) rfl rfl rfl (by decide +kernel) ⟨Nat.le_of_ble_eq_true rfl, Nat.le_of_ble_eq_true rfl⟩) (iv_k (by decide) : iv 0 0 0) (by decide) (by decide) rfl rfl hl.1 rfl (Nat.le_trans cs_n (by decide)) dX9_hasRightAttributes_20 ⟨Nat.le_of_ble_eq_true rfl, Nat.le_of_ble_eq_true rfl⟩ hK hP hD hS hA hG (fun E ce q9 u_11 H locs hw hP hD hS hce hcv hcl => ?_) (fun v9 u_11 H locs hw hP hD hS => ?_)
        · exact hw.elim
        obtain ⟨r_10, rfl, rfl, hr_10, fA_r_10⟩ := hw
        have hP : va_P (dC, dI) vwCl (cW ad cid a2 lx sg gm lg) H := hP
        have hD : va_D A (cW ad cid a2 lx sg gm lg) := hD
        refine W.eq (g2 := F0 m 23 ls [eV (ad 33) r_10]) rfl ?_
        refine ec_astore_n (i := 3) (lv' := [(3, eV (ad 33) r_10), (2, .int x2_2), (0, eV (ad 3) x), (1, eV (ad 9) o)]) hx hb dX9_hasRightAttributes_23 rfl hl (by decide) rfl (fun ls hl => ?_)
        obtain ⟨yy, hyy⟩ : ∃ y, (dAt D o.toNatClampNeg)[x2_2.toNatClampNeg]? = some y := ⟨_, List.getElem?_eq_getElem (show x2_2.toNatClampNeg < (dAt D o.toNatClampNeg).length from (by have := hEV.2.1.1; have := iv_cl h_5 (by decide); have := congrArg Int32.toInt ez_1; have := i32_0; have := i32_1; have := i32_2; have := i32_m1; have := (hsx0_2).1; have := (hsx0_2).2; have := (hsx1_2).1; have := (hsx1_2).2; have := (h_5).1; have := (h_5).2; have := (h_6).1; have := (h_6).2; have := (hz_7).1; have := (hz_7).2; have := (h_9).1; have := (h_9).2; have := (hr_10).1; have := (hr_10).2; omega))⟩
        have hwk : WKR r_10 yy.1 := by have q9 := fA_r_10; rw [cl_add hz_7 h_5 (by decide) (by decide) tz_8, ez_7] at q9; rw [show lg 0 ((gm 19 o.toNatClampNeg).toNatClampNeg + x2_2.toNatClampNeg) = yy.1 from (hEV.2.1.2.2.2 _ _ hyy).1] at q9; exact q9
        refine ec_aload_n hx hb dX9_hasRightAttributes_24 rfl (lv_at hl 0 rfl) ?_
        refine ec_ifnull (tgt := 46) hx hb dX9_hasRightAttributes_25 (by decide) (fun c_13 => ?_) (fun c_13 => ?_)
        · have h_14 : iv (-1) (-1) r_10 := ⟨(hr_10).1, by omega⟩
          exact hj46 r_10 x2_2 (iv_w h_14 (by decide)) h_5 hsx0_2 hsx1_2 ((fun h => by have q9 := (hwk.resolve_left (fun q8 => absurd q8.1 (by have := i32_0; have := i32_1; have := i32_2; have := i32_m1; have := (hsx0_2).1; have := (hsx0_2).2; have := (hsx1_2).1; have := (hsx1_2).2; have := (h_5).1; have := (h_5).2; have := (h_6).1; have := (h_6).2; have := (hz_7).1; have := (hz_7).2; have := (h_9).1; have := (h_9).2; have := (h_14).1; have := (h_14).2; omega))).2; obtain ⟨j, j1, j2⟩ := MK_w (MAY_k (h yy (List.mem_of_getElem? hyy)).1); exact q9 j j1 j2)) _ _ _ hP hD hS (lv_sub hl [0, 1, 2, 3] rfl)
        · have h_15 : iv 0 33 r_10 := ⟨c_13, (hr_10).2⟩
          refine ec_aload_n hx hb dX9_hasRightAttributes_28 rfl (lv_at hl 2 rfl) ?_
          refine ec_aload_n hx hb dX9_hasRightAttributes_29 rfl (lv_at hl 3 rfl) ?_
          refine ec_aload_n hx hb dX9_hasRightAttributes_30 rfl (lv_at hl 0 rfl) ?_
          refine cm_callV (t := 3) (C := RX9) (T := TX9) (N := 1) (rest := []) (as := [eV (ad 9) o, eV (ad 33) r_10]) ⟨hx, hb, hml, hown, htb⟩ (d_mayHave2 l dC dI ad cid a2 lx sg gm lg x o r_10 D hI hsx0_2 hsx1_2 h_15 (by first | assumption | decide) hEV) (cwV 2 htb (gd_V kw_564 kw_565 kw_566 kw_28 kw_1472) rfl rfl rfl (by decide +kernel) ⟨Nat.le_of_ble_eq_true rfl, Nat.le_of_ble_eq_true rfl⟩) hsx0_2 (by decide) (by decide) rfl rfl hl.1 rfl (Nat.le_trans cs_n (by decide)) dX9_hasRightAttributes_31 ⟨Nat.le_of_ble_eq_true rfl, Nat.le_of_ble_eq_true rfl⟩ hK hP hD hS hA hG (fun E ce q9 u_17 H locs hw hP hD hS hce hcv hcl => ?_) (fun v9 u_17 H locs hw hP hD hS => ?_)
          · exact hw.elim
          obtain ⟨r_16, rfl, rfl, hr_16, fM_r_16⟩ := hw
          have hP : va_P (dC, dI) vwCl (cW ad cid a2 lx sg gm lg) H := hP
          have hD : va_D A (cW ad cid a2 lx sg gm lg) := hD
          refine W.eq (g2 := F0 m 34 ls [.int r_16]) rfl ?_
          refine lv_if_eq (tgt := 46) hx hb dX9_hasRightAttributes_34 (by decide) (fun c_19 => ?_) (fun c_19 => ?_)
          · have h_20 : iv 0 0 r_16 := iv_eq c_19 hr_16 (iv_k (by decide) : iv 0 0 0) (by decide)
            exact hj46 r_10 x2_2 (iv_w h_15 (by decide)) h_5 hsx0_2 hsx1_2 ((fun h => (fM_r_16.resolve_left (fun q8 => absurd q8.1 (by have := i32_0; have := i32_1; have := i32_2; have := i32_m1; have := (hsx0_2).1; have := (hsx0_2).2; have := (hsx1_2).1; have := (hsx1_2).2; have := (h_5).1; have := (h_5).2; have := (h_6).1; have := (h_6).2; have := (hz_7).1; have := (hz_7).2; have := (h_9).1; have := (h_9).2; have := (h_15).1; have := (h_15).2; have := (h_20).1; have := (h_20).2; omega))).2 (by rw [(hwk.resolve_right (fun q8 => absurd q8.1 (by have := i32_0; have := i32_1; have := i32_2; have := i32_m1; have := (hsx0_2).1; have := (hsx0_2).2; have := (hsx1_2).1; have := (hsx1_2).2; have := (h_5).1; have := (h_5).2; have := (h_6).1; have := (h_6).2; have := (hz_7).1; have := (hz_7).2; have := (h_9).1; have := (h_9).2; have := (h_15).1; have := (h_15).2; have := (h_20).1; have := (h_20).2; omega))).2.2]; exact (h yy (List.mem_of_getElem? hyy)).1))) _ _ _ hP hD hS (lv_sub hl [0, 1, 2, 3] rfl)
          · have h_21 : iv 1 1 r_16 := iv_neL c_19 hr_16 (by decide)
            refine ec_aload_n hx hb dX9_hasRightAttributes_37 rfl (lv_at hl 2 rfl) ?_
            refine ec_aload_n hx hb dX9_hasRightAttributes_38 rfl (lv_at hl 3 rfl) ?_
            refine ec_aload_n hx hb dX9_hasRightAttributes_39 rfl (lv_at hl 0 rfl) ?_
            refine cm_callV (t := 3) (C := RX9) (T := TX9) (N := 1) (rest := []) (as := [eV (ad 9) o, eV (ad 33) r_10]) ⟨hx, hb, hml, hown, htb⟩ (d_hasRightValue2 l dC dI ad cid a2 lx sg gm lg x o r_10 D hI hsx0_2 hsx1_2 h_15 hFA how hVS (by first | assumption | decide) hEV hPA (MAY_k (fM_r_16.resolve_right (fun q8 => absurd q8.1 (by have := i32_0; have := i32_1; have := i32_2; have := i32_m1; have := (hsx0_2).1; have := (hsx0_2).2; have := (hsx1_2).1; have := (hsx1_2).2; have := (h_5).1; have := (h_5).2; have := (h_6).1; have := (h_6).2; have := (hz_7).1; have := (hz_7).2; have := (h_9).1; have := (h_9).2; have := (h_15).1; have := (h_15).2; have := (h_21).1; have := (h_21).2; omega))).2)) (cwV 2 htb (gd_V kw_574 kw_575 kw_576 kw_28 kw_1474) rfl rfl rfl (by decide +kernel) ⟨Nat.le_of_ble_eq_true rfl, Nat.le_of_ble_eq_true rfl⟩) hsx0_2 (by decide) (by decide) rfl rfl hl.1 rfl (Nat.le_trans cs_n (by decide)) dX9_hasRightAttributes_40 ⟨Nat.le_of_ble_eq_true rfl, Nat.le_of_ble_eq_true rfl⟩ hK hP hD hS hA hG (fun E ce q9 u_23 H locs hw hP hD hS hce hcv hcl => ?_) (fun v9 u_23 H locs hw hP hD hS => ?_)
            · exact hw.elim
            obtain ⟨r_22, rfl, rfl, hr_22, fV_r_22⟩ := hw
            have hP : va_P (dC, dI) vwCl (cW ad cid a2 lx sg gm lg) H := hP
            have hD : va_D A (cW ad cid a2 lx sg gm lg) := hD
            refine W.eq (g2 := F0 m 43 ls [.int r_22]) rfl ?_
            refine lv_if_ne (tgt := 48) hx hb dX9_hasRightAttributes_43 (by decide) (fun c_25 => ?_) (fun c_25 => ?_)
            · have h_26 : iv 1 1 r_22 := iv_neL c_25 hr_22 (by decide)
              obtain ⟨z_27, ez_27⟩ : ∃ z : Int32, z = x2_2 + 1 := ⟨_, rfl⟩
              have hz_27 : iv 1 12 z_27 := iv_of ez_27 (iv_add h_5 (iv_k (by decide) : iv 1 1 1) (by decide))
              have tz_27 : z_27.toInt = x2_2.toInt + 1 := by rw [ez_27]; exact iv_addE h_5 (iv_k (by decide) : iv 1 1 1) (by decide)
              refine lv_iinc (v := z_27) (lv' := [(2, .int z_27), (3, eV (ad 33) r_10), (0, eV (ad 3) x), (1, eV (ad 9) o)]) hx hb dX9_hasRightAttributes_48 hl (k := 1) rfl ez_27.symm (by decide) (by simp [List.filter, eV_cat, cat_i, cat_l]) (fun ls hl => ?_)
              refine lv_goto (tgt := 2) hx hb dX9_hasRightAttributes_51 (by decide) ?_
              exact ih2 _ (by rw [← hn2]; exact (iv_meas tz_27 h_5 (by decide))) z_27 rfl (iv_w hz_27 (by decide)) hsx0_2 hsx1_2 ((fun i y hi hy => by rw [s_cl h_5 (by decide) tz_27] at hi; by_cases hq : i = x2_2.toNatClampNeg; (rw [hq, hyy] at hy; cases hy; rw [← (hwk.resolve_right (fun q8 => absurd q8.1 (by have := i32_0; have := i32_1; have := i32_2; have := i32_m1; have := (hsx0_2).1; have := (hsx0_2).2; have := (hsx1_2).1; have := (hsx1_2).2; have := (h_5).1; have := (h_5).2; have := (h_6).1; have := (h_6).2; have := (hz_7).1; have := (hz_7).2; have := (h_9).1; have := (h_9).2; have := (h_15).1; have := (h_15).2; have := (h_21).1; have := (h_21).2; have := (h_26).1; have := (h_26).2; have := (hz_27).1; have := (hz_27).2; omega))).2.2]; exact ⟨(fM_r_16.resolve_right (fun q8 => absurd q8.1 (by have := i32_0; have := i32_1; have := i32_2; have := i32_m1; have := (hsx0_2).1; have := (hsx0_2).2; have := (hsx1_2).1; have := (hsx1_2).2; have := (h_5).1; have := (h_5).2; have := (h_6).1; have := (h_6).2; have := (hz_7).1; have := (hz_7).2; have := (h_9).1; have := (h_9).2; have := (h_15).1; have := (h_15).2; have := (h_21).1; have := (h_21).2; have := (h_26).1; have := (h_26).2; have := (hz_27).1; have := (hz_27).2; omega))).2, (fV_r_22.resolve_right (fun q8 => absurd q8.1 (by have := i32_0; have := i32_1; have := i32_2; have := i32_m1; have := (hsx0_2).1; have := (hsx0_2).2; have := (hsx1_2).1; have := (hsx1_2).2; have := (h_5).1; have := (h_5).2; have := (h_6).1; have := (h_6).2; have := (hz_7).1; have := (hz_7).2; have := (h_9).1; have := (h_9).2; have := (h_15).1; have := (h_15).2; have := (h_21).1; have := (h_21).2; have := (h_26).1; have := (h_26).2; have := (hz_27).1; have := (hz_27).2; omega))).2⟩); exact hA9 i y (by omega) hy)) _ _ _ hP hD hS (lv_sub hl [0, 2, 3] rfl)
            · have h_28 : iv 0 0 r_22 := iv_eq c_25 hr_22 (iv_k (by decide) : iv 0 0 0) (by decide)
              exact hj46 r_10 x2_2 (iv_w h_15 (by decide)) h_5 hsx0_2 hsx1_2 ((fun h => (fV_r_22.resolve_left (fun q8 => absurd q8.1 (by have := i32_0; have := i32_1; have := i32_2; have := i32_m1; have := (hsx0_2).1; have := (hsx0_2).2; have := (hsx1_2).1; have := (hsx1_2).2; have := (h_5).1; have := (h_5).2; have := (h_6).1; have := (h_6).2; have := (hz_7).1; have := (hz_7).2; have := (h_9).1; have := (h_9).2; have := (h_15).1; have := (h_15).2; have := (h_21).1; have := (h_21).2; have := (h_28).1; have := (h_28).2; omega))).2 (by rw [(hwk.resolve_right (fun q8 => absurd q8.1 (by have := i32_0; have := i32_1; have := i32_2; have := i32_m1; have := (hsx0_2).1; have := (hsx0_2).2; have := (hsx1_2).1; have := (hsx1_2).2; have := (h_5).1; have := (h_5).2; have := (h_6).1; have := (h_6).2; have := (hz_7).1; have := (hz_7).2; have := (h_9).1; have := (h_9).2; have := (h_15).1; have := (h_15).2; have := (h_21).1; have := (h_21).2; have := (h_28).1; have := (h_28).2; omega))).2.2]; exact (h yy (List.mem_of_getElem? hyy)).2))) _ _ _ hP hD hS (lv_sub hl [0, 1, 2, 3] rfl)
  refine lv_iconst (v := 0) hx hb dX9_hasRightAttributes_0 (by decide) ?_
  refine lv_istore_n (i := 2) (lv' := [(2, .int 0), (0, eV (ad 3) x), (1, eV (ad 9) o)]) hx hb dX9_hasRightAttributes_1 rfl hl (by decide) (by simp [List.filter, eV_cat, cat_i, cat_l]) (fun ls hl => ?_)
  exact hj2 _ 0 rfl (iv_w (iv_k (by decide) : iv 0 0 0) (by decide)) hvx hvo ((fun i y hi => absurd hi (Nat.not_lt_zero _))) _ _ _ hP hD hS (lv_sub hl [0, 1, 2] rfl)
end
