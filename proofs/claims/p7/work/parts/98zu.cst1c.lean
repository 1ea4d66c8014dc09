set_option maxHeartbeats 4000000 in
set_option maxRecDepth 100000 in
theorem d_beanMayHave2 (l : Launch) (dC : Nat → ClassId) (dI : Nat → Nat → Nat) (ad : Nat → Nat → Nat) (cid : Nat → ClassId) (a2 : Nat → Nat) (lx : List Nat) (sg : Nat → Int32) (gm : Nat → Nat → Int32) (lg : Nat → Nat → Int64) (x : Int32) (w : Int32) (b : Int32) (hI : CI sg gm) (hvx : iv 0 0 x) (hvw : iv 0 33 w) (hvb : iv 0 1 b) : CMt dC dI ad cid a2 lx l yX9_beanMayHave wm_X9_beanMayHave ({ frames := 1, cells := 1, slots := 6, locals := 20 }) [eV (ad 3) x, eV (ad 33) w, .int b] sg gm lg (fun v u => ∃ r : Int32, v = some (.int r) ∧ u = (sg, gm, lg) ∧ (iv 0 1 r) ∧ ((r.toInt = 1 ∧ (BM7 (wKy.getD w.toNatClampNeg 0).toInt b.toInt)) ∨ (r.toInt = 0 ∧ ¬ (BM7 (wKy.getD w.toNatClampNeg 0).toInt b.toInt)))) (fun _ _ => False) := by
  intro sz
  refine vx_ofW (cc := cX9_beanMayHave) (maxL := 3) (ret := (some .boolean)) (by decide) rfl ?_
  intro p e s m args below meth c s₁ B hml hxt hv
  obtain ⟨rfl, hsz, hP, hK, hD0, hG⟩ := hv
  have hx := B.exec
  have hb := B.bytes
  have hr := B.returns
  have hts := atoms_spec (ws := wm_X9_beanMayHave) B.pre
  have htb := fun (w : Cond) (h : w ∈ tb) => hts w (List.mem_cons_of_mem _ h)
  have hown : s.vm.findClass RX9 = some m.cls := findClass_of_methodNamed B.named
  have hlocks := B.notSynchronized
  subst hsz
  have hD := hD0.self (sz := s.heap.size)
  generalize hAe : va_A (cW ad cid a2 lx sg gm lg) s.heap.size = A at hD hG ⊢
  have hA : ∀ q : Nat, s.heap.size ≤ q → A q := fun q h => by rw [← hAe]; exact Or.inr h
  have hS : va_S A s.heap s.heap [] := va_S.rf
  have hl := lv_entry ([eV (ad 3) x, eV (ad 33) w, .int b]) (n := 3) (by rw [show (lg_sl ([eV (ad 3) x, eV (ad 33) w, .int b])).length = 3 from by simp [lg_sl, eV_cat, cat_i, cat_l]]; exact Nat.le_of_ble_eq_true rfl)
  rw [lg_entry_eq]
  generalize (lg_sl ([eV (ad 3) x, eV (ad 33) w, .int b]) ++ List.replicate (3 - (lg_sl ([eV (ad 3) x, eV (ad 33) w, .int b])).length) Slot.unset).toArray = ls at hl ⊢
  have hl : lv_has ls 3 [(0, eV (ad 3) x), (1, eV (ad 33) w), (2, .int b)] := by simp [lv_args, eV_cat, cat_i, cat_l] at hl; exact hl
  have hj68 : ∀ (_ : iv 0 0 x) (_ : iv 0 33 w) (_ : iv 0 1 b) (_ : (wKy.getD w.toNatClampNeg 0).toInt = 26980 ∨ (wKy.getD w.toNatClampNeg 0).toInt = 7017298113369039732 ∨ (wKy.getD w.toNatClampNeg 0).toInt = 1818327673) (H : Heap) (locs : List Loc) (ls : Array Slot), va_P (dC, dI) vwCl (cW ad cid a2 lx sg gm lg) H → va_D A (cW ad cid a2 lx sg gm lg) → va_S A s.heap H locs → lv_has ls 3 [(0, eV (ad 3) x), (1, eV (ad 33) w), (2, .int b)] → W p l e (headSpec wm_X9_beanMayHave ({ frames := 1, cells := 1, slots := 6, locals := 20 })).room s m ([eV (ad 3) x, eV (ad 33) w, .int b] : List Value).toArray below meth c H locs 0 0 (vx_MQ below (cQx dC dI ad cid a2 lx (fun v u => ∃ r : Int32, v = some (.int r) ∧ u = (sg, gm, lg) ∧ (iv 0 1 r) ∧ ((r.toInt = 1 ∧ (BM7 (wKy.getD w.toNatClampNeg 0).toInt b.toInt)) ∨ (r.toInt = 0 ∧ ¬ (BM7 (wKy.getD w.toNatClampNeg 0).toInt b.toInt)))) A) (cX dC dI ad cid a2 lx (fun _ _ => False) A) ([eV (ad 3) x, eV (ad 33) w, .int b] : List Value).toArray s 1 6 A) (F0 m 68 ls []) := by
    intro  hsx0_68 hsx1_68 hsx2_68 u68 H locs ls hP hD hS hl
    refine lv_iload_n hx hb dX9_beanMayHave_68 rfl (lv_at hl 2 rfl) ?_
    exact W.nb (fun hN => W.widen (k := 1) (n := 6) (by decide) (by decide) (vx_ret (W.zret (v := b) hx hb hr (iv_nb hsx2_68) (fun t ht hW => ⟨⟨some (.int b), (sg, gm, lg), rfl, ⟨b, rfl, rfl, hsx2_68, ((by have := hvb.1; have := hvb.2; unfold BM7; omega))⟩, by rw [ht]; exact hP, va_K.moved hW.alike hK, hD⟩, hS.F ht, by rw [ht]; exact hN⟩) hS.2.2 dX9_beanMayHave_69)))
  have hj70 : ∀ (_ : iv 0 0 x) (_ : iv 0 33 w) (_ : iv 0 1 b) (_ : (wKy.getD w.toNatClampNeg 0).toInt = 427020088179 ∨ (wKy.getD w.toNatClampNeg 0).toInt = 123563833388660 ∨ (wKy.getD w.toNatClampNeg 0).toInt = 495589486693 ∨ (wKy.getD w.toNatClampNeg 0).toInt = 28817527407604345 ∨ (wKy.getD w.toNatClampNeg 0).toInt = 120282512125796 ∨ (wKy.getD w.toNatClampNeg 0).toInt = 1768843636 ∨ (wKy.getD w.toNatClampNeg 0).toInt = 28259044220366713 ∨ (wKy.getD w.toNatClampNeg 0).toInt = 28259031083541619) (H : Heap) (locs : List Loc) (ls : Array Slot), va_P (dC, dI) vwCl (cW ad cid a2 lx sg gm lg) H → va_D A (cW ad cid a2 lx sg gm lg) → va_S A s.heap H locs → lv_has ls 3 [(0, eV (ad 3) x), (1, eV (ad 33) w), (2, .int b)] → W p l e (headSpec wm_X9_beanMayHave ({ frames := 1, cells := 1, slots := 6, locals := 20 })).room s m ([eV (ad 3) x, eV (ad 33) w, .int b] : List Value).toArray below meth c H locs 0 0 (vx_MQ below (cQx dC dI ad cid a2 lx (fun v u => ∃ r : Int32, v = some (.int r) ∧ u = (sg, gm, lg) ∧ (iv 0 1 r) ∧ ((r.toInt = 1 ∧ (BM7 (wKy.getD w.toNatClampNeg 0).toInt b.toInt)) ∨ (r.toInt = 0 ∧ ¬ (BM7 (wKy.getD w.toNatClampNeg 0).toInt b.toInt)))) A) (cX dC dI ad cid a2 lx (fun _ _ => False) A) ([eV (ad 3) x, eV (ad 33) w, .int b] : List Value).toArray s 1 6 A) (F0 m 70 ls []) := by
    intro  hsx0_70 hsx1_70 hsx2_70 u70 H locs ls hP hD hS hl
    refine lv_iconst (v := 1) hx hb dX9_beanMayHave_70 (by decide) ?_
    exact W.nb (fun hN => W.widen (k := 1) (n := 6) (by decide) (by decide) (vx_ret (W.zret (v := 1) hx hb hr (iv_nb (iv_w (iv_k (by decide) : iv 1 1 1) (by decide))) (fun t ht hW => ⟨⟨some (.int 1), (sg, gm, lg), rfl, ⟨1, rfl, rfl, (iv_w (iv_k (by decide) : iv 1 1 1) (by decide)), (Or.inl ⟨rfl, Or.inr u70⟩)⟩, by rw [ht]; exact hP, va_K.moved hW.alike hK, hD⟩, hS.F ht, by rw [ht]; exact hN⟩) hS.2.2 dX9_beanMayHave_71)))
  refine cw_sw hx hb hG hS hown (htb _ kw_514) dX9_beanMayHave_0 ?_
  refine ec_aload_n hx hb dX9_beanMayHave_3 rfl (lv_at hl 1 rfl) ?_
  refine cw_ord ⟨hx, hb, hml, hown, htb⟩ kw_520 hvw hl.1 (Nat.le_trans (cs_c (eV_cat _ _) cs_n) (by decide)) dX9_beanMayHave_4 ⟨Nat.le_of_ble_eq_true rfl, Nat.le_of_ble_eq_true rfl⟩ ⟨Nat.le_of_ble_eq_true rfl, Nat.le_of_ble_eq_true rfl⟩ hP hD hS hA hG (fun H locs hP hS => ?_)
  refine cw_swld (iv_k (by decide) : iv 0 0 0) hx hb hG hS hvw dX9_beanMayHave_7 ?_
  refine lv_topi (fun z_1 ez_1 => ?_)
  have hz_1 : iv 0 29 z_1 := iv_of ez_1 (sw_iv w)
  by_cases c_2 : (z_1 : Int32).toInt = 16
  · refine lv_tableIn (tgt := 68) hx hb dX9_beanMayHave_8 (by rw [c_2]; decide) (by rw [c_2]; decide) (by rw [c_2]; rfl) (by decide) ?_
    have h_3 : iv 16 16 z_1 := iv_at c_2
    exact hj68 hvx hvw hvb ((by have hK9 : (wKy.getD w.toNatClampNeg 0).toInt = 26980 := wkz (j := 10) hvw (swy 10 16 (by decide) hvw ez_1 c_2) (by decide); omega)) _ _ _ hP hD hS (lv_sub hl [0, 1, 2] rfl)
  by_cases c_4 : (z_1 : Int32).toInt = 17
  · refine lv_tableIn (tgt := 68) hx hb dX9_beanMayHave_8 (by rw [c_4]; decide) (by rw [c_4]; decide) (by rw [c_4]; rfl) (by decide) ?_
    have h_5 : iv 17 17 z_1 := iv_at c_4
    exact hj68 hvx hvw hvb ((by have hK9 : (wKy.getD w.toNatClampNeg 0).toInt = 7017298113369039732 := wkz (j := 13) hvw (swy 13 17 (by decide) hvw ez_1 c_4) (by decide); omega)) _ _ _ hP hD hS (lv_sub hl [0, 1, 2] rfl)
  by_cases c_6 : (z_1 : Int32).toInt = 18
  · refine lv_tableIn (tgt := 68) hx hb dX9_beanMayHave_8 (by rw [c_6]; decide) (by rw [c_6]; decide) (by rw [c_6]; rfl) (by decide) ?_
    have h_7 : iv 18 18 z_1 := iv_at c_6
    exact hj68 hvx hvw hvb ((by have hK9 : (wKy.getD w.toNatClampNeg 0).toInt = 1818327673 := wkz (j := 15) hvw (swy 15 18 (by decide) hvw ez_1 c_6) (by decide); omega)) _ _ _ hP hD hS (lv_sub hl [0, 1, 2] rfl)
  by_cases c_8 : (z_1 : Int32).toInt = 19
  · refine lv_tableIn (tgt := 70) hx hb dX9_beanMayHave_8 (by rw [c_8]; decide) (by rw [c_8]; decide) (by rw [c_8]; rfl) (by decide) ?_
    have h_9 : iv 19 19 z_1 := iv_at c_8
    exact hj70 hvx hvw hvb ((by have hK9 : (wKy.getD w.toNatClampNeg 0).toInt = 427020088179 := wkz (j := 11) hvw (swy 11 19 (by decide) hvw ez_1 c_8) (by decide); omega)) _ _ _ hP hD hS (lv_sub hl [0, 1, 2] rfl)
  by_cases c_10 : (z_1 : Int32).toInt = 20
  · refine lv_tableIn (tgt := 70) hx hb dX9_beanMayHave_8 (by rw [c_10]; decide) (by rw [c_10]; decide) (by rw [c_10]; rfl) (by decide) ?_
    have h_11 : iv 20 20 z_1 := iv_at c_10
    exact hj70 hvx hvw hvb ((by have hK9 : (wKy.getD w.toNatClampNeg 0).toInt = 123563833388660 := wkz (j := 12) hvw (swy 12 20 (by decide) hvw ez_1 c_10) (by decide); omega)) _ _ _ hP hD hS (lv_sub hl [0, 1, 2] rfl)
  by_cases c_12 : (z_1 : Int32).toInt = 21
  · refine lv_tableIn (tgt := 70) hx hb dX9_beanMayHave_8 (by rw [c_12]; decide) (by rw [c_12]; decide) (by rw [c_12]; rfl) (by decide) ?_
    have h_13 : iv 21 21 z_1 := iv_at c_12
    exact hj70 hvx hvw hvb ((by have hK9 : (wKy.getD w.toNatClampNeg 0).toInt = 495589486693 := wkz (j := 14) hvw (swy 14 21 (by decide) hvw ez_1 c_12) (by decide); omega)) _ _ _ hP hD hS (lv_sub hl [0, 1, 2] rfl)
  by_cases c_14 : (z_1 : Int32).toInt = 22
  · refine lv_tableIn (tgt := 70) hx hb dX9_beanMayHave_8 (by rw [c_14]; decide) (by rw [c_14]; decide) (by rw [c_14]; rfl) (by decide) ?_
    have h_15 : iv 22 22 z_1 := iv_at c_14
    exact hj70 hvx hvw hvb ((by have hK9 : (wKy.getD w.toNatClampNeg 0).toInt = 28817527407604345 := wkz (j := 16) hvw (swy 16 22 (by decide) hvw ez_1 c_14) (by decide); omega)) _ _ _ hP hD hS (lv_sub hl [0, 1, 2] rfl)
  by_cases c_16 : (z_1 : Int32).toInt = 23
  · refine lv_tableIn (tgt := 70) hx hb dX9_beanMayHave_8 (by rw [c_16]; decide) (by rw [c_16]; decide) (by rw [c_16]; rfl) (by decide) ?_
    have h_17 : iv 23 23 z_1 := iv_at c_16
    exact hj70 hvx hvw hvb ((by have hK9 : (wKy.getD w.toNatClampNeg 0).toInt = 120282512125796 := wkz (j := 17) hvw (swy 17 23 (by decide) hvw ez_1 c_16) (by decide); omega)) _ _ _ hP hD hS (lv_sub hl [0, 1, 2] rfl)
  by_cases c_18 : (z_1 : Int32).toInt = 24
  · refine lv_tableIn (tgt := 70) hx hb dX9_beanMayHave_8 (by rw [c_18]; decide) (by rw [c_18]; decide) (by rw [c_18]; rfl) (by decide) ?_
    have h_19 : iv 24 24 z_1 := iv_at c_18
    exact hj70 hvx hvw hvb ((by have hK9 : (wKy.getD w.toNatClampNeg 0).toInt = 1768843636 := wkz (j := 18) hvw (swy 18 24 (by decide) hvw ez_1 c_18) (by decide); omega)) _ _ _ hP hD hS (lv_sub hl [0, 1, 2] rfl)
  by_cases c_20 : (z_1 : Int32).toInt = 25
  · refine lv_tableIn (tgt := 70) hx hb dX9_beanMayHave_8 (by rw [c_20]; decide) (by rw [c_20]; decide) (by rw [c_20]; rfl) (by decide) ?_
    have h_21 : iv 25 25 z_1 := iv_at c_20
    exact hj70 hvx hvw hvb ((by have hK9 : (wKy.getD w.toNatClampNeg 0).toInt = 28259044220366713 := wkz (j := 19) hvw (swy 19 25 (by decide) hvw ez_1 c_20) (by decide); omega)) _ _ _ hP hD hS (lv_sub hl [0, 1, 2] rfl)
  by_cases c_22 : (z_1 : Int32).toInt = 26
  · refine lv_tableIn (tgt := 70) hx hb dX9_beanMayHave_8 (by rw [c_22]; decide) (by rw [c_22]; decide) (by rw [c_22]; rfl) (by decide) ?_
    have h_23 : iv 26 26 z_1 := iv_at c_22
    exact hj70 hvx hvw hvb ((by have hK9 : (wKy.getD w.toNatClampNeg 0).toInt = 28259031083541619 := wkz (j := 20) hvw (swy 20 26 (by decide) hvw ez_1 c_22) (by decide); omega)) _ _ _ hP hD hS (lv_sub hl [0, 1, 2] rfl)
  refine lv_tableOut (tgt := 72) hx hb dX9_beanMayHave_8 (by have q1 := (hz_1).1; have q2 := (hz_1).2; omega) (by decide) ?_
  refine lv_iconst (v := 0) hx hb dX9_beanMayHave_72 (by decide) ?_
  exact W.nb (fun hN => W.widen (k := 1) (n := 6) (by decide) (by decide) (vx_ret (W.zret (v := 0) hx hb hr (iv_nb (iv_w (iv_k (by decide) : iv 0 0 0) (by decide))) (fun t ht hW => ⟨⟨some (.int 0), (sg, gm, lg), rfl, ⟨0, rfl, rfl, (iv_w (iv_k (by decide) : iv 0 0 0) (by decide)), (Or.inr ⟨rfl, fun h => by have n_ID := wkn (x := 26980) (j := 10) (by decide) hvw (swx 10 16 (by decide) hvw ez_1 (by omega)); have n_ABSTRACT := wkn (x := 7017298113369039732) (j := 13) (by decide) hvw (swx 13 17 (by decide) hvw ez_1 (by omega)); have n_LAZY := wkn (x := 1818327673) (j := 15) (by decide) hvw (swx 15 18 (by decide) hvw ez_1 (by omega)); have n_CLASS := wkn (x := 427020088179) (j := 11) (by decide) hvw (swx 11 19 (by decide) hvw ez_1 (by omega)); have n_PARENT := wkn (x := 123563833388660) (j := 12) (by decide) hvw (swx 12 20 (by decide) hvw ez_1 (by omega)); have n_SCOPE := wkn (x := 495589486693) (j := 14) (by decide) hvw (swx 14 21 (by decide) hvw ez_1 (by omega)); have n_FACTORY := wkn (x := 28817527407604345) (j := 16) (by decide) hvw (swx 16 22 (by decide) hvw ez_1 (by omega)); have n_METHOD := wkn (x := 120282512125796) (j := 17) (by decide) hvw (swx 17 23 (by decide) hvw ez_1 (by omega)); have n_INIT := wkn (x := 1768843636) (j := 18) (by decide) hvw (swx 18 24 (by decide) hvw ez_1 (by omega)); have n_DESTROY := wkn (x := 28259044220366713) (j := 19) (by decide) hvw (swx 19 25 (by decide) hvw ez_1 (by omega)); have n_DEPENDS := wkn (x := 28259031083541619) (j := 20) (by decide) hvw (swx 20 26 (by decide) hvw ez_1 (by omega)); unfold BM7 at h; omega⟩)⟩, by rw [ht]; exact hP, va_K.moved hW.alike hK, hD⟩, hS.F ht, by rw [ht]; exact hN⟩) hS.2.2 dX9_beanMayHave_73)))

set_option maxHeartbeats 4000000 in
set_option maxRecDepth 100000 in
theorem d_mayHave2 (l : Launch) (dC : Nat → ClassId) (dI : Nat → Nat → Nat) (ad : Nat → Nat → Nat) (cid : Nat → ClassId) (a2 : Nat → Nat) (lx : List Nat) (sg : Nat → Int32) (gm : Nat → Nat → Int32) (lg : Nat → Nat → Int64) (x : Int32) (o : Int32) (w : Int32) (D : List El7) (hI : CI sg gm) (hvx : iv 0 0 x) (hvo : iv 0 79 o) (hvw : iv 0 33 w) (hw0 : 0 ≤ (gm 14 o.toNatClampNeg).toInt) (hEV : EV7 D sg gm lg o.toNatClampNeg) : CMt dC dI ad cid a2 lx l yX9_mayHave wm_X9_mayHave ({ frames := 2, cells := 1, slots := 6, locals := 42 }) [eV (ad 3) x, eV (ad 9) o, eV (ad 33) w] sg gm lg (fun v u => ∃ r : Int32, v = some (.int r) ∧ u = (sg, gm, lg) ∧ (iv 0 1 r) ∧ ((r.toInt = 1 ∧ (MAY (dKd D o.toNatClampNeg) (dIn D o.toNatClampNeg) (wKy.getD w.toNatClampNeg 0).toInt)) ∨ (r.toInt = 0 ∧ ¬ (MAY (dKd D o.toNatClampNeg) (dIn D o.toNatClampNeg) (wKy.getD w.toNatClampNeg 0).toInt)))) (fun _ _ => False) := by
  intro sz
  refine vx_ofW (cc := cX9_mayHave) (maxL := 3) (ret := (some .boolean)) (by decide) rfl ?_
  intro p e s m args below meth c s₁ B hml hxt hv
  obtain ⟨rfl, hsz, hP, hK, hD0, hG⟩ := hv
  have hx := B.exec
  have hb := B.bytes
  have hr := B.returns
  have hts := atoms_spec (ws := wm_X9_mayHave) B.pre
  have htb := fun (w : Cond) (h : w ∈ tb) => hts w (List.mem_cons_of_mem _ h)
  have hown : s.vm.findClass RX9 = some m.cls := findClass_of_methodNamed B.named
  have hlocks := B.notSynchronized
  subst hsz
  have hD := hD0.self (sz := s.heap.size)
  generalize hAe : va_A (cW ad cid a2 lx sg gm lg) s.heap.size = A at hD hG ⊢
  have hA : ∀ q : Nat, s.heap.size ≤ q → A q := fun q h => by rw [← hAe]; exact Or.inr h
  have hS : va_S A s.heap s.heap [] := va_S.rf
  have hl := lv_entry ([eV (ad 3) x, eV (ad 9) o, eV (ad 33) w]) (n := 3) (by rw [show (lg_sl ([eV (ad 3) x, eV (ad 9) o, eV (ad 33) w])).length = 3 from by simp [lg_sl, eV_cat, cat_i, cat_l]]; exact Nat.le_of_ble_eq_true rfl)
  rw [lg_entry_eq]
  generalize (lg_sl ([eV (ad 3) x, eV (ad 9) o, eV (ad 33) w]) ++ List.replicate (3 - (lg_sl ([eV (ad 3) x, eV (ad 9) o, eV (ad 33) w])).length) Slot.unset).toArray = ls at hl ⊢
  have hl : lv_has ls 3 [(0, eV (ad 3) x), (1, eV (ad 9) o), (2, eV (ad 33) w)] := by simp [lv_args, eV_cat, cat_i, cat_l] at hl; exact hl
  have hj75 : ∀ (y0_75 : Int32) (_ : iv 0 0 x) (_ : iv 0 79 o) (_ : iv 0 33 w) (_ : iv 0 1 y0_75) (_ : (y0_75.toInt = 1 ∧ (MAY (dKd D o.toNatClampNeg) (dIn D o.toNatClampNeg) (wKy.getD w.toNatClampNeg 0).toInt)) ∨ (y0_75.toInt = 0 ∧ ¬ (MAY (dKd D o.toNatClampNeg) (dIn D o.toNatClampNeg) (wKy.getD w.toNatClampNeg 0).toInt))) (H : Heap) (locs : List Loc) (ls : Array Slot), va_P (dC, dI) vwCl (cW ad cid a2 lx sg gm lg) H → va_D A (cW ad cid a2 lx sg gm lg) → va_S A s.heap H locs → lv_has ls 3 [(0, eV (ad 3) x), (1, eV (ad 9) o), (2, eV (ad 33) w)] → W p l e (headSpec wm_X9_mayHave ({ frames := 2, cells := 1, slots := 6, locals := 42 })).room s m ([eV (ad 3) x, eV (ad 9) o, eV (ad 33) w] : List Value).toArray below meth c H locs 0 0 (vx_MQ below (cQx dC dI ad cid a2 lx (fun v u => ∃ r : Int32, v = some (.int r) ∧ u = (sg, gm, lg) ∧ (iv 0 1 r) ∧ ((r.toInt = 1 ∧ (MAY (dKd D o.toNatClampNeg) (dIn D o.toNatClampNeg) (wKy.getD w.toNatClampNeg 0).toInt)) ∨ (r.toInt = 0 ∧ ¬ (MAY (dKd D o.toNatClampNeg) (dIn D o.toNatClampNeg) (wKy.getD w.toNatClampNeg 0).toInt)))) A) (cX dC dI ad cid a2 lx (fun _ _ => False) A) ([eV (ad 3) x, eV (ad 9) o, eV (ad 33) w] : List Value).toArray s 1 6 A) (F0 m 75 ls [.int y0_75]) := by
    intro y0_75 hsx0_75 hsx1_75 hsx2_75 hy0_75 u75 H locs ls hP hD hS hl
    exact W.nb (fun hN => W.widen (k := 1) (n := 6) (by decide) (by decide) (vx_ret (W.zret (v := y0_75) hx hb hr (iv_nb hy0_75) (fun t ht hW => ⟨⟨some (.int y0_75), (sg, gm, lg), rfl, ⟨y0_75, rfl, rfl, hy0_75, (u75)⟩, by rw [ht]; exact hP, va_K.moved hW.alike hK, hD⟩, hS.F ht, by rw [ht]; exact hN⟩) hS.2.2 dX9_mayHave_75)))
  have hj70 : ∀ (_ : iv 0 0 x) (_ : iv 0 79 o) (_ : iv 0 33 w) (_ : MAY (dKd D o.toNatClampNeg) (dIn D o.toNatClampNeg) (wKy.getD w.toNatClampNeg 0).toInt) (H : Heap) (locs : List Loc) (ls : Array Slot), va_P (dC, dI) vwCl (cW ad cid a2 lx sg gm lg) H → va_D A (cW ad cid a2 lx sg gm lg) → va_S A s.heap H locs → lv_has ls 3 [(0, eV (ad 3) x), (1, eV (ad 9) o), (2, eV (ad 33) w)] → W p l e (headSpec wm_X9_mayHave ({ frames := 2, cells := 1, slots := 6, locals := 42 })).room s m ([eV (ad 3) x, eV (ad 9) o, eV (ad 33) w] : List Value).toArray below meth c H locs 0 0 (vx_MQ below (cQx dC dI ad cid a2 lx (fun v u => ∃ r : Int32, v = some (.int r) ∧ u = (sg, gm, lg) ∧ (iv 0 1 r) ∧ ((r.toInt = 1 ∧ (MAY (dKd D o.toNatClampNeg) (dIn D o.toNatClampNeg) (wKy.getD w.toNatClampNeg 0).toInt)) ∨ (r.toInt = 0 ∧ ¬ (MAY (dKd D o.toNatClampNeg) (dIn D o.toNatClampNeg) (wKy.getD w.toNatClampNeg 0).toInt)))) A) (cX dC dI ad cid a2 lx (fun _ _ => False) A) ([eV (ad 3) x, eV (ad 9) o, eV (ad 33) w] : List Value).toArray s 1 6 A) (F0 m 70 ls []) := by
    intro  hsx0_70 hsx1_70 hsx2_70 u70 H locs ls hP hD hS hl
    refine lv_iconst (v := 1) hx hb dX9_mayHave_70 (by decide) ?_
    refine lv_goto (tgt := 75) hx hb dX9_mayHave_71 (by decide) ?_
    exact hj75 1 hsx0_70 hsx1_70 hsx2_70 (iv_w (iv_k (by decide) : iv 1 1 1) (by decide)) (Or.inl ⟨rfl, u70⟩) _ _ _ hP hD hS (lv_sub hl [0, 1, 2] rfl)
  have hj122 : ∀ (y0_122 : Int32) (_ : iv 0 0 x) (_ : iv 0 79 o) (_ : iv 0 33 w) (_ : iv 0 1 y0_122) (_ : (y0_122.toInt = 1 ∧ (MAY (dKd D o.toNatClampNeg) (dIn D o.toNatClampNeg) (wKy.getD w.toNatClampNeg 0).toInt)) ∨ (y0_122.toInt = 0 ∧ ¬ (MAY (dKd D o.toNatClampNeg) (dIn D o.toNatClampNeg) (wKy.getD w.toNatClampNeg 0).toInt))) (H : Heap) (locs : List Loc) (ls : Array Slot), va_P (dC, dI) vwCl (cW ad cid a2 lx sg gm lg) H → va_D A (cW ad cid a2 lx sg gm lg) → va_S A s.heap H locs → lv_has ls 3 [(0, eV (ad 3) x), (1, eV (ad 9) o), (2, eV (ad 33) w)] → W p l e (headSpec wm_X9_mayHave ({ frames := 2, cells := 1, slots := 6, locals := 42 })).room s m ([eV (ad 3) x, eV (ad 9) o, eV (ad 33) w] : List Value).toArray below meth c H locs 0 0 (vx_MQ below (cQx dC dI ad cid a2 lx (fun v u => ∃ r : Int32, v = some (.int r) ∧ u = (sg, gm, lg) ∧ (iv 0 1 r) ∧ ((r.toInt = 1 ∧ (MAY (dKd D o.toNatClampNeg) (dIn D o.toNatClampNeg) (wKy.getD w.toNatClampNeg 0).toInt)) ∨ (r.toInt = 0 ∧ ¬ (MAY (dKd D o.toNatClampNeg) (dIn D o.toNatClampNeg) (wKy.getD w.toNatClampNeg 0).toInt)))) A) (cX dC dI ad cid a2 lx (fun _ _ => False) A) ([eV (ad 3) x, eV (ad 9) o, eV (ad 33) w] : List Value).toArray s 1 6 A) (F0 m 122 ls [.int y0_122]) := by
    intro y0_122 hsx0_122 hsx1_122 hsx2_122 hy0_122 u122 H locs ls hP hD hS hl
    exact W.nb (fun hN => W.widen (k := 1) (n := 6) (by decide) (by decide) (vx_ret (W.zret (v := y0_122) hx hb hr (iv_nb hy0_122) (fun t ht hW => ⟨⟨some (.int y0_122), (sg, gm, lg), rfl, ⟨y0_122, rfl, rfl, hy0_122, (u122)⟩, by rw [ht]; exact hP, va_K.moved hW.alike hK, hD⟩, hS.F ht, by rw [ht]; exact hN⟩) hS.2.2 dX9_mayHave_122)))
  have hj117 : ∀ (_ : iv 0 0 x) (_ : iv 0 79 o) (_ : iv 0 33 w) (_ : MAY (dKd D o.toNatClampNeg) (dIn D o.toNatClampNeg) (wKy.getD w.toNatClampNeg 0).toInt) (H : Heap) (locs : List Loc) (ls : Array Slot), va_P (dC, dI) vwCl (cW ad cid a2 lx sg gm lg) H → va_D A (cW ad cid a2 lx sg gm lg) → va_S A s.heap H locs → lv_has ls 3 [(0, eV (ad 3) x), (1, eV (ad 9) o), (2, eV (ad 33) w)] → W p l e (headSpec wm_X9_mayHave ({ frames := 2, cells := 1, slots := 6, locals := 42 })).room s m ([eV (ad 3) x, eV (ad 9) o, eV (ad 33) w] : List Value).toArray below meth c H locs 0 0 (vx_MQ below (cQx dC dI ad cid a2 lx (fun v u => ∃ r : Int32, v = some (.int r) ∧ u = (sg, gm, lg) ∧ (iv 0 1 r) ∧ ((r.toInt = 1 ∧ (MAY (dKd D o.toNatClampNeg) (dIn D o.toNatClampNeg) (wKy.getD w.toNatClampNeg 0).toInt)) ∨ (r.toInt = 0 ∧ ¬ (MAY (dKd D o.toNatClampNeg) (dIn D o.toNatClampNeg) (wKy.getD w.toNatClampNeg 0).toInt)))) A) (cX dC dI ad cid a2 lx (fun _ _ => False) A) ([eV (ad 3) x, eV (ad 9) o, eV (ad 33) w] : List Value).toArray s 1 6 A) (F0 m 117 ls []) := by
    intro  hsx0_117 hsx1_117 hsx2_117 u117 H locs ls hP hD hS hl
    refine lv_iconst (v := 1) hx hb dX9_mayHave_117 (by decide) ?_
    refine lv_goto (tgt := 122) hx hb dX9_mayHave_118 (by decide) ?_
    exact hj122 1 hsx0_117 hsx1_117 hsx2_117 (iv_w (iv_k (by decide) : iv 1 1 1) (by decide)) (Or.inl ⟨rfl, u117⟩) _ _ _ hP hD hS (lv_sub hl [0, 1, 2] rfl)
  have hj149 : ∀ (y0_149 : Int32) (_ : iv 0 0 x) (_ : iv 0 79 o) (_ : iv 0 33 w) (_ : iv 0 1 y0_149) (_ : (y0_149.toInt = 1 ∧ (MAY (dKd D o.toNatClampNeg) (dIn D o.toNatClampNeg) (wKy.getD w.toNatClampNeg 0).toInt)) ∨ (y0_149.toInt = 0 ∧ ¬ (MAY (dKd D o.toNatClampNeg) (dIn D o.toNatClampNeg) (wKy.getD w.toNatClampNeg 0).toInt))) (H : Heap) (locs : List Loc) (ls : Array Slot), va_P (dC, dI) vwCl (cW ad cid a2 lx sg gm lg) H → va_D A (cW ad cid a2 lx sg gm lg) → va_S A s.heap H locs → lv_has ls 3 [(0, eV (ad 3) x), (1, eV (ad 9) o), (2, eV (ad 33) w)] → W p l e (headSpec wm_X9_mayHave ({ frames := 2, cells := 1, slots := 6, locals := 42 })).room s m ([eV (ad 3) x, eV (ad 9) o, eV (ad 33) w] : List Value).toArray below meth c H locs 0 0 (vx_MQ below (cQx dC dI ad cid a2 lx (fun v u => ∃ r : Int32, v = some (.int r) ∧ u = (sg, gm, lg) ∧ (iv 0 1 r) ∧ ((r.toInt = 1 ∧ (MAY (dKd D o.toNatClampNeg) (dIn D o.toNatClampNeg) (wKy.getD w.toNatClampNeg 0).toInt)) ∨ (r.toInt = 0 ∧ ¬ (MAY (dKd D o.toNatClampNeg) (dIn D o.toNatClampNeg) (wKy.getD w.toNatClampNeg 0).toInt)))) A) (cX dC dI ad cid a2 lx (fun _ _ => False) A) ([eV (ad 3) x, eV (ad 9) o, eV (ad 33) w] : List Value).toArray s 1 6 A) (F0 m 149 ls [.int y0_149]) := by
    intro y0_149 hsx0_149 hsx1_149 hsx2_149 hy0_149 u149 H locs ls hP hD hS hl
    exact W.nb (fun hN => W.widen (k := 1) (n := 6) (by decide) (by decide) (vx_ret (W.zret (v := y0_149) hx hb hr (iv_nb hy0_149) (fun t ht hW => ⟨⟨some (.int y0_149), (sg, gm, lg), rfl, ⟨y0_149, rfl, rfl, hy0_149, (u149)⟩, by rw [ht]; exact hP, va_K.moved hW.alike hK, hD⟩, hS.F ht, by rw [ht]; exact hN⟩) hS.2.2 dX9_mayHave_149)))
  have hj144 : ∀ (_ : iv 0 0 x) (_ : iv 0 79 o) (_ : iv 0 33 w) (_ : MAY (dKd D o.toNatClampNeg) (dIn D o.toNatClampNeg) (wKy.getD w.toNatClampNeg 0).toInt) (H : Heap) (locs : List Loc) (ls : Array Slot), va_P (dC, dI) vwCl (cW ad cid a2 lx sg gm lg) H → va_D A (cW ad cid a2 lx sg gm lg) → va_S A s.heap H locs → lv_has ls 3 [(0, eV (ad 3) x), (1, eV (ad 9) o), (2, eV (ad 33) w)] → W p l e (headSpec wm_X9_mayHave ({ frames := 2, cells := 1, slots := 6, locals := 42 })).room s m ([eV (ad 3) x, eV (ad 9) o, eV (ad 33) w] : List Value).toArray below meth c H locs 0 0 (vx_MQ below (cQx dC dI ad cid a2 lx (fun v u => ∃ r : Int32, v = some (.int r) ∧ u = (sg, gm, lg) ∧ (iv 0 1 r) ∧ ((r.toInt = 1 ∧ (MAY (dKd D o.toNatClampNeg) (dIn D o.toNatClampNeg) (wKy.getD w.toNatClampNeg 0).toInt)) ∨ (r.toInt = 0 ∧ ¬ (MAY (dKd D o.toNatClampNeg) (dIn D o.toNatClampNeg) (wKy.getD w.toNatClampNeg 0).toInt)))) A) (cX dC dI ad cid a2 lx (fun _ _ => False) A) ([eV (ad 3) x, eV (ad 9) o, eV (ad 33) w] : List Value).toArray s 1 6 A) (F0 m 144 ls []) := by
    intro  hsx0_144 hsx1_144 hsx2_144 u144 H locs ls hP hD hS hl
    refine lv_iconst (v := 1) hx hb dX9_mayHave_144 (by decide) ?_
    refine lv_goto (tgt := 149) hx hb dX9_mayHave_145 (by decide) ?_
    exact hj149 1 hsx0_144 hsx1_144 hsx2_144 (iv_w (iv_k (by decide) : iv 1 1 1) (by decide)) (Or.inl ⟨rfl, u144⟩) _ _ _ hP hD hS (lv_sub hl [0, 1, 2] rfl)
  have hj182 : ∀ (y0_182 : Int32) (_ : iv 0 0 x) (_ : iv 0 79 o) (_ : iv 0 33 w) (_ : iv 0 1 y0_182) (_ : (y0_182.toInt = 1 ∧ (MAY (dKd D o.toNatClampNeg) (dIn D o.toNatClampNeg) (wKy.getD w.toNatClampNeg 0).toInt)) ∨ (y0_182.toInt = 0 ∧ ¬ (MAY (dKd D o.toNatClampNeg) (dIn D o.toNatClampNeg) (wKy.getD w.toNatClampNeg 0).toInt))) (H : Heap) (locs : List Loc) (ls : Array Slot), va_P (dC, dI) vwCl (cW ad cid a2 lx sg gm lg) H → va_D A (cW ad cid a2 lx sg gm lg) → va_S A s.heap H locs → lv_has ls 3 [(0, eV (ad 3) x), (1, eV (ad 9) o), (2, eV (ad 33) w)] → W p l e (headSpec wm_X9_mayHave ({ frames := 2, cells := 1, slots := 6, locals := 42 })).room s m ([eV (ad 3) x, eV (ad 9) o, eV (ad 33) w] : List Value).toArray below meth c H locs 0 0 (vx_MQ below (cQx dC dI ad cid a2 lx (fun v u => ∃ r : Int32, v = some (.int r) ∧ u = (sg, gm, lg) ∧ (iv 0 1 r) ∧ ((r.toInt = 1 ∧ (MAY (dKd D o.toNatClampNeg) (dIn D o.toNatClampNeg) (wKy.getD w.toNatClampNeg 0).toInt)) ∨ (r.toInt = 0 ∧ ¬ (MAY (dKd D o.toNatClampNeg) (dIn D o.toNatClampNeg) (wKy.getD w.toNatClampNeg 0).toInt)))) A) (cX dC dI ad cid a2 lx (fun _ _ => False) A) ([eV (ad 3) x, eV (ad 9) o, eV (ad 33) w] : List Value).toArray s 1 6 A) (F0 m 182 ls [.int y0_182]) := by
    intro y0_182 hsx0_182 hsx1_182 hsx2_182 hy0_182 u182 H locs ls hP hD hS hl
    exact W.nb (fun hN => W.widen (k := 1) (n := 6) (by decide) (by decide) (vx_ret (W.zret (v := y0_182) hx hb hr (iv_nb hy0_182) (fun t ht hW => ⟨⟨some (.int y0_182), (sg, gm, lg), rfl, ⟨y0_182, rfl, rfl, hy0_182, (u182)⟩, by rw [ht]; exact hP, va_K.moved hW.alike hK, hD⟩, hS.F ht, by rw [ht]; exact hN⟩) hS.2.2 dX9_mayHave_182)))
  have hj177 : ∀ (_ : iv 0 0 x) (_ : iv 0 79 o) (_ : iv 0 33 w) (_ : MAY (dKd D o.toNatClampNeg) (dIn D o.toNatClampNeg) (wKy.getD w.toNatClampNeg 0).toInt) (H : Heap) (locs : List Loc) (ls : Array Slot), va_P (dC, dI) vwCl (cW ad cid a2 lx sg gm lg) H → va_D A (cW ad cid a2 lx sg gm lg) → va_S A s.heap H locs → lv_has ls 3 [(0, eV (ad 3) x), (1, eV (ad 9) o), (2, eV (ad 33) w)] → W p l e (headSpec wm_X9_mayHave ({ frames := 2, cells := 1, slots := 6, locals := 42 })).room s m ([eV (ad 3) x, eV (ad 9) o, eV (ad 33) w] : List Value).toArray below meth c H locs 0 0 (vx_MQ below (cQx dC dI ad cid a2 lx (fun v u => ∃ r : Int32, v = some (.int r) ∧ u = (sg, gm, lg) ∧ (iv 0 1 r) ∧ ((r.toInt = 1 ∧ (MAY (dKd D o.toNatClampNeg) (dIn D o.toNatClampNeg) (wKy.getD w.toNatClampNeg 0).toInt)) ∨ (r.toInt = 0 ∧ ¬ (MAY (dKd D o.toNatClampNeg) (dIn D o.toNatClampNeg) (wKy.getD w.toNatClampNeg 0).toInt)))) A) (cX dC dI ad cid a2 lx (fun _ _ => False) A) ([eV (ad 3) x, eV (ad 9) o, eV (ad 33) w] : List Value).toArray s 1 6 A) (F0 m 177 ls []) := by
    intro  hsx0_177 hsx1_177 hsx2_177 u177 H locs ls hP hD hS hl
    refine lv_iconst (v := 1) hx hb dX9_mayHave_177 (by decide) ?_
    refine lv_goto (tgt := 182) hx hb dX9_mayHave_178 (by decide) ?_
    exact hj182 1 hsx0_177 hsx1_177 hsx2_177 (iv_w (iv_k (by decide) : iv 1 1 1) (by decide)) (Or.inl ⟨rfl, u177⟩) _ _ _ hP hD hS (lv_sub hl [0, 1, 2] rfl)
  have hj183 : ∀ (_ : iv 0 0 x) (_ : iv 0 79 o) (_ : iv 0 33 w) (_ : ¬ MAY (dKd D o.toNatClampNeg) (dIn D o.toNatClampNeg) (wKy.getD w.toNatClampNeg 0).toInt) (H : Heap) (locs : List Loc) (ls : Array Slot), va_P (dC, dI) vwCl (cW ad cid a2 lx sg gm lg) H → va_D A (cW ad cid a2 lx sg gm lg) → va_S A s.heap H locs → lv_has ls 3 [(0, eV (ad 3) x), (1, eV (ad 9) o), (2, eV (ad 33) w)] → W p l e (headSpec wm_X9_mayHave ({ frames := 2, cells := 1, slots := 6, locals := 42 })).room s m ([eV (ad 3) x, eV (ad 9) o, eV (ad 33) w] : List Value).toArray below meth c H locs 0 0 (vx_MQ below (cQx dC dI ad cid a2 lx (fun v u => ∃ r : Int32, v = some (.int r) ∧ u = (sg, gm, lg) ∧ (iv 0 1 r) ∧ ((r.toInt = 1 ∧ (MAY (dKd D o.toNatClampNeg) (dIn D o.toNatClampNeg) (wKy.getD w.toNatClampNeg 0).toInt)) ∨ (r.toInt = 0 ∧ ¬ (MAY (dKd D o.toNatClampNeg) (dIn D o.toNatClampNeg) (wKy.getD w.toNatClampNeg 0).toInt)))) A) (cX dC dI ad cid a2 lx (fun _ _ => False) A) ([eV (ad 3) x, eV (ad 9) o, eV (ad 33) w] : List Value).toArray s 1 6 A) (F0 m 183 ls []) := by
    intro  hsx0_183 hsx1_183 hsx2_183 u183 H locs ls hP hD hS hl
    refine lv_iconst (v := 0) hx hb dX9_mayHave_183 (by decide) ?_
    exact W.nb (fun hN => W.widen (k := 1) (n := 6) (by decide) (by decide) (vx_ret (W.zret (v := 0) hx hb hr (iv_nb (iv_w (iv_k (by decide) : iv 0 0 0) (by decide))) (fun t ht hW => ⟨⟨some (.int 0), (sg, gm, lg), rfl, ⟨0, rfl, rfl, (iv_w (iv_k (by decide) : iv 0 0 0) (by decide)), (Or.inr ⟨rfl, u183⟩)⟩, by rw [ht]; exact hP, va_K.moved hW.alike hK, hD⟩, hS.F ht, by rw [ht]; exact hN⟩) hS.2.2 dX9_mayHave_184)))
  have hj162 : ∀ (y0_162 : Int32) (_ : iv 0 0 x) (_ : iv 0 79 o) (_ : iv 0 33 w) (_ : iv 0 1 y0_162) (_ : (y0_162.toInt = 1 ∧ (MAY (dKd D o.toNatClampNeg) (dIn D o.toNatClampNeg) (wKy.getD w.toNatClampNeg 0).toInt)) ∨ (y0_162.toInt = 0 ∧ ¬ (MAY (dKd D o.toNatClampNeg) (dIn D o.toNatClampNeg) (wKy.getD w.toNatClampNeg 0).toInt))) (H : Heap) (locs : List Loc) (ls : Array Slot), va_P (dC, dI) vwCl (cW ad cid a2 lx sg gm lg) H → va_D A (cW ad cid a2 lx sg gm lg) → va_S A s.heap H locs → lv_has ls 3 [(0, eV (ad 3) x), (1, eV (ad 9) o), (2, eV (ad 33) w)] → W p l e (headSpec wm_X9_mayHave ({ frames := 2, cells := 1, slots := 6, locals := 42 })).room s m ([eV (ad 3) x, eV (ad 9) o, eV (ad 33) w] : List Value).toArray below meth c H locs 0 0 (vx_MQ below (cQx dC dI ad cid a2 lx (fun v u => ∃ r : Int32, v = some (.int r) ∧ u = (sg, gm, lg) ∧ (iv 0 1 r) ∧ ((r.toInt = 1 ∧ (MAY (dKd D o.toNatClampNeg) (dIn D o.toNatClampNeg) (wKy.getD w.toNatClampNeg 0).toInt)) ∨ (r.toInt = 0 ∧ ¬ (MAY (dKd D o.toNatClampNeg) (dIn D o.toNatClampNeg) (wKy.getD w.toNatClampNeg 0).toInt)))) A) (cX dC dI ad cid a2 lx (fun _ _ => False) A) ([eV (ad 3) x, eV (ad 9) o, eV (ad 33) w] : List Value).toArray s 1 6 A) (F0 m 162 ls [.int y0_162]) := by
    intro y0_162 hsx0_162 hsx1_162 hsx2_162 hy0_162 u162 H locs ls hP hD hS hl
    exact W.nb (fun hN => W.widen (k := 1) (n := 6) (by decide) (by decide) (vx_ret (W.zret (v := y0_162) hx hb hr (iv_nb hy0_162) (fun t ht hW => ⟨⟨some (.int y0_162), (sg, gm, lg), rfl, ⟨y0_162, rfl, rfl, hy0_162, (u162)⟩, by rw [ht]; exact hP, va_K.moved hW.alike hK, hD⟩, hS.F ht, by rw [ht]; exact hN⟩) hS.2.2 dX9_mayHave_162)))
  refine cw_sw hx hb hG hS hown (htb _ kw_514) dX9_mayHave_0 ?_
  refine ec_aload_n hx hb dX9_mayHave_3 rfl (lv_at hl 1 rfl) ?_
  refine cr_get (t := 9) (j := 4) (C := RX3) (T := TX3) (N := 21) (v := eV (ad 33) (gm 14 o.toNatClampNeg)) hx hb htb inX3 hown hK hP hvo (by decide) (by decide) (by decide) rfl (by decide) (htb _ kw_508) rfl dX9_mayHave_4 ?_
  obtain ⟨z_1, ez_1⟩ : ∃ z : Int32, z = (gm 14 o.toNatClampNeg) := ⟨_, rfl⟩
  refine W.eq (g2 := F0 m 7 ls [eV (ad 33) z_1, eV (ad 36) 0]) (by rw [ez_1]) ?_
  have hz_1 : iv (-1) 33 z_1 := iv_of ez_1 (CI_a hI 14 hvo (by decide))
  have h_2 : iv 0 33 z_1 := ⟨by rw [ez_1]; exact hw0, (hz_1).2⟩
  refine cw_ord ⟨hx, hb, hml, hown, htb⟩ kw_520 h_2 hl.1 (Nat.le_trans (cs_c (eV_cat _ _) cs_n) (by decide)) dX9_mayHave_7 ⟨Nat.le_of_ble_eq_true rfl, Nat.le_of_ble_eq_true rfl⟩ ⟨Nat.le_of_ble_eq_true rfl, Nat.le_of_ble_eq_true rfl⟩ hP hD hS hA hG (fun H locs hP hS => ?_)
  refine cw_swld (iv_k (by decide) : iv 0 0 0) hx hb hG hS h_2 dX9_mayHave_10 ?_
  refine lv_topi (fun z_3 ez_3 => ?_)
  have hz_3 : iv 0 29 z_3 := iv_of ez_3 (sw_iv z_1)
  by_cases c_4 : (z_3 : Int32).toInt = 7
  · refine lv_tableIn (tgt := 56) hx hb dX9_mayHave_11 (by rw [c_4]; decide) (by rw [c_4]; decide) (by rw [c_4]; rfl) (by decide) ?_
    have h_5 : iv 7 7 z_3 := iv_at c_4
    refine ec_aload_n hx hb dX9_mayHave_56 rfl (lv_at hl 2 rfl) ?_
    refine cw_word (k := 21) (kx := 21) hx hb hG hS (by decide) rfl ⟨by decide, by decide⟩ hown (htb _ kw_541) dX9_mayHave_57 ?_
    refine ec_acmp_eq (tgt := 70) hx hb dX9_mayHave_60 (by decide) (fun c_6 => ?_) (fun c_6 => ?_)
    · have wc_6 : w.toInt = (21 : Int) := er_wd hG (iv_w hvw (by decide)) (iv_w (iv_k (by decide) : iv 21 21 21) (by decide)) c_6
      exact hj70 hvx hvo hvw ((by have hkd : dKd D o.toNatClampNeg = 2 := KW_f hEV.1 (by unfold KW7; rw [show (gm 14 o.toNatClampNeg).toInt = (1 : Int) from (by rw [← ez_1]; exact swy 1 7 (by decide) (h_2) ez_3 c_4)]; decide); rw [hkd, MAY_2]; have k_NAME := wkz (w := w) (j := 21) (x := 1851878757) hvw (by have := wc_6; omega) (by decide); omega)) _ _ _ hP hD hS (lv_sub hl [0, 1, 2] rfl)
    · have wc_6 : ¬ w.toInt = (21 : Int) := fun q9 => c_6 (congrArg (er (ad 33)) (Int32.toInt_inj.mp q9))
      refine ec_aload_n hx hb dX9_mayHave_63 rfl (lv_at hl 2 rfl) ?_
      refine cw_word (k := 22) (kx := 22) hx hb hG hS (by decide) rfl ⟨by decide, by decide⟩ hown (htb _ kw_567) dX9_mayHave_64 ?_
      refine ec_acmp_ne (tgt := 74) hx hb dX9_mayHave_67 (by decide) (fun c_7 => ?_) (fun c_7 => ?_)
      · have wc_7 : ¬ w.toInt = (22 : Int) := fun q9 => c_7 (congrArg (er (ad 33)) (Int32.toInt_inj.mp q9))
        refine lv_iconst (v := 0) hx hb dX9_mayHave_74 (by decide) ?_
        exact hj75 0 hvx hvo hvw (iv_w (iv_k (by decide) : iv 0 0 0) (by decide)) (Or.inr ⟨rfl, (fun q9 => by have hkd : dKd D o.toNatClampNeg = 2 := KW_f hEV.1 (by unfold KW7; rw [show (gm 14 o.toNatClampNeg).toInt = (1 : Int) from (by rw [← ez_1]; exact swy 1 7 (by decide) (h_2) ez_3 c_4)]; decide); rw [hkd, MAY_2] at q9; have k_NAME := wkn (w := w) (x := 1851878757) (j := 21) (by decide) hvw (by have := wc_6; omega); have k_TO := wkn (w := w) (x := 29807) (j := 22) (by decide) hvw (by have := wc_7; omega); omega)⟩) _ _ _ hP hD hS (lv_sub hl [0, 1, 2] rfl)
      · have wc_7 : w.toInt = (22 : Int) := er_wd hG (iv_w hvw (by decide)) (iv_w (iv_k (by decide) : iv 22 22 22) (by decide)) c_7
        exact hj70 hvx hvo hvw ((by have hkd : dKd D o.toNatClampNeg = 2 := KW_f hEV.1 (by unfold KW7; rw [show (gm 14 o.toNatClampNeg).toInt = (1 : Int) from (by rw [← ez_1]; exact swy 1 7 (by decide) (h_2) ez_3 c_4)]; decide); rw [hkd, MAY_2]; have k_NAME := wkn (w := w) (x := 1851878757) (j := 21) (by decide) hvw (by have := wc_6; omega); have k_TO := wkz (w := w) (j := 22) (x := 29807) hvw (by have := wc_7; omega) (by decide); omega)) _ _ _ hP hD hS (lv_sub hl [0, 1, 2] rfl)
  by_cases c_8 : (z_3 : Int32).toInt = 8
  · refine lv_tableIn (tgt := 76) hx hb dX9_mayHave_11 (by rw [c_8]; decide) (by rw [c_8]; decide) (by rw [c_8]; rfl) (by decide) ?_
    have h_9 : iv 8 8 z_3 := iv_at c_8
    refine ec_aload_n hx hb dX9_mayHave_76 rfl (lv_at hl 0 rfl) ?_
    refine ec_aload_n hx hb dX9_mayHave_77 rfl (lv_at hl 2 rfl) ?_
    refine ec_aload_n hx hb dX9_mayHave_78 rfl (lv_at hl 1 rfl) ?_
    refine cw_word (k := 0) (kx := 0) hx hb hG hS (by decide) rfl ⟨by decide, by decide⟩ hown (htb _ kw_516) dX9_mayHave_79 ?_
    refine cm_callV (t := 9) (C := RX3) (T := TX3) (N := 21) (rest := [eV (ad 33) w, eV (ad 3) x]) (as := [eV (ad 33) 0]) ⟨hx, hb, hml, hown, htb⟩ (d_isIn2 l dC dI ad cid a2 lx sg gm lg o 0 hI hvo (iv_w (iv_k (by decide) : iv 0 0 0) (by decide))) (cwV 1 htb (gd_V kw_526 kw_527 kw_528 kw_66 kw_1462) rfl rfl rfl (by decide +kernel) ⟨Nat.le_of_ble_eq_true rfl, Nat.le_of_ble_eq_true rfl⟩) hvo (by decide) (by decide) rfl rfl hl.1 rfl (Nat.le_trans (cs_c (eV_cat _ _) (cs_c (eV_cat _ _) cs_n)) (by decide)) dX9_mayHave_82 ⟨Nat.le_of_ble_eq_true rfl, Nat.le_of_ble_eq_true rfl⟩ hK hP hD hS hA hG (fun E ce q9 u_11 H locs hw hP hD hS hce hcv hcl => ?_) (fun v9 u_11 H locs hw hP hD hS => ?_)
    · exact hw.elim
    obtain ⟨r_10, rfl, rfl, hr_10, fI_r_10⟩ := hw
    have hP : va_P (dC, dI) vwCl (cW ad cid a2 lx sg gm lg) H := hP
    have hD : va_D A (cW ad cid a2 lx sg gm lg) := hD
    refine W.eq (g2 := F0 m 85 ls [.int r_10, eV (ad 33) w, eV (ad 3) x]) rfl ?_
    have gI_r_10 : (r_10.toInt = 1 ∧ dIn D o.toNatClampNeg = 1) ∨ (r_10.toInt = 0 ∧ ¬ dIn D o.toNatClampNeg = 1) := by rw [← ISI_d hEV (a := 0) (K := 1) (by unfold KW7; decide) (by decide)]; exact fI_r_10
    refine cm_callV (t := 3) (C := RX9) (T := TX9) (N := 1) (rest := []) (as := [eV (ad 33) w, .int r_10]) ⟨hx, hb, hml, hown, htb⟩ (d_beanMayHave2 l dC dI ad cid a2 lx sg gm lg x w r_10 hI hvx hvw hr_10) (cwV 2 htb (gd_V kw_571 kw_572 kw_573 kw_28 kw_1473) rfl rfl rfl (by decide +kernel) ⟨Nat.le_of_ble_eq_true rfl, Nat.le_of_ble_eq_true rfl⟩) hvx (by decide) (by decide) rfl rfl hl.1 rfl (Nat.le_trans cs_n (by decide)) dX9_mayHave_85 ⟨Nat.le_of_ble_eq_true rfl, Nat.le_of_ble_eq_true rfl⟩ hK hP hD hS hA hG (fun E ce q9 u_14 H locs hw hP hD hS hce hcv hcl => ?_) (fun v9 u_14 H locs hw hP hD hS => ?_)
    · exact hw.elim
    obtain ⟨r_13, rfl, rfl, hr_13, fB_r_13⟩ := hw
    have hP : va_P (dC, dI) vwCl (cW ad cid a2 lx sg gm lg) H := hP
    have hD : va_D A (cW ad cid a2 lx sg gm lg) := hD
    refine W.eq (g2 := F0 m 88 ls [.int r_13]) rfl ?_
    exact W.nb (fun hN => W.widen (k := 1) (n := 6) (by decide) (by decide) (vx_ret (W.zret (v := r_13) hx hb hr (iv_nb hr_13) (fun t ht hW => ⟨⟨some (.int r_13), (sg, gm, lg), rfl, ⟨r_13, rfl, rfl, hr_13, ((by have hkd : dKd D o.toNatClampNeg = 3 := KW_f hEV.1 (by unfold KW7; rw [show (gm 14 o.toNatClampNeg).toInt = (2 : Int) from (by rw [← ez_1]; exact swy 2 8 (by decide) (h_2) ez_3 c_8)]; decide); rw [MAY_b hkd gI_r_10]; exact fB_r_13))⟩, by rw [ht]; exact hP, va_K.moved hW.alike hK, hD⟩, hS.F ht, by rw [ht]; exact hN⟩) hS.2.2 dX9_mayHave_88)))
  by_cases c_16 : (z_3 : Int32).toInt = 9
  · refine lv_tableIn (tgt := 89) hx hb dX9_mayHave_11 (by rw [c_16]; decide) (by rw [c_16]; decide) (by rw [c_16]; rfl) (by decide) ?_
    have h_17 : iv 9 9 z_3 := iv_at c_16
    refine ec_aload_n hx hb dX9_mayHave_89 rfl (lv_at hl 2 rfl) ?_
    refine cw_word (k := 23) (kx := 23) hx hb hG hS (by decide) rfl ⟨by decide, by decide⟩ hown (htb _ kw_568) dX9_mayHave_90 ?_
    refine ec_acmp_eq (tgt := 117) hx hb dX9_mayHave_93 (by decide) (fun c_18 => ?_) (fun c_18 => ?_)
    · have wc_18 : w.toInt = (23 : Int) := er_wd hG (iv_w hvw (by decide)) (iv_w (iv_k (by decide) : iv 23 23 23) (by decide)) c_18
      exact hj117 hvx hvo hvw ((by have hkd : dKd D o.toNatClampNeg = 4 := KW_f hEV.1 (by unfold KW7; rw [show (gm 14 o.toNatClampNeg).toInt = (3 : Int) from (by rw [← ez_1]; exact swy 3 9 (by decide) (h_2) ez_3 c_16)]; decide); rw [hkd, MAY_4]; have k_AT := wkz (w := w) (j := 23) (x := 24948) hvw (by have := wc_18; omega) (by decide); omega)) _ _ _ hP hD hS (lv_sub hl [0, 1, 2] rfl)
    · have wc_18 : ¬ w.toInt = (23 : Int) := fun q9 => c_18 (congrArg (er (ad 33)) (Int32.toInt_inj.mp q9))
      refine ec_aload_n hx hb dX9_mayHave_96 rfl (lv_at hl 2 rfl) ?_
      refine cw_word (k := 24) (kx := 24) hx hb hG hS (by decide) rfl ⟨by decide, by decide⟩ hown (htb _ kw_569) dX9_mayHave_97 ?_
      refine ec_acmp_eq (tgt := 117) hx hb dX9_mayHave_100 (by decide) (fun c_19 => ?_) (fun c_19 => ?_)
      · have wc_19 : w.toInt = (24 : Int) := er_wd hG (iv_w hvw (by decide)) (iv_w (iv_k (by decide) : iv 24 24 24) (by decide)) c_19
        exact hj117 hvx hvo hvw ((by have hkd : dKd D o.toNatClampNeg = 4 := KW_f hEV.1 (by unfold KW7; rw [show (gm 14 o.toNatClampNeg).toInt = (3 : Int) from (by rw [← ez_1]; exact swy 3 9 (by decide) (h_2) ez_3 c_16)]; decide); rw [hkd, MAY_4]; have k_AT := wkn (w := w) (x := 24948) (j := 23) (by decide) hvw (by have := wc_18; omega); have k_TYPE := wkz (w := w) (j := 24) (x := 1954115685) hvw (by have := wc_19; omega) (by decide); omega)) _ _ _ hP hD hS (lv_sub hl [0, 1, 2] rfl)
      · have wc_19 : ¬ w.toInt = (24 : Int) := fun q9 => c_19 (congrArg (er (ad 33)) (Int32.toInt_inj.mp q9))
        refine ec_aload_n hx hb dX9_mayHave_103 rfl (lv_at hl 2 rfl) ?_
        refine cw_word (k := 7) (kx := 7) hx hb hG hS (by decide) rfl ⟨by decide, by decide⟩ hown (htb _ kw_510) dX9_mayHave_104 ?_
        refine ec_acmp_eq (tgt := 117) hx hb dX9_mayHave_107 (by decide) (fun c_20 => ?_) (fun c_20 => ?_)
        · have wc_20 : w.toInt = (7 : Int) := er_wd hG (iv_w hvw (by decide)) (iv_w (iv_k (by decide) : iv 7 7 7) (by decide)) c_20
          exact hj117 hvx hvo hvw ((by have hkd : dKd D o.toNatClampNeg = 4 := KW_f hEV.1 (by unfold KW7; rw [show (gm 14 o.toNatClampNeg).toInt = (3 : Int) from (by rw [← ez_1]; exact swy 3 9 (by decide) (h_2) ez_3 c_16)]; decide); rw [hkd, MAY_4]; have k_AT := wkn (w := w) (x := 24948) (j := 23) (by decide) hvw (by have := wc_18; omega); have k_TYPE := wkn (w := w) (x := 1954115685) (j := 24) (by decide) hvw (by have := wc_19; omega); have k_VALUE := wkz (w := w) (j := 7) (x := 508440638821) hvw (by have := wc_20; omega) (by decide); omega)) _ _ _ hP hD hS (lv_sub hl [0, 1, 2] rfl)
        · have wc_20 : ¬ w.toInt = (7 : Int) := fun q9 => c_20 (congrArg (er (ad 33)) (Int32.toInt_inj.mp q9))
          refine ec_aload_n hx hb dX9_mayHave_110 rfl (lv_at hl 2 rfl) ?_
          refine cw_word (k := 8) (kx := 8) hx hb hG hS (by decide) rfl ⟨by decide, by decide⟩ hown (htb _ kw_570) dX9_mayHave_111 ?_
          refine ec_acmp_ne (tgt := 121) hx hb dX9_mayHave_114 (by decide) (fun c_21 => ?_) (fun c_21 => ?_)
          · have wc_21 : ¬ w.toInt = (8 : Int) := fun q9 => c_21 (congrArg (er (ad 33)) (Int32.toInt_inj.mp q9))
            refine lv_iconst (v := 0) hx hb dX9_mayHave_121 (by decide) ?_
            exact hj122 0 hvx hvo hvw (iv_w (iv_k (by decide) : iv 0 0 0) (by decide)) (Or.inr ⟨rfl, (fun q9 => by have hkd : dKd D o.toNatClampNeg = 4 := KW_f hEV.1 (by unfold KW7; rw [show (gm 14 o.toNatClampNeg).toInt = (3 : Int) from (by rw [← ez_1]; exact swy 3 9 (by decide) (h_2) ez_3 c_16)]; decide); rw [hkd, MAY_4] at q9; have k_AT := wkn (w := w) (x := 24948) (j := 23) (by decide) hvw (by have := wc_18; omega); have k_TYPE := wkn (w := w) (x := 1954115685) (j := 24) (by decide) hvw (by have := wc_19; omega); have k_VALUE := wkn (w := w) (x := 508440638821) (j := 7) (by decide) hvw (by have := wc_20; omega); have k_REF := wkn (w := w) (x := 7497062) (j := 8) (by decide) hvw (by have := wc_21; omega); omega)⟩) _ _ _ hP hD hS (lv_sub hl [0, 1, 2] rfl)
          · have wc_21 : w.toInt = (8 : Int) := er_wd hG (iv_w hvw (by decide)) (iv_w (iv_k (by decide) : iv 8 8 8) (by decide)) c_21
            exact hj117 hvx hvo hvw ((by have hkd : dKd D o.toNatClampNeg = 4 := KW_f hEV.1 (by unfold KW7; rw [show (gm 14 o.toNatClampNeg).toInt = (3 : Int) from (by rw [← ez_1]; exact swy 3 9 (by decide) (h_2) ez_3 c_16)]; decide); rw [hkd, MAY_4]; have k_AT := wkn (w := w) (x := 24948) (j := 23) (by decide) hvw (by have := wc_18; omega); have k_TYPE := wkn (w := w) (x := 1954115685) (j := 24) (by decide) hvw (by have := wc_19; omega); have k_VALUE := wkn (w := w) (x := 508440638821) (j := 7) (by decide) hvw (by have := wc_20; omega); have k_REF := wkz (w := w) (j := 8) (x := 7497062) hvw (by have := wc_21; omega) (by decide); omega)) _ _ _ hP hD hS (lv_sub hl [0, 1, 2] rfl)
  by_cases c_22 : (z_3 : Int32).toInt = 10
  · refine lv_tableIn (tgt := 123) hx hb dX9_mayHave_11 (by rw [c_22]; decide) (by rw [c_22]; decide) (by rw [c_22]; rfl) (by decide) ?_
    have h_23 : iv 10 10 z_3 := iv_at c_22
    refine ec_aload_n hx hb dX9_mayHave_123 rfl (lv_at hl 2 rfl) ?_
    refine cw_word (k := 21) (kx := 21) hx hb hG hS (by decide) rfl ⟨by decide, by decide⟩ hown (htb _ kw_541) dX9_mayHave_124 ?_
    refine ec_acmp_eq (tgt := 144) hx hb dX9_mayHave_127 (by decide) (fun c_24 => ?_) (fun c_24 => ?_)
    · have wc_24 : w.toInt = (21 : Int) := er_wd hG (iv_w hvw (by decide)) (iv_w (iv_k (by decide) : iv 21 21 21) (by decide)) c_24
      exact hj144 hvx hvo hvw ((by have hkd : dKd D o.toNatClampNeg = 5 := KW_f hEV.1 (by unfold KW7; rw [show (gm 14 o.toNatClampNeg).toInt = (4 : Int) from (by rw [← ez_1]; exact swy 4 10 (by decide) (h_2) ez_3 c_22)]; decide); rw [hkd, MAY_5]; have k_NAME := wkz (w := w) (j := 21) (x := 1851878757) hvw (by have := wc_24; omega) (by decide); omega)) _ _ _ hP hD hS (lv_sub hl [0, 1, 2] rfl)
    · have wc_24 : ¬ w.toInt = (21 : Int) := fun q9 => c_24 (congrArg (er (ad 33)) (Int32.toInt_inj.mp q9))
      refine ec_aload_n hx hb dX9_mayHave_130 rfl (lv_at hl 2 rfl) ?_
      refine cw_word (k := 7) (kx := 7) hx hb hG hS (by decide) rfl ⟨by decide, by decide⟩ hown (htb _ kw_510) dX9_mayHave_131 ?_
      refine ec_acmp_eq (tgt := 144) hx hb dX9_mayHave_134 (by decide) (fun c_25 => ?_) (fun c_25 => ?_)
      · have wc_25 : w.toInt = (7 : Int) := er_wd hG (iv_w hvw (by decide)) (iv_w (iv_k (by decide) : iv 7 7 7) (by decide)) c_25
        exact hj144 hvx hvo hvw ((by have hkd : dKd D o.toNatClampNeg = 5 := KW_f hEV.1 (by unfold KW7; rw [show (gm 14 o.toNatClampNeg).toInt = (4 : Int) from (by rw [← ez_1]; exact swy 4 10 (by decide) (h_2) ez_3 c_22)]; decide); rw [hkd, MAY_5]; have k_NAME := wkn (w := w) (x := 1851878757) (j := 21) (by decide) hvw (by have := wc_24; omega); have k_VALUE := wkz (w := w) (j := 7) (x := 508440638821) hvw (by have := wc_25; omega) (by decide); omega)) _ _ _ hP hD hS (lv_sub hl [0, 1, 2] rfl)
      · have wc_25 : ¬ w.toInt = (7 : Int) := fun q9 => c_25 (congrArg (er (ad 33)) (Int32.toInt_inj.mp q9))
        refine ec_aload_n hx hb dX9_mayHave_137 rfl (lv_at hl 2 rfl) ?_
        refine cw_word (k := 8) (kx := 8) hx hb hG hS (by decide) rfl ⟨by decide, by decide⟩ hown (htb _ kw_570) dX9_mayHave_138 ?_
        refine ec_acmp_ne (tgt := 148) hx hb dX9_mayHave_141 (by decide) (fun c_26 => ?_) (fun c_26 => ?_)
        · have wc_26 : ¬ w.toInt = (8 : Int) := fun q9 => c_26 (congrArg (er (ad 33)) (Int32.toInt_inj.mp q9))
          refine lv_iconst (v := 0) hx hb dX9_mayHave_148 (by decide) ?_
          exact hj149 0 hvx hvo hvw (iv_w (iv_k (by decide) : iv 0 0 0) (by decide)) (Or.inr ⟨rfl, (fun q9 => by have hkd : dKd D o.toNatClampNeg = 5 := KW_f hEV.1 (by unfold KW7; rw [show (gm 14 o.toNatClampNeg).toInt = (4 : Int) from (by rw [← ez_1]; exact swy 4 10 (by decide) (h_2) ez_3 c_22)]; decide); rw [hkd, MAY_5] at q9; have k_NAME := wkn (w := w) (x := 1851878757) (j := 21) (by decide) hvw (by have := wc_24; omega); have k_VALUE := wkn (w := w) (x := 508440638821) (j := 7) (by decide) hvw (by have := wc_25; omega); have k_REF := wkn (w := w) (x := 7497062) (j := 8) (by decide) hvw (by have := wc_26; omega); omega)⟩) _ _ _ hP hD hS (lv_sub hl [0, 1, 2] rfl)
        · have wc_26 : w.toInt = (8 : Int) := er_wd hG (iv_w hvw (by decide)) (iv_w (iv_k (by decide) : iv 8 8 8) (by decide)) c_26
          exact hj144 hvx hvo hvw ((by have hkd : dKd D o.toNatClampNeg = 5 := KW_f hEV.1 (by unfold KW7; rw [show (gm 14 o.toNatClampNeg).toInt = (4 : Int) from (by rw [← ez_1]; exact swy 4 10 (by decide) (h_2) ez_3 c_22)]; decide); rw [hkd, MAY_5]; have k_NAME := wkn (w := w) (x := 1851878757) (j := 21) (by decide) hvw (by have := wc_24; omega); have k_VALUE := wkn (w := w) (x := 508440638821) (j := 7) (by decide) hvw (by have := wc_25; omega); have k_REF := wkz (w := w) (j := 8) (x := 7497062) hvw (by have := wc_26; omega) (by decide); omega)) _ _ _ hP hD hS (lv_sub hl [0, 1, 2] rfl)
  by_cases c_27 : (z_3 : Int32).toInt = 11
  · refine lv_tableIn (tgt := 163) hx hb dX9_mayHave_11 (by rw [c_27]; decide) (by rw [c_27]; decide) (by rw [c_27]; rfl) (by decide) ?_
    have h_28 : iv 11 11 z_3 := iv_at c_27
    refine ec_aload_n hx hb dX9_mayHave_163 rfl (lv_at hl 2 rfl) ?_
    refine cw_word (k := 21) (kx := 21) hx hb hG hS (by decide) rfl ⟨by decide, by decide⟩ hown (htb _ kw_541) dX9_mayHave_164 ?_
    refine ec_acmp_eq (tgt := 177) hx hb dX9_mayHave_167 (by decide) (fun c_29 => ?_) (fun c_29 => ?_)
    · have wc_29 : w.toInt = (21 : Int) := er_wd hG (iv_w hvw (by decide)) (iv_w (iv_k (by decide) : iv 21 21 21) (by decide)) c_29
      exact hj177 hvx hvo hvw ((by have hkd : dKd D o.toNatClampNeg = 10 := KW_f hEV.1 (by unfold KW7; rw [show (gm 14 o.toNatClampNeg).toInt = (5 : Int) from (by rw [← ez_1]; exact swy 5 11 (by decide) (h_2) ez_3 c_27)]; decide); rw [hkd, MAY_10]; have k_NAME := wkz (w := w) (j := 21) (x := 1851878757) hvw (by have := wc_29; omega) (by decide); omega)) _ _ _ hP hD hS (lv_sub hl [0, 1, 2] rfl)
    · have wc_29 : ¬ w.toInt = (21 : Int) := fun q9 => c_29 (congrArg (er (ad 33)) (Int32.toInt_inj.mp q9))
      refine ec_aload_n hx hb dX9_mayHave_170 rfl (lv_at hl 2 rfl) ?_
      refine cw_word (k := 2) (kx := 2) hx hb hG hS (by decide) rfl ⟨by decide, by decide⟩ hown (htb _ kw_517) dX9_mayHave_171 ?_
      refine ec_acmp_ne (tgt := 181) hx hb dX9_mayHave_174 (by decide) (fun c_30 => ?_) (fun c_30 => ?_)
      · have wc_30 : ¬ w.toInt = (2 : Int) := fun q9 => c_30 (congrArg (er (ad 33)) (Int32.toInt_inj.mp q9))
        refine lv_iconst (v := 0) hx hb dX9_mayHave_181 (by decide) ?_
        exact hj182 0 hvx hvo hvw (iv_w (iv_k (by decide) : iv 0 0 0) (by decide)) (Or.inr ⟨rfl, (fun q9 => by have hkd : dKd D o.toNatClampNeg = 10 := KW_f hEV.1 (by unfold KW7; rw [show (gm 14 o.toNatClampNeg).toInt = (5 : Int) from (by rw [← ez_1]; exact swy 5 11 (by decide) (h_2) ez_3 c_27)]; decide); rw [hkd, MAY_10] at q9; have k_NAME := wkn (w := w) (x := 1851878757) (j := 21) (by decide) hvw (by have := wc_29; omega); have k_BEAN := wkn (w := w) (x := 1650811246) (j := 2) (by decide) hvw (by have := wc_30; omega); omega)⟩) _ _ _ hP hD hS (lv_sub hl [0, 1, 2] rfl)
      · have wc_30 : w.toInt = (2 : Int) := er_wd hG (iv_w hvw (by decide)) (iv_w (iv_k (by decide) : iv 2 2 2) (by decide)) c_30
        exact hj177 hvx hvo hvw ((by have hkd : dKd D o.toNatClampNeg = 10 := KW_f hEV.1 (by unfold KW7; rw [show (gm 14 o.toNatClampNeg).toInt = (5 : Int) from (by rw [← ez_1]; exact swy 5 11 (by decide) (h_2) ez_3 c_27)]; decide); rw [hkd, MAY_10]; have k_NAME := wkn (w := w) (x := 1851878757) (j := 21) (by decide) hvw (by have := wc_29; omega); have k_BEAN := wkz (w := w) (j := 2) (x := 1650811246) hvw (by have := wc_30; omega) (by decide); omega)) _ _ _ hP hD hS (lv_sub hl [0, 1, 2] rfl)
  by_cases c_31 : (z_3 : Int32).toInt = 12
  · refine lv_tableIn (tgt := 183) hx hb dX9_mayHave_11 (by rw [c_31]; decide) (by rw [c_31]; decide) (by rw [c_31]; rfl) (by decide) ?_
    have h_32 : iv 12 12 z_3 := iv_at c_31
    exact hj183 hvx hvo hvw ((fun q9 => by have hkd : dKd D o.toNatClampNeg = 6 := KW_f hEV.1 (by unfold KW7; rw [show (gm 14 o.toNatClampNeg).toInt = (6 : Int) from (by rw [← ez_1]; exact swy 6 12 (by decide) (h_2) ez_3 c_31)]; decide); rw [hkd, MAY_6] at q9; exact q9)) _ _ _ hP hD hS (lv_sub hl [0, 1, 2] rfl)
  by_cases c_33 : (z_3 : Int32).toInt = 13
  · refine lv_tableIn (tgt := 183) hx hb dX9_mayHave_11 (by rw [c_33]; decide) (by rw [c_33]; decide) (by rw [c_33]; rfl) (by decide) ?_
    have h_34 : iv 13 13 z_3 := iv_at c_33
    exact hj183 hvx hvo hvw ((fun q9 => by have hkd : dKd D o.toNatClampNeg = 7 := KW_f hEV.1 (by unfold KW7; rw [show (gm 14 o.toNatClampNeg).toInt = (7 : Int) from (by rw [← ez_1]; exact swy 7 13 (by decide) (h_2) ez_3 c_33)]; decide); rw [hkd, MAY_7] at q9; exact q9)) _ _ _ hP hD hS (lv_sub hl [0, 1, 2] rfl)
  by_cases c_35 : (z_3 : Int32).toInt = 14
  · refine lv_tableIn (tgt := 150) hx hb dX9_mayHave_11 (by rw [c_35]; decide) (by rw [c_35]; decide) (by rw [c_35]; rfl) (by decide) ?_
    have h_36 : iv 14 14 z_3 := iv_at c_35
    refine ec_aload_n hx hb dX9_mayHave_150 rfl (lv_at hl 2 rfl) ?_
    refine cw_word (k := 2) (kx := 2) hx hb hG hS (by decide) rfl ⟨by decide, by decide⟩ hown (htb _ kw_517) dX9_mayHave_151 ?_
    refine ec_acmp_ne (tgt := 161) hx hb dX9_mayHave_154 (by decide) (fun c_37 => ?_) (fun c_37 => ?_)
    · have wc_37 : ¬ w.toInt = (2 : Int) := fun q9 => c_37 (congrArg (er (ad 33)) (Int32.toInt_inj.mp q9))
      refine lv_iconst (v := 0) hx hb dX9_mayHave_161 (by decide) ?_
      exact hj162 0 hvx hvo hvw (iv_w (iv_k (by decide) : iv 0 0 0) (by decide)) (Or.inr ⟨rfl, (fun q9 => by have hkd : dKd D o.toNatClampNeg = 8 := KW_f hEV.1 (by unfold KW7; rw [show (gm 14 o.toNatClampNeg).toInt = (8 : Int) from (by rw [← ez_1]; exact swy 8 14 (by decide) (h_2) ez_3 c_35)]; decide); rw [hkd, MAY_8] at q9; have k_BEAN := wkn (w := w) (x := 1650811246) (j := 2) (by decide) hvw (by have := wc_37; omega); omega)⟩) _ _ _ hP hD hS (lv_sub hl [0, 1, 2] rfl)
    · have wc_37 : w.toInt = (2 : Int) := er_wd hG (iv_w hvw (by decide)) (iv_w (iv_k (by decide) : iv 2 2 2) (by decide)) c_37
      refine lv_iconst (v := 1) hx hb dX9_mayHave_157 (by decide) ?_
      refine lv_goto (tgt := 162) hx hb dX9_mayHave_158 (by decide) ?_
      exact hj162 1 hvx hvo hvw (iv_w (iv_k (by decide) : iv 1 1 1) (by decide)) (Or.inl ⟨rfl, (by have hkd : dKd D o.toNatClampNeg = 8 := KW_f hEV.1 (by unfold KW7; rw [show (gm 14 o.toNatClampNeg).toInt = (8 : Int) from (by rw [← ez_1]; exact swy 8 14 (by decide) (h_2) ez_3 c_35)]; decide); rw [hkd, MAY_8]; have k_BEAN := wkz (w := w) (j := 2) (x := 1650811246) hvw (by have := wc_37; omega) (by decide); omega)⟩) _ _ _ hP hD hS (lv_sub hl [0, 1, 2] rfl)
  refine lv_tableOut (tgt := 183) hx hb dX9_mayHave_11 (by have q1 := (hz_3).1; have q2 := (hz_3).2; omega) (by decide) ?_
  exact hj183 hvx hvo hvw ((fun q9 => by have n2 : ¬ dKd D o.toNatClampNeg = 2 := fun q8 => absurd (KW_j (q8 ▸ hEV.1 : KW7 (gm 14 o.toNatClampNeg).toInt 2) (by decide)) (by rw [show wkF 2 = 1 by decide]; have n9 := swx (y := z_1) 1 7 (by decide) (h_2) ez_3 (by omega); rw [ez_1] at n9; exact n9); have n3 : ¬ dKd D o.toNatClampNeg = 3 := fun q8 => absurd (KW_j (q8 ▸ hEV.1 : KW7 (gm 14 o.toNatClampNeg).toInt 3) (by decide)) (by rw [show wkF 3 = 2 by decide]; have n9 := swx (y := z_1) 2 8 (by decide) (h_2) ez_3 (by omega); rw [ez_1] at n9; exact n9); have n4 : ¬ dKd D o.toNatClampNeg = 4 := fun q8 => absurd (KW_j (q8 ▸ hEV.1 : KW7 (gm 14 o.toNatClampNeg).toInt 4) (by decide)) (by rw [show wkF 4 = 3 by decide]; have n9 := swx (y := z_1) 3 9 (by decide) (h_2) ez_3 (by omega); rw [ez_1] at n9; exact n9); have n5 : ¬ dKd D o.toNatClampNeg = 5 := fun q8 => absurd (KW_j (q8 ▸ hEV.1 : KW7 (gm 14 o.toNatClampNeg).toInt 5) (by decide)) (by rw [show wkF 5 = 4 by decide]; have n9 := swx (y := z_1) 4 10 (by decide) (h_2) ez_3 (by omega); rw [ez_1] at n9; exact n9); have n10 : ¬ dKd D o.toNatClampNeg = 10 := fun q8 => absurd (KW_j (q8 ▸ hEV.1 : KW7 (gm 14 o.toNatClampNeg).toInt 10) (by decide)) (by rw [show wkF 10 = 5 by decide]; have n9 := swx (y := z_1) 5 11 (by decide) (h_2) ez_3 (by omega); rw [ez_1] at n9; exact n9); have n8 : ¬ dKd D o.toNatClampNeg = 8 := fun q8 => absurd (KW_j (q8 ▸ hEV.1 : KW7 (gm 14 o.toNatClampNeg).toInt 8) (by decide)) (by rw [show wkF 8 = 8 by decide]; have n9 := swx (y := z_1) 8 14 (by decide) (h_2) ez_3 (by omega); rw [ez_1] at n9; exact n9); unfold MAY at q9; omega)) _ _ _ hP hD hS (lv_sub hl [0, 1, 2] rfl)
