section
set_option maxHeartbeats 4000000 in
set_option maxRecDepth 100000 in
theorem a_name (l : Launch) (dC : Nat → ClassId) (dI : Nat → Nat → Nat) (h0 : Nat) (ad : Nat → Nat) (cid : Nat → ClassId) (sg : Nat → Int32) (gm : Nat → Nat → Int32) (lg : Nat → Nat → Int64) (hI : MI sg gm) (hq : (sg 21).toInt ≤ (sg 20).toInt + 1) : MMl l dC dI yX13_name wm_X13_name ({ frames := 1, cells := 0, slots := 0, locals := 21 }) h0 ad cid [] sg gm lg (fun r v => ∃ (sg2 : Nat → Int32) (gm2 : Nat → Nat → Int32) (lg2 : Nat → Nat → Int64), v = (sg2, gm2, lg2) ∧ MI sg2 gm2 ∧ KS [21, 22, 23] sg sg2 ∧ KS [] gm gm2 ∧ KS [] lg lg2 ∧ ((sg 21).toInt ≤ (sg2 21).toInt) ∧ ((sg2 21).toInt ≤ (sg2 20).toInt + 1) ∧ ((sg 22).toInt ≤ (sg2 22).toInt) ∧ (1 ≤ (sg2 22).toInt ∨ 0 ≤ r.toInt)) := by
  intro sz
  refine Met.ofW (cc := cX13_name) (maxL := 4) (ret := (some .long)) (by decide) rfl ?_
  intro p e s m args below meth c s₁ B hml hv
  obtain ⟨rfl, hsz, hP, hK, hD0⟩ := hv
  have hx := B.exec
  have hb := B.bytes
  have hr := B.returns
  have hts := atoms_spec (ws := wm_X13_name) B.pre
  have htb := fun (w : Cond) (h : w ∈ tb) => hts w (List.mem_cons_of_mem _ h)
  have hown : s.vm.findClass RX13 = some m.cls := findClass_of_methodNamed B.named
  have hlocks := B.notSynchronized
  subst hsz
  have hD := hD0.self (sz := s.heap.size)
  generalize hAe : va_A (mW h0 ad cid sg gm lg) s.heap.size = A at hD ⊢
  have hA : ∀ q : Nat, s.heap.size ≤ q → A q := fun q h => by rw [← hAe]; exact Or.inr h
  have hS : va_S A s.heap s.heap [] := va_S.rf
  have hl := lv_entry ([.ref h0]) (n := 4) (Nat.le_of_ble_eq_true rfl)
  rw [lg_entry_eq]
  generalize (lg_sl ([.ref h0]) ++ List.replicate (4 - (lg_sl ([.ref h0])).length) Slot.unset).toArray = ls at hl ⊢
  have hl : lv_has ls 4 [(0, .ref h0)] := hl
  have hj77 : ∀ (sg_j77 : Nat → Int32) (x3_77 : Int32) (x1_77 : Int64) (_ : iv 0 9 x3_77) (_ : KS [21, 22, 23] sg sg_j77) (_ : MI sg_j77 gm) (_ : 1 ≤ (sg_j77 22).toInt ∨ NB x1_77 x3_77) (_ : (sg_j77 21).toInt ≤ (sg_j77 20).toInt + 1) (_ : (sg 21).toInt ≤ (sg_j77 21).toInt) (_ : (sg 22).toInt ≤ (sg_j77 22).toInt) (H : Heap) (locs : List Loc) (ls : Array Slot), va_P (dC, dI) vwCl (mW h0 ad cid sg_j77 gm lg) H → va_D A (mW h0 ad cid sg_j77 gm lg) → va_S A s.heap H locs → lv_has ls 4 [(3, .int x3_77), (1, .long x1_77), (0, .ref h0)] → W p l e (headSpec wm_X13_name ({ frames := 1, cells := 0, slots := 0, locals := 21 })).room s m ([.ref h0] : List Value).toArray below meth c H locs 0 0 (MQ below (va_Ql (fun r v => ∃ (sg2 : Nat → Int32) (gm2 : Nat → Nat → Int32) (lg2 : Nat → Nat → Int64), v = (sg2, gm2, lg2) ∧ MI sg2 gm2 ∧ KS [21, 22, 23] sg sg2 ∧ KS [] gm gm2 ∧ KS [] lg lg2 ∧ ((sg 21).toInt ≤ (sg2 21).toInt) ∧ ((sg2 21).toInt ≤ (sg2 20).toInt + 1) ∧ ((sg 22).toInt ≤ (sg2 22).toInt) ∧ (1 ≤ (sg2 22).toInt ∨ 0 ≤ r.toInt)) (MB dC dI h0 ad cid A) A) ([.ref h0] : List Value).toArray s 0 0 A) (F0 m 77 ls []) := by
    intro sg_j77 x3_77 x1_77 hx3_77 hks_j77 hI_j77 hv hq hm hf H locs ls hP hD hS hl
    refine lv_lload_n hx hb dX13_name_77 rfl (lv_at hl 1 rfl) ?_
    exact W.lret (v := x1_77) hx hb hr (fun t ht hW => ⟨⟨x1_77, (sg_j77, gm, lg), rfl, ⟨sg_j77, gm, lg, rfl, hI_j77, (KS_tr (L := [21, 22, 23]) KS_rf hks_j77 (by decide)), KS_rf, KS_rf, (by have := i32_0; have := i32_1; have := i32_2; have := i32_m1; have := congrArg Int32.toInt (show sg_j77 20 = sg 20 from hks_j77 20 (by decide)); have := (show iv 0 1200 (sg 20) from MI_s hI 20).1; have := (show iv 0 1200 (sg 20) from MI_s hI 20).2; have := (show iv 0 1201 (sg_j77 21) from MI_s hI_j77 21).1; have := (show iv 0 1201 (sg_j77 21) from MI_s hI_j77 21).2; have := (show iv 0 1201 (sg 21) from MI_s hI 21).1; have := (show iv 0 1201 (sg 21) from MI_s hI 21).2; have := (show iv 0 3 (sg_j77 22) from MI_s hI_j77 22).1; have := (show iv 0 3 (sg_j77 22) from MI_s hI_j77 22).2; have := (show iv 0 3 (sg 22) from MI_s hI 22).1; have := (show iv 0 3 (sg 22) from MI_s hI 22).2; have := (hx3_77).1; have := (hx3_77).2; omega), (by have := i32_0; have := i32_1; have := i32_2; have := i32_m1; have := congrArg Int32.toInt (show sg_j77 20 = sg 20 from hks_j77 20 (by decide)); have := (show iv 0 1200 (sg 20) from MI_s hI 20).1; have := (show iv 0 1200 (sg 20) from MI_s hI 20).2; have := (show iv 0 1201 (sg_j77 21) from MI_s hI_j77 21).1; have := (show iv 0 1201 (sg_j77 21) from MI_s hI_j77 21).2; have := (show iv 0 1201 (sg 21) from MI_s hI 21).1; have := (show iv 0 1201 (sg 21) from MI_s hI 21).2; have := (show iv 0 3 (sg_j77 22) from MI_s hI_j77 22).1; have := (show iv 0 3 (sg_j77 22) from MI_s hI_j77 22).2; have := (show iv 0 3 (sg 22) from MI_s hI 22).1; have := (show iv 0 3 (sg 22) from MI_s hI 22).2; have := (hx3_77).1; have := (hx3_77).2; omega), (by have := i32_0; have := i32_1; have := i32_2; have := i32_m1; have := congrArg Int32.toInt (show sg_j77 20 = sg 20 from hks_j77 20 (by decide)); have := (show iv 0 1200 (sg 20) from MI_s hI 20).1; have := (show iv 0 1200 (sg 20) from MI_s hI 20).2; have := (show iv 0 1201 (sg_j77 21) from MI_s hI_j77 21).1; have := (show iv 0 1201 (sg_j77 21) from MI_s hI_j77 21).2; have := (show iv 0 1201 (sg 21) from MI_s hI 21).1; have := (show iv 0 1201 (sg 21) from MI_s hI 21).2; have := (show iv 0 3 (sg_j77 22) from MI_s hI_j77 22).1; have := (show iv 0 3 (sg_j77 22) from MI_s hI_j77 22).2; have := (show iv 0 3 (sg 22) from MI_s hI 22).1; have := (show iv 0 3 (sg 22) from MI_s hI 22).2; have := (hx3_77).1; have := (hx3_77).2; omega), (hv.imp (fun hv9 => by have := i32_0; have := i32_1; have := i32_2; have := i32_m1; have := congrArg Int32.toInt (show sg_j77 20 = sg 20 from hks_j77 20 (by decide)); have := (show iv 0 1200 (sg 20) from MI_s hI 20).1; have := (show iv 0 1200 (sg 20) from MI_s hI 20).2; have := (show iv 0 1201 (sg_j77 21) from MI_s hI_j77 21).1; have := (show iv 0 1201 (sg_j77 21) from MI_s hI_j77 21).2; have := (show iv 0 1201 (sg 21) from MI_s hI 21).1; have := (show iv 0 1201 (sg 21) from MI_s hI 21).2; have := (show iv 0 3 (sg_j77 22) from MI_s hI_j77 22).1; have := (show iv 0 3 (sg_j77 22) from MI_s hI_j77 22).2; have := (show iv 0 3 (sg 22) from MI_s hI 22).1; have := (show iv 0 3 (sg 22) from MI_s hI 22).2; have := (hx3_77).1; have := (hx3_77).2; omega) (fun hv9 => hv9.1.1))⟩, by rw [ht]; exact hP, va_K.moved hW.alike hK, hD⟩, hS.F ht⟩) hS.2.2 dX13_name_78
  have hj65 : ∀ (sg_j65 : Nat → Int32) (x3_65 : Int32) (x1_65 : Int64) (_ : iv 0 9 x3_65) (_ : KS [21, 22, 23] sg sg_j65) (_ : MI sg_j65 gm) (_ : 1 ≤ (sg_j65 22).toInt ∨ NB x1_65 x3_65) (_ : (sg_j65 21).toInt ≤ (sg_j65 20).toInt + 1) (_ : (sg 21).toInt ≤ (sg_j65 21).toInt) (_ : (sg 22).toInt ≤ (sg_j65 22).toInt) (H : Heap) (locs : List Loc) (ls : Array Slot), va_P (dC, dI) vwCl (mW h0 ad cid sg_j65 gm lg) H → va_D A (mW h0 ad cid sg_j65 gm lg) → va_S A s.heap H locs → lv_has ls 4 [(3, .int x3_65), (1, .long x1_65), (0, .ref h0)] → W p l e (headSpec wm_X13_name ({ frames := 1, cells := 0, slots := 0, locals := 21 })).room s m ([.ref h0] : List Value).toArray below meth c H locs 0 0 (MQ below (va_Ql (fun r v => ∃ (sg2 : Nat → Int32) (gm2 : Nat → Nat → Int32) (lg2 : Nat → Nat → Int64), v = (sg2, gm2, lg2) ∧ MI sg2 gm2 ∧ KS [21, 22, 23] sg sg2 ∧ KS [] gm gm2 ∧ KS [] lg lg2 ∧ ((sg 21).toInt ≤ (sg2 21).toInt) ∧ ((sg2 21).toInt ≤ (sg2 20).toInt + 1) ∧ ((sg 22).toInt ≤ (sg2 22).toInt) ∧ (1 ≤ (sg2 22).toInt ∨ 0 ≤ r.toInt)) (MB dC dI h0 ad cid A) A) ([.ref h0] : List Value).toArray s 0 0 A) (F0 m 65 ls []) := by
    intro sg_j65 x3_65 x1_65 hx3_65 hks_j65 hI_j65 hv hq hm hf H locs ls hP hD hS hl
    refine lv_iload_n hx hb dX13_name_65 rfl (lv_at hl 0 rfl) ?_
    refine lv_if_ne (tgt := 77) hx hb dX13_name_66 (by decide) (fun c_1 => ?_) (fun c_1 => ?_)
    · have h_2 : iv 1 9 x3_65 := iv_neL c_1 hx3_65 (by decide)
      exact hj77 sg_j65 x3_65 x1_65 (iv_w h_2 (by decide)) (KS_tr (L := [21, 22, 23]) KS_rf hks_j65 (by decide)) hI_j65 (hv.imp (fun hv9 => by have := i32_0; have := i32_1; have := i32_2; have := i32_m1; have := congrArg Int32.toInt (show sg_j65 20 = sg 20 from hks_j65 20 (by decide)); have := (show iv 0 1200 (sg 20) from MI_s hI 20).1; have := (show iv 0 1200 (sg 20) from MI_s hI 20).2; have := (show iv 0 1201 (sg_j65 21) from MI_s hI_j65 21).1; have := (show iv 0 1201 (sg_j65 21) from MI_s hI_j65 21).2; have := (show iv 0 1201 (sg 21) from MI_s hI 21).1; have := (show iv 0 1201 (sg 21) from MI_s hI 21).2; have := (show iv 0 3 (sg_j65 22) from MI_s hI_j65 22).1; have := (show iv 0 3 (sg_j65 22) from MI_s hI_j65 22).2; have := (show iv 0 3 (sg 22) from MI_s hI 22).1; have := (show iv 0 3 (sg 22) from MI_s hI 22).2; have := (h_2).1; have := (h_2).2; omega) id) (by have := i32_0; have := i32_1; have := i32_2; have := i32_m1; have := congrArg Int32.toInt (show sg_j65 20 = sg 20 from hks_j65 20 (by decide)); have := (show iv 0 1200 (sg 20) from MI_s hI 20).1; have := (show iv 0 1200 (sg 20) from MI_s hI 20).2; have := (show iv 0 1201 (sg_j65 21) from MI_s hI_j65 21).1; have := (show iv 0 1201 (sg_j65 21) from MI_s hI_j65 21).2; have := (show iv 0 1201 (sg 21) from MI_s hI 21).1; have := (show iv 0 1201 (sg 21) from MI_s hI 21).2; have := (show iv 0 3 (sg_j65 22) from MI_s hI_j65 22).1; have := (show iv 0 3 (sg_j65 22) from MI_s hI_j65 22).2; have := (show iv 0 3 (sg 22) from MI_s hI 22).1; have := (show iv 0 3 (sg 22) from MI_s hI 22).2; have := (h_2).1; have := (h_2).2; omega) (by have := i32_0; have := i32_1; have := i32_2; have := i32_m1; have := congrArg Int32.toInt (show sg_j65 20 = sg 20 from hks_j65 20 (by decide)); have := (show iv 0 1200 (sg 20) from MI_s hI 20).1; have := (show iv 0 1200 (sg 20) from MI_s hI 20).2; have := (show iv 0 1201 (sg_j65 21) from MI_s hI_j65 21).1; have := (show iv 0 1201 (sg_j65 21) from MI_s hI_j65 21).2; have := (show iv 0 1201 (sg 21) from MI_s hI 21).1; have := (show iv 0 1201 (sg 21) from MI_s hI 21).2; have := (show iv 0 3 (sg_j65 22) from MI_s hI_j65 22).1; have := (show iv 0 3 (sg_j65 22) from MI_s hI_j65 22).2; have := (show iv 0 3 (sg 22) from MI_s hI 22).1; have := (show iv 0 3 (sg 22) from MI_s hI 22).2; have := (h_2).1; have := (h_2).2; omega) (by have := i32_0; have := i32_1; have := i32_2; have := i32_m1; have := congrArg Int32.toInt (show sg_j65 20 = sg 20 from hks_j65 20 (by decide)); have := (show iv 0 1200 (sg 20) from MI_s hI 20).1; have := (show iv 0 1200 (sg 20) from MI_s hI 20).2; have := (show iv 0 1201 (sg_j65 21) from MI_s hI_j65 21).1; have := (show iv 0 1201 (sg_j65 21) from MI_s hI_j65 21).2; have := (show iv 0 1201 (sg 21) from MI_s hI 21).1; have := (show iv 0 1201 (sg 21) from MI_s hI 21).2; have := (show iv 0 3 (sg_j65 22) from MI_s hI_j65 22).1; have := (show iv 0 3 (sg_j65 22) from MI_s hI_j65 22).2; have := (show iv 0 3 (sg 22) from MI_s hI 22).1; have := (show iv 0 3 (sg 22) from MI_s hI 22).2; have := (h_2).1; have := (h_2).2; omega) _ _ _ hP hD hS (lv_sub hl [0, 1, 2] rfl)
    · have h_3 : iv 0 0 x3_65 := iv_eq c_1 hx3_65 (iv_k (by decide) : iv 0 0 0) (by decide)
      refine lv_aload_n hx hb dX13_name_69 rfl (lv_at hl 2 rfl) ?_
      refine lv_aload_n hx hb dX13_name_70 rfl (lv_at hl 2 rfl) ?_
      refine mr_get (v := .int (sg_j65 21)) hx hb htb inX13 hown hK hP 21 (by decide) (htb _ kw_814) rfl dX13_name_71 ?_
      refine mr_callv (rest := []) ⟨hx, hb, hml, hown, htb⟩ (a_bad2 l dC dI h0 ad cid sg_j65 gm lg (sg_j65 21) hI_j65) (cwV 1 htb (gd_V kw_847 kw_848 kw_849 kw_5 kw_1526) rfl rfl rfl (by decide +kernel) ⟨Nat.le_of_ble_eq_true rfl, Nat.le_of_ble_eq_true rfl⟩) rfl hl.1 rfl (Nat.le_of_ble_eq_true rfl) dX13_name_74 ⟨Nat.zero_le _, Nat.zero_le _⟩ hK hP hD hS hA (fun u_5 H locs hw hP hD hS => ?_)
      obtain ⟨sgv_6, gmv_6, lgv_6, rfl, hIv_6, ksv_6, kgv_6, klv_6, fb_r_4, ff_r_4⟩ := hw
      obtain rfl := KS_nil kgv_6
      obtain rfl := KS_nil klv_6
      have hP : va_P (dC, dI) vwCl (mW h0 ad cid sgv_6 gm lg) H := hP
      have hD : va_D A (mW h0 ad cid sgv_6 gm lg) := hD
      exact hj77 sgv_6 x3_65 x1_65 (iv_w h_3 (by decide)) (KS_tr (L := [21, 22, 23]) (KS_tr (L := [21, 22, 23]) KS_rf hks_j65 (by decide)) ksv_6 (by decide)) hIv_6 (hv.imp (fun hv9 => by have := i32_0; have := i32_1; have := i32_2; have := i32_m1; have := congrArg Int32.toInt (show sgv_6 20 = sg_j65 20 from ksv_6 20 (by decide)); have := congrArg Int32.toInt (show sg_j65 20 = sg 20 from hks_j65 20 (by decide)); have := (show iv 0 1200 (sg 20) from MI_s hI 20).1; have := (show iv 0 1200 (sg 20) from MI_s hI 20).2; have := congrArg Int32.toInt (show sgv_6 21 = sg_j65 21 from ksv_6 21 (by decide)); have := (show iv 0 1201 (sg_j65 21) from MI_s hI_j65 21).1; have := (show iv 0 1201 (sg_j65 21) from MI_s hI_j65 21).2; have := (show iv 0 1201 (sg 21) from MI_s hI 21).1; have := (show iv 0 1201 (sg 21) from MI_s hI 21).2; have := (show iv 0 3 (sgv_6 22) from MI_s hIv_6 22).1; have := (show iv 0 3 (sgv_6 22) from MI_s hIv_6 22).2; have := (show iv 0 3 (sg_j65 22) from MI_s hI_j65 22).1; have := (show iv 0 3 (sg_j65 22) from MI_s hI_j65 22).2; have := (show iv 0 3 (sg 22) from MI_s hI 22).1; have := (show iv 0 3 (sg 22) from MI_s hI 22).2; have := (h_3).1; have := (h_3).2; have := ((show iv 0 1201 (sg_j65 21) from MI_s hI_j65 21)).1; have := ((show iv 0 1201 (sg_j65 21) from MI_s hI_j65 21)).2; omega) id) (by have := i32_0; have := i32_1; have := i32_2; have := i32_m1; have := congrArg Int32.toInt (show sgv_6 20 = sg_j65 20 from ksv_6 20 (by decide)); have := congrArg Int32.toInt (show sg_j65 20 = sg 20 from hks_j65 20 (by decide)); have := (show iv 0 1200 (sg 20) from MI_s hI 20).1; have := (show iv 0 1200 (sg 20) from MI_s hI 20).2; have := congrArg Int32.toInt (show sgv_6 21 = sg_j65 21 from ksv_6 21 (by decide)); have := (show iv 0 1201 (sg_j65 21) from MI_s hI_j65 21).1; have := (show iv 0 1201 (sg_j65 21) from MI_s hI_j65 21).2; have := (show iv 0 1201 (sg 21) from MI_s hI 21).1; have := (show iv 0 1201 (sg 21) from MI_s hI 21).2; have := (show iv 0 3 (sgv_6 22) from MI_s hIv_6 22).1; have := (show iv 0 3 (sgv_6 22) from MI_s hIv_6 22).2; have := (show iv 0 3 (sg_j65 22) from MI_s hI_j65 22).1; have := (show iv 0 3 (sg_j65 22) from MI_s hI_j65 22).2; have := (show iv 0 3 (sg 22) from MI_s hI 22).1; have := (show iv 0 3 (sg 22) from MI_s hI 22).2; have := (h_3).1; have := (h_3).2; have := ((show iv 0 1201 (sg_j65 21) from MI_s hI_j65 21)).1; have := ((show iv 0 1201 (sg_j65 21) from MI_s hI_j65 21)).2; omega) (by have := i32_0; have := i32_1; have := i32_2; have := i32_m1; have := congrArg Int32.toInt (show sgv_6 20 = sg_j65 20 from ksv_6 20 (by decide)); have := congrArg Int32.toInt (show sg_j65 20 = sg 20 from hks_j65 20 (by decide)); have := (show iv 0 1200 (sg 20) from MI_s hI 20).1; have := (show iv 0 1200 (sg 20) from MI_s hI 20).2; have := congrArg Int32.toInt (show sgv_6 21 = sg_j65 21 from ksv_6 21 (by decide)); have := (show iv 0 1201 (sg_j65 21) from MI_s hI_j65 21).1; have := (show iv 0 1201 (sg_j65 21) from MI_s hI_j65 21).2; have := (show iv 0 1201 (sg 21) from MI_s hI 21).1; have := (show iv 0 1201 (sg 21) from MI_s hI 21).2; have := (show iv 0 3 (sgv_6 22) from MI_s hIv_6 22).1; have := (show iv 0 3 (sgv_6 22) from MI_s hIv_6 22).2; have := (show iv 0 3 (sg_j65 22) from MI_s hI_j65 22).1; have := (show iv 0 3 (sg_j65 22) from MI_s hI_j65 22).2; have := (show iv 0 3 (sg 22) from MI_s hI 22).1; have := (show iv 0 3 (sg 22) from MI_s hI 22).2; have := (h_3).1; have := (h_3).2; have := ((show iv 0 1201 (sg_j65 21) from MI_s hI_j65 21)).1; have := ((show iv 0 1201 (sg_j65 21) from MI_s hI_j65 21)).2; omega) (by have := i32_0; have := i32_1; have := i32_2; have := i32_m1; have := congrArg Int32.toInt (show sgv_6 20 = sg_j65 20 from ksv_6 20 (by decide)); have := congrArg Int32.toInt (show sg_j65 20 = sg 20 from hks_j65 20 (by decide)); have := (show iv 0 1200 (sg 20) from MI_s hI 20).1; have := (show iv 0 1200 (sg 20) from MI_s hI 20).2; have := congrArg Int32.toInt (show sgv_6 21 = sg_j65 21 from ksv_6 21 (by decide)); have := (show iv 0 1201 (sg_j65 21) from MI_s hI_j65 21).1; have := (show iv 0 1201 (sg_j65 21) from MI_s hI_j65 21).2; have := (show iv 0 1201 (sg 21) from MI_s hI 21).1; have := (show iv 0 1201 (sg 21) from MI_s hI 21).2; have := (show iv 0 3 (sgv_6 22) from MI_s hIv_6 22).1; have := (show iv 0 3 (sgv_6 22) from MI_s hIv_6 22).2; have := (show iv 0 3 (sg_j65 22) from MI_s hI_j65 22).1; have := (show iv 0 3 (sg_j65 22) from MI_s hI_j65 22).2; have := (show iv 0 3 (sg 22) from MI_s hI 22).1; have := (show iv 0 3 (sg 22) from MI_s hI 22).2; have := (h_3).1; have := (h_3).2; have := ((show iv 0 1201 (sg_j65 21) from MI_s hI_j65 21)).1; have := ((show iv 0 1201 (sg_j65 21) from MI_s hI_j65 21)).2; omega) _ _ _ hP hD hS (lv_sub hl [0, 1, 2] rfl)
  have hj4 : ∀ (n : Nat) (sg_j4 : Nat → Int32) (x3_4 : Int32) (x1_4 : Int64) (_ : ((1202 - (sg_j4 21).toInt) + (3 - (sg_j4 22).toInt)).toNat = n) (_ : iv 0 9 x3_4) (_ : KS [21, 22, 23] sg sg_j4) (_ : MI sg_j4 gm) (_ : 1 ≤ (sg_j4 22).toInt ∨ NB x1_4 x3_4) (_ : x3_4.toInt ≤ 8 ∨ 1 ≤ (sg_j4 22).toInt) (_ : (sg_j4 21).toInt ≤ (sg_j4 20).toInt + 1) (_ : (sg 21).toInt ≤ (sg_j4 21).toInt) (_ : (sg 22).toInt ≤ (sg_j4 22).toInt) (H : Heap) (locs : List Loc) (ls : Array Slot), va_P (dC, dI) vwCl (mW h0 ad cid sg_j4 gm lg) H → va_D A (mW h0 ad cid sg_j4 gm lg) → va_S A s.heap H locs → lv_has ls 4 [(3, .int x3_4), (1, .long x1_4), (0, .ref h0)] → W p l e (headSpec wm_X13_name ({ frames := 1, cells := 0, slots := 0, locals := 21 })).room s m ([.ref h0] : List Value).toArray below meth c H locs 0 0 (MQ below (va_Ql (fun r v => ∃ (sg2 : Nat → Int32) (gm2 : Nat → Nat → Int32) (lg2 : Nat → Nat → Int64), v = (sg2, gm2, lg2) ∧ MI sg2 gm2 ∧ KS [21, 22, 23] sg sg2 ∧ KS [] gm gm2 ∧ KS [] lg lg2 ∧ ((sg 21).toInt ≤ (sg2 21).toInt) ∧ ((sg2 21).toInt ≤ (sg2 20).toInt + 1) ∧ ((sg 22).toInt ≤ (sg2 22).toInt) ∧ (1 ≤ (sg2 22).toInt ∨ 0 ≤ r.toInt)) (MB dC dI h0 ad cid A) A) ([.ref h0] : List Value).toArray s 0 0 A) (F0 m 4 ls []) := by
    intro n
    induction n using Nat.strongRecOn with
    | ind n ih4 =>
      intro sg_j4 x3_4 x1_4 hn4 hx3_4 hks_j4 hI_j4 hv h8 hq hm hf H locs ls hP hD hS hl
      have hj37 : ∀ (sg_j37 : Nat → Int32) (_ : iv 0 9 x3_4) (_ : KS [21, 22, 23] sg sg_j37) (_ : MI sg_j37 gm) (_ : (sg_j37 21).toInt < (sg_j37 20).toInt) (_ : 1 ≤ (sg_j37 22).toInt ∨ (NB x1_4 x3_4 ∧ x3_4.toInt ≤ 7)) (_ : x3_4.toInt ≤ 8) (_ : (sg_j37 21).toInt ≤ (sg_j37 20).toInt + 1) (_ : (sg 21).toInt ≤ (sg_j37 21).toInt) (_ : (sg 22).toInt ≤ (sg_j37 22).toInt) (_ : (sg_j4 21).toInt ≤ (sg_j37 21).toInt) (_ : (sg_j4 22).toInt ≤ (sg_j37 22).toInt) (H : Heap) (locs : List Loc) (ls : Array Slot), va_P (dC, dI) vwCl (mW h0 ad cid sg_j37 gm lg) H → va_D A (mW h0 ad cid sg_j37 gm lg) → va_S A s.heap H locs → lv_has ls 4 [(3, .int x3_4), (1, .long x1_4), (0, .ref h0)] → W p l e (headSpec wm_X13_name ({ frames := 1, cells := 0, slots := 0, locals := 21 })).room s m ([.ref h0] : List Value).toArray below meth c H locs 0 0 (MQ below (va_Ql (fun r v => ∃ (sg2 : Nat → Int32) (gm2 : Nat → Nat → Int32) (lg2 : Nat → Nat → Int64), v = (sg2, gm2, lg2) ∧ MI sg2 gm2 ∧ KS [21, 22, 23] sg sg2 ∧ KS [] gm gm2 ∧ KS [] lg lg2 ∧ ((sg 21).toInt ≤ (sg2 21).toInt) ∧ ((sg2 21).toInt ≤ (sg2 20).toInt + 1) ∧ ((sg 22).toInt ≤ (sg2 22).toInt) ∧ (1 ≤ (sg2 22).toInt ∨ 0 ≤ r.toInt)) (MB dC dI h0 ad cid A) A) ([.ref h0] : List Value).toArray s 0 0 A) (F0 m 37 ls []) := by
        intro sg_j37 hsx3_37 hks_j37 hI_j37 hl5 hv h8 hq hm hf hlm4 hlf4 H locs ls hP hD hS hl
        refine lv_lload_n hx hb dX13_name_37 rfl (lv_at hl 1 rfl) ?_
        refine lv_bipush (v := 8) hx hb dX13_name_38 (by decide) ?_
        refine lv_lshl (v := x1_4 <<< ((8 : Int32).toInt64 &&& 63)) hx hb dX13_name_40 rfl ?_
        refine lv_topl (fun z_7 ez_7 => ?_)
        refine lv_aload_n hx hb dX13_name_41 rfl (lv_at hl 2 rfl) ?_
        refine lv_iconst (v := 0) hx hb dX13_name_42 (by decide) ?_
        refine mr_calli (rest := [.long z_7]) ⟨hx, hb, hml, hown, htb⟩ (a_here l dC dI h0 ad cid sg_j37 gm lg 0 hI_j37 (iv_w (iv_k (by decide) : iv 0 0 0) (by decide))) (cwV 1 htb (gd_V kw_835 kw_836 kw_837 kw_5 kw_1522) rfl rfl rfl (by decide +kernel) ⟨Nat.le_of_ble_eq_true rfl, Nat.le_of_ble_eq_true rfl⟩) rfl hl.1 rfl (Nat.le_of_ble_eq_true rfl) dX13_name_43 ⟨Nat.zero_le _, Nat.zero_le _⟩ hK hP hD hS hA (fun r_8 u_9 H locs hw hP hD hS => ?_)
        obtain ⟨hr_8, hw_r_8, hn_r_8, rfl⟩ := hw
        have hP : va_P (dC, dI) vwCl (mW h0 ad cid sg_j37 gm lg) H := hP
        have hD : va_D A (mW h0 ad cid sg_j37 gm lg) := hD
        refine lv_i2l (v := (r_8 : Int32).toInt64) hx hb dX13_name_46 rfl ?_
        refine lv_topl (fun z_10 ez_10 => ?_)
        refine lv_lor hx hb dX13_name_47 ?_
        refine lv_topl (fun z_11 ez_11 => ?_)
        refine lv_lstore_n (lv' := [(1, .long z_11), (3, .int x3_4), (0, .ref h0)]) hx hb dX13_name_48 rfl hl (by decide) rfl (fun ls hl => ?_)
        have h_12 : iv 0 8 x3_4 := ⟨(hsx3_37).1, h8⟩
        obtain ⟨z_13, ez_13⟩ : ∃ z : Int32, z = x3_4 + 1 := ⟨_, rfl⟩
        have hz_13 : iv 1 9 z_13 := iv_of ez_13 (iv_add h_12 (iv_k (by decide) : iv 1 1 1) (by decide))
        have tz_13 : z_13.toInt = x3_4.toInt + 1 := by rw [ez_13]; exact iv_addE h_12 (iv_k (by decide) : iv 1 1 1) (by decide)
        refine lv_iinc (v := z_13) (lv' := [(3, .int z_13), (1, .long z_11), (0, .ref h0)]) hx hb dX13_name_49 hl (k := 1) rfl ez_13.symm (by decide) rfl (fun ls hl => ?_)
        refine lv_aload_n hx hb dX13_name_52 rfl (lv_at hl 2 rfl) ?_
        refine lv_dup hx hb dX13_name_53 rfl ?_
        refine mr_get (v := .int (sg_j37 21)) hx hb htb inX13 hown hK hP 21 (by decide) (htb _ kw_814) rfl dX13_name_54 ?_
        refine lv_iconst (v := 1) hx hb dX13_name_57 (by decide) ?_
        refine lv_iadd hx hb dX13_name_58 ?_
        refine lv_topi (fun z_14 ez_14 => ?_)
        have hz_14 : iv 1 1202 z_14 := iv_of ez_14 (iv_add (show iv 0 1201 (sg_j37 21) from MI_s hI_j37 21) (iv_k (by decide) : iv 1 1 1) (by decide))
        have tz_14 : z_14.toInt = ((sg_j37 21) : Int32).toInt + 1 := by rw [ez_14]; exact iv_addE (show iv 0 1201 (sg_j37 21) from MI_s hI_j37 21) (iv_k (by decide) : iv 1 1 1) (by decide)
        refine ma_put (x := z_14) hx hb htb inX13 hown hK hP hD hS 21 (by decide) (by decide) (htb _ kw_814) rfl rfl rfl dX13_name_59 (fun sg_15 H locs esg_15 hP hD hS => ?_)
        have h_16 : iv 0 1201 z_14 := ⟨by have := i32_0; have := i32_1; have := i32_2; have := i32_m1; have := congrArg Int32.toInt (show sg_j37 20 = sg 20 from hks_j37 20 (by decide)); have := (show iv 0 1200 (sg 20) from MI_s hI 20).1; have := (show iv 0 1200 (sg 20) from MI_s hI 20).2; have := (show iv 0 1201 (sg_j37 21) from MI_s hI_j37 21).1; have := (show iv 0 1201 (sg_j37 21) from MI_s hI_j37 21).2; have := (show iv 0 1201 (sg 21) from MI_s hI 21).1; have := (show iv 0 1201 (sg 21) from MI_s hI 21).2; have := (show iv 0 3 (sg_j37 22) from MI_s hI_j37 22).1; have := (show iv 0 3 (sg_j37 22) from MI_s hI_j37 22).2; have := (show iv 0 3 (sg 22) from MI_s hI 22).1; have := (show iv 0 3 (sg 22) from MI_s hI 22).2; have := congrArg Int32.toInt (show sg_j4 20 = sg 20 from hks_j4 20 (by decide)); have := (show iv 0 1201 (sg_j4 21) from MI_s hI_j4 21).1; have := (show iv 0 1201 (sg_j4 21) from MI_s hI_j4 21).2; have := (show iv 0 3 (sg_j4 22) from MI_s hI_j4 22).1; have := (show iv 0 3 (sg_j4 22) from MI_s hI_j4 22).2; have := (h_12).1; have := (h_12).2; have := (hr_8).1; have := (hr_8).2; have := (hz_13).1; have := (hz_13).2; have := ((show iv 0 1201 (sg_j37 21) from MI_s hI_j37 21)).1; have := ((show iv 0 1201 (sg_j37 21) from MI_s hI_j37 21)).2; have := (hz_14).1; have := (hz_14).2; omega, by have := i32_0; have := i32_1; have := i32_2; have := i32_m1; have := congrArg Int32.toInt (show sg_j37 20 = sg 20 from hks_j37 20 (by decide)); have := (show iv 0 1200 (sg 20) from MI_s hI 20).1; have := (show iv 0 1200 (sg 20) from MI_s hI 20).2; have := (show iv 0 1201 (sg_j37 21) from MI_s hI_j37 21).1; have := (show iv 0 1201 (sg_j37 21) from MI_s hI_j37 21).2; have := (show iv 0 1201 (sg 21) from MI_s hI 21).1; have := (show iv 0 1201 (sg 21) from MI_s hI 21).2; have := (show iv 0 3 (sg_j37 22) from MI_s hI_j37 22).1; have := (show iv 0 3 (sg_j37 22) from MI_s hI_j37 22).2; have := (show iv 0 3 (sg 22) from MI_s hI 22).1; have := (show iv 0 3 (sg 22) from MI_s hI 22).2; have := congrArg Int32.toInt (show sg_j4 20 = sg 20 from hks_j4 20 (by decide)); have := (show iv 0 1201 (sg_j4 21) from MI_s hI_j4 21).1; have := (show iv 0 1201 (sg_j4 21) from MI_s hI_j4 21).2; have := (show iv 0 3 (sg_j4 22) from MI_s hI_j4 22).1; have := (show iv 0 3 (sg_j4 22) from MI_s hI_j4 22).2; have := (h_12).1; have := (h_12).2; have := (hr_8).1; have := (hr_8).2; have := (hz_13).1; have := (hz_13).2; have := ((show iv 0 1201 (sg_j37 21) from MI_s hI_j37 21)).1; have := ((show iv 0 1201 (sg_j37 21) from MI_s hI_j37 21)).2; have := (hz_14).1; have := (hz_14).2; omega⟩
        have hI_sg_15 := MI_put hI_j37 esg_15 h_16 (by decide)
        refine lv_goto (tgt := 4) hx hb dX13_name_62 (by decide) ?_
        exact ih4 _ (by rw [← hn4]; exact (by have := i32_0; have := i32_1; have := i32_2; have := i32_m1; have := congrArg Int32.toInt (show sg_15 20 = sg_j37 20 from up_ne esg_15 (by decide)); have := congrArg Int32.toInt (show sg_j37 20 = sg 20 from hks_j37 20 (by decide)); have := (show iv 0 1200 (sg 20) from MI_s hI 20).1; have := (show iv 0 1200 (sg 20) from MI_s hI 20).2; have := congrArg Int32.toInt (show sg_15 21 = z_14 from up_at esg_15); have := (hz_14).1; have := (hz_14).2; have := congrArg Int32.toInt (show sg_15 22 = sg_j37 22 from up_ne esg_15 (by decide)); have := (show iv 0 3 (sg_j37 22) from MI_s hI_j37 22).1; have := (show iv 0 3 (sg_j37 22) from MI_s hI_j37 22).2; have := (show iv 0 3 (sg 22) from MI_s hI 22).1; have := (show iv 0 3 (sg 22) from MI_s hI 22).2; have := congrArg Int32.toInt (show sg_j4 20 = sg 20 from hks_j4 20 (by decide)); have := (show iv 0 1201 (sg_j4 21) from MI_s hI_j4 21).1; have := (show iv 0 1201 (sg_j4 21) from MI_s hI_j4 21).2; have := (show iv 0 3 (sg_j4 22) from MI_s hI_j4 22).1; have := (show iv 0 3 (sg_j4 22) from MI_s hI_j4 22).2; have := (h_12).1; have := (h_12).2; have := (hr_8).1; have := (hr_8).2; have := (hz_13).1; have := (hz_13).2; have := ((show iv 0 1201 (sg_j37 21) from MI_s hI_j37 21)).1; have := ((show iv 0 1201 (sg_j37 21) from MI_s hI_j37 21)).2; omega)) sg_15 z_13 z_11 rfl (iv_w hz_13 (by decide)) (KS_up (KS_tr (L := [21, 22, 23]) KS_rf hks_j37 (by decide)) esg_15 (by decide)) hI_sg_15 (hv.elim (fun hv9 => Or.inl (by have := i32_0; have := i32_1; have := i32_2; have := i32_m1; have := congrArg Int32.toInt (show sg_15 20 = sg_j37 20 from up_ne esg_15 (by decide)); have := congrArg Int32.toInt (show sg_j37 20 = sg 20 from hks_j37 20 (by decide)); have := (show iv 0 1200 (sg 20) from MI_s hI 20).1; have := (show iv 0 1200 (sg 20) from MI_s hI 20).2; have := congrArg Int32.toInt (show sg_15 21 = z_14 from up_at esg_15); have := (hz_14).1; have := (hz_14).2; have := congrArg Int32.toInt (show sg_15 22 = sg_j37 22 from up_ne esg_15 (by decide)); have := (show iv 0 3 (sg_j37 22) from MI_s hI_j37 22).1; have := (show iv 0 3 (sg_j37 22) from MI_s hI_j37 22).2; have := (show iv 0 3 (sg 22) from MI_s hI 22).1; have := (show iv 0 3 (sg 22) from MI_s hI 22).2; have := congrArg Int32.toInt (show sg_j4 20 = sg 20 from hks_j4 20 (by decide)); have := (show iv 0 1201 (sg_j4 21) from MI_s hI_j4 21).1; have := (show iv 0 1201 (sg_j4 21) from MI_s hI_j4 21).2; have := (show iv 0 3 (sg_j4 22) from MI_s hI_j4 22).1; have := (show iv 0 3 (sg_j4 22) from MI_s hI_j4 22).2; have := (h_12).1; have := (h_12).2; have := (hr_8).1; have := (hr_8).2; have := (hz_13).1; have := (hz_13).2; have := ((show iv 0 1201 (sg_j37 21) from MI_s hI_j37 21)).1; have := ((show iv 0 1201 (sg_j37 21) from MI_s hI_j37 21)).2; omega)) (fun hv9 => Or.inr (NB_s hv9.1 hv9.2 tz_13 (by have := i32_0; have := i32_1; have := i32_2; have := i32_m1; have := congrArg Int32.toInt (show sg_15 20 = sg_j37 20 from up_ne esg_15 (by decide)); have := congrArg Int32.toInt (show sg_j37 20 = sg 20 from hks_j37 20 (by decide)); have := (show iv 0 1200 (sg 20) from MI_s hI 20).1; have := (show iv 0 1200 (sg 20) from MI_s hI 20).2; have := congrArg Int32.toInt (show sg_15 21 = z_14 from up_at esg_15); have := (hz_14).1; have := (hz_14).2; have := congrArg Int32.toInt (show sg_15 22 = sg_j37 22 from up_ne esg_15 (by decide)); have := (show iv 0 3 (sg_j37 22) from MI_s hI_j37 22).1; have := (show iv 0 3 (sg_j37 22) from MI_s hI_j37 22).2; have := (show iv 0 3 (sg 22) from MI_s hI 22).1; have := (show iv 0 3 (sg 22) from MI_s hI 22).2; have := congrArg Int32.toInt (show sg_j4 20 = sg 20 from hks_j4 20 (by decide)); have := (show iv 0 1201 (sg_j4 21) from MI_s hI_j4 21).1; have := (show iv 0 1201 (sg_j4 21) from MI_s hI_j4 21).2; have := (show iv 0 3 (sg_j4 22) from MI_s hI_j4 22).1; have := (show iv 0 3 (sg_j4 22) from MI_s hI_j4 22).2; have := (h_12).1; have := (h_12).2; have := (hr_8).1; have := (hr_8).2; have := (hz_13).1; have := (hz_13).2; have := ((show iv 0 1201 (sg_j37 21) from MI_s hI_j37 21)).1; have := ((show iv 0 1201 (sg_j37 21) from MI_s hI_j37 21)).2; omega) (by have := i32_0; have := i32_1; have := i32_2; have := i32_m1; have := congrArg Int32.toInt (show sg_15 20 = sg_j37 20 from up_ne esg_15 (by decide)); have := congrArg Int32.toInt (show sg_j37 20 = sg 20 from hks_j37 20 (by decide)); have := (show iv 0 1200 (sg 20) from MI_s hI 20).1; have := (show iv 0 1200 (sg 20) from MI_s hI 20).2; have := congrArg Int32.toInt (show sg_15 21 = z_14 from up_at esg_15); have := (hz_14).1; have := (hz_14).2; have := congrArg Int32.toInt (show sg_15 22 = sg_j37 22 from up_ne esg_15 (by decide)); have := (show iv 0 3 (sg_j37 22) from MI_s hI_j37 22).1; have := (show iv 0 3 (sg_j37 22) from MI_s hI_j37 22).2; have := (show iv 0 3 (sg 22) from MI_s hI 22).1; have := (show iv 0 3 (sg 22) from MI_s hI 22).2; have := congrArg Int32.toInt (show sg_j4 20 = sg 20 from hks_j4 20 (by decide)); have := (show iv 0 1201 (sg_j4 21) from MI_s hI_j4 21).1; have := (show iv 0 1201 (sg_j4 21) from MI_s hI_j4 21).2; have := (show iv 0 3 (sg_j4 22) from MI_s hI_j4 22).1; have := (show iv 0 3 (sg_j4 22) from MI_s hI_j4 22).2; have := (h_12).1; have := (h_12).2; have := (hr_8).1; have := (hr_8).2; have := (hz_13).1; have := (hz_13).2; have := ((show iv 0 1201 (sg_j37 21) from MI_s hI_j37 21)).1; have := ((show iv 0 1201 (sg_j37 21) from MI_s hI_j37 21)).2; omega) ez_7 ez_10 ez_11))) (by have := i32_0; have := i32_1; have := i32_2; have := i32_m1; have := congrArg Int32.toInt (show sg_15 20 = sg_j37 20 from up_ne esg_15 (by decide)); have := congrArg Int32.toInt (show sg_j37 20 = sg 20 from hks_j37 20 (by decide)); have := (show iv 0 1200 (sg 20) from MI_s hI 20).1; have := (show iv 0 1200 (sg 20) from MI_s hI 20).2; have := congrArg Int32.toInt (show sg_15 21 = z_14 from up_at esg_15); have := (hz_14).1; have := (hz_14).2; have := congrArg Int32.toInt (show sg_15 22 = sg_j37 22 from up_ne esg_15 (by decide)); have := (show iv 0 3 (sg_j37 22) from MI_s hI_j37 22).1; have := (show iv 0 3 (sg_j37 22) from MI_s hI_j37 22).2; have := (show iv 0 3 (sg 22) from MI_s hI 22).1; have := (show iv 0 3 (sg 22) from MI_s hI 22).2; have := congrArg Int32.toInt (show sg_j4 20 = sg 20 from hks_j4 20 (by decide)); have := (show iv 0 1201 (sg_j4 21) from MI_s hI_j4 21).1; have := (show iv 0 1201 (sg_j4 21) from MI_s hI_j4 21).2; have := (show iv 0 3 (sg_j4 22) from MI_s hI_j4 22).1; have := (show iv 0 3 (sg_j4 22) from MI_s hI_j4 22).2; have := (h_12).1; have := (h_12).2; have := (hr_8).1; have := (hr_8).2; have := (hz_13).1; have := (hz_13).2; have := ((show iv 0 1201 (sg_j37 21) from MI_s hI_j37 21)).1; have := ((show iv 0 1201 (sg_j37 21) from MI_s hI_j37 21)).2; omega) (by have := i32_0; have := i32_1; have := i32_2; have := i32_m1; have := congrArg Int32.toInt (show sg_15 20 = sg_j37 20 from up_ne esg_15 (by decide)); have := congrArg Int32.toInt (show sg_j37 20 = sg 20 from hks_j37 20 (by decide)); have := (show iv 0 1200 (sg 20) from MI_s hI 20).1; have := (show iv 0 1200 (sg 20) from MI_s hI 20).2; have := congrArg Int32.toInt (show sg_15 21 = z_14 from up_at esg_15); have := (hz_14).1; have := (hz_14).2; have := congrArg Int32.toInt (show sg_15 22 = sg_j37 22 from up_ne esg_15 (by decide)); have := (show iv 0 3 (sg_j37 22) from MI_s hI_j37 22).1; have := (show iv 0 3 (sg_j37 22) from MI_s hI_j37 22).2; have := (show iv 0 3 (sg 22) from MI_s hI 22).1; have := (show iv 0 3 (sg 22) from MI_s hI 22).2; have := congrArg Int32.toInt (show sg_j4 20 = sg 20 from hks_j4 20 (by decide)); have := (show iv 0 1201 (sg_j4 21) from MI_s hI_j4 21).1; have := (show iv 0 1201 (sg_j4 21) from MI_s hI_j4 21).2; have := (show iv 0 3 (sg_j4 22) from MI_s hI_j4 22).1; have := (show iv 0 3 (sg_j4 22) from MI_s hI_j4 22).2; have := (h_12).1; have := (h_12).2; have := (hr_8).1; have := (hr_8).2; have := (hz_13).1; have := (hz_13).2; have := ((show iv 0 1201 (sg_j37 21) from MI_s hI_j37 21)).1; have := ((show iv 0 1201 (sg_j37 21) from MI_s hI_j37 21)).2; omega) (by have := i32_0; have := i32_1; have := i32_2; have := i32_m1; have := congrArg Int32.toInt (show sg_15 20 = sg_j37 20 from up_ne esg_15 (by decide)); have := congrArg Int32.toInt (show sg_j37 20 = sg 20 from hks_j37 20 (by decide)); have := (show iv 0 1200 (sg 20) from MI_s hI 20).1; have := (show iv 0 1200 (sg 20) from MI_s hI 20).2; have := congrArg Int32.toInt (show sg_15 21 = z_14 from up_at esg_15); have := (hz_14).1; have := (hz_14).2; have := congrArg Int32.toInt (show sg_15 22 = sg_j37 22 from up_ne esg_15 (by decide)); have := (show iv 0 3 (sg_j37 22) from MI_s hI_j37 22).1; have := (show iv 0 3 (sg_j37 22) from MI_s hI_j37 22).2; have := (show iv 0 3 (sg 22) from MI_s hI 22).1; have := (show iv 0 3 (sg 22) from MI_s hI 22).2; have := congrArg Int32.toInt (show sg_j4 20 = sg 20 from hks_j4 20 (by decide)); have := (show iv 0 1201 (sg_j4 21) from MI_s hI_j4 21).1; have := (show iv 0 1201 (sg_j4 21) from MI_s hI_j4 21).2; have := (show iv 0 3 (sg_j4 22) from MI_s hI_j4 22).1; have := (show iv 0 3 (sg_j4 22) from MI_s hI_j4 22).2; have := (h_12).1; have := (h_12).2; have := (hr_8).1; have := (hr_8).2; have := (hz_13).1; have := (hz_13).2; have := ((show iv 0 1201 (sg_j37 21) from MI_s hI_j37 21)).1; have := ((show iv 0 1201 (sg_j37 21) from MI_s hI_j37 21)).2; omega) (by have := i32_0; have := i32_1; have := i32_2; have := i32_m1; have := congrArg Int32.toInt (show sg_15 20 = sg_j37 20 from up_ne esg_15 (by decide)); have := congrArg Int32.toInt (show sg_j37 20 = sg 20 from hks_j37 20 (by decide)); have := (show iv 0 1200 (sg 20) from MI_s hI 20).1; have := (show iv 0 1200 (sg 20) from MI_s hI 20).2; have := congrArg Int32.toInt (show sg_15 21 = z_14 from up_at esg_15); have := (hz_14).1; have := (hz_14).2; have := congrArg Int32.toInt (show sg_15 22 = sg_j37 22 from up_ne esg_15 (by decide)); have := (show iv 0 3 (sg_j37 22) from MI_s hI_j37 22).1; have := (show iv 0 3 (sg_j37 22) from MI_s hI_j37 22).2; have := (show iv 0 3 (sg 22) from MI_s hI 22).1; have := (show iv 0 3 (sg 22) from MI_s hI 22).2; have := congrArg Int32.toInt (show sg_j4 20 = sg 20 from hks_j4 20 (by decide)); have := (show iv 0 1201 (sg_j4 21) from MI_s hI_j4 21).1; have := (show iv 0 1201 (sg_j4 21) from MI_s hI_j4 21).2; have := (show iv 0 3 (sg_j4 22) from MI_s hI_j4 22).1; have := (show iv 0 3 (sg_j4 22) from MI_s hI_j4 22).2; have := (h_12).1; have := (h_12).2; have := (hr_8).1; have := (hr_8).2; have := (hz_13).1; have := (hz_13).2; have := ((show iv 0 1201 (sg_j37 21) from MI_s hI_j37 21)).1; have := ((show iv 0 1201 (sg_j37 21) from MI_s hI_j37 21)).2; omega) _ _ _ hP hD hS (lv_sub hl [0, 1, 2] rfl)
      refine lv_aload_n hx hb dX13_name_4 rfl (lv_at hl 2 rfl) ?_
      refine lv_aload_n hx hb dX13_name_5 rfl (lv_at hl 2 rfl) ?_
      refine lv_iconst (v := 0) hx hb dX13_name_6 (by decide) ?_
      refine mr_calli (rest := [.ref h0]) ⟨hx, hb, hml, hown, htb⟩ (a_here l dC dI h0 ad cid sg_j4 gm lg 0 hI_j4 (iv_w (iv_k (by decide) : iv 0 0 0) (by decide))) (cwV 1 htb (gd_V kw_835 kw_836 kw_837 kw_5 kw_1522) rfl rfl rfl (by decide +kernel) ⟨Nat.le_of_ble_eq_true rfl, Nat.le_of_ble_eq_true rfl⟩) rfl hl.1 rfl (Nat.le_of_ble_eq_true rfl) dX13_name_7 ⟨Nat.zero_le _, Nat.zero_le _⟩ hK hP hD hS hA (fun r_17 u_18 H locs hw hP hD hS => ?_)
      obtain ⟨hr_17, hw_r_17, hn_r_17, rfl⟩ := hw
      have hP : va_P (dC, dI) vwCl (mW h0 ad cid sg_j4 gm lg) H := hP
      have hD : va_D A (mW h0 ad cid sg_j4 gm lg) := hD
      refine mr_calli (rest := []) ⟨hx, hb, hml, hown, htb⟩ (a_isSmall2 l dC dI h0 ad cid sg_j4 gm lg r_17 hI_j4) (cwV 1 htb (gd_V kw_850 kw_851 kw_852 kw_5 kw_1527) rfl rfl rfl (by decide +kernel) ⟨Nat.le_of_ble_eq_true rfl, Nat.le_of_ble_eq_true rfl⟩) rfl hl.1 rfl (Nat.le_of_ble_eq_true rfl) dX13_name_10 ⟨Nat.zero_le _, Nat.zero_le _⟩ hK hP hD hS hA (fun r_19 u_20 H locs hw hP hD hS => ?_)
      obtain ⟨hr_19, sm_r_19, rfl⟩ := hw
      have hP : va_P (dC, dI) vwCl (mW h0 ad cid sg_j4 gm lg) H := hP
      have hD : va_D A (mW h0 ad cid sg_j4 gm lg) := hD
      refine lv_if_eq (tgt := 65) hx hb dX13_name_13 (by decide) (fun c_21 => ?_) (fun c_21 => ?_)
      · have h_22 : iv 0 0 r_19 := iv_eq c_21 hr_19 (iv_k (by decide) : iv 0 0 0) (by decide)
        exact hj65 sg_j4 x3_4 x1_4 hx3_4 (KS_tr (L := [21, 22, 23]) KS_rf hks_j4 (by decide)) hI_j4 (hv) (by have := i32_0; have := i32_1; have := i32_2; have := i32_m1; have := congrArg Int32.toInt (show sg_j4 20 = sg 20 from hks_j4 20 (by decide)); have := (show iv 0 1200 (sg 20) from MI_s hI 20).1; have := (show iv 0 1200 (sg 20) from MI_s hI 20).2; have := (show iv 0 1201 (sg_j4 21) from MI_s hI_j4 21).1; have := (show iv 0 1201 (sg_j4 21) from MI_s hI_j4 21).2; have := (show iv 0 1201 (sg 21) from MI_s hI 21).1; have := (show iv 0 1201 (sg 21) from MI_s hI 21).2; have := (show iv 0 3 (sg_j4 22) from MI_s hI_j4 22).1; have := (show iv 0 3 (sg_j4 22) from MI_s hI_j4 22).2; have := (show iv 0 3 (sg 22) from MI_s hI 22).1; have := (show iv 0 3 (sg 22) from MI_s hI 22).2; have := (hx3_4).1; have := (hx3_4).2; have := (hr_17).1; have := (hr_17).2; have := (h_22).1; have := (h_22).2; omega) (by have := i32_0; have := i32_1; have := i32_2; have := i32_m1; have := congrArg Int32.toInt (show sg_j4 20 = sg 20 from hks_j4 20 (by decide)); have := (show iv 0 1200 (sg 20) from MI_s hI 20).1; have := (show iv 0 1200 (sg 20) from MI_s hI 20).2; have := (show iv 0 1201 (sg_j4 21) from MI_s hI_j4 21).1; have := (show iv 0 1201 (sg_j4 21) from MI_s hI_j4 21).2; have := (show iv 0 1201 (sg 21) from MI_s hI 21).1; have := (show iv 0 1201 (sg 21) from MI_s hI 21).2; have := (show iv 0 3 (sg_j4 22) from MI_s hI_j4 22).1; have := (show iv 0 3 (sg_j4 22) from MI_s hI_j4 22).2; have := (show iv 0 3 (sg 22) from MI_s hI 22).1; have := (show iv 0 3 (sg 22) from MI_s hI 22).2; have := (hx3_4).1; have := (hx3_4).2; have := (hr_17).1; have := (hr_17).2; have := (h_22).1; have := (h_22).2; omega) (by have := i32_0; have := i32_1; have := i32_2; have := i32_m1; have := congrArg Int32.toInt (show sg_j4 20 = sg 20 from hks_j4 20 (by decide)); have := (show iv 0 1200 (sg 20) from MI_s hI 20).1; have := (show iv 0 1200 (sg 20) from MI_s hI 20).2; have := (show iv 0 1201 (sg_j4 21) from MI_s hI_j4 21).1; have := (show iv 0 1201 (sg_j4 21) from MI_s hI_j4 21).2; have := (show iv 0 1201 (sg 21) from MI_s hI 21).1; have := (show iv 0 1201 (sg 21) from MI_s hI 21).2; have := (show iv 0 3 (sg_j4 22) from MI_s hI_j4 22).1; have := (show iv 0 3 (sg_j4 22) from MI_s hI_j4 22).2; have := (show iv 0 3 (sg 22) from MI_s hI 22).1; have := (show iv 0 3 (sg 22) from MI_s hI 22).2; have := (hx3_4).1; have := (hx3_4).2; have := (hr_17).1; have := (hr_17).2; have := (h_22).1; have := (h_22).2; omega) _ _ _ hP hD hS (lv_sub hl [0, 1, 2] rfl)
      · have h_23 : iv 1 1 r_19 := iv_neL c_21 hr_19 (by decide)
        refine lv_aload_n hx hb dX13_name_16 rfl (lv_at hl 2 rfl) ?_
        refine mr_get (v := .int (sg_j4 22)) hx hb htb inX13 hown hK hP 22 (by decide) (htb _ kw_813) rfl dX13_name_17 ?_
        refine lv_if_ne (tgt := 65) hx hb dX13_name_20 (by decide) (fun c_24 => ?_) (fun c_24 => ?_)
        · have h_25 : iv 1 3 (sg_j4 22) := iv_neL c_24 (show iv 0 3 (sg_j4 22) from MI_s hI_j4 22) (by decide)
          exact hj65 sg_j4 x3_4 x1_4 hx3_4 (KS_tr (L := [21, 22, 23]) KS_rf hks_j4 (by decide)) hI_j4 (hv) (by have := i32_0; have := i32_1; have := i32_2; have := i32_m1; have := congrArg Int32.toInt (show sg_j4 20 = sg 20 from hks_j4 20 (by decide)); have := (show iv 0 1200 (sg 20) from MI_s hI 20).1; have := (show iv 0 1200 (sg 20) from MI_s hI 20).2; have := (show iv 0 1201 (sg_j4 21) from MI_s hI_j4 21).1; have := (show iv 0 1201 (sg_j4 21) from MI_s hI_j4 21).2; have := (show iv 0 1201 (sg 21) from MI_s hI 21).1; have := (show iv 0 1201 (sg 21) from MI_s hI 21).2; have := (show iv 0 3 (sg_j4 22) from MI_s hI_j4 22).1; have := (show iv 0 3 (sg_j4 22) from MI_s hI_j4 22).2; have := (show iv 0 3 (sg 22) from MI_s hI 22).1; have := (show iv 0 3 (sg 22) from MI_s hI 22).2; have := (hx3_4).1; have := (hx3_4).2; have := (hr_17).1; have := (hr_17).2; have := (h_23).1; have := (h_23).2; have := (h_25).1; have := (h_25).2; omega) (by have := i32_0; have := i32_1; have := i32_2; have := i32_m1; have := congrArg Int32.toInt (show sg_j4 20 = sg 20 from hks_j4 20 (by decide)); have := (show iv 0 1200 (sg 20) from MI_s hI 20).1; have := (show iv 0 1200 (sg 20) from MI_s hI 20).2; have := (show iv 0 1201 (sg_j4 21) from MI_s hI_j4 21).1; have := (show iv 0 1201 (sg_j4 21) from MI_s hI_j4 21).2; have := (show iv 0 1201 (sg 21) from MI_s hI 21).1; have := (show iv 0 1201 (sg 21) from MI_s hI 21).2; have := (show iv 0 3 (sg_j4 22) from MI_s hI_j4 22).1; have := (show iv 0 3 (sg_j4 22) from MI_s hI_j4 22).2; have := (show iv 0 3 (sg 22) from MI_s hI 22).1; have := (show iv 0 3 (sg 22) from MI_s hI 22).2; have := (hx3_4).1; have := (hx3_4).2; have := (hr_17).1; have := (hr_17).2; have := (h_23).1; have := (h_23).2; have := (h_25).1; have := (h_25).2; omega) (by have := i32_0; have := i32_1; have := i32_2; have := i32_m1; have := congrArg Int32.toInt (show sg_j4 20 = sg 20 from hks_j4 20 (by decide)); have := (show iv 0 1200 (sg 20) from MI_s hI 20).1; have := (show iv 0 1200 (sg 20) from MI_s hI 20).2; have := (show iv 0 1201 (sg_j4 21) from MI_s hI_j4 21).1; have := (show iv 0 1201 (sg_j4 21) from MI_s hI_j4 21).2; have := (show iv 0 1201 (sg 21) from MI_s hI 21).1; have := (show iv 0 1201 (sg 21) from MI_s hI 21).2; have := (show iv 0 3 (sg_j4 22) from MI_s hI_j4 22).1; have := (show iv 0 3 (sg_j4 22) from MI_s hI_j4 22).2; have := (show iv 0 3 (sg 22) from MI_s hI 22).1; have := (show iv 0 3 (sg 22) from MI_s hI 22).2; have := (hx3_4).1; have := (hx3_4).2; have := (hr_17).1; have := (hr_17).2; have := (h_23).1; have := (h_23).2; have := (h_25).1; have := (h_25).2; omega) _ _ _ hP hD hS (lv_sub hl [0, 1, 2] rfl)
        · have h_26 : iv 0 0 (sg_j4 22) := iv_eq c_24 (show iv 0 3 (sg_j4 22) from MI_s hI_j4 22) (iv_k (by decide) : iv 0 0 0) (by decide)
          refine lv_iload_n hx hb dX13_name_23 rfl (lv_at hl 0 rfl) ?_
          refine lv_bipush (v := 8) hx hb dX13_name_24 (by decide) ?_
          refine lv_icmp_ne (tgt := 37) hx hb dX13_name_26 (by decide) (fun c_27 => ?_) (fun c_27 => ?_)
          · have d_28 : ¬ (x3_4 : Int32).toInt = 8 := lv_neT c_27 rfl
            exact hj37 sg_j4 hx3_4 (KS_tr (L := [21, 22, 23]) KS_rf hks_j4 (by decide)) hI_j4 (by have := i32_0; have := i32_1; have := i32_2; have := i32_m1; have := congrArg Int32.toInt (show sg_j4 20 = sg 20 from hks_j4 20 (by decide)); have := (show iv 0 1200 (sg 20) from MI_s hI 20).1; have := (show iv 0 1200 (sg 20) from MI_s hI 20).2; have := (show iv 0 1201 (sg_j4 21) from MI_s hI_j4 21).1; have := (show iv 0 1201 (sg_j4 21) from MI_s hI_j4 21).2; have := (show iv 0 1201 (sg 21) from MI_s hI 21).1; have := (show iv 0 1201 (sg 21) from MI_s hI 21).2; have := (show iv 0 3 (sg_j4 22) from MI_s hI_j4 22).1; have := (show iv 0 3 (sg_j4 22) from MI_s hI_j4 22).2; have := (show iv 0 3 (sg 22) from MI_s hI 22).1; have := (show iv 0 3 (sg 22) from MI_s hI 22).2; have := (hx3_4).1; have := (hx3_4).2; have := (hr_17).1; have := (hr_17).2; have := (h_23).1; have := (h_23).2; have := (h_26).1; have := (h_26).2; omega) (hv.elim Or.inl (fun hv9 => Or.inr ⟨hv9, by have := i32_0; have := i32_1; have := i32_2; have := i32_m1; have := congrArg Int32.toInt (show sg_j4 20 = sg 20 from hks_j4 20 (by decide)); have := (show iv 0 1200 (sg 20) from MI_s hI 20).1; have := (show iv 0 1200 (sg 20) from MI_s hI 20).2; have := (show iv 0 1201 (sg_j4 21) from MI_s hI_j4 21).1; have := (show iv 0 1201 (sg_j4 21) from MI_s hI_j4 21).2; have := (show iv 0 1201 (sg 21) from MI_s hI 21).1; have := (show iv 0 1201 (sg 21) from MI_s hI 21).2; have := (show iv 0 3 (sg_j4 22) from MI_s hI_j4 22).1; have := (show iv 0 3 (sg_j4 22) from MI_s hI_j4 22).2; have := (show iv 0 3 (sg 22) from MI_s hI 22).1; have := (show iv 0 3 (sg 22) from MI_s hI 22).2; have := (hx3_4).1; have := (hx3_4).2; have := (hr_17).1; have := (hr_17).2; have := (h_23).1; have := (h_23).2; have := (h_26).1; have := (h_26).2; have := hv9.2.2; omega⟩)) (by have := i32_0; have := i32_1; have := i32_2; have := i32_m1; have := congrArg Int32.toInt (show sg_j4 20 = sg 20 from hks_j4 20 (by decide)); have := (show iv 0 1200 (sg 20) from MI_s hI 20).1; have := (show iv 0 1200 (sg 20) from MI_s hI 20).2; have := (show iv 0 1201 (sg_j4 21) from MI_s hI_j4 21).1; have := (show iv 0 1201 (sg_j4 21) from MI_s hI_j4 21).2; have := (show iv 0 1201 (sg 21) from MI_s hI 21).1; have := (show iv 0 1201 (sg 21) from MI_s hI 21).2; have := (show iv 0 3 (sg_j4 22) from MI_s hI_j4 22).1; have := (show iv 0 3 (sg_j4 22) from MI_s hI_j4 22).2; have := (show iv 0 3 (sg 22) from MI_s hI 22).1; have := (show iv 0 3 (sg 22) from MI_s hI 22).2; have := (hx3_4).1; have := (hx3_4).2; have := (hr_17).1; have := (hr_17).2; have := (h_23).1; have := (h_23).2; have := (h_26).1; have := (h_26).2; omega) (by have := i32_0; have := i32_1; have := i32_2; have := i32_m1; have := congrArg Int32.toInt (show sg_j4 20 = sg 20 from hks_j4 20 (by decide)); have := (show iv 0 1200 (sg 20) from MI_s hI 20).1; have := (show iv 0 1200 (sg 20) from MI_s hI 20).2; have := (show iv 0 1201 (sg_j4 21) from MI_s hI_j4 21).1; have := (show iv 0 1201 (sg_j4 21) from MI_s hI_j4 21).2; have := (show iv 0 1201 (sg 21) from MI_s hI 21).1; have := (show iv 0 1201 (sg 21) from MI_s hI 21).2; have := (show iv 0 3 (sg_j4 22) from MI_s hI_j4 22).1; have := (show iv 0 3 (sg_j4 22) from MI_s hI_j4 22).2; have := (show iv 0 3 (sg 22) from MI_s hI 22).1; have := (show iv 0 3 (sg 22) from MI_s hI 22).2; have := (hx3_4).1; have := (hx3_4).2; have := (hr_17).1; have := (hr_17).2; have := (h_23).1; have := (h_23).2; have := (h_26).1; have := (h_26).2; omega) (by have := i32_0; have := i32_1; have := i32_2; have := i32_m1; have := congrArg Int32.toInt (show sg_j4 20 = sg 20 from hks_j4 20 (by decide)); have := (show iv 0 1200 (sg 20) from MI_s hI 20).1; have := (show iv 0 1200 (sg 20) from MI_s hI 20).2; have := (show iv 0 1201 (sg_j4 21) from MI_s hI_j4 21).1; have := (show iv 0 1201 (sg_j4 21) from MI_s hI_j4 21).2; have := (show iv 0 1201 (sg 21) from MI_s hI 21).1; have := (show iv 0 1201 (sg 21) from MI_s hI 21).2; have := (show iv 0 3 (sg_j4 22) from MI_s hI_j4 22).1; have := (show iv 0 3 (sg_j4 22) from MI_s hI_j4 22).2; have := (show iv 0 3 (sg 22) from MI_s hI 22).1; have := (show iv 0 3 (sg 22) from MI_s hI 22).2; have := (hx3_4).1; have := (hx3_4).2; have := (hr_17).1; have := (hr_17).2; have := (h_23).1; have := (h_23).2; have := (h_26).1; have := (h_26).2; omega) (by have := i32_0; have := i32_1; have := i32_2; have := i32_m1; have := congrArg Int32.toInt (show sg_j4 20 = sg 20 from hks_j4 20 (by decide)); have := (show iv 0 1200 (sg 20) from MI_s hI 20).1; have := (show iv 0 1200 (sg 20) from MI_s hI 20).2; have := (show iv 0 1201 (sg_j4 21) from MI_s hI_j4 21).1; have := (show iv 0 1201 (sg_j4 21) from MI_s hI_j4 21).2; have := (show iv 0 1201 (sg 21) from MI_s hI 21).1; have := (show iv 0 1201 (sg 21) from MI_s hI 21).2; have := (show iv 0 3 (sg_j4 22) from MI_s hI_j4 22).1; have := (show iv 0 3 (sg_j4 22) from MI_s hI_j4 22).2; have := (show iv 0 3 (sg 22) from MI_s hI 22).1; have := (show iv 0 3 (sg 22) from MI_s hI 22).2; have := (hx3_4).1; have := (hx3_4).2; have := (hr_17).1; have := (hr_17).2; have := (h_23).1; have := (h_23).2; have := (h_26).1; have := (h_26).2; omega) (by have := i32_0; have := i32_1; have := i32_2; have := i32_m1; have := congrArg Int32.toInt (show sg_j4 20 = sg 20 from hks_j4 20 (by decide)); have := (show iv 0 1200 (sg 20) from MI_s hI 20).1; have := (show iv 0 1200 (sg 20) from MI_s hI 20).2; have := (show iv 0 1201 (sg_j4 21) from MI_s hI_j4 21).1; have := (show iv 0 1201 (sg_j4 21) from MI_s hI_j4 21).2; have := (show iv 0 1201 (sg 21) from MI_s hI 21).1; have := (show iv 0 1201 (sg 21) from MI_s hI 21).2; have := (show iv 0 3 (sg_j4 22) from MI_s hI_j4 22).1; have := (show iv 0 3 (sg_j4 22) from MI_s hI_j4 22).2; have := (show iv 0 3 (sg 22) from MI_s hI 22).1; have := (show iv 0 3 (sg 22) from MI_s hI 22).2; have := (hx3_4).1; have := (hx3_4).2; have := (hr_17).1; have := (hr_17).2; have := (h_23).1; have := (h_23).2; have := (h_26).1; have := (h_26).2; omega) (by have := i32_0; have := i32_1; have := i32_2; have := i32_m1; have := congrArg Int32.toInt (show sg_j4 20 = sg 20 from hks_j4 20 (by decide)); have := (show iv 0 1200 (sg 20) from MI_s hI 20).1; have := (show iv 0 1200 (sg 20) from MI_s hI 20).2; have := (show iv 0 1201 (sg_j4 21) from MI_s hI_j4 21).1; have := (show iv 0 1201 (sg_j4 21) from MI_s hI_j4 21).2; have := (show iv 0 1201 (sg 21) from MI_s hI 21).1; have := (show iv 0 1201 (sg 21) from MI_s hI 21).2; have := (show iv 0 3 (sg_j4 22) from MI_s hI_j4 22).1; have := (show iv 0 3 (sg_j4 22) from MI_s hI_j4 22).2; have := (show iv 0 3 (sg 22) from MI_s hI 22).1; have := (show iv 0 3 (sg 22) from MI_s hI 22).2; have := (hx3_4).1; have := (hx3_4).2; have := (hr_17).1; have := (hr_17).2; have := (h_23).1; have := (h_23).2; have := (h_26).1; have := (h_26).2; omega) _ _ _ hP hD hS (lv_sub hl [0, 1, 2] rfl)
          · have h_29 : iv 8 8 x3_4 := iv_eq c_27 hx3_4 (iv_k (by decide) : iv 8 8 8) (by decide)
            refine lv_aload_n hx hb dX13_name_29 rfl (lv_at hl 2 rfl) ?_
            refine lv_aload_n hx hb dX13_name_30 rfl (lv_at hl 2 rfl) ?_
            refine mr_get (v := .int (sg_j4 21)) hx hb htb inX13 hown hK hP 21 (by decide) (htb _ kw_814) rfl dX13_name_31 ?_
            refine mr_callv (rest := []) ⟨hx, hb, hml, hown, htb⟩ (a_bad2 l dC dI h0 ad cid sg_j4 gm lg (sg_j4 21) hI_j4) (cwV 1 htb (gd_V kw_847 kw_848 kw_849 kw_5 kw_1526) rfl rfl rfl (by decide +kernel) ⟨Nat.le_of_ble_eq_true rfl, Nat.le_of_ble_eq_true rfl⟩) rfl hl.1 rfl (Nat.le_of_ble_eq_true rfl) dX13_name_34 ⟨Nat.zero_le _, Nat.zero_le _⟩ hK hP hD hS hA (fun u_31 H locs hw hP hD hS => ?_)
            obtain ⟨sgv_32, gmv_32, lgv_32, rfl, hIv_32, ksv_32, kgv_32, klv_32, fb_r_30, ff_r_30⟩ := hw
            obtain rfl := KS_nil kgv_32
            obtain rfl := KS_nil klv_32
            have hP : va_P (dC, dI) vwCl (mW h0 ad cid sgv_32 gm lg) H := hP
            have hD : va_D A (mW h0 ad cid sgv_32 gm lg) := hD
            exact hj37 sgv_32 (iv_w h_29 (by decide)) (KS_tr (L := [21, 22, 23]) (KS_tr (L := [21, 22, 23]) KS_rf hks_j4 (by decide)) ksv_32 (by decide)) hIv_32 (by have := i32_0; have := i32_1; have := i32_2; have := i32_m1; have := congrArg Int32.toInt (show sgv_32 20 = sg_j4 20 from ksv_32 20 (by decide)); have := congrArg Int32.toInt (show sg_j4 20 = sg 20 from hks_j4 20 (by decide)); have := (show iv 0 1200 (sg 20) from MI_s hI 20).1; have := (show iv 0 1200 (sg 20) from MI_s hI 20).2; have := congrArg Int32.toInt (show sgv_32 21 = sg_j4 21 from ksv_32 21 (by decide)); have := (show iv 0 1201 (sg_j4 21) from MI_s hI_j4 21).1; have := (show iv 0 1201 (sg_j4 21) from MI_s hI_j4 21).2; have := (show iv 0 1201 (sg 21) from MI_s hI 21).1; have := (show iv 0 1201 (sg 21) from MI_s hI 21).2; have := (show iv 0 3 (sgv_32 22) from MI_s hIv_32 22).1; have := (show iv 0 3 (sgv_32 22) from MI_s hIv_32 22).2; have := (show iv 0 3 (sg_j4 22) from MI_s hI_j4 22).1; have := (show iv 0 3 (sg_j4 22) from MI_s hI_j4 22).2; have := (show iv 0 3 (sg 22) from MI_s hI 22).1; have := (show iv 0 3 (sg 22) from MI_s hI 22).2; have := congrArg Int32.toInt (show sg_j4 20 = sg 20 from hks_j4 20 (by decide)); have := (show iv 0 1201 (sg_j4 21) from MI_s hI_j4 21).1; have := (show iv 0 1201 (sg_j4 21) from MI_s hI_j4 21).2; have := (show iv 0 3 (sg_j4 22) from MI_s hI_j4 22).1; have := (show iv 0 3 (sg_j4 22) from MI_s hI_j4 22).2; have := (h_29).1; have := (h_29).2; have := (hr_17).1; have := (hr_17).2; have := (h_23).1; have := (h_23).2; have := (h_26).1; have := (h_26).2; have := ((show iv 0 1201 (sg_j4 21) from MI_s hI_j4 21)).1; have := ((show iv 0 1201 (sg_j4 21) from MI_s hI_j4 21)).2; omega) (Or.inl (by have := i32_0; have := i32_1; have := i32_2; have := i32_m1; have := congrArg Int32.toInt (show sgv_32 20 = sg_j4 20 from ksv_32 20 (by decide)); have := congrArg Int32.toInt (show sg_j4 20 = sg 20 from hks_j4 20 (by decide)); have := (show iv 0 1200 (sg 20) from MI_s hI 20).1; have := (show iv 0 1200 (sg 20) from MI_s hI 20).2; have := congrArg Int32.toInt (show sgv_32 21 = sg_j4 21 from ksv_32 21 (by decide)); have := (show iv 0 1201 (sg_j4 21) from MI_s hI_j4 21).1; have := (show iv 0 1201 (sg_j4 21) from MI_s hI_j4 21).2; have := (show iv 0 1201 (sg 21) from MI_s hI 21).1; have := (show iv 0 1201 (sg 21) from MI_s hI 21).2; have := (show iv 0 3 (sgv_32 22) from MI_s hIv_32 22).1; have := (show iv 0 3 (sgv_32 22) from MI_s hIv_32 22).2; have := (show iv 0 3 (sg_j4 22) from MI_s hI_j4 22).1; have := (show iv 0 3 (sg_j4 22) from MI_s hI_j4 22).2; have := (show iv 0 3 (sg 22) from MI_s hI 22).1; have := (show iv 0 3 (sg 22) from MI_s hI 22).2; have := congrArg Int32.toInt (show sg_j4 20 = sg 20 from hks_j4 20 (by decide)); have := (show iv 0 1201 (sg_j4 21) from MI_s hI_j4 21).1; have := (show iv 0 1201 (sg_j4 21) from MI_s hI_j4 21).2; have := (show iv 0 3 (sg_j4 22) from MI_s hI_j4 22).1; have := (show iv 0 3 (sg_j4 22) from MI_s hI_j4 22).2; have := (h_29).1; have := (h_29).2; have := (hr_17).1; have := (hr_17).2; have := (h_23).1; have := (h_23).2; have := (h_26).1; have := (h_26).2; have := ((show iv 0 1201 (sg_j4 21) from MI_s hI_j4 21)).1; have := ((show iv 0 1201 (sg_j4 21) from MI_s hI_j4 21)).2; omega)) (by have := i32_0; have := i32_1; have := i32_2; have := i32_m1; have := congrArg Int32.toInt (show sgv_32 20 = sg_j4 20 from ksv_32 20 (by decide)); have := congrArg Int32.toInt (show sg_j4 20 = sg 20 from hks_j4 20 (by decide)); have := (show iv 0 1200 (sg 20) from MI_s hI 20).1; have := (show iv 0 1200 (sg 20) from MI_s hI 20).2; have := congrArg Int32.toInt (show sgv_32 21 = sg_j4 21 from ksv_32 21 (by decide)); have := (show iv 0 1201 (sg_j4 21) from MI_s hI_j4 21).1; have := (show iv 0 1201 (sg_j4 21) from MI_s hI_j4 21).2; have := (show iv 0 1201 (sg 21) from MI_s hI 21).1; have := (show iv 0 1201 (sg 21) from MI_s hI 21).2; have := (show iv 0 3 (sgv_32 22) from MI_s hIv_32 22).1; have := (show iv 0 3 (sgv_32 22) from MI_s hIv_32 22).2; have := (show iv 0 3 (sg_j4 22) from MI_s hI_j4 22).1; have := (show iv 0 3 (sg_j4 22) from MI_s hI_j4 22).2; have := (show iv 0 3 (sg 22) from MI_s hI 22).1; have := (show iv 0 3 (sg 22) from MI_s hI 22).2; have := congrArg Int32.toInt (show sg_j4 20 = sg 20 from hks_j4 20 (by decide)); have := (show iv 0 1201 (sg_j4 21) from MI_s hI_j4 21).1; have := (show iv 0 1201 (sg_j4 21) from MI_s hI_j4 21).2; have := (show iv 0 3 (sg_j4 22) from MI_s hI_j4 22).1; have := (show iv 0 3 (sg_j4 22) from MI_s hI_j4 22).2; have := (h_29).1; have := (h_29).2; have := (hr_17).1; have := (hr_17).2; have := (h_23).1; have := (h_23).2; have := (h_26).1; have := (h_26).2; have := ((show iv 0 1201 (sg_j4 21) from MI_s hI_j4 21)).1; have := ((show iv 0 1201 (sg_j4 21) from MI_s hI_j4 21)).2; omega) (by have := i32_0; have := i32_1; have := i32_2; have := i32_m1; have := congrArg Int32.toInt (show sgv_32 20 = sg_j4 20 from ksv_32 20 (by decide)); have := congrArg Int32.toInt (show sg_j4 20 = sg 20 from hks_j4 20 (by decide)); have := (show iv 0 1200 (sg 20) from MI_s hI 20).1; have := (show iv 0 1200 (sg 20) from MI_s hI 20).2; have := congrArg Int32.toInt (show sgv_32 21 = sg_j4 21 from ksv_32 21 (by decide)); have := (show iv 0 1201 (sg_j4 21) from MI_s hI_j4 21).1; have := (show iv 0 1201 (sg_j4 21) from MI_s hI_j4 21).2; have := (show iv 0 1201 (sg 21) from MI_s hI 21).1; have := (show iv 0 1201 (sg 21) from MI_s hI 21).2; have := (show iv 0 3 (sgv_32 22) from MI_s hIv_32 22).1; have := (show iv 0 3 (sgv_32 22) from MI_s hIv_32 22).2; have := (show iv 0 3 (sg_j4 22) from MI_s hI_j4 22).1; have := (show iv 0 3 (sg_j4 22) from MI_s hI_j4 22).2; have := (show iv 0 3 (sg 22) from MI_s hI 22).1; have := (show iv 0 3 (sg 22) from MI_s hI 22).2; have := congrArg Int32.toInt (show sg_j4 20 = sg 20 from hks_j4 20 (by decide)); have := (show iv 0 1201 (sg_j4 21) from MI_s hI_j4 21).1; have := (show iv 0 1201 (sg_j4 21) from MI_s hI_j4 21).2; have := (show iv 0 3 (sg_j4 22) from MI_s hI_j4 22).1; have := (show iv 0 3 (sg_j4 22) from MI_s hI_j4 22).2; have := (h_29).1; have := (h_29).2; have := (hr_17).1; have := (hr_17).2; have := (h_23).1; have := (h_23).2; have := (h_26).1; have := (h_26).2; have := ((show iv 0 1201 (sg_j4 21) from MI_s hI_j4 21)).1; have := ((show iv 0 1201 (sg_j4 21) from MI_s hI_j4 21)).2; omega) (by have := i32_0; have := i32_1; have := i32_2; have := i32_m1; have := congrArg Int32.toInt (show sgv_32 20 = sg_j4 20 from ksv_32 20 (by decide)); have := congrArg Int32.toInt (show sg_j4 20 = sg 20 from hks_j4 20 (by decide)); have := (show iv 0 1200 (sg 20) from MI_s hI 20).1; have := (show iv 0 1200 (sg 20) from MI_s hI 20).2; have := congrArg Int32.toInt (show sgv_32 21 = sg_j4 21 from ksv_32 21 (by decide)); have := (show iv 0 1201 (sg_j4 21) from MI_s hI_j4 21).1; have := (show iv 0 1201 (sg_j4 21) from MI_s hI_j4 21).2; have := (show iv 0 1201 (sg 21) from MI_s hI 21).1; have := (show iv 0 1201 (sg 21) from MI_s hI 21).2; have := (show iv 0 3 (sgv_32 22) from MI_s hIv_32 22).1; have := (show iv 0 3 (sgv_32 22) from MI_s hIv_32 22).2; have := (show iv 0 3 (sg_j4 22) from MI_s hI_j4 22).1; have := (show iv 0 3 (sg_j4 22) from MI_s hI_j4 22).2; have := (show iv 0 3 (sg 22) from MI_s hI 22).1; have := (show iv 0 3 (sg 22) from MI_s hI 22).2; have := congrArg Int32.toInt (show sg_j4 20 = sg 20 from hks_j4 20 (by decide)); have := (show iv 0 1201 (sg_j4 21) from MI_s hI_j4 21).1; have := (show iv 0 1201 (sg_j4 21) from MI_s hI_j4 21).2; have := (show iv 0 3 (sg_j4 22) from MI_s hI_j4 22).1; have := (show iv 0 3 (sg_j4 22) from MI_s hI_j4 22).2; have := (h_29).1; have := (h_29).2; have := (hr_17).1; have := (hr_17).2; have := (h_23).1; have := (h_23).2; have := (h_26).1; have := (h_26).2; have := ((show iv 0 1201 (sg_j4 21) from MI_s hI_j4 21)).1; have := ((show iv 0 1201 (sg_j4 21) from MI_s hI_j4 21)).2; omega) (by have := i32_0; have := i32_1; have := i32_2; have := i32_m1; have := congrArg Int32.toInt (show sgv_32 20 = sg_j4 20 from ksv_32 20 (by decide)); have := congrArg Int32.toInt (show sg_j4 20 = sg 20 from hks_j4 20 (by decide)); have := (show iv 0 1200 (sg 20) from MI_s hI 20).1; have := (show iv 0 1200 (sg 20) from MI_s hI 20).2; have := congrArg Int32.toInt (show sgv_32 21 = sg_j4 21 from ksv_32 21 (by decide)); have := (show iv 0 1201 (sg_j4 21) from MI_s hI_j4 21).1; have := (show iv 0 1201 (sg_j4 21) from MI_s hI_j4 21).2; have := (show iv 0 1201 (sg 21) from MI_s hI 21).1; have := (show iv 0 1201 (sg 21) from MI_s hI 21).2; have := (show iv 0 3 (sgv_32 22) from MI_s hIv_32 22).1; have := (show iv 0 3 (sgv_32 22) from MI_s hIv_32 22).2; have := (show iv 0 3 (sg_j4 22) from MI_s hI_j4 22).1; have := (show iv 0 3 (sg_j4 22) from MI_s hI_j4 22).2; have := (show iv 0 3 (sg 22) from MI_s hI 22).1; have := (show iv 0 3 (sg 22) from MI_s hI 22).2; have := congrArg Int32.toInt (show sg_j4 20 = sg 20 from hks_j4 20 (by decide)); have := (show iv 0 1201 (sg_j4 21) from MI_s hI_j4 21).1; have := (show iv 0 1201 (sg_j4 21) from MI_s hI_j4 21).2; have := (show iv 0 3 (sg_j4 22) from MI_s hI_j4 22).1; have := (show iv 0 3 (sg_j4 22) from MI_s hI_j4 22).2; have := (h_29).1; have := (h_29).2; have := (hr_17).1; have := (hr_17).2; have := (h_23).1; have := (h_23).2; have := (h_26).1; have := (h_26).2; have := ((show iv 0 1201 (sg_j4 21) from MI_s hI_j4 21)).1; have := ((show iv 0 1201 (sg_j4 21) from MI_s hI_j4 21)).2; omega) (by have := i32_0; have := i32_1; have := i32_2; have := i32_m1; have := congrArg Int32.toInt (show sgv_32 20 = sg_j4 20 from ksv_32 20 (by decide)); have := congrArg Int32.toInt (show sg_j4 20 = sg 20 from hks_j4 20 (by decide)); have := (show iv 0 1200 (sg 20) from MI_s hI 20).1; have := (show iv 0 1200 (sg 20) from MI_s hI 20).2; have := congrArg Int32.toInt (show sgv_32 21 = sg_j4 21 from ksv_32 21 (by decide)); have := (show iv 0 1201 (sg_j4 21) from MI_s hI_j4 21).1; have := (show iv 0 1201 (sg_j4 21) from MI_s hI_j4 21).2; have := (show iv 0 1201 (sg 21) from MI_s hI 21).1; have := (show iv 0 1201 (sg 21) from MI_s hI 21).2; have := (show iv 0 3 (sgv_32 22) from MI_s hIv_32 22).1; have := (show iv 0 3 (sgv_32 22) from MI_s hIv_32 22).2; have := (show iv 0 3 (sg_j4 22) from MI_s hI_j4 22).1; have := (show iv 0 3 (sg_j4 22) from MI_s hI_j4 22).2; have := (show iv 0 3 (sg 22) from MI_s hI 22).1; have := (show iv 0 3 (sg 22) from MI_s hI 22).2; have := congrArg Int32.toInt (show sg_j4 20 = sg 20 from hks_j4 20 (by decide)); have := (show iv 0 1201 (sg_j4 21) from MI_s hI_j4 21).1; have := (show iv 0 1201 (sg_j4 21) from MI_s hI_j4 21).2; have := (show iv 0 3 (sg_j4 22) from MI_s hI_j4 22).1; have := (show iv 0 3 (sg_j4 22) from MI_s hI_j4 22).2; have := (h_29).1; have := (h_29).2; have := (hr_17).1; have := (hr_17).2; have := (h_23).1; have := (h_23).2; have := (h_26).1; have := (h_26).2; have := ((show iv 0 1201 (sg_j4 21) from MI_s hI_j4 21)).1; have := ((show iv 0 1201 (sg_j4 21) from MI_s hI_j4 21)).2; omega) (by have := i32_0; have := i32_1; have := i32_2; have := i32_m1; have := congrArg Int32.toInt (show sgv_32 20 = sg_j4 20 from ksv_32 20 (by decide)); have := congrArg Int32.toInt (show sg_j4 20 = sg 20 from hks_j4 20 (by decide)); have := (show iv 0 1200 (sg 20) from MI_s hI 20).1; have := (show iv 0 1200 (sg 20) from MI_s hI 20).2; have := congrArg Int32.toInt (show sgv_32 21 = sg_j4 21 from ksv_32 21 (by decide)); have := (show iv 0 1201 (sg_j4 21) from MI_s hI_j4 21).1; have := (show iv 0 1201 (sg_j4 21) from MI_s hI_j4 21).2; have := (show iv 0 1201 (sg 21) from MI_s hI 21).1; have := (show iv 0 1201 (sg 21) from MI_s hI 21).2; have := (show iv 0 3 (sgv_32 22) from MI_s hIv_32 22).1; have := (show iv 0 3 (sgv_32 22) from MI_s hIv_32 22).2; have := (show iv 0 3 (sg_j4 22) from MI_s hI_j4 22).1; have := (show iv 0 3 (sg_j4 22) from MI_s hI_j4 22).2; have := (show iv 0 3 (sg 22) from MI_s hI 22).1; have := (show iv 0 3 (sg 22) from MI_s hI 22).2; have := congrArg Int32.toInt (show sg_j4 20 = sg 20 from hks_j4 20 (by decide)); have := (show iv 0 1201 (sg_j4 21) from MI_s hI_j4 21).1; have := (show iv 0 1201 (sg_j4 21) from MI_s hI_j4 21).2; have := (show iv 0 3 (sg_j4 22) from MI_s hI_j4 22).1; have := (show iv 0 3 (sg_j4 22) from MI_s hI_j4 22).2; have := (h_29).1; have := (h_29).2; have := (hr_17).1; have := (hr_17).2; have := (h_23).1; have := (h_23).2; have := (h_26).1; have := (h_26).2; have := ((show iv 0 1201 (sg_j4 21) from MI_s hI_j4 21)).1; have := ((show iv 0 1201 (sg_j4 21) from MI_s hI_j4 21)).2; omega) _ _ _ hP hD hS (lv_sub hl [0, 1, 2] rfl)
  refine lv_lconst (v := 0) hx hb dX13_name_0 (by decide) ?_
  refine lv_lstore_n (lv' := [(1, .long 0), (0, .ref h0)]) hx hb dX13_name_1 rfl hl (by decide) rfl (fun ls hl => ?_)
  refine lv_iconst (v := 0) hx hb dX13_name_2 (by decide) ?_
  refine lv_istore_n (lv' := [(3, .int 0), (1, .long 0), (0, .ref h0)]) hx hb dX13_name_3 rfl hl (by decide) rfl (fun ls hl => ?_)
  exact hj4 _ sg 0 0 rfl (iv_w (iv_k (by decide) : iv 0 0 0) (by decide)) KS_rf hI (Or.inr NB_0) (by have := i32_0; have := i32_1; have := i32_2; have := i32_m1; have := (show iv 0 1200 (sg 20) from MI_s hI 20).1; have := (show iv 0 1200 (sg 20) from MI_s hI 20).2; have := (show iv 0 1201 (sg 21) from MI_s hI 21).1; have := (show iv 0 1201 (sg 21) from MI_s hI 21).2; have := (show iv 0 3 (sg 22) from MI_s hI 22).1; have := (show iv 0 3 (sg 22) from MI_s hI 22).2; omega) (by have := i32_0; have := i32_1; have := i32_2; have := i32_m1; have := (show iv 0 1200 (sg 20) from MI_s hI 20).1; have := (show iv 0 1200 (sg 20) from MI_s hI 20).2; have := (show iv 0 1201 (sg 21) from MI_s hI 21).1; have := (show iv 0 1201 (sg 21) from MI_s hI 21).2; have := (show iv 0 3 (sg 22) from MI_s hI 22).1; have := (show iv 0 3 (sg 22) from MI_s hI 22).2; omega) (by have := i32_0; have := i32_1; have := i32_2; have := i32_m1; have := (show iv 0 1200 (sg 20) from MI_s hI 20).1; have := (show iv 0 1200 (sg 20) from MI_s hI 20).2; have := (show iv 0 1201 (sg 21) from MI_s hI 21).1; have := (show iv 0 1201 (sg 21) from MI_s hI 21).2; have := (show iv 0 3 (sg 22) from MI_s hI 22).1; have := (show iv 0 3 (sg 22) from MI_s hI 22).2; omega) (by have := i32_0; have := i32_1; have := i32_2; have := i32_m1; have := (show iv 0 1200 (sg 20) from MI_s hI 20).1; have := (show iv 0 1200 (sg 20) from MI_s hI 20).2; have := (show iv 0 1201 (sg 21) from MI_s hI 21).1; have := (show iv 0 1201 (sg 21) from MI_s hI 21).2; have := (show iv 0 3 (sg 22) from MI_s hI 22).1; have := (show iv 0 3 (sg 22) from MI_s hI 22).2; omega) _ _ _ hP hD hS (lv_sub hl [0, 1, 2] rfl)
end
section
theorem up_cell {g g1 : Nat → Nat → Int32} {k j : Nat} {x : Int32} (q : g1 = va_up g k (upd (g k) j x)) : g1 k j = x := by
  rw [up_at q]
  show (if j = j then x else g k j) = x
  rw [if_pos rfl]
theorem up_oth {g g1 : Nat → Nat → Int32} {k j i : Nat} {x : Int32} (q : g1 = va_up g k (upd (g k) j x)) (h : i ≠ j) : g1 k i = g k i := by
  rw [up_at q]
  show (if i = j then x else g k i) = _
  rw [if_neg h]
theorem up_le {g g1 : Nat → Nat → Int32} {k j : Nat} {x : Int32} {d : Int} (q : g1 = va_up g k (upd (g k) j x)) (hd : 0 ≤ d) (h : x.toInt ≤ (g k j).toInt + d) (i : Nat) : (g1 k i).toInt ≤ (g k i).toInt + d := by
  by_cases hi : i = j
  · subst hi; rw [up_cell q]; exact h
  · rw [up_oth q hi]; omega
end
section
/-- the numbers of children, when element E is begun within a -/
def wth (f : Nat → Int32) (E : Nat) (a : Int32) : Nat → Int32 := if a = -1 then upd f E 0 else upd (upd f E 0) a.toNatClampNeg (upd f E 0 a.toNatClampNeg + 1)
/-- the name of element E is there and not negative, the others are as they were -/
def NX (lg2 lg : Nat → Nat → Int64) (E : Nat) : Prop := ∃ nm : Int64, 0 ≤ nm.toInt ∧ lg2 34 = vp_updL (lg 34) E nm
theorem NX_mk {lg2 lg : Nat → Nat → Int64} {E : Nat} {nm : Int64} (h : 0 ≤ nm.toInt) (h2 : lg2 34 = vp_updL (lg 34) E nm) : NX lg2 lg E := ⟨nm, h, h2⟩
theorem NX_tr {lg3 lg2 lg : Nat → Nat → Int64} {E : Nat} (h2 : lg3 34 = lg2 34) (h : NX lg2 lg E) : NX lg3 lg E := by
  obtain ⟨nm, h9, h8⟩ := h
  exact ⟨nm, h9, h2.trans h8⟩
/-- what begin leaves where no fault was found -/
def BG (sg : Nat → Int32) (gm : Nat → Nat → Int32) (lg : Nat → Nat → Int64) (a : Int32) (sg2 : Nat → Int32) (gm2 : Nat → Nat → Int32) (lg2 : Nat → Nat → Int64) (r : Int32) : Prop :=
  r = sg 24 ∧ (sg2 24).toInt = (sg 24).toInt + 1 ∧ (sg 24).toInt ≤ 79 ∧ gm2 28 = upd (gm 28) (sg 24).toNatClampNeg a ∧ gm2 29 = wth (gm 29) (sg 24).toNatClampNeg a ∧ gm2 32 = upd (gm 32) (sg 24).toNatClampNeg 0 ∧ NX lg2 lg (sg 24).toNatClampNeg
end
section
/-- how many of the first n stand within k -/
def cntA (f : Nat → Int32) (k : Nat) : Nat → Nat
  | 0 => 0
  | n + 1 => cntA f k n + (if (f n).toInt = (k : Int) then 1 else 0)
theorem cntA_congr {f g : Nat → Int32} {k : Nat} : ∀ {n : Nat}, (∀ j, j < n → g j = f j) → cntA g k n = cntA f k n := by
  intro n
  induction n with
  | zero => intro _; rfl
  | succ n ih =>
    intro h
    show cntA g k n + _ = cntA f k n + _
    rw [ih (fun j hj => h j (by omega)), h n (by omega)]
theorem cntA_le (f : Nat → Int32) (k : Nat) : ∀ n, cntA f k n ≤ n := by
  intro n
  induction n with
  | zero => exact Nat.le_refl 0
  | succ n ih =>
    show cntA f k n + _ ≤ n + 1
    split <;> omega
def TA (f : Nat → Int32) (n : Nat) : Prop := ∀ k, k < n → (f k).toInt < (k : Int) ∧ (k = 0 ∨ 0 ≤ (f k).toInt)
def TB (f w : Nat → Int32) (n : Nat) : Prop := ∀ k, k < n → (w k).toInt = (cntA f k n : Int)
theorem cntA_0 {f : Nat → Int32} {n k : Nat} (h : TA f n) (hk : n ≤ k) : ∀ m, m ≤ n → cntA f k m = 0 := by
  intro m
  induction m with
  | zero => intro _; rfl
  | succ m ih =>
    intro hm
    show cntA f k m + _ = 0
    have h1 := (h m (by omega)).1
    rw [ih (by omega), if_neg (by omega)]
/-- the level of an element: d steps up and out -/
def LV (f : Nat → Int32) : Nat → Int → Prop
  | 0, x => x = -1
  | d + 1, x => 0 ≤ x ∧ LV f d (f x.toNat).toInt
theorem LV_le {f : Nat → Int32} {n : Nat} (h : TA f n) : ∀ (d : Nat) (x : Int), x < (n : Int) → LV f d x → (d : Int) ≤ x + 1 := by
  intro d
  induction d with
  | zero => intro x _ hx; have hx : x = -1 := hx; omega
  | succ d ih =>
    intro x hn hx
    obtain ⟨h0, h1⟩ := hx
    have h2 := (h x.toNat (by omega)).1
    have h3 := ih _ (by omega) h1
    omega
theorem LV_congr {f g : Nat → Int32} {n : Nat} (h : TA f n) (hg : ∀ j, j < n → g j = f j) : ∀ (d : Nat) (x : Int), x < (n : Int) → LV f d x → LV g d x := by
  intro d
  induction d with
  | zero => intro x _ hx; exact hx
  | succ d ih =>
    intro x hn hx
    obtain ⟨h0, h1⟩ := hx
    have h2 := (h x.toNat (by omega)).1
    refine ⟨h0, ?_⟩
    rw [hg x.toNat (by omega)]
    exact ih _ (by omega) h1
/-- the tree of the elements read so far; T bounds the whites that wait -/
def TR (sg : Nat → Int32) (gm : Nat → Nat → Int32) (lg : Nat → Nat → Int64) (T : Int) : Prop := (TA (gm 28) (sg 24).toNatClampNeg ∧ TB (gm 28) (gm 29) (sg 24).toNatClampNeg) ∧ (∀ k, k < (sg 24).toNatClampNeg → (gm 32 k).toInt ≤ T) ∧ ∀ k, k < (sg 24).toNatClampNeg → 0 ≤ (lg 34 k).toInt
def RD (sg : Nat → Int32) (gm : Nat → Nat → Int32) (lg : Nat → Nat → Int64) (x d : Int32) (T : Int) : Prop := TR sg gm lg T ∧ (d.toInt = 0 ∨ (LV (gm 28) d.toInt.toNat x.toInt ∧ x.toInt < (sg 24).toInt ∧ 1 ≤ d.toInt))
theorem RD_keep {sg sg2 : Nat → Int32} {gm gm2 : Nat → Nat → Int32} {lg lg2 : Nat → Nat → Int64} {x d : Int32} {T T2 : Int} (h : RD sg gm lg x d T) (h24 : sg2 24 = sg 24) (h28 : gm2 28 = gm 28) (h29 : gm2 29 = gm 29) (h34 : lg2 34 = lg 34) (h32 : ∀ k, (gm2 32 k).toInt ≤ (gm 32 k).toInt + (T2 - T)) : RD sg2 gm2 lg2 x d T2 := by
  obtain ⟨⟨⟨a1, a2⟩, a3, a4⟩, a5⟩ := h
  unfold RD TR
  rw [h24, h28, h29, h34]
  exact ⟨⟨⟨a1, a2⟩, fun k hk => by have := a3 k hk; have := h32 k; omega, a4⟩, a5⟩
theorem RD_e {sg : Nat → Int32} {gm : Nat → Nat → Int32} {lg : Nat → Nat → Int64} {x d : Int32} {T : Int} (h : RD sg gm lg x d T) (hn : iv 0 80 (sg 24)) (hd : 1 ≤ d.toInt) : iv 0 79 x ∧ d.toInt ≤ x.toInt + 1 ∧ x.toInt < (sg 24).toInt ∧ x.toNatClampNeg < (sg 24).toNatClampNeg := by
  have k1 := iv_cl hn (by decide)
  have k2 := hn.2
  rcases h.2 with h0 | ⟨h1, h2, h3⟩
  · omega
  · obtain ⟨j, hj⟩ : ∃ j : Nat, d.toInt.toNat = j + 1 := ⟨d.toInt.toNat - 1, by omega⟩
    have h4 := LV_le h.1.1.1 d.toInt.toNat x.toInt (by omega) h1
    rw [hj] at h1
    have h5 : 0 ≤ x.toInt := h1.1
    have h6 : iv 0 79 x := ⟨h5, by omega⟩
    have k3 := iv_cl h6 (by decide)
    exact ⟨h6, by omega, h2, by omega⟩
theorem RD_out {sg : Nat → Int32} {gm : Nat → Nat → Int32} {lg : Nat → Nat → Int64} {x d x2 d2 : Int32} {T : Int} (h : RD sg gm lg x d T) (hn : iv 0 80 (sg 24)) (hd : 1 ≤ d.toInt) (hx : x2 = gm 28 x.toNatClampNeg) (h2 : d2.toInt = d.toInt - 1) : RD sg gm lg x2 d2 T := by
  obtain ⟨k1, k2, k3, k4⟩ := RD_e h hn hd
  have k5 := iv_cl k1 (by decide)
  refine ⟨h.1, ?_⟩
  by_cases h0 : d2.toInt = 0
  · exact Or.inl h0
  · rcases h.2 with q0 | ⟨q1, q2, q3⟩
    · omega
    · have hj : d.toInt.toNat = d2.toInt.toNat + 1 := by omega
      rw [hj] at q1
      have q4 := q1.2
      have hx3 : x.toInt.toNat = x.toNatClampNeg := rfl
      rw [hx3, ← hx] at q4
      have q5 := (h.1.1.1 x.toNatClampNeg k4).1
      rw [← hx] at q5
      exact Or.inr ⟨q4, by omega, by omega⟩
theorem updL_ne {f : Nat → Int64} {k j : Nat} {v : Int64} (h : j ≠ k) : vp_updL f k v j = f j := by
  show (if j = k then v else f j) = _
  rw [if_neg h]
theorem updL_at {f : Nat → Int64} {k : Nat} {v : Int64} : vp_updL f k v k = v := by
  show (if k = k then v else f k) = _
  rw [if_pos rfl]
theorem upd_ne {f : Nat → Int32} {k j : Nat} {v : Int32} (h : j ≠ k) : upd f k v j = f j := by
  show (if j = k then v else f j) = _
  rw [if_neg h]
theorem upd_at {f : Nat → Int32} {k : Nat} {v : Int32} : upd f k v k = v := by
  show (if k = k then v else f k) = _
  rw [if_pos rfl]
/-- begin makes the tree larger by one -/
theorem BG_TR {sg sg2 : Nat → Int32} {gm gm2 : Nat → Nat → Int32} {lg lg2 : Nat → Nat → Int64} {a r : Int32} {T T2 : Int} (hb : BG sg gm lg a sg2 gm2 lg2 r) (h : TR sg gm lg T) (hT : T ≤ T2) (h0 : 0 ≤ T2) (hn : iv 0 80 (sg 24)) (hn2 : iv 0 80 (sg2 24)) (ha : iv (-1) 79 a) (hlt : a.toInt < (sg 24).toInt) (hz : (sg 24).toInt = 0 ∨ 0 ≤ a.toInt) : TR sg2 gm2 lg2 T2 ∧ (sg2 24).toNatClampNeg = (sg 24).toNatClampNeg + 1 := by
  obtain ⟨b1, b2, b3, b4, b5, b6, nm, b7, b8⟩ := hb
  obtain ⟨⟨a1, a2⟩, a3, a4⟩ := h
  have k1 := iv_cl hn (by decide)
  have k2 := iv_cl hn2 (by decide)
  have k3 : (sg2 24).toNatClampNeg = (sg 24).toNatClampNeg + 1 := by omega
  have q1 := ha.1
  refine ⟨?_, k3⟩
  generalize hE : (sg 24).toNatClampNeg = E at *
  have fo : ∀ j, j < E → gm2 28 j = gm 28 j := fun j hj => by rw [b4, upd_ne (by omega)]
  have fE : gm2 28 E = a := by rw [b4, upd_at]
  have wk : ∀ k, k < E → (gm2 29 k).toInt = (gm 29 k).toInt + (if a.toInt = (k : Int) then 1 else 0) := by
    intro k hk
    rw [b5]
    unfold wth
    by_cases hm : a = -1
    · rw [if_pos hm, upd_ne (by omega), if_neg (by rw [hm]; show ¬ (-1 : Int) = k; omega)]
      omega
    · rw [if_neg hm]
      have hm2 : a.toInt ≠ -1 := fun q => hm (Int32.toInt_inj.mp q)
      have hav : iv 0 79 a := ⟨by omega, ha.2⟩
      have k5 := iv_cl hav (by decide)
      by_cases hk2 : k = a.toNatClampNeg
      · subst hk2
        rw [upd_at, upd_ne (by omega), if_pos (by omega)]
        have c1 := a2 a.toNatClampNeg hk
        have c2 := cntA_le (gm 28) a.toNatClampNeg E
        exact iv_addE (a := 0) (b := 79) (c := 1) (d := 1) ⟨by omega, by omega⟩ (iv_k (by decide)) (by decide)
      · rw [upd_ne hk2, upd_ne (by omega), if_neg (by omega)]
        omega
  have wE : (gm2 29 E).toInt = 0 := by
    rw [b5]
    unfold wth
    by_cases hm : a = -1
    · rw [if_pos hm, upd_at]; rfl
    · rw [if_neg hm]
      have hm2 : a.toInt ≠ -1 := fun q => hm (Int32.toInt_inj.mp q)
      have hav : iv 0 79 a := ⟨by omega, ha.2⟩
      have k5 := iv_cl hav (by decide)
      rw [upd_ne (by omega), upd_at]; rfl
  have cc : ∀ k, cntA (gm2 28) k (E + 1) = cntA (gm 28) k E + (if a.toInt = (k : Int) then 1 else 0) := by
    intro k
    show cntA (gm2 28) k E + _ = _
    rw [cntA_congr fo, fE]
  unfold TR
  rw [k3]
  refine ⟨⟨?_, ?_⟩, ?_, ?_⟩
  · intro k hk
    by_cases hk2 : k = E
    · subst hk2; rw [fE]; exact ⟨by omega, by omega⟩
    · rw [fo k (by omega)]; exact a1 k (by omega)
  · intro k hk
    rw [cc k]
    by_cases hk2 : k = E
    · subst hk2
      rw [wE, cntA_0 a1 (Nat.le_refl _) _ (Nat.le_refl _), if_neg (by omega)]
      rfl
    · rw [wk k (by omega), a2 k (by omega)]
      split <;> simp
  · intro k hk
    rw [b6]
    by_cases hk2 : k = E
    · subst hk2; rw [upd_at]; exact h0
    · rw [upd_ne hk2]; exact Int.le_trans (a3 k (by omega)) hT
  · intro k hk
    rw [b8]
    by_cases hk2 : k = E
    · subst hk2; rw [updL_at]; exact b7
    · rw [updL_ne hk2]; exact a4 k (by omega)
theorem RD_in {sg sg2 : Nat → Int32} {gm gm2 : Nat → Nat → Int32} {lg lg2 : Nat → Nat → Int64} {a d d2 r : Int32} {T T2 : Int} (hb : BG sg gm lg a sg2 gm2 lg2 r) (h : RD sg gm lg a d T) (hT : T ≤ T2) (h0 : 0 ≤ T2) (hn : iv 0 80 (sg 24)) (hn2 : iv 0 80 (sg2 24)) (hd : 1 ≤ d.toInt) (h2 : d2.toInt = d.toInt + 1) : RD sg2 gm2 lg2 r d2 T2 := by
  obtain ⟨k1, k2, k3, k4⟩ := RD_e h hn hd
  obtain ⟨t1, t2⟩ := BG_TR hb h.1 hT h0 hn hn2 (iv_w k1 (by decide)) k3 (Or.inr k1.1)
  refine ⟨t1, Or.inr ?_⟩
  obtain ⟨b1, b2, b3, b4, _⟩ := hb
  have q1 := iv_cl hn (by decide)
  rcases h.2 with q0 | ⟨l1, l2, l3⟩
  · omega
  have hj : d2.toInt.toNat = d.toInt.toNat + 1 := by omega
  rw [hj, b1]
  refine ⟨⟨hn.1, ?_⟩, by omega, by omega⟩
  have e9 : (sg 24).toInt.toNat = (sg 24).toNatClampNeg := rfl
  rw [e9]
  have f1 : gm2 28 (sg 24).toNatClampNeg = a := by rw [b4, upd_at]
  rw [f1]
  exact LV_congr h.1.1.1 (fun j hj9 => by rw [b4, upd_ne (by omega)]) _ _ (by omega) l1
theorem RD_by {sg sg2 : Nat → Int32} {gm gm2 : Nat → Nat → Int32} {lg lg2 : Nat → Nat → Int64} {a d r : Int32} {T T2 : Int} (hb : BG sg gm lg a sg2 gm2 lg2 r) (h : RD sg gm lg a d T) (hT : T ≤ T2) (h0 : 0 ≤ T2) (hn : iv 0 80 (sg 24)) (hn2 : iv 0 80 (sg2 24)) (hd : 1 ≤ d.toInt) : RD sg2 gm2 lg2 a d T2 := by
  obtain ⟨k1, k2, k3, k4⟩ := RD_e h hn hd
  obtain ⟨t1, t2⟩ := BG_TR hb h.1 hT h0 hn hn2 (iv_w k1 (by decide)) k3 (Or.inr k1.1)
  refine ⟨t1, Or.inr ?_⟩
  obtain ⟨b1, b2, b3, b4, _⟩ := hb
  have q1 := iv_cl hn (by decide)
  rcases h.2 with q0 | ⟨l1, l2, l3⟩
  · omega
  exact ⟨LV_congr h.1.1.1 (fun j hj9 => by rw [b4, upd_ne (by omega)]) _ _ (by omega) l1, by omega, l3⟩
theorem RD_1 {sg sg2 : Nat → Int32} {gm gm2 : Nat → Nat → Int32} {lg lg2 : Nat → Nat → Int64} {r : Int32} {T2 : Int} (hb : BG sg gm lg (-1) sg2 gm2 lg2 r) (h : (sg 24).toInt = 0) (h0 : 0 ≤ T2) (hn2 : iv 0 80 (sg2 24)) : RD sg2 gm2 lg2 r 1 T2 := by
  have hn : iv 0 80 (sg 24) := ⟨by omega, by omega⟩
  have q1 := iv_cl hn (by decide)
  have e0 : (sg 24).toNatClampNeg = 0 := by omega
  obtain ⟨t1, t2⟩ := BG_TR (T := 0) hb ⟨⟨fun k hk => by omega, fun k hk => by omega⟩, fun k hk => by omega, fun k hk => by omega⟩ h0 h0 hn hn2 (iv_k (by decide)) (by rw [h]; decide) (Or.inl h)
  obtain ⟨b1, b2, b3, b4, _⟩ := hb
  refine ⟨t1, Or.inr ⟨?_, by rw [b1]; omega, by decide⟩⟩
  rw [b1, h]
  refine ⟨by decide, ?_⟩
  show (gm2 28 0).toInt = -1
  rw [b4, e0, upd_at]
  rfl
theorem RD_0 {sg : Nat → Int32} {gm : Nat → Nat → Int32} {lg : Nat → Nat → Int64} {x d : Int32} {T : Int} (h : RD sg gm lg x d T) : RD sg gm lg x 0 T := ⟨h.1, Or.inl rfl⟩
theorem RD_w {sg : Nat → Int32} {gm : Nat → Nat → Int32} {lg : Nat → Nat → Int64} {x d : Int32} {T T2 : Int} (h : RD sg gm lg x d T) (hT : T ≤ T2) : RD sg gm lg x d T2 := RD_keep h rfl rfl rfl rfl (fun k => by omega)
theorem RD_wi {sg : Nat → Int32} {gm : Nat → Nat → Int32} {lg : Nat → Nat → Int64} {x d : Int32} {T : Int} (h : RD sg gm lg x d T) (hn : iv 0 80 (sg 24)) (hd : 1 ≤ d.toInt) : (gm 29 x.toNatClampNeg).toInt ≤ (sg 24).toInt := by
  obtain ⟨k1, k2, k3, k4⟩ := RD_e h hn hd
  have k5 := iv_cl hn (by decide)
  have k6 := h.1.1.2 x.toNatClampNeg k4
  have k7 := cntA_le (gm 28) x.toNatClampNeg (sg 24).toNatClampNeg
  omega
/-- the tree when all is read -/
def TRE (sg : Nat → Int32) (gm : Nat → Nat → Int32) : Prop := TA (gm 28) (sg 24).toNatClampNeg ∧ TB (gm 28) (gm 29) (sg 24).toNatClampNeg
theorem TRE_keep {sg sg2 : Nat → Int32} {gm gm2 : Nat → Nat → Int32} (h : TRE sg gm) (h24 : sg2 24 = sg 24) (h28 : gm2 28 = gm 28) (h29 : gm2 29 = gm 29) : TRE sg2 gm2 := by
  unfold TRE at *
  rw [h24, h28, h29]
  exact h
end
section
theorem iv_255 (x : Int32) : iv 0 255 (x &&& 255) := by
  have k : (x &&& 255).toInt = ((x &&& 255).toBitVec.toNat : Int) := by
    show (x &&& 255).toBitVec.toInt = _
    rw [BitVec.toInt_eq_toNat_of_msb]
    show (x.toBitVec &&& 255#32).msb = false
    rw [BitVec.msb_and]
    exact Bool.and_false _
  have k2 : (x &&& 255).toBitVec.toNat ≤ 255 := by
    show (x.toBitVec &&& 255#32).toNat ≤ 255
    rw [BitVec.toNat_and]
    exact Nat.and_le_right
  exact ⟨by omega, by omega⟩
theorem i32_div {x k : Int32} (h : 0 ≤ x.toInt) (hk : 0 < k.toInt) : (x / k).toInt = x.toInt / k.toInt := by
  have h1 := Int.ediv_nonneg h (Int.le_of_lt hk)
  have h2 := Int.ediv_le_self k.toInt h
  have h3 := Int32.toInt_lt x
  rw [Int32.toInt_div, Int.tdiv_eq_ediv_of_nonneg h, i32_bm ⟨by omega, by omega⟩]
theorem iv_div {a b lo hi : Int} {x k : Int32} (h : iv a b x) (q : 0 ≤ a ∧ 0 < k.toInt) (q2 : lo ≤ a / k.toInt ∧ b / k.toInt ≤ hi) : iv lo hi (x / k) := by
  have h1 := i32_div (x := x) (k := k) (Int.le_trans q.1 h.1) q.2
  have h2 := Int.ediv_le_ediv q.2 h.1
  have h3 := Int.ediv_le_ediv q.2 h.2
  exact ⟨by omega, by omega⟩
theorem iv_rem {a b lo hi : Int} {x k : Int32} (h : iv a b x) (q : 0 ≤ a ∧ 0 < k.toInt) (q2 : lo ≤ 0 ∧ k.toInt - 1 ≤ hi) : iv lo hi (x - x / k * k) := by
  have h0 := Int.le_trans q.1 h.1
  have h1 := i32_div (x := x) (k := k) h0 q.2
  have h2 := Int.ediv_mul_le x.toInt (b := k.toInt) (by omega)
  have h3 := Int.lt_ediv_add_one_mul_self x.toInt q.2
  have h4 : 0 ≤ x.toInt / k.toInt * k.toInt := Int.mul_nonneg (Int.ediv_nonneg h0 (Int.le_of_lt q.2)) (Int.le_of_lt q.2)
  have h5 := Int32.toInt_lt x
  rw [Int.add_mul, Int.one_mul] at h3
  have h6 : (x / k * k).toInt = x.toInt / k.toInt * k.toInt := by
    rw [Int32.toInt_mul, h1, i32_bm ⟨by omega, by omega⟩]
  have h7 : (x - x / k * k).toInt = x.toInt - x.toInt / k.toInt * k.toInt := by
    rw [Int32.toInt_sub, h6, i32_bm ⟨by omega, by omega⟩]
  exact ⟨by omega, by omega⟩
/-- the word of the five that holds letter k -/
def tyW (p1 p2 p3 p4 p5 : Int32) (k : Int) : Int32 := if k < 4 then p1 else if k < 8 then p2 else if k < 12 then p3 else if k < 16 then p4 else p5
def tyS (p1 p2 p3 p4 p5 i : Int32) : Int32 := (tyW p1 p2 p3 p4 p5 i.toInt >>> ((24 - 8 * (i - i / 4 * 4)) &&& 31)) &&& 255
def tyN (p1 p2 p3 p4 p5 : Int32) : Nat → Nat
  | 0 => 0
  | k + 1 => tyN p1 p2 p3 p4 p5 k + (if tyS p1 p2 p3 p4 p5 (nI k) = 0 then 0 else 1)
def TYA (p1 p2 p3 p4 p5 : Int32) (n : Nat) : Prop := ∀ j, j < n → (tyS p1 p2 p3 p4 p5 (nI j)).toInt ≤ 126
theorem tyN_le (p1 p2 p3 p4 p5 : Int32) : ∀ k, tyN p1 p2 p3 p4 p5 k ≤ k := by
  intro k
  induction k with
  | zero => exact Nat.le_refl 0
  | succ k ih =>
    show tyN p1 p2 p3 p4 p5 k + _ ≤ k + 1
    split <;> omega
theorem tyN_mono (p1 p2 p3 p4 p5 : Int32) (j : Nat) : ∀ k, j ≤ k → tyN p1 p2 p3 p4 p5 j ≤ tyN p1 p2 p3 p4 p5 k := by
  intro k
  induction k with
  | zero => intro h; have h0 : j = 0 := by omega
            subst h0; exact Nat.le_refl _
  | succ k ih =>
    intro h
    by_cases hj : j = k + 1
    · subst hj; exact Nat.le_refl _
    · have := ih (by omega)
      show _ ≤ tyN p1 p2 p3 p4 p5 k + _
      omega
theorem ty_z {p1 p2 p3 p4 p5 i z n t x : Int32} (hi : iv 0 19 i) (hz : z.toInt = n.toInt + t.toInt) (hn : n.toInt = (tyN p1 p2 p3 p4 p5 i.toNatClampNeg : Int)) (hs : x = tyS p1 p2 p3 p4 p5 i) (ht : (x = 0 ∧ t = 0) ∨ (¬ x = 0 ∧ t = 1)) : z.toInt = (tyN p1 p2 p3 p4 p5 (i.toNatClampNeg + 1) : Int) ∧ iv 0 20 z := by
  have k1 := iv_cl hi (by decide)
  have k2 := hi.2
  have k3 := tyN_le p1 p2 p3 p4 p5 (i.toNatClampNeg + 1)
  have k4 : z.toInt = (tyN p1 p2 p3 p4 p5 (i.toNatClampNeg + 1) : Int) := by
    show _ = ((tyN p1 p2 p3 p4 p5 i.toNatClampNeg + _ : Nat) : Int)
    rw [iv_nI hi (by decide), ← hs]
    rcases ht with ⟨h1, h2⟩ | ⟨h1, h2⟩
    · rw [if_pos h1, hz, hn, h2]; rfl
    · rw [if_neg h1, hz, hn, h2]; rfl
  exact ⟨k4, by omega, by omega⟩
theorem ty_a {p1 p2 p3 p4 p5 i x : Int32} (hi : iv 0 19 i) (h : TYA p1 p2 p3 p4 p5 i.toNatClampNeg) (hs : x = tyS p1 p2 p3 p4 p5 i) (hx : x.toInt ≤ 126) : TYA p1 p2 p3 p4 p5 (i.toNatClampNeg + 1) := by
  intro j hj
  by_cases e9 : j = i.toNatClampNeg
  · subst e9; rw [iv_nI hi (by decide), ← hs]; exact hx
  · exact h j (by omega)
theorem ty_in {p1 p2 p3 p4 p5 i x : Int32} (hi : iv 0 19 i) (h : TYA p1 p2 p3 p4 p5 20) (hs : x = tyS p1 p2 p3 p4 p5 i) : x.toInt ≤ 126 := by
  have k1 := iv_cl hi (by decide)
  have k2 := hi.2
  have k3 := h i.toNatClampNeg (by omega)
  rw [iv_nI hi (by decide), ← hs] at k3
  exact k3
theorem ty_1 {p1 p2 p3 p4 p5 i x : Int32} (hi : iv 0 19 i) (hs : x = tyS p1 p2 p3 p4 p5 i) (hx : ¬ x = 0) : tyN p1 p2 p3 p4 p5 (i.toNatClampNeg + 1) = tyN p1 p2 p3 p4 p5 i.toNatClampNeg + 1 ∧ tyN p1 p2 p3 p4 p5 (i.toNatClampNeg + 1) ≤ tyN p1 p2 p3 p4 p5 20 := by
  have k1 := iv_cl hi (by decide)
  have k2 := hi.2
  refine ⟨?_, tyN_mono _ _ _ _ _ _ _ (by omega)⟩
  show _ + _ = _
  rw [iv_nI hi (by decide), ← hs, if_neg hx]
theorem ty_0 {p1 p2 p3 p4 p5 i x : Int32} (hi : iv 0 19 i) (hs : x = tyS p1 p2 p3 p4 p5 i) (hx : x = 0) : tyN p1 p2 p3 p4 p5 (i.toNatClampNeg + 1) = tyN p1 p2 p3 p4 p5 i.toNatClampNeg := by
  show _ + _ = _
  rw [iv_nI hi (by decide), ← hs, if_pos hx]
  rfl
theorem cl_s {i z : Int32} (hi : iv 0 19 i) (h : z.toInt = i.toInt + 1) : z.toNatClampNeg = i.toNatClampNeg + 1 := by
  have k1 := iv_cl hi (by decide)
  have k0 := hi.1
  have k2 := hi.2
  have hz : iv 0 20 z := ⟨by omega, by omega⟩
  have k3 := iv_cl hz (by decide)
  omega
end
section
theorem MMi_imp {l : Launch} {dC : Nat → ClassId} {dI : Nat → Nat → Nat} {y : MethodName} {ws : List Cond} {rm : Room} {h0 : Nat} {ad : Nat → Nat} {cid : Nat → ClassId} {as : List Value} {sg : Nat → Int32} {gm : Nat → Nat → Int32} {lg : Nat → Nat → Int64} {post post' : Int32 → MSt → Prop} (h : MMi l dC dI y ws rm h0 ad cid as sg gm lg post) (q : ∀ r v, post r v → post' r v) : MMi l dC dI y ws rm h0 ad cid as sg gm lg post' := by
  intro sz p e h1 h2 h3 s m args below hf hs hp hk
  obtain ⟨n, o, a1, a2, a3, ⟨⟨r, u, b1, b2, b3⟩, b4⟩, b5⟩ := h sz p e h1 h2 h3 s m args below hf hs hp hk
  exact ⟨n, o, a1, a2, a3, ⟨⟨r, u, b1, q r u b2, b3⟩, b4⟩, b5⟩
theorem mAtt_of {sg : Nat → Int32} {gm : Nat → Nat → Int32} (h : MI sg gm) {x : Int32} (hx : iv 0 79 x) : mAtt gm x.toNatClampNeg := by
  have k1 := iv_cl hx (by decide)
  have k2 := hx.2
  have a1 : iv 0 12 (gm 30 x.toNatClampNeg) := h.2 30 _ (show _ < 80 by omega)
  have a2 := iv_cl a1 (by decide)
  have a3 := a1.2
  refine ⟨(gm 30 x.toNatClampNeg).toNatClampNeg, by omega, (iv_nI a1 (by decide)).symm, fun j hj => ?_⟩
  have b1 : iv 0 1201 (gm 36 (12 * x.toNatClampNeg + j)) := h.2 36 _ (show _ < 960 by omega)
  have b2 : iv 0 24 (gm 37 (12 * x.toNatClampNeg + j)) := h.2 37 _ (show _ < 960 by omega)
  have b3 := iv_cl b1 (by decide)
  have b4 := iv_cl b2 (by decide)
  have b5 := b1.2
  have b6 := b2.2
  exact ⟨_, _, (iv_nI b1 (by decide)).symm, (iv_nI b2 (by decide)).symm, by omega, by omega⟩
theorem mFind_iv {sg : Nat → Int32} {gm : Nat → Nat → Int32} {lg : Nat → Nat → Int64} (h : MI sg gm) {x : Int32} (hx : iv 0 79 x) (nn : Int64) : iv (-1) 959 (mFind gm lg x.toNatClampNeg nn) := by
  obtain ⟨a, h1, h2, _⟩ := mAtt_of h hx
  rcases mFind_or (lg := lg) nn h1 h2 with h3 | ⟨j, h4, h5⟩
  · rw [h3]; exact iv_k (by decide)
  · have k1 := iv_cl hx (by decide)
    have k2 := hx.2
    rw [h5]
    refine ⟨?_, ?_⟩ <;> rw [nI_toInt (by omega)] <;> omega
theorem mHas_iv {gm : Nat → Nat → Int32} {lg : Nat → Nat → Int64} {x : Nat} (nn : Int64) : iv 0 1 (mHas gm lg x nn) := by
  unfold mHas; split <;> exact iv_k (by decide)
theorem allF_iv (ch : Nat → Int32) (q : Nat) : ∀ n i, iv 0 1 (allF ch q n i) := by
  intro n
  induction n with
  | zero => intro i; exact (iv_k (by decide) : iv 0 1 1)
  | succ n ih =>
    intro i
    have e1 : allF ch q (n + 1) i = if mSmall (ch (q + i)) = 0 then 0 else allF ch q n (i + 1) := rfl
    rw [e1]
    by_cases h : mSmall (ch (q + i)) = 0
    · rw [if_pos h]; exact (iv_k (by decide) : iv 0 1 0)
    · rw [if_neg h]; exact ih _
theorem mIsW_iv {gm : Nat → Nat → Int32} {lg : Nat → Nat → Int64} {x : Nat} (nn : Int64) : iv 0 1 (mIsW gm lg x nn) := by
  unfold mIsW; (repeat' split) <;> first | exact iv_k (by decide) | exact allF_iv _ _ _ _

theorem f_find (l : Launch) (dC : Nat → ClassId) (dI : Nat → Nat → Nat) (h0 : Nat) (ad : Nat → Nat) (cid : Nat → ClassId) (sg : Nat → Int32) (gm : Nat → Nat → Int32) (lg : Nat → Nat → Int64) (x : Int32) (nn : Int64) (hI : MI sg gm) (hvx : iv 0 79 x) : MMi l dC dI yX13_find wm_X13_find ({ frames := 0, cells := 0, slots := 0, locals := 0 }) h0 ad cid [.int x, .long nn] sg gm lg (fun r v => (iv (-1) 959 r) ∧ (r = mFind gm lg x.toNatClampNeg nn) ∧ v = (sg, gm, lg)) := by
  have h := k_find l dC dI h0 ad cid sg gm lg x.toNatClampNeg nn (by have k1 := iv_cl hvx (by decide); have k2 := hvx.2; omega) (mAtt_of hI hvx)
  rw [iv_nI hvx (by decide)] at h
  exact MMi_imp h (fun r v q => ⟨by rw [q.1]; exact mFind_iv hI hvx nn, q.1, q.2⟩)

theorem f_has (l : Launch) (dC : Nat → ClassId) (dI : Nat → Nat → Nat) (h0 : Nat) (ad : Nat → Nat) (cid : Nat → ClassId) (sg : Nat → Int32) (gm : Nat → Nat → Int32) (lg : Nat → Nat → Int64) (x : Int32) (nn : Int64) (hI : MI sg gm) (hvx : iv 0 79 x) : MMi l dC dI yX13_has wm_X13_has ({ frames := 1, cells := 0, slots := 0, locals := 24 }) h0 ad cid [.int x, .long nn] sg gm lg (fun r v => (iv 0 1 r) ∧ (r = mHas gm lg x.toNatClampNeg nn) ∧ v = (sg, gm, lg)) := by
  have h := k_has l dC dI h0 ad cid sg gm lg x.toNatClampNeg nn (by have k1 := iv_cl hvx (by decide); have k2 := hvx.2; omega) (mAtt_of hI hvx)
  rw [iv_nI hvx (by decide)] at h
  exact MMi_imp h (fun r v q => ⟨by rw [q.1]; exact mHas_iv nn, q.1, q.2⟩)

theorem f_word (l : Launch) (dC : Nat → ClassId) (dI : Nat → Nat → Nat) (h0 : Nat) (ad : Nat → Nat) (cid : Nat → ClassId) (sg : Nat → Int32) (gm : Nat → Nat → Int32) (lg : Nat → Nat → Int64) (x : Int32) (nn : Int64) (hI : MI sg gm) (hvx : iv 0 79 x) : MMl l dC dI yX13_word wm_X13_word ({ frames := 1, cells := 0, slots := 0, locals := 24 }) h0 ad cid [.int x, .long nn] sg gm lg (fun r v => (r = mWord gm lg x.toNatClampNeg nn) ∧ v = (sg, gm, lg)) := by
  have h := k_word l dC dI h0 ad cid sg gm lg x.toNatClampNeg nn (by have k1 := iv_cl hvx (by decide); have k2 := hvx.2; omega) (mAtt_of hI hvx)
  rw [iv_nI hvx (by decide)] at h
  exact h

theorem f_isWord (l : Launch) (dC : Nat → ClassId) (dI : Nat → Nat → Nat) (h0 : Nat) (ad : Nat → Nat) (cid : Nat → ClassId) (sg : Nat → Int32) (gm : Nat → Nat → Int32) (lg : Nat → Nat → Int64) (x : Int32) (nn : Int64) (hI : MI sg gm) (hvx : iv 0 79 x) : MMi l dC dI yX13_isWord wm_X13_isWord ({ frames := 1, cells := 0, slots := 0, locals := 24 }) h0 ad cid [.int x, .long nn] sg gm lg (fun r v => (iv 0 1 r) ∧ (r = mIsW gm lg x.toNatClampNeg nn) ∧ v = (sg, gm, lg)) := by
  have h := k_isWord l dC dI h0 ad cid sg gm lg x.toNatClampNeg nn (by have k1 := iv_cl hvx (by decide); have k2 := hvx.2; omega) (mAtt_of hI hvx)
  rw [iv_nI hvx (by decide)] at h
  exact MMi_imp h (fun r v q => ⟨by rw [q.1]; exact mIsW_iv nn, q.1, q.2⟩)

def OL (gm : Nat → Nat → Int32) (lg : Nat → Nat → Int64) (e : Nat) (nn : Int64) : Prop := 97 ≤ (mWord gm lg e nn).toInt ∧ (mWord gm lg e nn).toInt ≤ 122
/-- e holds one thing: its value, its ref, or what stands within it -/
def HOLD (gm : Nat → Nat → Int32) (lg : Nat → Nat → Int64) (e : Nat) : Prop := ((¬ mHas gm lg e 508440638821 = 0 ∨ ¬ mHas gm lg e 7497062 = 0) ∧ (gm 29 e).toInt = 0) ∨ (mHas gm lg e 508440638821 = 0 ∧ mHas gm lg e 7497062 = 0 ∧ (gm 29 e).toInt = 1)
def ahN (gm : Nat → Nat → Int32) (e : Nat) : Nat → Nat
  | 0 => 0
  | k + 1 => ahN gm e k + (if gm 28 k = gm 28 e ∧ gm 26 k = gm 26 e then 1 else 0)
/-- what is known of an element where nothing is wrong -/
def GOOD (gm : Nat → Nat → Int32) (lg : Nat → Nat → Int64) (e : Nat) : Prop := ((gm 26 e).toInt = 4 ∨ (gm 26 e).toInt = 5 → HOLD gm lg e) ∧ ((gm 26 e).toInt = 4 → ahN gm e e < 4 ∧ (mHas gm lg e 24948 = 0 ∨ (48 ≤ (mWord gm lg e 24948).toInt ∧ (mWord gm lg e 24948).toInt ≤ 50))) ∧ ((gm 26 e).toInt = 5 ∨ (gm 26 e).toInt = 10 → OL gm lg e 1851878757) ∧ ((gm 26 e).toInt = 6 → (gm 29 e).toInt ≤ 6)
theorem GOOD_o {gm : Nat → Nat → Int32} {lg : Nat → Nat → Int64} {e : Nat} (h : (gm 26 e).toInt ≠ 4 ∧ (gm 26 e).toInt ≠ 5 ∧ (gm 26 e).toInt ≠ 6 ∧ (gm 26 e).toInt ≠ 10) : GOOD gm lg e := ⟨fun q => absurd q (by omega), fun q => absurd q (by omega), fun q => absurd q (by omega), fun q => absurd q (by omega)⟩
theorem GOOD_4 {gm : Nat → Nat → Int32} {lg : Nat → Nat → Int64} {e : Nat} (h : (gm 26 e).toInt = 4) (h1 : HOLD gm lg e) (h2 : ahN gm e e < 4) (h3 : mHas gm lg e 24948 = 0 ∨ (48 ≤ (mWord gm lg e 24948).toInt ∧ (mWord gm lg e 24948).toInt ≤ 50)) : GOOD gm lg e := ⟨fun _ => h1, fun _ => ⟨h2, h3⟩, fun q => absurd q (by omega), fun q => absurd q (by omega)⟩
theorem GOOD_5 {gm : Nat → Nat → Int32} {lg : Nat → Nat → Int64} {e : Nat} (h : (gm 26 e).toInt = 5) (h1 : HOLD gm lg e) (h2 : OL gm lg e 1851878757) : GOOD gm lg e := ⟨fun _ => h1, fun q => absurd q (by omega), fun _ => h2, fun q => absurd q (by omega)⟩
theorem GOOD_6 {gm : Nat → Nat → Int32} {lg : Nat → Nat → Int64} {e : Nat} (h : (gm 26 e).toInt = 6) (h1 : (gm 29 e).toInt ≤ 6) : GOOD gm lg e := ⟨fun q => absurd q (by omega), fun q => absurd q (by omega), fun q => absurd q (by omega), fun _ => h1⟩
theorem GOOD_10 {gm : Nat → Nat → Int32} {lg : Nat → Nat → Int64} {e : Nat} (h : (gm 26 e).toInt = 10) (h2 : OL gm lg e 1851878757) : GOOD gm lg e := ⟨fun q => absurd q (by omega), fun q => absurd q (by omega), fun _ => h2, fun q => absurd q (by omega)⟩
end
section
def fstB (q : Nat → Bool) : Nat → Nat → Int32
  | 0, _ => -1
  | n + 1, j => if q j = true then nI j else fstB q n (j + 1)
/-- from a on below b nothing is hit -/
def NHB (q : Nat → Bool) (a b : Nat) : Prop := ∀ k, a ≤ k → k < b → q k = false
theorem NHB_0 {q : Nat → Bool} {a : Nat} : NHB q a a := fun k h1 h2 => by omega
theorem NHB_s {q : Nat → Bool} {a b : Nat} (h : NHB q a b) (hb : q b = false) : NHB q a (b + 1) := fun k h1 h2 => by
  by_cases hk : k = b
  · subst hk; exact hb
  · exact h k h1 (by omega)
theorem fst_no {q : Nat → Bool} : ∀ (n j : Nat), NHB q j (j + n) → fstB q n j = -1 := by
  intro n
  induction n with
  | zero => intro j _; rfl
  | succ n ih =>
    intro j h
    show (if _ then _ else _) = _
    rw [if_neg (by rw [h j (by omega) (by omega)]; decide)]
    exact ih (j + 1) (fun k h1 h2 => h k (by omega) (by omega))
theorem fst_hit {q : Nat → Bool} : ∀ (i n j : Nat), i < n → NHB q j (j + i) → q (j + i) = true → fstB q n j = nI (j + i) := by
  intro i
  induction i with
  | zero =>
    intro n j h1 _ h3
    obtain ⟨c, rfl⟩ : ∃ c, n = c + 1 := ⟨n - 1, by omega⟩
    show (if _ then _ else _) = _
    rw [if_pos (by exact h3)]
    rfl
  | succ i ih =>
    intro n j h1 h2 h3
    obtain ⟨c, rfl⟩ : ∃ c, n = c + 1 := ⟨n - 1, by omega⟩
    show (if _ then _ else _) = _
    rw [if_neg (by rw [h2 j (by omega) (by omega)]; decide)]
    have e1 : j + (i + 1) = j + 1 + i := by omega
    rw [e1] at h2 h3 ⊢
    exact ih c (j + 1) (by omega) (fun k k1 k2 => h2 k (by omega) (by omega)) h3
theorem fst_or (q : Nat → Bool) (n j : Nat) : (fstB q n j = -1 ∧ NHB q j (j + n)) ∨ ∃ i, i < n ∧ fstB q n j = nI (j + i) ∧ q (j + i) = true ∧ NHB q j (j + i) := by
  by_cases h : ∃ i, i < n ∧ q (j + i) = true ∧ NHB q j (j + i)
  · obtain ⟨i, h1, h2, h3⟩ := h
    exact Or.inr ⟨i, h1, fst_hit i n j h1 h3 h2, h2, h3⟩
  · have h2 : ∀ i, i ≤ n → NHB q j (j + i) := by
      intro i
      induction i with
      | zero => intro _; exact NHB_0
      | succ i ih =>
        intro hi
        have h4 := ih (by omega)
        refine NHB_s (b := j + i) h4 ?_
        cases hq : q (j + i) with
        | false => rfl
        | true => exact absurd ⟨i, by omega, hq, h4⟩ h
    exact Or.inl ⟨fst_no n j (h2 n (Nat.le_refl n)), h2 n (Nat.le_refl n)⟩
def qWid (gm : Nat → Nat → Int32) (lg : Nat → Nat → Int64) (w : Int64) (j : Nat) : Bool := decide (gm 28 (gm 42 j).toNatClampNeg = 0) && decide (mWord gm lg (gm 42 j).toNatClampNeg 26980 = w)
theorem qW_t {gm : Nat → Nat → Int32} {lg : Nat → Nat → Int64} {w : Int64} {j : Nat} (h1 : gm 28 (gm 42 j).toNatClampNeg = 0) (h2 : mWord gm lg (gm 42 j).toNatClampNeg 26980 = w) : qWid gm lg w j = true := by
  unfold qWid; rw [decide_eq_true h1, decide_eq_true h2]; rfl
theorem qW_1 {gm : Nat → Nat → Int32} {lg : Nat → Nat → Int64} {w : Int64} {j : Nat} (h1 : ¬ gm 28 (gm 42 j).toNatClampNeg = 0) : qWid gm lg w j = false := by
  unfold qWid; rw [decide_eq_false h1]; rfl
theorem qW_2 {gm : Nat → Nat → Int32} {lg : Nat → Nat → Int64} {w : Int64} {j : Nat} (h1 : ¬ mWord gm lg (gm 42 j).toNatClampNeg 26980 = w) : qWid gm lg w j = false := by
  unfold qWid; rw [decide_eq_false h1, Bool.and_false]
def mWid (sg : Nat → Int32) (gm : Nat → Nat → Int32) (lg : Nat → Nat → Int64) (w : Int64) : Int32 := fstB (qWid gm lg w) (sg 41).toNatClampNeg 0
theorem wid_no {sg : Nat → Int32} {gm : Nat → Nat → Int32} {lg : Nat → Nat → Int64} {w : Int64} {x : Int32} (hn : iv 0 80 (sg 41)) (hx : iv 0 80 x) (hl : (sg 41).toInt ≤ x.toInt) (h : NHB (qWid gm lg w) 0 x.toNatClampNeg) : (-1 : Int32) = mWid sg gm lg w := by
  have k1 := iv_cl hn (by decide)
  have k2 := iv_cl hx (by decide)
  exact (fst_no _ 0 (fun k q1 q2 => h k q1 (by omega))).symm
theorem wid_hit {sg : Nat → Int32} {gm : Nat → Nat → Int32} {lg : Nat → Nat → Int64} {w : Int64} {x : Int32} (hn : iv 0 80 (sg 41)) (hx : iv 0 79 x) (hl : x.toInt < (sg 41).toInt) (h : NHB (qWid gm lg w) 0 x.toNatClampNeg) (hq : qWid gm lg w x.toNatClampNeg = true) : x = mWid sg gm lg w := by
  have k1 := iv_cl hn (by decide)
  have k2 := iv_cl hx (by decide)
  have k3 := fst_hit (q := qWid gm lg w) x.toNatClampNeg (sg 41).toNatClampNeg 0 (by omega) (by rw [Nat.zero_add]; exact h) (by rw [Nat.zero_add]; exact hq)
  rw [Nat.zero_add, iv_nI hx (by decide)] at k3
  exact k3.symm
def mPar (sg : Nat → Int32) (gm : Nat → Nat → Int32) (lg : Nat → Nat → Int64) (b : Int32) : Int32 := if mHas gm lg (gm 42 b.toNatClampNeg).toNatClampNeg 123563833388660 = 0 then -1 else mWid sg gm lg (mWord gm lg (gm 42 b.toNatClampNeg).toNatClampNeg 123563833388660)
theorem mWid_iv {sg : Nat → Int32} {gm : Nat → Nat → Int32} {lg : Nat → Nat → Int64} (w : Int64) (hn : iv 0 80 (sg 41)) : iv (-1) 79 (mWid sg gm lg w) ∧ ((mWid sg gm lg w).toInt < (sg 41).toInt ∨ mWid sg gm lg w = -1) := by
  have k1 := iv_cl hn (by decide)
  have k2 := hn.2
  rcases fst_or (qWid gm lg w) (sg 41).toNatClampNeg 0 with h | ⟨i, h1, h2, _⟩
  · have h3 : mWid sg gm lg w = -1 := h.1
    rw [h3]; exact ⟨iv_k (by decide), Or.inr rfl⟩
  · rw [Nat.zero_add] at h2
    have h3 : mWid sg gm lg w = nI i := h2
    rw [h3]
    have h4 : (nI i).toInt = i := nI_toInt (by omega)
    exact ⟨⟨by omega, by omega⟩, Or.inl (by omega)⟩
theorem mPar_iv {sg : Nat → Int32} {gm : Nat → Nat → Int32} {lg : Nat → Nat → Int64} (b : Int32) (hn : iv 0 80 (sg 41)) : iv (-1) 79 (mPar sg gm lg b) ∧ ((mPar sg gm lg b).toInt < (sg 41).toInt ∨ mPar sg gm lg b = -1) := by
  unfold mPar
  split
  · exact ⟨iv_k (by decide), Or.inr rfl⟩
  · exact mWid_iv _ hn
/-- n steps along f, until none -/
def itF (f : Int32 → Int32) : Nat → Int32 → Int32
  | 0, b => b
  | n + 1, b => if b = -1 then -1 else itF f n (f b)
theorem itF_m1 (f : Int32 → Int32) : ∀ n, itF f n (-1) = -1 := by
  intro n
  cases n with
  | zero => rfl
  | succ n => show (if _ then _ else _) = _; rw [if_pos rfl]
theorem itF_add (f : Int32 → Int32) (m : Nat) : ∀ (n : Nat) (b : Int32), itF f (n + m) b = itF f m (itF f n b) := by
  intro n
  induction n with
  | zero => intro b; rw [Nat.zero_add]; rfl
  | succ n ih =>
    intro b
    rw [Nat.succ_add]
    show (if _ then _ else _) = itF f m (if _ then _ else _)
    by_cases h : b = -1
    · rw [if_pos h, if_pos h, itF_m1]
    · rw [if_neg h, if_neg h]; exact ih (f b)
theorem itF_1 {f : Int32 → Int32} {b : Int32} (h : ¬ b = -1) : itF f 1 b = f b := by
  show (if _ then _ else _) = _
  rw [if_neg h]
  rfl
def NR (f : Int32 → Int32) (b : Int32) : Prop := ∀ k, 1 ≤ k → k ≤ 80 → ¬ itF f k b = b
theorem NR_80 {f : Int32 → Int32} {b x : Int32} (hx : iv 80 80 x) (h : ∀ k, 1 ≤ k → k ≤ x.toNatClampNeg → ¬ itF f k b = b) : NR f b := fun k h1 h2 => h k h1 (by
  have := iv_cl hx (by decide)
  have := hx.1
  omega)
theorem NR_no {f : Int32 → Int32} {b : Int32} {n : Nat} (hb : 0 ≤ b.toInt) (hp : itF f (n + 1) b = -1) (h : ∀ k, 1 ≤ k → k ≤ n → ¬ itF f k b = b) : NR f b := fun k h1 h2 hk => by
  by_cases h3 : k ≤ n
  · exact h k h1 h3 hk
  · have h4 : k = (n + 1) + (k - (n + 1)) := by omega
    rw [h4, itF_add, hp, itF_m1] at hk
    rw [← hk] at hb
    exact absurd hb (by decide)
theorem NR_s {f : Int32 → Int32} {b p9 : Int32} {n : Nat} (hp : p9 = itF f (n + 1) b) (hb : ¬ p9 = b) (h : ∀ k, 1 ≤ k → k ≤ n → ¬ itF f k b = b) : ∀ k, 1 ≤ k → k ≤ n + 1 → ¬ itF f k b = b := fun k h1 h2 hk => by
  by_cases h3 : k ≤ n
  · exact h k h1 h3 hk
  · have h4 : k = n + 1 := by omega
    rw [h4, ← hp] at hk
    exact hb hk
theorem itF_s {f : Int32 → Int32} {b p9 r : Int32} {n : Nat} (hp : p9 = itF f (n + 1) b) (hb : ¬ p9 = -1) (hr : r = f p9) : r = itF f (n + 1 + 1) b := by
  rw [itF_add, ← hp, itF_1 hb, hr]
def BB1 (sg : Nat → Int32) (gm : Nat → Nat → Int32) (lg : Nat → Nat → Int64) (k : Nat) : Prop := (gm 26 k).toInt = 3 → mHas gm lg k 123563833388660 = 0 ∨ NR (mPar sg gm lg) (gm 43 k)
def BBE (sg : Nat → Int32) (gm : Nat → Nat → Int32) (lg : Nat → Nat → Int64) : Prop := ∀ k, 1 ≤ k → k < (sg 24).toNatClampNeg → BB1 sg gm lg k
/-- the beans and their elements -/
def BEL (sg : Nat → Int32) (gm : Nat → Nat → Int32) : Prop := (∀ x : Nat, x < (sg 24).toNatClampNeg → (gm 26 x).toInt = 3 → (gm 43 x).toInt < (sg 41).toInt) ∧ ∀ b, b < (sg 41).toNatClampNeg → 1 ≤ (gm 42 b).toNatClampNeg ∧ (gm 42 b).toNatClampNeg < (sg 24).toNatClampNeg ∧ (gm 26 (gm 42 b).toNatClampNeg).toInt = 3 ∧ gm 43 (gm 42 b).toNatClampNeg = nI b
def ACY (sg : Nat → Int32) (gm : Nat → Nat → Int32) (lg : Nat → Nat → Int64) : Prop := ∀ b : Int32, 0 ≤ b.toInt → b.toInt < (sg 41).toInt → itF (mPar sg gm lg) 80 b = -1
theorem pigeon : ∀ (n : Nat) (f : Nat → Nat), (∀ i, i ≤ n → f i < n) → ∃ i j, i < j ∧ j ≤ n ∧ f i = f j := by
  intro n
  induction n with
  | zero => intro f h; exact absurd (h 0 (Nat.le_refl 0)) (Nat.not_lt_zero _)
  | succ n ih =>
    intro f h
    by_cases h0 : ∃ i, i ≤ n ∧ f i = f (n + 1)
    · obtain ⟨i, h1, h2⟩ := h0
      exact ⟨i, n + 1, by omega, Nat.le_refl _, h2⟩
    · obtain ⟨i, j, h1, h2, h3⟩ := ih (fun i => if f i < f (n + 1) then f i else f i - 1) (fun i hi => by
        have a1 := h i (by omega)
        have a2 := h (n + 1) (Nat.le_refl _)
        have a3 : f i ≠ f (n + 1) := fun q => h0 ⟨i, hi, q⟩
        show (if f i < f (n + 1) then f i else f i - 1) < n
        split <;> omega)
      refine ⟨i, j, h1, by omega, ?_⟩
      have a3 : f i ≠ f (n + 1) := fun q => h0 ⟨i, by omega, q⟩
      have a4 : f j ≠ f (n + 1) := fun q => h0 ⟨j, by omega, q⟩
      have h3 : (if f i < f (n + 1) then f i else f i - 1) = (if f j < f (n + 1) then f j else f j - 1) := h3
      split at h3 <;> split at h3 <;> omega
theorem ACY_of {sg : Nat → Int32} {gm : Nat → Nat → Int32} {lg : Nat → Nat → Int64} (hn : iv 0 80 (sg 41)) (hb : BBE sg gm lg) (he : BEL sg gm) : ACY sg gm lg := by
  intro b h0 h1
  have k1 := iv_cl hn (by decide)
  have k2 := hn.2
  have hr : ∀ k, itF (mPar sg gm lg) k b = -1 ∨ (0 ≤ (itF (mPar sg gm lg) k b).toInt ∧ (itF (mPar sg gm lg) k b).toInt < (sg 41).toInt) := by
    intro k
    induction k with
    | zero => exact Or.inr ⟨h0, h1⟩
    | succ k ih =>
      rw [itF_add]
      rcases ih with h | ⟨h2, h3⟩
      · rw [h]; exact Or.inl (itF_m1 _ _)
      · have hm : ¬ itF (mPar sg gm lg) k b = -1 := fun q => by rw [q] at h2; exact absurd h2 (by decide)
        rw [itF_1 hm]
        obtain ⟨q1, q2⟩ := mPar_iv (sg := sg) (gm := gm) (lg := lg) (itF (mPar sg gm lg) k b) hn
        rcases q2 with q2 | q2
        · by_cases q3 : mPar sg gm lg (itF (mPar sg gm lg) k b) = -1
          · exact Or.inl q3
          · refine Or.inr ⟨?_, q2⟩
            have q4 := q1.1
            have q5 : (mPar sg gm lg (itF (mPar sg gm lg) k b)).toInt ≠ -1 := fun q => q3 (Int32.toInt_inj.mp q)
            omega
        · exact Or.inl q2
  by_cases hz : itF (mPar sg gm lg) 80 b = -1
  · exact hz
  exfalso
  have hne : ∀ k, k ≤ 80 → ¬ itF (mPar sg gm lg) k b = -1 := fun k hk q => hz (by
    have e1 : 80 = k + (80 - k) := by omega
    rw [e1, itF_add, q, itF_m1])
  obtain ⟨i, j, p1, p2, p3⟩ := pigeon 80 (fun k => (itF (mPar sg gm lg) k b).toInt.toNat) (fun k hk => by
    rcases hr k with h | ⟨h2, h3⟩
    · exact absurd h (hne k hk)
    · show Int.toNat _ < 80
      omega)
  have p3 : (itF (mPar sg gm lg) i b).toInt.toNat = (itF (mPar sg gm lg) j b).toInt.toNat := p3
  have hi := (hr i).resolve_left (hne i (by omega))
  have hj := (hr j).resolve_left (hne j p2)
  have e2 : itF (mPar sg gm lg) i b = itF (mPar sg gm lg) j b := Int32.toInt_inj.mp (by omega)
  generalize hx : itF (mPar sg gm lg) i b = x at *
  have e3 : itF (mPar sg gm lg) (j - i) x = x := by
    have e4 : j = i + (j - i) := by omega
    rw [e4, itF_add, hx] at e2
    exact e2.symm
  have hxi : iv 0 79 x := ⟨hi.1, by omega⟩
  have kx := iv_cl hxi (by decide)
  obtain ⟨b1, b2, b3, b4⟩ := he.2 x.toNatClampNeg (by omega)
  rcases hb _ b1 b2 b3 with c1 | c1
  · have c2 : mPar sg gm lg x = -1 := by unfold mPar; rw [if_pos c1]
    have c3 := hne (i + 1) (by omega)
    rw [itF_add, hx, itF_1 (fun q => by have := hi.1; rw [q] at this; exact absurd this (by decide)), c2] at c3
    exact c3 rfl
  · rw [b4, iv_nI hxi (by decide)] at c1
    exact c1 (j - i) (by omega) (by omega) e3
def STR (sg : Nat → Int32) (gm : Nat → Nat → Int32) (lg : Nat → Nat → Int64) : Prop := (∀ k, k < (sg 24).toNatClampNeg → GOOD gm lg k) ∧ ((sg 24).toInt = 0 ∨ (gm 26 0).toInt = 1)
theorem BS_hg {gm gm2 : Nat → Nat → Int32} {x y : Int32} (h : TA (gm 28) y.toNatClampNeg) (e28 : gm2 28 = gm 28) (h95 : (gm2 26 0).toInt = 1) (hx : iv 0 79 x) (hy : iv 0 80 y) (hn : x.toInt < y.toInt) : 0 ≤ (gm2 28 x.toNatClampNeg).toInt ∨ (gm2 26 x.toNatClampNeg).toInt = 1 := by
  have k1 := iv_cl hx (by decide)
  have k2 := iv_cl hy (by decide)
  rcases (h x.toNatClampNeg (by omega)).2 with q | q
  · rw [q]; exact Or.inr h95
  · rw [e28]; exact Or.inl q
theorem lt_cl {x y : Int32} {a b c d : Int} (hx : iv a b x) (hy : iv c d y) (ha : 0 ≤ a) (hc : 0 ≤ c) (h : x.toInt < y.toInt) : x.toNatClampNeg < y.toNatClampNeg := by
  have k1 := iv_cl hx ha
  have k2 := iv_cl hy hc
  omega
theorem le_cl {x y : Int32} {a b c d : Int} (hx : iv a b x) (hy : iv c d y) (ha : 0 ≤ a) (hc : 0 ≤ c) (h : x.toInt ≤ y.toInt) : x.toNatClampNeg ≤ y.toNatClampNeg := by
  have k1 := iv_cl hx ha
  have k2 := iv_cl hy hc
  omega
theorem s_cl {x z : Int32} {a b : Int} (hx : iv a b x) (ha : 0 ≤ a) (h : z.toInt = x.toInt + 1) : z.toNatClampNeg = x.toNatClampNeg + 1 := by
  have k1 := iv_cl hx ha
  have k2 := hx.1
  have k3 := iv_cl (a := a) (b := b + 1) (x := z) ⟨by omega, by have := hx.2; omega⟩ ha
  omega
theorem all_s {x z : Int32} {a b : Int} {P : Nat → Prop} {k0 : Nat} (hx : iv a b x) (ha : 0 ≤ a) (h : z.toInt = x.toInt + 1) (q : ∀ k, k0 ≤ k → k < x.toNatClampNeg → P k) (hp : P x.toNatClampNeg) : ∀ k, k0 ≤ k → k < z.toNatClampNeg → P k := by
  rw [s_cl hx ha h]
  intro k h1 h2
  by_cases e9 : k = x.toNatClampNeg
  · subst e9; exact hp
  · exact q k h1 (by omega)
end
section
set_option maxHeartbeats 4000000 in
set_option maxRecDepth 100000 in
theorem f_withId (l : Launch) (dC : Nat → ClassId) (dI : Nat → Nat → Nat) (h0 : Nat) (ad : Nat → Nat) (cid : Nat → ClassId) (sg : Nat → Int32) (gm : Nat → Nat → Int32) (lg : Nat → Nat → Int64) (nn : Int64) (hI : MI sg gm) : MMi l dC dI yX13_withId wm_X13_withId ({ frames := 2, cells := 0, slots := 0, locals := 51 }) h0 ad cid [.long nn] sg gm lg (fun r v => (iv (-1) 79 r) ∧ (r = mWid sg gm lg nn) ∧ v = (sg, gm, lg)) := by
  intro sz
  refine Met.ofW (cc := cX13_withId) (maxL := 4) (ret := (some .int)) (by decide) rfl ?_
  intro p e s m args below meth c s₁ B hml hv
  obtain ⟨rfl, hsz, hP, hK, hD0⟩ := hv
  have hx := B.exec
  have hb := B.bytes
  have hr := B.returns
  have hts := atoms_spec (ws := wm_X13_withId) B.pre
  have htb := fun (w : Cond) (h : w ∈ tb) => hts w (List.mem_cons_of_mem _ h)
  have hown : s.vm.findClass RX13 = some m.cls := findClass_of_methodNamed B.named
  have hlocks := B.notSynchronized
  subst hsz
  have hD := hD0.self (sz := s.heap.size)
  generalize hAe : va_A (mW h0 ad cid sg gm lg) s.heap.size = A at hD ⊢
  have hA : ∀ q : Nat, s.heap.size ≤ q → A q := fun q h => by rw [← hAe]; exact Or.inr h
  have hS : va_S A s.heap s.heap [] := va_S.rf
  have hl := lv_entry ([.ref h0, .long nn]) (n := 4) (Nat.le_of_ble_eq_true rfl)
  rw [lg_entry_eq]
  generalize (lg_sl ([.ref h0, .long nn]) ++ List.replicate (4 - (lg_sl ([.ref h0, .long nn])).length) Slot.unset).toArray = ls at hl ⊢
  have hl : lv_has ls 4 [(0, .ref h0), (1, .long nn)] := hl
  have hj2 : ∀ (n : Nat) (x3_2 : Int32) (_ : (80 - x3_2.toInt).toNat = n) (_ : iv 0 80 x3_2) (_ : NHB (qWid gm lg nn) 0 x3_2.toNatClampNeg) (H : Heap) (locs : List Loc) (ls : Array Slot), va_P (dC, dI) vwCl (mW h0 ad cid sg gm lg) H → va_D A (mW h0 ad cid sg gm lg) → va_S A s.heap H locs → lv_has ls 4 [(3, .int x3_2), (0, .ref h0), (1, .long nn)] → W p l e (headSpec wm_X13_withId ({ frames := 2, cells := 0, slots := 0, locals := 51 })).room s m ([.ref h0, .long nn] : List Value).toArray below meth c H locs 0 0 (MQ below (va_Qi (fun r v => (iv (-1) 79 r) ∧ (r = mWid sg gm lg nn) ∧ v = (sg, gm, lg)) (MB dC dI h0 ad cid A) A) ([.ref h0, .long nn] : List Value).toArray s 0 0 A) (F0 m 2 ls []) := by
    intro n
    induction n using Nat.strongRecOn with
    | ind n ih2 =>
      intro x3_2 hn2 hx3_2 hnb H locs ls hP hD hS hl
      have hj44 : ∀ (_ : iv 0 79 x3_2) (_ : qWid gm lg nn x3_2.toNatClampNeg = false) (H : Heap) (locs : List Loc) (ls : Array Slot), va_P (dC, dI) vwCl (mW h0 ad cid sg gm lg) H → va_D A (mW h0 ad cid sg gm lg) → va_S A s.heap H locs → lv_has ls 4 [(3, .int x3_2), (0, .ref h0), (1, .long nn)] → W p l e (headSpec wm_X13_withId ({ frames := 2, cells := 0, slots := 0, locals := 51 })).room s m ([.ref h0, .long nn] : List Value).toArray below meth c H locs 0 0 (MQ below (va_Qi (fun r v => (iv (-1) 79 r) ∧ (r = mWid sg gm lg nn) ∧ v = (sg, gm, lg)) (MB dC dI h0 ad cid A) A) ([.ref h0, .long nn] : List Value).toArray s 0 0 A) (F0 m 44 ls []) := by
        intro  hsx3_44 hnq H locs ls hP hD hS hl
        obtain ⟨z_1, ez_1⟩ : ∃ z : Int32, z = x3_2 + 1 := ⟨_, rfl⟩
        have hz_1 : iv 1 80 z_1 := iv_of ez_1 (iv_add hsx3_44 (iv_k (by decide) : iv 1 1 1) (by decide))
        have tz_1 : z_1.toInt = x3_2.toInt + 1 := by rw [ez_1]; exact iv_addE hsx3_44 (iv_k (by decide) : iv 1 1 1) (by decide)
        refine lv_iinc (v := z_1) (lv' := [(3, .int z_1), (0, .ref h0), (1, .long nn)]) hx hb dX13_withId_44 hl (k := 0) rfl ez_1.symm (by decide) rfl (fun ls hl => ?_)
        refine lv_goto (tgt := 2) hx hb dX13_withId_47 (by decide) ?_
        exact ih2 _ (by rw [← hn2]; exact (iv_meas tz_1 hsx3_44 (by decide))) z_1 rfl (iv_w hz_1 (by decide)) (by rw [s_cl hsx3_44 (by decide) tz_1]; exact NHB_s hnb hnq) _ _ _ hP hD hS (lv_sub hl [0, 1, 2] rfl)
      refine lv_iload_n hx hb dX13_withId_2 rfl (lv_at hl 0 rfl) ?_
      refine lv_aload_n hx hb dX13_withId_3 rfl (lv_at hl 1 rfl) ?_
      refine mr_get (v := .int (sg 41)) hx hb htb inX13 hown hK hP 41 (by decide) (htb _ kw_817) rfl dX13_withId_4 ?_
      refine lv_icmp_ge (tgt := 50) hx hb dX13_withId_7 (by decide) (fun c_2 => ?_) (fun c_2 => ?_)
      · have d_3 : ((sg 41) : Int32).toInt ≤ (x3_2 : Int32).toInt := Int32.le_iff_toInt_le.mp c_2
        refine lv_iconst (v := (-1)) hx hb dX13_withId_50 (by decide) ?_
        exact W.iret (v := (-1)) hx hb hr (fun t ht hW => ⟨⟨(-1), (sg, gm, lg), rfl, ⟨(iv_w (iv_k (by decide) : iv (-1) (-1) (-1)) (by decide)), (wid_no (show iv 0 80 (sg 41) from MI_s hI 41) hx3_2 (by have := i32_0; have := i32_1; have := i32_2; have := i32_m1; have := (show iv 0 80 (sg 41) from MI_s hI 41).1; have := (show iv 0 80 (sg 41) from MI_s hI 41).2; have := (hx3_2).1; have := (hx3_2).2; have := ((show iv 0 80 (sg 41) from MI_s hI 41)).1; have := ((show iv 0 80 (sg 41) from MI_s hI 41)).2; omega) hnb), rfl⟩, by rw [ht]; exact hP, va_K.moved hW.alike hK, hD⟩, hS.F ht⟩) hS.2.2 dX13_withId_51
      · have d_4 : (x3_2 : Int32).toInt < ((sg 41) : Int32).toInt := Int32.lt_iff_toInt_lt.mp (i32_lt c_2)
        have h_5 : iv 0 79 x3_2 := iv_ltL (i32_lt c_2) hx3_2 (show iv 0 80 (sg 41) from MI_s hI 41) (by decide)
        have h_6 : iv 1 80 (sg 41) := iv_ltR (i32_lt c_2) hx3_2 (show iv 0 80 (sg 41) from MI_s hI 41) (by decide)
        refine lv_aload_n hx hb dX13_withId_10 rfl (lv_at hl 1 rfl) ?_
        refine mr_get (v := .ref (ad 28)) hx hb htb inX13 hown hK hP 28 (by decide) (htb _ kw_184) rfl dX13_withId_11 ?_
        refine lv_aload_n hx hb dX13_withId_14 rfl (lv_at hl 1 rfl) ?_
        refine mr_get (v := .ref (ad 42)) hx hb htb inX13 hown hK hP 42 (by decide) (htb _ kw_196) rfl dX13_withId_15 ?_
        refine lv_iload_n hx hb dX13_withId_18 rfl (lv_at hl 0 rfl) ?_
        refine mr_iald hx hb hK hP 33 (k := 42) rfl rfl rfl (show vp_in x3_2 80 from (iv_in h_5 (by decide))) dX13_withId_19 ?_
        refine lv_topi (fun z_7 ez_7 => ?_)
        have hz_7 : iv 0 79 z_7 := iv_of ez_7 (MI_a hI 42 h_5 (by decide))
        refine mr_iald hx hb hK hP 21 (k := 28) rfl rfl rfl (show vp_in z_7 80 from (iv_in hz_7 (by decide))) dX13_withId_20 ?_
        refine lv_topi (fun z_8 ez_8 => ?_)
        have hz_8 : iv (-1) 79 z_8 := iv_of ez_8 (MI_a hI 28 hz_7 (by decide))
        refine lv_if_ne (tgt := 44) hx hb dX13_withId_21 (by decide) (fun c_9 => ?_) (fun c_9 => ?_)
        · have d_10 : ¬ (z_8 : Int32).toInt = 0 := lv_neT c_9 rfl
          exact hj44 h_5 (qW_1 (by rw [← ez_7, ← ez_8]; exact c_9)) _ _ _ hP hD hS (lv_sub hl [0, 1, 2] rfl)
        · have h_11 : iv 0 0 z_8 := iv_eq c_9 hz_8 (iv_k (by decide) : iv 0 0 0) (by decide)
          refine lv_aload_n hx hb dX13_withId_24 rfl (lv_at hl 1 rfl) ?_
          refine lv_aload_n hx hb dX13_withId_25 rfl (lv_at hl 1 rfl) ?_
          refine mr_get (v := .ref (ad 42)) hx hb htb inX13 hown hK hP 42 (by decide) (htb _ kw_196) rfl dX13_withId_26 ?_
          refine lv_iload_n hx hb dX13_withId_29 rfl (lv_at hl 0 rfl) ?_
          refine mr_iald hx hb hK hP 33 (k := 42) rfl rfl rfl (show vp_in x3_2 80 from (iv_in h_5 (by decide))) dX13_withId_30 ?_
          refine lv_topi (fun z_12 ez_12 => ?_)
          obtain rfl : z_7 = z_12 := ez_7.trans ez_12.symm
          refine lv_ldc2 (own := RX13) (v := 26980) hx hb hown (htb _ kw_899) dX13_withId_31 ?_
          refine mr_calll (rest := []) ⟨hx, hb, hml, hown, htb⟩ (f_word l dC dI h0 ad cid sg gm lg z_7 26980 hI hz_7) (cwV 2 htb (gd_V kw_923 kw_924 kw_925 kw_5 kw_1545) rfl rfl rfl (by decide +kernel) ⟨Nat.le_of_ble_eq_true rfl, Nat.le_of_ble_eq_true rfl⟩) rfl hl.1 rfl (Nat.le_of_ble_eq_true rfl) dX13_withId_34 ⟨Nat.zero_le _, Nat.zero_le _⟩ hK hP hD hS hA (fun r_13 u_14 H locs hw hP hD hS => ?_)
          obtain ⟨fW_r_13, rfl⟩ := hw
          have hP : va_P (dC, dI) vwCl (mW h0 ad cid sg gm lg) H := hP
          have hD : va_D A (mW h0 ad cid sg gm lg) := hD
          refine lv_lload_n hx hb dX13_withId_37 rfl (lv_at hl 2 rfl) ?_
          refine W.lcmp hx hb dX13_withId_38 ?_
          refine lv_topi (fun z_15 ez_15 => ?_)
          have hz_15 : iv (-1) 1 z_15 := iv_of ez_15 (iv_cmp _ _)
          refine lv_if_ne (tgt := 44) hx hb dX13_withId_39 (by decide) (fun c_16 => ?_) (fun c_16 => ?_)
          · have d_17 : ¬ (z_15 : Int32).toInt = 0 := lv_neT c_16 rfl
            exact hj44 h_5 (qW_2 (fun q9 => c_16 (by rw [ez_15, fW_r_13, ez_7]; exact (lg_cmp_eq _ _).mpr q9))) _ _ _ hP hD hS (lv_sub hl [0, 1, 2] rfl)
          · have h_18 : iv 0 0 z_15 := iv_eq c_16 hz_15 (iv_k (by decide) : iv 0 0 0) (by decide)
            refine lv_iload_n hx hb dX13_withId_42 rfl (lv_at hl 0 rfl) ?_
            exact W.iret (v := x3_2) hx hb hr (fun t ht hW => ⟨⟨x3_2, (sg, gm, lg), rfl, ⟨(iv_w h_5 (by decide)), (wid_hit (show iv 0 80 (sg 41) from MI_s hI 41) h_5 (by have := i32_0; have := i32_1; have := i32_2; have := i32_m1; have := (show iv 0 80 (sg 41) from MI_s hI 41).1; have := (show iv 0 80 (sg 41) from MI_s hI 41).2; have := (h_5).1; have := (h_5).2; have := (h_6).1; have := (h_6).2; have := (hz_7).1; have := (hz_7).2; have := (h_11).1; have := (h_11).2; have := (h_18).1; have := (h_18).2; omega) hnb (qW_t (by rw [← ez_7, ← ez_8]; exact c_9) (by rw [← ez_7, ← fW_r_13]; exact (lg_cmp_eq _ _).mp (by rw [← ez_15]; exact c_16)))), rfl⟩, by rw [ht]; exact hP, va_K.moved hW.alike hK, hD⟩, hS.F ht⟩) hS.2.2 dX13_withId_43
  refine lv_iconst (v := 0) hx hb dX13_withId_0 (by decide) ?_
  refine lv_istore_n (lv' := [(3, .int 0), (0, .ref h0), (1, .long nn)]) hx hb dX13_withId_1 rfl hl (by decide) rfl (fun ls hl => ?_)
  exact hj2 _ 0 rfl (iv_w (iv_k (by decide) : iv 0 0 0) (by decide)) (NHB_0) _ _ _ hP hD hS (lv_sub hl [0, 1, 2] rfl)

set_option maxHeartbeats 4000000 in
set_option maxRecDepth 100000 in
theorem f_parentOf (l : Launch) (dC : Nat → ClassId) (dI : Nat → Nat → Nat) (h0 : Nat) (ad : Nat → Nat) (cid : Nat → ClassId) (sg : Nat → Int32) (gm : Nat → Nat → Int32) (lg : Nat → Nat → Int64) (b : Int32) (hI : MI sg gm) (hvb : iv 0 79 b) : MMi l dC dI yX13_parentOf wm_X13_parentOf ({ frames := 3, cells := 0, slots := 0, locals := 74 }) h0 ad cid [.int b] sg gm lg (fun r v => (iv (-1) 79 r) ∧ (r = mPar sg gm lg b) ∧ v = (sg, gm, lg)) := by
  intro sz
  refine Met.ofW (cc := cX13_parentOf) (maxL := 2) (ret := (some .int)) (by decide) rfl ?_
  intro p e s m args below meth c s₁ B hml hv
  obtain ⟨rfl, hsz, hP, hK, hD0⟩ := hv
  have hx := B.exec
  have hb := B.bytes
  have hr := B.returns
  have hts := atoms_spec (ws := wm_X13_parentOf) B.pre
  have htb := fun (w : Cond) (h : w ∈ tb) => hts w (List.mem_cons_of_mem _ h)
  have hown : s.vm.findClass RX13 = some m.cls := findClass_of_methodNamed B.named
  have hlocks := B.notSynchronized
  subst hsz
  have hD := hD0.self (sz := s.heap.size)
  generalize hAe : va_A (mW h0 ad cid sg gm lg) s.heap.size = A at hD ⊢
  have hA : ∀ q : Nat, s.heap.size ≤ q → A q := fun q h => by rw [← hAe]; exact Or.inr h
  have hS : va_S A s.heap s.heap [] := va_S.rf
  have hl := lv_entry ([.ref h0, .int b]) (n := 2) (Nat.le_of_ble_eq_true rfl)
  rw [lg_entry_eq]
  generalize (lg_sl ([.ref h0, .int b]) ++ List.replicate (2 - (lg_sl ([.ref h0, .int b])).length) Slot.unset).toArray = ls at hl ⊢
  have hl : lv_has ls 2 [(0, .ref h0), (1, .int b)] := hl
  have hj37 : ∀ (y0_37 : Int32) (_ : iv 0 79 b) (_ : iv (-1) 79 y0_37) (_ : y0_37 = mPar sg gm lg b) (H : Heap) (locs : List Loc) (ls : Array Slot), va_P (dC, dI) vwCl (mW h0 ad cid sg gm lg) H → va_D A (mW h0 ad cid sg gm lg) → va_S A s.heap H locs → lv_has ls 2 [(0, .ref h0), (1, .int b)] → W p l e (headSpec wm_X13_parentOf ({ frames := 3, cells := 0, slots := 0, locals := 74 })).room s m ([.ref h0, .int b] : List Value).toArray below meth c H locs 0 0 (MQ below (va_Qi (fun r v => (iv (-1) 79 r) ∧ (r = mPar sg gm lg b) ∧ v = (sg, gm, lg)) (MB dC dI h0 ad cid A) A) ([.ref h0, .int b] : List Value).toArray s 0 0 A) (F0 m 37 ls [.int y0_37]) := by
    intro y0_37 hsx1_37 hy0_37 hp H locs ls hP hD hS hl
    exact W.iret (v := y0_37) hx hb hr (fun t ht hW => ⟨⟨y0_37, (sg, gm, lg), rfl, ⟨hy0_37, (hp), rfl⟩, by rw [ht]; exact hP, va_K.moved hW.alike hK, hD⟩, hS.F ht⟩) hS.2.2 dX13_parentOf_37
  refine lv_aload_n hx hb dX13_parentOf_0 rfl (lv_at hl 0 rfl) ?_
  refine lv_aload_n hx hb dX13_parentOf_1 rfl (lv_at hl 0 rfl) ?_
  refine mr_get (v := .ref (ad 42)) hx hb htb inX13 hown hK hP 42 (by decide) (htb _ kw_196) rfl dX13_parentOf_2 ?_
  refine lv_iload_n hx hb dX13_parentOf_5 rfl (lv_at hl 1 rfl) ?_
  refine mr_iald hx hb hK hP 33 (k := 42) rfl rfl rfl (show vp_in b 80 from (iv_in hvb (by decide))) dX13_parentOf_6 ?_
  refine lv_topi (fun z_1 ez_1 => ?_)
  have hz_1 : iv 0 79 z_1 := iv_of ez_1 (MI_a hI 42 hvb (by decide))
  refine lv_ldc2 (own := RX13) (v := 123563833388660) hx hb hown (htb _ kw_901) dX13_parentOf_7 ?_
  refine mr_calli (rest := []) ⟨hx, hb, hml, hown, htb⟩ (f_has l dC dI h0 ad cid sg gm lg z_1 123563833388660 hI hz_1) (cwV 2 htb (gd_V kw_916 kw_917 kw_918 kw_5 kw_1543) rfl rfl rfl (by decide +kernel) ⟨Nat.le_of_ble_eq_true rfl, Nat.le_of_ble_eq_true rfl⟩) rfl hl.1 rfl (Nat.le_of_ble_eq_true rfl) dX13_parentOf_10 ⟨Nat.zero_le _, Nat.zero_le _⟩ hK hP hD hS hA (fun r_2 u_3 H locs hw hP hD hS => ?_)
  obtain ⟨hr_2, fH_r_2, rfl⟩ := hw
  have hP : va_P (dC, dI) vwCl (mW h0 ad cid sg gm lg) H := hP
  have hD : va_D A (mW h0 ad cid sg gm lg) := hD
  refine lv_if_eq (tgt := 36) hx hb dX13_parentOf_13 (by decide) (fun c_4 => ?_) (fun c_4 => ?_)
  · have h_5 : iv 0 0 r_2 := iv_eq c_4 hr_2 (iv_k (by decide) : iv 0 0 0) (by decide)
    refine lv_iconst (v := (-1)) hx hb dX13_parentOf_36 (by decide) ?_
    exact hj37 (-1) hvb (iv_w (iv_k (by decide) : iv (-1) (-1) (-1)) (by decide)) (by unfold mPar; rw [if_pos (by rw [← ez_1, ← fH_r_2]; exact c_4)]) _ _ _ hP hD hS (lv_sub hl [0, 1] rfl)
  · have h_6 : iv 1 1 r_2 := iv_neL c_4 hr_2 (by decide)
    refine lv_aload_n hx hb dX13_parentOf_16 rfl (lv_at hl 0 rfl) ?_
    refine lv_aload_n hx hb dX13_parentOf_17 rfl (lv_at hl 0 rfl) ?_
    refine lv_aload_n hx hb dX13_parentOf_18 rfl (lv_at hl 0 rfl) ?_
    refine mr_get (v := .ref (ad 42)) hx hb htb inX13 hown hK hP 42 (by decide) (htb _ kw_196) rfl dX13_parentOf_19 ?_
    refine lv_iload_n hx hb dX13_parentOf_22 rfl (lv_at hl 1 rfl) ?_
    refine mr_iald hx hb hK hP 33 (k := 42) rfl rfl rfl (show vp_in b 80 from (iv_in hvb (by decide))) dX13_parentOf_23 ?_
    refine lv_topi (fun z_7 ez_7 => ?_)
    obtain rfl : z_1 = z_7 := ez_1.trans ez_7.symm
    refine lv_ldc2 (own := RX13) (v := 123563833388660) hx hb hown (htb _ kw_901) dX13_parentOf_24 ?_
    refine mr_calll (rest := [.ref h0]) ⟨hx, hb, hml, hown, htb⟩ (f_word l dC dI h0 ad cid sg gm lg z_1 123563833388660 hI hz_1) (cwV 2 htb (gd_V kw_923 kw_924 kw_925 kw_5 kw_1545) rfl rfl rfl (by decide +kernel) ⟨Nat.le_of_ble_eq_true rfl, Nat.le_of_ble_eq_true rfl⟩) rfl hl.1 rfl (Nat.le_of_ble_eq_true rfl) dX13_parentOf_27 ⟨Nat.zero_le _, Nat.zero_le _⟩ hK hP hD hS hA (fun r_8 u_9 H locs hw hP hD hS => ?_)
    obtain ⟨fW_r_8, rfl⟩ := hw
    have hP : va_P (dC, dI) vwCl (mW h0 ad cid sg gm lg) H := hP
    have hD : va_D A (mW h0 ad cid sg gm lg) := hD
    refine mr_calli (rest := []) ⟨hx, hb, hml, hown, htb⟩ (f_withId l dC dI h0 ad cid sg gm lg r_8 hI) (cwV 1 htb (gd_V kw_952 kw_953 kw_954 kw_5 kw_1554) rfl rfl rfl (by decide +kernel) ⟨Nat.le_of_ble_eq_true rfl, Nat.le_of_ble_eq_true rfl⟩) rfl hl.1 rfl (Nat.le_of_ble_eq_true rfl) dX13_parentOf_30 ⟨Nat.zero_le _, Nat.zero_le _⟩ hK hP hD hS hA (fun r_10 u_11 H locs hw hP hD hS => ?_)
    obtain ⟨hr_10, fD_r_10, rfl⟩ := hw
    have hP : va_P (dC, dI) vwCl (mW h0 ad cid sg gm lg) H := hP
    have hD : va_D A (mW h0 ad cid sg gm lg) := hD
    refine lv_goto (tgt := 37) hx hb dX13_parentOf_33 (by decide) ?_
    exact hj37 r_10 hvb hr_10 (by unfold mPar; rw [if_neg (by rw [← ez_1, ← fH_r_2]; exact c_4), ← ez_1, ← fW_r_8]; exact fD_r_10) _ _ _ hP hD hS (lv_sub hl [0, 1] rfl)
end
section
def qInn (gm : Nat → Nat → Int32) (a kd : Int32) (j : Nat) : Bool := decide (gm 28 j = a) && (decide (kd = 0) || decide (gm 26 j = kd))
theorem qI_t {gm : Nat → Nat → Int32} {a kd : Int32} {j : Nat} (h1 : gm 28 j = a) (h2 : kd = 0 ∨ gm 26 j = kd) : qInn gm a kd j = true := by
  unfold qInn
  rw [decide_eq_true h1]
  rcases h2 with h2 | h2
  · rw [decide_eq_true h2]; rfl
  · rw [decide_eq_true h2, Bool.or_true]; rfl
theorem qI_of {gm : Nat → Nat → Int32} {a kd : Int32} {j : Nat} (h : qInn gm a kd j = true) : gm 28 j = a ∧ (kd = 0 ∨ gm 26 j = kd) := by
  unfold qInn at h
  have h1 := Bool.and_eq_true_iff.mp h
  have h2 := Bool.or_eq_true_iff.mp h1.2
  exact ⟨of_decide_eq_true h1.1, h2.imp of_decide_eq_true of_decide_eq_true⟩
theorem qI_1 {gm : Nat → Nat → Int32} {a kd : Int32} {j : Nat} (h1 : ¬ gm 28 j = a) : qInn gm a kd j = false := by
  unfold qInn; rw [decide_eq_false h1]; rfl
theorem qI_2 {gm : Nat → Nat → Int32} {a kd : Int32} {j : Nat} (h1 : ¬ kd = 0) (h2 : ¬ gm 26 j = kd) : qInn gm a kd j = false := by
  unfold qInn; rw [decide_eq_false h1, decide_eq_false h2, Bool.false_or, Bool.and_false]
/-- the next element within a behind bh -/
def mInn (sg : Nat → Int32) (gm : Nat → Nat → Int32) (a kd bh : Int32) : Int32 := fstB (qInn gm a kd) ((sg 24).toNatClampNeg - (bh.toNatClampNeg + 1)) (bh.toNatClampNeg + 1)
theorem inn_no {sg : Nat → Int32} {gm : Nat → Nat → Int32} {a kd bh x : Int32} (hn : iv 0 80 (sg 24)) (hx : iv 1 80 x) (hl : (sg 24).toInt ≤ x.toInt) (h : NHB (qInn gm a kd) (bh.toNatClampNeg + 1) x.toNatClampNeg) : (-1 : Int32) = mInn sg gm a kd bh := by
  have k1 := iv_cl hn (by decide)
  have k2 := iv_cl hx (by decide)
  exact (fst_no _ _ (fun k q1 q2 => h k q1 (by omega))).symm
theorem inn_hit {sg : Nat → Int32} {gm : Nat → Nat → Int32} {a kd bh x : Int32} (hn : iv 0 80 (sg 24)) (hx : iv 1 79 x) (hg : bh.toNatClampNeg + 1 ≤ x.toNatClampNeg) (hl : x.toInt < (sg 24).toInt) (h : NHB (qInn gm a kd) (bh.toNatClampNeg + 1) x.toNatClampNeg) (hq : qInn gm a kd x.toNatClampNeg = true) : x = mInn sg gm a kd bh := by
  have k1 := iv_cl hn (by decide)
  have k2 := iv_cl hx (by decide)
  have e1 : bh.toNatClampNeg + 1 + (x.toNatClampNeg - (bh.toNatClampNeg + 1)) = x.toNatClampNeg := by omega
  have k3 := fst_hit (q := qInn gm a kd) (x.toNatClampNeg - (bh.toNatClampNeg + 1)) ((sg 24).toNatClampNeg - (bh.toNatClampNeg + 1)) (bh.toNatClampNeg + 1) (by omega) (by rw [e1]; exact h) (by rw [e1]; exact hq)
  rw [e1, iv_nI hx (by decide)] at k3
  exact k3.symm
theorem mInn_or {sg : Nat → Int32} {gm : Nat → Nat → Int32} {a kd bh : Int32} (hn : iv 0 80 (sg 24)) : (mInn sg gm a kd bh = -1 ∧ NHB (qInn gm a kd) (bh.toNatClampNeg + 1) (sg 24).toNatClampNeg) ∨ (iv 1 79 (mInn sg gm a kd bh) ∧ bh.toNatClampNeg < (mInn sg gm a kd bh).toNatClampNeg ∧ (mInn sg gm a kd bh).toNatClampNeg < (sg 24).toNatClampNeg ∧ gm 28 (mInn sg gm a kd bh).toNatClampNeg = a ∧ (kd = 0 ∨ gm 26 (mInn sg gm a kd bh).toNatClampNeg = kd) ∧ NHB (qInn gm a kd) (bh.toNatClampNeg + 1) (mInn sg gm a kd bh).toNatClampNeg) := by
  have k1 := iv_cl hn (by decide)
  have k2 := hn.2
  rcases fst_or (qInn gm a kd) ((sg 24).toNatClampNeg - (bh.toNatClampNeg + 1)) (bh.toNatClampNeg + 1) with ⟨h, h9⟩ | ⟨i, h1, h2, h3, h4⟩
  · refine Or.inl ⟨h, fun k q1 q2 => h9 k q1 (by omega)⟩
  · have h5 : mInn sg gm a kd bh = nI (bh.toNatClampNeg + 1 + i) := h2
    have h6 : (nI (bh.toNatClampNeg + 1 + i)).toNatClampNeg = bh.toNatClampNeg + 1 + i := nI_clamp (by omega)
    have h7 : (nI (bh.toNatClampNeg + 1 + i)).toInt = (bh.toNatClampNeg + 1 + i : Nat) := nI_toInt (by omega)
    obtain ⟨q1, q2⟩ := qI_of h3
    rw [h5, h6]
    exact Or.inr ⟨⟨by omega, by omega⟩, by omega, by omega, q1, q2, h4⟩
/-- how far a bean is from the end of its parents -/
def dpF (f : Int32 → Int32) : Nat → Int32 → Nat
  | 0, _ => 0
  | n + 1, b => if b = -1 then 0 else dpF f n (f b) + 1
theorem dpF_st {f : Int32 → Int32} : ∀ (n : Nat) (b : Int32), itF f n b = -1 → dpF f (n + 1) b = dpF f n b := by
  intro n
  induction n with
  | zero =>
    intro b h
    have h : b = -1 := h
    show (if _ then _ else _) = _
    rw [if_pos h]
    rfl
  | succ n ih =>
    intro b h
    by_cases hb : b = -1
    · show (if _ then _ else _) = (if _ then _ else _)
      rw [if_pos hb, if_pos hb]
    · have h : (if b = -1 then -1 else itF f n (f b)) = -1 := h
      rw [if_neg hb] at h
      show (if _ then _ else _) = (if _ then _ else _)
      rw [if_neg hb, if_neg hb, ih _ h]
def dP (sg : Nat → Int32) (gm : Nat → Nat → Int32) (lg : Nat → Nat → Int64) (b : Int32) : Nat := dpF (mPar sg gm lg) 81 b
theorem dpF_s (f : Int32 → Int32) (n : Nat) (b : Int32) : dpF f (n + 1) b = if b = -1 then 0 else dpF f n (f b) + 1 := rfl
theorem dP_m1 {sg : Nat → Int32} {gm : Nat → Nat → Int32} {lg : Nat → Nat → Int64} : dP sg gm lg (-1) = 0 := by
  show dpF (mPar sg gm lg) (80 + 1) (-1) = 0
  rw [dpF_s, if_pos rfl]
theorem dP_s {sg : Nat → Int32} {gm : Nat → Nat → Int32} {lg : Nat → Nat → Int64} {b : Int32} (hn : iv 0 80 (sg 41)) (h : ACY sg gm lg) (h0 : 0 ≤ b.toInt) : dP sg gm lg b = dP sg gm lg (mPar sg gm lg b) + 1 := by
  have hb : ¬ b = -1 := fun q => by rw [q] at h0; exact absurd h0 (by decide)
  show dpF (mPar sg gm lg) (80 + 1) b = _
  rw [dpF_s, if_neg hb]
  have h2 : itF (mPar sg gm lg) 80 (mPar sg gm lg b) = -1 := by
    obtain ⟨q1, q2⟩ := mPar_iv (sg := sg) (gm := gm) (lg := lg) b hn
    by_cases q3 : mPar sg gm lg b = -1
    · rw [q3, itF_m1]
    · have q5 : (mPar sg gm lg b).toInt ≠ -1 := fun q => q3 (Int32.toInt_inj.mp q)
      have q6 := q1.1
      exact h _ (by omega) (q2.resolve_right q3)
  show _ = dpF _ 81 _ + 1
  rw [dpF_st 80 _ h2]
theorem dP_lt {sg : Nat → Int32} {gm : Nat → Nat → Int32} {lg : Nat → Nat → Int64} {b r : Int32} (hn : iv 0 80 (sg 41)) (h : ACY sg gm lg) (h0 : 0 ≤ b.toInt) (hr : r = mPar sg gm lg b) : dP sg gm lg r < dP sg gm lg b := by
  rw [dP_s hn h h0, hr]; omega
theorem par_lt {sg : Nat → Int32} {gm : Nat → Nat → Int32} {lg : Nat → Nat → Int64} {b r : Int32} (hn : iv 0 80 (sg 41)) (hr : r = mPar sg gm lg b) : r.toInt < (sg 41).toInt := by
  rcases (mPar_iv (sg := sg) (gm := gm) (lg := lg) b hn).2 with q | q
  · rw [hr]; exact q
  · rw [hr, q]; have := hn.1; show (-1 : Int) < _; omega
def telF (sg : Nat → Int32) (gm : Nat → Nat → Int32) (lg : Nat → Nat → Int64) (nn : Int64) : Nat → Int32 → Int32
  | 0, _ => -1
  | n + 1, b => if mHas gm lg (gm 42 b.toNatClampNeg).toNatClampNeg nn = 0 then telF sg gm lg nn n (mPar sg gm lg b) else gm 42 b.toNatClampNeg
def mTel (sg : Nat → Int32) (gm : Nat → Nat → Int32) (lg : Nat → Nat → Int64) (b : Int32) (nn : Int64) : Int32 := telF sg gm lg nn (dP sg gm lg b) b
theorem tel_no {sg : Nat → Int32} {gm : Nat → Nat → Int32} {lg : Nat → Nat → Int64} {nn : Int64} : mTel sg gm lg (-1) nn = -1 := by
  unfold mTel; rw [dP_m1]; rfl
theorem tel_y {sg : Nat → Int32} {gm : Nat → Nat → Int32} {lg : Nat → Nat → Int64} {b : Int32} {nn : Int64} (hn : iv 0 80 (sg 41)) (h : ACY sg gm lg) (h0 : 0 ≤ b.toInt) (hh : ¬ mHas gm lg (gm 42 b.toNatClampNeg).toNatClampNeg nn = 0) : mTel sg gm lg b nn = gm 42 b.toNatClampNeg := by
  unfold mTel; rw [dP_s hn h h0]
  show (if _ then _ else _) = _
  rw [if_neg hh]
theorem tel_n {sg : Nat → Int32} {gm : Nat → Nat → Int32} {lg : Nat → Nat → Int64} {b : Int32} {nn : Int64} (hn : iv 0 80 (sg 41)) (h : ACY sg gm lg) (h0 : 0 ≤ b.toInt) (hh : mHas gm lg (gm 42 b.toNatClampNeg).toNatClampNeg nn = 0) : mTel sg gm lg b nn = mTel sg gm lg (mPar sg gm lg b) nn := by
  unfold mTel; rw [dP_s hn h h0]
  show (if _ then _ else _) = _
  rw [if_pos hh]
def aoF (sg : Nat → Int32) (gm : Nat → Nat → Int32) (lg : Nat → Nat → Int64) : Nat → Int32 → Int32
  | 0, b => b
  | n + 1, b => if mInn sg gm (gm 42 b.toNatClampNeg) 4 0 = -1 ∧ ¬ mPar sg gm lg b = -1 then aoF sg gm lg n (mPar sg gm lg b) else b
def mAO (sg : Nat → Int32) (gm : Nat → Nat → Int32) (lg : Nat → Nat → Int64) (b : Int32) : Int32 := aoF sg gm lg (dP sg gm lg b) b
theorem ao_y {sg : Nat → Int32} {gm : Nat → Nat → Int32} {lg : Nat → Nat → Int64} {b : Int32} (hn : iv 0 80 (sg 41)) (h : ACY sg gm lg) (h0 : 0 ≤ b.toInt) (hh : ¬ (mInn sg gm (gm 42 b.toNatClampNeg) 4 0 = -1 ∧ ¬ mPar sg gm lg b = -1)) : mAO sg gm lg b = b := by
  unfold mAO; rw [dP_s hn h h0]
  show (if _ then _ else _) = _
  rw [if_neg hh]
theorem ao_n {sg : Nat → Int32} {gm : Nat → Nat → Int32} {lg : Nat → Nat → Int64} {b : Int32} (hn : iv 0 80 (sg 41)) (h : ACY sg gm lg) (h0 : 0 ≤ b.toInt) (hh : mInn sg gm (gm 42 b.toNatClampNeg) 4 0 = -1 ∧ ¬ mPar sg gm lg b = -1) : mAO sg gm lg b = mAO sg gm lg (mPar sg gm lg b) := by
  unfold mAO; rw [dP_s hn h h0]
  show (if _ then _ else _) = _
  rw [if_pos hh]
def argF (sg : Nat → Int32) (gm : Nat → Nat → Int32) (a : Int32) : Nat → Int32
  | 0 => mInn sg gm a 4 0
  | n + 1 => if argF sg gm a n = -1 then -1 else mInn sg gm a 4 (argF sg gm a n)
def mArg (sg : Nat → Int32) (gm : Nat → Nat → Int32) (lg : Nat → Nat → Int64) (b : Int32) (n : Nat) : Int32 := argF sg gm (gm 42 (mAO sg gm lg b).toNatClampNeg) n
theorem argF_s {sg : Nat → Int32} {gm : Nat → Nat → Int32} {a x r : Int32} {n : Nat} (hx : x = argF sg gm a n) (h : ¬ x = -1) (hr : r = mInn sg gm a 4 x) : r = argF sg gm a (n + 1) := by
  show _ = (if _ then _ else _)
  rw [← hx, if_neg h, hr]
theorem argF_no {sg : Nat → Int32} {gm : Nat → Nat → Int32} {a : Int32} {n : Nat} (h : argF sg gm a n = -1) : ∀ k, n ≤ k → argF sg gm a k = -1 := by
  intro k
  induction k with
  | zero => intro hk; have h0 : n = 0 := by omega
            subst h0; exact h
  | succ k ih =>
    intro hk
    by_cases e9 : n = k + 1
    · subst e9; exact h
    · show (if _ then _ else _) = _
      rw [if_pos (ih (by omega))]
/-- how many of the first n stand within a and are of kind kd -/
def cQ (gm : Nat → Nat → Int32) (a kd : Int32) : Nat → Nat
  | 0 => 0
  | k + 1 => cQ gm a kd k + (if gm 28 k = a ∧ gm 26 k = kd then 1 else 0)
theorem cQ_ah {gm : Nat → Nat → Int32} {e : Nat} : ∀ k, ahN gm e k = cQ gm (gm 28 e) (gm 26 e) k := by
  intro k
  induction k with
  | zero => rfl
  | succ k ih => show ahN gm e k + _ = cQ gm _ _ k + _; rw [ih]
theorem cQ_mono {gm : Nat → Nat → Int32} {a kd : Int32} (j : Nat) : ∀ k, j ≤ k → cQ gm a kd j ≤ cQ gm a kd k := by
  intro k
  induction k with
  | zero => intro h; have h0 : j = 0 := by omega
            subst h0; exact Nat.le_refl _
  | succ k ih =>
    intro h
    by_cases hj : j = k + 1
    · subst hj; exact Nat.le_refl _
    · have := ih (by omega)
      show _ ≤ cQ gm a kd k + _
      omega
theorem argF_ok {sg : Nat → Int32} {gm : Nat → Nat → Int32} {a : Int32} (hn : iv 0 80 (sg 24)) : ∀ n, ¬ argF sg gm a n = -1 → iv 1 79 (argF sg gm a n) ∧ (argF sg gm a n).toNatClampNeg < (sg 24).toNatClampNeg ∧ gm 28 (argF sg gm a n).toNatClampNeg = a ∧ gm 26 (argF sg gm a n).toNatClampNeg = 4 ∧ n ≤ cQ gm a 4 (argF sg gm a n).toNatClampNeg := by
  intro n
  induction n with
  | zero =>
    intro h
    have h : ¬ mInn sg gm a 4 0 = -1 := h
    rcases mInn_or (gm := gm) (a := a) (kd := 4) (bh := 0) hn with q | ⟨q1, q2, q3, q4, q5, _⟩
    · exact absurd q.1 h
    · exact ⟨q1, q3, q4, q5.resolve_left (by decide), Nat.zero_le _⟩
  | succ n ih =>
    intro h
    have h : ¬ (if argF sg gm a n = -1 then -1 else mInn sg gm a 4 (argF sg gm a n)) = -1 := h
    have h1 : ¬ argF sg gm a n = -1 := fun q => by rw [if_pos q] at h; exact h rfl
    obtain ⟨i1, i2, i3, i4, i5⟩ := ih h1
    have e1 : argF sg gm a (n + 1) = mInn sg gm a 4 (argF sg gm a n) := by show (if _ then _ else _) = _; rw [if_neg h1]
    rw [if_neg h1] at h
    rw [e1]
    rcases mInn_or (gm := gm) (a := a) (kd := 4) (bh := argF sg gm a n) hn with q | ⟨q1, q2, q3, q4, q5, _⟩
    · exact absurd q.1 h
    · refine ⟨q1, q3, q4, q5.resolve_left (by decide), ?_⟩
      have m1 := cQ_mono (gm := gm) (a := a) (kd := 4) ((argF sg gm a n).toNatClampNeg + 1) _ q2
      have m2 : cQ gm a 4 ((argF sg gm a n).toNatClampNeg + 1) = cQ gm a 4 (argF sg gm a n).toNatClampNeg + 1 := by
        show _ + _ = _
        rw [if_pos ⟨i3, i4⟩]
      omega
theorem arg_lt {sg : Nat → Int32} {gm : Nat → Nat → Int32} {lg : Nat → Nat → Int64} {b : Int32} {n : Nat} (hn : iv 0 80 (sg 24)) (hs : STR sg gm lg) (h : ¬ mArg sg gm lg b n = -1) : n ≤ 3 := by
  obtain ⟨i1, i2, i3, i4, i5⟩ := argF_ok hn n h
  have g1 := (hs.1 _ i2).2.1 (by rw [i4]; rfl)
  have g2 := g1.1
  rw [cQ_ah, i3, i4] at g2
  omega

set_option maxHeartbeats 4000000 in
set_option maxRecDepth 100000 in
theorem f_inner (l : Launch) (dC : Nat → ClassId) (dI : Nat → Nat → Nat) (h0 : Nat) (ad : Nat → Nat) (cid : Nat → ClassId) (sg : Nat → Int32) (gm : Nat → Nat → Int32) (lg : Nat → Nat → Int64) (x : Int32) (kd : Int32) (bh : Int32) (hI : MI sg gm) (hvx : iv (-1) 79 x) (hvkd : iv 0 10 kd) (hvbh : iv 0 79 bh) : MMi l dC dI yX13_inner wm_X13_inner ({ frames := 0, cells := 0, slots := 0, locals := 0 }) h0 ad cid [.int x, .int kd, .int bh] sg gm lg (fun r v => (iv (-1) 79 r) ∧ (r = mInn sg gm x kd bh) ∧ v = (sg, gm, lg)) := by
  intro sz
  refine Met.ofW (cc := cX13_inner) (maxL := 5) (ret := (some .int)) (by decide) rfl ?_
  intro p e s m args below meth c s₁ B hml hv
  obtain ⟨rfl, hsz, hP, hK, hD0⟩ := hv
  have hx := B.exec
  have hb := B.bytes
  have hr := B.returns
  have hts := atoms_spec (ws := wm_X13_inner) B.pre
  have htb := fun (w : Cond) (h : w ∈ tb) => hts w (List.mem_cons_of_mem _ h)
  have hown : s.vm.findClass RX13 = some m.cls := findClass_of_methodNamed B.named
  have hlocks := B.notSynchronized
  subst hsz
  have hD := hD0.self (sz := s.heap.size)
  generalize hAe : va_A (mW h0 ad cid sg gm lg) s.heap.size = A at hD ⊢
  have hA : ∀ q : Nat, s.heap.size ≤ q → A q := fun q h => by rw [← hAe]; exact Or.inr h
  have hS : va_S A s.heap s.heap [] := va_S.rf
  have hl := lv_entry ([.ref h0, .int x, .int kd, .int bh]) (n := 5) (Nat.le_of_ble_eq_true rfl)
  rw [lg_entry_eq]
  generalize (lg_sl ([.ref h0, .int x, .int kd, .int bh]) ++ List.replicate (5 - (lg_sl ([.ref h0, .int x, .int kd, .int bh])).length) Slot.unset).toArray = ls at hl ⊢
  have hl : lv_has ls 5 [(0, .ref h0), (1, .int x), (2, .int kd), (3, .int bh)] := hl
  have hj40 : ∀ (x4_40 : Int32) (_ : iv 1 79 x4_40) (_ : iv (-1) 79 x) (_ : iv 0 10 kd) (_ : iv 0 79 bh) (_ : NHB (qInn gm x kd) (bh.toNatClampNeg + 1) x4_40.toNatClampNeg) (_ : bh.toNatClampNeg + 1 ≤ x4_40.toNatClampNeg) (_ : qInn gm x kd x4_40.toNatClampNeg = true) (_ : x4_40.toInt < (sg 24).toInt) (H : Heap) (locs : List Loc) (ls : Array Slot), va_P (dC, dI) vwCl (mW h0 ad cid sg gm lg) H → va_D A (mW h0 ad cid sg gm lg) → va_S A s.heap H locs → lv_has ls 5 [(4, .int x4_40), (0, .ref h0), (1, .int x), (2, .int kd), (3, .int bh)] → W p l e (headSpec wm_X13_inner ({ frames := 0, cells := 0, slots := 0, locals := 0 })).room s m ([.ref h0, .int x, .int kd, .int bh] : List Value).toArray below meth c H locs 0 0 (MQ below (va_Qi (fun r v => (iv (-1) 79 r) ∧ (r = mInn sg gm x kd bh) ∧ v = (sg, gm, lg)) (MB dC dI h0 ad cid A) A) ([.ref h0, .int x, .int kd, .int bh] : List Value).toArray s 0 0 A) (F0 m 40 ls []) := by
    intro x4_40 hx4_40 hsx1_40 hsx2_40 hsx3_40 hnb hge hqt hlt9 H locs ls hP hD hS hl
    refine lv_iload hx hb dX13_inner_40 (lv_at hl 0 rfl) ?_
    exact W.iret (v := x4_40) hx hb hr (fun t ht hW => ⟨⟨x4_40, (sg, gm, lg), rfl, ⟨(iv_w hx4_40 (by decide)), (inn_hit (show iv 0 80 (sg 24) from MI_s hI 24) hx4_40 hge hlt9 hnb hqt), rfl⟩, by rw [ht]; exact hP, va_K.moved hW.alike hK, hD⟩, hS.F ht⟩) hS.2.2 dX13_inner_42
  have hj5 : ∀ (n : Nat) (x4_5 : Int32) (_ : (80 - x4_5.toInt).toNat = n) (_ : iv 1 80 x4_5) (_ : iv (-1) 79 x) (_ : iv 0 10 kd) (_ : iv 0 79 bh) (_ : NHB (qInn gm x kd) (bh.toNatClampNeg + 1) x4_5.toNatClampNeg) (_ : bh.toNatClampNeg + 1 ≤ x4_5.toNatClampNeg) (H : Heap) (locs : List Loc) (ls : Array Slot), va_P (dC, dI) vwCl (mW h0 ad cid sg gm lg) H → va_D A (mW h0 ad cid sg gm lg) → va_S A s.heap H locs → lv_has ls 5 [(4, .int x4_5), (0, .ref h0), (1, .int x), (2, .int kd), (3, .int bh)] → W p l e (headSpec wm_X13_inner ({ frames := 0, cells := 0, slots := 0, locals := 0 })).room s m ([.ref h0, .int x, .int kd, .int bh] : List Value).toArray below meth c H locs 0 0 (MQ below (va_Qi (fun r v => (iv (-1) 79 r) ∧ (r = mInn sg gm x kd bh) ∧ v = (sg, gm, lg)) (MB dC dI h0 ad cid A) A) ([.ref h0, .int x, .int kd, .int bh] : List Value).toArray s 0 0 A) (F0 m 5 ls []) := by
    intro n
    induction n using Nat.strongRecOn with
    | ind n ih5 =>
      intro x4_5 hn5 hx4_5 hsx1_5 hsx2_5 hsx3_5 hnb hge H locs ls hP hD hS hl
      have hj43 : ∀ (_ : iv 1 79 x4_5) (_ : iv (-1) 79 x) (_ : iv 0 10 kd) (_ : iv 0 79 bh) (_ : qInn gm x kd x4_5.toNatClampNeg = false) (H : Heap) (locs : List Loc) (ls : Array Slot), va_P (dC, dI) vwCl (mW h0 ad cid sg gm lg) H → va_D A (mW h0 ad cid sg gm lg) → va_S A s.heap H locs → lv_has ls 5 [(4, .int x4_5), (0, .ref h0), (1, .int x), (2, .int kd), (3, .int bh)] → W p l e (headSpec wm_X13_inner ({ frames := 0, cells := 0, slots := 0, locals := 0 })).room s m ([.ref h0, .int x, .int kd, .int bh] : List Value).toArray below meth c H locs 0 0 (MQ below (va_Qi (fun r v => (iv (-1) 79 r) ∧ (r = mInn sg gm x kd bh) ∧ v = (sg, gm, lg)) (MB dC dI h0 ad cid A) A) ([.ref h0, .int x, .int kd, .int bh] : List Value).toArray s 0 0 A) (F0 m 43 ls []) := by
        intro  hsx4_43 hsx1_43 hsx2_43 hsx3_43 hnq H locs ls hP hD hS hl
        obtain ⟨z_1, ez_1⟩ : ∃ z : Int32, z = x4_5 + 1 := ⟨_, rfl⟩
        have hz_1 : iv 2 80 z_1 := iv_of ez_1 (iv_add hsx4_43 (iv_k (by decide) : iv 1 1 1) (by decide))
        have tz_1 : z_1.toInt = x4_5.toInt + 1 := by rw [ez_1]; exact iv_addE hsx4_43 (iv_k (by decide) : iv 1 1 1) (by decide)
        refine lv_iinc (v := z_1) (lv' := [(4, .int z_1), (0, .ref h0), (1, .int x), (2, .int kd), (3, .int bh)]) hx hb dX13_inner_43 hl (k := 0) rfl ez_1.symm (by decide) rfl (fun ls hl => ?_)
        refine lv_goto (tgt := 5) hx hb dX13_inner_46 (by decide) ?_
        exact ih5 _ (by rw [← hn5]; exact (iv_meas tz_1 hsx4_43 (by decide))) z_1 rfl (iv_w hz_1 (by decide)) hsx1_43 hsx2_43 hsx3_43 (by rw [s_cl hsx4_43 (by decide) tz_1]; exact NHB_s hnb hnq) (by rw [s_cl hsx4_43 (by decide) tz_1]; omega) _ _ _ hP hD hS (lv_sub hl [0, 1, 2, 3, 4] rfl)
      refine lv_iload hx hb dX13_inner_5 (lv_at hl 0 rfl) ?_
      refine lv_aload_n hx hb dX13_inner_7 rfl (lv_at hl 1 rfl) ?_
      refine mr_get (v := .int (sg 24)) hx hb htb inX13 hown hK hP 24 (by decide) (htb _ kw_815) rfl dX13_inner_8 ?_
      refine lv_icmp_ge (tgt := 49) hx hb dX13_inner_11 (by decide) (fun c_2 => ?_) (fun c_2 => ?_)
      · have d_3 : ((sg 24) : Int32).toInt ≤ (x4_5 : Int32).toInt := Int32.le_iff_toInt_le.mp c_2
        refine lv_iconst (v := (-1)) hx hb dX13_inner_49 (by decide) ?_
        exact W.iret (v := (-1)) hx hb hr (fun t ht hW => ⟨⟨(-1), (sg, gm, lg), rfl, ⟨(iv_w (iv_k (by decide) : iv (-1) (-1) (-1)) (by decide)), (inn_no (show iv 0 80 (sg 24) from MI_s hI 24) hx4_5 (by have := i32_0; have := i32_1; have := i32_2; have := i32_m1; have := (show iv 0 80 (sg 24) from MI_s hI 24).1; have := (show iv 0 80 (sg 24) from MI_s hI 24).2; have := (hsx1_5).1; have := (hsx1_5).2; have := (hsx2_5).1; have := (hsx2_5).2; have := (hsx3_5).1; have := (hsx3_5).2; have := (hx4_5).1; have := (hx4_5).2; have := ((show iv 0 80 (sg 24) from MI_s hI 24)).1; have := ((show iv 0 80 (sg 24) from MI_s hI 24)).2; omega) hnb), rfl⟩, by rw [ht]; exact hP, va_K.moved hW.alike hK, hD⟩, hS.F ht⟩) hS.2.2 dX13_inner_50
      · have d_4 : (x4_5 : Int32).toInt < ((sg 24) : Int32).toInt := Int32.lt_iff_toInt_lt.mp (i32_lt c_2)
        have h_5 : iv 1 79 x4_5 := iv_ltL (i32_lt c_2) hx4_5 (show iv 0 80 (sg 24) from MI_s hI 24) (by decide)
        have h_6 : iv 2 80 (sg 24) := iv_ltR (i32_lt c_2) hx4_5 (show iv 0 80 (sg 24) from MI_s hI 24) (by decide)
        refine lv_aload_n hx hb dX13_inner_14 rfl (lv_at hl 1 rfl) ?_
        refine mr_get (v := .ref (ad 28)) hx hb htb inX13 hown hK hP 28 (by decide) (htb _ kw_184) rfl dX13_inner_15 ?_
        refine lv_iload hx hb dX13_inner_18 (lv_at hl 0 rfl) ?_
        refine mr_iald hx hb hK hP 21 (k := 28) rfl rfl rfl (show vp_in x4_5 80 from (iv_in h_5 (by decide))) dX13_inner_20 ?_
        refine lv_topi (fun z_7 ez_7 => ?_)
        have hz_7 : iv (-1) 79 z_7 := iv_of ez_7 (MI_a hI 28 h_5 (by decide))
        refine lv_iload_n hx hb dX13_inner_21 rfl (lv_at hl 2 rfl) ?_
        refine lv_icmp_ne (tgt := 43) hx hb dX13_inner_22 (by decide) (fun c_8 => ?_) (fun c_8 => ?_)
        · exact hj43 h_5 hsx1_5 hsx2_5 hsx3_5 (qI_1 (by rw [← ez_7]; exact c_8)) _ _ _ hP hD hS (lv_sub hl [0, 1, 2, 3, 4] rfl)
        · have d_9 : (z_7 : Int32).toInt = (x : Int32).toInt := congrArg Int32.toInt c_8
          refine lv_iload_n hx hb dX13_inner_25 rfl (lv_at hl 3 rfl) ?_
          refine lv_if_eq (tgt := 40) hx hb dX13_inner_26 (by decide) (fun c_10 => ?_) (fun c_10 => ?_)
          · have h_11 : iv 0 0 kd := iv_eq c_10 hsx2_5 (iv_k (by decide) : iv 0 0 0) (by decide)
            exact hj40 x4_5 h_5 hsx1_5 (iv_w h_11 (by decide)) hsx3_5 (hnb) (hge) (qI_t (by rw [← ez_7]; exact c_8) (Or.inl c_10)) (by have := i32_0; have := i32_1; have := i32_2; have := i32_m1; have := (show iv 0 80 (sg 24) from MI_s hI 24).1; have := (show iv 0 80 (sg 24) from MI_s hI 24).2; have := (hsx1_5).1; have := (hsx1_5).2; have := (h_11).1; have := (h_11).2; have := (hsx3_5).1; have := (hsx3_5).2; have := (h_5).1; have := (h_5).2; have := (h_6).1; have := (h_6).2; have := (hz_7).1; have := (hz_7).2; omega) _ _ _ hP hD hS (lv_sub hl [0, 1, 2, 3, 4] rfl)
          · have h_12 : iv 1 10 kd := iv_neL c_10 hsx2_5 (by decide)
            refine lv_aload_n hx hb dX13_inner_29 rfl (lv_at hl 1 rfl) ?_
            refine mr_get (v := .ref (ad 26)) hx hb htb inX13 hown hK hP 26 (by decide) (htb _ kw_182) rfl dX13_inner_30 ?_
            refine lv_iload hx hb dX13_inner_33 (lv_at hl 0 rfl) ?_
            refine mr_iald hx hb hK hP 19 (k := 26) rfl rfl rfl (show vp_in x4_5 80 from (iv_in h_5 (by decide))) dX13_inner_35 ?_
            refine lv_topi (fun z_13 ez_13 => ?_)
            have hz_13 : iv 0 10 z_13 := iv_of ez_13 (MI_a hI 26 h_5 (by decide))
            refine lv_iload_n hx hb dX13_inner_36 rfl (lv_at hl 3 rfl) ?_
            refine lv_icmp_ne (tgt := 43) hx hb dX13_inner_37 (by decide) (fun c_14 => ?_) (fun c_14 => ?_)
            · exact hj43 h_5 hsx1_5 (iv_w h_12 (by decide)) hsx3_5 (qI_2 c_10 (by rw [← ez_13]; exact c_14)) _ _ _ hP hD hS (lv_sub hl [0, 1, 2, 3, 4] rfl)
            · have d_15 : (z_13 : Int32).toInt = (kd : Int32).toInt := congrArg Int32.toInt c_14
              have h_16 : iv 1 10 z_13 := iv_eq c_14 hz_13 h_12 (by decide)
              exact hj40 x4_5 h_5 hsx1_5 (iv_w h_12 (by decide)) hsx3_5 (hnb) (hge) (qI_t (by rw [← ez_7]; exact c_8) (Or.inr (by rw [← ez_13]; exact c_14))) (by have := i32_0; have := i32_1; have := i32_2; have := i32_m1; have := (show iv 0 80 (sg 24) from MI_s hI 24).1; have := (show iv 0 80 (sg 24) from MI_s hI 24).2; have := (hsx1_5).1; have := (hsx1_5).2; have := (h_12).1; have := (h_12).2; have := (hsx3_5).1; have := (hsx3_5).2; have := (h_5).1; have := (h_5).2; have := (h_6).1; have := (h_6).2; have := (hz_7).1; have := (hz_7).2; have := (h_16).1; have := (h_16).2; omega) _ _ _ hP hD hS (lv_sub hl [0, 1, 2, 3, 4] rfl)
  refine lv_iload_n hx hb dX13_inner_0 rfl (lv_at hl 3 rfl) ?_
  refine lv_iconst (v := 1) hx hb dX13_inner_1 (by decide) ?_
  refine lv_iadd hx hb dX13_inner_2 ?_
  refine lv_topi (fun z_17 ez_17 => ?_)
  have hz_17 : iv 1 80 z_17 := iv_of ez_17 (iv_add hvbh (iv_k (by decide) : iv 1 1 1) (by decide))
  have tz_17 : z_17.toInt = (bh : Int32).toInt + 1 := by rw [ez_17]; exact iv_addE hvbh (iv_k (by decide) : iv 1 1 1) (by decide)
  refine lv_istore (lv' := [(4, .int z_17), (0, .ref h0), (1, .int x), (2, .int kd), (3, .int bh)]) hx hb dX13_inner_3 hl (by decide) rfl (fun ls hl => ?_)
  exact hj5 _ z_17 rfl hz_17 hvx hvkd hvbh (by rw [s_cl hvbh (by decide) tz_17]; exact NHB_0) (Nat.le_of_eq (s_cl hvbh (by decide) tz_17).symm) _ _ _ hP hD hS (lv_sub hl [0, 1, 2, 3, 4] rfl)

set_option maxHeartbeats 4000000 in
set_option maxRecDepth 100000 in
theorem f_tells (l : Launch) (dC : Nat → ClassId) (dI : Nat → Nat → Nat) (h0 : Nat) (ad : Nat → Nat) (cid : Nat → ClassId) (sg : Nat → Int32) (gm : Nat → Nat → Int32) (lg : Nat → Nat → Int64) (b : Int32) (nn : Int64) (hI : MI sg gm) (hvb : iv (-1) 79 b) (hbl : b.toInt < (sg 41).toInt) (hac : ACY sg gm lg) : MMi l dC dI yX13_tells wm_X13_tells ({ frames := 4, cells := 0, slots := 0, locals := 95 }) h0 ad cid [.int b, .long nn] sg gm lg (fun r v => (iv (-1) 79 r) ∧ (r = mTel sg gm lg b nn) ∧ v = (sg, gm, lg)) := by
  intro sz
  refine Met.ofW (cc := cX13_tells) (maxL := 5) (ret := (some .int)) (by decide) rfl ?_
  intro p e s m args below meth c s₁ B hml hv
  obtain ⟨rfl, hsz, hP, hK, hD0⟩ := hv
  have hx := B.exec
  have hb := B.bytes
  have hr := B.returns
  have hts := atoms_spec (ws := wm_X13_tells) B.pre
  have htb := fun (w : Cond) (h : w ∈ tb) => hts w (List.mem_cons_of_mem _ h)
  have hown : s.vm.findClass RX13 = some m.cls := findClass_of_methodNamed B.named
  have hlocks := B.notSynchronized
  subst hsz
  have hD := hD0.self (sz := s.heap.size)
  generalize hAe : va_A (mW h0 ad cid sg gm lg) s.heap.size = A at hD ⊢
  have hA : ∀ q : Nat, s.heap.size ≤ q → A q := fun q h => by rw [← hAe]; exact Or.inr h
  have hS : va_S A s.heap s.heap [] := va_S.rf
  have hl := lv_entry ([.ref h0, .int b, .long nn]) (n := 5) (Nat.le_of_ble_eq_true rfl)
  rw [lg_entry_eq]
  generalize (lg_sl ([.ref h0, .int b, .long nn]) ++ List.replicate (5 - (lg_sl ([.ref h0, .int b, .long nn])).length) Slot.unset).toArray = ls at hl ⊢
  have hl : lv_has ls 5 [(0, .ref h0), (1, .int b), (2, .long nn)] := hl
  have hj3 : ∀ (n : Nat) (x4_3 : Int32) (_ : dP sg gm lg x4_3 = n) (_ : iv (-1) 79 x4_3) (_ : iv (-1) 79 b) (_ : mTel sg gm lg b nn = mTel sg gm lg x4_3 nn) (_ : x4_3.toInt < (sg 41).toInt) (H : Heap) (locs : List Loc) (ls : Array Slot), va_P (dC, dI) vwCl (mW h0 ad cid sg gm lg) H → va_D A (mW h0 ad cid sg gm lg) → va_S A s.heap H locs → lv_has ls 5 [(4, .int x4_3), (0, .ref h0), (1, .int b), (2, .long nn)] → W p l e (headSpec wm_X13_tells ({ frames := 4, cells := 0, slots := 0, locals := 95 })).room s m ([.ref h0, .int b, .long nn] : List Value).toArray below meth c H locs 0 0 (MQ below (va_Qi (fun r v => (iv (-1) 79 r) ∧ (r = mTel sg gm lg b nn) ∧ v = (sg, gm, lg)) (MB dC dI h0 ad cid A) A) ([.ref h0, .int b, .long nn] : List Value).toArray s 0 0 A) (F0 m 3 ls []) := by
    intro n
    induction n using Nat.strongRecOn with
    | ind n ih3 =>
      intro x4_3 hn3 hx4_3 hsx1_3 htl hlb H locs ls hP hD hS hl
      refine lv_iload hx hb dX13_tells_3 (lv_at hl 0 rfl) ?_
      refine lv_iconst (v := (-1)) hx hb dX13_tells_5 (by decide) ?_
      refine lv_icmp_eq (tgt := 43) hx hb dX13_tells_6 (by decide) (fun c_1 => ?_) (fun c_1 => ?_)
      · have h_2 : iv (-1) (-1) x4_3 := iv_eq c_1 hx4_3 (iv_k (by decide) : iv (-1) (-1) (-1)) (by decide)
        refine lv_iconst (v := (-1)) hx hb dX13_tells_43 (by decide) ?_
        exact W.iret (v := (-1)) hx hb hr (fun t ht hW => ⟨⟨(-1), (sg, gm, lg), rfl, ⟨(iv_w (iv_k (by decide) : iv (-1) (-1) (-1)) (by decide)), (by rw [htl, c_1, tel_no]), rfl⟩, by rw [ht]; exact hP, va_K.moved hW.alike hK, hD⟩, hS.F ht⟩) hS.2.2 dX13_tells_44
      · have h_3 : iv 0 79 x4_3 := iv_neL c_1 hx4_3 (by decide)
        refine lv_aload_n hx hb dX13_tells_9 rfl (lv_at hl 1 rfl) ?_
        refine lv_aload_n hx hb dX13_tells_10 rfl (lv_at hl 1 rfl) ?_
        refine mr_get (v := .ref (ad 42)) hx hb htb inX13 hown hK hP 42 (by decide) (htb _ kw_196) rfl dX13_tells_11 ?_
        refine lv_iload hx hb dX13_tells_14 (lv_at hl 0 rfl) ?_
        refine mr_iald hx hb hK hP 33 (k := 42) rfl rfl rfl (show vp_in x4_3 80 from (iv_in h_3 (by decide))) dX13_tells_16 ?_
        refine lv_topi (fun z_4 ez_4 => ?_)
        have hz_4 : iv 0 79 z_4 := iv_of ez_4 (MI_a hI 42 h_3 (by decide))
        refine lv_lload_n hx hb dX13_tells_17 rfl (lv_at hl 3 rfl) ?_
        refine mr_calli (rest := []) ⟨hx, hb, hml, hown, htb⟩ (f_has l dC dI h0 ad cid sg gm lg z_4 nn hI hz_4) (cwV 2 htb (gd_V kw_916 kw_917 kw_918 kw_5 kw_1543) rfl rfl rfl (by decide +kernel) ⟨Nat.le_of_ble_eq_true rfl, Nat.le_of_ble_eq_true rfl⟩) rfl hl.1 rfl (Nat.le_of_ble_eq_true rfl) dX13_tells_18 ⟨Nat.zero_le _, Nat.zero_le _⟩ hK hP hD hS hA (fun r_5 u_6 H locs hw hP hD hS => ?_)
        obtain ⟨hr_5, fH_r_5, rfl⟩ := hw
        have hP : va_P (dC, dI) vwCl (mW h0 ad cid sg gm lg) H := hP
        have hD : va_D A (mW h0 ad cid sg gm lg) := hD
        refine lv_if_eq (tgt := 32) hx hb dX13_tells_21 (by decide) (fun c_7 => ?_) (fun c_7 => ?_)
        · have h_8 : iv 0 0 r_5 := iv_eq c_7 hr_5 (iv_k (by decide) : iv 0 0 0) (by decide)
          refine lv_aload_n hx hb dX13_tells_32 rfl (lv_at hl 1 rfl) ?_
          refine lv_iload hx hb dX13_tells_33 (lv_at hl 0 rfl) ?_
          refine mr_calli (rest := []) ⟨hx, hb, hml, hown, htb⟩ (f_parentOf l dC dI h0 ad cid sg gm lg x4_3 hI h_3) (cwV 1 htb (gd_V kw_949 kw_950 kw_951 kw_5 kw_1553) rfl rfl rfl (by decide +kernel) ⟨Nat.le_of_ble_eq_true rfl, Nat.le_of_ble_eq_true rfl⟩) rfl hl.1 rfl (Nat.le_of_ble_eq_true rfl) dX13_tells_35 ⟨Nat.zero_le _, Nat.zero_le _⟩ hK hP hD hS hA (fun r_9 u_10 H locs hw hP hD hS => ?_)
          obtain ⟨hr_9, fP_r_9, rfl⟩ := hw
          have hP : va_P (dC, dI) vwCl (mW h0 ad cid sg gm lg) H := hP
          have hD : va_D A (mW h0 ad cid sg gm lg) := hD
          refine lv_istore (lv' := [(4, .int r_9), (0, .ref h0), (1, .int b), (2, .long nn)]) hx hb dX13_tells_38 hl (by decide) rfl (fun ls hl => ?_)
          refine lv_goto (tgt := 3) hx hb dX13_tells_40 (by decide) ?_
          exact ih3 _ (by rw [← hn3]; exact (dP_lt (show iv 0 80 (sg 41) from MI_s hI 41) hac (h_3).1 fP_r_9)) r_9 rfl hr_9 hsx1_3 (htl.trans (by rw [tel_n (show iv 0 80 (sg 41) from MI_s hI 41) hac (h_3).1 (by rw [← ez_4, ← fH_r_5]; exact c_7), ← fP_r_9])) (par_lt (show iv 0 80 (sg 41) from MI_s hI 41) fP_r_9) _ _ _ hP hD hS (lv_sub hl [0, 1, 2, 3] rfl)
        · have h_11 : iv 1 1 r_5 := iv_neL c_7 hr_5 (by decide)
          refine lv_aload_n hx hb dX13_tells_24 rfl (lv_at hl 1 rfl) ?_
          refine mr_get (v := .ref (ad 42)) hx hb htb inX13 hown hK hP 42 (by decide) (htb _ kw_196) rfl dX13_tells_25 ?_
          refine lv_iload hx hb dX13_tells_28 (lv_at hl 0 rfl) ?_
          refine mr_iald hx hb hK hP 33 (k := 42) rfl rfl rfl (show vp_in x4_3 80 from (iv_in h_3 (by decide))) dX13_tells_30 ?_
          refine lv_topi (fun z_12 ez_12 => ?_)
          obtain rfl : z_4 = z_12 := ez_4.trans ez_12.symm
          exact W.iret (v := z_4) hx hb hr (fun t ht hW => ⟨⟨z_4, (sg, gm, lg), rfl, ⟨(iv_w hz_4 (by decide)), (by rw [htl, tel_y (show iv 0 80 (sg 41) from MI_s hI 41) hac (h_3).1 (by rw [← ez_4, ← fH_r_5]; exact c_7)]; exact ez_4), rfl⟩, by rw [ht]; exact hP, va_K.moved hW.alike hK, hD⟩, hS.F ht⟩) hS.2.2 dX13_tells_31
  refine lv_iload_n hx hb dX13_tells_0 rfl (lv_at hl 1 rfl) ?_
  refine lv_istore (lv' := [(4, .int b), (0, .ref h0), (1, .int b), (2, .long nn)]) hx hb dX13_tells_1 hl (by decide) rfl (fun ls hl => ?_)
  exact hj3 _ b rfl hvb hvb (rfl) (hbl) _ _ _ hP hD hS (lv_sub hl [0, 1, 2, 3] rfl)

set_option maxHeartbeats 4000000 in
set_option maxRecDepth 100000 in
theorem a_letter (l : Launch) (dC : Nat → ClassId) (dI : Nat → Nat → Nat) (h0 : Nat) (ad : Nat → Nat) (cid : Nat → ClassId) (sg : Nat → Int32) (gm : Nat → Nat → Int32) (lg : Nat → Nat → Int64) (b : Int32) (nn : Int64) (hI : MI sg gm) (hvb : iv (-1) 79 b) (hbl : b.toInt < (sg 41).toInt) (hac : ACY sg gm lg) : MMi l dC dI yX13_letter wm_X13_letter ({ frames := 5, cells := 0, slots := 0, locals := 119 }) h0 ad cid [.int b, .long nn] sg gm lg (fun r v => v = (sg, gm, lg)) := by
  intro sz
  refine Met.ofW (cc := cX13_letter) (maxL := 5) (ret := (some .int)) (by decide) rfl ?_
  intro p e s m args below meth c s₁ B hml hv
  obtain ⟨rfl, hsz, hP, hK, hD0⟩ := hv
  have hx := B.exec
  have hb := B.bytes
  have hr := B.returns
  have hts := atoms_spec (ws := wm_X13_letter) B.pre
  have htb := fun (w : Cond) (h : w ∈ tb) => hts w (List.mem_cons_of_mem _ h)
  have hown : s.vm.findClass RX13 = some m.cls := findClass_of_methodNamed B.named
  have hlocks := B.notSynchronized
  subst hsz
  have hD := hD0.self (sz := s.heap.size)
  generalize hAe : va_A (mW h0 ad cid sg gm lg) s.heap.size = A at hD ⊢
  have hA : ∀ q : Nat, s.heap.size ≤ q → A q := fun q h => by rw [← hAe]; exact Or.inr h
  have hS : va_S A s.heap s.heap [] := va_S.rf
  have hl := lv_entry ([.ref h0, .int b, .long nn]) (n := 5) (Nat.le_of_ble_eq_true rfl)
  rw [lg_entry_eq]
  generalize (lg_sl ([.ref h0, .int b, .long nn]) ++ List.replicate (5 - (lg_sl ([.ref h0, .int b, .long nn])).length) Slot.unset).toArray = ls at hl ⊢
  have hl : lv_has ls 5 [(0, .ref h0), (1, .int b), (2, .long nn)] := hl
  have hj29 : ∀ (x4_29 : Int32) (y0_29 : Int32) (_ : iv (-1) 79 x4_29) (_ : iv (-1) 79 b) (H : Heap) (locs : List Loc) (ls : Array Slot), va_P (dC, dI) vwCl (mW h0 ad cid sg gm lg) H → va_D A (mW h0 ad cid sg gm lg) → va_S A s.heap H locs → lv_has ls 5 [(4, .int x4_29), (0, .ref h0), (1, .int b), (2, .long nn)] → W p l e (headSpec wm_X13_letter ({ frames := 5, cells := 0, slots := 0, locals := 119 })).room s m ([.ref h0, .int b, .long nn] : List Value).toArray below meth c H locs 0 0 (MQ below (va_Qi (fun r v => v = (sg, gm, lg)) (MB dC dI h0 ad cid A) A) ([.ref h0, .int b, .long nn] : List Value).toArray s 0 0 A) (F0 m 29 ls [.int y0_29]) := by
    intro x4_29 y0_29 hx4_29 hsx1_29 H locs ls hP hD hS hl
    exact W.iret (v := y0_29) hx hb hr (fun t ht hW => ⟨⟨y0_29, (sg, gm, lg), rfl, rfl, by rw [ht]; exact hP, va_K.moved hW.alike hK, hD⟩, hS.F ht⟩) hS.2.2 dX13_letter_29
  refine lv_aload_n hx hb dX13_letter_0 rfl (lv_at hl 0 rfl) ?_
  refine lv_iload_n hx hb dX13_letter_1 rfl (lv_at hl 1 rfl) ?_
  refine lv_lload_n hx hb dX13_letter_2 rfl (lv_at hl 2 rfl) ?_
  refine mr_calli (rest := []) ⟨hx, hb, hml, hown, htb⟩ (f_tells l dC dI h0 ad cid sg gm lg b nn hI hvb (by have := i32_0; have := i32_1; have := i32_2; have := i32_m1; have := (show iv 0 80 (sg 41) from MI_s hI 41).1; have := (show iv 0 80 (sg 41) from MI_s hI 41).2; have := (hvb).1; have := (hvb).2; omega) hac) (cwV 2 htb (gd_V kw_1183 kw_1184 kw_1185 kw_5 kw_1611) rfl rfl rfl (by decide +kernel) ⟨Nat.le_of_ble_eq_true rfl, Nat.le_of_ble_eq_true rfl⟩) rfl hl.1 rfl (Nat.le_of_ble_eq_true rfl) dX13_letter_3 ⟨Nat.zero_le _, Nat.zero_le _⟩ hK hP hD hS hA (fun r_1 u_2 H locs hw hP hD hS => ?_)
  obtain ⟨hr_1, fL_r_1, rfl⟩ := hw
  have hP : va_P (dC, dI) vwCl (mW h0 ad cid sg gm lg) H := hP
  have hD : va_D A (mW h0 ad cid sg gm lg) := hD
  refine lv_istore (lv' := [(4, .int r_1), (0, .ref h0), (1, .int b), (2, .long nn)]) hx hb dX13_letter_6 hl (by decide) rfl (fun ls hl => ?_)
  refine lv_iload hx hb dX13_letter_8 (lv_at hl 0 rfl) ?_
  refine lv_iconst (v := (-1)) hx hb dX13_letter_10 (by decide) ?_
  refine lv_icmp_ne (tgt := 18) hx hb dX13_letter_11 (by decide) (fun c_3 => ?_) (fun c_3 => ?_)
  · have h_4 : iv 0 79 r_1 := iv_neL c_3 hr_1 (by decide)
    refine lv_aload_n hx hb dX13_letter_18 rfl (lv_at hl 1 rfl) ?_
    refine lv_iload hx hb dX13_letter_19 (lv_at hl 0 rfl) ?_
    refine lv_lload_n hx hb dX13_letter_21 rfl (lv_at hl 3 rfl) ?_
    refine mr_calll (rest := []) ⟨hx, hb, hml, hown, htb⟩ (f_word l dC dI h0 ad cid sg gm lg r_1 nn hI h_4) (cwV 2 htb (gd_V kw_923 kw_924 kw_925 kw_5 kw_1545) rfl rfl rfl (by decide +kernel) ⟨Nat.le_of_ble_eq_true rfl, Nat.le_of_ble_eq_true rfl⟩) rfl hl.1 rfl (Nat.le_of_ble_eq_true rfl) dX13_letter_22 ⟨Nat.zero_le _, Nat.zero_le _⟩ hK hP hD hS hA (fun r_5 u_6 H locs hw hP hD hS => ?_)
    obtain ⟨fW_r_5, rfl⟩ := hw
    have hP : va_P (dC, dI) vwCl (mW h0 ad cid sg gm lg) H := hP
    have hD : va_D A (mW h0 ad cid sg gm lg) := hD
    refine lv_l2i (v := (r_5).toInt32) hx hb dX13_letter_25 rfl ?_
    refine lv_topi (fun z_7 ez_7 => ?_)
    refine lv_bipush (v := 97) hx hb dX13_letter_26 (by decide) ?_
    refine lv_isub hx hb dX13_letter_28 ?_
    refine lv_topi (fun z_8 ez_8 => ?_)
    exact hj29 r_1 z_8 (iv_w h_4 (by decide)) hvb _ _ _ hP hD hS (lv_sub hl [0, 1, 2, 3] rfl)
  · have h_9 : iv (-1) (-1) r_1 := iv_eq c_3 hr_1 (iv_k (by decide) : iv (-1) (-1) (-1)) (by decide)
    refine lv_iconst (v := (-1)) hx hb dX13_letter_14 (by decide) ?_
    refine lv_goto (tgt := 29) hx hb dX13_letter_15 (by decide) ?_
    exact hj29 r_1 (-1) (iv_w h_9 (by decide)) hvb _ _ _ hP hD hS (lv_sub hl [0, 1, 2, 3] rfl)

set_option maxHeartbeats 4000000 in
set_option maxRecDepth 100000 in
theorem a_classOf (l : Launch) (dC : Nat → ClassId) (dI : Nat → Nat → Nat) (h0 : Nat) (ad : Nat → Nat) (cid : Nat → ClassId) (sg : Nat → Int32) (gm : Nat → Nat → Int32) (lg : Nat → Nat → Int64) (b : Int32) (hI : MI sg gm) (hvb : iv (-1) 79 b) (hbl : b.toInt < (sg 41).toInt) (hac : ACY sg gm lg) : MMi l dC dI yX13_classOf wm_X13_classOf ({ frames := 5, cells := 0, slots := 0, locals := 119 }) h0 ad cid [.int b] sg gm lg (fun r v => (iv (-1) 7 r) ∧ v = (sg, gm, lg)) := by
  intro sz
  refine Met.ofW (cc := cX13_classOf) (maxL := 3) (ret := (some .int)) (by decide) rfl ?_
  intro p e s m args below meth c s₁ B hml hv
  obtain ⟨rfl, hsz, hP, hK, hD0⟩ := hv
  have hx := B.exec
  have hb := B.bytes
  have hr := B.returns
  have hts := atoms_spec (ws := wm_X13_classOf) B.pre
  have htb := fun (w : Cond) (h : w ∈ tb) => hts w (List.mem_cons_of_mem _ h)
  have hown : s.vm.findClass RX13 = some m.cls := findClass_of_methodNamed B.named
  have hlocks := B.notSynchronized
  subst hsz
  have hD := hD0.self (sz := s.heap.size)
  generalize hAe : va_A (mW h0 ad cid sg gm lg) s.heap.size = A at hD ⊢
  have hA : ∀ q : Nat, s.heap.size ≤ q → A q := fun q h => by rw [← hAe]; exact Or.inr h
  have hS : va_S A s.heap s.heap [] := va_S.rf
  have hl := lv_entry ([.ref h0, .int b]) (n := 3) (Nat.le_of_ble_eq_true rfl)
  rw [lg_entry_eq]
  generalize (lg_sl ([.ref h0, .int b]) ++ List.replicate (3 - (lg_sl ([.ref h0, .int b])).length) Slot.unset).toArray = ls at hl ⊢
  have hl : lv_has ls 3 [(0, .ref h0), (1, .int b)] := hl
  have hj29 : ∀ (x2_29 : Int32) (y0_29 : Int32) (_ : iv (-1) 79 x2_29) (_ : iv (-1) 79 b) (_ : iv (-1) 7 y0_29) (H : Heap) (locs : List Loc) (ls : Array Slot), va_P (dC, dI) vwCl (mW h0 ad cid sg gm lg) H → va_D A (mW h0 ad cid sg gm lg) → va_S A s.heap H locs → lv_has ls 3 [(2, .int x2_29), (0, .ref h0), (1, .int b)] → W p l e (headSpec wm_X13_classOf ({ frames := 5, cells := 0, slots := 0, locals := 119 })).room s m ([.ref h0, .int b] : List Value).toArray below meth c H locs 0 0 (MQ below (va_Qi (fun r v => (iv (-1) 7 r) ∧ v = (sg, gm, lg)) (MB dC dI h0 ad cid A) A) ([.ref h0, .int b] : List Value).toArray s 0 0 A) (F0 m 29 ls [.int y0_29]) := by
    intro x2_29 y0_29 hx2_29 hsx1_29 hy0_29 H locs ls hP hD hS hl
    exact W.iret (v := y0_29) hx hb hr (fun t ht hW => ⟨⟨y0_29, (sg, gm, lg), rfl, ⟨hy0_29, rfl⟩, by rw [ht]; exact hP, va_K.moved hW.alike hK, hD⟩, hS.F ht⟩) hS.2.2 dX13_classOf_29
  refine lv_aload_n hx hb dX13_classOf_0 rfl (lv_at hl 0 rfl) ?_
  refine lv_iload_n hx hb dX13_classOf_1 rfl (lv_at hl 1 rfl) ?_
  refine lv_ldc2 (own := RX13) (v := 427020088179) hx hb hown (htb _ kw_900) dX13_classOf_2 ?_
  refine mr_calli (rest := []) ⟨hx, hb, hml, hown, htb⟩ (f_tells l dC dI h0 ad cid sg gm lg b 427020088179 hI hvb (by have := i32_0; have := i32_1; have := i32_2; have := i32_m1; have := (show iv 0 80 (sg 41) from MI_s hI 41).1; have := (show iv 0 80 (sg 41) from MI_s hI 41).2; have := (hvb).1; have := (hvb).2; omega) hac) (cwV 2 htb (gd_V kw_1183 kw_1184 kw_1185 kw_5 kw_1611) rfl rfl rfl (by decide +kernel) ⟨Nat.le_of_ble_eq_true rfl, Nat.le_of_ble_eq_true rfl⟩) rfl hl.1 rfl (Nat.le_of_ble_eq_true rfl) dX13_classOf_5 ⟨Nat.zero_le _, Nat.zero_le _⟩ hK hP hD hS hA (fun r_1 u_2 H locs hw hP hD hS => ?_)
  obtain ⟨hr_1, fL_r_1, rfl⟩ := hw
  have hP : va_P (dC, dI) vwCl (mW h0 ad cid sg gm lg) H := hP
  have hD : va_D A (mW h0 ad cid sg gm lg) := hD
  refine lv_istore_n (lv' := [(2, .int r_1), (0, .ref h0), (1, .int b)]) hx hb dX13_classOf_8 rfl hl (by decide) rfl (fun ls hl => ?_)
  refine lv_iload_n hx hb dX13_classOf_9 rfl (lv_at hl 0 rfl) ?_
  refine lv_iconst (v := (-1)) hx hb dX13_classOf_10 (by decide) ?_
  refine lv_icmp_ne (tgt := 18) hx hb dX13_classOf_11 (by decide) (fun c_3 => ?_) (fun c_3 => ?_)
  · have h_4 : iv 0 79 r_1 := iv_neL c_3 hr_1 (by decide)
    refine lv_aload_n hx hb dX13_classOf_18 rfl (lv_at hl 1 rfl) ?_
    refine lv_iload_n hx hb dX13_classOf_19 rfl (lv_at hl 0 rfl) ?_
    refine lv_ldc2 (own := RX13) (v := 427020088179) hx hb hown (htb _ kw_900) dX13_classOf_20 ?_
    refine mr_calll (rest := []) ⟨hx, hb, hml, hown, htb⟩ (f_word l dC dI h0 ad cid sg gm lg r_1 427020088179 hI h_4) (cwV 2 htb (gd_V kw_923 kw_924 kw_925 kw_5 kw_1545) rfl rfl rfl (by decide +kernel) ⟨Nat.le_of_ble_eq_true rfl, Nat.le_of_ble_eq_true rfl⟩) rfl hl.1 rfl (Nat.le_of_ble_eq_true rfl) dX13_classOf_23 ⟨Nat.zero_le _, Nat.zero_le _⟩ hK hP hD hS hA (fun r_5 u_6 H locs hw hP hD hS => ?_)
    obtain ⟨fW_r_5, rfl⟩ := hw
    have hP : va_P (dC, dI) vwCl (mW h0 ad cid sg gm lg) H := hP
    have hD : va_D A (mW h0 ad cid sg gm lg) := hD
    have hPc := hP.sub (ws' := []) [] rfl
    have hDc := hD.sub (ws' := []) [] (by decide) rfl
    have hKc := hK.sub (tys' := []) [] rfl
    have hFc := va_free (wc := []) hD hS hA [] rfl
    refine va_calli (va_runS (As := [.long r_5]) (rest := []) ⟨hx, hb, hml, hown, htb⟩ (a_classIn l dC dI H.size r_5) (va_cwS 1 htb (gd_S kw_927 kw_928 kw_5 kw_1546) rfl rfl rfl (by decide +kernel) ⟨Nat.le_of_ble_eq_true rfl, Nat.le_of_ble_eq_true rfl⟩) ⟨fun a U g mk q => by obtain ⟨q0, q1, qP, qK, qD⟩ := q; exact ⟨q0, q1, qP, va_K.moved (u := U) (U := U.calling g mk a) (Vm.Alike.refl U.vm) qK, qD⟩, fun U hU hW => ⟨rfl, by rw [hU], by rw [hU]; exact hPc, va_K.moved hW.alike hKc, hDc.weaken (fun _ _ _ _ => trivial)⟩⟩ rfl rfl hl.1 rfl (lv_room (Nat.le_of_ble_eq_true rfl)) dX13_classOf_26 ⟨Nat.zero_le _, Nat.zero_le _⟩) hS (fun q _ h => hFc q h) hFc (fun r_7 u9 t H1 locs ht hvm hw hB hz1 hk1 hS => ?_)
    have hP := ms_kept hP hz1 hk1
    generalize H1 = H at hP hS ⊢
    have hr_7 := hw
    exact hj29 r_1 r_7 (iv_w h_4 (by decide)) hvb hr_7 _ _ _ hP hD hS (lv_sub hl [0, 1, 2] rfl)
  · have h_8 : iv (-1) (-1) r_1 := iv_eq c_3 hr_1 (iv_k (by decide) : iv (-1) (-1) (-1)) (by decide)
    refine lv_iconst (v := (-1)) hx hb dX13_classOf_14 (by decide) ?_
    refine lv_goto (tgt := 29) hx hb dX13_classOf_15 (by decide) ?_
    exact hj29 r_1 (-1) (iv_w h_8 (by decide)) hvb (iv_w (iv_k (by decide) : iv (-1) (-1) (-1)) (by decide)) _ _ _ hP hD hS (lv_sub hl [0, 1, 2] rfl)

set_option maxHeartbeats 4000000 in
set_option maxRecDepth 100000 in
theorem f_argsOf (l : Launch) (dC : Nat → ClassId) (dI : Nat → Nat → Nat) (h0 : Nat) (ad : Nat → Nat) (cid : Nat → ClassId) (sg : Nat → Int32) (gm : Nat → Nat → Int32) (lg : Nat → Nat → Int64) (b : Int32) (hI : MI sg gm) (hvb : iv 0 79 b) (hbl : b.toInt < (sg 41).toInt) (hac : ACY sg gm lg) : MMi l dC dI yX13_argsOf wm_X13_argsOf ({ frames := 4, cells := 0, slots := 0, locals := 95 }) h0 ad cid [.int b] sg gm lg (fun r v => (iv 0 79 r) ∧ (r = mAO sg gm lg b) ∧ (r.toInt < (sg 41).toInt) ∧ v = (sg, gm, lg)) := by
  intro sz
  refine Met.ofW (cc := cX13_argsOf) (maxL := 3) (ret := (some .int)) (by decide) rfl ?_
  intro p e s m args below meth c s₁ B hml hv
  obtain ⟨rfl, hsz, hP, hK, hD0⟩ := hv
  have hx := B.exec
  have hb := B.bytes
  have hr := B.returns
  have hts := atoms_spec (ws := wm_X13_argsOf) B.pre
  have htb := fun (w : Cond) (h : w ∈ tb) => hts w (List.mem_cons_of_mem _ h)
  have hown : s.vm.findClass RX13 = some m.cls := findClass_of_methodNamed B.named
  have hlocks := B.notSynchronized
  subst hsz
  have hD := hD0.self (sz := s.heap.size)
  generalize hAe : va_A (mW h0 ad cid sg gm lg) s.heap.size = A at hD ⊢
  have hA : ∀ q : Nat, s.heap.size ≤ q → A q := fun q h => by rw [← hAe]; exact Or.inr h
  have hS : va_S A s.heap s.heap [] := va_S.rf
  have hl := lv_entry ([.ref h0, .int b]) (n := 3) (Nat.le_of_ble_eq_true rfl)
  rw [lg_entry_eq]
  generalize (lg_sl ([.ref h0, .int b]) ++ List.replicate (3 - (lg_sl ([.ref h0, .int b])).length) Slot.unset).toArray = ls at hl ⊢
  have hl : lv_has ls 3 [(0, .ref h0), (1, .int b)] := hl
  have hj36 : ∀ (x2_36 : Int32) (_ : iv 0 79 x2_36) (_ : iv 0 79 b) (_ : x2_36 = mAO sg gm lg b) (_ : x2_36.toInt < (sg 41).toInt) (H : Heap) (locs : List Loc) (ls : Array Slot), va_P (dC, dI) vwCl (mW h0 ad cid sg gm lg) H → va_D A (mW h0 ad cid sg gm lg) → va_S A s.heap H locs → lv_has ls 3 [(2, .int x2_36), (0, .ref h0), (1, .int b)] → W p l e (headSpec wm_X13_argsOf ({ frames := 4, cells := 0, slots := 0, locals := 95 })).room s m ([.ref h0, .int b] : List Value).toArray below meth c H locs 0 0 (MQ below (va_Qi (fun r v => (iv 0 79 r) ∧ (r = mAO sg gm lg b) ∧ (r.toInt < (sg 41).toInt) ∧ v = (sg, gm, lg)) (MB dC dI h0 ad cid A) A) ([.ref h0, .int b] : List Value).toArray s 0 0 A) (F0 m 36 ls []) := by
    intro x2_36 hx2_36 hsx1_36 hao hlb H locs ls hP hD hS hl
    refine lv_iload_n hx hb dX13_argsOf_36 rfl (lv_at hl 0 rfl) ?_
    exact W.iret (v := x2_36) hx hb hr (fun t ht hW => ⟨⟨x2_36, (sg, gm, lg), rfl, ⟨hx2_36, (hao), (hlb), rfl⟩, by rw [ht]; exact hP, va_K.moved hW.alike hK, hD⟩, hS.F ht⟩) hS.2.2 dX13_argsOf_37
  have hj2 : ∀ (n : Nat) (x2_2 : Int32) (_ : dP sg gm lg x2_2 = n) (_ : iv 0 79 x2_2) (_ : iv 0 79 b) (_ : mAO sg gm lg b = mAO sg gm lg x2_2) (_ : x2_2.toInt < (sg 41).toInt) (H : Heap) (locs : List Loc) (ls : Array Slot), va_P (dC, dI) vwCl (mW h0 ad cid sg gm lg) H → va_D A (mW h0 ad cid sg gm lg) → va_S A s.heap H locs → lv_has ls 3 [(2, .int x2_2), (0, .ref h0), (1, .int b)] → W p l e (headSpec wm_X13_argsOf ({ frames := 4, cells := 0, slots := 0, locals := 95 })).room s m ([.ref h0, .int b] : List Value).toArray below meth c H locs 0 0 (MQ below (va_Qi (fun r v => (iv 0 79 r) ∧ (r = mAO sg gm lg b) ∧ (r.toInt < (sg 41).toInt) ∧ v = (sg, gm, lg)) (MB dC dI h0 ad cid A) A) ([.ref h0, .int b] : List Value).toArray s 0 0 A) (F0 m 2 ls []) := by
    intro n
    induction n using Nat.strongRecOn with
    | ind n ih2 =>
      intro x2_2 hn2 hx2_2 hsx1_2 hao hlb H locs ls hP hD hS hl
      refine lv_aload_n hx hb dX13_argsOf_2 rfl (lv_at hl 1 rfl) ?_
      refine lv_aload_n hx hb dX13_argsOf_3 rfl (lv_at hl 1 rfl) ?_
      refine mr_get (v := .ref (ad 42)) hx hb htb inX13 hown hK hP 42 (by decide) (htb _ kw_196) rfl dX13_argsOf_4 ?_
      refine lv_iload_n hx hb dX13_argsOf_7 rfl (lv_at hl 0 rfl) ?_
      refine mr_iald hx hb hK hP 33 (k := 42) rfl rfl rfl (show vp_in x2_2 80 from (iv_in hx2_2 (by decide))) dX13_argsOf_8 ?_
      refine lv_topi (fun z_1 ez_1 => ?_)
      have hz_1 : iv 0 79 z_1 := iv_of ez_1 (MI_a hI 42 hx2_2 (by decide))
      refine lv_iconst (v := 4) hx hb dX13_argsOf_9 (by decide) ?_
      refine lv_iconst (v := 0) hx hb dX13_argsOf_10 (by decide) ?_
      refine mr_calli (rest := []) ⟨hx, hb, hml, hown, htb⟩ (f_inner l dC dI h0 ad cid sg gm lg z_1 4 0 hI (iv_w hz_1 (by decide)) (iv_w (iv_k (by decide) : iv 4 4 4) (by decide)) (iv_w (iv_k (by decide) : iv 0 0 0) (by decide))) (cwV 3 htb (gd_V kw_961 kw_962 kw_963 kw_5 kw_1557) rfl rfl rfl (by decide +kernel) ⟨Nat.le_of_ble_eq_true rfl, Nat.le_of_ble_eq_true rfl⟩) rfl hl.1 rfl (Nat.le_of_ble_eq_true rfl) dX13_argsOf_11 ⟨Nat.zero_le _, Nat.zero_le _⟩ hK hP hD hS hA (fun r_2 u_3 H locs hw hP hD hS => ?_)
      obtain ⟨hr_2, fN_r_2, rfl⟩ := hw
      have hP : va_P (dC, dI) vwCl (mW h0 ad cid sg gm lg) H := hP
      have hD : va_D A (mW h0 ad cid sg gm lg) := hD
      refine lv_iconst (v := (-1)) hx hb dX13_argsOf_14 (by decide) ?_
      refine lv_icmp_ne (tgt := 36) hx hb dX13_argsOf_15 (by decide) (fun c_4 => ?_) (fun c_4 => ?_)
      · have h_5 : iv 0 79 r_2 := iv_neL c_4 hr_2 (by decide)
        exact hj36 x2_2 hx2_2 hsx1_2 ((hao.trans (ao_y (show iv 0 80 (sg 41) from MI_s hI 41) hac (hx2_2).1 (fun q9 => c_4 (by rw [fN_r_2, ez_1]; exact q9.1)))).symm) (hlb) _ _ _ hP hD hS (lv_sub hl [0, 1, 2] rfl)
      · have h_6 : iv (-1) (-1) r_2 := iv_eq c_4 hr_2 (iv_k (by decide) : iv (-1) (-1) (-1)) (by decide)
        refine lv_aload_n hx hb dX13_argsOf_18 rfl (lv_at hl 1 rfl) ?_
        refine lv_iload_n hx hb dX13_argsOf_19 rfl (lv_at hl 0 rfl) ?_
        refine mr_calli (rest := []) ⟨hx, hb, hml, hown, htb⟩ (f_parentOf l dC dI h0 ad cid sg gm lg x2_2 hI hx2_2) (cwV 1 htb (gd_V kw_949 kw_950 kw_951 kw_5 kw_1553) rfl rfl rfl (by decide +kernel) ⟨Nat.le_of_ble_eq_true rfl, Nat.le_of_ble_eq_true rfl⟩) rfl hl.1 rfl (Nat.le_of_ble_eq_true rfl) dX13_argsOf_20 ⟨Nat.zero_le _, Nat.zero_le _⟩ hK hP hD hS hA (fun r_7 u_8 H locs hw hP hD hS => ?_)
        obtain ⟨hr_7, fP_r_7, rfl⟩ := hw
        have hP : va_P (dC, dI) vwCl (mW h0 ad cid sg gm lg) H := hP
        have hD : va_D A (mW h0 ad cid sg gm lg) := hD
        refine lv_iconst (v := (-1)) hx hb dX13_argsOf_23 (by decide) ?_
        refine lv_icmp_eq (tgt := 36) hx hb dX13_argsOf_24 (by decide) (fun c_9 => ?_) (fun c_9 => ?_)
        · have h_10 : iv (-1) (-1) r_7 := iv_eq c_9 hr_7 (iv_k (by decide) : iv (-1) (-1) (-1)) (by decide)
          exact hj36 x2_2 hx2_2 hsx1_2 ((hao.trans (ao_y (show iv 0 80 (sg 41) from MI_s hI 41) hac (hx2_2).1 (fun q9 => q9.2 (by rw [← fP_r_7]; exact c_9)))).symm) (hlb) _ _ _ hP hD hS (lv_sub hl [0, 1, 2] rfl)
        · have h_11 : iv 0 79 r_7 := iv_neL c_9 hr_7 (by decide)
          refine lv_aload_n hx hb dX13_argsOf_27 rfl (lv_at hl 1 rfl) ?_
          refine lv_iload_n hx hb dX13_argsOf_28 rfl (lv_at hl 0 rfl) ?_
          refine mr_calli (rest := []) ⟨hx, hb, hml, hown, htb⟩ (f_parentOf l dC dI h0 ad cid sg gm lg x2_2 hI hx2_2) (cwV 1 htb (gd_V kw_949 kw_950 kw_951 kw_5 kw_1553) rfl rfl rfl (by decide +kernel) ⟨Nat.le_of_ble_eq_true rfl, Nat.le_of_ble_eq_true rfl⟩) rfl hl.1 rfl (Nat.le_of_ble_eq_true rfl) dX13_argsOf_29 ⟨Nat.zero_le _, Nat.zero_le _⟩ hK hP hD hS hA (fun r_12 u_13 H locs hw hP hD hS => ?_)
          obtain ⟨hr_12, fP_r_12, rfl⟩ := hw
          have hP : va_P (dC, dI) vwCl (mW h0 ad cid sg gm lg) H := hP
          have hD : va_D A (mW h0 ad cid sg gm lg) := hD
          obtain rfl : r_7 = r_12 := fP_r_7.trans fP_r_12.symm
          refine lv_istore_n (lv' := [(2, .int r_7), (0, .ref h0), (1, .int b)]) hx hb dX13_argsOf_32 rfl hl (by decide) rfl (fun ls hl => ?_)
          refine lv_goto (tgt := 2) hx hb dX13_argsOf_33 (by decide) ?_
          exact ih2 _ (by rw [← hn2]; exact (dP_lt (show iv 0 80 (sg 41) from MI_s hI 41) hac (hx2_2).1 fP_r_7)) r_7 rfl h_11 hsx1_2 (hao.trans (by rw [ao_n (show iv 0 80 (sg 41) from MI_s hI 41) hac (hx2_2).1 ⟨by rw [← ez_1, ← fN_r_2]; exact c_4, by rw [← fP_r_7]; exact c_9⟩, ← fP_r_7])) (par_lt (show iv 0 80 (sg 41) from MI_s hI 41) fP_r_7) _ _ _ hP hD hS (lv_sub hl [0, 1, 2] rfl)
  refine lv_iload_n hx hb dX13_argsOf_0 rfl (lv_at hl 1 rfl) ?_
  refine lv_istore_n (lv' := [(2, .int b), (0, .ref h0), (1, .int b)]) hx hb dX13_argsOf_1 rfl hl (by decide) rfl (fun ls hl => ?_)
  exact hj2 _ b rfl hvb hvb (rfl) (hbl) _ _ _ hP hD hS (lv_sub hl [0, 1, 2] rfl)

set_option maxHeartbeats 4000000 in
set_option maxRecDepth 100000 in
theorem f_arg (l : Launch) (dC : Nat → ClassId) (dI : Nat → Nat → Nat) (h0 : Nat) (ad : Nat → Nat) (cid : Nat → ClassId) (sg : Nat → Int32) (gm : Nat → Nat → Int32) (lg : Nat → Nat → Int64) (b : Int32) (nx : Int32) (hI : MI sg gm) (hvb : iv 0 79 b) (hvnx : iv 0 80 nx) (hbl : b.toInt < (sg 41).toInt) (hac : ACY sg gm lg) : MMi l dC dI yX13_arg wm_X13_arg ({ frames := 5, cells := 0, slots := 0, locals := 117 }) h0 ad cid [.int b, .int nx] sg gm lg (fun r v => (iv (-1) 79 r) ∧ (r = mArg sg gm lg b nx.toNatClampNeg) ∧ v = (sg, gm, lg)) := by
  intro sz
  refine Met.ofW (cc := cX13_arg) (maxL := 6) (ret := (some .int)) (by decide) rfl ?_
  intro p e s m args below meth c s₁ B hml hv
  obtain ⟨rfl, hsz, hP, hK, hD0⟩ := hv
  have hx := B.exec
  have hb := B.bytes
  have hr := B.returns
  have hts := atoms_spec (ws := wm_X13_arg) B.pre
  have htb := fun (w : Cond) (h : w ∈ tb) => hts w (List.mem_cons_of_mem _ h)
  have hown : s.vm.findClass RX13 = some m.cls := findClass_of_methodNamed B.named
  have hlocks := B.notSynchronized
  subst hsz
  have hD := hD0.self (sz := s.heap.size)
  generalize hAe : va_A (mW h0 ad cid sg gm lg) s.heap.size = A at hD ⊢
  have hA : ∀ q : Nat, s.heap.size ≤ q → A q := fun q h => by rw [← hAe]; exact Or.inr h
  have hS : va_S A s.heap s.heap [] := va_S.rf
  have hl := lv_entry ([.ref h0, .int b, .int nx]) (n := 6) (Nat.le_of_ble_eq_true rfl)
  rw [lg_entry_eq]
  generalize (lg_sl ([.ref h0, .int b, .int nx]) ++ List.replicate (6 - (lg_sl ([.ref h0, .int b, .int nx])).length) Slot.unset).toArray = ls at hl ⊢
  have hl : lv_has ls 6 [(0, .ref h0), (1, .int b), (2, .int nx)] := hl
  have hj51 : ∀ (x5_51 : Int32) (x4_51 : Int32) (x3_51 : Int32) (_ : iv 0 80 x5_51) (_ : iv (-1) 79 x4_51) (_ : iv 0 79 x3_51) (_ : iv 0 79 b) (_ : iv 0 80 nx) (_ : x4_51 = mArg sg gm lg b nx.toNatClampNeg) (H : Heap) (locs : List Loc) (ls : Array Slot), va_P (dC, dI) vwCl (mW h0 ad cid sg gm lg) H → va_D A (mW h0 ad cid sg gm lg) → va_S A s.heap H locs → lv_has ls 6 [(5, .int x5_51), (4, .int x4_51), (3, .int x3_51), (0, .ref h0), (1, .int b), (2, .int nx)] → W p l e (headSpec wm_X13_arg ({ frames := 5, cells := 0, slots := 0, locals := 117 })).room s m ([.ref h0, .int b, .int nx] : List Value).toArray below meth c H locs 0 0 (MQ below (va_Qi (fun r v => (iv (-1) 79 r) ∧ (r = mArg sg gm lg b nx.toNatClampNeg) ∧ v = (sg, gm, lg)) (MB dC dI h0 ad cid A) A) ([.ref h0, .int b, .int nx] : List Value).toArray s 0 0 A) (F0 m 51 ls []) := by
    intro x5_51 x4_51 x3_51 hx5_51 hx4_51 hx3_51 hsx1_51 hsx2_51 hr9 H locs ls hP hD hS hl
    refine lv_iload hx hb dX13_arg_51 (lv_at hl 1 rfl) ?_
    exact W.iret (v := x4_51) hx hb hr (fun t ht hW => ⟨⟨x4_51, (sg, gm, lg), rfl, ⟨hx4_51, (hr9), rfl⟩, by rw [ht]; exact hP, va_K.moved hW.alike hK, hD⟩, hS.F ht⟩) hS.2.2 dX13_arg_53
  have hj23 : ∀ (n : Nat) (x5_23 : Int32) (x4_23 : Int32) (x3_23 : Int32) (_ : (80 - x5_23.toInt).toNat = n) (_ : iv 0 80 x5_23) (_ : iv (-1) 79 x4_23) (_ : iv 0 79 x3_23) (_ : iv 0 79 b) (_ : iv 0 80 nx) (_ : x4_23 = argF sg gm x3_23 x5_23.toNatClampNeg) (_ : x5_23.toInt ≤ nx.toInt) (_ : x3_23 = gm 42 (mAO sg gm lg b).toNatClampNeg) (H : Heap) (locs : List Loc) (ls : Array Slot), va_P (dC, dI) vwCl (mW h0 ad cid sg gm lg) H → va_D A (mW h0 ad cid sg gm lg) → va_S A s.heap H locs → lv_has ls 6 [(5, .int x5_23), (4, .int x4_23), (3, .int x3_23), (0, .ref h0), (1, .int b), (2, .int nx)] → W p l e (headSpec wm_X13_arg ({ frames := 5, cells := 0, slots := 0, locals := 117 })).room s m ([.ref h0, .int b, .int nx] : List Value).toArray below meth c H locs 0 0 (MQ below (va_Qi (fun r v => (iv (-1) 79 r) ∧ (r = mArg sg gm lg b nx.toNatClampNeg) ∧ v = (sg, gm, lg)) (MB dC dI h0 ad cid A) A) ([.ref h0, .int b, .int nx] : List Value).toArray s 0 0 A) (F0 m 23 ls []) := by
    intro n
    induction n using Nat.strongRecOn with
    | ind n ih23 =>
      intro x5_23 x4_23 x3_23 hn23 hx5_23 hx4_23 hx3_23 hsx1_23 hsx2_23 hag hln he9 H locs ls hP hD hS hl
      refine lv_iload hx hb dX13_arg_23 (lv_at hl 0 rfl) ?_
      refine lv_iload_n hx hb dX13_arg_25 rfl (lv_at hl 5 rfl) ?_
      refine lv_icmp_ge (tgt := 51) hx hb dX13_arg_26 (by decide) (fun c_1 => ?_) (fun c_1 => ?_)
      · have d_2 : (nx : Int32).toInt ≤ (x5_23 : Int32).toInt := Int32.le_iff_toInt_le.mp c_1
        exact hj51 x5_23 x4_23 x3_23 hx5_23 hx4_23 hx3_23 hsx1_23 hsx2_23 (by have q9 : x5_23.toNatClampNeg = nx.toNatClampNeg := (by have := le_cl hx5_23 hvnx (by decide) (by decide) hln; have := le_cl hvnx hx5_23 (by decide) (by decide) (by have := i32_0; have := i32_1; have := i32_2; have := i32_m1; have := (hsx1_23).1; have := (hsx1_23).2; have := (hsx2_23).1; have := (hsx2_23).2; have := (hx5_23).1; have := (hx5_23).2; have := (hx4_23).1; have := (hx4_23).2; have := (hx3_23).1; have := (hx3_23).2; omega); omega); unfold mArg; rw [← he9, ← q9]; exact hag) _ _ _ hP hD hS (lv_sub hl [0, 1, 2, 3, 4, 5] rfl)
      · have d_3 : (x5_23 : Int32).toInt < (nx : Int32).toInt := Int32.lt_iff_toInt_lt.mp (i32_lt c_1)
        have h_4 : iv 0 79 x5_23 := iv_ltL (i32_lt c_1) hx5_23 hsx2_23 (by decide)
        have h_5 : iv 1 80 nx := iv_ltR (i32_lt c_1) hx5_23 hsx2_23 (by decide)
        refine lv_iload hx hb dX13_arg_29 (lv_at hl 1 rfl) ?_
        refine lv_iconst (v := (-1)) hx hb dX13_arg_31 (by decide) ?_
        refine lv_icmp_eq (tgt := 51) hx hb dX13_arg_32 (by decide) (fun c_6 => ?_) (fun c_6 => ?_)
        · have h_7 : iv (-1) (-1) x4_23 := iv_eq c_6 hx4_23 (iv_k (by decide) : iv (-1) (-1) (-1)) (by decide)
          exact hj51 x5_23 x4_23 x3_23 (iv_w h_4 (by decide)) (iv_w h_7 (by decide)) hx3_23 hsx1_23 (iv_w h_5 (by decide)) (by unfold mArg; rw [← he9, argF_no (hag.symm.trans c_6) _ (le_cl (show iv 0 80 x5_23 from (iv_w h_4 (by decide))) hvnx (by decide) (by decide) hln)]; exact c_6) _ _ _ hP hD hS (lv_sub hl [0, 1, 2, 3, 4, 5] rfl)
        · have h_8 : iv 0 79 x4_23 := iv_neL c_6 hx4_23 (by decide)
          refine lv_aload_n hx hb dX13_arg_35 rfl (lv_at hl 3 rfl) ?_
          refine lv_iload_n hx hb dX13_arg_36 rfl (lv_at hl 2 rfl) ?_
          refine lv_iconst (v := 4) hx hb dX13_arg_37 (by decide) ?_
          refine lv_iload hx hb dX13_arg_38 (lv_at hl 1 rfl) ?_
          refine mr_calli (rest := []) ⟨hx, hb, hml, hown, htb⟩ (f_inner l dC dI h0 ad cid sg gm lg x3_23 4 x4_23 hI (iv_w hx3_23 (by decide)) (iv_w (iv_k (by decide) : iv 4 4 4) (by decide)) h_8) (cwV 3 htb (gd_V kw_961 kw_962 kw_963 kw_5 kw_1557) rfl rfl rfl (by decide +kernel) ⟨Nat.le_of_ble_eq_true rfl, Nat.le_of_ble_eq_true rfl⟩) rfl hl.1 rfl (Nat.le_of_ble_eq_true rfl) dX13_arg_40 ⟨Nat.zero_le _, Nat.zero_le _⟩ hK hP hD hS hA (fun r_9 u_10 H locs hw hP hD hS => ?_)
          obtain ⟨hr_9, fN_r_9, rfl⟩ := hw
          have hP : va_P (dC, dI) vwCl (mW h0 ad cid sg gm lg) H := hP
          have hD : va_D A (mW h0 ad cid sg gm lg) := hD
          refine lv_istore (lv' := [(4, .int r_9), (5, .int x5_23), (3, .int x3_23), (0, .ref h0), (1, .int b), (2, .int nx)]) hx hb dX13_arg_43 hl (by decide) rfl (fun ls hl => ?_)
          obtain ⟨z_11, ez_11⟩ : ∃ z : Int32, z = x5_23 + 1 := ⟨_, rfl⟩
          have hz_11 : iv 1 80 z_11 := iv_of ez_11 (iv_add h_4 (iv_k (by decide) : iv 1 1 1) (by decide))
          have tz_11 : z_11.toInt = x5_23.toInt + 1 := by rw [ez_11]; exact iv_addE h_4 (iv_k (by decide) : iv 1 1 1) (by decide)
          refine lv_iinc (v := z_11) (lv' := [(5, .int z_11), (4, .int r_9), (3, .int x3_23), (0, .ref h0), (1, .int b), (2, .int nx)]) hx hb dX13_arg_45 hl (k := 1) rfl ez_11.symm (by decide) rfl (fun ls hl => ?_)
          refine lv_goto (tgt := 23) hx hb dX13_arg_48 (by decide) ?_
          exact ih23 _ (by rw [← hn23]; exact (iv_meas tz_11 h_4 (by decide))) z_11 r_9 x3_23 rfl (iv_w hz_11 (by decide)) hr_9 hx3_23 hsx1_23 (iv_w h_5 (by decide)) (by rw [s_cl h_4 (by decide) tz_11]; exact argF_s hag c_6 fN_r_9) (by have := i32_0; have := i32_1; have := i32_2; have := i32_m1; have := (show iv 0 1200 (sg 20) from MI_s hI 20).1; have := (show iv 0 1200 (sg 20) from MI_s hI 20).2; have := (show iv 0 1201 (sg 21) from MI_s hI 21).1; have := (show iv 0 1201 (sg 21) from MI_s hI 21).2; have := (show iv 0 3 (sg 22) from MI_s hI 22).1; have := (show iv 0 3 (sg 22) from MI_s hI 22).2; have := (show iv 0 80 (sg 24) from MI_s hI 24).1; have := (show iv 0 80 (sg 24) from MI_s hI 24).2; have := (show iv 0 1201 (sg 25) from MI_s hI 25).1; have := (show iv 0 1201 (sg 25) from MI_s hI 25).2; have := (hsx1_23).1; have := (hsx1_23).2; have := (h_5).1; have := (h_5).2; have := (h_4).1; have := (h_4).2; have := (h_8).1; have := (h_8).2; have := (hx3_23).1; have := (hx3_23).2; have := (hr_9).1; have := (hr_9).2; have := (hz_11).1; have := (hz_11).2; omega) (he9) _ _ _ hP hD hS (lv_sub hl [0, 1, 2, 3, 4, 5] rfl)
  refine lv_aload_n hx hb dX13_arg_0 rfl (lv_at hl 0 rfl) ?_
  refine mr_get (v := .ref (ad 42)) hx hb htb inX13 hown hK hP 42 (by decide) (htb _ kw_196) rfl dX13_arg_1 ?_
  refine lv_aload_n hx hb dX13_arg_4 rfl (lv_at hl 0 rfl) ?_
  refine lv_iload_n hx hb dX13_arg_5 rfl (lv_at hl 1 rfl) ?_
  refine mr_calli (rest := [.ref (ad 42)]) ⟨hx, hb, hml, hown, htb⟩ (f_argsOf l dC dI h0 ad cid sg gm lg b hI hvb (by have := i32_0; have := i32_1; have := i32_2; have := i32_m1; have := (show iv 0 80 (sg 41) from MI_s hI 41).1; have := (show iv 0 80 (sg 41) from MI_s hI 41).2; have := (hvb).1; have := (hvb).2; have := (hvnx).1; have := (hvnx).2; omega) hac) (cwV 1 htb (gd_V kw_1177 kw_1178 kw_1179 kw_5 kw_1609) rfl rfl rfl (by decide +kernel) ⟨Nat.le_of_ble_eq_true rfl, Nat.le_of_ble_eq_true rfl⟩) rfl hl.1 rfl (Nat.le_of_ble_eq_true rfl) dX13_arg_6 ⟨Nat.zero_le _, Nat.zero_le _⟩ hK hP hD hS hA (fun r_12 u_13 H locs hw hP hD hS => ?_)
  obtain ⟨hr_12, fAO_r_12, fab_r_12, rfl⟩ := hw
  have hP : va_P (dC, dI) vwCl (mW h0 ad cid sg gm lg) H := hP
  have hD : va_D A (mW h0 ad cid sg gm lg) := hD
  refine mr_iald hx hb hK hP 33 (k := 42) rfl rfl rfl (show vp_in r_12 80 from (iv_in hr_12 (by decide))) dX13_arg_9 ?_
  refine lv_topi (fun z_14 ez_14 => ?_)
  have hz_14 : iv 0 79 z_14 := iv_of ez_14 (MI_a hI 42 hr_12 (by decide))
  refine lv_istore_n (lv' := [(3, .int z_14), (0, .ref h0), (1, .int b), (2, .int nx)]) hx hb dX13_arg_10 rfl hl (by decide) rfl (fun ls hl => ?_)
  refine lv_aload_n hx hb dX13_arg_11 rfl (lv_at hl 1 rfl) ?_
  refine lv_iload_n hx hb dX13_arg_12 rfl (lv_at hl 0 rfl) ?_
  refine lv_iconst (v := 4) hx hb dX13_arg_13 (by decide) ?_
  refine lv_iconst (v := 0) hx hb dX13_arg_14 (by decide) ?_
  refine mr_calli (rest := []) ⟨hx, hb, hml, hown, htb⟩ (f_inner l dC dI h0 ad cid sg gm lg z_14 4 0 hI (iv_w hz_14 (by decide)) (iv_w (iv_k (by decide) : iv 4 4 4) (by decide)) (iv_w (iv_k (by decide) : iv 0 0 0) (by decide))) (cwV 3 htb (gd_V kw_961 kw_962 kw_963 kw_5 kw_1557) rfl rfl rfl (by decide +kernel) ⟨Nat.le_of_ble_eq_true rfl, Nat.le_of_ble_eq_true rfl⟩) rfl hl.1 rfl (Nat.le_of_ble_eq_true rfl) dX13_arg_15 ⟨Nat.zero_le _, Nat.zero_le _⟩ hK hP hD hS hA (fun r_15 u_16 H locs hw hP hD hS => ?_)
  obtain ⟨hr_15, fN_r_15, rfl⟩ := hw
  have hP : va_P (dC, dI) vwCl (mW h0 ad cid sg gm lg) H := hP
  have hD : va_D A (mW h0 ad cid sg gm lg) := hD
  refine lv_istore (lv' := [(4, .int r_15), (3, .int z_14), (0, .ref h0), (1, .int b), (2, .int nx)]) hx hb dX13_arg_18 hl (by decide) rfl (fun ls hl => ?_)
  refine lv_iconst (v := 0) hx hb dX13_arg_20 (by decide) ?_
  refine lv_istore (lv' := [(5, .int 0), (4, .int r_15), (3, .int z_14), (0, .ref h0), (1, .int b), (2, .int nx)]) hx hb dX13_arg_21 hl (by decide) rfl (fun ls hl => ?_)
  exact hj23 _ 0 r_15 z_14 rfl (iv_w (iv_k (by decide) : iv 0 0 0) (by decide)) hr_15 hz_14 hvb hvnx (fN_r_15) (by have := i32_0; have := i32_1; have := i32_2; have := i32_m1; have := (show iv 0 1200 (sg 20) from MI_s hI 20).1; have := (show iv 0 1200 (sg 20) from MI_s hI 20).2; have := (show iv 0 1201 (sg 21) from MI_s hI 21).1; have := (show iv 0 1201 (sg 21) from MI_s hI 21).2; have := (show iv 0 3 (sg 22) from MI_s hI 22).1; have := (show iv 0 3 (sg 22) from MI_s hI 22).2; have := (show iv 0 80 (sg 24) from MI_s hI 24).1; have := (show iv 0 80 (sg 24) from MI_s hI 24).2; have := (show iv 0 1201 (sg 25) from MI_s hI 25).1; have := (show iv 0 1201 (sg 25) from MI_s hI 25).2; have := (hvb).1; have := (hvb).2; have := (hvnx).1; have := (hvnx).2; have := (hr_12).1; have := (hr_12).2; have := (hz_14).1; have := (hz_14).2; have := (hr_15).1; have := (hr_15).2; omega) (by rw [← fAO_r_12]; exact ez_14) _ _ _ hP hD hS (lv_sub hl [0, 1, 2, 3, 4, 5] rfl)

set_option maxHeartbeats 4000000 in
set_option maxRecDepth 100000 in
theorem f_args (l : Launch) (dC : Nat → ClassId) (dI : Nat → Nat → Nat) (h0 : Nat) (ad : Nat → Nat) (cid : Nat → ClassId) (sg : Nat → Int32) (gm : Nat → Nat → Int32) (lg : Nat → Nat → Int64) (b : Int32) (hI : MI sg gm) (hvb : iv 0 79 b) (hbl : b.toInt < (sg 41).toInt) (hac : ACY sg gm lg) (hst : STR sg gm lg) : MMi l dC dI yX13_args wm_X13_args ({ frames := 6, cells := 0, slots := 0, locals := 142 }) h0 ad cid [.int b] sg gm lg (fun r v => (iv 0 4 r) ∧ (∀ k9, 0 ≤ k9 → k9 < r.toNatClampNeg → ¬ mArg sg gm lg b k9 = -1) ∧ (mArg sg gm lg b r.toNatClampNeg = -1) ∧ v = (sg, gm, lg)) := by
  intro sz
  refine Met.ofW (cc := cX13_args) (maxL := 3) (ret := (some .int)) (by decide) rfl ?_
  intro p e s m args below meth c s₁ B hml hv
  obtain ⟨rfl, hsz, hP, hK, hD0⟩ := hv
  have hx := B.exec
  have hb := B.bytes
  have hr := B.returns
  have hts := atoms_spec (ws := wm_X13_args) B.pre
  have htb := fun (w : Cond) (h : w ∈ tb) => hts w (List.mem_cons_of_mem _ h)
  have hown : s.vm.findClass RX13 = some m.cls := findClass_of_methodNamed B.named
  have hlocks := B.notSynchronized
  subst hsz
  have hD := hD0.self (sz := s.heap.size)
  generalize hAe : va_A (mW h0 ad cid sg gm lg) s.heap.size = A at hD ⊢
  have hA : ∀ q : Nat, s.heap.size ≤ q → A q := fun q h => by rw [← hAe]; exact Or.inr h
  have hS : va_S A s.heap s.heap [] := va_S.rf
  have hl := lv_entry ([.ref h0, .int b]) (n := 3) (Nat.le_of_ble_eq_true rfl)
  rw [lg_entry_eq]
  generalize (lg_sl ([.ref h0, .int b]) ++ List.replicate (3 - (lg_sl ([.ref h0, .int b])).length) Slot.unset).toArray = ls at hl ⊢
  have hl : lv_has ls 3 [(0, .ref h0), (1, .int b)] := hl
  have hj2 : ∀ (n : Nat) (x2_2 : Int32) (_ : (4 - x2_2.toInt).toNat = n) (_ : iv 0 4 x2_2) (_ : iv 0 79 b) (_ : ∀ k9, 0 ≤ k9 → k9 < x2_2.toNatClampNeg → ¬ mArg sg gm lg b k9 = -1) (H : Heap) (locs : List Loc) (ls : Array Slot), va_P (dC, dI) vwCl (mW h0 ad cid sg gm lg) H → va_D A (mW h0 ad cid sg gm lg) → va_S A s.heap H locs → lv_has ls 3 [(2, .int x2_2), (0, .ref h0), (1, .int b)] → W p l e (headSpec wm_X13_args ({ frames := 6, cells := 0, slots := 0, locals := 142 })).room s m ([.ref h0, .int b] : List Value).toArray below meth c H locs 0 0 (MQ below (va_Qi (fun r v => (iv 0 4 r) ∧ (∀ k9, 0 ≤ k9 → k9 < r.toNatClampNeg → ¬ mArg sg gm lg b k9 = -1) ∧ (mArg sg gm lg b r.toNatClampNeg = -1) ∧ v = (sg, gm, lg)) (MB dC dI h0 ad cid A) A) ([.ref h0, .int b] : List Value).toArray s 0 0 A) (F0 m 2 ls []) := by
    intro n
    induction n using Nat.strongRecOn with
    | ind n ih2 =>
      intro x2_2 hn2 hx2_2 hsx1_2 hal H locs ls hP hD hS hl
      refine lv_aload_n hx hb dX13_args_2 rfl (lv_at hl 1 rfl) ?_
      refine lv_iload_n hx hb dX13_args_3 rfl (lv_at hl 2 rfl) ?_
      refine lv_iload_n hx hb dX13_args_4 rfl (lv_at hl 0 rfl) ?_
      refine mr_calli (rest := []) ⟨hx, hb, hml, hown, htb⟩ (f_arg l dC dI h0 ad cid sg gm lg b x2_2 hI hsx1_2 (iv_w hx2_2 (by decide)) (by have := i32_0; have := i32_1; have := i32_2; have := i32_m1; have := (show iv 0 80 (sg 41) from MI_s hI 41).1; have := (show iv 0 80 (sg 41) from MI_s hI 41).2; have := (hsx1_2).1; have := (hsx1_2).2; have := (hx2_2).1; have := (hx2_2).2; omega) hac) (cwV 2 htb (gd_V kw_1174 kw_1175 kw_1176 kw_5 kw_1608) rfl rfl rfl (by decide +kernel) ⟨Nat.le_of_ble_eq_true rfl, Nat.le_of_ble_eq_true rfl⟩) rfl hl.1 rfl (Nat.le_of_ble_eq_true rfl) dX13_args_5 ⟨Nat.zero_le _, Nat.zero_le _⟩ hK hP hD hS hA (fun r_1 u_2 H locs hw hP hD hS => ?_)
      obtain ⟨hr_1, fR_r_1, rfl⟩ := hw
      have hP : va_P (dC, dI) vwCl (mW h0 ad cid sg gm lg) H := hP
      have hD : va_D A (mW h0 ad cid sg gm lg) := hD
      refine lv_iconst (v := (-1)) hx hb dX13_args_8 (by decide) ?_
      refine lv_icmp_eq (tgt := 18) hx hb dX13_args_9 (by decide) (fun c_3 => ?_) (fun c_3 => ?_)
      · have h_4 : iv (-1) (-1) r_1 := iv_eq c_3 hr_1 (iv_k (by decide) : iv (-1) (-1) (-1)) (by decide)
        refine lv_iload_n hx hb dX13_args_18 rfl (lv_at hl 0 rfl) ?_
        exact W.iret (v := x2_2) hx hb hr (fun t ht hW => ⟨⟨x2_2, (sg, gm, lg), rfl, ⟨hx2_2, (hal), (by rw [← fR_r_1]; exact c_3), rfl⟩, by rw [ht]; exact hP, va_K.moved hW.alike hK, hD⟩, hS.F ht⟩) hS.2.2 dX13_args_19
      · have h_5 : iv 0 79 r_1 := iv_neL c_3 hr_1 (by decide)
        have hA9 : ¬ mArg sg gm lg b x2_2.toNatClampNeg = -1 := by rw [← fR_r_1]; exact c_3
        have h12 : iv 0 3 x2_2 := ⟨(hx2_2).1, by have q8 := arg_lt (show iv 0 80 (sg 24) from MI_s hI 24) hst hA9; have q9 := iv_cl hx2_2 (by decide); omega⟩
        obtain ⟨z_6, ez_6⟩ : ∃ z : Int32, z = x2_2 + 1 := ⟨_, rfl⟩
        have hz_6 : iv 1 4 z_6 := iv_of ez_6 (iv_add h12 (iv_k (by decide) : iv 1 1 1) (by decide))
        have tz_6 : z_6.toInt = x2_2.toInt + 1 := by rw [ez_6]; exact iv_addE h12 (iv_k (by decide) : iv 1 1 1) (by decide)
        refine lv_iinc (v := z_6) (lv' := [(2, .int z_6), (0, .ref h0), (1, .int b)]) hx hb dX13_args_12 hl (k := 0) rfl ez_6.symm (by decide) rfl (fun ls hl => ?_)
        refine lv_goto (tgt := 2) hx hb dX13_args_15 (by decide) ?_
        exact ih2 _ (by rw [← hn2]; exact (iv_meas tz_6 h12 (by decide))) z_6 rfl (iv_w hz_6 (by decide)) hsx1_2 (all_s h12 (by decide) tz_6 hal hA9) _ _ _ hP hD hS (lv_sub hl [0, 1, 2] rfl)
  refine lv_iconst (v := 0) hx hb dX13_args_0 (by decide) ?_
  refine lv_istore_n (lv' := [(2, .int 0), (0, .ref h0), (1, .int b)]) hx hb dX13_args_1 rfl hl (by decide) rfl (fun ls hl => ?_)
  exact hj2 _ 0 rfl (iv_w (iv_k (by decide) : iv 0 0 0) (by decide)) hvb (fun k9 _ h9 => absurd h9 (Nat.not_lt_zero _)) _ _ _ hP hD hS (lv_sub hl [0, 1, 2] rfl)
end
