set_option maxHeartbeats 4000000 in
set_option maxRecDepth 100000 in
theorem f_withId (l : Launch) (dC : Nat → ClassId) (dI : Nat → Nat → Nat) (h0 : Nat) (ad : Nat → Nat) (cid : Nat → ClassId) (sg : Nat → Int32) (gm : Nat → Nat → Int32) (lg : Nat → Nat → Int64) (nn : Int64) (hI : MI sg gm) : MMi l dC dI yX13_withId wm_X13_withId ({ frames := 2, cells := 0, slots := 0, locals := 51 }) h0 ad cid [.long nn] sg gm lg (fun r v => (iv (-1) 79 r) ∧ (r = mWid sg gm lg nn) ∧ v = (sg, gm, lg)) := by
  intro sz
  refine Met.ofW (cc := cX13_withId) (maxL := 4) (ret := (some .int)) (by decide) rfl ?_
  intro p e s m args below meth c s₁ B hml hv
  obtain ⟨rfl, hsz, hP, hK, hD0⟩ := hv
  have hx := B.exec
  have hb := B.bytes
  have hr := B.returns
  have hts := atoms_spec (ws := wm_X13_withId) B.pre
  have htb := fun (w : Cond) (h : w ∈ tb) => hts w (List.mem_cons_of_mem _ h)
  have hown : s.vm.findClass RX13 = some m.cls := findClass_of_methodNamed B.named
  have hlocks := B.notSynchronized
  subst hsz
  have hD := hD0.self (sz := s.heap.size)
  generalize hAe : va_A (mW h0 ad cid sg gm lg) s.heap.size = A at hD ⊢
  have hA : ∀ q : Nat, s.heap.size ≤ q → A q := fun q h => by rw [← hAe]; exact Or.inr h
  have hS : va_S A s.heap s.heap [] := va_S.rf
  have hl := lv_entry ([.ref h0, .long nn]) (n := 4) (Nat.le_of_ble_eq_true rfl)
  rw [lg_entry_eq]
  generalize (lg_sl ([.ref h0, .long nn]) ++ List.replicate (4 - (lg_sl ([.ref h0, .long nn])).length) Slot.unset).toArray = ls at hl ⊢
  have hl : lv_has ls 4 [(0, .ref h0), (1, .long nn)] := hl
  have hj2 : ∀ (n : Nat) (x3_2 : Int32) (_ : (80 - x3_2.toInt).toNat = n) (_ : iv 0 80 x3_2) (_ : NHB (qWid gm lg nn) 0 x3_2.toNatClampNeg) (H : Heap) (locs : List Loc) (ls : Array Slot), va_P (dC, dI) vwCl (mW h0 ad cid sg gm lg) H → va_D A (mW h0 ad cid sg gm lg) → va_S A s.heap H locs → lv_has ls 4 [(3, .int x3_2), (0, .ref h0), (1, .long nn)] → W p l e (headSpec wm_X13_withId ({ frames := 2, cells := 0, slots := 0, locals := 51 })).room s m ([.ref h0, .long nn] : List Value).toArray below meth c H locs 0 0 (MQ below (va_Qi (fun r v => (iv (-1) 79 r) ∧ (r = mWid sg gm lg nn) ∧ v = (sg, gm, lg)) (MB dC dI h0 ad cid A) A) ([.ref h0, .long nn] : List Value).toArray s 0 0 A) (F0 m 2 ls []) := by
    intro n
    induction n using Nat.strongRecOn with
    | ind n ih2 =>
      intro x3_2 hn2 hx3_2 hnb H locs ls hP hD hS hl
      have hj44 : ∀ (_ : iv 0 79 x3_2) (_ : qWid gm lg nn x3_2.toNatClampNeg = false) (H : Heap) (locs : List Loc) (ls : Array Slot), va_P (dC, dI) vwCl (mW h0 ad cid sg gm lg) H → va_D A (mW h0 ad cid sg gm lg) → va_S A s.heap H locs → lv_has ls 4 [(3, .int x3_2), (0, .ref h0), (1, .long nn)] → W p l e (headSpec wm_X13_withId ({ frames := 2, cells := 0, slots := 0, locals := 51 })).room s m ([.ref h0, .long nn] : List Value).toArray below meth c H locs 0 0 (MQ below (va_Qi (fun r v => (iv (-1) 79 r) ∧ (r = mWid sg gm lg nn) ∧ v = (sg, gm, lg)) (MB dC dI h0 ad cid A) A) ([.ref h0, .long nn] : List Value).toArray s 0 0 A) (F0 m 44 ls []) := by
        intro  hsx3_44 hnq H locs ls hP hD hS hl
        obtain ⟨z_1, ez_1⟩ : ∃ z : Int32, z = x3_2 + 1 := ⟨_, rfl⟩
        have hz_1 : iv 1 80 z_1 := iv_of ez_1 (iv_add hsx3_44 (iv_k (by decide) : iv 1 1 1) (by decide))
        have tz_1 : z_1.toInt = x3_2.toInt + 1 := by rw [ez_1]; exact iv_addE hsx3_44 (iv_k (by decide) : iv 1 1 1) (by decide)
        refine lv_iinc (v := z_1) (lv' := [(3, .int z_1), (0, .ref h0), (1, .long nn)]) hx hb dX13_withId_44 hl (k := 0) rfl ez_1.symm (by decide) rfl (fun ls hl => ?_)
        refine lv_goto (tgt := 2) hx hb dX13_withId_47 (by decide) ?_
        exact ih2 _ (by rw [← hn2]; exact (iv_meas tz_1 hsx3_44 (by decide))) z_1 rfl (iv_w hz_1 (by decide)) (by rw [s_cl hsx3_44 (by decide) tz_1]; exact NHB_s hnb hnq) _ _ _ hP hD hS (lv_sub hl [0, 1, 2] rfl)
      refine lv_iload_n hx hb dX13_withId_2 rfl (lv_at hl 0 rfl) ?_
      refine lv_aload_n hx hb dX13_withId_3 rfl (lv_at hl 1 rfl) ?_
      refine mr_get (v := .int (sg 41)) hx hb htb inX13 hown hK hP 41 (by decide) (htb _ kw_817) rfl dX13_withId_4 ?_
      refine lv_icmp_ge (tgt := 50) hx hb dX13_withId_7 (by decide) (fun c_2 => ?_) (fun c_2 => ?_)
      · have d_3 : ((sg 41) : Int32).toInt ≤ (x3_2 : Int32).toInt := Int32.le_iff_toInt_le.mp c_2
        refine lv_iconst (v := (-1)) hx hb dX13_withId_50 (by decide) ?_
        exact W.iret (v := (-1)) hx hb hr (fun t ht hW => ⟨⟨(-1), (sg, gm, lg), rfl, ⟨(iv_w (iv_k (by decide) : iv (-1) (-1) (-1)) (by decide)), (wid_no (show iv 0 80 (sg 41) from MI_s hI 41) hx3_2 (by have := i32_0; have := i32_1; have := i32_2; have := i32_m1; have := (show iv 0 80 (sg 41) from MI_s hI 41).1; have := (show iv 0 80 (sg 41) from MI_s hI 41).2; have := (hx3_2).1; have := (hx3_2).2; have := ((show iv 0 80 (sg 41) from MI_s hI 41)).1; have := ((show iv 0 80 (sg 41) from MI_s hI 41)).2; omega) hnb), rfl⟩, by rw [ht]; exact hP, va_K.moved hW.alike hK, hD⟩, hS.F ht⟩) hS.2.2 dX13_withId_51
      · have d_4 : (x3_2 : Int32).toInt < ((sg 41) : Int32).toInt := Int32.lt_iff_toInt_lt.mp (i32_lt c_2)
        have h_5 : iv 0 79 x3_2 := iv_ltL (i32_lt c_2) hx3_2 (show iv 0 80 (sg 41) from MI_s hI 41) (by decide)
        have h_6 : iv 1 80 (sg 41) := iv_ltR (i32_lt c_2) hx3_2 (show iv 0 80 (sg 41) from MI_s hI 41) (by decide)
        refine lv_aload_n hx hb dX13_withId_10 rfl (lv_at hl 1 rfl) ?_
        refine mr_get (v := .ref (ad 28)) hx hb htb inX13 hown hK hP 28 (by decide) (htb _ kw_184) rfl dX13_withId_11 ?_
        refine lv_aload_n hx hb dX13_withId_14 rfl (lv_at hl 1 rfl) ?_
        refine mr_get (v := .ref (ad 42)) hx hb htb inX13 hown hK hP 42 (by decide) (htb _ kw_196) rfl dX13_withId_15 ?_
        refine lv_iload_n hx hb dX13_withId_18 rfl (lv_at hl 0 rfl) ?_
        refine mr_iald hx hb hK hP 33 (k := 42) rfl rfl rfl (show vp_in x3_2 80 from (iv_in h_5 (by decide))) dX13_withId_19 ?_
        refine lv_topi (fun z_7 ez_7 => ?_)
        have hz_7 : iv 0 79 z_7 := iv_of ez_7 (MI_a hI 42 h_5 (by decide))
        refine mr_iald hx hb hK hP 21 (k := 28) rfl rfl rfl (show vp_in z_7 80 from (iv_in hz_7 (by decide))) dX13_withId_20 ?_
        refine lv_topi (fun z_8 ez_8 => ?_)
        have hz_8 : iv (-1) 79 z_8 := iv_of ez_8 (MI_a hI 28 hz_7 (by decide))
        refine lv_if_ne (tgt := 44) hx hb dX13_withId_21 (by decide) (fun c_9 => ?_) (fun c_9 => ?_)
        · have d_10 : ¬ (z_8 : Int32).toInt = 0 := lv_neT c_9 rfl
          exact hj44 h_5 (qW_1 (by rw [← ez_7, ← ez_8]; exact c_9)) _ _ _ hP hD hS (lv_sub hl [0, 1, 2] rfl)
        · have h_11 : iv 0 0 z_8 := iv_eq c_9 hz_8 (iv_k (by decide) : iv 0 0 0) (by decide)
          refine lv_aload_n hx hb dX13_withId_24 rfl (lv_at hl 1 rfl) ?_
          refine lv_aload_n hx hb dX13_withId_25 rfl (lv_at hl 1 rfl) ?_
          refine mr_get (v := .ref (ad 42)) hx hb htb inX13 hown hK hP 42 (by decide) (htb _ kw_196) rfl dX13_withId_26 ?_
          refine lv_iload_n hx hb dX13_withId_29 rfl (lv_at hl 0 rfl) ?_
          refine mr_iald hx hb hK hP 33 (k := 42) rfl rfl rfl (show vp_in x3_2 80 from (iv_in h_5 (by decide))) dX13_withId_30 ?_
          refine lv_topi (fun z_12 ez_12 => ?_)
          obtain rfl : z_7 = z_12 := ez_7.trans ez_12.symm
          refine lv_ldc2 (own := RX13) (v := 26980) hx hb hown (htb _ kw_899) dX13_withId_31 ?_
          refine mr_calll (rest := []) ⟨hx, hb, hml, hown, htb⟩ (f_word l dC dI h0 ad cid sg gm lg z_7 26980 hI hz_7) (cwV 2 htb (gd_V kw_923 kw_924 kw_925 kw_5 kw_1545) rfl rfl rfl (by decide +kernel) ⟨Nat.le_of_ble_eq_true rfl, Nat.le_of_ble_eq_true rfl⟩) rfl hl.1 rfl (Nat.le_of_ble_eq_true rfl) dX13_withId_34 ⟨Nat.zero_le _, Nat.zero_le _⟩ hK hP hD hS hA (fun r_13 u_14 H locs hw hP hD hS => ?_)
          obtain ⟨fW_r_13, rfl⟩ := hw
          have hP : va_P (dC, dI) vwCl (mW h0 ad cid sg gm lg) H := hP
          have hD : va_D A (mW h0 ad cid sg gm lg) := hD
          refine lv_lload_n hx hb dX13_withId_37 rfl (lv_at hl 2 rfl) ?_
          refine W.lcmp hx hb dX13_withId_38 ?_
          refine lv_topi (fun z_15 ez_15 => ?_)
          have hz_15 : iv (-1) 1 z_15 := iv_of ez_15 (iv_cmp _ _)
          refine lv_if_ne (tgt := 44) hx hb dX13_withId_39 (by decide) (fun c_16 => ?_) (fun c_16 => ?_)
          · have d_17 : ¬ (z_15 : Int32).toInt = 0 := lv_neT c_16 rfl
            exact hj44 h_5 (qW_2 (fun q9 => c_16 (by rw [ez_15, fW_r_13, ez_7]; exact (lg_cmp_eq _ _).mpr q9))) _ _ _ hP hD hS (lv_sub hl [0, 1, 2] rfl)
          · have h_18 : iv 0 0 z_15 := iv_eq c_16 hz_15 (iv_k (by decide) : iv 0 0 0) (by decide)
            refine lv_iload_n hx hb dX13_withId_42 rfl (lv_at hl 0 rfl) ?_
            exact W.iret (v := x3_2) hx hb hr (fun t ht hW => ⟨⟨x3_2, (sg, gm, lg), rfl, ⟨(iv_w h_5 (by decide)), (wid_hit (show iv 0 80 (sg 41) from MI_s hI 41) h_5 (by have := i32_0; have := i32_1; have := i32_2; have := i32_m1; have := (show iv 0 80 (sg 41) from MI_s hI 41).1; have := (show iv 0 80 (sg 41) from MI_s hI 41).2; have := (h_5).1; have := (h_5).2; have := (h_6).1; have := (h_6).2; have := (hz_7).1; have := (hz_7).2; have := (h_11).1; have := (h_11).2; have := (h_18).1; have := (h_18).2; omega) hnb (qW_t (by rw [← ez_7, ← ez_8]; exact c_9) (by rw [← ez_7, ← fW_r_13]; exact (lg_cmp_eq _ _).mp (by rw [← ez_15]; exact c_16)))), rfl⟩, by rw [ht]; exact hP, va_K.moved hW.alike hK, hD⟩, hS.F ht⟩) hS.2.2 dX13_withId_43
  refine lv_iconst (v := 0) hx hb dX13_withId_0 (by decide) ?_
  refine lv_istore_n (lv' := [(3, .int 0), (0, .ref h0), (1, .long nn)]) hx hb dX13_withId_1 rfl hl (by decide) rfl (fun ls hl => ?_)
  exact hj2 _ 0 rfl (iv_w (iv_k (by decide) : iv 0 0 0) (by decide)) (NHB_0) _ _ _ hP hD hS (lv_sub hl [0, 1, 2] rfl)

set_option maxHeartbeats 4000000 in
set_option maxRecDepth 100000 in
theorem f_parentOf (l : Launch) (dC : Nat → ClassId) (dI : Nat → Nat → Nat) (h0 : Nat) (ad : Nat → Nat) (cid : Nat → ClassId) (sg : Nat → Int32) (gm : Nat → Nat → Int32) (lg : Nat → Nat → Int64) (b : Int32) (hI : MI sg gm) (hvb : iv 0 79 b) : MMi l dC dI yX13_parentOf wm_X13_parentOf ({ frames := 3, cells := 0, slots := 0, locals := 74 }) h0 ad cid [.int b] sg gm lg (fun r v => (iv (-1) 79 r) ∧ (r = mPar sg gm lg b) ∧ v = (sg, gm, lg)) := by
  intro sz
  refine Met.ofW (cc := cX13_parentOf) (maxL := 2) (ret := (some .int)) (by decide) rfl ?_
  intro p e s m args below meth c s₁ B hml hv
  obtain ⟨rfl, hsz, hP, hK, hD0⟩ := hv
  have hx := B.exec
  have hb := B.bytes
  have hr := B.returns
  have hts := atoms_spec (ws := wm_X13_parentOf) B.pre
  have htb := fun (w : Cond) (h : w ∈ tb) => hts w (List.mem_cons_of_mem _ h)
  have hown : s.vm.findClass RX13 = some m.cls := findClass_of_methodNamed B.named
  have hlocks := B.notSynchronized
  subst hsz
  have hD := hD0.self (sz := s.heap.size)
  generalize hAe : va_A (mW h0 ad cid sg gm lg) s.heap.size = A at hD ⊢
  have hA : ∀ q : Nat, s.heap.size ≤ q → A q := fun q h => by rw [← hAe]; exact Or.inr h
  have hS : va_S A s.heap s.heap [] := va_S.rf
  have hl := lv_entry ([.ref h0, .int b]) (n := 2) (Nat.le_of_ble_eq_true rfl)
  rw [lg_entry_eq]
  generalize (lg_sl ([.ref h0, .int b]) ++ List.replicate (2 - (lg_sl ([.ref h0, .int b])).length) Slot.unset).toArray = ls at hl ⊢
  have hl : lv_has ls 2 [(0, .ref h0), (1, .int b)] := hl
  have hj37 : ∀ (y0_37 : Int32) (_ : iv 0 79 b) (_ : iv (-1) 79 y0_37) (_ : y0_37 = mPar sg gm lg b) (H : Heap) (locs : List Loc) (ls : Array Slot), va_P (dC, dI) vwCl (mW h0 ad cid sg gm lg) H → va_D A (mW h0 ad cid sg gm lg) → va_S A s.heap H locs → lv_has ls 2 [(0, .ref h0), (1, .int b)] → W p l e (headSpec wm_X13_parentOf ({ frames := 3, cells := 0, slots := 0, locals := 74 })).room s m ([.ref h0, .int b] : List Value).toArray below meth c H locs 0 0 (MQ below (va_Qi (fun r v => (iv (-1) 79 r) ∧ (r = mPar sg gm lg b) ∧ v = (sg, gm, lg)) (MB dC dI h0 ad cid A) A) ([.ref h0, .int b] : List Value).toArray s 0 0 A) (F0 m 37 ls [.int y0_37]) := by
    intro y0_37 hsx1_37 hy0_37 hp H locs ls hP hD hS hl
    exact W.iret (v := y0_37) hx hb hr (fun t ht hW => ⟨⟨y0_37, (sg, gm, lg), rfl, ⟨hy0_37, (hp), rfl⟩, by rw [ht]; exact hP, va_K.moved hW.alike hK, hD⟩, hS.F ht⟩) hS.2.2 dX13_parentOf_37
  refine lv_aload_n hx hb dX13_parentOf_0 rfl (lv_at hl 0 rfl) ?_
  refine lv_aload_n hx hb dX13_parentOf_1 rfl (lv_at hl 0 rfl) ?_
  refine mr_get (v := .ref (ad 42)) hx hb htb inX13 hown hK hP 42 (by decide) (htb _ kw_196) rfl dX13_parentOf_2 ?_
  refine lv_iload_n hx hb dX13_parentOf_5 rfl (lv_at hl 1 rfl) ?_
  refine mr_iald hx hb hK hP 33 (k := 42) rfl rfl rfl (show vp_in b 80 from (iv_in hvb (by decide))) dX13_parentOf_6 ?_
  refine lv_topi (fun z_1 ez_1 => ?_)
  have hz_1 : iv 0 79 z_1 := iv_of ez_1 (MI_a hI 42 hvb (by decide))
  refine lv_ldc2 (own := RX13) (v := 123563833388660) hx hb hown (htb _ kw_901) dX13_parentOf_7 ?_
  refine mr_calli (rest := []) ⟨hx, hb, hml, hown, htb⟩ (f_has l dC dI h0 ad cid sg gm lg z_1 123563833388660 hI hz_1) (cwV 2 htb (gd_V kw_916 kw_917 kw_918 kw_5 kw_1543) rfl rfl rfl (by decide +kernel) ⟨Nat.le_of_ble_eq_true rfl, Nat.le_of_ble_eq_true rfl⟩) rfl hl.1 rfl (Nat.le_of_ble_eq_true rfl) dX13_parentOf_10 ⟨Nat.zero_le _, Nat.zero_le _⟩ hK hP hD hS hA (fun r_2 u_3 H locs hw hP hD hS => ?_)
  obtain ⟨hr_2, fH_r_2, rfl⟩ := hw
  have hP : va_P (dC, dI) vwCl (mW h0 ad cid sg gm lg) H := hP
  have hD : va_D A (mW h0 ad cid sg gm lg) := hD
  refine lv_if_eq (tgt := 36) hx hb dX13_parentOf_13 (by decide) (fun c_4 => ?_) (fun c_4 => ?_)
  · have h_5 : iv 0 0 r_2 := iv_eq c_4 hr_2 (iv_k (by decide) : iv 0 0 0) (by decide)
    refine lv_iconst (v := (-1)) hx hb dX13_parentOf_36 (by decide) ?_
    exact hj37 (-1) hvb (iv_w (iv_k (by decide) : iv (-1) (-1) (-1)) (by decide)) (by unfold mPar; rw [if_pos (by rw [← ez_1, ← fH_r_2]; exact c_4)]) _ _ _ hP hD hS (lv_sub hl [0, 1] rfl)
  · have h_6 : iv 1 1 r_2 := iv_neL c_4 hr_2 (by decide)
    refine lv_aload_n hx hb dX13_parentOf_16 rfl (lv_at hl 0 rfl) ?_
    refine lv_aload_n hx hb dX13_parentOf_17 rfl (lv_at hl 0 rfl) ?_
    refine lv_aload_n hx hb dX13_parentOf_18 rfl (lv_at hl 0 rfl) ?_
    refine mr_get (v := .ref (ad 42)) hx hb htb inX13 hown hK hP 42 (by decide) (htb _ kw_196) rfl dX13_parentOf_19 ?_
    refine lv_iload_n hx hb dX13_parentOf_22 rfl (lv_at hl 1 rfl) ?_
    refine mr_iald hx hb hK hP 33 (k := 42) rfl rfl rfl (show vp_in b 80 from (iv_in hvb (by decide))) dX13_parentOf_23 ?_
    refine lv_topi (fun z_7 ez_7 => ?_)
    obtain rfl : z_1 = z_7 := ez_1.trans ez_7.symm
    refine lv_ldc2 (own := RX13) (v := 123563833388660) hx hb hown (htb _ kw_901) dX13_parentOf_24 ?_
    refine mr_calll (rest := [.ref h0]) ⟨hx, hb, hml, hown, htb⟩ (f_word l dC dI h0 ad cid sg gm lg z_1 123563833388660 hI hz_1) (cwV 2 htb (gd_V kw_923 kw_924 kw_925 kw_5 kw_1545) rfl rfl rfl (by decide +kernel) ⟨Nat.le_of_ble_eq_true rfl, Nat.le_of_ble_eq_true rfl⟩) rfl hl.1 rfl (Nat.le_of_ble_eq_true rfl) dX13_parentOf_27 ⟨Nat.zero_le _, Nat.zero_le _⟩ hK hP hD hS hA (fun r_8 u_9 H locs hw hP hD hS => ?_)
    obtain ⟨fW_r_8, rfl⟩ := hw
    have hP : va_P (dC, dI) vwCl (mW h0 ad cid sg gm lg) H := hP
    have hD : va_D A (mW h0 ad cid sg gm lg) := hD
    refine mr_calli (rest := []) ⟨hx, hb, hml, hown, htb⟩ (f_withId l dC dI h0 ad cid sg gm lg r_8 hI) (cwV 1 htb (gd_V kw_952 kw_953 kw_954 kw_5 kw_1554) rfl rfl rfl (by decide +kernel) ⟨Nat.le_of_ble_eq_true rfl, Nat.le_of_ble_eq_true rfl⟩) rfl hl.1 rfl (Nat.le_of_ble_eq_true rfl) dX13_parentOf_30 ⟨Nat.zero_le _, Nat.zero_le _⟩ hK hP hD hS hA (fun r_10 u_11 H locs hw hP hD hS => ?_)
    obtain ⟨hr_10, fD_r_10, rfl⟩ := hw
    have hP : va_P (dC, dI) vwCl (mW h0 ad cid sg gm lg) H := hP
    have hD : va_D A (mW h0 ad cid sg gm lg) := hD
    refine lv_goto (tgt := 37) hx hb dX13_parentOf_33 (by decide) ?_
    exact hj37 r_10 hvb hr_10 (by unfold mPar; rw [if_neg (by rw [← ez_1, ← fH_r_2]; exact c_4), ← ez_1, ← fW_r_8]; exact fD_r_10) _ _ _ hP hD hS (lv_sub hl [0, 1] rfl)

set_option maxHeartbeats 4000000 in
set_option maxRecDepth 100000 in
theorem a_isUsed (l : Launch) (dC : Nat → ClassId) (dI : Nat → Nat → Nat) (h0 : Nat) (ad : Nat → Nat) (cid : Nat → ClassId) (sg : Nat → Int32) (gm : Nat → Nat → Int32) (lg : Nat → Nat → Int64) (x : Int32) (nn : Int64) (hI : MI sg gm) (hvx : iv 0 80 x) : MMi l dC dI yX13_isUsed wm_X13_isUsed ({ frames := 2, cells := 0, slots := 0, locals := 51 }) h0 ad cid [.int x, .long nn] sg gm lg (fun r v => (iv 0 1 r) ∧ v = (sg, gm, lg)) := by
  intro sz
  refine Met.ofW (cc := cX13_isUsed) (maxL := 5) (ret := (some .boolean)) (by decide) rfl ?_
  intro p e s m args below meth c s₁ B hml hv
  obtain ⟨rfl, hsz, hP, hK, hD0⟩ := hv
  have hx := B.exec
  have hb := B.bytes
  have hr := B.returns
  have hts := atoms_spec (ws := wm_X13_isUsed) B.pre
  have htb := fun (w : Cond) (h : w ∈ tb) => hts w (List.mem_cons_of_mem _ h)
  have hown : s.vm.findClass RX13 = some m.cls := findClass_of_methodNamed B.named
  have hlocks := B.notSynchronized
  subst hsz
  have hD := hD0.self (sz := s.heap.size)
  generalize hAe : va_A (mW h0 ad cid sg gm lg) s.heap.size = A at hD ⊢
  have hA : ∀ q : Nat, s.heap.size ≤ q → A q := fun q h => by rw [← hAe]; exact Or.inr h
  have hS : va_S A s.heap s.heap [] := va_S.rf
  have hl := lv_entry ([.ref h0, .int x, .long nn]) (n := 5) (Nat.le_of_ble_eq_true rfl)
  rw [lg_entry_eq]
  generalize (lg_sl ([.ref h0, .int x, .long nn]) ++ List.replicate (5 - (lg_sl ([.ref h0, .int x, .long nn])).length) Slot.unset).toArray = ls at hl ⊢
  have hl : lv_has ls 5 [(0, .ref h0), (1, .int x), (2, .long nn)] := hl
  have hj69 : ∀ (x4_69 : Int32) (_ : iv 0 79 x4_69) (_ : iv 1 80 x) (H : Heap) (locs : List Loc) (ls : Array Slot), va_P (dC, dI) vwCl (mW h0 ad cid sg gm lg) H → va_D A (mW h0 ad cid sg gm lg) → va_S A s.heap H locs → lv_has ls 5 [(4, .int x4_69), (0, .ref h0), (1, .int x), (2, .long nn)] → W p l e (headSpec wm_X13_isUsed ({ frames := 2, cells := 0, slots := 0, locals := 51 })).room s m ([.ref h0, .int x, .long nn] : List Value).toArray below meth c H locs 0 0 (MQ below (va_Qi (fun r v => (iv 0 1 r) ∧ v = (sg, gm, lg)) (MB dC dI h0 ad cid A) A) ([.ref h0, .int x, .long nn] : List Value).toArray s 0 0 A) (F0 m 69 ls []) := by
    intro x4_69 hx4_69 hsx1_69 H locs ls hP hD hS hl
    refine lv_iconst (v := 1) hx hb dX13_isUsed_69 (by decide) ?_
    exact W.zret (v := 1) hx hb hr (iv_nb (iv_w (iv_k (by decide) : iv 1 1 1) (by decide))) (fun t ht hW => ⟨⟨1, (sg, gm, lg), rfl, ⟨(iv_w (iv_k (by decide) : iv 1 1 1) (by decide)), rfl⟩, by rw [ht]; exact hP, va_K.moved hW.alike hK, hD⟩, hS.F ht⟩) hS.2.2 dX13_isUsed_70
  have hj3 : ∀ (n : Nat) (x4_3 : Int32) (_ : (80 - x4_3.toInt).toNat = n) (_ : iv 0 80 x4_3) (_ : iv 0 80 x) (H : Heap) (locs : List Loc) (ls : Array Slot), va_P (dC, dI) vwCl (mW h0 ad cid sg gm lg) H → va_D A (mW h0 ad cid sg gm lg) → va_S A s.heap H locs → lv_has ls 5 [(4, .int x4_3), (0, .ref h0), (1, .int x), (2, .long nn)] → W p l e (headSpec wm_X13_isUsed ({ frames := 2, cells := 0, slots := 0, locals := 51 })).room s m ([.ref h0, .int x, .long nn] : List Value).toArray below meth c H locs 0 0 (MQ below (va_Qi (fun r v => (iv 0 1 r) ∧ v = (sg, gm, lg)) (MB dC dI h0 ad cid A) A) ([.ref h0, .int x, .long nn] : List Value).toArray s 0 0 A) (F0 m 3 ls []) := by
    intro n
    induction n using Nat.strongRecOn with
    | ind n ih3 =>
      intro x4_3 hn3 hx4_3 hsx1_3 H locs ls hP hD hS hl
      have hj71 : ∀ (_ : iv 0 79 x4_3) (_ : iv 1 80 x) (H : Heap) (locs : List Loc) (ls : Array Slot), va_P (dC, dI) vwCl (mW h0 ad cid sg gm lg) H → va_D A (mW h0 ad cid sg gm lg) → va_S A s.heap H locs → lv_has ls 5 [(4, .int x4_3), (0, .ref h0), (1, .int x), (2, .long nn)] → W p l e (headSpec wm_X13_isUsed ({ frames := 2, cells := 0, slots := 0, locals := 51 })).room s m ([.ref h0, .int x, .long nn] : List Value).toArray below meth c H locs 0 0 (MQ below (va_Qi (fun r v => (iv 0 1 r) ∧ v = (sg, gm, lg)) (MB dC dI h0 ad cid A) A) ([.ref h0, .int x, .long nn] : List Value).toArray s 0 0 A) (F0 m 71 ls []) := by
        intro  hsx4_71 hsx1_71 H locs ls hP hD hS hl
        obtain ⟨z_1, ez_1⟩ : ∃ z : Int32, z = x4_3 + 1 := ⟨_, rfl⟩
        have hz_1 : iv 1 80 z_1 := iv_of ez_1 (iv_add hsx4_71 (iv_k (by decide) : iv 1 1 1) (by decide))
        have tz_1 : z_1.toInt = x4_3.toInt + 1 := by rw [ez_1]; exact iv_addE hsx4_71 (iv_k (by decide) : iv 1 1 1) (by decide)
        refine lv_iinc (v := z_1) (lv' := [(4, .int z_1), (0, .ref h0), (1, .int x), (2, .long nn)]) hx hb dX13_isUsed_71 hl (k := 0) rfl ez_1.symm (by decide) rfl (fun ls hl => ?_)
        refine lv_goto (tgt := 3) hx hb dX13_isUsed_74 (by decide) ?_
        exact ih3 _ (by rw [← hn3]; exact (iv_meas tz_1 hsx4_71 (by decide))) z_1 rfl (iv_w hz_1 (by decide)) (iv_w hsx1_71 (by decide)) _ _ _ hP hD hS (lv_sub hl [0, 1, 2, 3] rfl)
      have hj44 : ∀ (_ : iv 0 79 x4_3) (_ : iv 1 80 x) (H : Heap) (locs : List Loc) (ls : Array Slot), va_P (dC, dI) vwCl (mW h0 ad cid sg gm lg) H → va_D A (mW h0 ad cid sg gm lg) → va_S A s.heap H locs → lv_has ls 5 [(4, .int x4_3), (0, .ref h0), (1, .int x), (2, .long nn)] → W p l e (headSpec wm_X13_isUsed ({ frames := 2, cells := 0, slots := 0, locals := 51 })).room s m ([.ref h0, .int x, .long nn] : List Value).toArray below meth c H locs 0 0 (MQ below (va_Qi (fun r v => (iv 0 1 r) ∧ v = (sg, gm, lg)) (MB dC dI h0 ad cid A) A) ([.ref h0, .int x, .long nn] : List Value).toArray s 0 0 A) (F0 m 44 ls []) := by
        intro  hsx4_44 hsx1_44 H locs ls hP hD hS hl
        refine lv_aload_n hx hb dX13_isUsed_44 rfl (lv_at hl 1 rfl) ?_
        refine mr_get (v := .ref (ad 26)) hx hb htb inX13 hown hK hP 26 (by decide) (htb _ kw_182) rfl dX13_isUsed_45 ?_
        refine lv_iload hx hb dX13_isUsed_48 (lv_at hl 0 rfl) ?_
        refine mr_iald hx hb hK hP 19 (k := 26) rfl rfl rfl (show vp_in x4_3 80 from (iv_in hsx4_44 (by decide))) dX13_isUsed_50 ?_
        refine lv_topi (fun z_2 ez_2 => ?_)
        have hz_2 : iv 0 10 z_2 := iv_of ez_2 (MI_a hI 26 hsx4_44 (by decide))
        refine lv_iconst (v := 2) hx hb dX13_isUsed_51 (by decide) ?_
        refine lv_icmp_ne (tgt := 71) hx hb dX13_isUsed_52 (by decide) (fun c_3 => ?_) (fun c_3 => ?_)
        · have d_4 : ¬ (z_2 : Int32).toInt = 2 := lv_neT c_3 rfl
          exact hj71 hsx4_44 hsx1_44 _ _ _ hP hD hS (lv_sub hl [0, 1, 2, 3] rfl)
        · have h_5 : iv 2 2 z_2 := iv_eq c_3 hz_2 (iv_k (by decide) : iv 2 2 2) (by decide)
          refine lv_aload_n hx hb dX13_isUsed_55 rfl (lv_at hl 1 rfl) ?_
          refine lv_iload hx hb dX13_isUsed_56 (lv_at hl 0 rfl) ?_
          refine lv_ldc2 (own := RX13) (v := 29807) hx hb hown (htb _ kw_888) dX13_isUsed_58 ?_
          refine mr_calll (rest := []) ⟨hx, hb, hml, hown, htb⟩ (f_word l dC dI h0 ad cid sg gm lg x4_3 29807 hI hsx4_44) (cwV 2 htb (gd_V kw_923 kw_924 kw_925 kw_5 kw_1545) rfl rfl rfl (by decide +kernel) ⟨Nat.le_of_ble_eq_true rfl, Nat.le_of_ble_eq_true rfl⟩) rfl hl.1 rfl (Nat.le_of_ble_eq_true rfl) dX13_isUsed_61 ⟨Nat.zero_le _, Nat.zero_le _⟩ hK hP hD hS hA (fun r_6 u_7 H locs hw hP hD hS => ?_)
          obtain ⟨fW_r_6, rfl⟩ := hw
          have hP : va_P (dC, dI) vwCl (mW h0 ad cid sg gm lg) H := hP
          have hD : va_D A (mW h0 ad cid sg gm lg) := hD
          refine lv_lload_n hx hb dX13_isUsed_64 rfl (lv_at hl 3 rfl) ?_
          refine W.lcmp hx hb dX13_isUsed_65 ?_
          refine lv_topi (fun z_8 ez_8 => ?_)
          have hz_8 : iv (-1) 1 z_8 := iv_of ez_8 (iv_cmp _ _)
          refine lv_if_ne (tgt := 71) hx hb dX13_isUsed_66 (by decide) (fun c_9 => ?_) (fun c_9 => ?_)
          · have d_10 : ¬ (z_8 : Int32).toInt = 0 := lv_neT c_9 rfl
            exact hj71 hsx4_44 hsx1_44 _ _ _ hP hD hS (lv_sub hl [0, 1, 2, 3] rfl)
          · have h_11 : iv 0 0 z_8 := iv_eq c_9 hz_8 (iv_k (by decide) : iv 0 0 0) (by decide)
            exact hj69 x4_3 hsx4_44 hsx1_44 _ _ _ hP hD hS (lv_sub hl [0, 1, 2, 3] rfl)
      refine lv_iload hx hb dX13_isUsed_3 (lv_at hl 0 rfl) ?_
      refine lv_iload_n hx hb dX13_isUsed_5 rfl (lv_at hl 2 rfl) ?_
      refine lv_icmp_ge (tgt := 77) hx hb dX13_isUsed_6 (by decide) (fun c_12 => ?_) (fun c_12 => ?_)
      · have d_13 : (x : Int32).toInt ≤ (x4_3 : Int32).toInt := Int32.le_iff_toInt_le.mp c_12
        refine lv_iconst (v := 0) hx hb dX13_isUsed_77 (by decide) ?_
        exact W.zret (v := 0) hx hb hr (iv_nb (iv_w (iv_k (by decide) : iv 0 0 0) (by decide))) (fun t ht hW => ⟨⟨0, (sg, gm, lg), rfl, ⟨(iv_w (iv_k (by decide) : iv 0 0 0) (by decide)), rfl⟩, by rw [ht]; exact hP, va_K.moved hW.alike hK, hD⟩, hS.F ht⟩) hS.2.2 dX13_isUsed_78
      · have d_14 : (x4_3 : Int32).toInt < (x : Int32).toInt := Int32.lt_iff_toInt_lt.mp (i32_lt c_12)
        have h_15 : iv 0 79 x4_3 := iv_ltL (i32_lt c_12) hx4_3 hsx1_3 (by decide)
        have h_16 : iv 1 80 x := iv_ltR (i32_lt c_12) hx4_3 hsx1_3 (by decide)
        refine lv_aload_n hx hb dX13_isUsed_9 rfl (lv_at hl 1 rfl) ?_
        refine mr_get (v := .ref (ad 28)) hx hb htb inX13 hown hK hP 28 (by decide) (htb _ kw_184) rfl dX13_isUsed_10 ?_
        refine lv_iload hx hb dX13_isUsed_13 (lv_at hl 0 rfl) ?_
        refine mr_iald hx hb hK hP 21 (k := 28) rfl rfl rfl (show vp_in x4_3 80 from (iv_in h_15 (by decide))) dX13_isUsed_15 ?_
        refine lv_topi (fun z_17 ez_17 => ?_)
        have hz_17 : iv (-1) 79 z_17 := iv_of ez_17 (MI_a hI 28 h_15 (by decide))
        refine lv_if_ne (tgt := 71) hx hb dX13_isUsed_16 (by decide) (fun c_18 => ?_) (fun c_18 => ?_)
        · have d_19 : ¬ (z_17 : Int32).toInt = 0 := lv_neT c_18 rfl
          exact hj71 h_15 h_16 _ _ _ hP hD hS (lv_sub hl [0, 1, 2, 3] rfl)
        · have h_20 : iv 0 0 z_17 := iv_eq c_18 hz_17 (iv_k (by decide) : iv 0 0 0) (by decide)
          refine lv_aload_n hx hb dX13_isUsed_19 rfl (lv_at hl 1 rfl) ?_
          refine mr_get (v := .ref (ad 26)) hx hb htb inX13 hown hK hP 26 (by decide) (htb _ kw_182) rfl dX13_isUsed_20 ?_
          refine lv_iload hx hb dX13_isUsed_23 (lv_at hl 0 rfl) ?_
          refine mr_iald hx hb hK hP 19 (k := 26) rfl rfl rfl (show vp_in x4_3 80 from (iv_in h_15 (by decide))) dX13_isUsed_25 ?_
          refine lv_topi (fun z_21 ez_21 => ?_)
          have hz_21 : iv 0 10 z_21 := iv_of ez_21 (MI_a hI 26 h_15 (by decide))
          refine lv_iconst (v := 3) hx hb dX13_isUsed_26 (by decide) ?_
          refine lv_icmp_ne (tgt := 44) hx hb dX13_isUsed_27 (by decide) (fun c_22 => ?_) (fun c_22 => ?_)
          · have d_23 : ¬ (z_21 : Int32).toInt = 3 := lv_neT c_22 rfl
            exact hj44 h_15 h_16 _ _ _ hP hD hS (lv_sub hl [0, 1, 2, 3] rfl)
          · have h_24 : iv 3 3 z_21 := iv_eq c_22 hz_21 (iv_k (by decide) : iv 3 3 3) (by decide)
            refine lv_aload_n hx hb dX13_isUsed_30 rfl (lv_at hl 1 rfl) ?_
            refine lv_iload hx hb dX13_isUsed_31 (lv_at hl 0 rfl) ?_
            refine lv_ldc2 (own := RX13) (v := 26980) hx hb hown (htb _ kw_899) dX13_isUsed_33 ?_
            refine mr_calll (rest := []) ⟨hx, hb, hml, hown, htb⟩ (f_word l dC dI h0 ad cid sg gm lg x4_3 26980 hI h_15) (cwV 2 htb (gd_V kw_923 kw_924 kw_925 kw_5 kw_1545) rfl rfl rfl (by decide +kernel) ⟨Nat.le_of_ble_eq_true rfl, Nat.le_of_ble_eq_true rfl⟩) rfl hl.1 rfl (Nat.le_of_ble_eq_true rfl) dX13_isUsed_36 ⟨Nat.zero_le _, Nat.zero_le _⟩ hK hP hD hS hA (fun r_25 u_26 H locs hw hP hD hS => ?_)
            obtain ⟨fW_r_25, rfl⟩ := hw
            have hP : va_P (dC, dI) vwCl (mW h0 ad cid sg gm lg) H := hP
            have hD : va_D A (mW h0 ad cid sg gm lg) := hD
            refine lv_lload_n hx hb dX13_isUsed_39 rfl (lv_at hl 3 rfl) ?_
            refine W.lcmp hx hb dX13_isUsed_40 ?_
            refine lv_topi (fun z_27 ez_27 => ?_)
            have hz_27 : iv (-1) 1 z_27 := iv_of ez_27 (iv_cmp _ _)
            refine lv_if_eq (tgt := 69) hx hb dX13_isUsed_41 (by decide) (fun c_28 => ?_) (fun c_28 => ?_)
            · have h_29 : iv 0 0 z_27 := iv_eq c_28 hz_27 (iv_k (by decide) : iv 0 0 0) (by decide)
              exact hj69 x4_3 h_15 h_16 _ _ _ hP hD hS (lv_sub hl [0, 1, 2, 3] rfl)
            · have d_30 : ¬ (z_27 : Int32).toInt = 0 := lv_neT c_28 rfl
              exact hj44 h_15 h_16 _ _ _ hP hD hS (lv_sub hl [0, 1, 2, 3] rfl)
  refine lv_iconst (v := 0) hx hb dX13_isUsed_0 (by decide) ?_
  refine lv_istore (lv' := [(4, .int 0), (0, .ref h0), (1, .int x), (2, .long nn)]) hx hb dX13_isUsed_1 hl (by decide) rfl (fun ls hl => ?_)
  exact hj3 _ 0 rfl (iv_w (iv_k (by decide) : iv 0 0 0) (by decide)) hvx _ _ _ hP hD hS (lv_sub hl [0, 1, 2, 3] rfl)

set_option maxHeartbeats 4000000 in
set_option maxRecDepth 100000 in
theorem f_comesToItself (l : Launch) (dC : Nat → ClassId) (dI : Nat → Nat → Nat) (h0 : Nat) (ad : Nat → Nat) (cid : Nat → ClassId) (sg : Nat → Int32) (gm : Nat → Nat → Int32) (lg : Nat → Nat → Int64) (b : Int32) (hI : MI sg gm) (hvb : iv 0 79 b) : MMi l dC dI yX13_comesToItself wm_X13_comesToItself ({ frames := 4, cells := 0, slots := 0, locals := 95 }) h0 ad cid [.int b] sg gm lg (fun r v => (iv 0 1 r) ∧ (r.toInt ≠ 0 ∨ NR (mPar sg gm lg) b) ∧ v = (sg, gm, lg)) := by
  intro sz
  refine Met.ofW (cc := cX13_comesToItself) (maxL := 4) (ret := (some .boolean)) (by decide) rfl ?_
  intro p e s m args below meth c s₁ B hml hv
  obtain ⟨rfl, hsz, hP, hK, hD0⟩ := hv
  have hx := B.exec
  have hb := B.bytes
  have hr := B.returns
  have hts := atoms_spec (ws := wm_X13_comesToItself) B.pre
  have htb := fun (w : Cond) (h : w ∈ tb) => hts w (List.mem_cons_of_mem _ h)
  have hown : s.vm.findClass RX13 = some m.cls := findClass_of_methodNamed B.named
  have hlocks := B.notSynchronized
  subst hsz
  have hD := hD0.self (sz := s.heap.size)
  generalize hAe : va_A (mW h0 ad cid sg gm lg) s.heap.size = A at hD ⊢
  have hA : ∀ q : Nat, s.heap.size ≤ q → A q := fun q h => by rw [← hAe]; exact Or.inr h
  have hS : va_S A s.heap s.heap [] := va_S.rf
  have hl := lv_entry ([.ref h0, .int b]) (n := 4) (Nat.le_of_ble_eq_true rfl)
  rw [lg_entry_eq]
  generalize (lg_sl ([.ref h0, .int b]) ++ List.replicate (4 - (lg_sl ([.ref h0, .int b])).length) Slot.unset).toArray = ls at hl ⊢
  have hl : lv_has ls 4 [(0, .ref h0), (1, .int b)] := hl
  have hj38 : ∀ (x3_38 : Int32) (x2_38 : Int32) (_ : iv 0 80 x3_38) (_ : iv (-1) 79 x2_38) (_ : iv 0 79 b) (_ : NR (mPar sg gm lg) b) (H : Heap) (locs : List Loc) (ls : Array Slot), va_P (dC, dI) vwCl (mW h0 ad cid sg gm lg) H → va_D A (mW h0 ad cid sg gm lg) → va_S A s.heap H locs → lv_has ls 4 [(3, .int x3_38), (2, .int x2_38), (0, .ref h0), (1, .int b)] → W p l e (headSpec wm_X13_comesToItself ({ frames := 4, cells := 0, slots := 0, locals := 95 })).room s m ([.ref h0, .int b] : List Value).toArray below meth c H locs 0 0 (MQ below (va_Qi (fun r v => (iv 0 1 r) ∧ (r.toInt ≠ 0 ∨ NR (mPar sg gm lg) b) ∧ v = (sg, gm, lg)) (MB dC dI h0 ad cid A) A) ([.ref h0, .int b] : List Value).toArray s 0 0 A) (F0 m 38 ls []) := by
    intro x3_38 x2_38 hx3_38 hx2_38 hsx1_38 hNR H locs ls hP hD hS hl
    refine lv_iconst (v := 0) hx hb dX13_comesToItself_38 (by decide) ?_
    exact W.zret (v := 0) hx hb hr (iv_nb (iv_w (iv_k (by decide) : iv 0 0 0) (by decide))) (fun t ht hW => ⟨⟨0, (sg, gm, lg), rfl, ⟨(iv_w (iv_k (by decide) : iv 0 0 0) (by decide)), (Or.inr hNR), rfl⟩, by rw [ht]; exact hP, va_K.moved hW.alike hK, hD⟩, hS.F ht⟩) hS.2.2 dX13_comesToItself_39
  have hj8 : ∀ (n : Nat) (x3_8 : Int32) (x2_8 : Int32) (_ : (80 - x3_8.toInt).toNat = n) (_ : iv 0 80 x3_8) (_ : iv (-1) 79 x2_8) (_ : iv 0 79 b) (_ : x2_8 = itF (mPar sg gm lg) (x3_8.toNatClampNeg + 1) b) (_ : ∀ k9, 1 ≤ k9 → k9 ≤ x3_8.toNatClampNeg → ¬ itF (mPar sg gm lg) k9 b = b) (H : Heap) (locs : List Loc) (ls : Array Slot), va_P (dC, dI) vwCl (mW h0 ad cid sg gm lg) H → va_D A (mW h0 ad cid sg gm lg) → va_S A s.heap H locs → lv_has ls 4 [(3, .int x3_8), (2, .int x2_8), (0, .ref h0), (1, .int b)] → W p l e (headSpec wm_X13_comesToItself ({ frames := 4, cells := 0, slots := 0, locals := 95 })).room s m ([.ref h0, .int b] : List Value).toArray below meth c H locs 0 0 (MQ below (va_Qi (fun r v => (iv 0 1 r) ∧ (r.toInt ≠ 0 ∨ NR (mPar sg gm lg) b) ∧ v = (sg, gm, lg)) (MB dC dI h0 ad cid A) A) ([.ref h0, .int b] : List Value).toArray s 0 0 A) (F0 m 8 ls []) := by
    intro n
    induction n using Nat.strongRecOn with
    | ind n ih8 =>
      intro x3_8 x2_8 hn8 hx3_8 hx2_8 hsx1_8 hit hne H locs ls hP hD hS hl
      refine lv_iload_n hx hb dX13_comesToItself_8 rfl (lv_at hl 0 rfl) ?_
      refine lv_bipush (v := 80) hx hb dX13_comesToItself_9 (by decide) ?_
      refine lv_icmp_ge (tgt := 38) hx hb dX13_comesToItself_11 (by decide) (fun c_1 => ?_) (fun c_1 => ?_)
      · have h_2 : iv 80 80 x3_8 := iv_leR c_1 (iv_k (by decide) : iv 80 80 80) hx3_8 (by decide)
        exact hj38 x3_8 x2_8 (iv_w h_2 (by decide)) hx2_8 hsx1_8 (NR_80 h_2 hne) _ _ _ hP hD hS (lv_sub hl [0, 1, 2, 3] rfl)
      · have h_3 : iv 0 79 x3_8 := iv_ltL (i32_lt c_1) hx3_8 (iv_k (by decide) : iv 80 80 80) (by decide)
        refine lv_iload_n hx hb dX13_comesToItself_14 rfl (lv_at hl 1 rfl) ?_
        refine lv_iconst (v := (-1)) hx hb dX13_comesToItself_15 (by decide) ?_
        refine lv_icmp_eq (tgt := 38) hx hb dX13_comesToItself_16 (by decide) (fun c_4 => ?_) (fun c_4 => ?_)
        · have h_5 : iv (-1) (-1) x2_8 := iv_eq c_4 hx2_8 (iv_k (by decide) : iv (-1) (-1) (-1)) (by decide)
          exact hj38 x3_8 x2_8 (iv_w h_3 (by decide)) (iv_w h_5 (by decide)) hsx1_8 (NR_no hvb.1 (hit.symm.trans c_4) hne) _ _ _ hP hD hS (lv_sub hl [0, 1, 2, 3] rfl)
        · have h_6 : iv 0 79 x2_8 := iv_neL c_4 hx2_8 (by decide)
          refine lv_iload_n hx hb dX13_comesToItself_19 rfl (lv_at hl 1 rfl) ?_
          refine lv_iload_n hx hb dX13_comesToItself_20 rfl (lv_at hl 3 rfl) ?_
          refine lv_icmp_ne (tgt := 26) hx hb dX13_comesToItself_21 (by decide) (fun c_7 => ?_) (fun c_7 => ?_)
          · refine lv_aload_n hx hb dX13_comesToItself_26 rfl (lv_at hl 2 rfl) ?_
            refine lv_iload_n hx hb dX13_comesToItself_27 rfl (lv_at hl 1 rfl) ?_
            refine mr_calli (rest := []) ⟨hx, hb, hml, hown, htb⟩ (f_parentOf l dC dI h0 ad cid sg gm lg x2_8 hI h_6) (cwV 1 htb (gd_V kw_949 kw_950 kw_951 kw_5 kw_1553) rfl rfl rfl (by decide +kernel) ⟨Nat.le_of_ble_eq_true rfl, Nat.le_of_ble_eq_true rfl⟩) rfl hl.1 rfl (Nat.le_of_ble_eq_true rfl) dX13_comesToItself_28 ⟨Nat.zero_le _, Nat.zero_le _⟩ hK hP hD hS hA (fun r_8 u_9 H locs hw hP hD hS => ?_)
            obtain ⟨hr_8, fP_r_8, rfl⟩ := hw
            have hP : va_P (dC, dI) vwCl (mW h0 ad cid sg gm lg) H := hP
            have hD : va_D A (mW h0 ad cid sg gm lg) := hD
            refine lv_istore_n (lv' := [(2, .int r_8), (3, .int x3_8), (0, .ref h0), (1, .int b)]) hx hb dX13_comesToItself_31 rfl hl (by decide) rfl (fun ls hl => ?_)
            obtain ⟨z_10, ez_10⟩ : ∃ z : Int32, z = x3_8 + 1 := ⟨_, rfl⟩
            have hz_10 : iv 1 80 z_10 := iv_of ez_10 (iv_add h_3 (iv_k (by decide) : iv 1 1 1) (by decide))
            have tz_10 : z_10.toInt = x3_8.toInt + 1 := by rw [ez_10]; exact iv_addE h_3 (iv_k (by decide) : iv 1 1 1) (by decide)
            refine lv_iinc (v := z_10) (lv' := [(3, .int z_10), (2, .int r_8), (0, .ref h0), (1, .int b)]) hx hb dX13_comesToItself_32 hl (k := 1) rfl ez_10.symm (by decide) rfl (fun ls hl => ?_)
            refine lv_goto (tgt := 8) hx hb dX13_comesToItself_35 (by decide) ?_
            exact ih8 _ (by rw [← hn8]; exact (iv_meas tz_10 h_3 (by decide))) z_10 r_8 rfl (iv_w hz_10 (by decide)) hr_8 hsx1_8 (by rw [s_cl h_3 (by decide) tz_10]; exact itF_s hit c_4 fP_r_8) (by rw [s_cl h_3 (by decide) tz_10]; exact NR_s hit c_7 hne) _ _ _ hP hD hS (lv_sub hl [0, 1, 2, 3] rfl)
          · have d_11 : (x2_8 : Int32).toInt = (b : Int32).toInt := congrArg Int32.toInt c_7
            refine lv_iconst (v := 1) hx hb dX13_comesToItself_24 (by decide) ?_
            exact W.zret (v := 1) hx hb hr (iv_nb (iv_w (iv_k (by decide) : iv 1 1 1) (by decide))) (fun t ht hW => ⟨⟨1, (sg, gm, lg), rfl, ⟨(iv_w (iv_k (by decide) : iv 1 1 1) (by decide)), (Or.inl (by decide)), rfl⟩, by rw [ht]; exact hP, va_K.moved hW.alike hK, hD⟩, hS.F ht⟩) hS.2.2 dX13_comesToItself_25
  refine lv_aload_n hx hb dX13_comesToItself_0 rfl (lv_at hl 0 rfl) ?_
  refine lv_iload_n hx hb dX13_comesToItself_1 rfl (lv_at hl 1 rfl) ?_
  refine mr_calli (rest := []) ⟨hx, hb, hml, hown, htb⟩ (f_parentOf l dC dI h0 ad cid sg gm lg b hI hvb) (cwV 1 htb (gd_V kw_949 kw_950 kw_951 kw_5 kw_1553) rfl rfl rfl (by decide +kernel) ⟨Nat.le_of_ble_eq_true rfl, Nat.le_of_ble_eq_true rfl⟩) rfl hl.1 rfl (Nat.le_of_ble_eq_true rfl) dX13_comesToItself_2 ⟨Nat.zero_le _, Nat.zero_le _⟩ hK hP hD hS hA (fun r_12 u_13 H locs hw hP hD hS => ?_)
  obtain ⟨hr_12, fP_r_12, rfl⟩ := hw
  have hP : va_P (dC, dI) vwCl (mW h0 ad cid sg gm lg) H := hP
  have hD : va_D A (mW h0 ad cid sg gm lg) := hD
  refine lv_istore_n (lv' := [(2, .int r_12), (0, .ref h0), (1, .int b)]) hx hb dX13_comesToItself_5 rfl hl (by decide) rfl (fun ls hl => ?_)
  refine lv_iconst (v := 0) hx hb dX13_comesToItself_6 (by decide) ?_
  refine lv_istore_n (lv' := [(3, .int 0), (2, .int r_12), (0, .ref h0), (1, .int b)]) hx hb dX13_comesToItself_7 rfl hl (by decide) rfl (fun ls hl => ?_)
  exact hj8 _ 0 r_12 rfl (iv_w (iv_k (by decide) : iv 0 0 0) (by decide)) hr_12 hvb (by show _ = itF _ 1 _; rw [itF_1 (fun q9 => absurd hvb.1 (by rw [q9]; decide))]; exact fP_r_12) (fun k9 h8 h9 => by have : (0 : Int32).toNatClampNeg = 0 := rfl; omega) _ _ _ hP hD hS (lv_sub hl [0, 1, 2, 3] rfl)

set_option maxHeartbeats 4000000 in
set_option maxRecDepth 100000 in
theorem f_badBeans (l : Launch) (dC : Nat → ClassId) (dI : Nat → Nat → Nat) (h0 : Nat) (ad : Nat → Nat) (cid : Nat → ClassId) (sg : Nat → Int32) (gm : Nat → Nat → Int32) (lg : Nat → Nat → Int64) (hI : MI sg gm) : MMi l dC dI yX13_badBeans wm_X13_badBeans ({ frames := 5, cells := 0, slots := 0, locals := 118 }) h0 ad cid [] sg gm lg (fun r v => (iv (-1) 79 r) ∧ (0 ≤ r.toInt ∨ BBE sg gm lg) ∧ v = (sg, gm, lg)) := by
  intro sz
  refine Met.ofW (cc := cX13_badBeans) (maxL := 4) (ret := (some .int)) (by decide) rfl ?_
  intro p e s m args below meth c s₁ B hml hv
  obtain ⟨rfl, hsz, hP, hK, hD0⟩ := hv
  have hx := B.exec
  have hb := B.bytes
  have hr := B.returns
  have hts := atoms_spec (ws := wm_X13_badBeans) B.pre
  have htb := fun (w : Cond) (h : w ∈ tb) => hts w (List.mem_cons_of_mem _ h)
  have hown : s.vm.findClass RX13 = some m.cls := findClass_of_methodNamed B.named
  have hlocks := B.notSynchronized
  subst hsz
  have hD := hD0.self (sz := s.heap.size)
  generalize hAe : va_A (mW h0 ad cid sg gm lg) s.heap.size = A at hD ⊢
  have hA : ∀ q : Nat, s.heap.size ≤ q → A q := fun q h => by rw [← hAe]; exact Or.inr h
  have hS : va_S A s.heap s.heap [] := va_S.rf
  have hl := lv_entry ([.ref h0]) (n := 4) (Nat.le_of_ble_eq_true rfl)
  rw [lg_entry_eq]
  generalize (lg_sl ([.ref h0]) ++ List.replicate (4 - (lg_sl ([.ref h0])).length) Slot.unset).toArray = ls at hl ⊢
  have hl : lv_has ls 4 [(0, .ref h0)] := hl
  have hj124 : ∀ (x3_124 : Int32) (x2_124 : Int32) (x1_124 : Int32) (_ : iv 0 1 x3_124) (_ : iv 0 1 x2_124) (_ : iv 1 79 x1_124) (H : Heap) (locs : List Loc) (ls : Array Slot), va_P (dC, dI) vwCl (mW h0 ad cid sg gm lg) H → va_D A (mW h0 ad cid sg gm lg) → va_S A s.heap H locs → lv_has ls 4 [(3, .int x3_124), (2, .int x2_124), (1, .int x1_124), (0, .ref h0)] → W p l e (headSpec wm_X13_badBeans ({ frames := 5, cells := 0, slots := 0, locals := 118 })).room s m ([.ref h0] : List Value).toArray below meth c H locs 0 0 (MQ below (va_Qi (fun r v => (iv (-1) 79 r) ∧ (0 ≤ r.toInt ∨ BBE sg gm lg) ∧ v = (sg, gm, lg)) (MB dC dI h0 ad cid A) A) ([.ref h0] : List Value).toArray s 0 0 A) (F0 m 124 ls []) := by
    intro x3_124 x2_124 x1_124 hx3_124 hx2_124 hx1_124 H locs ls hP hD hS hl
    refine lv_iload_n hx hb dX13_badBeans_124 rfl (lv_at hl 2 rfl) ?_
    exact W.iret (v := x1_124) hx hb hr (fun t ht hW => ⟨⟨x1_124, (sg, gm, lg), rfl, ⟨(iv_w hx1_124 (by decide)), (Or.inl (by have := (hx1_124).1; omega)), rfl⟩, by rw [ht]; exact hP, va_K.moved hW.alike hK, hD⟩, hS.F ht⟩) hS.2.2 dX13_badBeans_125
  have hj2 : ∀ (n : Nat) (x1_2 : Int32) (_ : (80 - x1_2.toInt).toNat = n) (_ : iv 1 80 x1_2) (_ : ∀ k9, 1 ≤ k9 → k9 < x1_2.toNatClampNeg → BB1 sg gm lg k9) (H : Heap) (locs : List Loc) (ls : Array Slot), va_P (dC, dI) vwCl (mW h0 ad cid sg gm lg) H → va_D A (mW h0 ad cid sg gm lg) → va_S A s.heap H locs → lv_has ls 4 [(1, .int x1_2), (0, .ref h0)] → W p l e (headSpec wm_X13_badBeans ({ frames := 5, cells := 0, slots := 0, locals := 118 })).room s m ([.ref h0] : List Value).toArray below meth c H locs 0 0 (MQ below (va_Qi (fun r v => (iv (-1) 79 r) ∧ (0 ≤ r.toInt ∨ BBE sg gm lg) ∧ v = (sg, gm, lg)) (MB dC dI h0 ad cid A) A) ([.ref h0] : List Value).toArray s 0 0 A) (F0 m 2 ls []) := by
    intro n
    induction n using Nat.strongRecOn with
    | ind n ih2 =>
      intro x1_2 hn2 hx1_2 hbb H locs ls hP hD hS hl
      have hj115 : ∀ (x2_115 : Int32) (y0_115 : Int32) (_ : iv 0 1 x2_115) (_ : iv 1 79 x1_2) (_ : iv 0 1 y0_115) (_ : y0_115.toInt ≠ 0 ∨ BB1 sg gm lg x1_2.toNatClampNeg) (H : Heap) (locs : List Loc) (ls : Array Slot), va_P (dC, dI) vwCl (mW h0 ad cid sg gm lg) H → va_D A (mW h0 ad cid sg gm lg) → va_S A s.heap H locs → lv_has ls 4 [(2, .int x2_115), (1, .int x1_2), (0, .ref h0)] → W p l e (headSpec wm_X13_badBeans ({ frames := 5, cells := 0, slots := 0, locals := 118 })).room s m ([.ref h0] : List Value).toArray below meth c H locs 0 0 (MQ below (va_Qi (fun r v => (iv (-1) 79 r) ∧ (0 ≤ r.toInt ∨ BBE sg gm lg) ∧ v = (sg, gm, lg)) (MB dC dI h0 ad cid A) A) ([.ref h0] : List Value).toArray s 0 0 A) (F0 m 115 ls [.int y0_115]) := by
        intro x2_115 y0_115 hx2_115 hsx1_115 hy0_115 h115 H locs ls hP hD hS hl
        refine lv_istore_n (lv' := [(3, .int y0_115), (2, .int x2_115), (1, .int x1_2), (0, .ref h0)]) hx hb dX13_badBeans_115 rfl hl (by decide) rfl (fun ls hl => ?_)
        refine lv_iload_n hx hb dX13_badBeans_116 rfl (lv_at hl 1 rfl) ?_
        refine lv_if_ne (tgt := 124) hx hb dX13_badBeans_117 (by decide) (fun c_1 => ?_) (fun c_1 => ?_)
        · have h_2 : iv 1 1 x2_115 := iv_neL c_1 hx2_115 (by decide)
          exact hj124 y0_115 x2_115 x1_2 hy0_115 (iv_w h_2 (by decide)) hsx1_115 _ _ _ hP hD hS (lv_sub hl [0, 1, 2, 3] rfl)
        · have h_3 : iv 0 0 x2_115 := iv_eq c_1 hx2_115 (iv_k (by decide) : iv 0 0 0) (by decide)
          refine lv_iload_n hx hb dX13_badBeans_120 rfl (lv_at hl 0 rfl) ?_
          refine lv_if_eq (tgt := 126) hx hb dX13_badBeans_121 (by decide) (fun c_4 => ?_) (fun c_4 => ?_)
          · have h_5 : iv 0 0 y0_115 := iv_eq c_4 hy0_115 (iv_k (by decide) : iv 0 0 0) (by decide)
            obtain ⟨z_6, ez_6⟩ : ∃ z : Int32, z = x1_2 + 1 := ⟨_, rfl⟩
            have hz_6 : iv 2 80 z_6 := iv_of ez_6 (iv_add hsx1_115 (iv_k (by decide) : iv 1 1 1) (by decide))
            have tz_6 : z_6.toInt = x1_2.toInt + 1 := by rw [ez_6]; exact iv_addE hsx1_115 (iv_k (by decide) : iv 1 1 1) (by decide)
            refine lv_iinc (v := z_6) (lv' := [(1, .int z_6), (3, .int y0_115), (2, .int x2_115), (0, .ref h0)]) hx hb dX13_badBeans_126 hl (k := 2) rfl ez_6.symm (by decide) rfl (fun ls hl => ?_)
            refine lv_goto (tgt := 2) hx hb dX13_badBeans_129 (by decide) ?_
            exact ih2 _ (by rw [← hn2]; exact (iv_meas tz_6 hsx1_115 (by decide))) z_6 rfl (iv_w hz_6 (by decide)) (all_s hsx1_115 (by decide) tz_6 hbb (h115.resolve_left (fun q9 => q9 (congrArg Int32.toInt c_4)))) _ _ _ hP hD hS (lv_sub hl [0, 3] rfl)
          · have h_7 : iv 1 1 y0_115 := iv_neL c_4 hy0_115 (by decide)
            exact hj124 y0_115 x2_115 x1_2 (iv_w h_7 (by decide)) (iv_w h_3 (by decide)) hsx1_115 _ _ _ hP hD hS (lv_sub hl [0, 1, 2, 3] rfl)
      have hj114 : ∀ (x2_114 : Int32) (_ : iv 0 1 x2_114) (_ : iv 1 79 x1_2) (_ : BB1 sg gm lg x1_2.toNatClampNeg) (H : Heap) (locs : List Loc) (ls : Array Slot), va_P (dC, dI) vwCl (mW h0 ad cid sg gm lg) H → va_D A (mW h0 ad cid sg gm lg) → va_S A s.heap H locs → lv_has ls 4 [(2, .int x2_114), (1, .int x1_2), (0, .ref h0)] → W p l e (headSpec wm_X13_badBeans ({ frames := 5, cells := 0, slots := 0, locals := 118 })).room s m ([.ref h0] : List Value).toArray below meth c H locs 0 0 (MQ below (va_Qi (fun r v => (iv (-1) 79 r) ∧ (0 ≤ r.toInt ∨ BBE sg gm lg) ∧ v = (sg, gm, lg)) (MB dC dI h0 ad cid A) A) ([.ref h0] : List Value).toArray s 0 0 A) (F0 m 114 ls []) := by
        intro x2_114 hx2_114 hsx1_114 h114 H locs ls hP hD hS hl
        refine lv_iconst (v := 0) hx hb dX13_badBeans_114 (by decide) ?_
        exact hj115 x2_114 0 hx2_114 hsx1_114 (iv_w (iv_k (by decide) : iv 0 0 0) (by decide)) (Or.inr h114) _ _ _ hP hD hS (lv_sub hl [0, 1, 2] rfl)
      have hj110 : ∀ (x2_110 : Int32) (_ : iv 0 1 x2_110) (_ : iv 1 79 x1_2) (H : Heap) (locs : List Loc) (ls : Array Slot), va_P (dC, dI) vwCl (mW h0 ad cid sg gm lg) H → va_D A (mW h0 ad cid sg gm lg) → va_S A s.heap H locs → lv_has ls 4 [(2, .int x2_110), (1, .int x1_2), (0, .ref h0)] → W p l e (headSpec wm_X13_badBeans ({ frames := 5, cells := 0, slots := 0, locals := 118 })).room s m ([.ref h0] : List Value).toArray below meth c H locs 0 0 (MQ below (va_Qi (fun r v => (iv (-1) 79 r) ∧ (0 ≤ r.toInt ∨ BBE sg gm lg) ∧ v = (sg, gm, lg)) (MB dC dI h0 ad cid A) A) ([.ref h0] : List Value).toArray s 0 0 A) (F0 m 110 ls []) := by
        intro x2_110 hx2_110 hsx1_110 H locs ls hP hD hS hl
        refine lv_iconst (v := 1) hx hb dX13_badBeans_110 (by decide) ?_
        refine lv_goto (tgt := 115) hx hb dX13_badBeans_111 (by decide) ?_
        exact hj115 x2_110 1 hx2_110 hsx1_110 (iv_w (iv_k (by decide) : iv 1 1 1) (by decide)) (Or.inl (by decide)) _ _ _ hP hD hS (lv_sub hl [0, 1, 2] rfl)
      have hj61 : ∀ (y0_61 : Int32) (_ : iv 1 79 x1_2) (_ : iv 0 1 y0_61) (H : Heap) (locs : List Loc) (ls : Array Slot), va_P (dC, dI) vwCl (mW h0 ad cid sg gm lg) H → va_D A (mW h0 ad cid sg gm lg) → va_S A s.heap H locs → lv_has ls 4 [(1, .int x1_2), (0, .ref h0)] → W p l e (headSpec wm_X13_badBeans ({ frames := 5, cells := 0, slots := 0, locals := 118 })).room s m ([.ref h0] : List Value).toArray below meth c H locs 0 0 (MQ below (va_Qi (fun r v => (iv (-1) 79 r) ∧ (0 ≤ r.toInt ∨ BBE sg gm lg) ∧ v = (sg, gm, lg)) (MB dC dI h0 ad cid A) A) ([.ref h0] : List Value).toArray s 0 0 A) (F0 m 61 ls [.int y0_61]) := by
        intro y0_61 hsx1_61 hy0_61 H locs ls hP hD hS hl
        refine lv_istore_n (lv' := [(2, .int y0_61), (1, .int x1_2), (0, .ref h0)]) hx hb dX13_badBeans_61 rfl hl (by decide) rfl (fun ls hl => ?_)
        refine lv_aload_n hx hb dX13_badBeans_62 rfl (lv_at hl 2 rfl) ?_
        refine mr_get (v := .ref (ad 26)) hx hb htb inX13 hown hK hP 26 (by decide) (htb _ kw_182) rfl dX13_badBeans_63 ?_
        refine lv_iload_n hx hb dX13_badBeans_66 rfl (lv_at hl 1 rfl) ?_
        refine mr_iald hx hb hK hP 19 (k := 26) rfl rfl rfl (show vp_in x1_2 80 from (iv_in hsx1_61 (by decide))) dX13_badBeans_67 ?_
        refine lv_topi (fun z_8 ez_8 => ?_)
        have hz_8 : iv 0 10 z_8 := iv_of ez_8 (MI_a hI 26 hsx1_61 (by decide))
        refine lv_iconst (v := 3) hx hb dX13_badBeans_68 (by decide) ?_
        refine lv_icmp_ne (tgt := 114) hx hb dX13_badBeans_69 (by decide) (fun c_9 => ?_) (fun c_9 => ?_)
        · have d_10 : ¬ (z_8 : Int32).toInt = 3 := lv_neT c_9 rfl
          exact hj114 y0_61 hy0_61 hsx1_61 (fun q9 => absurd (Int32.toInt_inj.mp (by rw [ez_8]; exact q9)) c_9) _ _ _ hP hD hS (lv_sub hl [0, 1, 2] rfl)
        · have h_11 : iv 3 3 z_8 := iv_eq c_9 hz_8 (iv_k (by decide) : iv 3 3 3) (by decide)
          refine lv_aload_n hx hb dX13_badBeans_72 rfl (lv_at hl 2 rfl) ?_
          refine lv_iload_n hx hb dX13_badBeans_73 rfl (lv_at hl 1 rfl) ?_
          refine lv_ldc2 (own := RX13) (v := 123563833388660) hx hb hown (htb _ kw_901) dX13_badBeans_74 ?_
          refine mr_calli (rest := []) ⟨hx, hb, hml, hown, htb⟩ (f_has l dC dI h0 ad cid sg gm lg x1_2 123563833388660 hI (iv_w hsx1_61 (by decide))) (cwV 2 htb (gd_V kw_916 kw_917 kw_918 kw_5 kw_1543) rfl rfl rfl (by decide +kernel) ⟨Nat.le_of_ble_eq_true rfl, Nat.le_of_ble_eq_true rfl⟩) rfl hl.1 rfl (Nat.le_of_ble_eq_true rfl) dX13_badBeans_77 ⟨Nat.zero_le _, Nat.zero_le _⟩ hK hP hD hS hA (fun r_12 u_13 H locs hw hP hD hS => ?_)
          obtain ⟨hr_12, fH_r_12, rfl⟩ := hw
          have hP : va_P (dC, dI) vwCl (mW h0 ad cid sg gm lg) H := hP
          have hD : va_D A (mW h0 ad cid sg gm lg) := hD
          refine lv_if_eq (tgt := 114) hx hb dX13_badBeans_80 (by decide) (fun c_14 => ?_) (fun c_14 => ?_)
          · have h_15 : iv 0 0 r_12 := iv_eq c_14 hr_12 (iv_k (by decide) : iv 0 0 0) (by decide)
            exact hj114 y0_61 hy0_61 hsx1_61 (fun q9 => Or.inl (by rw [← fH_r_12]; exact c_14)) _ _ _ hP hD hS (lv_sub hl [0, 1, 2] rfl)
          · have h_16 : iv 1 1 r_12 := iv_neL c_14 hr_12 (by decide)
            refine lv_aload_n hx hb dX13_badBeans_83 rfl (lv_at hl 2 rfl) ?_
            refine lv_aload_n hx hb dX13_badBeans_84 rfl (lv_at hl 2 rfl) ?_
            refine mr_get (v := .ref (ad 43)) hx hb htb inX13 hown hK hP 43 (by decide) (htb _ kw_197) rfl dX13_badBeans_85 ?_
            refine lv_iload_n hx hb dX13_badBeans_88 rfl (lv_at hl 1 rfl) ?_
            refine mr_iald hx hb hK hP 34 (k := 43) rfl rfl rfl (show vp_in x1_2 80 from (iv_in hsx1_61 (by decide))) dX13_badBeans_89 ?_
            refine lv_topi (fun z_17 ez_17 => ?_)
            have hz_17 : iv 0 79 z_17 := iv_of ez_17 (MI_a hI 43 hsx1_61 (by decide))
            refine mr_calli (rest := []) ⟨hx, hb, hml, hown, htb⟩ (f_parentOf l dC dI h0 ad cid sg gm lg z_17 hI hz_17) (cwV 1 htb (gd_V kw_949 kw_950 kw_951 kw_5 kw_1553) rfl rfl rfl (by decide +kernel) ⟨Nat.le_of_ble_eq_true rfl, Nat.le_of_ble_eq_true rfl⟩) rfl hl.1 rfl (Nat.le_of_ble_eq_true rfl) dX13_badBeans_90 ⟨Nat.zero_le _, Nat.zero_le _⟩ hK hP hD hS hA (fun r_18 u_19 H locs hw hP hD hS => ?_)
            obtain ⟨hr_18, fP_r_18, rfl⟩ := hw
            have hP : va_P (dC, dI) vwCl (mW h0 ad cid sg gm lg) H := hP
            have hD : va_D A (mW h0 ad cid sg gm lg) := hD
            refine lv_iconst (v := (-1)) hx hb dX13_badBeans_93 (by decide) ?_
            refine lv_icmp_eq (tgt := 110) hx hb dX13_badBeans_94 (by decide) (fun c_20 => ?_) (fun c_20 => ?_)
            · have h_21 : iv (-1) (-1) r_18 := iv_eq c_20 hr_18 (iv_k (by decide) : iv (-1) (-1) (-1)) (by decide)
              exact hj110 y0_61 hy0_61 hsx1_61 _ _ _ hP hD hS (lv_sub hl [0, 1, 2] rfl)
            · have h_22 : iv 0 79 r_18 := iv_neL c_20 hr_18 (by decide)
              refine lv_aload_n hx hb dX13_badBeans_97 rfl (lv_at hl 2 rfl) ?_
              refine lv_aload_n hx hb dX13_badBeans_98 rfl (lv_at hl 2 rfl) ?_
              refine mr_get (v := .ref (ad 43)) hx hb htb inX13 hown hK hP 43 (by decide) (htb _ kw_197) rfl dX13_badBeans_99 ?_
              refine lv_iload_n hx hb dX13_badBeans_102 rfl (lv_at hl 1 rfl) ?_
              refine mr_iald hx hb hK hP 34 (k := 43) rfl rfl rfl (show vp_in x1_2 80 from (iv_in hsx1_61 (by decide))) dX13_badBeans_103 ?_
              refine lv_topi (fun z_23 ez_23 => ?_)
              obtain rfl : z_17 = z_23 := ez_17.trans ez_23.symm
              refine mr_calli (rest := []) ⟨hx, hb, hml, hown, htb⟩ (f_comesToItself l dC dI h0 ad cid sg gm lg z_17 hI hz_17) (cwV 1 htb (gd_V kw_955 kw_956 kw_957 kw_5 kw_1555) rfl rfl rfl (by decide +kernel) ⟨Nat.le_of_ble_eq_true rfl, Nat.le_of_ble_eq_true rfl⟩) rfl hl.1 rfl (Nat.le_of_ble_eq_true rfl) dX13_badBeans_104 ⟨Nat.zero_le _, Nat.zero_le _⟩ hK hP hD hS hA (fun r_24 u_25 H locs hw hP hD hS => ?_)
              obtain ⟨hr_24, fC_r_24, rfl⟩ := hw
              have hP : va_P (dC, dI) vwCl (mW h0 ad cid sg gm lg) H := hP
              have hD : va_D A (mW h0 ad cid sg gm lg) := hD
              refine lv_if_eq (tgt := 114) hx hb dX13_badBeans_107 (by decide) (fun c_26 => ?_) (fun c_26 => ?_)
              · have h_27 : iv 0 0 r_24 := iv_eq c_26 hr_24 (iv_k (by decide) : iv 0 0 0) (by decide)
                exact hj114 y0_61 hy0_61 hsx1_61 (fun q9 => Or.inr (by rw [← ez_17]; exact fC_r_24.resolve_left (fun q8 => q8 (congrArg Int32.toInt c_26)))) _ _ _ hP hD hS (lv_sub hl [0, 1, 2] rfl)
              · have h_28 : iv 1 1 r_24 := iv_neL c_26 hr_24 (by decide)
                exact hj110 y0_61 hy0_61 hsx1_61 _ _ _ hP hD hS (lv_sub hl [0, 1, 2] rfl)
      have hj60 : ∀ (_ : iv 1 79 x1_2) (H : Heap) (locs : List Loc) (ls : Array Slot), va_P (dC, dI) vwCl (mW h0 ad cid sg gm lg) H → va_D A (mW h0 ad cid sg gm lg) → va_S A s.heap H locs → lv_has ls 4 [(1, .int x1_2), (0, .ref h0)] → W p l e (headSpec wm_X13_badBeans ({ frames := 5, cells := 0, slots := 0, locals := 118 })).room s m ([.ref h0] : List Value).toArray below meth c H locs 0 0 (MQ below (va_Qi (fun r v => (iv (-1) 79 r) ∧ (0 ≤ r.toInt ∨ BBE sg gm lg) ∧ v = (sg, gm, lg)) (MB dC dI h0 ad cid A) A) ([.ref h0] : List Value).toArray s 0 0 A) (F0 m 60 ls []) := by
        intro  hsx1_60 H locs ls hP hD hS hl
        refine lv_iconst (v := 0) hx hb dX13_badBeans_60 (by decide) ?_
        exact hj61 0 hsx1_60 (iv_w (iv_k (by decide) : iv 0 0 0) (by decide)) _ _ _ hP hD hS (lv_sub hl [0, 1] rfl)
      have hj50 : ∀ (y0_50 : Int64) (_ : iv 1 79 x1_2) (_ : iv 1 79 x1_2) (H : Heap) (locs : List Loc) (ls : Array Slot), va_P (dC, dI) vwCl (mW h0 ad cid sg gm lg) H → va_D A (mW h0 ad cid sg gm lg) → va_S A s.heap H locs → lv_has ls 4 [(1, .int x1_2), (0, .ref h0)] → W p l e (headSpec wm_X13_badBeans ({ frames := 5, cells := 0, slots := 0, locals := 118 })).room s m ([.ref h0] : List Value).toArray below meth c H locs 0 0 (MQ below (va_Qi (fun r v => (iv (-1) 79 r) ∧ (0 ≤ r.toInt ∨ BBE sg gm lg) ∧ v = (sg, gm, lg)) (MB dC dI h0 ad cid A) A) ([.ref h0] : List Value).toArray s 0 0 A) (F0 m 50 ls [.long y0_50, .int x1_2, .ref h0]) := by
        intro y0_50 hsx1_50 hsy1_50 H locs ls hP hD hS hl
        refine mr_calli (rest := []) ⟨hx, hb, hml, hown, htb⟩ (a_isUsed l dC dI h0 ad cid sg gm lg x1_2 y0_50 hI (iv_w hsy1_50 (by decide))) (cwV 2 htb (gd_V kw_946 kw_947 kw_948 kw_5 kw_1552) rfl rfl rfl (by decide +kernel) ⟨Nat.le_of_ble_eq_true rfl, Nat.le_of_ble_eq_true rfl⟩) rfl hl.1 rfl (Nat.le_of_ble_eq_true rfl) dX13_badBeans_50 ⟨Nat.zero_le _, Nat.zero_le _⟩ hK hP hD hS hA (fun r_29 u_30 H locs hw hP hD hS => ?_)
        obtain ⟨hr_29, rfl⟩ := hw
        have hP : va_P (dC, dI) vwCl (mW h0 ad cid sg gm lg) H := hP
        have hD : va_D A (mW h0 ad cid sg gm lg) := hD
        refine lv_if_eq (tgt := 60) hx hb dX13_badBeans_53 (by decide) (fun c_31 => ?_) (fun c_31 => ?_)
        · have h_32 : iv 0 0 r_29 := iv_eq c_31 hr_29 (iv_k (by decide) : iv 0 0 0) (by decide)
          exact hj60 hsy1_50 _ _ _ hP hD hS (lv_sub hl [0, 1] rfl)
        · have h_33 : iv 1 1 r_29 := iv_neL c_31 hr_29 (by decide)
          refine lv_iconst (v := 1) hx hb dX13_badBeans_56 (by decide) ?_
          refine lv_goto (tgt := 61) hx hb dX13_badBeans_57 (by decide) ?_
          exact hj61 1 hsy1_50 (iv_w (iv_k (by decide) : iv 1 1 1) (by decide)) _ _ _ hP hD hS (lv_sub hl [0, 1] rfl)
      refine lv_iload_n hx hb dX13_badBeans_2 rfl (lv_at hl 0 rfl) ?_
      refine lv_aload_n hx hb dX13_badBeans_3 rfl (lv_at hl 1 rfl) ?_
      refine mr_get (v := .int (sg 24)) hx hb htb inX13 hown hK hP 24 (by decide) (htb _ kw_815) rfl dX13_badBeans_4 ?_
      refine lv_icmp_ge (tgt := 132) hx hb dX13_badBeans_7 (by decide) (fun c_34 => ?_) (fun c_34 => ?_)
      · have d_35 : ((sg 24) : Int32).toInt ≤ (x1_2 : Int32).toInt := Int32.le_iff_toInt_le.mp c_34
        refine lv_iconst (v := (-1)) hx hb dX13_badBeans_132 (by decide) ?_
        exact W.iret (v := (-1)) hx hb hr (fun t ht hW => ⟨⟨(-1), (sg, gm, lg), rfl, ⟨(iv_w (iv_k (by decide) : iv (-1) (-1) (-1)) (by decide)), (Or.inr (fun k9 h8 h9 => hbb k9 h8 (by have := le_cl (show iv 0 80 (sg 24) from MI_s hI 24) hx1_2 (by decide) (by decide) (by have := i32_0; have := i32_1; have := i32_2; have := i32_m1; have := (show iv 0 80 (sg 24) from MI_s hI 24).1; have := (show iv 0 80 (sg 24) from MI_s hI 24).2; have := (hx1_2).1; have := (hx1_2).2; have := ((show iv 0 80 (sg 24) from MI_s hI 24)).1; have := ((show iv 0 80 (sg 24) from MI_s hI 24)).2; omega); omega))), rfl⟩, by rw [ht]; exact hP, va_K.moved hW.alike hK, hD⟩, hS.F ht⟩) hS.2.2 dX13_badBeans_133
      · have d_36 : (x1_2 : Int32).toInt < ((sg 24) : Int32).toInt := Int32.lt_iff_toInt_lt.mp (i32_lt c_34)
        have h_37 : iv 1 79 x1_2 := iv_ltL (i32_lt c_34) hx1_2 (show iv 0 80 (sg 24) from MI_s hI 24) (by decide)
        have h_38 : iv 2 80 (sg 24) := iv_ltR (i32_lt c_34) hx1_2 (show iv 0 80 (sg 24) from MI_s hI 24) (by decide)
        refine lv_aload_n hx hb dX13_badBeans_10 rfl (lv_at hl 1 rfl) ?_
        refine mr_get (v := .ref (ad 28)) hx hb htb inX13 hown hK hP 28 (by decide) (htb _ kw_184) rfl dX13_badBeans_11 ?_
        refine lv_iload_n hx hb dX13_badBeans_14 rfl (lv_at hl 0 rfl) ?_
        refine mr_iald hx hb hK hP 21 (k := 28) rfl rfl rfl (show vp_in x1_2 80 from (iv_in h_37 (by decide))) dX13_badBeans_15 ?_
        refine lv_topi (fun z_39 ez_39 => ?_)
        have hz_39 : iv (-1) 79 z_39 := iv_of ez_39 (MI_a hI 28 h_37 (by decide))
        refine lv_if_ne (tgt := 60) hx hb dX13_badBeans_16 (by decide) (fun c_40 => ?_) (fun c_40 => ?_)
        · have d_41 : ¬ (z_39 : Int32).toInt = 0 := lv_neT c_40 rfl
          exact hj60 h_37 _ _ _ hP hD hS (lv_sub hl [0, 1] rfl)
        · have h_42 : iv 0 0 z_39 := iv_eq c_40 hz_39 (iv_k (by decide) : iv 0 0 0) (by decide)
          refine lv_aload_n hx hb dX13_badBeans_19 rfl (lv_at hl 1 rfl) ?_
          refine lv_iload_n hx hb dX13_badBeans_20 rfl (lv_at hl 0 rfl) ?_
          refine lv_aload_n hx hb dX13_badBeans_21 rfl (lv_at hl 1 rfl) ?_
          refine mr_get (v := .ref (ad 26)) hx hb htb inX13 hown hK hP 26 (by decide) (htb _ kw_182) rfl dX13_badBeans_22 ?_
          refine lv_iload_n hx hb dX13_badBeans_25 rfl (lv_at hl 0 rfl) ?_
          refine mr_iald hx hb hK hP 19 (k := 26) rfl rfl rfl (show vp_in x1_2 80 from (iv_in h_37 (by decide))) dX13_badBeans_26 ?_
          refine lv_topi (fun z_43 ez_43 => ?_)
          have hz_43 : iv 0 10 z_43 := iv_of ez_43 (MI_a hI 26 h_37 (by decide))
          refine lv_iconst (v := 3) hx hb dX13_badBeans_27 (by decide) ?_
          refine lv_icmp_ne (tgt := 42) hx hb dX13_badBeans_28 (by decide) (fun c_44 => ?_) (fun c_44 => ?_)
          · have d_45 : ¬ (z_43 : Int32).toInt = 3 := lv_neT c_44 rfl
            refine lv_aload_n hx hb dX13_badBeans_42 rfl (lv_at hl 1 rfl) ?_
            refine lv_iload_n hx hb dX13_badBeans_43 rfl (lv_at hl 0 rfl) ?_
            refine lv_ldc2 (own := RX13) (v := 29807) hx hb hown (htb _ kw_888) dX13_badBeans_44 ?_
            refine mr_calll (rest := [.int x1_2, .ref h0]) ⟨hx, hb, hml, hown, htb⟩ (f_word l dC dI h0 ad cid sg gm lg x1_2 29807 hI (iv_w h_37 (by decide))) (cwV 2 htb (gd_V kw_923 kw_924 kw_925 kw_5 kw_1545) rfl rfl rfl (by decide +kernel) ⟨Nat.le_of_ble_eq_true rfl, Nat.le_of_ble_eq_true rfl⟩) rfl hl.1 rfl (Nat.le_of_ble_eq_true rfl) dX13_badBeans_47 ⟨Nat.zero_le _, Nat.zero_le _⟩ hK hP hD hS hA (fun r_46 u_47 H locs hw hP hD hS => ?_)
            obtain ⟨fW_r_46, rfl⟩ := hw
            have hP : va_P (dC, dI) vwCl (mW h0 ad cid sg gm lg) H := hP
            have hD : va_D A (mW h0 ad cid sg gm lg) := hD
            exact hj50 r_46 h_37 h_37 _ _ _ hP hD hS (lv_sub hl [0, 1] rfl)
          · have h_48 : iv 3 3 z_43 := iv_eq c_44 hz_43 (iv_k (by decide) : iv 3 3 3) (by decide)
            refine lv_aload_n hx hb dX13_badBeans_31 rfl (lv_at hl 1 rfl) ?_
            refine lv_iload_n hx hb dX13_badBeans_32 rfl (lv_at hl 0 rfl) ?_
            refine lv_ldc2 (own := RX13) (v := 26980) hx hb hown (htb _ kw_899) dX13_badBeans_33 ?_
            refine mr_calll (rest := [.int x1_2, .ref h0]) ⟨hx, hb, hml, hown, htb⟩ (f_word l dC dI h0 ad cid sg gm lg x1_2 26980 hI (iv_w h_37 (by decide))) (cwV 2 htb (gd_V kw_923 kw_924 kw_925 kw_5 kw_1545) rfl rfl rfl (by decide +kernel) ⟨Nat.le_of_ble_eq_true rfl, Nat.le_of_ble_eq_true rfl⟩) rfl hl.1 rfl (Nat.le_of_ble_eq_true rfl) dX13_badBeans_36 ⟨Nat.zero_le _, Nat.zero_le _⟩ hK hP hD hS hA (fun r_49 u_50 H locs hw hP hD hS => ?_)
            obtain ⟨fW_r_49, rfl⟩ := hw
            have hP : va_P (dC, dI) vwCl (mW h0 ad cid sg gm lg) H := hP
            have hD : va_D A (mW h0 ad cid sg gm lg) := hD
            refine lv_goto (tgt := 50) hx hb dX13_badBeans_39 (by decide) ?_
            exact hj50 r_49 h_37 h_37 _ _ _ hP hD hS (lv_sub hl [0, 1] rfl)
  refine lv_iconst (v := 1) hx hb dX13_badBeans_0 (by decide) ?_
  refine lv_istore_n (lv' := [(1, .int 1), (0, .ref h0)]) hx hb dX13_badBeans_1 rfl hl (by decide) rfl (fun ls hl => ?_)
  exact hj2 _ 1 rfl (iv_w (iv_k (by decide) : iv 1 1 1) (by decide)) (fun k9 h8 h9 => by have : (1 : Int32).toNatClampNeg = 1 := rfl; omega) _ _ _ hP hD hS (lv_sub hl [0, 1] rfl)
