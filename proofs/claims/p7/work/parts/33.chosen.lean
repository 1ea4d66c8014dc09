set_option maxHeartbeats 4000000 in
set_option maxRecDepth 100000 in
theorem f_sum9 (l : Launch) (dC : Nat → ClassId) (dI : Nat → Nat → Nat) (h0 : Nat) (ad : Nat → Nat) (cid : Nat → ClassId) (sg : Nat → Int32) (gm : Nat → Nat → Int32) (lg : Nat → Nat → Int64) (b : Int32) (nx : Int32) (ba : Int32) (hI : MI sg gm) (hvb : iv 0 79 b) (hvnx : iv 0 3 nx) (hvba : iv 0 93 ba) (hbl : b.toInt < (sg 41).toInt) (hac : ACY sg gm lg) (hst : STR sg gm lg) (hPR : PR gm) (hva : VAL gm) (hh1 : 1 ≤ (sg 63).toInt) : MMi l dC dI yX13_sum wm_X13_sum ({ frames := 7, cells := 0, slots := 0, locals := 167 }) h0 ad cid [.int b, .int nx, .ref (ad 9), .int ba] sg gm lg (fun r v => ∃ (sg2 : Nat → Int32) (gm2 : Nat → Nat → Int32) (lg2 : Nat → Nat → Int64), v = (sg2, gm2, lg2) ∧ MI sg2 gm2 ∧ KS [] sg sg2 ∧ KS [75] gm gm2 ∧ KS [] lg lg2 ∧ (r = -1 ∨ ARGN sg gm lg b nx.toNatClampNeg)) := by
  intro sz
  refine Met.ofW (cc := cX13_sum) (maxL := 11) (ret := (some .int)) (by decide) rfl ?_
  intro p e s m args below meth c s₁ B hml hv
  obtain ⟨rfl, hsz, hP, hK, hD0⟩ := hv
  have hx := B.exec
  have hb := B.bytes
  have hr := B.returns
  have hts := atoms_spec (ws := wm_X13_sum) B.pre
  have htb := fun (w : Cond) (h : w ∈ tb) => hts w (List.mem_cons_of_mem _ h)
  have hown : s.vm.findClass RX13 = some m.cls := findClass_of_methodNamed B.named
  have hlocks := B.notSynchronized
  subst hsz
  have hD := hD0.self (sz := s.heap.size)
  generalize hAe : va_A (mW h0 ad cid sg gm lg) s.heap.size = A at hD ⊢
  have hA : ∀ q : Nat, s.heap.size ≤ q → A q := fun q h => by rw [← hAe]; exact Or.inr h
  have hS : va_S A s.heap s.heap [] := va_S.rf
  have hl := lv_entry ([.ref h0, .int b, .int nx, .ref (ad 9), .int ba]) (n := 11) (Nat.le_of_ble_eq_true rfl)
  rw [lg_entry_eq]
  generalize (lg_sl ([.ref h0, .int b, .int nx, .ref (ad 9), .int ba]) ++ List.replicate (11 - (lg_sl ([.ref h0, .int b, .int nx, .ref (ad 9), .int ba])).length) Slot.unset).toArray = ls at hl ⊢
  have hl : lv_has ls 11 [(0, .ref h0), (1, .int b), (2, .int nx), (3, .ref (ad 9)), (4, .int ba)] := hl
  have h63 : iv 1 80 (sg 63) := ⟨hh1, (show iv 0 80 (sg 63) from MI_s hI 63).2⟩
  have hj22 : ∀ (gm_j22 : Nat → Nat → Int32) (x5_22 : Int32) (_ : iv 0 4 x5_22) (_ : iv 0 79 b) (_ : iv 0 3 nx) (_ : iv 0 93 ba) (_ : KS [75] gm gm_j22) (_ : MI sg gm_j22) (H : Heap) (locs : List Loc) (ls : Array Slot), va_P (dC, dI) vwCl (mW h0 ad cid sg gm_j22 lg) H → va_D A (mW h0 ad cid sg gm_j22 lg) → va_S A s.heap H locs → lv_has ls 11 [(5, .int x5_22), (0, .ref h0), (1, .int b), (2, .int nx), (3, .ref (ad 9)), (4, .int ba)] → W p l e (headSpec wm_X13_sum ({ frames := 7, cells := 0, slots := 0, locals := 167 })).room s m ([.ref h0, .int b, .int nx, .ref (ad 9), .int ba] : List Value).toArray below meth c H locs 0 0 (MQ below (va_Qi (fun r v => ∃ (sg2 : Nat → Int32) (gm2 : Nat → Nat → Int32) (lg2 : Nat → Nat → Int64), v = (sg2, gm2, lg2) ∧ MI sg2 gm2 ∧ KS [] sg sg2 ∧ KS [75] gm gm2 ∧ KS [] lg lg2 ∧ (r = -1 ∨ ARGN sg gm lg b nx.toNatClampNeg)) (MB dC dI h0 ad cid A) A) ([.ref h0, .int b, .int nx, .ref (ad 9), .int ba] : List Value).toArray s 0 0 A) (F0 m 22 ls []) := by
    intro gm_j22 x5_22 hx5_22 hsx1_22 hsx2_22 hsx4_22 hkg_j22 hI_j22 H locs ls hP hD hS hl
    refine lv_iconst (v := (-1)) hx hb dX13_sum_22 (by decide) ?_
    exact W.iret (v := (-1)) hx hb hr (fun t ht hW => ⟨⟨(-1), (sg, gm_j22, lg), rfl, ⟨sg, gm_j22, lg, rfl, hI_j22, KS_rf, (KS_tr (L := [75]) KS_rf hkg_j22 (by decide)), KS_rf, (Or.inl rfl)⟩, by rw [ht]; exact hP, va_K.moved hW.alike hK, hD⟩, hS.F ht⟩) hS.2.2 dX13_sum_23
  have hj30 : ∀ (n : Nat) (gm_j30 : Nat → Nat → Int32) (x7_30 : Int32) (x6_30 : Int32) (x5_30 : Int32) (_ : (3 - x7_30.toInt).toNat = n) (_ : iv 0 3 x7_30) (_ : iv 0 3 x5_30) (_ : iv 0 79 b) (_ : iv 0 3 nx) (_ : iv 0 93 ba) (_ : KS [75] gm gm_j30) (_ : MI sg gm_j30) (_ : SPF (gm_j30 75) nx.toNatClampNeg) (_ : ARGN sg gm lg b nx.toNatClampNeg) (H : Heap) (locs : List Loc) (ls : Array Slot), va_P (dC, dI) vwCl (mW h0 ad cid sg gm_j30 lg) H → va_D A (mW h0 ad cid sg gm_j30 lg) → va_S A s.heap H locs → lv_has ls 11 [(7, .int x7_30), (6, .int x6_30), (5, .int x5_30), (0, .ref h0), (1, .int b), (2, .int nx), (3, .ref (ad 9)), (4, .int ba)] → W p l e (headSpec wm_X13_sum ({ frames := 7, cells := 0, slots := 0, locals := 167 })).room s m ([.ref h0, .int b, .int nx, .ref (ad 9), .int ba] : List Value).toArray below meth c H locs 0 0 (MQ below (va_Qi (fun r v => ∃ (sg2 : Nat → Int32) (gm2 : Nat → Nat → Int32) (lg2 : Nat → Nat → Int64), v = (sg2, gm2, lg2) ∧ MI sg2 gm2 ∧ KS [] sg sg2 ∧ KS [75] gm gm2 ∧ KS [] lg lg2 ∧ (r = -1 ∨ ARGN sg gm lg b nx.toNatClampNeg)) (MB dC dI h0 ad cid A) A) ([.ref h0, .int b, .int nx, .ref (ad 9), .int ba] : List Value).toArray s 0 0 A) (F0 m 30 ls []) := by
    intro n
    induction n using Nat.strongRecOn with
    | ind n ih30 =>
      intro gm_j30 x7_30 x6_30 x5_30 hn30 hx7_30 hx5_30 hsx1_30 hsx2_30 hsx4_30 hkg_j30 hI_j30 hSPF hAN H locs ls hP hD hS hl
      have hj119 : ∀ (gm_j119 : Nat → Nat → Int32) (x9_119 : Int32) (x8_119 : Int32) (y0_119 : Int32) (_ : iv (-1) 15 x9_119) (_ : iv 0 397 x8_119) (_ : iv 0 2 x7_30) (_ : iv 0 3 x5_30) (_ : iv 0 79 b) (_ : iv 1 3 nx) (_ : iv 0 93 ba) (_ : KS [75] gm gm_j119) (_ : MI sg gm_j119) (_ : SPF (gm_j119 75) nx.toNatClampNeg) (_ : x7_30.toInt < nx.toInt) (H : Heap) (locs : List Loc) (ls : Array Slot), va_P (dC, dI) vwCl (mW h0 ad cid sg gm_j119 lg) H → va_D A (mW h0 ad cid sg gm_j119 lg) → va_S A s.heap H locs → lv_has ls 11 [(9, .int x9_119), (8, .int x8_119), (7, .int x7_30), (6, .int x6_30), (5, .int x5_30), (0, .ref h0), (1, .int b), (2, .int nx), (3, .ref (ad 9)), (4, .int ba)] → W p l e (headSpec wm_X13_sum ({ frames := 7, cells := 0, slots := 0, locals := 167 })).room s m ([.ref h0, .int b, .int nx, .ref (ad 9), .int ba] : List Value).toArray below meth c H locs 0 0 (MQ below (va_Qi (fun r v => ∃ (sg2 : Nat → Int32) (gm2 : Nat → Nat → Int32) (lg2 : Nat → Nat → Int64), v = (sg2, gm2, lg2) ∧ MI sg2 gm2 ∧ KS [] sg sg2 ∧ KS [75] gm gm2 ∧ KS [] lg lg2 ∧ (r = -1 ∨ ARGN sg gm lg b nx.toNatClampNeg)) (MB dC dI h0 ad cid A) A) ([.ref h0, .int b, .int nx, .ref (ad 9), .int ba] : List Value).toArray s 0 0 A) (F0 m 119 ls [.int y0_119]) := by
        intro gm_j119 x9_119 x8_119 y0_119 hx9_119 hx8_119 hsx7_119 hsx5_119 hsx1_119 hsx2_119 hsx4_119 hkg_j119 hI_j119 hSPF hl7 H locs ls hP hD hS hl
        refine lv_istore (lv' := [(10, .int y0_119), (9, .int x9_119), (8, .int x8_119), (7, .int x7_30), (6, .int x6_30), (5, .int x5_30), (0, .ref h0), (1, .int b), (2, .int nx), (3, .ref (ad 9)), (4, .int ba)]) hx hb dX13_sum_119 hl (by decide) rfl (fun ls hl => ?_)
        refine lv_iload hx hb dX13_sum_121 (lv_at hl 0 rfl) ?_
        refine lv_iconst (v := (-1)) hx hb dX13_sum_123 (by decide) ?_
        refine lv_icmp_ne (tgt := 129) hx hb dX13_sum_124 (by decide) (fun c_1 => ?_) (fun c_1 => ?_)
        · have d_2 : ¬ (y0_119 : Int32).toInt = (-1) := lv_neT c_1 rfl
          refine lv_iload hx hb dX13_sum_129 (lv_at hl 4 rfl) ?_
          refine lv_iload hx hb dX13_sum_131 (lv_at hl 0 rfl) ?_
          refine lv_iadd hx hb dX13_sum_133 ?_
          refine lv_topi (fun z_3 ez_3 => ?_)
          refine lv_istore (lv' := [(6, .int z_3), (10, .int y0_119), (9, .int x9_119), (8, .int x8_119), (7, .int x7_30), (5, .int x5_30), (0, .ref h0), (1, .int b), (2, .int nx), (3, .ref (ad 9)), (4, .int ba)]) hx hb dX13_sum_134 hl (by decide) rfl (fun ls hl => ?_)
          obtain ⟨z_4, ez_4⟩ : ∃ z : Int32, z = x7_30 + 1 := ⟨_, rfl⟩
          have hz_4 : iv 1 3 z_4 := iv_of ez_4 (iv_add hsx7_119 (iv_k (by decide) : iv 1 1 1) (by decide))
          have tz_4 : z_4.toInt = x7_30.toInt + 1 := by rw [ez_4]; exact iv_addE hsx7_119 (iv_k (by decide) : iv 1 1 1) (by decide)
          refine lv_iinc (v := z_4) (lv' := [(7, .int z_4), (6, .int z_3), (10, .int y0_119), (9, .int x9_119), (8, .int x8_119), (5, .int x5_30), (0, .ref h0), (1, .int b), (2, .int nx), (3, .ref (ad 9)), (4, .int ba)]) hx hb dX13_sum_136 hl (k := 4) rfl ez_4.symm (by decide) rfl (fun ls hl => ?_)
          refine lv_goto (tgt := 30) hx hb dX13_sum_139 (by decide) ?_
          exact ih30 _ (by rw [← hn30]; exact (iv_meas tz_4 hsx7_119 (by decide))) gm_j119 z_4 z_3 x5_30 rfl (iv_w hz_4 (by decide)) hsx5_119 hsx1_119 (iv_w hsx2_119 (by decide)) hsx4_119 (KS_tr (L := [75]) KS_rf hkg_j119 (by decide)) hI_j119 (hSPF) (hAN) _ _ _ hP hD hS (lv_sub hl [0, 1, 5, 6, 7, 8, 9, 10] rfl)
        · have h_5 : iv (-1) (-1) y0_119 := iv_eq c_1 (iv_all y0_119) (iv_k (by decide) : iv (-1) (-1) (-1)) (by decide)
          refine lv_iconst (v := (-1)) hx hb dX13_sum_127 (by decide) ?_
          exact W.iret (v := (-1)) hx hb hr (fun t ht hW => ⟨⟨(-1), (sg, gm_j119, lg), rfl, ⟨sg, gm_j119, lg, rfl, hI_j119, KS_rf, (KS_tr (L := [75]) KS_rf hkg_j119 (by decide)), KS_rf, (Or.inl rfl)⟩, by rw [ht]; exact hP, va_K.moved hW.alike hK, hD⟩, hS.F ht⟩) hS.2.2 dX13_sum_128
      have hj94 : ∀ (gm_j94 : Nat → Nat → Int32) (x9_94 : Int32) (x8_94 : Int32) (_ : iv (-1) 15 x9_94) (_ : iv 0 397 x8_94) (_ : iv 0 2 x7_30) (_ : iv 0 3 x5_30) (_ : iv 0 79 b) (_ : iv 1 3 nx) (_ : iv 0 93 ba) (_ : KS [75] gm gm_j94) (_ : MI sg gm_j94) (_ : SPF (gm_j94 75) nx.toNatClampNeg) (_ : x7_30.toInt < nx.toInt) (H : Heap) (locs : List Loc) (ls : Array Slot), va_P (dC, dI) vwCl (mW h0 ad cid sg gm_j94 lg) H → va_D A (mW h0 ad cid sg gm_j94 lg) → va_S A s.heap H locs → lv_has ls 11 [(9, .int x9_94), (8, .int x8_94), (7, .int x7_30), (6, .int x6_30), (5, .int x5_30), (0, .ref h0), (1, .int b), (2, .int nx), (3, .ref (ad 9)), (4, .int ba)] → W p l e (headSpec wm_X13_sum ({ frames := 7, cells := 0, slots := 0, locals := 167 })).room s m ([.ref h0, .int b, .int nx, .ref (ad 9), .int ba] : List Value).toArray below meth c H locs 0 0 (MQ below (va_Qi (fun r v => ∃ (sg2 : Nat → Int32) (gm2 : Nat → Nat → Int32) (lg2 : Nat → Nat → Int64), v = (sg2, gm2, lg2) ∧ MI sg2 gm2 ∧ KS [] sg sg2 ∧ KS [75] gm gm2 ∧ KS [] lg lg2 ∧ (r = -1 ∨ ARGN sg gm lg b nx.toNatClampNeg)) (MB dC dI h0 ad cid A) A) ([.ref h0, .int b, .int nx, .ref (ad 9), .int ba] : List Value).toArray s 0 0 A) (F0 m 94 ls []) := by
        intro gm_j94 x9_94 x8_94 hx9_94 hx8_94 hsx7_94 hsx5_94 hsx1_94 hsx2_94 hsx4_94 hkg_j94 hI_j94 hSPF hl7 H locs ls hP hD hS hl
        refine lv_aload_n hx hb dX13_sum_94 rfl (lv_at hl 5 rfl) ?_
        refine lv_aload_n hx hb dX13_sum_95 rfl (lv_at hl 5 rfl) ?_
        refine mr_get (v := .ref (ad 70)) hx hb htb inX13 hown hK hP 70 (by decide) (htb _ kw_219) rfl dX13_sum_96 ?_
        refine lv_iload hx hb dX13_sum_99 (lv_at hl 1 rfl) ?_
        refine mr_iald hx hb hK hP 55 (k := 70) rfl rfl rfl (show vp_in x8_94 405 from (iv_in hx8_94 (by decide))) dX13_sum_101 ?_
        refine lv_topi (fun z_6 ez_6 => ?_)
        have hz_6 : iv 0 3 z_6 := iv_of ez_6 (MI_a hI_j94 70 hx8_94 (by decide))
        have ez_6 := ez_6.trans (congrFun (hkg_j94 70 (by decide)) _)
        refine lv_aload_n hx hb dX13_sum_102 rfl (lv_at hl 5 rfl) ?_
        refine mr_get (v := .ref (ad 71)) hx hb htb inX13 hown hK hP 71 (by decide) (htb _ kw_220) rfl dX13_sum_103 ?_
        refine lv_iload hx hb dX13_sum_106 (lv_at hl 1 rfl) ?_
        refine mr_iald hx hb hK hP 56 (k := 71) rfl rfl rfl (show vp_in x8_94 405 from (iv_in hx8_94 (by decide))) dX13_sum_108 ?_
        refine lv_topi (fun z_7 ez_7 => ?_)
        have hz_7 : iv 0 1079 z_7 := iv_of ez_7 (MI_a hI_j94 71 hx8_94 (by decide))
        have ez_7 := ez_7.trans (congrFun (hkg_j94 71 (by decide)) _)
        refine lv_aload_n hx hb dX13_sum_109 rfl (lv_at hl 8 rfl) ?_
        refine lv_iload hx hb dX13_sum_110 (lv_at hl 9 rfl) ?_
        refine lv_iload hx hb dX13_sum_112 (lv_at hl 2 rfl) ?_
        refine lv_iadd hx hb dX13_sum_114 ?_
        refine lv_topi (fun z_8 ez_8 => ?_)
        have hz_8 : iv 0 95 z_8 := iv_of ez_8 (iv_add hsx4_94 hsx7_94 (by decide))
        have tz_8 : z_8.toInt = (ba : Int32).toInt + (x7_30 : Int32).toInt := by rw [ez_8]; exact iv_addE hsx4_94 hsx7_94 (by decide)
        refine mr_iald hx hb hK hP 8 (k := 9) rfl rfl rfl (show vp_in z_8 96 from (iv_in hz_8 (by decide))) dX13_sum_115 ?_
        refine lv_topi (fun z_9 ez_9 => ?_)
        have ez_9 := ez_9.trans (congrFun (hkg_j94 9 (by decide)) _)
        refine mr_calli (rest := []) ⟨hx, hb, hml, hown, htb⟩ (a_weight l dC dI h0 ad cid sg gm_j94 lg z_6 z_7 z_9 hI_j94 hz_6 hz_7 (VAL_at hva (show iv 0 404 x8_94 from (iv_w hx8_94 (by decide))) ez_6 ez_7) (by have q9 : PR gm := hPR; unfold PR at *; rw [(hkg_j94 6 (by decide))]; exact q9)) (cwV 3 htb (gd_V kw_1226 kw_1227 kw_1228 kw_5 kw_1625) rfl rfl rfl (by decide +kernel) ⟨Nat.le_of_ble_eq_true rfl, Nat.le_of_ble_eq_true rfl⟩) rfl hl.1 rfl (Nat.le_of_ble_eq_true rfl) dX13_sum_116 ⟨Nat.zero_le _, Nat.zero_le _⟩ hK hP hD hS hA (fun r_10 u_11 H locs hw hP hD hS => ?_)
        obtain rfl := hw
        have hP : va_P (dC, dI) vwCl (mW h0 ad cid sg gm_j94 lg) H := hP
        have hD : va_D A (mW h0 ad cid sg gm_j94 lg) := hD
        exact hj119 gm_j94 x9_94 x8_94 r_10 hx9_94 hx8_94 hsx7_94 hsx5_94 hsx1_94 hsx2_94 hsx4_94 (KS_tr (L := [75]) KS_rf hkg_j94 (by decide)) hI_j94 (hSPF) (by have := i32_0; have := i32_1; have := i32_2; have := i32_m1; have := (show iv 0 80 (sg 63) from MI_s hI 63).1; have := (show iv 0 80 (sg 63) from MI_s hI 63).2; have := (hsx1_94).1; have := (hsx1_94).2; have := (hsx2_94).1; have := (hsx2_94).2; have := (hsx4_94).1; have := (hsx4_94).2; have := (h63).1; have := (h63).2; have := (hsx7_94).1; have := (hsx7_94).2; have := (hsx5_94).1; have := (hsx5_94).2; have := (hx9_94).1; have := (hx9_94).2; have := (hx8_94).1; have := (hx8_94).2; have := (hz_6).1; have := (hz_6).2; have := (hz_7).1; have := (hz_7).2; have := (hz_8).1; have := (hz_8).2; omega) _ _ _ hP hD hS (lv_sub hl [0, 1, 2, 3, 4, 5, 6, 7, 8, 9] rfl)
      refine lv_iload hx hb dX13_sum_30 (lv_at hl 0 rfl) ?_
      refine lv_iload_n hx hb dX13_sum_32 rfl (lv_at hl 5 rfl) ?_
      refine lv_icmp_ge (tgt := 142) hx hb dX13_sum_33 (by decide) (fun c_12 => ?_) (fun c_12 => ?_)
      · have d_13 : (nx : Int32).toInt ≤ (x7_30 : Int32).toInt := Int32.le_iff_toInt_le.mp c_12
        refine lv_iload hx hb dX13_sum_142 (lv_at hl 1 rfl) ?_
        exact W.iret (v := x6_30) hx hb hr (fun t ht hW => ⟨⟨x6_30, (sg, gm_j30, lg), rfl, ⟨sg, gm_j30, lg, rfl, hI_j30, KS_rf, (KS_tr (L := [75]) KS_rf hkg_j30 (by decide)), KS_rf, (Or.inr hAN)⟩, by rw [ht]; exact hP, va_K.moved hW.alike hK, hD⟩, hS.F ht⟩) hS.2.2 dX13_sum_144
      · have d_14 : (x7_30 : Int32).toInt < (nx : Int32).toInt := Int32.lt_iff_toInt_lt.mp (i32_lt c_12)
        have h_15 : iv 0 2 x7_30 := iv_ltL (i32_lt c_12) hx7_30 hsx2_30 (by decide)
        have h_16 : iv 1 3 nx := iv_ltR (i32_lt c_12) hx7_30 hsx2_30 (by decide)
        refine lv_iconst (v := 5) hx hb dX13_sum_36 (by decide) ?_
        refine lv_aload_n hx hb dX13_sum_37 rfl (lv_at hl 3 rfl) ?_
        refine mr_get (v := .int (sg 63)) hx hb htb inX13 hown hK hP 63 (by decide) (htb _ kw_1160) rfl dX13_sum_38 ?_
        refine lv_iconst (v := 1) hx hb dX13_sum_41 (by decide) ?_
        refine lv_isub hx hb dX13_sum_42 ?_
        refine lv_topi (fun z_17 ez_17 => ?_)
        have hz_17 : iv 0 79 z_17 := iv_of ez_17 (iv_sub h63 (iv_k (by decide) : iv 1 1 1) (by decide))
        have tz_17 : z_17.toInt = ((sg 63) : Int32).toInt - 1 := by rw [ez_17]; exact iv_subE h63 (iv_k (by decide) : iv 1 1 1) (by decide)
        refine lv_imul hx hb dX13_sum_43 ?_
        refine lv_topi (fun z_18 ez_18 => ?_)
        have hz_18 : iv 0 395 z_18 := iv_of ez_18 (iv_mul (iv_k (by decide) : iv 5 5 5) hz_17 (by decide))
        have tz_18 : z_18.toInt = 5 * (z_17 : Int32).toInt := by rw [ez_18]; exact iv_mulE (iv_k (by decide) : iv 5 5 5) hz_17 (by decide)
        refine lv_aload_n hx hb dX13_sum_44 rfl (lv_at hl 3 rfl) ?_
        refine mr_get (v := .ref (ad 75)) hx hb htb inX13 hown hK hP 75 (by decide) (htb _ kw_223) rfl dX13_sum_45 ?_
        refine lv_iload hx hb dX13_sum_48 (lv_at hl 0 rfl) ?_
        refine mr_iald hx hb hK hP 59 (k := 75) rfl rfl rfl (show vp_in x7_30 4 from (iv_in h_15 (by decide))) dX13_sum_50 ?_
        refine lv_topi (fun z_19 ez_19 => ?_)
        have hz_19 : iv (-1) 3 z_19 := iv_of ez_19 (MI_a hI_j30 75 h_15 (by decide))
        have h_20 : iv 0 2 z_19 := ⟨by have q9 := (hSPF _ (lt_cl h_15 hvnx (by decide) (by decide) (by have := i32_0; have := i32_1; have := i32_2; have := i32_m1; have := (hsx1_30).1; have := (hsx1_30).2; have := (h_16).1; have := (h_16).2; have := (hsx4_30).1; have := (hsx4_30).2; have := (h63).1; have := (h63).2; have := (h_15).1; have := (h_15).2; have := (hx5_30).1; have := (hx5_30).2; have := (hz_17).1; have := (hz_17).2; have := (hz_18).1; have := (hz_18).2; have := (hz_19).1; have := (hz_19).2; omega))).1; rw [← ez_19] at q9; exact q9, by have q9 := (hSPF _ (lt_cl h_15 hvnx (by decide) (by decide) (by have := i32_0; have := i32_1; have := i32_2; have := i32_m1; have := (hsx1_30).1; have := (hsx1_30).2; have := (h_16).1; have := (h_16).2; have := (hsx4_30).1; have := (hsx4_30).2; have := (h63).1; have := (h63).2; have := (h_15).1; have := (h_15).2; have := (hx5_30).1; have := (hx5_30).2; have := (hz_17).1; have := (hz_17).2; have := (hz_18).1; have := (hz_18).2; have := (hz_19).1; have := (hz_19).2; omega))).2; rw [← ez_19] at q9; have := iv_cl hvnx (by decide); have := hvnx.2; omega⟩
        refine lv_iadd hx hb dX13_sum_51 ?_
        refine lv_topi (fun z_21 ez_21 => ?_)
        have hz_21 : iv 0 397 z_21 := iv_of ez_21 (iv_add hz_18 h_20 (by decide))
        have tz_21 : z_21.toInt = (z_18 : Int32).toInt + (z_19 : Int32).toInt := by rw [ez_21]; exact iv_addE hz_18 h_20 (by decide)
        refine lv_istore (lv' := [(8, .int z_21), (7, .int x7_30), (6, .int x6_30), (5, .int x5_30), (0, .ref h0), (1, .int b), (2, .int nx), (3, .ref (ad 9)), (4, .int ba)]) hx hb dX13_sum_52 hl (by decide) rfl (fun ls hl => ?_)
        refine lv_aload_n hx hb dX13_sum_54 rfl (lv_at hl 4 rfl) ?_
        refine lv_aload_n hx hb dX13_sum_55 rfl (lv_at hl 4 rfl) ?_
        refine lv_iload_n hx hb dX13_sum_56 rfl (lv_at hl 5 rfl) ?_
        refine lv_aload_n hx hb dX13_sum_57 rfl (lv_at hl 4 rfl) ?_
        refine mr_get (v := .ref (ad 75)) hx hb htb inX13 hown hK hP 75 (by decide) (htb _ kw_223) rfl dX13_sum_58 ?_
        refine lv_iload hx hb dX13_sum_61 (lv_at hl 1 rfl) ?_
        refine mr_iald hx hb hK hP 59 (k := 75) rfl rfl rfl (show vp_in x7_30 4 from (iv_in h_15 (by decide))) dX13_sum_63 ?_
        refine lv_topi (fun z_22 ez_22 => ?_)
        obtain rfl : z_19 = z_22 := ez_19.trans ez_22.symm
        refine mr_calli (rest := [.ref h0]) ⟨hx, hb, hml, hown, htb⟩ (f_arg l dC dI h0 ad cid sg gm_j30 lg b z_19 hI_j30 hsx1_30 (iv_w h_20 (by decide)) (by have := i32_0; have := i32_1; have := i32_2; have := i32_m1; have := (show iv 0 80 (sg 41) from MI_s hI 41).1; have := (show iv 0 80 (sg 41) from MI_s hI 41).2; have := (hsx1_30).1; have := (hsx1_30).2; have := (h_16).1; have := (h_16).2; have := (hsx4_30).1; have := (hsx4_30).2; have := (h63).1; have := (h63).2; have := (h_15).1; have := (h_15).2; have := (hx5_30).1; have := (hx5_30).2; have := (hz_17).1; have := (hz_17).2; have := (hz_18).1; have := (hz_18).2; have := (h_20).1; have := (h_20).2; have := (hz_21).1; have := (hz_21).2; omega) (ACY_k (DK_of (show KS [] sg sg from KS_rf) (show KS [75] gm gm_j30 from (KS_tr (L := [75]) KS_rf hkg_j30 (by decide))) (show KS [] lg lg from KS_rf) (by decide) (by decide) (by decide)) hac)) (cwV 2 htb (gd_V kw_1177 kw_1178 kw_1179 kw_5 kw_1609) rfl rfl rfl (by decide +kernel) ⟨Nat.le_of_ble_eq_true rfl, Nat.le_of_ble_eq_true rfl⟩) rfl hl.1 rfl (Nat.le_of_ble_eq_true rfl) dX13_sum_64 ⟨Nat.zero_le _, Nat.zero_le _⟩ hK hP hD hS hA (fun r_23 u_24 H locs hw hP hD hS => ?_)
        obtain ⟨hr_23, fR_r_23, rfl⟩ := hw
        have hP : va_P (dC, dI) vwCl (mW h0 ad cid sg gm_j30 lg) H := hP
        have hD : va_D A (mW h0 ad cid sg gm_j30 lg) := hD
        have hz67 : z_19.toNatClampNeg < nx.toNatClampNeg := by have q9 := (hSPF _ (lt_cl h_15 hvnx (by decide) (by decide) (by have := i32_0; have := i32_1; have := i32_2; have := i32_m1; have := (hsx1_30).1; have := (hsx1_30).2; have := (h_16).1; have := (h_16).2; have := (hsx4_30).1; have := (hsx4_30).2; have := (h63).1; have := (h63).2; have := (h_15).1; have := (h_15).2; have := (hx5_30).1; have := (hx5_30).2; have := (hz_17).1; have := (hz_17).2; have := (hz_18).1; have := (hz_18).2; have := (h_20).1; have := (h_20).2; have := (hz_21).1; have := (hz_21).2; have := (hr_23).1; have := (hr_23).2; omega))).2; rw [← ez_19] at q9; have := iv_cl h_20 (by decide); omega
        obtain ⟨hr67, hr68, hr69⟩ := arg_el (show iv 0 80 (sg 24) from MI_s hI 24) (fR_r_23.trans (mArg_k (DK_of (show KS [] sg sg from KS_rf) (show KS [75] gm gm_j30 from (KS_tr (L := [75]) KS_rf hkg_j30 (by decide))) (show KS [] lg lg from KS_rf) (by decide) (by decide) (by decide)) _ _)) (hAN _ (Nat.zero_le _) hz67)
        refine mr_calli (rest := []) ⟨hx, hb, hml, hown, htb⟩ (a_typeIn l dC dI h0 ad cid sg gm_j30 lg r_23 hI_j30 hr67) (cwV 1 htb (gd_V kw_940 kw_941 kw_942 kw_5 kw_1550) rfl rfl rfl (by decide +kernel) ⟨Nat.le_of_ble_eq_true rfl, Nat.le_of_ble_eq_true rfl⟩) rfl hl.1 rfl (Nat.le_of_ble_eq_true rfl) dX13_sum_67 ⟨Nat.zero_le _, Nat.zero_le _⟩ hK hP hD hS hA (fun r_25 u_26 H locs hw hP hD hS => ?_)
        obtain ⟨hr_25, rfl⟩ := hw
        have hP : va_P (dC, dI) vwCl (mW h0 ad cid sg gm_j30 lg) H := hP
        have hD : va_D A (mW h0 ad cid sg gm_j30 lg) := hD
        refine lv_istore (lv' := [(9, .int r_25), (8, .int z_21), (7, .int x7_30), (6, .int x6_30), (5, .int x5_30), (0, .ref h0), (1, .int b), (2, .int nx), (3, .ref (ad 9)), (4, .int ba)]) hx hb dX13_sum_70 hl (by decide) rfl (fun ls hl => ?_)
        refine lv_iload hx hb dX13_sum_72 (lv_at hl 0 rfl) ?_
        refine lv_iconst (v := (-1)) hx hb dX13_sum_74 (by decide) ?_
        refine lv_icmp_eq (tgt := 94) hx hb dX13_sum_75 (by decide) (fun c_27 => ?_) (fun c_27 => ?_)
        · have h_28 : iv (-1) (-1) r_25 := iv_eq c_27 hr_25 (iv_k (by decide) : iv (-1) (-1) (-1)) (by decide)
          exact hj94 gm_j30 r_25 z_21 (iv_w h_28 (by decide)) hz_21 h_15 hx5_30 hsx1_30 h_16 hsx4_30 (KS_tr (L := [75]) KS_rf hkg_j30 (by decide)) hI_j30 (hSPF) (by have := i32_0; have := i32_1; have := i32_2; have := i32_m1; have := (show iv 0 80 (sg 63) from MI_s hI 63).1; have := (show iv 0 80 (sg 63) from MI_s hI 63).2; have := (hsx1_30).1; have := (hsx1_30).2; have := (h_16).1; have := (h_16).2; have := (hsx4_30).1; have := (hsx4_30).2; have := (h63).1; have := (h63).2; have := (h_15).1; have := (h_15).2; have := (hx5_30).1; have := (hx5_30).2; have := (hz_17).1; have := (hz_17).2; have := (hz_18).1; have := (hz_18).2; have := (h_20).1; have := (h_20).2; have := (hz_21).1; have := (hz_21).2; have := (hr67).1; have := (hr67).2; have := (h_28).1; have := (h_28).2; omega) _ _ _ hP hD hS (lv_sub hl [0, 1, 2, 3, 4, 5, 6, 7, 8, 9] rfl)
        · have h_29 : iv 0 15 r_25 := iv_neL c_27 hr_25 (by decide)
          refine lv_iload hx hb dX13_sum_78 (lv_at hl 0 rfl) ?_
          refine lv_aload_n hx hb dX13_sum_80 rfl (lv_at hl 8 rfl) ?_
          refine lv_iload hx hb dX13_sum_81 (lv_at hl 9 rfl) ?_
          refine lv_iload hx hb dX13_sum_83 (lv_at hl 2 rfl) ?_
          refine lv_iadd hx hb dX13_sum_85 ?_
          refine lv_topi (fun z_30 ez_30 => ?_)
          have hz_30 : iv 0 95 z_30 := iv_of ez_30 (iv_add hsx4_30 h_15 (by decide))
          have tz_30 : z_30.toInt = (ba : Int32).toInt + (x7_30 : Int32).toInt := by rw [ez_30]; exact iv_addE hsx4_30 h_15 (by decide)
          refine mr_iald hx hb hK hP 8 (k := 9) rfl rfl rfl (show vp_in z_30 96 from (iv_in hz_30 (by decide))) dX13_sum_86 ?_
          refine lv_topi (fun z_31 ez_31 => ?_)
          have ez_31 := ez_31.trans (congrFun (hkg_j30 9 (by decide)) _)
          refine lv_icmp_eq (tgt := 94) hx hb dX13_sum_87 (by decide) (fun c_32 => ?_) (fun c_32 => ?_)
          · have d_33 : (r_25 : Int32).toInt = (z_31 : Int32).toInt := congrArg Int32.toInt c_32
            have h_34 : iv 0 15 z_31 := iv_eq (Eq.symm c_32) (iv_all z_31) h_29 (by decide)
            exact hj94 gm_j30 r_25 z_21 (iv_w h_29 (by decide)) hz_21 h_15 hx5_30 hsx1_30 h_16 hsx4_30 (KS_tr (L := [75]) KS_rf hkg_j30 (by decide)) hI_j30 (hSPF) (by have := i32_0; have := i32_1; have := i32_2; have := i32_m1; have := (show iv 0 80 (sg 63) from MI_s hI 63).1; have := (show iv 0 80 (sg 63) from MI_s hI 63).2; have := (hsx1_30).1; have := (hsx1_30).2; have := (h_16).1; have := (h_16).2; have := (hsx4_30).1; have := (hsx4_30).2; have := (h63).1; have := (h63).2; have := (h_15).1; have := (h_15).2; have := (hx5_30).1; have := (hx5_30).2; have := (hz_17).1; have := (hz_17).2; have := (hz_18).1; have := (hz_18).2; have := (h_20).1; have := (h_20).2; have := (hz_21).1; have := (hz_21).2; have := (hr67).1; have := (hr67).2; have := (h_29).1; have := (h_29).2; have := (hz_30).1; have := (hz_30).2; have := (h_34).1; have := (h_34).2; omega) _ _ _ hP hD hS (lv_sub hl [0, 1, 2, 3, 4, 5, 6, 7, 8, 9] rfl)
          · refine lv_iconst (v := (-1)) hx hb dX13_sum_90 (by decide) ?_
            refine lv_goto (tgt := 119) hx hb dX13_sum_91 (by decide) ?_
            exact hj119 gm_j30 r_25 z_21 (-1) (iv_w h_29 (by decide)) hz_21 h_15 hx5_30 hsx1_30 h_16 hsx4_30 (KS_tr (L := [75]) KS_rf hkg_j30 (by decide)) hI_j30 (hSPF) (by have := i32_0; have := i32_1; have := i32_2; have := i32_m1; have := (show iv 0 80 (sg 63) from MI_s hI 63).1; have := (show iv 0 80 (sg 63) from MI_s hI 63).2; have := (hsx1_30).1; have := (hsx1_30).2; have := (h_16).1; have := (h_16).2; have := (hsx4_30).1; have := (hsx4_30).2; have := (h63).1; have := (h63).2; have := (h_15).1; have := (h_15).2; have := (hx5_30).1; have := (hx5_30).2; have := (hz_17).1; have := (hz_17).2; have := (hz_18).1; have := (hz_18).2; have := (h_20).1; have := (h_20).2; have := (hz_21).1; have := (hz_21).2; have := (hr67).1; have := (hr67).2; have := (h_29).1; have := (h_29).2; have := (hz_30).1; have := (hz_30).2; omega) _ _ _ hP hD hS (lv_sub hl [0, 1, 2, 3, 4, 5, 6, 7, 8, 9] rfl)
  refine lv_aload_n hx hb dX13_sum_0 rfl (lv_at hl 0 rfl) ?_
  refine lv_iload_n hx hb dX13_sum_1 rfl (lv_at hl 1 rfl) ?_
  refine mr_calli (rest := []) ⟨hx, hb, hml, hown, htb⟩ (f_args l dC dI h0 ad cid sg gm lg b hI hvb (by have := i32_0; have := i32_1; have := i32_2; have := i32_m1; have := (show iv 0 80 (sg 41) from MI_s hI 41).1; have := (show iv 0 80 (sg 41) from MI_s hI 41).2; have := (hvb).1; have := (hvb).2; have := (hvnx).1; have := (hvnx).2; have := (hvba).1; have := (hvba).2; have := (h63).1; have := (h63).2; omega) (ACY_k (DK_of (show KS [] sg sg from KS_rf) (show KS [] gm gm from KS_rf) (show KS [] lg lg from KS_rf) (by decide) (by decide) (by decide)) hac) (STR_k (DK_of (show KS [] sg sg from KS_rf) (show KS [] gm gm from KS_rf) (show KS [] lg lg from KS_rf) (by decide) (by decide) (by decide)).1 hst)) (cwV 1 htb (gd_V kw_1189 kw_1190 kw_1191 kw_5 kw_1613) rfl rfl rfl (by decide +kernel) ⟨Nat.le_of_ble_eq_true rfl, Nat.le_of_ble_eq_true rfl⟩) rfl hl.1 rfl (Nat.le_of_ble_eq_true rfl) dX13_sum_2 ⟨Nat.zero_le _, Nat.zero_le _⟩ hK hP hD hS hA (fun r_35 u_36 H locs hw hP hD hS => ?_)
  obtain ⟨hr_35, fAa_r_35, fAz_r_35, rfl⟩ := hw
  have hP : va_P (dC, dI) vwCl (mW h0 ad cid sg gm lg) H := hP
  have hD : va_D A (mW h0 ad cid sg gm lg) := hD
  refine lv_istore (lv' := [(5, .int r_35), (0, .ref h0), (1, .int b), (2, .int nx), (3, .ref (ad 9)), (4, .int ba)]) hx hb dX13_sum_5 hl (by decide) rfl (fun ls hl => ?_)
  refine lv_iload hx hb dX13_sum_7 (lv_at hl 0 rfl) ?_
  refine lv_iload_n hx hb dX13_sum_9 rfl (lv_at hl 3 rfl) ?_
  refine lv_icmp_ne (tgt := 22) hx hb dX13_sum_10 (by decide) (fun c_37 => ?_) (fun c_37 => ?_)
  · exact hj22 gm r_35 hr_35 hvb hvnx hvba KS_rf hI _ _ _ hP hD hS (lv_sub hl [0, 1, 2, 3, 4, 5] rfl)
  · have d_38 : (r_35 : Int32).toInt = (nx : Int32).toInt := congrArg Int32.toInt c_37
    have h_39 : iv 0 3 r_35 := iv_eq c_37 hr_35 hvnx (by decide)
    have hAN : ARGN sg gm lg b nx.toNatClampNeg := by have q9 := fAa_r_35; rw [c_37] at q9; exact q9
    refine lv_aload_n hx hb dX13_sum_13 rfl (lv_at hl 1 rfl) ?_
    refine lv_iload_n hx hb dX13_sum_14 rfl (lv_at hl 2 rfl) ?_
    refine lv_iload_n hx hb dX13_sum_15 rfl (lv_at hl 3 rfl) ?_
    refine mr_calli (rest := []) ⟨hx, hb, hml, hown, htb⟩ (f_placed l dC dI h0 ad cid sg gm lg b nx hI hvb hvnx (by have := i32_0; have := i32_1; have := i32_2; have := i32_m1; have := (show iv 0 80 (sg 41) from MI_s hI 41).1; have := (show iv 0 80 (sg 41) from MI_s hI 41).2; have := (hvb).1; have := (hvb).2; have := (hvnx).1; have := (hvnx).2; have := (hvba).1; have := (hvba).2; have := (h63).1; have := (h63).2; have := (h_39).1; have := (h_39).2; omega) (ACY_k (DK_of (show KS [] sg sg from KS_rf) (show KS [] gm gm from KS_rf) (show KS [] lg lg from KS_rf) (by decide) (by decide) (by decide)) hac) (STR_k (DK_of (show KS [] sg sg from KS_rf) (show KS [] gm gm from KS_rf) (show KS [] lg lg from KS_rf) (by decide) (by decide) (by decide)).1 hst) hAN) (cwV 2 htb (gd_V kw_1223 kw_1224 kw_1225 kw_5 kw_1624) rfl rfl rfl (by decide +kernel) ⟨Nat.le_of_ble_eq_true rfl, Nat.le_of_ble_eq_true rfl⟩) rfl hl.1 rfl (Nat.le_of_ble_eq_true rfl) dX13_sum_16 ⟨Nat.zero_le _, Nat.zero_le _⟩ hK hP hD hS hA (fun r_40 u_41 H locs hw hP hD hS => ?_)
    obtain ⟨sgv_42, gmv_42, lgv_42, rfl, hIv_42, ksv_42, kgv_42, klv_42, hr_40, fPl_r_40⟩ := hw
    obtain rfl := KS_nil ksv_42
    obtain rfl := KS_nil klv_42
    have hP : va_P (dC, dI) vwCl (mW h0 ad cid sg gmv_42 lg) H := hP
    have hD : va_D A (mW h0 ad cid sg gmv_42 lg) := hD
    refine lv_if_ne (tgt := 24) hx hb dX13_sum_19 (by decide) (fun c_43 => ?_) (fun c_43 => ?_)
    · have h_44 : iv 1 1 r_40 := iv_neL c_43 hr_40 (by decide)
      refine lv_iconst (v := 0) hx hb dX13_sum_24 (by decide) ?_
      refine lv_istore (lv' := [(6, .int 0), (5, .int r_35), (0, .ref h0), (1, .int b), (2, .int nx), (3, .ref (ad 9)), (4, .int ba)]) hx hb dX13_sum_25 hl (by decide) rfl (fun ls hl => ?_)
      refine lv_iconst (v := 0) hx hb dX13_sum_27 (by decide) ?_
      refine lv_istore (lv' := [(7, .int 0), (6, .int 0), (5, .int r_35), (0, .ref h0), (1, .int b), (2, .int nx), (3, .ref (ad 9)), (4, .int ba)]) hx hb dX13_sum_28 hl (by decide) rfl (fun ls hl => ?_)
      exact hj30 _ gmv_42 0 0 r_35 rfl (iv_w (iv_k (by decide) : iv 0 0 0) (by decide)) h_39 hvb hvnx hvba (KS_tr (L := [75]) KS_rf kgv_42 (by decide)) hIv_42 (fPl_r_40.resolve_left (fun q9 => c_43 (Int32.toInt_inj.mp q9))) (hAN) _ _ _ hP hD hS (lv_sub hl [0, 1, 2, 3, 4, 5, 6, 7] rfl)
    · have h_45 : iv 0 0 r_40 := iv_eq c_43 hr_40 (iv_k (by decide) : iv 0 0 0) (by decide)
      exact hj22 gmv_42 r_35 (iv_w h_39 (by decide)) hvb hvnx hvba (KS_tr (L := [75]) KS_rf kgv_42 (by decide)) hIv_42 _ _ _ hP hD hS (lv_sub hl [0, 1, 2, 3, 4, 5] rfl)

set_option maxHeartbeats 4000000 in
set_option maxRecDepth 100000 in
theorem f_sum17 (l : Launch) (dC : Nat → ClassId) (dI : Nat → Nat → Nat) (h0 : Nat) (ad : Nat → Nat) (cid : Nat → ClassId) (sg : Nat → Int32) (gm : Nat → Nat → Int32) (lg : Nat → Nat → Int64) (b : Int32) (nx : Int32) (ba : Int32) (hI : MI sg gm) (hvb : iv 0 79 b) (hvnx : iv 0 3 nx) (hvba : iv 0 93 ba) (hbl : b.toInt < (sg 41).toInt) (hac : ACY sg gm lg) (hst : STR sg gm lg) (hPR : PR gm) (hva : VAL gm) (hh1 : 1 ≤ (sg 63).toInt) : MMi l dC dI yX13_sum wm_X13_sum ({ frames := 7, cells := 0, slots := 0, locals := 167 }) h0 ad cid [.int b, .int nx, .ref (ad 17), .int ba] sg gm lg (fun r v => ∃ (sg2 : Nat → Int32) (gm2 : Nat → Nat → Int32) (lg2 : Nat → Nat → Int64), v = (sg2, gm2, lg2) ∧ MI sg2 gm2 ∧ KS [] sg sg2 ∧ KS [75] gm gm2 ∧ KS [] lg lg2 ∧ (r = -1 ∨ ARGN sg gm lg b nx.toNatClampNeg)) := by
  intro sz
  refine Met.ofW (cc := cX13_sum) (maxL := 11) (ret := (some .int)) (by decide) rfl ?_
  intro p e s m args below meth c s₁ B hml hv
  obtain ⟨rfl, hsz, hP, hK, hD0⟩ := hv
  have hx := B.exec
  have hb := B.bytes
  have hr := B.returns
  have hts := atoms_spec (ws := wm_X13_sum) B.pre
  have htb := fun (w : Cond) (h : w ∈ tb) => hts w (List.mem_cons_of_mem _ h)
  have hown : s.vm.findClass RX13 = some m.cls := findClass_of_methodNamed B.named
  have hlocks := B.notSynchronized
  subst hsz
  have hD := hD0.self (sz := s.heap.size)
  generalize hAe : va_A (mW h0 ad cid sg gm lg) s.heap.size = A at hD ⊢
  have hA : ∀ q : Nat, s.heap.size ≤ q → A q := fun q h => by rw [← hAe]; exact Or.inr h
  have hS : va_S A s.heap s.heap [] := va_S.rf
  have hl := lv_entry ([.ref h0, .int b, .int nx, .ref (ad 17), .int ba]) (n := 11) (Nat.le_of_ble_eq_true rfl)
  rw [lg_entry_eq]
  generalize (lg_sl ([.ref h0, .int b, .int nx, .ref (ad 17), .int ba]) ++ List.replicate (11 - (lg_sl ([.ref h0, .int b, .int nx, .ref (ad 17), .int ba])).length) Slot.unset).toArray = ls at hl ⊢
  have hl : lv_has ls 11 [(0, .ref h0), (1, .int b), (2, .int nx), (3, .ref (ad 17)), (4, .int ba)] := hl
  have h63 : iv 1 80 (sg 63) := ⟨hh1, (show iv 0 80 (sg 63) from MI_s hI 63).2⟩
  have hj22 : ∀ (gm_j22 : Nat → Nat → Int32) (x5_22 : Int32) (_ : iv 0 4 x5_22) (_ : iv 0 79 b) (_ : iv 0 3 nx) (_ : iv 0 93 ba) (_ : KS [75] gm gm_j22) (_ : MI sg gm_j22) (H : Heap) (locs : List Loc) (ls : Array Slot), va_P (dC, dI) vwCl (mW h0 ad cid sg gm_j22 lg) H → va_D A (mW h0 ad cid sg gm_j22 lg) → va_S A s.heap H locs → lv_has ls 11 [(5, .int x5_22), (0, .ref h0), (1, .int b), (2, .int nx), (3, .ref (ad 17)), (4, .int ba)] → W p l e (headSpec wm_X13_sum ({ frames := 7, cells := 0, slots := 0, locals := 167 })).room s m ([.ref h0, .int b, .int nx, .ref (ad 17), .int ba] : List Value).toArray below meth c H locs 0 0 (MQ below (va_Qi (fun r v => ∃ (sg2 : Nat → Int32) (gm2 : Nat → Nat → Int32) (lg2 : Nat → Nat → Int64), v = (sg2, gm2, lg2) ∧ MI sg2 gm2 ∧ KS [] sg sg2 ∧ KS [75] gm gm2 ∧ KS [] lg lg2 ∧ (r = -1 ∨ ARGN sg gm lg b nx.toNatClampNeg)) (MB dC dI h0 ad cid A) A) ([.ref h0, .int b, .int nx, .ref (ad 17), .int ba] : List Value).toArray s 0 0 A) (F0 m 22 ls []) := by
    intro gm_j22 x5_22 hx5_22 hsx1_22 hsx2_22 hsx4_22 hkg_j22 hI_j22 H locs ls hP hD hS hl
    refine lv_iconst (v := (-1)) hx hb dX13_sum_22 (by decide) ?_
    exact W.iret (v := (-1)) hx hb hr (fun t ht hW => ⟨⟨(-1), (sg, gm_j22, lg), rfl, ⟨sg, gm_j22, lg, rfl, hI_j22, KS_rf, (KS_tr (L := [75]) KS_rf hkg_j22 (by decide)), KS_rf, (Or.inl rfl)⟩, by rw [ht]; exact hP, va_K.moved hW.alike hK, hD⟩, hS.F ht⟩) hS.2.2 dX13_sum_23
  have hj30 : ∀ (n : Nat) (gm_j30 : Nat → Nat → Int32) (x7_30 : Int32) (x6_30 : Int32) (x5_30 : Int32) (_ : (3 - x7_30.toInt).toNat = n) (_ : iv 0 3 x7_30) (_ : iv 0 3 x5_30) (_ : iv 0 79 b) (_ : iv 0 3 nx) (_ : iv 0 93 ba) (_ : KS [75] gm gm_j30) (_ : MI sg gm_j30) (_ : SPF (gm_j30 75) nx.toNatClampNeg) (_ : ARGN sg gm lg b nx.toNatClampNeg) (H : Heap) (locs : List Loc) (ls : Array Slot), va_P (dC, dI) vwCl (mW h0 ad cid sg gm_j30 lg) H → va_D A (mW h0 ad cid sg gm_j30 lg) → va_S A s.heap H locs → lv_has ls 11 [(7, .int x7_30), (6, .int x6_30), (5, .int x5_30), (0, .ref h0), (1, .int b), (2, .int nx), (3, .ref (ad 17)), (4, .int ba)] → W p l e (headSpec wm_X13_sum ({ frames := 7, cells := 0, slots := 0, locals := 167 })).room s m ([.ref h0, .int b, .int nx, .ref (ad 17), .int ba] : List Value).toArray below meth c H locs 0 0 (MQ below (va_Qi (fun r v => ∃ (sg2 : Nat → Int32) (gm2 : Nat → Nat → Int32) (lg2 : Nat → Nat → Int64), v = (sg2, gm2, lg2) ∧ MI sg2 gm2 ∧ KS [] sg sg2 ∧ KS [75] gm gm2 ∧ KS [] lg lg2 ∧ (r = -1 ∨ ARGN sg gm lg b nx.toNatClampNeg)) (MB dC dI h0 ad cid A) A) ([.ref h0, .int b, .int nx, .ref (ad 17), .int ba] : List Value).toArray s 0 0 A) (F0 m 30 ls []) := by
    intro n
    induction n using Nat.strongRecOn with
    | ind n ih30 =>
      intro gm_j30 x7_30 x6_30 x5_30 hn30 hx7_30 hx5_30 hsx1_30 hsx2_30 hsx4_30 hkg_j30 hI_j30 hSPF hAN H locs ls hP hD hS hl
      have hj119 : ∀ (gm_j119 : Nat → Nat → Int32) (x9_119 : Int32) (x8_119 : Int32) (y0_119 : Int32) (_ : iv (-1) 15 x9_119) (_ : iv 0 397 x8_119) (_ : iv 0 2 x7_30) (_ : iv 0 3 x5_30) (_ : iv 0 79 b) (_ : iv 1 3 nx) (_ : iv 0 93 ba) (_ : KS [75] gm gm_j119) (_ : MI sg gm_j119) (_ : SPF (gm_j119 75) nx.toNatClampNeg) (_ : x7_30.toInt < nx.toInt) (H : Heap) (locs : List Loc) (ls : Array Slot), va_P (dC, dI) vwCl (mW h0 ad cid sg gm_j119 lg) H → va_D A (mW h0 ad cid sg gm_j119 lg) → va_S A s.heap H locs → lv_has ls 11 [(9, .int x9_119), (8, .int x8_119), (7, .int x7_30), (6, .int x6_30), (5, .int x5_30), (0, .ref h0), (1, .int b), (2, .int nx), (3, .ref (ad 17)), (4, .int ba)] → W p l e (headSpec wm_X13_sum ({ frames := 7, cells := 0, slots := 0, locals := 167 })).room s m ([.ref h0, .int b, .int nx, .ref (ad 17), .int ba] : List Value).toArray below meth c H locs 0 0 (MQ below (va_Qi (fun r v => ∃ (sg2 : Nat → Int32) (gm2 : Nat → Nat → Int32) (lg2 : Nat → Nat → Int64), v = (sg2, gm2, lg2) ∧ MI sg2 gm2 ∧ KS [] sg sg2 ∧ KS [75] gm gm2 ∧ KS [] lg lg2 ∧ (r = -1 ∨ ARGN sg gm lg b nx.toNatClampNeg)) (MB dC dI h0 ad cid A) A) ([.ref h0, .int b, .int nx, .ref (ad 17), .int ba] : List Value).toArray s 0 0 A) (F0 m 119 ls [.int y0_119]) := by
        intro gm_j119 x9_119 x8_119 y0_119 hx9_119 hx8_119 hsx7_119 hsx5_119 hsx1_119 hsx2_119 hsx4_119 hkg_j119 hI_j119 hSPF hl7 H locs ls hP hD hS hl
        refine lv_istore (lv' := [(10, .int y0_119), (9, .int x9_119), (8, .int x8_119), (7, .int x7_30), (6, .int x6_30), (5, .int x5_30), (0, .ref h0), (1, .int b), (2, .int nx), (3, .ref (ad 17)), (4, .int ba)]) hx hb dX13_sum_119 hl (by decide) rfl (fun ls hl => ?_)
        refine lv_iload hx hb dX13_sum_121 (lv_at hl 0 rfl) ?_
        refine lv_iconst (v := (-1)) hx hb dX13_sum_123 (by decide) ?_
        refine lv_icmp_ne (tgt := 129) hx hb dX13_sum_124 (by decide) (fun c_1 => ?_) (fun c_1 => ?_)
        · have d_2 : ¬ (y0_119 : Int32).toInt = (-1) := lv_neT c_1 rfl
          refine lv_iload hx hb dX13_sum_129 (lv_at hl 4 rfl) ?_
          refine lv_iload hx hb dX13_sum_131 (lv_at hl 0 rfl) ?_
          refine lv_iadd hx hb dX13_sum_133 ?_
          refine lv_topi (fun z_3 ez_3 => ?_)
          refine lv_istore (lv' := [(6, .int z_3), (10, .int y0_119), (9, .int x9_119), (8, .int x8_119), (7, .int x7_30), (5, .int x5_30), (0, .ref h0), (1, .int b), (2, .int nx), (3, .ref (ad 17)), (4, .int ba)]) hx hb dX13_sum_134 hl (by decide) rfl (fun ls hl => ?_)
          obtain ⟨z_4, ez_4⟩ : ∃ z : Int32, z = x7_30 + 1 := ⟨_, rfl⟩
          have hz_4 : iv 1 3 z_4 := iv_of ez_4 (iv_add hsx7_119 (iv_k (by decide) : iv 1 1 1) (by decide))
          have tz_4 : z_4.toInt = x7_30.toInt + 1 := by rw [ez_4]; exact iv_addE hsx7_119 (iv_k (by decide) : iv 1 1 1) (by decide)
          refine lv_iinc (v := z_4) (lv' := [(7, .int z_4), (6, .int z_3), (10, .int y0_119), (9, .int x9_119), (8, .int x8_119), (5, .int x5_30), (0, .ref h0), (1, .int b), (2, .int nx), (3, .ref (ad 17)), (4, .int ba)]) hx hb dX13_sum_136 hl (k := 4) rfl ez_4.symm (by decide) rfl (fun ls hl => ?_)
          refine lv_goto (tgt := 30) hx hb dX13_sum_139 (by decide) ?_
          exact ih30 _ (by rw [← hn30]; exact (iv_meas tz_4 hsx7_119 (by decide))) gm_j119 z_4 z_3 x5_30 rfl (iv_w hz_4 (by decide)) hsx5_119 hsx1_119 (iv_w hsx2_119 (by decide)) hsx4_119 (KS_tr (L := [75]) KS_rf hkg_j119 (by decide)) hI_j119 (hSPF) (hAN) _ _ _ hP hD hS (lv_sub hl [0, 1, 5, 6, 7, 8, 9, 10] rfl)
        · have h_5 : iv (-1) (-1) y0_119 := iv_eq c_1 (iv_all y0_119) (iv_k (by decide) : iv (-1) (-1) (-1)) (by decide)
          refine lv_iconst (v := (-1)) hx hb dX13_sum_127 (by decide) ?_
          exact W.iret (v := (-1)) hx hb hr (fun t ht hW => ⟨⟨(-1), (sg, gm_j119, lg), rfl, ⟨sg, gm_j119, lg, rfl, hI_j119, KS_rf, (KS_tr (L := [75]) KS_rf hkg_j119 (by decide)), KS_rf, (Or.inl rfl)⟩, by rw [ht]; exact hP, va_K.moved hW.alike hK, hD⟩, hS.F ht⟩) hS.2.2 dX13_sum_128
      have hj94 : ∀ (gm_j94 : Nat → Nat → Int32) (x9_94 : Int32) (x8_94 : Int32) (_ : iv (-1) 15 x9_94) (_ : iv 0 397 x8_94) (_ : iv 0 2 x7_30) (_ : iv 0 3 x5_30) (_ : iv 0 79 b) (_ : iv 1 3 nx) (_ : iv 0 93 ba) (_ : KS [75] gm gm_j94) (_ : MI sg gm_j94) (_ : SPF (gm_j94 75) nx.toNatClampNeg) (_ : x7_30.toInt < nx.toInt) (H : Heap) (locs : List Loc) (ls : Array Slot), va_P (dC, dI) vwCl (mW h0 ad cid sg gm_j94 lg) H → va_D A (mW h0 ad cid sg gm_j94 lg) → va_S A s.heap H locs → lv_has ls 11 [(9, .int x9_94), (8, .int x8_94), (7, .int x7_30), (6, .int x6_30), (5, .int x5_30), (0, .ref h0), (1, .int b), (2, .int nx), (3, .ref (ad 17)), (4, .int ba)] → W p l e (headSpec wm_X13_sum ({ frames := 7, cells := 0, slots := 0, locals := 167 })).room s m ([.ref h0, .int b, .int nx, .ref (ad 17), .int ba] : List Value).toArray below meth c H locs 0 0 (MQ below (va_Qi (fun r v => ∃ (sg2 : Nat → Int32) (gm2 : Nat → Nat → Int32) (lg2 : Nat → Nat → Int64), v = (sg2, gm2, lg2) ∧ MI sg2 gm2 ∧ KS [] sg sg2 ∧ KS [75] gm gm2 ∧ KS [] lg lg2 ∧ (r = -1 ∨ ARGN sg gm lg b nx.toNatClampNeg)) (MB dC dI h0 ad cid A) A) ([.ref h0, .int b, .int nx, .ref (ad 17), .int ba] : List Value).toArray s 0 0 A) (F0 m 94 ls []) := by
        intro gm_j94 x9_94 x8_94 hx9_94 hx8_94 hsx7_94 hsx5_94 hsx1_94 hsx2_94 hsx4_94 hkg_j94 hI_j94 hSPF hl7 H locs ls hP hD hS hl
        refine lv_aload_n hx hb dX13_sum_94 rfl (lv_at hl 5 rfl) ?_
        refine lv_aload_n hx hb dX13_sum_95 rfl (lv_at hl 5 rfl) ?_
        refine mr_get (v := .ref (ad 70)) hx hb htb inX13 hown hK hP 70 (by decide) (htb _ kw_219) rfl dX13_sum_96 ?_
        refine lv_iload hx hb dX13_sum_99 (lv_at hl 1 rfl) ?_
        refine mr_iald hx hb hK hP 55 (k := 70) rfl rfl rfl (show vp_in x8_94 405 from (iv_in hx8_94 (by decide))) dX13_sum_101 ?_
        refine lv_topi (fun z_6 ez_6 => ?_)
        have hz_6 : iv 0 3 z_6 := iv_of ez_6 (MI_a hI_j94 70 hx8_94 (by decide))
        have ez_6 := ez_6.trans (congrFun (hkg_j94 70 (by decide)) _)
        refine lv_aload_n hx hb dX13_sum_102 rfl (lv_at hl 5 rfl) ?_
        refine mr_get (v := .ref (ad 71)) hx hb htb inX13 hown hK hP 71 (by decide) (htb _ kw_220) rfl dX13_sum_103 ?_
        refine lv_iload hx hb dX13_sum_106 (lv_at hl 1 rfl) ?_
        refine mr_iald hx hb hK hP 56 (k := 71) rfl rfl rfl (show vp_in x8_94 405 from (iv_in hx8_94 (by decide))) dX13_sum_108 ?_
        refine lv_topi (fun z_7 ez_7 => ?_)
        have hz_7 : iv 0 1079 z_7 := iv_of ez_7 (MI_a hI_j94 71 hx8_94 (by decide))
        have ez_7 := ez_7.trans (congrFun (hkg_j94 71 (by decide)) _)
        refine lv_aload_n hx hb dX13_sum_109 rfl (lv_at hl 8 rfl) ?_
        refine lv_iload hx hb dX13_sum_110 (lv_at hl 9 rfl) ?_
        refine lv_iload hx hb dX13_sum_112 (lv_at hl 2 rfl) ?_
        refine lv_iadd hx hb dX13_sum_114 ?_
        refine lv_topi (fun z_8 ez_8 => ?_)
        have hz_8 : iv 0 95 z_8 := iv_of ez_8 (iv_add hsx4_94 hsx7_94 (by decide))
        have tz_8 : z_8.toInt = (ba : Int32).toInt + (x7_30 : Int32).toInt := by rw [ez_8]; exact iv_addE hsx4_94 hsx7_94 (by decide)
        refine mr_iald hx hb hK hP 16 (k := 17) rfl rfl rfl (show vp_in z_8 96 from (iv_in hz_8 (by decide))) dX13_sum_115 ?_
        refine lv_topi (fun z_9 ez_9 => ?_)
        have ez_9 := ez_9.trans (congrFun (hkg_j94 17 (by decide)) _)
        refine mr_calli (rest := []) ⟨hx, hb, hml, hown, htb⟩ (a_weight l dC dI h0 ad cid sg gm_j94 lg z_6 z_7 z_9 hI_j94 hz_6 hz_7 (VAL_at hva (show iv 0 404 x8_94 from (iv_w hx8_94 (by decide))) ez_6 ez_7) (by have q9 : PR gm := hPR; unfold PR at *; rw [(hkg_j94 6 (by decide))]; exact q9)) (cwV 3 htb (gd_V kw_1226 kw_1227 kw_1228 kw_5 kw_1625) rfl rfl rfl (by decide +kernel) ⟨Nat.le_of_ble_eq_true rfl, Nat.le_of_ble_eq_true rfl⟩) rfl hl.1 rfl (Nat.le_of_ble_eq_true rfl) dX13_sum_116 ⟨Nat.zero_le _, Nat.zero_le _⟩ hK hP hD hS hA (fun r_10 u_11 H locs hw hP hD hS => ?_)
        obtain rfl := hw
        have hP : va_P (dC, dI) vwCl (mW h0 ad cid sg gm_j94 lg) H := hP
        have hD : va_D A (mW h0 ad cid sg gm_j94 lg) := hD
        exact hj119 gm_j94 x9_94 x8_94 r_10 hx9_94 hx8_94 hsx7_94 hsx5_94 hsx1_94 hsx2_94 hsx4_94 (KS_tr (L := [75]) KS_rf hkg_j94 (by decide)) hI_j94 (hSPF) (by have := i32_0; have := i32_1; have := i32_2; have := i32_m1; have := (show iv 0 80 (sg 63) from MI_s hI 63).1; have := (show iv 0 80 (sg 63) from MI_s hI 63).2; have := (hsx1_94).1; have := (hsx1_94).2; have := (hsx2_94).1; have := (hsx2_94).2; have := (hsx4_94).1; have := (hsx4_94).2; have := (h63).1; have := (h63).2; have := (hsx7_94).1; have := (hsx7_94).2; have := (hsx5_94).1; have := (hsx5_94).2; have := (hx9_94).1; have := (hx9_94).2; have := (hx8_94).1; have := (hx8_94).2; have := (hz_6).1; have := (hz_6).2; have := (hz_7).1; have := (hz_7).2; have := (hz_8).1; have := (hz_8).2; omega) _ _ _ hP hD hS (lv_sub hl [0, 1, 2, 3, 4, 5, 6, 7, 8, 9] rfl)
      refine lv_iload hx hb dX13_sum_30 (lv_at hl 0 rfl) ?_
      refine lv_iload_n hx hb dX13_sum_32 rfl (lv_at hl 5 rfl) ?_
      refine lv_icmp_ge (tgt := 142) hx hb dX13_sum_33 (by decide) (fun c_12 => ?_) (fun c_12 => ?_)
      · have d_13 : (nx : Int32).toInt ≤ (x7_30 : Int32).toInt := Int32.le_iff_toInt_le.mp c_12
        refine lv_iload hx hb dX13_sum_142 (lv_at hl 1 rfl) ?_
        exact W.iret (v := x6_30) hx hb hr (fun t ht hW => ⟨⟨x6_30, (sg, gm_j30, lg), rfl, ⟨sg, gm_j30, lg, rfl, hI_j30, KS_rf, (KS_tr (L := [75]) KS_rf hkg_j30 (by decide)), KS_rf, (Or.inr hAN)⟩, by rw [ht]; exact hP, va_K.moved hW.alike hK, hD⟩, hS.F ht⟩) hS.2.2 dX13_sum_144
      · have d_14 : (x7_30 : Int32).toInt < (nx : Int32).toInt := Int32.lt_iff_toInt_lt.mp (i32_lt c_12)
        have h_15 : iv 0 2 x7_30 := iv_ltL (i32_lt c_12) hx7_30 hsx2_30 (by decide)
        have h_16 : iv 1 3 nx := iv_ltR (i32_lt c_12) hx7_30 hsx2_30 (by decide)
        refine lv_iconst (v := 5) hx hb dX13_sum_36 (by decide) ?_
        refine lv_aload_n hx hb dX13_sum_37 rfl (lv_at hl 3 rfl) ?_
        refine mr_get (v := .int (sg 63)) hx hb htb inX13 hown hK hP 63 (by decide) (htb _ kw_1160) rfl dX13_sum_38 ?_
        refine lv_iconst (v := 1) hx hb dX13_sum_41 (by decide) ?_
        refine lv_isub hx hb dX13_sum_42 ?_
        refine lv_topi (fun z_17 ez_17 => ?_)
        have hz_17 : iv 0 79 z_17 := iv_of ez_17 (iv_sub h63 (iv_k (by decide) : iv 1 1 1) (by decide))
        have tz_17 : z_17.toInt = ((sg 63) : Int32).toInt - 1 := by rw [ez_17]; exact iv_subE h63 (iv_k (by decide) : iv 1 1 1) (by decide)
        refine lv_imul hx hb dX13_sum_43 ?_
        refine lv_topi (fun z_18 ez_18 => ?_)
        have hz_18 : iv 0 395 z_18 := iv_of ez_18 (iv_mul (iv_k (by decide) : iv 5 5 5) hz_17 (by decide))
        have tz_18 : z_18.toInt = 5 * (z_17 : Int32).toInt := by rw [ez_18]; exact iv_mulE (iv_k (by decide) : iv 5 5 5) hz_17 (by decide)
        refine lv_aload_n hx hb dX13_sum_44 rfl (lv_at hl 3 rfl) ?_
        refine mr_get (v := .ref (ad 75)) hx hb htb inX13 hown hK hP 75 (by decide) (htb _ kw_223) rfl dX13_sum_45 ?_
        refine lv_iload hx hb dX13_sum_48 (lv_at hl 0 rfl) ?_
        refine mr_iald hx hb hK hP 59 (k := 75) rfl rfl rfl (show vp_in x7_30 4 from (iv_in h_15 (by decide))) dX13_sum_50 ?_
        refine lv_topi (fun z_19 ez_19 => ?_)
        have hz_19 : iv (-1) 3 z_19 := iv_of ez_19 (MI_a hI_j30 75 h_15 (by decide))
        have h_20 : iv 0 2 z_19 := ⟨by have q9 := (hSPF _ (lt_cl h_15 hvnx (by decide) (by decide) (by have := i32_0; have := i32_1; have := i32_2; have := i32_m1; have := (hsx1_30).1; have := (hsx1_30).2; have := (h_16).1; have := (h_16).2; have := (hsx4_30).1; have := (hsx4_30).2; have := (h63).1; have := (h63).2; have := (h_15).1; have := (h_15).2; have := (hx5_30).1; have := (hx5_30).2; have := (hz_17).1; have := (hz_17).2; have := (hz_18).1; have := (hz_18).2; have := (hz_19).1; have := (hz_19).2; omega))).1; rw [← ez_19] at q9; exact q9, by have q9 := (hSPF _ (lt_cl h_15 hvnx (by decide) (by decide) (by have := i32_0; have := i32_1; have := i32_2; have := i32_m1; have := (hsx1_30).1; have := (hsx1_30).2; have := (h_16).1; have := (h_16).2; have := (hsx4_30).1; have := (hsx4_30).2; have := (h63).1; have := (h63).2; have := (h_15).1; have := (h_15).2; have := (hx5_30).1; have := (hx5_30).2; have := (hz_17).1; have := (hz_17).2; have := (hz_18).1; have := (hz_18).2; have := (hz_19).1; have := (hz_19).2; omega))).2; rw [← ez_19] at q9; have := iv_cl hvnx (by decide); have := hvnx.2; omega⟩
        refine lv_iadd hx hb dX13_sum_51 ?_
        refine lv_topi (fun z_21 ez_21 => ?_)
        have hz_21 : iv 0 397 z_21 := iv_of ez_21 (iv_add hz_18 h_20 (by decide))
        have tz_21 : z_21.toInt = (z_18 : Int32).toInt + (z_19 : Int32).toInt := by rw [ez_21]; exact iv_addE hz_18 h_20 (by decide)
        refine lv_istore (lv' := [(8, .int z_21), (7, .int x7_30), (6, .int x6_30), (5, .int x5_30), (0, .ref h0), (1, .int b), (2, .int nx), (3, .ref (ad 17)), (4, .int ba)]) hx hb dX13_sum_52 hl (by decide) rfl (fun ls hl => ?_)
        refine lv_aload_n hx hb dX13_sum_54 rfl (lv_at hl 4 rfl) ?_
        refine lv_aload_n hx hb dX13_sum_55 rfl (lv_at hl 4 rfl) ?_
        refine lv_iload_n hx hb dX13_sum_56 rfl (lv_at hl 5 rfl) ?_
        refine lv_aload_n hx hb dX13_sum_57 rfl (lv_at hl 4 rfl) ?_
        refine mr_get (v := .ref (ad 75)) hx hb htb inX13 hown hK hP 75 (by decide) (htb _ kw_223) rfl dX13_sum_58 ?_
        refine lv_iload hx hb dX13_sum_61 (lv_at hl 1 rfl) ?_
        refine mr_iald hx hb hK hP 59 (k := 75) rfl rfl rfl (show vp_in x7_30 4 from (iv_in h_15 (by decide))) dX13_sum_63 ?_
        refine lv_topi (fun z_22 ez_22 => ?_)
        obtain rfl : z_19 = z_22 := ez_19.trans ez_22.symm
        refine mr_calli (rest := [.ref h0]) ⟨hx, hb, hml, hown, htb⟩ (f_arg l dC dI h0 ad cid sg gm_j30 lg b z_19 hI_j30 hsx1_30 (iv_w h_20 (by decide)) (by have := i32_0; have := i32_1; have := i32_2; have := i32_m1; have := (show iv 0 80 (sg 41) from MI_s hI 41).1; have := (show iv 0 80 (sg 41) from MI_s hI 41).2; have := (hsx1_30).1; have := (hsx1_30).2; have := (h_16).1; have := (h_16).2; have := (hsx4_30).1; have := (hsx4_30).2; have := (h63).1; have := (h63).2; have := (h_15).1; have := (h_15).2; have := (hx5_30).1; have := (hx5_30).2; have := (hz_17).1; have := (hz_17).2; have := (hz_18).1; have := (hz_18).2; have := (h_20).1; have := (h_20).2; have := (hz_21).1; have := (hz_21).2; omega) (ACY_k (DK_of (show KS [] sg sg from KS_rf) (show KS [75] gm gm_j30 from (KS_tr (L := [75]) KS_rf hkg_j30 (by decide))) (show KS [] lg lg from KS_rf) (by decide) (by decide) (by decide)) hac)) (cwV 2 htb (gd_V kw_1177 kw_1178 kw_1179 kw_5 kw_1609) rfl rfl rfl (by decide +kernel) ⟨Nat.le_of_ble_eq_true rfl, Nat.le_of_ble_eq_true rfl⟩) rfl hl.1 rfl (Nat.le_of_ble_eq_true rfl) dX13_sum_64 ⟨Nat.zero_le _, Nat.zero_le _⟩ hK hP hD hS hA (fun r_23 u_24 H locs hw hP hD hS => ?_)
        obtain ⟨hr_23, fR_r_23, rfl⟩ := hw
        have hP : va_P (dC, dI) vwCl (mW h0 ad cid sg gm_j30 lg) H := hP
        have hD : va_D A (mW h0 ad cid sg gm_j30 lg) := hD
        have hz67 : z_19.toNatClampNeg < nx.toNatClampNeg := by have q9 := (hSPF _ (lt_cl h_15 hvnx (by decide) (by decide) (by have := i32_0; have := i32_1; have := i32_2; have := i32_m1; have := (hsx1_30).1; have := (hsx1_30).2; have := (h_16).1; have := (h_16).2; have := (hsx4_30).1; have := (hsx4_30).2; have := (h63).1; have := (h63).2; have := (h_15).1; have := (h_15).2; have := (hx5_30).1; have := (hx5_30).2; have := (hz_17).1; have := (hz_17).2; have := (hz_18).1; have := (hz_18).2; have := (h_20).1; have := (h_20).2; have := (hz_21).1; have := (hz_21).2; have := (hr_23).1; have := (hr_23).2; omega))).2; rw [← ez_19] at q9; have := iv_cl h_20 (by decide); omega
        obtain ⟨hr67, hr68, hr69⟩ := arg_el (show iv 0 80 (sg 24) from MI_s hI 24) (fR_r_23.trans (mArg_k (DK_of (show KS [] sg sg from KS_rf) (show KS [75] gm gm_j30 from (KS_tr (L := [75]) KS_rf hkg_j30 (by decide))) (show KS [] lg lg from KS_rf) (by decide) (by decide) (by decide)) _ _)) (hAN _ (Nat.zero_le _) hz67)
        refine mr_calli (rest := []) ⟨hx, hb, hml, hown, htb⟩ (a_typeIn l dC dI h0 ad cid sg gm_j30 lg r_23 hI_j30 hr67) (cwV 1 htb (gd_V kw_940 kw_941 kw_942 kw_5 kw_1550) rfl rfl rfl (by decide +kernel) ⟨Nat.le_of_ble_eq_true rfl, Nat.le_of_ble_eq_true rfl⟩) rfl hl.1 rfl (Nat.le_of_ble_eq_true rfl) dX13_sum_67 ⟨Nat.zero_le _, Nat.zero_le _⟩ hK hP hD hS hA (fun r_25 u_26 H locs hw hP hD hS => ?_)
        obtain ⟨hr_25, rfl⟩ := hw
        have hP : va_P (dC, dI) vwCl (mW h0 ad cid sg gm_j30 lg) H := hP
        have hD : va_D A (mW h0 ad cid sg gm_j30 lg) := hD
        refine lv_istore (lv' := [(9, .int r_25), (8, .int z_21), (7, .int x7_30), (6, .int x6_30), (5, .int x5_30), (0, .ref h0), (1, .int b), (2, .int nx), (3, .ref (ad 17)), (4, .int ba)]) hx hb dX13_sum_70 hl (by decide) rfl (fun ls hl => ?_)
        refine lv_iload hx hb dX13_sum_72 (lv_at hl 0 rfl) ?_
        refine lv_iconst (v := (-1)) hx hb dX13_sum_74 (by decide) ?_
        refine lv_icmp_eq (tgt := 94) hx hb dX13_sum_75 (by decide) (fun c_27 => ?_) (fun c_27 => ?_)
        · have h_28 : iv (-1) (-1) r_25 := iv_eq c_27 hr_25 (iv_k (by decide) : iv (-1) (-1) (-1)) (by decide)
          exact hj94 gm_j30 r_25 z_21 (iv_w h_28 (by decide)) hz_21 h_15 hx5_30 hsx1_30 h_16 hsx4_30 (KS_tr (L := [75]) KS_rf hkg_j30 (by decide)) hI_j30 (hSPF) (by have := i32_0; have := i32_1; have := i32_2; have := i32_m1; have := (show iv 0 80 (sg 63) from MI_s hI 63).1; have := (show iv 0 80 (sg 63) from MI_s hI 63).2; have := (hsx1_30).1; have := (hsx1_30).2; have := (h_16).1; have := (h_16).2; have := (hsx4_30).1; have := (hsx4_30).2; have := (h63).1; have := (h63).2; have := (h_15).1; have := (h_15).2; have := (hx5_30).1; have := (hx5_30).2; have := (hz_17).1; have := (hz_17).2; have := (hz_18).1; have := (hz_18).2; have := (h_20).1; have := (h_20).2; have := (hz_21).1; have := (hz_21).2; have := (hr67).1; have := (hr67).2; have := (h_28).1; have := (h_28).2; omega) _ _ _ hP hD hS (lv_sub hl [0, 1, 2, 3, 4, 5, 6, 7, 8, 9] rfl)
        · have h_29 : iv 0 15 r_25 := iv_neL c_27 hr_25 (by decide)
          refine lv_iload hx hb dX13_sum_78 (lv_at hl 0 rfl) ?_
          refine lv_aload_n hx hb dX13_sum_80 rfl (lv_at hl 8 rfl) ?_
          refine lv_iload hx hb dX13_sum_81 (lv_at hl 9 rfl) ?_
          refine lv_iload hx hb dX13_sum_83 (lv_at hl 2 rfl) ?_
          refine lv_iadd hx hb dX13_sum_85 ?_
          refine lv_topi (fun z_30 ez_30 => ?_)
          have hz_30 : iv 0 95 z_30 := iv_of ez_30 (iv_add hsx4_30 h_15 (by decide))
          have tz_30 : z_30.toInt = (ba : Int32).toInt + (x7_30 : Int32).toInt := by rw [ez_30]; exact iv_addE hsx4_30 h_15 (by decide)
          refine mr_iald hx hb hK hP 16 (k := 17) rfl rfl rfl (show vp_in z_30 96 from (iv_in hz_30 (by decide))) dX13_sum_86 ?_
          refine lv_topi (fun z_31 ez_31 => ?_)
          have ez_31 := ez_31.trans (congrFun (hkg_j30 17 (by decide)) _)
          refine lv_icmp_eq (tgt := 94) hx hb dX13_sum_87 (by decide) (fun c_32 => ?_) (fun c_32 => ?_)
          · have d_33 : (r_25 : Int32).toInt = (z_31 : Int32).toInt := congrArg Int32.toInt c_32
            have h_34 : iv 0 15 z_31 := iv_eq (Eq.symm c_32) (iv_all z_31) h_29 (by decide)
            exact hj94 gm_j30 r_25 z_21 (iv_w h_29 (by decide)) hz_21 h_15 hx5_30 hsx1_30 h_16 hsx4_30 (KS_tr (L := [75]) KS_rf hkg_j30 (by decide)) hI_j30 (hSPF) (by have := i32_0; have := i32_1; have := i32_2; have := i32_m1; have := (show iv 0 80 (sg 63) from MI_s hI 63).1; have := (show iv 0 80 (sg 63) from MI_s hI 63).2; have := (hsx1_30).1; have := (hsx1_30).2; have := (h_16).1; have := (h_16).2; have := (hsx4_30).1; have := (hsx4_30).2; have := (h63).1; have := (h63).2; have := (h_15).1; have := (h_15).2; have := (hx5_30).1; have := (hx5_30).2; have := (hz_17).1; have := (hz_17).2; have := (hz_18).1; have := (hz_18).2; have := (h_20).1; have := (h_20).2; have := (hz_21).1; have := (hz_21).2; have := (hr67).1; have := (hr67).2; have := (h_29).1; have := (h_29).2; have := (hz_30).1; have := (hz_30).2; have := (h_34).1; have := (h_34).2; omega) _ _ _ hP hD hS (lv_sub hl [0, 1, 2, 3, 4, 5, 6, 7, 8, 9] rfl)
          · refine lv_iconst (v := (-1)) hx hb dX13_sum_90 (by decide) ?_
            refine lv_goto (tgt := 119) hx hb dX13_sum_91 (by decide) ?_
            exact hj119 gm_j30 r_25 z_21 (-1) (iv_w h_29 (by decide)) hz_21 h_15 hx5_30 hsx1_30 h_16 hsx4_30 (KS_tr (L := [75]) KS_rf hkg_j30 (by decide)) hI_j30 (hSPF) (by have := i32_0; have := i32_1; have := i32_2; have := i32_m1; have := (show iv 0 80 (sg 63) from MI_s hI 63).1; have := (show iv 0 80 (sg 63) from MI_s hI 63).2; have := (hsx1_30).1; have := (hsx1_30).2; have := (h_16).1; have := (h_16).2; have := (hsx4_30).1; have := (hsx4_30).2; have := (h63).1; have := (h63).2; have := (h_15).1; have := (h_15).2; have := (hx5_30).1; have := (hx5_30).2; have := (hz_17).1; have := (hz_17).2; have := (hz_18).1; have := (hz_18).2; have := (h_20).1; have := (h_20).2; have := (hz_21).1; have := (hz_21).2; have := (hr67).1; have := (hr67).2; have := (h_29).1; have := (h_29).2; have := (hz_30).1; have := (hz_30).2; omega) _ _ _ hP hD hS (lv_sub hl [0, 1, 2, 3, 4, 5, 6, 7, 8, 9] rfl)
  refine lv_aload_n hx hb dX13_sum_0 rfl (lv_at hl 0 rfl) ?_
  refine lv_iload_n hx hb dX13_sum_1 rfl (lv_at hl 1 rfl) ?_
  refine mr_calli (rest := []) ⟨hx, hb, hml, hown, htb⟩ (f_args l dC dI h0 ad cid sg gm lg b hI hvb (by have := i32_0; have := i32_1; have := i32_2; have := i32_m1; have := (show iv 0 80 (sg 41) from MI_s hI 41).1; have := (show iv 0 80 (sg 41) from MI_s hI 41).2; have := (hvb).1; have := (hvb).2; have := (hvnx).1; have := (hvnx).2; have := (hvba).1; have := (hvba).2; have := (h63).1; have := (h63).2; omega) (ACY_k (DK_of (show KS [] sg sg from KS_rf) (show KS [] gm gm from KS_rf) (show KS [] lg lg from KS_rf) (by decide) (by decide) (by decide)) hac) (STR_k (DK_of (show KS [] sg sg from KS_rf) (show KS [] gm gm from KS_rf) (show KS [] lg lg from KS_rf) (by decide) (by decide) (by decide)).1 hst)) (cwV 1 htb (gd_V kw_1189 kw_1190 kw_1191 kw_5 kw_1613) rfl rfl rfl (by decide +kernel) ⟨Nat.le_of_ble_eq_true rfl, Nat.le_of_ble_eq_true rfl⟩) rfl hl.1 rfl (Nat.le_of_ble_eq_true rfl) dX13_sum_2 ⟨Nat.zero_le _, Nat.zero_le _⟩ hK hP hD hS hA (fun r_35 u_36 H locs hw hP hD hS => ?_)
  obtain ⟨hr_35, fAa_r_35, fAz_r_35, rfl⟩ := hw
  have hP : va_P (dC, dI) vwCl (mW h0 ad cid sg gm lg) H := hP
  have hD : va_D A (mW h0 ad cid sg gm lg) := hD
  refine lv_istore (lv' := [(5, .int r_35), (0, .ref h0), (1, .int b), (2, .int nx), (3, .ref (ad 17)), (4, .int ba)]) hx hb dX13_sum_5 hl (by decide) rfl (fun ls hl => ?_)
  refine lv_iload hx hb dX13_sum_7 (lv_at hl 0 rfl) ?_
  refine lv_iload_n hx hb dX13_sum_9 rfl (lv_at hl 3 rfl) ?_
  refine lv_icmp_ne (tgt := 22) hx hb dX13_sum_10 (by decide) (fun c_37 => ?_) (fun c_37 => ?_)
  · exact hj22 gm r_35 hr_35 hvb hvnx hvba KS_rf hI _ _ _ hP hD hS (lv_sub hl [0, 1, 2, 3, 4, 5] rfl)
  · have d_38 : (r_35 : Int32).toInt = (nx : Int32).toInt := congrArg Int32.toInt c_37
    have h_39 : iv 0 3 r_35 := iv_eq c_37 hr_35 hvnx (by decide)
    have hAN : ARGN sg gm lg b nx.toNatClampNeg := by have q9 := fAa_r_35; rw [c_37] at q9; exact q9
    refine lv_aload_n hx hb dX13_sum_13 rfl (lv_at hl 1 rfl) ?_
    refine lv_iload_n hx hb dX13_sum_14 rfl (lv_at hl 2 rfl) ?_
    refine lv_iload_n hx hb dX13_sum_15 rfl (lv_at hl 3 rfl) ?_
    refine mr_calli (rest := []) ⟨hx, hb, hml, hown, htb⟩ (f_placed l dC dI h0 ad cid sg gm lg b nx hI hvb hvnx (by have := i32_0; have := i32_1; have := i32_2; have := i32_m1; have := (show iv 0 80 (sg 41) from MI_s hI 41).1; have := (show iv 0 80 (sg 41) from MI_s hI 41).2; have := (hvb).1; have := (hvb).2; have := (hvnx).1; have := (hvnx).2; have := (hvba).1; have := (hvba).2; have := (h63).1; have := (h63).2; have := (h_39).1; have := (h_39).2; omega) (ACY_k (DK_of (show KS [] sg sg from KS_rf) (show KS [] gm gm from KS_rf) (show KS [] lg lg from KS_rf) (by decide) (by decide) (by decide)) hac) (STR_k (DK_of (show KS [] sg sg from KS_rf) (show KS [] gm gm from KS_rf) (show KS [] lg lg from KS_rf) (by decide) (by decide) (by decide)).1 hst) hAN) (cwV 2 htb (gd_V kw_1223 kw_1224 kw_1225 kw_5 kw_1624) rfl rfl rfl (by decide +kernel) ⟨Nat.le_of_ble_eq_true rfl, Nat.le_of_ble_eq_true rfl⟩) rfl hl.1 rfl (Nat.le_of_ble_eq_true rfl) dX13_sum_16 ⟨Nat.zero_le _, Nat.zero_le _⟩ hK hP hD hS hA (fun r_40 u_41 H locs hw hP hD hS => ?_)
    obtain ⟨sgv_42, gmv_42, lgv_42, rfl, hIv_42, ksv_42, kgv_42, klv_42, hr_40, fPl_r_40⟩ := hw
    obtain rfl := KS_nil ksv_42
    obtain rfl := KS_nil klv_42
    have hP : va_P (dC, dI) vwCl (mW h0 ad cid sg gmv_42 lg) H := hP
    have hD : va_D A (mW h0 ad cid sg gmv_42 lg) := hD
    refine lv_if_ne (tgt := 24) hx hb dX13_sum_19 (by decide) (fun c_43 => ?_) (fun c_43 => ?_)
    · have h_44 : iv 1 1 r_40 := iv_neL c_43 hr_40 (by decide)
      refine lv_iconst (v := 0) hx hb dX13_sum_24 (by decide) ?_
      refine lv_istore (lv' := [(6, .int 0), (5, .int r_35), (0, .ref h0), (1, .int b), (2, .int nx), (3, .ref (ad 17)), (4, .int ba)]) hx hb dX13_sum_25 hl (by decide) rfl (fun ls hl => ?_)
      refine lv_iconst (v := 0) hx hb dX13_sum_27 (by decide) ?_
      refine lv_istore (lv' := [(7, .int 0), (6, .int 0), (5, .int r_35), (0, .ref h0), (1, .int b), (2, .int nx), (3, .ref (ad 17)), (4, .int ba)]) hx hb dX13_sum_28 hl (by decide) rfl (fun ls hl => ?_)
      exact hj30 _ gmv_42 0 0 r_35 rfl (iv_w (iv_k (by decide) : iv 0 0 0) (by decide)) h_39 hvb hvnx hvba (KS_tr (L := [75]) KS_rf kgv_42 (by decide)) hIv_42 (fPl_r_40.resolve_left (fun q9 => c_43 (Int32.toInt_inj.mp q9))) (hAN) _ _ _ hP hD hS (lv_sub hl [0, 1, 2, 3, 4, 5, 6, 7] rfl)
    · have h_45 : iv 0 0 r_40 := iv_eq c_43 hr_40 (iv_k (by decide) : iv 0 0 0) (by decide)
      exact hj22 gmv_42 r_35 (iv_w h_39 (by decide)) hvb hvnx hvba (KS_tr (L := [75]) KS_rf kgv_42 (by decide)) hIv_42 _ _ _ hP hD hS (lv_sub hl [0, 1, 2, 3, 4, 5] rfl)

set_option maxHeartbeats 4000000 in
set_option maxRecDepth 100000 in
theorem f_chosen (l : Launch) (dC : Nat → ClassId) (dI : Nat → Nat → Nat) (h0 : Nat) (ad : Nat → Nat) (cid : Nat → ClassId) (sg : Nat → Int32) (gm : Nat → Nat → Int32) (lg : Nat → Nat → Int64) (b : Int32) (cs : Int32) (cc : Int32) (hI : MI sg gm) (hvb : iv 0 79 b) (hvcs : iv 0 1 cs) (hvcc : iv (-1) 7 cc) (hbl : b.toInt < (sg 41).toInt) (hac : ACY sg gm lg) (hst : STR sg gm lg) (hPR : PR gm) (hva : VAL gm) (hh1 : 1 ≤ (sg 63).toInt) : MMi l dC dI yX13_chosen wm_X13_chosen ({ frames := 8, cells := 0, slots := 0, locals := 197 }) h0 ad cid [.int b, .int cs, .int cc] sg gm lg (fun r v => ∃ (sg2 : Nat → Int32) (gm2 : Nat → Nat → Int32) (lg2 : Nat → Nat → Int64), v = (sg2, gm2, lg2) ∧ MI sg2 gm2 ∧ KS [] sg sg2 ∧ KS [75] gm gm2 ∧ KS [] lg lg2 ∧ (iv (-1) 31 r) ∧ (r = -1 ∨ CHO sg gm lg b cs cc r)) := by
  intro sz
  refine Met.ofW (cc := cX13_chosen) (maxL := 10) (ret := (some .int)) (by decide) rfl ?_
  intro p e s m args below meth c s₁ B hml hv
  obtain ⟨rfl, hsz, hP, hK, hD0⟩ := hv
  have hx := B.exec
  have hb := B.bytes
  have hr := B.returns
  have hts := atoms_spec (ws := wm_X13_chosen) B.pre
  have htb := fun (w : Cond) (h : w ∈ tb) => hts w (List.mem_cons_of_mem _ h)
  have hown : s.vm.findClass RX13 = some m.cls := findClass_of_methodNamed B.named
  have hlocks := B.notSynchronized
  subst hsz
  have hD := hD0.self (sz := s.heap.size)
  generalize hAe : va_A (mW h0 ad cid sg gm lg) s.heap.size = A at hD ⊢
  have hA : ∀ q : Nat, s.heap.size ≤ q → A q := fun q h => by rw [← hAe]; exact Or.inr h
  have hS : va_S A s.heap s.heap [] := va_S.rf
  have hl := lv_entry ([.ref h0, .int b, .int cs, .int cc]) (n := 10) (Nat.le_of_ble_eq_true rfl)
  rw [lg_entry_eq]
  generalize (lg_sl ([.ref h0, .int b, .int cs, .int cc]) ++ List.replicate (10 - (lg_sl ([.ref h0, .int b, .int cs, .int cc])).length) Slot.unset).toArray = ls at hl ⊢
  have hl : lv_has ls 10 [(0, .ref h0), (1, .int b), (2, .int cs), (3, .int cc)] := hl
  have h63 : iv 1 80 (sg 63) := ⟨hh1, (show iv 0 80 (sg 63) from MI_s hI 63).2⟩
  have hj175 : ∀ (gm_j175 : Nat → Nat → Int32) (x7_175 : Int32) (x6_175 : Int32) (x5_175 : Int32) (x4_175 : Int32) (_ : iv 0 4 x7_175) (_ : iv (-2147483648) 1000000 x5_175) (_ : iv (-1) 31 x4_175) (_ : iv 0 79 b) (_ : iv 0 1 cs) (_ : iv (-1) 7 cc) (_ : KS [75] gm gm_j175) (_ : MI sg gm_j175) (_ : x4_175 = -1 ∨ CHO sg gm lg b cs cc x4_175) (H : Heap) (locs : List Loc) (ls : Array Slot), va_P (dC, dI) vwCl (mW h0 ad cid sg gm_j175 lg) H → va_D A (mW h0 ad cid sg gm_j175 lg) → va_S A s.heap H locs → lv_has ls 10 [(7, .int x7_175), (6, .int x6_175), (5, .int x5_175), (4, .int x4_175), (0, .ref h0), (1, .int b), (2, .int cs), (3, .int cc)] → W p l e (headSpec wm_X13_chosen ({ frames := 8, cells := 0, slots := 0, locals := 197 })).room s m ([.ref h0, .int b, .int cs, .int cc] : List Value).toArray below meth c H locs 0 0 (MQ below (va_Qi (fun r v => ∃ (sg2 : Nat → Int32) (gm2 : Nat → Nat → Int32) (lg2 : Nat → Nat → Int64), v = (sg2, gm2, lg2) ∧ MI sg2 gm2 ∧ KS [] sg sg2 ∧ KS [75] gm gm2 ∧ KS [] lg lg2 ∧ (iv (-1) 31 r) ∧ (r = -1 ∨ CHO sg gm lg b cs cc r)) (MB dC dI h0 ad cid A) A) ([.ref h0, .int b, .int cs, .int cc] : List Value).toArray s 0 0 A) (F0 m 175 ls []) := by
    intro gm_j175 x7_175 x6_175 x5_175 x4_175 hx7_175 hx5_175 hx4_175 hsx1_175 hsx2_175 hsx3_175 hkg_j175 hI_j175 hbs H locs ls hP hD hS hl
    refine lv_iload hx hb dX13_chosen_175 (lv_at hl 3 rfl) ?_
    exact W.iret (v := x4_175) hx hb hr (fun t ht hW => ⟨⟨x4_175, (sg, gm_j175, lg), rfl, ⟨sg, gm_j175, lg, rfl, hI_j175, KS_rf, (KS_tr (L := [75]) KS_rf hkg_j175 (by decide)), KS_rf, hx4_175, (hbs)⟩, by rw [ht]; exact hP, va_K.moved hW.alike hK, hD⟩, hS.F ht⟩) hS.2.2 dX13_chosen_177
  have hj21 : ∀ (n : Nat) (gm_j21 : Nat → Nat → Int32) (x7_21 : Int32) (x6_21 : Int32) (x5_21 : Int32) (x4_21 : Int32) (_ : (4 - x7_21.toInt).toNat = n) (_ : iv 0 4 x7_21) (_ : iv (-2147483648) 1000000 x5_21) (_ : iv (-1) 31 x4_21) (_ : iv 0 79 b) (_ : iv 0 1 cs) (_ : iv (-1) 7 cc) (_ : KS [75] gm gm_j21) (_ : MI sg gm_j21) (_ : x4_21 = -1 ∨ CHO sg gm lg b cs cc x4_21) (H : Heap) (locs : List Loc) (ls : Array Slot), va_P (dC, dI) vwCl (mW h0 ad cid sg gm_j21 lg) H → va_D A (mW h0 ad cid sg gm_j21 lg) → va_S A s.heap H locs → lv_has ls 10 [(7, .int x7_21), (6, .int x6_21), (5, .int x5_21), (4, .int x4_21), (0, .ref h0), (1, .int b), (2, .int cs), (3, .int cc)] → W p l e (headSpec wm_X13_chosen ({ frames := 8, cells := 0, slots := 0, locals := 197 })).room s m ([.ref h0, .int b, .int cs, .int cc] : List Value).toArray below meth c H locs 0 0 (MQ below (va_Qi (fun r v => ∃ (sg2 : Nat → Int32) (gm2 : Nat → Nat → Int32) (lg2 : Nat → Nat → Int64), v = (sg2, gm2, lg2) ∧ MI sg2 gm2 ∧ KS [] sg sg2 ∧ KS [75] gm gm2 ∧ KS [] lg lg2 ∧ (iv (-1) 31 r) ∧ (r = -1 ∨ CHO sg gm lg b cs cc r)) (MB dC dI h0 ad cid A) A) ([.ref h0, .int b, .int cs, .int cc] : List Value).toArray s 0 0 A) (F0 m 21 ls []) := by
    intro n
    induction n using Nat.strongRecOn with
    | ind n ih21 =>
      intro gm_j21 x7_21 x6_21 x5_21 x4_21 hn21 hx7_21 hx5_21 hx4_21 hsx1_21 hsx2_21 hsx3_21 hkg_j21 hI_j21 hbs H locs ls hP hD hS hl
      have hj169 : ∀ (gm_j169 : Nat → Nat → Int32) (x8_169 : Int32) (x5_169 : Int32) (x4_169 : Int32) (_ : iv 0 31 x8_169) (_ : iv 0 3 x7_21) (_ : iv (-2147483648) 1000000 x5_169) (_ : iv (-1) 31 x4_169) (_ : iv 0 79 b) (_ : iv 0 1 cs) (_ : iv 0 7 cc) (_ : KS [75] gm gm_j169) (_ : MI sg gm_j169) (_ : x4_169 = -1 ∨ CHO sg gm lg b cs cc x4_169) (H : Heap) (locs : List Loc) (ls : Array Slot), va_P (dC, dI) vwCl (mW h0 ad cid sg gm_j169 lg) H → va_D A (mW h0 ad cid sg gm_j169 lg) → va_S A s.heap H locs → lv_has ls 10 [(8, .int x8_169), (7, .int x7_21), (6, .int x6_21), (5, .int x5_169), (4, .int x4_169), (0, .ref h0), (1, .int b), (2, .int cs), (3, .int cc)] → W p l e (headSpec wm_X13_chosen ({ frames := 8, cells := 0, slots := 0, locals := 197 })).room s m ([.ref h0, .int b, .int cs, .int cc] : List Value).toArray below meth c H locs 0 0 (MQ below (va_Qi (fun r v => ∃ (sg2 : Nat → Int32) (gm2 : Nat → Nat → Int32) (lg2 : Nat → Nat → Int64), v = (sg2, gm2, lg2) ∧ MI sg2 gm2 ∧ KS [] sg sg2 ∧ KS [75] gm gm2 ∧ KS [] lg lg2 ∧ (iv (-1) 31 r) ∧ (r = -1 ∨ CHO sg gm lg b cs cc r)) (MB dC dI h0 ad cid A) A) ([.ref h0, .int b, .int cs, .int cc] : List Value).toArray s 0 0 A) (F0 m 169 ls []) := by
        intro gm_j169 x8_169 x5_169 x4_169 hx8_169 hsx7_169 hx5_169 hx4_169 hsx1_169 hsx2_169 hsx3_169 hkg_j169 hI_j169 hbs H locs ls hP hD hS hl
        obtain ⟨z_1, ez_1⟩ : ∃ z : Int32, z = x7_21 + 1 := ⟨_, rfl⟩
        have hz_1 : iv 1 4 z_1 := iv_of ez_1 (iv_add hsx7_169 (iv_k (by decide) : iv 1 1 1) (by decide))
        have tz_1 : z_1.toInt = x7_21.toInt + 1 := by rw [ez_1]; exact iv_addE hsx7_169 (iv_k (by decide) : iv 1 1 1) (by decide)
        refine lv_iinc (v := z_1) (lv' := [(7, .int z_1), (8, .int x8_169), (6, .int x6_21), (5, .int x5_169), (4, .int x4_169), (0, .ref h0), (1, .int b), (2, .int cs), (3, .int cc)]) hx hb dX13_chosen_169 hl (k := 1) rfl ez_1.symm (by decide) rfl (fun ls hl => ?_)
        refine lv_goto (tgt := 21) hx hb dX13_chosen_172 (by decide) ?_
        exact ih21 _ (by rw [← hn21]; exact (iv_meas tz_1 hsx7_169 (by decide))) gm_j169 z_1 x6_21 x5_169 x4_169 rfl (iv_w hz_1 (by decide)) hx5_169 hx4_169 hsx1_169 hsx2_169 (iv_w hsx3_169 (by decide)) (KS_tr (L := [75]) KS_rf hkg_j169 (by decide)) hI_j169 (hbs) _ _ _ hP hD hS (lv_sub hl [0, 2, 3, 4, 5, 6, 7, 8] rfl)
      have hj143 : ∀ (gm_j143 : Nat → Nat → Int32) (x8_143 : Int32) (y0_143 : Int32) (_ : iv 0 31 x8_143) (_ : iv 0 3 x7_21) (_ : iv (-2147483648) 1000000 x5_21) (_ : iv (-1) 31 x4_21) (_ : iv 0 79 b) (_ : iv 0 1 cs) (_ : iv 0 7 cc) (_ : KS [75] gm gm_j143) (_ : MI sg gm_j143) (_ : x4_21 = -1 ∨ CHO sg gm lg b cs cc x4_21) (_ : y0_143 = -1 ∨ CHO sg gm lg b cs cc x8_143) (H : Heap) (locs : List Loc) (ls : Array Slot), va_P (dC, dI) vwCl (mW h0 ad cid sg gm_j143 lg) H → va_D A (mW h0 ad cid sg gm_j143 lg) → va_S A s.heap H locs → lv_has ls 10 [(8, .int x8_143), (7, .int x7_21), (6, .int x6_21), (5, .int x5_21), (4, .int x4_21), (0, .ref h0), (1, .int b), (2, .int cs), (3, .int cc)] → W p l e (headSpec wm_X13_chosen ({ frames := 8, cells := 0, slots := 0, locals := 197 })).room s m ([.ref h0, .int b, .int cs, .int cc] : List Value).toArray below meth c H locs 0 0 (MQ below (va_Qi (fun r v => ∃ (sg2 : Nat → Int32) (gm2 : Nat → Nat → Int32) (lg2 : Nat → Nat → Int64), v = (sg2, gm2, lg2) ∧ MI sg2 gm2 ∧ KS [] sg sg2 ∧ KS [75] gm gm2 ∧ KS [] lg lg2 ∧ (iv (-1) 31 r) ∧ (r = -1 ∨ CHO sg gm lg b cs cc r)) (MB dC dI h0 ad cid A) A) ([.ref h0, .int b, .int cs, .int cc] : List Value).toArray s 0 0 A) (F0 m 143 ls [.int y0_143]) := by
        intro gm_j143 x8_143 y0_143 hx8_143 hsx7_143 hsx5_143 hsx4_143 hsx1_143 hsx2_143 hsx3_143 hkg_j143 hI_j143 hbs hw9 H locs ls hP hD hS hl
        refine lv_istore (lv' := [(9, .int y0_143), (8, .int x8_143), (7, .int x7_21), (6, .int x6_21), (5, .int x5_21), (4, .int x4_21), (0, .ref h0), (1, .int b), (2, .int cs), (3, .int cc)]) hx hb dX13_chosen_143 hl (by decide) rfl (fun ls hl => ?_)
        refine lv_iload hx hb dX13_chosen_145 (lv_at hl 0 rfl) ?_
        refine lv_iconst (v := (-1)) hx hb dX13_chosen_147 (by decide) ?_
        refine lv_icmp_eq (tgt := 169) hx hb dX13_chosen_148 (by decide) (fun c_2 => ?_) (fun c_2 => ?_)
        · have h_3 : iv (-1) (-1) y0_143 := iv_eq c_2 (iv_all y0_143) (iv_k (by decide) : iv (-1) (-1) (-1)) (by decide)
          exact hj169 gm_j143 x8_143 x5_21 x4_21 hx8_143 hsx7_143 hsx5_143 hsx4_143 hsx1_143 hsx2_143 hsx3_143 (KS_tr (L := [75]) KS_rf hkg_j143 (by decide)) hI_j143 (hbs) _ _ _ hP hD hS (lv_sub hl [1, 2, 3, 4, 5, 6, 7, 8, 9] rfl)
        · have d_4 : ¬ (y0_143 : Int32).toInt = (-1) := lv_neT c_2 rfl
          refine lv_iload hx hb dX13_chosen_151 (lv_at hl 0 rfl) ?_
          refine lv_iload hx hb dX13_chosen_153 (lv_at hl 4 rfl) ?_
          refine lv_icmp_lt (tgt := 161) hx hb dX13_chosen_155 (by decide) (fun c_5 => ?_) (fun c_5 => ?_)
          · have d_6 : (y0_143 : Int32).toInt < (x5_21 : Int32).toInt := Int32.lt_iff_toInt_lt.mp c_5
            have h_7 : iv (-2147483648) 999999 y0_143 := iv_ltL c_5 (iv_all y0_143) hsx5_143 (by decide)
            have h_8 : iv (-2147483647) 1000000 x5_21 := iv_ltR c_5 (iv_all y0_143) hsx5_143 (by decide)
            refine lv_iload hx hb dX13_chosen_161 (lv_at hl 1 rfl) ?_
            refine lv_istore (lv' := [(4, .int x8_143), (9, .int y0_143), (8, .int x8_143), (7, .int x7_21), (6, .int x6_21), (5, .int x5_21), (0, .ref h0), (1, .int b), (2, .int cs), (3, .int cc)]) hx hb dX13_chosen_163 hl (by decide) rfl (fun ls hl => ?_)
            refine lv_iload hx hb dX13_chosen_165 (lv_at hl 1 rfl) ?_
            refine lv_istore (lv' := [(5, .int y0_143), (4, .int x8_143), (9, .int y0_143), (8, .int x8_143), (7, .int x7_21), (6, .int x6_21), (0, .ref h0), (1, .int b), (2, .int cs), (3, .int cc)]) hx hb dX13_chosen_167 hl (by decide) rfl (fun ls hl => ?_)
            exact hj169 gm_j143 x8_143 y0_143 x8_143 hx8_143 hsx7_143 (iv_w h_7 (by decide)) (iv_w hx8_143 (by decide)) hsx1_143 hsx2_143 hsx3_143 (KS_tr (L := [75]) KS_rf hkg_j143 (by decide)) hI_j143 (Or.inr (hw9.resolve_left c_2)) _ _ _ hP hD hS (lv_sub hl [3, 4, 5, 0, 1, 6, 7, 8, 9] rfl)
          · have d_9 : (x5_21 : Int32).toInt ≤ (y0_143 : Int32).toInt := Int32.le_iff_toInt_le.mp (i32_ge c_5)
            refine lv_goto (tgt := 169) hx hb dX13_chosen_158 (by decide) ?_
            exact hj169 gm_j143 x8_143 x5_21 x4_21 hx8_143 hsx7_143 hsx5_143 hsx4_143 hsx1_143 hsx2_143 hsx3_143 (KS_tr (L := [75]) KS_rf hkg_j143 (by decide)) hI_j143 (hbs) _ _ _ hP hD hS (lv_sub hl [1, 2, 3, 4, 5, 6, 7, 8, 9] rfl)
      have hj96 : ∀ (gm_j96 : Nat → Nat → Int32) (x8_96 : Int32) (_ : iv 0 31 x8_96) (_ : iv 0 3 x7_21) (_ : iv (-2147483648) 1000000 x5_21) (_ : iv (-1) 31 x4_21) (_ : iv 0 79 b) (_ : iv 0 1 cs) (_ : iv 0 7 cc) (_ : KS [75] gm gm_j96) (_ : MI sg gm_j96) (_ : x4_21 = -1 ∨ CHO sg gm lg b cs cc x4_21) (_ : 0 ≤ cc.toInt) (H : Heap) (locs : List Loc) (ls : Array Slot), va_P (dC, dI) vwCl (mW h0 ad cid sg gm_j96 lg) H → va_D A (mW h0 ad cid sg gm_j96 lg) → va_S A s.heap H locs → lv_has ls 10 [(8, .int x8_96), (7, .int x7_21), (6, .int x6_21), (5, .int x5_21), (4, .int x4_21), (0, .ref h0), (1, .int b), (2, .int cs), (3, .int cc)] → W p l e (headSpec wm_X13_chosen ({ frames := 8, cells := 0, slots := 0, locals := 197 })).room s m ([.ref h0, .int b, .int cs, .int cc] : List Value).toArray below meth c H locs 0 0 (MQ below (va_Qi (fun r v => ∃ (sg2 : Nat → Int32) (gm2 : Nat → Nat → Int32) (lg2 : Nat → Nat → Int64), v = (sg2, gm2, lg2) ∧ MI sg2 gm2 ∧ KS [] sg sg2 ∧ KS [75] gm gm2 ∧ KS [] lg lg2 ∧ (iv (-1) 31 r) ∧ (r = -1 ∨ CHO sg gm lg b cs cc r)) (MB dC dI h0 ad cid A) A) ([.ref h0, .int b, .int cs, .int cc] : List Value).toArray s 0 0 A) (F0 m 96 ls []) := by
        intro gm_j96 x8_96 hx8_96 hsx7_96 hsx5_96 hsx4_96 hsx1_96 hsx2_96 hsx3_96 hkg_j96 hI_j96 hbs hcc H locs ls hP hD hS hl
        refine lv_iload_n hx hb dX13_chosen_96 rfl (lv_at hl 7 rfl) ?_
        refine lv_if_eq (tgt := 123) hx hb dX13_chosen_97 (by decide) (fun c_10 => ?_) (fun c_10 => ?_)
        · have h_11 : iv 0 0 cs := iv_eq c_10 hsx2_96 (iv_k (by decide) : iv 0 0 0) (by decide)
          refine lv_aload_n hx hb dX13_chosen_123 rfl (lv_at hl 5 rfl) ?_
          refine lv_iload_n hx hb dX13_chosen_124 rfl (lv_at hl 6 rfl) ?_
          refine lv_aload_n hx hb dX13_chosen_125 rfl (lv_at hl 5 rfl) ?_
          refine mr_get (v := .ref (ad 16)) hx hb htb inX13 hown hK hP 16 (by decide) (htb _ kw_175) rfl dX13_chosen_126 ?_
          refine lv_iload hx hb dX13_chosen_129 (lv_at hl 0 rfl) ?_
          refine mr_iald hx hb hK hP 15 (k := 16) rfl rfl rfl (show vp_in x8_96 32 from (iv_in hx8_96 (by decide))) dX13_chosen_131 ?_
          refine lv_topi (fun z_12 ez_12 => ?_)
          have hz_12 : iv 0 3 z_12 := iv_of ez_12 (MI_a hI_j96 16 hx8_96 (by decide))
          have ez_12 := ez_12.trans (congrFun (hkg_j96 16 (by decide)) _)
          refine lv_aload_n hx hb dX13_chosen_132 rfl (lv_at hl 5 rfl) ?_
          refine mr_get (v := .ref (ad 17)) hx hb htb inX13 hown hK hP 17 (by decide) (htb _ kw_176) rfl dX13_chosen_133 ?_
          refine lv_iconst (v := 3) hx hb dX13_chosen_136 (by decide) ?_
          refine lv_iload hx hb dX13_chosen_137 (lv_at hl 0 rfl) ?_
          refine lv_imul hx hb dX13_chosen_139 ?_
          refine lv_topi (fun z_13 ez_13 => ?_)
          have hz_13 : iv 0 93 z_13 := iv_of ez_13 (iv_mul (iv_k (by decide) : iv 3 3 3) hx8_96 (by decide))
          have tz_13 : z_13.toInt = 3 * (x8_96 : Int32).toInt := by rw [ez_13]; exact iv_mulE (iv_k (by decide) : iv 3 3 3) hx8_96 (by decide)
          refine mr_calli (rest := []) ⟨hx, hb, hml, hown, htb⟩ (f_sum17 l dC dI h0 ad cid sg gm_j96 lg b z_12 z_13 hI_j96 hsx1_96 hz_12 hz_13 (by have := i32_0; have := i32_1; have := i32_2; have := i32_m1; have := (show iv 0 80 (sg 41) from MI_s hI 41).1; have := (show iv 0 80 (sg 41) from MI_s hI 41).2; have := (hsx1_96).1; have := (hsx1_96).2; have := (h_11).1; have := (h_11).2; have := (hsx3_96).1; have := (hsx3_96).2; have := (h63).1; have := (h63).2; have := (hsx7_96).1; have := (hsx7_96).2; have := (hsx5_96).1; have := (hsx5_96).2; have := (hsx4_96).1; have := (hsx4_96).2; have := (hx8_96).1; have := (hx8_96).2; have := (hz_12).1; have := (hz_12).2; have := (hz_13).1; have := (hz_13).2; omega) (ACY_k (DK_of (show KS [] sg sg from KS_rf) (show KS [75] gm gm_j96 from (KS_tr (L := [75]) KS_rf hkg_j96 (by decide))) (show KS [] lg lg from KS_rf) (by decide) (by decide) (by decide)) hac) (STR_k (DK_of (show KS [] sg sg from KS_rf) (show KS [75] gm gm_j96 from (KS_tr (L := [75]) KS_rf hkg_j96 (by decide))) (show KS [] lg lg from KS_rf) (by decide) (by decide) (by decide)).1 hst) (by have q9 : PR gm := hPR; unfold PR at *; rw [(hkg_j96 6 (by decide))]; exact q9) (VAL_k (hkg_j96 70 (by decide)) (hkg_j96 71 (by decide)) (hkg_j96 72 (by decide)) (hkg_j96 73 (by decide)) hva) (by have := i32_0; have := i32_1; have := i32_2; have := i32_m1; have := (show iv 0 80 (sg 63) from MI_s hI 63).1; have := (show iv 0 80 (sg 63) from MI_s hI 63).2; have := (hsx1_96).1; have := (hsx1_96).2; have := (h_11).1; have := (h_11).2; have := (hsx3_96).1; have := (hsx3_96).2; have := (h63).1; have := (h63).2; have := (hsx7_96).1; have := (hsx7_96).2; have := (hsx5_96).1; have := (hsx5_96).2; have := (hsx4_96).1; have := (hsx4_96).2; have := (hx8_96).1; have := (hx8_96).2; have := (hz_12).1; have := (hz_12).2; have := (hz_13).1; have := (hz_13).2; omega)) (cwV 4 htb (gd_V kw_1220 kw_1221 kw_1222 kw_5 kw_1623) rfl rfl rfl (by decide +kernel) ⟨Nat.le_of_ble_eq_true rfl, Nat.le_of_ble_eq_true rfl⟩) rfl hl.1 rfl (Nat.le_of_ble_eq_true rfl) dX13_chosen_140 ⟨Nat.zero_le _, Nat.zero_le _⟩ hK hP hD hS hA (fun r_14 u_15 H locs hw hP hD hS => ?_)
          obtain ⟨sgv_16, gmv_16, lgv_16, rfl, hIv_16, ksv_16, kgv_16, klv_16, fSm_r_14⟩ := hw
          obtain rfl := KS_nil ksv_16
          obtain rfl := KS_nil klv_16
          have hP : va_P (dC, dI) vwCl (mW h0 ad cid sg gmv_16 lg) H := hP
          have hD : va_D A (mW h0 ad cid sg gmv_16 lg) := hD
          exact hj143 gmv_16 x8_96 r_14 hx8_96 hsx7_96 hsx5_96 hsx4_96 hsx1_96 (iv_w h_11 (by decide)) hsx3_96 (KS_tr (L := [75]) (KS_tr (L := [75]) KS_rf hkg_j96 (by decide)) kgv_16 (by decide)) hIv_16 (hbs) (fSm_r_14.imp id (fun q9 => ⟨hx8_96, hcc, fun q7 => absurd c_10 q7, fun _ => (by rw [← ez_12]; exact ARGN_r (DK_of (show KS [] sg sg from KS_rf) (show KS [75] gm gm_j96 from (KS_tr (L := [75]) KS_rf hkg_j96 (by decide))) (show KS [] lg lg from KS_rf) (by decide) (by decide) (by decide)) q9)⟩)) _ _ _ hP hD hS (lv_sub hl [0, 1, 2, 3, 4, 5, 6, 7, 8] rfl)
        · have h_17 : iv 1 1 cs := iv_neL c_10 hsx2_96 (by decide)
          refine lv_aload_n hx hb dX13_chosen_100 rfl (lv_at hl 5 rfl) ?_
          refine lv_iload_n hx hb dX13_chosen_101 rfl (lv_at hl 6 rfl) ?_
          refine lv_aload_n hx hb dX13_chosen_102 rfl (lv_at hl 5 rfl) ?_
          refine mr_get (v := .ref (ad 8)) hx hb htb inX13 hown hK hP 8 (by decide) (htb _ kw_167) rfl dX13_chosen_103 ?_
          refine lv_iload hx hb dX13_chosen_106 (lv_at hl 0 rfl) ?_
          refine mr_iald hx hb hK hP 7 (k := 8) rfl rfl rfl (show vp_in x8_96 32 from (iv_in hx8_96 (by decide))) dX13_chosen_108 ?_
          refine lv_topi (fun z_18 ez_18 => ?_)
          have hz_18 : iv 0 3 z_18 := iv_of ez_18 (MI_a hI_j96 8 hx8_96 (by decide))
          have ez_18 := ez_18.trans (congrFun (hkg_j96 8 (by decide)) _)
          refine lv_aload_n hx hb dX13_chosen_109 rfl (lv_at hl 5 rfl) ?_
          refine mr_get (v := .ref (ad 9)) hx hb htb inX13 hown hK hP 9 (by decide) (htb _ kw_168) rfl dX13_chosen_110 ?_
          refine lv_iconst (v := 3) hx hb dX13_chosen_113 (by decide) ?_
          refine lv_iload hx hb dX13_chosen_114 (lv_at hl 0 rfl) ?_
          refine lv_imul hx hb dX13_chosen_116 ?_
          refine lv_topi (fun z_19 ez_19 => ?_)
          have hz_19 : iv 0 93 z_19 := iv_of ez_19 (iv_mul (iv_k (by decide) : iv 3 3 3) hx8_96 (by decide))
          have tz_19 : z_19.toInt = 3 * (x8_96 : Int32).toInt := by rw [ez_19]; exact iv_mulE (iv_k (by decide) : iv 3 3 3) hx8_96 (by decide)
          refine mr_calli (rest := []) ⟨hx, hb, hml, hown, htb⟩ (f_sum9 l dC dI h0 ad cid sg gm_j96 lg b z_18 z_19 hI_j96 hsx1_96 hz_18 hz_19 (by have := i32_0; have := i32_1; have := i32_2; have := i32_m1; have := (show iv 0 80 (sg 41) from MI_s hI 41).1; have := (show iv 0 80 (sg 41) from MI_s hI 41).2; have := (hsx1_96).1; have := (hsx1_96).2; have := (h_17).1; have := (h_17).2; have := (hsx3_96).1; have := (hsx3_96).2; have := (h63).1; have := (h63).2; have := (hsx7_96).1; have := (hsx7_96).2; have := (hsx5_96).1; have := (hsx5_96).2; have := (hsx4_96).1; have := (hsx4_96).2; have := (hx8_96).1; have := (hx8_96).2; have := (hz_18).1; have := (hz_18).2; have := (hz_19).1; have := (hz_19).2; omega) (ACY_k (DK_of (show KS [] sg sg from KS_rf) (show KS [75] gm gm_j96 from (KS_tr (L := [75]) KS_rf hkg_j96 (by decide))) (show KS [] lg lg from KS_rf) (by decide) (by decide) (by decide)) hac) (STR_k (DK_of (show KS [] sg sg from KS_rf) (show KS [75] gm gm_j96 from (KS_tr (L := [75]) KS_rf hkg_j96 (by decide))) (show KS [] lg lg from KS_rf) (by decide) (by decide) (by decide)).1 hst) (by have q9 : PR gm := hPR; unfold PR at *; rw [(hkg_j96 6 (by decide))]; exact q9) (VAL_k (hkg_j96 70 (by decide)) (hkg_j96 71 (by decide)) (hkg_j96 72 (by decide)) (hkg_j96 73 (by decide)) hva) (by have := i32_0; have := i32_1; have := i32_2; have := i32_m1; have := (show iv 0 80 (sg 63) from MI_s hI 63).1; have := (show iv 0 80 (sg 63) from MI_s hI 63).2; have := (hsx1_96).1; have := (hsx1_96).2; have := (h_17).1; have := (h_17).2; have := (hsx3_96).1; have := (hsx3_96).2; have := (h63).1; have := (h63).2; have := (hsx7_96).1; have := (hsx7_96).2; have := (hsx5_96).1; have := (hsx5_96).2; have := (hsx4_96).1; have := (hsx4_96).2; have := (hx8_96).1; have := (hx8_96).2; have := (hz_18).1; have := (hz_18).2; have := (hz_19).1; have := (hz_19).2; omega)) (cwV 4 htb (gd_V kw_1220 kw_1221 kw_1222 kw_5 kw_1623) rfl rfl rfl (by decide +kernel) ⟨Nat.le_of_ble_eq_true rfl, Nat.le_of_ble_eq_true rfl⟩) rfl hl.1 rfl (Nat.le_of_ble_eq_true rfl) dX13_chosen_117 ⟨Nat.zero_le _, Nat.zero_le _⟩ hK hP hD hS hA (fun r_20 u_21 H locs hw hP hD hS => ?_)
          obtain ⟨sgv_22, gmv_22, lgv_22, rfl, hIv_22, ksv_22, kgv_22, klv_22, fSm_r_20⟩ := hw
          obtain rfl := KS_nil ksv_22
          obtain rfl := KS_nil klv_22
          have hP : va_P (dC, dI) vwCl (mW h0 ad cid sg gmv_22 lg) H := hP
          have hD : va_D A (mW h0 ad cid sg gmv_22 lg) := hD
          refine lv_goto (tgt := 143) hx hb dX13_chosen_120 (by decide) ?_
          exact hj143 gmv_22 x8_96 r_20 hx8_96 hsx7_96 hsx5_96 hsx4_96 hsx1_96 (iv_w h_17 (by decide)) hsx3_96 (KS_tr (L := [75]) (KS_tr (L := [75]) KS_rf hkg_j96 (by decide)) kgv_22 (by decide)) hIv_22 (hbs) (fSm_r_20.imp id (fun q9 => ⟨hx8_96, hcc, fun _ => (by rw [← ez_18]; exact ARGN_r (DK_of (show KS [] sg sg from KS_rf) (show KS [75] gm gm_j96 from (KS_tr (L := [75]) KS_rf hkg_j96 (by decide))) (show KS [] lg lg from KS_rf) (by decide) (by decide) (by decide)) q9), fun q7 => absurd q7 c_10⟩)) _ _ _ hP hD hS (lv_sub hl [0, 1, 2, 3, 4, 5, 6, 7, 8] rfl)
      have hj87 : ∀ (gm_j87 : Nat → Nat → Int32) (x8_87 : Int32) (y0_87 : Int32) (y2_87 : Int32) (_ : iv 0 31 x8_87) (_ : iv 0 3 x7_21) (_ : iv (-2147483648) 1000000 x5_21) (_ : iv (-1) 31 x4_21) (_ : iv 0 79 b) (_ : iv 0 0 cs) (_ : iv 0 7 cc) (_ : iv 0 1 y0_87) (_ : iv 0 31 y2_87) (_ : KS [75] gm gm_j87) (_ : MI sg gm_j87) (_ : x4_21 = -1 ∨ CHO sg gm lg b cs cc x4_21) (_ : 0 ≤ cc.toInt) (H : Heap) (locs : List Loc) (ls : Array Slot), va_P (dC, dI) vwCl (mW h0 ad cid sg gm_j87 lg) H → va_D A (mW h0 ad cid sg gm_j87 lg) → va_S A s.heap H locs → lv_has ls 10 [(8, .int x8_87), (7, .int x7_21), (6, .int x6_21), (5, .int x5_21), (4, .int x4_21), (0, .ref h0), (1, .int b), (2, .int cs), (3, .int cc)] → W p l e (headSpec wm_X13_chosen ({ frames := 8, cells := 0, slots := 0, locals := 197 })).room s m ([.ref h0, .int b, .int cs, .int cc] : List Value).toArray below meth c H locs 0 0 (MQ below (va_Qi (fun r v => ∃ (sg2 : Nat → Int32) (gm2 : Nat → Nat → Int32) (lg2 : Nat → Nat → Int64), v = (sg2, gm2, lg2) ∧ MI sg2 gm2 ∧ KS [] sg sg2 ∧ KS [75] gm gm2 ∧ KS [] lg lg2 ∧ (iv (-1) 31 r) ∧ (r = -1 ∨ CHO sg gm lg b cs cc r)) (MB dC dI h0 ad cid A) A) ([.ref h0, .int b, .int cs, .int cc] : List Value).toArray s 0 0 A) (F0 m 87 ls [.int y0_87, .int x6_21, .int y2_87, .ref h0]) := by
        intro gm_j87 x8_87 y0_87 y2_87 hx8_87 hsx7_87 hsx5_87 hsx4_87 hsx1_87 hsx2_87 hsx3_87 hy0_87 hy2_87 hkg_j87 hI_j87 hbs hcc H locs ls hP hD hS hl
        refine mr_calli (rest := []) ⟨hx, hb, hml, hown, htb⟩ (a_isFactory l dC dI h0 ad cid sg gm_j87 lg y2_87 x6_21 y0_87 hI_j87 hy2_87 hy0_87) (cwV 3 htb (gd_V kw_1213 kw_1214 kw_1215 kw_5 kw_1621) rfl rfl rfl (by decide +kernel) ⟨Nat.le_of_ble_eq_true rfl, Nat.le_of_ble_eq_true rfl⟩) rfl hl.1 rfl (Nat.le_of_ble_eq_true rfl) dX13_chosen_87 ⟨Nat.zero_le _, Nat.zero_le _⟩ hK hP hD hS hA (fun r_23 u_24 H locs hw hP hD hS => ?_)
        obtain ⟨hr_23, rfl⟩ := hw
        have hP : va_P (dC, dI) vwCl (mW h0 ad cid sg gm_j87 lg) H := hP
        have hD : va_D A (mW h0 ad cid sg gm_j87 lg) := hD
        refine lv_if_ne (tgt := 96) hx hb dX13_chosen_90 (by decide) (fun c_25 => ?_) (fun c_25 => ?_)
        · have h_26 : iv 1 1 r_23 := iv_neL c_25 hr_23 (by decide)
          exact hj96 gm_j87 x8_87 hx8_87 hsx7_87 hsx5_87 hsx4_87 hsx1_87 (iv_w hsx2_87 (by decide)) hsx3_87 (KS_tr (L := [75]) KS_rf hkg_j87 (by decide)) hI_j87 (hbs) (hcc) _ _ _ hP hD hS (lv_sub hl [0, 1, 2, 3, 4, 5, 6, 7, 8] rfl)
        · have h_27 : iv 0 0 r_23 := iv_eq c_25 hr_23 (iv_k (by decide) : iv 0 0 0) (by decide)
          refine lv_goto (tgt := 169) hx hb dX13_chosen_93 (by decide) ?_
          exact hj169 gm_j87 x8_87 x5_21 x4_21 hx8_87 hsx7_87 hsx5_87 hsx4_87 hsx1_87 (iv_w hsx2_87 (by decide)) hsx3_87 (KS_tr (L := [75]) KS_rf hkg_j87 (by decide)) hI_j87 (hbs) _ _ _ hP hD hS (lv_sub hl [0, 1, 2, 3, 4, 5, 6, 7, 8] rfl)
      have hj47 : ∀ (gm_j47 : Nat → Nat → Int32) (y0_47 : Int32) (_ : iv 0 4 x7_21) (_ : iv (-2147483648) 1000000 x5_21) (_ : iv (-1) 31 x4_21) (_ : iv 0 79 b) (_ : iv 0 1 cs) (_ : iv 0 7 cc) (_ : iv 0 4 y0_47) (_ : iv 0 4 x7_21) (_ : KS [75] gm gm_j47) (_ : MI sg gm_j47) (_ : x4_21 = -1 ∨ CHO sg gm lg b cs cc x4_21) (_ : 0 ≤ cc.toInt) (H : Heap) (locs : List Loc) (ls : Array Slot), va_P (dC, dI) vwCl (mW h0 ad cid sg gm_j47 lg) H → va_D A (mW h0 ad cid sg gm_j47 lg) → va_S A s.heap H locs → lv_has ls 10 [(7, .int x7_21), (6, .int x6_21), (5, .int x5_21), (4, .int x4_21), (0, .ref h0), (1, .int b), (2, .int cs), (3, .int cc)] → W p l e (headSpec wm_X13_chosen ({ frames := 8, cells := 0, slots := 0, locals := 197 })).room s m ([.ref h0, .int b, .int cs, .int cc] : List Value).toArray below meth c H locs 0 0 (MQ below (va_Qi (fun r v => ∃ (sg2 : Nat → Int32) (gm2 : Nat → Nat → Int32) (lg2 : Nat → Nat → Int64), v = (sg2, gm2, lg2) ∧ MI sg2 gm2 ∧ KS [] sg sg2 ∧ KS [75] gm gm2 ∧ KS [] lg lg2 ∧ (iv (-1) 31 r) ∧ (r = -1 ∨ CHO sg gm lg b cs cc r)) (MB dC dI h0 ad cid A) A) ([.ref h0, .int b, .int cs, .int cc] : List Value).toArray s 0 0 A) (F0 m 47 ls [.int y0_47, .int x7_21]) := by
        intro gm_j47 y0_47 hsx7_47 hsx5_47 hsx4_47 hsx1_47 hsx2_47 hsx3_47 hy0_47 hsy1_47 hkg_j47 hI_j47 hbs hcc H locs ls hP hD hS hl
        refine lv_icmp_ge (tgt := 175) hx hb dX13_chosen_47 (by decide) (fun c_28 => ?_) (fun c_28 => ?_)
        · have d_29 : (y0_47 : Int32).toInt ≤ (x7_21 : Int32).toInt := Int32.le_iff_toInt_le.mp c_28
          exact hj175 gm_j47 x7_21 x6_21 x5_21 x4_21 hsy1_47 hsx5_47 hsx4_47 hsx1_47 hsx2_47 (iv_w hsx3_47 (by decide)) (KS_tr (L := [75]) KS_rf hkg_j47 (by decide)) hI_j47 (hbs) _ _ _ hP hD hS (lv_sub hl [0, 1, 2, 3, 4, 5, 6, 7] rfl)
        · have d_30 : (x7_21 : Int32).toInt < (y0_47 : Int32).toInt := Int32.lt_iff_toInt_lt.mp (i32_lt c_28)
          have h_31 : iv 0 3 x7_21 := iv_ltL (i32_lt c_28) hsy1_47 hy0_47 (by decide)
          have h_32 : iv 1 4 y0_47 := iv_ltR (i32_lt c_28) hsy1_47 hy0_47 (by decide)
          refine lv_iconst (v := 4) hx hb dX13_chosen_50 (by decide) ?_
          refine lv_iload_n hx hb dX13_chosen_51 rfl (lv_at hl 7 rfl) ?_
          refine lv_imul hx hb dX13_chosen_52 ?_
          refine lv_topi (fun z_33 ez_33 => ?_)
          have hz_33 : iv 0 28 z_33 := iv_of ez_33 (iv_mul (iv_k (by decide) : iv 4 4 4) hsx3_47 (by decide))
          have tz_33 : z_33.toInt = 4 * (cc : Int32).toInt := by rw [ez_33]; exact iv_mulE (iv_k (by decide) : iv 4 4 4) hsx3_47 (by decide)
          refine lv_iload hx hb dX13_chosen_53 (lv_at hl 0 rfl) ?_
          refine lv_iadd hx hb dX13_chosen_55 ?_
          refine lv_topi (fun z_34 ez_34 => ?_)
          have hz_34 : iv 0 31 z_34 := iv_of ez_34 (iv_add hz_33 h_31 (by decide))
          have tz_34 : z_34.toInt = (z_33 : Int32).toInt + (x7_21 : Int32).toInt := by rw [ez_34]; exact iv_addE hz_33 h_31 (by decide)
          refine lv_istore (lv' := [(8, .int z_34), (7, .int x7_21), (6, .int x6_21), (5, .int x5_21), (4, .int x4_21), (0, .ref h0), (1, .int b), (2, .int cs), (3, .int cc)]) hx hb dX13_chosen_56 hl (by decide) rfl (fun ls hl => ?_)
          refine lv_iload_n hx hb dX13_chosen_58 rfl (lv_at hl 7 rfl) ?_
          refine lv_if_ne (tgt := 96) hx hb dX13_chosen_59 (by decide) (fun c_35 => ?_) (fun c_35 => ?_)
          · have h_36 : iv 1 1 cs := iv_neL c_35 hsx2_47 (by decide)
            exact hj96 gm_j47 z_34 hz_34 h_31 hsx5_47 hsx4_47 hsx1_47 (iv_w h_36 (by decide)) hsx3_47 (KS_tr (L := [75]) KS_rf hkg_j47 (by decide)) hI_j47 (hbs) (hcc) _ _ _ hP hD hS (lv_sub hl [0, 1, 2, 3, 4, 5, 6, 7, 8] rfl)
          · have h_37 : iv 0 0 cs := iv_eq c_35 hsx2_47 (iv_k (by decide) : iv 0 0 0) (by decide)
            refine lv_aload_n hx hb dX13_chosen_62 rfl (lv_at hl 5 rfl) ?_
            refine lv_iload hx hb dX13_chosen_63 (lv_at hl 0 rfl) ?_
            refine lv_iload hx hb dX13_chosen_65 (lv_at hl 2 rfl) ?_
            refine lv_aload_n hx hb dX13_chosen_67 rfl (lv_at hl 5 rfl) ?_
            refine mr_get (v := .ref (ad 68)) hx hb htb inX13 hown hK hP 68 (by decide) (htb _ kw_217) rfl dX13_chosen_68 ?_
            refine lv_aload_n hx hb dX13_chosen_71 rfl (lv_at hl 5 rfl) ?_
            refine mr_get (v := .int (sg 63)) hx hb htb inX13 hown hK hP 63 (by decide) (htb _ kw_1160) rfl dX13_chosen_72 ?_
            refine lv_iconst (v := 1) hx hb dX13_chosen_75 (by decide) ?_
            refine lv_isub hx hb dX13_chosen_76 ?_
            refine lv_topi (fun z_38 ez_38 => ?_)
            have hz_38 : iv 0 79 z_38 := iv_of ez_38 (iv_sub h63 (iv_k (by decide) : iv 1 1 1) (by decide))
            have tz_38 : z_38.toInt = ((sg 63) : Int32).toInt - 1 := by rw [ez_38]; exact iv_subE h63 (iv_k (by decide) : iv 1 1 1) (by decide)
            refine mr_iald hx hb hK hP 53 (k := 68) rfl rfl rfl (show vp_in z_38 81 from (iv_in hz_38 (by decide))) dX13_chosen_77 ?_
            refine lv_topi (fun z_39 ez_39 => ?_)
            have hz_39 : iv (-1) 59 z_39 := iv_of ez_39 (MI_a hI_j47 68 hz_38 (by decide))
            have ez_39 := ez_39.trans (congrFun (hkg_j47 68 (by decide)) _)
            refine lv_iconst (v := (-1)) hx hb dX13_chosen_78 (by decide) ?_
            refine lv_icmp_ne (tgt := 86) hx hb dX13_chosen_79 (by decide) (fun c_40 => ?_) (fun c_40 => ?_)
            · have h_41 : iv 0 59 z_39 := iv_neL c_40 hz_39 (by decide)
              refine lv_iconst (v := 0) hx hb dX13_chosen_86 (by decide) ?_
              exact hj87 gm_j47 z_34 0 z_34 hz_34 h_31 hsx5_47 hsx4_47 hsx1_47 h_37 hsx3_47 (iv_w (iv_k (by decide) : iv 0 0 0) (by decide)) hz_34 (KS_tr (L := [75]) KS_rf hkg_j47 (by decide)) hI_j47 (hbs) (hcc) _ _ _ hP hD hS (lv_sub hl [0, 1, 2, 3, 4, 5, 6, 7, 8] rfl)
            · have h_42 : iv (-1) (-1) z_39 := iv_eq c_40 hz_39 (iv_k (by decide) : iv (-1) (-1) (-1)) (by decide)
              refine lv_iconst (v := 1) hx hb dX13_chosen_82 (by decide) ?_
              refine lv_goto (tgt := 87) hx hb dX13_chosen_83 (by decide) ?_
              exact hj87 gm_j47 z_34 1 z_34 hz_34 h_31 hsx5_47 hsx4_47 hsx1_47 h_37 hsx3_47 (iv_w (iv_k (by decide) : iv 1 1 1) (by decide)) hz_34 (KS_tr (L := [75]) KS_rf hkg_j47 (by decide)) hI_j47 (hbs) (hcc) _ _ _ hP hD hS (lv_sub hl [0, 1, 2, 3, 4, 5, 6, 7, 8] rfl)
      refine lv_iload_n hx hb dX13_chosen_21 rfl (lv_at hl 7 rfl) ?_
      refine lv_iconst (v := (-1)) hx hb dX13_chosen_22 (by decide) ?_
      refine lv_icmp_eq (tgt := 175) hx hb dX13_chosen_23 (by decide) (fun c_43 => ?_) (fun c_43 => ?_)
      · have h_44 : iv (-1) (-1) cc := iv_eq c_43 hsx3_21 (iv_k (by decide) : iv (-1) (-1) (-1)) (by decide)
        exact hj175 gm_j21 x7_21 x6_21 x5_21 x4_21 hx7_21 hx5_21 hx4_21 hsx1_21 hsx2_21 (iv_w h_44 (by decide)) (KS_tr (L := [75]) KS_rf hkg_j21 (by decide)) hI_j21 (hbs) _ _ _ hP hD hS (lv_sub hl [0, 1, 2, 3, 4, 5, 6, 7] rfl)
      · have h_45 : iv 0 7 cc := iv_neL c_43 hsx3_21 (by decide)
        refine lv_iload hx hb dX13_chosen_26 (lv_at hl 0 rfl) ?_
        refine lv_iload_n hx hb dX13_chosen_28 rfl (lv_at hl 6 rfl) ?_
        refine lv_if_eq (tgt := 41) hx hb dX13_chosen_29 (by decide) (fun c_46 => ?_) (fun c_46 => ?_)
        · have h_47 : iv 0 0 cs := iv_eq c_46 hsx2_21 (iv_k (by decide) : iv 0 0 0) (by decide)
          refine lv_aload_n hx hb dX13_chosen_41 rfl (lv_at hl 4 rfl) ?_
          refine mr_get (v := .ref (ad 13)) hx hb htb inX13 hown hK hP 13 (by decide) (htb _ kw_172) rfl dX13_chosen_42 ?_
          refine lv_iload_n hx hb dX13_chosen_45 rfl (lv_at hl 7 rfl) ?_
          refine mr_iald hx hb hK hP 12 (k := 13) rfl rfl rfl (show vp_in cc 8 from (iv_in h_45 (by decide))) dX13_chosen_46 ?_
          refine lv_topi (fun z_48 ez_48 => ?_)
          have hz_48 : iv 0 4 z_48 := iv_of ez_48 (MI_a hI_j21 13 h_45 (by decide))
          have ez_48 := ez_48.trans (congrFun (hkg_j21 13 (by decide)) _)
          exact hj47 gm_j21 z_48 hx7_21 hx5_21 hx4_21 hsx1_21 (iv_w h_47 (by decide)) h_45 hz_48 hx7_21 (KS_tr (L := [75]) KS_rf hkg_j21 (by decide)) hI_j21 (hbs) (by have := (h_45).1; omega) _ _ _ hP hD hS (lv_sub hl [0, 1, 2, 3, 4, 5, 6, 7] rfl)
        · have h_49 : iv 1 1 cs := iv_neL c_46 hsx2_21 (by decide)
          refine lv_aload_n hx hb dX13_chosen_32 rfl (lv_at hl 4 rfl) ?_
          refine mr_get (v := .ref (ad 7)) hx hb htb inX13 hown hK hP 7 (by decide) (htb _ kw_166) rfl dX13_chosen_33 ?_
          refine lv_iload_n hx hb dX13_chosen_36 rfl (lv_at hl 7 rfl) ?_
          refine mr_iald hx hb hK hP 6 (k := 7) rfl rfl rfl (show vp_in cc 8 from (iv_in h_45 (by decide))) dX13_chosen_37 ?_
          refine lv_topi (fun z_50 ez_50 => ?_)
          have hz_50 : iv 0 4 z_50 := iv_of ez_50 (MI_a hI_j21 7 h_45 (by decide))
          have ez_50 := ez_50.trans (congrFun (hkg_j21 7 (by decide)) _)
          refine lv_goto (tgt := 47) hx hb dX13_chosen_38 (by decide) ?_
          exact hj47 gm_j21 z_50 hx7_21 hx5_21 hx4_21 hsx1_21 (iv_w h_49 (by decide)) h_45 hz_50 hx7_21 (KS_tr (L := [75]) KS_rf hkg_j21 (by decide)) hI_j21 (hbs) (by have := (h_45).1; omega) _ _ _ hP hD hS (lv_sub hl [0, 1, 2, 3, 4, 5, 6, 7] rfl)
  refine lv_iconst (v := (-1)) hx hb dX13_chosen_0 (by decide) ?_
  refine lv_istore (lv' := [(4, .int (-1)), (0, .ref h0), (1, .int b), (2, .int cs), (3, .int cc)]) hx hb dX13_chosen_1 hl (by decide) rfl (fun ls hl => ?_)
  refine lv_ldcw (own := RX13) (v := 1000000) hx hb hown (htb _ kw_1219) dX13_chosen_3 ?_
  refine lv_istore (lv' := [(5, .int 1000000), (4, .int (-1)), (0, .ref h0), (1, .int b), (2, .int cs), (3, .int cc)]) hx hb dX13_chosen_6 hl (by decide) rfl (fun ls hl => ?_)
  refine lv_aload_n hx hb dX13_chosen_8 rfl (lv_at hl 2 rfl) ?_
  refine lv_iload_n hx hb dX13_chosen_9 rfl (lv_at hl 3 rfl) ?_
  refine lv_ldc2 (own := RX13) (v := 120282512125796) hx hb hown (htb _ kw_906) dX13_chosen_10 ?_
  refine mr_calli (rest := []) ⟨hx, hb, hml, hown, htb⟩ (a_letter l dC dI h0 ad cid sg gm lg b 120282512125796 hI (iv_w hvb (by decide)) (by have := i32_0; have := i32_1; have := i32_2; have := i32_m1; have := (show iv 0 80 (sg 41) from MI_s hI 41).1; have := (show iv 0 80 (sg 41) from MI_s hI 41).2; have := (hvb).1; have := (hvb).2; have := (hvcs).1; have := (hvcs).2; have := (hvcc).1; have := (hvcc).2; have := (h63).1; have := (h63).2; omega) (ACY_k (DK_of (show KS [] sg sg from KS_rf) (show KS [] gm gm from KS_rf) (show KS [] lg lg from KS_rf) (by decide) (by decide) (by decide)) hac)) (cwV 2 htb (gd_V kw_1204 kw_1205 kw_1206 kw_5 kw_1618) rfl rfl rfl (by decide +kernel) ⟨Nat.le_of_ble_eq_true rfl, Nat.le_of_ble_eq_true rfl⟩) rfl hl.1 rfl (Nat.le_of_ble_eq_true rfl) dX13_chosen_13 ⟨Nat.zero_le _, Nat.zero_le _⟩ hK hP hD hS hA (fun r_51 u_52 H locs hw hP hD hS => ?_)
  obtain rfl := hw
  have hP : va_P (dC, dI) vwCl (mW h0 ad cid sg gm lg) H := hP
  have hD : va_D A (mW h0 ad cid sg gm lg) := hD
  refine lv_istore (lv' := [(6, .int r_51), (5, .int 1000000), (4, .int (-1)), (0, .ref h0), (1, .int b), (2, .int cs), (3, .int cc)]) hx hb dX13_chosen_16 hl (by decide) rfl (fun ls hl => ?_)
  refine lv_iconst (v := 0) hx hb dX13_chosen_18 (by decide) ?_
  refine lv_istore (lv' := [(7, .int 0), (6, .int r_51), (5, .int 1000000), (4, .int (-1)), (0, .ref h0), (1, .int b), (2, .int cs), (3, .int cc)]) hx hb dX13_chosen_19 hl (by decide) rfl (fun ls hl => ?_)
  exact hj21 _ gm 0 r_51 1000000 (-1) rfl (iv_w (iv_k (by decide) : iv 0 0 0) (by decide)) (iv_w (iv_k (by decide) : iv 1000000 1000000 1000000) (by decide)) (iv_w (iv_k (by decide) : iv (-1) (-1) (-1)) (by decide)) hvb hvcs hvcc KS_rf hI (Or.inl rfl) _ _ _ hP hD hS (lv_sub hl [0, 1, 2, 3, 4, 5, 6, 7] rfl)
