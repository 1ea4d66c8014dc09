theorem up_cell {g g1 : Nat → Nat → Int32} {k j : Nat} {x : Int32} (q : g1 = va_up g k (upd (g k) j x)) : g1 k j = x := by
  rw [up_at q]
  show (if j = j then x else g k j) = x
  rw [if_pos rfl]
theorem up_oth {g g1 : Nat → Nat → Int32} {k j i : Nat} {x : Int32} (q : g1 = va_up g k (upd (g k) j x)) (h : i ≠ j) : g1 k i = g k i := by
  rw [up_at q]
  show (if i = j then x else g k i) = _
  rw [if_neg h]
theorem up_le {g g1 : Nat → Nat → Int32} {k j : Nat} {x : Int32} {d : Int} (q : g1 = va_up g k (upd (g k) j x)) (hd : 0 ≤ d) (h : x.toInt ≤ (g k j).toInt + d) (i : Nat) : (g1 k i).toInt ≤ (g k i).toInt + d := by
  by_cases hi : i = j
  · subst hi; rw [up_cell q]; exact h
  · rw [up_oth q hi]; omega

set_option maxHeartbeats 4000000 in
set_option maxRecDepth 100000 in
theorem a_add (l : Launch) (dC : Nat → ClassId) (dI : Nat → Nat → Nat) (h0 : Nat) (ad : Nat → Nat) (cid : Nat → ClassId) (sg : Nat → Int32) (gm : Nat → Nat → Int32) (lg : Nat → Nat → Int64) (x : Int32) (f : Int32) (hI : MI sg gm) (hvx : iv 0 79 x) (hle : (sg 21).toInt ≤ (sg 20).toInt) (hpe : (gm 32 x.toNatClampNeg).toInt ≤ (sg 21).toInt) : MMv l dC dI yX13_add wm_X13_add ({ frames := 1, cells := 0, slots := 0, locals := 21 }) h0 ad cid [.int x, .int f] sg gm lg (fun v => ∃ (sg2 : Nat → Int32) (gm2 : Nat → Nat → Int32) (lg2 : Nat → Nat → Int64), v = (sg2, gm2, lg2) ∧ MI sg2 gm2 ∧ KS [22, 23] sg sg2 ∧ KS [31, 32, 39] gm gm2 ∧ KS [] lg lg2 ∧ ((sg 22).toInt ≤ (sg2 22).toInt) ∧ (∀ j9, (gm2 32 j9).toInt ≤ (gm 32 j9).toInt + 1)) := by
  intro sz
  refine Met.ofW (cc := cX13_add) (maxL := 3) (ret := none) (by decide) rfl ?_
  intro p e s m args below meth c s₁ B hml hv
  obtain ⟨rfl, hsz, hP, hK, hD0⟩ := hv
  have hx := B.exec
  have hb := B.bytes
  have hr := B.returns
  have hts := atoms_spec (ws := wm_X13_add) B.pre
  have htb := fun (w : Cond) (h : w ∈ tb) => hts w (List.mem_cons_of_mem _ h)
  have hown : s.vm.findClass RX13 = some m.cls := findClass_of_methodNamed B.named
  have hlocks := B.notSynchronized
  subst hsz
  have hD := hD0.self (sz := s.heap.size)
  generalize hAe : va_A (mW h0 ad cid sg gm lg) s.heap.size = A at hD ⊢
  have hA : ∀ q : Nat, s.heap.size ≤ q → A q := fun q h => by rw [← hAe]; exact Or.inr h
  have hS : va_S A s.heap s.heap [] := va_S.rf
  have hl := lv_entry ([.ref h0, .int x, .int f]) (n := 3) (Nat.le_of_ble_eq_true rfl)
  rw [lg_entry_eq]
  generalize (lg_sl ([.ref h0, .int x, .int f]) ++ List.replicate (3 - (lg_sl ([.ref h0, .int x, .int f])).length) Slot.unset).toArray = ls at hl ⊢
  have hl : lv_has ls 3 [(0, .ref h0), (1, .int x), (2, .int f)] := hl
  have hj68 : ∀ (n : Nat) (sg_j68 : Nat → Int32) (gm_j68 : Nat → Nat → Int32) (_ : (gm_j68 32 x.toNatClampNeg).toInt.toNat = n) (_ : iv 0 79 x) (_ : KS [22, 23] sg sg_j68) (_ : KS [31, 32, 39] gm gm_j68) (_ : MI sg_j68 gm_j68) (_ : (gm_j68 31 x.toNatClampNeg).toInt + (gm_j68 32 x.toNatClampNeg).toInt + 1 ≤ 24) (_ : ∀ j9, (gm_j68 32 j9).toInt ≤ (gm 32 j9).toInt) (_ : (sg 22).toInt ≤ (sg_j68 22).toInt) (H : Heap) (locs : List Loc) (ls : Array Slot), va_P (dC, dI) vwCl (mW h0 ad cid sg_j68 gm_j68 lg) H → va_D A (mW h0 ad cid sg_j68 gm_j68 lg) → va_S A s.heap H locs → lv_has ls 3 [(0, .ref h0), (1, .int x), (2, .int f)] → W p l e (headSpec wm_X13_add ({ frames := 1, cells := 0, slots := 0, locals := 21 })).room s m ([.ref h0, .int x, .int f] : List Value).toArray below meth c H locs 0 0 (MQ below (va_Qv (fun v => ∃ (sg2 : Nat → Int32) (gm2 : Nat → Nat → Int32) (lg2 : Nat → Nat → Int64), v = (sg2, gm2, lg2) ∧ MI sg2 gm2 ∧ KS [22, 23] sg sg2 ∧ KS [31, 32, 39] gm gm2 ∧ KS [] lg lg2 ∧ ((sg 22).toInt ≤ (sg2 22).toInt) ∧ (∀ j9, (gm2 32 j9).toInt ≤ (gm 32 j9).toInt + 1)) (MB dC dI h0 ad cid A) A) ([.ref h0, .int x, .int f] : List Value).toArray s 0 0 A) (F0 m 68 ls []) := by
    intro n
    induction n using Nat.strongRecOn with
    | ind n ih68 =>
      intro sg_j68 gm_j68 hn68 hsx1_68 hks_j68 hkg_j68 hI_j68 hs24 hpd hf H locs ls hP hD hS hl
      refine lv_aload_n hx hb dX13_add_68 rfl (lv_at hl 0 rfl) ?_
      refine mr_get (v := .ref (ad 32)) hx hb htb inX13 hown hK hP 32 (by decide) (htb _ kw_188) rfl dX13_add_69 ?_
      refine lv_iload_n hx hb dX13_add_72 rfl (lv_at hl 1 rfl) ?_
      refine mr_iald hx hb hK hP 25 (k := 32) rfl rfl rfl (show vp_in x 80 from (iv_in hsx1_68 (by decide))) dX13_add_73 ?_
      refine lv_topi (fun z_1 ez_1 => ?_)
      have hz_1 : iv 0 1201 z_1 := iv_of ez_1 (MI_a hI_j68 32 hsx1_68 (by decide))
      refine lv_if_le (tgt := 118) hx hb dX13_add_74 (by decide) (fun c_2 => ?_) (fun c_2 => ?_)
      · have h_3 : iv 0 0 z_1 := iv_leL c_2 hz_1 (iv_k (by decide) : iv 0 0 0) (by decide)
        refine lv_aload_n hx hb dX13_add_118 rfl (lv_at hl 0 rfl) ?_
        refine mr_get (v := .ref (ad 39)) hx hb htb inX13 hown hK hP 39 (by decide) (htb _ kw_195) rfl dX13_add_119 ?_
        refine lv_bipush (v := 24) hx hb dX13_add_122 (by decide) ?_
        refine lv_iload_n hx hb dX13_add_124 rfl (lv_at hl 1 rfl) ?_
        refine lv_imul hx hb dX13_add_125 ?_
        refine lv_topi (fun z_4 ez_4 => ?_)
        have hz_4 : iv 0 1896 z_4 := iv_of ez_4 (iv_mul (iv_k (by decide) : iv 24 24 24) hsx1_68 (by decide))
        have tz_4 : z_4.toInt = 24 * (x : Int32).toInt := by rw [ez_4]; exact iv_mulE (iv_k (by decide) : iv 24 24 24) hsx1_68 (by decide)
        refine lv_aload_n hx hb dX13_add_126 rfl (lv_at hl 0 rfl) ?_
        refine mr_get (v := .ref (ad 31)) hx hb htb inX13 hown hK hP 31 (by decide) (htb _ kw_187) rfl dX13_add_127 ?_
        refine lv_iload_n hx hb dX13_add_130 rfl (lv_at hl 1 rfl) ?_
        refine mr_iald hx hb hK hP 24 (k := 31) rfl rfl rfl (show vp_in x 80 from (iv_in hsx1_68 (by decide))) dX13_add_131 ?_
        refine lv_topi (fun z_5 ez_5 => ?_)
        have hz_5 : iv 0 24 z_5 := iv_of ez_5 (MI_a hI_j68 31 hsx1_68 (by decide))
        have h_6 : iv 0 23 z_5 := ⟨(hz_5).1, by have := congrArg Int32.toInt ez_5; have := (show iv 0 1201 (gm_j68 32 x.toNatClampNeg) from MI_a hI_j68 32 hvx (by decide)).1; exact (show _ ≤ (23 : Int) by omega)⟩
        refine lv_iadd hx hb dX13_add_132 ?_
        refine lv_topi (fun z_7 ez_7 => ?_)
        have hz_7 : iv 0 1919 z_7 := iv_of ez_7 (iv_add hz_4 h_6 (by decide))
        have tz_7 : z_7.toInt = (z_4 : Int32).toInt + (z_5 : Int32).toInt := by rw [ez_7]; exact iv_addE hz_4 h_6 (by decide)
        refine lv_iload_n hx hb dX13_add_133 rfl (lv_at hl 2 rfl) ?_
        refine lv_i2b (v := (f : Int32).toInt8.toInt32) hx hb dX13_add_134 rfl ?_
        refine lv_topi (fun z_8 ez_8 => ?_)
        have hz_8 : iv (-128) 127 z_8 := iv_of ez_8 (iv_byte _)
        refine ma_bast (x := z_8) hx hb hK hP hD hS 32 (k := 39) rfl rfl rfl (show vp_in z_7 1920 from (iv_in hz_7 (by decide))) dX13_add_135 (fun gm_9 H locs egm_9 hP hD hS => ?_)
        have hI_gm_9 := MI_st hI_j68 egm_9 (iv_vby z_8) (by decide)
        refine lv_aload_n hx hb dX13_add_136 rfl (lv_at hl 0 rfl) ?_
        refine mr_get (v := .ref (ad 31)) hx hb htb inX13 hown hK hP 31 (by decide) (htb _ kw_187) rfl dX13_add_137 ?_
        refine lv_iload_n hx hb dX13_add_140 rfl (lv_at hl 1 rfl) ?_
        refine lv_dup2_11 hx hb dX13_add_141 rfl rfl ?_
        refine mr_iald hx hb hK hP 24 (k := 31) rfl rfl rfl (show vp_in x 80 from (iv_in hsx1_68 (by decide))) dX13_add_142 ?_
        refine lv_topi (fun z_10 ez_10 => ?_)
        obtain rfl : z_5 = z_10 := ez_5.trans (ez_10.trans (congrFun (up_ne egm_9 (by decide)) _)).symm
        refine lv_iconst (v := 1) hx hb dX13_add_143 (by decide) ?_
        refine lv_iadd hx hb dX13_add_144 ?_
        refine lv_topi (fun z_11 ez_11 => ?_)
        have hz_11 : iv 1 24 z_11 := iv_of ez_11 (iv_add h_6 (iv_k (by decide) : iv 1 1 1) (by decide))
        have tz_11 : z_11.toInt = (z_5 : Int32).toInt + 1 := by rw [ez_11]; exact iv_addE h_6 (iv_k (by decide) : iv 1 1 1) (by decide)
        refine ma_iast (x := z_11) hx hb hK hP hD hS 24 (k := 31) rfl rfl rfl (show vp_in x 80 from (iv_in hsx1_68 (by decide))) dX13_add_145 (fun gm_12 H locs egm_12 hP hD hS => ?_)
        have hI_gm_12 := MI_st hI_gm_9 egm_12 hz_11 (by decide)
        exact W.vret hx hb hr (fun t ht hW => ⟨⟨(sg_j68, gm_12, lg), rfl, ⟨sg_j68, gm_12, lg, rfl, hI_gm_12, (KS_tr (L := [22, 23]) KS_rf hks_j68 (by decide)), (KS_up (KS_up (KS_tr (L := [31, 32, 39]) KS_rf hkg_j68 (by decide)) egm_9 (by decide)) egm_12 (by decide)), KS_rf, (by have := i32_0; have := i32_1; have := i32_2; have := i32_m1; have := congrArg Int32.toInt (show sg_j68 20 = sg 20 from hks_j68 20 (by decide)); have := (show iv 0 1200 (sg 20) from MI_s hI 20).1; have := (show iv 0 1200 (sg 20) from MI_s hI 20).2; have := congrArg Int32.toInt (show sg_j68 21 = sg 21 from hks_j68 21 (by decide)); have := (show iv 0 1201 (sg 21) from MI_s hI 21).1; have := (show iv 0 1201 (sg 21) from MI_s hI 21).2; have := (show iv 0 3 (sg_j68 22) from MI_s hI_j68 22).1; have := (show iv 0 3 (sg_j68 22) from MI_s hI_j68 22).2; have := (show iv 0 3 (sg 22) from MI_s hI 22).1; have := (show iv 0 3 (sg 22) from MI_s hI 22).2; have := (hsx1_68).1; have := (hsx1_68).2; have := (h_3).1; have := (h_3).2; have := (hz_4).1; have := (hz_4).2; have := (h_6).1; have := (h_6).2; have := (hz_7).1; have := (hz_7).2; have := (hz_8).1; have := (hz_8).2; have := (hz_11).1; have := (hz_11).2; omega), (fun j9 => by have := congrArg Int32.toInt (show gm_12 32 j9 = gm_j68 32 j9 from congrFun ((up_ne egm_12 (by decide)).trans (up_ne egm_9 (by decide))) _); have := hpd j9; omega)⟩, by rw [ht]; exact hP, va_K.moved hW.alike hK, hD⟩, hS.F ht⟩) hS.2.2 dX13_add_146
      · have h_13 : iv 1 1201 z_1 := iv_ltR (i32_lt c_2) (iv_k (by decide) : iv 0 0 0) hz_1 (by decide)
        refine lv_aload_n hx hb dX13_add_77 rfl (lv_at hl 0 rfl) ?_
        refine mr_get (v := .ref (ad 39)) hx hb htb inX13 hown hK hP 39 (by decide) (htb _ kw_195) rfl dX13_add_78 ?_
        refine lv_bipush (v := 24) hx hb dX13_add_81 (by decide) ?_
        refine lv_iload_n hx hb dX13_add_83 rfl (lv_at hl 1 rfl) ?_
        refine lv_imul hx hb dX13_add_84 ?_
        refine lv_topi (fun z_14 ez_14 => ?_)
        have hz_14 : iv 0 1896 z_14 := iv_of ez_14 (iv_mul (iv_k (by decide) : iv 24 24 24) hsx1_68 (by decide))
        have tz_14 : z_14.toInt = 24 * (x : Int32).toInt := by rw [ez_14]; exact iv_mulE (iv_k (by decide) : iv 24 24 24) hsx1_68 (by decide)
        refine lv_aload_n hx hb dX13_add_85 rfl (lv_at hl 0 rfl) ?_
        refine mr_get (v := .ref (ad 31)) hx hb htb inX13 hown hK hP 31 (by decide) (htb _ kw_187) rfl dX13_add_86 ?_
        refine lv_iload_n hx hb dX13_add_89 rfl (lv_at hl 1 rfl) ?_
        refine mr_iald hx hb hK hP 24 (k := 31) rfl rfl rfl (show vp_in x 80 from (iv_in hsx1_68 (by decide))) dX13_add_90 ?_
        refine lv_topi (fun z_15 ez_15 => ?_)
        have hz_15 : iv 0 24 z_15 := iv_of ez_15 (MI_a hI_j68 31 hsx1_68 (by decide))
        have h_16 : iv 0 23 z_15 := ⟨(hz_15).1, by have := congrArg Int32.toInt ez_15; have := (show iv 0 1201 (gm_j68 32 x.toNatClampNeg) from MI_a hI_j68 32 hvx (by decide)).1; exact (show _ ≤ (23 : Int) by omega)⟩
        refine lv_iadd hx hb dX13_add_91 ?_
        refine lv_topi (fun z_17 ez_17 => ?_)
        have hz_17 : iv 0 1919 z_17 := iv_of ez_17 (iv_add hz_14 h_16 (by decide))
        have tz_17 : z_17.toInt = (z_14 : Int32).toInt + (z_15 : Int32).toInt := by rw [ez_17]; exact iv_addE hz_14 h_16 (by decide)
        refine lv_bipush (v := 32) hx hb dX13_add_92 (by decide) ?_
        refine ma_bast (x := 32) hx hb hK hP hD hS 32 (k := 39) rfl rfl rfl (show vp_in z_17 1920 from (iv_in hz_17 (by decide))) dX13_add_94 (fun gm_18 H locs egm_18 hP hD hS => ?_)
        have hI_gm_18 := MI_st hI_j68 egm_18 (iv_vby 32) (by decide)
        refine lv_aload_n hx hb dX13_add_95 rfl (lv_at hl 0 rfl) ?_
        refine mr_get (v := .ref (ad 31)) hx hb htb inX13 hown hK hP 31 (by decide) (htb _ kw_187) rfl dX13_add_96 ?_
        refine lv_iload_n hx hb dX13_add_99 rfl (lv_at hl 1 rfl) ?_
        refine lv_dup2_11 hx hb dX13_add_100 rfl rfl ?_
        refine mr_iald hx hb hK hP 24 (k := 31) rfl rfl rfl (show vp_in x 80 from (iv_in hsx1_68 (by decide))) dX13_add_101 ?_
        refine lv_topi (fun z_19 ez_19 => ?_)
        obtain rfl : z_15 = z_19 := ez_15.trans (ez_19.trans (congrFun (up_ne egm_18 (by decide)) _)).symm
        refine lv_iconst (v := 1) hx hb dX13_add_102 (by decide) ?_
        refine lv_iadd hx hb dX13_add_103 ?_
        refine lv_topi (fun z_20 ez_20 => ?_)
        have hz_20 : iv 1 24 z_20 := iv_of ez_20 (iv_add h_16 (iv_k (by decide) : iv 1 1 1) (by decide))
        have tz_20 : z_20.toInt = (z_15 : Int32).toInt + 1 := by rw [ez_20]; exact iv_addE h_16 (iv_k (by decide) : iv 1 1 1) (by decide)
        refine ma_iast (x := z_20) hx hb hK hP hD hS 24 (k := 31) rfl rfl rfl (show vp_in x 80 from (iv_in hsx1_68 (by decide))) dX13_add_104 (fun gm_21 H locs egm_21 hP hD hS => ?_)
        have hI_gm_21 := MI_st hI_gm_18 egm_21 hz_20 (by decide)
        refine lv_aload_n hx hb dX13_add_105 rfl (lv_at hl 0 rfl) ?_
        refine mr_get (v := .ref (ad 32)) hx hb htb inX13 hown hK hP 32 (by decide) (htb _ kw_188) rfl dX13_add_106 ?_
        refine lv_iload_n hx hb dX13_add_109 rfl (lv_at hl 1 rfl) ?_
        refine lv_dup2_11 hx hb dX13_add_110 rfl rfl ?_
        refine mr_iald hx hb hK hP 25 (k := 32) rfl rfl rfl (show vp_in x 80 from (iv_in hsx1_68 (by decide))) dX13_add_111 ?_
        refine lv_topi (fun z_22 ez_22 => ?_)
        obtain rfl : z_1 = z_22 := ez_1.trans (ez_22.trans (congrFun (Eq.trans (up_ne egm_21 (by decide)) (up_ne egm_18 (by decide))) _)).symm
        refine lv_iconst (v := 1) hx hb dX13_add_112 (by decide) ?_
        refine lv_isub hx hb dX13_add_113 ?_
        refine lv_topi (fun z_23 ez_23 => ?_)
        have hz_23 : iv 0 1200 z_23 := iv_of ez_23 (iv_sub h_13 (iv_k (by decide) : iv 1 1 1) (by decide))
        have tz_23 : z_23.toInt = (z_1 : Int32).toInt - 1 := by rw [ez_23]; exact iv_subE h_13 (iv_k (by decide) : iv 1 1 1) (by decide)
        refine ma_iast (x := z_23) hx hb hK hP hD hS 25 (k := 32) rfl rfl rfl (show vp_in x 80 from (iv_in hsx1_68 (by decide))) dX13_add_114 (fun gm_24 H locs egm_24 hP hD hS => ?_)
        have hI_gm_24 := MI_st hI_gm_21 egm_24 hz_23 (by decide)
        refine lv_goto (tgt := 68) hx hb dX13_add_115 (by decide) ?_
        exact ih68 _ (by rw [← hn68]; exact (by have := congrArg Int32.toInt (show gm_24 32 x.toNatClampNeg = _ from up_cell egm_24); have := congrArg Int32.toInt ez_1; have := (h_13).1; omega)) sg_j68 gm_24 rfl hsx1_68 (KS_tr (L := [22, 23]) KS_rf hks_j68 (by decide)) (KS_up (KS_up (KS_up (KS_tr (L := [31, 32, 39]) KS_rf hkg_j68 (by decide)) egm_18 (by decide)) egm_21 (by decide)) egm_24 (by decide)) hI_gm_24 (by have := congrArg Int32.toInt (show gm_24 31 x.toNatClampNeg = _ from (congrFun (up_ne egm_24 (by decide)) _).trans (up_cell egm_21)); have := congrArg Int32.toInt (show gm_24 32 x.toNatClampNeg = _ from up_cell egm_24); have := congrArg Int32.toInt ez_15; have := congrArg Int32.toInt ez_1; omega) (fun j9 => by have q9 := up_le egm_24 (d := 0) (by decide) (by have := congrArg Int32.toInt (show gm_21 32 x.toNatClampNeg = gm_j68 32 x.toNatClampNeg from congrFun ((up_ne egm_21 (by decide)).trans (up_ne egm_18 (by decide))) _); have := congrArg Int32.toInt ez_1; omega) j9; have := congrArg Int32.toInt (show gm_21 32 j9 = gm_j68 32 j9 from congrFun ((up_ne egm_21 (by decide)).trans (up_ne egm_18 (by decide))) _); have := hpd j9; omega) (by have := i32_0; have := i32_1; have := i32_2; have := i32_m1; have := congrArg Int32.toInt (show sg_j68 20 = sg 20 from hks_j68 20 (by decide)); have := (show iv 0 1200 (sg 20) from MI_s hI 20).1; have := (show iv 0 1200 (sg 20) from MI_s hI 20).2; have := congrArg Int32.toInt (show sg_j68 21 = sg 21 from hks_j68 21 (by decide)); have := (show iv 0 1201 (sg 21) from MI_s hI 21).1; have := (show iv 0 1201 (sg 21) from MI_s hI 21).2; have := (show iv 0 3 (sg_j68 22) from MI_s hI_j68 22).1; have := (show iv 0 3 (sg_j68 22) from MI_s hI_j68 22).2; have := (show iv 0 3 (sg 22) from MI_s hI 22).1; have := (show iv 0 3 (sg 22) from MI_s hI 22).2; have := (hsx1_68).1; have := (hsx1_68).2; have := (h_13).1; have := (h_13).2; have := (hz_14).1; have := (hz_14).2; have := (h_16).1; have := (h_16).2; have := (hz_17).1; have := (hz_17).2; have := (hz_20).1; have := (hz_20).2; have := (hz_23).1; have := (hz_23).2; omega) _ _ _ hP hD hS (lv_sub hl [0, 1, 2] rfl)
  have hj60 : ∀ (sg_j60 : Nat → Int32) (_ : iv 0 79 x) (_ : KS [22, 23] sg sg_j60) (_ : MI sg_j60 gm) (_ : (gm 31 x.toNatClampNeg).toInt + (gm 32 x.toNatClampNeg).toInt + 1 ≤ 24 ∨ 1 ≤ (sg_j60 22).toInt) (_ : ∀ j9, (gm 32 j9).toInt ≤ (gm 32 j9).toInt) (_ : (sg 22).toInt ≤ (sg_j60 22).toInt) (H : Heap) (locs : List Loc) (ls : Array Slot), va_P (dC, dI) vwCl (mW h0 ad cid sg_j60 gm lg) H → va_D A (mW h0 ad cid sg_j60 gm lg) → va_S A s.heap H locs → lv_has ls 3 [(0, .ref h0), (1, .int x), (2, .int f)] → W p l e (headSpec wm_X13_add ({ frames := 1, cells := 0, slots := 0, locals := 21 })).room s m ([.ref h0, .int x, .int f] : List Value).toArray below meth c H locs 0 0 (MQ below (va_Qv (fun v => ∃ (sg2 : Nat → Int32) (gm2 : Nat → Nat → Int32) (lg2 : Nat → Nat → Int64), v = (sg2, gm2, lg2) ∧ MI sg2 gm2 ∧ KS [22, 23] sg sg2 ∧ KS [31, 32, 39] gm gm2 ∧ KS [] lg lg2 ∧ ((sg 22).toInt ≤ (sg2 22).toInt) ∧ (∀ j9, (gm2 32 j9).toInt ≤ (gm 32 j9).toInt + 1)) (MB dC dI h0 ad cid A) A) ([.ref h0, .int x, .int f] : List Value).toArray s 0 0 A) (F0 m 60 ls []) := by
    intro sg_j60 hsx1_60 hks_j60 hI_j60 hs24 hpd hf H locs ls hP hD hS hl
    refine lv_aload_n hx hb dX13_add_60 rfl (lv_at hl 0 rfl) ?_
    refine mr_get (v := .int (sg_j60 22)) hx hb htb inX13 hown hK hP 22 (by decide) (htb _ kw_813) rfl dX13_add_61 ?_
    refine lv_if_eq (tgt := 68) hx hb dX13_add_64 (by decide) (fun c_25 => ?_) (fun c_25 => ?_)
    · have h_26 : iv 0 0 (sg_j60 22) := iv_eq c_25 (show iv 0 3 (sg_j60 22) from MI_s hI_j60 22) (iv_k (by decide) : iv 0 0 0) (by decide)
      exact hj68 _ sg_j60 gm rfl hsx1_60 (KS_tr (L := [22, 23]) KS_rf hks_j60 (by decide)) KS_rf hI_j60 (by have := i32_0; have := i32_1; have := i32_2; have := i32_m1; have := congrArg Int32.toInt (show sg_j60 20 = sg 20 from hks_j60 20 (by decide)); have := (show iv 0 1200 (sg 20) from MI_s hI 20).1; have := (show iv 0 1200 (sg 20) from MI_s hI 20).2; have := congrArg Int32.toInt (show sg_j60 21 = sg 21 from hks_j60 21 (by decide)); have := (show iv 0 1201 (sg 21) from MI_s hI 21).1; have := (show iv 0 1201 (sg 21) from MI_s hI 21).2; have := (show iv 0 3 (sg_j60 22) from MI_s hI_j60 22).1; have := (show iv 0 3 (sg_j60 22) from MI_s hI_j60 22).2; have := (show iv 0 3 (sg 22) from MI_s hI 22).1; have := (show iv 0 3 (sg 22) from MI_s hI 22).2; have := (hsx1_60).1; have := (hsx1_60).2; have := (h_26).1; have := (h_26).2; omega) (hpd) (by have := i32_0; have := i32_1; have := i32_2; have := i32_m1; have := congrArg Int32.toInt (show sg_j60 20 = sg 20 from hks_j60 20 (by decide)); have := (show iv 0 1200 (sg 20) from MI_s hI 20).1; have := (show iv 0 1200 (sg 20) from MI_s hI 20).2; have := congrArg Int32.toInt (show sg_j60 21 = sg 21 from hks_j60 21 (by decide)); have := (show iv 0 1201 (sg 21) from MI_s hI 21).1; have := (show iv 0 1201 (sg 21) from MI_s hI 21).2; have := (show iv 0 3 (sg_j60 22) from MI_s hI_j60 22).1; have := (show iv 0 3 (sg_j60 22) from MI_s hI_j60 22).2; have := (show iv 0 3 (sg 22) from MI_s hI 22).1; have := (show iv 0 3 (sg 22) from MI_s hI 22).2; have := (hsx1_60).1; have := (hsx1_60).2; have := (h_26).1; have := (h_26).2; omega) _ _ _ hP hD hS (lv_sub hl [0, 1, 2] rfl)
    · have h_27 : iv 1 3 (sg_j60 22) := iv_neL c_25 (show iv 0 3 (sg_j60 22) from MI_s hI_j60 22) (by decide)
      exact W.vret hx hb hr (fun t ht hW => ⟨⟨(sg_j60, gm, lg), rfl, ⟨sg_j60, gm, lg, rfl, hI_j60, (KS_tr (L := [22, 23]) KS_rf hks_j60 (by decide)), KS_rf, KS_rf, (by have := i32_0; have := i32_1; have := i32_2; have := i32_m1; have := congrArg Int32.toInt (show sg_j60 20 = sg 20 from hks_j60 20 (by decide)); have := (show iv 0 1200 (sg 20) from MI_s hI 20).1; have := (show iv 0 1200 (sg 20) from MI_s hI 20).2; have := congrArg Int32.toInt (show sg_j60 21 = sg 21 from hks_j60 21 (by decide)); have := (show iv 0 1201 (sg 21) from MI_s hI 21).1; have := (show iv 0 1201 (sg 21) from MI_s hI 21).2; have := (show iv 0 3 (sg_j60 22) from MI_s hI_j60 22).1; have := (show iv 0 3 (sg_j60 22) from MI_s hI_j60 22).2; have := (show iv 0 3 (sg 22) from MI_s hI 22).1; have := (show iv 0 3 (sg 22) from MI_s hI 22).2; have := (hsx1_60).1; have := (hsx1_60).2; have := (h_27).1; have := (h_27).2; omega), (fun j9 => by omega)⟩, by rw [ht]; exact hP, va_K.moved hW.alike hK, hD⟩, hS.F ht⟩) hS.2.2 dX13_add_67
  have hj29 : ∀ (y0_29 : Int32) (y1_29 : Int32) (_ : iv 0 79 x) (_ : iv 0 1 y0_29) (_ : iv 0 1200 y1_29) (_ : iv 0 79 x) (_ : y1_29.toInt ≤ (gm 32 x.toNatClampNeg).toInt) (_ : (sg 22).toInt ≤ (sg 22).toInt) (H : Heap) (locs : List Loc) (ls : Array Slot), va_P (dC, dI) vwCl (mW h0 ad cid sg gm lg) H → va_D A (mW h0 ad cid sg gm lg) → va_S A s.heap H locs → lv_has ls 3 [(0, .ref h0), (1, .int x), (2, .int f)] → W p l e (headSpec wm_X13_add ({ frames := 1, cells := 0, slots := 0, locals := 21 })).room s m ([.ref h0, .int x, .int f] : List Value).toArray below meth c H locs 0 0 (MQ below (va_Qv (fun v => ∃ (sg2 : Nat → Int32) (gm2 : Nat → Nat → Int32) (lg2 : Nat → Nat → Int64), v = (sg2, gm2, lg2) ∧ MI sg2 gm2 ∧ KS [22, 23] sg sg2 ∧ KS [31, 32, 39] gm gm2 ∧ KS [] lg lg2 ∧ ((sg 22).toInt ≤ (sg2 22).toInt) ∧ (∀ j9, (gm2 32 j9).toInt ≤ (gm 32 j9).toInt + 1)) (MB dC dI h0 ad cid A) A) ([.ref h0, .int x, .int f] : List Value).toArray s 0 0 A) (F0 m 29 ls [.int y0_29, .int y1_29, .int x, .ref (ad 32)]) := by
    intro y0_29 y1_29 hsx1_29 hy0_29 hy1_29 hsy2_29 hold hf H locs ls hP hD hS hl
    refine lv_iadd hx hb dX13_add_29 ?_
    refine lv_topi (fun z_28 ez_28 => ?_)
    have hz_28 : iv 0 1201 z_28 := iv_of ez_28 (iv_add hy1_29 hy0_29 (by decide))
    have tz_28 : z_28.toInt = (y1_29 : Int32).toInt + (y0_29 : Int32).toInt := by rw [ez_28]; exact iv_addE hy1_29 hy0_29 (by decide)
    have h29 : z_28.toInt ≤ (gm 32 x.toNatClampNeg).toInt + 1 := by have := hold; have := tz_28; have := (hy0_29).2; omega
    refine ma_iast (x := z_28) hx hb hK hP hD hS 25 (k := 32) rfl rfl rfl (show vp_in x 80 from (iv_in hsy2_29 (by decide))) dX13_add_30 (fun gm_29 H locs egm_29 hP hD hS => ?_)
    have hI_gm_29 := MI_st hI egm_29 hz_28 (by decide)
    exact W.vret hx hb hr (fun t ht hW => ⟨⟨(sg, gm_29, lg), rfl, ⟨sg, gm_29, lg, rfl, hI_gm_29, KS_rf, (KS_up KS_rf egm_29 (by decide)), KS_rf, (by have := i32_0; have := i32_1; have := i32_2; have := i32_m1; have := (show iv 0 1200 (sg 20) from MI_s hI 20).1; have := (show iv 0 1200 (sg 20) from MI_s hI 20).2; have := (show iv 0 1201 (sg 21) from MI_s hI 21).1; have := (show iv 0 1201 (sg 21) from MI_s hI 21).2; have := (show iv 0 3 (sg 22) from MI_s hI 22).1; have := (show iv 0 3 (sg 22) from MI_s hI 22).2; have := (hsy2_29).1; have := (hsy2_29).2; have := (hy0_29).1; have := (hy0_29).2; have := (hy1_29).1; have := (hy1_29).2; have := (hz_28).1; have := (hz_28).2; omega), (up_le egm_29 (by decide) (by have := h29; omega))⟩, by rw [ht]; exact hP, va_K.moved hW.alike hK, hD⟩, hS.F ht⟩) hS.2.2 dX13_add_31
  refine lv_aload_n hx hb dX13_add_0 rfl (lv_at hl 0 rfl) ?_
  refine lv_iload_n hx hb dX13_add_1 rfl (lv_at hl 2 rfl) ?_
  refine mr_calli (rest := []) ⟨hx, hb, hml, hown, htb⟩ (a_isWhite2 l dC dI h0 ad cid sg gm lg f hI) (cwV 1 htb (gd_V kw_838 kw_839 kw_840 kw_5 kw_1523) rfl rfl rfl (by decide +kernel) ⟨Nat.le_of_ble_eq_true rfl, Nat.le_of_ble_eq_true rfl⟩) rfl hl.1 rfl (Nat.le_of_ble_eq_true rfl) dX13_add_2 ⟨Nat.zero_le _, Nat.zero_le _⟩ hK hP hD hS hA (fun r_30 u_31 H locs hw hP hD hS => ?_)
  obtain ⟨hr_30, wh_r_30, rfl⟩ := hw
  have hP : va_P (dC, dI) vwCl (mW h0 ad cid sg gm lg) H := hP
  have hD : va_D A (mW h0 ad cid sg gm lg) := hD
  refine lv_if_eq (tgt := 32) hx hb dX13_add_5 (by decide) (fun c_32 => ?_) (fun c_32 => ?_)
  · have h_33 : iv 0 0 r_30 := iv_eq c_32 hr_30 (iv_k (by decide) : iv 0 0 0) (by decide)
    refine lv_aload_n hx hb dX13_add_32 rfl (lv_at hl 0 rfl) ?_
    refine mr_get (v := .ref (ad 31)) hx hb htb inX13 hown hK hP 31 (by decide) (htb _ kw_187) rfl dX13_add_33 ?_
    refine lv_iload_n hx hb dX13_add_36 rfl (lv_at hl 1 rfl) ?_
    refine mr_iald hx hb hK hP 24 (k := 31) rfl rfl rfl (show vp_in x 80 from (iv_in hvx (by decide))) dX13_add_37 ?_
    refine lv_topi (fun z_34 ez_34 => ?_)
    have hz_34 : iv 0 24 z_34 := iv_of ez_34 (MI_a hI 31 hvx (by decide))
    refine lv_aload_n hx hb dX13_add_38 rfl (lv_at hl 0 rfl) ?_
    refine mr_get (v := .ref (ad 32)) hx hb htb inX13 hown hK hP 32 (by decide) (htb _ kw_188) rfl dX13_add_39 ?_
    refine lv_iload_n hx hb dX13_add_42 rfl (lv_at hl 1 rfl) ?_
    refine mr_iald hx hb hK hP 25 (k := 32) rfl rfl rfl (show vp_in x 80 from (iv_in hvx (by decide))) dX13_add_43 ?_
    refine lv_topi (fun z_35 ez_35 => ?_)
    have hz_35 : iv 0 1201 z_35 := iv_of ez_35 (MI_a hI 32 hvx (by decide))
    refine lv_iadd hx hb dX13_add_44 ?_
    refine lv_topi (fun z_36 ez_36 => ?_)
    have hz_36 : iv 0 1225 z_36 := iv_of ez_36 (iv_add hz_34 hz_35 (by decide))
    have tz_36 : z_36.toInt = (z_34 : Int32).toInt + (z_35 : Int32).toInt := by rw [ez_36]; exact iv_addE hz_34 hz_35 (by decide)
    refine lv_iconst (v := 1) hx hb dX13_add_45 (by decide) ?_
    refine lv_iadd hx hb dX13_add_46 ?_
    refine lv_topi (fun z_37 ez_37 => ?_)
    have hz_37 : iv 1 1226 z_37 := iv_of ez_37 (iv_add hz_36 (iv_k (by decide) : iv 1 1 1) (by decide))
    have tz_37 : z_37.toInt = (z_36 : Int32).toInt + 1 := by rw [ez_37]; exact iv_addE hz_36 (iv_k (by decide) : iv 1 1 1) (by decide)
    refine lv_bipush (v := 24) hx hb dX13_add_47 (by decide) ?_
    refine lv_icmp_le (tgt := 60) hx hb dX13_add_49 (by decide) (fun c_38 => ?_) (fun c_38 => ?_)
    · have h_39 : iv 1 24 z_37 := iv_leL c_38 hz_37 (iv_k (by decide) : iv 24 24 24) (by decide)
      exact hj60 sg hvx KS_rf hI (by have := i32_0; have := i32_1; have := i32_2; have := i32_m1; have := (show iv 0 1200 (sg 20) from MI_s hI 20).1; have := (show iv 0 1200 (sg 20) from MI_s hI 20).2; have := (show iv 0 1201 (sg 21) from MI_s hI 21).1; have := (show iv 0 1201 (sg 21) from MI_s hI 21).2; have := (show iv 0 3 (sg 22) from MI_s hI 22).1; have := (show iv 0 3 (sg 22) from MI_s hI 22).2; have := (hvx).1; have := (hvx).2; have := (h_33).1; have := (h_33).2; have := (hz_34).1; have := (hz_34).2; have := (hz_35).1; have := (hz_35).2; have := (hz_36).1; have := (hz_36).2; have := (h_39).1; have := (h_39).2; have := congrArg Int32.toInt ez_34; have := congrArg Int32.toInt ez_35; omega) (fun j9 => Int.le_refl _) (by have := i32_0; have := i32_1; have := i32_2; have := i32_m1; have := (show iv 0 1200 (sg 20) from MI_s hI 20).1; have := (show iv 0 1200 (sg 20) from MI_s hI 20).2; have := (show iv 0 1201 (sg 21) from MI_s hI 21).1; have := (show iv 0 1201 (sg 21) from MI_s hI 21).2; have := (show iv 0 3 (sg 22) from MI_s hI 22).1; have := (show iv 0 3 (sg 22) from MI_s hI 22).2; have := (hvx).1; have := (hvx).2; have := (h_33).1; have := (h_33).2; have := (hz_34).1; have := (hz_34).2; have := (hz_35).1; have := (hz_35).2; have := (hz_36).1; have := (hz_36).2; have := (h_39).1; have := (h_39).2; omega) _ _ _ hP hD hS (lv_sub hl [0, 1, 2] rfl)
    · have h_40 : iv 25 1226 z_37 := iv_ltR (i32_lt c_38) (iv_k (by decide) : iv 24 24 24) hz_37 (by decide)
      refine lv_aload_n hx hb dX13_add_52 rfl (lv_at hl 0 rfl) ?_
      refine lv_aload_n hx hb dX13_add_53 rfl (lv_at hl 0 rfl) ?_
      refine mr_get (v := .int (sg 21)) hx hb htb inX13 hown hK hP 21 (by decide) (htb _ kw_814) rfl dX13_add_54 ?_
      refine mr_callv (rest := []) ⟨hx, hb, hml, hown, htb⟩ (a_bad2 l dC dI h0 ad cid sg gm lg (sg 21) hI) (cwV 1 htb (gd_V kw_847 kw_848 kw_849 kw_5 kw_1526) rfl rfl rfl (by decide +kernel) ⟨Nat.le_of_ble_eq_true rfl, Nat.le_of_ble_eq_true rfl⟩) rfl hl.1 rfl (Nat.le_of_ble_eq_true rfl) dX13_add_57 ⟨Nat.zero_le _, Nat.zero_le _⟩ hK hP hD hS hA (fun u_42 H locs hw hP hD hS => ?_)
      obtain ⟨sgv_43, gmv_43, lgv_43, rfl, hIv_43, ksv_43, kgv_43, klv_43, fb_r_41, ff_r_41⟩ := hw
      obtain rfl := KS_nil kgv_43
      obtain rfl := KS_nil klv_43
      have hP : va_P (dC, dI) vwCl (mW h0 ad cid sgv_43 gm lg) H := hP
      have hD : va_D A (mW h0 ad cid sgv_43 gm lg) := hD
      exact hj60 sgv_43 hvx (KS_tr (L := [22, 23]) KS_rf ksv_43 (by decide)) hIv_43 (Or.inr (by have := i32_0; have := i32_1; have := i32_2; have := i32_m1; have := congrArg Int32.toInt (show sgv_43 20 = sg 20 from ksv_43 20 (by decide)); have := (show iv 0 1200 (sg 20) from MI_s hI 20).1; have := (show iv 0 1200 (sg 20) from MI_s hI 20).2; have := congrArg Int32.toInt (show sgv_43 21 = sg 21 from ksv_43 21 (by decide)); have := (show iv 0 1201 (sg 21) from MI_s hI 21).1; have := (show iv 0 1201 (sg 21) from MI_s hI 21).2; have := (show iv 0 3 (sgv_43 22) from MI_s hIv_43 22).1; have := (show iv 0 3 (sgv_43 22) from MI_s hIv_43 22).2; have := (show iv 0 3 (sg 22) from MI_s hI 22).1; have := (show iv 0 3 (sg 22) from MI_s hI 22).2; have := (hvx).1; have := (hvx).2; have := (h_33).1; have := (h_33).2; have := (hz_34).1; have := (hz_34).2; have := (hz_35).1; have := (hz_35).2; have := (hz_36).1; have := (hz_36).2; have := (h_40).1; have := (h_40).2; have := ((show iv 0 1201 (sg 21) from MI_s hI 21)).1; have := ((show iv 0 1201 (sg 21) from MI_s hI 21)).2; omega)) (fun j9 => Int.le_refl _) (by have := i32_0; have := i32_1; have := i32_2; have := i32_m1; have := congrArg Int32.toInt (show sgv_43 20 = sg 20 from ksv_43 20 (by decide)); have := (show iv 0 1200 (sg 20) from MI_s hI 20).1; have := (show iv 0 1200 (sg 20) from MI_s hI 20).2; have := congrArg Int32.toInt (show sgv_43 21 = sg 21 from ksv_43 21 (by decide)); have := (show iv 0 1201 (sg 21) from MI_s hI 21).1; have := (show iv 0 1201 (sg 21) from MI_s hI 21).2; have := (show iv 0 3 (sgv_43 22) from MI_s hIv_43 22).1; have := (show iv 0 3 (sgv_43 22) from MI_s hIv_43 22).2; have := (show iv 0 3 (sg 22) from MI_s hI 22).1; have := (show iv 0 3 (sg 22) from MI_s hI 22).2; have := (hvx).1; have := (hvx).2; have := (h_33).1; have := (h_33).2; have := (hz_34).1; have := (hz_34).2; have := (hz_35).1; have := (hz_35).2; have := (hz_36).1; have := (hz_36).2; have := (h_40).1; have := (h_40).2; have := ((show iv 0 1201 (sg 21) from MI_s hI 21)).1; have := ((show iv 0 1201 (sg 21) from MI_s hI 21)).2; omega) _ _ _ hP hD hS (lv_sub hl [0, 1, 2] rfl)
  · have h_44 : iv 1 1 r_30 := iv_neL c_32 hr_30 (by decide)
    refine lv_aload_n hx hb dX13_add_8 rfl (lv_at hl 0 rfl) ?_
    refine mr_get (v := .ref (ad 32)) hx hb htb inX13 hown hK hP 32 (by decide) (htb _ kw_188) rfl dX13_add_9 ?_
    refine lv_iload_n hx hb dX13_add_12 rfl (lv_at hl 1 rfl) ?_
    refine lv_dup2_11 hx hb dX13_add_13 rfl rfl ?_
    refine mr_iald hx hb hK hP 25 (k := 32) rfl rfl rfl (show vp_in x 80 from (iv_in hvx (by decide))) dX13_add_14 ?_
    refine lv_topi (fun z_45 ez_45 => ?_)
    have hz_45 : iv 0 1201 z_45 := iv_of ez_45 (MI_a hI 32 hvx (by decide))
    have h_46 : iv 0 1200 z_45 := ⟨(hz_45).1, by have := i32_0; have := i32_1; have := i32_2; have := i32_m1; have := (show iv 0 1200 (sg 20) from MI_s hI 20).1; have := (show iv 0 1200 (sg 20) from MI_s hI 20).2; have := (show iv 0 1201 (sg 21) from MI_s hI 21).1; have := (show iv 0 1201 (sg 21) from MI_s hI 21).2; have := (show iv 0 3 (sg 22) from MI_s hI 22).1; have := (show iv 0 3 (sg 22) from MI_s hI 22).2; have := (hvx).1; have := (hvx).2; have := (h_44).1; have := (h_44).2; have := (hz_45).1; have := (hz_45).2; have := congrArg Int32.toInt ez_45; omega⟩
    refine lv_aload_n hx hb dX13_add_15 rfl (lv_at hl 0 rfl) ?_
    refine mr_get (v := .ref (ad 31)) hx hb htb inX13 hown hK hP 31 (by decide) (htb _ kw_187) rfl dX13_add_16 ?_
    refine lv_iload_n hx hb dX13_add_19 rfl (lv_at hl 1 rfl) ?_
    refine mr_iald hx hb hK hP 24 (k := 31) rfl rfl rfl (show vp_in x 80 from (iv_in hvx (by decide))) dX13_add_20 ?_
    refine lv_topi (fun z_47 ez_47 => ?_)
    have hz_47 : iv 0 24 z_47 := iv_of ez_47 (MI_a hI 31 hvx (by decide))
    refine lv_if_le (tgt := 28) hx hb dX13_add_21 (by decide) (fun c_48 => ?_) (fun c_48 => ?_)
    · have h_49 : iv 0 0 z_47 := iv_leL c_48 hz_47 (iv_k (by decide) : iv 0 0 0) (by decide)
      refine lv_iconst (v := 0) hx hb dX13_add_28 (by decide) ?_
      exact hj29 0 z_45 hvx (iv_w (iv_k (by decide) : iv 0 0 0) (by decide)) h_46 hvx (by have := i32_0; have := i32_1; have := i32_2; have := i32_m1; have := (show iv 0 1200 (sg 20) from MI_s hI 20).1; have := (show iv 0 1200 (sg 20) from MI_s hI 20).2; have := (show iv 0 1201 (sg 21) from MI_s hI 21).1; have := (show iv 0 1201 (sg 21) from MI_s hI 21).2; have := (show iv 0 3 (sg 22) from MI_s hI 22).1; have := (show iv 0 3 (sg 22) from MI_s hI 22).2; have := (hvx).1; have := (hvx).2; have := (h_44).1; have := (h_44).2; have := (h_46).1; have := (h_46).2; have := (h_49).1; have := (h_49).2; have := congrArg Int32.toInt ez_45; omega) (by have := i32_0; have := i32_1; have := i32_2; have := i32_m1; have := (show iv 0 1200 (sg 20) from MI_s hI 20).1; have := (show iv 0 1200 (sg 20) from MI_s hI 20).2; have := (show iv 0 1201 (sg 21) from MI_s hI 21).1; have := (show iv 0 1201 (sg 21) from MI_s hI 21).2; have := (show iv 0 3 (sg 22) from MI_s hI 22).1; have := (show iv 0 3 (sg 22) from MI_s hI 22).2; have := (hvx).1; have := (hvx).2; have := (h_44).1; have := (h_44).2; have := (h_46).1; have := (h_46).2; have := (h_49).1; have := (h_49).2; omega) _ _ _ hP hD hS (lv_sub hl [0, 1, 2] rfl)
    · have h_50 : iv 1 24 z_47 := iv_ltR (i32_lt c_48) (iv_k (by decide) : iv 0 0 0) hz_47 (by decide)
      refine lv_iconst (v := 1) hx hb dX13_add_24 (by decide) ?_
      refine lv_goto (tgt := 29) hx hb dX13_add_25 (by decide) ?_
      exact hj29 1 z_45 hvx (iv_w (iv_k (by decide) : iv 1 1 1) (by decide)) h_46 hvx (by have := i32_0; have := i32_1; have := i32_2; have := i32_m1; have := (show iv 0 1200 (sg 20) from MI_s hI 20).1; have := (show iv 0 1200 (sg 20) from MI_s hI 20).2; have := (show iv 0 1201 (sg 21) from MI_s hI 21).1; have := (show iv 0 1201 (sg 21) from MI_s hI 21).2; have := (show iv 0 3 (sg 22) from MI_s hI 22).1; have := (show iv 0 3 (sg 22) from MI_s hI 22).2; have := (hvx).1; have := (hvx).2; have := (h_44).1; have := (h_44).2; have := (h_46).1; have := (h_46).2; have := (h_50).1; have := (h_50).2; have := congrArg Int32.toInt ez_45; omega) (by have := i32_0; have := i32_1; have := i32_2; have := i32_m1; have := (show iv 0 1200 (sg 20) from MI_s hI 20).1; have := (show iv 0 1200 (sg 20) from MI_s hI 20).2; have := (show iv 0 1201 (sg 21) from MI_s hI 21).1; have := (show iv 0 1201 (sg 21) from MI_s hI 21).2; have := (show iv 0 3 (sg 22) from MI_s hI 22).1; have := (show iv 0 3 (sg 22) from MI_s hI 22).2; have := (hvx).1; have := (hvx).2; have := (h_44).1; have := (h_44).2; have := (h_46).1; have := (h_46).2; have := (h_50).1; have := (h_50).2; omega) _ _ _ hP hD hS (lv_sub hl [0, 1, 2] rfl)
