set_option maxHeartbeats 4000000 in
set_option maxRecDepth 100000 in
theorem f_merge45 (l : Launch) (dC : Nat → ClassId) (dI : Nat → Nat → Nat) (h0 : Nat) (ad : Nat → Nat) (cid : Nat → ClassId) (sg : Nat → Int32) (gm : Nat → Nat → Int32) (lg : Nat → Nat → Int64) (ba : Int32) (mn : Int32) (x : Int32) (hI : MI sg gm) (hvba : iv 0 2054 ba) (hvmn : iv 0 26 mn) (hvx : iv 0 79 x) (hrl : ROWL (mWn gm lg) (gm 45) ba.toNatClampNeg mn.toNatClampNeg) (hol : LW (mWn gm lg) x.toNatClampNeg) : MMi l dC dI yX13_merge wm_X13_merge ({ frames := 2, cells := 0, slots := 0, locals := 51 }) h0 ad cid [.ref (ad 45), .int ba, .int mn, .int x] sg gm lg (fun r v => ∃ (sg2 : Nat → Int32) (gm2 : Nat → Nat → Int32) (lg2 : Nat → Nat → Int64), v = (sg2, gm2, lg2) ∧ MI sg2 gm2 ∧ KS [] sg sg2 ∧ KS [45] gm gm2 ∧ KS [] lg lg2 ∧ (iv 0 26 r) ∧ (ROWL (mWn gm lg) (gm2 45) ba.toNatClampNeg r.toNatClampNeg) ∧ (RWF (gm 45) (gm2 45) ba.toNatClampNeg) ∧ (RWK (gm 45) (gm2 45) ba.toNatClampNeg mn.toNatClampNeg r.toNatClampNeg x)) := by
  intro sz
  refine Met.ofW (cc := cX13_merge) (maxL := 6) (ret := (some .int)) (by decide) rfl ?_
  intro p e s m args below meth c s₁ B hml hv
  obtain ⟨rfl, hsz, hP, hK, hD0⟩ := hv
  have hx := B.exec
  have hb := B.bytes
  have hr := B.returns
  have hts := atoms_spec (ws := wm_X13_merge) B.pre
  have htb := fun (w : Cond) (h : w ∈ tb) => hts w (List.mem_cons_of_mem _ h)
  have hown : s.vm.findClass RX13 = some m.cls := findClass_of_methodNamed B.named
  have hlocks := B.notSynchronized
  subst hsz
  have hD := hD0.self (sz := s.heap.size)
  generalize hAe : va_A (mW h0 ad cid sg gm lg) s.heap.size = A at hD ⊢
  have hA : ∀ q : Nat, s.heap.size ≤ q → A q := fun q h => by rw [← hAe]; exact Or.inr h
  have hS : va_S A s.heap s.heap [] := va_S.rf
  have hl := lv_entry ([.ref h0, .ref (ad 45), .int ba, .int mn, .int x]) (n := 6) (Nat.le_of_ble_eq_true rfl)
  rw [lg_entry_eq]
  generalize (lg_sl ([.ref h0, .ref (ad 45), .int ba, .int mn, .int x]) ++ List.replicate (6 - (lg_sl ([.ref h0, .ref (ad 45), .int ba, .int mn, .int x])).length) Slot.unset).toArray = ls at hl ⊢
  have hl : lv_has ls 6 [(0, .ref h0), (1, .ref (ad 45)), (2, .int ba), (3, .int mn), (4, .int x)] := hl
  have hj3 : ∀ (n : Nat) (x5_3 : Int32) (_ : (26 - x5_3.toInt).toNat = n) (_ : iv 0 26 x5_3) (_ : iv 0 2054 ba) (_ : iv 0 26 mn) (_ : iv 0 79 x) (_ : ∀ k9, 0 ≤ k9 → k9 < x5_3.toNatClampNeg → ¬ mWn gm lg (gm 45 (ba.toNatClampNeg + k9)).toNatClampNeg = mWn gm lg x.toNatClampNeg) (H : Heap) (locs : List Loc) (ls : Array Slot), va_P (dC, dI) vwCl (mW h0 ad cid sg gm lg) H → va_D A (mW h0 ad cid sg gm lg) → va_S A s.heap H locs → lv_has ls 6 [(5, .int x5_3), (0, .ref h0), (1, .ref (ad 45)), (2, .int ba), (3, .int mn), (4, .int x)] → W p l e (headSpec wm_X13_merge ({ frames := 2, cells := 0, slots := 0, locals := 51 })).room s m ([.ref h0, .ref (ad 45), .int ba, .int mn, .int x] : List Value).toArray below meth c H locs 0 0 (MQ below (va_Qi (fun r v => ∃ (sg2 : Nat → Int32) (gm2 : Nat → Nat → Int32) (lg2 : Nat → Nat → Int64), v = (sg2, gm2, lg2) ∧ MI sg2 gm2 ∧ KS [] sg sg2 ∧ KS [45] gm gm2 ∧ KS [] lg lg2 ∧ (iv 0 26 r) ∧ (ROWL (mWn gm lg) (gm2 45) ba.toNatClampNeg r.toNatClampNeg) ∧ (RWF (gm 45) (gm2 45) ba.toNatClampNeg) ∧ (RWK (gm 45) (gm2 45) ba.toNatClampNeg mn.toNatClampNeg r.toNatClampNeg x)) (MB dC dI h0 ad cid A) A) ([.ref h0, .ref (ad 45), .int ba, .int mn, .int x] : List Value).toArray s 0 0 A) (F0 m 3 ls []) := by
    intro n
    induction n using Nat.strongRecOn with
    | ind n ih3 =>
      intro x5_3 hn3 hx5_3 hsx2_3 hsx3_3 hsx4_3 hnw H locs ls hP hD hS hl
      refine lv_iload hx hb dX13_merge_3 (lv_at hl 0 rfl) ?_
      refine lv_iload_n hx hb dX13_merge_5 rfl (lv_at hl 4 rfl) ?_
      refine lv_icmp_ge (tgt := 54) hx hb dX13_merge_6 (by decide) (fun c_1 => ?_) (fun c_1 => ?_)
      · have d_2 : (mn : Int32).toInt ≤ (x5_3 : Int32).toInt := Int32.le_iff_toInt_le.mp c_1
        have hnw9 : ∀ k9, 0 ≤ k9 → k9 < mn.toNatClampNeg → ¬ mWn gm lg (gm 45 (ba.toNatClampNeg + k9)).toNatClampNeg = mWn gm lg x.toNatClampNeg := fun k9 h8 h9 => hnw k9 h8 (by have := le_cl hvmn hx5_3 (by decide) (by decide) (by have := i32_0; have := i32_1; have := i32_2; have := i32_m1; have := (hsx2_3).1; have := (hsx2_3).2; have := (hsx3_3).1; have := (hsx3_3).2; have := (hsx4_3).1; have := (hsx4_3).2; have := (hx5_3).1; have := (hx5_3).2; omega); omega)
        have h25 := row_room hrl hol (by have := iv_cl hvmn (by decide); have := hvmn.2; omega) hnw9
        have hm25 : iv 0 25 mn := ⟨hvmn.1, by have := iv_cl hvmn (by decide); omega⟩
        refine lv_aload_n hx hb dX13_merge_54 rfl (lv_at hl 2 rfl) ?_
        refine lv_iload_n hx hb dX13_merge_55 rfl (lv_at hl 3 rfl) ?_
        refine lv_iload_n hx hb dX13_merge_56 rfl (lv_at hl 4 rfl) ?_
        refine lv_iadd hx hb dX13_merge_57 ?_
        refine lv_topi (fun z_3 ez_3 => ?_)
        have hz_3 : iv 0 2079 z_3 := iv_of ez_3 (iv_add hsx2_3 hm25 (by decide))
        have tz_3 : z_3.toInt = (ba : Int32).toInt + (mn : Int32).toInt := by rw [ez_3]; exact iv_addE hsx2_3 hm25 (by decide)
        refine lv_iload hx hb dX13_merge_58 (lv_at hl 5 rfl) ?_
        refine ma_iast (x := x) hx hb hK hP hD hS 36 (k := 45) rfl rfl rfl (show vp_in z_3 2080 from (iv_in hz_3 (by decide))) dX13_merge_60 (fun gm_4 H locs egm_4 hP hD hS => ?_)
        have hI_gm_4 := MI_st hI egm_4 hsx4_3 (by decide)
        have hRR := row_app (W := mWn gm lg) hrl hol h25 hnw9 (show gm_4 45 = upd (gm 45) (z_3 : Int32).toNatClampNeg x from ((up_at egm_4).trans (by rw [show gm 45 = gm 45 from rfl]))) (cl_add hvba hm25 (by decide) (by decide) tz_3)
        refine lv_iload_n hx hb dX13_merge_61 rfl (lv_at hl 4 rfl) ?_
        refine lv_iconst (v := 1) hx hb dX13_merge_62 (by decide) ?_
        refine lv_iadd hx hb dX13_merge_63 ?_
        refine lv_topi (fun z_5 ez_5 => ?_)
        have hz_5 : iv 1 26 z_5 := iv_of ez_5 (iv_add hm25 (iv_k (by decide) : iv 1 1 1) (by decide))
        have tz_5 : z_5.toInt = (mn : Int32).toInt + 1 := by rw [ez_5]; exact iv_addE hm25 (iv_k (by decide) : iv 1 1 1) (by decide)
        exact W.iret (v := z_5) hx hb hr (fun t ht hW => ⟨⟨z_5, (sg, gm_4, lg), rfl, ⟨sg, gm_4, lg, rfl, hI_gm_4, KS_rf, (KS_up KS_rf egm_4 (by decide)), KS_rf, (iv_w hz_5 (by decide)), (by rw [s_cl hm25 (by decide) tz_5]; exact hRR.1), (hRR.2.1), (by rw [s_cl hm25 (by decide) tz_5]; exact hRR.2.2)⟩, by rw [ht]; exact hP, va_K.moved hW.alike hK, hD⟩, hS.F ht⟩) hS.2.2 dX13_merge_64
      · have d_6 : (x5_3 : Int32).toInt < (mn : Int32).toInt := Int32.lt_iff_toInt_lt.mp (i32_lt c_1)
        have h_7 : iv 0 25 x5_3 := iv_ltL (i32_lt c_1) hx5_3 hsx3_3 (by decide)
        have h_8 : iv 1 26 mn := iv_ltR (i32_lt c_1) hx5_3 hsx3_3 (by decide)
        refine lv_aload_n hx hb dX13_merge_9 rfl (lv_at hl 1 rfl) ?_
        refine lv_aload_n hx hb dX13_merge_10 rfl (lv_at hl 2 rfl) ?_
        refine lv_iload_n hx hb dX13_merge_11 rfl (lv_at hl 3 rfl) ?_
        refine lv_iload hx hb dX13_merge_12 (lv_at hl 0 rfl) ?_
        refine lv_iadd hx hb dX13_merge_14 ?_
        refine lv_topi (fun z_9 ez_9 => ?_)
        have hz_9 : iv 0 2079 z_9 := iv_of ez_9 (iv_add hsx2_3 h_7 (by decide))
        have tz_9 : z_9.toInt = (ba : Int32).toInt + (x5_3 : Int32).toInt := by rw [ez_9]; exact iv_addE hsx2_3 h_7 (by decide)
        refine mr_iald hx hb hK hP 36 (k := 45) rfl rfl rfl (show vp_in z_9 2080 from (iv_in hz_9 (by decide))) dX13_merge_15 ?_
        refine lv_topi (fun z_10 ez_10 => ?_)
        have hz_10 : iv 0 79 z_10 := iv_of ez_10 (MI_a hI 45 hz_9 (by decide))
        refine lv_ldc2 (own := RX13) (v := 1851878757) hx hb hown (htb _ kw_887) dX13_merge_16 ?_
        refine mr_calll (rest := []) ⟨hx, hb, hml, hown, htb⟩ (f_word l dC dI h0 ad cid sg gm lg z_10 1851878757 hI hz_10) (cwV 2 htb (gd_V kw_923 kw_924 kw_925 kw_5 kw_1545) rfl rfl rfl (by decide +kernel) ⟨Nat.le_of_ble_eq_true rfl, Nat.le_of_ble_eq_true rfl⟩) rfl hl.1 rfl (Nat.le_of_ble_eq_true rfl) dX13_merge_19 ⟨Nat.zero_le _, Nat.zero_le _⟩ hK hP hD hS hA (fun r_11 u_12 H locs hw hP hD hS => ?_)
        obtain ⟨fW_r_11, rfl⟩ := hw
        have hP : va_P (dC, dI) vwCl (mW h0 ad cid sg gm lg) H := hP
        have hD : va_D A (mW h0 ad cid sg gm lg) := hD
        refine lv_aload_n hx hb dX13_merge_22 rfl (lv_at hl 1 rfl) ?_
        refine lv_iload hx hb dX13_merge_23 (lv_at hl 5 rfl) ?_
        refine lv_ldc2 (own := RX13) (v := 1851878757) hx hb hown (htb _ kw_887) dX13_merge_25 ?_
        refine mr_calll (rest := [.long r_11]) ⟨hx, hb, hml, hown, htb⟩ (f_word l dC dI h0 ad cid sg gm lg x 1851878757 hI hsx4_3) (cwV 2 htb (gd_V kw_923 kw_924 kw_925 kw_5 kw_1545) rfl rfl rfl (by decide +kernel) ⟨Nat.le_of_ble_eq_true rfl, Nat.le_of_ble_eq_true rfl⟩) rfl hl.1 rfl (Nat.le_of_ble_eq_true rfl) dX13_merge_28 ⟨Nat.zero_le _, Nat.zero_le _⟩ hK hP hD hS hA (fun r_13 u_14 H locs hw hP hD hS => ?_)
        obtain ⟨fW_r_13, rfl⟩ := hw
        have hP : va_P (dC, dI) vwCl (mW h0 ad cid sg gm lg) H := hP
        have hD : va_D A (mW h0 ad cid sg gm lg) := hD
        refine W.lcmp hx hb dX13_merge_31 ?_
        refine lv_topi (fun z_15 ez_15 => ?_)
        have hz_15 : iv (-1) 1 z_15 := iv_of ez_15 (iv_cmp _ _)
        refine lv_if_eq (tgt := 38) hx hb dX13_merge_32 (by decide) (fun c_16 => ?_) (fun c_16 => ?_)
        · have h_17 : iv 0 0 z_15 := iv_eq c_16 hz_15 (iv_k (by decide) : iv 0 0 0) (by decide)
          refine lv_aload_n hx hb dX13_merge_38 rfl (lv_at hl 2 rfl) ?_
          refine lv_iload_n hx hb dX13_merge_39 rfl (lv_at hl 3 rfl) ?_
          refine lv_iload hx hb dX13_merge_40 (lv_at hl 0 rfl) ?_
          refine lv_iadd hx hb dX13_merge_42 ?_
          refine lv_topi (fun z_18 ez_18 => ?_)
          obtain rfl : z_9 = z_18 := ez_9.trans ez_18.symm
          refine lv_iload hx hb dX13_merge_43 (lv_at hl 5 rfl) ?_
          refine ma_iast (x := x) hx hb hK hP hD hS 36 (k := 45) rfl rfl rfl (show vp_in z_9 2080 from (iv_in hz_9 (by decide))) dX13_merge_45 (fun gm_19 H locs egm_19 hP hD hS => ?_)
          have hI_gm_19 := MI_st hI egm_19 hsx4_3 (by decide)
          have hRR := row_rep (W := mWn gm lg) (B := ba.toNatClampNeg) (k := x5_3.toNatClampNeg) hrl (show gm_19 45 = upd (gm 45) (z_9 : Int32).toNatClampNeg x from ((up_at egm_19).trans (by rw [show gm 45 = gm 45 from rfl]))) (cl_add hvba h_7 (by decide) (by decide) tz_9) (lt_cl h_7 hvmn (by decide) (by decide) (by have := i32_0; have := i32_1; have := i32_2; have := i32_m1; have := (hsx2_3).1; have := (hsx2_3).2; have := (h_8).1; have := (h_8).2; have := (hsx4_3).1; have := (hsx4_3).2; have := (h_7).1; have := (h_7).2; have := (hz_9).1; have := (hz_9).2; have := (hz_10).1; have := (hz_10).2; have := (h_17).1; have := (h_17).2; omega)) (by have := iv_cl hvmn (by decide); have := hvmn.2; omega) (by rw [← cl_add hvba h_7 (by decide) (by decide) tz_9, ← ez_10]; show mWord gm lg _ _ = mWord gm lg _ _; rw [← fW_r_11, ← fW_r_13]; exact (lg_cmp_eq _ _).mp (by rw [← ez_15]; exact c_16))
          refine lv_iload_n hx hb dX13_merge_46 rfl (lv_at hl 4 rfl) ?_
          exact W.iret (v := mn) hx hb hr (fun t ht hW => ⟨⟨mn, (sg, gm_19, lg), rfl, ⟨sg, gm_19, lg, rfl, hI_gm_19, KS_rf, (KS_up KS_rf egm_19 (by decide)), KS_rf, (iv_w h_8 (by decide)), (hRR.1), (hRR.2.1), (hRR.2.2)⟩, by rw [ht]; exact hP, va_K.moved hW.alike hK, hD⟩, hS.F ht⟩) hS.2.2 dX13_merge_47
        · have d_20 : ¬ (z_15 : Int32).toInt = 0 := lv_neT c_16 rfl
          refine lv_goto (tgt := 48) hx hb dX13_merge_35 (by decide) ?_
          obtain ⟨z_21, ez_21⟩ : ∃ z : Int32, z = x5_3 + 1 := ⟨_, rfl⟩
          have hz_21 : iv 1 26 z_21 := iv_of ez_21 (iv_add h_7 (iv_k (by decide) : iv 1 1 1) (by decide))
          have tz_21 : z_21.toInt = x5_3.toInt + 1 := by rw [ez_21]; exact iv_addE h_7 (iv_k (by decide) : iv 1 1 1) (by decide)
          refine lv_iinc (v := z_21) (lv' := [(5, .int z_21), (0, .ref h0), (1, .ref (ad 45)), (2, .int ba), (3, .int mn), (4, .int x)]) hx hb dX13_merge_48 hl (k := 0) rfl ez_21.symm (by decide) rfl (fun ls hl => ?_)
          refine lv_goto (tgt := 3) hx hb dX13_merge_51 (by decide) ?_
          exact ih3 _ (by rw [← hn3]; exact (iv_meas tz_21 h_7 (by decide))) z_21 rfl (iv_w hz_21 (by decide)) hsx2_3 (iv_w h_8 (by decide)) hsx4_3 (all_s h_7 (by decide) tz_21 hnw (fun q9 => c_16 (by rw [ez_15, fW_r_11, fW_r_13, ez_10, cl_add hvba h_7 (by decide) (by decide) tz_9]; exact (lg_cmp_eq _ _).mpr q9))) _ _ _ hP hD hS (lv_sub hl [0, 1, 2, 3, 4, 5] rfl)
  refine lv_iconst (v := 0) hx hb dX13_merge_0 (by decide) ?_
  refine lv_istore (lv' := [(5, .int 0), (0, .ref h0), (1, .ref (ad 45)), (2, .int ba), (3, .int mn), (4, .int x)]) hx hb dX13_merge_1 hl (by decide) rfl (fun ls hl => ?_)
  exact hj3 _ 0 rfl (iv_w (iv_k (by decide) : iv 0 0 0) (by decide)) hvba hvmn hvx (fun k9 _ h9 => absurd h9 (Nat.not_lt_zero _)) _ _ _ hP hD hS (lv_sub hl [0, 1, 2, 3, 4, 5] rfl)

set_option maxHeartbeats 4000000 in
set_option maxRecDepth 100000 in
theorem f_merge47 (l : Launch) (dC : Nat → ClassId) (dI : Nat → Nat → Nat) (h0 : Nat) (ad : Nat → Nat) (cid : Nat → ClassId) (sg : Nat → Int32) (gm : Nat → Nat → Int32) (lg : Nat → Nat → Int64) (ba : Int32) (mn : Int32) (x : Int32) (hI : MI sg gm) (hvba : iv 0 2054 ba) (hvmn : iv 0 26 mn) (hvx : iv 0 79 x) (hrl : ROWL (mWn gm lg) (gm 47) ba.toNatClampNeg mn.toNatClampNeg) (hol : LW (mWn gm lg) x.toNatClampNeg) : MMi l dC dI yX13_merge wm_X13_merge ({ frames := 2, cells := 0, slots := 0, locals := 51 }) h0 ad cid [.ref (ad 47), .int ba, .int mn, .int x] sg gm lg (fun r v => ∃ (sg2 : Nat → Int32) (gm2 : Nat → Nat → Int32) (lg2 : Nat → Nat → Int64), v = (sg2, gm2, lg2) ∧ MI sg2 gm2 ∧ KS [] sg sg2 ∧ KS [47] gm gm2 ∧ KS [] lg lg2 ∧ (iv 0 26 r) ∧ (ROWL (mWn gm lg) (gm2 47) ba.toNatClampNeg r.toNatClampNeg) ∧ (RWF (gm 47) (gm2 47) ba.toNatClampNeg) ∧ (RWK (gm 47) (gm2 47) ba.toNatClampNeg mn.toNatClampNeg r.toNatClampNeg x)) := by
  intro sz
  refine Met.ofW (cc := cX13_merge) (maxL := 6) (ret := (some .int)) (by decide) rfl ?_
  intro p e s m args below meth c s₁ B hml hv
  obtain ⟨rfl, hsz, hP, hK, hD0⟩ := hv
  have hx := B.exec
  have hb := B.bytes
  have hr := B.returns
  have hts := atoms_spec (ws := wm_X13_merge) B.pre
  have htb := fun (w : Cond) (h : w ∈ tb) => hts w (List.mem_cons_of_mem _ h)
  have hown : s.vm.findClass RX13 = some m.cls := findClass_of_methodNamed B.named
  have hlocks := B.notSynchronized
  subst hsz
  have hD := hD0.self (sz := s.heap.size)
  generalize hAe : va_A (mW h0 ad cid sg gm lg) s.heap.size = A at hD ⊢
  have hA : ∀ q : Nat, s.heap.size ≤ q → A q := fun q h => by rw [← hAe]; exact Or.inr h
  have hS : va_S A s.heap s.heap [] := va_S.rf
  have hl := lv_entry ([.ref h0, .ref (ad 47), .int ba, .int mn, .int x]) (n := 6) (Nat.le_of_ble_eq_true rfl)
  rw [lg_entry_eq]
  generalize (lg_sl ([.ref h0, .ref (ad 47), .int ba, .int mn, .int x]) ++ List.replicate (6 - (lg_sl ([.ref h0, .ref (ad 47), .int ba, .int mn, .int x])).length) Slot.unset).toArray = ls at hl ⊢
  have hl : lv_has ls 6 [(0, .ref h0), (1, .ref (ad 47)), (2, .int ba), (3, .int mn), (4, .int x)] := hl
  have hj3 : ∀ (n : Nat) (x5_3 : Int32) (_ : (26 - x5_3.toInt).toNat = n) (_ : iv 0 26 x5_3) (_ : iv 0 2054 ba) (_ : iv 0 26 mn) (_ : iv 0 79 x) (_ : ∀ k9, 0 ≤ k9 → k9 < x5_3.toNatClampNeg → ¬ mWn gm lg (gm 47 (ba.toNatClampNeg + k9)).toNatClampNeg = mWn gm lg x.toNatClampNeg) (H : Heap) (locs : List Loc) (ls : Array Slot), va_P (dC, dI) vwCl (mW h0 ad cid sg gm lg) H → va_D A (mW h0 ad cid sg gm lg) → va_S A s.heap H locs → lv_has ls 6 [(5, .int x5_3), (0, .ref h0), (1, .ref (ad 47)), (2, .int ba), (3, .int mn), (4, .int x)] → W p l e (headSpec wm_X13_merge ({ frames := 2, cells := 0, slots := 0, locals := 51 })).room s m ([.ref h0, .ref (ad 47), .int ba, .int mn, .int x] : List Value).toArray below meth c H locs 0 0 (MQ below (va_Qi (fun r v => ∃ (sg2 : Nat → Int32) (gm2 : Nat → Nat → Int32) (lg2 : Nat → Nat → Int64), v = (sg2, gm2, lg2) ∧ MI sg2 gm2 ∧ KS [] sg sg2 ∧ KS [47] gm gm2 ∧ KS [] lg lg2 ∧ (iv 0 26 r) ∧ (ROWL (mWn gm lg) (gm2 47) ba.toNatClampNeg r.toNatClampNeg) ∧ (RWF (gm 47) (gm2 47) ba.toNatClampNeg) ∧ (RWK (gm 47) (gm2 47) ba.toNatClampNeg mn.toNatClampNeg r.toNatClampNeg x)) (MB dC dI h0 ad cid A) A) ([.ref h0, .ref (ad 47), .int ba, .int mn, .int x] : List Value).toArray s 0 0 A) (F0 m 3 ls []) := by
    intro n
    induction n using Nat.strongRecOn with
    | ind n ih3 =>
      intro x5_3 hn3 hx5_3 hsx2_3 hsx3_3 hsx4_3 hnw H locs ls hP hD hS hl
      refine lv_iload hx hb dX13_merge_3 (lv_at hl 0 rfl) ?_
      refine lv_iload_n hx hb dX13_merge_5 rfl (lv_at hl 4 rfl) ?_
      refine lv_icmp_ge (tgt := 54) hx hb dX13_merge_6 (by decide) (fun c_1 => ?_) (fun c_1 => ?_)
      · have d_2 : (mn : Int32).toInt ≤ (x5_3 : Int32).toInt := Int32.le_iff_toInt_le.mp c_1
        have hnw9 : ∀ k9, 0 ≤ k9 → k9 < mn.toNatClampNeg → ¬ mWn gm lg (gm 47 (ba.toNatClampNeg + k9)).toNatClampNeg = mWn gm lg x.toNatClampNeg := fun k9 h8 h9 => hnw k9 h8 (by have := le_cl hvmn hx5_3 (by decide) (by decide) (by have := i32_0; have := i32_1; have := i32_2; have := i32_m1; have := (hsx2_3).1; have := (hsx2_3).2; have := (hsx3_3).1; have := (hsx3_3).2; have := (hsx4_3).1; have := (hsx4_3).2; have := (hx5_3).1; have := (hx5_3).2; omega); omega)
        have h25 := row_room hrl hol (by have := iv_cl hvmn (by decide); have := hvmn.2; omega) hnw9
        have hm25 : iv 0 25 mn := ⟨hvmn.1, by have := iv_cl hvmn (by decide); omega⟩
        refine lv_aload_n hx hb dX13_merge_54 rfl (lv_at hl 2 rfl) ?_
        refine lv_iload_n hx hb dX13_merge_55 rfl (lv_at hl 3 rfl) ?_
        refine lv_iload_n hx hb dX13_merge_56 rfl (lv_at hl 4 rfl) ?_
        refine lv_iadd hx hb dX13_merge_57 ?_
        refine lv_topi (fun z_3 ez_3 => ?_)
        have hz_3 : iv 0 2079 z_3 := iv_of ez_3 (iv_add hsx2_3 hm25 (by decide))
        have tz_3 : z_3.toInt = (ba : Int32).toInt + (mn : Int32).toInt := by rw [ez_3]; exact iv_addE hsx2_3 hm25 (by decide)
        refine lv_iload hx hb dX13_merge_58 (lv_at hl 5 rfl) ?_
        refine ma_iast (x := x) hx hb hK hP hD hS 38 (k := 47) rfl rfl rfl (show vp_in z_3 2080 from (iv_in hz_3 (by decide))) dX13_merge_60 (fun gm_4 H locs egm_4 hP hD hS => ?_)
        have hI_gm_4 := MI_st hI egm_4 hsx4_3 (by decide)
        have hRR := row_app (W := mWn gm lg) hrl hol h25 hnw9 (show gm_4 47 = upd (gm 47) (z_3 : Int32).toNatClampNeg x from ((up_at egm_4).trans (by rw [show gm 47 = gm 47 from rfl]))) (cl_add hvba hm25 (by decide) (by decide) tz_3)
        refine lv_iload_n hx hb dX13_merge_61 rfl (lv_at hl 4 rfl) ?_
        refine lv_iconst (v := 1) hx hb dX13_merge_62 (by decide) ?_
        refine lv_iadd hx hb dX13_merge_63 ?_
        refine lv_topi (fun z_5 ez_5 => ?_)
        have hz_5 : iv 1 26 z_5 := iv_of ez_5 (iv_add hm25 (iv_k (by decide) : iv 1 1 1) (by decide))
        have tz_5 : z_5.toInt = (mn : Int32).toInt + 1 := by rw [ez_5]; exact iv_addE hm25 (iv_k (by decide) : iv 1 1 1) (by decide)
        exact W.iret (v := z_5) hx hb hr (fun t ht hW => ⟨⟨z_5, (sg, gm_4, lg), rfl, ⟨sg, gm_4, lg, rfl, hI_gm_4, KS_rf, (KS_up KS_rf egm_4 (by decide)), KS_rf, (iv_w hz_5 (by decide)), (by rw [s_cl hm25 (by decide) tz_5]; exact hRR.1), (hRR.2.1), (by rw [s_cl hm25 (by decide) tz_5]; exact hRR.2.2)⟩, by rw [ht]; exact hP, va_K.moved hW.alike hK, hD⟩, hS.F ht⟩) hS.2.2 dX13_merge_64
      · have d_6 : (x5_3 : Int32).toInt < (mn : Int32).toInt := Int32.lt_iff_toInt_lt.mp (i32_lt c_1)
        have h_7 : iv 0 25 x5_3 := iv_ltL (i32_lt c_1) hx5_3 hsx3_3 (by decide)
        have h_8 : iv 1 26 mn := iv_ltR (i32_lt c_1) hx5_3 hsx3_3 (by decide)
        refine lv_aload_n hx hb dX13_merge_9 rfl (lv_at hl 1 rfl) ?_
        refine lv_aload_n hx hb dX13_merge_10 rfl (lv_at hl 2 rfl) ?_
        refine lv_iload_n hx hb dX13_merge_11 rfl (lv_at hl 3 rfl) ?_
        refine lv_iload hx hb dX13_merge_12 (lv_at hl 0 rfl) ?_
        refine lv_iadd hx hb dX13_merge_14 ?_
        refine lv_topi (fun z_9 ez_9 => ?_)
        have hz_9 : iv 0 2079 z_9 := iv_of ez_9 (iv_add hsx2_3 h_7 (by decide))
        have tz_9 : z_9.toInt = (ba : Int32).toInt + (x5_3 : Int32).toInt := by rw [ez_9]; exact iv_addE hsx2_3 h_7 (by decide)
        refine mr_iald hx hb hK hP 38 (k := 47) rfl rfl rfl (show vp_in z_9 2080 from (iv_in hz_9 (by decide))) dX13_merge_15 ?_
        refine lv_topi (fun z_10 ez_10 => ?_)
        have hz_10 : iv 0 79 z_10 := iv_of ez_10 (MI_a hI 47 hz_9 (by decide))
        refine lv_ldc2 (own := RX13) (v := 1851878757) hx hb hown (htb _ kw_887) dX13_merge_16 ?_
        refine mr_calll (rest := []) ⟨hx, hb, hml, hown, htb⟩ (f_word l dC dI h0 ad cid sg gm lg z_10 1851878757 hI hz_10) (cwV 2 htb (gd_V kw_923 kw_924 kw_925 kw_5 kw_1545) rfl rfl rfl (by decide +kernel) ⟨Nat.le_of_ble_eq_true rfl, Nat.le_of_ble_eq_true rfl⟩) rfl hl.1 rfl (Nat.le_of_ble_eq_true rfl) dX13_merge_19 ⟨Nat.zero_le _, Nat.zero_le _⟩ hK hP hD hS hA (fun r_11 u_12 H locs hw hP hD hS => ?_)
        obtain ⟨fW_r_11, rfl⟩ := hw
        have hP : va_P (dC, dI) vwCl (mW h0 ad cid sg gm lg) H := hP
        have hD : va_D A (mW h0 ad cid sg gm lg) := hD
        refine lv_aload_n hx hb dX13_merge_22 rfl (lv_at hl 1 rfl) ?_
        refine lv_iload hx hb dX13_merge_23 (lv_at hl 5 rfl) ?_
        refine lv_ldc2 (own := RX13) (v := 1851878757) hx hb hown (htb _ kw_887) dX13_merge_25 ?_
        refine mr_calll (rest := [.long r_11]) ⟨hx, hb, hml, hown, htb⟩ (f_word l dC dI h0 ad cid sg gm lg x 1851878757 hI hsx4_3) (cwV 2 htb (gd_V kw_923 kw_924 kw_925 kw_5 kw_1545) rfl rfl rfl (by decide +kernel) ⟨Nat.le_of_ble_eq_true rfl, Nat.le_of_ble_eq_true rfl⟩) rfl hl.1 rfl (Nat.le_of_ble_eq_true rfl) dX13_merge_28 ⟨Nat.zero_le _, Nat.zero_le _⟩ hK hP hD hS hA (fun r_13 u_14 H locs hw hP hD hS => ?_)
        obtain ⟨fW_r_13, rfl⟩ := hw
        have hP : va_P (dC, dI) vwCl (mW h0 ad cid sg gm lg) H := hP
        have hD : va_D A (mW h0 ad cid sg gm lg) := hD
        refine W.lcmp hx hb dX13_merge_31 ?_
        refine lv_topi (fun z_15 ez_15 => ?_)
        have hz_15 : iv (-1) 1 z_15 := iv_of ez_15 (iv_cmp _ _)
        refine lv_if_eq (tgt := 38) hx hb dX13_merge_32 (by decide) (fun c_16 => ?_) (fun c_16 => ?_)
        · have h_17 : iv 0 0 z_15 := iv_eq c_16 hz_15 (iv_k (by decide) : iv 0 0 0) (by decide)
          refine lv_aload_n hx hb dX13_merge_38 rfl (lv_at hl 2 rfl) ?_
          refine lv_iload_n hx hb dX13_merge_39 rfl (lv_at hl 3 rfl) ?_
          refine lv_iload hx hb dX13_merge_40 (lv_at hl 0 rfl) ?_
          refine lv_iadd hx hb dX13_merge_42 ?_
          refine lv_topi (fun z_18 ez_18 => ?_)
          obtain rfl : z_9 = z_18 := ez_9.trans ez_18.symm
          refine lv_iload hx hb dX13_merge_43 (lv_at hl 5 rfl) ?_
          refine ma_iast (x := x) hx hb hK hP hD hS 38 (k := 47) rfl rfl rfl (show vp_in z_9 2080 from (iv_in hz_9 (by decide))) dX13_merge_45 (fun gm_19 H locs egm_19 hP hD hS => ?_)
          have hI_gm_19 := MI_st hI egm_19 hsx4_3 (by decide)
          have hRR := row_rep (W := mWn gm lg) (B := ba.toNatClampNeg) (k := x5_3.toNatClampNeg) hrl (show gm_19 47 = upd (gm 47) (z_9 : Int32).toNatClampNeg x from ((up_at egm_19).trans (by rw [show gm 47 = gm 47 from rfl]))) (cl_add hvba h_7 (by decide) (by decide) tz_9) (lt_cl h_7 hvmn (by decide) (by decide) (by have := i32_0; have := i32_1; have := i32_2; have := i32_m1; have := (hsx2_3).1; have := (hsx2_3).2; have := (h_8).1; have := (h_8).2; have := (hsx4_3).1; have := (hsx4_3).2; have := (h_7).1; have := (h_7).2; have := (hz_9).1; have := (hz_9).2; have := (hz_10).1; have := (hz_10).2; have := (h_17).1; have := (h_17).2; omega)) (by have := iv_cl hvmn (by decide); have := hvmn.2; omega) (by rw [← cl_add hvba h_7 (by decide) (by decide) tz_9, ← ez_10]; show mWord gm lg _ _ = mWord gm lg _ _; rw [← fW_r_11, ← fW_r_13]; exact (lg_cmp_eq _ _).mp (by rw [← ez_15]; exact c_16))
          refine lv_iload_n hx hb dX13_merge_46 rfl (lv_at hl 4 rfl) ?_
          exact W.iret (v := mn) hx hb hr (fun t ht hW => ⟨⟨mn, (sg, gm_19, lg), rfl, ⟨sg, gm_19, lg, rfl, hI_gm_19, KS_rf, (KS_up KS_rf egm_19 (by decide)), KS_rf, (iv_w h_8 (by decide)), (hRR.1), (hRR.2.1), (hRR.2.2)⟩, by rw [ht]; exact hP, va_K.moved hW.alike hK, hD⟩, hS.F ht⟩) hS.2.2 dX13_merge_47
        · have d_20 : ¬ (z_15 : Int32).toInt = 0 := lv_neT c_16 rfl
          refine lv_goto (tgt := 48) hx hb dX13_merge_35 (by decide) ?_
          obtain ⟨z_21, ez_21⟩ : ∃ z : Int32, z = x5_3 + 1 := ⟨_, rfl⟩
          have hz_21 : iv 1 26 z_21 := iv_of ez_21 (iv_add h_7 (iv_k (by decide) : iv 1 1 1) (by decide))
          have tz_21 : z_21.toInt = x5_3.toInt + 1 := by rw [ez_21]; exact iv_addE h_7 (iv_k (by decide) : iv 1 1 1) (by decide)
          refine lv_iinc (v := z_21) (lv' := [(5, .int z_21), (0, .ref h0), (1, .ref (ad 47)), (2, .int ba), (3, .int mn), (4, .int x)]) hx hb dX13_merge_48 hl (k := 0) rfl ez_21.symm (by decide) rfl (fun ls hl => ?_)
          refine lv_goto (tgt := 3) hx hb dX13_merge_51 (by decide) ?_
          exact ih3 _ (by rw [← hn3]; exact (iv_meas tz_21 h_7 (by decide))) z_21 rfl (iv_w hz_21 (by decide)) hsx2_3 (iv_w h_8 (by decide)) hsx4_3 (all_s h_7 (by decide) tz_21 hnw (fun q9 => c_16 (by rw [ez_15, fW_r_11, fW_r_13, ez_10, cl_add hvba h_7 (by decide) (by decide) tz_9]; exact (lg_cmp_eq _ _).mpr q9))) _ _ _ hP hD hS (lv_sub hl [0, 1, 2, 3, 4, 5] rfl)
  refine lv_iconst (v := 0) hx hb dX13_merge_0 (by decide) ?_
  refine lv_istore (lv' := [(5, .int 0), (0, .ref h0), (1, .ref (ad 47)), (2, .int ba), (3, .int mn), (4, .int x)]) hx hb dX13_merge_1 hl (by decide) rfl (fun ls hl => ?_)
  exact hj3 _ 0 rfl (iv_w (iv_k (by decide) : iv 0 0 0) (by decide)) hvba hvmn hvx (fun k9 _ h9 => absurd h9 (Nat.not_lt_zero _)) _ _ _ hP hD hS (lv_sub hl [0, 1, 2, 3, 4, 5] rfl)

set_option maxHeartbeats 4000000 in
set_option maxRecDepth 100000 in
theorem f_mergeBean (l : Launch) (dC : Nat → ClassId) (dI : Nat → Nat → Nat) (h0 : Nat) (ad : Nat → Nat) (cid : Nat → ClassId) (sg : Nat → Int32) (gm : Nat → Nat → Int32) (lg : Nat → Nat → Int64) (b : Int32) (hI : MI sg gm) (hvb : iv 0 79 b) (hbl : b.toInt < (sg 41).toInt) (hac : ACY sg gm lg) (hst : STR sg gm lg) : MMv l dC dI yX13_mergeBean wm_X13_mergeBean ({ frames := 4, cells := 0, slots := 0, locals := 95 }) h0 ad cid [.int b] sg gm lg (fun v => ∃ (sg2 : Nat → Int32) (gm2 : Nat → Nat → Int32) (lg2 : Nat → Nat → Int64), v = (sg2, gm2, lg2) ∧ MI sg2 gm2 ∧ KS [] sg sg2 ∧ KS [44, 45, 46, 47] gm gm2 ∧ KS [] lg lg2 ∧ (MBS (mWn gm lg) (SEK sg gm 5) gm gm2 b.toNatClampNeg)) := by
  intro sz
  refine Met.ofW (cc := cX13_mergeBean) (maxL := 6) (ret := none) (by decide) rfl ?_
  intro p e s m args below meth c s₁ B hml hv
  obtain ⟨rfl, hsz, hP, hK, hD0⟩ := hv
  have hx := B.exec
  have hb := B.bytes
  have hr := B.returns
  have hts := atoms_spec (ws := wm_X13_mergeBean) B.pre
  have htb := fun (w : Cond) (h : w ∈ tb) => hts w (List.mem_cons_of_mem _ h)
  have hown : s.vm.findClass RX13 = some m.cls := findClass_of_methodNamed B.named
  have hlocks := B.notSynchronized
  subst hsz
  have hD := hD0.self (sz := s.heap.size)
  generalize hAe : va_A (mW h0 ad cid sg gm lg) s.heap.size = A at hD ⊢
  have hA : ∀ q : Nat, s.heap.size ≤ q → A q := fun q h => by rw [← hAe]; exact Or.inr h
  have hS : va_S A s.heap s.heap [] := va_S.rf
  have hl := lv_entry ([.ref h0, .int b]) (n := 6) (Nat.le_of_ble_eq_true rfl)
  rw [lg_entry_eq]
  generalize (lg_sl ([.ref h0, .int b]) ++ List.replicate (6 - (lg_sl ([.ref h0, .int b])).length) Slot.unset).toArray = ls at hl ⊢
  have hl : lv_has ls 6 [(0, .ref h0), (1, .int b)] := hl
  have hj39 : ∀ (n : Nat) (gm_j39 : Nat → Nat → Int32) (x3_39 : Int32) (x2_39 : Int32) (_ : (x3_39.toInt - (-1)).toNat = n) (_ : iv (-1) 80 x3_39) (_ : iv 0 81 x2_39) (_ : iv 0 79 b) (_ : KS [44, 45, 46, 47] gm gm_j39) (_ : MI sg gm_j39) (_ : MBS (mWn gm lg) (SEK sg gm 5) gm gm_j39 b.toNatClampNeg) (_ : x3_39.toInt < (dP sg gm lg b : Int)) (H : Heap) (locs : List Loc) (ls : Array Slot), va_P (dC, dI) vwCl (mW h0 ad cid sg gm_j39 lg) H → va_D A (mW h0 ad cid sg gm_j39 lg) → va_S A s.heap H locs → lv_has ls 6 [(3, .int x3_39), (2, .int x2_39), (0, .ref h0), (1, .int b)] → W p l e (headSpec wm_X13_mergeBean ({ frames := 4, cells := 0, slots := 0, locals := 95 })).room s m ([.ref h0, .int b] : List Value).toArray below meth c H locs 0 0 (MQ below (va_Qv (fun v => ∃ (sg2 : Nat → Int32) (gm2 : Nat → Nat → Int32) (lg2 : Nat → Nat → Int64), v = (sg2, gm2, lg2) ∧ MI sg2 gm2 ∧ KS [] sg sg2 ∧ KS [44, 45, 46, 47] gm gm2 ∧ KS [] lg lg2 ∧ (MBS (mWn gm lg) (SEK sg gm 5) gm gm2 b.toNatClampNeg)) (MB dC dI h0 ad cid A) A) ([.ref h0, .int b] : List Value).toArray s 0 0 A) (F0 m 39 ls []) := by
    intro n
    induction n using Nat.strongRecOn with
    | ind n ih39 =>
      intro gm_j39 x3_39 x2_39 hn39 hx3_39 hx2_39 hsx1_39 hkg_j39 hI_j39 hmb hdd H locs ls hP hD hS hl
      have hj151 : ∀ (n : Nat) (gm_j151 : Nat → Nat → Int32) (x5_151 : Int32) (x4_151 : Int32) (_ : mE x5_151 = n) (_ : iv (-1) 79 x5_151) (_ : iv 0 79 x4_151) (_ : iv 0 80 x3_39) (_ : iv 0 81 x2_39) (_ : iv 0 79 b) (_ : KS [44, 45, 46, 47] gm gm_j151) (_ : MI sg gm_j151) (_ : MBS (mWn gm lg) (SEK sg gm 5) gm gm_j151 b.toNatClampNeg) (_ : x4_151.toInt < (sg 41).toInt) (_ : x5_151 = -1 ∨ SEK sg gm 10 x5_151) (H : Heap) (locs : List Loc) (ls : Array Slot), va_P (dC, dI) vwCl (mW h0 ad cid sg gm_j151 lg) H → va_D A (mW h0 ad cid sg gm_j151 lg) → va_S A s.heap H locs → lv_has ls 6 [(5, .int x5_151), (4, .int x4_151), (3, .int x3_39), (2, .int x2_39), (0, .ref h0), (1, .int b)] → W p l e (headSpec wm_X13_mergeBean ({ frames := 4, cells := 0, slots := 0, locals := 95 })).room s m ([.ref h0, .int b] : List Value).toArray below meth c H locs 0 0 (MQ below (va_Qv (fun v => ∃ (sg2 : Nat → Int32) (gm2 : Nat → Nat → Int32) (lg2 : Nat → Nat → Int64), v = (sg2, gm2, lg2) ∧ MI sg2 gm2 ∧ KS [] sg sg2 ∧ KS [44, 45, 46, 47] gm gm2 ∧ KS [] lg lg2 ∧ (MBS (mWn gm lg) (SEK sg gm 5) gm gm2 b.toNatClampNeg)) (MB dC dI h0 ad cid A) A) ([.ref h0, .int b] : List Value).toArray s 0 0 A) (F0 m 151 ls []) := by
        intro n
        induction n using Nat.strongRecOn with
        | ind n ih151 =>
          intro gm_j151 x5_151 x4_151 hn151 hx5_151 hx4_151 hsx3_151 hsx2_151 hsx1_151 hkg_j151 hI_j151 hmb hlb he5 H locs ls hP hD hS hl
          refine lv_iload hx hb dX13_mergeBean_151 (lv_at hl 0 rfl) ?_
          refine lv_iconst (v := (-1)) hx hb dX13_mergeBean_153 (by decide) ?_
          refine lv_icmp_eq (tgt := 203) hx hb dX13_mergeBean_154 (by decide) (fun c_1 => ?_) (fun c_1 => ?_)
          · have h_2 : iv (-1) (-1) x5_151 := iv_eq c_1 hx5_151 (iv_k (by decide) : iv (-1) (-1) (-1)) (by decide)
            obtain ⟨z_3, ez_3⟩ : ∃ z : Int32, z = x3_39 + (-1) := ⟨_, rfl⟩
            have hz_3 : iv (-1) 79 z_3 := iv_of ez_3 (iv_add hsx3_151 (iv_k (by decide) : iv (-1) (-1) (-1)) (by decide))
            have tz_3 : z_3.toInt = x3_39.toInt - 1 := by rw [ez_3]; exact iv_addE hsx3_151 (iv_k (by decide) : iv (-1) (-1) (-1)) (by decide)
            refine lv_iinc (v := z_3) (lv' := [(3, .int z_3), (5, .int x5_151), (4, .int x4_151), (2, .int x2_39), (0, .ref h0), (1, .int b)]) hx hb dX13_mergeBean_203 hl (k := 2) rfl ez_3.symm (by decide) rfl (fun ls hl => ?_)
            refine lv_goto (tgt := 39) hx hb dX13_mergeBean_206 (by decide) ?_
            exact ih39 _ (by rw [← hn39]; exact (iv_measDn tz_3 (by decide) hsx3_151 (by decide))) gm_j151 z_3 x2_39 rfl (iv_w hz_3 (by decide)) hsx2_151 hsx1_151 (KS_tr (L := [44, 45, 46, 47]) KS_rf hkg_j151 (by decide)) hI_j151 (hmb) (by have := tz_3; omega) _ _ _ hP hD hS (lv_sub hl [0, 3, 4, 5] rfl)
          · have h_4 : iv 0 79 x5_151 := iv_neL c_1 hx5_151 (by decide)
            have hse := he5.resolve_left c_1
            refine lv_aload_n hx hb dX13_mergeBean_157 rfl (lv_at hl 4 rfl) ?_
            refine mr_get (v := .ref (ad 46)) hx hb htb inX13 hown hK hP 46 (by decide) (htb _ kw_200) rfl dX13_mergeBean_158 ?_
            refine lv_iload_n hx hb dX13_mergeBean_161 rfl (lv_at hl 5 rfl) ?_
            refine lv_aload_n hx hb dX13_mergeBean_162 rfl (lv_at hl 4 rfl) ?_
            refine lv_aload_n hx hb dX13_mergeBean_163 rfl (lv_at hl 4 rfl) ?_
            refine mr_get (v := .ref (ad 47)) hx hb htb inX13 hown hK hP 47 (by decide) (htb _ kw_201) rfl dX13_mergeBean_164 ?_
            refine lv_bipush (v := 26) hx hb dX13_mergeBean_167 (by decide) ?_
            refine lv_iload_n hx hb dX13_mergeBean_169 rfl (lv_at hl 5 rfl) ?_
            refine lv_imul hx hb dX13_mergeBean_170 ?_
            refine lv_topi (fun z_5 ez_5 => ?_)
            have hz_5 : iv 0 2054 z_5 := iv_of ez_5 (iv_mul (iv_k (by decide) : iv 26 26 26) hsx1_151 (by decide))
            have tz_5 : z_5.toInt = 26 * (b : Int32).toInt := by rw [ez_5]; exact iv_mulE (iv_k (by decide) : iv 26 26 26) hsx1_151 (by decide)
            refine lv_aload_n hx hb dX13_mergeBean_171 rfl (lv_at hl 4 rfl) ?_
            refine mr_get (v := .ref (ad 46)) hx hb htb inX13 hown hK hP 46 (by decide) (htb _ kw_200) rfl dX13_mergeBean_172 ?_
            refine lv_iload_n hx hb dX13_mergeBean_175 rfl (lv_at hl 5 rfl) ?_
            refine mr_iald hx hb hK hP 37 (k := 46) rfl rfl rfl (show vp_in b 80 from (iv_in hsx1_151 (by decide))) dX13_mergeBean_176 ?_
            refine lv_topi (fun z_6 ez_6 => ?_)
            have hz_6 : iv 0 26 z_6 := iv_of ez_6 (MI_a hI_j151 46 hsx1_151 (by decide))
            refine lv_iload hx hb dX13_mergeBean_177 (lv_at hl 0 rfl) ?_
            refine mr_calli (rest := [.int b, .ref (ad 46)]) ⟨hx, hb, hml, hown, htb⟩ (f_merge47 l dC dI h0 ad cid sg gm_j151 lg z_5 z_6 x5_151 hI_j151 hz_5 hz_6 hse.1 (by rw [mWn_k (DK_of (show KS [] sg sg from KS_rf) (show KS [44, 45, 46, 47] gm gm_j151 from (KS_tr (L := [44, 45, 46, 47]) KS_rf hkg_j151 (by decide))) (show KS [] lg lg from KS_rf) (by decide) (by decide) (by decide)).1, cl26 hvb tz_5, ez_6]; exact hmb.2.2.2.2) (by rw [mWn_k (DK_of (show KS [] sg sg from KS_rf) (show KS [44, 45, 46, 47] gm gm_j151 from (KS_tr (L := [44, 45, 46, 47]) KS_rf hkg_j151 (by decide))) (show KS [] lg lg from KS_rf) (by decide) (by decide) (by decide)).1]; exact SEK_ol hst hse (by decide))) (cwV 4 htb (gd_V kw_964 kw_965 kw_966 kw_5 kw_1558) rfl rfl rfl (by decide +kernel) ⟨Nat.le_of_ble_eq_true rfl, Nat.le_of_ble_eq_true rfl⟩) rfl hl.1 rfl (Nat.le_of_ble_eq_true rfl) dX13_mergeBean_179 ⟨Nat.zero_le _, Nat.zero_le _⟩ hK hP hD hS hA (fun r_7 u_8 H locs hw hP hD hS => ?_)
            obtain ⟨sgv_9, gmv_9, lgv_9, rfl, hIv_9, ksv_9, kgv_9, klv_9, hr_7, fRl_r_7, fRo_r_7, fRk_r_7⟩ := hw
            obtain rfl := KS_nil ksv_9
            obtain rfl := KS_nil klv_9
            have hP : va_P (dC, dI) vwCl (mW h0 ad cid sg gmv_9 lg) H := hP
            have hD : va_D A (mW h0 ad cid sg gmv_9 lg) := hD
            have q91 := fRl_r_7
            rw [mWn_k (DK_of (show KS [] sg sg from KS_rf) (show KS [44, 45, 46, 47] gm gm_j151 from (KS_tr (L := [44, 45, 46, 47]) KS_rf hkg_j151 (by decide))) (show KS [] lg lg from KS_rf) (by decide) (by decide) (by decide)).1, cl26 hvb tz_5] at q91
            have q92 := fRo_r_7
            rw [cl26 hvb tz_5] at q92
            have q93 := fRk_r_7
            rw [cl26 hvb tz_5, ez_6] at q93
            refine ma_iast (x := r_7) hx hb hK hP hD hS 37 (k := 46) rfl rfl rfl (show vp_in b 80 from (iv_in hsx1_151 (by decide))) dX13_mergeBean_182 (fun gm_10 H locs egm_10 hP hD hS => ?_)
            have hI_gm_10 := MI_st hIv_9 egm_10 hr_7 (by decide)
            refine lv_aload_n hx hb dX13_mergeBean_183 rfl (lv_at hl 4 rfl) ?_
            refine lv_aload_n hx hb dX13_mergeBean_184 rfl (lv_at hl 4 rfl) ?_
            refine mr_get (v := .ref (ad 42)) hx hb htb inX13 hown hK hP 42 (by decide) (htb _ kw_196) rfl dX13_mergeBean_185 ?_
            refine lv_iload hx hb dX13_mergeBean_188 (lv_at hl 1 rfl) ?_
            refine mr_iald hx hb hK hP 33 (k := 42) rfl rfl rfl (show vp_in x4_151 80 from (iv_in hx4_151 (by decide))) dX13_mergeBean_190 ?_
            refine lv_topi (fun z_11 ez_11 => ?_)
            have hz_11 : iv 0 79 z_11 := iv_of ez_11 (MI_a hI_gm_10 42 hx4_151 (by decide))
            have ez_11 := ez_11.trans (congrFun (Eq.trans (Eq.trans (up_ne egm_10 (by decide)) (kgv_9 42 (by decide))) (hkg_j151 42 (by decide))) _)
            refine lv_bipush (v := 10) hx hb dX13_mergeBean_191 (by decide) ?_
            refine lv_iload hx hb dX13_mergeBean_193 (lv_at hl 0 rfl) ?_
            refine mr_calli (rest := []) ⟨hx, hb, hml, hown, htb⟩ (f_inner l dC dI h0 ad cid sg gm_10 lg z_11 10 x5_151 hI_gm_10 (iv_w hz_11 (by decide)) (iv_w (iv_k (by decide) : iv 10 10 10) (by decide)) hse.1) (cwV 3 htb (gd_V kw_961 kw_962 kw_963 kw_5 kw_1557) rfl rfl rfl (by decide +kernel) ⟨Nat.le_of_ble_eq_true rfl, Nat.le_of_ble_eq_true rfl⟩) rfl hl.1 rfl (Nat.le_of_ble_eq_true rfl) dX13_mergeBean_195 ⟨Nat.zero_le _, Nat.zero_le _⟩ hK hP hD hS hA (fun r_12 u_13 H locs hw hP hD hS => ?_)
            obtain ⟨hr_12, fN_r_12, rfl⟩ := hw
            have hP : va_P (dC, dI) vwCl (mW h0 ad cid sg gm_10 lg) H := hP
            have hD : va_D A (mW h0 ad cid sg gm_10 lg) := hD
            refine lv_istore (lv' := [(5, .int r_12), (4, .int x4_151), (3, .int x3_39), (2, .int x2_39), (0, .ref h0), (1, .int b)]) hx hb dX13_mergeBean_198 hl (by decide) rfl (fun ls hl => ?_)
            refine lv_goto (tgt := 151) hx hb dX13_mergeBean_200 (by decide) ?_
            exact ih151 _ (by rw [← hn151]; exact (mE_lt hse.1 hr_12 ((SEK_of (show iv 0 80 (sg 24) from MI_s hI 24) (by decide) (fN_r_12.trans (mInn_k (DK_of (show KS [] sg sg from KS_rf) (show KS [44, 45, 46, 47] gm gm_10 from (KS_up (KS_tr (L := [44, 45, 46, 47]) (KS_tr (L := [44, 45, 46, 47]) KS_rf hkg_j151 (by decide)) kgv_9 (by decide)) egm_10 (by decide))) (show KS [] lg lg from KS_rf) (by decide) (by decide) (by decide)).1 _ _ _))).imp id And.right))) gm_10 r_12 x4_151 rfl hr_12 hx4_151 hsx3_151 hsx2_151 hsx1_151 (KS_up (KS_tr (L := [44, 45, 46, 47]) (KS_tr (L := [44, 45, 46, 47]) KS_rf hkg_j151 (by decide)) kgv_9 (by decide)) egm_10 (by decide)) hI_gm_10 (MBS_l hmb (by rw [show gm_10 47 = _ from (up_ne egm_10 (by decide))]; exact q91) (show gm_10 46 = upd (gm_j151 46) (b : Int32).toNatClampNeg r_7 from ((up_at egm_10).trans (by rw [show gmv_9 46 = gm_j151 46 from ((kgv_9 46 (by decide)).trans rfl)]))) (Eq.trans (up_ne egm_10 (by decide)) (kgv_9 45 (by decide))) (Eq.trans (up_ne egm_10 (by decide)) (kgv_9 44 (by decide)))) (hlb) ((SEK_of (show iv 0 80 (sg 24) from MI_s hI 24) (by decide) (fN_r_12.trans (mInn_k (DK_of (show KS [] sg sg from KS_rf) (show KS [44, 45, 46, 47] gm gm_10 from (KS_up (KS_tr (L := [44, 45, 46, 47]) (KS_tr (L := [44, 45, 46, 47]) KS_rf hkg_j151 (by decide)) kgv_9 (by decide)) egm_10 (by decide))) (show KS [] lg lg from KS_rf) (by decide) (by decide) (by decide)).1 _ _ _))).imp id And.left) _ _ _ hP hD hS (lv_sub hl [0, 1, 2, 3, 4, 5] rfl)
      have hj84 : ∀ (n : Nat) (gm_j84 : Nat → Nat → Int32) (x5_84 : Int32) (x4_84 : Int32) (_ : mE x5_84 = n) (_ : iv (-1) 79 x5_84) (_ : iv 0 79 x4_84) (_ : iv 0 80 x3_39) (_ : iv 0 81 x2_39) (_ : iv 0 79 b) (_ : KS [44, 45, 46, 47] gm gm_j84) (_ : MI sg gm_j84) (_ : MBS (mWn gm lg) (SEK sg gm 5) gm gm_j84 b.toNatClampNeg) (_ : x4_84.toInt < (sg 41).toInt) (_ : x5_84 = -1 ∨ SEK sg gm 5 x5_84) (H : Heap) (locs : List Loc) (ls : Array Slot), va_P (dC, dI) vwCl (mW h0 ad cid sg gm_j84 lg) H → va_D A (mW h0 ad cid sg gm_j84 lg) → va_S A s.heap H locs → lv_has ls 6 [(5, .int x5_84), (4, .int x4_84), (3, .int x3_39), (2, .int x2_39), (0, .ref h0), (1, .int b)] → W p l e (headSpec wm_X13_mergeBean ({ frames := 4, cells := 0, slots := 0, locals := 95 })).room s m ([.ref h0, .int b] : List Value).toArray below meth c H locs 0 0 (MQ below (va_Qv (fun v => ∃ (sg2 : Nat → Int32) (gm2 : Nat → Nat → Int32) (lg2 : Nat → Nat → Int64), v = (sg2, gm2, lg2) ∧ MI sg2 gm2 ∧ KS [] sg sg2 ∧ KS [44, 45, 46, 47] gm gm2 ∧ KS [] lg lg2 ∧ (MBS (mWn gm lg) (SEK sg gm 5) gm gm2 b.toNatClampNeg)) (MB dC dI h0 ad cid A) A) ([.ref h0, .int b] : List Value).toArray s 0 0 A) (F0 m 84 ls []) := by
        intro n
        induction n using Nat.strongRecOn with
        | ind n ih84 =>
          intro gm_j84 x5_84 x4_84 hn84 hx5_84 hx4_84 hsx3_84 hsx2_84 hsx1_84 hkg_j84 hI_j84 hmb hlb he5 H locs ls hP hD hS hl
          refine lv_iload hx hb dX13_mergeBean_84 (lv_at hl 0 rfl) ?_
          refine lv_iconst (v := (-1)) hx hb dX13_mergeBean_86 (by decide) ?_
          refine lv_icmp_eq (tgt := 135) hx hb dX13_mergeBean_87 (by decide) (fun c_14 => ?_) (fun c_14 => ?_)
          · have h_15 : iv (-1) (-1) x5_84 := iv_eq c_14 hx5_84 (iv_k (by decide) : iv (-1) (-1) (-1)) (by decide)
            refine lv_aload_n hx hb dX13_mergeBean_135 rfl (lv_at hl 4 rfl) ?_
            refine lv_aload_n hx hb dX13_mergeBean_136 rfl (lv_at hl 4 rfl) ?_
            refine mr_get (v := .ref (ad 42)) hx hb htb inX13 hown hK hP 42 (by decide) (htb _ kw_196) rfl dX13_mergeBean_137 ?_
            refine lv_iload hx hb dX13_mergeBean_140 (lv_at hl 1 rfl) ?_
            refine mr_iald hx hb hK hP 33 (k := 42) rfl rfl rfl (show vp_in x4_84 80 from (iv_in hx4_84 (by decide))) dX13_mergeBean_142 ?_
            refine lv_topi (fun z_16 ez_16 => ?_)
            have hz_16 : iv 0 79 z_16 := iv_of ez_16 (MI_a hI_j84 42 hx4_84 (by decide))
            have ez_16 := ez_16.trans (congrFun (hkg_j84 42 (by decide)) _)
            refine lv_bipush (v := 10) hx hb dX13_mergeBean_143 (by decide) ?_
            refine lv_iconst (v := 0) hx hb dX13_mergeBean_145 (by decide) ?_
            refine mr_calli (rest := []) ⟨hx, hb, hml, hown, htb⟩ (f_inner l dC dI h0 ad cid sg gm_j84 lg z_16 10 0 hI_j84 (iv_w hz_16 (by decide)) (iv_w (iv_k (by decide) : iv 10 10 10) (by decide)) (iv_w (iv_k (by decide) : iv 0 0 0) (by decide))) (cwV 3 htb (gd_V kw_961 kw_962 kw_963 kw_5 kw_1557) rfl rfl rfl (by decide +kernel) ⟨Nat.le_of_ble_eq_true rfl, Nat.le_of_ble_eq_true rfl⟩) rfl hl.1 rfl (Nat.le_of_ble_eq_true rfl) dX13_mergeBean_146 ⟨Nat.zero_le _, Nat.zero_le _⟩ hK hP hD hS hA (fun r_17 u_18 H locs hw hP hD hS => ?_)
            obtain ⟨hr_17, fN_r_17, rfl⟩ := hw
            have hP : va_P (dC, dI) vwCl (mW h0 ad cid sg gm_j84 lg) H := hP
            have hD : va_D A (mW h0 ad cid sg gm_j84 lg) := hD
            refine lv_istore (lv' := [(5, .int r_17), (4, .int x4_84), (3, .int x3_39), (2, .int x2_39), (0, .ref h0), (1, .int b)]) hx hb dX13_mergeBean_149 hl (by decide) rfl (fun ls hl => ?_)
            exact hj151 _ gm_j84 r_17 x4_84 rfl hr_17 hx4_84 hsx3_84 hsx2_84 hsx1_84 (KS_tr (L := [44, 45, 46, 47]) KS_rf hkg_j84 (by decide)) hI_j84 (hmb) (hlb) ((SEK_of (show iv 0 80 (sg 24) from MI_s hI 24) (by decide) (fN_r_17.trans (mInn_k (DK_of (show KS [] sg sg from KS_rf) (show KS [44, 45, 46, 47] gm gm_j84 from (KS_tr (L := [44, 45, 46, 47]) KS_rf hkg_j84 (by decide))) (show KS [] lg lg from KS_rf) (by decide) (by decide) (by decide)).1 _ _ _))).imp id And.left) _ _ _ hP hD hS (lv_sub hl [0, 1, 2, 3, 4, 5] rfl)
          · have h_19 : iv 0 79 x5_84 := iv_neL c_14 hx5_84 (by decide)
            have hse := he5.resolve_left c_14
            refine lv_aload_n hx hb dX13_mergeBean_90 rfl (lv_at hl 4 rfl) ?_
            refine mr_get (v := .ref (ad 44)) hx hb htb inX13 hown hK hP 44 (by decide) (htb _ kw_198) rfl dX13_mergeBean_91 ?_
            refine lv_iload_n hx hb dX13_mergeBean_94 rfl (lv_at hl 5 rfl) ?_
            refine lv_aload_n hx hb dX13_mergeBean_95 rfl (lv_at hl 4 rfl) ?_
            refine lv_aload_n hx hb dX13_mergeBean_96 rfl (lv_at hl 4 rfl) ?_
            refine mr_get (v := .ref (ad 45)) hx hb htb inX13 hown hK hP 45 (by decide) (htb _ kw_199) rfl dX13_mergeBean_97 ?_
            refine lv_bipush (v := 26) hx hb dX13_mergeBean_100 (by decide) ?_
            refine lv_iload_n hx hb dX13_mergeBean_102 rfl (lv_at hl 5 rfl) ?_
            refine lv_imul hx hb dX13_mergeBean_103 ?_
            refine lv_topi (fun z_20 ez_20 => ?_)
            have hz_20 : iv 0 2054 z_20 := iv_of ez_20 (iv_mul (iv_k (by decide) : iv 26 26 26) hsx1_84 (by decide))
            have tz_20 : z_20.toInt = 26 * (b : Int32).toInt := by rw [ez_20]; exact iv_mulE (iv_k (by decide) : iv 26 26 26) hsx1_84 (by decide)
            refine lv_aload_n hx hb dX13_mergeBean_104 rfl (lv_at hl 4 rfl) ?_
            refine mr_get (v := .ref (ad 44)) hx hb htb inX13 hown hK hP 44 (by decide) (htb _ kw_198) rfl dX13_mergeBean_105 ?_
            refine lv_iload_n hx hb dX13_mergeBean_108 rfl (lv_at hl 5 rfl) ?_
            refine mr_iald hx hb hK hP 35 (k := 44) rfl rfl rfl (show vp_in b 80 from (iv_in hsx1_84 (by decide))) dX13_mergeBean_109 ?_
            refine lv_topi (fun z_21 ez_21 => ?_)
            have hz_21 : iv 0 26 z_21 := iv_of ez_21 (MI_a hI_j84 44 hsx1_84 (by decide))
            refine lv_iload hx hb dX13_mergeBean_110 (lv_at hl 0 rfl) ?_
            refine mr_calli (rest := [.int b, .ref (ad 44)]) ⟨hx, hb, hml, hown, htb⟩ (f_merge45 l dC dI h0 ad cid sg gm_j84 lg z_20 z_21 x5_84 hI_j84 hz_20 hz_21 hse.1 (by rw [mWn_k (DK_of (show KS [] sg sg from KS_rf) (show KS [44, 45, 46, 47] gm gm_j84 from (KS_tr (L := [44, 45, 46, 47]) KS_rf hkg_j84 (by decide))) (show KS [] lg lg from KS_rf) (by decide) (by decide) (by decide)).1, cl26 hvb tz_20, ez_21]; exact hmb.1) (by rw [mWn_k (DK_of (show KS [] sg sg from KS_rf) (show KS [44, 45, 46, 47] gm gm_j84 from (KS_tr (L := [44, 45, 46, 47]) KS_rf hkg_j84 (by decide))) (show KS [] lg lg from KS_rf) (by decide) (by decide) (by decide)).1]; exact SEK_ol hst hse (by decide))) (cwV 4 htb (gd_V kw_964 kw_965 kw_966 kw_5 kw_1558) rfl rfl rfl (by decide +kernel) ⟨Nat.le_of_ble_eq_true rfl, Nat.le_of_ble_eq_true rfl⟩) rfl hl.1 rfl (Nat.le_of_ble_eq_true rfl) dX13_mergeBean_112 ⟨Nat.zero_le _, Nat.zero_le _⟩ hK hP hD hS hA (fun r_22 u_23 H locs hw hP hD hS => ?_)
            obtain ⟨sgv_24, gmv_24, lgv_24, rfl, hIv_24, ksv_24, kgv_24, klv_24, hr_22, fRl_r_22, fRo_r_22, fRk_r_22⟩ := hw
            obtain rfl := KS_nil ksv_24
            obtain rfl := KS_nil klv_24
            have hP : va_P (dC, dI) vwCl (mW h0 ad cid sg gmv_24 lg) H := hP
            have hD : va_D A (mW h0 ad cid sg gmv_24 lg) := hD
            have q91 := fRl_r_22
            rw [mWn_k (DK_of (show KS [] sg sg from KS_rf) (show KS [44, 45, 46, 47] gm gm_j84 from (KS_tr (L := [44, 45, 46, 47]) KS_rf hkg_j84 (by decide))) (show KS [] lg lg from KS_rf) (by decide) (by decide) (by decide)).1, cl26 hvb tz_20] at q91
            have q92 := fRo_r_22
            rw [cl26 hvb tz_20] at q92
            have q93 := fRk_r_22
            rw [cl26 hvb tz_20, ez_21] at q93
            refine ma_iast (x := r_22) hx hb hK hP hD hS 35 (k := 44) rfl rfl rfl (show vp_in b 80 from (iv_in hsx1_84 (by decide))) dX13_mergeBean_115 (fun gm_25 H locs egm_25 hP hD hS => ?_)
            have hI_gm_25 := MI_st hIv_24 egm_25 hr_22 (by decide)
            refine lv_aload_n hx hb dX13_mergeBean_116 rfl (lv_at hl 4 rfl) ?_
            refine lv_aload_n hx hb dX13_mergeBean_117 rfl (lv_at hl 4 rfl) ?_
            refine mr_get (v := .ref (ad 42)) hx hb htb inX13 hown hK hP 42 (by decide) (htb _ kw_196) rfl dX13_mergeBean_118 ?_
            refine lv_iload hx hb dX13_mergeBean_121 (lv_at hl 1 rfl) ?_
            refine mr_iald hx hb hK hP 33 (k := 42) rfl rfl rfl (show vp_in x4_84 80 from (iv_in hx4_84 (by decide))) dX13_mergeBean_123 ?_
            refine lv_topi (fun z_26 ez_26 => ?_)
            have hz_26 : iv 0 79 z_26 := iv_of ez_26 (MI_a hI_gm_25 42 hx4_84 (by decide))
            have ez_26 := ez_26.trans (congrFun (Eq.trans (Eq.trans (up_ne egm_25 (by decide)) (kgv_24 42 (by decide))) (hkg_j84 42 (by decide))) _)
            refine lv_iconst (v := 5) hx hb dX13_mergeBean_124 (by decide) ?_
            refine lv_iload hx hb dX13_mergeBean_125 (lv_at hl 0 rfl) ?_
            refine mr_calli (rest := []) ⟨hx, hb, hml, hown, htb⟩ (f_inner l dC dI h0 ad cid sg gm_25 lg z_26 5 x5_84 hI_gm_25 (iv_w hz_26 (by decide)) (iv_w (iv_k (by decide) : iv 5 5 5) (by decide)) hse.1) (cwV 3 htb (gd_V kw_961 kw_962 kw_963 kw_5 kw_1557) rfl rfl rfl (by decide +kernel) ⟨Nat.le_of_ble_eq_true rfl, Nat.le_of_ble_eq_true rfl⟩) rfl hl.1 rfl (Nat.le_of_ble_eq_true rfl) dX13_mergeBean_127 ⟨Nat.zero_le _, Nat.zero_le _⟩ hK hP hD hS hA (fun r_27 u_28 H locs hw hP hD hS => ?_)
            obtain ⟨hr_27, fN_r_27, rfl⟩ := hw
            have hP : va_P (dC, dI) vwCl (mW h0 ad cid sg gm_25 lg) H := hP
            have hD : va_D A (mW h0 ad cid sg gm_25 lg) := hD
            refine lv_istore (lv' := [(5, .int r_27), (4, .int x4_84), (3, .int x3_39), (2, .int x2_39), (0, .ref h0), (1, .int b)]) hx hb dX13_mergeBean_130 hl (by decide) rfl (fun ls hl => ?_)
            refine lv_goto (tgt := 84) hx hb dX13_mergeBean_132 (by decide) ?_
            exact ih84 _ (by rw [← hn84]; exact (mE_lt hse.1 hr_27 ((SEK_of (show iv 0 80 (sg 24) from MI_s hI 24) (by decide) (fN_r_27.trans (mInn_k (DK_of (show KS [] sg sg from KS_rf) (show KS [44, 45, 46, 47] gm gm_25 from (KS_up (KS_tr (L := [44, 45, 46, 47]) (KS_tr (L := [44, 45, 46, 47]) KS_rf hkg_j84 (by decide)) kgv_24 (by decide)) egm_25 (by decide))) (show KS [] lg lg from KS_rf) (by decide) (by decide) (by decide)).1 _ _ _))).imp id And.right))) gm_25 r_27 x4_84 rfl hr_27 hx4_84 hsx3_84 hsx2_84 hsx1_84 (KS_up (KS_tr (L := [44, 45, 46, 47]) (KS_tr (L := [44, 45, 46, 47]) KS_rf hkg_j84 (by decide)) kgv_24 (by decide)) egm_25 (by decide)) hI_gm_25 (MBS_s hmb q91 q92 q93 (he5.resolve_left c_14) (show gm_25 44 = upd (gm_j84 44) (b : Int32).toNatClampNeg r_22 from ((up_at egm_25).trans (by rw [show gmv_24 44 = gm_j84 44 from ((kgv_24 44 (by decide)).trans rfl)]))) (up_ne egm_25 (by decide)) (Eq.trans (up_ne egm_25 (by decide)) (kgv_24 46 (by decide))) (Eq.trans (up_ne egm_25 (by decide)) (kgv_24 47 (by decide)))) (hlb) ((SEK_of (show iv 0 80 (sg 24) from MI_s hI 24) (by decide) (fN_r_27.trans (mInn_k (DK_of (show KS [] sg sg from KS_rf) (show KS [44, 45, 46, 47] gm gm_25 from (KS_up (KS_tr (L := [44, 45, 46, 47]) (KS_tr (L := [44, 45, 46, 47]) KS_rf hkg_j84 (by decide)) kgv_24 (by decide)) egm_25 (by decide))) (show KS [] lg lg from KS_rf) (by decide) (by decide) (by decide)).1 _ _ _))).imp id And.left) _ _ _ hP hD hS (lv_sub hl [0, 1, 2, 3, 4, 5] rfl)
      have hj49 : ∀ (n : Nat) (gm_j49 : Nat → Nat → Int32) (x5_49 : Int32) (x4_49 : Int32) (_ : (80 - x5_49.toInt).toNat = n) (_ : iv 0 80 x5_49) (_ : iv 0 79 x4_49) (_ : iv 0 80 x3_39) (_ : iv 0 81 x2_39) (_ : iv 0 79 b) (_ : KS [44, 45, 46, 47] gm gm_j49) (_ : MI sg gm_j49) (_ : MBS (mWn gm lg) (SEK sg gm 5) gm gm_j49 b.toNatClampNeg) (_ : (dP sg gm lg x4_49 : Int) + x5_49.toInt = (dP sg gm lg b : Int)) (_ : x5_49.toInt ≤ x3_39.toInt ∨ x5_49.toInt = 0) (_ : x4_49.toInt < (sg 41).toInt) (H : Heap) (locs : List Loc) (ls : Array Slot), va_P (dC, dI) vwCl (mW h0 ad cid sg gm_j49 lg) H → va_D A (mW h0 ad cid sg gm_j49 lg) → va_S A s.heap H locs → lv_has ls 6 [(5, .int x5_49), (4, .int x4_49), (3, .int x3_39), (2, .int x2_39), (0, .ref h0), (1, .int b)] → W p l e (headSpec wm_X13_mergeBean ({ frames := 4, cells := 0, slots := 0, locals := 95 })).room s m ([.ref h0, .int b] : List Value).toArray below meth c H locs 0 0 (MQ below (va_Qv (fun v => ∃ (sg2 : Nat → Int32) (gm2 : Nat → Nat → Int32) (lg2 : Nat → Nat → Int64), v = (sg2, gm2, lg2) ∧ MI sg2 gm2 ∧ KS [] sg sg2 ∧ KS [44, 45, 46, 47] gm gm2 ∧ KS [] lg lg2 ∧ (MBS (mWn gm lg) (SEK sg gm 5) gm gm2 b.toNatClampNeg)) (MB dC dI h0 ad cid A) A) ([.ref h0, .int b] : List Value).toArray s 0 0 A) (F0 m 49 ls []) := by
        intro n
        induction n using Nat.strongRecOn with
        | ind n ih49 =>
          intro gm_j49 x5_49 x4_49 hn49 hx5_49 hx4_49 hsx3_49 hsx2_49 hsx1_49 hkg_j49 hI_j49 hmb hki hid hlb H locs ls hP hD hS hl
          refine lv_iload hx hb dX13_mergeBean_49 (lv_at hl 0 rfl) ?_
          refine lv_iload_n hx hb dX13_mergeBean_51 rfl (lv_at hl 2 rfl) ?_
          refine lv_icmp_ge (tgt := 69) hx hb dX13_mergeBean_52 (by decide) (fun c_29 => ?_) (fun c_29 => ?_)
          · have d_30 : (x3_39 : Int32).toInt ≤ (x5_49 : Int32).toInt := Int32.le_iff_toInt_le.mp c_29
            refine lv_aload_n hx hb dX13_mergeBean_69 rfl (lv_at hl 4 rfl) ?_
            refine lv_aload_n hx hb dX13_mergeBean_70 rfl (lv_at hl 4 rfl) ?_
            refine mr_get (v := .ref (ad 42)) hx hb htb inX13 hown hK hP 42 (by decide) (htb _ kw_196) rfl dX13_mergeBean_71 ?_
            refine lv_iload hx hb dX13_mergeBean_74 (lv_at hl 1 rfl) ?_
            refine mr_iald hx hb hK hP 33 (k := 42) rfl rfl rfl (show vp_in x4_49 80 from (iv_in hx4_49 (by decide))) dX13_mergeBean_76 ?_
            refine lv_topi (fun z_31 ez_31 => ?_)
            have hz_31 : iv 0 79 z_31 := iv_of ez_31 (MI_a hI_j49 42 hx4_49 (by decide))
            have ez_31 := ez_31.trans (congrFun (hkg_j49 42 (by decide)) _)
            refine lv_iconst (v := 5) hx hb dX13_mergeBean_77 (by decide) ?_
            refine lv_iconst (v := 0) hx hb dX13_mergeBean_78 (by decide) ?_
            refine mr_calli (rest := []) ⟨hx, hb, hml, hown, htb⟩ (f_inner l dC dI h0 ad cid sg gm_j49 lg z_31 5 0 hI_j49 (iv_w hz_31 (by decide)) (iv_w (iv_k (by decide) : iv 5 5 5) (by decide)) (iv_w (iv_k (by decide) : iv 0 0 0) (by decide))) (cwV 3 htb (gd_V kw_961 kw_962 kw_963 kw_5 kw_1557) rfl rfl rfl (by decide +kernel) ⟨Nat.le_of_ble_eq_true rfl, Nat.le_of_ble_eq_true rfl⟩) rfl hl.1 rfl (Nat.le_of_ble_eq_true rfl) dX13_mergeBean_79 ⟨Nat.zero_le _, Nat.zero_le _⟩ hK hP hD hS hA (fun r_32 u_33 H locs hw hP hD hS => ?_)
            obtain ⟨hr_32, fN_r_32, rfl⟩ := hw
            have hP : va_P (dC, dI) vwCl (mW h0 ad cid sg gm_j49 lg) H := hP
            have hD : va_D A (mW h0 ad cid sg gm_j49 lg) := hD
            refine lv_istore (lv' := [(5, .int r_32), (4, .int x4_49), (3, .int x3_39), (2, .int x2_39), (0, .ref h0), (1, .int b)]) hx hb dX13_mergeBean_82 hl (by decide) rfl (fun ls hl => ?_)
            exact hj84 _ gm_j49 r_32 x4_49 rfl hr_32 hx4_49 hsx3_49 hsx2_49 hsx1_49 (KS_tr (L := [44, 45, 46, 47]) KS_rf hkg_j49 (by decide)) hI_j49 (hmb) (hlb) ((SEK_of (show iv 0 80 (sg 24) from MI_s hI 24) (by decide) (fN_r_32.trans (mInn_k (DK_of (show KS [] sg sg from KS_rf) (show KS [44, 45, 46, 47] gm gm_j49 from (KS_tr (L := [44, 45, 46, 47]) KS_rf hkg_j49 (by decide))) (show KS [] lg lg from KS_rf) (by decide) (by decide) (by decide)).1 _ _ _))).imp id And.left) _ _ _ hP hD hS (lv_sub hl [0, 1, 2, 3, 4, 5] rfl)
          · have d_34 : (x5_49 : Int32).toInt < (x3_39 : Int32).toInt := Int32.lt_iff_toInt_lt.mp (i32_lt c_29)
            have h_35 : iv 0 79 x5_49 := iv_ltL (i32_lt c_29) hx5_49 hsx3_49 (by decide)
            have h_36 : iv 1 80 x3_39 := iv_ltR (i32_lt c_29) hx5_49 hsx3_49 (by decide)
            refine lv_aload_n hx hb dX13_mergeBean_55 rfl (lv_at hl 4 rfl) ?_
            refine lv_iload hx hb dX13_mergeBean_56 (lv_at hl 1 rfl) ?_
            refine mr_calli (rest := []) ⟨hx, hb, hml, hown, htb⟩ (f_parentOf l dC dI h0 ad cid sg gm_j49 lg x4_49 hI_j49 hx4_49) (cwV 1 htb (gd_V kw_949 kw_950 kw_951 kw_5 kw_1553) rfl rfl rfl (by decide +kernel) ⟨Nat.le_of_ble_eq_true rfl, Nat.le_of_ble_eq_true rfl⟩) rfl hl.1 rfl (Nat.le_of_ble_eq_true rfl) dX13_mergeBean_58 ⟨Nat.zero_le _, Nat.zero_le _⟩ hK hP hD hS hA (fun r_37 u_38 H locs hw hP hD hS => ?_)
            obtain ⟨hr_37, fP_r_37, rfl⟩ := hw
            have hP : va_P (dC, dI) vwCl (mW h0 ad cid sg gm_j49 lg) H := hP
            have hD : va_D A (mW h0 ad cid sg gm_j49 lg) := hD
            have hd2 := dP_s (b := x4_49) (show iv 0 80 (sg 41) from MI_s hI 41) hac (hx4_49).1
            have hr9 : ¬ r_37 = -1 := fun q9 => by have q8 := (fP_r_37.trans (congrFun (mPar_k (DK_of (show KS [] sg sg from KS_rf) (show KS [44, 45, 46, 47] gm gm_j49 from (KS_tr (L := [44, 45, 46, 47]) KS_rf hkg_j49 (by decide))) (show KS [] lg lg from KS_rf) (by decide) (by decide) (by decide))) _)); rw [q9] at q8; rw [← q8, dP_m1] at hd2; have := i32_0; have := i32_1; have := i32_2; have := i32_m1; have := (hsx1_49).1; have := (hsx1_49).2; have := (h_36).1; have := (h_36).2; have := (hsx2_49).1; have := (hsx2_49).2; have := (h_35).1; have := (h_35).2; have := (hx4_49).1; have := (hx4_49).2; have := (hr_37).1; have := (hr_37).2; omega
            have h61 : iv 0 79 r_37 := iv_neL hr9 hr_37 (by decide)
            refine lv_istore (lv' := [(4, .int r_37), (5, .int x5_49), (3, .int x3_39), (2, .int x2_39), (0, .ref h0), (1, .int b)]) hx hb dX13_mergeBean_61 hl (by decide) rfl (fun ls hl => ?_)
            obtain ⟨z_39, ez_39⟩ : ∃ z : Int32, z = x5_49 + 1 := ⟨_, rfl⟩
            have hz_39 : iv 1 80 z_39 := iv_of ez_39 (iv_add h_35 (iv_k (by decide) : iv 1 1 1) (by decide))
            have tz_39 : z_39.toInt = x5_49.toInt + 1 := by rw [ez_39]; exact iv_addE h_35 (iv_k (by decide) : iv 1 1 1) (by decide)
            refine lv_iinc (v := z_39) (lv' := [(5, .int z_39), (4, .int r_37), (3, .int x3_39), (2, .int x2_39), (0, .ref h0), (1, .int b)]) hx hb dX13_mergeBean_63 hl (k := 1) rfl ez_39.symm (by decide) rfl (fun ls hl => ?_)
            refine lv_goto (tgt := 49) hx hb dX13_mergeBean_66 (by decide) ?_
            exact ih49 _ (by rw [← hn49]; exact (iv_meas tz_39 h_35 (by decide))) gm_j49 z_39 r_37 rfl (iv_w hz_39 (by decide)) h61 (iv_w h_36 (by decide)) hsx2_49 hsx1_49 (KS_tr (L := [44, 45, 46, 47]) KS_rf hkg_j49 (by decide)) hI_j49 (hmb) (by rw [(fP_r_37.trans (congrFun (mPar_k (DK_of (show KS [] sg sg from KS_rf) (show KS [44, 45, 46, 47] gm gm_j49 from (KS_tr (L := [44, 45, 46, 47]) KS_rf hkg_j49 (by decide))) (show KS [] lg lg from KS_rf) (by decide) (by decide) (by decide))) _))]; have := tz_39; omega) (by have := i32_0; have := i32_1; have := i32_2; have := i32_m1; have := (show iv 0 1200 (sg 20) from MI_s hI 20).1; have := (show iv 0 1200 (sg 20) from MI_s hI 20).2; have := (show iv 0 1201 (sg 21) from MI_s hI 21).1; have := (show iv 0 1201 (sg 21) from MI_s hI 21).2; have := (show iv 0 3 (sg 22) from MI_s hI 22).1; have := (show iv 0 3 (sg 22) from MI_s hI 22).2; have := (show iv 0 80 (sg 24) from MI_s hI 24).1; have := (show iv 0 80 (sg 24) from MI_s hI 24).2; have := (show iv 0 1201 (sg 25) from MI_s hI 25).1; have := (show iv 0 1201 (sg 25) from MI_s hI 25).2; have := (hsx1_49).1; have := (hsx1_49).2; have := (h_36).1; have := (h_36).2; have := (hsx2_49).1; have := (hsx2_49).2; have := (h_35).1; have := (h_35).2; have := (hx4_49).1; have := (hx4_49).2; have := (h61).1; have := (h61).2; have := (hz_39).1; have := (hz_39).2; omega) (par_lt (show iv 0 80 (sg 41) from MI_s hI 41) (fP_r_37.trans (congrFun (mPar_k (DK_of (show KS [] sg sg from KS_rf) (show KS [44, 45, 46, 47] gm gm_j49 from (KS_tr (L := [44, 45, 46, 47]) KS_rf hkg_j49 (by decide))) (show KS [] lg lg from KS_rf) (by decide) (by decide) (by decide))) _))) _ _ _ hP hD hS (lv_sub hl [0, 1, 2, 3, 4, 5] rfl)
      refine lv_iload_n hx hb dX13_mergeBean_39 rfl (lv_at hl 0 rfl) ?_
      refine lv_if_lt (tgt := 209) hx hb dX13_mergeBean_40 (by decide) (fun c_40 => ?_) (fun c_40 => ?_)
      · have h_41 : iv (-1) (-1) x3_39 := iv_ltL c_40 hx3_39 (iv_k (by decide) : iv 0 0 0) (by decide)
        exact W.vret hx hb hr (fun t ht hW => ⟨⟨(sg, gm_j39, lg), rfl, ⟨sg, gm_j39, lg, rfl, hI_j39, KS_rf, (KS_tr (L := [44, 45, 46, 47]) KS_rf hkg_j39 (by decide)), KS_rf, (hmb)⟩, by rw [ht]; exact hP, va_K.moved hW.alike hK, hD⟩, hS.F ht⟩) hS.2.2 dX13_mergeBean_209
      · have h_42 : iv 0 80 x3_39 := iv_leR (i32_ge c_40) (iv_k (by decide) : iv 0 0 0) hx3_39 (by decide)
        refine lv_iload_n hx hb dX13_mergeBean_43 rfl (lv_at hl 3 rfl) ?_
        refine lv_istore (lv' := [(4, .int b), (3, .int x3_39), (2, .int x2_39), (0, .ref h0), (1, .int b)]) hx hb dX13_mergeBean_44 hl (by decide) rfl (fun ls hl => ?_)
        refine lv_iconst (v := 0) hx hb dX13_mergeBean_46 (by decide) ?_
        refine lv_istore (lv' := [(5, .int 0), (4, .int b), (3, .int x3_39), (2, .int x2_39), (0, .ref h0), (1, .int b)]) hx hb dX13_mergeBean_47 hl (by decide) rfl (fun ls hl => ?_)
        exact hj49 _ gm_j39 0 b rfl (iv_w (iv_k (by decide) : iv 0 0 0) (by decide)) hsx1_39 h_42 hx2_39 hsx1_39 (KS_tr (L := [44, 45, 46, 47]) KS_rf hkg_j39 (by decide)) hI_j39 (hmb) (by rw [i32_0]; omega) (by have := i32_0; have := i32_1; have := i32_2; have := i32_m1; have := (show iv 0 1200 (sg 20) from MI_s hI 20).1; have := (show iv 0 1200 (sg 20) from MI_s hI 20).2; have := (show iv 0 1201 (sg 21) from MI_s hI 21).1; have := (show iv 0 1201 (sg 21) from MI_s hI 21).2; have := (show iv 0 3 (sg 22) from MI_s hI 22).1; have := (show iv 0 3 (sg 22) from MI_s hI 22).2; have := (show iv 0 80 (sg 24) from MI_s hI 24).1; have := (show iv 0 80 (sg 24) from MI_s hI 24).2; have := (show iv 0 1201 (sg 25) from MI_s hI 25).1; have := (show iv 0 1201 (sg 25) from MI_s hI 25).2; have := (hsx1_39).1; have := (hsx1_39).2; have := (h_42).1; have := (h_42).2; have := (hx2_39).1; have := (hx2_39).2; omega) (hbl) _ _ _ hP hD hS (lv_sub hl [0, 1, 2, 3, 4, 5] rfl)
  have hj18 : ∀ (n : Nat) (gm_j18 : Nat → Nat → Int32) (x3_18 : Int32) (x2_18 : Int32) (_ : dP sg gm lg x3_18 = n) (_ : iv (-1) 79 x3_18) (_ : iv 0 81 x2_18) (_ : iv 0 79 b) (_ : KS [44, 46] gm gm_j18) (_ : MI sg gm_j18) (_ : MBS (mWn gm lg) (SEK sg gm 5) gm gm_j18 b.toNatClampNeg) (_ : x2_18.toInt + (dP sg gm lg x3_18 : Int) = (dP sg gm lg b : Int)) (_ : x3_18.toInt < (sg 41).toInt) (H : Heap) (locs : List Loc) (ls : Array Slot), va_P (dC, dI) vwCl (mW h0 ad cid sg gm_j18 lg) H → va_D A (mW h0 ad cid sg gm_j18 lg) → va_S A s.heap H locs → lv_has ls 6 [(3, .int x3_18), (2, .int x2_18), (0, .ref h0), (1, .int b)] → W p l e (headSpec wm_X13_mergeBean ({ frames := 4, cells := 0, slots := 0, locals := 95 })).room s m ([.ref h0, .int b] : List Value).toArray below meth c H locs 0 0 (MQ below (va_Qv (fun v => ∃ (sg2 : Nat → Int32) (gm2 : Nat → Nat → Int32) (lg2 : Nat → Nat → Int64), v = (sg2, gm2, lg2) ∧ MI sg2 gm2 ∧ KS [] sg sg2 ∧ KS [44, 45, 46, 47] gm gm2 ∧ KS [] lg lg2 ∧ (MBS (mWn gm lg) (SEK sg gm 5) gm gm2 b.toNatClampNeg)) (MB dC dI h0 ad cid A) A) ([.ref h0, .int b] : List Value).toArray s 0 0 A) (F0 m 18 ls []) := by
    intro n
    induction n using Nat.strongRecOn with
    | ind n ih18 =>
      intro gm_j18 x3_18 x2_18 hn18 hx3_18 hx2_18 hsx1_18 hkg_j18 hI_j18 hmb hdp hlb H locs ls hP hD hS hl
      refine lv_iload_n hx hb dX13_mergeBean_18 rfl (lv_at hl 0 rfl) ?_
      refine lv_iconst (v := (-1)) hx hb dX13_mergeBean_19 (by decide) ?_
      refine lv_icmp_eq (tgt := 35) hx hb dX13_mergeBean_20 (by decide) (fun c_43 => ?_) (fun c_43 => ?_)
      · have h_44 : iv (-1) (-1) x3_18 := iv_eq c_43 hx3_18 (iv_k (by decide) : iv (-1) (-1) (-1)) (by decide)
        refine lv_iload_n hx hb dX13_mergeBean_35 rfl (lv_at hl 1 rfl) ?_
        refine lv_iconst (v := 1) hx hb dX13_mergeBean_36 (by decide) ?_
        refine lv_isub hx hb dX13_mergeBean_37 ?_
        refine lv_topi (fun z_45 ez_45 => ?_)
        have hz_45 : iv (-1) 80 z_45 := iv_of ez_45 (iv_sub hx2_18 (iv_k (by decide) : iv 1 1 1) (by decide))
        have tz_45 : z_45.toInt = (x2_18 : Int32).toInt - 1 := by rw [ez_45]; exact iv_subE hx2_18 (iv_k (by decide) : iv 1 1 1) (by decide)
        refine lv_istore_n (lv' := [(3, .int z_45), (2, .int x2_18), (0, .ref h0), (1, .int b)]) hx hb dX13_mergeBean_38 rfl hl (by decide) rfl (fun ls hl => ?_)
        exact hj39 _ gm_j18 z_45 x2_18 rfl hz_45 hx2_18 hsx1_18 (KS_tr (L := [44, 45, 46, 47]) KS_rf hkg_j18 (by decide)) hI_j18 (hmb) (by have q9 := hdp; rw [c_43, dP_m1] at q9; have := tz_45; omega) _ _ _ hP hD hS (lv_sub hl [0, 1, 2, 3] rfl)
      · have h_46 : iv 0 79 x3_18 := iv_neL c_43 hx3_18 (by decide)
        have hd1 := dP_s (b := x3_18) (show iv 0 80 (sg 41) from MI_s hI 41) hac (h_46).1
        have h23 : iv 0 80 x2_18 := ⟨(hx2_18).1, by have := dP_le (sg := sg) (gm := gm) (lg := lg) b; omega⟩
        obtain ⟨z_47, ez_47⟩ : ∃ z : Int32, z = x2_18 + 1 := ⟨_, rfl⟩
        have hz_47 : iv 1 81 z_47 := iv_of ez_47 (iv_add h23 (iv_k (by decide) : iv 1 1 1) (by decide))
        have tz_47 : z_47.toInt = x2_18.toInt + 1 := by rw [ez_47]; exact iv_addE h23 (iv_k (by decide) : iv 1 1 1) (by decide)
        refine lv_iinc (v := z_47) (lv' := [(2, .int z_47), (3, .int x3_18), (0, .ref h0), (1, .int b)]) hx hb dX13_mergeBean_23 hl (k := 1) rfl ez_47.symm (by decide) rfl (fun ls hl => ?_)
        refine lv_aload_n hx hb dX13_mergeBean_26 rfl (lv_at hl 2 rfl) ?_
        refine lv_iload_n hx hb dX13_mergeBean_27 rfl (lv_at hl 1 rfl) ?_
        refine mr_calli (rest := []) ⟨hx, hb, hml, hown, htb⟩ (f_parentOf l dC dI h0 ad cid sg gm_j18 lg x3_18 hI_j18 h_46) (cwV 1 htb (gd_V kw_949 kw_950 kw_951 kw_5 kw_1553) rfl rfl rfl (by decide +kernel) ⟨Nat.le_of_ble_eq_true rfl, Nat.le_of_ble_eq_true rfl⟩) rfl hl.1 rfl (Nat.le_of_ble_eq_true rfl) dX13_mergeBean_28 ⟨Nat.zero_le _, Nat.zero_le _⟩ hK hP hD hS hA (fun r_48 u_49 H locs hw hP hD hS => ?_)
        obtain ⟨hr_48, fP_r_48, rfl⟩ := hw
        have hP : va_P (dC, dI) vwCl (mW h0 ad cid sg gm_j18 lg) H := hP
        have hD : va_D A (mW h0 ad cid sg gm_j18 lg) := hD
        refine lv_istore_n (lv' := [(3, .int r_48), (2, .int z_47), (0, .ref h0), (1, .int b)]) hx hb dX13_mergeBean_31 rfl hl (by decide) rfl (fun ls hl => ?_)
        refine lv_goto (tgt := 18) hx hb dX13_mergeBean_32 (by decide) ?_
        exact ih18 _ (by rw [← hn18]; exact (dP_lt (show iv 0 80 (sg 41) from MI_s hI 41) hac (h_46).1 (fP_r_48.trans (congrFun (mPar_k (DK_of (show KS [] sg sg from KS_rf) (show KS [44, 46] gm gm_j18 from (KS_tr (L := [44, 46]) KS_rf hkg_j18 (by decide))) (show KS [] lg lg from KS_rf) (by decide) (by decide) (by decide))) _)))) gm_j18 r_48 z_47 rfl hr_48 (iv_w hz_47 (by decide)) hsx1_18 (KS_tr (L := [44, 46]) KS_rf hkg_j18 (by decide)) hI_j18 (hmb) (by rw [(fP_r_48.trans (congrFun (mPar_k (DK_of (show KS [] sg sg from KS_rf) (show KS [44, 46] gm gm_j18 from (KS_tr (L := [44, 46]) KS_rf hkg_j18 (by decide))) (show KS [] lg lg from KS_rf) (by decide) (by decide) (by decide))) _))]; have := tz_47; omega) (par_lt (show iv 0 80 (sg 41) from MI_s hI 41) (fP_r_48.trans (congrFun (mPar_k (DK_of (show KS [] sg sg from KS_rf) (show KS [44, 46] gm gm_j18 from (KS_tr (L := [44, 46]) KS_rf hkg_j18 (by decide))) (show KS [] lg lg from KS_rf) (by decide) (by decide) (by decide))) _))) _ _ _ hP hD hS (lv_sub hl [0, 1, 2, 3] rfl)
  refine lv_aload_n hx hb dX13_mergeBean_0 rfl (lv_at hl 0 rfl) ?_
  refine mr_get (v := .ref (ad 44)) hx hb htb inX13 hown hK hP 44 (by decide) (htb _ kw_198) rfl dX13_mergeBean_1 ?_
  refine lv_iload_n hx hb dX13_mergeBean_4 rfl (lv_at hl 1 rfl) ?_
  refine lv_iconst (v := 0) hx hb dX13_mergeBean_5 (by decide) ?_
  refine ma_iast (x := 0) hx hb hK hP hD hS 35 (k := 44) rfl rfl rfl (show vp_in b 80 from (iv_in hvb (by decide))) dX13_mergeBean_6 (fun gm_50 H locs egm_50 hP hD hS => ?_)
  have hI_gm_50 := MI_st hI egm_50 (iv_k (by decide) : iv 0 0 0) (by decide)
  refine lv_aload_n hx hb dX13_mergeBean_7 rfl (lv_at hl 0 rfl) ?_
  refine mr_get (v := .ref (ad 46)) hx hb htb inX13 hown hK hP 46 (by decide) (htb _ kw_200) rfl dX13_mergeBean_8 ?_
  refine lv_iload_n hx hb dX13_mergeBean_11 rfl (lv_at hl 1 rfl) ?_
  refine lv_iconst (v := 0) hx hb dX13_mergeBean_12 (by decide) ?_
  refine ma_iast (x := 0) hx hb hK hP hD hS 37 (k := 46) rfl rfl rfl (show vp_in b 80 from (iv_in hvb (by decide))) dX13_mergeBean_13 (fun gm_51 H locs egm_51 hP hD hS => ?_)
  have hI_gm_51 := MI_st hI_gm_50 egm_51 (iv_k (by decide) : iv 0 0 0) (by decide)
  refine lv_iconst (v := 0) hx hb dX13_mergeBean_14 (by decide) ?_
  refine lv_istore_n (lv' := [(2, .int 0), (0, .ref h0), (1, .int b)]) hx hb dX13_mergeBean_15 rfl hl (by decide) rfl (fun ls hl => ?_)
  refine lv_iload_n hx hb dX13_mergeBean_16 rfl (lv_at hl 2 rfl) ?_
  refine lv_istore_n (lv' := [(3, .int b), (2, .int 0), (0, .ref h0), (1, .int b)]) hx hb dX13_mergeBean_17 rfl hl (by decide) rfl (fun ls hl => ?_)
  exact hj18 _ gm_51 b 0 rfl (iv_w hvb (by decide)) (iv_w (iv_k (by decide) : iv 0 0 0) (by decide)) hvb (KS_up (KS_up KS_rf egm_50 (by decide)) egm_51 (by decide)) hI_gm_51 (MBS_0 (show gm_51 44 = upd (gm 44) (b : Int32).toNatClampNeg 0 from ((up_ne egm_51 (by decide)).trans ((up_at egm_50).trans (by rw [show gm 44 = gm 44 from rfl])))) (show gm_51 46 = upd (gm 46) (b : Int32).toNatClampNeg 0 from ((up_at egm_51).trans (by rw [show gm_50 46 = gm 46 from ((up_ne egm_50 (by decide)).trans rfl)]))) (Eq.trans (up_ne egm_51 (by decide)) (up_ne egm_50 (by decide)))) (by rw [i32_0]; omega) (hbl) _ _ _ hP hD hS (lv_sub hl [0, 1, 2, 3] rfl)
