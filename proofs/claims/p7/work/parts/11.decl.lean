set_option maxHeartbeats 4000000 in
set_option maxRecDepth 100000 in
theorem a_declare (l : Launch) (dC : Nat → ClassId) (dI : Nat → Nat → Nat) (h0 : Nat) (ad : Nat → Nat) (cid : Nat → ClassId) (sg : Nat → Int32) (gm : Nat → Nat → Int32) (lg : Nat → Nat → Int64) (a : Int32) (b : Int32) (hI : MI sg gm) : MMi l dC dI yX13_declare wm_X13_declare ({ frames := 1, cells := 0, slots := 0, locals := 20 }) h0 ad cid [.int a, .int b] sg gm lg (fun r v => ∃ (sg2 : Nat → Int32) (gm2 : Nat → Nat → Int32) (lg2 : Nat → Nat → Int64), v = (sg2, gm2, lg2) ∧ MI sg2 gm2 ∧ KS [5] sg sg2 ∧ KS [6, 7, 10, 13] gm gm2 ∧ KS [] lg lg2 ∧ (iv 0 1 r)) := by
  intro sz
  refine Met.ofW (cc := cX13_declare) (maxL := 3) (ret := (some .boolean)) (by decide) rfl ?_
  intro p e s m args below meth c s₁ B hml hv
  obtain ⟨rfl, hsz, hP, hK, hD0⟩ := hv
  have hx := B.exec
  have hb := B.bytes
  have hr := B.returns
  have hts := atoms_spec (ws := wm_X13_declare) B.pre
  have htb := fun (w : Cond) (h : w ∈ tb) => hts w (List.mem_cons_of_mem _ h)
  have hown : s.vm.findClass RX13 = some m.cls := findClass_of_methodNamed B.named
  have hlocks := B.notSynchronized
  subst hsz
  have hD := hD0.self (sz := s.heap.size)
  generalize hAe : va_A (mW h0 ad cid sg gm lg) s.heap.size = A at hD ⊢
  have hA : ∀ q : Nat, s.heap.size ≤ q → A q := fun q h => by rw [← hAe]; exact Or.inr h
  have hS : va_S A s.heap s.heap [] := va_S.rf
  have hl := lv_entry ([.ref h0, .int a, .int b]) (n := 3) (Nat.le_of_ble_eq_true rfl)
  rw [lg_entry_eq]
  generalize (lg_sl ([.ref h0, .int a, .int b]) ++ List.replicate (3 - (lg_sl ([.ref h0, .int a, .int b])).length) Slot.unset).toArray = ls at hl ⊢
  have hl : lv_has ls 3 [(0, .ref h0), (1, .int a), (2, .int b)] := hl
  have hj22 : ∀ (sg_j22 : Nat → Int32) (_ : KS [5] sg sg_j22) (_ : MI sg_j22 gm) (H : Heap) (locs : List Loc) (ls : Array Slot), va_P (dC, dI) vwCl (mW h0 ad cid sg_j22 gm lg) H → va_D A (mW h0 ad cid sg_j22 gm lg) → va_S A s.heap H locs → lv_has ls 3 [(0, .ref h0), (1, .int a), (2, .int b)] → W p l e (headSpec wm_X13_declare ({ frames := 1, cells := 0, slots := 0, locals := 20 })).room s m ([.ref h0, .int a, .int b] : List Value).toArray below meth c H locs 0 0 (MQ below (va_Qi (fun r v => ∃ (sg2 : Nat → Int32) (gm2 : Nat → Nat → Int32) (lg2 : Nat → Nat → Int64), v = (sg2, gm2, lg2) ∧ MI sg2 gm2 ∧ KS [5] sg sg2 ∧ KS [6, 7, 10, 13] gm gm2 ∧ KS [] lg lg2 ∧ (iv 0 1 r)) (MB dC dI h0 ad cid A) A) ([.ref h0, .int a, .int b] : List Value).toArray s 0 0 A) (F0 m 22 ls []) := by
    intro sg_j22 hks_j22 hI_j22 H locs ls hP hD hS hl
    refine lv_iconst (v := 0) hx hb dX13_declare_22 (by decide) ?_
    exact W.zret (v := 0) hx hb hr (iv_nb (iv_w (iv_k (by decide) : iv 0 0 0) (by decide))) (fun t ht hW => ⟨⟨0, (sg_j22, gm, lg), rfl, ⟨sg_j22, gm, lg, rfl, hI_j22, (KS_tr (L := [5]) KS_rf hks_j22 (by decide)), KS_rf, KS_rf, (iv_w (iv_k (by decide) : iv 0 0 0) (by decide))⟩, by rw [ht]; exact hP, va_K.moved hW.alike hK, hD⟩, hS.F ht⟩) hS.2.2 dX13_declare_23
  refine lv_aload_n hx hb dX13_declare_0 rfl (lv_at hl 0 rfl) ?_
  refine lv_iconst (v := 0) hx hb dX13_declare_1 (by decide) ?_
  refine ma_put (x := 0) hx hb htb inX13 hown hK hP hD hS 5 (by decide) (by decide) (htb _ kw_239) rfl rfl rfl dX13_declare_2 (fun sg_1 H locs esg_1 hP hD hS => ?_)
  have hI_sg_1 := MI_put hI esg_1 (iv_k (by decide) : iv 0 0 0) (by decide)
  refine lv_iload_n hx hb dX13_declare_5 rfl (lv_at hl 1 rfl) ?_
  have hPc := hP.sub (ws' := []) [] rfl
  have hDc := hD.sub (ws' := []) [] (by decide) rfl
  have hKc := hK.sub (tys' := []) [] rfl
  have hFc := va_free (wc := []) hD hS hA [] rfl
  refine va_calli (va_runS (As := [.int a]) (rest := []) ⟨hx, hb, hml, hown, htb⟩ (c_X13_isClass l dC dI H.size a) (va_cwS 1 htb (gd_S kw_240 kw_241 kw_5 kw_1388) rfl rfl rfl (by decide +kernel) ⟨Nat.le_of_ble_eq_true rfl, Nat.le_of_ble_eq_true rfl⟩) ⟨fun a U g mk q => by obtain ⟨q0, q1, qP, qK, qD⟩ := q; exact ⟨q0, q1, qP, va_K.moved (u := U) (U := U.calling g mk a) (Vm.Alike.refl U.vm) qK, qD⟩, fun U hU hW => ⟨rfl, by rw [hU], by rw [hU]; exact hPc, va_K.moved hW.alike hKc, hDc.weaken (fun _ _ _ _ => trivial)⟩⟩ rfl rfl hl.1 rfl (lv_room (Nat.le_of_ble_eq_true rfl)) dX13_declare_6 ⟨Nat.zero_le _, Nat.zero_le _⟩) hS (fun q _ h => hFc q h) hFc (fun r_2 u9 t H1 locs ht hvm hw hB hz1 hk1 hS => ?_)
  have hP := ms_kept hP hz1 hk1
  generalize H1 = H at hP hS ⊢
  have fr_2 : r_2 = zCls a := hw
  have hr_2 : iv 0 1 r_2 := iv_of fr_2 (zCls_iv a)
  refine lv_if_eq (tgt := 22) hx hb dX13_declare_9 (by decide) (fun c_3 => ?_) (fun c_3 => ?_)
  · have h_4 : iv 0 0 r_2 := iv_eq c_3 hr_2 (iv_k (by decide) : iv 0 0 0) (by decide)
    exact hj22 sg_1 (KS_up KS_rf esg_1 (by decide)) hI_sg_1 _ _ _ hP hD hS (lv_sub hl [0, 1, 2] rfl)
  · have h_5 : iv 0 7 a := zCls_t (by rw [← fr_2]; exact c_3)
    have h_6 : iv 1 1 r_2 := iv_neL c_3 hr_2 (by decide)
    refine lv_iload_n hx hb dX13_declare_12 rfl (lv_at hl 2 rfl) ?_
    refine lv_iconst (v := (-1)) hx hb dX13_declare_13 (by decide) ?_
    refine lv_icmp_lt (tgt := 22) hx hb dX13_declare_14 (by decide) (fun c_7 => ?_) (fun c_7 => ?_)
    · have h_8 : iv (-2147483648) (-2) b := iv_ltL c_7 (iv_all b) (iv_k (by decide) : iv (-1) (-1) (-1)) (by decide)
      exact hj22 sg_1 (KS_up KS_rf esg_1 (by decide)) hI_sg_1 _ _ _ hP hD hS (lv_sub hl [0, 1, 2] rfl)
    · have h_9 : iv (-1) 2147483647 b := iv_leR (i32_ge c_7) (iv_k (by decide) : iv (-1) (-1) (-1)) (iv_all b) (by decide)
      refine lv_iload_n hx hb dX13_declare_17 rfl (lv_at hl 2 rfl) ?_
      refine lv_iload_n hx hb dX13_declare_18 rfl (lv_at hl 1 rfl) ?_
      refine lv_icmp_lt (tgt := 24) hx hb dX13_declare_19 (by decide) (fun c_10 => ?_) (fun c_10 => ?_)
      · have d_11 : (b : Int32).toInt < (a : Int32).toInt := Int32.lt_iff_toInt_lt.mp c_10
        have h_12 : iv (-1) 6 b := iv_ltL c_10 h_9 h_5 (by decide)
        refine lv_aload_n hx hb dX13_declare_24 rfl (lv_at hl 0 rfl) ?_
        refine mr_get (v := .ref (ad 6)) hx hb htb inX13 hown hK hP 6 (by decide) (htb _ kw_165) rfl dX13_declare_25 ?_
        refine lv_iload_n hx hb dX13_declare_28 rfl (lv_at hl 1 rfl) ?_
        refine lv_iload_n hx hb dX13_declare_29 rfl (lv_at hl 2 rfl) ?_
        refine ma_iast (x := b) hx hb hK hP hD hS 5 (k := 6) rfl rfl rfl (show vp_in a 8 from (iv_in h_5 (by decide))) dX13_declare_30 (fun gm_13 H locs egm_13 hP hD hS => ?_)
        have hI_gm_13 := MI_st hI_sg_1 egm_13 h_12 (by decide)
        refine lv_aload_n hx hb dX13_declare_31 rfl (lv_at hl 0 rfl) ?_
        refine mr_get (v := .ref (ad 7)) hx hb htb inX13 hown hK hP 7 (by decide) (htb _ kw_166) rfl dX13_declare_32 ?_
        refine lv_iload_n hx hb dX13_declare_35 rfl (lv_at hl 1 rfl) ?_
        refine lv_iconst (v := 0) hx hb dX13_declare_36 (by decide) ?_
        refine ma_iast (x := 0) hx hb hK hP hD hS 6 (k := 7) rfl rfl rfl (show vp_in a 8 from (iv_in h_5 (by decide))) dX13_declare_37 (fun gm_14 H locs egm_14 hP hD hS => ?_)
        have hI_gm_14 := MI_st hI_gm_13 egm_14 (iv_k (by decide) : iv 0 0 0) (by decide)
        refine lv_aload_n hx hb dX13_declare_38 rfl (lv_at hl 0 rfl) ?_
        refine mr_get (v := .ref (ad 10)) hx hb htb inX13 hown hK hP 10 (by decide) (htb _ kw_169) rfl dX13_declare_39 ?_
        refine lv_iload_n hx hb dX13_declare_42 rfl (lv_at hl 1 rfl) ?_
        refine lv_iconst (v := 0) hx hb dX13_declare_43 (by decide) ?_
        refine ma_iast (x := 0) hx hb hK hP hD hS 9 (k := 10) rfl rfl rfl (show vp_in a 8 from (iv_in h_5 (by decide))) dX13_declare_44 (fun gm_15 H locs egm_15 hP hD hS => ?_)
        have hI_gm_15 := MI_st hI_gm_14 egm_15 (iv_k (by decide) : iv 0 0 0) (by decide)
        refine lv_aload_n hx hb dX13_declare_45 rfl (lv_at hl 0 rfl) ?_
        refine mr_get (v := .ref (ad 13)) hx hb htb inX13 hown hK hP 13 (by decide) (htb _ kw_172) rfl dX13_declare_46 ?_
        refine lv_iload_n hx hb dX13_declare_49 rfl (lv_at hl 1 rfl) ?_
        refine lv_iconst (v := 0) hx hb dX13_declare_50 (by decide) ?_
        refine ma_iast (x := 0) hx hb hK hP hD hS 12 (k := 13) rfl rfl rfl (show vp_in a 8 from (iv_in h_5 (by decide))) dX13_declare_51 (fun gm_16 H locs egm_16 hP hD hS => ?_)
        have hI_gm_16 := MI_st hI_gm_15 egm_16 (iv_k (by decide) : iv 0 0 0) (by decide)
        refine lv_iconst (v := 1) hx hb dX13_declare_52 (by decide) ?_
        exact W.zret (v := 1) hx hb hr (iv_nb (iv_w (iv_k (by decide) : iv 1 1 1) (by decide))) (fun t ht hW => ⟨⟨1, (sg_1, gm_16, lg), rfl, ⟨sg_1, gm_16, lg, rfl, hI_gm_16, (KS_up KS_rf esg_1 (by decide)), (KS_up (KS_up (KS_up (KS_up KS_rf egm_13 (by decide)) egm_14 (by decide)) egm_15 (by decide)) egm_16 (by decide)), KS_rf, (iv_w (iv_k (by decide) : iv 1 1 1) (by decide))⟩, by rw [ht]; exact hP, va_K.moved hW.alike hK, hD⟩, hS.F ht⟩) hS.2.2 dX13_declare_53
      · have d_17 : (a : Int32).toInt ≤ (b : Int32).toInt := Int32.le_iff_toInt_le.mp (i32_ge c_10)
        have h_18 : iv 0 2147483647 b := iv_leR (i32_ge c_10) h_5 h_9 (by decide)
        exact hj22 sg_1 (KS_up KS_rf esg_1 (by decide)) hI_sg_1 _ _ _ hP hD hS (lv_sub hl [0, 1, 2] rfl)

set_option maxHeartbeats 4000000 in
set_option maxRecDepth 100000 in
theorem a_constructor (l : Launch) (dC : Nat → ClassId) (dI : Nat → Nat → Nat) (h0 : Nat) (ad : Nat → Nat) (cid : Nat → ClassId) (sg : Nat → Int32) (gm : Nat → Nat → Int32) (lg : Nat → Nat → Int64) (a : Int32) (b : Int32) (f : Int32) (g : Int32) (k : Int32) (hI : MI sg gm) : MMi l dC dI yX13_constructor wm_X13_constructor ({ frames := 2, cells := 0, slots := 0, locals := 43 }) h0 ad cid [.int a, .int b, .int f, .int g, .int k] sg gm lg (fun r v => ∃ (sg2 : Nat → Int32) (gm2 : Nat → Nat → Int32) (lg2 : Nat → Nat → Int64), v = (sg2, gm2, lg2) ∧ MI sg2 gm2 ∧ KS [5] sg sg2 ∧ KS [7, 8, 9] gm gm2 ∧ KS [] lg lg2 ∧ (iv 0 1 r)) := by
  intro sz
  refine Met.ofW (cc := cX13_constructor) (maxL := 7) (ret := (some .boolean)) (by decide) rfl ?_
  intro p e s m args below meth c s₁ B hml hv
  obtain ⟨rfl, hsz, hP, hK, hD0⟩ := hv
  have hx := B.exec
  have hb := B.bytes
  have hr := B.returns
  have hts := atoms_spec (ws := wm_X13_constructor) B.pre
  have htb := fun (w : Cond) (h : w ∈ tb) => hts w (List.mem_cons_of_mem _ h)
  have hown : s.vm.findClass RX13 = some m.cls := findClass_of_methodNamed B.named
  have hlocks := B.notSynchronized
  subst hsz
  have hD := hD0.self (sz := s.heap.size)
  generalize hAe : va_A (mW h0 ad cid sg gm lg) s.heap.size = A at hD ⊢
  have hA : ∀ q : Nat, s.heap.size ≤ q → A q := fun q h => by rw [← hAe]; exact Or.inr h
  have hS : va_S A s.heap s.heap [] := va_S.rf
  have hl := lv_entry ([.ref h0, .int a, .int b, .int f, .int g, .int k]) (n := 7) (Nat.le_of_ble_eq_true rfl)
  rw [lg_entry_eq]
  generalize (lg_sl ([.ref h0, .int a, .int b, .int f, .int g, .int k]) ++ List.replicate (7 - (lg_sl ([.ref h0, .int a, .int b, .int f, .int g, .int k])).length) Slot.unset).toArray = ls at hl ⊢
  have hl : lv_has ls 7 [(0, .ref h0), (1, .int a), (2, .int b), (3, .int f), (4, .int g), (5, .int k)] := hl
  have hj34 : ∀ (sg_j34 : Nat → Int32) (_ : KS [5] sg sg_j34) (_ : MI sg_j34 gm) (H : Heap) (locs : List Loc) (ls : Array Slot), va_P (dC, dI) vwCl (mW h0 ad cid sg_j34 gm lg) H → va_D A (mW h0 ad cid sg_j34 gm lg) → va_S A s.heap H locs → lv_has ls 7 [(0, .ref h0), (1, .int a), (2, .int b), (3, .int f), (4, .int g), (5, .int k)] → W p l e (headSpec wm_X13_constructor ({ frames := 2, cells := 0, slots := 0, locals := 43 })).room s m ([.ref h0, .int a, .int b, .int f, .int g, .int k] : List Value).toArray below meth c H locs 0 0 (MQ below (va_Qi (fun r v => ∃ (sg2 : Nat → Int32) (gm2 : Nat → Nat → Int32) (lg2 : Nat → Nat → Int64), v = (sg2, gm2, lg2) ∧ MI sg2 gm2 ∧ KS [5] sg sg2 ∧ KS [7, 8, 9] gm gm2 ∧ KS [] lg lg2 ∧ (iv 0 1 r)) (MB dC dI h0 ad cid A) A) ([.ref h0, .int a, .int b, .int f, .int g, .int k] : List Value).toArray s 0 0 A) (F0 m 34 ls []) := by
    intro sg_j34 hks_j34 hI_j34 H locs ls hP hD hS hl
    refine lv_iconst (v := 0) hx hb dX13_constructor_34 (by decide) ?_
    exact W.zret (v := 0) hx hb hr (iv_nb (iv_w (iv_k (by decide) : iv 0 0 0) (by decide))) (fun t ht hW => ⟨⟨0, (sg_j34, gm, lg), rfl, ⟨sg_j34, gm, lg, rfl, hI_j34, (KS_tr (L := [5]) KS_rf hks_j34 (by decide)), KS_rf, KS_rf, (iv_w (iv_k (by decide) : iv 0 0 0) (by decide))⟩, by rw [ht]; exact hP, va_K.moved hW.alike hK, hD⟩, hS.F ht⟩) hS.2.2 dX13_constructor_35
  refine lv_aload_n hx hb dX13_constructor_0 rfl (lv_at hl 0 rfl) ?_
  refine lv_iconst (v := 0) hx hb dX13_constructor_1 (by decide) ?_
  refine ma_put (x := 0) hx hb htb inX13 hown hK hP hD hS 5 (by decide) (by decide) (htb _ kw_239) rfl rfl rfl dX13_constructor_2 (fun sg_1 H locs esg_1 hP hD hS => ?_)
  have hI_sg_1 := MI_put hI esg_1 (iv_k (by decide) : iv 0 0 0) (by decide)
  refine lv_iload_n hx hb dX13_constructor_5 rfl (lv_at hl 1 rfl) ?_
  have hPc := hP.sub (ws' := []) [] rfl
  have hDc := hD.sub (ws' := []) [] (by decide) rfl
  have hKc := hK.sub (tys' := []) [] rfl
  have hFc := va_free (wc := []) hD hS hA [] rfl
  refine va_calli (va_runS (As := [.int a]) (rest := []) ⟨hx, hb, hml, hown, htb⟩ (c_X13_isClass l dC dI H.size a) (va_cwS 1 htb (gd_S kw_240 kw_241 kw_5 kw_1388) rfl rfl rfl (by decide +kernel) ⟨Nat.le_of_ble_eq_true rfl, Nat.le_of_ble_eq_true rfl⟩) ⟨fun a U g mk q => by obtain ⟨q0, q1, qP, qK, qD⟩ := q; exact ⟨q0, q1, qP, va_K.moved (u := U) (U := U.calling g mk a) (Vm.Alike.refl U.vm) qK, qD⟩, fun U hU hW => ⟨rfl, by rw [hU], by rw [hU]; exact hPc, va_K.moved hW.alike hKc, hDc.weaken (fun _ _ _ _ => trivial)⟩⟩ rfl rfl hl.1 rfl (lv_room (Nat.le_of_ble_eq_true rfl)) dX13_constructor_6 ⟨Nat.zero_le _, Nat.zero_le _⟩) hS (fun q _ h => hFc q h) hFc (fun r_2 u9 t H1 locs ht hvm hw hB hz1 hk1 hS => ?_)
  have hP := ms_kept hP hz1 hk1
  generalize H1 = H at hP hS ⊢
  have fr_2 : r_2 = zCls a := hw
  have hr_2 : iv 0 1 r_2 := iv_of fr_2 (zCls_iv a)
  refine lv_if_eq (tgt := 34) hx hb dX13_constructor_9 (by decide) (fun c_3 => ?_) (fun c_3 => ?_)
  · have h_4 : iv 0 0 r_2 := iv_eq c_3 hr_2 (iv_k (by decide) : iv 0 0 0) (by decide)
    exact hj34 sg_1 (KS_up KS_rf esg_1 (by decide)) hI_sg_1 _ _ _ hP hD hS (lv_sub hl [0, 1, 2, 3, 4, 5] rfl)
  · have h_5 : iv 0 7 a := zCls_t (by rw [← fr_2]; exact c_3)
    have h_6 : iv 1 1 r_2 := iv_neL c_3 hr_2 (by decide)
    refine lv_iload_n hx hb dX13_constructor_12 rfl (lv_at hl 2 rfl) ?_
    refine lv_iload_n hx hb dX13_constructor_13 rfl (lv_at hl 3 rfl) ?_
    refine lv_iload hx hb dX13_constructor_14 (lv_at hl 4 rfl) ?_
    refine lv_iload hx hb dX13_constructor_16 (lv_at hl 5 rfl) ?_
    have hPc := hP.sub (ws' := []) [] rfl
    have hDc := hD.sub (ws' := []) [] (by decide) rfl
    have hKc := hK.sub (tys' := []) [] rfl
    have hFc := va_free (wc := []) hD hS hA [] rfl
    refine va_calli (va_runS (As := [.int b, .int f, .int g, .int k]) (rest := []) ⟨hx, hb, hml, hown, htb⟩ (c_X13_areTypes l dC dI H.size b f g k) (va_cwS 4 htb (gd_S kw_265 kw_266 kw_5 kw_1396) rfl rfl rfl (by decide +kernel) ⟨Nat.le_of_ble_eq_true rfl, Nat.le_of_ble_eq_true rfl⟩) ⟨fun a U g mk q => by obtain ⟨q0, q1, qP, qK, qD⟩ := q; exact ⟨q0, q1, qP, va_K.moved (u := U) (U := U.calling g mk a) (Vm.Alike.refl U.vm) qK, qD⟩, fun U hU hW => ⟨rfl, by rw [hU], by rw [hU]; exact hPc, va_K.moved hW.alike hKc, hDc.weaken (fun _ _ _ _ => trivial)⟩⟩ rfl rfl hl.1 rfl (lv_room (Nat.le_of_ble_eq_true rfl)) dX13_constructor_18 ⟨Nat.zero_le _, Nat.zero_le _⟩) hS (fun q _ h => hFc q h) hFc (fun r_7 u9 t H1 locs ht hvm hw hB hz1 hk1 hS => ?_)
    have hP := ms_kept hP hz1 hk1
    generalize H1 = H at hP hS ⊢
    have fr_7 : r_7 = zTys b f g k := hw
    have hr_7 : iv 0 1 r_7 := iv_of fr_7 (zTys_iv b f g k)
    refine lv_if_eq (tgt := 34) hx hb dX13_constructor_21 (by decide) (fun c_8 => ?_) (fun c_8 => ?_)
    · have h_9 : iv 0 0 r_7 := iv_eq c_8 hr_7 (iv_k (by decide) : iv 0 0 0) (by decide)
      exact hj34 sg_1 (KS_up KS_rf esg_1 (by decide)) hI_sg_1 _ _ _ hP hD hS (lv_sub hl [0, 1, 2, 3, 4, 5] rfl)
    · have h_10 : iv 0 3 b := zTys_t (by rw [← fr_7]; exact c_8)
      have h_11 : iv 1 1 r_7 := iv_neL c_8 hr_7 (by decide)
      refine lv_aload_n hx hb dX13_constructor_24 rfl (lv_at hl 0 rfl) ?_
      refine mr_get (v := .ref (ad 7)) hx hb htb inX13 hown hK hP 7 (by decide) (htb _ kw_166) rfl dX13_constructor_25 ?_
      refine lv_iload_n hx hb dX13_constructor_28 rfl (lv_at hl 1 rfl) ?_
      refine mr_iald hx hb hK hP 6 (k := 7) rfl rfl rfl (show vp_in a 8 from (iv_in h_5 (by decide))) dX13_constructor_29 ?_
      refine lv_topi (fun z_12 ez_12 => ?_)
      have hz_12 : iv 0 4 z_12 := iv_of ez_12 (MI_a hI_sg_1 7 h_5 (by decide))
      refine lv_iconst (v := 4) hx hb dX13_constructor_30 (by decide) ?_
      refine lv_icmp_ne (tgt := 36) hx hb dX13_constructor_31 (by decide) (fun c_13 => ?_) (fun c_13 => ?_)
      · have h_14 : iv 0 3 z_12 := iv_neH c_13 hz_12 (by decide)
        refine lv_iconst (v := 4) hx hb dX13_constructor_36 (by decide) ?_
        refine lv_iload_n hx hb dX13_constructor_37 rfl (lv_at hl 1 rfl) ?_
        refine lv_imul hx hb dX13_constructor_38 ?_
        refine lv_topi (fun z_15 ez_15 => ?_)
        have hz_15 : iv 0 28 z_15 := iv_of ez_15 (iv_mul (iv_k (by decide) : iv 4 4 4) h_5 (by decide))
        have tz_15 : z_15.toInt = 4 * (a : Int32).toInt := by rw [ez_15]; exact iv_mulE (iv_k (by decide) : iv 4 4 4) h_5 (by decide)
        refine lv_aload_n hx hb dX13_constructor_39 rfl (lv_at hl 0 rfl) ?_
        refine mr_get (v := .ref (ad 7)) hx hb htb inX13 hown hK hP 7 (by decide) (htb _ kw_166) rfl dX13_constructor_40 ?_
        refine lv_iload_n hx hb dX13_constructor_43 rfl (lv_at hl 1 rfl) ?_
        refine mr_iald hx hb hK hP 6 (k := 7) rfl rfl rfl (show vp_in a 8 from (iv_in h_5 (by decide))) dX13_constructor_44 ?_
        refine lv_topi (fun z_16 ez_16 => ?_)
        obtain rfl : z_12 = z_16 := ez_12.trans ez_16.symm
        refine lv_iadd hx hb dX13_constructor_45 ?_
        refine lv_topi (fun z_17 ez_17 => ?_)
        have hz_17 : iv 0 31 z_17 := iv_of ez_17 (iv_add hz_15 h_14 (by decide))
        have tz_17 : z_17.toInt = (z_15 : Int32).toInt + (z_12 : Int32).toInt := by rw [ez_17]; exact iv_addE hz_15 h_14 (by decide)
        refine lv_istore (lv' := [(6, .int z_17), (0, .ref h0), (1, .int a), (2, .int b), (3, .int f), (4, .int g), (5, .int k)]) hx hb dX13_constructor_46 hl (by decide) rfl (fun ls hl => ?_)
        refine lv_aload_n hx hb dX13_constructor_48 rfl (lv_at hl 1 rfl) ?_
        refine mr_get (v := .ref (ad 8)) hx hb htb inX13 hown hK hP 8 (by decide) (htb _ kw_167) rfl dX13_constructor_49 ?_
        refine lv_iload hx hb dX13_constructor_52 (lv_at hl 0 rfl) ?_
        refine lv_iload_n hx hb dX13_constructor_54 rfl (lv_at hl 3 rfl) ?_
        refine ma_iast (x := b) hx hb hK hP hD hS 7 (k := 8) rfl rfl rfl (show vp_in z_17 32 from (iv_in hz_17 (by decide))) dX13_constructor_55 (fun gm_18 H locs egm_18 hP hD hS => ?_)
        have hI_gm_18 := MI_st hI_sg_1 egm_18 h_10 (by decide)
        refine lv_aload_n hx hb dX13_constructor_56 rfl (lv_at hl 1 rfl) ?_
        refine mr_get (v := .ref (ad 9)) hx hb htb inX13 hown hK hP 9 (by decide) (htb _ kw_168) rfl dX13_constructor_57 ?_
        refine lv_iconst (v := 3) hx hb dX13_constructor_60 (by decide) ?_
        refine lv_iload hx hb dX13_constructor_61 (lv_at hl 0 rfl) ?_
        refine lv_imul hx hb dX13_constructor_63 ?_
        refine lv_topi (fun z_19 ez_19 => ?_)
        have hz_19 : iv 0 93 z_19 := iv_of ez_19 (iv_mul (iv_k (by decide) : iv 3 3 3) hz_17 (by decide))
        have tz_19 : z_19.toInt = 3 * (z_17 : Int32).toInt := by rw [ez_19]; exact iv_mulE (iv_k (by decide) : iv 3 3 3) hz_17 (by decide)
        refine lv_iload_n hx hb dX13_constructor_64 rfl (lv_at hl 4 rfl) ?_
        refine ma_iast (x := f) hx hb hK hP hD hS 8 (k := 9) rfl rfl rfl (show vp_in z_19 96 from (iv_in hz_19 (by decide))) dX13_constructor_65 (fun gm_20 H locs egm_20 hP hD hS => ?_)
        have hI_gm_20 := MI_st hI_gm_18 egm_20 (iv_all f) (by decide)
        refine lv_aload_n hx hb dX13_constructor_66 rfl (lv_at hl 1 rfl) ?_
        refine mr_get (v := .ref (ad 9)) hx hb htb inX13 hown hK hP 9 (by decide) (htb _ kw_168) rfl dX13_constructor_67 ?_
        refine lv_iconst (v := 3) hx hb dX13_constructor_70 (by decide) ?_
        refine lv_iload hx hb dX13_constructor_71 (lv_at hl 0 rfl) ?_
        refine lv_imul hx hb dX13_constructor_73 ?_
        refine lv_topi (fun z_21 ez_21 => ?_)
        obtain rfl : z_19 = z_21 := ez_19.trans ez_21.symm
        refine lv_iconst (v := 1) hx hb dX13_constructor_74 (by decide) ?_
        refine lv_iadd hx hb dX13_constructor_75 ?_
        refine lv_topi (fun z_22 ez_22 => ?_)
        have hz_22 : iv 1 94 z_22 := iv_of ez_22 (iv_add hz_19 (iv_k (by decide) : iv 1 1 1) (by decide))
        have tz_22 : z_22.toInt = (z_19 : Int32).toInt + 1 := by rw [ez_22]; exact iv_addE hz_19 (iv_k (by decide) : iv 1 1 1) (by decide)
        refine lv_iload hx hb dX13_constructor_76 (lv_at hl 5 rfl) ?_
        refine ma_iast (x := g) hx hb hK hP hD hS 8 (k := 9) rfl rfl rfl (show vp_in z_22 96 from (iv_in hz_22 (by decide))) dX13_constructor_78 (fun gm_23 H locs egm_23 hP hD hS => ?_)
        have hI_gm_23 := MI_st hI_gm_20 egm_23 (iv_all g) (by decide)
        refine lv_aload_n hx hb dX13_constructor_79 rfl (lv_at hl 1 rfl) ?_
        refine mr_get (v := .ref (ad 9)) hx hb htb inX13 hown hK hP 9 (by decide) (htb _ kw_168) rfl dX13_constructor_80 ?_
        refine lv_iconst (v := 3) hx hb dX13_constructor_83 (by decide) ?_
        refine lv_iload hx hb dX13_constructor_84 (lv_at hl 0 rfl) ?_
        refine lv_imul hx hb dX13_constructor_86 ?_
        refine lv_topi (fun z_24 ez_24 => ?_)
        obtain rfl : z_19 = z_24 := ez_19.trans ez_24.symm
        refine lv_iconst (v := 2) hx hb dX13_constructor_87 (by decide) ?_
        refine lv_iadd hx hb dX13_constructor_88 ?_
        refine lv_topi (fun z_25 ez_25 => ?_)
        have hz_25 : iv 2 95 z_25 := iv_of ez_25 (iv_add hz_19 (iv_k (by decide) : iv 2 2 2) (by decide))
        have tz_25 : z_25.toInt = (z_19 : Int32).toInt + 2 := by rw [ez_25]; exact iv_addE hz_19 (iv_k (by decide) : iv 2 2 2) (by decide)
        refine lv_iload hx hb dX13_constructor_89 (lv_at hl 6 rfl) ?_
        refine ma_iast (x := k) hx hb hK hP hD hS 8 (k := 9) rfl rfl rfl (show vp_in z_25 96 from (iv_in hz_25 (by decide))) dX13_constructor_91 (fun gm_26 H locs egm_26 hP hD hS => ?_)
        have hI_gm_26 := MI_st hI_gm_23 egm_26 (iv_all k) (by decide)
        refine lv_aload_n hx hb dX13_constructor_92 rfl (lv_at hl 1 rfl) ?_
        refine mr_get (v := .ref (ad 7)) hx hb htb inX13 hown hK hP 7 (by decide) (htb _ kw_166) rfl dX13_constructor_93 ?_
        refine lv_iload_n hx hb dX13_constructor_96 rfl (lv_at hl 2 rfl) ?_
        refine lv_dup2_11 hx hb dX13_constructor_97 rfl rfl ?_
        refine mr_iald hx hb hK hP 6 (k := 7) rfl rfl rfl (show vp_in a 8 from (iv_in h_5 (by decide))) dX13_constructor_98 ?_
        refine lv_topi (fun z_27 ez_27 => ?_)
        obtain rfl : z_12 = z_27 := ez_12.trans (ez_27.trans (congrFun (Eq.trans (Eq.trans (Eq.trans (up_ne egm_26 (by decide)) (up_ne egm_23 (by decide))) (up_ne egm_20 (by decide))) (up_ne egm_18 (by decide))) _)).symm
        refine lv_iconst (v := 1) hx hb dX13_constructor_99 (by decide) ?_
        refine lv_iadd hx hb dX13_constructor_100 ?_
        refine lv_topi (fun z_28 ez_28 => ?_)
        have hz_28 : iv 1 4 z_28 := iv_of ez_28 (iv_add h_14 (iv_k (by decide) : iv 1 1 1) (by decide))
        have tz_28 : z_28.toInt = (z_12 : Int32).toInt + 1 := by rw [ez_28]; exact iv_addE h_14 (iv_k (by decide) : iv 1 1 1) (by decide)
        refine ma_iast (x := z_28) hx hb hK hP hD hS 6 (k := 7) rfl rfl rfl (show vp_in a 8 from (iv_in h_5 (by decide))) dX13_constructor_101 (fun gm_29 H locs egm_29 hP hD hS => ?_)
        have hI_gm_29 := MI_st hI_gm_26 egm_29 hz_28 (by decide)
        refine lv_iconst (v := 1) hx hb dX13_constructor_102 (by decide) ?_
        exact W.zret (v := 1) hx hb hr (iv_nb (iv_w (iv_k (by decide) : iv 1 1 1) (by decide))) (fun t ht hW => ⟨⟨1, (sg_1, gm_29, lg), rfl, ⟨sg_1, gm_29, lg, rfl, hI_gm_29, (KS_up KS_rf esg_1 (by decide)), (KS_up (KS_up (KS_up (KS_up (KS_up KS_rf egm_18 (by decide)) egm_20 (by decide)) egm_23 (by decide)) egm_26 (by decide)) egm_29 (by decide)), KS_rf, (iv_w (iv_k (by decide) : iv 1 1 1) (by decide))⟩, by rw [ht]; exact hP, va_K.moved hW.alike hK, hD⟩, hS.F ht⟩) hS.2.2 dX13_constructor_103
      · have h_30 : iv 4 4 z_12 := iv_eq c_13 hz_12 (iv_k (by decide) : iv 4 4 4) (by decide)
        exact hj34 sg_1 (KS_up KS_rf esg_1 (by decide)) hI_sg_1 _ _ _ hP hD hS (lv_sub hl [0, 1, 2, 3, 4, 5] rfl)

set_option maxHeartbeats 4000000 in
set_option maxRecDepth 100000 in
theorem a_setter (l : Launch) (dC : Nat → ClassId) (dI : Nat → Nat → Nat) (h0 : Nat) (ad : Nat → Nat) (cid : Nat → ClassId) (sg : Nat → Int32) (gm : Nat → Nat → Int32) (lg : Nat → Nat → Int64) (a : Int32) (b : Int32) (f : Int32) (hI : MI sg gm) : MMi l dC dI yX13_setter wm_X13_setter ({ frames := 1, cells := 0, slots := 0, locals := 20 }) h0 ad cid [.int a, .int b, .int f] sg gm lg (fun r v => ∃ (sg2 : Nat → Int32) (gm2 : Nat → Nat → Int32) (lg2 : Nat → Nat → Int64), v = (sg2, gm2, lg2) ∧ MI sg2 gm2 ∧ KS [5] sg sg2 ∧ KS [10, 11, 12] gm gm2 ∧ KS [] lg lg2 ∧ (iv 0 1 r)) := by
  intro sz
  refine Met.ofW (cc := cX13_setter) (maxL := 5) (ret := (some .boolean)) (by decide) rfl ?_
  intro p e s m args below meth c s₁ B hml hv
  obtain ⟨rfl, hsz, hP, hK, hD0⟩ := hv
  have hx := B.exec
  have hb := B.bytes
  have hr := B.returns
  have hts := atoms_spec (ws := wm_X13_setter) B.pre
  have htb := fun (w : Cond) (h : w ∈ tb) => hts w (List.mem_cons_of_mem _ h)
  have hown : s.vm.findClass RX13 = some m.cls := findClass_of_methodNamed B.named
  have hlocks := B.notSynchronized
  subst hsz
  have hD := hD0.self (sz := s.heap.size)
  generalize hAe : va_A (mW h0 ad cid sg gm lg) s.heap.size = A at hD ⊢
  have hA : ∀ q : Nat, s.heap.size ≤ q → A q := fun q h => by rw [← hAe]; exact Or.inr h
  have hS : va_S A s.heap s.heap [] := va_S.rf
  have hl := lv_entry ([.ref h0, .int a, .int b, .int f]) (n := 5) (Nat.le_of_ble_eq_true rfl)
  rw [lg_entry_eq]
  generalize (lg_sl ([.ref h0, .int a, .int b, .int f]) ++ List.replicate (5 - (lg_sl ([.ref h0, .int a, .int b, .int f])).length) Slot.unset).toArray = ls at hl ⊢
  have hl : lv_has ls 5 [(0, .ref h0), (1, .int a), (2, .int b), (3, .int f)] := hl
  have hj37 : ∀ (sg_j37 : Nat → Int32) (_ : KS [5] sg sg_j37) (_ : MI sg_j37 gm) (H : Heap) (locs : List Loc) (ls : Array Slot), va_P (dC, dI) vwCl (mW h0 ad cid sg_j37 gm lg) H → va_D A (mW h0 ad cid sg_j37 gm lg) → va_S A s.heap H locs → lv_has ls 5 [(0, .ref h0), (1, .int a), (2, .int b), (3, .int f)] → W p l e (headSpec wm_X13_setter ({ frames := 1, cells := 0, slots := 0, locals := 20 })).room s m ([.ref h0, .int a, .int b, .int f] : List Value).toArray below meth c H locs 0 0 (MQ below (va_Qi (fun r v => ∃ (sg2 : Nat → Int32) (gm2 : Nat → Nat → Int32) (lg2 : Nat → Nat → Int64), v = (sg2, gm2, lg2) ∧ MI sg2 gm2 ∧ KS [5] sg sg2 ∧ KS [10, 11, 12] gm gm2 ∧ KS [] lg lg2 ∧ (iv 0 1 r)) (MB dC dI h0 ad cid A) A) ([.ref h0, .int a, .int b, .int f] : List Value).toArray s 0 0 A) (F0 m 37 ls []) := by
    intro sg_j37 hks_j37 hI_j37 H locs ls hP hD hS hl
    refine lv_iconst (v := 0) hx hb dX13_setter_37 (by decide) ?_
    exact W.zret (v := 0) hx hb hr (iv_nb (iv_w (iv_k (by decide) : iv 0 0 0) (by decide))) (fun t ht hW => ⟨⟨0, (sg_j37, gm, lg), rfl, ⟨sg_j37, gm, lg, rfl, hI_j37, (KS_tr (L := [5]) KS_rf hks_j37 (by decide)), KS_rf, KS_rf, (iv_w (iv_k (by decide) : iv 0 0 0) (by decide))⟩, by rw [ht]; exact hP, va_K.moved hW.alike hK, hD⟩, hS.F ht⟩) hS.2.2 dX13_setter_38
  have hj42 : ∀ (n : Nat) (sg_j42 : Nat → Int32) (x4_42 : Int32) (_ : (7 - x4_42.toInt).toNat = n) (_ : iv 0 7 x4_42) (_ : iv 0 7 a) (_ : iv 0 25 b) (_ : iv 0 15 f) (_ : KS [5] sg sg_j42) (_ : MI sg_j42 gm) (_ : (gm 10 a.toNatClampNeg).toInt ≤ 7) (H : Heap) (locs : List Loc) (ls : Array Slot), va_P (dC, dI) vwCl (mW h0 ad cid sg_j42 gm lg) H → va_D A (mW h0 ad cid sg_j42 gm lg) → va_S A s.heap H locs → lv_has ls 5 [(4, .int x4_42), (0, .ref h0), (1, .int a), (2, .int b), (3, .int f)] → W p l e (headSpec wm_X13_setter ({ frames := 1, cells := 0, slots := 0, locals := 20 })).room s m ([.ref h0, .int a, .int b, .int f] : List Value).toArray below meth c H locs 0 0 (MQ below (va_Qi (fun r v => ∃ (sg2 : Nat → Int32) (gm2 : Nat → Nat → Int32) (lg2 : Nat → Nat → Int64), v = (sg2, gm2, lg2) ∧ MI sg2 gm2 ∧ KS [5] sg sg2 ∧ KS [10, 11, 12] gm gm2 ∧ KS [] lg lg2 ∧ (iv 0 1 r)) (MB dC dI h0 ad cid A) A) ([.ref h0, .int a, .int b, .int f] : List Value).toArray s 0 0 A) (F0 m 42 ls []) := by
    intro n
    induction n using Nat.strongRecOn with
    | ind n ih42 =>
      intro sg_j42 x4_42 hn42 hx4_42 hsx1_42 hsx2_42 hsx3_42 hks_j42 hI_j42 h8 H locs ls hP hD hS hl
      refine lv_iload hx hb dX13_setter_42 (lv_at hl 0 rfl) ?_
      refine lv_aload_n hx hb dX13_setter_44 rfl (lv_at hl 1 rfl) ?_
      refine mr_get (v := .ref (ad 10)) hx hb htb inX13 hown hK hP 10 (by decide) (htb _ kw_169) rfl dX13_setter_45 ?_
      refine lv_iload_n hx hb dX13_setter_48 rfl (lv_at hl 2 rfl) ?_
      refine mr_iald hx hb hK hP 9 (k := 10) rfl rfl rfl (show vp_in a 8 from (iv_in hsx1_42 (by decide))) dX13_setter_49 ?_
      refine lv_topi (fun z_1 ez_1 => ?_)
      have hz_1 : iv 0 8 z_1 := iv_of ez_1 (MI_a hI_j42 10 hsx1_42 (by decide))
      have h_2 : iv 0 7 z_1 := ⟨(hz_1).1, by rw [ez_1]; exact h8⟩
      refine lv_icmp_ge (tgt := 77) hx hb dX13_setter_50 (by decide) (fun c_3 => ?_) (fun c_3 => ?_)
      · have d_4 : (z_1 : Int32).toInt ≤ (x4_42 : Int32).toInt := Int32.le_iff_toInt_le.mp c_3
        refine lv_aload_n hx hb dX13_setter_77 rfl (lv_at hl 1 rfl) ?_
        refine mr_get (v := .ref (ad 11)) hx hb htb inX13 hown hK hP 11 (by decide) (htb _ kw_170) rfl dX13_setter_78 ?_
        refine lv_bipush (v := 8) hx hb dX13_setter_81 (by decide) ?_
        refine lv_iload_n hx hb dX13_setter_83 rfl (lv_at hl 2 rfl) ?_
        refine lv_imul hx hb dX13_setter_84 ?_
        refine lv_topi (fun z_5 ez_5 => ?_)
        have hz_5 : iv 0 56 z_5 := iv_of ez_5 (iv_mul (iv_k (by decide) : iv 8 8 8) hsx1_42 (by decide))
        have tz_5 : z_5.toInt = 8 * (a : Int32).toInt := by rw [ez_5]; exact iv_mulE (iv_k (by decide) : iv 8 8 8) hsx1_42 (by decide)
        refine lv_aload_n hx hb dX13_setter_85 rfl (lv_at hl 1 rfl) ?_
        refine mr_get (v := .ref (ad 10)) hx hb htb inX13 hown hK hP 10 (by decide) (htb _ kw_169) rfl dX13_setter_86 ?_
        refine lv_iload_n hx hb dX13_setter_89 rfl (lv_at hl 2 rfl) ?_
        refine mr_iald hx hb hK hP 9 (k := 10) rfl rfl rfl (show vp_in a 8 from (iv_in hsx1_42 (by decide))) dX13_setter_90 ?_
        refine lv_topi (fun z_6 ez_6 => ?_)
        obtain rfl : z_1 = z_6 := ez_1.trans ez_6.symm
        refine lv_iadd hx hb dX13_setter_91 ?_
        refine lv_topi (fun z_7 ez_7 => ?_)
        have hz_7 : iv 0 63 z_7 := iv_of ez_7 (iv_add hz_5 h_2 (by decide))
        have tz_7 : z_7.toInt = (z_5 : Int32).toInt + (z_1 : Int32).toInt := by rw [ez_7]; exact iv_addE hz_5 h_2 (by decide)
        refine lv_iload_n hx hb dX13_setter_92 rfl (lv_at hl 3 rfl) ?_
        refine ma_iast (x := b) hx hb hK hP hD hS 10 (k := 11) rfl rfl rfl (show vp_in z_7 64 from (iv_in hz_7 (by decide))) dX13_setter_93 (fun gm_8 H locs egm_8 hP hD hS => ?_)
        have hI_gm_8 := MI_st hI_j42 egm_8 hsx2_42 (by decide)
        refine lv_aload_n hx hb dX13_setter_94 rfl (lv_at hl 1 rfl) ?_
        refine mr_get (v := .ref (ad 12)) hx hb htb inX13 hown hK hP 12 (by decide) (htb _ kw_171) rfl dX13_setter_95 ?_
        refine lv_bipush (v := 8) hx hb dX13_setter_98 (by decide) ?_
        refine lv_iload_n hx hb dX13_setter_100 rfl (lv_at hl 2 rfl) ?_
        refine lv_imul hx hb dX13_setter_101 ?_
        refine lv_topi (fun z_9 ez_9 => ?_)
        obtain rfl : z_5 = z_9 := ez_5.trans ez_9.symm
        refine lv_aload_n hx hb dX13_setter_102 rfl (lv_at hl 1 rfl) ?_
        refine mr_get (v := .ref (ad 10)) hx hb htb inX13 hown hK hP 10 (by decide) (htb _ kw_169) rfl dX13_setter_103 ?_
        refine lv_iload_n hx hb dX13_setter_106 rfl (lv_at hl 2 rfl) ?_
        refine mr_iald hx hb hK hP 9 (k := 10) rfl rfl rfl (show vp_in a 8 from (iv_in hsx1_42 (by decide))) dX13_setter_107 ?_
        refine lv_topi (fun z_10 ez_10 => ?_)
        obtain rfl : z_1 = z_10 := ez_1.trans (ez_10.trans (congrFun (up_ne egm_8 (by decide)) _)).symm
        refine lv_iadd hx hb dX13_setter_108 ?_
        refine lv_topi (fun z_11 ez_11 => ?_)
        obtain rfl : z_7 = z_11 := ez_7.trans ez_11.symm
        refine lv_iload_n hx hb dX13_setter_109 rfl (lv_at hl 4 rfl) ?_
        refine ma_iast (x := f) hx hb hK hP hD hS 11 (k := 12) rfl rfl rfl (show vp_in z_7 64 from (iv_in hz_7 (by decide))) dX13_setter_110 (fun gm_12 H locs egm_12 hP hD hS => ?_)
        have hI_gm_12 := MI_st hI_gm_8 egm_12 hsx3_42 (by decide)
        refine lv_aload_n hx hb dX13_setter_111 rfl (lv_at hl 1 rfl) ?_
        refine mr_get (v := .ref (ad 10)) hx hb htb inX13 hown hK hP 10 (by decide) (htb _ kw_169) rfl dX13_setter_112 ?_
        refine lv_iload_n hx hb dX13_setter_115 rfl (lv_at hl 2 rfl) ?_
        refine lv_dup2_11 hx hb dX13_setter_116 rfl rfl ?_
        refine mr_iald hx hb hK hP 9 (k := 10) rfl rfl rfl (show vp_in a 8 from (iv_in hsx1_42 (by decide))) dX13_setter_117 ?_
        refine lv_topi (fun z_13 ez_13 => ?_)
        obtain rfl : z_1 = z_13 := ez_1.trans (ez_13.trans (congrFun (Eq.trans (up_ne egm_12 (by decide)) (up_ne egm_8 (by decide))) _)).symm
        refine lv_iconst (v := 1) hx hb dX13_setter_118 (by decide) ?_
        refine lv_iadd hx hb dX13_setter_119 ?_
        refine lv_topi (fun z_14 ez_14 => ?_)
        have hz_14 : iv 1 8 z_14 := iv_of ez_14 (iv_add h_2 (iv_k (by decide) : iv 1 1 1) (by decide))
        have tz_14 : z_14.toInt = (z_1 : Int32).toInt + 1 := by rw [ez_14]; exact iv_addE h_2 (iv_k (by decide) : iv 1 1 1) (by decide)
        refine ma_iast (x := z_14) hx hb hK hP hD hS 9 (k := 10) rfl rfl rfl (show vp_in a 8 from (iv_in hsx1_42 (by decide))) dX13_setter_120 (fun gm_15 H locs egm_15 hP hD hS => ?_)
        have hI_gm_15 := MI_st hI_gm_12 egm_15 hz_14 (by decide)
        refine lv_iconst (v := 1) hx hb dX13_setter_121 (by decide) ?_
        exact W.zret (v := 1) hx hb hr (iv_nb (iv_w (iv_k (by decide) : iv 1 1 1) (by decide))) (fun t ht hW => ⟨⟨1, (sg_j42, gm_15, lg), rfl, ⟨sg_j42, gm_15, lg, rfl, hI_gm_15, (KS_tr (L := [5]) KS_rf hks_j42 (by decide)), (KS_up (KS_up (KS_up KS_rf egm_8 (by decide)) egm_12 (by decide)) egm_15 (by decide)), KS_rf, (iv_w (iv_k (by decide) : iv 1 1 1) (by decide))⟩, by rw [ht]; exact hP, va_K.moved hW.alike hK, hD⟩, hS.F ht⟩) hS.2.2 dX13_setter_122
      · have d_16 : (x4_42 : Int32).toInt < (z_1 : Int32).toInt := Int32.lt_iff_toInt_lt.mp (i32_lt c_3)
        have h_17 : iv 0 6 x4_42 := iv_ltL (i32_lt c_3) hx4_42 h_2 (by decide)
        have h_18 : iv 1 7 z_1 := iv_ltR (i32_lt c_3) hx4_42 h_2 (by decide)
        refine lv_aload_n hx hb dX13_setter_53 rfl (lv_at hl 1 rfl) ?_
        refine mr_get (v := .ref (ad 11)) hx hb htb inX13 hown hK hP 11 (by decide) (htb _ kw_170) rfl dX13_setter_54 ?_
        refine lv_bipush (v := 8) hx hb dX13_setter_57 (by decide) ?_
        refine lv_iload_n hx hb dX13_setter_59 rfl (lv_at hl 2 rfl) ?_
        refine lv_imul hx hb dX13_setter_60 ?_
        refine lv_topi (fun z_19 ez_19 => ?_)
        have hz_19 : iv 0 56 z_19 := iv_of ez_19 (iv_mul (iv_k (by decide) : iv 8 8 8) hsx1_42 (by decide))
        have tz_19 : z_19.toInt = 8 * (a : Int32).toInt := by rw [ez_19]; exact iv_mulE (iv_k (by decide) : iv 8 8 8) hsx1_42 (by decide)
        refine lv_iload hx hb dX13_setter_61 (lv_at hl 0 rfl) ?_
        refine lv_iadd hx hb dX13_setter_63 ?_
        refine lv_topi (fun z_20 ez_20 => ?_)
        have hz_20 : iv 0 62 z_20 := iv_of ez_20 (iv_add hz_19 h_17 (by decide))
        have tz_20 : z_20.toInt = (z_19 : Int32).toInt + (x4_42 : Int32).toInt := by rw [ez_20]; exact iv_addE hz_19 h_17 (by decide)
        refine mr_iald hx hb hK hP 10 (k := 11) rfl rfl rfl (show vp_in z_20 64 from (iv_in hz_20 (by decide))) dX13_setter_64 ?_
        refine lv_topi (fun z_21 ez_21 => ?_)
        have hz_21 : iv 0 25 z_21 := iv_of ez_21 (MI_a hI_j42 11 hz_20 (by decide))
        refine lv_iload_n hx hb dX13_setter_65 rfl (lv_at hl 3 rfl) ?_
        refine lv_icmp_ne (tgt := 71) hx hb dX13_setter_66 (by decide) (fun c_22 => ?_) (fun c_22 => ?_)
        · obtain ⟨z_23, ez_23⟩ : ∃ z : Int32, z = x4_42 + 1 := ⟨_, rfl⟩
          have hz_23 : iv 1 7 z_23 := iv_of ez_23 (iv_add h_17 (iv_k (by decide) : iv 1 1 1) (by decide))
          have tz_23 : z_23.toInt = x4_42.toInt + 1 := by rw [ez_23]; exact iv_addE h_17 (iv_k (by decide) : iv 1 1 1) (by decide)
          refine lv_iinc (v := z_23) (lv' := [(4, .int z_23), (0, .ref h0), (1, .int a), (2, .int b), (3, .int f)]) hx hb dX13_setter_71 hl (k := 0) rfl ez_23.symm (by decide) rfl (fun ls hl => ?_)
          refine lv_goto (tgt := 42) hx hb dX13_setter_74 (by decide) ?_
          exact ih42 _ (by rw [← hn42]; exact (iv_meas tz_23 h_17 (by decide))) sg_j42 z_23 rfl (iv_w hz_23 (by decide)) hsx1_42 hsx2_42 hsx3_42 (KS_tr (L := [5]) KS_rf hks_j42 (by decide)) hI_j42 (h8) _ _ _ hP hD hS (lv_sub hl [0, 1, 2, 3, 4] rfl)
        · have d_24 : (z_21 : Int32).toInt = (b : Int32).toInt := congrArg Int32.toInt c_22
          refine lv_iconst (v := 0) hx hb dX13_setter_69 (by decide) ?_
          exact W.zret (v := 0) hx hb hr (iv_nb (iv_w (iv_k (by decide) : iv 0 0 0) (by decide))) (fun t ht hW => ⟨⟨0, (sg_j42, gm, lg), rfl, ⟨sg_j42, gm, lg, rfl, hI_j42, (KS_tr (L := [5]) KS_rf hks_j42 (by decide)), KS_rf, KS_rf, (iv_w (iv_k (by decide) : iv 0 0 0) (by decide))⟩, by rw [ht]; exact hP, va_K.moved hW.alike hK, hD⟩, hS.F ht⟩) hS.2.2 dX13_setter_70
  refine lv_aload_n hx hb dX13_setter_0 rfl (lv_at hl 0 rfl) ?_
  refine lv_iconst (v := 0) hx hb dX13_setter_1 (by decide) ?_
  refine ma_put (x := 0) hx hb htb inX13 hown hK hP hD hS 5 (by decide) (by decide) (htb _ kw_239) rfl rfl rfl dX13_setter_2 (fun sg_25 H locs esg_25 hP hD hS => ?_)
  have hI_sg_25 := MI_put hI esg_25 (iv_k (by decide) : iv 0 0 0) (by decide)
  refine lv_iload_n hx hb dX13_setter_5 rfl (lv_at hl 1 rfl) ?_
  have hPc := hP.sub (ws' := []) [] rfl
  have hDc := hD.sub (ws' := []) [] (by decide) rfl
  have hKc := hK.sub (tys' := []) [] rfl
  have hFc := va_free (wc := []) hD hS hA [] rfl
  refine va_calli (va_runS (As := [.int a]) (rest := []) ⟨hx, hb, hml, hown, htb⟩ (c_X13_isClass l dC dI H.size a) (va_cwS 1 htb (gd_S kw_240 kw_241 kw_5 kw_1388) rfl rfl rfl (by decide +kernel) ⟨Nat.le_of_ble_eq_true rfl, Nat.le_of_ble_eq_true rfl⟩) ⟨fun a U g mk q => by obtain ⟨q0, q1, qP, qK, qD⟩ := q; exact ⟨q0, q1, qP, va_K.moved (u := U) (U := U.calling g mk a) (Vm.Alike.refl U.vm) qK, qD⟩, fun U hU hW => ⟨rfl, by rw [hU], by rw [hU]; exact hPc, va_K.moved hW.alike hKc, hDc.weaken (fun _ _ _ _ => trivial)⟩⟩ rfl rfl hl.1 rfl (lv_room (Nat.le_of_ble_eq_true rfl)) dX13_setter_6 ⟨Nat.zero_le _, Nat.zero_le _⟩) hS (fun q _ h => hFc q h) hFc (fun r_26 u9 t H1 locs ht hvm hw hB hz1 hk1 hS => ?_)
  have hP := ms_kept hP hz1 hk1
  generalize H1 = H at hP hS ⊢
  have fr_26 : r_26 = zCls a := hw
  have hr_26 : iv 0 1 r_26 := iv_of fr_26 (zCls_iv a)
  refine lv_if_eq (tgt := 37) hx hb dX13_setter_9 (by decide) (fun c_27 => ?_) (fun c_27 => ?_)
  · have h_28 : iv 0 0 r_26 := iv_eq c_27 hr_26 (iv_k (by decide) : iv 0 0 0) (by decide)
    exact hj37 sg_25 (KS_up KS_rf esg_25 (by decide)) hI_sg_25 _ _ _ hP hD hS (lv_sub hl [0, 1, 2, 3] rfl)
  · have h_29 : iv 0 7 a := zCls_t (by rw [← fr_26]; exact c_27)
    have h_30 : iv 1 1 r_26 := iv_neL c_27 hr_26 (by decide)
    refine lv_iload_n hx hb dX13_setter_12 rfl (lv_at hl 2 rfl) ?_
    have hPc := hP.sub (ws' := []) [] rfl
    have hDc := hD.sub (ws' := []) [] (by decide) rfl
    have hKc := hK.sub (tys' := []) [] rfl
    have hFc := va_free (wc := []) hD hS hA [] rfl
    refine va_calli (va_runS (As := [.int b]) (rest := []) ⟨hx, hb, hml, hown, htb⟩ (c_X13_isLetter l dC dI H.size b) (va_cwS 1 htb (gd_S kw_280 kw_281 kw_5 kw_1402) rfl rfl rfl (by decide +kernel) ⟨Nat.le_of_ble_eq_true rfl, Nat.le_of_ble_eq_true rfl⟩) ⟨fun a U g mk q => by obtain ⟨q0, q1, qP, qK, qD⟩ := q; exact ⟨q0, q1, qP, va_K.moved (u := U) (U := U.calling g mk a) (Vm.Alike.refl U.vm) qK, qD⟩, fun U hU hW => ⟨rfl, by rw [hU], by rw [hU]; exact hPc, va_K.moved hW.alike hKc, hDc.weaken (fun _ _ _ _ => trivial)⟩⟩ rfl rfl hl.1 rfl (lv_room (Nat.le_of_ble_eq_true rfl)) dX13_setter_13 ⟨Nat.zero_le _, Nat.zero_le _⟩) hS (fun q _ h => hFc q h) hFc (fun r_31 u9 t H1 locs ht hvm hw hB hz1 hk1 hS => ?_)
    have hP := ms_kept hP hz1 hk1
    generalize H1 = H at hP hS ⊢
    have fr_31 : r_31 = zLet b := hw
    have hr_31 : iv 0 1 r_31 := iv_of fr_31 (zLet_iv b)
    refine lv_if_eq (tgt := 37) hx hb dX13_setter_16 (by decide) (fun c_32 => ?_) (fun c_32 => ?_)
    · have h_33 : iv 0 0 r_31 := iv_eq c_32 hr_31 (iv_k (by decide) : iv 0 0 0) (by decide)
      exact hj37 sg_25 (KS_up KS_rf esg_25 (by decide)) hI_sg_25 _ _ _ hP hD hS (lv_sub hl [0, 1, 2, 3] rfl)
    · have h_34 : iv 0 25 b := zLet_t (by rw [← fr_31]; exact c_32)
      have h_35 : iv 1 1 r_31 := iv_neL c_32 hr_31 (by decide)
      refine lv_iload_n hx hb dX13_setter_19 rfl (lv_at hl 3 rfl) ?_
      have hPc := hP.sub (ws' := []) [] rfl
      have hDc := hD.sub (ws' := []) [] (by decide) rfl
      have hKc := hK.sub (tys' := []) [] rfl
      have hFc := va_free (wc := []) hD hS hA [] rfl
      refine va_calli (va_runS (As := [.int f]) (rest := []) ⟨hx, hb, hml, hown, htb⟩ (c_X13_isType l dC dI H.size f) (va_cwS 1 htb (gd_S kw_267 kw_268 kw_5 kw_1397) rfl rfl rfl (by decide +kernel) ⟨Nat.le_of_ble_eq_true rfl, Nat.le_of_ble_eq_true rfl⟩) ⟨fun a U g mk q => by obtain ⟨q0, q1, qP, qK, qD⟩ := q; exact ⟨q0, q1, qP, va_K.moved (u := U) (U := U.calling g mk a) (Vm.Alike.refl U.vm) qK, qD⟩, fun U hU hW => ⟨rfl, by rw [hU], by rw [hU]; exact hPc, va_K.moved hW.alike hKc, hDc.weaken (fun _ _ _ _ => trivial)⟩⟩ rfl rfl hl.1 rfl (lv_room (Nat.le_of_ble_eq_true rfl)) dX13_setter_20 ⟨Nat.zero_le _, Nat.zero_le _⟩) hS (fun q _ h => hFc q h) hFc (fun r_36 u9 t H1 locs ht hvm hw hB hz1 hk1 hS => ?_)
      have hP := ms_kept hP hz1 hk1
      generalize H1 = H at hP hS ⊢
      have fr_36 : r_36 = zTyp f := hw
      have hr_36 : iv 0 1 r_36 := iv_of fr_36 (zTyp_iv f)
      refine lv_if_eq (tgt := 37) hx hb dX13_setter_23 (by decide) (fun c_37 => ?_) (fun c_37 => ?_)
      · have h_38 : iv 0 0 r_36 := iv_eq c_37 hr_36 (iv_k (by decide) : iv 0 0 0) (by decide)
        exact hj37 sg_25 (KS_up KS_rf esg_25 (by decide)) hI_sg_25 _ _ _ hP hD hS (lv_sub hl [0, 1, 2, 3] rfl)
      · have h_39 : iv 0 15 f := zTyp_t (by rw [← fr_36]; exact c_37)
        have h_40 : iv 1 1 r_36 := iv_neL c_37 hr_36 (by decide)
        refine lv_aload_n hx hb dX13_setter_26 rfl (lv_at hl 0 rfl) ?_
        refine mr_get (v := .ref (ad 10)) hx hb htb inX13 hown hK hP 10 (by decide) (htb _ kw_169) rfl dX13_setter_27 ?_
        refine lv_iload_n hx hb dX13_setter_30 rfl (lv_at hl 1 rfl) ?_
        refine mr_iald hx hb hK hP 9 (k := 10) rfl rfl rfl (show vp_in a 8 from (iv_in h_29 (by decide))) dX13_setter_31 ?_
        refine lv_topi (fun z_41 ez_41 => ?_)
        have hz_41 : iv 0 8 z_41 := iv_of ez_41 (MI_a hI_sg_25 10 h_29 (by decide))
        refine lv_bipush (v := 8) hx hb dX13_setter_32 (by decide) ?_
        refine lv_icmp_ne (tgt := 39) hx hb dX13_setter_34 (by decide) (fun c_42 => ?_) (fun c_42 => ?_)
        · have h_43 : iv 0 7 z_41 := iv_neH c_42 hz_41 (by decide)
          refine lv_iconst (v := 0) hx hb dX13_setter_39 (by decide) ?_
          refine lv_istore (lv' := [(4, .int 0), (0, .ref h0), (1, .int a), (2, .int b), (3, .int f)]) hx hb dX13_setter_40 hl (by decide) rfl (fun ls hl => ?_)
          exact hj42 _ sg_25 0 rfl (iv_w (iv_k (by decide) : iv 0 0 0) (by decide)) h_29 h_34 h_39 (KS_up KS_rf esg_25 (by decide)) hI_sg_25 (by rw [← ez_41]; exact (h_43).2) _ _ _ hP hD hS (lv_sub hl [0, 1, 2, 3, 4] rfl)
        · have h_44 : iv 8 8 z_41 := iv_eq c_42 hz_41 (iv_k (by decide) : iv 8 8 8) (by decide)
          exact hj37 sg_25 (KS_up KS_rf esg_25 (by decide)) hI_sg_25 _ _ _ hP hD hS (lv_sub hl [0, 1, 2, 3] rfl)

set_option maxHeartbeats 4000000 in
set_option maxRecDepth 100000 in
theorem a_factory (l : Launch) (dC : Nat → ClassId) (dI : Nat → Nat → Nat) (h0 : Nat) (ad : Nat → Nat) (cid : Nat → ClassId) (sg : Nat → Int32) (gm : Nat → Nat → Int32) (lg : Nat → Nat → Int64) (a : Int32) (b : Int32) (z : Int32) (f : Int32) (g : Int32) (k : Int32) (n1 : Int32) (n2 : Int32) (hI : MI sg gm) (hvz : iv 0 1 z) : MMi l dC dI yX13_factory wm_X13_factory ({ frames := 2, cells := 0, slots := 0, locals := 43 }) h0 ad cid [.int a, .int b, .int z, .int f, .int g, .int k, .int n1, .int n2] sg gm lg (fun r v => ∃ (sg2 : Nat → Int32) (gm2 : Nat → Nat → Int32) (lg2 : Nat → Nat → Int64), v = (sg2, gm2, lg2) ∧ MI sg2 gm2 ∧ KS [5] sg sg2 ∧ KS [13, 14, 15, 16, 17, 18] gm gm2 ∧ KS [] lg lg2 ∧ (iv 0 1 r)) := by
  intro sz
  refine Met.ofW (cc := cX13_factory) (maxL := 10) (ret := (some .boolean)) (by decide) rfl ?_
  intro p e s m args below meth c s₁ B hml hv
  obtain ⟨rfl, hsz, hP, hK, hD0⟩ := hv
  have hx := B.exec
  have hb := B.bytes
  have hr := B.returns
  have hts := atoms_spec (ws := wm_X13_factory) B.pre
  have htb := fun (w : Cond) (h : w ∈ tb) => hts w (List.mem_cons_of_mem _ h)
  have hown : s.vm.findClass RX13 = some m.cls := findClass_of_methodNamed B.named
  have hlocks := B.notSynchronized
  subst hsz
  have hD := hD0.self (sz := s.heap.size)
  generalize hAe : va_A (mW h0 ad cid sg gm lg) s.heap.size = A at hD ⊢
  have hA : ∀ q : Nat, s.heap.size ≤ q → A q := fun q h => by rw [← hAe]; exact Or.inr h
  have hS : va_S A s.heap s.heap [] := va_S.rf
  have hl := lv_entry ([.ref h0, .int a, .int b, .int z, .int f, .int g, .int k, .int n1, .int n2]) (n := 10) (Nat.le_of_ble_eq_true rfl)
  rw [lg_entry_eq]
  generalize (lg_sl ([.ref h0, .int a, .int b, .int z, .int f, .int g, .int k, .int n1, .int n2]) ++ List.replicate (10 - (lg_sl ([.ref h0, .int a, .int b, .int z, .int f, .int g, .int k, .int n1, .int n2])).length) Slot.unset).toArray = ls at hl ⊢
  have hl : lv_has ls 10 [(0, .ref h0), (1, .int a), (2, .int b), (3, .int z), (4, .int f), (5, .int g), (6, .int k), (7, .int n1), (8, .int n2)] := hl
  have hj51 : ∀ (sg_j51 : Nat → Int32) (_ : iv 0 1 z) (_ : KS [5] sg sg_j51) (_ : MI sg_j51 gm) (H : Heap) (locs : List Loc) (ls : Array Slot), va_P (dC, dI) vwCl (mW h0 ad cid sg_j51 gm lg) H → va_D A (mW h0 ad cid sg_j51 gm lg) → va_S A s.heap H locs → lv_has ls 10 [(0, .ref h0), (1, .int a), (2, .int b), (3, .int z), (4, .int f), (5, .int g), (6, .int k), (7, .int n1), (8, .int n2)] → W p l e (headSpec wm_X13_factory ({ frames := 2, cells := 0, slots := 0, locals := 43 })).room s m ([.ref h0, .int a, .int b, .int z, .int f, .int g, .int k, .int n1, .int n2] : List Value).toArray below meth c H locs 0 0 (MQ below (va_Qi (fun r v => ∃ (sg2 : Nat → Int32) (gm2 : Nat → Nat → Int32) (lg2 : Nat → Nat → Int64), v = (sg2, gm2, lg2) ∧ MI sg2 gm2 ∧ KS [5] sg sg2 ∧ KS [13, 14, 15, 16, 17, 18] gm gm2 ∧ KS [] lg lg2 ∧ (iv 0 1 r)) (MB dC dI h0 ad cid A) A) ([.ref h0, .int a, .int b, .int z, .int f, .int g, .int k, .int n1, .int n2] : List Value).toArray s 0 0 A) (F0 m 51 ls []) := by
    intro sg_j51 hsx3_51 hks_j51 hI_j51 H locs ls hP hD hS hl
    refine lv_iconst (v := 0) hx hb dX13_factory_51 (by decide) ?_
    exact W.zret (v := 0) hx hb hr (iv_nb (iv_w (iv_k (by decide) : iv 0 0 0) (by decide))) (fun t ht hW => ⟨⟨0, (sg_j51, gm, lg), rfl, ⟨sg_j51, gm, lg, rfl, hI_j51, (KS_tr (L := [5]) KS_rf hks_j51 (by decide)), KS_rf, KS_rf, (iv_w (iv_k (by decide) : iv 0 0 0) (by decide))⟩, by rw [ht]; exact hP, va_K.moved hW.alike hK, hD⟩, hS.F ht⟩) hS.2.2 dX13_factory_52
  refine lv_aload_n hx hb dX13_factory_0 rfl (lv_at hl 0 rfl) ?_
  refine lv_iconst (v := 0) hx hb dX13_factory_1 (by decide) ?_
  refine ma_put (x := 0) hx hb htb inX13 hown hK hP hD hS 5 (by decide) (by decide) (htb _ kw_239) rfl rfl rfl dX13_factory_2 (fun sg_1 H locs esg_1 hP hD hS => ?_)
  have hI_sg_1 := MI_put hI esg_1 (iv_k (by decide) : iv 0 0 0) (by decide)
  refine lv_iload_n hx hb dX13_factory_5 rfl (lv_at hl 1 rfl) ?_
  have hPc := hP.sub (ws' := []) [] rfl
  have hDc := hD.sub (ws' := []) [] (by decide) rfl
  have hKc := hK.sub (tys' := []) [] rfl
  have hFc := va_free (wc := []) hD hS hA [] rfl
  refine va_calli (va_runS (As := [.int a]) (rest := []) ⟨hx, hb, hml, hown, htb⟩ (c_X13_isClass l dC dI H.size a) (va_cwS 1 htb (gd_S kw_240 kw_241 kw_5 kw_1388) rfl rfl rfl (by decide +kernel) ⟨Nat.le_of_ble_eq_true rfl, Nat.le_of_ble_eq_true rfl⟩) ⟨fun a U g mk q => by obtain ⟨q0, q1, qP, qK, qD⟩ := q; exact ⟨q0, q1, qP, va_K.moved (u := U) (U := U.calling g mk a) (Vm.Alike.refl U.vm) qK, qD⟩, fun U hU hW => ⟨rfl, by rw [hU], by rw [hU]; exact hPc, va_K.moved hW.alike hKc, hDc.weaken (fun _ _ _ _ => trivial)⟩⟩ rfl rfl hl.1 rfl (lv_room (Nat.le_of_ble_eq_true rfl)) dX13_factory_6 ⟨Nat.zero_le _, Nat.zero_le _⟩) hS (fun q _ h => hFc q h) hFc (fun r_2 u9 t H1 locs ht hvm hw hB hz1 hk1 hS => ?_)
  have hP := ms_kept hP hz1 hk1
  generalize H1 = H at hP hS ⊢
  have fr_2 : r_2 = zCls a := hw
  have hr_2 : iv 0 1 r_2 := iv_of fr_2 (zCls_iv a)
  refine lv_if_eq (tgt := 51) hx hb dX13_factory_9 (by decide) (fun c_3 => ?_) (fun c_3 => ?_)
  · have h_4 : iv 0 0 r_2 := iv_eq c_3 hr_2 (iv_k (by decide) : iv 0 0 0) (by decide)
    exact hj51 sg_1 hvz (KS_up KS_rf esg_1 (by decide)) hI_sg_1 _ _ _ hP hD hS (lv_sub hl [0, 1, 2, 3, 4, 5, 6, 7, 8] rfl)
  · have h_5 : iv 0 7 a := zCls_t (by rw [← fr_2]; exact c_3)
    have h_6 : iv 1 1 r_2 := iv_neL c_3 hr_2 (by decide)
    refine lv_iload_n hx hb dX13_factory_12 rfl (lv_at hl 2 rfl) ?_
    have hPc := hP.sub (ws' := []) [] rfl
    have hDc := hD.sub (ws' := []) [] (by decide) rfl
    have hKc := hK.sub (tys' := []) [] rfl
    have hFc := va_free (wc := []) hD hS hA [] rfl
    refine va_calli (va_runS (As := [.int b]) (rest := []) ⟨hx, hb, hml, hown, htb⟩ (c_X13_isLetter l dC dI H.size b) (va_cwS 1 htb (gd_S kw_280 kw_281 kw_5 kw_1402) rfl rfl rfl (by decide +kernel) ⟨Nat.le_of_ble_eq_true rfl, Nat.le_of_ble_eq_true rfl⟩) ⟨fun a U g mk q => by obtain ⟨q0, q1, qP, qK, qD⟩ := q; exact ⟨q0, q1, qP, va_K.moved (u := U) (U := U.calling g mk a) (Vm.Alike.refl U.vm) qK, qD⟩, fun U hU hW => ⟨rfl, by rw [hU], by rw [hU]; exact hPc, va_K.moved hW.alike hKc, hDc.weaken (fun _ _ _ _ => trivial)⟩⟩ rfl rfl hl.1 rfl (lv_room (Nat.le_of_ble_eq_true rfl)) dX13_factory_13 ⟨Nat.zero_le _, Nat.zero_le _⟩) hS (fun q _ h => hFc q h) hFc (fun r_7 u9 t H1 locs ht hvm hw hB hz1 hk1 hS => ?_)
    have hP := ms_kept hP hz1 hk1
    generalize H1 = H at hP hS ⊢
    have fr_7 : r_7 = zLet b := hw
    have hr_7 : iv 0 1 r_7 := iv_of fr_7 (zLet_iv b)
    refine lv_if_eq (tgt := 51) hx hb dX13_factory_16 (by decide) (fun c_8 => ?_) (fun c_8 => ?_)
    · have h_9 : iv 0 0 r_7 := iv_eq c_8 hr_7 (iv_k (by decide) : iv 0 0 0) (by decide)
      exact hj51 sg_1 hvz (KS_up KS_rf esg_1 (by decide)) hI_sg_1 _ _ _ hP hD hS (lv_sub hl [0, 1, 2, 3, 4, 5, 6, 7, 8] rfl)
    · have h_10 : iv 0 25 b := zLet_t (by rw [← fr_7]; exact c_8)
      have h_11 : iv 1 1 r_7 := iv_neL c_8 hr_7 (by decide)
      refine lv_iload hx hb dX13_factory_19 (lv_at hl 4 rfl) ?_
      have hPc := hP.sub (ws' := []) [] rfl
      have hDc := hD.sub (ws' := []) [] (by decide) rfl
      have hKc := hK.sub (tys' := []) [] rfl
      have hFc := va_free (wc := []) hD hS hA [] rfl
      refine va_calli (va_runS (As := [.int f]) (rest := []) ⟨hx, hb, hml, hown, htb⟩ (c_X13_isClass l dC dI H.size f) (va_cwS 1 htb (gd_S kw_240 kw_241 kw_5 kw_1388) rfl rfl rfl (by decide +kernel) ⟨Nat.le_of_ble_eq_true rfl, Nat.le_of_ble_eq_true rfl⟩) ⟨fun a U g mk q => by obtain ⟨q0, q1, qP, qK, qD⟩ := q; exact ⟨q0, q1, qP, va_K.moved (u := U) (U := U.calling g mk a) (Vm.Alike.refl U.vm) qK, qD⟩, fun U hU hW => ⟨rfl, by rw [hU], by rw [hU]; exact hPc, va_K.moved hW.alike hKc, hDc.weaken (fun _ _ _ _ => trivial)⟩⟩ rfl rfl hl.1 rfl (lv_room (Nat.le_of_ble_eq_true rfl)) dX13_factory_21 ⟨Nat.zero_le _, Nat.zero_le _⟩) hS (fun q _ h => hFc q h) hFc (fun r_12 u9 t H1 locs ht hvm hw hB hz1 hk1 hS => ?_)
      have hP := ms_kept hP hz1 hk1
      generalize H1 = H at hP hS ⊢
      have fr_12 : r_12 = zCls f := hw
      have hr_12 : iv 0 1 r_12 := iv_of fr_12 (zCls_iv f)
      refine lv_if_eq (tgt := 51) hx hb dX13_factory_24 (by decide) (fun c_13 => ?_) (fun c_13 => ?_)
      · have h_14 : iv 0 0 r_12 := iv_eq c_13 hr_12 (iv_k (by decide) : iv 0 0 0) (by decide)
        exact hj51 sg_1 hvz (KS_up KS_rf esg_1 (by decide)) hI_sg_1 _ _ _ hP hD hS (lv_sub hl [0, 1, 2, 3, 4, 5, 6, 7, 8] rfl)
      · have h_15 : iv 0 7 f := zCls_t (by rw [← fr_12]; exact c_13)
        have h_16 : iv 1 1 r_12 := iv_neL c_13 hr_12 (by decide)
        refine lv_iload hx hb dX13_factory_27 (lv_at hl 5 rfl) ?_
        refine lv_iload hx hb dX13_factory_29 (lv_at hl 6 rfl) ?_
        refine lv_iload hx hb dX13_factory_31 (lv_at hl 7 rfl) ?_
        refine lv_iload hx hb dX13_factory_33 (lv_at hl 8 rfl) ?_
        have hPc := hP.sub (ws' := []) [] rfl
        have hDc := hD.sub (ws' := []) [] (by decide) rfl
        have hKc := hK.sub (tys' := []) [] rfl
        have hFc := va_free (wc := []) hD hS hA [] rfl
        refine va_calli (va_runS (As := [.int g, .int k, .int n1, .int n2]) (rest := []) ⟨hx, hb, hml, hown, htb⟩ (c_X13_areTypes l dC dI H.size g k n1 n2) (va_cwS 4 htb (gd_S kw_265 kw_266 kw_5 kw_1396) rfl rfl rfl (by decide +kernel) ⟨Nat.le_of_ble_eq_true rfl, Nat.le_of_ble_eq_true rfl⟩) ⟨fun a U g mk q => by obtain ⟨q0, q1, qP, qK, qD⟩ := q; exact ⟨q0, q1, qP, va_K.moved (u := U) (U := U.calling g mk a) (Vm.Alike.refl U.vm) qK, qD⟩, fun U hU hW => ⟨rfl, by rw [hU], by rw [hU]; exact hPc, va_K.moved hW.alike hKc, hDc.weaken (fun _ _ _ _ => trivial)⟩⟩ rfl rfl hl.1 rfl (lv_room (Nat.le_of_ble_eq_true rfl)) dX13_factory_35 ⟨Nat.zero_le _, Nat.zero_le _⟩) hS (fun q _ h => hFc q h) hFc (fun r_17 u9 t H1 locs ht hvm hw hB hz1 hk1 hS => ?_)
        have hP := ms_kept hP hz1 hk1
        generalize H1 = H at hP hS ⊢
        have fr_17 : r_17 = zTys g k n1 n2 := hw
        have hr_17 : iv 0 1 r_17 := iv_of fr_17 (zTys_iv g k n1 n2)
        refine lv_if_eq (tgt := 51) hx hb dX13_factory_38 (by decide) (fun c_18 => ?_) (fun c_18 => ?_)
        · have h_19 : iv 0 0 r_17 := iv_eq c_18 hr_17 (iv_k (by decide) : iv 0 0 0) (by decide)
          exact hj51 sg_1 hvz (KS_up KS_rf esg_1 (by decide)) hI_sg_1 _ _ _ hP hD hS (lv_sub hl [0, 1, 2, 3, 4, 5, 6, 7, 8] rfl)
        · have h_20 : iv 0 3 g := zTys_t (by rw [← fr_17]; exact c_18)
          have h_21 : iv 1 1 r_17 := iv_neL c_18 hr_17 (by decide)
          refine lv_aload_n hx hb dX13_factory_41 rfl (lv_at hl 0 rfl) ?_
          refine mr_get (v := .ref (ad 13)) hx hb htb inX13 hown hK hP 13 (by decide) (htb _ kw_172) rfl dX13_factory_42 ?_
          refine lv_iload_n hx hb dX13_factory_45 rfl (lv_at hl 1 rfl) ?_
          refine mr_iald hx hb hK hP 12 (k := 13) rfl rfl rfl (show vp_in a 8 from (iv_in h_5 (by decide))) dX13_factory_46 ?_
          refine lv_topi (fun z_22 ez_22 => ?_)
          have hz_22 : iv 0 4 z_22 := iv_of ez_22 (MI_a hI_sg_1 13 h_5 (by decide))
          refine lv_iconst (v := 4) hx hb dX13_factory_47 (by decide) ?_
          refine lv_icmp_ne (tgt := 53) hx hb dX13_factory_48 (by decide) (fun c_23 => ?_) (fun c_23 => ?_)
          · have h_24 : iv 0 3 z_22 := iv_neH c_23 hz_22 (by decide)
            refine lv_iconst (v := 4) hx hb dX13_factory_53 (by decide) ?_
            refine lv_iload_n hx hb dX13_factory_54 rfl (lv_at hl 1 rfl) ?_
            refine lv_imul hx hb dX13_factory_55 ?_
            refine lv_topi (fun z_25 ez_25 => ?_)
            have hz_25 : iv 0 28 z_25 := iv_of ez_25 (iv_mul (iv_k (by decide) : iv 4 4 4) h_5 (by decide))
            have tz_25 : z_25.toInt = 4 * (a : Int32).toInt := by rw [ez_25]; exact iv_mulE (iv_k (by decide) : iv 4 4 4) h_5 (by decide)
            refine lv_aload_n hx hb dX13_factory_56 rfl (lv_at hl 0 rfl) ?_
            refine mr_get (v := .ref (ad 13)) hx hb htb inX13 hown hK hP 13 (by decide) (htb _ kw_172) rfl dX13_factory_57 ?_
            refine lv_iload_n hx hb dX13_factory_60 rfl (lv_at hl 1 rfl) ?_
            refine mr_iald hx hb hK hP 12 (k := 13) rfl rfl rfl (show vp_in a 8 from (iv_in h_5 (by decide))) dX13_factory_61 ?_
            refine lv_topi (fun z_26 ez_26 => ?_)
            obtain rfl : z_22 = z_26 := ez_22.trans ez_26.symm
            refine lv_iadd hx hb dX13_factory_62 ?_
            refine lv_topi (fun z_27 ez_27 => ?_)
            have hz_27 : iv 0 31 z_27 := iv_of ez_27 (iv_add hz_25 h_24 (by decide))
            have tz_27 : z_27.toInt = (z_25 : Int32).toInt + (z_22 : Int32).toInt := by rw [ez_27]; exact iv_addE hz_25 h_24 (by decide)
            refine lv_istore (lv' := [(9, .int z_27), (0, .ref h0), (1, .int a), (2, .int b), (3, .int z), (4, .int f), (5, .int g), (6, .int k), (7, .int n1), (8, .int n2)]) hx hb dX13_factory_63 hl (by decide) rfl (fun ls hl => ?_)
            refine lv_aload_n hx hb dX13_factory_65 rfl (lv_at hl 1 rfl) ?_
            refine mr_get (v := .ref (ad 14)) hx hb htb inX13 hown hK hP 14 (by decide) (htb _ kw_173) rfl dX13_factory_66 ?_
            refine lv_iload hx hb dX13_factory_69 (lv_at hl 0 rfl) ?_
            refine lv_iload_n hx hb dX13_factory_71 rfl (lv_at hl 3 rfl) ?_
            refine ma_iast (x := b) hx hb hK hP hD hS 13 (k := 14) rfl rfl rfl (show vp_in z_27 32 from (iv_in hz_27 (by decide))) dX13_factory_72 (fun gm_28 H locs egm_28 hP hD hS => ?_)
            have hI_gm_28 := MI_st hI_sg_1 egm_28 h_10 (by decide)
            refine lv_aload_n hx hb dX13_factory_73 rfl (lv_at hl 1 rfl) ?_
            refine mr_get (v := .ref (ad 18)) hx hb htb inX13 hown hK hP 18 (by decide) (htb _ kw_178) rfl dX13_factory_74 ?_
            refine lv_iload hx hb dX13_factory_77 (lv_at hl 0 rfl) ?_
            refine lv_iload_n hx hb dX13_factory_79 rfl (lv_at hl 4 rfl) ?_
            refine ma_zast (x := z) hx hb hK hP hD hS 17 (k := 18) rfl rfl rfl (show vp_in z_27 32 from (iv_in hz_27 (by decide))) dX13_factory_80 (fun gm_29 H locs egm_29 hP hD hS => ?_)
            have hI_gm_29 := MI_st hI_gm_28 egm_29 (iv_of (iv_vb hvz) hvz) (by decide)
            refine lv_aload_n hx hb dX13_factory_81 rfl (lv_at hl 1 rfl) ?_
            refine mr_get (v := .ref (ad 15)) hx hb htb inX13 hown hK hP 15 (by decide) (htb _ kw_174) rfl dX13_factory_82 ?_
            refine lv_iload hx hb dX13_factory_85 (lv_at hl 0 rfl) ?_
            refine lv_iload hx hb dX13_factory_87 (lv_at hl 5 rfl) ?_
            refine ma_iast (x := f) hx hb hK hP hD hS 14 (k := 15) rfl rfl rfl (show vp_in z_27 32 from (iv_in hz_27 (by decide))) dX13_factory_89 (fun gm_30 H locs egm_30 hP hD hS => ?_)
            have hI_gm_30 := MI_st hI_gm_29 egm_30 h_15 (by decide)
            refine lv_aload_n hx hb dX13_factory_90 rfl (lv_at hl 1 rfl) ?_
            refine mr_get (v := .ref (ad 16)) hx hb htb inX13 hown hK hP 16 (by decide) (htb _ kw_175) rfl dX13_factory_91 ?_
            refine lv_iload hx hb dX13_factory_94 (lv_at hl 0 rfl) ?_
            refine lv_iload hx hb dX13_factory_96 (lv_at hl 6 rfl) ?_
            refine ma_iast (x := g) hx hb hK hP hD hS 15 (k := 16) rfl rfl rfl (show vp_in z_27 32 from (iv_in hz_27 (by decide))) dX13_factory_98 (fun gm_31 H locs egm_31 hP hD hS => ?_)
            have hI_gm_31 := MI_st hI_gm_30 egm_31 h_20 (by decide)
            refine lv_aload_n hx hb dX13_factory_99 rfl (lv_at hl 1 rfl) ?_
            refine mr_get (v := .ref (ad 17)) hx hb htb inX13 hown hK hP 17 (by decide) (htb _ kw_176) rfl dX13_factory_100 ?_
            refine lv_iconst (v := 3) hx hb dX13_factory_103 (by decide) ?_
            refine lv_iload hx hb dX13_factory_104 (lv_at hl 0 rfl) ?_
            refine lv_imul hx hb dX13_factory_106 ?_
            refine lv_topi (fun z_32 ez_32 => ?_)
            have hz_32 : iv 0 93 z_32 := iv_of ez_32 (iv_mul (iv_k (by decide) : iv 3 3 3) hz_27 (by decide))
            have tz_32 : z_32.toInt = 3 * (z_27 : Int32).toInt := by rw [ez_32]; exact iv_mulE (iv_k (by decide) : iv 3 3 3) hz_27 (by decide)
            refine lv_iload hx hb dX13_factory_107 (lv_at hl 7 rfl) ?_
            refine ma_iast (x := k) hx hb hK hP hD hS 16 (k := 17) rfl rfl rfl (show vp_in z_32 96 from (iv_in hz_32 (by decide))) dX13_factory_109 (fun gm_33 H locs egm_33 hP hD hS => ?_)
            have hI_gm_33 := MI_st hI_gm_31 egm_33 (iv_all k) (by decide)
            refine lv_aload_n hx hb dX13_factory_110 rfl (lv_at hl 1 rfl) ?_
            refine mr_get (v := .ref (ad 17)) hx hb htb inX13 hown hK hP 17 (by decide) (htb _ kw_176) rfl dX13_factory_111 ?_
            refine lv_iconst (v := 3) hx hb dX13_factory_114 (by decide) ?_
            refine lv_iload hx hb dX13_factory_115 (lv_at hl 0 rfl) ?_
            refine lv_imul hx hb dX13_factory_117 ?_
            refine lv_topi (fun z_34 ez_34 => ?_)
            obtain rfl : z_32 = z_34 := ez_32.trans ez_34.symm
            refine lv_iconst (v := 1) hx hb dX13_factory_118 (by decide) ?_
            refine lv_iadd hx hb dX13_factory_119 ?_
            refine lv_topi (fun z_35 ez_35 => ?_)
            have hz_35 : iv 1 94 z_35 := iv_of ez_35 (iv_add hz_32 (iv_k (by decide) : iv 1 1 1) (by decide))
            have tz_35 : z_35.toInt = (z_32 : Int32).toInt + 1 := by rw [ez_35]; exact iv_addE hz_32 (iv_k (by decide) : iv 1 1 1) (by decide)
            refine lv_iload hx hb dX13_factory_120 (lv_at hl 8 rfl) ?_
            refine ma_iast (x := n1) hx hb hK hP hD hS 16 (k := 17) rfl rfl rfl (show vp_in z_35 96 from (iv_in hz_35 (by decide))) dX13_factory_122 (fun gm_36 H locs egm_36 hP hD hS => ?_)
            have hI_gm_36 := MI_st hI_gm_33 egm_36 (iv_all n1) (by decide)
            refine lv_aload_n hx hb dX13_factory_123 rfl (lv_at hl 1 rfl) ?_
            refine mr_get (v := .ref (ad 17)) hx hb htb inX13 hown hK hP 17 (by decide) (htb _ kw_176) rfl dX13_factory_124 ?_
            refine lv_iconst (v := 3) hx hb dX13_factory_127 (by decide) ?_
            refine lv_iload hx hb dX13_factory_128 (lv_at hl 0 rfl) ?_
            refine lv_imul hx hb dX13_factory_130 ?_
            refine lv_topi (fun z_37 ez_37 => ?_)
            obtain rfl : z_32 = z_37 := ez_32.trans ez_37.symm
            refine lv_iconst (v := 2) hx hb dX13_factory_131 (by decide) ?_
            refine lv_iadd hx hb dX13_factory_132 ?_
            refine lv_topi (fun z_38 ez_38 => ?_)
            have hz_38 : iv 2 95 z_38 := iv_of ez_38 (iv_add hz_32 (iv_k (by decide) : iv 2 2 2) (by decide))
            have tz_38 : z_38.toInt = (z_32 : Int32).toInt + 2 := by rw [ez_38]; exact iv_addE hz_32 (iv_k (by decide) : iv 2 2 2) (by decide)
            refine lv_iload hx hb dX13_factory_133 (lv_at hl 9 rfl) ?_
            refine ma_iast (x := n2) hx hb hK hP hD hS 16 (k := 17) rfl rfl rfl (show vp_in z_38 96 from (iv_in hz_38 (by decide))) dX13_factory_135 (fun gm_39 H locs egm_39 hP hD hS => ?_)
            have hI_gm_39 := MI_st hI_gm_36 egm_39 (iv_all n2) (by decide)
            refine lv_aload_n hx hb dX13_factory_136 rfl (lv_at hl 1 rfl) ?_
            refine mr_get (v := .ref (ad 13)) hx hb htb inX13 hown hK hP 13 (by decide) (htb _ kw_172) rfl dX13_factory_137 ?_
            refine lv_iload_n hx hb dX13_factory_140 rfl (lv_at hl 2 rfl) ?_
            refine lv_dup2_11 hx hb dX13_factory_141 rfl rfl ?_
            refine mr_iald hx hb hK hP 12 (k := 13) rfl rfl rfl (show vp_in a 8 from (iv_in h_5 (by decide))) dX13_factory_142 ?_
            refine lv_topi (fun z_40 ez_40 => ?_)
            obtain rfl : z_22 = z_40 := ez_22.trans (ez_40.trans (congrFun (Eq.trans (Eq.trans (Eq.trans (Eq.trans (Eq.trans (Eq.trans (up_ne egm_39 (by decide)) (up_ne egm_36 (by decide))) (up_ne egm_33 (by decide))) (up_ne egm_31 (by decide))) (up_ne egm_30 (by decide))) (up_ne egm_29 (by decide))) (up_ne egm_28 (by decide))) _)).symm
            refine lv_iconst (v := 1) hx hb dX13_factory_143 (by decide) ?_
            refine lv_iadd hx hb dX13_factory_144 ?_
            refine lv_topi (fun z_41 ez_41 => ?_)
            have hz_41 : iv 1 4 z_41 := iv_of ez_41 (iv_add h_24 (iv_k (by decide) : iv 1 1 1) (by decide))
            have tz_41 : z_41.toInt = (z_22 : Int32).toInt + 1 := by rw [ez_41]; exact iv_addE h_24 (iv_k (by decide) : iv 1 1 1) (by decide)
            refine ma_iast (x := z_41) hx hb hK hP hD hS 12 (k := 13) rfl rfl rfl (show vp_in a 8 from (iv_in h_5 (by decide))) dX13_factory_145 (fun gm_42 H locs egm_42 hP hD hS => ?_)
            have hI_gm_42 := MI_st hI_gm_39 egm_42 hz_41 (by decide)
            refine lv_iconst (v := 1) hx hb dX13_factory_146 (by decide) ?_
            exact W.zret (v := 1) hx hb hr (iv_nb (iv_w (iv_k (by decide) : iv 1 1 1) (by decide))) (fun t ht hW => ⟨⟨1, (sg_1, gm_42, lg), rfl, ⟨sg_1, gm_42, lg, rfl, hI_gm_42, (KS_up KS_rf esg_1 (by decide)), (KS_up (KS_up (KS_up (KS_up (KS_up (KS_up (KS_up (KS_up KS_rf egm_28 (by decide)) egm_29 (by decide)) egm_30 (by decide)) egm_31 (by decide)) egm_33 (by decide)) egm_36 (by decide)) egm_39 (by decide)) egm_42 (by decide)), KS_rf, (iv_w (iv_k (by decide) : iv 1 1 1) (by decide))⟩, by rw [ht]; exact hP, va_K.moved hW.alike hK, hD⟩, hS.F ht⟩) hS.2.2 dX13_factory_147
          · have h_43 : iv 4 4 z_22 := iv_eq c_23 hz_22 (iv_k (by decide) : iv 4 4 4) (by decide)
            exact hj51 sg_1 hvz (KS_up KS_rf esg_1 (by decide)) hI_sg_1 _ _ _ hP hD hS (lv_sub hl [0, 1, 2, 3, 4, 5, 6, 7, 8] rfl)

set_option maxHeartbeats 4000000 in
set_option maxRecDepth 100000 in
theorem a_isFactory (l : Launch) (dC : Nat → ClassId) (dI : Nat → Nat → Nat) (h0 : Nat) (ad : Nat → Nat) (cid : Nat → ClassId) (sg : Nat → Int32) (gm : Nat → Nat → Int32) (lg : Nat → Nat → Int64) (k : Int32) (b : Int32) (z : Int32) (hI : MI sg gm) (hvk : iv 0 31 k) (hvz : iv 0 1 z) : MMi l dC dI yX13_isFactory wm_X13_isFactory ({ frames := 0, cells := 0, slots := 0, locals := 0 }) h0 ad cid [.int k, .int b, .int z] sg gm lg (fun r v => (iv 0 1 r) ∧ v = (sg, gm, lg)) := by
  intro sz
  refine Met.ofW (cc := cX13_isFactory) (maxL := 4) (ret := (some .boolean)) (by decide) rfl ?_
  intro p e s m args below meth c s₁ B hml hv
  obtain ⟨rfl, hsz, hP, hK, hD0⟩ := hv
  have hx := B.exec
  have hb := B.bytes
  have hr := B.returns
  have hts := atoms_spec (ws := wm_X13_isFactory) B.pre
  have htb := fun (w : Cond) (h : w ∈ tb) => hts w (List.mem_cons_of_mem _ h)
  have hown : s.vm.findClass RX13 = some m.cls := findClass_of_methodNamed B.named
  have hlocks := B.notSynchronized
  subst hsz
  have hD := hD0.self (sz := s.heap.size)
  generalize hAe : va_A (mW h0 ad cid sg gm lg) s.heap.size = A at hD ⊢
  have hA : ∀ q : Nat, s.heap.size ≤ q → A q := fun q h => by rw [← hAe]; exact Or.inr h
  have hS : va_S A s.heap s.heap [] := va_S.rf
  have hl := lv_entry ([.ref h0, .int k, .int b, .int z]) (n := 4) (Nat.le_of_ble_eq_true rfl)
  rw [lg_entry_eq]
  generalize (lg_sl ([.ref h0, .int k, .int b, .int z]) ++ List.replicate (4 - (lg_sl ([.ref h0, .int k, .int b, .int z])).length) Slot.unset).toArray = ls at hl ⊢
  have hl : lv_has ls 4 [(0, .ref h0), (1, .int k), (2, .int b), (3, .int z)] := hl
  have hj25 : ∀ (y0_25 : Int32) (_ : iv 0 31 k) (_ : iv 0 1 z) (_ : iv 0 1 y0_25) (H : Heap) (locs : List Loc) (ls : Array Slot), va_P (dC, dI) vwCl (mW h0 ad cid sg gm lg) H → va_D A (mW h0 ad cid sg gm lg) → va_S A s.heap H locs → lv_has ls 4 [(0, .ref h0), (1, .int k), (2, .int b), (3, .int z)] → W p l e (headSpec wm_X13_isFactory ({ frames := 0, cells := 0, slots := 0, locals := 0 })).room s m ([.ref h0, .int k, .int b, .int z] : List Value).toArray below meth c H locs 0 0 (MQ below (va_Qi (fun r v => (iv 0 1 r) ∧ v = (sg, gm, lg)) (MB dC dI h0 ad cid A) A) ([.ref h0, .int k, .int b, .int z] : List Value).toArray s 0 0 A) (F0 m 25 ls [.int y0_25]) := by
    intro y0_25 hsx1_25 hsx3_25 hy0_25 H locs ls hP hD hS hl
    exact W.zret (v := y0_25) hx hb hr (iv_nb hy0_25) (fun t ht hW => ⟨⟨y0_25, (sg, gm, lg), rfl, ⟨hy0_25, rfl⟩, by rw [ht]; exact hP, va_K.moved hW.alike hK, hD⟩, hS.F ht⟩) hS.2.2 dX13_isFactory_25
  have hj24 : ∀ (_ : iv 0 31 k) (_ : iv 0 1 z) (H : Heap) (locs : List Loc) (ls : Array Slot), va_P (dC, dI) vwCl (mW h0 ad cid sg gm lg) H → va_D A (mW h0 ad cid sg gm lg) → va_S A s.heap H locs → lv_has ls 4 [(0, .ref h0), (1, .int k), (2, .int b), (3, .int z)] → W p l e (headSpec wm_X13_isFactory ({ frames := 0, cells := 0, slots := 0, locals := 0 })).room s m ([.ref h0, .int k, .int b, .int z] : List Value).toArray below meth c H locs 0 0 (MQ below (va_Qi (fun r v => (iv 0 1 r) ∧ v = (sg, gm, lg)) (MB dC dI h0 ad cid A) A) ([.ref h0, .int k, .int b, .int z] : List Value).toArray s 0 0 A) (F0 m 24 ls []) := by
    intro  hsx1_24 hsx3_24 H locs ls hP hD hS hl
    refine lv_iconst (v := 0) hx hb dX13_isFactory_24 (by decide) ?_
    exact hj25 0 hsx1_24 hsx3_24 (iv_w (iv_k (by decide) : iv 0 0 0) (by decide)) _ _ _ hP hD hS (lv_sub hl [0, 1, 2, 3] rfl)
  refine lv_aload_n hx hb dX13_isFactory_0 rfl (lv_at hl 0 rfl) ?_
  refine mr_get (v := .ref (ad 14)) hx hb htb inX13 hown hK hP 14 (by decide) (htb _ kw_173) rfl dX13_isFactory_1 ?_
  refine lv_iload_n hx hb dX13_isFactory_4 rfl (lv_at hl 1 rfl) ?_
  refine mr_iald hx hb hK hP 13 (k := 14) rfl rfl rfl (show vp_in k 32 from (iv_in hvk (by decide))) dX13_isFactory_5 ?_
  refine lv_topi (fun z_1 ez_1 => ?_)
  have hz_1 : iv 0 25 z_1 := iv_of ez_1 (MI_a hI 14 hvk (by decide))
  refine lv_iload_n hx hb dX13_isFactory_6 rfl (lv_at hl 2 rfl) ?_
  refine lv_icmp_ne (tgt := 24) hx hb dX13_isFactory_7 (by decide) (fun c_2 => ?_) (fun c_2 => ?_)
  · exact hj24 hvk hvz _ _ _ hP hD hS (lv_sub hl [0, 1, 2, 3] rfl)
  · have d_3 : (z_1 : Int32).toInt = (b : Int32).toInt := congrArg Int32.toInt c_2
    have h_4 : iv 0 25 b := iv_eq (Eq.symm c_2) (iv_all b) hz_1 (by decide)
    refine lv_aload_n hx hb dX13_isFactory_10 rfl (lv_at hl 0 rfl) ?_
    refine mr_get (v := .ref (ad 18)) hx hb htb inX13 hown hK hP 18 (by decide) (htb _ kw_178) rfl dX13_isFactory_11 ?_
    refine lv_iload_n hx hb dX13_isFactory_14 rfl (lv_at hl 1 rfl) ?_
    refine mr_zald hx hb hK hP 17 (k := 18) rfl rfl rfl (show vp_in k 32 from (iv_in hvk (by decide))) dX13_isFactory_15 ?_
    refine lv_topi (fun z_5 ez_5 => ?_)
    have hz_5 : iv 0 1 z_5 := iv_of ez_5 (MI_a hI 18 hvk (by decide))
    refine lv_iload_n hx hb dX13_isFactory_16 rfl (lv_at hl 3 rfl) ?_
    refine lv_icmp_ne (tgt := 24) hx hb dX13_isFactory_17 (by decide) (fun c_6 => ?_) (fun c_6 => ?_)
    · exact hj24 hvk hvz _ _ _ hP hD hS (lv_sub hl [0, 1, 2, 3] rfl)
    · have d_7 : (z_5 : Int32).toInt = (z : Int32).toInt := congrArg Int32.toInt c_6
      refine lv_iconst (v := 1) hx hb dX13_isFactory_20 (by decide) ?_
      refine lv_goto (tgt := 25) hx hb dX13_isFactory_21 (by decide) ?_
      exact hj25 1 hvk hvz (iv_w (iv_k (by decide) : iv 1 1 1) (by decide)) _ _ _ hP hD hS (lv_sub hl [0, 1, 2, 3] rfl)

set_option maxHeartbeats 4000000 in
set_option maxRecDepth 100000 in
theorem a_fault (l : Launch) (dC : Nat → ClassId) (dI : Nat → Nat → Nat) (h0 : Nat) (ad : Nat → Nat) (cid : Nat → ClassId) (sg : Nat → Int32) (gm : Nat → Nat → Int32) (lg : Nat → Nat → Int64) (a : Int32) (hI : MI sg gm) : MMi l dC dI yX13_fault wm_X13_fault ({ frames := 0, cells := 0, slots := 0, locals := 0 }) h0 ad cid [.int a] sg gm lg (fun r v => ∃ (sg2 : Nat → Int32) (gm2 : Nat → Nat → Int32) (lg2 : Nat → Nat → Int64), v = (sg2, gm2, lg2) ∧ MI sg2 gm2 ∧ KS [5] sg sg2 ∧ KS [] gm gm2 ∧ KS [] lg lg2) := by
  intro sz
  refine Met.ofW (cc := cX13_fault) (maxL := 2) (ret := (some .int)) (by decide) rfl ?_
  intro p e s m args below meth c s₁ B hml hv
  obtain ⟨rfl, hsz, hP, hK, hD0⟩ := hv
  have hx := B.exec
  have hb := B.bytes
  have hr := B.returns
  have hts := atoms_spec (ws := wm_X13_fault) B.pre
  have htb := fun (w : Cond) (h : w ∈ tb) => hts w (List.mem_cons_of_mem _ h)
  have hown : s.vm.findClass RX13 = some m.cls := findClass_of_methodNamed B.named
  have hlocks := B.notSynchronized
  subst hsz
  have hD := hD0.self (sz := s.heap.size)
  generalize hAe : va_A (mW h0 ad cid sg gm lg) s.heap.size = A at hD ⊢
  have hA : ∀ q : Nat, s.heap.size ≤ q → A q := fun q h => by rw [← hAe]; exact Or.inr h
  have hS : va_S A s.heap s.heap [] := va_S.rf
  have hl := lv_entry ([.ref h0, .int a]) (n := 2) (Nat.le_of_ble_eq_true rfl)
  rw [lg_entry_eq]
  generalize (lg_sl ([.ref h0, .int a]) ++ List.replicate (2 - (lg_sl ([.ref h0, .int a])).length) Slot.unset).toArray = ls at hl ⊢
  have hl : lv_has ls 2 [(0, .ref h0), (1, .int a)] := hl
  refine lv_aload_n hx hb dX13_fault_0 rfl (lv_at hl 0 rfl) ?_
  refine lv_iconst (v := 0) hx hb dX13_fault_1 (by decide) ?_
  refine ma_put (x := 0) hx hb htb inX13 hown hK hP hD hS 5 (by decide) (by decide) (htb _ kw_239) rfl rfl rfl dX13_fault_2 (fun sg_1 H locs esg_1 hP hD hS => ?_)
  have hI_sg_1 := MI_put hI esg_1 (iv_k (by decide) : iv 0 0 0) (by decide)
  refine lv_iload_n hx hb dX13_fault_5 rfl (lv_at hl 1 rfl) ?_
  by_cases c_2 : (a : Int32).toInt = 0
  · refine lv_tableIn (tgt := 36) hx hb dX13_fault_6 (by rw [c_2]; decide) (by rw [c_2]; decide) (by rw [c_2]; rfl) (by decide) ?_
    have h_3 : iv 0 0 a := iv_at c_2
    refine lv_aload_n hx hb dX13_fault_36 rfl (lv_at hl 0 rfl) ?_
    refine mr_get (v := .int (sg_1 22)) hx hb htb inX13 hown hK hP 22 (by decide) (htb _ kw_813) rfl dX13_fault_37 ?_
    refine lv_topi (fun z_4 ez_4 => ?_)
    obtain rfl : (sg 22) = z_4 := (ez_4.trans (up_ne esg_1 (by decide))).symm
    exact W.iret (v := (sg 22)) hx hb hr (fun t ht hW => ⟨⟨(sg 22), (sg_1, gm, lg), rfl, ⟨sg_1, gm, lg, rfl, hI_sg_1, (KS_up KS_rf esg_1 (by decide)), KS_rf, KS_rf⟩, by rw [ht]; exact hP, va_K.moved hW.alike hK, hD⟩, hS.F ht⟩) hS.2.2 dX13_fault_40
  by_cases c_5 : (a : Int32).toInt = 1
  · refine lv_tableIn (tgt := 41) hx hb dX13_fault_6 (by rw [c_5]; decide) (by rw [c_5]; decide) (by rw [c_5]; rfl) (by decide) ?_
    have h_6 : iv 1 1 a := iv_at c_5
    refine lv_aload_n hx hb dX13_fault_41 rfl (lv_at hl 0 rfl) ?_
    refine mr_get (v := .int (sg_1 23)) hx hb htb inX13 hown hK hP 23 (by decide) (htb _ kw_181) rfl dX13_fault_42 ?_
    refine lv_topi (fun z_7 ez_7 => ?_)
    obtain rfl : (sg 23) = z_7 := (ez_7.trans (up_ne esg_1 (by decide))).symm
    exact W.iret (v := (sg 23)) hx hb hr (fun t ht hW => ⟨⟨(sg 23), (sg_1, gm, lg), rfl, ⟨sg_1, gm, lg, rfl, hI_sg_1, (KS_up KS_rf esg_1 (by decide)), KS_rf, KS_rf⟩, by rw [ht]; exact hP, va_K.moved hW.alike hK, hD⟩, hS.F ht⟩) hS.2.2 dX13_fault_45
  by_cases c_8 : (a : Int32).toInt = 2
  · refine lv_tableIn (tgt := 46) hx hb dX13_fault_6 (by rw [c_8]; decide) (by rw [c_8]; decide) (by rw [c_8]; rfl) (by decide) ?_
    have h_9 : iv 2 2 a := iv_at c_8
    refine lv_aload_n hx hb dX13_fault_46 rfl (lv_at hl 0 rfl) ?_
    refine mr_get (v := .int (sg_1 51)) hx hb htb inX13 hown hK hP 51 (by decide) (htb _ kw_983) rfl dX13_fault_47 ?_
    refine lv_topi (fun z_10 ez_10 => ?_)
    obtain rfl : (sg 51) = z_10 := (ez_10.trans (up_ne esg_1 (by decide))).symm
    exact W.iret (v := (sg 51)) hx hb hr (fun t ht hW => ⟨⟨(sg 51), (sg_1, gm, lg), rfl, ⟨sg_1, gm, lg, rfl, hI_sg_1, (KS_up KS_rf esg_1 (by decide)), KS_rf, KS_rf⟩, by rw [ht]; exact hP, va_K.moved hW.alike hK, hD⟩, hS.F ht⟩) hS.2.2 dX13_fault_50
  by_cases c_11 : (a : Int32).toInt = 3
  · refine lv_tableIn (tgt := 51) hx hb dX13_fault_6 (by rw [c_11]; decide) (by rw [c_11]; decide) (by rw [c_11]; rfl) (by decide) ?_
    have h_12 : iv 3 3 a := iv_at c_11
    refine lv_aload_n hx hb dX13_fault_51 rfl (lv_at hl 0 rfl) ?_
    refine mr_get (v := .int (sg_1 52)) hx hb htb inX13 hown hK hP 52 (by decide) (htb _ kw_202) rfl dX13_fault_52 ?_
    refine lv_topi (fun z_13 ez_13 => ?_)
    obtain rfl : (sg 52) = z_13 := (ez_13.trans (up_ne esg_1 (by decide))).symm
    exact W.iret (v := (sg 52)) hx hb hr (fun t ht hW => ⟨⟨(sg 52), (sg_1, gm, lg), rfl, ⟨sg_1, gm, lg, rfl, hI_sg_1, (KS_up KS_rf esg_1 (by decide)), KS_rf, KS_rf⟩, by rw [ht]; exact hP, va_K.moved hW.alike hK, hD⟩, hS.F ht⟩) hS.2.2 dX13_fault_55
  refine lv_tableOut (tgt := 56) hx hb dX13_fault_6 (by have q1 := ((iv_all a)).1; have q2 := ((iv_all a)).2; omega) (by decide) ?_
  refine lv_iconst (v := (-1)) hx hb dX13_fault_56 (by decide) ?_
  exact W.iret (v := (-1)) hx hb hr (fun t ht hW => ⟨⟨(-1), (sg_1, gm, lg), rfl, ⟨sg_1, gm, lg, rfl, hI_sg_1, (KS_up KS_rf esg_1 (by decide)), KS_rf, KS_rf⟩, by rw [ht]; exact hP, va_K.moved hW.alike hK, hD⟩, hS.F ht⟩) hS.2.2 dX13_fault_57

set_option maxHeartbeats 4000000 in
set_option maxRecDepth 100000 in
theorem a_happens (l : Launch) (dC : Nat → ClassId) (dI : Nat → Nat → Nat) (h0 : Nat) (ad : Nat → Nat) (cid : Nat → ClassId) (sg : Nat → Int32) (gm : Nat → Nat → Int32) (lg : Nat → Nat → Int64) (a : Int32) (b : Int32) (f : Int32) (g : Int32) (hI : MI sg gm) : MMv l dC dI yX13_happens wm_X13_happens ({ frames := 0, cells := 0, slots := 0, locals := 0 }) h0 ad cid [.int a, .int b, .int f, .int g] sg gm lg (fun v => ∃ (sg2 : Nat → Int32) (gm2 : Nat → Nat → Int32) (lg2 : Nat → Nat → Int64), v = (sg2, gm2, lg2) ∧ MI sg2 gm2 ∧ KS [49] sg sg2 ∧ KS [55, 56, 57, 58] gm gm2 ∧ KS [] lg lg2) := by
  intro sz
  refine Met.ofW (cc := cX13_happens) (maxL := 5) (ret := none) (by decide) rfl ?_
  intro p e s m args below meth c s₁ B hml hv
  obtain ⟨rfl, hsz, hP, hK, hD0⟩ := hv
  have hx := B.exec
  have hb := B.bytes
  have hr := B.returns
  have hts := atoms_spec (ws := wm_X13_happens) B.pre
  have htb := fun (w : Cond) (h : w ∈ tb) => hts w (List.mem_cons_of_mem _ h)
  have hown : s.vm.findClass RX13 = some m.cls := findClass_of_methodNamed B.named
  have hlocks := B.notSynchronized
  subst hsz
  have hD := hD0.self (sz := s.heap.size)
  generalize hAe : va_A (mW h0 ad cid sg gm lg) s.heap.size = A at hD ⊢
  have hA : ∀ q : Nat, s.heap.size ≤ q → A q := fun q h => by rw [← hAe]; exact Or.inr h
  have hS : va_S A s.heap s.heap [] := va_S.rf
  have hl := lv_entry ([.ref h0, .int a, .int b, .int f, .int g]) (n := 5) (Nat.le_of_ble_eq_true rfl)
  rw [lg_entry_eq]
  generalize (lg_sl ([.ref h0, .int a, .int b, .int f, .int g]) ++ List.replicate (5 - (lg_sl ([.ref h0, .int a, .int b, .int f, .int g])).length) Slot.unset).toArray = ls at hl ⊢
  have hl : lv_has ls 5 [(0, .ref h0), (1, .int a), (2, .int b), (3, .int f), (4, .int g)] := hl
  refine lv_aload_n hx hb dX13_happens_0 rfl (lv_at hl 0 rfl) ?_
  refine mr_get (v := .int (sg 49)) hx hb htb inX13 hown hK hP 49 (by decide) (htb _ kw_823) rfl dX13_happens_1 ?_
  refine lv_sipush (v := 400) hx hb dX13_happens_4 (by decide) ?_
  refine lv_icmp_ne (tgt := 11) hx hb dX13_happens_7 (by decide) (fun c_1 => ?_) (fun c_1 => ?_)
  · have h_2 : iv 0 399 (sg 49) := iv_neH c_1 (show iv 0 400 (sg 49) from MI_s hI 49) (by decide)
    refine lv_aload_n hx hb dX13_happens_11 rfl (lv_at hl 0 rfl) ?_
    refine mr_get (v := .ref (ad 55)) hx hb htb inX13 hown hK hP 55 (by decide) (htb _ kw_205) rfl dX13_happens_12 ?_
    refine lv_aload_n hx hb dX13_happens_15 rfl (lv_at hl 0 rfl) ?_
    refine mr_get (v := .int (sg 49)) hx hb htb inX13 hown hK hP 49 (by decide) (htb _ kw_823) rfl dX13_happens_16 ?_
    refine lv_iload_n hx hb dX13_happens_19 rfl (lv_at hl 1 rfl) ?_
    refine ma_iast (x := a) hx hb hK hP hD hS 41 (k := 55) rfl rfl rfl (show vp_in (sg 49) 400 from (iv_in h_2 (by decide))) dX13_happens_20 (fun gm_3 H locs egm_3 hP hD hS => ?_)
    have hI_gm_3 := MI_st hI egm_3 (iv_all a) (by decide)
    refine lv_aload_n hx hb dX13_happens_21 rfl (lv_at hl 0 rfl) ?_
    refine mr_get (v := .ref (ad 56)) hx hb htb inX13 hown hK hP 56 (by decide) (htb _ kw_206) rfl dX13_happens_22 ?_
    refine lv_aload_n hx hb dX13_happens_25 rfl (lv_at hl 0 rfl) ?_
    refine mr_get (v := .int (sg 49)) hx hb htb inX13 hown hK hP 49 (by decide) (htb _ kw_823) rfl dX13_happens_26 ?_
    refine lv_iload_n hx hb dX13_happens_29 rfl (lv_at hl 2 rfl) ?_
    refine ma_iast (x := b) hx hb hK hP hD hS 42 (k := 56) rfl rfl rfl (show vp_in (sg 49) 400 from (iv_in h_2 (by decide))) dX13_happens_30 (fun gm_4 H locs egm_4 hP hD hS => ?_)
    have hI_gm_4 := MI_st hI_gm_3 egm_4 (iv_all b) (by decide)
    refine lv_aload_n hx hb dX13_happens_31 rfl (lv_at hl 0 rfl) ?_
    refine mr_get (v := .ref (ad 57)) hx hb htb inX13 hown hK hP 57 (by decide) (htb _ kw_207) rfl dX13_happens_32 ?_
    refine lv_aload_n hx hb dX13_happens_35 rfl (lv_at hl 0 rfl) ?_
    refine mr_get (v := .int (sg 49)) hx hb htb inX13 hown hK hP 49 (by decide) (htb _ kw_823) rfl dX13_happens_36 ?_
    refine lv_iload_n hx hb dX13_happens_39 rfl (lv_at hl 3 rfl) ?_
    refine ma_iast (x := f) hx hb hK hP hD hS 43 (k := 57) rfl rfl rfl (show vp_in (sg 49) 400 from (iv_in h_2 (by decide))) dX13_happens_40 (fun gm_5 H locs egm_5 hP hD hS => ?_)
    have hI_gm_5 := MI_st hI_gm_4 egm_5 (iv_all f) (by decide)
    refine lv_aload_n hx hb dX13_happens_41 rfl (lv_at hl 0 rfl) ?_
    refine mr_get (v := .ref (ad 58)) hx hb htb inX13 hown hK hP 58 (by decide) (htb _ kw_208) rfl dX13_happens_42 ?_
    refine lv_aload_n hx hb dX13_happens_45 rfl (lv_at hl 0 rfl) ?_
    refine mr_get (v := .int (sg 49)) hx hb htb inX13 hown hK hP 49 (by decide) (htb _ kw_823) rfl dX13_happens_46 ?_
    refine lv_iload hx hb dX13_happens_49 (lv_at hl 4 rfl) ?_
    refine ma_iast (x := g) hx hb hK hP hD hS 44 (k := 58) rfl rfl rfl (show vp_in (sg 49) 400 from (iv_in h_2 (by decide))) dX13_happens_51 (fun gm_6 H locs egm_6 hP hD hS => ?_)
    have hI_gm_6 := MI_st hI_gm_5 egm_6 (iv_all g) (by decide)
    refine lv_aload_n hx hb dX13_happens_52 rfl (lv_at hl 0 rfl) ?_
    refine lv_dup hx hb dX13_happens_53 rfl ?_
    refine mr_get (v := .int (sg 49)) hx hb htb inX13 hown hK hP 49 (by decide) (htb _ kw_823) rfl dX13_happens_54 ?_
    refine lv_iconst (v := 1) hx hb dX13_happens_57 (by decide) ?_
    refine lv_iadd hx hb dX13_happens_58 ?_
    refine lv_topi (fun z_7 ez_7 => ?_)
    have hz_7 : iv 1 400 z_7 := iv_of ez_7 (iv_add h_2 (iv_k (by decide) : iv 1 1 1) (by decide))
    have tz_7 : z_7.toInt = ((sg 49) : Int32).toInt + 1 := by rw [ez_7]; exact iv_addE h_2 (iv_k (by decide) : iv 1 1 1) (by decide)
    refine ma_put (x := z_7) hx hb htb inX13 hown hK hP hD hS 49 (by decide) (by decide) (htb _ kw_823) rfl rfl rfl dX13_happens_59 (fun sg_8 H locs esg_8 hP hD hS => ?_)
    have hI_sg_8 := MI_put hI_gm_6 esg_8 hz_7 (by decide)
    exact W.vret hx hb hr (fun t ht hW => ⟨⟨(sg_8, gm_6, lg), rfl, ⟨sg_8, gm_6, lg, rfl, hI_sg_8, (KS_up KS_rf esg_8 (by decide)), (KS_up (KS_up (KS_up (KS_up KS_rf egm_3 (by decide)) egm_4 (by decide)) egm_5 (by decide)) egm_6 (by decide)), KS_rf⟩, by rw [ht]; exact hP, va_K.moved hW.alike hK, hD⟩, hS.F ht⟩) hS.2.2 dX13_happens_62
  · have h_9 : iv 400 400 (sg 49) := iv_eq c_1 (show iv 0 400 (sg 49) from MI_s hI 49) (iv_k (by decide) : iv 400 400 400) (by decide)
    exact W.vret hx hb hr (fun t ht hW => ⟨⟨(sg, gm, lg), rfl, ⟨sg, gm, lg, rfl, hI, KS_rf, KS_rf, KS_rf⟩, by rw [ht]; exact hP, va_K.moved hW.alike hK, hD⟩, hS.F ht⟩) hS.2.2 dX13_happens_10

set_option maxHeartbeats 4000000 in
set_option maxRecDepth 100000 in
theorem a_events (l : Launch) (dC : Nat → ClassId) (dI : Nat → Nat → Nat) (h0 : Nat) (ad : Nat → Nat) (cid : Nat → ClassId) (sg : Nat → Int32) (gm : Nat → Nat → Int32) (lg : Nat → Nat → Int64) (hI : MI sg gm) : MMi l dC dI yX13_events wm_X13_events ({ frames := 0, cells := 0, slots := 0, locals := 0 }) h0 ad cid [] sg gm lg (fun r v => ∃ (sg2 : Nat → Int32) (gm2 : Nat → Nat → Int32) (lg2 : Nat → Nat → Int64), v = (sg2, gm2, lg2) ∧ MI sg2 gm2 ∧ KS [5] sg sg2 ∧ KS [] gm gm2 ∧ KS [] lg lg2) := by
  intro sz
  refine Met.ofW (cc := cX13_events) (maxL := 1) (ret := (some .int)) (by decide) rfl ?_
  intro p e s m args below meth c s₁ B hml hv
  obtain ⟨rfl, hsz, hP, hK, hD0⟩ := hv
  have hx := B.exec
  have hb := B.bytes
  have hr := B.returns
  have hts := atoms_spec (ws := wm_X13_events) B.pre
  have htb := fun (w : Cond) (h : w ∈ tb) => hts w (List.mem_cons_of_mem _ h)
  have hown : s.vm.findClass RX13 = some m.cls := findClass_of_methodNamed B.named
  have hlocks := B.notSynchronized
  subst hsz
  have hD := hD0.self (sz := s.heap.size)
  generalize hAe : va_A (mW h0 ad cid sg gm lg) s.heap.size = A at hD ⊢
  have hA : ∀ q : Nat, s.heap.size ≤ q → A q := fun q h => by rw [← hAe]; exact Or.inr h
  have hS : va_S A s.heap s.heap [] := va_S.rf
  have hl := lv_entry ([.ref h0]) (n := 1) (Nat.le_of_ble_eq_true rfl)
  rw [lg_entry_eq]
  generalize (lg_sl ([.ref h0]) ++ List.replicate (1 - (lg_sl ([.ref h0])).length) Slot.unset).toArray = ls at hl ⊢
  have hl : lv_has ls 1 [(0, .ref h0)] := hl
  refine lv_aload_n hx hb dX13_events_0 rfl (lv_at hl 0 rfl) ?_
  refine lv_iconst (v := 0) hx hb dX13_events_1 (by decide) ?_
  refine ma_put (x := 0) hx hb htb inX13 hown hK hP hD hS 5 (by decide) (by decide) (htb _ kw_239) rfl rfl rfl dX13_events_2 (fun sg_1 H locs esg_1 hP hD hS => ?_)
  have hI_sg_1 := MI_put hI esg_1 (iv_k (by decide) : iv 0 0 0) (by decide)
  refine lv_aload_n hx hb dX13_events_5 rfl (lv_at hl 0 rfl) ?_
  refine mr_get (v := .int (sg_1 49)) hx hb htb inX13 hown hK hP 49 (by decide) (htb _ kw_823) rfl dX13_events_6 ?_
  refine lv_topi (fun z_2 ez_2 => ?_)
  obtain rfl : (sg 49) = z_2 := (ez_2.trans (up_ne esg_1 (by decide))).symm
  exact W.iret (v := (sg 49)) hx hb hr (fun t ht hW => ⟨⟨(sg 49), (sg_1, gm, lg), rfl, ⟨sg_1, gm, lg, rfl, hI_sg_1, (KS_up KS_rf esg_1 (by decide)), KS_rf, KS_rf⟩, by rw [ht]; exact hP, va_K.moved hW.alike hK, hD⟩, hS.F ht⟩) hS.2.2 dX13_events_9

set_option maxHeartbeats 4000000 in
set_option maxRecDepth 100000 in
theorem a_event (l : Launch) (dC : Nat → ClassId) (dI : Nat → Nat → Nat) (h0 : Nat) (ad : Nat → Nat) (cid : Nat → ClassId) (sg : Nat → Int32) (gm : Nat → Nat → Int32) (lg : Nat → Nat → Int64) (a : Int32) (b : Int32) (hI : MI sg gm) : MMi l dC dI yX13_event wm_X13_event ({ frames := 0, cells := 0, slots := 0, locals := 0 }) h0 ad cid [.int a, .int b] sg gm lg (fun r v => ∃ (sg2 : Nat → Int32) (gm2 : Nat → Nat → Int32) (lg2 : Nat → Nat → Int64), v = (sg2, gm2, lg2) ∧ MI sg2 gm2 ∧ KS [5] sg sg2 ∧ KS [] gm gm2 ∧ KS [] lg lg2) := by
  intro sz
  refine Met.ofW (cc := cX13_event) (maxL := 3) (ret := (some .int)) (by decide) rfl ?_
  intro p e s m args below meth c s₁ B hml hv
  obtain ⟨rfl, hsz, hP, hK, hD0⟩ := hv
  have hx := B.exec
  have hb := B.bytes
  have hr := B.returns
  have hts := atoms_spec (ws := wm_X13_event) B.pre
  have htb := fun (w : Cond) (h : w ∈ tb) => hts w (List.mem_cons_of_mem _ h)
  have hown : s.vm.findClass RX13 = some m.cls := findClass_of_methodNamed B.named
  have hlocks := B.notSynchronized
  subst hsz
  have hD := hD0.self (sz := s.heap.size)
  generalize hAe : va_A (mW h0 ad cid sg gm lg) s.heap.size = A at hD ⊢
  have hA : ∀ q : Nat, s.heap.size ≤ q → A q := fun q h => by rw [← hAe]; exact Or.inr h
  have hS : va_S A s.heap s.heap [] := va_S.rf
  have hl := lv_entry ([.ref h0, .int a, .int b]) (n := 3) (Nat.le_of_ble_eq_true rfl)
  rw [lg_entry_eq]
  generalize (lg_sl ([.ref h0, .int a, .int b]) ++ List.replicate (3 - (lg_sl ([.ref h0, .int a, .int b])).length) Slot.unset).toArray = ls at hl ⊢
  have hl : lv_has ls 3 [(0, .ref h0), (1, .int a), (2, .int b)] := hl
  have hj17 : ∀ (sg_j17 : Nat → Int32) (_ : KS [5] sg sg_j17) (_ : MI sg_j17 gm) (H : Heap) (locs : List Loc) (ls : Array Slot), va_P (dC, dI) vwCl (mW h0 ad cid sg_j17 gm lg) H → va_D A (mW h0 ad cid sg_j17 gm lg) → va_S A s.heap H locs → lv_has ls 3 [(0, .ref h0), (1, .int a), (2, .int b)] → W p l e (headSpec wm_X13_event ({ frames := 0, cells := 0, slots := 0, locals := 0 })).room s m ([.ref h0, .int a, .int b] : List Value).toArray below meth c H locs 0 0 (MQ below (va_Qi (fun r v => ∃ (sg2 : Nat → Int32) (gm2 : Nat → Nat → Int32) (lg2 : Nat → Nat → Int64), v = (sg2, gm2, lg2) ∧ MI sg2 gm2 ∧ KS [5] sg sg2 ∧ KS [] gm gm2 ∧ KS [] lg lg2) (MB dC dI h0 ad cid A) A) ([.ref h0, .int a, .int b] : List Value).toArray s 0 0 A) (F0 m 17 ls []) := by
    intro sg_j17 hks_j17 hI_j17 H locs ls hP hD hS hl
    refine lv_iconst (v := (-1)) hx hb dX13_event_17 (by decide) ?_
    exact W.iret (v := (-1)) hx hb hr (fun t ht hW => ⟨⟨(-1), (sg_j17, gm, lg), rfl, ⟨sg_j17, gm, lg, rfl, hI_j17, (KS_tr (L := [5]) KS_rf hks_j17 (by decide)), KS_rf, KS_rf⟩, by rw [ht]; exact hP, va_K.moved hW.alike hK, hD⟩, hS.F ht⟩) hS.2.2 dX13_event_18
  refine lv_aload_n hx hb dX13_event_0 rfl (lv_at hl 0 rfl) ?_
  refine lv_iconst (v := 0) hx hb dX13_event_1 (by decide) ?_
  refine ma_put (x := 0) hx hb htb inX13 hown hK hP hD hS 5 (by decide) (by decide) (htb _ kw_239) rfl rfl rfl dX13_event_2 (fun sg_1 H locs esg_1 hP hD hS => ?_)
  have hI_sg_1 := MI_put hI esg_1 (iv_k (by decide) : iv 0 0 0) (by decide)
  refine lv_iload_n hx hb dX13_event_5 rfl (lv_at hl 1 rfl) ?_
  refine lv_if_lt (tgt := 17) hx hb dX13_event_6 (by decide) (fun c_2 => ?_) (fun c_2 => ?_)
  · have h_3 : iv (-2147483648) (-1) a := iv_ltL c_2 (iv_all a) (iv_k (by decide) : iv 0 0 0) (by decide)
    exact hj17 sg_1 (KS_up KS_rf esg_1 (by decide)) hI_sg_1 _ _ _ hP hD hS (lv_sub hl [0, 1, 2] rfl)
  · have h_4 : iv 0 2147483647 a := iv_leR (i32_ge c_2) (iv_k (by decide) : iv 0 0 0) (iv_all a) (by decide)
    refine lv_iload_n hx hb dX13_event_9 rfl (lv_at hl 1 rfl) ?_
    refine lv_aload_n hx hb dX13_event_10 rfl (lv_at hl 0 rfl) ?_
    refine mr_get (v := .int (sg_1 49)) hx hb htb inX13 hown hK hP 49 (by decide) (htb _ kw_823) rfl dX13_event_11 ?_
    refine lv_topi (fun z_5 ez_5 => ?_)
    obtain rfl : (sg 49) = z_5 := (ez_5.trans (up_ne esg_1 (by decide))).symm
    refine lv_icmp_lt (tgt := 19) hx hb dX13_event_14 (by decide) (fun c_6 => ?_) (fun c_6 => ?_)
    · have d_7 : (a : Int32).toInt < ((sg 49) : Int32).toInt := Int32.lt_iff_toInt_lt.mp c_6
      have h_8 : iv 0 399 a := iv_ltL c_6 h_4 (show iv 0 400 (sg 49) from MI_s hI 49) (by decide)
      have h_9 : iv 1 400 (sg 49) := iv_ltR c_6 h_4 (show iv 0 400 (sg 49) from MI_s hI 49) (by decide)
      refine lv_iload_n hx hb dX13_event_19 rfl (lv_at hl 2 rfl) ?_
      by_cases c_10 : (b : Int32).toInt = 0
      · refine lv_tableIn (tgt := 52) hx hb dX13_event_20 (by rw [c_10]; decide) (by rw [c_10]; decide) (by rw [c_10]; rfl) (by decide) ?_
        have h_11 : iv 0 0 b := iv_at c_10
        refine lv_aload_n hx hb dX13_event_52 rfl (lv_at hl 0 rfl) ?_
        refine mr_get (v := .ref (ad 55)) hx hb htb inX13 hown hK hP 55 (by decide) (htb _ kw_205) rfl dX13_event_53 ?_
        refine lv_iload_n hx hb dX13_event_56 rfl (lv_at hl 1 rfl) ?_
        refine mr_iald hx hb hK hP 41 (k := 55) rfl rfl rfl (show vp_in a 400 from (iv_in h_8 (by decide))) dX13_event_57 ?_
        refine lv_topi (fun z_12 ez_12 => ?_)
        exact W.iret (v := z_12) hx hb hr (fun t ht hW => ⟨⟨z_12, (sg_1, gm, lg), rfl, ⟨sg_1, gm, lg, rfl, hI_sg_1, (KS_up KS_rf esg_1 (by decide)), KS_rf, KS_rf⟩, by rw [ht]; exact hP, va_K.moved hW.alike hK, hD⟩, hS.F ht⟩) hS.2.2 dX13_event_58
      by_cases c_13 : (b : Int32).toInt = 1
      · refine lv_tableIn (tgt := 59) hx hb dX13_event_20 (by rw [c_13]; decide) (by rw [c_13]; decide) (by rw [c_13]; rfl) (by decide) ?_
        have h_14 : iv 1 1 b := iv_at c_13
        refine lv_aload_n hx hb dX13_event_59 rfl (lv_at hl 0 rfl) ?_
        refine mr_get (v := .ref (ad 56)) hx hb htb inX13 hown hK hP 56 (by decide) (htb _ kw_206) rfl dX13_event_60 ?_
        refine lv_iload_n hx hb dX13_event_63 rfl (lv_at hl 1 rfl) ?_
        refine mr_iald hx hb hK hP 42 (k := 56) rfl rfl rfl (show vp_in a 400 from (iv_in h_8 (by decide))) dX13_event_64 ?_
        refine lv_topi (fun z_15 ez_15 => ?_)
        exact W.iret (v := z_15) hx hb hr (fun t ht hW => ⟨⟨z_15, (sg_1, gm, lg), rfl, ⟨sg_1, gm, lg, rfl, hI_sg_1, (KS_up KS_rf esg_1 (by decide)), KS_rf, KS_rf⟩, by rw [ht]; exact hP, va_K.moved hW.alike hK, hD⟩, hS.F ht⟩) hS.2.2 dX13_event_65
      by_cases c_16 : (b : Int32).toInt = 2
      · refine lv_tableIn (tgt := 66) hx hb dX13_event_20 (by rw [c_16]; decide) (by rw [c_16]; decide) (by rw [c_16]; rfl) (by decide) ?_
        have h_17 : iv 2 2 b := iv_at c_16
        refine lv_aload_n hx hb dX13_event_66 rfl (lv_at hl 0 rfl) ?_
        refine mr_get (v := .ref (ad 57)) hx hb htb inX13 hown hK hP 57 (by decide) (htb _ kw_207) rfl dX13_event_67 ?_
        refine lv_iload_n hx hb dX13_event_70 rfl (lv_at hl 1 rfl) ?_
        refine mr_iald hx hb hK hP 43 (k := 57) rfl rfl rfl (show vp_in a 400 from (iv_in h_8 (by decide))) dX13_event_71 ?_
        refine lv_topi (fun z_18 ez_18 => ?_)
        exact W.iret (v := z_18) hx hb hr (fun t ht hW => ⟨⟨z_18, (sg_1, gm, lg), rfl, ⟨sg_1, gm, lg, rfl, hI_sg_1, (KS_up KS_rf esg_1 (by decide)), KS_rf, KS_rf⟩, by rw [ht]; exact hP, va_K.moved hW.alike hK, hD⟩, hS.F ht⟩) hS.2.2 dX13_event_72
      by_cases c_19 : (b : Int32).toInt = 3
      · refine lv_tableIn (tgt := 73) hx hb dX13_event_20 (by rw [c_19]; decide) (by rw [c_19]; decide) (by rw [c_19]; rfl) (by decide) ?_
        have h_20 : iv 3 3 b := iv_at c_19
        refine lv_aload_n hx hb dX13_event_73 rfl (lv_at hl 0 rfl) ?_
        refine mr_get (v := .ref (ad 58)) hx hb htb inX13 hown hK hP 58 (by decide) (htb _ kw_208) rfl dX13_event_74 ?_
        refine lv_iload_n hx hb dX13_event_77 rfl (lv_at hl 1 rfl) ?_
        refine mr_iald hx hb hK hP 44 (k := 58) rfl rfl rfl (show vp_in a 400 from (iv_in h_8 (by decide))) dX13_event_78 ?_
        refine lv_topi (fun z_21 ez_21 => ?_)
        exact W.iret (v := z_21) hx hb hr (fun t ht hW => ⟨⟨z_21, (sg_1, gm, lg), rfl, ⟨sg_1, gm, lg, rfl, hI_sg_1, (KS_up KS_rf esg_1 (by decide)), KS_rf, KS_rf⟩, by rw [ht]; exact hP, va_K.moved hW.alike hK, hD⟩, hS.F ht⟩) hS.2.2 dX13_event_79
      refine lv_tableOut (tgt := 80) hx hb dX13_event_20 (by have q1 := ((iv_all b)).1; have q2 := ((iv_all b)).2; omega) (by decide) ?_
      refine lv_iconst (v := (-1)) hx hb dX13_event_80 (by decide) ?_
      exact W.iret (v := (-1)) hx hb hr (fun t ht hW => ⟨⟨(-1), (sg_1, gm, lg), rfl, ⟨sg_1, gm, lg, rfl, hI_sg_1, (KS_up KS_rf esg_1 (by decide)), KS_rf, KS_rf⟩, by rw [ht]; exact hP, va_K.moved hW.alike hK, hD⟩, hS.F ht⟩) hS.2.2 dX13_event_81
    · have d_22 : ((sg 49) : Int32).toInt ≤ (a : Int32).toInt := Int32.le_iff_toInt_le.mp (i32_ge c_6)
      exact hj17 sg_1 (KS_up KS_rf esg_1 (by decide)) hI_sg_1 _ _ _ hP hD hS (lv_sub hl [0, 1, 2] rfl)

set_option maxHeartbeats 4000000 in
set_option maxRecDepth 100000 in
theorem a_object (l : Launch) (dC : Nat → ClassId) (dI : Nat → Nat → Nat) (h0 : Nat) (ad : Nat → Nat) (cid : Nat → ClassId) (sg : Nat → Int32) (gm : Nat → Nat → Int32) (lg : Nat → Nat → Int64) (a : Int32) (b : Int32) (hI : MI sg gm) : MMi l dC dI yX13_object wm_X13_object ({ frames := 0, cells := 0, slots := 0, locals := 0 }) h0 ad cid [.int a, .int b] sg gm lg (fun r v => ∃ (sg2 : Nat → Int32) (gm2 : Nat → Nat → Int32) (lg2 : Nat → Nat → Int64), v = (sg2, gm2, lg2) ∧ MI sg2 gm2 ∧ KS [5] sg sg2 ∧ KS [] gm gm2 ∧ KS [] lg lg2) := by
  intro sz
  refine Met.ofW (cc := cX13_object) (maxL := 3) (ret := (some .int)) (by decide) rfl ?_
  intro p e s m args below meth c s₁ B hml hv
  obtain ⟨rfl, hsz, hP, hK, hD0⟩ := hv
  have hx := B.exec
  have hb := B.bytes
  have hr := B.returns
  have hts := atoms_spec (ws := wm_X13_object) B.pre
  have htb := fun (w : Cond) (h : w ∈ tb) => hts w (List.mem_cons_of_mem _ h)
  have hown : s.vm.findClass RX13 = some m.cls := findClass_of_methodNamed B.named
  have hlocks := B.notSynchronized
  subst hsz
  have hD := hD0.self (sz := s.heap.size)
  generalize hAe : va_A (mW h0 ad cid sg gm lg) s.heap.size = A at hD ⊢
  have hA : ∀ q : Nat, s.heap.size ≤ q → A q := fun q h => by rw [← hAe]; exact Or.inr h
  have hS : va_S A s.heap s.heap [] := va_S.rf
  have hl := lv_entry ([.ref h0, .int a, .int b]) (n := 3) (Nat.le_of_ble_eq_true rfl)
  rw [lg_entry_eq]
  generalize (lg_sl ([.ref h0, .int a, .int b]) ++ List.replicate (3 - (lg_sl ([.ref h0, .int a, .int b])).length) Slot.unset).toArray = ls at hl ⊢
  have hl : lv_has ls 3 [(0, .ref h0), (1, .int a), (2, .int b)] := hl
  have hj49 : ∀ (sg_j49 : Nat → Int32) (y0_49 : Int32) (_ : iv (-1) 79 y0_49) (_ : KS [5] sg sg_j49) (_ : MI sg_j49 gm) (H : Heap) (locs : List Loc) (ls : Array Slot), va_P (dC, dI) vwCl (mW h0 ad cid sg_j49 gm lg) H → va_D A (mW h0 ad cid sg_j49 gm lg) → va_S A s.heap H locs → lv_has ls 3 [(0, .ref h0), (1, .int a), (2, .int b)] → W p l e (headSpec wm_X13_object ({ frames := 0, cells := 0, slots := 0, locals := 0 })).room s m ([.ref h0, .int a, .int b] : List Value).toArray below meth c H locs 0 0 (MQ below (va_Qi (fun r v => ∃ (sg2 : Nat → Int32) (gm2 : Nat → Nat → Int32) (lg2 : Nat → Nat → Int64), v = (sg2, gm2, lg2) ∧ MI sg2 gm2 ∧ KS [5] sg sg2 ∧ KS [] gm gm2 ∧ KS [] lg lg2) (MB dC dI h0 ad cid A) A) ([.ref h0, .int a, .int b] : List Value).toArray s 0 0 A) (F0 m 49 ls [.int y0_49]) := by
    intro sg_j49 y0_49 hy0_49 hks_j49 hI_j49 H locs ls hP hD hS hl
    exact W.iret (v := y0_49) hx hb hr (fun t ht hW => ⟨⟨y0_49, (sg_j49, gm, lg), rfl, ⟨sg_j49, gm, lg, rfl, hI_j49, (KS_tr (L := [5]) KS_rf hks_j49 (by decide)), KS_rf, KS_rf⟩, by rw [ht]; exact hP, va_K.moved hW.alike hK, hD⟩, hS.F ht⟩) hS.2.2 dX13_object_49
  have hj26 : ∀ (sg_j26 : Nat → Int32) (_ : KS [5] sg sg_j26) (_ : MI sg_j26 gm) (H : Heap) (locs : List Loc) (ls : Array Slot), va_P (dC, dI) vwCl (mW h0 ad cid sg_j26 gm lg) H → va_D A (mW h0 ad cid sg_j26 gm lg) → va_S A s.heap H locs → lv_has ls 3 [(0, .ref h0), (1, .int a), (2, .int b)] → W p l e (headSpec wm_X13_object ({ frames := 0, cells := 0, slots := 0, locals := 0 })).room s m ([.ref h0, .int a, .int b] : List Value).toArray below meth c H locs 0 0 (MQ below (va_Qi (fun r v => ∃ (sg2 : Nat → Int32) (gm2 : Nat → Nat → Int32) (lg2 : Nat → Nat → Int64), v = (sg2, gm2, lg2) ∧ MI sg2 gm2 ∧ KS [5] sg sg2 ∧ KS [] gm gm2 ∧ KS [] lg lg2) (MB dC dI h0 ad cid A) A) ([.ref h0, .int a, .int b] : List Value).toArray s 0 0 A) (F0 m 26 ls []) := by
    intro sg_j26 hks_j26 hI_j26 H locs ls hP hD hS hl
    refine lv_iconst (v := (-1)) hx hb dX13_object_26 (by decide) ?_
    refine lv_goto (tgt := 49) hx hb dX13_object_27 (by decide) ?_
    exact hj49 sg_j26 (-1) (iv_w (iv_k (by decide) : iv (-1) (-1) (-1)) (by decide)) (KS_tr (L := [5]) KS_rf hks_j26 (by decide)) hI_j26 _ _ _ hP hD hS (lv_sub hl [0, 1, 2] rfl)
  refine lv_aload_n hx hb dX13_object_0 rfl (lv_at hl 0 rfl) ?_
  refine lv_iconst (v := 0) hx hb dX13_object_1 (by decide) ?_
  refine ma_put (x := 0) hx hb htb inX13 hown hK hP hD hS 5 (by decide) (by decide) (htb _ kw_239) rfl rfl rfl dX13_object_2 (fun sg_1 H locs esg_1 hP hD hS => ?_)
  have hI_sg_1 := MI_put hI esg_1 (iv_k (by decide) : iv 0 0 0) (by decide)
  refine lv_iload_n hx hb dX13_object_5 rfl (lv_at hl 1 rfl) ?_
  refine lv_if_lt (tgt := 26) hx hb dX13_object_6 (by decide) (fun c_2 => ?_) (fun c_2 => ?_)
  · have h_3 : iv (-2147483648) (-1) a := iv_ltL c_2 (iv_all a) (iv_k (by decide) : iv 0 0 0) (by decide)
    exact hj26 sg_1 (KS_up KS_rf esg_1 (by decide)) hI_sg_1 _ _ _ hP hD hS (lv_sub hl [0, 1, 2] rfl)
  · have h_4 : iv 0 2147483647 a := iv_leR (i32_ge c_2) (iv_k (by decide) : iv 0 0 0) (iv_all a) (by decide)
    refine lv_iload_n hx hb dX13_object_9 rfl (lv_at hl 1 rfl) ?_
    refine lv_aload_n hx hb dX13_object_10 rfl (lv_at hl 0 rfl) ?_
    refine mr_get (v := .int (sg_1 48)) hx hb htb inX13 hown hK hP 48 (by decide) (htb _ kw_819) rfl dX13_object_11 ?_
    refine lv_topi (fun z_5 ez_5 => ?_)
    obtain rfl : (sg 48) = z_5 := (ez_5.trans (up_ne esg_1 (by decide))).symm
    refine lv_icmp_ge (tgt := 26) hx hb dX13_object_14 (by decide) (fun c_6 => ?_) (fun c_6 => ?_)
    · have d_7 : ((sg 48) : Int32).toInt ≤ (a : Int32).toInt := Int32.le_iff_toInt_le.mp c_6
      exact hj26 sg_1 (KS_up KS_rf esg_1 (by decide)) hI_sg_1 _ _ _ hP hD hS (lv_sub hl [0, 1, 2] rfl)
    · have d_8 : (a : Int32).toInt < ((sg 48) : Int32).toInt := Int32.lt_iff_toInt_lt.mp (i32_lt c_6)
      have h_9 : iv 0 59 a := iv_ltL (i32_lt c_6) h_4 (show iv 0 60 (sg 48) from MI_s hI 48) (by decide)
      have h_10 : iv 1 60 (sg 48) := iv_ltR (i32_lt c_6) h_4 (show iv 0 60 (sg 48) from MI_s hI 48) (by decide)
      refine lv_iload_n hx hb dX13_object_17 rfl (lv_at hl 2 rfl) ?_
      refine lv_if_lt (tgt := 26) hx hb dX13_object_18 (by decide) (fun c_11 => ?_) (fun c_11 => ?_)
      · have h_12 : iv (-2147483648) (-1) b := iv_ltL c_11 (iv_all b) (iv_k (by decide) : iv 0 0 0) (by decide)
        exact hj26 sg_1 (KS_up KS_rf esg_1 (by decide)) hI_sg_1 _ _ _ hP hD hS (lv_sub hl [0, 1, 2] rfl)
      · have h_13 : iv 0 2147483647 b := iv_leR (i32_ge c_11) (iv_k (by decide) : iv 0 0 0) (iv_all b) (by decide)
        refine lv_iload_n hx hb dX13_object_21 rfl (lv_at hl 2 rfl) ?_
        refine lv_iconst (v := 1) hx hb dX13_object_22 (by decide) ?_
        refine lv_icmp_le (tgt := 30) hx hb dX13_object_23 (by decide) (fun c_14 => ?_) (fun c_14 => ?_)
        · have h_15 : iv 0 1 b := iv_leL c_14 h_13 (iv_k (by decide) : iv 1 1 1) (by decide)
          refine lv_iload_n hx hb dX13_object_30 rfl (lv_at hl 2 rfl) ?_
          refine lv_if_ne (tgt := 43) hx hb dX13_object_31 (by decide) (fun c_16 => ?_) (fun c_16 => ?_)
          · have h_17 : iv 1 1 b := iv_neL c_16 h_15 (by decide)
            refine lv_aload_n hx hb dX13_object_43 rfl (lv_at hl 0 rfl) ?_
            refine mr_get (v := .ref (ad 54)) hx hb htb inX13 hown hK hP 54 (by decide) (htb _ kw_204) rfl dX13_object_44 ?_
            refine lv_iload_n hx hb dX13_object_47 rfl (lv_at hl 1 rfl) ?_
            refine mr_iald hx hb hK hP 40 (k := 54) rfl rfl rfl (show vp_in a 60 from (iv_in h_9 (by decide))) dX13_object_48 ?_
            refine lv_topi (fun z_18 ez_18 => ?_)
            have hz_18 : iv 0 79 z_18 := iv_of ez_18 (MI_a hI_sg_1 54 h_9 (by decide))
            exact hj49 sg_1 z_18 (iv_w hz_18 (by decide)) (KS_up KS_rf esg_1 (by decide)) hI_sg_1 _ _ _ hP hD hS (lv_sub hl [0, 1, 2] rfl)
          · have h_19 : iv 0 0 b := iv_eq c_16 h_15 (iv_k (by decide) : iv 0 0 0) (by decide)
            refine lv_aload_n hx hb dX13_object_34 rfl (lv_at hl 0 rfl) ?_
            refine mr_get (v := .ref (ad 53)) hx hb htb inX13 hown hK hP 53 (by decide) (htb _ kw_203) rfl dX13_object_35 ?_
            refine lv_iload_n hx hb dX13_object_38 rfl (lv_at hl 1 rfl) ?_
            refine mr_iald hx hb hK hP 39 (k := 53) rfl rfl rfl (show vp_in a 60 from (iv_in h_9 (by decide))) dX13_object_39 ?_
            refine lv_topi (fun z_20 ez_20 => ?_)
            have hz_20 : iv 0 7 z_20 := iv_of ez_20 (MI_a hI_sg_1 53 h_9 (by decide))
            refine lv_goto (tgt := 49) hx hb dX13_object_40 (by decide) ?_
            exact hj49 sg_1 z_20 (iv_w hz_20 (by decide)) (KS_up KS_rf esg_1 (by decide)) hI_sg_1 _ _ _ hP hD hS (lv_sub hl [0, 1, 2] rfl)
        · have h_21 : iv 2 2147483647 b := iv_ltR (i32_lt c_14) (iv_k (by decide) : iv 1 1 1) h_13 (by decide)
          exact hj26 sg_1 (KS_up KS_rf esg_1 (by decide)) hI_sg_1 _ _ _ hP hD hS (lv_sub hl [0, 1, 2] rfl)

set_option maxHeartbeats 4000000 in
set_option maxRecDepth 100000 in
theorem a_bad (l : Launch) (dC : Nat → ClassId) (dI : Nat → Nat → Nat) (h0 : Nat) (ad : Nat → Nat) (cid : Nat → ClassId) (sg : Nat → Int32) (gm : Nat → Nat → Int32) (lg : Nat → Nat → Int64) (a : Int32) (hI : MI sg gm) : MMv l dC dI yX13_bad wm_X13_bad ({ frames := 0, cells := 0, slots := 0, locals := 0 }) h0 ad cid [.int a] sg gm lg (fun v => ∃ (sg2 : Nat → Int32) (gm2 : Nat → Nat → Int32) (lg2 : Nat → Nat → Int64), v = (sg2, gm2, lg2) ∧ MI sg2 gm2 ∧ KS [22, 23] sg sg2 ∧ KS [] gm gm2 ∧ KS [] lg lg2) := by
  intro sz
  refine Met.ofW (cc := cX13_bad) (maxL := 2) (ret := none) (by decide) rfl ?_
  intro p e s m args below meth c s₁ B hml hv
  obtain ⟨rfl, hsz, hP, hK, hD0⟩ := hv
  have hx := B.exec
  have hb := B.bytes
  have hr := B.returns
  have hts := atoms_spec (ws := wm_X13_bad) B.pre
  have htb := fun (w : Cond) (h : w ∈ tb) => hts w (List.mem_cons_of_mem _ h)
  have hown : s.vm.findClass RX13 = some m.cls := findClass_of_methodNamed B.named
  have hlocks := B.notSynchronized
  subst hsz
  have hD := hD0.self (sz := s.heap.size)
  generalize hAe : va_A (mW h0 ad cid sg gm lg) s.heap.size = A at hD ⊢
  have hA : ∀ q : Nat, s.heap.size ≤ q → A q := fun q h => by rw [← hAe]; exact Or.inr h
  have hS : va_S A s.heap s.heap [] := va_S.rf
  have hl := lv_entry ([.ref h0, .int a]) (n := 2) (Nat.le_of_ble_eq_true rfl)
  rw [lg_entry_eq]
  generalize (lg_sl ([.ref h0, .int a]) ++ List.replicate (2 - (lg_sl ([.ref h0, .int a])).length) Slot.unset).toArray = ls at hl ⊢
  have hl : lv_has ls 2 [(0, .ref h0), (1, .int a)] := hl
  refine lv_aload_n hx hb dX13_bad_0 rfl (lv_at hl 0 rfl) ?_
  refine mr_get (v := .int (sg 22)) hx hb htb inX13 hown hK hP 22 (by decide) (htb _ kw_813) rfl dX13_bad_1 ?_
  refine lv_if_eq (tgt := 8) hx hb dX13_bad_4 (by decide) (fun c_1 => ?_) (fun c_1 => ?_)
  · have h_2 : iv 0 0 (sg 22) := iv_eq c_1 (show iv 0 3 (sg 22) from MI_s hI 22) (iv_k (by decide) : iv 0 0 0) (by decide)
    refine lv_aload_n hx hb dX13_bad_8 rfl (lv_at hl 0 rfl) ?_
    refine lv_iconst (v := 1) hx hb dX13_bad_9 (by decide) ?_
    refine ma_put (x := 1) hx hb htb inX13 hown hK hP hD hS 22 (by decide) (by decide) (htb _ kw_813) rfl rfl rfl dX13_bad_10 (fun sg_3 H locs esg_3 hP hD hS => ?_)
    have hI_sg_3 := MI_put hI esg_3 (iv_k (by decide) : iv 1 1 1) (by decide)
    refine lv_aload_n hx hb dX13_bad_13 rfl (lv_at hl 0 rfl) ?_
    refine lv_iload_n hx hb dX13_bad_14 rfl (lv_at hl 1 rfl) ?_
    refine ma_put (x := a) hx hb htb inX13 hown hK hP hD hS 23 (by decide) (by decide) (htb _ kw_181) rfl rfl rfl dX13_bad_15 (fun sg_4 H locs esg_4 hP hD hS => ?_)
    have hI_sg_4 := MI_put hI_sg_3 esg_4 (iv_all a) (by decide)
    exact W.vret hx hb hr (fun t ht hW => ⟨⟨(sg_4, gm, lg), rfl, ⟨sg_4, gm, lg, rfl, hI_sg_4, (KS_up (KS_up KS_rf esg_3 (by decide)) esg_4 (by decide)), KS_rf, KS_rf⟩, by rw [ht]; exact hP, va_K.moved hW.alike hK, hD⟩, hS.F ht⟩) hS.2.2 dX13_bad_18
  · have h_5 : iv 1 3 (sg 22) := iv_neL c_1 (show iv 0 3 (sg 22) from MI_s hI 22) (by decide)
    exact W.vret hx hb hr (fun t ht hW => ⟨⟨(sg, gm, lg), rfl, ⟨sg, gm, lg, rfl, hI, KS_rf, KS_rf, KS_rf⟩, by rw [ht]; exact hP, va_K.moved hW.alike hK, hD⟩, hS.F ht⟩) hS.2.2 dX13_bad_7

set_option maxHeartbeats 4000000 in
set_option maxRecDepth 100000 in
theorem a_clear (l : Launch) (dC : Nat → ClassId) (dI : Nat → Nat → Nat) (h0 : Nat) (ad : Nat → Nat) (cid : Nat → ClassId) (sg : Nat → Int32) (gm : Nat → Nat → Int32) (lg : Nat → Nat → Int64) (hI : MI sg gm) : MMv l dC dI yX13_clear wm_X13_clear ({ frames := 0, cells := 0, slots := 0, locals := 0 }) h0 ad cid [] sg gm lg (fun v => ∃ (sg2 : Nat → Int32) (gm2 : Nat → Nat → Int32) (lg2 : Nat → Nat → Int64), v = (sg2, gm2, lg2) ∧ MI sg2 gm2 ∧ KS [49, 50] sg sg2 ∧ KS [60, 61, 62] gm gm2 ∧ KS [] lg lg2) := by
  intro sz
  refine Met.ofW (cc := cX13_clear) (maxL := 2) (ret := none) (by decide) rfl ?_
  intro p e s m args below meth c s₁ B hml hv
  obtain ⟨rfl, hsz, hP, hK, hD0⟩ := hv
  have hx := B.exec
  have hb := B.bytes
  have hr := B.returns
  have hts := atoms_spec (ws := wm_X13_clear) B.pre
  have htb := fun (w : Cond) (h : w ∈ tb) => hts w (List.mem_cons_of_mem _ h)
  have hown : s.vm.findClass RX13 = some m.cls := findClass_of_methodNamed B.named
  have hlocks := B.notSynchronized
  subst hsz
  have hD := hD0.self (sz := s.heap.size)
  generalize hAe : va_A (mW h0 ad cid sg gm lg) s.heap.size = A at hD ⊢
  have hA : ∀ q : Nat, s.heap.size ≤ q → A q := fun q h => by rw [← hAe]; exact Or.inr h
  have hS : va_S A s.heap s.heap [] := va_S.rf
  have hl := lv_entry ([.ref h0]) (n := 2) (Nat.le_of_ble_eq_true rfl)
  rw [lg_entry_eq]
  generalize (lg_sl ([.ref h0]) ++ List.replicate (2 - (lg_sl ([.ref h0])).length) Slot.unset).toArray = ls at hl ⊢
  have hl : lv_has ls 2 [(0, .ref h0)] := hl
  have hj12 : ∀ (n : Nat) (sg_j12 : Nat → Int32) (gm_j12 : Nat → Nat → Int32) (x1_12 : Int32) (_ : (80 - x1_12.toInt).toNat = n) (_ : iv 0 80 x1_12) (_ : KS [49, 50] sg sg_j12) (_ : KS [60, 61, 62] gm gm_j12) (_ : MI sg_j12 gm_j12) (H : Heap) (locs : List Loc) (ls : Array Slot), va_P (dC, dI) vwCl (mW h0 ad cid sg_j12 gm_j12 lg) H → va_D A (mW h0 ad cid sg_j12 gm_j12 lg) → va_S A s.heap H locs → lv_has ls 2 [(1, .int x1_12), (0, .ref h0)] → W p l e (headSpec wm_X13_clear ({ frames := 0, cells := 0, slots := 0, locals := 0 })).room s m ([.ref h0] : List Value).toArray below meth c H locs 0 0 (MQ below (va_Qv (fun v => ∃ (sg2 : Nat → Int32) (gm2 : Nat → Nat → Int32) (lg2 : Nat → Nat → Int64), v = (sg2, gm2, lg2) ∧ MI sg2 gm2 ∧ KS [49, 50] sg sg2 ∧ KS [60, 61, 62] gm gm2 ∧ KS [] lg lg2) (MB dC dI h0 ad cid A) A) ([.ref h0] : List Value).toArray s 0 0 A) (F0 m 12 ls []) := by
    intro n
    induction n using Nat.strongRecOn with
    | ind n ih12 =>
      intro sg_j12 gm_j12 x1_12 hn12 hx1_12 hks_j12 hkg_j12 hI_j12 H locs ls hP hD hS hl
      refine lv_iload_n hx hb dX13_clear_12 rfl (lv_at hl 0 rfl) ?_
      refine lv_bipush (v := 80) hx hb dX13_clear_13 (by decide) ?_
      refine lv_icmp_ge (tgt := 45) hx hb dX13_clear_15 (by decide) (fun c_1 => ?_) (fun c_1 => ?_)
      · have h_2 : iv 80 80 x1_12 := iv_leR c_1 (iv_k (by decide) : iv 80 80 80) hx1_12 (by decide)
        exact W.vret hx hb hr (fun t ht hW => ⟨⟨(sg_j12, gm_j12, lg), rfl, ⟨sg_j12, gm_j12, lg, rfl, hI_j12, (KS_tr (L := [49, 50]) KS_rf hks_j12 (by decide)), (KS_tr (L := [60, 61, 62]) KS_rf hkg_j12 (by decide)), KS_rf⟩, by rw [ht]; exact hP, va_K.moved hW.alike hK, hD⟩, hS.F ht⟩) hS.2.2 dX13_clear_45
      · have h_3 : iv 0 79 x1_12 := iv_ltL (i32_lt c_1) hx1_12 (iv_k (by decide) : iv 80 80 80) (by decide)
        refine lv_aload_n hx hb dX13_clear_18 rfl (lv_at hl 1 rfl) ?_
        refine mr_get (v := .ref (ad 61)) hx hb htb inX13 hown hK hP 61 (by decide) (htb _ kw_211) rfl dX13_clear_19 ?_
        refine lv_iload_n hx hb dX13_clear_22 rfl (lv_at hl 0 rfl) ?_
        refine lv_iconst (v := 0) hx hb dX13_clear_23 (by decide) ?_
        refine ma_zast (x := 0) hx hb hK hP hD hS 47 (k := 61) rfl rfl rfl (show vp_in x1_12 80 from (iv_in h_3 (by decide))) dX13_clear_24 (fun gm_4 H locs egm_4 hP hD hS => ?_)
        have hI_gm_4 := MI_st hI_j12 egm_4 (iv_of (iv_vb (iv_w (iv_k (by decide) : iv 0 0 0) (by decide))) (iv_k (by decide) : iv 0 0 0)) (by decide)
        refine lv_aload_n hx hb dX13_clear_25 rfl (lv_at hl 1 rfl) ?_
        refine mr_get (v := .ref (ad 62)) hx hb htb inX13 hown hK hP 62 (by decide) (htb _ kw_212) rfl dX13_clear_26 ?_
        refine lv_iload_n hx hb dX13_clear_29 rfl (lv_at hl 0 rfl) ?_
        refine lv_iconst (v := 0) hx hb dX13_clear_30 (by decide) ?_
        refine ma_zast (x := 0) hx hb hK hP hD hS 48 (k := 62) rfl rfl rfl (show vp_in x1_12 80 from (iv_in h_3 (by decide))) dX13_clear_31 (fun gm_5 H locs egm_5 hP hD hS => ?_)
        have hI_gm_5 := MI_st hI_gm_4 egm_5 (iv_of (iv_vb (iv_w (iv_k (by decide) : iv 0 0 0) (by decide))) (iv_k (by decide) : iv 0 0 0)) (by decide)
        refine lv_aload_n hx hb dX13_clear_32 rfl (lv_at hl 1 rfl) ?_
        refine mr_get (v := .ref (ad 60)) hx hb htb inX13 hown hK hP 60 (by decide) (htb _ kw_210) rfl dX13_clear_33 ?_
        refine lv_iload_n hx hb dX13_clear_36 rfl (lv_at hl 0 rfl) ?_
        refine lv_iconst (v := (-1)) hx hb dX13_clear_37 (by decide) ?_
        refine ma_iast (x := (-1)) hx hb hK hP hD hS 46 (k := 60) rfl rfl rfl (show vp_in x1_12 80 from (iv_in h_3 (by decide))) dX13_clear_38 (fun gm_6 H locs egm_6 hP hD hS => ?_)
        have hI_gm_6 := MI_st hI_gm_5 egm_6 (iv_k (by decide) : iv (-1) (-1) (-1)) (by decide)
        obtain ⟨z_7, ez_7⟩ : ∃ z : Int32, z = x1_12 + 1 := ⟨_, rfl⟩
        have hz_7 : iv 1 80 z_7 := iv_of ez_7 (iv_add h_3 (iv_k (by decide) : iv 1 1 1) (by decide))
        have tz_7 : z_7.toInt = x1_12.toInt + 1 := by rw [ez_7]; exact iv_addE h_3 (iv_k (by decide) : iv 1 1 1) (by decide)
        refine lv_iinc (v := z_7) (lv' := [(1, .int z_7), (0, .ref h0)]) hx hb dX13_clear_39 hl (k := 0) rfl ez_7.symm (by decide) rfl (fun ls hl => ?_)
        refine lv_goto (tgt := 12) hx hb dX13_clear_42 (by decide) ?_
        exact ih12 _ (by rw [← hn12]; exact (iv_meas tz_7 h_3 (by decide))) sg_j12 gm_6 z_7 rfl (iv_w hz_7 (by decide)) (KS_tr (L := [49, 50]) KS_rf hks_j12 (by decide)) (KS_up (KS_up (KS_up (KS_tr (L := [60, 61, 62]) KS_rf hkg_j12 (by decide)) egm_4 (by decide)) egm_5 (by decide)) egm_6 (by decide)) hI_gm_6 _ _ _ hP hD hS (lv_sub hl [0, 1] rfl)
  refine lv_aload_n hx hb dX13_clear_0 rfl (lv_at hl 0 rfl) ?_
  refine lv_iconst (v := 0) hx hb dX13_clear_1 (by decide) ?_
  refine ma_put (x := 0) hx hb htb inX13 hown hK hP hD hS 49 (by decide) (by decide) (htb _ kw_823) rfl rfl rfl dX13_clear_2 (fun sg_8 H locs esg_8 hP hD hS => ?_)
  have hI_sg_8 := MI_put hI esg_8 (iv_k (by decide) : iv 0 0 0) (by decide)
  refine lv_aload_n hx hb dX13_clear_5 rfl (lv_at hl 0 rfl) ?_
  refine lv_iconst (v := 0) hx hb dX13_clear_6 (by decide) ?_
  refine ma_put (x := 0) hx hb htb inX13 hown hK hP hD hS 50 (by decide) (by decide) (htb _ kw_824) rfl rfl rfl dX13_clear_7 (fun sg_9 H locs esg_9 hP hD hS => ?_)
  have hI_sg_9 := MI_put hI_sg_8 esg_9 (iv_k (by decide) : iv 0 0 0) (by decide)
  refine lv_iconst (v := 0) hx hb dX13_clear_10 (by decide) ?_
  refine lv_istore_n (lv' := [(1, .int 0), (0, .ref h0)]) hx hb dX13_clear_11 rfl hl (by decide) rfl (fun ls hl => ?_)
  exact hj12 _ sg_9 gm 0 rfl (iv_w (iv_k (by decide) : iv 0 0 0) (by decide)) (KS_up (KS_up KS_rf esg_8 (by decide)) esg_9 (by decide)) KS_rf hI_sg_9 _ _ _ hP hD hS (lv_sub hl [0, 1] rfl)

set_option maxHeartbeats 4000000 in
set_option maxRecDepth 100000 in
theorem a_keep (l : Launch) (dC : Nat → ClassId) (dI : Nat → Nat → Nat) (h0 : Nat) (ad : Nat → Nat) (cid : Nat → ClassId) (sg : Nat → Int32) (gm : Nat → Nat → Int32) (lg : Nat → Nat → Int64) (sl : Int32) (it : Int32) (kd : Int32) (vl : Int32) (hI : MI sg gm) (hvsl : iv 0 404 sl) (hvit : iv (-1) 5 it) (hvkd : iv 0 3 kd) (hvvl : iv 0 1079 vl) : MMv l dC dI yX13_keep wm_X13_keep ({ frames := 0, cells := 0, slots := 0, locals := 0 }) h0 ad cid [.int sl, .int it, .int kd, .int vl] sg gm lg (fun v => ∃ (sg2 : Nat → Int32) (gm2 : Nat → Nat → Int32) (lg2 : Nat → Nat → Int64), v = (sg2, gm2, lg2) ∧ MI sg2 gm2 ∧ KS [] sg sg2 ∧ KS [70, 71, 72, 73] gm gm2 ∧ KS [] lg lg2) := by
  intro sz
  refine Met.ofW (cc := cX13_keep) (maxL := 5) (ret := none) (by decide) rfl ?_
  intro p e s m args below meth c s₁ B hml hv
  obtain ⟨rfl, hsz, hP, hK, hD0⟩ := hv
  have hx := B.exec
  have hb := B.bytes
  have hr := B.returns
  have hts := atoms_spec (ws := wm_X13_keep) B.pre
  have htb := fun (w : Cond) (h : w ∈ tb) => hts w (List.mem_cons_of_mem _ h)
  have hown : s.vm.findClass RX13 = some m.cls := findClass_of_methodNamed B.named
  have hlocks := B.notSynchronized
  subst hsz
  have hD := hD0.self (sz := s.heap.size)
  generalize hAe : va_A (mW h0 ad cid sg gm lg) s.heap.size = A at hD ⊢
  have hA : ∀ q : Nat, s.heap.size ≤ q → A q := fun q h => by rw [← hAe]; exact Or.inr h
  have hS : va_S A s.heap s.heap [] := va_S.rf
  have hl := lv_entry ([.ref h0, .int sl, .int it, .int kd, .int vl]) (n := 5) (Nat.le_of_ble_eq_true rfl)
  rw [lg_entry_eq]
  generalize (lg_sl ([.ref h0, .int sl, .int it, .int kd, .int vl]) ++ List.replicate (5 - (lg_sl ([.ref h0, .int sl, .int it, .int kd, .int vl])).length) Slot.unset).toArray = ls at hl ⊢
  have hl : lv_has ls 5 [(0, .ref h0), (1, .int sl), (2, .int it), (3, .int kd), (4, .int vl)] := hl
  have hj47 : ∀ (gm_j47 : Nat → Nat → Int32) (_ : iv 0 404 sl) (_ : iv (-1) 5 it) (_ : iv 0 3 kd) (_ : iv 0 1079 vl) (_ : KS [70, 71, 72, 73] gm gm_j47) (_ : MI sg gm_j47) (H : Heap) (locs : List Loc) (ls : Array Slot), va_P (dC, dI) vwCl (mW h0 ad cid sg gm_j47 lg) H → va_D A (mW h0 ad cid sg gm_j47 lg) → va_S A s.heap H locs → lv_has ls 5 [(0, .ref h0), (1, .int sl), (2, .int it), (3, .int kd), (4, .int vl)] → W p l e (headSpec wm_X13_keep ({ frames := 0, cells := 0, slots := 0, locals := 0 })).room s m ([.ref h0, .int sl, .int it, .int kd, .int vl] : List Value).toArray below meth c H locs 0 0 (MQ below (va_Qv (fun v => ∃ (sg2 : Nat → Int32) (gm2 : Nat → Nat → Int32) (lg2 : Nat → Nat → Int64), v = (sg2, gm2, lg2) ∧ MI sg2 gm2 ∧ KS [] sg sg2 ∧ KS [70, 71, 72, 73] gm gm2 ∧ KS [] lg lg2) (MB dC dI h0 ad cid A) A) ([.ref h0, .int sl, .int it, .int kd, .int vl] : List Value).toArray s 0 0 A) (F0 m 47 ls []) := by
    intro gm_j47 hsx1_47 hsx2_47 hsx3_47 hsx4_47 hkg_j47 hI_j47 H locs ls hP hD hS hl
    exact W.vret hx hb hr (fun t ht hW => ⟨⟨(sg, gm_j47, lg), rfl, ⟨sg, gm_j47, lg, rfl, hI_j47, KS_rf, (KS_tr (L := [70, 71, 72, 73]) KS_rf hkg_j47 (by decide)), KS_rf⟩, by rw [ht]; exact hP, va_K.moved hW.alike hK, hD⟩, hS.F ht⟩) hS.2.2 dX13_keep_47
  refine lv_iload_n hx hb dX13_keep_0 rfl (lv_at hl 2 rfl) ?_
  refine lv_if_ge (tgt := 22) hx hb dX13_keep_1 (by decide) (fun c_1 => ?_) (fun c_1 => ?_)
  · have h_2 : iv 0 5 it := iv_leR c_1 (iv_k (by decide) : iv 0 0 0) hvit (by decide)
    refine lv_aload_n hx hb dX13_keep_22 rfl (lv_at hl 0 rfl) ?_
    refine mr_get (v := .ref (ad 72)) hx hb htb inX13 hown hK hP 72 (by decide) (htb _ kw_221) rfl dX13_keep_23 ?_
    refine lv_bipush (v := 6) hx hb dX13_keep_26 (by decide) ?_
    refine lv_iload_n hx hb dX13_keep_28 rfl (lv_at hl 1 rfl) ?_
    refine lv_imul hx hb dX13_keep_29 ?_
    refine lv_topi (fun z_3 ez_3 => ?_)
    have hz_3 : iv 0 2424 z_3 := iv_of ez_3 (iv_mul (iv_k (by decide) : iv 6 6 6) hvsl (by decide))
    have tz_3 : z_3.toInt = 6 * (sl : Int32).toInt := by rw [ez_3]; exact iv_mulE (iv_k (by decide) : iv 6 6 6) hvsl (by decide)
    refine lv_iload_n hx hb dX13_keep_30 rfl (lv_at hl 2 rfl) ?_
    refine lv_iadd hx hb dX13_keep_31 ?_
    refine lv_topi (fun z_4 ez_4 => ?_)
    have hz_4 : iv 0 2429 z_4 := iv_of ez_4 (iv_add hz_3 h_2 (by decide))
    have tz_4 : z_4.toInt = (z_3 : Int32).toInt + (it : Int32).toInt := by rw [ez_4]; exact iv_addE hz_3 h_2 (by decide)
    refine lv_iload_n hx hb dX13_keep_32 rfl (lv_at hl 3 rfl) ?_
    refine ma_iast (x := kd) hx hb hK hP hD hS 57 (k := 72) rfl rfl rfl (show vp_in z_4 2430 from (iv_in hz_4 (by decide))) dX13_keep_33 (fun gm_5 H locs egm_5 hP hD hS => ?_)
    have hI_gm_5 := MI_st hI egm_5 hvkd (by decide)
    refine lv_aload_n hx hb dX13_keep_34 rfl (lv_at hl 0 rfl) ?_
    refine mr_get (v := .ref (ad 73)) hx hb htb inX13 hown hK hP 73 (by decide) (htb _ kw_222) rfl dX13_keep_35 ?_
    refine lv_bipush (v := 6) hx hb dX13_keep_38 (by decide) ?_
    refine lv_iload_n hx hb dX13_keep_40 rfl (lv_at hl 1 rfl) ?_
    refine lv_imul hx hb dX13_keep_41 ?_
    refine lv_topi (fun z_6 ez_6 => ?_)
    obtain rfl : z_3 = z_6 := ez_3.trans ez_6.symm
    refine lv_iload_n hx hb dX13_keep_42 rfl (lv_at hl 2 rfl) ?_
    refine lv_iadd hx hb dX13_keep_43 ?_
    refine lv_topi (fun z_7 ez_7 => ?_)
    obtain rfl : z_4 = z_7 := ez_4.trans ez_7.symm
    refine lv_iload hx hb dX13_keep_44 (lv_at hl 4 rfl) ?_
    refine ma_iast (x := vl) hx hb hK hP hD hS 58 (k := 73) rfl rfl rfl (show vp_in z_4 2430 from (iv_in hz_4 (by decide))) dX13_keep_46 (fun gm_8 H locs egm_8 hP hD hS => ?_)
    have hI_gm_8 := MI_st hI_gm_5 egm_8 hvvl (by decide)
    exact hj47 gm_8 hvsl (iv_w h_2 (by decide)) hvkd hvvl (KS_up (KS_up KS_rf egm_5 (by decide)) egm_8 (by decide)) hI_gm_8 _ _ _ hP hD hS (lv_sub hl [0, 1, 2, 3, 4] rfl)
  · have h_9 : iv (-1) (-1) it := iv_ltL (i32_lt c_1) hvit (iv_k (by decide) : iv 0 0 0) (by decide)
    refine lv_aload_n hx hb dX13_keep_4 rfl (lv_at hl 0 rfl) ?_
    refine mr_get (v := .ref (ad 70)) hx hb htb inX13 hown hK hP 70 (by decide) (htb _ kw_219) rfl dX13_keep_5 ?_
    refine lv_iload_n hx hb dX13_keep_8 rfl (lv_at hl 1 rfl) ?_
    refine lv_iload_n hx hb dX13_keep_9 rfl (lv_at hl 3 rfl) ?_
    refine ma_iast (x := kd) hx hb hK hP hD hS 55 (k := 70) rfl rfl rfl (show vp_in sl 405 from (iv_in hvsl (by decide))) dX13_keep_10 (fun gm_10 H locs egm_10 hP hD hS => ?_)
    have hI_gm_10 := MI_st hI egm_10 hvkd (by decide)
    refine lv_aload_n hx hb dX13_keep_11 rfl (lv_at hl 0 rfl) ?_
    refine mr_get (v := .ref (ad 71)) hx hb htb inX13 hown hK hP 71 (by decide) (htb _ kw_220) rfl dX13_keep_12 ?_
    refine lv_iload_n hx hb dX13_keep_15 rfl (lv_at hl 1 rfl) ?_
    refine lv_iload hx hb dX13_keep_16 (lv_at hl 4 rfl) ?_
    refine ma_iast (x := vl) hx hb hK hP hD hS 56 (k := 71) rfl rfl rfl (show vp_in sl 405 from (iv_in hvsl (by decide))) dX13_keep_18 (fun gm_11 H locs egm_11 hP hD hS => ?_)
    have hI_gm_11 := MI_st hI_gm_10 egm_11 hvvl (by decide)
    refine lv_goto (tgt := 47) hx hb dX13_keep_19 (by decide) ?_
    exact hj47 gm_11 hvsl (iv_w h_9 (by decide)) hvkd hvvl (KS_up (KS_up KS_rf egm_10 (by decide)) egm_11 (by decide)) hI_gm_11 _ _ _ hP hD hS (lv_sub hl [0, 1, 2, 3, 4] rfl)

set_option maxHeartbeats 4000000 in
set_option maxRecDepth 100000 in
theorem a_isOneOf2 (l : Launch) (dC : Nat → ClassId) (dI : Nat → Nat → Nat) (h0 : Nat) (ad : Nat → Nat) (cid : Nat → ClassId) (sg : Nat → Int32) (gm : Nat → Nat → Int32) (lg : Nat → Nat → Int64) (x : Int32) (hI : MI sg gm) (hvx : iv 0 79 x) : MMi l dC dI yX13_isInPlace wm_X13_isInPlace ({ frames := 0, cells := 0, slots := 0, locals := 0 }) h0 ad cid [.int x] sg gm lg (fun r v => (iv 0 1 r) ∧ v = (sg, gm, lg)) := by
  intro sz
  refine Met.ofW (cc := cX13_isInPlace) (maxL := 3) (ret := (some .boolean)) (by decide) rfl ?_
  intro p e s m args below meth c s₁ B hml hv
  obtain ⟨rfl, hsz, hP, hK, hD0⟩ := hv
  have hx := B.exec
  have hb := B.bytes
  have hr := B.returns
  have hts := atoms_spec (ws := wm_X13_isInPlace) B.pre
  have htb := fun (w : Cond) (h : w ∈ tb) => hts w (List.mem_cons_of_mem _ h)
  have hown : s.vm.findClass RX13 = some m.cls := findClass_of_methodNamed B.named
  have hlocks := B.notSynchronized
  subst hsz
  have hD := hD0.self (sz := s.heap.size)
  generalize hAe : va_A (mW h0 ad cid sg gm lg) s.heap.size = A at hD ⊢
  have hA : ∀ q : Nat, s.heap.size ≤ q → A q := fun q h => by rw [← hAe]; exact Or.inr h
  have hS : va_S A s.heap s.heap [] := va_S.rf
  have hl := lv_entry ([.ref h0, .int x]) (n := 3) (Nat.le_of_ble_eq_true rfl)
  rw [lg_entry_eq]
  generalize (lg_sl ([.ref h0, .int x]) ++ List.replicate (3 - (lg_sl ([.ref h0, .int x])).length) Slot.unset).toArray = ls at hl ⊢
  have hl : lv_has ls 3 [(0, .ref h0), (1, .int x)] := hl
  have hj97 : ∀ (x2_97 : Int32) (y0_97 : Int32) (_ : iv 0 10 x2_97) (_ : iv 0 79 x) (_ : iv 0 1 y0_97) (H : Heap) (locs : List Loc) (ls : Array Slot), va_P (dC, dI) vwCl (mW h0 ad cid sg gm lg) H → va_D A (mW h0 ad cid sg gm lg) → va_S A s.heap H locs → lv_has ls 3 [(2, .int x2_97), (0, .ref h0), (1, .int x)] → W p l e (headSpec wm_X13_isInPlace ({ frames := 0, cells := 0, slots := 0, locals := 0 })).room s m ([.ref h0, .int x] : List Value).toArray below meth c H locs 0 0 (MQ below (va_Qi (fun r v => (iv 0 1 r) ∧ v = (sg, gm, lg)) (MB dC dI h0 ad cid A) A) ([.ref h0, .int x] : List Value).toArray s 0 0 A) (F0 m 97 ls [.int y0_97]) := by
    intro x2_97 y0_97 hx2_97 hsx1_97 hy0_97 H locs ls hP hD hS hl
    exact W.zret (v := y0_97) hx hb hr (iv_nb hy0_97) (fun t ht hW => ⟨⟨y0_97, (sg, gm, lg), rfl, ⟨hy0_97, rfl⟩, by rw [ht]; exact hP, va_K.moved hW.alike hK, hD⟩, hS.F ht⟩) hS.2.2 dX13_isInPlace_97
  have hj108 : ∀ (x2_108 : Int32) (y0_108 : Int32) (_ : iv 0 10 x2_108) (_ : iv 0 79 x) (_ : iv 0 1 y0_108) (H : Heap) (locs : List Loc) (ls : Array Slot), va_P (dC, dI) vwCl (mW h0 ad cid sg gm lg) H → va_D A (mW h0 ad cid sg gm lg) → va_S A s.heap H locs → lv_has ls 3 [(2, .int x2_108), (0, .ref h0), (1, .int x)] → W p l e (headSpec wm_X13_isInPlace ({ frames := 0, cells := 0, slots := 0, locals := 0 })).room s m ([.ref h0, .int x] : List Value).toArray below meth c H locs 0 0 (MQ below (va_Qi (fun r v => (iv 0 1 r) ∧ v = (sg, gm, lg)) (MB dC dI h0 ad cid A) A) ([.ref h0, .int x] : List Value).toArray s 0 0 A) (F0 m 108 ls [.int y0_108]) := by
    intro x2_108 y0_108 hx2_108 hsx1_108 hy0_108 H locs ls hP hD hS hl
    exact W.zret (v := y0_108) hx hb hr (iv_nb hy0_108) (fun t ht hW => ⟨⟨y0_108, (sg, gm, lg), rfl, ⟨hy0_108, rfl⟩, by rw [ht]; exact hP, va_K.moved hW.alike hK, hD⟩, hS.F ht⟩) hS.2.2 dX13_isInPlace_108
  have hj135 : ∀ (x2_135 : Int32) (y0_135 : Int32) (_ : iv 0 10 x2_135) (_ : iv 0 79 x) (_ : iv 0 1 y0_135) (H : Heap) (locs : List Loc) (ls : Array Slot), va_P (dC, dI) vwCl (mW h0 ad cid sg gm lg) H → va_D A (mW h0 ad cid sg gm lg) → va_S A s.heap H locs → lv_has ls 3 [(2, .int x2_135), (0, .ref h0), (1, .int x)] → W p l e (headSpec wm_X13_isInPlace ({ frames := 0, cells := 0, slots := 0, locals := 0 })).room s m ([.ref h0, .int x] : List Value).toArray below meth c H locs 0 0 (MQ below (va_Qi (fun r v => (iv 0 1 r) ∧ v = (sg, gm, lg)) (MB dC dI h0 ad cid A) A) ([.ref h0, .int x] : List Value).toArray s 0 0 A) (F0 m 135 ls [.int y0_135]) := by
    intro x2_135 y0_135 hx2_135 hsx1_135 hy0_135 H locs ls hP hD hS hl
    exact W.zret (v := y0_135) hx hb hr (iv_nb hy0_135) (fun t ht hW => ⟨⟨y0_135, (sg, gm, lg), rfl, ⟨hy0_135, rfl⟩, by rw [ht]; exact hP, va_K.moved hW.alike hK, hD⟩, hS.F ht⟩) hS.2.2 dX13_isInPlace_135
  have hj130 : ∀ (x2_130 : Int32) (_ : iv 1 6 x2_130) (_ : iv 0 79 x) (H : Heap) (locs : List Loc) (ls : Array Slot), va_P (dC, dI) vwCl (mW h0 ad cid sg gm lg) H → va_D A (mW h0 ad cid sg gm lg) → va_S A s.heap H locs → lv_has ls 3 [(2, .int x2_130), (0, .ref h0), (1, .int x)] → W p l e (headSpec wm_X13_isInPlace ({ frames := 0, cells := 0, slots := 0, locals := 0 })).room s m ([.ref h0, .int x] : List Value).toArray below meth c H locs 0 0 (MQ below (va_Qi (fun r v => (iv 0 1 r) ∧ v = (sg, gm, lg)) (MB dC dI h0 ad cid A) A) ([.ref h0, .int x] : List Value).toArray s 0 0 A) (F0 m 130 ls []) := by
    intro x2_130 hx2_130 hsx1_130 H locs ls hP hD hS hl
    refine lv_iconst (v := 1) hx hb dX13_isInPlace_130 (by decide) ?_
    refine lv_goto (tgt := 135) hx hb dX13_isInPlace_131 (by decide) ?_
    exact hj135 x2_130 1 (iv_w hx2_130 (by decide)) hsx1_130 (iv_w (iv_k (by decide) : iv 1 1 1) (by decide)) _ _ _ hP hD hS (lv_sub hl [0, 1, 2] rfl)
  have hj146 : ∀ (x2_146 : Int32) (y0_146 : Int32) (_ : iv 0 10 x2_146) (_ : iv 0 79 x) (_ : iv 0 1 y0_146) (H : Heap) (locs : List Loc) (ls : Array Slot), va_P (dC, dI) vwCl (mW h0 ad cid sg gm lg) H → va_D A (mW h0 ad cid sg gm lg) → va_S A s.heap H locs → lv_has ls 3 [(2, .int x2_146), (0, .ref h0), (1, .int x)] → W p l e (headSpec wm_X13_isInPlace ({ frames := 0, cells := 0, slots := 0, locals := 0 })).room s m ([.ref h0, .int x] : List Value).toArray below meth c H locs 0 0 (MQ below (va_Qi (fun r v => (iv 0 1 r) ∧ v = (sg, gm, lg)) (MB dC dI h0 ad cid A) A) ([.ref h0, .int x] : List Value).toArray s 0 0 A) (F0 m 146 ls [.int y0_146]) := by
    intro x2_146 y0_146 hx2_146 hsx1_146 hy0_146 H locs ls hP hD hS hl
    exact W.zret (v := y0_146) hx hb hr (iv_nb hy0_146) (fun t ht hW => ⟨⟨y0_146, (sg, gm, lg), rfl, ⟨hy0_146, rfl⟩, by rw [ht]; exact hP, va_K.moved hW.alike hK, hD⟩, hS.F ht⟩) hS.2.2 dX13_isInPlace_146
  have hj136 : ∀ (x2_136 : Int32) (_ : iv 0 10 x2_136) (_ : iv 0 79 x) (H : Heap) (locs : List Loc) (ls : Array Slot), va_P (dC, dI) vwCl (mW h0 ad cid sg gm lg) H → va_D A (mW h0 ad cid sg gm lg) → va_S A s.heap H locs → lv_has ls 3 [(2, .int x2_136), (0, .ref h0), (1, .int x)] → W p l e (headSpec wm_X13_isInPlace ({ frames := 0, cells := 0, slots := 0, locals := 0 })).room s m ([.ref h0, .int x] : List Value).toArray below meth c H locs 0 0 (MQ below (va_Qi (fun r v => (iv 0 1 r) ∧ v = (sg, gm, lg)) (MB dC dI h0 ad cid A) A) ([.ref h0, .int x] : List Value).toArray s 0 0 A) (F0 m 136 ls []) := by
    intro x2_136 hx2_136 hsx1_136 H locs ls hP hD hS hl
    refine lv_iload_n hx hb dX13_isInPlace_136 rfl (lv_at hl 0 rfl) ?_
    refine lv_iconst (v := 3) hx hb dX13_isInPlace_137 (by decide) ?_
    refine lv_icmp_ne (tgt := 145) hx hb dX13_isInPlace_138 (by decide) (fun c_1 => ?_) (fun c_1 => ?_)
    · have d_2 : ¬ (x2_136 : Int32).toInt = 3 := lv_neT c_1 rfl
      refine lv_iconst (v := 0) hx hb dX13_isInPlace_145 (by decide) ?_
      exact hj146 x2_136 0 hx2_136 hsx1_136 (iv_w (iv_k (by decide) : iv 0 0 0) (by decide)) _ _ _ hP hD hS (lv_sub hl [0, 1, 2] rfl)
    · have h_3 : iv 3 3 x2_136 := iv_eq c_1 hx2_136 (iv_k (by decide) : iv 3 3 3) (by decide)
      refine lv_iconst (v := 1) hx hb dX13_isInPlace_141 (by decide) ?_
      refine lv_goto (tgt := 146) hx hb dX13_isInPlace_142 (by decide) ?_
      exact hj146 x2_136 1 (iv_w h_3 (by decide)) hsx1_136 (iv_w (iv_k (by decide) : iv 1 1 1) (by decide)) _ _ _ hP hD hS (lv_sub hl [0, 1, 2] rfl)
  have hj162 : ∀ (x2_162 : Int32) (y0_162 : Int32) (_ : iv 0 10 x2_162) (_ : iv 0 79 x) (_ : iv 0 1 y0_162) (H : Heap) (locs : List Loc) (ls : Array Slot), va_P (dC, dI) vwCl (mW h0 ad cid sg gm lg) H → va_D A (mW h0 ad cid sg gm lg) → va_S A s.heap H locs → lv_has ls 3 [(2, .int x2_162), (0, .ref h0), (1, .int x)] → W p l e (headSpec wm_X13_isInPlace ({ frames := 0, cells := 0, slots := 0, locals := 0 })).room s m ([.ref h0, .int x] : List Value).toArray below meth c H locs 0 0 (MQ below (va_Qi (fun r v => (iv 0 1 r) ∧ v = (sg, gm, lg)) (MB dC dI h0 ad cid A) A) ([.ref h0, .int x] : List Value).toArray s 0 0 A) (F0 m 162 ls [.int y0_162]) := by
    intro x2_162 y0_162 hx2_162 hsx1_162 hy0_162 H locs ls hP hD hS hl
    exact W.zret (v := y0_162) hx hb hr (iv_nb hy0_162) (fun t ht hW => ⟨⟨y0_162, (sg, gm, lg), rfl, ⟨hy0_162, rfl⟩, by rw [ht]; exact hP, va_K.moved hW.alike hK, hD⟩, hS.F ht⟩) hS.2.2 dX13_isInPlace_162
  have hj157 : ∀ (x2_157 : Int32) (_ : iv 4 5 x2_157) (_ : iv 0 79 x) (H : Heap) (locs : List Loc) (ls : Array Slot), va_P (dC, dI) vwCl (mW h0 ad cid sg gm lg) H → va_D A (mW h0 ad cid sg gm lg) → va_S A s.heap H locs → lv_has ls 3 [(2, .int x2_157), (0, .ref h0), (1, .int x)] → W p l e (headSpec wm_X13_isInPlace ({ frames := 0, cells := 0, slots := 0, locals := 0 })).room s m ([.ref h0, .int x] : List Value).toArray below meth c H locs 0 0 (MQ below (va_Qi (fun r v => (iv 0 1 r) ∧ v = (sg, gm, lg)) (MB dC dI h0 ad cid A) A) ([.ref h0, .int x] : List Value).toArray s 0 0 A) (F0 m 157 ls []) := by
    intro x2_157 hx2_157 hsx1_157 H locs ls hP hD hS hl
    refine lv_iconst (v := 1) hx hb dX13_isInPlace_157 (by decide) ?_
    refine lv_goto (tgt := 162) hx hb dX13_isInPlace_158 (by decide) ?_
    exact hj162 x2_157 1 (iv_w hx2_157 (by decide)) hsx1_157 (iv_w (iv_k (by decide) : iv 1 1 1) (by decide)) _ _ _ hP hD hS (lv_sub hl [0, 1, 2] rfl)
  have hj184 : ∀ (x2_184 : Int32) (y0_184 : Int32) (_ : iv 0 10 x2_184) (_ : iv 0 79 x) (_ : iv 0 1 y0_184) (H : Heap) (locs : List Loc) (ls : Array Slot), va_P (dC, dI) vwCl (mW h0 ad cid sg gm lg) H → va_D A (mW h0 ad cid sg gm lg) → va_S A s.heap H locs → lv_has ls 3 [(2, .int x2_184), (0, .ref h0), (1, .int x)] → W p l e (headSpec wm_X13_isInPlace ({ frames := 0, cells := 0, slots := 0, locals := 0 })).room s m ([.ref h0, .int x] : List Value).toArray below meth c H locs 0 0 (MQ below (va_Qi (fun r v => (iv 0 1 r) ∧ v = (sg, gm, lg)) (MB dC dI h0 ad cid A) A) ([.ref h0, .int x] : List Value).toArray s 0 0 A) (F0 m 184 ls [.int y0_184]) := by
    intro x2_184 y0_184 hx2_184 hsx1_184 hy0_184 H locs ls hP hD hS hl
    exact W.zret (v := y0_184) hx hb hr (iv_nb hy0_184) (fun t ht hW => ⟨⟨y0_184, (sg, gm, lg), rfl, ⟨hy0_184, rfl⟩, by rw [ht]; exact hP, va_K.moved hW.alike hK, hD⟩, hS.F ht⟩) hS.2.2 dX13_isInPlace_184
  have hj179 : ∀ (x2_179 : Int32) (_ : iv 4 6 x2_179) (_ : iv 0 79 x) (H : Heap) (locs : List Loc) (ls : Array Slot), va_P (dC, dI) vwCl (mW h0 ad cid sg gm lg) H → va_D A (mW h0 ad cid sg gm lg) → va_S A s.heap H locs → lv_has ls 3 [(2, .int x2_179), (0, .ref h0), (1, .int x)] → W p l e (headSpec wm_X13_isInPlace ({ frames := 0, cells := 0, slots := 0, locals := 0 })).room s m ([.ref h0, .int x] : List Value).toArray below meth c H locs 0 0 (MQ below (va_Qi (fun r v => (iv 0 1 r) ∧ v = (sg, gm, lg)) (MB dC dI h0 ad cid A) A) ([.ref h0, .int x] : List Value).toArray s 0 0 A) (F0 m 179 ls []) := by
    intro x2_179 hx2_179 hsx1_179 H locs ls hP hD hS hl
    refine lv_iconst (v := 1) hx hb dX13_isInPlace_179 (by decide) ?_
    refine lv_goto (tgt := 184) hx hb dX13_isInPlace_180 (by decide) ?_
    exact hj184 x2_179 1 (iv_w hx2_179 (by decide)) hsx1_179 (iv_w (iv_k (by decide) : iv 1 1 1) (by decide)) _ _ _ hP hD hS (lv_sub hl [0, 1, 2] rfl)
  have hj163 : ∀ (x2_163 : Int32) (_ : iv 0 10 x2_163) (_ : iv 0 79 x) (H : Heap) (locs : List Loc) (ls : Array Slot), va_P (dC, dI) vwCl (mW h0 ad cid sg gm lg) H → va_D A (mW h0 ad cid sg gm lg) → va_S A s.heap H locs → lv_has ls 3 [(2, .int x2_163), (0, .ref h0), (1, .int x)] → W p l e (headSpec wm_X13_isInPlace ({ frames := 0, cells := 0, slots := 0, locals := 0 })).room s m ([.ref h0, .int x] : List Value).toArray below meth c H locs 0 0 (MQ below (va_Qi (fun r v => (iv 0 1 r) ∧ v = (sg, gm, lg)) (MB dC dI h0 ad cid A) A) ([.ref h0, .int x] : List Value).toArray s 0 0 A) (F0 m 163 ls []) := by
    intro x2_163 hx2_163 hsx1_163 H locs ls hP hD hS hl
    refine lv_iload_n hx hb dX13_isInPlace_163 rfl (lv_at hl 0 rfl) ?_
    refine lv_iconst (v := 4) hx hb dX13_isInPlace_164 (by decide) ?_
    refine lv_icmp_eq (tgt := 179) hx hb dX13_isInPlace_165 (by decide) (fun c_4 => ?_) (fun c_4 => ?_)
    · have h_5 : iv 4 4 x2_163 := iv_eq c_4 hx2_163 (iv_k (by decide) : iv 4 4 4) (by decide)
      exact hj179 x2_163 (iv_w h_5 (by decide)) hsx1_163 _ _ _ hP hD hS (lv_sub hl [0, 1, 2] rfl)
    · have d_6 : ¬ (x2_163 : Int32).toInt = 4 := lv_neT c_4 rfl
      refine lv_iload_n hx hb dX13_isInPlace_168 rfl (lv_at hl 0 rfl) ?_
      refine lv_iconst (v := 5) hx hb dX13_isInPlace_169 (by decide) ?_
      refine lv_icmp_eq (tgt := 179) hx hb dX13_isInPlace_170 (by decide) (fun c_7 => ?_) (fun c_7 => ?_)
      · have h_8 : iv 5 5 x2_163 := iv_eq c_7 hx2_163 (iv_k (by decide) : iv 5 5 5) (by decide)
        exact hj179 x2_163 (iv_w h_8 (by decide)) hsx1_163 _ _ _ hP hD hS (lv_sub hl [0, 1, 2] rfl)
      · have d_9 : ¬ (x2_163 : Int32).toInt = 5 := lv_neT c_7 rfl
        refine lv_iload_n hx hb dX13_isInPlace_173 rfl (lv_at hl 0 rfl) ?_
        refine lv_bipush (v := 6) hx hb dX13_isInPlace_174 (by decide) ?_
        refine lv_icmp_ne (tgt := 183) hx hb dX13_isInPlace_176 (by decide) (fun c_10 => ?_) (fun c_10 => ?_)
        · have d_11 : ¬ (x2_163 : Int32).toInt = 6 := lv_neT c_10 rfl
          refine lv_iconst (v := 0) hx hb dX13_isInPlace_183 (by decide) ?_
          exact hj184 x2_163 0 hx2_163 hsx1_163 (iv_w (iv_k (by decide) : iv 0 0 0) (by decide)) _ _ _ hP hD hS (lv_sub hl [0, 1, 2] rfl)
        · have h_12 : iv 6 6 x2_163 := iv_eq c_10 hx2_163 (iv_k (by decide) : iv 6 6 6) (by decide)
          exact hj179 x2_163 (iv_w h_12 (by decide)) hsx1_163 _ _ _ hP hD hS (lv_sub hl [0, 1, 2] rfl)
  refine lv_aload_n hx hb dX13_isInPlace_0 rfl (lv_at hl 0 rfl) ?_
  refine mr_get (v := .ref (ad 28)) hx hb htb inX13 hown hK hP 28 (by decide) (htb _ kw_184) rfl dX13_isInPlace_1 ?_
  refine lv_iload_n hx hb dX13_isInPlace_4 rfl (lv_at hl 1 rfl) ?_
  refine mr_iald hx hb hK hP 21 (k := 28) rfl rfl rfl (show vp_in x 80 from (iv_in hvx (by decide))) dX13_isInPlace_5 ?_
  refine lv_topi (fun z_13 ez_13 => ?_)
  have hz_13 : iv (-1) 79 z_13 := iv_of ez_13 (MI_a hI 28 hvx (by decide))
  refine lv_iconst (v := (-1)) hx hb dX13_isInPlace_6 (by decide) ?_
  refine lv_icmp_ne (tgt := 14) hx hb dX13_isInPlace_7 (by decide) (fun c_14 => ?_) (fun c_14 => ?_)
  · have h_15 : iv 0 79 z_13 := iv_neL c_14 hz_13 (by decide)
    refine lv_aload_n hx hb dX13_isInPlace_14 rfl (lv_at hl 0 rfl) ?_
    refine mr_get (v := .ref (ad 26)) hx hb htb inX13 hown hK hP 26 (by decide) (htb _ kw_182) rfl dX13_isInPlace_15 ?_
    refine lv_aload_n hx hb dX13_isInPlace_18 rfl (lv_at hl 0 rfl) ?_
    refine mr_get (v := .ref (ad 28)) hx hb htb inX13 hown hK hP 28 (by decide) (htb _ kw_184) rfl dX13_isInPlace_19 ?_
    refine lv_iload_n hx hb dX13_isInPlace_22 rfl (lv_at hl 1 rfl) ?_
    refine mr_iald hx hb hK hP 21 (k := 28) rfl rfl rfl (show vp_in x 80 from (iv_in hvx (by decide))) dX13_isInPlace_23 ?_
    refine lv_topi (fun z_16 ez_16 => ?_)
    obtain rfl : z_13 = z_16 := ez_13.trans ez_16.symm
    refine mr_iald hx hb hK hP 19 (k := 26) rfl rfl rfl (show vp_in z_13 80 from (iv_in h_15 (by decide))) dX13_isInPlace_24 ?_
    refine lv_topi (fun z_17 ez_17 => ?_)
    have hz_17 : iv 0 10 z_17 := iv_of ez_17 (MI_a hI 26 h_15 (by decide))
    refine lv_istore_n (lv' := [(2, .int z_17), (0, .ref h0), (1, .int x)]) hx hb dX13_isInPlace_25 rfl hl (by decide) rfl (fun ls hl => ?_)
    refine lv_aload_n hx hb dX13_isInPlace_26 rfl (lv_at hl 1 rfl) ?_
    refine mr_get (v := .ref (ad 26)) hx hb htb inX13 hown hK hP 26 (by decide) (htb _ kw_182) rfl dX13_isInPlace_27 ?_
    refine lv_iload_n hx hb dX13_isInPlace_30 rfl (lv_at hl 2 rfl) ?_
    refine mr_iald hx hb hK hP 19 (k := 26) rfl rfl rfl (show vp_in x 80 from (iv_in hvx (by decide))) dX13_isInPlace_31 ?_
    refine lv_topi (fun z_18 ez_18 => ?_)
    have hz_18 : iv 0 10 z_18 := iv_of ez_18 (MI_a hI 26 hvx (by decide))
    by_cases c_19 : (z_18 : Int32).toInt = 1
    · refine lv_tableIn (tgt := 88) hx hb dX13_isInPlace_32 (by rw [c_19]; decide) (by rw [c_19]; decide) (by rw [c_19]; rfl) (by decide) ?_
      have h_20 : iv 1 1 z_18 := iv_at c_19
      refine lv_iload_n hx hb dX13_isInPlace_88 rfl (lv_at hl 0 rfl) ?_
      refine lv_if_ne (tgt := 96) hx hb dX13_isInPlace_89 (by decide) (fun c_21 => ?_) (fun c_21 => ?_)
      · have h_22 : iv 1 10 z_17 := iv_neL c_21 hz_17 (by decide)
        refine lv_iconst (v := 0) hx hb dX13_isInPlace_96 (by decide) ?_
        exact hj97 z_17 0 (iv_w h_22 (by decide)) hvx (iv_w (iv_k (by decide) : iv 0 0 0) (by decide)) _ _ _ hP hD hS (lv_sub hl [0, 1, 2] rfl)
      · have h_23 : iv 0 0 z_17 := iv_eq c_21 hz_17 (iv_k (by decide) : iv 0 0 0) (by decide)
        refine lv_iconst (v := 1) hx hb dX13_isInPlace_92 (by decide) ?_
        refine lv_goto (tgt := 97) hx hb dX13_isInPlace_93 (by decide) ?_
        exact hj97 z_17 1 (iv_w h_23 (by decide)) hvx (iv_w (iv_k (by decide) : iv 1 1 1) (by decide)) _ _ _ hP hD hS (lv_sub hl [0, 1, 2] rfl)
    by_cases c_24 : (z_18 : Int32).toInt = 2
    · refine lv_tableIn (tgt := 98) hx hb dX13_isInPlace_32 (by rw [c_24]; decide) (by rw [c_24]; decide) (by rw [c_24]; rfl) (by decide) ?_
      have h_25 : iv 2 2 z_18 := iv_at c_24
      refine lv_iload_n hx hb dX13_isInPlace_98 rfl (lv_at hl 0 rfl) ?_
      refine lv_iconst (v := 1) hx hb dX13_isInPlace_99 (by decide) ?_
      refine lv_icmp_ne (tgt := 107) hx hb dX13_isInPlace_100 (by decide) (fun c_26 => ?_) (fun c_26 => ?_)
      · have d_27 : ¬ (z_17 : Int32).toInt = 1 := lv_neT c_26 rfl
        refine lv_iconst (v := 0) hx hb dX13_isInPlace_107 (by decide) ?_
        exact hj108 z_17 0 hz_17 hvx (iv_w (iv_k (by decide) : iv 0 0 0) (by decide)) _ _ _ hP hD hS (lv_sub hl [0, 1, 2] rfl)
      · have h_28 : iv 1 1 z_17 := iv_eq c_26 hz_17 (iv_k (by decide) : iv 1 1 1) (by decide)
        refine lv_iconst (v := 1) hx hb dX13_isInPlace_103 (by decide) ?_
        refine lv_goto (tgt := 108) hx hb dX13_isInPlace_104 (by decide) ?_
        exact hj108 z_17 1 (iv_w h_28 (by decide)) hvx (iv_w (iv_k (by decide) : iv 1 1 1) (by decide)) _ _ _ hP hD hS (lv_sub hl [0, 1, 2] rfl)
    by_cases c_29 : (z_18 : Int32).toInt = 3
    · refine lv_tableIn (tgt := 109) hx hb dX13_isInPlace_32 (by rw [c_29]; decide) (by rw [c_29]; decide) (by rw [c_29]; rfl) (by decide) ?_
      have h_30 : iv 3 3 z_18 := iv_at c_29
      refine lv_iload_n hx hb dX13_isInPlace_109 rfl (lv_at hl 0 rfl) ?_
      refine lv_iconst (v := 1) hx hb dX13_isInPlace_110 (by decide) ?_
      refine lv_icmp_eq (tgt := 130) hx hb dX13_isInPlace_111 (by decide) (fun c_31 => ?_) (fun c_31 => ?_)
      · have h_32 : iv 1 1 z_17 := iv_eq c_31 hz_17 (iv_k (by decide) : iv 1 1 1) (by decide)
        exact hj130 z_17 (iv_w h_32 (by decide)) hvx _ _ _ hP hD hS (lv_sub hl [0, 1, 2] rfl)
      · have d_33 : ¬ (z_17 : Int32).toInt = 1 := lv_neT c_31 rfl
        refine lv_iload_n hx hb dX13_isInPlace_114 rfl (lv_at hl 0 rfl) ?_
        refine lv_iconst (v := 4) hx hb dX13_isInPlace_115 (by decide) ?_
        refine lv_icmp_eq (tgt := 130) hx hb dX13_isInPlace_116 (by decide) (fun c_34 => ?_) (fun c_34 => ?_)
        · have h_35 : iv 4 4 z_17 := iv_eq c_34 hz_17 (iv_k (by decide) : iv 4 4 4) (by decide)
          exact hj130 z_17 (iv_w h_35 (by decide)) hvx _ _ _ hP hD hS (lv_sub hl [0, 1, 2] rfl)
        · have d_36 : ¬ (z_17 : Int32).toInt = 4 := lv_neT c_34 rfl
          refine lv_iload_n hx hb dX13_isInPlace_119 rfl (lv_at hl 0 rfl) ?_
          refine lv_iconst (v := 5) hx hb dX13_isInPlace_120 (by decide) ?_
          refine lv_icmp_eq (tgt := 130) hx hb dX13_isInPlace_121 (by decide) (fun c_37 => ?_) (fun c_37 => ?_)
          · have h_38 : iv 5 5 z_17 := iv_eq c_37 hz_17 (iv_k (by decide) : iv 5 5 5) (by decide)
            exact hj130 z_17 (iv_w h_38 (by decide)) hvx _ _ _ hP hD hS (lv_sub hl [0, 1, 2] rfl)
          · have d_39 : ¬ (z_17 : Int32).toInt = 5 := lv_neT c_37 rfl
            refine lv_iload_n hx hb dX13_isInPlace_124 rfl (lv_at hl 0 rfl) ?_
            refine lv_bipush (v := 6) hx hb dX13_isInPlace_125 (by decide) ?_
            refine lv_icmp_ne (tgt := 134) hx hb dX13_isInPlace_127 (by decide) (fun c_40 => ?_) (fun c_40 => ?_)
            · have d_41 : ¬ (z_17 : Int32).toInt = 6 := lv_neT c_40 rfl
              refine lv_iconst (v := 0) hx hb dX13_isInPlace_134 (by decide) ?_
              exact hj135 z_17 0 hz_17 hvx (iv_w (iv_k (by decide) : iv 0 0 0) (by decide)) _ _ _ hP hD hS (lv_sub hl [0, 1, 2] rfl)
            · have h_42 : iv 6 6 z_17 := iv_eq c_40 hz_17 (iv_k (by decide) : iv 6 6 6) (by decide)
              exact hj130 z_17 (iv_w h_42 (by decide)) hvx _ _ _ hP hD hS (lv_sub hl [0, 1, 2] rfl)
    by_cases c_43 : (z_18 : Int32).toInt = 4
    · refine lv_tableIn (tgt := 136) hx hb dX13_isInPlace_32 (by rw [c_43]; decide) (by rw [c_43]; decide) (by rw [c_43]; rfl) (by decide) ?_
      have h_44 : iv 4 4 z_18 := iv_at c_43
      exact hj136 z_17 hz_17 hvx _ _ _ hP hD hS (lv_sub hl [0, 1, 2] rfl)
    by_cases c_45 : (z_18 : Int32).toInt = 5
    · refine lv_tableIn (tgt := 136) hx hb dX13_isInPlace_32 (by rw [c_45]; decide) (by rw [c_45]; decide) (by rw [c_45]; rfl) (by decide) ?_
      have h_46 : iv 5 5 z_18 := iv_at c_45
      exact hj136 z_17 hz_17 hvx _ _ _ hP hD hS (lv_sub hl [0, 1, 2] rfl)
    by_cases c_47 : (z_18 : Int32).toInt = 6
    · refine lv_tableIn (tgt := 147) hx hb dX13_isInPlace_32 (by rw [c_47]; decide) (by rw [c_47]; decide) (by rw [c_47]; rfl) (by decide) ?_
      have h_48 : iv 6 6 z_18 := iv_at c_47
      refine lv_iload_n hx hb dX13_isInPlace_147 rfl (lv_at hl 0 rfl) ?_
      refine lv_iconst (v := 4) hx hb dX13_isInPlace_148 (by decide) ?_
      refine lv_icmp_eq (tgt := 157) hx hb dX13_isInPlace_149 (by decide) (fun c_49 => ?_) (fun c_49 => ?_)
      · have h_50 : iv 4 4 z_17 := iv_eq c_49 hz_17 (iv_k (by decide) : iv 4 4 4) (by decide)
        exact hj157 z_17 (iv_w h_50 (by decide)) hvx _ _ _ hP hD hS (lv_sub hl [0, 1, 2] rfl)
      · have d_51 : ¬ (z_17 : Int32).toInt = 4 := lv_neT c_49 rfl
        refine lv_iload_n hx hb dX13_isInPlace_152 rfl (lv_at hl 0 rfl) ?_
        refine lv_iconst (v := 5) hx hb dX13_isInPlace_153 (by decide) ?_
        refine lv_icmp_ne (tgt := 161) hx hb dX13_isInPlace_154 (by decide) (fun c_52 => ?_) (fun c_52 => ?_)
        · have d_53 : ¬ (z_17 : Int32).toInt = 5 := lv_neT c_52 rfl
          refine lv_iconst (v := 0) hx hb dX13_isInPlace_161 (by decide) ?_
          exact hj162 z_17 0 hz_17 hvx (iv_w (iv_k (by decide) : iv 0 0 0) (by decide)) _ _ _ hP hD hS (lv_sub hl [0, 1, 2] rfl)
        · have h_54 : iv 5 5 z_17 := iv_eq c_52 hz_17 (iv_k (by decide) : iv 5 5 5) (by decide)
          exact hj157 z_17 (iv_w h_54 (by decide)) hvx _ _ _ hP hD hS (lv_sub hl [0, 1, 2] rfl)
    by_cases c_55 : (z_18 : Int32).toInt = 7
    · refine lv_tableIn (tgt := 163) hx hb dX13_isInPlace_32 (by rw [c_55]; decide) (by rw [c_55]; decide) (by rw [c_55]; rfl) (by decide) ?_
      have h_56 : iv 7 7 z_18 := iv_at c_55
      exact hj163 z_17 hz_17 hvx _ _ _ hP hD hS (lv_sub hl [0, 1, 2] rfl)
    by_cases c_57 : (z_18 : Int32).toInt = 8
    · refine lv_tableIn (tgt := 163) hx hb dX13_isInPlace_32 (by rw [c_57]; decide) (by rw [c_57]; decide) (by rw [c_57]; rfl) (by decide) ?_
      have h_58 : iv 8 8 z_18 := iv_at c_57
      exact hj163 z_17 hz_17 hvx _ _ _ hP hD hS (lv_sub hl [0, 1, 2] rfl)
    by_cases c_59 : (z_18 : Int32).toInt = 9
    · refine lv_tableIn (tgt := 163) hx hb dX13_isInPlace_32 (by rw [c_59]; decide) (by rw [c_59]; decide) (by rw [c_59]; rfl) (by decide) ?_
      have h_60 : iv 9 9 z_18 := iv_at c_59
      exact hj163 z_17 hz_17 hvx _ _ _ hP hD hS (lv_sub hl [0, 1, 2] rfl)
    by_cases c_61 : (z_18 : Int32).toInt = 10
    · refine lv_tableIn (tgt := 136) hx hb dX13_isInPlace_32 (by rw [c_61]; decide) (by rw [c_61]; decide) (by rw [c_61]; rfl) (by decide) ?_
      have h_62 : iv 10 10 z_18 := iv_at c_61
      exact hj136 z_17 hz_17 hvx _ _ _ hP hD hS (lv_sub hl [0, 1, 2] rfl)
    refine lv_tableOut (tgt := 185) hx hb dX13_isInPlace_32 (by have q1 := (hz_18).1; have q2 := (hz_18).2; omega) (by decide) ?_
    have h_63 : iv 0 0 z_18 := ⟨by have q1 := (hz_18).1; have q2 := (hz_18).2; omega, by have q1 := (hz_18).1; have q2 := (hz_18).2; omega⟩
    refine lv_iconst (v := 0) hx hb dX13_isInPlace_185 (by decide) ?_
    exact W.zret (v := 0) hx hb hr (iv_nb (iv_w (iv_k (by decide) : iv 0 0 0) (by decide))) (fun t ht hW => ⟨⟨0, (sg, gm, lg), rfl, ⟨(iv_w (iv_k (by decide) : iv 0 0 0) (by decide)), rfl⟩, by rw [ht]; exact hP, va_K.moved hW.alike hK, hD⟩, hS.F ht⟩) hS.2.2 dX13_isInPlace_186
  · have h_64 : iv (-1) (-1) z_13 := iv_eq c_14 hz_13 (iv_k (by decide) : iv (-1) (-1) (-1)) (by decide)
    refine lv_iconst (v := 0) hx hb dX13_isInPlace_10 (by decide) ?_
    refine lv_goto (tgt := 25) hx hb dX13_isInPlace_11 (by decide) ?_
    refine lv_istore_n (lv' := [(2, .int 0), (0, .ref h0), (1, .int x)]) hx hb dX13_isInPlace_25 rfl hl (by decide) rfl (fun ls hl => ?_)
    refine lv_aload_n hx hb dX13_isInPlace_26 rfl (lv_at hl 1 rfl) ?_
    refine mr_get (v := .ref (ad 26)) hx hb htb inX13 hown hK hP 26 (by decide) (htb _ kw_182) rfl dX13_isInPlace_27 ?_
    refine lv_iload_n hx hb dX13_isInPlace_30 rfl (lv_at hl 2 rfl) ?_
    refine mr_iald hx hb hK hP 19 (k := 26) rfl rfl rfl (show vp_in x 80 from (iv_in hvx (by decide))) dX13_isInPlace_31 ?_
    refine lv_topi (fun z_65 ez_65 => ?_)
    have hz_65 : iv 0 10 z_65 := iv_of ez_65 (MI_a hI 26 hvx (by decide))
    by_cases c_66 : (z_65 : Int32).toInt = 1
    · refine lv_tableIn (tgt := 88) hx hb dX13_isInPlace_32 (by rw [c_66]; decide) (by rw [c_66]; decide) (by rw [c_66]; rfl) (by decide) ?_
      have h_67 : iv 1 1 z_65 := iv_at c_66
      refine lv_iload_n hx hb dX13_isInPlace_88 rfl (lv_at hl 0 rfl) ?_
      refine lv_if_ne (tgt := 96) hx hb dX13_isInPlace_89 (by decide) (fun c_68 => absurd (by decide) c_68) (fun _ => ?_)
      refine lv_iconst (v := 1) hx hb dX13_isInPlace_92 (by decide) ?_
      refine lv_goto (tgt := 97) hx hb dX13_isInPlace_93 (by decide) ?_
      exact hj97 0 1 (iv_w (iv_k (by decide) : iv 0 0 0) (by decide)) hvx (iv_w (iv_k (by decide) : iv 1 1 1) (by decide)) _ _ _ hP hD hS (lv_sub hl [0, 1, 2] rfl)
    by_cases c_69 : (z_65 : Int32).toInt = 2
    · refine lv_tableIn (tgt := 98) hx hb dX13_isInPlace_32 (by rw [c_69]; decide) (by rw [c_69]; decide) (by rw [c_69]; rfl) (by decide) ?_
      have h_70 : iv 2 2 z_65 := iv_at c_69
      refine lv_iload_n hx hb dX13_isInPlace_98 rfl (lv_at hl 0 rfl) ?_
      refine lv_iconst (v := 1) hx hb dX13_isInPlace_99 (by decide) ?_
      refine lv_icmp_ne (tgt := 107) hx hb dX13_isInPlace_100 (by decide) (fun _ => ?_) (fun c_71 => absurd c_71 (by decide))
      refine lv_iconst (v := 0) hx hb dX13_isInPlace_107 (by decide) ?_
      exact hj108 0 0 (iv_w (iv_k (by decide) : iv 0 0 0) (by decide)) hvx (iv_w (iv_k (by decide) : iv 0 0 0) (by decide)) _ _ _ hP hD hS (lv_sub hl [0, 1, 2] rfl)
    by_cases c_72 : (z_65 : Int32).toInt = 3
    · refine lv_tableIn (tgt := 109) hx hb dX13_isInPlace_32 (by rw [c_72]; decide) (by rw [c_72]; decide) (by rw [c_72]; rfl) (by decide) ?_
      have h_73 : iv 3 3 z_65 := iv_at c_72
      refine lv_iload_n hx hb dX13_isInPlace_109 rfl (lv_at hl 0 rfl) ?_
      refine lv_iconst (v := 1) hx hb dX13_isInPlace_110 (by decide) ?_
      refine lv_icmp_eq (tgt := 130) hx hb dX13_isInPlace_111 (by decide) (fun c_74 => absurd c_74 (by decide)) (fun _ => ?_)
      refine lv_iload_n hx hb dX13_isInPlace_114 rfl (lv_at hl 0 rfl) ?_
      refine lv_iconst (v := 4) hx hb dX13_isInPlace_115 (by decide) ?_
      refine lv_icmp_eq (tgt := 130) hx hb dX13_isInPlace_116 (by decide) (fun c_75 => absurd c_75 (by decide)) (fun _ => ?_)
      refine lv_iload_n hx hb dX13_isInPlace_119 rfl (lv_at hl 0 rfl) ?_
      refine lv_iconst (v := 5) hx hb dX13_isInPlace_120 (by decide) ?_
      refine lv_icmp_eq (tgt := 130) hx hb dX13_isInPlace_121 (by decide) (fun c_76 => absurd c_76 (by decide)) (fun _ => ?_)
      refine lv_iload_n hx hb dX13_isInPlace_124 rfl (lv_at hl 0 rfl) ?_
      refine lv_bipush (v := 6) hx hb dX13_isInPlace_125 (by decide) ?_
      refine lv_icmp_ne (tgt := 134) hx hb dX13_isInPlace_127 (by decide) (fun _ => ?_) (fun c_77 => absurd c_77 (by decide))
      refine lv_iconst (v := 0) hx hb dX13_isInPlace_134 (by decide) ?_
      exact hj135 0 0 (iv_w (iv_k (by decide) : iv 0 0 0) (by decide)) hvx (iv_w (iv_k (by decide) : iv 0 0 0) (by decide)) _ _ _ hP hD hS (lv_sub hl [0, 1, 2] rfl)
    by_cases c_78 : (z_65 : Int32).toInt = 4
    · refine lv_tableIn (tgt := 136) hx hb dX13_isInPlace_32 (by rw [c_78]; decide) (by rw [c_78]; decide) (by rw [c_78]; rfl) (by decide) ?_
      have h_79 : iv 4 4 z_65 := iv_at c_78
      exact hj136 0 (iv_w (iv_k (by decide) : iv 0 0 0) (by decide)) hvx _ _ _ hP hD hS (lv_sub hl [0, 1, 2] rfl)
    by_cases c_80 : (z_65 : Int32).toInt = 5
    · refine lv_tableIn (tgt := 136) hx hb dX13_isInPlace_32 (by rw [c_80]; decide) (by rw [c_80]; decide) (by rw [c_80]; rfl) (by decide) ?_
      have h_81 : iv 5 5 z_65 := iv_at c_80
      exact hj136 0 (iv_w (iv_k (by decide) : iv 0 0 0) (by decide)) hvx _ _ _ hP hD hS (lv_sub hl [0, 1, 2] rfl)
    by_cases c_82 : (z_65 : Int32).toInt = 6
    · refine lv_tableIn (tgt := 147) hx hb dX13_isInPlace_32 (by rw [c_82]; decide) (by rw [c_82]; decide) (by rw [c_82]; rfl) (by decide) ?_
      have h_83 : iv 6 6 z_65 := iv_at c_82
      refine lv_iload_n hx hb dX13_isInPlace_147 rfl (lv_at hl 0 rfl) ?_
      refine lv_iconst (v := 4) hx hb dX13_isInPlace_148 (by decide) ?_
      refine lv_icmp_eq (tgt := 157) hx hb dX13_isInPlace_149 (by decide) (fun c_84 => absurd c_84 (by decide)) (fun _ => ?_)
      refine lv_iload_n hx hb dX13_isInPlace_152 rfl (lv_at hl 0 rfl) ?_
      refine lv_iconst (v := 5) hx hb dX13_isInPlace_153 (by decide) ?_
      refine lv_icmp_ne (tgt := 161) hx hb dX13_isInPlace_154 (by decide) (fun _ => ?_) (fun c_85 => absurd c_85 (by decide))
      refine lv_iconst (v := 0) hx hb dX13_isInPlace_161 (by decide) ?_
      exact hj162 0 0 (iv_w (iv_k (by decide) : iv 0 0 0) (by decide)) hvx (iv_w (iv_k (by decide) : iv 0 0 0) (by decide)) _ _ _ hP hD hS (lv_sub hl [0, 1, 2] rfl)
    by_cases c_86 : (z_65 : Int32).toInt = 7
    · refine lv_tableIn (tgt := 163) hx hb dX13_isInPlace_32 (by rw [c_86]; decide) (by rw [c_86]; decide) (by rw [c_86]; rfl) (by decide) ?_
      have h_87 : iv 7 7 z_65 := iv_at c_86
      exact hj163 0 (iv_w (iv_k (by decide) : iv 0 0 0) (by decide)) hvx _ _ _ hP hD hS (lv_sub hl [0, 1, 2] rfl)
    by_cases c_88 : (z_65 : Int32).toInt = 8
    · refine lv_tableIn (tgt := 163) hx hb dX13_isInPlace_32 (by rw [c_88]; decide) (by rw [c_88]; decide) (by rw [c_88]; rfl) (by decide) ?_
      have h_89 : iv 8 8 z_65 := iv_at c_88
      exact hj163 0 (iv_w (iv_k (by decide) : iv 0 0 0) (by decide)) hvx _ _ _ hP hD hS (lv_sub hl [0, 1, 2] rfl)
    by_cases c_90 : (z_65 : Int32).toInt = 9
    · refine lv_tableIn (tgt := 163) hx hb dX13_isInPlace_32 (by rw [c_90]; decide) (by rw [c_90]; decide) (by rw [c_90]; rfl) (by decide) ?_
      have h_91 : iv 9 9 z_65 := iv_at c_90
      exact hj163 0 (iv_w (iv_k (by decide) : iv 0 0 0) (by decide)) hvx _ _ _ hP hD hS (lv_sub hl [0, 1, 2] rfl)
    by_cases c_92 : (z_65 : Int32).toInt = 10
    · refine lv_tableIn (tgt := 136) hx hb dX13_isInPlace_32 (by rw [c_92]; decide) (by rw [c_92]; decide) (by rw [c_92]; rfl) (by decide) ?_
      have h_93 : iv 10 10 z_65 := iv_at c_92
      exact hj136 0 (iv_w (iv_k (by decide) : iv 0 0 0) (by decide)) hvx _ _ _ hP hD hS (lv_sub hl [0, 1, 2] rfl)
    refine lv_tableOut (tgt := 185) hx hb dX13_isInPlace_32 (by have q1 := (hz_65).1; have q2 := (hz_65).2; omega) (by decide) ?_
    have h_94 : iv 0 0 z_65 := ⟨by have q1 := (hz_65).1; have q2 := (hz_65).2; omega, by have q1 := (hz_65).1; have q2 := (hz_65).2; omega⟩
    refine lv_iconst (v := 0) hx hb dX13_isInPlace_185 (by decide) ?_
    exact W.zret (v := 0) hx hb hr (iv_nb (iv_w (iv_k (by decide) : iv 0 0 0) (by decide))) (fun t ht hW => ⟨⟨0, (sg, gm, lg), rfl, ⟨(iv_w (iv_k (by decide) : iv 0 0 0) (by decide)), rfl⟩, by rw [ht]; exact hP, va_K.moved hW.alike hK, hD⟩, hS.F ht⟩) hS.2.2 dX13_isInPlace_186
