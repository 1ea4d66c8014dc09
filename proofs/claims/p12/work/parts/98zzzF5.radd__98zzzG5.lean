section
set_option maxHeartbeats 4000000 in
set_option maxRecDepth 100000 in
theorem a_constructor9 (l : Launch) (dC : Nat → ClassId) (dI : Nat → Nat → Nat) (h0 : Nat) (ad : Nat → Nat) (cid : Nat → ClassId) (sg : Nat → Int32) (gm : Nat → Nat → Int32) (lg : Nat → Nat → Int64) (a : Int32) (b : Int32) (f : Int32) (g : Int32) (k : Int32) (hI : MI sg gm) : MMi l dC dI yX13_constructor wm_X13_constructor ({ frames := 2, cells := 0, slots := 0, locals := 43 }) h0 ad cid [.int a, .int b, .int f, .int g, .int k] sg gm lg (fun r v => ∃ (sg2 : Nat → Int32) (gm2 : Nat → Nat → Int32) (lg2 : Nat → Nat → Int64), v = (sg2, gm2, lg2) ∧ MI sg2 gm2 ∧ KS [5] sg sg2 ∧ KS [7, 8, 9] gm gm2 ∧ KS [] lg lg2 ∧ (iv 0 1 r) ∧ (RAC (0 ≤ a.toInt ∧ a.toInt ≤ 7 ∧ 0 ≤ b.toInt ∧ b.toInt ≤ 3 ∧ (1 ≤ b.toInt → (0 ≤ f.toInt ∧ f.toInt ≤ 4 ∨ 8 ≤ f.toInt ∧ f.toInt ≤ 15)) ∧ (2 ≤ b.toInt → (0 ≤ g.toInt ∧ g.toInt ≤ 4 ∨ 8 ≤ g.toInt ∧ g.toInt ≤ 15)) ∧ (3 ≤ b.toInt → (0 ≤ k.toInt ∧ k.toInt ≤ 4 ∨ 8 ≤ k.toInt ∧ k.toInt ≤ 15))) r a.toNatClampNeg gm gm2 b f g k)) := by
  intro sz
  refine Met.ofW (cc := cX13_constructor) (maxL := 7) (ret := (some .boolean)) (by decide) rfl ?_
  intro p e s m args below meth c s₁ B hml hv
  obtain ⟨rfl, hsz, hP, hK, hD0⟩ := hv
  have hx := B.exec
  have hb := B.bytes
  have hr := B.returns
  have hts := atoms_spec (ws := wm_X13_constructor) B.pre
  have htb := fun (w : Cond) (h : w ∈ tb) => hts w (List.mem_cons_of_mem _ h)
  have hown : s.vm.findClass RX13 = some m.cls := findClass_of_methodNamed B.named
  have hlocks := B.notSynchronized
  subst hsz
  have hD := hD0.self (sz := s.heap.size)
  generalize hAe : va_A (mW h0 ad cid sg gm lg) s.heap.size = A at hD ⊢
  have hA : ∀ q : Nat, s.heap.size ≤ q → A q := fun q h => by rw [← hAe]; exact Or.inr h
  have hS : va_S A s.heap s.heap [] := va_S.rf
  have hl := lv_entry ([.ref h0, .int a, .int b, .int f, .int g, .int k]) (n := 7) (Nat.le_of_ble_eq_true rfl)
  rw [lg_entry_eq]
  generalize (lg_sl ([.ref h0, .int a, .int b, .int f, .int g, .int k]) ++ List.replicate (7 - (lg_sl ([.ref h0, .int a, .int b, .int f, .int g, .int k])).length) Slot.unset).toArray = ls at hl ⊢
  have hl : lv_has ls 7 [(0, .ref h0), (1, .int a), (2, .int b), (3, .int f), (4, .int g), (5, .int k)] := hl
  have hj34 : ∀ (sg_j34 : Nat → Int32) (_ : KS [5] sg sg_j34) (_ : MI sg_j34 gm) (_ : ¬ (0 ≤ a.toInt ∧ a.toInt ≤ 7 ∧ 0 ≤ b.toInt ∧ b.toInt ≤ 3 ∧ (1 ≤ b.toInt → (0 ≤ f.toInt ∧ f.toInt ≤ 4 ∨ 8 ≤ f.toInt ∧ f.toInt ≤ 15)) ∧ (2 ≤ b.toInt → (0 ≤ g.toInt ∧ g.toInt ≤ 4 ∨ 8 ≤ g.toInt ∧ g.toInt ≤ 15)) ∧ (3 ≤ b.toInt → (0 ≤ k.toInt ∧ k.toInt ≤ 4 ∨ 8 ≤ k.toInt ∧ k.toInt ≤ 15))) ∨ 4 ≤ (gm 7 a.toNatClampNeg).toInt) (H : Heap) (locs : List Loc) (ls : Array Slot), va_P (dC, dI) vwCl (mW h0 ad cid sg_j34 gm lg) H → va_D A (mW h0 ad cid sg_j34 gm lg) → va_S A s.heap H locs → lv_has ls 7 [(0, .ref h0), (1, .int a), (2, .int b), (3, .int f), (4, .int g), (5, .int k)] → W p l e (headSpec wm_X13_constructor ({ frames := 2, cells := 0, slots := 0, locals := 43 })).room s m ([.ref h0, .int a, .int b, .int f, .int g, .int k] : List Value).toArray below meth c H locs 0 0 (MQ below (va_Qi (fun r v => ∃ (sg2 : Nat → Int32) (gm2 : Nat → Nat → Int32) (lg2 : Nat → Nat → Int64), v = (sg2, gm2, lg2) ∧ MI sg2 gm2 ∧ KS [5] sg sg2 ∧ KS [7, 8, 9] gm gm2 ∧ KS [] lg lg2 ∧ (iv 0 1 r) ∧ (RAC (0 ≤ a.toInt ∧ a.toInt ≤ 7 ∧ 0 ≤ b.toInt ∧ b.toInt ≤ 3 ∧ (1 ≤ b.toInt → (0 ≤ f.toInt ∧ f.toInt ≤ 4 ∨ 8 ≤ f.toInt ∧ f.toInt ≤ 15)) ∧ (2 ≤ b.toInt → (0 ≤ g.toInt ∧ g.toInt ≤ 4 ∨ 8 ≤ g.toInt ∧ g.toInt ≤ 15)) ∧ (3 ≤ b.toInt → (0 ≤ k.toInt ∧ k.toInt ≤ 4 ∨ 8 ≤ k.toInt ∧ k.toInt ≤ 15))) r a.toNatClampNeg gm gm2 b f g k)) (MB dC dI h0 ad cid A) A) ([.ref h0, .int a, .int b, .int f, .int g, .int k] : List Value).toArray s 0 0 A) (F0 m 34 ls []) := by
    intro sg_j34 hks_j34 hI_j34 hno H locs ls hP hD hS hl
    refine lv_iconst (v := 0) hx hb dX13_constructor_34 (by decide) ?_
    exact W.zret (v := 0) hx hb hr (iv_nb (iv_w (iv_k (by decide) : iv 0 0 0) (by decide))) (fun t ht hW => ⟨⟨0, (sg_j34, gm, lg), rfl, ⟨sg_j34, gm, lg, rfl, hI_j34, (KS_tr (L := [5]) KS_rf hks_j34 (by decide)), KS_rf, KS_rf, (iv_w (iv_k (by decide) : iv 0 0 0) (by decide)), (Or.inr ⟨rfl, hno, (show gm 7 = gm 7 from rfl), (show gm 8 = gm 8 from rfl), (show gm 9 = gm 9 from rfl)⟩)⟩, by rw [ht]; exact hP, va_K.moved hW.alike hK, hD⟩, hS.F ht⟩) hS.2.2 dX13_constructor_35
  refine lv_aload_n hx hb dX13_constructor_0 rfl (lv_at hl 0 rfl) ?_
  refine lv_iconst (v := 0) hx hb dX13_constructor_1 (by decide) ?_
  refine ma_put (x := 0) hx hb htb inX13 hown hK hP hD hS 5 (by decide) (by decide) (htb _ kw_239) rfl rfl rfl dX13_constructor_2 (fun sg_1 H locs esg_1 hP hD hS => ?_)
  have hI_sg_1 := MI_put hI esg_1 (iv_k (by decide) : iv 0 0 0) (by decide)
  refine lv_iload_n hx hb dX13_constructor_5 rfl (lv_at hl 1 rfl) ?_
  have hPc := hP.sub (ws' := []) [] rfl
  have hDc := hD.sub (ws' := []) [] (by decide) rfl
  have hKc := hK.sub (tys' := []) [] rfl
  have hFc := va_free (wc := []) hD hS hA [] rfl
  refine va_calli (va_runS (As := [.int a]) (rest := []) ⟨hx, hb, hml, hown, htb⟩ (c_X13_isClass l dC dI H.size a) (va_cwS 1 htb (gd_S kw_240 kw_241 kw_5 kw_1388) rfl rfl rfl (by decide +kernel) ⟨Nat.le_of_ble_eq_true rfl, Nat.le_of_ble_eq_true rfl⟩) ⟨fun a U g mk q => by obtain ⟨q0, q1, qP, qK, qD⟩ := q; exact ⟨q0, q1, qP, va_K.moved (u := U) (U := U.calling g mk a) (Vm.Alike.refl U.vm) qK, qD⟩, fun U hU hW => ⟨rfl, by rw [hU], by rw [hU]; exact hPc, va_K.moved hW.alike hKc, hDc.weaken (fun _ _ _ _ => trivial)⟩⟩ rfl rfl hl.1 rfl (lv_room (Nat.le_of_ble_eq_true rfl)) dX13_constructor_6 ⟨Nat.zero_le _, Nat.zero_le _⟩) hS (fun q _ h => hFc q h) hFc (fun r_2 u9 t H1 locs ht hvm hw hB hz1 hk1 hS => ?_)
  have hP := ms_kept hP hz1 hk1
  generalize H1 = H at hP hS ⊢
  have fr_2 : r_2 = zCls a := hw
  have hr_2 : iv 0 1 r_2 := iv_of fr_2 (zCls_iv a)
  refine lv_if_eq (tgt := 34) hx hb dX13_constructor_9 (by decide) (fun c_3 => ?_) (fun c_3 => ?_)
  · have h_4 : iv 0 0 r_2 := iv_eq c_3 hr_2 (iv_k (by decide) : iv 0 0 0) (by decide)
    exact hj34 sg_1 (KS_up KS_rf esg_1 (by decide)) hI_sg_1 (Or.inl (fun q8 => by { have q2 := zCls_g (a := a); rw [← fr_2] at q2; have w2 : r_2 = 1 ↔ r_2.toInt = 1 := ⟨fun q => by rw [q]; rfl, fun q => Int32.toInt_inj.mp q⟩; have v2 : r_2 = 0 ↔ r_2.toInt = 0 := ⟨fun q => by rw [q]; rfl, fun q => Int32.toInt_inj.mp q⟩; rw [w2, v2] at q2; have := i32_0; have := i32_1; have := i32_2; have := i32_m1; have := (h_4).1; have := (h_4).2; omega })) _ _ _ hP hD hS (lv_sub hl [0, 1, 2, 3, 4, 5] rfl)
  · have h_5 : iv 0 7 a := zCls_t (by rw [← fr_2]; exact c_3)
    have h_6 : iv 1 1 r_2 := iv_neL c_3 hr_2 (by decide)
    refine lv_iload_n hx hb dX13_constructor_12 rfl (lv_at hl 2 rfl) ?_
    refine lv_iload_n hx hb dX13_constructor_13 rfl (lv_at hl 3 rfl) ?_
    refine lv_iload hx hb dX13_constructor_14 (lv_at hl 4 rfl) ?_
    refine lv_iload hx hb dX13_constructor_16 (lv_at hl 5 rfl) ?_
    have hPc := hP.sub (ws' := []) [] rfl
    have hDc := hD.sub (ws' := []) [] (by decide) rfl
    have hKc := hK.sub (tys' := []) [] rfl
    have hFc := va_free (wc := []) hD hS hA [] rfl
    refine va_calli (va_runS (As := [.int b, .int f, .int g, .int k]) (rest := []) ⟨hx, hb, hml, hown, htb⟩ (c_X13_areTypes l dC dI H.size b f g k) (va_cwS 4 htb (gd_S kw_265 kw_266 kw_5 kw_1396) rfl rfl rfl (by decide +kernel) ⟨Nat.le_of_ble_eq_true rfl, Nat.le_of_ble_eq_true rfl⟩) ⟨fun a U g mk q => by obtain ⟨q0, q1, qP, qK, qD⟩ := q; exact ⟨q0, q1, qP, va_K.moved (u := U) (U := U.calling g mk a) (Vm.Alike.refl U.vm) qK, qD⟩, fun U hU hW => ⟨rfl, by rw [hU], by rw [hU]; exact hPc, va_K.moved hW.alike hKc, hDc.weaken (fun _ _ _ _ => trivial)⟩⟩ rfl rfl hl.1 rfl (lv_room (Nat.le_of_ble_eq_true rfl)) dX13_constructor_18 ⟨Nat.zero_le _, Nat.zero_le _⟩) hS (fun q _ h => hFc q h) hFc (fun r_7 u9 t H1 locs ht hvm hw hB hz1 hk1 hS => ?_)
    have hP := ms_kept hP hz1 hk1
    generalize H1 = H at hP hS ⊢
    have fr_7 : r_7 = zTys b f g k := hw
    have hr_7 : iv 0 1 r_7 := iv_of fr_7 (zTys_iv b f g k)
    refine lv_if_eq (tgt := 34) hx hb dX13_constructor_21 (by decide) (fun c_8 => ?_) (fun c_8 => ?_)
    · have h_9 : iv 0 0 r_7 := iv_eq c_8 hr_7 (iv_k (by decide) : iv 0 0 0) (by decide)
      exact hj34 sg_1 (KS_up KS_rf esg_1 (by decide)) hI_sg_1 (Or.inl (fun q8 => by { have q2 := zCls_g (a := a); rw [← fr_2] at q2; have q7 := zTys_f (n := b) (a := f) (b := g) (c := k); rw [← fr_7] at q7; have w2 : r_2 = 1 ↔ r_2.toInt = 1 := ⟨fun q => by rw [q]; rfl, fun q => Int32.toInt_inj.mp q⟩; have v2 : r_2 = 0 ↔ r_2.toInt = 0 := ⟨fun q => by rw [q]; rfl, fun q => Int32.toInt_inj.mp q⟩; rw [w2, v2] at q2; have w7 : r_7 = 1 ↔ r_7.toInt = 1 := ⟨fun q => by rw [q]; rfl, fun q => Int32.toInt_inj.mp q⟩; have v7 : r_7 = 0 ↔ r_7.toInt = 0 := ⟨fun q => by rw [q]; rfl, fun q => Int32.toInt_inj.mp q⟩; rw [w7, v7] at q7; have := i32_0; have := i32_1; have := i32_2; have := i32_m1; have := (h_6).1; have := (h_6).2; have := (h_5).1; have := (h_5).2; have := (h_9).1; have := (h_9).2; omega })) _ _ _ hP hD hS (lv_sub hl [0, 1, 2, 3, 4, 5] rfl)
    · have h_10 : iv 0 3 b := zTys_t (by rw [← fr_7]; exact c_8)
      have h_11 : iv 1 1 r_7 := iv_neL c_8 hr_7 (by decide)
      refine lv_aload_n hx hb dX13_constructor_24 rfl (lv_at hl 0 rfl) ?_
      refine mr_get (v := .ref (ad 7)) hx hb htb inX13 hown hK hP 7 (by decide) (htb _ kw_166) rfl dX13_constructor_25 ?_
      refine lv_iload_n hx hb dX13_constructor_28 rfl (lv_at hl 1 rfl) ?_
      refine mr_iald hx hb hK hP 6 (k := 7) rfl rfl rfl (show vp_in a 8 from (iv_in h_5 (by decide))) dX13_constructor_29 ?_
      refine lv_topi (fun z_12 ez_12 => ?_)
      have hz_12 : iv 0 4 z_12 := iv_of ez_12 (MI_a hI_sg_1 7 h_5 (by decide))
      refine lv_iconst (v := 4) hx hb dX13_constructor_30 (by decide) ?_
      refine lv_icmp_ne (tgt := 36) hx hb dX13_constructor_31 (by decide) (fun c_13 => ?_) (fun c_13 => ?_)
      · have h_14 : iv 0 3 z_12 := iv_neH c_13 hz_12 (by decide)
        refine lv_iconst (v := 4) hx hb dX13_constructor_36 (by decide) ?_
        refine lv_iload_n hx hb dX13_constructor_37 rfl (lv_at hl 1 rfl) ?_
        refine lv_imul hx hb dX13_constructor_38 ?_
        refine lv_topi (fun z_15 ez_15 => ?_)
        have hz_15 : iv 0 28 z_15 := iv_of ez_15 (iv_mul (iv_k (by decide) : iv 4 4 4) h_5 (by decide))
        have tz_15 : z_15.toInt = 4 * (a : Int32).toInt := by rw [ez_15]; exact iv_mulE (iv_k (by decide) : iv 4 4 4) h_5 (by decide)
        refine lv_aload_n hx hb dX13_constructor_39 rfl (lv_at hl 0 rfl) ?_
        refine mr_get (v := .ref (ad 7)) hx hb htb inX13 hown hK hP 7 (by decide) (htb _ kw_166) rfl dX13_constructor_40 ?_
        refine lv_iload_n hx hb dX13_constructor_43 rfl (lv_at hl 1 rfl) ?_
        refine mr_iald hx hb hK hP 6 (k := 7) rfl rfl rfl (show vp_in a 8 from (iv_in h_5 (by decide))) dX13_constructor_44 ?_
        refine lv_topi (fun z_16 ez_16 => ?_)
        obtain rfl : z_12 = z_16 := ez_12.trans ez_16.symm
        refine lv_iadd hx hb dX13_constructor_45 ?_
        refine lv_topi (fun z_17 ez_17 => ?_)
        have hz_17 : iv 0 31 z_17 := iv_of ez_17 (iv_add hz_15 h_14 (by decide))
        have tz_17 : z_17.toInt = (z_15 : Int32).toInt + (z_12 : Int32).toInt := by rw [ez_17]; exact iv_addE hz_15 h_14 (by decide)
        refine lv_istore (lv' := [(6, .int z_17), (0, .ref h0), (1, .int a), (2, .int b), (3, .int f), (4, .int g), (5, .int k)]) hx hb dX13_constructor_46 hl (by decide) rfl (fun ls hl => ?_)
        refine lv_aload_n hx hb dX13_constructor_48 rfl (lv_at hl 1 rfl) ?_
        refine mr_get (v := .ref (ad 8)) hx hb htb inX13 hown hK hP 8 (by decide) (htb _ kw_167) rfl dX13_constructor_49 ?_
        refine lv_iload hx hb dX13_constructor_52 (lv_at hl 0 rfl) ?_
        refine lv_iload_n hx hb dX13_constructor_54 rfl (lv_at hl 3 rfl) ?_
        refine ma_iast (x := b) hx hb hK hP hD hS 7 (k := 8) rfl rfl rfl (show vp_in z_17 32 from (iv_in hz_17 (by decide))) dX13_constructor_55 (fun gm_18 H locs egm_18 hP hD hS => ?_)
        have hI_gm_18 := MI_st hI_sg_1 egm_18 h_10 (by decide)
        refine lv_aload_n hx hb dX13_constructor_56 rfl (lv_at hl 1 rfl) ?_
        refine mr_get (v := .ref (ad 9)) hx hb htb inX13 hown hK hP 9 (by decide) (htb _ kw_168) rfl dX13_constructor_57 ?_
        refine lv_iconst (v := 3) hx hb dX13_constructor_60 (by decide) ?_
        refine lv_iload hx hb dX13_constructor_61 (lv_at hl 0 rfl) ?_
        refine lv_imul hx hb dX13_constructor_63 ?_
        refine lv_topi (fun z_19 ez_19 => ?_)
        have hz_19 : iv 0 93 z_19 := iv_of ez_19 (iv_mul (iv_k (by decide) : iv 3 3 3) hz_17 (by decide))
        have tz_19 : z_19.toInt = 3 * (z_17 : Int32).toInt := by rw [ez_19]; exact iv_mulE (iv_k (by decide) : iv 3 3 3) hz_17 (by decide)
        refine lv_iload_n hx hb dX13_constructor_64 rfl (lv_at hl 4 rfl) ?_
        refine ma_iast (x := f) hx hb hK hP hD hS 8 (k := 9) rfl rfl rfl (show vp_in z_19 96 from (iv_in hz_19 (by decide))) dX13_constructor_65 (fun gm_20 H locs egm_20 hP hD hS => ?_)
        have hI_gm_20 := MI_st hI_gm_18 egm_20 (iv_all f) (by decide)
        refine lv_aload_n hx hb dX13_constructor_66 rfl (lv_at hl 1 rfl) ?_
        refine mr_get (v := .ref (ad 9)) hx hb htb inX13 hown hK hP 9 (by decide) (htb _ kw_168) rfl dX13_constructor_67 ?_
        refine lv_iconst (v := 3) hx hb dX13_constructor_70 (by decide) ?_
        refine lv_iload hx hb dX13_constructor_71 (lv_at hl 0 rfl) ?_
        refine lv_imul hx hb dX13_constructor_73 ?_
        refine lv_topi (fun z_21 ez_21 => ?_)
        obtain rfl : z_19 = z_21 := ez_19.trans ez_21.symm
        refine lv_iconst (v := 1) hx hb dX13_constructor_74 (by decide) ?_
        refine lv_iadd hx hb dX13_constructor_75 ?_
        refine lv_topi (fun z_22 ez_22 => ?_)
        have hz_22 : iv 1 94 z_22 := iv_of ez_22 (iv_add hz_19 (iv_k (by decide) : iv 1 1 1) (by decide))
        have tz_22 : z_22.toInt = (z_19 : Int32).toInt + 1 := by rw [ez_22]; exact iv_addE hz_19 (iv_k (by decide) : iv 1 1 1) (by decide)
        refine lv_iload hx hb dX13_constructor_76 (lv_at hl 5 rfl) ?_
        refine ma_iast (x := g) hx hb hK hP hD hS 8 (k := 9) rfl rfl rfl (show vp_in z_22 96 from (iv_in hz_22 (by decide))) dX13_constructor_78 (fun gm_23 H locs egm_23 hP hD hS => ?_)
        have hI_gm_23 := MI_st hI_gm_20 egm_23 (iv_all g) (by decide)
        refine lv_aload_n hx hb dX13_constructor_79 rfl (lv_at hl 1 rfl) ?_
        refine mr_get (v := .ref (ad 9)) hx hb htb inX13 hown hK hP 9 (by decide) (htb _ kw_168) rfl dX13_constructor_80 ?_
        refine lv_iconst (v := 3) hx hb dX13_constructor_83 (by decide) ?_
        refine lv_iload hx hb dX13_constructor_84 (lv_at hl 0 rfl) ?_
        refine lv_imul hx hb dX13_constructor_86 ?_
        refine lv_topi (fun z_24 ez_24 => ?_)
        obtain rfl : z_19 = z_24 := ez_19.trans ez_24.symm
        refine lv_iconst (v := 2) hx hb dX13_constructor_87 (by decide) ?_
        refine lv_iadd hx hb dX13_constructor_88 ?_
        refine lv_topi (fun z_25 ez_25 => ?_)
        have hz_25 : iv 2 95 z_25 := iv_of ez_25 (iv_add hz_19 (iv_k (by decide) : iv 2 2 2) (by decide))
        have tz_25 : z_25.toInt = (z_19 : Int32).toInt + 2 := by rw [ez_25]; exact iv_addE hz_19 (iv_k (by decide) : iv 2 2 2) (by decide)
        refine lv_iload hx hb dX13_constructor_89 (lv_at hl 6 rfl) ?_
        refine ma_iast (x := k) hx hb hK hP hD hS 8 (k := 9) rfl rfl rfl (show vp_in z_25 96 from (iv_in hz_25 (by decide))) dX13_constructor_91 (fun gm_26 H locs egm_26 hP hD hS => ?_)
        have hI_gm_26 := MI_st hI_gm_23 egm_26 (iv_all k) (by decide)
        refine lv_aload_n hx hb dX13_constructor_92 rfl (lv_at hl 1 rfl) ?_
        refine mr_get (v := .ref (ad 7)) hx hb htb inX13 hown hK hP 7 (by decide) (htb _ kw_166) rfl dX13_constructor_93 ?_
        refine lv_iload_n hx hb dX13_constructor_96 rfl (lv_at hl 2 rfl) ?_
        refine lv_dup2_11 hx hb dX13_constructor_97 rfl rfl ?_
        refine mr_iald hx hb hK hP 6 (k := 7) rfl rfl rfl (show vp_in a 8 from (iv_in h_5 (by decide))) dX13_constructor_98 ?_
        refine lv_topi (fun z_27 ez_27 => ?_)
        obtain rfl : z_12 = z_27 := ez_12.trans (ez_27.trans (congrFun (Eq.trans (Eq.trans (Eq.trans (up_ne egm_26 (by decide)) (up_ne egm_23 (by decide))) (up_ne egm_20 (by decide))) (up_ne egm_18 (by decide))) _)).symm
        refine lv_iconst (v := 1) hx hb dX13_constructor_99 (by decide) ?_
        refine lv_iadd hx hb dX13_constructor_100 ?_
        refine lv_topi (fun z_28 ez_28 => ?_)
        have hz_28 : iv 1 4 z_28 := iv_of ez_28 (iv_add h_14 (iv_k (by decide) : iv 1 1 1) (by decide))
        have tz_28 : z_28.toInt = (z_12 : Int32).toInt + 1 := by rw [ez_28]; exact iv_addE h_14 (iv_k (by decide) : iv 1 1 1) (by decide)
        refine ma_iast (x := z_28) hx hb hK hP hD hS 6 (k := 7) rfl rfl rfl (show vp_in a 8 from (iv_in h_5 (by decide))) dX13_constructor_101 (fun gm_29 H locs egm_29 hP hD hS => ?_)
        have hI_gm_29 := MI_st hI_gm_26 egm_29 hz_28 (by decide)
        refine lv_iconst (v := 1) hx hb dX13_constructor_102 (by decide) ?_
        exact W.zret (v := 1) hx hb hr (iv_nb (iv_w (iv_k (by decide) : iv 1 1 1) (by decide))) (fun t ht hW => ⟨⟨1, (sg_1, gm_29, lg), rfl, ⟨sg_1, gm_29, lg, rfl, hI_gm_29, (KS_up KS_rf esg_1 (by decide)), (KS_up (KS_up (KS_up (KS_up (KS_up KS_rf egm_18 (by decide)) egm_20 (by decide)) egm_23 (by decide)) egm_26 (by decide)) egm_29 (by decide)), KS_rf, (iv_w (iv_k (by decide) : iv 1 1 1) (by decide)), (Or.inl ⟨rfl, by { have q2 := zCls_g (a := a); rw [← fr_2] at q2; have q7 := zTys_f (n := b) (a := f) (b := g) (c := k); rw [← fr_7] at q7; have w2 : r_2 = 1 ↔ r_2.toInt = 1 := ⟨fun q => by rw [q]; rfl, fun q => Int32.toInt_inj.mp q⟩; have v2 : r_2 = 0 ↔ r_2.toInt = 0 := ⟨fun q => by rw [q]; rfl, fun q => Int32.toInt_inj.mp q⟩; rw [w2, v2] at q2; have w7 : r_7 = 1 ↔ r_7.toInt = 1 := ⟨fun q => by rw [q]; rfl, fun q => Int32.toInt_inj.mp q⟩; have v7 : r_7 = 0 ↔ r_7.toInt = 0 := ⟨fun q => by rw [q]; rfl, fun q => Int32.toInt_inj.mp q⟩; rw [w7, v7] at q7; have := i32_0; have := i32_1; have := i32_2; have := i32_m1; have := (h_6).1; have := (h_6).2; have := (h_5).1; have := (h_5).2; have := (h_11).1; have := (h_11).2; have := (h_10).1; have := (h_10).2; have := (h_14).1; have := (h_14).2; have := (hz_15).1; have := (hz_15).2; have := (hz_17).1; have := (hz_17).2; have := (hz_19).1; have := (hz_19).2; have := (hz_22).1; have := (hz_22).2; have := (hz_25).1; have := (hz_25).2; have := (hz_28).1; have := (hz_28).2; omega }, (by { rw [← ez_12]; have := i32_0; have := i32_1; have := i32_2; have := i32_m1; have := (h_6).1; have := (h_6).2; have := (h_5).1; have := (h_5).2; have := (h_11).1; have := (h_11).2; have := (h_10).1; have := (h_10).2; have := (h_14).1; have := (h_14).2; have := (hz_15).1; have := (hz_15).2; have := (hz_17).1; have := (hz_17).2; have := (hz_19).1; have := (hz_19).2; have := (hz_22).1; have := (hz_22).2; have := (hz_25).1; have := (hz_25).2; have := (hz_28).1; have := (hz_28).2; omega }), ⟨_, (by { rw [← ez_12]; have := i32_0; have := i32_1; have := i32_2; have := i32_m1; have := (h_6).1; have := (h_6).2; have := (h_5).1; have := (h_5).2; have := (h_11).1; have := (h_11).2; have := (h_10).1; have := (h_10).2; have := (h_14).1; have := (h_14).2; have := (hz_15).1; have := (hz_15).2; have := (hz_17).1; have := (hz_17).2; have := (hz_19).1; have := (hz_19).2; have := (hz_22).1; have := (hz_22).2; have := (hz_25).1; have := (hz_25).2; have := (hz_28).1; have := (hz_28).2; omega }), (show gm_29 7 = upd (gm 7) (a : Int32).toNatClampNeg z_28 from ((up_at egm_29).trans (by rw [show gm_26 7 = gm 7 from ((up_ne egm_26 (by decide)).trans ((up_ne egm_23 (by decide)).trans ((up_ne egm_20 (by decide)).trans ((up_ne egm_18 (by decide)).trans rfl))))])))⟩, (by rw [← ez_12, show 4 * a.toNatClampNeg + z_12.toNatClampNeg = z_17.toNatClampNeg from (by { have k0 : a.toNatClampNeg = a.toInt.toNat := rfl; have k1 : z_12.toNatClampNeg = z_12.toInt.toNat := rfl; have k2 : z_17.toNatClampNeg = z_17.toInt.toNat := rfl; have := i32_0; have := i32_1; have := i32_2; have := i32_m1; have := (h_6).1; have := (h_6).2; have := (h_5).1; have := (h_5).2; have := (h_11).1; have := (h_11).2; have := (h_10).1; have := (h_10).2; have := (h_14).1; have := (h_14).2; have := (hz_15).1; have := (hz_15).2; have := (hz_17).1; have := (hz_17).2; have := (hz_19).1; have := (hz_19).2; have := (hz_22).1; have := (hz_22).2; have := (hz_25).1; have := (hz_25).2; have := (hz_28).1; have := (hz_28).2; omega })]; exact (show gm_29 8 = upd (gm 8) (z_17 : Int32).toNatClampNeg b from ((up_ne egm_29 (by decide)).trans ((up_ne egm_26 (by decide)).trans ((up_ne egm_23 (by decide)).trans ((up_ne egm_20 (by decide)).trans ((up_at egm_18).trans (by rw [show gm 8 = gm 8 from rfl])))))))), (by rw [← ez_12, show 3 * (4 * a.toNatClampNeg + z_12.toNatClampNeg) + 2 = z_25.toNatClampNeg from (by { have k0 : a.toNatClampNeg = a.toInt.toNat := rfl; have k1 : z_12.toNatClampNeg = z_12.toInt.toNat := rfl; have k2 : z_25.toNatClampNeg = z_25.toInt.toNat := rfl; have := i32_0; have := i32_1; have := i32_2; have := i32_m1; have := (h_6).1; have := (h_6).2; have := (h_5).1; have := (h_5).2; have := (h_11).1; have := (h_11).2; have := (h_10).1; have := (h_10).2; have := (h_14).1; have := (h_14).2; have := (hz_15).1; have := (hz_15).2; have := (hz_17).1; have := (hz_17).2; have := (hz_19).1; have := (hz_19).2; have := (hz_22).1; have := (hz_22).2; have := (hz_25).1; have := (hz_25).2; have := (hz_28).1; have := (hz_28).2; omega }), show 3 * (4 * a.toNatClampNeg + z_12.toNatClampNeg) + 1 = z_22.toNatClampNeg from (by { have k0 : a.toNatClampNeg = a.toInt.toNat := rfl; have k1 : z_12.toNatClampNeg = z_12.toInt.toNat := rfl; have k2 : z_22.toNatClampNeg = z_22.toInt.toNat := rfl; have := i32_0; have := i32_1; have := i32_2; have := i32_m1; have := (h_6).1; have := (h_6).2; have := (h_5).1; have := (h_5).2; have := (h_11).1; have := (h_11).2; have := (h_10).1; have := (h_10).2; have := (h_14).1; have := (h_14).2; have := (hz_15).1; have := (hz_15).2; have := (hz_17).1; have := (hz_17).2; have := (hz_19).1; have := (hz_19).2; have := (hz_22).1; have := (hz_22).2; have := (hz_25).1; have := (hz_25).2; have := (hz_28).1; have := (hz_28).2; omega }), show 3 * (4 * a.toNatClampNeg + z_12.toNatClampNeg) = z_19.toNatClampNeg from (by { have k0 : a.toNatClampNeg = a.toInt.toNat := rfl; have k1 : z_12.toNatClampNeg = z_12.toInt.toNat := rfl; have k2 : z_19.toNatClampNeg = z_19.toInt.toNat := rfl; have := i32_0; have := i32_1; have := i32_2; have := i32_m1; have := (h_6).1; have := (h_6).2; have := (h_5).1; have := (h_5).2; have := (h_11).1; have := (h_11).2; have := (h_10).1; have := (h_10).2; have := (h_14).1; have := (h_14).2; have := (hz_15).1; have := (hz_15).2; have := (hz_17).1; have := (hz_17).2; have := (hz_19).1; have := (hz_19).2; have := (hz_22).1; have := (hz_22).2; have := (hz_25).1; have := (hz_25).2; have := (hz_28).1; have := (hz_28).2; omega })]; exact (show gm_29 9 = upd (upd (upd (gm 9) (z_19 : Int32).toNatClampNeg f) (z_22 : Int32).toNatClampNeg g) (z_25 : Int32).toNatClampNeg k from ((up_ne egm_29 (by decide)).trans ((up_at egm_26).trans (by rw [show gm_23 9 = upd (upd (gm 9) (z_19 : Int32).toNatClampNeg f) (z_22 : Int32).toNatClampNeg g from ((up_at egm_23).trans (by rw [show gm_20 9 = upd (gm 9) (z_19 : Int32).toNatClampNeg f from ((up_at egm_20).trans (by rw [show gm_18 9 = gm 9 from ((up_ne egm_18 (by decide)).trans rfl)]))]))])))))⟩)⟩, by rw [ht]; exact hP, va_K.moved hW.alike hK, hD⟩, hS.F ht⟩) hS.2.2 dX13_constructor_103
      · have h_30 : iv 4 4 z_12 := iv_eq c_13 hz_12 (iv_k (by decide) : iv 4 4 4) (by decide)
        exact hj34 sg_1 (KS_up KS_rf esg_1 (by decide)) hI_sg_1 (Or.inr (by { rw [← ez_12]; have := i32_0; have := i32_1; have := i32_2; have := i32_m1; have := (h_6).1; have := (h_6).2; have := (h_5).1; have := (h_5).2; have := (h_11).1; have := (h_11).2; have := (h_10).1; have := (h_10).2; have := (h_30).1; have := (h_30).2; omega })) _ _ _ hP hD hS (lv_sub hl [0, 1, 2, 3, 4, 5] rfl)

set_option maxHeartbeats 4000000 in
set_option maxRecDepth 100000 in
theorem a_factory9 (l : Launch) (dC : Nat → ClassId) (dI : Nat → Nat → Nat) (h0 : Nat) (ad : Nat → Nat) (cid : Nat → ClassId) (sg : Nat → Int32) (gm : Nat → Nat → Int32) (lg : Nat → Nat → Int64) (a : Int32) (b : Int32) (z : Int32) (f : Int32) (g : Int32) (k : Int32) (n1 : Int32) (n2 : Int32) (hI : MI sg gm) (hvz : iv 0 1 z) : MMi l dC dI yX13_factory wm_X13_factory ({ frames := 2, cells := 0, slots := 0, locals := 43 }) h0 ad cid [.int a, .int b, .int z, .int f, .int g, .int k, .int n1, .int n2] sg gm lg (fun r v => ∃ (sg2 : Nat → Int32) (gm2 : Nat → Nat → Int32) (lg2 : Nat → Nat → Int64), v = (sg2, gm2, lg2) ∧ MI sg2 gm2 ∧ KS [5] sg sg2 ∧ KS [13, 14, 15, 16, 17, 18] gm gm2 ∧ KS [] lg lg2 ∧ (iv 0 1 r) ∧ (RAF (0 ≤ a.toInt ∧ a.toInt ≤ 7 ∧ 0 ≤ b.toInt ∧ b.toInt ≤ 25 ∧ 0 ≤ f.toInt ∧ f.toInt ≤ 7 ∧ 0 ≤ g.toInt ∧ g.toInt ≤ 3 ∧ (1 ≤ g.toInt → (0 ≤ k.toInt ∧ k.toInt ≤ 4 ∨ 8 ≤ k.toInt ∧ k.toInt ≤ 15)) ∧ (2 ≤ g.toInt → (0 ≤ n1.toInt ∧ n1.toInt ≤ 4 ∨ 8 ≤ n1.toInt ∧ n1.toInt ≤ 15)) ∧ (3 ≤ g.toInt → (0 ≤ n2.toInt ∧ n2.toInt ≤ 4 ∨ 8 ≤ n2.toInt ∧ n2.toInt ≤ 15))) r a.toNatClampNeg gm gm2 b z f g k n1 n2)) := by
  intro sz
  refine Met.ofW (cc := cX13_factory) (maxL := 10) (ret := (some .boolean)) (by decide) rfl ?_
  intro p e s m args below meth c s₁ B hml hv
  obtain ⟨rfl, hsz, hP, hK, hD0⟩ := hv
  have hx := B.exec
  have hb := B.bytes
  have hr := B.returns
  have hts := atoms_spec (ws := wm_X13_factory) B.pre
  have htb := fun (w : Cond) (h : w ∈ tb) => hts w (List.mem_cons_of_mem _ h)
  have hown : s.vm.findClass RX13 = some m.cls := findClass_of_methodNamed B.named
  have hlocks := B.notSynchronized
  subst hsz
  have hD := hD0.self (sz := s.heap.size)
  generalize hAe : va_A (mW h0 ad cid sg gm lg) s.heap.size = A at hD ⊢
  have hA : ∀ q : Nat, s.heap.size ≤ q → A q := fun q h => by rw [← hAe]; exact Or.inr h
  have hS : va_S A s.heap s.heap [] := va_S.rf
  have hl := lv_entry ([.ref h0, .int a, .int b, .int z, .int f, .int g, .int k, .int n1, .int n2]) (n := 10) (Nat.le_of_ble_eq_true rfl)
  rw [lg_entry_eq]
  generalize (lg_sl ([.ref h0, .int a, .int b, .int z, .int f, .int g, .int k, .int n1, .int n2]) ++ List.replicate (10 - (lg_sl ([.ref h0, .int a, .int b, .int z, .int f, .int g, .int k, .int n1, .int n2])).length) Slot.unset).toArray = ls at hl ⊢
  have hl : lv_has ls 10 [(0, .ref h0), (1, .int a), (2, .int b), (3, .int z), (4, .int f), (5, .int g), (6, .int k), (7, .int n1), (8, .int n2)] := hl
  have hj51 : ∀ (sg_j51 : Nat → Int32) (_ : iv 0 1 z) (_ : KS [5] sg sg_j51) (_ : MI sg_j51 gm) (_ : ¬ (0 ≤ a.toInt ∧ a.toInt ≤ 7 ∧ 0 ≤ b.toInt ∧ b.toInt ≤ 25 ∧ 0 ≤ f.toInt ∧ f.toInt ≤ 7 ∧ 0 ≤ g.toInt ∧ g.toInt ≤ 3 ∧ (1 ≤ g.toInt → (0 ≤ k.toInt ∧ k.toInt ≤ 4 ∨ 8 ≤ k.toInt ∧ k.toInt ≤ 15)) ∧ (2 ≤ g.toInt → (0 ≤ n1.toInt ∧ n1.toInt ≤ 4 ∨ 8 ≤ n1.toInt ∧ n1.toInt ≤ 15)) ∧ (3 ≤ g.toInt → (0 ≤ n2.toInt ∧ n2.toInt ≤ 4 ∨ 8 ≤ n2.toInt ∧ n2.toInt ≤ 15))) ∨ 4 ≤ (gm 13 a.toNatClampNeg).toInt) (H : Heap) (locs : List Loc) (ls : Array Slot), va_P (dC, dI) vwCl (mW h0 ad cid sg_j51 gm lg) H → va_D A (mW h0 ad cid sg_j51 gm lg) → va_S A s.heap H locs → lv_has ls 10 [(0, .ref h0), (1, .int a), (2, .int b), (3, .int z), (4, .int f), (5, .int g), (6, .int k), (7, .int n1), (8, .int n2)] → W p l e (headSpec wm_X13_factory ({ frames := 2, cells := 0, slots := 0, locals := 43 })).room s m ([.ref h0, .int a, .int b, .int z, .int f, .int g, .int k, .int n1, .int n2] : List Value).toArray below meth c H locs 0 0 (MQ below (va_Qi (fun r v => ∃ (sg2 : Nat → Int32) (gm2 : Nat → Nat → Int32) (lg2 : Nat → Nat → Int64), v = (sg2, gm2, lg2) ∧ MI sg2 gm2 ∧ KS [5] sg sg2 ∧ KS [13, 14, 15, 16, 17, 18] gm gm2 ∧ KS [] lg lg2 ∧ (iv 0 1 r) ∧ (RAF (0 ≤ a.toInt ∧ a.toInt ≤ 7 ∧ 0 ≤ b.toInt ∧ b.toInt ≤ 25 ∧ 0 ≤ f.toInt ∧ f.toInt ≤ 7 ∧ 0 ≤ g.toInt ∧ g.toInt ≤ 3 ∧ (1 ≤ g.toInt → (0 ≤ k.toInt ∧ k.toInt ≤ 4 ∨ 8 ≤ k.toInt ∧ k.toInt ≤ 15)) ∧ (2 ≤ g.toInt → (0 ≤ n1.toInt ∧ n1.toInt ≤ 4 ∨ 8 ≤ n1.toInt ∧ n1.toInt ≤ 15)) ∧ (3 ≤ g.toInt → (0 ≤ n2.toInt ∧ n2.toInt ≤ 4 ∨ 8 ≤ n2.toInt ∧ n2.toInt ≤ 15))) r a.toNatClampNeg gm gm2 b z f g k n1 n2)) (MB dC dI h0 ad cid A) A) ([.ref h0, .int a, .int b, .int z, .int f, .int g, .int k, .int n1, .int n2] : List Value).toArray s 0 0 A) (F0 m 51 ls []) := by
    intro sg_j51 hsx3_51 hks_j51 hI_j51 hno H locs ls hP hD hS hl
    refine lv_iconst (v := 0) hx hb dX13_factory_51 (by decide) ?_
    exact W.zret (v := 0) hx hb hr (iv_nb (iv_w (iv_k (by decide) : iv 0 0 0) (by decide))) (fun t ht hW => ⟨⟨0, (sg_j51, gm, lg), rfl, ⟨sg_j51, gm, lg, rfl, hI_j51, (KS_tr (L := [5]) KS_rf hks_j51 (by decide)), KS_rf, KS_rf, (iv_w (iv_k (by decide) : iv 0 0 0) (by decide)), (Or.inr ⟨rfl, hno, (show gm 13 = gm 13 from rfl), (show gm 14 = gm 14 from rfl), (show gm 18 = gm 18 from rfl), (show gm 15 = gm 15 from rfl), (show gm 16 = gm 16 from rfl), (show gm 17 = gm 17 from rfl)⟩)⟩, by rw [ht]; exact hP, va_K.moved hW.alike hK, hD⟩, hS.F ht⟩) hS.2.2 dX13_factory_52
  refine lv_aload_n hx hb dX13_factory_0 rfl (lv_at hl 0 rfl) ?_
  refine lv_iconst (v := 0) hx hb dX13_factory_1 (by decide) ?_
  refine ma_put (x := 0) hx hb htb inX13 hown hK hP hD hS 5 (by decide) (by decide) (htb _ kw_239) rfl rfl rfl dX13_factory_2 (fun sg_1 H locs esg_1 hP hD hS => ?_)
  have hI_sg_1 := MI_put hI esg_1 (iv_k (by decide) : iv 0 0 0) (by decide)
  refine lv_iload_n hx hb dX13_factory_5 rfl (lv_at hl 1 rfl) ?_
  have hPc := hP.sub (ws' := []) [] rfl
  have hDc := hD.sub (ws' := []) [] (by decide) rfl
  have hKc := hK.sub (tys' := []) [] rfl
  have hFc := va_free (wc := []) hD hS hA [] rfl
  refine va_calli (va_runS (As := [.int a]) (rest := []) ⟨hx, hb, hml, hown, htb⟩ (c_X13_isClass l dC dI H.size a) (va_cwS 1 htb (gd_S kw_240 kw_241 kw_5 kw_1388) rfl rfl rfl (by decide +kernel) ⟨Nat.le_of_ble_eq_true rfl, Nat.le_of_ble_eq_true rfl⟩) ⟨fun a U g mk q => by obtain ⟨q0, q1, qP, qK, qD⟩ := q; exact ⟨q0, q1, qP, va_K.moved (u := U) (U := U.calling g mk a) (Vm.Alike.refl U.vm) qK, qD⟩, fun U hU hW => ⟨rfl, by rw [hU], by rw [hU]; exact hPc, va_K.moved hW.alike hKc, hDc.weaken (fun _ _ _ _ => trivial)⟩⟩ rfl rfl hl.1 rfl (lv_room (Nat.le_of_ble_eq_true rfl)) dX13_factory_6 ⟨Nat.zero_le _, Nat.zero_le _⟩) hS (fun q _ h => hFc q h) hFc (fun r_2 u9 t H1 locs ht hvm hw hB hz1 hk1 hS => ?_)
  have hP := ms_kept hP hz1 hk1
  generalize H1 = H at hP hS ⊢
  have fr_2 : r_2 = zCls a := hw
  have hr_2 : iv 0 1 r_2 := iv_of fr_2 (zCls_iv a)
  refine lv_if_eq (tgt := 51) hx hb dX13_factory_9 (by decide) (fun c_3 => ?_) (fun c_3 => ?_)
  · have h_4 : iv 0 0 r_2 := iv_eq c_3 hr_2 (iv_k (by decide) : iv 0 0 0) (by decide)
    exact hj51 sg_1 hvz (KS_up KS_rf esg_1 (by decide)) hI_sg_1 (Or.inl (fun q8 => by { have q2 := zCls_g (a := a); rw [← fr_2] at q2; have w2 : r_2 = 1 ↔ r_2.toInt = 1 := ⟨fun q => by rw [q]; rfl, fun q => Int32.toInt_inj.mp q⟩; have v2 : r_2 = 0 ↔ r_2.toInt = 0 := ⟨fun q => by rw [q]; rfl, fun q => Int32.toInt_inj.mp q⟩; rw [w2, v2] at q2; have := i32_0; have := i32_1; have := i32_2; have := i32_m1; have := (hvz).1; have := (hvz).2; have := (h_4).1; have := (h_4).2; omega })) _ _ _ hP hD hS (lv_sub hl [0, 1, 2, 3, 4, 5, 6, 7, 8] rfl)
  · have h_5 : iv 0 7 a := zCls_t (by rw [← fr_2]; exact c_3)
    have h_6 : iv 1 1 r_2 := iv_neL c_3 hr_2 (by decide)
    refine lv_iload_n hx hb dX13_factory_12 rfl (lv_at hl 2 rfl) ?_
    have hPc := hP.sub (ws' := []) [] rfl
    have hDc := hD.sub (ws' := []) [] (by decide) rfl
    have hKc := hK.sub (tys' := []) [] rfl
    have hFc := va_free (wc := []) hD hS hA [] rfl
    refine va_calli (va_runS (As := [.int b]) (rest := []) ⟨hx, hb, hml, hown, htb⟩ (c_X13_isLetter l dC dI H.size b) (va_cwS 1 htb (gd_S kw_280 kw_281 kw_5 kw_1402) rfl rfl rfl (by decide +kernel) ⟨Nat.le_of_ble_eq_true rfl, Nat.le_of_ble_eq_true rfl⟩) ⟨fun a U g mk q => by obtain ⟨q0, q1, qP, qK, qD⟩ := q; exact ⟨q0, q1, qP, va_K.moved (u := U) (U := U.calling g mk a) (Vm.Alike.refl U.vm) qK, qD⟩, fun U hU hW => ⟨rfl, by rw [hU], by rw [hU]; exact hPc, va_K.moved hW.alike hKc, hDc.weaken (fun _ _ _ _ => trivial)⟩⟩ rfl rfl hl.1 rfl (lv_room (Nat.le_of_ble_eq_true rfl)) dX13_factory_13 ⟨Nat.zero_le _, Nat.zero_le _⟩) hS (fun q _ h => hFc q h) hFc (fun r_7 u9 t H1 locs ht hvm hw hB hz1 hk1 hS => ?_)
    have hP := ms_kept hP hz1 hk1
    generalize H1 = H at hP hS ⊢
    have fr_7 : r_7 = zLet b := hw
    have hr_7 : iv 0 1 r_7 := iv_of fr_7 (zLet_iv b)
    refine lv_if_eq (tgt := 51) hx hb dX13_factory_16 (by decide) (fun c_8 => ?_) (fun c_8 => ?_)
    · have h_9 : iv 0 0 r_7 := iv_eq c_8 hr_7 (iv_k (by decide) : iv 0 0 0) (by decide)
      exact hj51 sg_1 hvz (KS_up KS_rf esg_1 (by decide)) hI_sg_1 (Or.inl (fun q8 => by { have q2 := zCls_g (a := a); rw [← fr_2] at q2; have q7 := zLet_f (a := b); rw [← fr_7] at q7; have w2 : r_2 = 1 ↔ r_2.toInt = 1 := ⟨fun q => by rw [q]; rfl, fun q => Int32.toInt_inj.mp q⟩; have v2 : r_2 = 0 ↔ r_2.toInt = 0 := ⟨fun q => by rw [q]; rfl, fun q => Int32.toInt_inj.mp q⟩; rw [w2, v2] at q2; have w7 : r_7 = 1 ↔ r_7.toInt = 1 := ⟨fun q => by rw [q]; rfl, fun q => Int32.toInt_inj.mp q⟩; have v7 : r_7 = 0 ↔ r_7.toInt = 0 := ⟨fun q => by rw [q]; rfl, fun q => Int32.toInt_inj.mp q⟩; rw [w7, v7] at q7; have := i32_0; have := i32_1; have := i32_2; have := i32_m1; have := (hvz).1; have := (hvz).2; have := (h_6).1; have := (h_6).2; have := (h_5).1; have := (h_5).2; have := (h_9).1; have := (h_9).2; omega })) _ _ _ hP hD hS (lv_sub hl [0, 1, 2, 3, 4, 5, 6, 7, 8] rfl)
    · have h_10 : iv 0 25 b := zLet_t (by rw [← fr_7]; exact c_8)
      have h_11 : iv 1 1 r_7 := iv_neL c_8 hr_7 (by decide)
      refine lv_iload hx hb dX13_factory_19 (lv_at hl 4 rfl) ?_
      have hPc := hP.sub (ws' := []) [] rfl
      have hDc := hD.sub (ws' := []) [] (by decide) rfl
      have hKc := hK.sub (tys' := []) [] rfl
      have hFc := va_free (wc := []) hD hS hA [] rfl
      refine va_calli (va_runS (As := [.int f]) (rest := []) ⟨hx, hb, hml, hown, htb⟩ (c_X13_isClass l dC dI H.size f) (va_cwS 1 htb (gd_S kw_240 kw_241 kw_5 kw_1388) rfl rfl rfl (by decide +kernel) ⟨Nat.le_of_ble_eq_true rfl, Nat.le_of_ble_eq_true rfl⟩) ⟨fun a U g mk q => by obtain ⟨q0, q1, qP, qK, qD⟩ := q; exact ⟨q0, q1, qP, va_K.moved (u := U) (U := U.calling g mk a) (Vm.Alike.refl U.vm) qK, qD⟩, fun U hU hW => ⟨rfl, by rw [hU], by rw [hU]; exact hPc, va_K.moved hW.alike hKc, hDc.weaken (fun _ _ _ _ => trivial)⟩⟩ rfl rfl hl.1 rfl (lv_room (Nat.le_of_ble_eq_true rfl)) dX13_factory_21 ⟨Nat.zero_le _, Nat.zero_le _⟩) hS (fun q _ h => hFc q h) hFc (fun r_12 u9 t H1 locs ht hvm hw hB hz1 hk1 hS => ?_)
      have hP := ms_kept hP hz1 hk1
      generalize H1 = H at hP hS ⊢
      have fr_12 : r_12 = zCls f := hw
      have hr_12 : iv 0 1 r_12 := iv_of fr_12 (zCls_iv f)
      refine lv_if_eq (tgt := 51) hx hb dX13_factory_24 (by decide) (fun c_13 => ?_) (fun c_13 => ?_)
      · have h_14 : iv 0 0 r_12 := iv_eq c_13 hr_12 (iv_k (by decide) : iv 0 0 0) (by decide)
        exact hj51 sg_1 hvz (KS_up KS_rf esg_1 (by decide)) hI_sg_1 (Or.inl (fun q8 => by { have q2 := zCls_g (a := a); rw [← fr_2] at q2; have q7 := zLet_f (a := b); rw [← fr_7] at q7; have q12 := zCls_g (a := f); rw [← fr_12] at q12; have w12 : r_12 = 1 ↔ r_12.toInt = 1 := ⟨fun q => by rw [q]; rfl, fun q => Int32.toInt_inj.mp q⟩; have v12 : r_12 = 0 ↔ r_12.toInt = 0 := ⟨fun q => by rw [q]; rfl, fun q => Int32.toInt_inj.mp q⟩; rw [w12, v12] at q12; have w2 : r_2 = 1 ↔ r_2.toInt = 1 := ⟨fun q => by rw [q]; rfl, fun q => Int32.toInt_inj.mp q⟩; have v2 : r_2 = 0 ↔ r_2.toInt = 0 := ⟨fun q => by rw [q]; rfl, fun q => Int32.toInt_inj.mp q⟩; rw [w2, v2] at q2; have w7 : r_7 = 1 ↔ r_7.toInt = 1 := ⟨fun q => by rw [q]; rfl, fun q => Int32.toInt_inj.mp q⟩; have v7 : r_7 = 0 ↔ r_7.toInt = 0 := ⟨fun q => by rw [q]; rfl, fun q => Int32.toInt_inj.mp q⟩; rw [w7, v7] at q7; have := i32_0; have := i32_1; have := i32_2; have := i32_m1; have := (hvz).1; have := (hvz).2; have := (h_6).1; have := (h_6).2; have := (h_5).1; have := (h_5).2; have := (h_11).1; have := (h_11).2; have := (h_10).1; have := (h_10).2; have := (h_14).1; have := (h_14).2; omega })) _ _ _ hP hD hS (lv_sub hl [0, 1, 2, 3, 4, 5, 6, 7, 8] rfl)
      · have h_15 : iv 0 7 f := zCls_t (by rw [← fr_12]; exact c_13)
        have h_16 : iv 1 1 r_12 := iv_neL c_13 hr_12 (by decide)
        refine lv_iload hx hb dX13_factory_27 (lv_at hl 5 rfl) ?_
        refine lv_iload hx hb dX13_factory_29 (lv_at hl 6 rfl) ?_
        refine lv_iload hx hb dX13_factory_31 (lv_at hl 7 rfl) ?_
        refine lv_iload hx hb dX13_factory_33 (lv_at hl 8 rfl) ?_
        have hPc := hP.sub (ws' := []) [] rfl
        have hDc := hD.sub (ws' := []) [] (by decide) rfl
        have hKc := hK.sub (tys' := []) [] rfl
        have hFc := va_free (wc := []) hD hS hA [] rfl
        refine va_calli (va_runS (As := [.int g, .int k, .int n1, .int n2]) (rest := []) ⟨hx, hb, hml, hown, htb⟩ (c_X13_areTypes l dC dI H.size g k n1 n2) (va_cwS 4 htb (gd_S kw_265 kw_266 kw_5 kw_1396) rfl rfl rfl (by decide +kernel) ⟨Nat.le_of_ble_eq_true rfl, Nat.le_of_ble_eq_true rfl⟩) ⟨fun a U g mk q => by obtain ⟨q0, q1, qP, qK, qD⟩ := q; exact ⟨q0, q1, qP, va_K.moved (u := U) (U := U.calling g mk a) (Vm.Alike.refl U.vm) qK, qD⟩, fun U hU hW => ⟨rfl, by rw [hU], by rw [hU]; exact hPc, va_K.moved hW.alike hKc, hDc.weaken (fun _ _ _ _ => trivial)⟩⟩ rfl rfl hl.1 rfl (lv_room (Nat.le_of_ble_eq_true rfl)) dX13_factory_35 ⟨Nat.zero_le _, Nat.zero_le _⟩) hS (fun q _ h => hFc q h) hFc (fun r_17 u9 t H1 locs ht hvm hw hB hz1 hk1 hS => ?_)
        have hP := ms_kept hP hz1 hk1
        generalize H1 = H at hP hS ⊢
        have fr_17 : r_17 = zTys g k n1 n2 := hw
        have hr_17 : iv 0 1 r_17 := iv_of fr_17 (zTys_iv g k n1 n2)
        refine lv_if_eq (tgt := 51) hx hb dX13_factory_38 (by decide) (fun c_18 => ?_) (fun c_18 => ?_)
        · have h_19 : iv 0 0 r_17 := iv_eq c_18 hr_17 (iv_k (by decide) : iv 0 0 0) (by decide)
          exact hj51 sg_1 hvz (KS_up KS_rf esg_1 (by decide)) hI_sg_1 (Or.inl (fun q8 => by { have q2 := zCls_g (a := a); rw [← fr_2] at q2; have q7 := zLet_f (a := b); rw [← fr_7] at q7; have q12 := zCls_g (a := f); rw [← fr_12] at q12; have q17 := zTys_f (n := g) (a := k) (b := n1) (c := n2); rw [← fr_17] at q17; have w12 : r_12 = 1 ↔ r_12.toInt = 1 := ⟨fun q => by rw [q]; rfl, fun q => Int32.toInt_inj.mp q⟩; have v12 : r_12 = 0 ↔ r_12.toInt = 0 := ⟨fun q => by rw [q]; rfl, fun q => Int32.toInt_inj.mp q⟩; rw [w12, v12] at q12; have w17 : r_17 = 1 ↔ r_17.toInt = 1 := ⟨fun q => by rw [q]; rfl, fun q => Int32.toInt_inj.mp q⟩; have v17 : r_17 = 0 ↔ r_17.toInt = 0 := ⟨fun q => by rw [q]; rfl, fun q => Int32.toInt_inj.mp q⟩; rw [w17, v17] at q17; have w2 : r_2 = 1 ↔ r_2.toInt = 1 := ⟨fun q => by rw [q]; rfl, fun q => Int32.toInt_inj.mp q⟩; have v2 : r_2 = 0 ↔ r_2.toInt = 0 := ⟨fun q => by rw [q]; rfl, fun q => Int32.toInt_inj.mp q⟩; rw [w2, v2] at q2; have w7 : r_7 = 1 ↔ r_7.toInt = 1 := ⟨fun q => by rw [q]; rfl, fun q => Int32.toInt_inj.mp q⟩; have v7 : r_7 = 0 ↔ r_7.toInt = 0 := ⟨fun q => by rw [q]; rfl, fun q => Int32.toInt_inj.mp q⟩; rw [w7, v7] at q7; have := i32_0; have := i32_1; have := i32_2; have := i32_m1; have := (hvz).1; have := (hvz).2; have := (h_6).1; have := (h_6).2; have := (h_5).1; have := (h_5).2; have := (h_11).1; have := (h_11).2; have := (h_10).1; have := (h_10).2; have := (h_16).1; have := (h_16).2; have := (h_15).1; have := (h_15).2; have := (h_19).1; have := (h_19).2; omega })) _ _ _ hP hD hS (lv_sub hl [0, 1, 2, 3, 4, 5, 6, 7, 8] rfl)
        · have h_20 : iv 0 3 g := zTys_t (by rw [← fr_17]; exact c_18)
          have h_21 : iv 1 1 r_17 := iv_neL c_18 hr_17 (by decide)
          refine lv_aload_n hx hb dX13_factory_41 rfl (lv_at hl 0 rfl) ?_
          refine mr_get (v := .ref (ad 13)) hx hb htb inX13 hown hK hP 13 (by decide) (htb _ kw_172) rfl dX13_factory_42 ?_
          refine lv_iload_n hx hb dX13_factory_45 rfl (lv_at hl 1 rfl) ?_
          refine mr_iald hx hb hK hP 12 (k := 13) rfl rfl rfl (show vp_in a 8 from (iv_in h_5 (by decide))) dX13_factory_46 ?_
          refine lv_topi (fun z_22 ez_22 => ?_)
          have hz_22 : iv 0 4 z_22 := iv_of ez_22 (MI_a hI_sg_1 13 h_5 (by decide))
          refine lv_iconst (v := 4) hx hb dX13_factory_47 (by decide) ?_
          refine lv_icmp_ne (tgt := 53) hx hb dX13_factory_48 (by decide) (fun c_23 => ?_) (fun c_23 => ?_)
          · have h_24 : iv 0 3 z_22 := iv_neH c_23 hz_22 (by decide)
            refine lv_iconst (v := 4) hx hb dX13_factory_53 (by decide) ?_
            refine lv_iload_n hx hb dX13_factory_54 rfl (lv_at hl 1 rfl) ?_
            refine lv_imul hx hb dX13_factory_55 ?_
            refine lv_topi (fun z_25 ez_25 => ?_)
            have hz_25 : iv 0 28 z_25 := iv_of ez_25 (iv_mul (iv_k (by decide) : iv 4 4 4) h_5 (by decide))
            have tz_25 : z_25.toInt = 4 * (a : Int32).toInt := by rw [ez_25]; exact iv_mulE (iv_k (by decide) : iv 4 4 4) h_5 (by decide)
            refine lv_aload_n hx hb dX13_factory_56 rfl (lv_at hl 0 rfl) ?_
            refine mr_get (v := .ref (ad 13)) hx hb htb inX13 hown hK hP 13 (by decide) (htb _ kw_172) rfl dX13_factory_57 ?_
            refine lv_iload_n hx hb dX13_factory_60 rfl (lv_at hl 1 rfl) ?_
            refine mr_iald hx hb hK hP 12 (k := 13) rfl rfl rfl (show vp_in a 8 from (iv_in h_5 (by decide))) dX13_factory_61 ?_
            refine lv_topi (fun z_26 ez_26 => ?_)
            obtain rfl : z_22 = z_26 := ez_22.trans ez_26.symm
            refine lv_iadd hx hb dX13_factory_62 ?_
            refine lv_topi (fun z_27 ez_27 => ?_)
            have hz_27 : iv 0 31 z_27 := iv_of ez_27 (iv_add hz_25 h_24 (by decide))
            have tz_27 : z_27.toInt = (z_25 : Int32).toInt + (z_22 : Int32).toInt := by rw [ez_27]; exact iv_addE hz_25 h_24 (by decide)
            refine lv_istore (lv' := [(9, .int z_27), (0, .ref h0), (1, .int a), (2, .int b), (3, .int z), (4, .int f), (5, .int g), (6, .int k), (7, .int n1), (8, .int n2)]) hx hb dX13_factory_63 hl (by decide) rfl (fun ls hl => ?_)
            refine lv_aload_n hx hb dX13_factory_65 rfl (lv_at hl 1 rfl) ?_
            refine mr_get (v := .ref (ad 14)) hx hb htb inX13 hown hK hP 14 (by decide) (htb _ kw_173) rfl dX13_factory_66 ?_
            refine lv_iload hx hb dX13_factory_69 (lv_at hl 0 rfl) ?_
            refine lv_iload_n hx hb dX13_factory_71 rfl (lv_at hl 3 rfl) ?_
            refine ma_iast (x := b) hx hb hK hP hD hS 13 (k := 14) rfl rfl rfl (show vp_in z_27 32 from (iv_in hz_27 (by decide))) dX13_factory_72 (fun gm_28 H locs egm_28 hP hD hS => ?_)
            have hI_gm_28 := MI_st hI_sg_1 egm_28 h_10 (by decide)
            refine lv_aload_n hx hb dX13_factory_73 rfl (lv_at hl 1 rfl) ?_
            refine mr_get (v := .ref (ad 18)) hx hb htb inX13 hown hK hP 18 (by decide) (htb _ kw_178) rfl dX13_factory_74 ?_
            refine lv_iload hx hb dX13_factory_77 (lv_at hl 0 rfl) ?_
            refine lv_iload_n hx hb dX13_factory_79 rfl (lv_at hl 4 rfl) ?_
            refine ma_zast (x := z) hx hb hK hP hD hS 17 (k := 18) rfl rfl rfl (show vp_in z_27 32 from (iv_in hz_27 (by decide))) dX13_factory_80 (fun gm_29 H locs egm_29 hP hD hS => ?_)
            have hI_gm_29 := MI_st hI_gm_28 egm_29 (iv_of (iv_vb hvz) hvz) (by decide)
            refine lv_aload_n hx hb dX13_factory_81 rfl (lv_at hl 1 rfl) ?_
            refine mr_get (v := .ref (ad 15)) hx hb htb inX13 hown hK hP 15 (by decide) (htb _ kw_174) rfl dX13_factory_82 ?_
            refine lv_iload hx hb dX13_factory_85 (lv_at hl 0 rfl) ?_
            refine lv_iload hx hb dX13_factory_87 (lv_at hl 5 rfl) ?_
            refine ma_iast (x := f) hx hb hK hP hD hS 14 (k := 15) rfl rfl rfl (show vp_in z_27 32 from (iv_in hz_27 (by decide))) dX13_factory_89 (fun gm_30 H locs egm_30 hP hD hS => ?_)
            have hI_gm_30 := MI_st hI_gm_29 egm_30 h_15 (by decide)
            refine lv_aload_n hx hb dX13_factory_90 rfl (lv_at hl 1 rfl) ?_
            refine mr_get (v := .ref (ad 16)) hx hb htb inX13 hown hK hP 16 (by decide) (htb _ kw_175) rfl dX13_factory_91 ?_
            refine lv_iload hx hb dX13_factory_94 (lv_at hl 0 rfl) ?_
            refine lv_iload hx hb dX13_factory_96 (lv_at hl 6 rfl) ?_
            refine ma_iast (x := g) hx hb hK hP hD hS 15 (k := 16) rfl rfl rfl (show vp_in z_27 32 from (iv_in hz_27 (by decide))) dX13_factory_98 (fun gm_31 H locs egm_31 hP hD hS => ?_)
            have hI_gm_31 := MI_st hI_gm_30 egm_31 h_20 (by decide)
            refine lv_aload_n hx hb dX13_factory_99 rfl (lv_at hl 1 rfl) ?_
            refine mr_get (v := .ref (ad 17)) hx hb htb inX13 hown hK hP 17 (by decide) (htb _ kw_176) rfl dX13_factory_100 ?_
            refine lv_iconst (v := 3) hx hb dX13_factory_103 (by decide) ?_
            refine lv_iload hx hb dX13_factory_104 (lv_at hl 0 rfl) ?_
            refine lv_imul hx hb dX13_factory_106 ?_
            refine lv_topi (fun z_32 ez_32 => ?_)
            have hz_32 : iv 0 93 z_32 := iv_of ez_32 (iv_mul (iv_k (by decide) : iv 3 3 3) hz_27 (by decide))
            have tz_32 : z_32.toInt = 3 * (z_27 : Int32).toInt := by rw [ez_32]; exact iv_mulE (iv_k (by decide) : iv 3 3 3) hz_27 (by decide)
            refine lv_iload hx hb dX13_factory_107 (lv_at hl 7 rfl) ?_
            refine ma_iast (x := k) hx hb hK hP hD hS 16 (k := 17) rfl rfl rfl (show vp_in z_32 96 from (iv_in hz_32 (by decide))) dX13_factory_109 (fun gm_33 H locs egm_33 hP hD hS => ?_)
            have hI_gm_33 := MI_st hI_gm_31 egm_33 (iv_all k) (by decide)
            refine lv_aload_n hx hb dX13_factory_110 rfl (lv_at hl 1 rfl) ?_
            refine mr_get (v := .ref (ad 17)) hx hb htb inX13 hown hK hP 17 (by decide) (htb _ kw_176) rfl dX13_factory_111 ?_
            refine lv_iconst (v := 3) hx hb dX13_factory_114 (by decide) ?_
            refine lv_iload hx hb dX13_factory_115 (lv_at hl 0 rfl) ?_
            refine lv_imul hx hb dX13_factory_117 ?_
            refine lv_topi (fun z_34 ez_34 => ?_)
            obtain rfl : z_32 = z_34 := ez_32.trans ez_34.symm
            refine lv_iconst (v := 1) hx hb dX13_factory_118 (by decide) ?_
            refine lv_iadd hx hb dX13_factory_119 ?_
            refine lv_topi (fun z_35 ez_35 => ?_)
            have hz_35 : iv 1 94 z_35 := iv_of ez_35 (iv_add hz_32 (iv_k (by decide) : iv 1 1 1) (by decide))
            have tz_35 : z_35.toInt = (z_32 : Int32).toInt + 1 := by rw [ez_35]; exact iv_addE hz_32 (iv_k (by decide) : iv 1 1 1) (by decide)
            refine lv_iload hx hb dX13_factory_120 (lv_at hl 8 rfl) ?_
            refine ma_iast (x := n1) hx hb hK hP hD hS 16 (k := 17) rfl rfl rfl (show vp_in z_35 96 from (iv_in hz_35 (by decide))) dX13_factory_122 (fun gm_36 H locs egm_36 hP hD hS => ?_)
            have hI_gm_36 := MI_st hI_gm_33 egm_36 (iv_all n1) (by decide)
            refine lv_aload_n hx hb dX13_factory_123 rfl (lv_at hl 1 rfl) ?_
            refine mr_get (v := .ref (ad 17)) hx hb htb inX13 hown hK hP 17 (by decide) (htb _ kw_176) rfl dX13_factory_124 ?_
            refine lv_iconst (v := 3) hx hb dX13_factory_127 (by decide) ?_
            refine lv_iload hx hb dX13_factory_128 (lv_at hl 0 rfl) ?_
            refine lv_imul hx hb dX13_factory_130 ?_
            refine lv_topi (fun z_37 ez_37 => ?_)
            obtain rfl : z_32 = z_37 := ez_32.trans ez_37.symm
            refine lv_iconst (v := 2) hx hb dX13_factory_131 (by decide) ?_
            refine lv_iadd hx hb dX13_factory_132 ?_
            refine lv_topi (fun z_38 ez_38 => ?_)
            have hz_38 : iv 2 95 z_38 := iv_of ez_38 (iv_add hz_32 (iv_k (by decide) : iv 2 2 2) (by decide))
            have tz_38 : z_38.toInt = (z_32 : Int32).toInt + 2 := by rw [ez_38]; exact iv_addE hz_32 (iv_k (by decide) : iv 2 2 2) (by decide)
            refine lv_iload hx hb dX13_factory_133 (lv_at hl 9 rfl) ?_
            refine ma_iast (x := n2) hx hb hK hP hD hS 16 (k := 17) rfl rfl rfl (show vp_in z_38 96 from (iv_in hz_38 (by decide))) dX13_factory_135 (fun gm_39 H locs egm_39 hP hD hS => ?_)
            have hI_gm_39 := MI_st hI_gm_36 egm_39 (iv_all n2) (by decide)
            refine lv_aload_n hx hb dX13_factory_136 rfl (lv_at hl 1 rfl) ?_
            refine mr_get (v := .ref (ad 13)) hx hb htb inX13 hown hK hP 13 (by decide) (htb _ kw_172) rfl dX13_factory_137 ?_
            refine lv_iload_n hx hb dX13_factory_140 rfl (lv_at hl 2 rfl) ?_
            refine lv_dup2_11 hx hb dX13_factory_141 rfl rfl ?_
            refine mr_iald hx hb hK hP 12 (k := 13) rfl rfl rfl (show vp_in a 8 from (iv_in h_5 (by decide))) dX13_factory_142 ?_
            refine lv_topi (fun z_40 ez_40 => ?_)
            obtain rfl : z_22 = z_40 := ez_22.trans (ez_40.trans (congrFun (Eq.trans (Eq.trans (Eq.trans (Eq.trans (Eq.trans (Eq.trans (up_ne egm_39 (by decide)) (up_ne egm_36 (by decide))) (up_ne egm_33 (by decide))) (up_ne egm_31 (by decide))) (up_ne egm_30 (by decide))) (up_ne egm_29 (by decide))) (up_ne egm_28 (by decide))) _)).symm
            refine lv_iconst (v := 1) hx hb dX13_factory_143 (by decide) ?_
            refine lv_iadd hx hb dX13_factory_144 ?_
            refine lv_topi (fun z_41 ez_41 => ?_)
            have hz_41 : iv 1 4 z_41 := iv_of ez_41 (iv_add h_24 (iv_k (by decide) : iv 1 1 1) (by decide))
            have tz_41 : z_41.toInt = (z_22 : Int32).toInt + 1 := by rw [ez_41]; exact iv_addE h_24 (iv_k (by decide) : iv 1 1 1) (by decide)
            refine ma_iast (x := z_41) hx hb hK hP hD hS 12 (k := 13) rfl rfl rfl (show vp_in a 8 from (iv_in h_5 (by decide))) dX13_factory_145 (fun gm_42 H locs egm_42 hP hD hS => ?_)
            have hI_gm_42 := MI_st hI_gm_39 egm_42 hz_41 (by decide)
            refine lv_iconst (v := 1) hx hb dX13_factory_146 (by decide) ?_
            exact W.zret (v := 1) hx hb hr (iv_nb (iv_w (iv_k (by decide) : iv 1 1 1) (by decide))) (fun t ht hW => ⟨⟨1, (sg_1, gm_42, lg), rfl, ⟨sg_1, gm_42, lg, rfl, hI_gm_42, (KS_up KS_rf esg_1 (by decide)), (KS_up (KS_up (KS_up (KS_up (KS_up (KS_up (KS_up (KS_up KS_rf egm_28 (by decide)) egm_29 (by decide)) egm_30 (by decide)) egm_31 (by decide)) egm_33 (by decide)) egm_36 (by decide)) egm_39 (by decide)) egm_42 (by decide)), KS_rf, (iv_w (iv_k (by decide) : iv 1 1 1) (by decide)), (Or.inl ⟨rfl, by { have q2 := zCls_g (a := a); rw [← fr_2] at q2; have q7 := zLet_f (a := b); rw [← fr_7] at q7; have q12 := zCls_g (a := f); rw [← fr_12] at q12; have q17 := zTys_f (n := g) (a := k) (b := n1) (c := n2); rw [← fr_17] at q17; have w12 : r_12 = 1 ↔ r_12.toInt = 1 := ⟨fun q => by rw [q]; rfl, fun q => Int32.toInt_inj.mp q⟩; have v12 : r_12 = 0 ↔ r_12.toInt = 0 := ⟨fun q => by rw [q]; rfl, fun q => Int32.toInt_inj.mp q⟩; rw [w12, v12] at q12; have w17 : r_17 = 1 ↔ r_17.toInt = 1 := ⟨fun q => by rw [q]; rfl, fun q => Int32.toInt_inj.mp q⟩; have v17 : r_17 = 0 ↔ r_17.toInt = 0 := ⟨fun q => by rw [q]; rfl, fun q => Int32.toInt_inj.mp q⟩; rw [w17, v17] at q17; have w2 : r_2 = 1 ↔ r_2.toInt = 1 := ⟨fun q => by rw [q]; rfl, fun q => Int32.toInt_inj.mp q⟩; have v2 : r_2 = 0 ↔ r_2.toInt = 0 := ⟨fun q => by rw [q]; rfl, fun q => Int32.toInt_inj.mp q⟩; rw [w2, v2] at q2; have w7 : r_7 = 1 ↔ r_7.toInt = 1 := ⟨fun q => by rw [q]; rfl, fun q => Int32.toInt_inj.mp q⟩; have v7 : r_7 = 0 ↔ r_7.toInt = 0 := ⟨fun q => by rw [q]; rfl, fun q => Int32.toInt_inj.mp q⟩; rw [w7, v7] at q7; have := i32_0; have := i32_1; have := i32_2; have := i32_m1; have := (hvz).1; have := (hvz).2; have := (h_6).1; have := (h_6).2; have := (h_5).1; have := (h_5).2; have := (h_11).1; have := (h_11).2; have := (h_10).1; have := (h_10).2; have := (h_16).1; have := (h_16).2; have := (h_15).1; have := (h_15).2; have := (h_21).1; have := (h_21).2; have := (h_20).1; have := (h_20).2; have := (h_24).1; have := (h_24).2; have := (hz_25).1; have := (hz_25).2; have := (hz_27).1; have := (hz_27).2; have := (hz_32).1; have := (hz_32).2; have := (hz_35).1; have := (hz_35).2; have := (hz_38).1; have := (hz_38).2; have := (hz_41).1; have := (hz_41).2; omega }, (by { rw [← ez_22]; have := i32_0; have := i32_1; have := i32_2; have := i32_m1; have := (hvz).1; have := (hvz).2; have := (h_6).1; have := (h_6).2; have := (h_5).1; have := (h_5).2; have := (h_11).1; have := (h_11).2; have := (h_10).1; have := (h_10).2; have := (h_16).1; have := (h_16).2; have := (h_15).1; have := (h_15).2; have := (h_21).1; have := (h_21).2; have := (h_20).1; have := (h_20).2; have := (h_24).1; have := (h_24).2; have := (hz_25).1; have := (hz_25).2; have := (hz_27).1; have := (hz_27).2; have := (hz_32).1; have := (hz_32).2; have := (hz_35).1; have := (hz_35).2; have := (hz_38).1; have := (hz_38).2; have := (hz_41).1; have := (hz_41).2; omega }), ⟨_, (by { rw [← ez_22]; have := i32_0; have := i32_1; have := i32_2; have := i32_m1; have := (hvz).1; have := (hvz).2; have := (h_6).1; have := (h_6).2; have := (h_5).1; have := (h_5).2; have := (h_11).1; have := (h_11).2; have := (h_10).1; have := (h_10).2; have := (h_16).1; have := (h_16).2; have := (h_15).1; have := (h_15).2; have := (h_21).1; have := (h_21).2; have := (h_20).1; have := (h_20).2; have := (h_24).1; have := (h_24).2; have := (hz_25).1; have := (hz_25).2; have := (hz_27).1; have := (hz_27).2; have := (hz_32).1; have := (hz_32).2; have := (hz_35).1; have := (hz_35).2; have := (hz_38).1; have := (hz_38).2; have := (hz_41).1; have := (hz_41).2; omega }), (show gm_42 13 = upd (gm 13) (a : Int32).toNatClampNeg z_41 from ((up_at egm_42).trans (by rw [show gm_39 13 = gm 13 from ((up_ne egm_39 (by decide)).trans ((up_ne egm_36 (by decide)).trans ((up_ne egm_33 (by decide)).trans ((up_ne egm_31 (by decide)).trans ((up_ne egm_30 (by decide)).trans ((up_ne egm_29 (by decide)).trans ((up_ne egm_28 (by decide)).trans rfl)))))))])))⟩, (by rw [← ez_22, show 4 * a.toNatClampNeg + z_22.toNatClampNeg = z_27.toNatClampNeg from (by { have k0 : a.toNatClampNeg = a.toInt.toNat := rfl; have k1 : z_22.toNatClampNeg = z_22.toInt.toNat := rfl; have k2 : z_27.toNatClampNeg = z_27.toInt.toNat := rfl; have := i32_0; have := i32_1; have := i32_2; have := i32_m1; have := (hvz).1; have := (hvz).2; have := (h_6).1; have := (h_6).2; have := (h_5).1; have := (h_5).2; have := (h_11).1; have := (h_11).2; have := (h_10).1; have := (h_10).2; have := (h_16).1; have := (h_16).2; have := (h_15).1; have := (h_15).2; have := (h_21).1; have := (h_21).2; have := (h_20).1; have := (h_20).2; have := (h_24).1; have := (h_24).2; have := (hz_25).1; have := (hz_25).2; have := (hz_27).1; have := (hz_27).2; have := (hz_32).1; have := (hz_32).2; have := (hz_35).1; have := (hz_35).2; have := (hz_38).1; have := (hz_38).2; have := (hz_41).1; have := (hz_41).2; omega })]; exact (show gm_42 14 = upd (gm 14) (z_27 : Int32).toNatClampNeg b from ((up_ne egm_42 (by decide)).trans ((up_ne egm_39 (by decide)).trans ((up_ne egm_36 (by decide)).trans ((up_ne egm_33 (by decide)).trans ((up_ne egm_31 (by decide)).trans ((up_ne egm_30 (by decide)).trans ((up_ne egm_29 (by decide)).trans ((up_at egm_28).trans (by rw [show gm 14 = gm 14 from rfl]))))))))))), (by rw [← ez_22, show 4 * a.toNatClampNeg + z_22.toNatClampNeg = z_27.toNatClampNeg from (by { have k0 : a.toNatClampNeg = a.toInt.toNat := rfl; have k1 : z_22.toNatClampNeg = z_22.toInt.toNat := rfl; have k2 : z_27.toNatClampNeg = z_27.toInt.toNat := rfl; have := i32_0; have := i32_1; have := i32_2; have := i32_m1; have := (hvz).1; have := (hvz).2; have := (h_6).1; have := (h_6).2; have := (h_5).1; have := (h_5).2; have := (h_11).1; have := (h_11).2; have := (h_10).1; have := (h_10).2; have := (h_16).1; have := (h_16).2; have := (h_15).1; have := (h_15).2; have := (h_21).1; have := (h_21).2; have := (h_20).1; have := (h_20).2; have := (h_24).1; have := (h_24).2; have := (hz_25).1; have := (hz_25).2; have := (hz_27).1; have := (hz_27).2; have := (hz_32).1; have := (hz_32).2; have := (hz_35).1; have := (hz_35).2; have := (hz_38).1; have := (hz_38).2; have := (hz_41).1; have := (hz_41).2; omega })]; exact ((show gm_42 18 = upd (gm 18) (z_27 : Int32).toNatClampNeg (vp_nar .boolean z) from ((up_ne egm_42 (by decide)).trans ((up_ne egm_39 (by decide)).trans ((up_ne egm_36 (by decide)).trans ((up_ne egm_33 (by decide)).trans ((up_ne egm_31 (by decide)).trans ((up_ne egm_30 (by decide)).trans ((up_at egm_29).trans (by rw [show gm_28 18 = gm 18 from ((up_ne egm_28 (by decide)).trans rfl)]))))))))).trans (by rw [iv_vb hvz]))), (by rw [← ez_22, show 4 * a.toNatClampNeg + z_22.toNatClampNeg = z_27.toNatClampNeg from (by { have k0 : a.toNatClampNeg = a.toInt.toNat := rfl; have k1 : z_22.toNatClampNeg = z_22.toInt.toNat := rfl; have k2 : z_27.toNatClampNeg = z_27.toInt.toNat := rfl; have := i32_0; have := i32_1; have := i32_2; have := i32_m1; have := (hvz).1; have := (hvz).2; have := (h_6).1; have := (h_6).2; have := (h_5).1; have := (h_5).2; have := (h_11).1; have := (h_11).2; have := (h_10).1; have := (h_10).2; have := (h_16).1; have := (h_16).2; have := (h_15).1; have := (h_15).2; have := (h_21).1; have := (h_21).2; have := (h_20).1; have := (h_20).2; have := (h_24).1; have := (h_24).2; have := (hz_25).1; have := (hz_25).2; have := (hz_27).1; have := (hz_27).2; have := (hz_32).1; have := (hz_32).2; have := (hz_35).1; have := (hz_35).2; have := (hz_38).1; have := (hz_38).2; have := (hz_41).1; have := (hz_41).2; omega })]; exact (show gm_42 15 = upd (gm 15) (z_27 : Int32).toNatClampNeg f from ((up_ne egm_42 (by decide)).trans ((up_ne egm_39 (by decide)).trans ((up_ne egm_36 (by decide)).trans ((up_ne egm_33 (by decide)).trans ((up_ne egm_31 (by decide)).trans ((up_at egm_30).trans (by rw [show gm_29 15 = gm 15 from ((up_ne egm_29 (by decide)).trans ((up_ne egm_28 (by decide)).trans rfl))]))))))))), (by rw [← ez_22, show 4 * a.toNatClampNeg + z_22.toNatClampNeg = z_27.toNatClampNeg from (by { have k0 : a.toNatClampNeg = a.toInt.toNat := rfl; have k1 : z_22.toNatClampNeg = z_22.toInt.toNat := rfl; have k2 : z_27.toNatClampNeg = z_27.toInt.toNat := rfl; have := i32_0; have := i32_1; have := i32_2; have := i32_m1; have := (hvz).1; have := (hvz).2; have := (h_6).1; have := (h_6).2; have := (h_5).1; have := (h_5).2; have := (h_11).1; have := (h_11).2; have := (h_10).1; have := (h_10).2; have := (h_16).1; have := (h_16).2; have := (h_15).1; have := (h_15).2; have := (h_21).1; have := (h_21).2; have := (h_20).1; have := (h_20).2; have := (h_24).1; have := (h_24).2; have := (hz_25).1; have := (hz_25).2; have := (hz_27).1; have := (hz_27).2; have := (hz_32).1; have := (hz_32).2; have := (hz_35).1; have := (hz_35).2; have := (hz_38).1; have := (hz_38).2; have := (hz_41).1; have := (hz_41).2; omega })]; exact (show gm_42 16 = upd (gm 16) (z_27 : Int32).toNatClampNeg g from ((up_ne egm_42 (by decide)).trans ((up_ne egm_39 (by decide)).trans ((up_ne egm_36 (by decide)).trans ((up_ne egm_33 (by decide)).trans ((up_at egm_31).trans (by rw [show gm_30 16 = gm 16 from ((up_ne egm_30 (by decide)).trans ((up_ne egm_29 (by decide)).trans ((up_ne egm_28 (by decide)).trans rfl)))])))))))), (by rw [← ez_22, show 3 * (4 * a.toNatClampNeg + z_22.toNatClampNeg) + 2 = z_38.toNatClampNeg from (by { have k0 : a.toNatClampNeg = a.toInt.toNat := rfl; have k1 : z_22.toNatClampNeg = z_22.toInt.toNat := rfl; have k2 : z_38.toNatClampNeg = z_38.toInt.toNat := rfl; have := i32_0; have := i32_1; have := i32_2; have := i32_m1; have := (hvz).1; have := (hvz).2; have := (h_6).1; have := (h_6).2; have := (h_5).1; have := (h_5).2; have := (h_11).1; have := (h_11).2; have := (h_10).1; have := (h_10).2; have := (h_16).1; have := (h_16).2; have := (h_15).1; have := (h_15).2; have := (h_21).1; have := (h_21).2; have := (h_20).1; have := (h_20).2; have := (h_24).1; have := (h_24).2; have := (hz_25).1; have := (hz_25).2; have := (hz_27).1; have := (hz_27).2; have := (hz_32).1; have := (hz_32).2; have := (hz_35).1; have := (hz_35).2; have := (hz_38).1; have := (hz_38).2; have := (hz_41).1; have := (hz_41).2; omega }), show 3 * (4 * a.toNatClampNeg + z_22.toNatClampNeg) + 1 = z_35.toNatClampNeg from (by { have k0 : a.toNatClampNeg = a.toInt.toNat := rfl; have k1 : z_22.toNatClampNeg = z_22.toInt.toNat := rfl; have k2 : z_35.toNatClampNeg = z_35.toInt.toNat := rfl; have := i32_0; have := i32_1; have := i32_2; have := i32_m1; have := (hvz).1; have := (hvz).2; have := (h_6).1; have := (h_6).2; have := (h_5).1; have := (h_5).2; have := (h_11).1; have := (h_11).2; have := (h_10).1; have := (h_10).2; have := (h_16).1; have := (h_16).2; have := (h_15).1; have := (h_15).2; have := (h_21).1; have := (h_21).2; have := (h_20).1; have := (h_20).2; have := (h_24).1; have := (h_24).2; have := (hz_25).1; have := (hz_25).2; have := (hz_27).1; have := (hz_27).2; have := (hz_32).1; have := (hz_32).2; have := (hz_35).1; have := (hz_35).2; have := (hz_38).1; have := (hz_38).2; have := (hz_41).1; have := (hz_41).2; omega }), show 3 * (4 * a.toNatClampNeg + z_22.toNatClampNeg) = z_32.toNatClampNeg from (by { have k0 : a.toNatClampNeg = a.toInt.toNat := rfl; have k1 : z_22.toNatClampNeg = z_22.toInt.toNat := rfl; have k2 : z_32.toNatClampNeg = z_32.toInt.toNat := rfl; have := i32_0; have := i32_1; have := i32_2; have := i32_m1; have := (hvz).1; have := (hvz).2; have := (h_6).1; have := (h_6).2; have := (h_5).1; have := (h_5).2; have := (h_11).1; have := (h_11).2; have := (h_10).1; have := (h_10).2; have := (h_16).1; have := (h_16).2; have := (h_15).1; have := (h_15).2; have := (h_21).1; have := (h_21).2; have := (h_20).1; have := (h_20).2; have := (h_24).1; have := (h_24).2; have := (hz_25).1; have := (hz_25).2; have := (hz_27).1; have := (hz_27).2; have := (hz_32).1; have := (hz_32).2; have := (hz_35).1; have := (hz_35).2; have := (hz_38).1; have := (hz_38).2; have := (hz_41).1; have := (hz_41).2; omega })]; exact (show gm_42 17 = upd (upd (upd (gm 17) (z_32 : Int32).toNatClampNeg k) (z_35 : Int32).toNatClampNeg n1) (z_38 : Int32).toNatClampNeg n2 from ((up_ne egm_42 (by decide)).trans ((up_at egm_39).trans (by rw [show gm_36 17 = upd (upd (gm 17) (z_32 : Int32).toNatClampNeg k) (z_35 : Int32).toNatClampNeg n1 from ((up_at egm_36).trans (by rw [show gm_33 17 = upd (gm 17) (z_32 : Int32).toNatClampNeg k from ((up_at egm_33).trans (by rw [show gm_31 17 = gm 17 from ((up_ne egm_31 (by decide)).trans ((up_ne egm_30 (by decide)).trans ((up_ne egm_29 (by decide)).trans ((up_ne egm_28 (by decide)).trans rfl))))]))]))])))))⟩)⟩, by rw [ht]; exact hP, va_K.moved hW.alike hK, hD⟩, hS.F ht⟩) hS.2.2 dX13_factory_147
          · have h_43 : iv 4 4 z_22 := iv_eq c_23 hz_22 (iv_k (by decide) : iv 4 4 4) (by decide)
            exact hj51 sg_1 hvz (KS_up KS_rf esg_1 (by decide)) hI_sg_1 (Or.inr (by { rw [← ez_22]; have := i32_0; have := i32_1; have := i32_2; have := i32_m1; have := (hvz).1; have := (hvz).2; have := (h_6).1; have := (h_6).2; have := (h_5).1; have := (h_5).2; have := (h_11).1; have := (h_11).2; have := (h_10).1; have := (h_10).2; have := (h_16).1; have := (h_16).2; have := (h_15).1; have := (h_15).2; have := (h_21).1; have := (h_21).2; have := (h_20).1; have := (h_20).2; have := (h_43).1; have := (h_43).2; omega })) _ _ _ hP hD hS (lv_sub hl [0, 1, 2, 3, 4, 5, 6, 7, 8] rfl)
end
section
set_option maxHeartbeats 4000000 in
set_option maxRecDepth 100000 in
theorem a_setter9 (l : Launch) (dC : Nat → ClassId) (dI : Nat → Nat → Nat) (h0 : Nat) (ad : Nat → Nat) (cid : Nat → ClassId) (sg : Nat → Int32) (gm : Nat → Nat → Int32) (lg : Nat → Nat → Int64) (a : Int32) (b : Int32) (f : Int32) (hI : MI sg gm) : MMi l dC dI yX13_setter wm_X13_setter ({ frames := 1, cells := 0, slots := 0, locals := 20 }) h0 ad cid [.int a, .int b, .int f] sg gm lg (fun r v => ∃ (sg2 : Nat → Int32) (gm2 : Nat → Nat → Int32) (lg2 : Nat → Nat → Int64), v = (sg2, gm2, lg2) ∧ MI sg2 gm2 ∧ KS [5] sg sg2 ∧ KS [10, 11, 12] gm gm2 ∧ KS [] lg lg2 ∧ (iv 0 1 r) ∧ (RAS (0 ≤ a.toInt ∧ a.toInt ≤ 7 ∧ 0 ≤ b.toInt ∧ b.toInt ≤ 25 ∧ (0 ≤ f.toInt ∧ f.toInt ≤ 4 ∨ 8 ≤ f.toInt ∧ f.toInt ≤ 15)) r a.toNatClampNeg b f gm gm2)) := by
  intro sz
  refine Met.ofW (cc := cX13_setter) (maxL := 5) (ret := (some .boolean)) (by decide) rfl ?_
  intro p e s m args below meth c s₁ B hml hv
  obtain ⟨rfl, hsz, hP, hK, hD0⟩ := hv
  have hx := B.exec
  have hb := B.bytes
  have hr := B.returns
  have hts := atoms_spec (ws := wm_X13_setter) B.pre
  have htb := fun (w : Cond) (h : w ∈ tb) => hts w (List.mem_cons_of_mem _ h)
  have hown : s.vm.findClass RX13 = some m.cls := findClass_of_methodNamed B.named
  have hlocks := B.notSynchronized
  subst hsz
  have hD := hD0.self (sz := s.heap.size)
  generalize hAe : va_A (mW h0 ad cid sg gm lg) s.heap.size = A at hD ⊢
  have hA : ∀ q : Nat, s.heap.size ≤ q → A q := fun q h => by rw [← hAe]; exact Or.inr h
  have hS : va_S A s.heap s.heap [] := va_S.rf
  have hl := lv_entry ([.ref h0, .int a, .int b, .int f]) (n := 5) (Nat.le_of_ble_eq_true rfl)
  rw [lg_entry_eq]
  generalize (lg_sl ([.ref h0, .int a, .int b, .int f]) ++ List.replicate (5 - (lg_sl ([.ref h0, .int a, .int b, .int f])).length) Slot.unset).toArray = ls at hl ⊢
  have hl : lv_has ls 5 [(0, .ref h0), (1, .int a), (2, .int b), (3, .int f)] := hl
  have hj37 : ∀ (sg_j37 : Nat → Int32) (_ : KS [5] sg sg_j37) (_ : MI sg_j37 gm) (_ : ¬ (0 ≤ a.toInt ∧ a.toInt ≤ 7 ∧ 0 ≤ b.toInt ∧ b.toInt ≤ 25 ∧ (0 ≤ f.toInt ∧ f.toInt ≤ 4 ∨ 8 ≤ f.toInt ∧ f.toInt ≤ 15)) ∨ 8 ≤ (gm 10 a.toNatClampNeg).toInt) (H : Heap) (locs : List Loc) (ls : Array Slot), va_P (dC, dI) vwCl (mW h0 ad cid sg_j37 gm lg) H → va_D A (mW h0 ad cid sg_j37 gm lg) → va_S A s.heap H locs → lv_has ls 5 [(0, .ref h0), (1, .int a), (2, .int b), (3, .int f)] → W p l e (headSpec wm_X13_setter ({ frames := 1, cells := 0, slots := 0, locals := 20 })).room s m ([.ref h0, .int a, .int b, .int f] : List Value).toArray below meth c H locs 0 0 (MQ below (va_Qi (fun r v => ∃ (sg2 : Nat → Int32) (gm2 : Nat → Nat → Int32) (lg2 : Nat → Nat → Int64), v = (sg2, gm2, lg2) ∧ MI sg2 gm2 ∧ KS [5] sg sg2 ∧ KS [10, 11, 12] gm gm2 ∧ KS [] lg lg2 ∧ (iv 0 1 r) ∧ (RAS (0 ≤ a.toInt ∧ a.toInt ≤ 7 ∧ 0 ≤ b.toInt ∧ b.toInt ≤ 25 ∧ (0 ≤ f.toInt ∧ f.toInt ≤ 4 ∨ 8 ≤ f.toInt ∧ f.toInt ≤ 15)) r a.toNatClampNeg b f gm gm2)) (MB dC dI h0 ad cid A) A) ([.ref h0, .int a, .int b, .int f] : List Value).toArray s 0 0 A) (F0 m 37 ls []) := by
    intro sg_j37 hks_j37 hI_j37 hno H locs ls hP hD hS hl
    refine lv_iconst (v := 0) hx hb dX13_setter_37 (by decide) ?_
    exact W.zret (v := 0) hx hb hr (iv_nb (iv_w (iv_k (by decide) : iv 0 0 0) (by decide))) (fun t ht hW => ⟨⟨0, (sg_j37, gm, lg), rfl, ⟨sg_j37, gm, lg, rfl, hI_j37, (KS_tr (L := [5]) KS_rf hks_j37 (by decide)), KS_rf, KS_rf, (iv_w (iv_k (by decide) : iv 0 0 0) (by decide)), (Or.inr ⟨rfl, hno.elim Or.inl (fun q => Or.inr (Or.inl q)), rfl, rfl, rfl⟩)⟩, by rw [ht]; exact hP, va_K.moved hW.alike hK, hD⟩, hS.F ht⟩) hS.2.2 dX13_setter_38
  have hj42 : ∀ (n : Nat) (sg_j42 : Nat → Int32) (x4_42 : Int32) (_ : (7 - x4_42.toInt).toNat = n) (_ : iv 0 7 x4_42) (_ : iv 0 7 a) (_ : iv 0 25 b) (_ : iv 0 15 f) (_ : KS [5] sg sg_j42) (_ : MI sg_j42 gm) (_ : (gm 10 a.toNatClampNeg).toInt ≤ 7) (_ : (0 ≤ f.toInt ∧ f.toInt ≤ 4 ∨ 8 ≤ f.toInt ∧ f.toInt ≤ 15)) (_ : ∀ k, k < x4_42.toNatClampNeg → ¬ gm 11 (8 * a.toNatClampNeg + k) = b) (H : Heap) (locs : List Loc) (ls : Array Slot), va_P (dC, dI) vwCl (mW h0 ad cid sg_j42 gm lg) H → va_D A (mW h0 ad cid sg_j42 gm lg) → va_S A s.heap H locs → lv_has ls 5 [(4, .int x4_42), (0, .ref h0), (1, .int a), (2, .int b), (3, .int f)] → W p l e (headSpec wm_X13_setter ({ frames := 1, cells := 0, slots := 0, locals := 20 })).room s m ([.ref h0, .int a, .int b, .int f] : List Value).toArray below meth c H locs 0 0 (MQ below (va_Qi (fun r v => ∃ (sg2 : Nat → Int32) (gm2 : Nat → Nat → Int32) (lg2 : Nat → Nat → Int64), v = (sg2, gm2, lg2) ∧ MI sg2 gm2 ∧ KS [5] sg sg2 ∧ KS [10, 11, 12] gm gm2 ∧ KS [] lg lg2 ∧ (iv 0 1 r) ∧ (RAS (0 ≤ a.toInt ∧ a.toInt ≤ 7 ∧ 0 ≤ b.toInt ∧ b.toInt ≤ 25 ∧ (0 ≤ f.toInt ∧ f.toInt ≤ 4 ∨ 8 ≤ f.toInt ∧ f.toInt ≤ 15)) r a.toNatClampNeg b f gm gm2)) (MB dC dI h0 ad cid A) A) ([.ref h0, .int a, .int b, .int f] : List Value).toArray s 0 0 A) (F0 m 42 ls []) := by
    intro n
    induction n using Nat.strongRecOn with
    | ind n ih42 =>
      intro sg_j42 x4_42 hn42 hx4_42 hsx1_42 hsx2_42 hsx3_42 hks_j42 hI_j42 h8 hT hN H locs ls hP hD hS hl
      refine lv_iload hx hb dX13_setter_42 (lv_at hl 0 rfl) ?_
      refine lv_aload_n hx hb dX13_setter_44 rfl (lv_at hl 1 rfl) ?_
      refine mr_get (v := .ref (ad 10)) hx hb htb inX13 hown hK hP 10 (by decide) (htb _ kw_169) rfl dX13_setter_45 ?_
      refine lv_iload_n hx hb dX13_setter_48 rfl (lv_at hl 2 rfl) ?_
      refine mr_iald hx hb hK hP 9 (k := 10) rfl rfl rfl (show vp_in a 8 from (iv_in hsx1_42 (by decide))) dX13_setter_49 ?_
      refine lv_topi (fun z_1 ez_1 => ?_)
      have hz_1 : iv 0 8 z_1 := iv_of ez_1 (MI_a hI_j42 10 hsx1_42 (by decide))
      have h_2 : iv 0 7 z_1 := ⟨(hz_1).1, by rw [ez_1]; exact h8⟩
      refine lv_icmp_ge (tgt := 77) hx hb dX13_setter_50 (by decide) (fun c_3 => ?_) (fun c_3 => ?_)
      · have d_4 : (z_1 : Int32).toInt ≤ (x4_42 : Int32).toInt := Int32.le_iff_toInt_le.mp c_3
        refine lv_aload_n hx hb dX13_setter_77 rfl (lv_at hl 1 rfl) ?_
        refine mr_get (v := .ref (ad 11)) hx hb htb inX13 hown hK hP 11 (by decide) (htb _ kw_170) rfl dX13_setter_78 ?_
        refine lv_bipush (v := 8) hx hb dX13_setter_81 (by decide) ?_
        refine lv_iload_n hx hb dX13_setter_83 rfl (lv_at hl 2 rfl) ?_
        refine lv_imul hx hb dX13_setter_84 ?_
        refine lv_topi (fun z_5 ez_5 => ?_)
        have hz_5 : iv 0 56 z_5 := iv_of ez_5 (iv_mul (iv_k (by decide) : iv 8 8 8) hsx1_42 (by decide))
        have tz_5 : z_5.toInt = 8 * (a : Int32).toInt := by rw [ez_5]; exact iv_mulE (iv_k (by decide) : iv 8 8 8) hsx1_42 (by decide)
        refine lv_aload_n hx hb dX13_setter_85 rfl (lv_at hl 1 rfl) ?_
        refine mr_get (v := .ref (ad 10)) hx hb htb inX13 hown hK hP 10 (by decide) (htb _ kw_169) rfl dX13_setter_86 ?_
        refine lv_iload_n hx hb dX13_setter_89 rfl (lv_at hl 2 rfl) ?_
        refine mr_iald hx hb hK hP 9 (k := 10) rfl rfl rfl (show vp_in a 8 from (iv_in hsx1_42 (by decide))) dX13_setter_90 ?_
        refine lv_topi (fun z_6 ez_6 => ?_)
        obtain rfl : z_1 = z_6 := ez_1.trans ez_6.symm
        refine lv_iadd hx hb dX13_setter_91 ?_
        refine lv_topi (fun z_7 ez_7 => ?_)
        have hz_7 : iv 0 63 z_7 := iv_of ez_7 (iv_add hz_5 h_2 (by decide))
        have tz_7 : z_7.toInt = (z_5 : Int32).toInt + (z_1 : Int32).toInt := by rw [ez_7]; exact iv_addE hz_5 h_2 (by decide)
        refine lv_iload_n hx hb dX13_setter_92 rfl (lv_at hl 3 rfl) ?_
        refine ma_iast (x := b) hx hb hK hP hD hS 10 (k := 11) rfl rfl rfl (show vp_in z_7 64 from (iv_in hz_7 (by decide))) dX13_setter_93 (fun gm_8 H locs egm_8 hP hD hS => ?_)
        have hI_gm_8 := MI_st hI_j42 egm_8 hsx2_42 (by decide)
        refine lv_aload_n hx hb dX13_setter_94 rfl (lv_at hl 1 rfl) ?_
        refine mr_get (v := .ref (ad 12)) hx hb htb inX13 hown hK hP 12 (by decide) (htb _ kw_171) rfl dX13_setter_95 ?_
        refine lv_bipush (v := 8) hx hb dX13_setter_98 (by decide) ?_
        refine lv_iload_n hx hb dX13_setter_100 rfl (lv_at hl 2 rfl) ?_
        refine lv_imul hx hb dX13_setter_101 ?_
        refine lv_topi (fun z_9 ez_9 => ?_)
        obtain rfl : z_5 = z_9 := ez_5.trans ez_9.symm
        refine lv_aload_n hx hb dX13_setter_102 rfl (lv_at hl 1 rfl) ?_
        refine mr_get (v := .ref (ad 10)) hx hb htb inX13 hown hK hP 10 (by decide) (htb _ kw_169) rfl dX13_setter_103 ?_
        refine lv_iload_n hx hb dX13_setter_106 rfl (lv_at hl 2 rfl) ?_
        refine mr_iald hx hb hK hP 9 (k := 10) rfl rfl rfl (show vp_in a 8 from (iv_in hsx1_42 (by decide))) dX13_setter_107 ?_
        refine lv_topi (fun z_10 ez_10 => ?_)
        obtain rfl : z_1 = z_10 := ez_1.trans (ez_10.trans (congrFun (up_ne egm_8 (by decide)) _)).symm
        refine lv_iadd hx hb dX13_setter_108 ?_
        refine lv_topi (fun z_11 ez_11 => ?_)
        obtain rfl : z_7 = z_11 := ez_7.trans ez_11.symm
        refine lv_iload_n hx hb dX13_setter_109 rfl (lv_at hl 4 rfl) ?_
        refine ma_iast (x := f) hx hb hK hP hD hS 11 (k := 12) rfl rfl rfl (show vp_in z_7 64 from (iv_in hz_7 (by decide))) dX13_setter_110 (fun gm_12 H locs egm_12 hP hD hS => ?_)
        have hI_gm_12 := MI_st hI_gm_8 egm_12 hsx3_42 (by decide)
        refine lv_aload_n hx hb dX13_setter_111 rfl (lv_at hl 1 rfl) ?_
        refine mr_get (v := .ref (ad 10)) hx hb htb inX13 hown hK hP 10 (by decide) (htb _ kw_169) rfl dX13_setter_112 ?_
        refine lv_iload_n hx hb dX13_setter_115 rfl (lv_at hl 2 rfl) ?_
        refine lv_dup2_11 hx hb dX13_setter_116 rfl rfl ?_
        refine mr_iald hx hb hK hP 9 (k := 10) rfl rfl rfl (show vp_in a 8 from (iv_in hsx1_42 (by decide))) dX13_setter_117 ?_
        refine lv_topi (fun z_13 ez_13 => ?_)
        obtain rfl : z_1 = z_13 := ez_1.trans (ez_13.trans (congrFun (Eq.trans (up_ne egm_12 (by decide)) (up_ne egm_8 (by decide))) _)).symm
        refine lv_iconst (v := 1) hx hb dX13_setter_118 (by decide) ?_
        refine lv_iadd hx hb dX13_setter_119 ?_
        refine lv_topi (fun z_14 ez_14 => ?_)
        have hz_14 : iv 1 8 z_14 := iv_of ez_14 (iv_add h_2 (iv_k (by decide) : iv 1 1 1) (by decide))
        have tz_14 : z_14.toInt = (z_1 : Int32).toInt + 1 := by rw [ez_14]; exact iv_addE h_2 (iv_k (by decide) : iv 1 1 1) (by decide)
        refine ma_iast (x := z_14) hx hb hK hP hD hS 9 (k := 10) rfl rfl rfl (show vp_in a 8 from (iv_in hsx1_42 (by decide))) dX13_setter_120 (fun gm_15 H locs egm_15 hP hD hS => ?_)
        have hI_gm_15 := MI_st hI_gm_12 egm_15 hz_14 (by decide)
        refine lv_iconst (v := 1) hx hb dX13_setter_121 (by decide) ?_
        exact W.zret (v := 1) hx hb hr (iv_nb (iv_w (iv_k (by decide) : iv 1 1 1) (by decide))) (fun t ht hW => ⟨⟨1, (sg_j42, gm_15, lg), rfl, ⟨sg_j42, gm_15, lg, rfl, hI_gm_15, (KS_tr (L := [5]) KS_rf hks_j42 (by decide)), (KS_up (KS_up (KS_up KS_rf egm_8 (by decide)) egm_12 (by decide)) egm_15 (by decide)), KS_rf, (iv_w (iv_k (by decide) : iv 1 1 1) (by decide)), (Or.inl ⟨rfl, by have := i32_0; have := i32_1; have := i32_2; have := i32_m1; have := (hx4_42).1; have := (hx4_42).2; have := (hsx1_42).1; have := (hsx1_42).2; have := (hsx2_42).1; have := (hsx2_42).2; have := (hsx3_42).1; have := (hsx3_42).2; have := (h_2).1; have := (h_2).2; have := (hz_5).1; have := (hz_5).2; have := (hz_7).1; have := (hz_7).2; have := (hz_14).1; have := (hz_14).2; omega, (by { rw [← ez_1]; have := i32_0; have := i32_1; have := i32_2; have := i32_m1; have := (hx4_42).1; have := (hx4_42).2; have := (hsx1_42).1; have := (hsx1_42).2; have := (hsx2_42).1; have := (hsx2_42).2; have := (hsx3_42).1; have := (hsx3_42).2; have := (h_2).1; have := (h_2).2; have := (hz_5).1; have := (hz_5).2; have := (hz_7).1; have := (hz_7).2; have := (hz_14).1; have := (hz_14).2; omega }), (fun k hk => hN k (by { rw [← ez_1] at hk; have k0 : x4_42.toNatClampNeg = x4_42.toInt.toNat := rfl; have k1 : z_1.toNatClampNeg = z_1.toInt.toNat := rfl; have := i32_0; have := i32_1; have := i32_2; have := i32_m1; have := (hx4_42).1; have := (hx4_42).2; have := (hsx1_42).1; have := (hsx1_42).2; have := (hsx2_42).1; have := (hsx2_42).2; have := (hsx3_42).1; have := (hsx3_42).2; have := (h_2).1; have := (h_2).2; have := (hz_5).1; have := (hz_5).2; have := (hz_7).1; have := (hz_7).2; have := (hz_14).1; have := (hz_14).2; omega })), ⟨_, (by { rw [← ez_1]; have := i32_0; have := i32_1; have := i32_2; have := i32_m1; have := (hx4_42).1; have := (hx4_42).2; have := (hsx1_42).1; have := (hsx1_42).2; have := (hsx2_42).1; have := (hsx2_42).2; have := (hsx3_42).1; have := (hsx3_42).2; have := (h_2).1; have := (h_2).2; have := (hz_5).1; have := (hz_5).2; have := (hz_7).1; have := (hz_7).2; have := (hz_14).1; have := (hz_14).2; omega }), (show gm_15 10 = upd (gm 10) (a : Int32).toNatClampNeg z_14 from ((up_at egm_15).trans (by rw [show gm_12 10 = gm 10 from ((up_ne egm_12 (by decide)).trans ((up_ne egm_8 (by decide)).trans rfl))])))⟩, (by rw [← ez_1, show 8 * a.toNatClampNeg + z_1.toNatClampNeg = z_7.toNatClampNeg from (by { have k0 : a.toNatClampNeg = a.toInt.toNat := rfl; have k1 : z_1.toNatClampNeg = z_1.toInt.toNat := rfl; have k2 : z_7.toNatClampNeg = z_7.toInt.toNat := rfl; have := i32_0; have := i32_1; have := i32_2; have := i32_m1; have := (hx4_42).1; have := (hx4_42).2; have := (hsx1_42).1; have := (hsx1_42).2; have := (hsx2_42).1; have := (hsx2_42).2; have := (hsx3_42).1; have := (hsx3_42).2; have := (h_2).1; have := (h_2).2; have := (hz_5).1; have := (hz_5).2; have := (hz_7).1; have := (hz_7).2; have := (hz_14).1; have := (hz_14).2; omega })]; exact (show gm_15 11 = upd (gm 11) (z_7 : Int32).toNatClampNeg b from ((up_ne egm_15 (by decide)).trans ((up_ne egm_12 (by decide)).trans ((up_at egm_8).trans (by rw [show gm 11 = gm 11 from rfl])))))), (by rw [← ez_1, show 8 * a.toNatClampNeg + z_1.toNatClampNeg = z_7.toNatClampNeg from (by { have k0 : a.toNatClampNeg = a.toInt.toNat := rfl; have k1 : z_1.toNatClampNeg = z_1.toInt.toNat := rfl; have k2 : z_7.toNatClampNeg = z_7.toInt.toNat := rfl; have := i32_0; have := i32_1; have := i32_2; have := i32_m1; have := (hx4_42).1; have := (hx4_42).2; have := (hsx1_42).1; have := (hsx1_42).2; have := (hsx2_42).1; have := (hsx2_42).2; have := (hsx3_42).1; have := (hsx3_42).2; have := (h_2).1; have := (h_2).2; have := (hz_5).1; have := (hz_5).2; have := (hz_7).1; have := (hz_7).2; have := (hz_14).1; have := (hz_14).2; omega })]; exact (show gm_15 12 = upd (gm 12) (z_7 : Int32).toNatClampNeg f from ((up_ne egm_15 (by decide)).trans ((up_at egm_12).trans (by rw [show gm_8 12 = gm 12 from ((up_ne egm_8 (by decide)).trans rfl)])))))⟩)⟩, by rw [ht]; exact hP, va_K.moved hW.alike hK, hD⟩, hS.F ht⟩) hS.2.2 dX13_setter_122
      · have d_16 : (x4_42 : Int32).toInt < (z_1 : Int32).toInt := Int32.lt_iff_toInt_lt.mp (i32_lt c_3)
        have h_17 : iv 0 6 x4_42 := iv_ltL (i32_lt c_3) hx4_42 h_2 (by decide)
        have h_18 : iv 1 7 z_1 := iv_ltR (i32_lt c_3) hx4_42 h_2 (by decide)
        refine lv_aload_n hx hb dX13_setter_53 rfl (lv_at hl 1 rfl) ?_
        refine mr_get (v := .ref (ad 11)) hx hb htb inX13 hown hK hP 11 (by decide) (htb _ kw_170) rfl dX13_setter_54 ?_
        refine lv_bipush (v := 8) hx hb dX13_setter_57 (by decide) ?_
        refine lv_iload_n hx hb dX13_setter_59 rfl (lv_at hl 2 rfl) ?_
        refine lv_imul hx hb dX13_setter_60 ?_
        refine lv_topi (fun z_19 ez_19 => ?_)
        have hz_19 : iv 0 56 z_19 := iv_of ez_19 (iv_mul (iv_k (by decide) : iv 8 8 8) hsx1_42 (by decide))
        have tz_19 : z_19.toInt = 8 * (a : Int32).toInt := by rw [ez_19]; exact iv_mulE (iv_k (by decide) : iv 8 8 8) hsx1_42 (by decide)
        refine lv_iload hx hb dX13_setter_61 (lv_at hl 0 rfl) ?_
        refine lv_iadd hx hb dX13_setter_63 ?_
        refine lv_topi (fun z_20 ez_20 => ?_)
        have hz_20 : iv 0 62 z_20 := iv_of ez_20 (iv_add hz_19 h_17 (by decide))
        have tz_20 : z_20.toInt = (z_19 : Int32).toInt + (x4_42 : Int32).toInt := by rw [ez_20]; exact iv_addE hz_19 h_17 (by decide)
        refine mr_iald hx hb hK hP 10 (k := 11) rfl rfl rfl (show vp_in z_20 64 from (iv_in hz_20 (by decide))) dX13_setter_64 ?_
        refine lv_topi (fun z_21 ez_21 => ?_)
        have hz_21 : iv 0 25 z_21 := iv_of ez_21 (MI_a hI_j42 11 hz_20 (by decide))
        refine lv_iload_n hx hb dX13_setter_65 rfl (lv_at hl 3 rfl) ?_
        refine lv_icmp_ne (tgt := 71) hx hb dX13_setter_66 (by decide) (fun c_22 => ?_) (fun c_22 => ?_)
        · obtain ⟨z_23, ez_23⟩ : ∃ z : Int32, z = x4_42 + 1 := ⟨_, rfl⟩
          have hz_23 : iv 1 7 z_23 := iv_of ez_23 (iv_add h_17 (iv_k (by decide) : iv 1 1 1) (by decide))
          have tz_23 : z_23.toInt = x4_42.toInt + 1 := by rw [ez_23]; exact iv_addE h_17 (iv_k (by decide) : iv 1 1 1) (by decide)
          refine lv_iinc (v := z_23) (lv' := [(4, .int z_23), (0, .ref h0), (1, .int a), (2, .int b), (3, .int f)]) hx hb dX13_setter_71 hl (k := 0) rfl ez_23.symm (by decide) rfl (fun ls hl => ?_)
          refine lv_goto (tgt := 42) hx hb dX13_setter_74 (by decide) ?_
          exact ih42 _ (by rw [← hn42]; exact (iv_meas tz_23 h_17 (by decide))) sg_j42 z_23 rfl (iv_w hz_23 (by decide)) hsx1_42 hsx2_42 hsx3_42 (KS_tr (L := [5]) KS_rf hks_j42 (by decide)) hI_j42 (h8) (hT) ((nx_s hN (by rw [show 8 * a.toNatClampNeg + x4_42.toNatClampNeg = z_20.toNatClampNeg from (by { have k0 : a.toNatClampNeg = a.toInt.toNat := rfl; have k1 : x4_42.toNatClampNeg = x4_42.toInt.toNat := rfl; have k2 : z_20.toNatClampNeg = z_20.toInt.toNat := rfl; have := i32_0; have := i32_1; have := i32_2; have := i32_m1; have := (h_17).1; have := (h_17).2; have := (hsx1_42).1; have := (hsx1_42).2; have := (hsx2_42).1; have := (hsx2_42).2; have := (hsx3_42).1; have := (hsx3_42).2; have := (h_18).1; have := (h_18).2; have := (hz_19).1; have := (hz_19).2; have := (hz_20).1; have := (hz_20).2; have := (hz_21).1; have := (hz_21).2; have := (hz_23).1; have := (hz_23).2; omega }), ← ez_21]; exact c_22) (by { have k0 : x4_42.toNatClampNeg = x4_42.toInt.toNat := rfl; have k1 : z_23.toNatClampNeg = z_23.toInt.toNat := rfl; have := i32_0; have := i32_1; have := i32_2; have := i32_m1; have := (h_17).1; have := (h_17).2; have := (hsx1_42).1; have := (hsx1_42).2; have := (hsx2_42).1; have := (hsx2_42).2; have := (hsx3_42).1; have := (hsx3_42).2; have := (h_18).1; have := (h_18).2; have := (hz_19).1; have := (hz_19).2; have := (hz_20).1; have := (hz_20).2; have := (hz_21).1; have := (hz_21).2; have := (hz_23).1; have := (hz_23).2; omega }))) _ _ _ hP hD hS (lv_sub hl [0, 1, 2, 3, 4] rfl)
        · have d_24 : (z_21 : Int32).toInt = (b : Int32).toInt := congrArg Int32.toInt c_22
          refine lv_iconst (v := 0) hx hb dX13_setter_69 (by decide) ?_
          exact W.zret (v := 0) hx hb hr (iv_nb (iv_w (iv_k (by decide) : iv 0 0 0) (by decide))) (fun t ht hW => ⟨⟨0, (sg_j42, gm, lg), rfl, ⟨sg_j42, gm, lg, rfl, hI_j42, (KS_tr (L := [5]) KS_rf hks_j42 (by decide)), KS_rf, KS_rf, (iv_w (iv_k (by decide) : iv 0 0 0) (by decide)), (Or.inr ⟨rfl, Or.inr (Or.inr ⟨x4_42.toNatClampNeg, (by { rw [← ez_1]; have k0 : x4_42.toNatClampNeg = x4_42.toInt.toNat := rfl; have k1 : z_1.toNatClampNeg = z_1.toInt.toNat := rfl; have := i32_0; have := i32_1; have := i32_2; have := i32_m1; have := (h_17).1; have := (h_17).2; have := (hsx1_42).1; have := (hsx1_42).2; have := (hsx2_42).1; have := (hsx2_42).2; have := (hsx3_42).1; have := (hsx3_42).2; have := (h_18).1; have := (h_18).2; have := (hz_19).1; have := (hz_19).2; have := (hz_20).1; have := (hz_20).2; have := (hz_21).1; have := (hz_21).2; omega }), (by rw [show 8 * a.toNatClampNeg + x4_42.toNatClampNeg = z_20.toNatClampNeg from (by { have k0 : a.toNatClampNeg = a.toInt.toNat := rfl; have k1 : x4_42.toNatClampNeg = x4_42.toInt.toNat := rfl; have k2 : z_20.toNatClampNeg = z_20.toInt.toNat := rfl; have := i32_0; have := i32_1; have := i32_2; have := i32_m1; have := (h_17).1; have := (h_17).2; have := (hsx1_42).1; have := (hsx1_42).2; have := (hsx2_42).1; have := (hsx2_42).2; have := (hsx3_42).1; have := (hsx3_42).2; have := (h_18).1; have := (h_18).2; have := (hz_19).1; have := (hz_19).2; have := (hz_20).1; have := (hz_20).2; have := (hz_21).1; have := (hz_21).2; omega }), ← ez_21]; exact c_22)⟩), rfl, rfl, rfl⟩)⟩, by rw [ht]; exact hP, va_K.moved hW.alike hK, hD⟩, hS.F ht⟩) hS.2.2 dX13_setter_70
  refine lv_aload_n hx hb dX13_setter_0 rfl (lv_at hl 0 rfl) ?_
  refine lv_iconst (v := 0) hx hb dX13_setter_1 (by decide) ?_
  refine ma_put (x := 0) hx hb htb inX13 hown hK hP hD hS 5 (by decide) (by decide) (htb _ kw_239) rfl rfl rfl dX13_setter_2 (fun sg_25 H locs esg_25 hP hD hS => ?_)
  have hI_sg_25 := MI_put hI esg_25 (iv_k (by decide) : iv 0 0 0) (by decide)
  refine lv_iload_n hx hb dX13_setter_5 rfl (lv_at hl 1 rfl) ?_
  have hPc := hP.sub (ws' := []) [] rfl
  have hDc := hD.sub (ws' := []) [] (by decide) rfl
  have hKc := hK.sub (tys' := []) [] rfl
  have hFc := va_free (wc := []) hD hS hA [] rfl
  refine va_calli (va_runS (As := [.int a]) (rest := []) ⟨hx, hb, hml, hown, htb⟩ (c_X13_isClass l dC dI H.size a) (va_cwS 1 htb (gd_S kw_240 kw_241 kw_5 kw_1388) rfl rfl rfl (by decide +kernel) ⟨Nat.le_of_ble_eq_true rfl, Nat.le_of_ble_eq_true rfl⟩) ⟨fun a U g mk q => by obtain ⟨q0, q1, qP, qK, qD⟩ := q; exact ⟨q0, q1, qP, va_K.moved (u := U) (U := U.calling g mk a) (Vm.Alike.refl U.vm) qK, qD⟩, fun U hU hW => ⟨rfl, by rw [hU], by rw [hU]; exact hPc, va_K.moved hW.alike hKc, hDc.weaken (fun _ _ _ _ => trivial)⟩⟩ rfl rfl hl.1 rfl (lv_room (Nat.le_of_ble_eq_true rfl)) dX13_setter_6 ⟨Nat.zero_le _, Nat.zero_le _⟩) hS (fun q _ h => hFc q h) hFc (fun r_26 u9 t H1 locs ht hvm hw hB hz1 hk1 hS => ?_)
  have hP := ms_kept hP hz1 hk1
  generalize H1 = H at hP hS ⊢
  have fr_26 : r_26 = zCls a := hw
  have hr_26 : iv 0 1 r_26 := iv_of fr_26 (zCls_iv a)
  refine lv_if_eq (tgt := 37) hx hb dX13_setter_9 (by decide) (fun c_27 => ?_) (fun c_27 => ?_)
  · have h_28 : iv 0 0 r_26 := iv_eq c_27 hr_26 (iv_k (by decide) : iv 0 0 0) (by decide)
    exact hj37 sg_25 (KS_up KS_rf esg_25 (by decide)) hI_sg_25 (Or.inl (fun q8 => by { have q26 := zCls_g (a := a); rw [← fr_26] at q26; have w26 : r_26 = 1 ↔ r_26.toInt = 1 := ⟨fun q => by rw [q]; rfl, fun q => Int32.toInt_inj.mp q⟩; have v26 : r_26 = 0 ↔ r_26.toInt = 0 := ⟨fun q => by rw [q]; rfl, fun q => Int32.toInt_inj.mp q⟩; rw [w26, v26] at q26; have := i32_0; have := i32_1; have := i32_2; have := i32_m1; have := (h_28).1; have := (h_28).2; omega })) _ _ _ hP hD hS (lv_sub hl [0, 1, 2, 3] rfl)
  · have h_29 : iv 0 7 a := zCls_t (by rw [← fr_26]; exact c_27)
    have h_30 : iv 1 1 r_26 := iv_neL c_27 hr_26 (by decide)
    refine lv_iload_n hx hb dX13_setter_12 rfl (lv_at hl 2 rfl) ?_
    have hPc := hP.sub (ws' := []) [] rfl
    have hDc := hD.sub (ws' := []) [] (by decide) rfl
    have hKc := hK.sub (tys' := []) [] rfl
    have hFc := va_free (wc := []) hD hS hA [] rfl
    refine va_calli (va_runS (As := [.int b]) (rest := []) ⟨hx, hb, hml, hown, htb⟩ (c_X13_isLetter l dC dI H.size b) (va_cwS 1 htb (gd_S kw_280 kw_281 kw_5 kw_1402) rfl rfl rfl (by decide +kernel) ⟨Nat.le_of_ble_eq_true rfl, Nat.le_of_ble_eq_true rfl⟩) ⟨fun a U g mk q => by obtain ⟨q0, q1, qP, qK, qD⟩ := q; exact ⟨q0, q1, qP, va_K.moved (u := U) (U := U.calling g mk a) (Vm.Alike.refl U.vm) qK, qD⟩, fun U hU hW => ⟨rfl, by rw [hU], by rw [hU]; exact hPc, va_K.moved hW.alike hKc, hDc.weaken (fun _ _ _ _ => trivial)⟩⟩ rfl rfl hl.1 rfl (lv_room (Nat.le_of_ble_eq_true rfl)) dX13_setter_13 ⟨Nat.zero_le _, Nat.zero_le _⟩) hS (fun q _ h => hFc q h) hFc (fun r_31 u9 t H1 locs ht hvm hw hB hz1 hk1 hS => ?_)
    have hP := ms_kept hP hz1 hk1
    generalize H1 = H at hP hS ⊢
    have fr_31 : r_31 = zLet b := hw
    have hr_31 : iv 0 1 r_31 := iv_of fr_31 (zLet_iv b)
    refine lv_if_eq (tgt := 37) hx hb dX13_setter_16 (by decide) (fun c_32 => ?_) (fun c_32 => ?_)
    · have h_33 : iv 0 0 r_31 := iv_eq c_32 hr_31 (iv_k (by decide) : iv 0 0 0) (by decide)
      exact hj37 sg_25 (KS_up KS_rf esg_25 (by decide)) hI_sg_25 (Or.inl (fun q8 => by { have q26 := zCls_g (a := a); rw [← fr_26] at q26; have q31 := zLet_f (a := b); rw [← fr_31] at q31; have w26 : r_26 = 1 ↔ r_26.toInt = 1 := ⟨fun q => by rw [q]; rfl, fun q => Int32.toInt_inj.mp q⟩; have v26 : r_26 = 0 ↔ r_26.toInt = 0 := ⟨fun q => by rw [q]; rfl, fun q => Int32.toInt_inj.mp q⟩; rw [w26, v26] at q26; have w31 : r_31 = 1 ↔ r_31.toInt = 1 := ⟨fun q => by rw [q]; rfl, fun q => Int32.toInt_inj.mp q⟩; have v31 : r_31 = 0 ↔ r_31.toInt = 0 := ⟨fun q => by rw [q]; rfl, fun q => Int32.toInt_inj.mp q⟩; rw [w31, v31] at q31; have := i32_0; have := i32_1; have := i32_2; have := i32_m1; have := (h_30).1; have := (h_30).2; have := (h_29).1; have := (h_29).2; have := (h_33).1; have := (h_33).2; omega })) _ _ _ hP hD hS (lv_sub hl [0, 1, 2, 3] rfl)
    · have h_34 : iv 0 25 b := zLet_t (by rw [← fr_31]; exact c_32)
      have h_35 : iv 1 1 r_31 := iv_neL c_32 hr_31 (by decide)
      refine lv_iload_n hx hb dX13_setter_19 rfl (lv_at hl 3 rfl) ?_
      have hPc := hP.sub (ws' := []) [] rfl
      have hDc := hD.sub (ws' := []) [] (by decide) rfl
      have hKc := hK.sub (tys' := []) [] rfl
      have hFc := va_free (wc := []) hD hS hA [] rfl
      refine va_calli (va_runS (As := [.int f]) (rest := []) ⟨hx, hb, hml, hown, htb⟩ (c_X13_isType l dC dI H.size f) (va_cwS 1 htb (gd_S kw_267 kw_268 kw_5 kw_1397) rfl rfl rfl (by decide +kernel) ⟨Nat.le_of_ble_eq_true rfl, Nat.le_of_ble_eq_true rfl⟩) ⟨fun a U g mk q => by obtain ⟨q0, q1, qP, qK, qD⟩ := q; exact ⟨q0, q1, qP, va_K.moved (u := U) (U := U.calling g mk a) (Vm.Alike.refl U.vm) qK, qD⟩, fun U hU hW => ⟨rfl, by rw [hU], by rw [hU]; exact hPc, va_K.moved hW.alike hKc, hDc.weaken (fun _ _ _ _ => trivial)⟩⟩ rfl rfl hl.1 rfl (lv_room (Nat.le_of_ble_eq_true rfl)) dX13_setter_20 ⟨Nat.zero_le _, Nat.zero_le _⟩) hS (fun q _ h => hFc q h) hFc (fun r_36 u9 t H1 locs ht hvm hw hB hz1 hk1 hS => ?_)
      have hP := ms_kept hP hz1 hk1
      generalize H1 = H at hP hS ⊢
      have fr_36 : r_36 = zTyp f := hw
      have hr_36 : iv 0 1 r_36 := iv_of fr_36 (zTyp_iv f)
      refine lv_if_eq (tgt := 37) hx hb dX13_setter_23 (by decide) (fun c_37 => ?_) (fun c_37 => ?_)
      · have h_38 : iv 0 0 r_36 := iv_eq c_37 hr_36 (iv_k (by decide) : iv 0 0 0) (by decide)
        exact hj37 sg_25 (KS_up KS_rf esg_25 (by decide)) hI_sg_25 (Or.inl (fun q8 => by { have q26 := zCls_g (a := a); rw [← fr_26] at q26; have q31 := zLet_f (a := b); rw [← fr_31] at q31; have q36 := zTyp_f (a := f); rw [← fr_36] at q36; have w26 : r_26 = 1 ↔ r_26.toInt = 1 := ⟨fun q => by rw [q]; rfl, fun q => Int32.toInt_inj.mp q⟩; have v26 : r_26 = 0 ↔ r_26.toInt = 0 := ⟨fun q => by rw [q]; rfl, fun q => Int32.toInt_inj.mp q⟩; rw [w26, v26] at q26; have w31 : r_31 = 1 ↔ r_31.toInt = 1 := ⟨fun q => by rw [q]; rfl, fun q => Int32.toInt_inj.mp q⟩; have v31 : r_31 = 0 ↔ r_31.toInt = 0 := ⟨fun q => by rw [q]; rfl, fun q => Int32.toInt_inj.mp q⟩; rw [w31, v31] at q31; have w36 : r_36 = 1 ↔ r_36.toInt = 1 := ⟨fun q => by rw [q]; rfl, fun q => Int32.toInt_inj.mp q⟩; have v36 : r_36 = 0 ↔ r_36.toInt = 0 := ⟨fun q => by rw [q]; rfl, fun q => Int32.toInt_inj.mp q⟩; rw [w36, v36] at q36; have := i32_0; have := i32_1; have := i32_2; have := i32_m1; have := (h_30).1; have := (h_30).2; have := (h_29).1; have := (h_29).2; have := (h_35).1; have := (h_35).2; have := (h_34).1; have := (h_34).2; have := (h_38).1; have := (h_38).2; omega })) _ _ _ hP hD hS (lv_sub hl [0, 1, 2, 3] rfl)
      · have h_39 : iv 0 15 f := zTyp_t (by rw [← fr_36]; exact c_37)
        have h_40 : iv 1 1 r_36 := iv_neL c_37 hr_36 (by decide)
        refine lv_aload_n hx hb dX13_setter_26 rfl (lv_at hl 0 rfl) ?_
        refine mr_get (v := .ref (ad 10)) hx hb htb inX13 hown hK hP 10 (by decide) (htb _ kw_169) rfl dX13_setter_27 ?_
        refine lv_iload_n hx hb dX13_setter_30 rfl (lv_at hl 1 rfl) ?_
        refine mr_iald hx hb hK hP 9 (k := 10) rfl rfl rfl (show vp_in a 8 from (iv_in h_29 (by decide))) dX13_setter_31 ?_
        refine lv_topi (fun z_41 ez_41 => ?_)
        have hz_41 : iv 0 8 z_41 := iv_of ez_41 (MI_a hI_sg_25 10 h_29 (by decide))
        refine lv_bipush (v := 8) hx hb dX13_setter_32 (by decide) ?_
        refine lv_icmp_ne (tgt := 39) hx hb dX13_setter_34 (by decide) (fun c_42 => ?_) (fun c_42 => ?_)
        · have h_43 : iv 0 7 z_41 := iv_neH c_42 hz_41 (by decide)
          refine lv_iconst (v := 0) hx hb dX13_setter_39 (by decide) ?_
          refine lv_istore (lv' := [(4, .int 0), (0, .ref h0), (1, .int a), (2, .int b), (3, .int f)]) hx hb dX13_setter_40 hl (by decide) rfl (fun ls hl => ?_)
          exact hj42 _ sg_25 0 rfl (iv_w (iv_k (by decide) : iv 0 0 0) (by decide)) h_29 h_34 h_39 (KS_up KS_rf esg_25 (by decide)) hI_sg_25 (by rw [← ez_41]; exact (h_43).2) (by { have q26 := zCls_g (a := a); rw [← fr_26] at q26; have q31 := zLet_f (a := b); rw [← fr_31] at q31; have q36 := zTyp_f (a := f); rw [← fr_36] at q36; have w26 : r_26 = 1 ↔ r_26.toInt = 1 := ⟨fun q => by rw [q]; rfl, fun q => Int32.toInt_inj.mp q⟩; have v26 : r_26 = 0 ↔ r_26.toInt = 0 := ⟨fun q => by rw [q]; rfl, fun q => Int32.toInt_inj.mp q⟩; rw [w26, v26] at q26; have w31 : r_31 = 1 ↔ r_31.toInt = 1 := ⟨fun q => by rw [q]; rfl, fun q => Int32.toInt_inj.mp q⟩; have v31 : r_31 = 0 ↔ r_31.toInt = 0 := ⟨fun q => by rw [q]; rfl, fun q => Int32.toInt_inj.mp q⟩; rw [w31, v31] at q31; have w36 : r_36 = 1 ↔ r_36.toInt = 1 := ⟨fun q => by rw [q]; rfl, fun q => Int32.toInt_inj.mp q⟩; have v36 : r_36 = 0 ↔ r_36.toInt = 0 := ⟨fun q => by rw [q]; rfl, fun q => Int32.toInt_inj.mp q⟩; rw [w36, v36] at q36; have := i32_0; have := i32_1; have := i32_2; have := i32_m1; have := (h_30).1; have := (h_30).2; have := (h_29).1; have := (h_29).2; have := (h_35).1; have := (h_35).2; have := (h_34).1; have := (h_34).2; have := (h_40).1; have := (h_40).2; have := (h_39).1; have := (h_39).2; have := (h_43).1; have := (h_43).2; omega }) ((fun k hk => absurd hk (by { rw [cl_z]; omega }))) _ _ _ hP hD hS (lv_sub hl [0, 1, 2, 3, 4] rfl)
        · have h_44 : iv 8 8 z_41 := iv_eq c_42 hz_41 (iv_k (by decide) : iv 8 8 8) (by decide)
          exact hj37 sg_25 (KS_up KS_rf esg_25 (by decide)) hI_sg_25 (Or.inr (by { rw [← ez_41]; have := i32_0; have := i32_1; have := i32_2; have := i32_m1; have := (h_30).1; have := (h_30).2; have := (h_29).1; have := (h_29).2; have := (h_35).1; have := (h_35).2; have := (h_34).1; have := (h_34).2; have := (h_40).1; have := (h_40).2; have := (h_39).1; have := (h_39).2; have := (h_44).1; have := (h_44).2; omega })) _ _ _ hP hD hS (lv_sub hl [0, 1, 2, 3] rfl)
end
section
section CX9
variable {gm gm2 gn gn2 : Nat → Nat → Int32} {P : Prop} {r r2 : Int32} {c : Nat} {f : Nat → Int32} {a b d n nm st re : Int32}
theorem u3_at {q p : Nat} (hp : p < 3) : upd (upd (upd f (3 * q) a) (3 * q + 1) b) (3 * q + 2) d (3 * q + p) = if p = 0 then a else if p = 1 then b else d := by
  by_cases h0 : p = 0
  · rw [if_pos h0, h0, upd_ne (by omega), upd_ne (by omega), Nat.add_zero, upd_at]
  · rw [if_neg h0]
    by_cases h1 : p = 1
    · rw [if_pos h1, h1, upd_ne (by omega), upd_at]
    · rw [if_neg h1, show p = 2 by omega, upd_at]
theorem u3_ne {q s p : Nat} (hp : p < 3) (hq : ¬ s = q) : upd (upd (upd f (3 * q) a) (3 * q + 1) b) (3 * q + 2) d (3 * s + p) = f (3 * s + p) := by
  rw [upd_ne (by omega), upd_ne (by omega), upd_ne (by omega)]
/-- the declared classes of both sides, and what stays as it was made -/
def FXD (gm : Nat → Nat → Int32) : Prop := ∀ c, c < 8 → (gm 2 c).toInt = (c : Int) ∧ ∀ i, i < 4 → (gm 6 (8 * c + i)).toInt = (i : Int) ∧ (gm 5 (8 * c + 4 + i)).toInt = (c : Int) ∧ (gm 6 (8 * c + 4 + i)).toInt = (i : Int)
def RNG (gm : Nat → Nat → Int32) : Prop := (∀ c, c < 8 → (0 ≤ (gm 0 c).toInt ∧ (gm 0 c).toInt ≤ 4) ∧ (0 ≤ (gm 1 c).toInt ∧ (gm 1 c).toInt ≤ 4) ∧ 0 ≤ (gm 3 c).toInt ∧ (gm 3 c).toInt ≤ 8) ∧ ∀ s, s < 64 → (gm 7 s).toInt ≤ 3
def ST2 (gm : Nat → Nat → Int32) : Prop := ∀ c n, c < 8 → n < 26 → (gm 55 (26 * c + n)).toInt = -1 ∨ ty9 (gm 55 (26 * c + n)).toInt
def SNM (gm gn : Nat → Nat → Int32) : Prop := ∀ c, c < 8 → (gn 10 c).toInt = (gm 3 c).toInt ∧ ∀ k, k < (gn 10 c).toNatClampNeg → 0 ≤ (gn 11 (8 * c + k)).toInt ∧ (gn 11 (8 * c + k)).toInt ≤ 25 ∧ ty9 (gn 12 (8 * c + k)).toInt
def CLX (gm gn : Nat → Nat → Int32) : Prop := CLS9 gm gn ∧ FXD gm ∧ RNG gm ∧ STY9 gm ∧ ST2 gm ∧ SNM gm gn
/-- nothing of it changed -/
theorem CLX_e (h : CLX gm gn) (hg : ∀ k, k = 0 ∨ k = 1 ∨ k = 2 ∨ k = 3 ∨ k = 4 ∨ k = 5 ∨ k = 6 ∨ k = 7 ∨ k = 8 ∨ k = 9 ∨ k = 10 ∨ k = 54 ∨ k = 55 → gm2 k = gm k) (hn : ∀ k, k = 6 ∨ k = 7 ∨ k = 8 ∨ k = 9 ∨ k = 10 ∨ k = 11 ∨ k = 12 ∨ k = 13 ∨ k = 14 ∨ k = 15 ∨ k = 16 ∨ k = 17 ∨ k = 18 → gn2 k = gn k) : CLX gm2 gn2 := by
  unfold CLX CLS9 CL9 FXD RNG STY9 ST2 SNM at *
  rw [hg 0 (by decide), hg 1 (by decide), hg 2 (by decide), hg 3 (by decide), hg 4 (by decide), hg 5 (by decide), hg 6 (by decide), hg 7 (by decide), hg 8 (by decide), hg 9 (by decide), hg 10 (by decide), hg 54 (by decide), hg 55 (by decide), hn 6 (by decide), hn 7 (by decide), hn 8 (by decide), hn 9 (by decide), hn 10 (by decide), hn 11 (by decide), hn 12 (by decide), hn 13 (by decide), hn 14 (by decide), hn 15 (by decide), hn 16 (by decide), hn 17 (by decide), hn 18 (by decide)]
  exact h
/-- declared anew -/
theorem CLX_d {v : Int32} (h : CLX gm gn) (hc : c < 8) (e0 : gm2 0 = upd (gm 0) c 0) (e1 : gm2 1 = upd (gm 1) c 0) (e3 : gm2 3 = upd (gm 3) c 0) (e4 : gm2 4 = upd (gm 4) c v) (eB : BLK (gm 55) (gm2 55) c 26) (hg : ∀ k, k = 2 ∨ k = 5 ∨ k = 6 ∨ k = 7 ∨ k = 8 ∨ k = 9 ∨ k = 10 ∨ k = 54 → gm2 k = gm k) (r7 : gn2 7 = upd (gn 7) c 0) (r13 : gn2 13 = upd (gn 13) c 0) (r10 : gn2 10 = upd (gn 10) c 0) (r6 : gn2 6 = upd (gn 6) c v) (hn : ∀ k, k = 8 ∨ k = 9 ∨ k = 11 ∨ k = 12 ∨ k = 14 ∨ k = 15 ∨ k = 16 ∨ k = 17 ∨ k = 18 → gn2 k = gn k) : CLX gm2 gn2 := by
  obtain ⟨h1, h2, ⟨h3, h3b⟩, h4, h5, h6⟩ := h
  have z0 : (0 : Int32).toInt = 0 := by decide
  have z1 : (0 : Int32).toNatClampNeg = 0 := by decide
  have o55 : ∀ c', c' < 8 → ¬ c' = c → ∀ m, m < 26 → gm2 55 (26 * c' + m) = gm 55 (26 * c' + m) := fun c' _ hcc m hm => eB.2 _ (by omega)
  have n55 : ∀ m, m < 26 → (gm2 55 (26 * c + m)).toInt = -1 := fun m hm => by rw [eB.1 m hm]; decide
  refine ⟨fun c' hc' => ?_, ?_, ⟨fun c' hc' => ?_, ?_⟩, ?_, fun c' m hc' hm => ?_, fun c' hc' => ?_⟩
  · by_cases w : c' = c
    · rw [w]
      unfold CL9
      rw [e0, e1, e4, r7, r13, r10, r6, upd_at, upd_at, upd_at, upd_at, upd_at, upd_at, upd_at, hg 2 (by decide), z0, z1]
      exact ⟨(h2 c hc).1, rfl, rfl, rfl, fun i hi => absurd hi (Nat.not_lt_zero _), fun i hi => absurd hi (Nat.not_lt_zero _), fun i hi => absurd hi (Nat.not_lt_zero _), fun m hm _ => n55 m hm⟩
    · obtain ⟨a1, a2, a3, a4, a5, a6, a7, a8⟩ := h1 c' hc'
      unfold CL9
      rw [e0, e1, e4, r7, r13, r10, r6, upd_ne w, upd_ne w, upd_ne w, upd_ne w, upd_ne w, upd_ne w, upd_ne w, hg 2 (by decide), hg 5 (by decide), hg 6 (by decide), hg 7 (by decide), hg 8 (by decide), hg 9 (by decide), hg 10 (by decide), hg 54 (by decide), hn 8 (by decide), hn 9 (by decide), hn 11 (by decide), hn 12 (by decide), hn 14 (by decide), hn 15 (by decide), hn 16 (by decide), hn 17 (by decide), hn 18 (by decide)]
      refine ⟨a1, a2, a3, a4, a5, a6, fun k hk => ?_, fun m hm hk => ?_⟩
      · have := (h6 c' hc').2 k hk
        have e : (gn 11 (8 * c' + k)).toNatClampNeg = (gn 11 (8 * c' + k)).toInt.toNat := rfl
        rw [o55 c' hc' w _ (by omega)]; exact a7 k hk
      · rw [o55 c' hc' w _ hm]; exact a8 m hm hk
  · unfold FXD; rw [hg 2 (by decide), hg 5 (by decide), hg 6 (by decide)]; exact h2
  · rw [e0, e1, e3]
    by_cases w : c' = c
    · rw [w, upd_at, upd_at, upd_at, z0]; omega
    · rw [upd_ne w, upd_ne w, upd_ne w]; exact h3 c' hc'
  · rw [hg 7 (by decide)]; exact h3b
  · unfold STY9; rw [hg 7 (by decide), hg 54 (by decide)]; exact h4
  · by_cases w : c' = c
    · rw [w]; exact Or.inl (n55 m hm)
    · rw [o55 c' hc' w m hm]; exact h5 c' m hc' hm
  · rw [r10, e3, hn 11 (by decide), hn 12 (by decide)]
    by_cases w : c' = c
    · rw [w, upd_at, upd_at, z1]; exact ⟨rfl, fun k hk => absurd hk (Nat.not_lt_zero _)⟩
    · rw [upd_ne w, upd_ne w]; exact h6 c' hc'
/-- types that are told are types -/
def TYS (n a b d : Int32) : Prop := 0 ≤ n.toInt ∧ n.toInt ≤ 3 ∧ (1 ≤ n.toInt → ty9 a.toInt) ∧ (2 ≤ n.toInt → ty9 b.toInt) ∧ (3 ≤ n.toInt → ty9 d.toInt)
theorem sty_s {q : Nat} (h : STY9 gm) (hq : q < 64) (hT : TYS n a b d) (e7 : gm2 7 = upd (gm 7) q n) (e54 : gm2 54 = upd (upd (upd (gm 54) (3 * q) a) (3 * q + 1) b) (3 * q + 2) d) (h3b : ∀ s, s < 64 → (gm 7 s).toInt ≤ 3) : STY9 gm2 ∧ ∀ s, s < 64 → (gm2 7 s).toInt ≤ 3 := by
  obtain ⟨t0, t1, t2, t3, t4⟩ := hT
  have kn : n.toNatClampNeg = n.toInt.toNat := rfl
  refine ⟨fun s p hs hp => ?_, fun s hs => ?_⟩
  · rw [e7] at hp
    by_cases w : s = q
    · rw [w, upd_at] at hp
      rw [w, e54, u3_at (by omega)]
      by_cases p0 : p = 0
      · rw [if_pos p0]; exact t2 (by omega)
      · rw [if_neg p0]
        by_cases p1 : p = 1
        · rw [if_pos p1]; exact t3 (by omega)
        · rw [if_neg p1]; exact t4 (by omega)
    · rw [upd_ne w] at hp
      have h3 := h3b s hs
      have ks : (gm 7 s).toNatClampNeg = (gm 7 s).toInt.toNat := rfl
      rw [e54, u3_ne (by omega) w]
      exact h s p hs hp
  · rw [e7]
    by_cases w : s = q
    · rw [w, upd_at]; exact t1
    · rw [upd_ne w]; exact h3b s hs
/-- a constructor more -/
theorem CLX_c {z z2 : Int32} (h : CLX gm gn) (hc : c < 8) (hT : TYS n a b d) (hlt : (gm 0 c).toInt < 4) (hz : z.toInt = (gm 0 c).toInt + 1) (e0 : gm2 0 = upd (gm 0) c z) (hS : SIG9 gm gm2 (8 * c + 0 + (gm 0 c).toNatClampNeg) (-1) 0 (gm 2 c) n a b d) (hg : ∀ k, k = 1 ∨ k = 2 ∨ k = 3 ∨ k = 4 ∨ k = 5 ∨ k = 6 ∨ k = 55 → gm2 k = gm k) (hz2 : z2.toInt = (gn 7 c).toInt + 1) (r7 : gn2 7 = upd (gn 7) c z2) (r8 : gn2 8 = upd (gn 8) (4 * c + (gn 7 c).toNatClampNeg) n) (r9 : gn2 9 = upd (upd (upd (gn 9) (3 * (4 * c + (gn 7 c).toNatClampNeg)) a) (3 * (4 * c + (gn 7 c).toNatClampNeg) + 1) b) (3 * (4 * c + (gn 7 c).toNatClampNeg) + 2) d) (hn : ∀ k, k = 6 ∨ k = 10 ∨ k = 11 ∨ k = 12 ∨ k = 13 ∨ k = 14 ∨ k = 15 ∨ k = 16 ∨ k = 17 ∨ k = 18 → gn2 k = gn k) : CLX gm2 gn2 := by
  obtain ⟨h1, h2, ⟨h3, h3b⟩, h4, h5, h6⟩ := h
  obtain ⟨e8, e9, e10, e7, e54⟩ := hS
  have m1 : ((-1 : Int32)).toInt = -1 := by decide
  have z0 : ((0 : Int32)).toInt = 0 := by decide
  have k7 := (h1 c hc).2.2.1
  have kc := h3 c hc
  have em : (gn 7 c).toNatClampNeg = (gm 0 c).toNatClampNeg := by show (gn 7 c).toInt.toNat = (gm 0 c).toInt.toNat; omega
  have ek : (gm 0 c).toNatClampNeg = (gm 0 c).toInt.toNat := rfl
  rw [em] at r8 r9
  obtain ⟨y1, y2⟩ := sty_s h4 (q := 8 * c + 0 + (gm 0 c).toNatClampNeg) (by omega) hT e7 e54 h3b
  have hq : 8 * c + 0 + (gm 0 c).toNatClampNeg = 8 * c + (gm 0 c).toNatClampNeg := by omega
  rw [hq] at e8 e9 e10 e7 e54
  refine ⟨fun c' hc' => ?_, ?_, ⟨fun c' hc' => ?_, y2⟩, y1, ?_, ?_⟩
  · obtain ⟨a1, a2, a3, a4, a5, a6, a7, a8⟩ := h1 c' hc'
    have kc' := h3 c' hc'
    have ek' : (gm 0 c').toNatClampNeg = (gm 0 c').toInt.toNat := rfl
    have ek1 : (gm 1 c').toNatClampNeg = (gm 1 c').toInt.toNat := rfl
    unfold CL9
    rw [hg 1 (by decide), hg 2 (by decide), hg 4 (by decide), hg 5 (by decide), hg 6 (by decide), hg 55 (by decide), hn 6 (by decide), hn 10 (by decide), hn 11 (by decide), hn 12 (by decide), hn 13 (by decide), hn 14 (by decide), hn 15 (by decide), hn 16 (by decide), hn 17 (by decide), hn 18 (by decide)]
    have fac : ∀ i, i < (gm 1 c').toNatClampNeg → ¬ 8 * c' + 4 + i = 8 * c + (gm 0 c).toNatClampNeg := fun i hi => by omega
    have old : ∀ i, i < (gm 0 c').toNatClampNeg → ¬ (8 * c' + i = 8 * c + (gm 0 c).toNatClampNeg) → (gn2 8 (4 * c' + i)).toInt = (gm2 7 (8 * c' + i)).toInt ∧ (∀ p, p < (gm2 7 (8 * c' + i)).toNatClampNeg → (gn2 9 (3 * (4 * c' + i) + p)).toInt = (gm2 54 (3 * (8 * c' + i) + p)).toInt) ∧ (gm2 8 (8 * c' + i)).toInt = -1 ∧ (gm2 9 (8 * c' + i)).toInt = 0 ∧ (gm2 10 (8 * c' + i)).toInt = (c' : Int) ∧ (gm 6 (8 * c' + i)).toInt = (i : Int) := by
      intro i hi hne
      have hne2 : ¬ 4 * c' + i = 4 * c + (gm 0 c).toNatClampNeg := by omega
      obtain ⟨b1, b2, b3, b4, b5, b6⟩ := a5 i hi
      have h7 := h3b (8 * c' + i) (by omega)
      have k7' : (gm 7 (8 * c' + i)).toNatClampNeg = (gm 7 (8 * c' + i)).toInt.toNat := rfl
      rw [e7, e8, e9, e10, r8, upd_ne hne, upd_ne hne, upd_ne hne, upd_ne hne, upd_ne hne2]
      refine ⟨b1, fun p hp => ?_, b3, b4, b5, b6⟩
      rw [r9, e54, u3_ne (by omega) hne2, u3_ne (by omega) hne]; exact b2 p hp
    refine ⟨a1, a2, ?_, a4, ?_, fun i hi => ?_, a7, a8⟩
    · rw [e0, r7]
      by_cases w : c' = c
      · rw [w, upd_at, upd_at]; omega
      · rw [upd_ne w, upd_ne w]; exact a3
    · rw [e0]
      by_cases w : c' = c
      · rw [w, upd_at]
        intro i hi
        have kz : z.toNatClampNeg = z.toInt.toNat := rfl
        by_cases u : i = (gm 0 c).toNatClampNeg
        · rw [u, e7, e8, e9, e10, r8, upd_at, upd_at, upd_at, upd_at, upd_at]
          have hnn : n.toNatClampNeg = n.toInt.toNat := rfl
          have := hT.2.1
          refine ⟨rfl, fun p hp => ?_, m1, z0, (h2 c hc).1, ?_⟩
          · rw [r9, e54, u3_at (by omega), u3_at (by omega)]
          · exact ((h2 c hc).2 _ (by omega)).1
        · rw [w] at old
          exact old i (by omega) (by omega)
      · rw [upd_ne w]
        exact fun i hi => old i hi (by omega)
    · have hf := fac i hi
      obtain ⟨b1, b2, b3, b4, b5, b6, b7, b8⟩ := a6 i hi
      have h7 := h3b (8 * c' + 4 + i) (by omega)
      have k7' : (gm 7 (8 * c' + 4 + i)).toNatClampNeg = (gm 7 (8 * c' + 4 + i)).toInt.toNat := rfl
      rw [e7, e8, e9, e10, upd_ne hf, upd_ne hf, upd_ne hf, upd_ne hf]
      refine ⟨b1, b2, b3, b4, fun p hp => ?_, b6, b7, b8⟩
      rw [e54, u3_ne (by omega) hf]; exact b5 p hp
  · unfold FXD; rw [hg 2 (by decide), hg 5 (by decide), hg 6 (by decide)]; exact h2
  · rw [e0, hg 1 (by decide), hg 3 (by decide)]
    by_cases w : c' = c
    · rw [w, upd_at]; exact ⟨by omega, kc.2⟩
    · rw [upd_ne w]; exact h3 c' hc'
  · unfold ST2; rw [hg 55 (by decide)]; exact h5
  · unfold SNM; rw [hg 3 (by decide), hn 10 (by decide), hn 11 (by decide), hn 12 (by decide)]; exact h6
/-- a factory more -/
theorem CLX_f {z z2 : Int32} (h : CLX gm gn) (hc : c < 8) (hT : TYS n a b d) (hnm : 0 ≤ nm.toInt) (hlt : (gm 1 c).toInt < 4) (hz : z.toInt = (gm 1 c).toInt + 1) (e1 : gm2 1 = upd (gm 1) c z) (hS : SIG9 gm gm2 (8 * c + 4 + (gm 1 c).toNatClampNeg) nm st re n a b d) (hg : ∀ k, k = 0 ∨ k = 2 ∨ k = 3 ∨ k = 4 ∨ k = 5 ∨ k = 6 ∨ k = 55 → gm2 k = gm k) (hz2 : z2.toInt = (gn 13 c).toInt + 1) (r13 : gn2 13 = upd (gn 13) c z2) (r14 : gn2 14 = upd (gn 14) (4 * c + (gn 13 c).toNatClampNeg) nm) (r18 : gn2 18 = upd (gn 18) (4 * c + (gn 13 c).toNatClampNeg) st) (r15 : gn2 15 = upd (gn 15) (4 * c + (gn 13 c).toNatClampNeg) re) (r16 : gn2 16 = upd (gn 16) (4 * c + (gn 13 c).toNatClampNeg) n) (r17 : gn2 17 = upd (upd (upd (gn 17) (3 * (4 * c + (gn 13 c).toNatClampNeg)) a) (3 * (4 * c + (gn 13 c).toNatClampNeg) + 1) b) (3 * (4 * c + (gn 13 c).toNatClampNeg) + 2) d) (hn : ∀ k, k = 6 ∨ k = 7 ∨ k = 8 ∨ k = 9 ∨ k = 10 ∨ k = 11 ∨ k = 12 → gn2 k = gn k) : CLX gm2 gn2 := by
  obtain ⟨h1, h2, ⟨h3, h3b⟩, h4, h5, h6⟩ := h
  obtain ⟨e8, e9, e10, e7, e54⟩ := hS
  have k13 := (h1 c hc).2.2.2.1
  have kc := h3 c hc
  have em : (gn 13 c).toNatClampNeg = (gm 1 c).toNatClampNeg := by show (gn 13 c).toInt.toNat = (gm 1 c).toInt.toNat; omega
  have ek : (gm 1 c).toNatClampNeg = (gm 1 c).toInt.toNat := rfl
  rw [em] at r14 r15 r16 r17 r18
  obtain ⟨y1, y2⟩ := sty_s h4 (q := 8 * c + 4 + (gm 1 c).toNatClampNeg) (by omega) hT e7 e54 h3b
  refine ⟨fun c' hc' => ?_, ?_, ⟨fun c' hc' => ?_, y2⟩, y1, ?_, ?_⟩
  · obtain ⟨a1, a2, a3, a4, a5, a6, a7, a8⟩ := h1 c' hc'
    have kc' := h3 c' hc'
    have ek' : (gm 0 c').toNatClampNeg = (gm 0 c').toInt.toNat := rfl
    have ek1 : (gm 1 c').toNatClampNeg = (gm 1 c').toInt.toNat := rfl
    unfold CL9
    rw [hg 0 (by decide), hg 2 (by decide), hg 4 (by decide), hg 5 (by decide), hg 6 (by decide), hg 55 (by decide), hn 6 (by decide), hn 7 (by decide), hn 8 (by decide), hn 9 (by decide), hn 10 (by decide), hn 11 (by decide), hn 12 (by decide)]
    have con : ∀ i, i < (gm 0 c').toNatClampNeg → ¬ 8 * c' + i = 8 * c + 4 + (gm 1 c).toNatClampNeg := fun i hi => by omega
    have old : ∀ i, i < (gm 1 c').toNatClampNeg → ¬ (8 * c' + 4 + i = 8 * c + 4 + (gm 1 c).toNatClampNeg) → (gn2 14 (4 * c' + i)).toInt = (gm2 8 (8 * c' + 4 + i)).toInt ∧ (gn2 18 (4 * c' + i)).toInt = (gm2 9 (8 * c' + 4 + i)).toInt ∧ (gn2 15 (4 * c' + i)).toInt = (gm2 10 (8 * c' + 4 + i)).toInt ∧ (gn2 16 (4 * c' + i)).toInt = (gm2 7 (8 * c' + 4 + i)).toInt ∧ (∀ p, p < (gm2 7 (8 * c' + 4 + i)).toNatClampNeg → (gn2 17 (3 * (4 * c' + i) + p)).toInt = (gm2 54 (3 * (8 * c' + 4 + i) + p)).toInt) ∧ (gm 5 (8 * c' + 4 + i)).toInt = (c' : Int) ∧ (gm 6 (8 * c' + 4 + i)).toInt = (i : Int) ∧ 0 ≤ (gm2 8 (8 * c' + 4 + i)).toInt := by
      intro i hi hne
      have hne2 : ¬ 4 * c' + i = 4 * c + (gm 1 c).toNatClampNeg := by omega
      obtain ⟨b1, b2, b3, b4, b5, b6, b7, b8⟩ := a6 i hi
      have h7 := h3b (8 * c' + 4 + i) (by omega)
      have k7' : (gm 7 (8 * c' + 4 + i)).toNatClampNeg = (gm 7 (8 * c' + 4 + i)).toInt.toNat := rfl
      rw [e7, e8, e9, e10, r14, r15, r16, r18, upd_ne hne, upd_ne hne, upd_ne hne, upd_ne hne, upd_ne hne2, upd_ne hne2, upd_ne hne2, upd_ne hne2]
      refine ⟨b1, b2, b3, b4, fun p hp => ?_, b6, b7, b8⟩
      rw [r17, e54, u3_ne (by omega) hne2, u3_ne (by omega) hne]; exact b5 p hp
    refine ⟨a1, a2, a3, ?_, fun i hi => ?_, ?_, a7, a8⟩
    · rw [e1, r13]
      by_cases w : c' = c
      · rw [w, upd_at, upd_at]; omega
      · rw [upd_ne w, upd_ne w]; exact a4
    · have hf := con i hi
      obtain ⟨b1, b2, b3, b4, b5, b6⟩ := a5 i hi
      have h7 := h3b (8 * c' + i) (by omega)
      have k7' : (gm 7 (8 * c' + i)).toNatClampNeg = (gm 7 (8 * c' + i)).toInt.toNat := rfl
      rw [e7, e8, e9, e10, upd_ne hf, upd_ne hf, upd_ne hf, upd_ne hf]
      refine ⟨b1, fun p hp => ?_, b3, b4, b5, b6⟩
      rw [e54, u3_ne (by omega) hf]; exact b2 p hp
    · rw [e1]
      by_cases w : c' = c
      · rw [w, upd_at]
        intro i hi
        have kz : z.toNatClampNeg = z.toInt.toNat := rfl
        by_cases u : i = (gm 1 c).toNatClampNeg
        · rw [u, e7, e8, e9, e10, r14, r15, r16, r18, upd_at, upd_at, upd_at, upd_at, upd_at, upd_at, upd_at, upd_at]
          have hnn : n.toNatClampNeg = n.toInt.toNat := rfl
          have := hT.2.1
          have hf := (h2 c hc).2 (gm 1 c).toNatClampNeg (by omega)
          refine ⟨rfl, rfl, rfl, rfl, fun p hp => ?_, hf.2.1, hf.2.2, hnm⟩
          rw [r17, e54, u3_at (by omega), u3_at (by omega)]
        · rw [w] at old
          exact old i (by omega) (by omega)
      · rw [upd_ne w]
        exact fun i hi => old i hi (by omega)
  · unfold FXD; rw [hg 2 (by decide), hg 5 (by decide), hg 6 (by decide)]; exact h2
  · rw [e1, hg 0 (by decide), hg 3 (by decide)]
    by_cases w : c' = c
    · rw [w, upd_at]; exact ⟨kc.1, by omega, kc.2.2⟩
    · rw [upd_ne w]; exact h3 c' hc'
  · unfold ST2; rw [hg 55 (by decide)]; exact h5
  · unfold SNM; rw [hg 3 (by decide), hn 10 (by decide), hn 11 (by decide), hn 12 (by decide)]; exact h6
/-- a setter more -/
theorem CLX_s {z z2 v m : Int32} (h : CLX gm gn) (hc : c < 8) (hm : 0 ≤ m.toInt ∧ m.toInt ≤ 25) (hv : ty9 v.toInt) (hlt : (gm 3 c).toInt < 8) (hz : z.toInt = (gm 3 c).toInt + 1) (e3 : gm2 3 = upd (gm 3) c z) (e55 : gm2 55 = upd (gm 55) (26 * c + m.toNatClampNeg) v) (hg : ∀ k, k = 0 ∨ k = 1 ∨ k = 2 ∨ k = 4 ∨ k = 5 ∨ k = 6 ∨ k = 7 ∨ k = 8 ∨ k = 9 ∨ k = 10 ∨ k = 54 → gm2 k = gm k) (hno : ∀ i, i < (gn 10 c).toNatClampNeg → ¬ gn 11 (8 * c + i) = m) (hz2 : z2.toInt = (gn 10 c).toInt + 1) (r10 : gn2 10 = upd (gn 10) c z2) (r11 : gn2 11 = upd (gn 11) (8 * c + (gn 10 c).toNatClampNeg) m) (r12 : gn2 12 = upd (gn 12) (8 * c + (gn 10 c).toNatClampNeg) v) (hn : ∀ k, k = 6 ∨ k = 7 ∨ k = 8 ∨ k = 9 ∨ k = 13 ∨ k = 14 ∨ k = 15 ∨ k = 16 ∨ k = 17 ∨ k = 18 → gn2 k = gn k) : CLX gm2 gn2 := by
  obtain ⟨h1, h2, ⟨h3, h3b⟩, h4, h5, h6⟩ := h
  have km : m.toNatClampNeg = m.toInt.toNat := rfl
  have kc := h3 c hc
  have k10 := (h6 c hc).1
  have e10 : (gn 10 c).toNatClampNeg = (gn 10 c).toInt.toNat := rfl
  have kz : z2.toNatClampNeg = z2.toInt.toNat := rfl
  have old : ∀ c', c' < 8 → ∀ k, k < (gn 10 c').toNatClampNeg → gn2 11 (8 * c' + k) = gn 11 (8 * c' + k) ∧ gn2 12 (8 * c' + k) = gn 12 (8 * c' + k) ∧ ¬ 26 * c' + (gn 11 (8 * c' + k)).toNatClampNeg = 26 * c + m.toNatClampNeg := by
    intro c' hc' k hk
    have kc' := h3 c' hc'
    have k10' := (h6 c' hc').1
    have e10' : (gn 10 c').toNatClampNeg = (gn 10 c').toInt.toNat := rfl
    have hne : ¬ 8 * c' + k = 8 * c + (gn 10 c).toNatClampNeg := by
      intro q
      have : c' = c := by omega
      rw [this] at hk q; omega
    have hr := (h6 c' hc').2 k hk
    have e11 : (gn 11 (8 * c' + k)).toNatClampNeg = (gn 11 (8 * c' + k)).toInt.toNat := rfl
    rw [r11, r12, upd_ne hne, upd_ne hne]
    refine ⟨rfl, rfl, fun q => ?_⟩
    have hcc : c' = c := by omega
    rw [hcc] at hk hr e11 q
    exact hno k hk (Int32.toInt_inj.mp (by omega))
  refine ⟨fun c' hc' => ?_, ?_, ⟨fun c' hc' => ?_, ?_⟩, ?_, fun c' j hc' hj => ?_, fun c' hc' => ?_⟩
  · obtain ⟨a1, a2, a3, a4, a5, a6, a7, a8⟩ := h1 c' hc'
    unfold CL9
    rw [hg 0 (by decide), hg 1 (by decide), hg 2 (by decide), hg 4 (by decide), hg 5 (by decide), hg 6 (by decide), hg 7 (by decide), hg 8 (by decide), hg 9 (by decide), hg 10 (by decide), hg 54 (by decide), hn 6 (by decide), hn 7 (by decide), hn 8 (by decide), hn 9 (by decide), hn 13 (by decide), hn 14 (by decide), hn 15 (by decide), hn 16 (by decide), hn 17 (by decide), hn 18 (by decide)]
    refine ⟨a1, a2, a3, a4, a5, a6, ?_, ?_⟩
    · rw [r10]
      by_cases w : c' = c
      · rw [w, upd_at]
        rw [w] at a7
        intro k hk
        by_cases u : k = (gn 10 c).toNatClampNeg
        · rw [u, r11, r12, upd_at, upd_at, e55, upd_at]
        · obtain ⟨o1, o2, o3⟩ := old c hc k (by omega)
          rw [o1, o2, e55, upd_ne o3]; exact a7 k (by omega)
      · rw [upd_ne w]
        intro k hk
        obtain ⟨o1, o2, o3⟩ := old c' hc' k hk
        rw [o1, o2, e55, upd_ne o3]; exact a7 k hk
    · rw [r10]
      by_cases w : c' = c
      · rw [w, upd_at]
        rw [w] at a8
        intro j hj hk
        have hjm : ¬ 26 * c + j = 26 * c + m.toNatClampNeg := fun q => by
          refine hk (gn 10 c).toNatClampNeg (by omega) ?_
          rw [r11, upd_at]; omega
        rw [e55, upd_ne hjm]
        refine a8 j hj (fun k hk2 => ?_)
        have := hk k (by omega)
        rw [(old c hc k hk2).1] at this; exact this
      · rw [upd_ne w]
        intro j hj hk
        rw [e55, upd_ne (by omega)]
        refine a8 j hj (fun k hk2 => ?_)
        have := hk k hk2
        rw [(old c' hc' k hk2).1] at this; exact this
  · unfold FXD; rw [hg 2 (by decide), hg 5 (by decide), hg 6 (by decide)]; exact h2
  · rw [e3, hg 0 (by decide), hg 1 (by decide)]
    by_cases w : c' = c
    · rw [w, upd_at]; exact ⟨kc.1, kc.2.1, by omega⟩
    · rw [upd_ne w]; exact h3 c' hc'
  · rw [hg 7 (by decide)]; exact h3b
  · unfold STY9; rw [hg 7 (by decide), hg 54 (by decide)]; exact h4
  · rw [e55]
    by_cases w : 26 * c' + j = 26 * c + m.toNatClampNeg
    · rw [w, upd_at]; exact Or.inr hv
    · rw [upd_ne w]; exact h5 c' j hc' hj
  · rw [r10, e3]
    by_cases w : c' = c
    · rw [w, upd_at, upd_at]
      refine ⟨by omega, fun k hk => ?_⟩
      by_cases u : k = (gn 10 c).toNatClampNeg
      · rw [u, r11, r12, upd_at, upd_at]; exact ⟨hm.1, hm.2, hv⟩
      · obtain ⟨o1, o2, _⟩ := old c hc k (by omega)
        rw [o1, o2]; exact (h6 c hc).2 k (by omega)
    · rw [upd_ne w, upd_ne w]
      refine ⟨(h6 c' hc').1, fun k hk => ?_⟩
      obtain ⟨o1, o2, _⟩ := old c' hc' k hk
      rw [o1, o2]; exact (h6 c' hc').2 k hk
/-- a letter that has a setter, on both sides -/
theorem CLX_has {m : Int32} (h : CLX gm gn) (hc : c < 8) (hm : 0 ≤ m.toInt ∧ m.toInt ≤ 25) : gm 55 (26 * c + m.toNatClampNeg) = -1 ↔ ∀ i, i < (gn 10 c).toNatClampNeg → ¬ gn 11 (8 * c + i) = m := by
  obtain ⟨h1, h2, _, h4, h5, h6⟩ := h
  obtain ⟨a1, a2, a3, a4, a5, a6, a7, a8⟩ := h1 c hc
  have km : m.toNatClampNeg = m.toInt.toNat := rfl
  constructor
  · intro q i hi e
    have h7 := a7 i hi
    have ht := ((h6 c hc).2 i hi).2.2
    rw [e, q] at h7
    have : (-1 : Int32).toInt = -1 := by decide
    rw [← h7] at ht
    rcases ht with w | w <;> omega
  · intro q
    refine Int32.toInt_inj.mp ((a8 m.toNatClampNeg (by omega) (fun k hk e => ?_)).trans (by decide))
    have hr := (h6 c hc).2 k hk
    have e11 : (gn 11 (8 * c + k)).toNatClampNeg = (gn 11 (8 * c + k)).toInt.toNat := rfl
    exact q k hk (Int32.toInt_inj.mp (by omega))
end CX9
end
section
section IV9
variable {ws rs : Nat → Int32} {wg rg : Nat → Nat → Int32} {wl lg : Nat → Nat → Int64} {S S2 : S9} {n : Nat}
/-- getting keeps what the rows are asked for -/
theorem zGt_inv (hB : BRG ws wg wl rs rg lg) (h0 : iv 0 80 (ws 12)) {v : Int64} {r : Option Int} (h : zGt ws wg wl n v S = (r, S2)) (hZ : WZ9 wg wl S) (hN : NB9 S) (hO : OB9 (ws 12).toNatClampNeg S) : WZ9 wg wl S2 ∧ NB9 S2 ∧ OB9 (ws 12).toNatClampNeg S2 := by
  rw [zGt_r h0] at h
  have z1 := WZ_gt (ws := ws) n (caN ws wg wl v) hZ
  have o1 := OB_gt hB h0 n (caN ws wg wl v) (caN_lt h0 v) hO
  cases q : gtR ws wg wl n (caN ws wg wl v) S with
  | mk o S1 =>
    rw [q] at h z1 o1
    cases o with
    | some x =>
      have h : (some x, S1) = (r, S2) := h
      have e : S1 = S2 := congrArg Prod.snd h
      rw [← e]
      exact ⟨z1, NB_k hN (KN_gt q), o1⟩
    | none =>
      have h : ((none : Option Int), zSt S1) = (r, S2) := h
      have e : zSt S1 = S2 := congrArg Prod.snd h
      rw [← e]
      exact ⟨WZ_st z1, NB_st, OB_e o1 rfl⟩
theorem rfL_inv (hB : BRG ws wg wl rs rg lg) (h0 : iv 0 80 (ws 12)) : ∀ (k b : Nat) (S : S9) (r : Option Int) (S2 : S9), b + k ≤ (ws 12).toNatClampNeg → WZ9 wg wl S → OB9 (ws 12).toNatClampNeg S → rfL ws wg wl n k b S = (r, S2) → WZ9 wg wl S2 ∧ OB9 (ws 12).toNatClampNeg S2 ∧ (∀ x, r = some x → KN9 S S2)
  | 0, b, S, r, S2, _, hZ, hO, h => by
    have h : (some (0 : Int), S) = (r, S2) := h
    have e : S = S2 := congrArg Prod.snd h
    rw [← e]
    exact ⟨hZ, hO, fun _ _ => KN_rf⟩
  | k + 1, b, S, r, S2, hb, hZ, hO, h => by
    have h : (if ¬ wl 4 b = 0 ∧ wg 34 b = 0 ∧ wg 35 b = 0 ∧ wg 36 b = 0 then bd9 (oGet wg (oMK ws wg wl n) (b : Int) S) (fun _ S => rfL ws wg wl n k (b + 1) S) else rfL ws wg wl n k (b + 1) S) = (r, S2) := h
    by_cases q : ¬ wl 4 b = 0 ∧ wg 34 b = 0 ∧ wg 35 b = 0 ∧ wg 36 b = 0
    · rw [if_pos q, gt_rf q] at h
      have z1 := WZ_gt (ws := ws) n (b : Int) hZ
      have o1 := OB_gt hB h0 n (b : Int) (by omega) hO
      cases w : gtR ws wg wl n (b : Int) S with
      | mk o S1 =>
        rw [w] at h z1 o1
        cases o with
        | some x =>
          have h : rfL ws wg wl n k (b + 1) S1 = (r, S2) := h
          obtain ⟨i1, i2, i3⟩ := rfL_inv hB h0 k (b + 1) S1 r S2 (by omega) z1 o1 h
          exact ⟨i1, i2, fun y hy => KN_tr (KN_gt w) (i3 y hy)⟩
        | none =>
          have h : ((none : Option Int), S1) = (r, S2) := h
          have e : S1 = S2 := congrArg Prod.snd h
          have e2 : none = r := congrArg Prod.fst h
          rw [← e]
          exact ⟨z1, o1, fun y hy => by rw [← e2] at hy; cases hy⟩
    · rw [if_neg q] at h
      exact rfL_inv hB h0 k (b + 1) S r S2 (by omega) hZ hO h
theorem zRf_inv (hB : BRG ws wg wl rs rg lg) (h0 : iv 0 80 (ws 12)) {r : Option Int} (h : zRf ws wg wl n S = (r, S2)) (hN : NB9 S) (hO : OB9 (ws 12).toNatClampNeg S) : WZ9 wg wl S2 ∧ NB9 S2 ∧ OB9 (ws 12).toNatClampNeg S2 := by
  have zz : WZ9 wg wl (zCe (zFo S)) := WZ_e (WZ_fo (S := S)) rfl rfl
  have nn : NB9 (zCe (zFo S)) := NB_fo hN
  unfold zRf at h
  cases q : rfL ws wg wl n (ws 12).toNatClampNeg 0 (zCe (zFo S)) with
  | mk o S1 =>
    rw [q] at h
    obtain ⟨i1, i2, i3⟩ := rfL_inv hB h0 (ws 12).toNatClampNeg 0 (zCe (zFo S)) o S1 (by omega) zz (OB_e hO rfl) q
    cases o with
    | some x =>
      have h : (some ((zO S1).length : Int), S1) = (r, S2) := h
      have e : S1 = S2 := congrArg Prod.snd h
      rw [← e]
      exact ⟨i1, NB_k nn (i3 x rfl), i2⟩
    | none =>
      have h : ((none : Option Int), zCl wg (zSt S1)) = (r, S2) := h
      have e : zCl wg (zSt S1) = S2 := congrArg Prod.snd h
      rw [← e]
      refine ⟨WZ_cl, NB_cl NB_st, OB_e i2 ?_⟩
      show zO (dsL wg (zF (zSt S1)).reverse (zSt S1)) = zO S1
      rw [(dsL_S _ _).2]; rfl
end IV9
end
section
/-- the same text typed, and only such as may be -/
def TXR (sg : Nat → Int32) (gm : Nat → Nat → Int32) (sm : Nat → Int32) (gn : Nat → Nat → Int32) : Prop := sg 0 = sm 20 ∧ ∀ i : Nat, (i : Int) < (sg 0).toInt → gm 43 i = gn 19 i ∧ 1 ≤ (gn 19 i).toInt ∧ (gn 19 i).toInt ≤ 126
theorem TXR_k {sg sg2 sm sm2 : Nat → Int32} {gm gm2 gn gn2 : Nat → Nat → Int32} (h : TXR sg gm sm gn) (e0 : sg2 0 = sg 0) (e43 : gm2 43 = gm 43) (e20 : sm2 20 = sm 20) (e19 : gn2 19 = gn 19) : TXR sg2 gm2 sm2 gn2 := by unfold TXR; rw [e0, e43, e20, e19]; exact h
theorem TXR_0 {sg sm : Nat → Int32} {gm gn : Nat → Nat → Int32} (e0 : (sg 0).toInt = 0) (e20 : (sm 20).toInt = 0) : TXR sg gm sm gn := ⟨Int32.toInt_inj.mp (e0.trans e20.symm), fun i hi => by omega⟩
theorem tyN_ex (p1 p2 p3 p4 p5 : Int32) : ∀ n j, j < tyN p1 p2 p3 p4 p5 n → ∃ k, k < n ∧ ¬ tyS p1 p2 p3 p4 p5 (nI k) = 0 ∧ tyN p1 p2 p3 p4 p5 k = j := by
  intro n
  induction n with
  | zero => intro j h; exact absurd h (Nat.not_lt_zero j)
  | succ n ih =>
    intro j h
    have h : j < tyN p1 p2 p3 p4 p5 n + (if tyS p1 p2 p3 p4 p5 (nI n) = 0 then 0 else 1) := h
    by_cases q : j < tyN p1 p2 p3 p4 p5 n
    · obtain ⟨k, a, b⟩ := ih j q; exact ⟨k, by omega, b⟩
    · by_cases z : tyS p1 p2 p3 p4 p5 (nI n) = 0
      · rw [if_pos z] at h; omega
      · rw [if_neg z] at h; exact ⟨n, by omega, z, by omega⟩
theorem TXR_t {p1 p2 p3 p4 p5 r r' : Int32} {sg sg2 sm sm2 : Nat → Int32} {gm gm2 gn gn2 : Nat → Nat → Int32} (h : TXR sg gm sm gn) (h0 : 0 ≤ (sg 0).toInt) (fT : TYR p1 p2 p3 p4 p5 r (sg 0) (sg2 0)) (gT : TYR p1 p2 p3 p4 p5 r' (sm 20) (sm2 20)) (fX : r.toInt = -1 ∨ TYX p1 p2 p3 p4 p5 (sg 0).toInt (gm2 43) (gm 43) 20) (fK : ∀ i : Nat, (i : Int) < (sg 0).toInt → gm2 43 i = gm 43 i) (gX : r'.toInt = -1 ∧ gn2 19 = gn 19 ∨ TYX p1 p2 p3 p4 p5 (sm 20).toInt (gn2 19) (gn 19) 20) : TXR sg2 gm2 sm2 gn2 := by
  obtain ⟨e1, e2⟩ := TYR_e h.1 fT gT
  subst e1
  refine ⟨e2, ?_⟩
  rcases fT with ⟨a1, a2, a3⟩ | ⟨a1, a2, a3, a4⟩
  · rw [a3]
    have g19 : ∀ i : Nat, (i : Int) < (sg 0).toInt → gn2 19 i = gn 19 i := fun i hi => by
      rcases gX with q | q
      · rw [q.2]
      · exact q.1 i (by rw [← h.1]; exact hi)
    intro i hi
    rw [fK i hi, g19 i hi]
    exact h.2 i hi
  · have hr : ¬ r.toInt = -1 := by omega
    have fX := fX.resolve_left hr
    have gX := gX.resolve_left (fun q => hr q.1)
    rw [← h.1] at gX
    intro i hi
    rw [a4, a1] at hi
    by_cases q : (i : Int) < (sg 0).toInt
    · rw [fX.1 i q, gX.1 i q]; exact h.2 i q
    · obtain ⟨k, k1, k2, k3⟩ := tyN_ex p1 p2 p3 p4 p5 20 (i - (sg 0).toInt.toNat) (by omega)
      have ei : i = (sg 0).toInt.toNat + tyN p1 p2 p3 p4 p5 k := by omega
      have b1 := fX.2 k k1 k2
      have b2 := gX.2 k k1 k2
      rw [← ei] at b1 b2
      rw [b1, b2]
      have b3 := a2 k k1
      have b4 : ¬ (tyS p1 p2 p3 p4 p5 (nI k)).toInt = 0 := fun w => k2 (Int32.toInt_inj.mp w)
      exact ⟨rfl, by omega, by omega⟩
/-- the text as both read it -/
def chT (sm : Nat → Int32) (gn : Nat → Nat → Int32) (i : Nat) : Int := if (i : Int) < (sm 20).toInt then (gn 19 i).toInt else -1
theorem chT_r {sm : Nat → Int32} {gn : Nat → Nat → Int32} (h0 : 0 ≤ (sm 20).toInt) : CHR (chT sm gn) (sm 20).toInt.toNat (sm 20) (gn 19) := ⟨by omega, fun _ => rfl⟩
theorem chT_c {sg sm : Nat → Int32} {gm gn : Nat → Nat → Int32} (h : TXR sg gm sm gn) (h0 : 0 ≤ (sm 20).toInt) : CHR (chT sm gn) (sm 20).toInt.toNat (sg 0) (gm 43) := by
  refine ⟨by rw [h.1]; omega, fun i => ?_⟩
  unfold chT
  rw [h.1]
  by_cases q : (i : Int) < (sm 20).toInt
  · rw [if_pos q, if_pos q, (h.2 i (by rw [h.1]; exact q)).1]
  · rw [if_neg q, if_neg q]
theorem chT_p {sg sm : Nat → Int32} {gm gn : Nat → Nat → Int32} (h : TXR sg gm sm gn) : PC7 (chT sm gn) := by
  intro i
  unfold chT
  by_cases q : (i : Int) < (sm 20).toInt
  · rw [if_pos q]; exact Or.inr (h.2 i (by rw [h.1]; exact q)).2
  · rw [if_neg q]; exact Or.inl rfl
theorem ACPQ {ch : Nat → Int} {n : Nat} (hx : XX7 ch n) (hp : PC7 ch) : ACP ch n ↔ ACQ ch n := by
  constructor
  · rintro ⟨a, b⟩; exact ⟨a, (AC_e (sDoc_pv hp a) (hx _ a).1 (hx _ a).2).mp b⟩
  · rintro ⟨a, b⟩; exact ⟨a, (AC_e (sDoc_pv hp a) (hx _ a).1 (hx _ a).2).mpr b⟩
/-- the text and the words that class and reference have in common -/
def REL7 (sg : Nat → Int32) (gm : Nat → Nat → Int32) (sm : Nat → Int32) (gn : Nat → Nat → Int32) (ln : Nat → Nat → Int64) : Prop := TXR sg gm sm gn ∧ ENT (gn 3) (gn 4) (ln 2) ∧ WRD7 (ln 0) (ln 1)
end
section
section RL9s
variable {D : List El7} {sg sg2 sm sm2 rs rs2 : Nat → Int32} {gm gm2 gn gn2 rg rg2 : Nat → Nat → Int32} {lg lg2 ln ln2 : Nat → Nat → Int64} {S S2 : S9}
theorem PBr_e (h : PBr D rs rg lg) (s24 : rs2 24 = rs 24) (s41 : rs2 41 = rs 41) (hg : ∀ k, 20 ≤ k → rg2 k = rg k) : PBr D rs2 rg2 lg := by
  obtain ⟨h1, h2, h3, h4, h5, h6, h7, h8⟩ := h
  have g26 := hg 26 (by omega)
  have g28 := hg 28 (by omega)
  have g29 := hg 29 (by omega)
  have g30 := hg 30 (by omega)
  have g31 := hg 31 (by omega)
  have g36 := hg 36 (by omega)
  have g37 := hg 37 (by omega)
  have g38 := hg 38 (by omega)
  have g39 := hg 39 (by omega)
  have hd : DK rs rg lg rs2 rg2 lg := ⟨⟨s24, g26, g28, g29, g30, g36, g37, g38, rfl⟩, s41, hg 42 (by omega), hg 43 (by omega)⟩
  refine ⟨by rw [s24]; exact h1, fun x hx => ?_, fun k hk => by rw [g26]; exact h3 k hk, ?_, fun c hc => MM_k (h5 c (by rw [s41] at hc; exact hc)) hd (hg 44 (by omega)) (hg 45 (by omega)) (hg 46 (by omega)) (hg 47 (by omega)), fun b h0 h1 => by rw [mPar_k hd]; exact h6 b h0 (by rw [s41] at h1; exact h1), h7, fun b hb => by rw [hg 44 (by omega), hg 46 (by omega)]; exact h8 b hb⟩
  · obtain ⟨a1, ⟨P, a2⟩, a3, a4⟩ := h2 x hx
    refine ⟨?_, ⟨P, ?_⟩, a3, ?_⟩
    · unfold RL7 mWord mIsW mHas mFind at *
      rw [g28, g29, g30, g31, g36, g37, g38]; exact a1
    · unfold ATR at *
      rw [g30, g36, g37, g38]; exact a2
    · unfold TXT7 at *
      rw [g39]; exact a4
  · unfold BN7 at *
    rw [s41, hg 42 (by omega), hg 43 (by omega)]; exact h4
theorem rt_g (hg : ∀ k, 20 ≤ k → gn2 k = gn k) : ∀ k, 20 ≤ k → rt9 gn2 k = rt9 gn k := fun k hk => by unfold rt9; rw [hg k hk]
/-- numbers of the beans -/
def N28 (gm : Nat → Nat → Int32) : Prop := ∀ b, b < 80 → (gm 28 b).toInt = (b : Int)
/-- nothing is made -/
def EMP (S : S9) : Prop := zO S = [] ∧ zE S = [] ∧ zF S = [] ∧ ∀ b, zS S b = 0
/-- no document on either side, or one that is alike -/
def DCR (sg : Nat → Int32) (gm : Nat → Nat → Int32) (lg : Nat → Nat → Int64) (sm : Nat → Int32) (gn : Nat → Nat → Int32) (ln : Nat → Nat → Int64) : Prop := ((sg 1).toInt = 0 ∧ (sm 40).toInt = 0) ∨ (¬ (sg 1).toInt = 0 ∧ ¬ (sm 40).toInt = 0 ∧ ∃ D, PBc D (ss9 sg) (st9 gm) lg ∧ PBr D (rs9 sm) (rt9 gn) ln ∧ PBd D ∧ TLN D)
/-- what is made, alike on both sides -/
def SSR (sg : Nat → Int32) (gm : Nat → Nat → Int32) (lg : Nat → Nat → Int64) (sm : Nat → Int32) (gn : Nat → Nat → Int32) (S : S9) : Prop := RC (st9 gm) lg S sg gm ∧ RR (st9 gm) lg S sm gn ∧ WF9 S ∧ WZ9 (st9 gm) lg S ∧ NB9 S ∧ ((sg 1).toInt = 0 → EMP S) ∧ (¬ (sg 1).toInt = 0 → OB9 (ss9 sg 12).toNatClampNeg S)
/-- what class and reference have in common -/
def REL (sg : Nat → Int32) (gm : Nat → Nat → Int32) (lg : Nat → Nat → Int64) (sm : Nat → Int32) (gn : Nat → Nat → Int32) (ln : Nat → Nat → Int64) : Prop := REL7 sg gm sm gn ln ∧ CLX gm gn ∧ N28 gm ∧ DCR sg gm lg sm gn ln ∧ ∃ S, SSR sg gm lg sm gn S
/-- rows of the class that stay: all of the document and of what is made -/
abbrev KG9 (gm gm2 : Nat → Nat → Int32) : Prop := ∀ k, (11 ≤ k ∧ k ≤ 53 ∧ ¬ k = 43) ∨ k = 56 ∨ k = 57 → gm2 k = gm k
abbrev KN20 (gn gn2 : Nat → Nat → Int32) : Prop := ∀ k, 20 ≤ k → gn2 k = gn k
theorem DCR_e (h : DCR sg gm lg sm gn ln) (hs : ∀ k, k = 1 ∨ k = 4 ∨ k = 12 → sg2 k = sg k) (hg : KG9 gm gm2) (hm : ∀ k, k = 24 ∨ k = 40 ∨ k = 41 → sm2 k = sm k) (hn : KN20 gn gn2) : DCR sg2 gm2 lg sm2 gn2 ln := by
  unfold DCR
  rw [hs 1 (by decide), hm 40 (by decide)]
  rcases h with h | ⟨h1, h2, D, h3, h4, h5, h6⟩
  · exact Or.inl h
  · refine Or.inr ⟨h1, h2, D, ?_, ?_, h5, h6⟩
    · refine PBc_e h3 (hs 4 (by decide)) (hs 12 (by decide)) (fun k hk => ?_) (fun _ _ => rfl)
      rw [st_g k hk, st_g k hk]
      unfold UG9 at hk
      exact hg k (by omega)
    · exact PBr_e h4 (hm 24 (by decide)) (hm 41 (by decide)) (rt_g hn)
theorem RC_w {wg wg2 : Nat → Nat → Int32} (h : RC wg lg S sg gm) (e : wg2 35 = wg 35) : RC wg2 lg S sg gm := by
  unfold RC RCb RCf at *; rw [e]; exact h
theorem RR_w {wg wg2 : Nat → Nat → Int32} (h : RR wg lg S sg gm) (e : wg2 35 = wg 35) : RR wg2 lg S sg gm := by
  unfold RR RRb RRf one9 at *; rw [e]; exact h
theorem WZ_w {wg wg2 : Nat → Nat → Int32} (h : WZ9 wg lg S) (e : wg2 35 = wg 35) : WZ9 wg2 lg S := by
  unfold WZ9 one9 at *; rw [e]; exact h
theorem RR_g (h : RR (st9 gm) lg S sm gn) (hm : ∀ k, k = 41 ∨ k = 48 ∨ k = 49 ∨ k = 50 → sm2 k = sm k) (hn : KN20 gn gn2) : RR (st9 gm) lg S sm2 gn2 := by
  unfold RR RRo RRe RRb RRf at *
  rw [hm 41 (by decide), hm 48 (by decide), hm 49 (by decide), hm 50 (by decide), hn 53 (by decide), hn 54 (by decide), hn 55 (by decide), hn 56 (by decide), hn 57 (by decide), hn 58 (by decide), hn 59 (by decide), hn 60 (by decide), hn 61 (by decide), hn 62 (by decide)]
  exact h
theorem SSR_e (h : SSR sg gm lg sm gn S) (hs : ∀ k, k = 1 ∨ k = 12 ∨ k = 13 ∨ k = 14 ∨ k = 15 → sg2 k = sg k) (hg : KG9 gm gm2) (hm : ∀ k, k = 41 ∨ k = 48 ∨ k = 49 ∨ k = 50 → sm2 k = sm k) (hn : KN20 gn gn2) : SSR sg2 gm2 lg sm2 gn2 S := by
  obtain ⟨h1, h2, h3, h4, h5, h6, h7⟩ := h
  have e35 : st9 gm2 35 = st9 gm 35 := by rw [st_g 35 (by unfold UG9; decide), st_g 35 (by unfold UG9; decide)]; exact hg 35 (by decide)
  refine ⟨RC_w (RC_k h1 (hs 12 (by decide)) (hs 13 (by decide)) (hs 14 (by decide)) (hs 15 (by decide)) (hg 37 (by decide)) (hg 38 (by decide)) (hg 39 (by decide)) (hg 48 (by decide)) (hg 49 (by decide)) (hg 50 (by decide)) (hg 51 (by decide))) e35, RR_w (RR_g h2 hm hn) e35, h3, WZ_w h4 e35, h5, ?_, ?_⟩
  · rw [hs 1 (by decide)]; exact h6
  · rw [hs 1 (by decide)]
    intro q
    have e : ss9 sg2 12 = ss9 sg 12 := hs 12 (by decide)
    rw [e]; exact h7 q
/-- a call that leaves document and making alone -/
theorem REL_e (h : REL sg gm lg sm gn ln) (hT : REL7 sg2 gm2 sm2 gn2 ln) (hX : CLX gm2 gn2) (hs : ∀ k, k = 1 ∨ k = 4 ∨ k = 12 ∨ k = 13 ∨ k = 14 ∨ k = 15 → sg2 k = sg k) (hg : KG9 gm gm2) (hm : ∀ k, k = 24 ∨ k = 40 ∨ k = 41 ∨ k = 48 ∨ k = 49 ∨ k = 50 → sm2 k = sm k) (hn : KN20 gn gn2) : REL sg2 gm2 lg sm2 gn2 ln := by
  obtain ⟨_, _, h3, h4, S, h5⟩ := h
  refine ⟨hT, hX, fun b hb => by rw [hg 28 (by decide)]; exact h3 b hb, DCR_e h4 (fun k hk => hs k (by omega)) hg (fun k hk => hm k (by omega)) hn, S, SSR_e h5 (fun k hk => hs k (by omega)) hg (fun k hk => hm k (by omega)) hn⟩
end RL9s
end
section
section RM8
variable {D : List El7} {sg sg2 sm sm2 : Nat → Int32} {gm gm2 gn gn2 : Nat → Nat → Int32} {lg ln : Nat → Nat → Int64} {S : S9}
/-- one outcome, on both sides -/
theorem OUTz {wg : Nat → Nat → Int32} {nb : Nat} {Z : Option Int × S9} {k t c2 x y : Int} (h2 : ¬ c2 = 0) (hinv : ∀ r S2, Z = (r, S2) → WZ9 wg lg S2 ∧ NB9 S2 ∧ OB9 nb S2) (hc : (k = c2 ∧ ∃ S2, Z = (none, S2) ∧ RC wg lg S2 sg2 gm2) ∨ (k = 0 ∧ ∃ S2, Z = (some x, S2) ∧ RC wg lg S2 sg2 gm2)) (hr : ∃ S2, RR wg lg S2 sm2 gn2 ∧ WF9 S2 ∧ ((t = 0 ∧ Z = (some y, S2)) ∨ (t = c2 ∧ Z = (none, S2)))) : (∃ S2, RC wg lg S2 sg2 gm2 ∧ RR wg lg S2 sm2 gn2 ∧ WF9 S2 ∧ WZ9 wg lg S2 ∧ NB9 S2 ∧ OB9 nb S2) ∧ t = k ∧ (k = 0 → x = y) := by
  obtain ⟨S3, r1, r2, r3⟩ := hr
  rcases hc with ⟨k1, S2, k2, k3⟩ | ⟨k1, S2, k2, k3⟩
  · rcases r3 with ⟨t1, t2⟩ | ⟨t1, t2⟩
    · rw [k2] at t2; cases t2
    · have e : S2 = S3 := congrArg Prod.snd (k2.symm.trans t2)
      rw [← e] at r1 r2
      exact ⟨⟨S2, k3, r1, r2, hinv _ _ k2⟩, t1.trans k1.symm, fun q => absurd (k1.symm.trans q) h2⟩
  · rcases r3 with ⟨t1, t2⟩ | ⟨t1, t2⟩
    · have e0 := k2.symm.trans t2
      have e : S2 = S3 := congrArg Prod.snd e0
      have ex : x = y := Option.some.inj (congrArg Prod.fst e0)
      rw [← e] at r1 r2
      exact ⟨⟨S2, k3, r1, r2, hinv _ _ k2⟩, t1.trans k1.symm, fun _ => ex⟩
    · rw [k2] at t2; cases t2
/-- the state that is made, anew -/
def NEW9 (sg sg2 : Nat → Int32) (gm gm2 : Nat → Nat → Int32) (lg : Nat → Nat → Int64) (sm2 : Nat → Int32) (gn2 : Nat → Nat → Int32) : Prop := ∃ S2, RC (st9 gm) lg S2 sg2 gm2 ∧ RR (st9 gm) lg S2 sm2 gn2 ∧ WF9 S2 ∧ WZ9 (st9 gm) lg S2 ∧ NB9 S2 ∧ ((sg 1).toInt = 0 → EMP S2) ∧ (¬ (sg 1).toInt = 0 → OB9 (ss9 sg 12).toNatClampNeg S2)
theorem REL_mk (h : REL sg gm lg sm gn ln) (k1 : KS [13, 14, 15, 16, 17, 18] sg sg2) (k2 : KS [37, 38, 39, 48, 49, 50, 51, 52, 53] gm gm2) (j1 : KS [5, 48, 49, 50, 51, 52, 63, 74] sm sm2) (j2 : KS [53, 54, 55, 56, 57, 58, 59, 60, 61, 62, 64, 65, 66, 67, 68, 69, 70, 71, 72, 73, 75] gn gn2) (hS : NEW9 sg sg2 gm gm2 lg sm2 gn2) : REL sg2 gm2 lg sm2 gn2 ln := by
  obtain ⟨⟨a1, a2, a3⟩, b, c, d, _⟩ := h
  have w1 : st9 gm2 = st9 gm := st9_ks k2 (by decide)
  have w2 : ss9 sg2 = ss9 sg := ss9_ks k1 (by decide) (by decide)
  have w3 : rt9 gn2 = rt9 gn := rt9_ks j2 (by decide)
  have w4 : rs9 sm2 = rs9 sm := rs9_ks j1 (by decide) (by decide)
  have s1 : sg2 1 = sg 1 := k1 1 (by decide)
  have m40 : sm2 40 = sm 40 := j1 40 (by decide)
  refine ⟨⟨TXR_k a1 (k1 0 (by decide)) (k2 43 (by decide)) (j1 20 (by decide)) (j2 19 (by decide)), ENT_k a2 (j2 3 (by decide)) (j2 4 (by decide)) rfl, a3⟩, CLX_e b (fun k hk => k2 k ?_) (fun k hk => j2 k ?_), fun x hx => by rw [k2 28 (by decide)]; exact c x hx, ?_, ?_⟩
  · rcases hk with q | q | q | q | q | q | q | q | q | q | q | q | q <;> rw [q] <;> decide
  · rcases hk with q | q | q | q | q | q | q | q | q | q | q | q | q <;> rw [q] <;> decide
  · unfold DCR; rw [w1, w2, w3, w4, s1, m40]; exact d
  · obtain ⟨S2, t1, t2, t3, t4, t5, t6, t7⟩ := hS
    refine ⟨S2, ?_⟩
    unfold SSR
    rw [w1, w2, s1]
    exact ⟨t1, t2, t3, t4, t5, t6, t7⟩
/-- what refresh, get have answered: 1 without a document, 2 if it fails -/
def HPC (sg : Nat → Int32) (gm : Nat → Nat → Int32) (lg : Nat → Nat → Int64) (S : S9) (Z : Option Int × S9) (sg2 : Nat → Int32) (gm2 : Nat → Nat → Int32) (k x : Int) : Prop := (k = 1 ∧ (sg 1).toInt = 0 ∧ RC (st9 gm) lg S sg2 gm2) ∨ (¬ (sg 1).toInt = 0 ∧ ((k = 2 ∧ ∃ S2, Z = (none, S2) ∧ RC (st9 gm) lg S2 sg2 gm2) ∨ (k = 0 ∧ ∃ S2, Z = (some x, S2) ∧ RC (st9 gm) lg S2 sg2 gm2)))
def HPR (sm : Nat → Int32) (wg : Nat → Nat → Int32) (lg : Nat → Nat → Int64) (S : S9) (Z : Option Int × S9) (sm2 : Nat → Int32) (gn2 : Nat → Nat → Int32) (y : Int) : Prop := ((sm 40).toInt = 0 ∧ (sm2 5).toInt = 1 ∧ RR wg lg S sm2 gn2) ∨ (¬ (sm 40).toInt = 0 ∧ ∃ S2, RR wg lg S2 sm2 gn2 ∧ WF9 S2 ∧ (((sm2 5).toInt = 0 ∧ Z = (some y, S2)) ∨ ((sm2 5).toInt = 2 ∧ Z = (none, S2))))
theorem OUT_1 {Z Z2 : Option Int × S9} {k x y : Int} (hD : DCR sg gm lg sm gn ln) (hS : SSR sg gm lg sm gn S) (hc : HPC sg gm lg S Z sg2 gm2 k x) (hr : HPR sm (st9 gm) lg S Z2 sm2 gn2 y) (hZ : ¬ (sg 1).toInt = 0 → Z = Z2 ∧ ∀ r S2, Z = (r, S2) → WZ9 (st9 gm) lg S2 ∧ NB9 S2 ∧ OB9 (ss9 sg 12).toNatClampNeg S2) : NEW9 sg sg2 gm gm2 lg sm2 gn2 ∧ (sm2 5).toInt = k ∧ (k = 0 → x = y) := by
  obtain ⟨_, _, s3, s4, s5, s6, s7⟩ := hS
  rcases hD with ⟨d1, d2⟩ | ⟨d1, d2, _⟩
  · rcases hc with ⟨c1, _, c3⟩ | ⟨c1, _⟩
    · rcases hr with ⟨_, r2, r3⟩ | ⟨r1, _⟩
      · exact ⟨⟨S, c3, r3, s3, s4, s5, s6, s7⟩, by omega, fun q => by omega⟩
      · exact absurd d2 r1
    · exact absurd d1 c1
  · obtain ⟨z1, z2⟩ := hZ d1
    rcases hc with ⟨_, c2, _⟩ | ⟨_, c2⟩
    · exact absurd c2 d1
    · rcases hr with ⟨r1, _⟩ | ⟨_, r2⟩
      · exact absurd r1 d2
      · rw [← z1] at r2
        obtain ⟨⟨S2, o1, o2, o3, o4, o5, o6⟩, q1, q2⟩ := OUTz (by decide) z2 c2 r2
        exact ⟨⟨S2, o1, o2, o3, o4, o5, fun q => absurd q d1, fun _ => o6⟩, q1, q2⟩
/-- what the contracts ask for -/
theorem REL_q (hD : DCR sg gm lg sm gn ln) : ((sg 1).toInt = 0 ∨ SV (ss9 sg) (st9 gm) lg) ∧ ((sm 40).toInt = 0 ∨ BRG (ss9 sg) (st9 gm) lg (rs9 sm) (rt9 gn) ln) ∧ ((sm 40).toInt = 0 ∨ SB9 (ss9 sg) (st9 gm) lg) := by
  rcases hD with ⟨d1, d2⟩ | ⟨_, _, D, hc, hr, hd, _⟩
  · exact ⟨Or.inl d1, Or.inl d2, Or.inl d2⟩
  · exact ⟨Or.inr (SV_of hc hr hd), Or.inr (BRG_of hc hr hd), Or.inr (SB_of hc hr hd)⟩
theorem R_ref {k x y : Int} (h : REL sg gm lg sm gn ln) (hS : SSR sg gm lg sm gn S) (hc : HPC sg gm lg S (zRf (ss9 sg) (st9 gm) lg 40 S) sg2 gm2 k x) (hr : HPR sm (st9 gm) lg S (zRf (ss9 sg) (st9 gm) lg 81 S) sm2 gn2 y) : NEW9 sg sg2 gm gm2 lg sm2 gn2 ∧ (sm2 5).toInt = k ∧ (k = 0 → x = y) := by
  refine OUT_1 h.2.2.2.1 hS hc hr (fun q => ?_)
  obtain ⟨_, _, D, h3, h4, h5, h6⟩ := h.2.2.2.1.resolve_left (fun w => q w.1)
  exact ⟨zRf_e h3 h4 h5 h6 S, fun r S2 e => zRf_inv (BRG_of h3 h4 h5) (ws_iv h3 h4 h5) e hS.2.2.2.2.1 (hS.2.2.2.2.2.2 q)⟩
theorem R_get {k x y : Int} {v : Int64} (h : REL sg gm lg sm gn ln) (hS : SSR sg gm lg sm gn S) (hc : HPC sg gm lg S (zGt (ss9 sg) (st9 gm) lg 40 v S) sg2 gm2 k x) (hr : HPR sm (st9 gm) lg S (zGt (ss9 sg) (st9 gm) lg 81 v S) sm2 gn2 y) : NEW9 sg sg2 gm gm2 lg sm2 gn2 ∧ (sm2 5).toInt = k ∧ (k = 0 → x = y) := by
  refine OUT_1 h.2.2.2.1 hS hc hr (fun q => ?_)
  obtain ⟨_, _, D, h3, h4, h5, h6⟩ := h.2.2.2.1.resolve_left (fun w => q w.1)
  exact ⟨zGt_e h3 h4 h5 h6 v S, fun r S2 e => zGt_inv (BRG_of h3 h4 h5) (ws_iv h3 h4 h5) e hS.2.2.2.1 hS.2.2.2.2.1 (hS.2.2.2.2.2.2 q)⟩
/-- what call has answered: 2 without a lookup, 3 if it fails -/
def HCC (sg : Nat → Int32) (gm : Nat → Nat → Int32) (lg : Nat → Nat → Int64) (S : S9) (o w : Int) (sg2 : Nat → Int32) (gm2 : Nat → Nat → Int32) (k x : Int) : Prop := (k = 1 ∧ (sg 1).toInt = 0 ∧ RC (st9 gm) lg S sg2 gm2) ∨ (¬ (sg 1).toInt = 0 ∧ ((k = 2 ∧ zLk (st9 gm) o w S < 0 ∧ RC (st9 gm) lg S sg2 gm2) ∨ (0 ≤ zLk (st9 gm) o w S ∧ ((k = 3 ∧ ∃ S2, zGt (ss9 sg) (st9 gm) lg 40 (lg 2 (zLk (st9 gm) o w S).toNat) S = (none, S2) ∧ RC (st9 gm) lg S2 sg2 gm2) ∨ (k = 0 ∧ ∃ S2, zGt (ss9 sg) (st9 gm) lg 40 (lg 2 (zLk (st9 gm) o w S).toNat) S = (some x, S2) ∧ RC (st9 gm) lg S2 sg2 gm2)))))
def HCR (sg : Nat → Int32) (sm : Nat → Int32) (wg : Nat → Nat → Int32) (lg : Nat → Nat → Int64) (S : S9) (o w : Int) (sm2 : Nat → Int32) (gn2 : Nat → Nat → Int32) (y : Int) : Prop := ((sm 40).toInt = 0 ∧ (sm2 5).toInt = 1 ∧ RR wg lg S sm2 gn2) ∨ (¬ (sm 40).toInt = 0 ∧ zLk wg o w S < 0 ∧ (sm2 5).toInt = 2 ∧ RR wg lg S sm2 gn2) ∨ (¬ (sm 40).toInt = 0 ∧ 0 ≤ zLk wg o w S ∧ ∃ S2, RR wg lg S2 sm2 gn2 ∧ WF9 S2 ∧ (((sm2 5).toInt = 0 ∧ zGt (ss9 sg) wg lg 81 (lg 2 (zLk wg o w S).toNat) S = (some y, S2)) ∨ ((sm2 5).toInt = 3 ∧ zGt (ss9 sg) wg lg 81 (lg 2 (zLk wg o w S).toNat) S = (none, S2))))
theorem R_call {k x y o w : Int} (h : REL sg gm lg sm gn ln) (hS : SSR sg gm lg sm gn S) (hc : HCC sg gm lg S o w sg2 gm2 k x) (hr : HCR sg sm (st9 gm) lg S o w sm2 gn2 y) : NEW9 sg sg2 gm gm2 lg sm2 gn2 ∧ (sm2 5).toInt = k ∧ (k = 0 → x = y) := by
  have hS0 := hS
  obtain ⟨_, _, s3, s4, s5, s6, s7⟩ := hS
  rcases h.2.2.2.1 with ⟨d1, d2⟩ | ⟨d1, d2, D, h3, h4, h5, h6⟩
  · rcases hc with ⟨c1, _, c3⟩ | ⟨c1, _⟩
    · rcases hr with ⟨_, r2, r3⟩ | ⟨r1, _⟩ | ⟨r1, _⟩
      · exact ⟨⟨S, c3, r3, s3, s4, s5, s6, s7⟩, by omega, fun q => by omega⟩
      · exact absurd d2 r1
      · exact absurd d2 r1
    · exact absurd d1 c1
  · rcases hc with ⟨_, c2, _⟩ | ⟨_, c2⟩
    · exact absurd c2 d1
    · rcases hr with ⟨r1, _⟩ | ⟨_, r2, r3, r4⟩ | ⟨_, r2, r3⟩
      · exact absurd r1 d2
      · rcases c2 with ⟨c1, c3, c4⟩ | ⟨c3, _⟩
        · exact ⟨⟨S, c4, r4, s3, s4, s5, s6, s7⟩, by omega, fun q => by omega⟩
        · omega
      · rcases c2 with ⟨c1, c3, c4⟩ | ⟨c3, c4⟩
        · omega
        · rw [← zGt_e h3 h4 h5 h6] at r3
          obtain ⟨⟨S2, o1, o2, o3, o4, o5, o6⟩, q1, q2⟩ := OUTz (by decide) (fun r S2 e => zGt_inv (BRG_of h3 h4 h5) (ws_iv h3 h4 h5) e s4 s5 (s7 d1)) c4 r3
          exact ⟨⟨S2, o1, o2, o3, o4, o5, fun q => absurd q d1, fun _ => o6⟩, q1, q2⟩
/-- all is closed -/
theorem R_close {r y : Int} (h : REL sg gm lg sm gn ln) (hS : SSR sg gm lg sm gn S) (hc : RC (st9 gm) lg (zCl (st9 gm) S) sg2 gm2 ∧ r = ((zE (zCl (st9 gm) S)).length : Int)) (hr : ((sm 40).toInt = 0 ∧ RR (st9 gm) lg S sm2 gn2 ∧ y = ((zE S).length : Int)) ∨ (¬ (sm 40).toInt = 0 ∧ RR (st9 gm) lg (zCl (st9 gm) S) sm2 gn2 ∧ y = ((zE (zCl (st9 gm) S)).length : Int))) : NEW9 sg sg2 gm gm2 lg sm2 gn2 ∧ r = y := by
  obtain ⟨_, _, s3, s4, s5, s6, s7⟩ := hS
  rcases h.2.2.2.1 with ⟨d1, d2⟩ | ⟨d1, d2, _⟩
  · rcases hr with ⟨_, r2, r3⟩ | ⟨r1, _⟩
    · obtain ⟨e1, e2, e3, e4⟩ := s6 d1
      have hz : zCl (st9 gm) S = S := by
        show zFo (dsL (st9 gm) (zF S).reverse S) = S
        rw [e3]
        show (zO S, zE S, (fun b => if zS S b = 2 then 0 else zS S b), zW S, ([] : List Nat)) = S
        have ef : (fun b => if zS S b = 2 then 0 else zS S b) = zS S := by
          funext b
          rw [e4 b, if_neg (by decide)]
        rw [ef, ← e3]; rfl
      rw [hz] at hc
      exact ⟨⟨S, hc.1, r2, s3, s4, s5, s6, s7⟩, by rw [hc.2, r3]⟩
    · exact absurd d2 r1
  · rcases hr with ⟨r1, _⟩ | ⟨_, r2, r3⟩
    · exact absurd r1 d2
    · refine ⟨⟨_, hc.1, r2, WF_cl s5, WZ_cl, NB_cl s5, fun q => absurd q d1, fun q => OB_e (s7 q) ?_⟩, by rw [hc.2, r3]⟩
      show zO (dsL (st9 gm) (zF S).reverse S) = zO S
      rw [(dsL_S _ _).2]
end RM8
end
section
section RD8
variable {ch : Nat → Int} {N : Nat} {sg sg2 sm sm2 : Nat → Int32} {gm gm2 gn gn2 : Nat → Nat → Int32} {lg lg2 ln ln2 : Nat → Nat → Int64}
/-- what read has answered -/
def RD8c (ch : Nat → Int) (N : Nat) (sg2 : Nat → Int32) (gm2 : Nat → Nat → Int32) (lg2 : Nat → Nat → Int64) (k x : Int) : Prop := ((sg2 0).toInt = 0 ∧ (sg2 13).toInt = 0 ∧ (sg2 14).toInt = 0 ∧ (sg2 15).toInt = 0) ∧ ((k = 1 ∧ ¬ ACQ ch N ∧ (sg2 12).toInt = 0 ∧ (sg2 1).toInt = 0) ∨ (k = 0 ∧ ACQ ch N ∧ x = (nbD (dD ch N) : Int) ∧ CLD (dD ch N) sg2 gm2 lg2 ∧ WRM sg2 gm2 lg2 ∧ ¬ (sg2 1).toInt = 0))
def S0z : S9 := ([], [], fun _ => 0, fun _ => -1, [])
theorem S0_ss (h13 : (sg2 13).toInt = 0) (h14 : (sg2 14).toInt = 0) (h15 : (sg2 15).toInt = 0) (hb : ∀ c, c < (sg2 12).toNatClampNeg → gm2 37 c = 0 ∧ gm2 38 c = 0) (h48 : (sm2 48).toInt = 0) (h49 : (sm2 49).toInt = 0) (hC : CLR sm2 gn2) (h41 : (sm2 41).toNatClampNeg ≤ 80) : SSR sg2 gm2 lg2 sm2 gn2 S0z := by
  refine ⟨⟨⟨h14, fun k o h => by cases h⟩, ⟨h13, fun k e h => by cases h⟩, fun b hbb => ?_, ⟨h15, (fun k b h => by cases h), List.nodup_nil⟩⟩, ⟨⟨h48, fun k o h => by cases h⟩, ⟨h49, fun k e h => by cases h⟩, fun b hbb => ?_, ⟨hC.1, (fun k b h => by cases h), List.nodup_nil⟩⟩, fun t ht => ?_, fun b _ q => absurd (show (0 : Nat) = 2 from q) (by decide), fun t q => absurd (show (0 : Nat) = 1 from q) (by decide), fun _ => ⟨rfl, rfl, rfl, fun _ => rfl⟩, fun _ k o h => by cases h⟩
  · obtain ⟨b1, b2⟩ := hb b hbb
    rw [b1, b2]
    exact ⟨⟨fun q => absurd (show (0 : Nat) = 1 from q) (by decide), fun q => absurd rfl q⟩, fun _ _ => ⟨⟨fun q => absurd (show (0 : Nat) = 2 from q) (by decide), fun q => absurd rfl q⟩, fun q => absurd rfl q⟩, Nat.zero_le _⟩
  · obtain ⟨b1, b2, b3⟩ := hC.2 b (Nat.zero_le _) (by omega)
    rw [b1, b2, b3]
    exact ⟨⟨fun q => absurd (show (0 : Nat) = 1 from q) (by decide), fun q => absurd rfl q⟩, fun _ => ⟨⟨fun q => absurd (show (0 : Nat) = 2 from q) (by decide), fun q => absurd rfl q⟩, (show (-1 : Int32).toInt = -1 by decide)⟩, Nat.zero_le _⟩
  · rcases ht with q | q
    · exact absurd (show (0 : Nat) = 2 from q) (by decide)
    · exact absurd (show (0 : Nat) = 1 from q.1) (by decide)
theorem R_read {k x y : Int} (h : REL sg gm lg sm gn ln) (hI9 : CI sg2 gm2) (k2 : KS [11, 12, 13, 14, 15, 16, 17, 18, 19, 20, 21, 22, 23, 24, 25, 26, 27, 29, 30, 31, 32, 33, 34, 35, 36, 37, 38, 39, 40, 41, 42, 44, 45, 46, 47, 56, 57] gm gm2) (hc : RD8c ch N sg2 gm2 lg2 k x) (hI8 : MI sm2 gn2) (j2 : KS [26, 27, 28, 29, 30, 31, 32, 36, 37, 38, 39, 42, 43, 44, 45, 46, 47, 60, 61, 62] gn gn2) (j3 : KS [34, 35] ln ln2) (f48 : (sm2 48).toInt = 0) (f49 : (sm2 49).toInt = 0) (f40 : ((sm2 5).toInt = 1 ∧ (sm2 40).toInt = 0) ∨ ((sm2 5).toInt = 0 ∧ ¬ (sm2 40).toInt = 0)) (fZ : (sm2 20).toInt = 0) (fR : ((sm2 5).toInt = 1 ∧ y = 0 ∧ ¬ ACP ch N) ∨ ((sm2 5).toInt = 0 ∧ ACP ch N ∧ y = (nbD (dD ch N) : Int) ∧ RFD ch (dD ch N) sm2 gn2 ln2)) (fX : XX7 ch N) (fDo : (sm2 40).toInt = 0 ∨ DOC sm2 gn2 ln2) (fCr : CLR sm2 gn2) (hp : PC7 ch) (hN : N ≤ 1200) (hch : ∀ i, N ≤ i → ch i = -1) : REL sg2 gm2 lg2 sm2 gn2 ln2 ∧ (sm2 5).toInt = k ∧ (k = 0 → x = y) := by
  obtain ⟨⟨a1, a2, a3⟩, b, c, _, _⟩ := h
  have hA := ACPQ fX hp
  obtain ⟨⟨z0, z13, z14, z15⟩, hc⟩ := hc
  have w3 : WRD7 (ln2 0) (ln2 1) := WRD7_k a3 (j3 0 (by decide)) (j3 1 (by decide))
  have n28 : N28 gm2 := fun q hq => by rw [k2 28 (by decide)]; exact c q hq
  have i41 : iv 0 80 (sm2 41) := MI_s hI8 41
  have l41 : (sm2 41).toNatClampNeg ≤ 80 := by have := iv_cl i41 (by decide); have := i41.2; omega
  have hX : CLX gm2 gn2 := CLX_e b (fun k hk => k2 k (by rcases hk with q | q | q | q | q | q | q | q | q | q | q | q | q <;> rw [q] <;> decide)) (fun k hk => j2 k (by rcases hk with q | q | q | q | q | q | q | q | q | q | q | q | q <;> rw [q] <;> decide))
  have h7 : REL7 sg2 gm2 sm2 gn2 ln2 := ⟨TXR_0 z0 fZ, ENT_k a2 (j2 3 (by decide)) (j2 4 (by decide)) (j3 2 (by decide)), w3⟩
  rcases hc with ⟨c1, c2, c3, c4⟩ | ⟨c1, c2, c3, c4, c5, c6⟩
  · rcases fR with ⟨r1, r2, r3⟩ | ⟨r1, r2, _⟩
    · have m40 : (sm2 40).toInt = 0 := by rcases f40 with q | q <;> omega
      refine ⟨⟨h7, hX, n28, Or.inl ⟨c4, m40⟩, S0z, S0_ss z13 z14 z15 (fun c hcc => ?_) f48 f49 fCr l41⟩, by omega, fun q => by omega⟩
      have e : (sg2 12).toNatClampNeg = (sg2 12).toInt.toNat := rfl
      omega
    · exact absurd (hA.mp r2) c2
  · rcases fR with ⟨_, _, r3⟩ | ⟨r1, r2, r3, r4⟩
    · exact absurd (hA.mpr c2) r3
    · have m40 : ¬ (sm2 40).toInt = 0 := by rcases f40 with q | q <;> omega
      have hdoc := fDo.resolve_left m40
      have h80 := (fX _ c2.1).2
      have hd : PBd (dD ch N) := PBd_of hp fX c2 (sDoc_0 c2.1)
      refine ⟨⟨h7, hX, n28, Or.inr ⟨c6, m40, dD ch N, PBc_of c4 n28 (fun q hq => (show iv 0 _ (gm2 41 q) from hI9.2 41 q hq).1), PBr_of r4 h80 hdoc.1.2.2.2 w3 (fun b hb => ⟨(show iv 0 26 (gn2 44 b) from hI8.2 44 b hb), (show iv 0 26 (gn2 46 b) from hI8.2 46 b hb)⟩), hd, TLN_of hch hN c2.1 hd⟩, S0z, S0_ss z13 z14 z15 c5.2 f48 f49 fCr l41⟩, by omega, fun _ => by omega⟩
/-- declared classes: the calls keep the relation -/
theorem R_decl {P : Prop} {r r2 v : Int32} {c : Nat} (h : REL sg gm lg sm gn ln) (hP : P → c < 8) (g0 : DEC9 P r c (gm 0) (gm2 0)) (g1 : DEC9 P r c (gm 1) (gm2 1)) (g3 : DEC9 P r c (gm 3) (gm2 3)) (gB : DECB P r c (gm 55) (gm2 55)) (g4 : DEP9 P r c v (gm 4) (gm2 4)) (k2 : KS [0, 1, 3, 4, 55] gm gm2) (h7 : DEC9 P r2 c (gn 7) (gn2 7)) (h13 : DEC9 P r2 c (gn 13) (gn2 13)) (h10 : DEC9 P r2 c (gn 10) (gn2 10)) (h6 : DEP9 P r2 c v (gn 6) (gn2 6)) (j2 : KS [6, 7, 10, 13] gn gn2) : CLX gm2 gn2 := by
  have b := h.2.1
  have kg : ∀ k, k = 2 ∨ k = 5 ∨ k = 6 ∨ k = 7 ∨ k = 8 ∨ k = 9 ∨ k = 10 ∨ k = 54 → gm2 k = gm k := fun k hk => k2 k (by rcases hk with q | q | q | q | q | q | q | q <;> rw [q] <;> decide)
  have kn : ∀ k, k = 8 ∨ k = 9 ∨ k = 11 ∨ k = 12 ∨ k = 14 ∨ k = 15 ∨ k = 16 ∨ k = 17 ∨ k = 18 → gn2 k = gn k := fun k hk => j2 k (by rcases hk with q | q | q | q | q | q | q | q | q <;> rw [q] <;> decide)
  by_cases p : P
  · obtain ⟨_, _, e0⟩ := g0.resolve_right (fun q => q.2.1 p)
    obtain ⟨_, _, e1⟩ := g1.resolve_right (fun q => q.2.1 p)
    obtain ⟨_, _, e3⟩ := g3.resolve_right (fun q => q.2.1 p)
    obtain ⟨_, _, eB⟩ := gB.resolve_right (fun q => q.2.1 p)
    obtain ⟨_, _, e4⟩ := g4.resolve_right (fun q => q.2.1 p)
    obtain ⟨_, _, r7⟩ := h7.resolve_right (fun q => q.2.1 p)
    obtain ⟨_, _, r13⟩ := h13.resolve_right (fun q => q.2.1 p)
    obtain ⟨_, _, r10⟩ := h10.resolve_right (fun q => q.2.1 p)
    obtain ⟨_, _, r6⟩ := h6.resolve_right (fun q => q.2.1 p)
    exact CLX_d b (hP p) e0 e1 e3 e4 eB kg r7 r13 r10 r6 kn
  · have e0 := (g0.resolve_left (fun q => p q.2.1)).2.2
    have e1 := (g1.resolve_left (fun q => p q.2.1)).2.2
    have e3 := (g3.resolve_left (fun q => p q.2.1)).2.2
    have eB := (gB.resolve_left (fun q => p q.2.1)).2.2
    have e4 := (g4.resolve_left (fun q => p q.2.1)).2.2
    have r7 := (h7.resolve_left (fun q => p q.2.1)).2.2
    have r13 := (h13.resolve_left (fun q => p q.2.1)).2.2
    have r10 := (h10.resolve_left (fun q => p q.2.1)).2.2
    have r6 := (h6.resolve_left (fun q => p q.2.1)).2.2
    refine CLX_e b (fun k hk => ?_) (fun k hk => ?_)
    · rcases hk with q | q | q | q | q | q | q | q | q | q | q | q | q <;> rw [q]
      · exact e0
      · exact e1
      · exact kg 2 (by decide)
      · exact e3
      · exact e4
      · exact kg 5 (by decide)
      · exact kg 6 (by decide)
      · exact kg 7 (by decide)
      · exact kg 8 (by decide)
      · exact kg 9 (by decide)
      · exact kg 10 (by decide)
      · exact kg 54 (by decide)
      · exact eB
    · rcases hk with q | q | q | q | q | q | q | q | q | q | q | q | q <;> rw [q]
      · exact r6
      · exact r7
      · exact kn 8 (by decide)
      · exact kn 9 (by decide)
      · exact r10
      · exact kn 11 (by decide)
      · exact kn 12 (by decide)
      · exact r13
      · exact kn 14 (by decide)
      · exact kn 15 (by decide)
      · exact kn 16 (by decide)
      · exact kn 17 (by decide)
      · exact kn 18 (by decide)
theorem R_con {P : Prop} {r r2 na ta ub uc : Int32} {c : Nat} (h : REL sg gm lg sm gn ln) (hP : P → c < 8 ∧ TYS na ta ub uc) (fA : ADC P r c 0 0 gm gm2 (-1) 0 (gm 2 c) na ta ub uc) (k2 : KS [0, 7, 8, 9, 10, 54] gm gm2) (gA : RAC P r2 c gn gn2 na ta ub uc) (j2 : KS [7, 8, 9] gn gn2) : CLX gm2 gn2 := by
  have b := h.2.1
  have kg : ∀ k, k = 1 ∨ k = 2 ∨ k = 3 ∨ k = 4 ∨ k = 5 ∨ k = 6 ∨ k = 55 → gm2 k = gm k := fun k hk => k2 k (by rcases hk with q | q | q | q | q | q | q <;> rw [q] <;> decide)
  have kn : ∀ k, k = 6 ∨ k = 10 ∨ k = 11 ∨ k = 12 ∨ k = 13 ∨ k = 14 ∨ k = 15 ∨ k = 16 ∨ k = 17 ∨ k = 18 → gn2 k = gn k := fun k hk => j2 k (by rcases hk with q | q | q | q | q | q | q | q | q | q <;> rw [q] <;> decide)
  rcases fA with ⟨_, p, a2, ⟨z, a3, a4⟩, a5⟩ | ⟨_, a2, a3, s8, s9, s10, s7, s54⟩
  · obtain ⟨hc, hT⟩ := hP p
    have e7 := (b.1 c hc).2.2.1
    rcases gA with ⟨_, _, b2, ⟨z2, b3, b4⟩, b5, b6⟩ | ⟨_, b2, _⟩
    · exact CLX_c b hc hT a2 a3 a4 a5 kg b3 b4 b5 b6 kn
    · rcases b2 with q | q
      · exact absurd p q
      · omega
  · rcases gA with ⟨_, p, b2, _⟩ | ⟨_, b2, b3, b4, b5⟩
    · have e7 := (b.1 c (hP p).1).2.2.1
      rcases a2 with q | q
      · exact absurd p q
      · omega
    · refine CLX_e b (fun k hk => ?_) (fun k hk => ?_)
      · rcases hk with q | q | q | q | q | q | q | q | q | q | q | q | q <;> rw [q]
        · exact a3
        · exact kg 1 (by decide)
        · exact kg 2 (by decide)
        · exact kg 3 (by decide)
        · exact kg 4 (by decide)
        · exact kg 5 (by decide)
        · exact kg 6 (by decide)
        · exact s7
        · exact s8
        · exact s9
        · exact s10
        · exact s54
        · exact kg 55 (by decide)
      · rcases hk with q | q | q | q | q | q | q | q | q | q | q | q | q <;> rw [q]
        · exact kn 6 (by decide)
        · exact b3
        · exact b4
        · exact b5
        · exact kn 10 (by decide)
        · exact kn 11 (by decide)
        · exact kn 12 (by decide)
        · exact kn 13 (by decide)
        · exact kn 14 (by decide)
        · exact kn 15 (by decide)
        · exact kn 16 (by decide)
        · exact kn 17 (by decide)
        · exact kn 18 (by decide)
theorem R_fac {P : Prop} {r r2 nm st re na ta ub uc : Int32} {c : Nat} (h : REL sg gm lg sm gn ln) (hP : P → c < 8 ∧ 0 ≤ nm.toInt ∧ TYS na ta ub uc) (fA : ADC P r c 4 1 gm gm2 nm st re na ta ub uc) (k2 : KS [1, 7, 8, 9, 10, 54] gm gm2) (gA : RAF P r2 c gn gn2 nm st re na ta ub uc) (j2 : KS [13, 14, 15, 16, 17, 18] gn gn2) : CLX gm2 gn2 := by
  have b := h.2.1
  have kg : ∀ k, k = 0 ∨ k = 2 ∨ k = 3 ∨ k = 4 ∨ k = 5 ∨ k = 6 ∨ k = 55 → gm2 k = gm k := fun k hk => k2 k (by rcases hk with q | q | q | q | q | q | q <;> rw [q] <;> decide)
  have kn : ∀ k, k = 6 ∨ k = 7 ∨ k = 8 ∨ k = 9 ∨ k = 10 ∨ k = 11 ∨ k = 12 → gn2 k = gn k := fun k hk => j2 k (by rcases hk with q | q | q | q | q | q | q <;> rw [q] <;> decide)
  rcases fA with ⟨_, p, a2, ⟨z, a3, a4⟩, a5⟩ | ⟨_, a2, a3, s8, s9, s10, s7, s54⟩
  · obtain ⟨hc, hnm, hT⟩ := hP p
    have e7 := (b.1 c hc).2.2.2.1
    rcases gA with ⟨_, _, b2, ⟨z2, b3, b4⟩, b5, b6, b7, b8, b9⟩ | ⟨_, b2, _⟩
    · exact CLX_f b hc hT hnm a2 a3 a4 a5 kg b3 b4 b5 b6 b7 b8 b9 kn
    · rcases b2 with q | q
      · exact absurd p q
      · omega
  · rcases gA with ⟨_, p, b2, _⟩ | ⟨_, b2, b3, b4, b5, b6, b7, b8⟩
    · have e7 := (b.1 c (hP p).1).2.2.2.1
      rcases a2 with q | q
      · exact absurd p q
      · omega
    · refine CLX_e b (fun k hk => ?_) (fun k hk => ?_)
      · rcases hk with q | q | q | q | q | q | q | q | q | q | q | q | q <;> rw [q]
        · exact kg 0 (by decide)
        · exact a3
        · exact kg 2 (by decide)
        · exact kg 3 (by decide)
        · exact kg 4 (by decide)
        · exact kg 5 (by decide)
        · exact kg 6 (by decide)
        · exact s7
        · exact s8
        · exact s9
        · exact s10
        · exact s54
        · exact kg 55 (by decide)
      · rcases hk with q | q | q | q | q | q | q | q | q | q | q | q | q <;> rw [q]
        · exact kn 6 (by decide)
        · exact kn 7 (by decide)
        · exact kn 8 (by decide)
        · exact kn 9 (by decide)
        · exact kn 10 (by decide)
        · exact kn 11 (by decide)
        · exact kn 12 (by decide)
        · exact b3
        · exact b4
        · exact b6
        · exact b7
        · exact b8
        · exact b5
theorem R_set {P : Prop} {r r2 m v : Int32} {c : Nat} (h : REL sg gm lg sm gn ln) (hP : P → c < 8 ∧ (0 ≤ m.toInt ∧ m.toInt ≤ 25) ∧ ty9 v.toInt) (fS : ADS9 P r c m.toNatClampNeg v (gm 3) (gm2 3) (gm 55) (gm2 55)) (k2 : KS [3, 55] gm gm2) (gS : RAS P r2 c m v gn gn2) (j2 : KS [10, 11, 12] gn gn2) : CLX gm2 gn2 := by
  have b := h.2.1
  have kg : ∀ k, k = 0 ∨ k = 1 ∨ k = 2 ∨ k = 4 ∨ k = 5 ∨ k = 6 ∨ k = 7 ∨ k = 8 ∨ k = 9 ∨ k = 10 ∨ k = 54 → gm2 k = gm k := fun k hk => k2 k (by rcases hk with q | q | q | q | q | q | q | q | q | q | q <;> rw [q] <;> decide)
  have kn : ∀ k, k = 6 ∨ k = 7 ∨ k = 8 ∨ k = 9 ∨ k = 13 ∨ k = 14 ∨ k = 15 ∨ k = 16 ∨ k = 17 ∨ k = 18 → gn2 k = gn k := fun k hk => j2 k (by rcases hk with q | q | q | q | q | q | q | q | q | q <;> rw [q] <;> decide)
  rcases fS with ⟨_, p, a2, a3, ⟨z, a4, a5⟩, a6⟩ | ⟨_, a2, a3, a4⟩
  · obtain ⟨hc, hm, hv⟩ := hP p
    have e3 := (b.2.2.2.2.2 c hc).1
    have hno := (CLX_has b hc hm).mp a3
    rcases gS with ⟨_, _, b2, b3, ⟨z2, b4, b5⟩, b6, b7⟩ | ⟨_, b2, _⟩
    · exact CLX_s b hc hm hv a2 a4 a5 a6 kg b3 b4 b5 b6 b7 kn
    · rcases b2 with q | q | ⟨i, q1, q2⟩
      · exact absurd p q
      · omega
      · exact absurd q2 (hno i q1)
  · rcases gS with ⟨_, p, b2, b3, _⟩ | ⟨_, b2, b3, b4, b5⟩
    · obtain ⟨hc, hm, hv⟩ := hP p
      have e3 := (b.2.2.2.2.2 c hc).1
      rcases a2 with q | q | q
      · exact absurd p q
      · omega
      · exact absurd ((CLX_has b hc hm).mpr b3) q
    · refine CLX_e b (fun k hk => ?_) (fun k hk => ?_)
      · rcases hk with q | q | q | q | q | q | q | q | q | q | q | q | q <;> rw [q]
        · exact kg 0 (by decide)
        · exact kg 1 (by decide)
        · exact kg 2 (by decide)
        · exact a3
        · exact kg 4 (by decide)
        · exact kg 5 (by decide)
        · exact kg 6 (by decide)
        · exact kg 7 (by decide)
        · exact kg 8 (by decide)
        · exact kg 9 (by decide)
        · exact kg 10 (by decide)
        · exact kg 54 (by decide)
        · exact a4
      · rcases hk with q | q | q | q | q | q | q | q | q | q | q | q | q <;> rw [q]
        · exact kn 6 (by decide)
        · exact kn 7 (by decide)
        · exact kn 8 (by decide)
        · exact kn 9 (by decide)
        · exact b3
        · exact b4
        · exact b5
        · exact kn 13 (by decide)
        · exact kn 14 (by decide)
        · exact kn 15 (by decide)
        · exact kn 16 (by decide)
        · exact kn 17 (by decide)
        · exact kn 18 (by decide)
theorem TY_s {n a b d : Int32} (h : 0 ≤ n.toInt ∧ n.toInt ≤ 3 ∧ (1 ≤ n.toInt → (0 ≤ a.toInt ∧ a.toInt ≤ 4 ∨ 8 ≤ a.toInt ∧ a.toInt ≤ 15)) ∧ (2 ≤ n.toInt → (0 ≤ b.toInt ∧ b.toInt ≤ 4 ∨ 8 ≤ b.toInt ∧ b.toInt ≤ 15)) ∧ (3 ≤ n.toInt → (0 ≤ d.toInt ∧ d.toInt ≤ 4 ∨ 8 ≤ d.toInt ∧ d.toInt ≤ 15))) : TYS n a b d :=
  ⟨h.1, h.2.1, fun q => (h.2.2.1 q).imp id And.left, fun q => (h.2.2.2.1 q).imp id And.left, fun q => (h.2.2.2.2 q).imp id And.left⟩
end RD8
end
section
section RK8
variable {sg sg2 sm sm2 : Nat → Int32} {gm gm2 gn gn2 : Nat → Nat → Int32} {lg lg2 ln ln2 : Nat → Nat → Int64} {S : S9} {Ls Lg Lm Ln : List Nat}
theorem CLX_st (h : CLX gm gn) : CLX (st9 gm) (rt9 gn) := CLX_e h (fun k hk => st9_e (by rcases hk with q | q | q | q | q | q | q | q | q | q | q | q | q <;> rw [q] <;> decide)) (fun k hk => rt9_e (by rcases hk with q | q | q | q | q | q | q | q | q | q | q | q | q <;> rw [q] <;> decide))
theorem WD_of (h : WRD7 (ln 0) (ln 1)) : WD9 ln := by
  obtain ⟨_, _, _, _, _, _, _, _, _, _, a9, a10⟩ := h
  exact ⟨by rw [a9]; decide, by rw [a10]; decide⟩
theorem OB_d (hD : DCR sg gm lg sm gn ln) (hS : SSR sg gm lg sm gn S) : (sm 40).toInt = 0 ∨ OB9 (ss9 sg 12).toNatClampNeg S := by
  rcases hD with ⟨_, d2⟩ | ⟨d1, _⟩
  · exact Or.inl d2
  · exact Or.inr (hS.2.2.2.2.2.2 d1)
theorem ks_o {α : Type} {L : List Nat} {f g : Nat → α} {p : Nat → Bool} (h : KS L f g) (hL : L.all p = true) {k : Nat} (hk : p k = false) : g k = f k := by
  refine h k ?_
  cases q : L.contains k with
  | false => rfl
  | true =>
    have hm := List.contains_iff_mem.mp q
    have := List.all_eq_true.mp hL k hm
    rw [hk] at this; cases this
/-- a call that leaves declared classes, document and making alone -/
theorem REL_k (h : REL sg gm lg sm gn ln) (hT : TXR sg2 gm2 sm2 gn2) (hX : CLX gm2 gn2) (k1 : KS Ls sg sg2) (k2 : KS Lg gm gm2) (k3 : KS [] lg lg2) (j1 : KS Lm sm sm2) (j2 : KS Ln gn gn2) (j3 : KS [] ln ln2) (c1 : Ls.all (fun k => decide (k = 0)) = true) (c2 : Lg.all (fun k => decide (k < 11 ∨ k = 43 ∨ k = 54 ∨ k = 55)) = true) (c3 : Lm.all (fun k => decide (k = 5 ∨ k = 20)) = true) (c4 : Ln.all (fun k => decide (5 ≤ k ∧ k < 20)) = true) : REL sg2 gm2 lg2 sm2 gn2 ln2 := by
  have e1 := KS_nil k3
  have e2 := KS_nil j3
  rw [← e1, ← e2]
  refine REL_e h ⟨hT, ENT_k h.1.2.1 (ks_o j2 c4 (by decide)) (ks_o j2 c4 (by decide)) rfl, h.1.2.2⟩ hX (fun k hk => ks_o k1 c1 (decide_eq_false (by omega))) (fun k hk => ks_o k2 c2 (decide_eq_false (by omega))) (fun k hk => ks_o j1 c3 (decide_eq_false (by omega))) (fun k hk => ks_o j2 c4 (decide_eq_false (by omega)))
theorem CLX_k (h : CLX gm gn) (k2 : KS Lg gm gm2) (j2 : KS Ln gn gn2) (c2 : Lg.all (fun k => decide (10 < k ∧ ¬ k = 54 ∧ ¬ k = 55)) = true) (c4 : Ln.all (fun k => decide (18 < k)) = true) : CLX gm2 gn2 :=
  CLX_e h (fun k hk => ks_o k2 c2 (decide_eq_false (by omega))) (fun k hk => ks_o j2 c4 (decide_eq_false (by omega)))
/-- class and reference as they are made -/
def IN8 (sm : Nat → Int32) (gn : Nat → Nat → Int32) : Prop := (∀ k, k < 8 → gn 6 k = -1) ∧ (∀ k, k = 7 ∨ k = 10 ∨ k = 13 → gn k = fun _ => 0) ∧ ∀ k, k = 40 ∨ k = 41 ∨ k = 48 ∨ k = 49 ∨ k = 50 → sm k = 0
def IN9c (sg : Nat → Int32) (gm : Nat → Nat → Int32) : Prop := (∀ k, k = 1 ∨ k = 12 ∨ k = 13 ∨ k = 14 ∨ k = 15 → sg k = 0) ∧ (∀ k, k = 0 ∨ k = 1 ∨ k = 3 ∨ k = 7 → gm k = fun _ => 0) ∧ (∀ c, gm 4 c = -1) ∧ (∀ j, gm 55 j = -1) ∧ FXD gm ∧ N28 gm
theorem REL_0 (h7 : REL7 sg gm sm gn ln) (hc : IN9c sg gm) (hr : IN8 sm gn) : REL sg gm lg sm gn ln := by
  obtain ⟨c1, c2, c3, c4, c5, c6⟩ := hc
  obtain ⟨r1, r2, r3⟩ := hr
  have z : (0 : Int32).toInt = 0 := by decide
  have zn : (0 : Int32).toNatClampNeg = 0 := by decide
  have m1 : (-1 : Int32).toInt = -1 := by decide
  have q0 : ∀ k, k = 0 ∨ k = 1 ∨ k = 3 ∨ k = 7 → ∀ j, gm k j = 0 := fun k hk j => by rw [c2 k hk]
  have p0 : ∀ k, k = 7 ∨ k = 10 ∨ k = 13 → ∀ j, gn k j = 0 := fun k hk j => by rw [r2 k hk]
  refine ⟨h7, ⟨fun c hc => ?_, c5, ⟨fun c hc => ?_, fun s _ => ?_⟩, fun s p _ hp => ?_, fun c n _ _ => ?_, fun c hc => ?_⟩, c6, Or.inl ⟨by rw [c1 1 (by decide)]; exact z, by rw [r3 40 (by decide)]; exact z⟩, S0z, ⟨⟨?_, fun k o h => by cases h⟩, ⟨?_, fun k e h => by cases h⟩, fun b hb => ?_, ⟨?_, (fun k b h => by cases h), List.nodup_nil⟩⟩, ⟨⟨?_, fun k o h => by cases h⟩, ⟨?_, fun k e h => by cases h⟩, fun b hb => ?_, ⟨?_, (fun k b h => by cases h), List.nodup_nil⟩⟩, fun t ht => ?_, fun b _ q => absurd (show (0 : Nat) = 2 from q) (by decide), fun t q => absurd (show (0 : Nat) = 1 from q) (by decide), fun _ => ⟨rfl, rfl, rfl, fun _ => rfl⟩, fun _ k o h => by cases h⟩
  · unfold CL9
    rw [q0 0 (by decide), q0 1 (by decide), p0 7 (by decide), p0 13 (by decide), p0 10 (by decide), zn, r1 c hc, c3 c]
    exact ⟨(c5 c hc).1, rfl, rfl, rfl, fun i hi => absurd hi (Nat.not_lt_zero _), fun i hi => absurd hi (Nat.not_lt_zero _), fun i hi => absurd hi (Nat.not_lt_zero _), fun n _ _ => by rw [c4]; exact m1⟩
  · rw [q0 0 (by decide), q0 1 (by decide), q0 3 (by decide), z]; omega
  · rw [q0 7 (by decide), z]; omega
  · rw [q0 7 (by decide), zn] at hp; exact absurd hp (Nat.not_lt_zero _)
  · exact Or.inl (by rw [c4]; exact m1)
  · rw [p0 10 (by decide), q0 3 (by decide), zn]; exact ⟨rfl, fun k hk => absurd hk (Nat.not_lt_zero _)⟩
  · rw [c1 14 (by decide)]; exact z
  · rw [c1 13 (by decide)]; exact z
  · rw [c1 12 (by decide), zn] at hb; exact absurd hb (Nat.not_lt_zero _)
  · rw [c1 15 (by decide)]; exact z
  · rw [r3 48 (by decide)]; exact z
  · rw [r3 49 (by decide)]; exact z
  · rw [r3 41 (by decide), zn] at hb; exact absurd hb (Nat.not_lt_zero _)
  · rw [r3 50 (by decide)]; exact z
  · rcases ht with q | q
    · exact absurd (show (0 : Nat) = 2 from q) (by decide)
    · exact absurd (show (0 : Nat) = 1 from q.1) (by decide)
end RK8
end
