theorem zLet_f {a : Int32} : (zLet a = 1 ∧ 0 ≤ a.toInt ∧ a.toInt ≤ 25) ∨ (zLet a = 0 ∧ ¬ (0 ≤ a.toInt ∧ a.toInt ≤ 25)) := by
  have z0 : (0 : Int32).toInt = 0 := by decide
  have z26 : (26 : Int32).toInt = 26 := by decide
  unfold zLet
  split
  · rename_i h; have := Int32.lt_iff_toInt_lt.mp h; exact Or.inr ⟨rfl, by omega⟩
  · rename_i h; have h : ¬ a.toInt < (0 : Int32).toInt := fun q => h (Int32.lt_iff_toInt_lt.mpr q)
    split
    · rename_i h2; have := Int32.le_iff_toInt_le.mp h2; exact Or.inr ⟨rfl, by omega⟩
    · rename_i h2; have h2 : ¬ (26 : Int32).toInt ≤ a.toInt := fun q => h2 (Int32.le_iff_toInt_le.mpr q); exact Or.inl ⟨rfl, by omega, by omega⟩
theorem zCls_g {a : Int32} : (zCls a = 1 ∧ 0 ≤ a.toInt ∧ a.toInt ≤ 7) ∨ (zCls a = 0 ∧ ¬ (0 ≤ a.toInt ∧ a.toInt ≤ 7)) := by
  have z0 : (0 : Int32).toInt = 0 := by decide
  have z8 : (8 : Int32).toInt = 8 := by decide
  unfold zCls
  split
  · rename_i h; have := Int32.lt_iff_toInt_lt.mp h; exact Or.inr ⟨rfl, by omega⟩
  · rename_i h; have h : ¬ a.toInt < (0 : Int32).toInt := fun q => h (Int32.lt_iff_toInt_lt.mpr q)
    split
    · rename_i h2; have := Int32.le_iff_toInt_le.mp h2; exact Or.inr ⟨rfl, by omega⟩
    · rename_i h2; have h2 : ¬ (8 : Int32).toInt ≤ a.toInt := fun q => h2 (Int32.le_iff_toInt_le.mpr q); exact Or.inl ⟨rfl, by omega, by omega⟩
theorem zTyp_f {a : Int32} : (zTyp a = 1 ∧ (0 ≤ a.toInt ∧ a.toInt ≤ 4 ∨ 8 ≤ a.toInt ∧ a.toInt ≤ 15)) ∨ (zTyp a = 0 ∧ ¬ (0 ≤ a.toInt ∧ a.toInt ≤ 4 ∨ 8 ≤ a.toInt ∧ a.toInt ≤ 15)) := by
  have z0 : (0 : Int32).toInt = 0 := by decide
  have z4 : (4 : Int32).toInt = 4 := by decide
  have z8 : (8 : Int32).toInt = 8 := by decide
  have z16 : (16 : Int32).toInt = 16 := by decide
  unfold zTyp
  (repeat' split) <;> first | (refine Or.inr ⟨rfl, ?_⟩; (simp only [Int32.lt_iff_toInt_lt, Int32.le_iff_toInt_le] at *) <;> omega) | (refine Or.inl ⟨rfl, ?_⟩; (simp only [Int32.lt_iff_toInt_lt, Int32.le_iff_toInt_le] at *) <;> omega)
theorem zTys_f {n a b c : Int32} : (zTys n a b c = 1 ∧ 0 ≤ n.toInt ∧ n.toInt ≤ 3 ∧ (1 ≤ n.toInt → (0 ≤ a.toInt ∧ a.toInt ≤ 4 ∨ 8 ≤ a.toInt ∧ a.toInt ≤ 15)) ∧ (2 ≤ n.toInt → (0 ≤ b.toInt ∧ b.toInt ≤ 4 ∨ 8 ≤ b.toInt ∧ b.toInt ≤ 15)) ∧ (3 ≤ n.toInt → (0 ≤ c.toInt ∧ c.toInt ≤ 4 ∨ 8 ≤ c.toInt ∧ c.toInt ≤ 15))) ∨ (zTys n a b c = 0 ∧ ¬ (0 ≤ n.toInt ∧ n.toInt ≤ 3 ∧ (1 ≤ n.toInt → (0 ≤ a.toInt ∧ a.toInt ≤ 4 ∨ 8 ≤ a.toInt ∧ a.toInt ≤ 15)) ∧ (2 ≤ n.toInt → (0 ≤ b.toInt ∧ b.toInt ≤ 4 ∨ 8 ≤ b.toInt ∧ b.toInt ≤ 15)) ∧ (3 ≤ n.toInt → (0 ≤ c.toInt ∧ c.toInt ≤ 4 ∨ 8 ≤ c.toInt ∧ c.toInt ≤ 15)))) := by
  have z0 : (0 : Int32).toInt = 0 := by decide
  have z1 : (1 : Int32).toInt = 1 := by decide
  have z2 : (2 : Int32).toInt = 2 := by decide
  have z3 : (3 : Int32).toInt = 3 := by decide
  have n1 : ¬ (1 : Int32) = 0 := by decide
  rcases zTyp_f (a := a) with ⟨ea, ha⟩ | ⟨ea, ha⟩ <;> rcases zTyp_f (a := b) with ⟨eb, hb⟩ | ⟨eb, hb⟩ <;> rcases zTyp_f (a := c) with ⟨ec, hc⟩ | ⟨ec, hc⟩ <;> unfold zTys zTys2 zTys3 <;> rw [ea, eb, ec] <;> (repeat' split) <;> first | (refine Or.inr ⟨rfl, ?_⟩; (simp only [Int32.lt_iff_toInt_lt, Int32.le_iff_toInt_le] at *) <;> omega) | (refine Or.inl ⟨rfl, ?_⟩; (simp only [Int32.lt_iff_toInt_lt, Int32.le_iff_toInt_le] at *) <;> omega) | contradiction

set_option maxHeartbeats 4000000 in
set_option maxRecDepth 100000 in
theorem a_declare3 (l : Launch) (dC : Nat → ClassId) (dI : Nat → Nat → Nat) (h0 : Nat) (ad : Nat → Nat) (cid : Nat → ClassId) (sg : Nat → Int32) (gm : Nat → Nat → Int32) (lg : Nat → Nat → Int64) (a : Int32) (b : Int32) (hI : MI sg gm) (hPR : PR gm) : MMi l dC dI yX13_declare wm_X13_declare ({ frames := 1, cells := 0, slots := 0, locals := 20 }) h0 ad cid [.int a, .int b] sg gm lg (fun r v => ∃ (sg2 : Nat → Int32) (gm2 : Nat → Nat → Int32) (lg2 : Nat → Nat → Int64), v = (sg2, gm2, lg2) ∧ MI sg2 gm2 ∧ KS [5] sg sg2 ∧ KS [6, 7, 10, 13] gm gm2 ∧ KS [] lg lg2 ∧ (iv 0 1 r) ∧ (r.toInt = 1 ∧ (0 ≤ a.toInt ∧ a.toInt ≤ 7 ∧ -1 ≤ b.toInt ∧ b.toInt < a.toInt) ∨ r.toInt = 0 ∧ ¬ (0 ≤ a.toInt ∧ a.toInt ≤ 7 ∧ -1 ≤ b.toInt ∧ b.toInt < a.toInt)) ∧ (PR gm2) ∧ (DEC9 (0 ≤ a.toInt ∧ a.toInt ≤ 7 ∧ -1 ≤ b.toInt ∧ b.toInt < a.toInt) r a.toNatClampNeg (gm 7) (gm2 7)) ∧ (DEC9 (0 ≤ a.toInt ∧ a.toInt ≤ 7 ∧ -1 ≤ b.toInt ∧ b.toInt < a.toInt) r a.toNatClampNeg (gm 13) (gm2 13)) ∧ (DEC9 (0 ≤ a.toInt ∧ a.toInt ≤ 7 ∧ -1 ≤ b.toInt ∧ b.toInt < a.toInt) r a.toNatClampNeg (gm 10) (gm2 10))) := by
  intro sz
  refine Met.ofW (cc := cX13_declare) (maxL := 3) (ret := (some .boolean)) (by decide) rfl ?_
  intro p e s m args below meth c s₁ B hml hv
  obtain ⟨rfl, hsz, hP, hK, hD0⟩ := hv
  have hx := B.exec
  have hb := B.bytes
  have hr := B.returns
  have hts := atoms_spec (ws := wm_X13_declare) B.pre
  have htb := fun (w : Cond) (h : w ∈ tb) => hts w (List.mem_cons_of_mem _ h)
  have hown : s.vm.findClass RX13 = some m.cls := findClass_of_methodNamed B.named
  have hlocks := B.notSynchronized
  subst hsz
  have hD := hD0.self (sz := s.heap.size)
  generalize hAe : va_A (mW h0 ad cid sg gm lg) s.heap.size = A at hD ⊢
  have hA : ∀ q : Nat, s.heap.size ≤ q → A q := fun q h => by rw [← hAe]; exact Or.inr h
  have hS : va_S A s.heap s.heap [] := va_S.rf
  have hl := lv_entry ([.ref h0, .int a, .int b]) (n := 3) (Nat.le_of_ble_eq_true rfl)
  rw [lg_entry_eq]
  generalize (lg_sl ([.ref h0, .int a, .int b]) ++ List.replicate (3 - (lg_sl ([.ref h0, .int a, .int b])).length) Slot.unset).toArray = ls at hl ⊢
  have hl : lv_has ls 3 [(0, .ref h0), (1, .int a), (2, .int b)] := hl
  have hj22 : ∀ (sg_j22 : Nat → Int32) (_ : KS [5] sg sg_j22) (_ : MI sg_j22 gm) (_ : ¬ (0 ≤ a.toInt ∧ a.toInt ≤ 7 ∧ -1 ≤ b.toInt ∧ b.toInt < a.toInt)) (H : Heap) (locs : List Loc) (ls : Array Slot), va_P (dC, dI) vwCl (mW h0 ad cid sg_j22 gm lg) H → va_D A (mW h0 ad cid sg_j22 gm lg) → va_S A s.heap H locs → lv_has ls 3 [(0, .ref h0), (1, .int a), (2, .int b)] → W p l e (headSpec wm_X13_declare ({ frames := 1, cells := 0, slots := 0, locals := 20 })).room s m ([.ref h0, .int a, .int b] : List Value).toArray below meth c H locs 0 0 (MQ below (va_Qi (fun r v => ∃ (sg2 : Nat → Int32) (gm2 : Nat → Nat → Int32) (lg2 : Nat → Nat → Int64), v = (sg2, gm2, lg2) ∧ MI sg2 gm2 ∧ KS [5] sg sg2 ∧ KS [6, 7, 10, 13] gm gm2 ∧ KS [] lg lg2 ∧ (iv 0 1 r) ∧ (r.toInt = 1 ∧ (0 ≤ a.toInt ∧ a.toInt ≤ 7 ∧ -1 ≤ b.toInt ∧ b.toInt < a.toInt) ∨ r.toInt = 0 ∧ ¬ (0 ≤ a.toInt ∧ a.toInt ≤ 7 ∧ -1 ≤ b.toInt ∧ b.toInt < a.toInt)) ∧ (PR gm2) ∧ (DEC9 (0 ≤ a.toInt ∧ a.toInt ≤ 7 ∧ -1 ≤ b.toInt ∧ b.toInt < a.toInt) r a.toNatClampNeg (gm 7) (gm2 7)) ∧ (DEC9 (0 ≤ a.toInt ∧ a.toInt ≤ 7 ∧ -1 ≤ b.toInt ∧ b.toInt < a.toInt) r a.toNatClampNeg (gm 13) (gm2 13)) ∧ (DEC9 (0 ≤ a.toInt ∧ a.toInt ≤ 7 ∧ -1 ≤ b.toInt ∧ b.toInt < a.toInt) r a.toNatClampNeg (gm 10) (gm2 10))) (MB dC dI h0 ad cid A) A) ([.ref h0, .int a, .int b] : List Value).toArray s 0 0 A) (F0 m 22 ls []) := by
    intro sg_j22 hks_j22 hI_j22 hno H locs ls hP hD hS hl
    refine lv_iconst (v := 0) hx hb dX13_declare_22 (by decide) ?_
    exact W.zret (v := 0) hx hb hr (iv_nb (iv_w (iv_k (by decide) : iv 0 0 0) (by decide))) (fun t ht hW => ⟨⟨0, (sg_j22, gm, lg), rfl, ⟨sg_j22, gm, lg, rfl, hI_j22, (KS_tr (L := [5]) KS_rf hks_j22 (by decide)), KS_rf, KS_rf, (iv_w (iv_k (by decide) : iv 0 0 0) (by decide)), (Or.inr ⟨rfl, hno⟩), (hPR), (Or.inr ⟨rfl, hno, (show gm 7 = gm 7 from rfl)⟩), (Or.inr ⟨rfl, hno, (show gm 13 = gm 13 from rfl)⟩), (Or.inr ⟨rfl, hno, (show gm 10 = gm 10 from rfl)⟩)⟩, by rw [ht]; exact hP, va_K.moved hW.alike hK, hD⟩, hS.F ht⟩) hS.2.2 dX13_declare_23
  refine lv_aload_n hx hb dX13_declare_0 rfl (lv_at hl 0 rfl) ?_
  refine lv_iconst (v := 0) hx hb dX13_declare_1 (by decide) ?_
  refine ma_put (x := 0) hx hb htb inX13 hown hK hP hD hS 5 (by decide) (by decide) (htb _ kw_239) rfl rfl rfl dX13_declare_2 (fun sg_1 H locs esg_1 hP hD hS => ?_)
  have hI_sg_1 := MI_put hI esg_1 (iv_k (by decide) : iv 0 0 0) (by decide)
  refine lv_iload_n hx hb dX13_declare_5 rfl (lv_at hl 1 rfl) ?_
  have hPc := hP.sub (ws' := []) [] rfl
  have hDc := hD.sub (ws' := []) [] (by decide) rfl
  have hKc := hK.sub (tys' := []) [] rfl
  have hFc := va_free (wc := []) hD hS hA [] rfl
  refine va_calli (va_runS (As := [.int a]) (rest := []) ⟨hx, hb, hml, hown, htb⟩ (c_X13_isClass l dC dI H.size a) (va_cwS 1 htb (gd_S kw_240 kw_241 kw_5 kw_1388) rfl rfl rfl (by decide +kernel) ⟨Nat.le_of_ble_eq_true rfl, Nat.le_of_ble_eq_true rfl⟩) ⟨fun a U g mk q => by obtain ⟨q0, q1, qP, qK, qD⟩ := q; exact ⟨q0, q1, qP, va_K.moved (u := U) (U := U.calling g mk a) (Vm.Alike.refl U.vm) qK, qD⟩, fun U hU hW => ⟨rfl, by rw [hU], by rw [hU]; exact hPc, va_K.moved hW.alike hKc, hDc.weaken (fun _ _ _ _ => trivial)⟩⟩ rfl rfl hl.1 rfl (lv_room (Nat.le_of_ble_eq_true rfl)) dX13_declare_6 ⟨Nat.zero_le _, Nat.zero_le _⟩) hS (fun q _ h => hFc q h) hFc (fun r_2 u9 t H1 locs ht hvm hw hB hz1 hk1 hS => ?_)
  have hP := ms_kept hP hz1 hk1
  generalize H1 = H at hP hS ⊢
  have fr_2 : r_2 = zCls a := hw
  have hr_2 : iv 0 1 r_2 := iv_of fr_2 (zCls_iv a)
  refine lv_if_eq (tgt := 22) hx hb dX13_declare_9 (by decide) (fun c_3 => ?_) (fun c_3 => ?_)
  · have h_4 : iv 0 0 r_2 := iv_eq c_3 hr_2 (iv_k (by decide) : iv 0 0 0) (by decide)
    exact hj22 sg_1 (KS_up KS_rf esg_1 (by decide)) hI_sg_1 ((fun q9 => by { have q1 := zCls_f (a := a) (by rw [← fr_2]; exact c_3); omega })) _ _ _ hP hD hS (lv_sub hl [0, 1, 2] rfl)
  · have h_5 : iv 0 7 a := zCls_t (by rw [← fr_2]; exact c_3)
    have h_6 : iv 1 1 r_2 := iv_neL c_3 hr_2 (by decide)
    refine lv_iload_n hx hb dX13_declare_12 rfl (lv_at hl 2 rfl) ?_
    refine lv_iconst (v := (-1)) hx hb dX13_declare_13 (by decide) ?_
    refine lv_icmp_lt (tgt := 22) hx hb dX13_declare_14 (by decide) (fun c_7 => ?_) (fun c_7 => ?_)
    · have h_8 : iv (-2147483648) (-2) b := iv_ltL c_7 (iv_all b) (iv_k (by decide) : iv (-1) (-1) (-1)) (by decide)
      exact hj22 sg_1 (KS_up KS_rf esg_1 (by decide)) hI_sg_1 ((fun q9 => by { have := i32_0; have := i32_1; have := i32_2; have := i32_m1; have := (h_6).1; have := (h_6).2; have := (h_5).1; have := (h_5).2; have := (h_8).1; have := (h_8).2; omega })) _ _ _ hP hD hS (lv_sub hl [0, 1, 2] rfl)
    · have h_9 : iv (-1) 2147483647 b := iv_leR (i32_ge c_7) (iv_k (by decide) : iv (-1) (-1) (-1)) (iv_all b) (by decide)
      refine lv_iload_n hx hb dX13_declare_17 rfl (lv_at hl 2 rfl) ?_
      refine lv_iload_n hx hb dX13_declare_18 rfl (lv_at hl 1 rfl) ?_
      refine lv_icmp_lt (tgt := 24) hx hb dX13_declare_19 (by decide) (fun c_10 => ?_) (fun c_10 => ?_)
      · have d_11 : (b : Int32).toInt < (a : Int32).toInt := Int32.lt_iff_toInt_lt.mp c_10
        have h_12 : iv (-1) 6 b := iv_ltL c_10 h_9 h_5 (by decide)
        refine lv_aload_n hx hb dX13_declare_24 rfl (lv_at hl 0 rfl) ?_
        refine mr_get (v := .ref (ad 6)) hx hb htb inX13 hown hK hP 6 (by decide) (htb _ kw_165) rfl dX13_declare_25 ?_
        refine lv_iload_n hx hb dX13_declare_28 rfl (lv_at hl 1 rfl) ?_
        refine lv_iload_n hx hb dX13_declare_29 rfl (lv_at hl 2 rfl) ?_
        refine ma_iast (x := b) hx hb hK hP hD hS 5 (k := 6) rfl rfl rfl (show vp_in a 8 from (iv_in h_5 (by decide))) dX13_declare_30 (fun gm_13 H locs egm_13 hP hD hS => ?_)
        have hI_gm_13 := MI_st hI_sg_1 egm_13 h_12 (by decide)
        refine lv_aload_n hx hb dX13_declare_31 rfl (lv_at hl 0 rfl) ?_
        refine mr_get (v := .ref (ad 7)) hx hb htb inX13 hown hK hP 7 (by decide) (htb _ kw_166) rfl dX13_declare_32 ?_
        refine lv_iload_n hx hb dX13_declare_35 rfl (lv_at hl 1 rfl) ?_
        refine lv_iconst (v := 0) hx hb dX13_declare_36 (by decide) ?_
        refine ma_iast (x := 0) hx hb hK hP hD hS 6 (k := 7) rfl rfl rfl (show vp_in a 8 from (iv_in h_5 (by decide))) dX13_declare_37 (fun gm_14 H locs egm_14 hP hD hS => ?_)
        have hI_gm_14 := MI_st hI_gm_13 egm_14 (iv_k (by decide) : iv 0 0 0) (by decide)
        refine lv_aload_n hx hb dX13_declare_38 rfl (lv_at hl 0 rfl) ?_
        refine mr_get (v := .ref (ad 10)) hx hb htb inX13 hown hK hP 10 (by decide) (htb _ kw_169) rfl dX13_declare_39 ?_
        refine lv_iload_n hx hb dX13_declare_42 rfl (lv_at hl 1 rfl) ?_
        refine lv_iconst (v := 0) hx hb dX13_declare_43 (by decide) ?_
        refine ma_iast (x := 0) hx hb hK hP hD hS 9 (k := 10) rfl rfl rfl (show vp_in a 8 from (iv_in h_5 (by decide))) dX13_declare_44 (fun gm_15 H locs egm_15 hP hD hS => ?_)
        have hI_gm_15 := MI_st hI_gm_14 egm_15 (iv_k (by decide) : iv 0 0 0) (by decide)
        refine lv_aload_n hx hb dX13_declare_45 rfl (lv_at hl 0 rfl) ?_
        refine mr_get (v := .ref (ad 13)) hx hb htb inX13 hown hK hP 13 (by decide) (htb _ kw_172) rfl dX13_declare_46 ?_
        refine lv_iload_n hx hb dX13_declare_49 rfl (lv_at hl 1 rfl) ?_
        refine lv_iconst (v := 0) hx hb dX13_declare_50 (by decide) ?_
        refine ma_iast (x := 0) hx hb hK hP hD hS 12 (k := 13) rfl rfl rfl (show vp_in a 8 from (iv_in h_5 (by decide))) dX13_declare_51 (fun gm_16 H locs egm_16 hP hD hS => ?_)
        have hI_gm_16 := MI_st hI_gm_15 egm_16 (iv_k (by decide) : iv 0 0 0) (by decide)
        refine lv_iconst (v := 1) hx hb dX13_declare_52 (by decide) ?_
        exact W.zret (v := 1) hx hb hr (iv_nb (iv_w (iv_k (by decide) : iv 1 1 1) (by decide))) (fun t ht hW => ⟨⟨1, (sg_1, gm_16, lg), rfl, ⟨sg_1, gm_16, lg, rfl, hI_gm_16, (KS_up KS_rf esg_1 (by decide)), (KS_up (KS_up (KS_up (KS_up KS_rf egm_13 (by decide)) egm_14 (by decide)) egm_15 (by decide)) egm_16 (by decide)), KS_rf, (iv_w (iv_k (by decide) : iv 1 1 1) (by decide)), (Or.inl ⟨rfl, by have := i32_0; have := i32_1; have := i32_2; have := i32_m1; have := (h_6).1; have := (h_6).2; have := (h_5).1; have := (h_5).2; have := (h_12).1; have := (h_12).2; omega, by have := i32_0; have := i32_1; have := i32_2; have := i32_m1; have := (h_6).1; have := (h_6).2; have := (h_5).1; have := (h_5).2; have := (h_12).1; have := (h_12).2; omega, by have := i32_0; have := i32_1; have := i32_2; have := i32_m1; have := (h_6).1; have := (h_6).2; have := (h_5).1; have := (h_5).2; have := (h_12).1; have := (h_12).2; omega, by have := i32_0; have := i32_1; have := i32_2; have := i32_m1; have := (h_6).1; have := (h_6).2; have := (h_5).1; have := (h_5).2; have := (h_12).1; have := (h_12).2; omega⟩), (PR_u hPR (by have := i32_0; have := i32_1; have := i32_2; have := i32_m1; have := (h_6).1; have := (h_6).2; have := (h_5).1; have := (h_5).2; have := (h_12).1; have := (h_12).2; omega) (show gm_16 6 = upd (gm 6) (a : Int32).toNatClampNeg b from ((up_ne egm_16 (by decide)).trans ((up_ne egm_15 (by decide)).trans ((up_ne egm_14 (by decide)).trans ((up_at egm_13).trans (by rw [show gm 6 = gm 6 from rfl])))))) (by have := i32_0; have := i32_1; have := i32_2; have := i32_m1; have := (h_6).1; have := (h_6).2; have := (h_5).1; have := (h_5).2; have := (h_12).1; have := (h_12).2; omega)), (Or.inl ⟨rfl, ⟨by have := i32_0; have := i32_1; have := i32_2; have := i32_m1; have := (h_6).1; have := (h_6).2; have := (h_5).1; have := (h_5).2; have := (h_12).1; have := (h_12).2; omega, by have := i32_0; have := i32_1; have := i32_2; have := i32_m1; have := (h_6).1; have := (h_6).2; have := (h_5).1; have := (h_5).2; have := (h_12).1; have := (h_12).2; omega, by have := i32_0; have := i32_1; have := i32_2; have := i32_m1; have := (h_6).1; have := (h_6).2; have := (h_5).1; have := (h_5).2; have := (h_12).1; have := (h_12).2; omega, by have := i32_0; have := i32_1; have := i32_2; have := i32_m1; have := (h_6).1; have := (h_6).2; have := (h_5).1; have := (h_5).2; have := (h_12).1; have := (h_12).2; omega⟩, (show gm_16 7 = upd (gm 7) (a : Int32).toNatClampNeg 0 from ((up_ne egm_16 (by decide)).trans ((up_ne egm_15 (by decide)).trans ((up_at egm_14).trans (by rw [show gm_13 7 = gm 7 from ((up_ne egm_13 (by decide)).trans rfl)])))))⟩), (Or.inl ⟨rfl, ⟨by have := i32_0; have := i32_1; have := i32_2; have := i32_m1; have := (h_6).1; have := (h_6).2; have := (h_5).1; have := (h_5).2; have := (h_12).1; have := (h_12).2; omega, by have := i32_0; have := i32_1; have := i32_2; have := i32_m1; have := (h_6).1; have := (h_6).2; have := (h_5).1; have := (h_5).2; have := (h_12).1; have := (h_12).2; omega, by have := i32_0; have := i32_1; have := i32_2; have := i32_m1; have := (h_6).1; have := (h_6).2; have := (h_5).1; have := (h_5).2; have := (h_12).1; have := (h_12).2; omega, by have := i32_0; have := i32_1; have := i32_2; have := i32_m1; have := (h_6).1; have := (h_6).2; have := (h_5).1; have := (h_5).2; have := (h_12).1; have := (h_12).2; omega⟩, (show gm_16 13 = upd (gm 13) (a : Int32).toNatClampNeg 0 from ((up_at egm_16).trans (by rw [show gm_15 13 = gm 13 from ((up_ne egm_15 (by decide)).trans ((up_ne egm_14 (by decide)).trans ((up_ne egm_13 (by decide)).trans rfl)))])))⟩), (Or.inl ⟨rfl, ⟨by have := i32_0; have := i32_1; have := i32_2; have := i32_m1; have := (h_6).1; have := (h_6).2; have := (h_5).1; have := (h_5).2; have := (h_12).1; have := (h_12).2; omega, by have := i32_0; have := i32_1; have := i32_2; have := i32_m1; have := (h_6).1; have := (h_6).2; have := (h_5).1; have := (h_5).2; have := (h_12).1; have := (h_12).2; omega, by have := i32_0; have := i32_1; have := i32_2; have := i32_m1; have := (h_6).1; have := (h_6).2; have := (h_5).1; have := (h_5).2; have := (h_12).1; have := (h_12).2; omega, by have := i32_0; have := i32_1; have := i32_2; have := i32_m1; have := (h_6).1; have := (h_6).2; have := (h_5).1; have := (h_5).2; have := (h_12).1; have := (h_12).2; omega⟩, (show gm_16 10 = upd (gm 10) (a : Int32).toNatClampNeg 0 from ((up_ne egm_16 (by decide)).trans ((up_at egm_15).trans (by rw [show gm_14 10 = gm 10 from ((up_ne egm_14 (by decide)).trans ((up_ne egm_13 (by decide)).trans rfl))]))))⟩)⟩, by rw [ht]; exact hP, va_K.moved hW.alike hK, hD⟩, hS.F ht⟩) hS.2.2 dX13_declare_53
      · have d_17 : (a : Int32).toInt ≤ (b : Int32).toInt := Int32.le_iff_toInt_le.mp (i32_ge c_10)
        have h_18 : iv 0 2147483647 b := iv_leR (i32_ge c_10) h_5 h_9 (by decide)
        exact hj22 sg_1 (KS_up KS_rf esg_1 (by decide)) hI_sg_1 ((fun q9 => by { have := i32_0; have := i32_1; have := i32_2; have := i32_m1; have := (h_6).1; have := (h_6).2; have := (h_5).1; have := (h_5).2; have := (h_18).1; have := (h_18).2; omega })) _ _ _ hP hD hS (lv_sub hl [0, 1, 2] rfl)

set_option maxHeartbeats 4000000 in
set_option maxRecDepth 100000 in
theorem a_constructor2 (l : Launch) (dC : Nat → ClassId) (dI : Nat → Nat → Nat) (h0 : Nat) (ad : Nat → Nat) (cid : Nat → ClassId) (sg : Nat → Int32) (gm : Nat → Nat → Int32) (lg : Nat → Nat → Int64) (a : Int32) (b : Int32) (f : Int32) (g : Int32) (k : Int32) (hI : MI sg gm) : MMi l dC dI yX13_constructor wm_X13_constructor ({ frames := 2, cells := 0, slots := 0, locals := 43 }) h0 ad cid [.int a, .int b, .int f, .int g, .int k] sg gm lg (fun r v => ∃ (sg2 : Nat → Int32) (gm2 : Nat → Nat → Int32) (lg2 : Nat → Nat → Int64), v = (sg2, gm2, lg2) ∧ MI sg2 gm2 ∧ KS [5] sg sg2 ∧ KS [7, 8, 9] gm gm2 ∧ KS [] lg lg2 ∧ (iv 0 1 r) ∧ (ADD9 (0 ≤ a.toInt ∧ a.toInt ≤ 7 ∧ 0 ≤ b.toInt ∧ b.toInt ≤ 3 ∧ (1 ≤ b.toInt → (0 ≤ f.toInt ∧ f.toInt ≤ 4 ∨ 8 ≤ f.toInt ∧ f.toInt ≤ 15)) ∧ (2 ≤ b.toInt → (0 ≤ g.toInt ∧ g.toInt ≤ 4 ∨ 8 ≤ g.toInt ∧ g.toInt ≤ 15)) ∧ (3 ≤ b.toInt → (0 ≤ k.toInt ∧ k.toInt ≤ 4 ∨ 8 ≤ k.toInt ∧ k.toInt ≤ 15))) r a.toNatClampNeg (gm 7) (gm2 7))) := by
  intro sz
  refine Met.ofW (cc := cX13_constructor) (maxL := 7) (ret := (some .boolean)) (by decide) rfl ?_
  intro p e s m args below meth c s₁ B hml hv
  obtain ⟨rfl, hsz, hP, hK, hD0⟩ := hv
  have hx := B.exec
  have hb := B.bytes
  have hr := B.returns
  have hts := atoms_spec (ws := wm_X13_constructor) B.pre
  have htb := fun (w : Cond) (h : w ∈ tb) => hts w (List.mem_cons_of_mem _ h)
  have hown : s.vm.findClass RX13 = some m.cls := findClass_of_methodNamed B.named
  have hlocks := B.notSynchronized
  subst hsz
  have hD := hD0.self (sz := s.heap.size)
  generalize hAe : va_A (mW h0 ad cid sg gm lg) s.heap.size = A at hD ⊢
  have hA : ∀ q : Nat, s.heap.size ≤ q → A q := fun q h => by rw [← hAe]; exact Or.inr h
  have hS : va_S A s.heap s.heap [] := va_S.rf
  have hl := lv_entry ([.ref h0, .int a, .int b, .int f, .int g, .int k]) (n := 7) (Nat.le_of_ble_eq_true rfl)
  rw [lg_entry_eq]
  generalize (lg_sl ([.ref h0, .int a, .int b, .int f, .int g, .int k]) ++ List.replicate (7 - (lg_sl ([.ref h0, .int a, .int b, .int f, .int g, .int k])).length) Slot.unset).toArray = ls at hl ⊢
  have hl : lv_has ls 7 [(0, .ref h0), (1, .int a), (2, .int b), (3, .int f), (4, .int g), (5, .int k)] := hl
  have hj34 : ∀ (sg_j34 : Nat → Int32) (_ : KS [5] sg sg_j34) (_ : MI sg_j34 gm) (_ : ¬ (0 ≤ a.toInt ∧ a.toInt ≤ 7 ∧ 0 ≤ b.toInt ∧ b.toInt ≤ 3 ∧ (1 ≤ b.toInt → (0 ≤ f.toInt ∧ f.toInt ≤ 4 ∨ 8 ≤ f.toInt ∧ f.toInt ≤ 15)) ∧ (2 ≤ b.toInt → (0 ≤ g.toInt ∧ g.toInt ≤ 4 ∨ 8 ≤ g.toInt ∧ g.toInt ≤ 15)) ∧ (3 ≤ b.toInt → (0 ≤ k.toInt ∧ k.toInt ≤ 4 ∨ 8 ≤ k.toInt ∧ k.toInt ≤ 15))) ∨ 4 ≤ (gm 7 a.toNatClampNeg).toInt) (H : Heap) (locs : List Loc) (ls : Array Slot), va_P (dC, dI) vwCl (mW h0 ad cid sg_j34 gm lg) H → va_D A (mW h0 ad cid sg_j34 gm lg) → va_S A s.heap H locs → lv_has ls 7 [(0, .ref h0), (1, .int a), (2, .int b), (3, .int f), (4, .int g), (5, .int k)] → W p l e (headSpec wm_X13_constructor ({ frames := 2, cells := 0, slots := 0, locals := 43 })).room s m ([.ref h0, .int a, .int b, .int f, .int g, .int k] : List Value).toArray below meth c H locs 0 0 (MQ below (va_Qi (fun r v => ∃ (sg2 : Nat → Int32) (gm2 : Nat → Nat → Int32) (lg2 : Nat → Nat → Int64), v = (sg2, gm2, lg2) ∧ MI sg2 gm2 ∧ KS [5] sg sg2 ∧ KS [7, 8, 9] gm gm2 ∧ KS [] lg lg2 ∧ (iv 0 1 r) ∧ (ADD9 (0 ≤ a.toInt ∧ a.toInt ≤ 7 ∧ 0 ≤ b.toInt ∧ b.toInt ≤ 3 ∧ (1 ≤ b.toInt → (0 ≤ f.toInt ∧ f.toInt ≤ 4 ∨ 8 ≤ f.toInt ∧ f.toInt ≤ 15)) ∧ (2 ≤ b.toInt → (0 ≤ g.toInt ∧ g.toInt ≤ 4 ∨ 8 ≤ g.toInt ∧ g.toInt ≤ 15)) ∧ (3 ≤ b.toInt → (0 ≤ k.toInt ∧ k.toInt ≤ 4 ∨ 8 ≤ k.toInt ∧ k.toInt ≤ 15))) r a.toNatClampNeg (gm 7) (gm2 7))) (MB dC dI h0 ad cid A) A) ([.ref h0, .int a, .int b, .int f, .int g, .int k] : List Value).toArray s 0 0 A) (F0 m 34 ls []) := by
    intro sg_j34 hks_j34 hI_j34 hno H locs ls hP hD hS hl
    refine lv_iconst (v := 0) hx hb dX13_constructor_34 (by decide) ?_
    exact W.zret (v := 0) hx hb hr (iv_nb (iv_w (iv_k (by decide) : iv 0 0 0) (by decide))) (fun t ht hW => ⟨⟨0, (sg_j34, gm, lg), rfl, ⟨sg_j34, gm, lg, rfl, hI_j34, (KS_tr (L := [5]) KS_rf hks_j34 (by decide)), KS_rf, KS_rf, (iv_w (iv_k (by decide) : iv 0 0 0) (by decide)), (Or.inr ⟨rfl, hno, (show gm 7 = gm 7 from rfl)⟩)⟩, by rw [ht]; exact hP, va_K.moved hW.alike hK, hD⟩, hS.F ht⟩) hS.2.2 dX13_constructor_35
  refine lv_aload_n hx hb dX13_constructor_0 rfl (lv_at hl 0 rfl) ?_
  refine lv_iconst (v := 0) hx hb dX13_constructor_1 (by decide) ?_
  refine ma_put (x := 0) hx hb htb inX13 hown hK hP hD hS 5 (by decide) (by decide) (htb _ kw_239) rfl rfl rfl dX13_constructor_2 (fun sg_1 H locs esg_1 hP hD hS => ?_)
  have hI_sg_1 := MI_put hI esg_1 (iv_k (by decide) : iv 0 0 0) (by decide)
  refine lv_iload_n hx hb dX13_constructor_5 rfl (lv_at hl 1 rfl) ?_
  have hPc := hP.sub (ws' := []) [] rfl
  have hDc := hD.sub (ws' := []) [] (by decide) rfl
  have hKc := hK.sub (tys' := []) [] rfl
  have hFc := va_free (wc := []) hD hS hA [] rfl
  refine va_calli (va_runS (As := [.int a]) (rest := []) ⟨hx, hb, hml, hown, htb⟩ (c_X13_isClass l dC dI H.size a) (va_cwS 1 htb (gd_S kw_240 kw_241 kw_5 kw_1388) rfl rfl rfl (by decide +kernel) ⟨Nat.le_of_ble_eq_true rfl, Nat.le_of_ble_eq_true rfl⟩) ⟨fun a U g mk q => by obtain ⟨q0, q1, qP, qK, qD⟩ := q; exact ⟨q0, q1, qP, va_K.moved (u := U) (U := U.calling g mk a) (Vm.Alike.refl U.vm) qK, qD⟩, fun U hU hW => ⟨rfl, by rw [hU], by rw [hU]; exact hPc, va_K.moved hW.alike hKc, hDc.weaken (fun _ _ _ _ => trivial)⟩⟩ rfl rfl hl.1 rfl (lv_room (Nat.le_of_ble_eq_true rfl)) dX13_constructor_6 ⟨Nat.zero_le _, Nat.zero_le _⟩) hS (fun q _ h => hFc q h) hFc (fun r_2 u9 t H1 locs ht hvm hw hB hz1 hk1 hS => ?_)
  have hP := ms_kept hP hz1 hk1
  generalize H1 = H at hP hS ⊢
  have fr_2 : r_2 = zCls a := hw
  have hr_2 : iv 0 1 r_2 := iv_of fr_2 (zCls_iv a)
  refine lv_if_eq (tgt := 34) hx hb dX13_constructor_9 (by decide) (fun c_3 => ?_) (fun c_3 => ?_)
  · have h_4 : iv 0 0 r_2 := iv_eq c_3 hr_2 (iv_k (by decide) : iv 0 0 0) (by decide)
    exact hj34 sg_1 (KS_up KS_rf esg_1 (by decide)) hI_sg_1 (Or.inl (fun q8 => by { have q2 := zCls_g (a := a); rw [← fr_2] at q2; have w2 : r_2 = 1 ↔ r_2.toInt = 1 := ⟨fun q => by rw [q]; rfl, fun q => Int32.toInt_inj.mp q⟩; have v2 : r_2 = 0 ↔ r_2.toInt = 0 := ⟨fun q => by rw [q]; rfl, fun q => Int32.toInt_inj.mp q⟩; rw [w2, v2] at q2; have := i32_0; have := i32_1; have := i32_2; have := i32_m1; have := (h_4).1; have := (h_4).2; omega })) _ _ _ hP hD hS (lv_sub hl [0, 1, 2, 3, 4, 5] rfl)
  · have h_5 : iv 0 7 a := zCls_t (by rw [← fr_2]; exact c_3)
    have h_6 : iv 1 1 r_2 := iv_neL c_3 hr_2 (by decide)
    refine lv_iload_n hx hb dX13_constructor_12 rfl (lv_at hl 2 rfl) ?_
    refine lv_iload_n hx hb dX13_constructor_13 rfl (lv_at hl 3 rfl) ?_
    refine lv_iload hx hb dX13_constructor_14 (lv_at hl 4 rfl) ?_
    refine lv_iload hx hb dX13_constructor_16 (lv_at hl 5 rfl) ?_
    have hPc := hP.sub (ws' := []) [] rfl
    have hDc := hD.sub (ws' := []) [] (by decide) rfl
    have hKc := hK.sub (tys' := []) [] rfl
    have hFc := va_free (wc := []) hD hS hA [] rfl
    refine va_calli (va_runS (As := [.int b, .int f, .int g, .int k]) (rest := []) ⟨hx, hb, hml, hown, htb⟩ (c_X13_areTypes l dC dI H.size b f g k) (va_cwS 4 htb (gd_S kw_265 kw_266 kw_5 kw_1396) rfl rfl rfl (by decide +kernel) ⟨Nat.le_of_ble_eq_true rfl, Nat.le_of_ble_eq_true rfl⟩) ⟨fun a U g mk q => by obtain ⟨q0, q1, qP, qK, qD⟩ := q; exact ⟨q0, q1, qP, va_K.moved (u := U) (U := U.calling g mk a) (Vm.Alike.refl U.vm) qK, qD⟩, fun U hU hW => ⟨rfl, by rw [hU], by rw [hU]; exact hPc, va_K.moved hW.alike hKc, hDc.weaken (fun _ _ _ _ => trivial)⟩⟩ rfl rfl hl.1 rfl (lv_room (Nat.le_of_ble_eq_true rfl)) dX13_constructor_18 ⟨Nat.zero_le _, Nat.zero_le _⟩) hS (fun q _ h => hFc q h) hFc (fun r_7 u9 t H1 locs ht hvm hw hB hz1 hk1 hS => ?_)
    have hP := ms_kept hP hz1 hk1
    generalize H1 = H at hP hS ⊢
    have fr_7 : r_7 = zTys b f g k := hw
    have hr_7 : iv 0 1 r_7 := iv_of fr_7 (zTys_iv b f g k)
    refine lv_if_eq (tgt := 34) hx hb dX13_constructor_21 (by decide) (fun c_8 => ?_) (fun c_8 => ?_)
    · have h_9 : iv 0 0 r_7 := iv_eq c_8 hr_7 (iv_k (by decide) : iv 0 0 0) (by decide)
      exact hj34 sg_1 (KS_up KS_rf esg_1 (by decide)) hI_sg_1 (Or.inl (fun q8 => by { have q2 := zCls_g (a := a); rw [← fr_2] at q2; have q7 := zTys_f (n := b) (a := f) (b := g) (c := k); rw [← fr_7] at q7; have w2 : r_2 = 1 ↔ r_2.toInt = 1 := ⟨fun q => by rw [q]; rfl, fun q => Int32.toInt_inj.mp q⟩; have v2 : r_2 = 0 ↔ r_2.toInt = 0 := ⟨fun q => by rw [q]; rfl, fun q => Int32.toInt_inj.mp q⟩; rw [w2, v2] at q2; have w7 : r_7 = 1 ↔ r_7.toInt = 1 := ⟨fun q => by rw [q]; rfl, fun q => Int32.toInt_inj.mp q⟩; have v7 : r_7 = 0 ↔ r_7.toInt = 0 := ⟨fun q => by rw [q]; rfl, fun q => Int32.toInt_inj.mp q⟩; rw [w7, v7] at q7; have := i32_0; have := i32_1; have := i32_2; have := i32_m1; have := (h_6).1; have := (h_6).2; have := (h_5).1; have := (h_5).2; have := (h_9).1; have := (h_9).2; omega })) _ _ _ hP hD hS (lv_sub hl [0, 1, 2, 3, 4, 5] rfl)
    · have h_10 : iv 0 3 b := zTys_t (by rw [← fr_7]; exact c_8)
      have h_11 : iv 1 1 r_7 := iv_neL c_8 hr_7 (by decide)
      refine lv_aload_n hx hb dX13_constructor_24 rfl (lv_at hl 0 rfl) ?_
      refine mr_get (v := .ref (ad 7)) hx hb htb inX13 hown hK hP 7 (by decide) (htb _ kw_166) rfl dX13_constructor_25 ?_
      refine lv_iload_n hx hb dX13_constructor_28 rfl (lv_at hl 1 rfl) ?_
      refine mr_iald hx hb hK hP 6 (k := 7) rfl rfl rfl (show vp_in a 8 from (iv_in h_5 (by decide))) dX13_constructor_29 ?_
      refine lv_topi (fun z_12 ez_12 => ?_)
      have hz_12 : iv 0 4 z_12 := iv_of ez_12 (MI_a hI_sg_1 7 h_5 (by decide))
      refine lv_iconst (v := 4) hx hb dX13_constructor_30 (by decide) ?_
      refine lv_icmp_ne (tgt := 36) hx hb dX13_constructor_31 (by decide) (fun c_13 => ?_) (fun c_13 => ?_)
      · have h_14 : iv 0 3 z_12 := iv_neH c_13 hz_12 (by decide)
        refine lv_iconst (v := 4) hx hb dX13_constructor_36 (by decide) ?_
        refine lv_iload_n hx hb dX13_constructor_37 rfl (lv_at hl 1 rfl) ?_
        refine lv_imul hx hb dX13_constructor_38 ?_
        refine lv_topi (fun z_15 ez_15 => ?_)
        have hz_15 : iv 0 28 z_15 := iv_of ez_15 (iv_mul (iv_k (by decide) : iv 4 4 4) h_5 (by decide))
        have tz_15 : z_15.toInt = 4 * (a : Int32).toInt := by rw [ez_15]; exact iv_mulE (iv_k (by decide) : iv 4 4 4) h_5 (by decide)
        refine lv_aload_n hx hb dX13_constructor_39 rfl (lv_at hl 0 rfl) ?_
        refine mr_get (v := .ref (ad 7)) hx hb htb inX13 hown hK hP 7 (by decide) (htb _ kw_166) rfl dX13_constructor_40 ?_
        refine lv_iload_n hx hb dX13_constructor_43 rfl (lv_at hl 1 rfl) ?_
        refine mr_iald hx hb hK hP 6 (k := 7) rfl rfl rfl (show vp_in a 8 from (iv_in h_5 (by decide))) dX13_constructor_44 ?_
        refine lv_topi (fun z_16 ez_16 => ?_)
        obtain rfl : z_12 = z_16 := ez_12.trans ez_16.symm
        refine lv_iadd hx hb dX13_constructor_45 ?_
        refine lv_topi (fun z_17 ez_17 => ?_)
        have hz_17 : iv 0 31 z_17 := iv_of ez_17 (iv_add hz_15 h_14 (by decide))
        have tz_17 : z_17.toInt = (z_15 : Int32).toInt + (z_12 : Int32).toInt := by rw [ez_17]; exact iv_addE hz_15 h_14 (by decide)
        refine lv_istore (lv' := [(6, .int z_17), (0, .ref h0), (1, .int a), (2, .int b), (3, .int f), (4, .int g), (5, .int k)]) hx hb dX13_constructor_46 hl (by decide) rfl (fun ls hl => ?_)
        refine lv_aload_n hx hb dX13_constructor_48 rfl (lv_at hl 1 rfl) ?_
        refine mr_get (v := .ref (ad 8)) hx hb htb inX13 hown hK hP 8 (by decide) (htb _ kw_167) rfl dX13_constructor_49 ?_
        refine lv_iload hx hb dX13_constructor_52 (lv_at hl 0 rfl) ?_
        refine lv_iload_n hx hb dX13_constructor_54 rfl (lv_at hl 3 rfl) ?_
        refine ma_iast (x := b) hx hb hK hP hD hS 7 (k := 8) rfl rfl rfl (show vp_in z_17 32 from (iv_in hz_17 (by decide))) dX13_constructor_55 (fun gm_18 H locs egm_18 hP hD hS => ?_)
        have hI_gm_18 := MI_st hI_sg_1 egm_18 h_10 (by decide)
        refine lv_aload_n hx hb dX13_constructor_56 rfl (lv_at hl 1 rfl) ?_
        refine mr_get (v := .ref (ad 9)) hx hb htb inX13 hown hK hP 9 (by decide) (htb _ kw_168) rfl dX13_constructor_57 ?_
        refine lv_iconst (v := 3) hx hb dX13_constructor_60 (by decide) ?_
        refine lv_iload hx hb dX13_constructor_61 (lv_at hl 0 rfl) ?_
        refine lv_imul hx hb dX13_constructor_63 ?_
        refine lv_topi (fun z_19 ez_19 => ?_)
        have hz_19 : iv 0 93 z_19 := iv_of ez_19 (iv_mul (iv_k (by decide) : iv 3 3 3) hz_17 (by decide))
        have tz_19 : z_19.toInt = 3 * (z_17 : Int32).toInt := by rw [ez_19]; exact iv_mulE (iv_k (by decide) : iv 3 3 3) hz_17 (by decide)
        refine lv_iload_n hx hb dX13_constructor_64 rfl (lv_at hl 4 rfl) ?_
        refine ma_iast (x := f) hx hb hK hP hD hS 8 (k := 9) rfl rfl rfl (show vp_in z_19 96 from (iv_in hz_19 (by decide))) dX13_constructor_65 (fun gm_20 H locs egm_20 hP hD hS => ?_)
        have hI_gm_20 := MI_st hI_gm_18 egm_20 (iv_all f) (by decide)
        refine lv_aload_n hx hb dX13_constructor_66 rfl (lv_at hl 1 rfl) ?_
        refine mr_get (v := .ref (ad 9)) hx hb htb inX13 hown hK hP 9 (by decide) (htb _ kw_168) rfl dX13_constructor_67 ?_
        refine lv_iconst (v := 3) hx hb dX13_constructor_70 (by decide) ?_
        refine lv_iload hx hb dX13_constructor_71 (lv_at hl 0 rfl) ?_
        refine lv_imul hx hb dX13_constructor_73 ?_
        refine lv_topi (fun z_21 ez_21 => ?_)
        obtain rfl : z_19 = z_21 := ez_19.trans ez_21.symm
        refine lv_iconst (v := 1) hx hb dX13_constructor_74 (by decide) ?_
        refine lv_iadd hx hb dX13_constructor_75 ?_
        refine lv_topi (fun z_22 ez_22 => ?_)
        have hz_22 : iv 1 94 z_22 := iv_of ez_22 (iv_add hz_19 (iv_k (by decide) : iv 1 1 1) (by decide))
        have tz_22 : z_22.toInt = (z_19 : Int32).toInt + 1 := by rw [ez_22]; exact iv_addE hz_19 (iv_k (by decide) : iv 1 1 1) (by decide)
        refine lv_iload hx hb dX13_constructor_76 (lv_at hl 5 rfl) ?_
        refine ma_iast (x := g) hx hb hK hP hD hS 8 (k := 9) rfl rfl rfl (show vp_in z_22 96 from (iv_in hz_22 (by decide))) dX13_constructor_78 (fun gm_23 H locs egm_23 hP hD hS => ?_)
        have hI_gm_23 := MI_st hI_gm_20 egm_23 (iv_all g) (by decide)
        refine lv_aload_n hx hb dX13_constructor_79 rfl (lv_at hl 1 rfl) ?_
        refine mr_get (v := .ref (ad 9)) hx hb htb inX13 hown hK hP 9 (by decide) (htb _ kw_168) rfl dX13_constructor_80 ?_
        refine lv_iconst (v := 3) hx hb dX13_constructor_83 (by decide) ?_
        refine lv_iload hx hb dX13_constructor_84 (lv_at hl 0 rfl) ?_
        refine lv_imul hx hb dX13_constructor_86 ?_
        refine lv_topi (fun z_24 ez_24 => ?_)
        obtain rfl : z_19 = z_24 := ez_19.trans ez_24.symm
        refine lv_iconst (v := 2) hx hb dX13_constructor_87 (by decide) ?_
        refine lv_iadd hx hb dX13_constructor_88 ?_
        refine lv_topi (fun z_25 ez_25 => ?_)
        have hz_25 : iv 2 95 z_25 := iv_of ez_25 (iv_add hz_19 (iv_k (by decide) : iv 2 2 2) (by decide))
        have tz_25 : z_25.toInt = (z_19 : Int32).toInt + 2 := by rw [ez_25]; exact iv_addE hz_19 (iv_k (by decide) : iv 2 2 2) (by decide)
        refine lv_iload hx hb dX13_constructor_89 (lv_at hl 6 rfl) ?_
        refine ma_iast (x := k) hx hb hK hP hD hS 8 (k := 9) rfl rfl rfl (show vp_in z_25 96 from (iv_in hz_25 (by decide))) dX13_constructor_91 (fun gm_26 H locs egm_26 hP hD hS => ?_)
        have hI_gm_26 := MI_st hI_gm_23 egm_26 (iv_all k) (by decide)
        refine lv_aload_n hx hb dX13_constructor_92 rfl (lv_at hl 1 rfl) ?_
        refine mr_get (v := .ref (ad 7)) hx hb htb inX13 hown hK hP 7 (by decide) (htb _ kw_166) rfl dX13_constructor_93 ?_
        refine lv_iload_n hx hb dX13_constructor_96 rfl (lv_at hl 2 rfl) ?_
        refine lv_dup2_11 hx hb dX13_constructor_97 rfl rfl ?_
        refine mr_iald hx hb hK hP 6 (k := 7) rfl rfl rfl (show vp_in a 8 from (iv_in h_5 (by decide))) dX13_constructor_98 ?_
        refine lv_topi (fun z_27 ez_27 => ?_)
        obtain rfl : z_12 = z_27 := ez_12.trans (ez_27.trans (congrFun (Eq.trans (Eq.trans (Eq.trans (up_ne egm_26 (by decide)) (up_ne egm_23 (by decide))) (up_ne egm_20 (by decide))) (up_ne egm_18 (by decide))) _)).symm
        refine lv_iconst (v := 1) hx hb dX13_constructor_99 (by decide) ?_
        refine lv_iadd hx hb dX13_constructor_100 ?_
        refine lv_topi (fun z_28 ez_28 => ?_)
        have hz_28 : iv 1 4 z_28 := iv_of ez_28 (iv_add h_14 (iv_k (by decide) : iv 1 1 1) (by decide))
        have tz_28 : z_28.toInt = (z_12 : Int32).toInt + 1 := by rw [ez_28]; exact iv_addE h_14 (iv_k (by decide) : iv 1 1 1) (by decide)
        refine ma_iast (x := z_28) hx hb hK hP hD hS 6 (k := 7) rfl rfl rfl (show vp_in a 8 from (iv_in h_5 (by decide))) dX13_constructor_101 (fun gm_29 H locs egm_29 hP hD hS => ?_)
        have hI_gm_29 := MI_st hI_gm_26 egm_29 hz_28 (by decide)
        refine lv_iconst (v := 1) hx hb dX13_constructor_102 (by decide) ?_
        exact W.zret (v := 1) hx hb hr (iv_nb (iv_w (iv_k (by decide) : iv 1 1 1) (by decide))) (fun t ht hW => ⟨⟨1, (sg_1, gm_29, lg), rfl, ⟨sg_1, gm_29, lg, rfl, hI_gm_29, (KS_up KS_rf esg_1 (by decide)), (KS_up (KS_up (KS_up (KS_up (KS_up KS_rf egm_18 (by decide)) egm_20 (by decide)) egm_23 (by decide)) egm_26 (by decide)) egm_29 (by decide)), KS_rf, (iv_w (iv_k (by decide) : iv 1 1 1) (by decide)), (Or.inl ⟨rfl, by { have q2 := zCls_g (a := a); rw [← fr_2] at q2; have q7 := zTys_f (n := b) (a := f) (b := g) (c := k); rw [← fr_7] at q7; have w2 : r_2 = 1 ↔ r_2.toInt = 1 := ⟨fun q => by rw [q]; rfl, fun q => Int32.toInt_inj.mp q⟩; have v2 : r_2 = 0 ↔ r_2.toInt = 0 := ⟨fun q => by rw [q]; rfl, fun q => Int32.toInt_inj.mp q⟩; rw [w2, v2] at q2; have w7 : r_7 = 1 ↔ r_7.toInt = 1 := ⟨fun q => by rw [q]; rfl, fun q => Int32.toInt_inj.mp q⟩; have v7 : r_7 = 0 ↔ r_7.toInt = 0 := ⟨fun q => by rw [q]; rfl, fun q => Int32.toInt_inj.mp q⟩; rw [w7, v7] at q7; have := i32_0; have := i32_1; have := i32_2; have := i32_m1; have := (h_6).1; have := (h_6).2; have := (h_5).1; have := (h_5).2; have := (h_11).1; have := (h_11).2; have := (h_10).1; have := (h_10).2; have := (h_14).1; have := (h_14).2; have := (hz_15).1; have := (hz_15).2; have := (hz_17).1; have := (hz_17).2; have := (hz_19).1; have := (hz_19).2; have := (hz_22).1; have := (hz_22).2; have := (hz_25).1; have := (hz_25).2; have := (hz_28).1; have := (hz_28).2; omega }, (by { rw [← ez_12]; have := i32_0; have := i32_1; have := i32_2; have := i32_m1; have := (h_6).1; have := (h_6).2; have := (h_5).1; have := (h_5).2; have := (h_11).1; have := (h_11).2; have := (h_10).1; have := (h_10).2; have := (h_14).1; have := (h_14).2; have := (hz_15).1; have := (hz_15).2; have := (hz_17).1; have := (hz_17).2; have := (hz_19).1; have := (hz_19).2; have := (hz_22).1; have := (hz_22).2; have := (hz_25).1; have := (hz_25).2; have := (hz_28).1; have := (hz_28).2; omega }), _, (by { rw [← ez_12]; have := i32_0; have := i32_1; have := i32_2; have := i32_m1; have := (h_6).1; have := (h_6).2; have := (h_5).1; have := (h_5).2; have := (h_11).1; have := (h_11).2; have := (h_10).1; have := (h_10).2; have := (h_14).1; have := (h_14).2; have := (hz_15).1; have := (hz_15).2; have := (hz_17).1; have := (hz_17).2; have := (hz_19).1; have := (hz_19).2; have := (hz_22).1; have := (hz_22).2; have := (hz_25).1; have := (hz_25).2; have := (hz_28).1; have := (hz_28).2; omega }), (show gm_29 7 = upd (gm 7) (a : Int32).toNatClampNeg z_28 from ((up_at egm_29).trans (by rw [show gm_26 7 = gm 7 from ((up_ne egm_26 (by decide)).trans ((up_ne egm_23 (by decide)).trans ((up_ne egm_20 (by decide)).trans ((up_ne egm_18 (by decide)).trans rfl))))])))⟩)⟩, by rw [ht]; exact hP, va_K.moved hW.alike hK, hD⟩, hS.F ht⟩) hS.2.2 dX13_constructor_103
      · have h_30 : iv 4 4 z_12 := iv_eq c_13 hz_12 (iv_k (by decide) : iv 4 4 4) (by decide)
        exact hj34 sg_1 (KS_up KS_rf esg_1 (by decide)) hI_sg_1 (Or.inr (by { rw [← ez_12]; have := i32_0; have := i32_1; have := i32_2; have := i32_m1; have := (h_6).1; have := (h_6).2; have := (h_5).1; have := (h_5).2; have := (h_11).1; have := (h_11).2; have := (h_10).1; have := (h_10).2; have := (h_30).1; have := (h_30).2; omega })) _ _ _ hP hD hS (lv_sub hl [0, 1, 2, 3, 4, 5] rfl)

set_option maxHeartbeats 4000000 in
set_option maxRecDepth 100000 in
theorem a_factory2 (l : Launch) (dC : Nat → ClassId) (dI : Nat → Nat → Nat) (h0 : Nat) (ad : Nat → Nat) (cid : Nat → ClassId) (sg : Nat → Int32) (gm : Nat → Nat → Int32) (lg : Nat → Nat → Int64) (a : Int32) (b : Int32) (z : Int32) (f : Int32) (g : Int32) (k : Int32) (n1 : Int32) (n2 : Int32) (hI : MI sg gm) (hvz : iv 0 1 z) : MMi l dC dI yX13_factory wm_X13_factory ({ frames := 2, cells := 0, slots := 0, locals := 43 }) h0 ad cid [.int a, .int b, .int z, .int f, .int g, .int k, .int n1, .int n2] sg gm lg (fun r v => ∃ (sg2 : Nat → Int32) (gm2 : Nat → Nat → Int32) (lg2 : Nat → Nat → Int64), v = (sg2, gm2, lg2) ∧ MI sg2 gm2 ∧ KS [5] sg sg2 ∧ KS [13, 14, 15, 16, 17, 18] gm gm2 ∧ KS [] lg lg2 ∧ (iv 0 1 r) ∧ (ADD9 (0 ≤ a.toInt ∧ a.toInt ≤ 7 ∧ 0 ≤ b.toInt ∧ b.toInt ≤ 25 ∧ 0 ≤ f.toInt ∧ f.toInt ≤ 7 ∧ 0 ≤ g.toInt ∧ g.toInt ≤ 3 ∧ (1 ≤ g.toInt → (0 ≤ k.toInt ∧ k.toInt ≤ 4 ∨ 8 ≤ k.toInt ∧ k.toInt ≤ 15)) ∧ (2 ≤ g.toInt → (0 ≤ n1.toInt ∧ n1.toInt ≤ 4 ∨ 8 ≤ n1.toInt ∧ n1.toInt ≤ 15)) ∧ (3 ≤ g.toInt → (0 ≤ n2.toInt ∧ n2.toInt ≤ 4 ∨ 8 ≤ n2.toInt ∧ n2.toInt ≤ 15))) r a.toNatClampNeg (gm 13) (gm2 13))) := by
  intro sz
  refine Met.ofW (cc := cX13_factory) (maxL := 10) (ret := (some .boolean)) (by decide) rfl ?_
  intro p e s m args below meth c s₁ B hml hv
  obtain ⟨rfl, hsz, hP, hK, hD0⟩ := hv
  have hx := B.exec
  have hb := B.bytes
  have hr := B.returns
  have hts := atoms_spec (ws := wm_X13_factory) B.pre
  have htb := fun (w : Cond) (h : w ∈ tb) => hts w (List.mem_cons_of_mem _ h)
  have hown : s.vm.findClass RX13 = some m.cls := findClass_of_methodNamed B.named
  have hlocks := B.notSynchronized
  subst hsz
  have hD := hD0.self (sz := s.heap.size)
  generalize hAe : va_A (mW h0 ad cid sg gm lg) s.heap.size = A at hD ⊢
  have hA : ∀ q : Nat, s.heap.size ≤ q → A q := fun q h => by rw [← hAe]; exact Or.inr h
  have hS : va_S A s.heap s.heap [] := va_S.rf
  have hl := lv_entry ([.ref h0, .int a, .int b, .int z, .int f, .int g, .int k, .int n1, .int n2]) (n := 10) (Nat.le_of_ble_eq_true rfl)
  rw [lg_entry_eq]
  generalize (lg_sl ([.ref h0, .int a, .int b, .int z, .int f, .int g, .int k, .int n1, .int n2]) ++ List.replicate (10 - (lg_sl ([.ref h0, .int a, .int b, .int z, .int f, .int g, .int k, .int n1, .int n2])).length) Slot.unset).toArray = ls at hl ⊢
  have hl : lv_has ls 10 [(0, .ref h0), (1, .int a), (2, .int b), (3, .int z), (4, .int f), (5, .int g), (6, .int k), (7, .int n1), (8, .int n2)] := hl
  have hj51 : ∀ (sg_j51 : Nat → Int32) (_ : iv 0 1 z) (_ : KS [5] sg sg_j51) (_ : MI sg_j51 gm) (_ : ¬ (0 ≤ a.toInt ∧ a.toInt ≤ 7 ∧ 0 ≤ b.toInt ∧ b.toInt ≤ 25 ∧ 0 ≤ f.toInt ∧ f.toInt ≤ 7 ∧ 0 ≤ g.toInt ∧ g.toInt ≤ 3 ∧ (1 ≤ g.toInt → (0 ≤ k.toInt ∧ k.toInt ≤ 4 ∨ 8 ≤ k.toInt ∧ k.toInt ≤ 15)) ∧ (2 ≤ g.toInt → (0 ≤ n1.toInt ∧ n1.toInt ≤ 4 ∨ 8 ≤ n1.toInt ∧ n1.toInt ≤ 15)) ∧ (3 ≤ g.toInt → (0 ≤ n2.toInt ∧ n2.toInt ≤ 4 ∨ 8 ≤ n2.toInt ∧ n2.toInt ≤ 15))) ∨ 4 ≤ (gm 13 a.toNatClampNeg).toInt) (H : Heap) (locs : List Loc) (ls : Array Slot), va_P (dC, dI) vwCl (mW h0 ad cid sg_j51 gm lg) H → va_D A (mW h0 ad cid sg_j51 gm lg) → va_S A s.heap H locs → lv_has ls 10 [(0, .ref h0), (1, .int a), (2, .int b), (3, .int z), (4, .int f), (5, .int g), (6, .int k), (7, .int n1), (8, .int n2)] → W p l e (headSpec wm_X13_factory ({ frames := 2, cells := 0, slots := 0, locals := 43 })).room s m ([.ref h0, .int a, .int b, .int z, .int f, .int g, .int k, .int n1, .int n2] : List Value).toArray below meth c H locs 0 0 (MQ below (va_Qi (fun r v => ∃ (sg2 : Nat → Int32) (gm2 : Nat → Nat → Int32) (lg2 : Nat → Nat → Int64), v = (sg2, gm2, lg2) ∧ MI sg2 gm2 ∧ KS [5] sg sg2 ∧ KS [13, 14, 15, 16, 17, 18] gm gm2 ∧ KS [] lg lg2 ∧ (iv 0 1 r) ∧ (ADD9 (0 ≤ a.toInt ∧ a.toInt ≤ 7 ∧ 0 ≤ b.toInt ∧ b.toInt ≤ 25 ∧ 0 ≤ f.toInt ∧ f.toInt ≤ 7 ∧ 0 ≤ g.toInt ∧ g.toInt ≤ 3 ∧ (1 ≤ g.toInt → (0 ≤ k.toInt ∧ k.toInt ≤ 4 ∨ 8 ≤ k.toInt ∧ k.toInt ≤ 15)) ∧ (2 ≤ g.toInt → (0 ≤ n1.toInt ∧ n1.toInt ≤ 4 ∨ 8 ≤ n1.toInt ∧ n1.toInt ≤ 15)) ∧ (3 ≤ g.toInt → (0 ≤ n2.toInt ∧ n2.toInt ≤ 4 ∨ 8 ≤ n2.toInt ∧ n2.toInt ≤ 15))) r a.toNatClampNeg (gm 13) (gm2 13))) (MB dC dI h0 ad cid A) A) ([.ref h0, .int a, .int b, .int z, .int f, .int g, .int k, .int n1, .int n2] : List Value).toArray s 0 0 A) (F0 m 51 ls []) := by
    intro sg_j51 hsx3_51 hks_j51 hI_j51 hno H locs ls hP hD hS hl
    refine lv_iconst (v := 0) hx hb dX13_factory_51 (by decide) ?_
    exact W.zret (v := 0) hx hb hr (iv_nb (iv_w (iv_k (by decide) : iv 0 0 0) (by decide))) (fun t ht hW => ⟨⟨0, (sg_j51, gm, lg), rfl, ⟨sg_j51, gm, lg, rfl, hI_j51, (KS_tr (L := [5]) KS_rf hks_j51 (by decide)), KS_rf, KS_rf, (iv_w (iv_k (by decide) : iv 0 0 0) (by decide)), (Or.inr ⟨rfl, hno, (show gm 13 = gm 13 from rfl)⟩)⟩, by rw [ht]; exact hP, va_K.moved hW.alike hK, hD⟩, hS.F ht⟩) hS.2.2 dX13_factory_52
  refine lv_aload_n hx hb dX13_factory_0 rfl (lv_at hl 0 rfl) ?_
  refine lv_iconst (v := 0) hx hb dX13_factory_1 (by decide) ?_
  refine ma_put (x := 0) hx hb htb inX13 hown hK hP hD hS 5 (by decide) (by decide) (htb _ kw_239) rfl rfl rfl dX13_factory_2 (fun sg_1 H locs esg_1 hP hD hS => ?_)
  have hI_sg_1 := MI_put hI esg_1 (iv_k (by decide) : iv 0 0 0) (by decide)
  refine lv_iload_n hx hb dX13_factory_5 rfl (lv_at hl 1 rfl) ?_
  have hPc := hP.sub (ws' := []) [] rfl
  have hDc := hD.sub (ws' := []) [] (by decide) rfl
  have hKc := hK.sub (tys' := []) [] rfl
  have hFc := va_free (wc := []) hD hS hA [] rfl
  refine va_calli (va_runS (As := [.int a]) (rest := []) ⟨hx, hb, hml, hown, htb⟩ (c_X13_isClass l dC dI H.size a) (va_cwS 1 htb (gd_S kw_240 kw_241 kw_5 kw_1388) rfl rfl rfl (by decide +kernel) ⟨Nat.le_of_ble_eq_true rfl, Nat.le_of_ble_eq_true rfl⟩) ⟨fun a U g mk q => by obtain ⟨q0, q1, qP, qK, qD⟩ := q; exact ⟨q0, q1, qP, va_K.moved (u := U) (U := U.calling g mk a) (Vm.Alike.refl U.vm) qK, qD⟩, fun U hU hW => ⟨rfl, by rw [hU], by rw [hU]; exact hPc, va_K.moved hW.alike hKc, hDc.weaken (fun _ _ _ _ => trivial)⟩⟩ rfl rfl hl.1 rfl (lv_room (Nat.le_of_ble_eq_true rfl)) dX13_factory_6 ⟨Nat.zero_le _, Nat.zero_le _⟩) hS (fun q _ h => hFc q h) hFc (fun r_2 u9 t H1 locs ht hvm hw hB hz1 hk1 hS => ?_)
  have hP := ms_kept hP hz1 hk1
  generalize H1 = H at hP hS ⊢
  have fr_2 : r_2 = zCls a := hw
  have hr_2 : iv 0 1 r_2 := iv_of fr_2 (zCls_iv a)
  refine lv_if_eq (tgt := 51) hx hb dX13_factory_9 (by decide) (fun c_3 => ?_) (fun c_3 => ?_)
  · have h_4 : iv 0 0 r_2 := iv_eq c_3 hr_2 (iv_k (by decide) : iv 0 0 0) (by decide)
    exact hj51 sg_1 hvz (KS_up KS_rf esg_1 (by decide)) hI_sg_1 (Or.inl (fun q8 => by { have q2 := zCls_g (a := a); rw [← fr_2] at q2; have w2 : r_2 = 1 ↔ r_2.toInt = 1 := ⟨fun q => by rw [q]; rfl, fun q => Int32.toInt_inj.mp q⟩; have v2 : r_2 = 0 ↔ r_2.toInt = 0 := ⟨fun q => by rw [q]; rfl, fun q => Int32.toInt_inj.mp q⟩; rw [w2, v2] at q2; have := i32_0; have := i32_1; have := i32_2; have := i32_m1; have := (hvz).1; have := (hvz).2; have := (h_4).1; have := (h_4).2; omega })) _ _ _ hP hD hS (lv_sub hl [0, 1, 2, 3, 4, 5, 6, 7, 8] rfl)
  · have h_5 : iv 0 7 a := zCls_t (by rw [← fr_2]; exact c_3)
    have h_6 : iv 1 1 r_2 := iv_neL c_3 hr_2 (by decide)
    refine lv_iload_n hx hb dX13_factory_12 rfl (lv_at hl 2 rfl) ?_
    have hPc := hP.sub (ws' := []) [] rfl
    have hDc := hD.sub (ws' := []) [] (by decide) rfl
    have hKc := hK.sub (tys' := []) [] rfl
    have hFc := va_free (wc := []) hD hS hA [] rfl
    refine va_calli (va_runS (As := [.int b]) (rest := []) ⟨hx, hb, hml, hown, htb⟩ (c_X13_isLetter l dC dI H.size b) (va_cwS 1 htb (gd_S kw_280 kw_281 kw_5 kw_1402) rfl rfl rfl (by decide +kernel) ⟨Nat.le_of_ble_eq_true rfl, Nat.le_of_ble_eq_true rfl⟩) ⟨fun a U g mk q => by obtain ⟨q0, q1, qP, qK, qD⟩ := q; exact ⟨q0, q1, qP, va_K.moved (u := U) (U := U.calling g mk a) (Vm.Alike.refl U.vm) qK, qD⟩, fun U hU hW => ⟨rfl, by rw [hU], by rw [hU]; exact hPc, va_K.moved hW.alike hKc, hDc.weaken (fun _ _ _ _ => trivial)⟩⟩ rfl rfl hl.1 rfl (lv_room (Nat.le_of_ble_eq_true rfl)) dX13_factory_13 ⟨Nat.zero_le _, Nat.zero_le _⟩) hS (fun q _ h => hFc q h) hFc (fun r_7 u9 t H1 locs ht hvm hw hB hz1 hk1 hS => ?_)
    have hP := ms_kept hP hz1 hk1
    generalize H1 = H at hP hS ⊢
    have fr_7 : r_7 = zLet b := hw
    have hr_7 : iv 0 1 r_7 := iv_of fr_7 (zLet_iv b)
    refine lv_if_eq (tgt := 51) hx hb dX13_factory_16 (by decide) (fun c_8 => ?_) (fun c_8 => ?_)
    · have h_9 : iv 0 0 r_7 := iv_eq c_8 hr_7 (iv_k (by decide) : iv 0 0 0) (by decide)
      exact hj51 sg_1 hvz (KS_up KS_rf esg_1 (by decide)) hI_sg_1 (Or.inl (fun q8 => by { have q2 := zCls_g (a := a); rw [← fr_2] at q2; have q7 := zLet_f (a := b); rw [← fr_7] at q7; have w2 : r_2 = 1 ↔ r_2.toInt = 1 := ⟨fun q => by rw [q]; rfl, fun q => Int32.toInt_inj.mp q⟩; have v2 : r_2 = 0 ↔ r_2.toInt = 0 := ⟨fun q => by rw [q]; rfl, fun q => Int32.toInt_inj.mp q⟩; rw [w2, v2] at q2; have w7 : r_7 = 1 ↔ r_7.toInt = 1 := ⟨fun q => by rw [q]; rfl, fun q => Int32.toInt_inj.mp q⟩; have v7 : r_7 = 0 ↔ r_7.toInt = 0 := ⟨fun q => by rw [q]; rfl, fun q => Int32.toInt_inj.mp q⟩; rw [w7, v7] at q7; have := i32_0; have := i32_1; have := i32_2; have := i32_m1; have := (hvz).1; have := (hvz).2; have := (h_6).1; have := (h_6).2; have := (h_5).1; have := (h_5).2; have := (h_9).1; have := (h_9).2; omega })) _ _ _ hP hD hS (lv_sub hl [0, 1, 2, 3, 4, 5, 6, 7, 8] rfl)
    · have h_10 : iv 0 25 b := zLet_t (by rw [← fr_7]; exact c_8)
      have h_11 : iv 1 1 r_7 := iv_neL c_8 hr_7 (by decide)
      refine lv_iload hx hb dX13_factory_19 (lv_at hl 4 rfl) ?_
      have hPc := hP.sub (ws' := []) [] rfl
      have hDc := hD.sub (ws' := []) [] (by decide) rfl
      have hKc := hK.sub (tys' := []) [] rfl
      have hFc := va_free (wc := []) hD hS hA [] rfl
      refine va_calli (va_runS (As := [.int f]) (rest := []) ⟨hx, hb, hml, hown, htb⟩ (c_X13_isClass l dC dI H.size f) (va_cwS 1 htb (gd_S kw_240 kw_241 kw_5 kw_1388) rfl rfl rfl (by decide +kernel) ⟨Nat.le_of_ble_eq_true rfl, Nat.le_of_ble_eq_true rfl⟩) ⟨fun a U g mk q => by obtain ⟨q0, q1, qP, qK, qD⟩ := q; exact ⟨q0, q1, qP, va_K.moved (u := U) (U := U.calling g mk a) (Vm.Alike.refl U.vm) qK, qD⟩, fun U hU hW => ⟨rfl, by rw [hU], by rw [hU]; exact hPc, va_K.moved hW.alike hKc, hDc.weaken (fun _ _ _ _ => trivial)⟩⟩ rfl rfl hl.1 rfl (lv_room (Nat.le_of_ble_eq_true rfl)) dX13_factory_21 ⟨Nat.zero_le _, Nat.zero_le _⟩) hS (fun q _ h => hFc q h) hFc (fun r_12 u9 t H1 locs ht hvm hw hB hz1 hk1 hS => ?_)
      have hP := ms_kept hP hz1 hk1
      generalize H1 = H at hP hS ⊢
      have fr_12 : r_12 = zCls f := hw
      have hr_12 : iv 0 1 r_12 := iv_of fr_12 (zCls_iv f)
      refine lv_if_eq (tgt := 51) hx hb dX13_factory_24 (by decide) (fun c_13 => ?_) (fun c_13 => ?_)
      · have h_14 : iv 0 0 r_12 := iv_eq c_13 hr_12 (iv_k (by decide) : iv 0 0 0) (by decide)
        exact hj51 sg_1 hvz (KS_up KS_rf esg_1 (by decide)) hI_sg_1 (Or.inl (fun q8 => by { have q2 := zCls_g (a := a); rw [← fr_2] at q2; have q7 := zLet_f (a := b); rw [← fr_7] at q7; have q12 := zCls_g (a := f); rw [← fr_12] at q12; have w12 : r_12 = 1 ↔ r_12.toInt = 1 := ⟨fun q => by rw [q]; rfl, fun q => Int32.toInt_inj.mp q⟩; have v12 : r_12 = 0 ↔ r_12.toInt = 0 := ⟨fun q => by rw [q]; rfl, fun q => Int32.toInt_inj.mp q⟩; rw [w12, v12] at q12; have w2 : r_2 = 1 ↔ r_2.toInt = 1 := ⟨fun q => by rw [q]; rfl, fun q => Int32.toInt_inj.mp q⟩; have v2 : r_2 = 0 ↔ r_2.toInt = 0 := ⟨fun q => by rw [q]; rfl, fun q => Int32.toInt_inj.mp q⟩; rw [w2, v2] at q2; have w7 : r_7 = 1 ↔ r_7.toInt = 1 := ⟨fun q => by rw [q]; rfl, fun q => Int32.toInt_inj.mp q⟩; have v7 : r_7 = 0 ↔ r_7.toInt = 0 := ⟨fun q => by rw [q]; rfl, fun q => Int32.toInt_inj.mp q⟩; rw [w7, v7] at q7; have := i32_0; have := i32_1; have := i32_2; have := i32_m1; have := (hvz).1; have := (hvz).2; have := (h_6).1; have := (h_6).2; have := (h_5).1; have := (h_5).2; have := (h_11).1; have := (h_11).2; have := (h_10).1; have := (h_10).2; have := (h_14).1; have := (h_14).2; omega })) _ _ _ hP hD hS (lv_sub hl [0, 1, 2, 3, 4, 5, 6, 7, 8] rfl)
      · have h_15 : iv 0 7 f := zCls_t (by rw [← fr_12]; exact c_13)
        have h_16 : iv 1 1 r_12 := iv_neL c_13 hr_12 (by decide)
        refine lv_iload hx hb dX13_factory_27 (lv_at hl 5 rfl) ?_
        refine lv_iload hx hb dX13_factory_29 (lv_at hl 6 rfl) ?_
        refine lv_iload hx hb dX13_factory_31 (lv_at hl 7 rfl) ?_
        refine lv_iload hx hb dX13_factory_33 (lv_at hl 8 rfl) ?_
        have hPc := hP.sub (ws' := []) [] rfl
        have hDc := hD.sub (ws' := []) [] (by decide) rfl
        have hKc := hK.sub (tys' := []) [] rfl
        have hFc := va_free (wc := []) hD hS hA [] rfl
        refine va_calli (va_runS (As := [.int g, .int k, .int n1, .int n2]) (rest := []) ⟨hx, hb, hml, hown, htb⟩ (c_X13_areTypes l dC dI H.size g k n1 n2) (va_cwS 4 htb (gd_S kw_265 kw_266 kw_5 kw_1396) rfl rfl rfl (by decide +kernel) ⟨Nat.le_of_ble_eq_true rfl, Nat.le_of_ble_eq_true rfl⟩) ⟨fun a U g mk q => by obtain ⟨q0, q1, qP, qK, qD⟩ := q; exact ⟨q0, q1, qP, va_K.moved (u := U) (U := U.calling g mk a) (Vm.Alike.refl U.vm) qK, qD⟩, fun U hU hW => ⟨rfl, by rw [hU], by rw [hU]; exact hPc, va_K.moved hW.alike hKc, hDc.weaken (fun _ _ _ _ => trivial)⟩⟩ rfl rfl hl.1 rfl (lv_room (Nat.le_of_ble_eq_true rfl)) dX13_factory_35 ⟨Nat.zero_le _, Nat.zero_le _⟩) hS (fun q _ h => hFc q h) hFc (fun r_17 u9 t H1 locs ht hvm hw hB hz1 hk1 hS => ?_)
        have hP := ms_kept hP hz1 hk1
        generalize H1 = H at hP hS ⊢
        have fr_17 : r_17 = zTys g k n1 n2 := hw
        have hr_17 : iv 0 1 r_17 := iv_of fr_17 (zTys_iv g k n1 n2)
        refine lv_if_eq (tgt := 51) hx hb dX13_factory_38 (by decide) (fun c_18 => ?_) (fun c_18 => ?_)
        · have h_19 : iv 0 0 r_17 := iv_eq c_18 hr_17 (iv_k (by decide) : iv 0 0 0) (by decide)
          exact hj51 sg_1 hvz (KS_up KS_rf esg_1 (by decide)) hI_sg_1 (Or.inl (fun q8 => by { have q2 := zCls_g (a := a); rw [← fr_2] at q2; have q7 := zLet_f (a := b); rw [← fr_7] at q7; have q12 := zCls_g (a := f); rw [← fr_12] at q12; have q17 := zTys_f (n := g) (a := k) (b := n1) (c := n2); rw [← fr_17] at q17; have w12 : r_12 = 1 ↔ r_12.toInt = 1 := ⟨fun q => by rw [q]; rfl, fun q => Int32.toInt_inj.mp q⟩; have v12 : r_12 = 0 ↔ r_12.toInt = 0 := ⟨fun q => by rw [q]; rfl, fun q => Int32.toInt_inj.mp q⟩; rw [w12, v12] at q12; have w17 : r_17 = 1 ↔ r_17.toInt = 1 := ⟨fun q => by rw [q]; rfl, fun q => Int32.toInt_inj.mp q⟩; have v17 : r_17 = 0 ↔ r_17.toInt = 0 := ⟨fun q => by rw [q]; rfl, fun q => Int32.toInt_inj.mp q⟩; rw [w17, v17] at q17; have w2 : r_2 = 1 ↔ r_2.toInt = 1 := ⟨fun q => by rw [q]; rfl, fun q => Int32.toInt_inj.mp q⟩; have v2 : r_2 = 0 ↔ r_2.toInt = 0 := ⟨fun q => by rw [q]; rfl, fun q => Int32.toInt_inj.mp q⟩; rw [w2, v2] at q2; have w7 : r_7 = 1 ↔ r_7.toInt = 1 := ⟨fun q => by rw [q]; rfl, fun q => Int32.toInt_inj.mp q⟩; have v7 : r_7 = 0 ↔ r_7.toInt = 0 := ⟨fun q => by rw [q]; rfl, fun q => Int32.toInt_inj.mp q⟩; rw [w7, v7] at q7; have := i32_0; have := i32_1; have := i32_2; have := i32_m1; have := (hvz).1; have := (hvz).2; have := (h_6).1; have := (h_6).2; have := (h_5).1; have := (h_5).2; have := (h_11).1; have := (h_11).2; have := (h_10).1; have := (h_10).2; have := (h_16).1; have := (h_16).2; have := (h_15).1; have := (h_15).2; have := (h_19).1; have := (h_19).2; omega })) _ _ _ hP hD hS (lv_sub hl [0, 1, 2, 3, 4, 5, 6, 7, 8] rfl)
        · have h_20 : iv 0 3 g := zTys_t (by rw [← fr_17]; exact c_18)
          have h_21 : iv 1 1 r_17 := iv_neL c_18 hr_17 (by decide)
          refine lv_aload_n hx hb dX13_factory_41 rfl (lv_at hl 0 rfl) ?_
          refine mr_get (v := .ref (ad 13)) hx hb htb inX13 hown hK hP 13 (by decide) (htb _ kw_172) rfl dX13_factory_42 ?_
          refine lv_iload_n hx hb dX13_factory_45 rfl (lv_at hl 1 rfl) ?_
          refine mr_iald hx hb hK hP 12 (k := 13) rfl rfl rfl (show vp_in a 8 from (iv_in h_5 (by decide))) dX13_factory_46 ?_
          refine lv_topi (fun z_22 ez_22 => ?_)
          have hz_22 : iv 0 4 z_22 := iv_of ez_22 (MI_a hI_sg_1 13 h_5 (by decide))
          refine lv_iconst (v := 4) hx hb dX13_factory_47 (by decide) ?_
          refine lv_icmp_ne (tgt := 53) hx hb dX13_factory_48 (by decide) (fun c_23 => ?_) (fun c_23 => ?_)
          · have h_24 : iv 0 3 z_22 := iv_neH c_23 hz_22 (by decide)
            refine lv_iconst (v := 4) hx hb dX13_factory_53 (by decide) ?_
            refine lv_iload_n hx hb dX13_factory_54 rfl (lv_at hl 1 rfl) ?_
            refine lv_imul hx hb dX13_factory_55 ?_
            refine lv_topi (fun z_25 ez_25 => ?_)
            have hz_25 : iv 0 28 z_25 := iv_of ez_25 (iv_mul (iv_k (by decide) : iv 4 4 4) h_5 (by decide))
            have tz_25 : z_25.toInt = 4 * (a : Int32).toInt := by rw [ez_25]; exact iv_mulE (iv_k (by decide) : iv 4 4 4) h_5 (by decide)
            refine lv_aload_n hx hb dX13_factory_56 rfl (lv_at hl 0 rfl) ?_
            refine mr_get (v := .ref (ad 13)) hx hb htb inX13 hown hK hP 13 (by decide) (htb _ kw_172) rfl dX13_factory_57 ?_
            refine lv_iload_n hx hb dX13_factory_60 rfl (lv_at hl 1 rfl) ?_
            refine mr_iald hx hb hK hP 12 (k := 13) rfl rfl rfl (show vp_in a 8 from (iv_in h_5 (by decide))) dX13_factory_61 ?_
            refine lv_topi (fun z_26 ez_26 => ?_)
            obtain rfl : z_22 = z_26 := ez_22.trans ez_26.symm
            refine lv_iadd hx hb dX13_factory_62 ?_
            refine lv_topi (fun z_27 ez_27 => ?_)
            have hz_27 : iv 0 31 z_27 := iv_of ez_27 (iv_add hz_25 h_24 (by decide))
            have tz_27 : z_27.toInt = (z_25 : Int32).toInt + (z_22 : Int32).toInt := by rw [ez_27]; exact iv_addE hz_25 h_24 (by decide)
            refine lv_istore (lv' := [(9, .int z_27), (0, .ref h0), (1, .int a), (2, .int b), (3, .int z), (4, .int f), (5, .int g), (6, .int k), (7, .int n1), (8, .int n2)]) hx hb dX13_factory_63 hl (by decide) rfl (fun ls hl => ?_)
            refine lv_aload_n hx hb dX13_factory_65 rfl (lv_at hl 1 rfl) ?_
            refine mr_get (v := .ref (ad 14)) hx hb htb inX13 hown hK hP 14 (by decide) (htb _ kw_173) rfl dX13_factory_66 ?_
            refine lv_iload hx hb dX13_factory_69 (lv_at hl 0 rfl) ?_
            refine lv_iload_n hx hb dX13_factory_71 rfl (lv_at hl 3 rfl) ?_
            refine ma_iast (x := b) hx hb hK hP hD hS 13 (k := 14) rfl rfl rfl (show vp_in z_27 32 from (iv_in hz_27 (by decide))) dX13_factory_72 (fun gm_28 H locs egm_28 hP hD hS => ?_)
            have hI_gm_28 := MI_st hI_sg_1 egm_28 h_10 (by decide)
            refine lv_aload_n hx hb dX13_factory_73 rfl (lv_at hl 1 rfl) ?_
            refine mr_get (v := .ref (ad 18)) hx hb htb inX13 hown hK hP 18 (by decide) (htb _ kw_178) rfl dX13_factory_74 ?_
            refine lv_iload hx hb dX13_factory_77 (lv_at hl 0 rfl) ?_
            refine lv_iload_n hx hb dX13_factory_79 rfl (lv_at hl 4 rfl) ?_
            refine ma_zast (x := z) hx hb hK hP hD hS 17 (k := 18) rfl rfl rfl (show vp_in z_27 32 from (iv_in hz_27 (by decide))) dX13_factory_80 (fun gm_29 H locs egm_29 hP hD hS => ?_)
            have hI_gm_29 := MI_st hI_gm_28 egm_29 (iv_of (iv_vb hvz) hvz) (by decide)
            refine lv_aload_n hx hb dX13_factory_81 rfl (lv_at hl 1 rfl) ?_
            refine mr_get (v := .ref (ad 15)) hx hb htb inX13 hown hK hP 15 (by decide) (htb _ kw_174) rfl dX13_factory_82 ?_
            refine lv_iload hx hb dX13_factory_85 (lv_at hl 0 rfl) ?_
            refine lv_iload hx hb dX13_factory_87 (lv_at hl 5 rfl) ?_
            refine ma_iast (x := f) hx hb hK hP hD hS 14 (k := 15) rfl rfl rfl (show vp_in z_27 32 from (iv_in hz_27 (by decide))) dX13_factory_89 (fun gm_30 H locs egm_30 hP hD hS => ?_)
            have hI_gm_30 := MI_st hI_gm_29 egm_30 h_15 (by decide)
            refine lv_aload_n hx hb dX13_factory_90 rfl (lv_at hl 1 rfl) ?_
            refine mr_get (v := .ref (ad 16)) hx hb htb inX13 hown hK hP 16 (by decide) (htb _ kw_175) rfl dX13_factory_91 ?_
            refine lv_iload hx hb dX13_factory_94 (lv_at hl 0 rfl) ?_
            refine lv_iload hx hb dX13_factory_96 (lv_at hl 6 rfl) ?_
            refine ma_iast (x := g) hx hb hK hP hD hS 15 (k := 16) rfl rfl rfl (show vp_in z_27 32 from (iv_in hz_27 (by decide))) dX13_factory_98 (fun gm_31 H locs egm_31 hP hD hS => ?_)
            have hI_gm_31 := MI_st hI_gm_30 egm_31 h_20 (by decide)
            refine lv_aload_n hx hb dX13_factory_99 rfl (lv_at hl 1 rfl) ?_
            refine mr_get (v := .ref (ad 17)) hx hb htb inX13 hown hK hP 17 (by decide) (htb _ kw_176) rfl dX13_factory_100 ?_
            refine lv_iconst (v := 3) hx hb dX13_factory_103 (by decide) ?_
            refine lv_iload hx hb dX13_factory_104 (lv_at hl 0 rfl) ?_
            refine lv_imul hx hb dX13_factory_106 ?_
            refine lv_topi (fun z_32 ez_32 => ?_)
            have hz_32 : iv 0 93 z_32 := iv_of ez_32 (iv_mul (iv_k (by decide) : iv 3 3 3) hz_27 (by decide))
            have tz_32 : z_32.toInt = 3 * (z_27 : Int32).toInt := by rw [ez_32]; exact iv_mulE (iv_k (by decide) : iv 3 3 3) hz_27 (by decide)
            refine lv_iload hx hb dX13_factory_107 (lv_at hl 7 rfl) ?_
            refine ma_iast (x := k) hx hb hK hP hD hS 16 (k := 17) rfl rfl rfl (show vp_in z_32 96 from (iv_in hz_32 (by decide))) dX13_factory_109 (fun gm_33 H locs egm_33 hP hD hS => ?_)
            have hI_gm_33 := MI_st hI_gm_31 egm_33 (iv_all k) (by decide)
            refine lv_aload_n hx hb dX13_factory_110 rfl (lv_at hl 1 rfl) ?_
            refine mr_get (v := .ref (ad 17)) hx hb htb inX13 hown hK hP 17 (by decide) (htb _ kw_176) rfl dX13_factory_111 ?_
            refine lv_iconst (v := 3) hx hb dX13_factory_114 (by decide) ?_
            refine lv_iload hx hb dX13_factory_115 (lv_at hl 0 rfl) ?_
            refine lv_imul hx hb dX13_factory_117 ?_
            refine lv_topi (fun z_34 ez_34 => ?_)
            obtain rfl : z_32 = z_34 := ez_32.trans ez_34.symm
            refine lv_iconst (v := 1) hx hb dX13_factory_118 (by decide) ?_
            refine lv_iadd hx hb dX13_factory_119 ?_
            refine lv_topi (fun z_35 ez_35 => ?_)
            have hz_35 : iv 1 94 z_35 := iv_of ez_35 (iv_add hz_32 (iv_k (by decide) : iv 1 1 1) (by decide))
            have tz_35 : z_35.toInt = (z_32 : Int32).toInt + 1 := by rw [ez_35]; exact iv_addE hz_32 (iv_k (by decide) : iv 1 1 1) (by decide)
            refine lv_iload hx hb dX13_factory_120 (lv_at hl 8 rfl) ?_
            refine ma_iast (x := n1) hx hb hK hP hD hS 16 (k := 17) rfl rfl rfl (show vp_in z_35 96 from (iv_in hz_35 (by decide))) dX13_factory_122 (fun gm_36 H locs egm_36 hP hD hS => ?_)
            have hI_gm_36 := MI_st hI_gm_33 egm_36 (iv_all n1) (by decide)
            refine lv_aload_n hx hb dX13_factory_123 rfl (lv_at hl 1 rfl) ?_
            refine mr_get (v := .ref (ad 17)) hx hb htb inX13 hown hK hP 17 (by decide) (htb _ kw_176) rfl dX13_factory_124 ?_
            refine lv_iconst (v := 3) hx hb dX13_factory_127 (by decide) ?_
            refine lv_iload hx hb dX13_factory_128 (lv_at hl 0 rfl) ?_
            refine lv_imul hx hb dX13_factory_130 ?_
            refine lv_topi (fun z_37 ez_37 => ?_)
            obtain rfl : z_32 = z_37 := ez_32.trans ez_37.symm
            refine lv_iconst (v := 2) hx hb dX13_factory_131 (by decide) ?_
            refine lv_iadd hx hb dX13_factory_132 ?_
            refine lv_topi (fun z_38 ez_38 => ?_)
            have hz_38 : iv 2 95 z_38 := iv_of ez_38 (iv_add hz_32 (iv_k (by decide) : iv 2 2 2) (by decide))
            have tz_38 : z_38.toInt = (z_32 : Int32).toInt + 2 := by rw [ez_38]; exact iv_addE hz_32 (iv_k (by decide) : iv 2 2 2) (by decide)
            refine lv_iload hx hb dX13_factory_133 (lv_at hl 9 rfl) ?_
            refine ma_iast (x := n2) hx hb hK hP hD hS 16 (k := 17) rfl rfl rfl (show vp_in z_38 96 from (iv_in hz_38 (by decide))) dX13_factory_135 (fun gm_39 H locs egm_39 hP hD hS => ?_)
            have hI_gm_39 := MI_st hI_gm_36 egm_39 (iv_all n2) (by decide)
            refine lv_aload_n hx hb dX13_factory_136 rfl (lv_at hl 1 rfl) ?_
            refine mr_get (v := .ref (ad 13)) hx hb htb inX13 hown hK hP 13 (by decide) (htb _ kw_172) rfl dX13_factory_137 ?_
            refine lv_iload_n hx hb dX13_factory_140 rfl (lv_at hl 2 rfl) ?_
            refine lv_dup2_11 hx hb dX13_factory_141 rfl rfl ?_
            refine mr_iald hx hb hK hP 12 (k := 13) rfl rfl rfl (show vp_in a 8 from (iv_in h_5 (by decide))) dX13_factory_142 ?_
            refine lv_topi (fun z_40 ez_40 => ?_)
            obtain rfl : z_22 = z_40 := ez_22.trans (ez_40.trans (congrFun (Eq.trans (Eq.trans (Eq.trans (Eq.trans (Eq.trans (Eq.trans (up_ne egm_39 (by decide)) (up_ne egm_36 (by decide))) (up_ne egm_33 (by decide))) (up_ne egm_31 (by decide))) (up_ne egm_30 (by decide))) (up_ne egm_29 (by decide))) (up_ne egm_28 (by decide))) _)).symm
            refine lv_iconst (v := 1) hx hb dX13_factory_143 (by decide) ?_
            refine lv_iadd hx hb dX13_factory_144 ?_
            refine lv_topi (fun z_41 ez_41 => ?_)
            have hz_41 : iv 1 4 z_41 := iv_of ez_41 (iv_add h_24 (iv_k (by decide) : iv 1 1 1) (by decide))
            have tz_41 : z_41.toInt = (z_22 : Int32).toInt + 1 := by rw [ez_41]; exact iv_addE h_24 (iv_k (by decide) : iv 1 1 1) (by decide)
            refine ma_iast (x := z_41) hx hb hK hP hD hS 12 (k := 13) rfl rfl rfl (show vp_in a 8 from (iv_in h_5 (by decide))) dX13_factory_145 (fun gm_42 H locs egm_42 hP hD hS => ?_)
            have hI_gm_42 := MI_st hI_gm_39 egm_42 hz_41 (by decide)
            refine lv_iconst (v := 1) hx hb dX13_factory_146 (by decide) ?_
            exact W.zret (v := 1) hx hb hr (iv_nb (iv_w (iv_k (by decide) : iv 1 1 1) (by decide))) (fun t ht hW => ⟨⟨1, (sg_1, gm_42, lg), rfl, ⟨sg_1, gm_42, lg, rfl, hI_gm_42, (KS_up KS_rf esg_1 (by decide)), (KS_up (KS_up (KS_up (KS_up (KS_up (KS_up (KS_up (KS_up KS_rf egm_28 (by decide)) egm_29 (by decide)) egm_30 (by decide)) egm_31 (by decide)) egm_33 (by decide)) egm_36 (by decide)) egm_39 (by decide)) egm_42 (by decide)), KS_rf, (iv_w (iv_k (by decide) : iv 1 1 1) (by decide)), (Or.inl ⟨rfl, by { have q2 := zCls_g (a := a); rw [← fr_2] at q2; have q7 := zLet_f (a := b); rw [← fr_7] at q7; have q12 := zCls_g (a := f); rw [← fr_12] at q12; have q17 := zTys_f (n := g) (a := k) (b := n1) (c := n2); rw [← fr_17] at q17; have w12 : r_12 = 1 ↔ r_12.toInt = 1 := ⟨fun q => by rw [q]; rfl, fun q => Int32.toInt_inj.mp q⟩; have v12 : r_12 = 0 ↔ r_12.toInt = 0 := ⟨fun q => by rw [q]; rfl, fun q => Int32.toInt_inj.mp q⟩; rw [w12, v12] at q12; have w17 : r_17 = 1 ↔ r_17.toInt = 1 := ⟨fun q => by rw [q]; rfl, fun q => Int32.toInt_inj.mp q⟩; have v17 : r_17 = 0 ↔ r_17.toInt = 0 := ⟨fun q => by rw [q]; rfl, fun q => Int32.toInt_inj.mp q⟩; rw [w17, v17] at q17; have w2 : r_2 = 1 ↔ r_2.toInt = 1 := ⟨fun q => by rw [q]; rfl, fun q => Int32.toInt_inj.mp q⟩; have v2 : r_2 = 0 ↔ r_2.toInt = 0 := ⟨fun q => by rw [q]; rfl, fun q => Int32.toInt_inj.mp q⟩; rw [w2, v2] at q2; have w7 : r_7 = 1 ↔ r_7.toInt = 1 := ⟨fun q => by rw [q]; rfl, fun q => Int32.toInt_inj.mp q⟩; have v7 : r_7 = 0 ↔ r_7.toInt = 0 := ⟨fun q => by rw [q]; rfl, fun q => Int32.toInt_inj.mp q⟩; rw [w7, v7] at q7; have := i32_0; have := i32_1; have := i32_2; have := i32_m1; have := (hvz).1; have := (hvz).2; have := (h_6).1; have := (h_6).2; have := (h_5).1; have := (h_5).2; have := (h_11).1; have := (h_11).2; have := (h_10).1; have := (h_10).2; have := (h_16).1; have := (h_16).2; have := (h_15).1; have := (h_15).2; have := (h_21).1; have := (h_21).2; have := (h_20).1; have := (h_20).2; have := (h_24).1; have := (h_24).2; have := (hz_25).1; have := (hz_25).2; have := (hz_27).1; have := (hz_27).2; have := (hz_32).1; have := (hz_32).2; have := (hz_35).1; have := (hz_35).2; have := (hz_38).1; have := (hz_38).2; have := (hz_41).1; have := (hz_41).2; omega }, (by { rw [← ez_22]; have := i32_0; have := i32_1; have := i32_2; have := i32_m1; have := (hvz).1; have := (hvz).2; have := (h_6).1; have := (h_6).2; have := (h_5).1; have := (h_5).2; have := (h_11).1; have := (h_11).2; have := (h_10).1; have := (h_10).2; have := (h_16).1; have := (h_16).2; have := (h_15).1; have := (h_15).2; have := (h_21).1; have := (h_21).2; have := (h_20).1; have := (h_20).2; have := (h_24).1; have := (h_24).2; have := (hz_25).1; have := (hz_25).2; have := (hz_27).1; have := (hz_27).2; have := (hz_32).1; have := (hz_32).2; have := (hz_35).1; have := (hz_35).2; have := (hz_38).1; have := (hz_38).2; have := (hz_41).1; have := (hz_41).2; omega }), _, (by { rw [← ez_22]; have := i32_0; have := i32_1; have := i32_2; have := i32_m1; have := (hvz).1; have := (hvz).2; have := (h_6).1; have := (h_6).2; have := (h_5).1; have := (h_5).2; have := (h_11).1; have := (h_11).2; have := (h_10).1; have := (h_10).2; have := (h_16).1; have := (h_16).2; have := (h_15).1; have := (h_15).2; have := (h_21).1; have := (h_21).2; have := (h_20).1; have := (h_20).2; have := (h_24).1; have := (h_24).2; have := (hz_25).1; have := (hz_25).2; have := (hz_27).1; have := (hz_27).2; have := (hz_32).1; have := (hz_32).2; have := (hz_35).1; have := (hz_35).2; have := (hz_38).1; have := (hz_38).2; have := (hz_41).1; have := (hz_41).2; omega }), (show gm_42 13 = upd (gm 13) (a : Int32).toNatClampNeg z_41 from ((up_at egm_42).trans (by rw [show gm_39 13 = gm 13 from ((up_ne egm_39 (by decide)).trans ((up_ne egm_36 (by decide)).trans ((up_ne egm_33 (by decide)).trans ((up_ne egm_31 (by decide)).trans ((up_ne egm_30 (by decide)).trans ((up_ne egm_29 (by decide)).trans ((up_ne egm_28 (by decide)).trans rfl)))))))])))⟩)⟩, by rw [ht]; exact hP, va_K.moved hW.alike hK, hD⟩, hS.F ht⟩) hS.2.2 dX13_factory_147
          · have h_43 : iv 4 4 z_22 := iv_eq c_23 hz_22 (iv_k (by decide) : iv 4 4 4) (by decide)
            exact hj51 sg_1 hvz (KS_up KS_rf esg_1 (by decide)) hI_sg_1 (Or.inr (by { rw [← ez_22]; have := i32_0; have := i32_1; have := i32_2; have := i32_m1; have := (hvz).1; have := (hvz).2; have := (h_6).1; have := (h_6).2; have := (h_5).1; have := (h_5).2; have := (h_11).1; have := (h_11).2; have := (h_10).1; have := (h_10).2; have := (h_16).1; have := (h_16).2; have := (h_15).1; have := (h_15).2; have := (h_21).1; have := (h_21).2; have := (h_20).1; have := (h_20).2; have := (h_43).1; have := (h_43).2; omega })) _ _ _ hP hD hS (lv_sub hl [0, 1, 2, 3, 4, 5, 6, 7, 8] rfl)
