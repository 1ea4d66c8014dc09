theorem PR_u {gm gm2 : Nat → Nat → Int32} {a b : Int32} (h : PR gm) (h0 : 0 ≤ a.toInt) (e : gm2 6 = upd (gm 6) a.toNatClampNeg b) (hb : b.toInt < a.toInt) : PR gm2 := fun k hk => by
  rw [e]
  by_cases e9 : k = a.toNatClampNeg
  · rw [e9, upd_at]; have k1 : a.toNatClampNeg = a.toInt.toNat := rfl; omega
  · rw [upd_ne e9]; exact h k hk
theorem PR_k {gm gm2 : Nat → Nat → Int32} (h : PR gm) (e : gm2 6 = gm 6) : PR gm2 := by unfold PR at *; rw [e]; exact h
theorem zCls_f {a : Int32} (h : zCls a = 0) : a.toInt < 0 ∨ 7 < a.toInt := by
  by_cases h1 : a.toInt < 0
  · exact Or.inl h1
  by_cases h2 : 7 < a.toInt
  · exact Or.inr h2
  exfalso
  have key : ∀ n : Fin 8, zCls (nI n.val) = 1 := by decide +kernel
  have e1 : a = nI a.toInt.toNat := Int32.toInt_inj.mp (by rw [nI_toInt (by omega)]; omega)
  have := key ⟨a.toInt.toNat, by omega⟩
  rw [← e1] at this
  rw [this] at h
  exact absurd h (by decide)

set_option maxHeartbeats 4000000 in
set_option maxRecDepth 100000 in
theorem a_declare2 (l : Launch) (dC : Nat → ClassId) (dI : Nat → Nat → Nat) (h0 : Nat) (ad : Nat → Nat) (cid : Nat → ClassId) (sg : Nat → Int32) (gm : Nat → Nat → Int32) (lg : Nat → Nat → Int64) (a : Int32) (b : Int32) (hI : MI sg gm) (hPR : PR gm) : MMi l dC dI yX13_declare wm_X13_declare ({ frames := 1, cells := 0, slots := 0, locals := 20 }) h0 ad cid [.int a, .int b] sg gm lg (fun r v => ∃ (sg2 : Nat → Int32) (gm2 : Nat → Nat → Int32) (lg2 : Nat → Nat → Int64), v = (sg2, gm2, lg2) ∧ MI sg2 gm2 ∧ KS [5] sg sg2 ∧ KS [6, 7, 10, 13] gm gm2 ∧ KS [] lg lg2 ∧ (iv 0 1 r) ∧ (r.toInt = 1 ∧ (0 ≤ a.toInt ∧ a.toInt ≤ 7 ∧ -1 ≤ b.toInt ∧ b.toInt < a.toInt) ∨ r.toInt = 0 ∧ ¬ (0 ≤ a.toInt ∧ a.toInt ≤ 7 ∧ -1 ≤ b.toInt ∧ b.toInt < a.toInt)) ∧ (PR gm2)) := by
  intro sz
  refine Met.ofW (cc := cX13_declare) (maxL := 3) (ret := (some .boolean)) (by decide) rfl ?_
  intro p e s m args below meth c s₁ B hml hv
  obtain ⟨rfl, hsz, hP, hK, hD0⟩ := hv
  have hx := B.exec
  have hb := B.bytes
  have hr := B.returns
  have hts := atoms_spec (ws := wm_X13_declare) B.pre
  have htb := fun (w : Cond) (h : w ∈ tb) => hts w (List.mem_cons_of_mem _ h)
  have hown : s.vm.findClass RX13 = some m.cls := findClass_of_methodNamed B.named
  have hlocks := B.notSynchronized
  subst hsz
  have hD := hD0.self (sz := s.heap.size)
  generalize hAe : va_A (mW h0 ad cid sg gm lg) s.heap.size = A at hD ⊢
  have hA : ∀ q : Nat, s.heap.size ≤ q → A q := fun q h => by rw [← hAe]; exact Or.inr h
  have hS : va_S A s.heap s.heap [] := va_S.rf
  have hl := lv_entry ([.ref h0, .int a, .int b]) (n := 3) (Nat.le_of_ble_eq_true rfl)
  rw [lg_entry_eq]
  generalize (lg_sl ([.ref h0, .int a, .int b]) ++ List.replicate (3 - (lg_sl ([.ref h0, .int a, .int b])).length) Slot.unset).toArray = ls at hl ⊢
  have hl : lv_has ls 3 [(0, .ref h0), (1, .int a), (2, .int b)] := hl
  have hj22 : ∀ (sg_j22 : Nat → Int32) (_ : KS [5] sg sg_j22) (_ : MI sg_j22 gm) (_ : ¬ (0 ≤ a.toInt ∧ a.toInt ≤ 7 ∧ -1 ≤ b.toInt ∧ b.toInt < a.toInt)) (H : Heap) (locs : List Loc) (ls : Array Slot), va_P (dC, dI) vwCl (mW h0 ad cid sg_j22 gm lg) H → va_D A (mW h0 ad cid sg_j22 gm lg) → va_S A s.heap H locs → lv_has ls 3 [(0, .ref h0), (1, .int a), (2, .int b)] → W p l e (headSpec wm_X13_declare ({ frames := 1, cells := 0, slots := 0, locals := 20 })).room s m ([.ref h0, .int a, .int b] : List Value).toArray below meth c H locs 0 0 (MQ below (va_Qi (fun r v => ∃ (sg2 : Nat → Int32) (gm2 : Nat → Nat → Int32) (lg2 : Nat → Nat → Int64), v = (sg2, gm2, lg2) ∧ MI sg2 gm2 ∧ KS [5] sg sg2 ∧ KS [6, 7, 10, 13] gm gm2 ∧ KS [] lg lg2 ∧ (iv 0 1 r) ∧ (r.toInt = 1 ∧ (0 ≤ a.toInt ∧ a.toInt ≤ 7 ∧ -1 ≤ b.toInt ∧ b.toInt < a.toInt) ∨ r.toInt = 0 ∧ ¬ (0 ≤ a.toInt ∧ a.toInt ≤ 7 ∧ -1 ≤ b.toInt ∧ b.toInt < a.toInt)) ∧ (PR gm2)) (MB dC dI h0 ad cid A) A) ([.ref h0, .int a, .int b] : List Value).toArray s 0 0 A) (F0 m 22 ls []) := by
    intro sg_j22 hks_j22 hI_j22 hno H locs ls hP hD hS hl
    refine lv_iconst (v := 0) hx hb dX13_declare_22 (by decide) ?_
    exact W.zret (v := 0) hx hb hr (iv_nb (iv_w (iv_k (by decide) : iv 0 0 0) (by decide))) (fun t ht hW => ⟨⟨0, (sg_j22, gm, lg), rfl, ⟨sg_j22, gm, lg, rfl, hI_j22, (KS_tr (L := [5]) KS_rf hks_j22 (by decide)), KS_rf, KS_rf, (iv_w (iv_k (by decide) : iv 0 0 0) (by decide)), (Or.inr ⟨rfl, hno⟩), (hPR)⟩, by rw [ht]; exact hP, va_K.moved hW.alike hK, hD⟩, hS.F ht⟩) hS.2.2 dX13_declare_23
  refine lv_aload_n hx hb dX13_declare_0 rfl (lv_at hl 0 rfl) ?_
  refine lv_iconst (v := 0) hx hb dX13_declare_1 (by decide) ?_
  refine ma_put (x := 0) hx hb htb inX13 hown hK hP hD hS 5 (by decide) (by decide) (htb _ kw_239) rfl rfl rfl dX13_declare_2 (fun sg_1 H locs esg_1 hP hD hS => ?_)
  have hI_sg_1 := MI_put hI esg_1 (iv_k (by decide) : iv 0 0 0) (by decide)
  refine lv_iload_n hx hb dX13_declare_5 rfl (lv_at hl 1 rfl) ?_
  have hPc := hP.sub (ws' := []) [] rfl
  have hDc := hD.sub (ws' := []) [] (by decide) rfl
  have hKc := hK.sub (tys' := []) [] rfl
  have hFc := va_free (wc := []) hD hS hA [] rfl
  refine va_calli (va_runS (As := [.int a]) (rest := []) ⟨hx, hb, hml, hown, htb⟩ (c_X13_isClass l dC dI H.size a) (va_cwS 1 htb (gd_S kw_240 kw_241 kw_5 kw_1388) rfl rfl rfl (by decide +kernel) ⟨Nat.le_of_ble_eq_true rfl, Nat.le_of_ble_eq_true rfl⟩) ⟨fun a U g mk q => by obtain ⟨q0, q1, qP, qK, qD⟩ := q; exact ⟨q0, q1, qP, va_K.moved (u := U) (U := U.calling g mk a) (Vm.Alike.refl U.vm) qK, qD⟩, fun U hU hW => ⟨rfl, by rw [hU], by rw [hU]; exact hPc, va_K.moved hW.alike hKc, hDc.weaken (fun _ _ _ _ => trivial)⟩⟩ rfl rfl hl.1 rfl (lv_room (Nat.le_of_ble_eq_true rfl)) dX13_declare_6 ⟨Nat.zero_le _, Nat.zero_le _⟩) hS (fun q _ h => hFc q h) hFc (fun r_2 u9 t H1 locs ht hvm hw hB hz1 hk1 hS => ?_)
  have hP := ms_kept hP hz1 hk1
  generalize H1 = H at hP hS ⊢
  have fr_2 : r_2 = zCls a := hw
  have hr_2 : iv 0 1 r_2 := iv_of fr_2 (zCls_iv a)
  refine lv_if_eq (tgt := 22) hx hb dX13_declare_9 (by decide) (fun c_3 => ?_) (fun c_3 => ?_)
  · have h_4 : iv 0 0 r_2 := iv_eq c_3 hr_2 (iv_k (by decide) : iv 0 0 0) (by decide)
    exact hj22 sg_1 (KS_up KS_rf esg_1 (by decide)) hI_sg_1 ((fun q9 => by { have q1 := zCls_f (a := a) (by rw [← fr_2]; exact c_3); omega })) _ _ _ hP hD hS (lv_sub hl [0, 1, 2] rfl)
  · have h_5 : iv 0 7 a := zCls_t (by rw [← fr_2]; exact c_3)
    have h_6 : iv 1 1 r_2 := iv_neL c_3 hr_2 (by decide)
    refine lv_iload_n hx hb dX13_declare_12 rfl (lv_at hl 2 rfl) ?_
    refine lv_iconst (v := (-1)) hx hb dX13_declare_13 (by decide) ?_
    refine lv_icmp_lt (tgt := 22) hx hb dX13_declare_14 (by decide) (fun c_7 => ?_) (fun c_7 => ?_)
    · have h_8 : iv (-2147483648) (-2) b := iv_ltL c_7 (iv_all b) (iv_k (by decide) : iv (-1) (-1) (-1)) (by decide)
      exact hj22 sg_1 (KS_up KS_rf esg_1 (by decide)) hI_sg_1 ((fun q9 => by { have := i32_0; have := i32_1; have := i32_2; have := i32_m1; have := (h_6).1; have := (h_6).2; have := (h_5).1; have := (h_5).2; have := (h_8).1; have := (h_8).2; omega })) _ _ _ hP hD hS (lv_sub hl [0, 1, 2] rfl)
    · have h_9 : iv (-1) 2147483647 b := iv_leR (i32_ge c_7) (iv_k (by decide) : iv (-1) (-1) (-1)) (iv_all b) (by decide)
      refine lv_iload_n hx hb dX13_declare_17 rfl (lv_at hl 2 rfl) ?_
      refine lv_iload_n hx hb dX13_declare_18 rfl (lv_at hl 1 rfl) ?_
      refine lv_icmp_lt (tgt := 24) hx hb dX13_declare_19 (by decide) (fun c_10 => ?_) (fun c_10 => ?_)
      · have d_11 : (b : Int32).toInt < (a : Int32).toInt := Int32.lt_iff_toInt_lt.mp c_10
        have h_12 : iv (-1) 6 b := iv_ltL c_10 h_9 h_5 (by decide)
        refine lv_aload_n hx hb dX13_declare_24 rfl (lv_at hl 0 rfl) ?_
        refine mr_get (v := .ref (ad 6)) hx hb htb inX13 hown hK hP 6 (by decide) (htb _ kw_165) rfl dX13_declare_25 ?_
        refine lv_iload_n hx hb dX13_declare_28 rfl (lv_at hl 1 rfl) ?_
        refine lv_iload_n hx hb dX13_declare_29 rfl (lv_at hl 2 rfl) ?_
        refine ma_iast (x := b) hx hb hK hP hD hS 5 (k := 6) rfl rfl rfl (show vp_in a 8 from (iv_in h_5 (by decide))) dX13_declare_30 (fun gm_13 H locs egm_13 hP hD hS => ?_)
        have hI_gm_13 := MI_st hI_sg_1 egm_13 h_12 (by decide)
        refine lv_aload_n hx hb dX13_declare_31 rfl (lv_at hl 0 rfl) ?_
        refine mr_get (v := .ref (ad 7)) hx hb htb inX13 hown hK hP 7 (by decide) (htb _ kw_166) rfl dX13_declare_32 ?_
        refine lv_iload_n hx hb dX13_declare_35 rfl (lv_at hl 1 rfl) ?_
        refine lv_iconst (v := 0) hx hb dX13_declare_36 (by decide) ?_
        refine ma_iast (x := 0) hx hb hK hP hD hS 6 (k := 7) rfl rfl rfl (show vp_in a 8 from (iv_in h_5 (by decide))) dX13_declare_37 (fun gm_14 H locs egm_14 hP hD hS => ?_)
        have hI_gm_14 := MI_st hI_gm_13 egm_14 (iv_k (by decide) : iv 0 0 0) (by decide)
        refine lv_aload_n hx hb dX13_declare_38 rfl (lv_at hl 0 rfl) ?_
        refine mr_get (v := .ref (ad 10)) hx hb htb inX13 hown hK hP 10 (by decide) (htb _ kw_169) rfl dX13_declare_39 ?_
        refine lv_iload_n hx hb dX13_declare_42 rfl (lv_at hl 1 rfl) ?_
        refine lv_iconst (v := 0) hx hb dX13_declare_43 (by decide) ?_
        refine ma_iast (x := 0) hx hb hK hP hD hS 9 (k := 10) rfl rfl rfl (show vp_in a 8 from (iv_in h_5 (by decide))) dX13_declare_44 (fun gm_15 H locs egm_15 hP hD hS => ?_)
        have hI_gm_15 := MI_st hI_gm_14 egm_15 (iv_k (by decide) : iv 0 0 0) (by decide)
        refine lv_aload_n hx hb dX13_declare_45 rfl (lv_at hl 0 rfl) ?_
        refine mr_get (v := .ref (ad 13)) hx hb htb inX13 hown hK hP 13 (by decide) (htb _ kw_172) rfl dX13_declare_46 ?_
        refine lv_iload_n hx hb dX13_declare_49 rfl (lv_at hl 1 rfl) ?_
        refine lv_iconst (v := 0) hx hb dX13_declare_50 (by decide) ?_
        refine ma_iast (x := 0) hx hb hK hP hD hS 12 (k := 13) rfl rfl rfl (show vp_in a 8 from (iv_in h_5 (by decide))) dX13_declare_51 (fun gm_16 H locs egm_16 hP hD hS => ?_)
        have hI_gm_16 := MI_st hI_gm_15 egm_16 (iv_k (by decide) : iv 0 0 0) (by decide)
        refine lv_iconst (v := 1) hx hb dX13_declare_52 (by decide) ?_
        exact W.zret (v := 1) hx hb hr (iv_nb (iv_w (iv_k (by decide) : iv 1 1 1) (by decide))) (fun t ht hW => ⟨⟨1, (sg_1, gm_16, lg), rfl, ⟨sg_1, gm_16, lg, rfl, hI_gm_16, (KS_up KS_rf esg_1 (by decide)), (KS_up (KS_up (KS_up (KS_up KS_rf egm_13 (by decide)) egm_14 (by decide)) egm_15 (by decide)) egm_16 (by decide)), KS_rf, (iv_w (iv_k (by decide) : iv 1 1 1) (by decide)), (Or.inl ⟨rfl, by have := i32_0; have := i32_1; have := i32_2; have := i32_m1; have := (h_6).1; have := (h_6).2; have := (h_5).1; have := (h_5).2; have := (h_12).1; have := (h_12).2; omega, by have := i32_0; have := i32_1; have := i32_2; have := i32_m1; have := (h_6).1; have := (h_6).2; have := (h_5).1; have := (h_5).2; have := (h_12).1; have := (h_12).2; omega, by have := i32_0; have := i32_1; have := i32_2; have := i32_m1; have := (h_6).1; have := (h_6).2; have := (h_5).1; have := (h_5).2; have := (h_12).1; have := (h_12).2; omega, by have := i32_0; have := i32_1; have := i32_2; have := i32_m1; have := (h_6).1; have := (h_6).2; have := (h_5).1; have := (h_5).2; have := (h_12).1; have := (h_12).2; omega⟩), (PR_u hPR (by have := i32_0; have := i32_1; have := i32_2; have := i32_m1; have := (h_6).1; have := (h_6).2; have := (h_5).1; have := (h_5).2; have := (h_12).1; have := (h_12).2; omega) (show gm_16 6 = upd (gm 6) (a : Int32).toNatClampNeg b from ((up_ne egm_16 (by decide)).trans ((up_ne egm_15 (by decide)).trans ((up_ne egm_14 (by decide)).trans ((up_at egm_13).trans (by rw [show gm 6 = gm 6 from rfl])))))) (by have := i32_0; have := i32_1; have := i32_2; have := i32_m1; have := (h_6).1; have := (h_6).2; have := (h_5).1; have := (h_5).2; have := (h_12).1; have := (h_12).2; omega))⟩, by rw [ht]; exact hP, va_K.moved hW.alike hK, hD⟩, hS.F ht⟩) hS.2.2 dX13_declare_53
      · have d_17 : (a : Int32).toInt ≤ (b : Int32).toInt := Int32.le_iff_toInt_le.mp (i32_ge c_10)
        have h_18 : iv 0 2147483647 b := iv_leR (i32_ge c_10) h_5 h_9 (by decide)
        exact hj22 sg_1 (KS_up KS_rf esg_1 (by decide)) hI_sg_1 ((fun q9 => by { have := i32_0; have := i32_1; have := i32_2; have := i32_m1; have := (h_6).1; have := (h_6).2; have := (h_5).1; have := (h_5).2; have := (h_18).1; have := (h_18).2; omega })) _ _ _ hP hD hS (lv_sub hl [0, 1, 2] rfl)

/-- what the reference's state bears between two calls -/
def RI (sg : Nat → Int32) (gm : Nat → Nat → Int32) (lg : Nat → Nat → Int64) : Prop := MI sg gm ∧ PR gm ∧ GI0 sg gm lg ∧ MO sg gm ∧ ((sg 40).toInt = 0 ∨ DOC sg gm lg)
/-- a call that leaves the document and what is made of it -/
theorem RI_of {sg sg2 : Nat → Int32} {gm gm2 : Nat → Nat → Int32} {lg lg2 : Nat → Nat → Int64} {Ls Lg Ll : List Nat} (h : RI sg gm lg) (hI : MI sg2 gm2) (hPR : PR gm2) (h1 : KS Ls sg sg2) (h2 : KS Lg gm gm2) (h3 : KS Ll lg lg2) (q1 : (Ls.contains 24 || Ls.contains 41) = false) (q1b : Ls.contains 40 = false) (q2 : ([26, 28, 29, 30, 36, 37, 38, 42, 43].all fun k => !Lg.contains k) = true) (q3 : Ll.contains 35 = false) (q4 : (Lg.contains 44 || Lg.contains 45) = false) (q5 : ([60, 61, 62, 70, 71, 72, 73].all fun k => !Lg.contains k) = true) (q6 : Ls.contains 50 = false) (q7 : Ll.contains 1 = false) (q8 : (Ls.contains 50 || Ls.contains 41) = false) (q9 : Lg.contains 59 = false) : RI sg2 gm2 lg2 := by
  obtain ⟨-, -, a3, a4, a5⟩ := h
  refine ⟨hI, hPR, GI0_of a3 h1 h2 h3 q1 q2 q3 q5 q6 q7, MO_of a4 h1 h2 q8 q9, ?_⟩
  rcases a5 with q | q
  · exact Or.inl (by rw [h1 40 q1b]; exact q)
  · exact Or.inr (DOC_of q h1 h2 h3 q1 q2 q3 q4)
/-- a call that makes -/
theorem RI_mk {sg sg2 : Nat → Int32} {gm gm2 : Nat → Nat → Int32} {lg lg2 : Nat → Nat → Int64} {Ls Lg Ll : List Nat} (h : RI sg gm lg) (hI : MI sg2 gm2) (hg : GI0 sg2 gm2 lg2) (hm : MO sg2 gm2) (h1 : KS Ls sg sg2) (h2 : KS Lg gm gm2) (h3 : KS Ll lg lg2) (q1 : (Ls.contains 24 || Ls.contains 41) = false) (q1b : Ls.contains 40 = false) (q2 : ([26, 28, 29, 30, 36, 37, 38, 42, 43].all fun k => !Lg.contains k) = true) (q3 : Ll.contains 35 = false) (q4 : (Lg.contains 44 || Lg.contains 45) = false) (q5 : Lg.contains 6 = false) : RI sg2 gm2 lg2 := by
  obtain ⟨-, a2, -, -, a5⟩ := h
  refine ⟨hI, PR_k a2 (h2 6 q5), hg, hm, ?_⟩
  rcases a5 with q | q
  · exact Or.inl (by rw [h1 40 q1b]; exact q)
  · exact Or.inr (DOC_of q h1 h2 h3 q1 q2 q3 q4)
theorem RI_rd {sg sg2 : Nat → Int32} {gm gm2 : Nat → Nat → Int32} {lg lg2 : Nat → Nat → Int64} {Lg : List Nat} (h : RI sg gm lg) (hI : MI sg2 gm2) (h2 : KS Lg gm gm2) (hd : (sg2 40).toInt = 0 ∨ DOC sg2 gm2 lg2) (hc : CLR sg2 gm2) (q5 : Lg.contains 6 = false) (q70 : Lg.contains 70 = false) (q71 : Lg.contains 71 = false) (q72 : Lg.contains 72 = false) (q73 : Lg.contains 73 = false) : RI sg2 gm2 lg2 :=
  ⟨hI, PR_k h.2.1 (h2 6 q5), GI0_clr (VAL_k (h2 70 q70) (h2 71 q71) (h2 72 q72) (h2 73 q73) h.2.2.1.1) hc, MO_0 hc.1, hd⟩
