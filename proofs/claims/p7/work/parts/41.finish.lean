/-- every bean in the row of those made is one of the document's -/
def MO (sg : Nat → Int32) (gm : Nat → Nat → Int32) : Prop := ∀ k, k < (sg 50).toNatClampNeg → (gm 59 k).toInt < (sg 41).toInt
theorem MO_k {sg sg2 : Nat → Int32} {gm gm2 : Nat → Nat → Int32} (h50 : sg2 50 = sg 50) (h41 : sg2 41 = sg 41) (h59 : gm2 59 = gm 59) (h : MO sg gm) : MO sg2 gm2 := by
  unfold MO at *; rw [h50, h41, h59]; exact h
theorem MO_of {sg sg2 : Nat → Int32} {gm gm2 : Nat → Nat → Int32} {Ls Lg : List Nat} (h : MO sg gm) (h1 : KS Ls sg sg2) (h2 : KS Lg gm gm2) (q1 : (Ls.contains 50 || Ls.contains 41) = false) (q2 : Lg.contains 59 = false) : MO sg2 gm2 := MO_k (h1 50 (Bool.or_eq_false_iff.mp q1).1) (h1 41 (Bool.or_eq_false_iff.mp q1).2) (h2 59 q2) h
theorem MO_s {sg sg2 : Nat → Int32} {gm gm2 : Nat → Nat → Int32} {b : Int32} (h : MO sg gm) (hb : b.toInt < (sg 41).toInt) (h0 : 0 ≤ (sg 50).toInt) (h50 : (sg2 50).toInt = (sg 50).toInt + 1) (h41 : sg2 41 = sg 41) (h59 : gm2 59 = upd (gm 59) (sg 50).toNatClampNeg b) : MO sg2 gm2 := by
  intro k hk
  have k1 := cl_0 h0
  have k2 := cl_0 (x := sg2 50) (by omega)
  rw [h59, h41]
  by_cases q : k = (sg 50).toNatClampNeg
  · rw [q, upd_at]; exact hb
  · rw [upd_ne q]; exact h k (by omega)
theorem DLV_k {sg sg2 : Nat → Int32} {gm gm1 gm2 : Nat → Nat → Int32} (h : DLV sg gm1 gm2) (h63 : sg2 63 = sg 63) (h65 : gm1 65 = gm 65) (h67 : gm1 67 = gm 67) : DLV sg2 gm gm2 := by
  have e1 : TOPn sg2 = TOPn sg := by unfold TOPn; rw [h63]
  unfold DLV at *; rw [e1, ← h65, ← h67]; exact h
theorem GI0_un {sg sg2 : Nat → Int32} {gm gm2 : Nat → Nat → Int32} {lg lg2 : Nat → Nat → Int64} {b : Nat} (q : GI0 sg gm lg) (h : DK sg gm lg sg2 gm2 lg2) (h1 : lg2 1 = lg 1) (h60 : gm2 60 = gm 60) (h61 : gm2 61 = gm 61) (h62 : gm2 62 = upd (gm 62) b 0) (h70 : gm2 70 = gm 70) (h71 : gm2 71 = gm 71) (h72 : gm2 72 = gm 72) (h73 : gm2 73 = gm 73) (h50 : sg2 50 = sg 50) : GI0 sg2 gm2 lg2 := by
  refine ⟨VAL_k h70 h71 h72 h73 q.1, fun k hk => ?_, by rw [h50, h61]; exact q.2.2⟩
  have := q.2.1 k hk
  unfold BI at *
  rw [h60, h61, mMny_k h h1]
  intro h9
  have h8 := this h9
  refine ⟨h8.1, h8.2.1, ?_⟩
  rw [h62]
  by_cases e9 : k = b
  · rw [e9, upd_at]
  · rw [upd_ne e9]; exact h8.2.2
theorem GI0_fin {sg sg2 : Nat → Int32} {gm gm2 : Nat → Nat → Int32} {lg lg2 : Nat → Nat → Int64} {b : Nat} (q : GI0 sg gm lg) (h : DK sg gm lg sg2 gm2 lg2) (h1 : lg2 1 = lg 1) (h60 : gm2 60 = gm 60) (h61 : gm2 61 = upd (gm 61) b 1) (h62 : gm2 62 = upd (gm 62) b 0) (h70 : gm2 70 = gm 70) (h71 : gm2 71 = gm 71) (h72 : gm2 72 = gm 72) (h73 : gm2 73 = gm 73) (h50 : (sg2 50).toInt = (sg 50).toInt + 1) (hb : b < 80) (h0 : gm 61 b = 0) (hm : ¬ mMny gm lg b) (ho : 0 ≤ (gm 60 b).toInt) : GI0 sg2 gm2 lg2 := by
  have hc := cnt1_up h0 80 hb
  refine ⟨VAL_k h70 h71 h72 h73 q.1, fun k hk => ?_, by rw [h50, h61, hc.1]; have := q.2.2; omega⟩
  have := q.2.1 k hk
  unfold BI at *
  rw [h60, mMny_k h h1]
  intro h9
  by_cases e9 : k = b
  · rw [e9]; exact ⟨ho, hm, by rw [h62, upd_at]⟩
  · rw [h61, upd_ne e9] at h9
    have h8 := this h9
    refine ⟨h8.1, h8.2.1, ?_⟩
    rw [h62, upd_ne e9]; exact h8.2.2
theorem GI0_m0 {sg : Nat → Int32} {gm : Nat → Nat → Int32} {lg : Nat → Nat → Int64} {b : Nat} (q : GI0 sg gm lg) (hb : b < 80) (h : ¬ gm 62 b = 0) : gm 61 b = 0 := Decidable.byContradiction (fun h9 => h (q.2.1 b hb h9).2.2)

set_option maxHeartbeats 4000000 in
set_option maxRecDepth 100000 in
theorem f_finish (l : Launch) (dC : Nat → ClassId) (dI : Nat → Nat → Nat) (h0 : Nat) (ad : Nat → Nat) (cid : Nat → ClassId) (sg : Nat → Int32) (gm : Nat → Nat → Int32) (lg : Nat → Nat → Int64) (b : Int32) (hI : MI sg gm) (hvb : iv 0 79 b) (hdoc : DOC sg gm lg) (hgi : GI0 sg gm lg) (hh1 : 1 ≤ (sg 63).toInt) (hpi : PIL sg gm) (hmo : MO sg gm) (hb9 : b = gm 64 (TOPn sg)) (hob : 0 ≤ (gm 69 (TOPn sg)).toInt) (how : ¬ mMny gm lg b.toNatClampNeg → 0 ≤ (gm 60 b.toNatClampNeg).toInt) (hwt : (sg 63).toInt = 1 ∨ (FR sg gm lg (TOPn sg - 1) 1 ∧ 1 ≤ (gm 65 (TOPn sg - 1)).toInt)) : MMv l dC dI yX13_finish wm_X13_finish ({ frames := 7, cells := 0, slots := 0, locals := 166 }) h0 ad cid [.int b] sg gm lg (fun v => ∃ (sg2 : Nat → Int32) (gm2 : Nat → Nat → Int32) (lg2 : Nat → Nat → Int64), v = (sg2, gm2, lg2) ∧ MI sg2 gm2 ∧ KS [49, 50, 63, 74] sg sg2 ∧ KS [55, 56, 57, 58, 59, 61, 62, 67, 68, 70, 71, 72, 73] gm gm2 ∧ KS [] lg lg2 ∧ (GI0 sg2 gm2 lg2) ∧ (FIN sg gm b sg2 gm2) ∧ (MO sg2 gm2)) := by
  intro sz
  refine Met.ofW (cc := cX13_finish) (maxL := 3) (ret := none) (by decide) rfl ?_
  intro p e s m args below meth c s₁ B hml hv
  obtain ⟨rfl, hsz, hP, hK, hD0⟩ := hv
  have hx := B.exec
  have hb := B.bytes
  have hr := B.returns
  have hts := atoms_spec (ws := wm_X13_finish) B.pre
  have htb := fun (w : Cond) (h : w ∈ tb) => hts w (List.mem_cons_of_mem _ h)
  have hown : s.vm.findClass RX13 = some m.cls := findClass_of_methodNamed B.named
  have hlocks := B.notSynchronized
  subst hsz
  have hD := hD0.self (sz := s.heap.size)
  generalize hAe : va_A (mW h0 ad cid sg gm lg) s.heap.size = A at hD ⊢
  have hA : ∀ q : Nat, s.heap.size ≤ q → A q := fun q h => by rw [← hAe]; exact Or.inr h
  have hS : va_S A s.heap s.heap [] := va_S.rf
  have hl := lv_entry ([.ref h0, .int b]) (n := 3) (Nat.le_of_ble_eq_true rfl)
  rw [lg_entry_eq]
  generalize (lg_sl ([.ref h0, .int b]) ++ List.replicate (3 - (lg_sl ([.ref h0, .int b])).length) Slot.unset).toArray = ls at hl ⊢
  have hl : lv_has ls 3 [(0, .ref h0), (1, .int b)] := hl
  have h63 : iv 1 80 (sg 63) := ⟨hh1, (show iv 0 80 (sg 63) from MI_s hI 63).2⟩
  have hpt := PIL_top hpi hh1
  rw [← hb9] at hpt
  have hb80 : b.toNatClampNeg < 80 := (by have := iv_cl hvb (by decide); have := hvb.2; omega)
  have h610 := GI0_m0 hgi hb80 hpt.1
  have hmd : iv 0 79 (sg 50) := ⟨(show iv 0 80 (sg 50) from MI_s hI 50).1, by have := hgi.2.2; have := (cnt1_up h610 80 hb80).2; omega⟩
  have hj112 : ∀ (sg_j112 : Nat → Int32) (gm_j112 : Nat → Nat → Int32) (x2_112 : Int32) (_ : iv 0 79 x2_112) (_ : iv 0 79 b) (_ : KS [49, 50, 63, 74] sg sg_j112) (_ : KS [55, 56, 57, 58, 59, 61, 62, 67, 68, 70, 71, 72, 73] gm gm_j112) (_ : MI sg_j112 gm_j112) (_ : GI0 sg_j112 gm_j112 lg) (_ : FIN sg gm b sg_j112 gm_j112) (_ : MO sg_j112 gm_j112) (H : Heap) (locs : List Loc) (ls : Array Slot), va_P (dC, dI) vwCl (mW h0 ad cid sg_j112 gm_j112 lg) H → va_D A (mW h0 ad cid sg_j112 gm_j112 lg) → va_S A s.heap H locs → lv_has ls 3 [(2, .int x2_112), (0, .ref h0), (1, .int b)] → W p l e (headSpec wm_X13_finish ({ frames := 7, cells := 0, slots := 0, locals := 166 })).room s m ([.ref h0, .int b] : List Value).toArray below meth c H locs 0 0 (MQ below (va_Qv (fun v => ∃ (sg2 : Nat → Int32) (gm2 : Nat → Nat → Int32) (lg2 : Nat → Nat → Int64), v = (sg2, gm2, lg2) ∧ MI sg2 gm2 ∧ KS [49, 50, 63, 74] sg sg2 ∧ KS [55, 56, 57, 58, 59, 61, 62, 67, 68, 70, 71, 72, 73] gm gm2 ∧ KS [] lg lg2 ∧ (GI0 sg2 gm2 lg2) ∧ (FIN sg gm b sg2 gm2) ∧ (MO sg2 gm2)) (MB dC dI h0 ad cid A) A) ([.ref h0, .int b] : List Value).toArray s 0 0 A) (F0 m 112 ls []) := by
    intro sg_j112 gm_j112 x2_112 hx2_112 hsx1_112 hks_j112 hkg_j112 hI_j112 hgi hfn hmo H locs ls hP hD hS hl
    exact W.vret hx hb hr (fun t ht hW => ⟨⟨(sg_j112, gm_j112, lg), rfl, ⟨sg_j112, gm_j112, lg, rfl, hI_j112, (KS_tr (L := [49, 50, 63, 74]) KS_rf hks_j112 (by decide)), (KS_tr (L := [55, 56, 57, 58, 59, 61, 62, 67, 68, 70, 71, 72, 73]) KS_rf hkg_j112 (by decide)), KS_rf, (hgi), (hfn), (hmo)⟩, by rw [ht]; exact hP, va_K.moved hW.alike hK, hD⟩, hS.F ht⟩) hS.2.2 dX13_finish_112
  have hj81 : ∀ (sg_j81 : Nat → Int32) (gm_j81 : Nat → Nat → Int32) (x2_81 : Int32) (_ : iv 0 79 x2_81) (_ : iv 0 79 b) (_ : KS [49, 50] sg sg_j81) (_ : KS [55, 56, 57, 58, 59, 61, 62] gm gm_j81) (_ : MI sg_j81 gm_j81) (_ : x2_81.toNatClampNeg = TOPn sg) (_ : GI0 sg_j81 gm_j81 lg) (_ : MO sg_j81 gm_j81) (_ : gm_j81 62 = upd (gm 62) b.toNatClampNeg 0) (H : Heap) (locs : List Loc) (ls : Array Slot), va_P (dC, dI) vwCl (mW h0 ad cid sg_j81 gm_j81 lg) H → va_D A (mW h0 ad cid sg_j81 gm_j81 lg) → va_S A s.heap H locs → lv_has ls 3 [(2, .int x2_81), (0, .ref h0), (1, .int b)] → W p l e (headSpec wm_X13_finish ({ frames := 7, cells := 0, slots := 0, locals := 166 })).room s m ([.ref h0, .int b] : List Value).toArray below meth c H locs 0 0 (MQ below (va_Qv (fun v => ∃ (sg2 : Nat → Int32) (gm2 : Nat → Nat → Int32) (lg2 : Nat → Nat → Int64), v = (sg2, gm2, lg2) ∧ MI sg2 gm2 ∧ KS [49, 50, 63, 74] sg sg2 ∧ KS [55, 56, 57, 58, 59, 61, 62, 67, 68, 70, 71, 72, 73] gm gm2 ∧ KS [] lg lg2 ∧ (GI0 sg2 gm2 lg2) ∧ (FIN sg gm b sg2 gm2) ∧ (MO sg2 gm2)) (MB dC dI h0 ad cid A) A) ([.ref h0, .int b] : List Value).toArray s 0 0 A) (F0 m 81 ls []) := by
    intro sg_j81 gm_j81 x2_81 hx2_81 hsx1_81 hks_j81 hkg_j81 hI_j81 htop hgi hmo hm62 H locs ls hP hD hS hl
    refine lv_aload_n hx hb dX13_finish_81 rfl (lv_at hl 1 rfl) ?_
    refine lv_aload_n hx hb dX13_finish_82 rfl (lv_at hl 1 rfl) ?_
    refine mr_get (v := .ref (ad 69)) hx hb htb inX13 hown hK hP 69 (by decide) (htb _ kw_218) rfl dX13_finish_83 ?_
    refine lv_iload_n hx hb dX13_finish_86 rfl (lv_at hl 0 rfl) ?_
    refine mr_iald hx hb hK hP 54 (k := 69) rfl rfl rfl (show vp_in x2_81 81 from (iv_in hx2_81 (by decide))) dX13_finish_87 ?_
    refine lv_topi (fun z_1 ez_1 => ?_)
    have hz_1 : iv (-1) 59 z_1 := iv_of ez_1 (MI_a hI_j81 69 hx2_81 (by decide))
    have ez_1 := ez_1.trans (congrFun (hkg_j81 69 (by decide)) _)
    have h_2 : iv 0 59 z_1 := ⟨by have q9 := ez_1; rw [htop] at q9; rw [q9]; exact hob, (hz_1).2⟩
    refine ma_put (x := z_1) hx hb htb inX13 hown hK hP hD hS 74 (by decide) (by decide) (htb _ kw_1164) rfl rfl rfl dX13_finish_88 (fun sg_3 H locs esg_3 hP hD hS => ?_)
    have hI_sg_3 := MI_put hI_j81 esg_3 h_2 (by decide)
    refine lv_aload_n hx hb dX13_finish_91 rfl (lv_at hl 1 rfl) ?_
    refine lv_dup hx hb dX13_finish_92 rfl ?_
    refine mr_get (v := .int (sg_3 63)) hx hb htb inX13 hown hK hP 63 (by decide) (htb _ kw_1160) rfl dX13_finish_93 ?_
    refine lv_topi (fun z_4 ez_4 => ?_)
    obtain rfl : (sg 63) = z_4 := (ez_4.trans (Eq.trans (up_ne esg_3 (by decide)) (hks_j81 63 (by decide)))).symm
    refine lv_iconst (v := 1) hx hb dX13_finish_96 (by decide) ?_
    refine lv_isub hx hb dX13_finish_97 ?_
    refine lv_topi (fun z_5 ez_5 => ?_)
    have hz_5 : iv 0 79 z_5 := iv_of ez_5 (iv_sub h63 (iv_k (by decide) : iv 1 1 1) (by decide))
    have tz_5 : z_5.toInt = ((sg 63) : Int32).toInt - 1 := by rw [ez_5]; exact iv_subE h63 (iv_k (by decide) : iv 1 1 1) (by decide)
    refine ma_put (x := z_5) hx hb htb inX13 hown hK hP hD hS 63 (by decide) (by decide) (htb _ kw_1160) rfl rfl rfl dX13_finish_98 (fun sg_6 H locs esg_6 hP hD hS => ?_)
    have hI_sg_6 := MI_put hI_sg_3 esg_6 hz_5 (by decide)
    refine lv_aload_n hx hb dX13_finish_101 rfl (lv_at hl 1 rfl) ?_
    refine mr_get (v := .int (sg_6 63)) hx hb htb inX13 hown hK hP 63 (by decide) (htb _ kw_1160) rfl dX13_finish_102 ?_
    refine lv_topi (fun z_7 ez_7 => ?_)
    obtain rfl : z_5 = z_7 := (ez_7.trans (up_at esg_6)).symm
    refine lv_if_le (tgt := 112) hx hb dX13_finish_105 (by decide) (fun c_8 => ?_) (fun c_8 => ?_)
    · have h_9 : iv 0 0 z_5 := iv_leL c_8 hz_5 (iv_k (by decide) : iv 0 0 0) (by decide)
      exact hj112 sg_6 gm_j81 x2_81 hx2_81 hsx1_81 (KS_up (KS_up (KS_tr (L := [49, 50, 63, 74]) KS_rf hks_j81 (by decide)) esg_3 (by decide)) esg_6 (by decide)) (KS_tr (L := [55, 56, 57, 58, 59, 61, 62, 67, 68, 70, 71, 72, 73]) KS_rf hkg_j81 (by decide)) hI_sg_6 (GI0_of hgi (show KS [63, 74] sg_j81 sg_6 from (KS_up (KS_up KS_rf esg_3 (by decide)) esg_6 (by decide))) (show KS [] gm_j81 gm_j81 from KS_rf) (show KS [] lg lg from KS_rf) (by decide) (by decide) (by decide) (by decide) (by decide) (by decide)) (⟨by have := i32_0; have := i32_1; have := i32_2; have := i32_m1; have := congrArg Int32.toInt (show sg_6 63 = z_5 from up_at esg_6); have := (h_9).1; have := (h_9).2; have := (hsx1_81).1; have := (hsx1_81).2; have := (h63).1; have := (h63).2; have := (hmd).1; have := (hmd).2; have := (hx2_81).1; have := (hx2_81).2; have := (h_2).1; have := (h_2).2; omega, ((show KS [] gm_j81 gm_j81 from KS_rf) 62 (by decide)).trans hm62, Or.inl ⟨by have := i32_0; have := i32_1; have := i32_2; have := i32_m1; have := congrArg Int32.toInt (show sg_6 63 = z_5 from up_at esg_6); have := (h_9).1; have := (h_9).2; have := (hsx1_81).1; have := (hsx1_81).2; have := (h63).1; have := (h63).2; have := (hmd).1; have := (hmd).2; have := (hx2_81).1; have := (hx2_81).2; have := (h_2).1; have := (h_2).2; omega, (hkg_j81 67 (by decide))⟩⟩) (MO_of hmo (show KS [63, 74] sg_j81 sg_6 from (KS_up (KS_up KS_rf esg_3 (by decide)) esg_6 (by decide))) (show KS [] gm_j81 gm_j81 from KS_rf) (by decide) (by decide)) _ _ _ hP hD hS (lv_sub hl [0, 1, 2] rfl)
    · have h_10 : iv 1 79 z_5 := iv_ltR (i32_lt c_8) (iv_k (by decide) : iv 0 0 0) hz_5 (by decide)
      refine lv_aload_n hx hb dX13_finish_108 rfl (lv_at hl 1 rfl) ?_
      have hT1 : TOPn sg_6 = TOPn sg - 1 := (by have := cl_0 (x := sg 63) (by omega); have q9 : (sg_6 63).toInt = (sg 63).toInt - 1 := (by have := i32_0; have := i32_1; have := i32_2; have := i32_m1; have := congrArg Int32.toInt (show sg_6 63 = z_5 from up_at esg_6); have := (h_10).1; have := (h_10).2; have := (hsx1_81).1; have := (hsx1_81).2; have := (h63).1; have := (h63).2; have := (hmd).1; have := (hmd).2; have := (hx2_81).1; have := (hx2_81).2; have := (h_2).1; have := (h_2).2; omega); have := cl_0 (x := sg_6 63) (by omega); unfold TOPn; omega)
      have hwu := hwt.resolve_left (by have := i32_0; have := i32_1; have := i32_2; have := i32_m1; have := congrArg Int32.toInt (show sg_6 63 = z_5 from up_at esg_6); have := (h_10).1; have := (h_10).2; have := (hsx1_81).1; have := (hsx1_81).2; have := (h63).1; have := (h63).2; have := (hmd).1; have := (hmd).2; have := (hx2_81).1; have := (hx2_81).2; have := (h_2).1; have := (h_2).2; omega)
      have hTl : TOPn sg - 1 < (sg 63).toNatClampNeg := (by have := cl_0 (x := sg 63) (by omega); unfold TOPn; omega)
      refine mr_callv (rest := []) ⟨hx, hb, hml, hown, htb⟩ (f_deliver l dC dI h0 ad cid sg_6 gm_j81 lg hI_sg_6 (DOC_of hdoc (show KS [49, 50, 63, 74] sg sg_6 from (KS_up (KS_up (KS_tr (L := [49, 50, 63, 74]) KS_rf hks_j81 (by decide)) esg_3 (by decide)) esg_6 (by decide))) (show KS [55, 56, 57, 58, 59, 61, 62] gm gm_j81 from (KS_tr (L := [55, 56, 57, 58, 59, 61, 62]) KS_rf hkg_j81 (by decide))) (show KS [] lg lg from KS_rf) (by decide) (by decide) (by decide) (by decide)) (VAL_k ((show KS [] gm_j81 gm_j81 from KS_rf) 70 (by decide)) ((show KS [] gm_j81 gm_j81 from KS_rf) 71 (by decide)) ((show KS [] gm_j81 gm_j81 from KS_rf) 72 (by decide)) ((show KS [] gm_j81 gm_j81 from KS_rf) 73 (by decide)) hgi.1) (by have := i32_0; have := i32_1; have := i32_2; have := i32_m1; have := congrArg Int32.toInt (show sg_6 63 = z_5 from up_at esg_6); have := (h_10).1; have := (h_10).2; have := (hsx1_81).1; have := (hsx1_81).2; have := (h63).1; have := (h63).2; have := (hmd).1; have := (hmd).2; have := (hx2_81).1; have := (hx2_81).2; have := (h_2).1; have := (h_2).2; omega) (by have := i32_0; have := i32_1; have := i32_2; have := i32_m1; have := congrArg Int32.toInt (show sg_6 74 = sg_3 74 from up_ne esg_6 (by decide)); have := congrArg Int32.toInt (show sg_3 74 = z_1 from up_at esg_3); have := (h_2).1; have := (h_2).2; have := (hsx1_81).1; have := (hsx1_81).2; have := (h63).1; have := (h63).2; have := (hmd).1; have := (hmd).2; have := (hx2_81).1; have := (hx2_81).2; have := (h_10).1; have := (h_10).2; omega) (by rw [hT1]; exact FR_mv hwu.1 (DK_of (show KS [49, 50, 63, 74] sg sg_6 from (KS_up (KS_up (KS_tr (L := [49, 50, 63, 74]) KS_rf hks_j81 (by decide)) esg_3 (by decide)) esg_6 (by decide))) (show KS [55, 56, 57, 58, 59, 61, 62] gm gm_j81 from (KS_tr (L := [55, 56, 57, 58, 59, 61, 62]) KS_rf hkg_j81 (by decide))) (show KS [] lg lg from KS_rf) (by decide) (by decide) (by decide)) (hkg_j81 44 (by decide)) (hkg_j81 45 (by decide)) rfl (fun k q9 => by rw [(hkg_j81 60 (by decide))]; exact q9) (congrFun (hkg_j81 64 (by decide)) _) (congrFun (hkg_j81 65 (by decide)) _) (congrFun (hkg_j81 66 (by decide)) _) (congrFun (hkg_j81 67 (by decide)) _) (congrFun (hkg_j81 69 (by decide)) _)) (by rw [hT1, (hkg_j81 65 (by decide))]; exact hwu.2) (by rw [hT1, (hkg_j81 64 (by decide)), (Eq.trans (Eq.trans (up_ne esg_6 (by decide)) (up_ne esg_3 (by decide))) (hks_j81 41 (by decide)))]; exact ⟨(hpi _ hTl).2.1, (hpi _ hTl).2.2.1⟩) ((show iv 0 6 _ from hI_sg_6.2 67 _ (show _ < 81 from by rw [hT1]; unfold TOPn; have := cl_0 (x := sg 63) (by omega); have := h63.2; omega)).1)) (cwV 0 htb (gd_V kw_1174 kw_1175 kw_1176 kw_5 kw_1608) rfl rfl rfl (by decide +kernel) ⟨Nat.le_of_ble_eq_true rfl, Nat.le_of_ble_eq_true rfl⟩) rfl hl.1 rfl (Nat.le_of_ble_eq_true rfl) dX13_finish_109 ⟨Nat.zero_le _, Nat.zero_le _⟩ hK hP hD hS hA (fun u_12 H locs hw hP hD hS => ?_)
      obtain ⟨sgv_13, gmv_13, lgv_13, rfl, hIv_13, ksv_13, kgv_13, klv_13, fV2_r_11, fDl_r_11⟩ := hw
      obtain rfl := KS_nil ksv_13
      obtain rfl := KS_nil klv_13
      have hP : va_P (dC, dI) vwCl (mW h0 ad cid sg_6 gmv_13 lg) H := hP
      have hD : va_D A (mW h0 ad cid sg_6 gmv_13 lg) := hD
      exact hj112 sg_6 gmv_13 x2_81 hx2_81 hsx1_81 (KS_up (KS_up (KS_tr (L := [49, 50, 63, 74]) KS_rf hks_j81 (by decide)) esg_3 (by decide)) esg_6 (by decide)) (KS_tr (L := [55, 56, 57, 58, 59, 61, 62, 67, 68, 70, 71, 72, 73]) (KS_tr (L := [55, 56, 57, 58, 59, 61, 62, 67, 68, 70, 71, 72, 73]) KS_rf hkg_j81 (by decide)) kgv_13 (by decide)) hIv_13 (GI0_k hgi (DK_of (show KS [63, 74] sg_j81 sg_6 from (KS_up (KS_up KS_rf esg_3 (by decide)) esg_6 (by decide))) (show KS [67, 68, 70, 71, 72, 73] gm_j81 gmv_13 from (KS_tr (L := [67, 68, 70, 71, 72, 73]) KS_rf kgv_13 (by decide))) (show KS [] lg lg from KS_rf) (by decide) (by decide) (by decide)) ((show KS [] lg lg from KS_rf) 1 (by decide)) ((show KS [67, 68, 70, 71, 72, 73] gm_j81 gmv_13 from (KS_tr (L := [67, 68, 70, 71, 72, 73]) KS_rf kgv_13 (by decide))) 60 (by decide)) ((show KS [67, 68, 70, 71, 72, 73] gm_j81 gmv_13 from (KS_tr (L := [67, 68, 70, 71, 72, 73]) KS_rf kgv_13 (by decide))) 61 (by decide)) ((show KS [67, 68, 70, 71, 72, 73] gm_j81 gmv_13 from (KS_tr (L := [67, 68, 70, 71, 72, 73]) KS_rf kgv_13 (by decide))) 62 (by decide)) (fV2_r_11) ((show KS [63, 74] sg_j81 sg_6 from (KS_up (KS_up KS_rf esg_3 (by decide)) esg_6 (by decide))) 50 (by decide))) (⟨by have := i32_0; have := i32_1; have := i32_2; have := i32_m1; have := congrArg Int32.toInt (show sg_6 63 = z_5 from up_at esg_6); have := (h_10).1; have := (h_10).2; have := (hsx1_81).1; have := (hsx1_81).2; have := (h63).1; have := (h63).2; have := (hmd).1; have := (hmd).2; have := (hx2_81).1; have := (hx2_81).2; have := (h_2).1; have := (h_2).2; omega, ((show KS [67, 68, 70, 71, 72, 73] gm_j81 gmv_13 from (KS_tr (L := [67, 68, 70, 71, 72, 73]) KS_rf kgv_13 (by decide))) 62 (by decide)).trans hm62, Or.inr (DLV_k fDl_r_11 rfl (hkg_j81 65 (by decide)) (hkg_j81 67 (by decide)))⟩) (MO_of hmo (show KS [63, 74] sg_j81 sg_6 from (KS_up (KS_up KS_rf esg_3 (by decide)) esg_6 (by decide))) (show KS [67, 68, 70, 71, 72, 73] gm_j81 gmv_13 from (KS_tr (L := [67, 68, 70, 71, 72, 73]) KS_rf kgv_13 (by decide))) (by decide) (by decide)) _ _ _ hP hD hS (lv_sub hl [0, 1, 2] rfl)
  have hj39 : ∀ (sg_j39 : Nat → Int32) (gm_j39 : Nat → Nat → Int32) (x2_39 : Int32) (_ : iv 0 79 x2_39) (_ : iv 0 79 b) (_ : KS [49] sg sg_j39) (_ : KS [55, 56, 57, 58] gm gm_j39) (_ : MI sg_j39 gm_j39) (_ : x2_39.toNatClampNeg = TOPn sg) (H : Heap) (locs : List Loc) (ls : Array Slot), va_P (dC, dI) vwCl (mW h0 ad cid sg_j39 gm_j39 lg) H → va_D A (mW h0 ad cid sg_j39 gm_j39 lg) → va_S A s.heap H locs → lv_has ls 3 [(2, .int x2_39), (0, .ref h0), (1, .int b)] → W p l e (headSpec wm_X13_finish ({ frames := 7, cells := 0, slots := 0, locals := 166 })).room s m ([.ref h0, .int b] : List Value).toArray below meth c H locs 0 0 (MQ below (va_Qv (fun v => ∃ (sg2 : Nat → Int32) (gm2 : Nat → Nat → Int32) (lg2 : Nat → Nat → Int64), v = (sg2, gm2, lg2) ∧ MI sg2 gm2 ∧ KS [49, 50, 63, 74] sg sg2 ∧ KS [55, 56, 57, 58, 59, 61, 62, 67, 68, 70, 71, 72, 73] gm gm2 ∧ KS [] lg lg2 ∧ (GI0 sg2 gm2 lg2) ∧ (FIN sg gm b sg2 gm2) ∧ (MO sg2 gm2)) (MB dC dI h0 ad cid A) A) ([.ref h0, .int b] : List Value).toArray s 0 0 A) (F0 m 39 ls []) := by
    intro sg_j39 gm_j39 x2_39 hx2_39 hsx1_39 hks_j39 hkg_j39 hI_j39 htop H locs ls hP hD hS hl
    refine lv_aload_n hx hb dX13_finish_39 rfl (lv_at hl 1 rfl) ?_
    refine mr_get (v := .ref (ad 62)) hx hb htb inX13 hown hK hP 62 (by decide) (htb _ kw_212) rfl dX13_finish_40 ?_
    refine lv_iload_n hx hb dX13_finish_43 rfl (lv_at hl 2 rfl) ?_
    refine lv_iconst (v := 0) hx hb dX13_finish_44 (by decide) ?_
    refine ma_zast (x := 0) hx hb hK hP hD hS 48 (k := 62) rfl rfl rfl (show vp_in b 80 from (iv_in hsx1_39 (by decide))) dX13_finish_45 (fun gm_14 H locs egm_14 hP hD hS => ?_)
    have hI_gm_14 := MI_st hI_j39 egm_14 (iv_of (iv_vb (iv_w (iv_k (by decide) : iv 0 0 0) (by decide))) (iv_k (by decide) : iv 0 0 0)) (by decide)
    refine lv_aload_n hx hb dX13_finish_46 rfl (lv_at hl 1 rfl) ?_
    refine lv_iload_n hx hb dX13_finish_47 rfl (lv_at hl 2 rfl) ?_
    refine mr_calli (rest := []) ⟨hx, hb, hml, hown, htb⟩ (f_isMany l dC dI h0 ad cid sg_j39 gm_14 lg b hI_gm_14 hsx1_39) (cwV 1 htb (gd_V kw_1154 kw_1155 kw_1156 kw_5 kw_1602) rfl rfl rfl (by decide +kernel) ⟨Nat.le_of_ble_eq_true rfl, Nat.le_of_ble_eq_true rfl⟩) rfl hl.1 rfl (Nat.le_of_ble_eq_true rfl) dX13_finish_48 ⟨Nat.zero_le _, Nat.zero_le _⟩ hK hP hD hS hA (fun r_15 u_16 H locs hw hP hD hS => ?_)
    obtain ⟨hr_15, fY_r_15, rfl⟩ := hw
    have hP : va_P (dC, dI) vwCl (mW h0 ad cid sg_j39 gm_14 lg) H := hP
    have hD : va_D A (mW h0 ad cid sg_j39 gm_14 lg) := hD
    refine lv_if_ne (tgt := 81) hx hb dX13_finish_51 (by decide) (fun c_17 => ?_) (fun c_17 => ?_)
    · have h_18 : iv 1 1 r_15 := iv_neL c_17 hr_15 (by decide)
      exact hj81 sg_j39 gm_14 x2_39 hx2_39 hsx1_39 (KS_tr (L := [49, 50]) KS_rf hks_j39 (by decide)) (KS_up (KS_tr (L := [55, 56, 57, 58, 59, 61, 62]) KS_rf hkg_j39 (by decide)) egm_14 (by decide)) hI_gm_14 (htop) (GI0_un hgi (DK_of (show KS [49] sg sg_j39 from (KS_tr (L := [49]) KS_rf hks_j39 (by decide))) (show KS [55, 56, 57, 58, 62] gm gm_14 from (KS_up (KS_tr (L := [55, 56, 57, 58, 62]) KS_rf hkg_j39 (by decide)) egm_14 (by decide))) (show KS [] lg lg from KS_rf) (by decide) (by decide) (by decide)) rfl (Eq.trans (up_ne egm_14 (by decide)) (hkg_j39 60 (by decide))) (Eq.trans (up_ne egm_14 (by decide)) (hkg_j39 61 (by decide))) (show gm_14 62 = upd (gm 62) (b : Int32).toNatClampNeg (vp_nar .boolean 0) from ((up_at egm_14).trans (by rw [show gm_j39 62 = gm 62 from ((hkg_j39 62 (by decide)).trans rfl)]))) (Eq.trans (up_ne egm_14 (by decide)) (hkg_j39 70 (by decide))) (Eq.trans (up_ne egm_14 (by decide)) (hkg_j39 71 (by decide))) (Eq.trans (up_ne egm_14 (by decide)) (hkg_j39 72 (by decide))) (Eq.trans (up_ne egm_14 (by decide)) (hkg_j39 73 (by decide))) (hks_j39 50 (by decide))) (MO_k (hks_j39 50 (by decide)) (hks_j39 41 (by decide)) (Eq.trans (up_ne egm_14 (by decide)) (hkg_j39 59 (by decide))) hmo) ((show gm_14 62 = upd (gm 62) (b : Int32).toNatClampNeg (vp_nar .boolean 0) from ((up_at egm_14).trans (by rw [show gm_j39 62 = gm 62 from ((hkg_j39 62 (by decide)).trans rfl)])))) _ _ _ hP hD hS (lv_sub hl [0, 1, 2] rfl)
    · have h_19 : iv 0 0 r_15 := iv_eq c_17 hr_15 (iv_k (by decide) : iv 0 0 0) (by decide)
      refine lv_aload_n hx hb dX13_finish_54 rfl (lv_at hl 1 rfl) ?_
      refine mr_get (v := .ref (ad 61)) hx hb htb inX13 hown hK hP 61 (by decide) (htb _ kw_211) rfl dX13_finish_55 ?_
      refine lv_iload_n hx hb dX13_finish_58 rfl (lv_at hl 2 rfl) ?_
      refine lv_iconst (v := 1) hx hb dX13_finish_59 (by decide) ?_
      refine ma_zast (x := 1) hx hb hK hP hD hS 47 (k := 61) rfl rfl rfl (show vp_in b 80 from (iv_in hsx1_39 (by decide))) dX13_finish_60 (fun gm_20 H locs egm_20 hP hD hS => ?_)
      have hI_gm_20 := MI_st hI_gm_14 egm_20 (iv_of (iv_vb (iv_w (iv_k (by decide) : iv 1 1 1) (by decide))) (iv_k (by decide) : iv 1 1 1)) (by decide)
      refine lv_aload_n hx hb dX13_finish_61 rfl (lv_at hl 1 rfl) ?_
      refine mr_get (v := .ref (ad 59)) hx hb htb inX13 hown hK hP 59 (by decide) (htb _ kw_209) rfl dX13_finish_62 ?_
      refine lv_aload_n hx hb dX13_finish_65 rfl (lv_at hl 1 rfl) ?_
      refine mr_get (v := .int (sg_j39 50)) hx hb htb inX13 hown hK hP 50 (by decide) (htb _ kw_824) rfl dX13_finish_66 ?_
      refine lv_topi (fun z_21 ez_21 => ?_)
      obtain rfl : (sg 50) = z_21 := (ez_21.trans (hks_j39 50 (by decide))).symm
      refine lv_iload_n hx hb dX13_finish_69 rfl (lv_at hl 2 rfl) ?_
      refine ma_iast (x := b) hx hb hK hP hD hS 45 (k := 59) rfl rfl rfl (show vp_in (sg 50) 80 from (iv_in hmd (by decide))) dX13_finish_70 (fun gm_22 H locs egm_22 hP hD hS => ?_)
      have hI_gm_22 := MI_st hI_gm_20 egm_22 hsx1_39 (by decide)
      refine lv_aload_n hx hb dX13_finish_71 rfl (lv_at hl 1 rfl) ?_
      refine lv_dup hx hb dX13_finish_72 rfl ?_
      refine mr_get (v := .int (sg_j39 50)) hx hb htb inX13 hown hK hP 50 (by decide) (htb _ kw_824) rfl dX13_finish_73 ?_
      refine lv_topi (fun z_23 ez_23 => ?_)
      obtain rfl : (sg 50) = z_23 := (ez_23.trans (hks_j39 50 (by decide))).symm
      refine lv_iconst (v := 1) hx hb dX13_finish_76 (by decide) ?_
      refine lv_iadd hx hb dX13_finish_77 ?_
      refine lv_topi (fun z_24 ez_24 => ?_)
      have hz_24 : iv 1 80 z_24 := iv_of ez_24 (iv_add hmd (iv_k (by decide) : iv 1 1 1) (by decide))
      have tz_24 : z_24.toInt = ((sg 50) : Int32).toInt + 1 := by rw [ez_24]; exact iv_addE hmd (iv_k (by decide) : iv 1 1 1) (by decide)
      refine ma_put (x := z_24) hx hb htb inX13 hown hK hP hD hS 50 (by decide) (by decide) (htb _ kw_824) rfl rfl rfl dX13_finish_78 (fun sg_25 H locs esg_25 hP hD hS => ?_)
      have hI_sg_25 := MI_put hI_gm_22 esg_25 hz_24 (by decide)
      have hmy : ¬ mMny gm lg b.toNatClampNeg := by { rcases fY_r_15 with ⟨_, q9⟩ | ⟨q9, _⟩; (rw [mMny_k (sg := sg) (gm := gm) (lg := lg) (DK_of (show KS [49] sg sg_j39 from (KS_tr (L := [49]) KS_rf hks_j39 (by decide))) (show KS [55, 56, 57, 58, 62] gm gm_14 from (KS_up (KS_tr (L := [55, 56, 57, 58, 62]) KS_rf hkg_j39 (by decide)) egm_14 (by decide))) (show KS [] lg lg from KS_rf) (by decide) (by decide) (by decide)) rfl] at q9; exact q9); exact absurd (congrArg Int32.toInt c_17) (by rw [q9]; decide) }
      exact hj81 sg_25 gm_22 x2_39 hx2_39 hsx1_39 (KS_up (KS_tr (L := [49, 50]) KS_rf hks_j39 (by decide)) esg_25 (by decide)) (KS_up (KS_up (KS_up (KS_tr (L := [55, 56, 57, 58, 59, 61, 62]) KS_rf hkg_j39 (by decide)) egm_14 (by decide)) egm_20 (by decide)) egm_22 (by decide)) hI_sg_25 (htop) (GI0_fin hgi (DK_of (show KS [49, 50] sg sg_25 from (KS_up (KS_tr (L := [49, 50]) KS_rf hks_j39 (by decide)) esg_25 (by decide))) (show KS [55, 56, 57, 58, 59, 61, 62] gm gm_22 from (KS_up (KS_up (KS_up (KS_tr (L := [55, 56, 57, 58, 59, 61, 62]) KS_rf hkg_j39 (by decide)) egm_14 (by decide)) egm_20 (by decide)) egm_22 (by decide))) (show KS [] lg lg from KS_rf) (by decide) (by decide) (by decide)) rfl (Eq.trans (Eq.trans (Eq.trans (up_ne egm_22 (by decide)) (up_ne egm_20 (by decide))) (up_ne egm_14 (by decide))) (hkg_j39 60 (by decide))) (show gm_22 61 = upd (gm 61) (b : Int32).toNatClampNeg (vp_nar .boolean 1) from ((up_ne egm_22 (by decide)).trans ((up_at egm_20).trans (by rw [show gm_14 61 = gm 61 from ((up_ne egm_14 (by decide)).trans ((hkg_j39 61 (by decide)).trans rfl))])))) (show gm_22 62 = upd (gm 62) (b : Int32).toNatClampNeg (vp_nar .boolean 0) from ((up_ne egm_22 (by decide)).trans ((up_ne egm_20 (by decide)).trans ((up_at egm_14).trans (by rw [show gm_j39 62 = gm 62 from ((hkg_j39 62 (by decide)).trans rfl)]))))) (Eq.trans (Eq.trans (Eq.trans (up_ne egm_22 (by decide)) (up_ne egm_20 (by decide))) (up_ne egm_14 (by decide))) (hkg_j39 70 (by decide))) (Eq.trans (Eq.trans (Eq.trans (up_ne egm_22 (by decide)) (up_ne egm_20 (by decide))) (up_ne egm_14 (by decide))) (hkg_j39 71 (by decide))) (Eq.trans (Eq.trans (Eq.trans (up_ne egm_22 (by decide)) (up_ne egm_20 (by decide))) (up_ne egm_14 (by decide))) (hkg_j39 72 (by decide))) (Eq.trans (Eq.trans (Eq.trans (up_ne egm_22 (by decide)) (up_ne egm_20 (by decide))) (up_ne egm_14 (by decide))) (hkg_j39 73 (by decide))) (by have := i32_0; have := i32_1; have := i32_2; have := i32_m1; have := congrArg Int32.toInt (show sg_25 50 = z_24 from up_at esg_25); have := (hz_24).1; have := (hz_24).2; have := (hsx1_39).1; have := (hsx1_39).2; have := (h63).1; have := (h63).2; have := (hmd).1; have := (hmd).2; have := (hx2_39).1; have := (hx2_39).2; have := (h_19).1; have := (h_19).2; omega) hb80 h610 hmy (how hmy)) (MO_s hmo hpt.2.2 hmd.1 (by have := i32_0; have := i32_1; have := i32_2; have := i32_m1; have := congrArg Int32.toInt (show sg_25 50 = z_24 from up_at esg_25); have := (hz_24).1; have := (hz_24).2; have := (hsx1_39).1; have := (hsx1_39).2; have := (h63).1; have := (h63).2; have := (hmd).1; have := (hmd).2; have := (hx2_39).1; have := (hx2_39).2; have := (h_19).1; have := (h_19).2; omega) (Eq.trans (up_ne esg_25 (by decide)) (hks_j39 41 (by decide))) (show gm_22 59 = upd (gm 59) ((sg 50) : Int32).toNatClampNeg b from ((up_at egm_22).trans (by rw [show gm_20 59 = gm 59 from ((up_ne egm_20 (by decide)).trans ((up_ne egm_14 (by decide)).trans ((hkg_j39 59 (by decide)).trans rfl)))])))) ((show gm_22 62 = upd (gm 62) (b : Int32).toNatClampNeg (vp_nar .boolean 0) from ((up_ne egm_22 (by decide)).trans ((up_ne egm_20 (by decide)).trans ((up_at egm_14).trans (by rw [show gm_j39 62 = gm 62 from ((hkg_j39 62 (by decide)).trans rfl)])))))) _ _ _ hP hD hS (lv_sub hl [0, 1, 2] rfl)
  refine lv_aload_n hx hb dX13_finish_0 rfl (lv_at hl 0 rfl) ?_
  refine mr_get (v := .int (sg 63)) hx hb htb inX13 hown hK hP 63 (by decide) (htb _ kw_1160) rfl dX13_finish_1 ?_
  refine lv_iconst (v := 1) hx hb dX13_finish_4 (by decide) ?_
  refine lv_isub hx hb dX13_finish_5 ?_
  refine lv_topi (fun z_26 ez_26 => ?_)
  have hz_26 : iv 0 79 z_26 := iv_of ez_26 (iv_sub h63 (iv_k (by decide) : iv 1 1 1) (by decide))
  have tz_26 : z_26.toInt = ((sg 63) : Int32).toInt - 1 := by rw [ez_26]; exact iv_subE h63 (iv_k (by decide) : iv 1 1 1) (by decide)
  refine lv_istore_n (lv' := [(2, .int z_26), (0, .ref h0), (1, .int b)]) hx hb dX13_finish_6 rfl hl (by decide) rfl (fun ls hl => ?_)
  have htop := top_n h63 tz_26
  refine lv_aload_n hx hb dX13_finish_7 rfl (lv_at hl 1 rfl) ?_
  refine lv_iload_n hx hb dX13_finish_8 rfl (lv_at hl 2 rfl) ?_
  refine lv_ldc2 (own := RX13) (v := 1768843636) hx hb hown (htb _ kw_907) dX13_finish_9 ?_
  refine mr_calli (rest := []) ⟨hx, hb, hml, hown, htb⟩ (a_letter l dC dI h0 ad cid sg gm lg b 1768843636 hI (iv_w hvb (by decide)) hpt.2.2 (hdoc.1.2.2.2)) (cwV 2 htb (gd_V kw_1204 kw_1205 kw_1206 kw_5 kw_1618) rfl rfl rfl (by decide +kernel) ⟨Nat.le_of_ble_eq_true rfl, Nat.le_of_ble_eq_true rfl⟩) rfl hl.1 rfl (Nat.le_of_ble_eq_true rfl) dX13_finish_12 ⟨Nat.zero_le _, Nat.zero_le _⟩ hK hP hD hS hA (fun r_27 u_28 H locs hw hP hD hS => ?_)
  obtain rfl := hw
  have hP : va_P (dC, dI) vwCl (mW h0 ad cid sg gm lg) H := hP
  have hD : va_D A (mW h0 ad cid sg gm lg) := hD
  refine lv_iconst (v := (-1)) hx hb dX13_finish_15 (by decide) ?_
  refine lv_icmp_eq (tgt := 39) hx hb dX13_finish_16 (by decide) (fun c_29 => ?_) (fun c_29 => ?_)
  · have h_30 : iv (-1) (-1) r_27 := iv_eq c_29 (iv_all r_27) (iv_k (by decide) : iv (-1) (-1) (-1)) (by decide)
    exact hj39 sg gm z_26 hz_26 hvb KS_rf KS_rf hI (htop) _ _ _ hP hD hS (lv_sub hl [0, 1, 2] rfl)
  · have d_31 : ¬ (r_27 : Int32).toInt = (-1) := lv_neT c_29 rfl
    refine lv_aload_n hx hb dX13_finish_19 rfl (lv_at hl 1 rfl) ?_
    refine lv_iconst (v := 5) hx hb dX13_finish_20 (by decide) ?_
    refine lv_aload_n hx hb dX13_finish_21 rfl (lv_at hl 1 rfl) ?_
    refine mr_get (v := .ref (ad 69)) hx hb htb inX13 hown hK hP 69 (by decide) (htb _ kw_218) rfl dX13_finish_22 ?_
    refine lv_iload_n hx hb dX13_finish_25 rfl (lv_at hl 0 rfl) ?_
    refine mr_iald hx hb hK hP 54 (k := 69) rfl rfl rfl (show vp_in z_26 81 from (iv_in hz_26 (by decide))) dX13_finish_26 ?_
    refine lv_topi (fun z_32 ez_32 => ?_)
    have hz_32 : iv (-1) 59 z_32 := iv_of ez_32 (MI_a hI 69 hz_26 (by decide))
    refine lv_aload_n hx hb dX13_finish_27 rfl (lv_at hl 1 rfl) ?_
    refine lv_iload_n hx hb dX13_finish_28 rfl (lv_at hl 2 rfl) ?_
    refine lv_ldc2 (own := RX13) (v := 1768843636) hx hb hown (htb _ kw_907) dX13_finish_29 ?_
    refine mr_calli (rest := [.int z_32, .int 5, .ref h0]) ⟨hx, hb, hml, hown, htb⟩ (a_letter l dC dI h0 ad cid sg gm lg b 1768843636 hI (iv_w hvb (by decide)) hpt.2.2 (hdoc.1.2.2.2)) (cwV 2 htb (gd_V kw_1204 kw_1205 kw_1206 kw_5 kw_1618) rfl rfl rfl (by decide +kernel) ⟨Nat.le_of_ble_eq_true rfl, Nat.le_of_ble_eq_true rfl⟩) rfl hl.1 rfl (Nat.le_of_ble_eq_true rfl) dX13_finish_32 ⟨Nat.zero_le _, Nat.zero_le _⟩ hK hP hD hS hA (fun r_33 u_34 H locs hw hP hD hS => ?_)
    obtain rfl := hw
    have hP : va_P (dC, dI) vwCl (mW h0 ad cid sg gm lg) H := hP
    have hD : va_D A (mW h0 ad cid sg gm lg) := hD
    refine lv_iconst (v := 0) hx hb dX13_finish_35 (by decide) ?_
    refine mr_callv (rest := []) ⟨hx, hb, hml, hown, htb⟩ (a_happens l dC dI h0 ad cid sg gm lg 5 z_32 r_33 0 hI) (cwV 4 htb (gd_V kw_1245 kw_1246 kw_1247 kw_5 kw_1630) rfl rfl rfl (by decide +kernel) ⟨Nat.le_of_ble_eq_true rfl, Nat.le_of_ble_eq_true rfl⟩) rfl hl.1 rfl (Nat.le_of_ble_eq_true rfl) dX13_finish_36 ⟨Nat.zero_le _, Nat.zero_le _⟩ hK hP hD hS hA (fun u_36 H locs hw hP hD hS => ?_)
    obtain ⟨sgv_37, gmv_37, lgv_37, rfl, hIv_37, ksv_37, kgv_37, klv_37⟩ := hw
    obtain rfl := KS_nil klv_37
    have hP : va_P (dC, dI) vwCl (mW h0 ad cid sgv_37 gmv_37 lg) H := hP
    have hD : va_D A (mW h0 ad cid sgv_37 gmv_37 lg) := hD
    exact hj39 sgv_37 gmv_37 z_26 hz_26 hvb (KS_tr (L := [49]) KS_rf ksv_37 (by decide)) (KS_tr (L := [55, 56, 57, 58]) KS_rf kgv_37 (by decide)) hIv_37 (htop) _ _ _ hP hD hS (lv_sub hl [0, 1, 2] rfl)
