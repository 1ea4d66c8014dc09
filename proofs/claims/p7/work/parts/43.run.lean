theorem GI0_off {sg sg2 : Nat → Int32} {gm gm2 : Nat → Nat → Int32} {lg lg2 : Nat → Nat → Int64} {b : Nat} {v : Int32} (q : GI0 sg gm lg) (h : DK sg gm lg sg2 gm2 lg2) (h1 : lg2 1 = lg 1) (h60 : gm2 60 = upd (gm 60) b v) (h61 : gm2 61 = gm 61) (h62 : gm2 62 = upd (gm 62) b 0) (h70 : gm2 70 = gm 70) (h71 : gm2 71 = gm 71) (h72 : gm2 72 = gm 72) (h73 : gm2 73 = gm 73) (h50 : sg2 50 = sg 50) (h0 : ¬ gm 62 b = 0) : GI0 sg2 gm2 lg2 := by
  refine ⟨VAL_k h70 h71 h72 h73 q.1, fun k hk => ?_, by rw [h50, h61]; exact q.2.2⟩
  have := q.2.1 k hk
  unfold BI at *
  rw [h61, mMny_k h h1]
  intro h9
  have h8 := this h9
  have e9 : k ≠ b := fun e9 => h0 (by rw [← e9]; exact h8.2.2)
  refine ⟨?_, h8.2.1, ?_⟩
  · rw [h60, upd_ne e9]; exact h8.1
  · rw [h62, upd_ne e9]; exact h8.2.2
def VB (gm : Nat → Nat → Int32) (lg : Nat → Nat → Int64) : Prop := VAL gm ∧ ∀ b, b < 80 → BI gm lg b
theorem VB_k {sg sg2 : Nat → Int32} {gm gm2 : Nat → Nat → Int32} {lg lg2 : Nat → Nat → Int64} (q : VB gm lg) (h : DK sg gm lg sg2 gm2 lg2) (h1 : lg2 1 = lg 1) (h60 : gm2 60 = gm 60) (h61 : gm2 61 = gm 61) (h62 : gm2 62 = gm 62) (h70 : gm2 70 = gm 70) (h71 : gm2 71 = gm 71) (h72 : gm2 72 = gm 72) (h73 : gm2 73 = gm 73) : VB gm2 lg2 := by
  refine ⟨VAL_k h70 h71 h72 h73 q.1, fun b hb => ?_⟩
  have := q.2 b hb
  unfold BI at *
  rw [h60, h61, h62, mMny_k h h1]
  exact this
theorem VB_of {sg sg2 : Nat → Int32} {gm gm2 : Nat → Nat → Int32} {lg lg2 : Nat → Nat → Int64} {Ls Lg Ll : List Nat} (q : VB gm lg) (h1 : KS Ls sg sg2) (h2 : KS Lg gm gm2) (h3 : KS Ll lg lg2) (q1 : (Ls.contains 24 || Ls.contains 41) = false) (q2 : ([26, 28, 29, 30, 36, 37, 38, 42, 43].all fun k => !Lg.contains k) = true) (q3 : Ll.contains 35 = false) (q4 : ([60, 61, 62, 70, 71, 72, 73].all fun k => !Lg.contains k) = true) (q6 : Ll.contains 1 = false) : VB gm2 lg2 := by
  have g : ∀ k ∈ [60, 61, 62, 70, 71, 72, 73], gm2 k = gm k := fun k hk => h2 k (by have := List.all_eq_true.mp q4 k hk; simpa using this)
  exact VB_k q (DK_of h1 h2 h3 q1 q2 q3) (h3 1 q6) (g 60 (by decide)) (g 61 (by decide)) (g 62 (by decide)) (g 70 (by decide)) (g 71 (by decide)) (g 72 (by decide)) (g 73 (by decide))
theorem VB_sh {sg sg2 : Nat → Int32} {gm gm2 : Nat → Nat → Int32} {lg lg2 : Nat → Nat → Int64} {b b2 : Nat} {v : Int32} (q : VB gm lg) (h : DK sg gm lg sg2 gm2 lg2) (h1 : lg2 1 = lg 1) (h60 : gm2 60 = upd (gm 60) b v) (h61 : gm2 61 = upd (gm 61) b2 0) (hb : b2 = b) (h62 : gm2 62 = gm 62) (h70 : gm2 70 = gm 70) (h71 : gm2 71 = gm 71) (h72 : gm2 72 = gm 72) (h73 : gm2 73 = gm 73) : VB gm2 lg2 := by
  subst hb
  refine ⟨VAL_k h70 h71 h72 h73 q.1, fun k hk => ?_⟩
  have := q.2 k hk
  unfold BI at *
  rw [h61, h62, mMny_k h h1]
  by_cases e9 : k = b2
  · rw [e9, upd_at]; intro z; exact absurd rfl z
  · rw [upd_ne e9, h60, upd_ne e9]; exact this
theorem GI0_vb {sg : Nat → Int32} {gm : Nat → Nat → Int32} {lg : Nat → Nat → Int64} (q : VB gm lg) (h : (sg 50).toInt = 0) : GI0 sg gm lg := ⟨q.1, q.2, by omega⟩
theorem MO_0 {sg : Nat → Int32} {gm : Nat → Nat → Int32} (h : (sg 50).toInt = 0) : MO sg gm := fun k hk => by have := cl_0 (x := sg 50) (by omega); omega
theorem GI0_clr {sg : Nat → Int32} {gm : Nat → Nat → Int32} {lg : Nat → Nat → Int64} (hv : VAL gm) (h : CLR sg gm) : GI0 sg gm lg := ⟨hv, fun b hb q => absurd (h.2 b (Nat.zero_le _) hb).2.1 q, by have := h.1; omega⟩

set_option maxHeartbeats 4000000 in
set_option maxRecDepth 100000 in
theorem f_run (l : Launch) (dC : Nat → ClassId) (dI : Nat → Nat → Nat) (h0 : Nat) (ad : Nat → Nat) (cid : Nat → ClassId) (sg : Nat → Int32) (gm : Nat → Nat → Int32) (lg : Nat → Nat → Int64) (b : Int32) (hI : MI sg gm) (hvb : iv (-1) 79 b) (hdoc : DOC sg gm lg) (hgi : GI0 sg gm lg) (hPR : PR gm) (hmo : MO sg gm) (hbl : b.toInt < (sg 41).toInt) : MMi l dC dI yX13_run wm_X13_run ({ frames := 11, cells := 0, slots := 0, locals := 277 }) h0 ad cid [.int b] sg gm lg (fun r v => ∃ (sg2 : Nat → Int32) (gm2 : Nat → Nat → Int32) (lg2 : Nat → Nat → Int64), v = (sg2, gm2, lg2) ∧ MI sg2 gm2 ∧ KS [48, 49, 50, 51, 52, 63, 74] sg sg2 ∧ KS [53, 54, 55, 56, 57, 58, 59, 60, 61, 62, 64, 65, 66, 67, 68, 69, 70, 71, 72, 73, 75] gm gm2 ∧ KS [] lg lg2 ∧ (iv 0 1 r) ∧ (GI0 sg2 gm2 lg2) ∧ (MO sg2 gm2)) := by
  intro sz
  refine Met.ofW (cc := cX13_run) (maxL := 4) (ret := (some .boolean)) (by decide) rfl ?_
  intro p e s m args below meth c s₁ B hml hv
  obtain ⟨rfl, hsz, hP, hK, hD0⟩ := hv
  have hx := B.exec
  have hb := B.bytes
  have hr := B.returns
  have hts := atoms_spec (ws := wm_X13_run) B.pre
  have htb := fun (w : Cond) (h : w ∈ tb) => hts w (List.mem_cons_of_mem _ h)
  have hown : s.vm.findClass RX13 = some m.cls := findClass_of_methodNamed B.named
  have hlocks := B.notSynchronized
  subst hsz
  have hD := hD0.self (sz := s.heap.size)
  generalize hAe : va_A (mW h0 ad cid sg gm lg) s.heap.size = A at hD ⊢
  have hA : ∀ q : Nat, s.heap.size ≤ q → A q := fun q h => by rw [← hAe]; exact Or.inr h
  have hS : va_S A s.heap s.heap [] := va_S.rf
  have hl := lv_entry ([.ref h0, .int b]) (n := 4) (Nat.le_of_ble_eq_true rfl)
  rw [lg_entry_eq]
  generalize (lg_sl ([.ref h0, .int b]) ++ List.replicate (4 - (lg_sl ([.ref h0, .int b])).length) Slot.unset).toArray = ls at hl ⊢
  have hl : lv_has ls 4 [(0, .ref h0), (1, .int b)] := hl
  have hj52 : ∀ (n : Nat) (sg_j52 : Nat → Int32) (gm_j52 : Nat → Nat → Int32) (x3_52 : Int32) (x2_52 : Int32) (_ : (80 - x3_52.toInt).toNat = n) (_ : iv 0 80 x3_52) (_ : iv 0 1 x2_52) (_ : iv (-1) 79 b) (_ : KS [48, 49, 50, 51, 52, 63, 74] sg sg_j52) (_ : KS [53, 54, 55, 56, 57, 58, 59, 60, 61, 62, 64, 65, 66, 67, 68, 69, 70, 71, 72, 73, 75] gm gm_j52) (_ : MI sg_j52 gm_j52) (_ : GI0 sg_j52 gm_j52 lg) (_ : MO sg_j52 gm_j52) (H : Heap) (locs : List Loc) (ls : Array Slot), va_P (dC, dI) vwCl (mW h0 ad cid sg_j52 gm_j52 lg) H → va_D A (mW h0 ad cid sg_j52 gm_j52 lg) → va_S A s.heap H locs → lv_has ls 4 [(3, .int x3_52), (2, .int x2_52), (0, .ref h0), (1, .int b)] → W p l e (headSpec wm_X13_run ({ frames := 11, cells := 0, slots := 0, locals := 277 })).room s m ([.ref h0, .int b] : List Value).toArray below meth c H locs 0 0 (MQ below (va_Qi (fun r v => ∃ (sg2 : Nat → Int32) (gm2 : Nat → Nat → Int32) (lg2 : Nat → Nat → Int64), v = (sg2, gm2, lg2) ∧ MI sg2 gm2 ∧ KS [48, 49, 50, 51, 52, 63, 74] sg sg2 ∧ KS [53, 54, 55, 56, 57, 58, 59, 60, 61, 62, 64, 65, 66, 67, 68, 69, 70, 71, 72, 73, 75] gm gm2 ∧ KS [] lg lg2 ∧ (iv 0 1 r) ∧ (GI0 sg2 gm2 lg2) ∧ (MO sg2 gm2)) (MB dC dI h0 ad cid A) A) ([.ref h0, .int b] : List Value).toArray s 0 0 A) (F0 m 52 ls []) := by
    intro n
    induction n using Nat.strongRecOn with
    | ind n ih52 =>
      intro sg_j52 gm_j52 x3_52 x2_52 hn52 hx3_52 hx2_52 hsx1_52 hks_j52 hkg_j52 hI_j52 hgi hmo H locs ls hP hD hS hl
      have hj86 : ∀ (sg_j86 : Nat → Int32) (gm_j86 : Nat → Nat → Int32) (_ : iv 0 79 x3_52) (_ : iv 0 1 x2_52) (_ : iv (-1) 79 b) (_ : KS [48, 49, 50, 51, 52, 63, 74] sg sg_j86) (_ : KS [53, 54, 55, 56, 57, 58, 59, 60, 61, 62, 64, 65, 66, 67, 68, 69, 70, 71, 72, 73, 75] gm gm_j86) (_ : MI sg_j86 gm_j86) (_ : GI0 sg_j86 gm_j86 lg) (_ : MO sg_j86 gm_j86) (H : Heap) (locs : List Loc) (ls : Array Slot), va_P (dC, dI) vwCl (mW h0 ad cid sg_j86 gm_j86 lg) H → va_D A (mW h0 ad cid sg_j86 gm_j86 lg) → va_S A s.heap H locs → lv_has ls 4 [(3, .int x3_52), (2, .int x2_52), (0, .ref h0), (1, .int b)] → W p l e (headSpec wm_X13_run ({ frames := 11, cells := 0, slots := 0, locals := 277 })).room s m ([.ref h0, .int b] : List Value).toArray below meth c H locs 0 0 (MQ below (va_Qi (fun r v => ∃ (sg2 : Nat → Int32) (gm2 : Nat → Nat → Int32) (lg2 : Nat → Nat → Int64), v = (sg2, gm2, lg2) ∧ MI sg2 gm2 ∧ KS [48, 49, 50, 51, 52, 63, 74] sg sg2 ∧ KS [53, 54, 55, 56, 57, 58, 59, 60, 61, 62, 64, 65, 66, 67, 68, 69, 70, 71, 72, 73, 75] gm gm2 ∧ KS [] lg lg2 ∧ (iv 0 1 r) ∧ (GI0 sg2 gm2 lg2) ∧ (MO sg2 gm2)) (MB dC dI h0 ad cid A) A) ([.ref h0, .int b] : List Value).toArray s 0 0 A) (F0 m 86 ls []) := by
        intro sg_j86 gm_j86 hsx3_86 hsx2_86 hsx1_86 hks_j86 hkg_j86 hI_j86 hgi hmo H locs ls hP hD hS hl
        obtain ⟨z_1, ez_1⟩ : ∃ z : Int32, z = x3_52 + 1 := ⟨_, rfl⟩
        have hz_1 : iv 1 80 z_1 := iv_of ez_1 (iv_add hsx3_86 (iv_k (by decide) : iv 1 1 1) (by decide))
        have tz_1 : z_1.toInt = x3_52.toInt + 1 := by rw [ez_1]; exact iv_addE hsx3_86 (iv_k (by decide) : iv 1 1 1) (by decide)
        refine lv_iinc (v := z_1) (lv' := [(3, .int z_1), (2, .int x2_52), (0, .ref h0), (1, .int b)]) hx hb dX13_run_86 hl (k := 0) rfl ez_1.symm (by decide) rfl (fun ls hl => ?_)
        refine lv_goto (tgt := 52) hx hb dX13_run_89 (by decide) ?_
        exact ih52 _ (by rw [← hn52]; exact (iv_meas tz_1 hsx3_86 (by decide))) sg_j86 gm_j86 z_1 x2_52 rfl (iv_w hz_1 (by decide)) hsx2_86 hsx1_86 (KS_tr (L := [48, 49, 50, 51, 52, 63, 74]) KS_rf hks_j86 (by decide)) (KS_tr (L := [53, 54, 55, 56, 57, 58, 59, 60, 61, 62, 64, 65, 66, 67, 68, 69, 70, 71, 72, 73, 75]) KS_rf hkg_j86 (by decide)) hI_j86 (hgi) (hmo) _ _ _ hP hD hS (lv_sub hl [0, 1, 2, 3] rfl)
      refine lv_iload_n hx hb dX13_run_52 rfl (lv_at hl 0 rfl) ?_
      refine lv_aload_n hx hb dX13_run_53 rfl (lv_at hl 2 rfl) ?_
      refine mr_get (v := .int (sg_j52 41)) hx hb htb inX13 hown hK hP 41 (by decide) (htb _ kw_817) rfl dX13_run_54 ?_
      refine lv_topi (fun z_2 ez_2 => ?_)
      obtain rfl : (sg 41) = z_2 := (ez_2.trans (hks_j52 41 (by decide))).symm
      refine lv_icmp_ge (tgt := 92) hx hb dX13_run_57 (by decide) (fun c_3 => ?_) (fun c_3 => ?_)
      · have d_4 : ((sg 41) : Int32).toInt ≤ (x3_52 : Int32).toInt := Int32.le_iff_toInt_le.mp c_3
        refine lv_iconst (v := 0) hx hb dX13_run_92 (by decide) ?_
        exact W.zret (v := 0) hx hb hr (iv_nb (iv_w (iv_k (by decide) : iv 0 0 0) (by decide))) (fun t ht hW => ⟨⟨0, (sg_j52, gm_j52, lg), rfl, ⟨sg_j52, gm_j52, lg, rfl, hI_j52, (KS_tr (L := [48, 49, 50, 51, 52, 63, 74]) KS_rf hks_j52 (by decide)), (KS_tr (L := [53, 54, 55, 56, 57, 58, 59, 60, 61, 62, 64, 65, 66, 67, 68, 69, 70, 71, 72, 73, 75]) KS_rf hkg_j52 (by decide)), KS_rf, (iv_w (iv_k (by decide) : iv 0 0 0) (by decide)), (hgi), (hmo)⟩, by rw [ht]; exact hP, va_K.moved hW.alike hK, hD⟩, hS.F ht⟩) hS.2.2 dX13_run_93
      · have d_5 : (x3_52 : Int32).toInt < ((sg 41) : Int32).toInt := Int32.lt_iff_toInt_lt.mp (i32_lt c_3)
        have h_6 : iv 0 79 x3_52 := iv_ltL (i32_lt c_3) hx3_52 (show iv 0 80 (sg 41) from MI_s hI 41) (by decide)
        have h_7 : iv 1 80 (sg 41) := iv_ltR (i32_lt c_3) hx3_52 (show iv 0 80 (sg 41) from MI_s hI 41) (by decide)
        refine lv_aload_n hx hb dX13_run_60 rfl (lv_at hl 2 rfl) ?_
        refine mr_get (v := .ref (ad 62)) hx hb htb inX13 hown hK hP 62 (by decide) (htb _ kw_212) rfl dX13_run_61 ?_
        refine lv_iload_n hx hb dX13_run_64 rfl (lv_at hl 0 rfl) ?_
        refine mr_zald hx hb hK hP 48 (k := 62) rfl rfl rfl (show vp_in x3_52 80 from (iv_in h_6 (by decide))) dX13_run_65 ?_
        refine lv_topi (fun z_8 ez_8 => ?_)
        have hz_8 : iv 0 1 z_8 := iv_of ez_8 (MI_a hI_j52 62 h_6 (by decide))
        refine lv_if_ne (tgt := 72) hx hb dX13_run_66 (by decide) (fun c_9 => ?_) (fun c_9 => ?_)
        · have h_10 : iv 1 1 z_8 := iv_neL c_9 hz_8 (by decide)
          refine lv_aload_n hx hb dX13_run_72 rfl (lv_at hl 2 rfl) ?_
          refine mr_get (v := .ref (ad 62)) hx hb htb inX13 hown hK hP 62 (by decide) (htb _ kw_212) rfl dX13_run_73 ?_
          refine lv_iload_n hx hb dX13_run_76 rfl (lv_at hl 0 rfl) ?_
          refine lv_iconst (v := 0) hx hb dX13_run_77 (by decide) ?_
          refine ma_zast (x := 0) hx hb hK hP hD hS 48 (k := 62) rfl rfl rfl (show vp_in x3_52 80 from (iv_in h_6 (by decide))) dX13_run_78 (fun gm_11 H locs egm_11 hP hD hS => ?_)
          have hI_gm_11 := MI_st hI_j52 egm_11 (iv_of (iv_vb (iv_w (iv_k (by decide) : iv 0 0 0) (by decide))) (iv_k (by decide) : iv 0 0 0)) (by decide)
          refine lv_aload_n hx hb dX13_run_79 rfl (lv_at hl 2 rfl) ?_
          refine mr_get (v := .ref (ad 60)) hx hb htb inX13 hown hK hP 60 (by decide) (htb _ kw_210) rfl dX13_run_80 ?_
          refine lv_iload_n hx hb dX13_run_83 rfl (lv_at hl 0 rfl) ?_
          refine lv_iconst (v := (-1)) hx hb dX13_run_84 (by decide) ?_
          refine ma_iast (x := (-1)) hx hb hK hP hD hS 46 (k := 60) rfl rfl rfl (show vp_in x3_52 80 from (iv_in h_6 (by decide))) dX13_run_85 (fun gm_12 H locs egm_12 hP hD hS => ?_)
          have hI_gm_12 := MI_st hI_gm_11 egm_12 (iv_k (by decide) : iv (-1) (-1) (-1)) (by decide)
          exact hj86 sg_j52 gm_12 h_6 hx2_52 hsx1_52 (KS_tr (L := [48, 49, 50, 51, 52, 63, 74]) KS_rf hks_j52 (by decide)) (KS_up (KS_up (KS_tr (L := [53, 54, 55, 56, 57, 58, 59, 60, 61, 62, 64, 65, 66, 67, 68, 69, 70, 71, 72, 73, 75]) KS_rf hkg_j52 (by decide)) egm_11 (by decide)) egm_12 (by decide)) hI_gm_12 (GI0_off hgi (DK_of (show KS [] sg_j52 sg_j52 from KS_rf) (show KS [60, 62] gm_j52 gm_12 from (KS_up (KS_up KS_rf egm_11 (by decide)) egm_12 (by decide))) (show KS [] lg lg from KS_rf) (by decide) (by decide) (by decide)) ((show KS [] lg lg from KS_rf) 1 (by decide)) (show gm_12 60 = upd (gm_j52 60) _ _ from (Eq.trans (up_at egm_12) (by rw [(up_ne egm_11 (by decide))]))) ((show KS [60, 62] gm_j52 gm_12 from (KS_up (KS_up KS_rf egm_11 (by decide)) egm_12 (by decide))) 61 (by decide)) (show gm_12 62 = upd (gm_j52 62) _ _ from (Eq.trans (up_ne egm_12 (by decide)) (up_at egm_11))) ((show KS [60, 62] gm_j52 gm_12 from (KS_up (KS_up KS_rf egm_11 (by decide)) egm_12 (by decide))) 70 (by decide)) ((show KS [60, 62] gm_j52 gm_12 from (KS_up (KS_up KS_rf egm_11 (by decide)) egm_12 (by decide))) 71 (by decide)) ((show KS [60, 62] gm_j52 gm_12 from (KS_up (KS_up KS_rf egm_11 (by decide)) egm_12 (by decide))) 72 (by decide)) ((show KS [60, 62] gm_j52 gm_12 from (KS_up (KS_up KS_rf egm_11 (by decide)) egm_12 (by decide))) 73 (by decide)) ((show KS [] sg_j52 sg_j52 from KS_rf) 50 (by decide)) (by rw [← ez_8]; exact c_9)) (MO_of hmo (show KS [] sg_j52 sg_j52 from KS_rf) (show KS [60, 62] gm_j52 gm_12 from (KS_up (KS_up KS_rf egm_11 (by decide)) egm_12 (by decide))) (by decide) (by decide)) _ _ _ hP hD hS (lv_sub hl [0, 1, 2, 3] rfl)
        · have h_13 : iv 0 0 z_8 := iv_eq c_9 hz_8 (iv_k (by decide) : iv 0 0 0) (by decide)
          refine lv_goto (tgt := 86) hx hb dX13_run_69 (by decide) ?_
          exact hj86 sg_j52 gm_j52 h_6 hx2_52 hsx1_52 (KS_tr (L := [48, 49, 50, 51, 52, 63, 74]) KS_rf hks_j52 (by decide)) (KS_tr (L := [53, 54, 55, 56, 57, 58, 59, 60, 61, 62, 64, 65, 66, 67, 68, 69, 70, 71, 72, 73, 75]) KS_rf hkg_j52 (by decide)) hI_j52 (hgi) (hmo) _ _ _ hP hD hS (lv_sub hl [0, 1, 2, 3] rfl)
  have hj36 : ∀ (sg_j36 : Nat → Int32) (gm_j36 : Nat → Nat → Int32) (x2_36 : Int32) (_ : iv 0 1 x2_36) (_ : iv (-1) 79 b) (_ : KS [48, 49, 50, 51, 52, 63, 74] sg sg_j36) (_ : KS [53, 54, 55, 56, 57, 58, 59, 60, 61, 62, 64, 65, 66, 67, 68, 69, 70, 71, 72, 73, 75] gm gm_j36) (_ : MI sg_j36 gm_j36) (_ : GI0 sg_j36 gm_j36 lg) (_ : MO sg_j36 gm_j36) (H : Heap) (locs : List Loc) (ls : Array Slot), va_P (dC, dI) vwCl (mW h0 ad cid sg_j36 gm_j36 lg) H → va_D A (mW h0 ad cid sg_j36 gm_j36 lg) → va_S A s.heap H locs → lv_has ls 4 [(2, .int x2_36), (0, .ref h0), (1, .int b)] → W p l e (headSpec wm_X13_run ({ frames := 11, cells := 0, slots := 0, locals := 277 })).room s m ([.ref h0, .int b] : List Value).toArray below meth c H locs 0 0 (MQ below (va_Qi (fun r v => ∃ (sg2 : Nat → Int32) (gm2 : Nat → Nat → Int32) (lg2 : Nat → Nat → Int64), v = (sg2, gm2, lg2) ∧ MI sg2 gm2 ∧ KS [48, 49, 50, 51, 52, 63, 74] sg sg2 ∧ KS [53, 54, 55, 56, 57, 58, 59, 60, 61, 62, 64, 65, 66, 67, 68, 69, 70, 71, 72, 73, 75] gm gm2 ∧ KS [] lg lg2 ∧ (iv 0 1 r) ∧ (GI0 sg2 gm2 lg2) ∧ (MO sg2 gm2)) (MB dC dI h0 ad cid A) A) ([.ref h0, .int b] : List Value).toArray s 0 0 A) (F0 m 36 ls []) := by
    intro sg_j36 gm_j36 x2_36 hx2_36 hsx1_36 hks_j36 hkg_j36 hI_j36 hgi hmo H locs ls hP hD hS hl
    refine lv_aload_n hx hb dX13_run_36 rfl (lv_at hl 1 rfl) ?_
    refine mr_get (v := .int (sg_j36 51)) hx hb htb inX13 hown hK hP 51 (by decide) (htb _ kw_983) rfl dX13_run_37 ?_
    refine lv_if_ne (tgt := 45) hx hb dX13_run_40 (by decide) (fun c_14 => ?_) (fun c_14 => ?_)
    · have h_15 : iv 1 8 (sg_j36 51) := iv_neL c_14 (show iv 0 8 (sg_j36 51) from MI_s hI_j36 51) (by decide)
      refine lv_aload_n hx hb dX13_run_45 rfl (lv_at hl 1 rfl) ?_
      refine lv_iconst (v := 0) hx hb dX13_run_46 (by decide) ?_
      refine ma_put (x := 0) hx hb htb inX13 hown hK hP hD hS 63 (by decide) (by decide) (htb _ kw_1160) rfl rfl rfl dX13_run_47 (fun sg_16 H locs esg_16 hP hD hS => ?_)
      have hI_sg_16 := MI_put hI_j36 esg_16 (iv_k (by decide) : iv 0 0 0) (by decide)
      refine lv_iconst (v := 0) hx hb dX13_run_50 (by decide) ?_
      refine lv_istore_n (lv' := [(3, .int 0), (2, .int x2_36), (0, .ref h0), (1, .int b)]) hx hb dX13_run_51 rfl hl (by decide) rfl (fun ls hl => ?_)
      exact hj52 _ sg_16 gm_j36 0 x2_36 rfl (iv_w (iv_k (by decide) : iv 0 0 0) (by decide)) hx2_36 hsx1_36 (KS_up (KS_tr (L := [48, 49, 50, 51, 52, 63, 74]) KS_rf hks_j36 (by decide)) esg_16 (by decide)) (KS_tr (L := [53, 54, 55, 56, 57, 58, 59, 60, 61, 62, 64, 65, 66, 67, 68, 69, 70, 71, 72, 73, 75]) KS_rf hkg_j36 (by decide)) hI_sg_16 (GI0_of hgi (show KS [63] sg_j36 sg_16 from (KS_up KS_rf esg_16 (by decide))) (show KS [] gm_j36 gm_j36 from KS_rf) (show KS [] lg lg from KS_rf) (by decide) (by decide) (by decide) (by decide) (by decide) (by decide)) (MO_of hmo (show KS [63] sg_j36 sg_16 from (KS_up KS_rf esg_16 (by decide))) (show KS [] gm_j36 gm_j36 from KS_rf) (by decide) (by decide)) _ _ _ hP hD hS (lv_sub hl [0, 1, 2, 3] rfl)
    · have h_17 : iv 0 0 (sg_j36 51) := iv_eq c_14 (show iv 0 8 (sg_j36 51) from MI_s hI_j36 51) (iv_k (by decide) : iv 0 0 0) (by decide)
      refine lv_iconst (v := 1) hx hb dX13_run_43 (by decide) ?_
      exact W.zret (v := 1) hx hb hr (iv_nb (iv_w (iv_k (by decide) : iv 1 1 1) (by decide))) (fun t ht hW => ⟨⟨1, (sg_j36, gm_j36, lg), rfl, ⟨sg_j36, gm_j36, lg, rfl, hI_j36, (KS_tr (L := [48, 49, 50, 51, 52, 63, 74]) KS_rf hks_j36 (by decide)), (KS_tr (L := [53, 54, 55, 56, 57, 58, 59, 60, 61, 62, 64, 65, 66, 67, 68, 69, 70, 71, 72, 73, 75]) KS_rf hkg_j36 (by decide)), KS_rf, (iv_w (iv_k (by decide) : iv 1 1 1) (by decide)), (hgi), (hmo)⟩, by rw [ht]; exact hP, va_K.moved hW.alike hK, hD⟩, hS.F ht⟩) hS.2.2 dX13_run_44
  have hj11 : ∀ (n : Nat) (sg_j11 : Nat → Int32) (gm_j11 : Nat → Nat → Int32) (x2_11 : Int32) (_ : muR sg_j11 gm_j11 = n) (_ : iv 0 1 x2_11) (_ : iv (-1) 79 b) (_ : KS [48, 49, 50, 51, 52, 63, 74] sg sg_j11) (_ : KS [53, 54, 55, 56, 57, 58, 59, 60, 61, 62, 64, 65, 66, 67, 68, 69, 70, 71, 72, 73, 75] gm gm_j11) (_ : MI sg_j11 gm_j11) (_ : GI0 sg_j11 gm_j11 lg) (_ : MO sg_j11 gm_j11) (_ : 1 ≤ (sg_j11 51).toInt ∨ INVp sg_j11 gm_j11 lg) (H : Heap) (locs : List Loc) (ls : Array Slot), va_P (dC, dI) vwCl (mW h0 ad cid sg_j11 gm_j11 lg) H → va_D A (mW h0 ad cid sg_j11 gm_j11 lg) → va_S A s.heap H locs → lv_has ls 4 [(2, .int x2_11), (0, .ref h0), (1, .int b)] → W p l e (headSpec wm_X13_run ({ frames := 11, cells := 0, slots := 0, locals := 277 })).room s m ([.ref h0, .int b] : List Value).toArray below meth c H locs 0 0 (MQ below (va_Qi (fun r v => ∃ (sg2 : Nat → Int32) (gm2 : Nat → Nat → Int32) (lg2 : Nat → Nat → Int64), v = (sg2, gm2, lg2) ∧ MI sg2 gm2 ∧ KS [48, 49, 50, 51, 52, 63, 74] sg sg2 ∧ KS [53, 54, 55, 56, 57, 58, 59, 60, 61, 62, 64, 65, 66, 67, 68, 69, 70, 71, 72, 73, 75] gm gm2 ∧ KS [] lg lg2 ∧ (iv 0 1 r) ∧ (GI0 sg2 gm2 lg2) ∧ (MO sg2 gm2)) (MB dC dI h0 ad cid A) A) ([.ref h0, .int b] : List Value).toArray s 0 0 A) (F0 m 11 ls []) := by
    intro n
    induction n using Nat.strongRecOn with
    | ind n ih11 =>
      intro sg_j11 gm_j11 x2_11 hn11 hx2_11 hsx1_11 hks_j11 hkg_j11 hI_j11 hgi hmo hiv H locs ls hP hD hS hl
      refine lv_iload_n hx hb dX13_run_11 rfl (lv_at hl 0 rfl) ?_
      refine lv_if_ne (tgt := 36) hx hb dX13_run_12 (by decide) (fun c_18 => ?_) (fun c_18 => ?_)
      · have h_19 : iv 1 1 x2_11 := iv_neL c_18 hx2_11 (by decide)
        exact hj36 sg_j11 gm_j11 x2_11 (iv_w h_19 (by decide)) hsx1_11 (KS_tr (L := [48, 49, 50, 51, 52, 63, 74]) KS_rf hks_j11 (by decide)) (KS_tr (L := [53, 54, 55, 56, 57, 58, 59, 60, 61, 62, 64, 65, 66, 67, 68, 69, 70, 71, 72, 73, 75]) KS_rf hkg_j11 (by decide)) hI_j11 (hgi) (hmo) _ _ _ hP hD hS (lv_sub hl [0, 1, 2] rfl)
      · have h_20 : iv 0 0 x2_11 := iv_eq c_18 hx2_11 (iv_k (by decide) : iv 0 0 0) (by decide)
        refine lv_aload_n hx hb dX13_run_15 rfl (lv_at hl 1 rfl) ?_
        refine mr_get (v := .int (sg_j11 63)) hx hb htb inX13 hown hK hP 63 (by decide) (htb _ kw_1160) rfl dX13_run_16 ?_
        refine lv_if_le (tgt := 36) hx hb dX13_run_19 (by decide) (fun c_21 => ?_) (fun c_21 => ?_)
        · have h_22 : iv 0 0 (sg_j11 63) := iv_leL c_21 (show iv 0 80 (sg_j11 63) from MI_s hI_j11 63) (iv_k (by decide) : iv 0 0 0) (by decide)
          exact hj36 sg_j11 gm_j11 x2_11 (iv_w h_20 (by decide)) hsx1_11 (KS_tr (L := [48, 49, 50, 51, 52, 63, 74]) KS_rf hks_j11 (by decide)) (KS_tr (L := [53, 54, 55, 56, 57, 58, 59, 60, 61, 62, 64, 65, 66, 67, 68, 69, 70, 71, 72, 73, 75]) KS_rf hkg_j11 (by decide)) hI_j11 (hgi) (hmo) _ _ _ hP hD hS (lv_sub hl [0, 1, 2] rfl)
        · have h_23 : iv 1 80 (sg_j11 63) := iv_ltR (i32_lt c_21) (iv_k (by decide) : iv 0 0 0) (show iv 0 80 (sg_j11 63) from MI_s hI_j11 63) (by decide)
          refine lv_aload_n hx hb dX13_run_22 rfl (lv_at hl 1 rfl) ?_
          refine mr_get (v := .int (sg_j11 51)) hx hb htb inX13 hown hK hP 51 (by decide) (htb _ kw_983) rfl dX13_run_23 ?_
          refine lv_if_ne (tgt := 36) hx hb dX13_run_26 (by decide) (fun c_24 => ?_) (fun c_24 => ?_)
          · have h_25 : iv 1 8 (sg_j11 51) := iv_neL c_24 (show iv 0 8 (sg_j11 51) from MI_s hI_j11 51) (by decide)
            exact hj36 sg_j11 gm_j11 x2_11 (iv_w h_20 (by decide)) hsx1_11 (KS_tr (L := [48, 49, 50, 51, 52, 63, 74]) KS_rf hks_j11 (by decide)) (KS_tr (L := [53, 54, 55, 56, 57, 58, 59, 60, 61, 62, 64, 65, 66, 67, 68, 69, 70, 71, 72, 73, 75]) KS_rf hkg_j11 (by decide)) hI_j11 (hgi) (hmo) _ _ _ hP hD hS (lv_sub hl [0, 1, 2] rfl)
          · have h_26 : iv 0 0 (sg_j11 51) := iv_eq c_24 (show iv 0 8 (sg_j11 51) from MI_s hI_j11 51) (iv_k (by decide) : iv 0 0 0) (by decide)
            refine lv_aload_n hx hb dX13_run_29 rfl (lv_at hl 1 rfl) ?_
            refine mr_callv (rest := []) ⟨hx, hb, hml, hown, htb⟩ (f_step l dC dI h0 ad cid sg_j11 gm_j11 lg hI_j11 (DOC_of hdoc (show KS [48, 49, 50, 51, 52, 63, 74] sg sg_j11 from (KS_tr (L := [48, 49, 50, 51, 52, 63, 74]) KS_rf hks_j11 (by decide))) (show KS [53, 54, 55, 56, 57, 58, 59, 60, 61, 62, 64, 65, 66, 67, 68, 69, 70, 71, 72, 73, 75] gm gm_j11 from (KS_tr (L := [53, 54, 55, 56, 57, 58, 59, 60, 61, 62, 64, 65, 66, 67, 68, 69, 70, 71, 72, 73, 75]) KS_rf hkg_j11 (by decide))) (show KS [] lg lg from KS_rf) (by decide) (by decide) (by decide) (by decide)) hgi (by have q9 : PR gm := hPR; unfold PR at *; rw [(hkg_j11 6 (by decide))]; exact q9) hmo (by have := i32_0; have := i32_1; have := i32_2; have := i32_m1; have := (show iv 0 80 (sg_j11 63) from MI_s hI_j11 63).1; have := (show iv 0 80 (sg_j11 63) from MI_s hI_j11 63).2; have := (show iv 0 80 (sg 63) from MI_s hI 63).1; have := (show iv 0 80 (sg 63) from MI_s hI 63).2; have := (hsx1_11).1; have := (hsx1_11).2; have := (h_20).1; have := (h_20).2; have := (h_23).1; have := (h_23).2; have := (h_26).1; have := (h_26).2; omega) (hiv.resolve_left (by have := i32_0; have := i32_1; have := i32_2; have := i32_m1; have := (show iv 0 8 (sg_j11 51) from MI_s hI_j11 51).1; have := (show iv 0 8 (sg_j11 51) from MI_s hI_j11 51).2; have := (show iv 0 8 (sg 51) from MI_s hI 51).1; have := (show iv 0 8 (sg 51) from MI_s hI 51).2; have := (hsx1_11).1; have := (hsx1_11).2; have := (h_20).1; have := (h_20).2; have := (h_23).1; have := (h_23).2; have := (h_26).1; have := (h_26).2; omega)) (by have := i32_0; have := i32_1; have := i32_2; have := i32_m1; have := (show iv 0 8 (sg_j11 51) from MI_s hI_j11 51).1; have := (show iv 0 8 (sg_j11 51) from MI_s hI_j11 51).2; have := (show iv 0 8 (sg 51) from MI_s hI 51).1; have := (show iv 0 8 (sg 51) from MI_s hI 51).2; have := (hsx1_11).1; have := (hsx1_11).2; have := (h_20).1; have := (h_20).2; have := (h_23).1; have := (h_23).2; have := (h_26).1; have := (h_26).2; omega)) (cwV 0 htb (gd_V kw_1168 kw_1169 kw_1170 kw_5 kw_1606) rfl rfl rfl (by decide +kernel) ⟨Nat.le_of_ble_eq_true rfl, Nat.le_of_ble_eq_true rfl⟩) rfl hl.1 rfl (Nat.le_of_ble_eq_true rfl) dX13_run_30 ⟨Nat.zero_le _, Nat.zero_le _⟩ hK hP hD hS hA (fun u_28 H locs hw hP hD hS => ?_)
            obtain ⟨sgv_29, gmv_29, lgv_29, rfl, hIv_29, ksv_29, kgv_29, klv_29, fGI_r_27, fMo_r_27, fSt_r_27⟩ := hw
            obtain rfl := KS_nil klv_29
            have hP : va_P (dC, dI) vwCl (mW h0 ad cid sgv_29 gmv_29 lg) H := hP
            have hD : va_D A (mW h0 ad cid sgv_29 gmv_29 lg) := hD
            refine lv_goto (tgt := 11) hx hb dX13_run_33 (by decide) ?_
            exact ih11 _ (by rw [← hn11]; exact (muR_lt (by have := i32_0; have := i32_1; have := i32_2; have := i32_m1; have := (show iv 0 8 (sgv_29 51) from MI_s hIv_29 51).1; have := (show iv 0 8 (sgv_29 51) from MI_s hIv_29 51).2; have := (show iv 0 8 (sg_j11 51) from MI_s hI_j11 51).1; have := (show iv 0 8 (sg_j11 51) from MI_s hI_j11 51).2; have := (show iv 0 8 (sg 51) from MI_s hI 51).1; have := (show iv 0 8 (sg 51) from MI_s hI 51).2; have := (show iv 0 8 (sg_j11 51) from MI_s hI_j11 51).1; have := (show iv 0 8 (sg_j11 51) from MI_s hI_j11 51).2; have := (hsx1_11).1; have := (hsx1_11).2; have := (h_20).1; have := (h_20).2; have := (h_23).1; have := (h_23).2; have := (h_26).1; have := (h_26).2; omega) fSt_r_27)) sgv_29 gmv_29 x2_11 rfl (iv_w h_20 (by decide)) hsx1_11 (KS_tr (L := [48, 49, 50, 51, 52, 63, 74]) (KS_tr (L := [48, 49, 50, 51, 52, 63, 74]) KS_rf hks_j11 (by decide)) ksv_29 (by decide)) (KS_tr (L := [53, 54, 55, 56, 57, 58, 59, 60, 61, 62, 64, 65, 66, 67, 68, 69, 70, 71, 72, 73, 75]) (KS_tr (L := [53, 54, 55, 56, 57, 58, 59, 60, 61, 62, 64, 65, 66, 67, 68, 69, 70, 71, 72, 73, 75]) KS_rf hkg_j11 (by decide)) kgv_29 (by decide)) hIv_29 (fGI_r_27) (fMo_r_27) (fSt_r_27.imp id (fun q9 => q9.1)) _ _ _ hP hD hS (lv_sub hl [0, 1, 2] rfl)
  refine lv_aload_n hx hb dX13_run_0 rfl (lv_at hl 0 rfl) ?_
  refine lv_iconst (v := 0) hx hb dX13_run_1 (by decide) ?_
  refine ma_put (x := 0) hx hb htb inX13 hown hK hP hD hS 63 (by decide) (by decide) (htb _ kw_1160) rfl rfl rfl dX13_run_2 (fun sg_30 H locs esg_30 hP hD hS => ?_)
  have hI_sg_30 := MI_put hI esg_30 (iv_k (by decide) : iv 0 0 0) (by decide)
  refine lv_aload_n hx hb dX13_run_5 rfl (lv_at hl 0 rfl) ?_
  refine lv_iload_n hx hb dX13_run_6 rfl (lv_at hl 1 rfl) ?_
  refine mr_calli (rest := []) ⟨hx, hb, hml, hown, htb⟩ (f_gets l dC dI h0 ad cid sg_30 gm lg b hI_sg_30 hvb (by rw [(up_ne esg_30 (by decide))]; exact hbl) (GI0_of hgi (show KS [63] sg sg_30 from (KS_up KS_rf esg_30 (by decide))) (show KS [] gm gm from KS_rf) (show KS [] lg lg from KS_rf) (by decide) (by decide) (by decide) (by decide) (by decide) (by decide)) ((INVp_0 (lg := lg) (gm := gm) (by rw [up_at esg_30]; rfl)).1.1)) (cwV 1 htb (gd_V kw_1161 kw_1162 kw_1163 kw_5 kw_1604) rfl rfl rfl (by decide +kernel) ⟨Nat.le_of_ble_eq_true rfl, Nat.le_of_ble_eq_true rfl⟩) rfl hl.1 rfl (Nat.le_of_ble_eq_true rfl) dX13_run_7 ⟨Nat.zero_le _, Nat.zero_le _⟩ hK hP hD hS hA (fun r_31 u_32 H locs hw hP hD hS => ?_)
  obtain ⟨sgv_33, gmv_33, lgv_33, rfl, hIv_33, ksv_33, kgv_33, klv_33, hr_31, fGI_r_31, fGt_r_31⟩ := hw
  obtain rfl := KS_nil klv_33
  have hP : va_P (dC, dI) vwCl (mW h0 ad cid sgv_33 gmv_33 lg) H := hP
  have hD : va_D A (mW h0 ad cid sgv_33 gmv_33 lg) := hD
  refine lv_istore_n (lv' := [(2, .int r_31), (0, .ref h0), (1, .int b)]) hx hb dX13_run_10 rfl hl (by decide) rfl (fun ls hl => ?_)
  have hiv9 : 1 ≤ (sgv_33 51).toInt ∨ INVp sgv_33 gmv_33 lg := by
    have q0 : (sg_30 63).toInt = 0 := by rw [up_at esg_30]; rfl
    rcases fGt_r_31 with ⟨_, _, q9⟩ | ⟨_, q9 | ⟨b9, q9⟩⟩
    · exact Or.inr (INVp_0 (by rw [q9.1]; exact q0))
    · exact Or.inl q9
    · exact Or.inr (INVp_1 q0 ((show KS [51, 52, 63, 74] sg_30 sgv_33 from (KS_tr (L := [51, 52, 63, 74]) KS_rf ksv_33 (by decide))) 41 (by decide)) q9)
  exact hj11 _ sgv_33 gmv_33 r_31 rfl hr_31 hvb (KS_tr (L := [48, 49, 50, 51, 52, 63, 74]) (KS_up KS_rf esg_30 (by decide)) ksv_33 (by decide)) (KS_tr (L := [53, 54, 55, 56, 57, 58, 59, 60, 61, 62, 64, 65, 66, 67, 68, 69, 70, 71, 72, 73, 75]) KS_rf kgv_33 (by decide)) hIv_33 (fGI_r_31) (MO_of hmo (show KS [51, 52, 63, 74] sg sgv_33 from (KS_tr (L := [51, 52, 63, 74]) (KS_up KS_rf esg_30 (by decide)) ksv_33 (by decide))) (show KS [62, 64, 65, 66, 67, 68, 69] gm gmv_33 from (KS_tr (L := [62, 64, 65, 66, 67, 68, 69]) KS_rf kgv_33 (by decide))) (by decide) (by decide)) (hiv9) _ _ _ hP hD hS (lv_sub hl [0, 1, 2] rfl)
