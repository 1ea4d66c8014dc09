section
set_option maxHeartbeats 4000000 in
set_option maxRecDepth 100000 in
theorem f_call9 (l : Launch) (dC : Nat → ClassId) (dI : Nat → Nat → Nat) (h0 : Nat) (ad : Nat → Nat) (cid : Nat → ClassId) (sg : Nat → Int32) (gm : Nat → Nat → Int32) (lg : Nat → Nat → Int64) (o : Int32) (nm : Int32) (ws : Nat → Int32) (wg : Nat → Nat → Int32) (wl : Nat → Nat → Int64) (rs : Nat → Int32) (rg : Nat → Nat → Int32) (S : S9) (hI : MI sg gm) (hgi : GI0 sg gm lg) (hPR : PR gm) (hmo : MO sg gm) (hdd : (sg 40).toInt = 0 ∨ DOC sg gm lg) (hRW : rt9 gm = rg) (hRS : rs9 sg = rs) (hBRd : (sg 40).toInt = 0 ∨ BRG ws wg wl rs rg lg) (hCL : CLS9 wg rg) (hRR : RR wg wl S sg gm) (hWD : WD9 lg) (hST : STY9 wg) (hST2 : ∀ c n, c < 8 → n < 26 → (wg 55 (26 * c + n)).toInt = -1 ∨ ty9 (wg 55 (26 * c + n)).toInt) (hSBd : (sg 40).toInt = 0 ∨ SB9 ws wg wl) (hWF : WF9 S) (hWZ : WZ9 wg wl S) (hNB : NB9 S) (hOBd : (sg 40).toInt = 0 ∨ OB9 (ws 12).toNatClampNeg S) : MMi l dC dI yX13_call wm_X13_call ({ frames := 12, cells := 0, slots := 0, locals := 300 }) h0 ad cid [.int o, .int nm] sg gm lg (fun r v => ∃ (sg2 : Nat → Int32) (gm2 : Nat → Nat → Int32) (lg2 : Nat → Nat → Int64), v = (sg2, gm2, lg2) ∧ MI sg2 gm2 ∧ KS [5, 48, 49, 50, 51, 52, 63, 74] sg sg2 ∧ KS [53, 54, 55, 56, 57, 58, 59, 60, 61, 62, 64, 65, 66, 67, 68, 69, 70, 71, 72, 73, 75] gm gm2 ∧ KS [] lg lg2 ∧ (GI0 sg2 gm2 lg2) ∧ (MO sg2 gm2) ∧ (((sg 40).toInt = 0 ∧ (sg2 5).toInt = 1 ∧ RR wg wl S sg2 gm2) ∨ (¬ (sg 40).toInt = 0 ∧ zLk wg o.toInt nm.toInt S < 0 ∧ (sg2 5).toInt = 2 ∧ RR wg wl S sg2 gm2) ∨ (¬ (sg 40).toInt = 0 ∧ 0 ≤ zLk wg o.toInt nm.toInt S ∧ ∃ S2, RR wg wl S2 sg2 gm2 ∧ WF9 S2 ∧ (((sg2 5).toInt = 0 ∧ zGt ws wg wl 81 (wl 2 (zLk wg o.toInt nm.toInt S).toNat) S = (some r.toInt, S2)) ∨ ((sg2 5).toInt = 3 ∧ zGt ws wg wl 81 (wl 2 (zLk wg o.toInt nm.toInt S).toNat) S = (none, S2)))))) := by
  intro sz
  refine Met.ofW (cc := cX13_call) (maxL := 7) (ret := (some .int)) (by decide) rfl ?_
  intro p e s m args below meth c s₁ B hml hv
  obtain ⟨rfl, hsz, hP, hK, hD0⟩ := hv
  have hx := B.exec
  have hb := B.bytes
  have hr := B.returns
  have hts := atoms_spec (ws := wm_X13_call) B.pre
  have htb := fun (w : Cond) (h : w ∈ tb) => hts w (List.mem_cons_of_mem _ h)
  have hown : s.vm.findClass RX13 = some m.cls := findClass_of_methodNamed B.named
  have hlocks := B.notSynchronized
  subst hsz
  have hD := hD0.self (sz := s.heap.size)
  generalize hAe : va_A (mW h0 ad cid sg gm lg) s.heap.size = A at hD ⊢
  have hA : ∀ q : Nat, s.heap.size ≤ q → A q := fun q h => by rw [← hAe]; exact Or.inr h
  have hS : va_S A s.heap s.heap [] := va_S.rf
  have hl := lv_entry ([.ref h0, .int o, .int nm]) (n := 7) (Nat.le_of_ble_eq_true rfl)
  rw [lg_entry_eq]
  generalize (lg_sl ([.ref h0, .int o, .int nm]) ++ List.replicate (7 - (lg_sl ([.ref h0, .int o, .int nm])).length) Slot.unset).toArray = ls at hl ⊢
  have hl : lv_has ls 7 [(0, .ref h0), (1, .int o), (2, .int nm)] := hl
  have hj59 : ∀ (n : Nat) (sg_j59 : Nat → Int32) (x5_59 : Int32) (x4_59 : Int32) (x3_59 : Int32) (_ : (26 - x5_59.toInt).toNat = n) (_ : iv 0 26 x5_59) (_ : iv 0 1 x4_59) (_ : iv (-1) 79 x3_59) (_ : KS [5, 51, 52] sg sg_j59) (_ : MI sg_j59 gm) (_ : DOC sg gm lg) (_ : ¬ (sg 40).toInt = 0) (_ : BRG ws wg wl rs rg lg) (_ : SB9 ws wg wl) (_ : (sg_j59 51).toInt = 0) (_ : (x4_59.toInt = 0 ∧ x3_59.toInt = -1 ∧ zLk wg o.toInt nm.toInt S = -1) ∨ (x4_59.toInt = 1 ∧ iv 0 59 o ∧ o.toInt < (sg 48).toInt ∧ LKQ wg (3 * (gm 54 o.toNatClampNeg).toNatClampNeg + 2) nm x3_59 x5_59.toNatClampNeg ∧ x5_59.toInt ≤ (wg 41 (3 * (gm 54 o.toNatClampNeg).toNatClampNeg + 2)).toInt)) (H : Heap) (locs : List Loc) (ls : Array Slot), va_P (dC, dI) vwCl (mW h0 ad cid sg_j59 gm lg) H → va_D A (mW h0 ad cid sg_j59 gm lg) → va_S A s.heap H locs → lv_has ls 7 [(5, .int x5_59), (4, .int x4_59), (3, .int x3_59), (0, .ref h0), (1, .int o), (2, .int nm)] → W p l e (headSpec wm_X13_call ({ frames := 12, cells := 0, slots := 0, locals := 300 })).room s m ([.ref h0, .int o, .int nm] : List Value).toArray below meth c H locs 0 0 (MQ below (va_Qi (fun r v => ∃ (sg2 : Nat → Int32) (gm2 : Nat → Nat → Int32) (lg2 : Nat → Nat → Int64), v = (sg2, gm2, lg2) ∧ MI sg2 gm2 ∧ KS [5, 48, 49, 50, 51, 52, 63, 74] sg sg2 ∧ KS [53, 54, 55, 56, 57, 58, 59, 60, 61, 62, 64, 65, 66, 67, 68, 69, 70, 71, 72, 73, 75] gm gm2 ∧ KS [] lg lg2 ∧ (GI0 sg2 gm2 lg2) ∧ (MO sg2 gm2) ∧ (((sg 40).toInt = 0 ∧ (sg2 5).toInt = 1 ∧ RR wg wl S sg2 gm2) ∨ (¬ (sg 40).toInt = 0 ∧ zLk wg o.toInt nm.toInt S < 0 ∧ (sg2 5).toInt = 2 ∧ RR wg wl S sg2 gm2) ∨ (¬ (sg 40).toInt = 0 ∧ 0 ≤ zLk wg o.toInt nm.toInt S ∧ ∃ S2, RR wg wl S2 sg2 gm2 ∧ WF9 S2 ∧ (((sg2 5).toInt = 0 ∧ zGt ws wg wl 81 (wl 2 (zLk wg o.toInt nm.toInt S).toNat) S = (some r.toInt, S2)) ∨ ((sg2 5).toInt = 3 ∧ zGt ws wg wl 81 (wl 2 (zLk wg o.toInt nm.toInt S).toNat) S = (none, S2)))))) (MB dC dI h0 ad cid A) A) ([.ref h0, .int o, .int nm] : List Value).toArray s 0 0 A) (F0 m 59 ls []) := by
    intro n
    induction n using Nat.strongRecOn with
    | ind n ih59 =>
      intro sg_j59 x5_59 x4_59 x3_59 hn59 hx5_59 hx4_59 hx3_59 hks_j59 hI_j59 hdoc hdc hBR hSB h51j hLQd H locs ls hP hD hS hl
      refine lv_iload hx hb dX13_call_59 (lv_at hl 1 rfl) ?_
      refine lv_if_eq (tgt := 129) hx hb dX13_call_61 (by decide) (fun c_1 => ?_) (fun c_1 => ?_)
      · have h_2 : iv 0 0 x4_59 := iv_eq c_1 hx4_59 (iv_k (by decide) : iv 0 0 0) (by decide)
        have hfin : (x3_59.toInt = -1 ∧ zLk wg o.toInt nm.toInt S = -1) ∨ (∃ i, i < (wg 41 (3 * (gm 54 o.toNatClampNeg).toNatClampNeg + 2)).toNatClampNeg ∧ x3_59 = wg 57 (128 * (3 * (gm 54 o.toNatClampNeg).toNatClampNeg + 2) + i) ∧ zLk wg o.toInt nm.toInt S = (x3_59.toNatClampNeg : Int) ∧ iv 0 59 o ∧ o.toInt < (sg 48).toInt ∧ 0 ≤ x3_59.toInt) := (by rcases hLQd with q | q; (exact Or.inl q.2); (exfalso; have := q.1; have := i32_0; have := i32_1; have := i32_2; have := i32_m1; have := (hx5_59).1; have := (hx5_59).2; have := (h_2).1; have := (h_2).2; have := (hx3_59).1; have := (hx3_59).2; omega))
        refine lv_aload_n hx hb dX13_call_129 rfl (lv_at hl 3 rfl) ?_
        refine lv_iload_n hx hb dX13_call_130 rfl (lv_at hl 2 rfl) ?_
        refine lv_iconst (v := (-1)) hx hb dX13_call_131 (by decide) ?_
        refine lv_icmp_ne (tgt := 139) hx hb dX13_call_132 (by decide) (fun c_3 => ?_) (fun c_3 => ?_)
        · have h_4 : iv 0 79 x3_59 := iv_neL c_3 hx3_59 (by decide)
          refine lv_iconst (v := 0) hx hb dX13_call_139 (by decide) ?_
          refine ma_put (x := 0) hx hb htb inX13 hown hK hP hD hS 5 (by decide) (by decide) (htb _ kw_239) rfl rfl rfl dX13_call_140 (fun sg_5 H locs esg_5 hP hD hS => ?_)
          have hI_sg_5 := MI_put hI_j59 esg_5 (iv_k (by decide) : iv 0 0 0) (by decide)
          refine lv_aload_n hx hb dX13_call_143 rfl (lv_at hl 3 rfl) ?_
          refine mr_get (v := .int (sg_5 5)) hx hb htb inX13 hown hK hP 5 (by decide) (htb _ kw_239) rfl dX13_call_144 ?_
          refine lv_topi (fun z_6 ez_6 => ?_)
          obtain rfl : 0 = z_6 := (ez_6.trans (up_at esg_5)).symm
          refine lv_if_le (tgt := 152) hx hb dX13_call_147 (by decide) (fun _ => ?_) (fun c_7 => absurd (by decide) c_7)
          obtain ⟨i9, hi1, hi2, hi3, hi4, hi5, hi6⟩ := hfin.resolve_left (fun q => absurd q.1 (fun q7 => c_3 (Int32.toInt_inj.mp (q7.trans (by decide)))))
          have h152 : iv 0 79 x3_59 := ⟨hi6, (h_4).2⟩
          have hbl := (show (gm 54 o.toNatClampNeg).toInt < (sg 41).toInt from (by have q5 := hBR.1; rw [rs9_41 hRS] at q5; have q6 := (OB_r (o := o) hRR (hOBd.resolve_left hdc) hi4.1 hi5).2; have q7 : (ws 12).toNatClampNeg = (ws 12).toInt.toNat := rfl; have q8 := (show iv 0 80 (sg 41) from MI_s hI 41).1; omega))
          have hbv := (show iv 0 79 (gm 54 o.toNatClampNeg) from ⟨(OB_r (o := o) hRR (hOBd.resolve_left hdc) hi4.1 hi5).1, (by have q9 := (show (gm 54 o.toNatClampNeg).toInt < (sg 41).toInt from (by have q5 := hBR.1; rw [rs9_41 hRS] at q5; have q6 := (OB_r (o := o) hRR (hOBd.resolve_left hdc) hi4.1 hi5).2; have q7 : (ws 12).toNatClampNeg = (ws 12).toInt.toNat := rfl; have q8 := (show iv 0 80 (sg 41) from MI_s hI 41).1; omega)); have q8 := (show iv 0 80 (sg 41) from MI_s hI 41).2; omega)⟩)
          refine lv_aload_n hx hb dX13_call_152 rfl (lv_at hl 3 rfl) ?_
          refine lv_aload_n hx hb dX13_call_153 rfl (lv_at hl 3 rfl) ?_
          refine lv_aload_n hx hb dX13_call_154 rfl (lv_at hl 3 rfl) ?_
          refine lv_aload_n hx hb dX13_call_155 rfl (lv_at hl 3 rfl) ?_
          refine lv_iload_n hx hb dX13_call_156 rfl (lv_at hl 2 rfl) ?_
          refine lv_ldc2 (own := RX13) (v := 1650811246) hx hb hown (htb _ kw_136) dX13_call_157 ?_
          refine mr_calll (rest := [.ref h0, .ref h0, .ref h0]) ⟨hx, hb, hml, hown, htb⟩ (f_word l dC dI h0 ad cid sg_5 gm lg x3_59 1650811246 hI_sg_5 h152) (cwV 2 htb (gd_V kw_923 kw_924 kw_925 kw_5 kw_1545) rfl rfl rfl (by decide +kernel) ⟨Nat.le_of_ble_eq_true rfl, Nat.le_of_ble_eq_true rfl⟩) rfl hl.1 rfl (Nat.le_of_ble_eq_true rfl) dX13_call_160 ⟨Nat.zero_le _, Nat.zero_le _⟩ hK hP hD hS hA (fun r_8 u_9 H locs hw hP hD hS => ?_)
          obtain ⟨fW_r_8, rfl⟩ := hw
          have hP : va_P (dC, dI) vwCl (mW h0 ad cid sg_5 gm lg) H := hP
          have hD : va_D A (mW h0 ad cid sg_5 gm lg) := hD
          refine mr_calli (rest := [.ref h0, .ref h0]) ⟨hx, hb, hml, hown, htb⟩ (f_called9 l dC dI h0 ad cid sg_5 gm lg r_8 hI_sg_5) (cwV 1 htb (gd_V kw_1168 kw_1169 kw_1170 kw_5 kw_1606) rfl rfl rfl (by decide +kernel) ⟨Nat.le_of_ble_eq_true rfl, Nat.le_of_ble_eq_true rfl⟩) rfl hl.1 rfl (Nat.le_of_ble_eq_true rfl) dX13_call_163 ⟨Nat.zero_le _, Nat.zero_le _⟩ hK hP hD hS hA (fun r_10 u_11 H locs hw hP hD hS => ?_)
          obtain ⟨hr_10, fLt_r_10, fCd_r_10, rfl⟩ := hw
          have hP : va_P (dC, dI) vwCl (mW h0 ad cid sg_5 gm lg) H := hP
          have hD : va_D A (mW h0 ad cid sg_5 gm lg) := hD
          have hca : r_10.toInt = caN ws wg wl (wl 2 (zLk wg o.toInt nm.toInt S).toNat) := (by rw [hi3, show (x3_59.toNatClampNeg : Int).toNat = x3_59.toNatClampNeg from rfl, hi2]; have q5 := ((BR_l hBR hRW hRS hbv hbl).2 i9 hi1).2.2.1; have q6 := fCd_r_10; rw [fW_r_8, hi2, mWord_k (DK_of (show KS [5, 51, 52] sg sg_5 from (KS_up (KS_tr (L := [5, 51, 52]) KS_rf hks_j59 (by decide)) esg_5 (by decide))) (show KS [] gm gm from KS_rf) (show KS [] lg lg from KS_rf) (by decide) (by decide) (by decide)).1] at q6; unfold cdR at *; rw [cdF_k (DK_of (show KS [5, 51, 52] sg sg_5 from (KS_up (KS_tr (L := [5, 51, 52]) KS_rf hks_j59 (by decide)) esg_5 (by decide))) (show KS [] gm gm from KS_rf) (show KS [] lg lg from KS_rf) (by decide) (by decide) (by decide))] at q6; rw [← q5, q6])
          refine mr_calli (rest := [.ref h0]) ⟨hx, hb, hml, hown, htb⟩ (f_run9 l dC dI h0 ad cid sg_5 gm lg r_10 ws wg wl rs rg S hI_sg_5 hr_10 (DOC_of hdoc (show KS [5, 51, 52] sg sg_5 from (KS_up (KS_tr (L := [5, 51, 52]) KS_rf hks_j59 (by decide)) esg_5 (by decide))) (show KS [] gm gm from KS_rf) (show KS [] lg lg from KS_rf) (by decide) (by decide) (by decide) (by decide)) (GI0_of hgi (show KS [5, 51, 52] sg sg_5 from (KS_up (KS_tr (L := [5, 51, 52]) KS_rf hks_j59 (by decide)) esg_5 (by decide))) (show KS [] gm gm from KS_rf) (show KS [] lg lg from KS_rf) (by decide) (by decide) (by decide) (by decide) (by decide) (by decide)) hPR (MO_of hmo (show KS [5, 51, 52] sg sg_5 from (KS_up (KS_tr (L := [5, 51, 52]) KS_rf hks_j59 (by decide)) esg_5 (by decide))) (show KS [] gm gm from KS_rf) (by decide) (by decide)) fLt_r_10 hRW ((rs9_ks (L := [5, 51, 52]) (KS_up (KS_tr (L := [5, 51, 52]) KS_rf hks_j59 (by decide)) esg_5 (by decide)) rfl rfl).trans hRS) hBR hCL (RR_ks (L := [5, 51, 52]) (M := []) hRR (KS_up (KS_tr (L := [5, 51, 52]) KS_rf hks_j59 (by decide)) esg_5 (by decide)) KS_rf (by decide) (by decide)) hWD hST hST2 hSB hWF (by have := i32_0; have := i32_1; have := i32_2; have := i32_m1; have := congrArg Int32.toInt (show sg_5 51 = sg_j59 51 from up_ne esg_5 (by decide)); have := (show iv 0 8 (sg_j59 51) from MI_s hI_j59 51).1; have := (show iv 0 8 (sg_j59 51) from MI_s hI_j59 51).2; have := (show iv 0 8 (sg 51) from MI_s hI 51).1; have := (show iv 0 8 (sg 51) from MI_s hI 51).2; have := (show iv 0 8 (sg_j59 51) from MI_s hI_j59 51).1; have := (show iv 0 8 (sg_j59 51) from MI_s hI_j59 51).2; have := (hx5_59).1; have := (hx5_59).2; have := (h_2).1; have := (h_2).2; have := (h152).1; have := (h152).2; have := (hr_10).1; have := (hr_10).2; omega)) (cwV 1 htb (gd_V kw_1154 kw_1155 kw_1156 kw_5 kw_1602) rfl rfl rfl (by decide +kernel) ⟨Nat.le_of_ble_eq_true rfl, Nat.le_of_ble_eq_true rfl⟩) rfl hl.1 rfl (Nat.le_of_ble_eq_true rfl) dX13_call_166 ⟨Nat.zero_le _, Nat.zero_le _⟩ hK hP hD hS hA (fun r_12 u_13 H locs hw hP hD hS => ?_)
          obtain ⟨sgv_14, gmv_14, lgv_14, rfl, hIv_14, ksv_14, kgv_14, klv_14, hr_12, fGI_r_12, fMo_r_12, f9_r_12⟩ := hw
          obtain rfl := KS_nil klv_14
          have hP : va_P (dC, dI) vwCl (mW h0 ad cid sgv_14 gmv_14 lg) H := hP
          have hD : va_D A (mW h0 ad cid sgv_14 gmv_14 lg) := hD
          refine lv_if_eq (tgt := 176) hx hb dX13_call_169 (by decide) (fun c_15 => ?_) (fun c_15 => ?_)
          · have h_16 : iv 0 0 r_12 := iv_eq c_15 hr_12 (iv_k (by decide) : iv 0 0 0) (by decide)
            refine lv_iconst (v := 3) hx hb dX13_call_176 (by decide) ?_
            refine ma_put (x := 3) hx hb htb inX13 hown hK hP hD hS 5 (by decide) (by decide) (htb _ kw_239) rfl rfl rfl dX13_call_177 (fun sg_17 H locs esg_17 hP hD hS => ?_)
            have hI_sg_17 := MI_put hIv_14 esg_17 (iv_k (by decide) : iv 3 3 3) (by decide)
            refine lv_aload_n hx hb dX13_call_180 rfl (lv_at hl 3 rfl) ?_
            refine mr_get (v := .int (sg_17 5)) hx hb htb inX13 hown hK hP 5 (by decide) (htb _ kw_239) rfl dX13_call_181 ?_
            refine lv_topi (fun z_18 ez_18 => ?_)
            obtain rfl : 3 = z_18 := (ez_18.trans (up_at esg_17)).symm
            refine lv_if_le (tgt := 191) hx hb dX13_call_184 (by decide) (fun c_19 => absurd c_19 (by decide)) (fun _ => ?_)
            refine lv_iconst (v := 0) hx hb dX13_call_187 (by decide) ?_
            refine lv_goto (tgt := 195) hx hb dX13_call_188 (by decide) ?_
            exact W.iret (v := 0) hx hb hr (fun t ht hW => ⟨⟨0, (sg_17, gmv_14, lg), rfl, ⟨sg_17, gmv_14, lg, rfl, hI_sg_17, (KS_up (KS_tr (L := [5, 48, 49, 50, 51, 52, 63, 74]) (KS_up (KS_tr (L := [5, 48, 49, 50, 51, 52, 63, 74]) KS_rf hks_j59 (by decide)) esg_5 (by decide)) ksv_14 (by decide)) esg_17 (by decide)), (KS_tr (L := [53, 54, 55, 56, 57, 58, 59, 60, 61, 62, 64, 65, 66, 67, 68, 69, 70, 71, 72, 73, 75]) KS_rf kgv_14 (by decide)), KS_rf, ((GI0_of fGI_r_12 (show KS [5] sgv_14 sg_17 from (KS_up KS_rf esg_17 (by decide))) (show KS [] gmv_14 gmv_14 from KS_rf) (show KS [] lg lg from KS_rf) (by decide) (by decide) (by decide) (by decide) (by decide) (by decide))), ((MO_of fMo_r_12 (show KS [5] sgv_14 sg_17 from (KS_up KS_rf esg_17 (by decide))) (show KS [] gmv_14 gmv_14 from KS_rf) (by decide) (by decide))), ((Or.inr (Or.inr (by obtain ⟨S2, q1, q2, ⟨p1, p2⟩ | ⟨p1, p2⟩⟩ := RU_g (show iv 0 80 (ws 12) from (by have q5 := hBR.1; rw [rs9_41 hRS] at q5; have q6 := (show iv 0 80 (sg 41) from MI_s hI 41); exact ⟨by rw [← q5]; exact q6.1, by rw [← q5]; exact q6.2⟩)) hca f9_r_12; (exfalso; have := i32_0; have := i32_1; have := i32_2; have := i32_m1; have := (hx5_59).1; have := (hx5_59).2; have := (h_2).1; have := (h_2).2; have := (h152).1; have := (h152).2; have := (hr_10).1; have := (hr_10).2; have := (h_16).1; have := (h_16).2; have := p1; omega); (exact ⟨hdc, (by rw [hi3]; omega), S2, (RR_ks q1 (show KS [5] sgv_14 sg_17 from (KS_up KS_rf esg_17 (by decide))) (KS_rf (L := []) (f := gmv_14)) (by decide) (by decide)), q2, Or.inr ⟨(by have := i32_0; have := i32_1; have := i32_2; have := i32_m1; have : (sg_17 5).toInt = 3 := (by rw [up_at esg_17]; rfl); have := (hx5_59).1; have := (hx5_59).2; have := (h_2).1; have := (h_2).2; have := (h152).1; have := (h152).2; have := (hr_10).1; have := (hr_10).2; have := (h_16).1; have := (h_16).2; omega), p2⟩⟩)))))⟩, by rw [ht]; exact hP, va_K.moved hW.alike hK, hD⟩, hS.F ht⟩) hS.2.2 dX13_call_195
          · have h_20 : iv 1 1 r_12 := iv_neL c_15 hr_12 (by decide)
            refine lv_iconst (v := 0) hx hb dX13_call_172 (by decide) ?_
            refine lv_goto (tgt := 177) hx hb dX13_call_173 (by decide) ?_
            refine ma_put (x := 0) hx hb htb inX13 hown hK hP hD hS 5 (by decide) (by decide) (htb _ kw_239) rfl rfl rfl dX13_call_177 (fun sg_21 H locs esg_21 hP hD hS => ?_)
            have hI_sg_21 := MI_put hIv_14 esg_21 (iv_k (by decide) : iv 0 0 0) (by decide)
            refine lv_aload_n hx hb dX13_call_180 rfl (lv_at hl 3 rfl) ?_
            refine mr_get (v := .int (sg_21 5)) hx hb htb inX13 hown hK hP 5 (by decide) (htb _ kw_239) rfl dX13_call_181 ?_
            refine lv_topi (fun z_22 ez_22 => ?_)
            obtain rfl : 0 = z_22 := (ez_22.trans (up_at esg_21)).symm
            refine lv_if_le (tgt := 191) hx hb dX13_call_184 (by decide) (fun _ => ?_) (fun c_23 => absurd (by decide) c_23)
            refine lv_aload_n hx hb dX13_call_191 rfl (lv_at hl 3 rfl) ?_
            refine mr_get (v := .int (sg_21 74)) hx hb htb inX13 hown hK hP 74 (by decide) (htb _ kw_1161) rfl dX13_call_192 ?_
            refine lv_topi (fun z_24 ez_24 => ?_)
            obtain rfl : (sgv_14 74) = z_24 := (ez_24.trans (up_ne esg_21 (by decide))).symm
            exact W.iret (v := (sgv_14 74)) hx hb hr (fun t ht hW => ⟨⟨(sgv_14 74), (sg_21, gmv_14, lg), rfl, ⟨sg_21, gmv_14, lg, rfl, hI_sg_21, (KS_up (KS_tr (L := [5, 48, 49, 50, 51, 52, 63, 74]) (KS_up (KS_tr (L := [5, 48, 49, 50, 51, 52, 63, 74]) KS_rf hks_j59 (by decide)) esg_5 (by decide)) ksv_14 (by decide)) esg_21 (by decide)), (KS_tr (L := [53, 54, 55, 56, 57, 58, 59, 60, 61, 62, 64, 65, 66, 67, 68, 69, 70, 71, 72, 73, 75]) KS_rf kgv_14 (by decide)), KS_rf, ((GI0_of fGI_r_12 (show KS [5] sgv_14 sg_21 from (KS_up KS_rf esg_21 (by decide))) (show KS [] gmv_14 gmv_14 from KS_rf) (show KS [] lg lg from KS_rf) (by decide) (by decide) (by decide) (by decide) (by decide) (by decide))), ((MO_of fMo_r_12 (show KS [5] sgv_14 sg_21 from (KS_up KS_rf esg_21 (by decide))) (show KS [] gmv_14 gmv_14 from KS_rf) (by decide) (by decide))), ((Or.inr (Or.inr (by obtain ⟨S2, q1, q2, ⟨p1, p2⟩ | ⟨p1, p2⟩⟩ := RU_g (show iv 0 80 (ws 12) from (by have q5 := hBR.1; rw [rs9_41 hRS] at q5; have q6 := (show iv 0 80 (sg 41) from MI_s hI 41); exact ⟨by rw [← q5]; exact q6.1, by rw [← q5]; exact q6.2⟩)) hca f9_r_12; (exact ⟨hdc, (by rw [hi3]; omega), S2, (RR_ks q1 (show KS [5] sgv_14 sg_21 from (KS_up KS_rf esg_21 (by decide))) (KS_rf (L := []) (f := gmv_14)) (by decide) (by decide)), q2, Or.inl ⟨(by have := i32_0; have := i32_1; have := i32_2; have := i32_m1; have : (sg_21 5).toInt = 0 := (by rw [up_at esg_21]; rfl); have := (hx5_59).1; have := (hx5_59).2; have := (h_2).1; have := (h_2).2; have := (h152).1; have := (h152).2; have := (hr_10).1; have := (hr_10).2; have := (h_20).1; have := (h_20).2; have := ((show iv (-1) 59 (sgv_14 74) from MI_s hIv_14 74)).1; have := ((show iv (-1) 59 (sgv_14 74) from MI_s hIv_14 74)).2; omega), p2⟩⟩); (exfalso; have := i32_0; have := i32_1; have := i32_2; have := i32_m1; have := (hx5_59).1; have := (hx5_59).2; have := (h_2).1; have := (h_2).2; have := (h152).1; have := (h152).2; have := (hr_10).1; have := (hr_10).2; have := (h_20).1; have := (h_20).2; have := ((show iv (-1) 59 (sgv_14 74) from MI_s hIv_14 74)).1; have := ((show iv (-1) 59 (sgv_14 74) from MI_s hIv_14 74)).2; have := p1; omega)))))⟩, by rw [ht]; exact hP, va_K.moved hW.alike hK, hD⟩, hS.F ht⟩) hS.2.2 dX13_call_195
        · have h_25 : iv (-1) (-1) x3_59 := iv_eq c_3 hx3_59 (iv_k (by decide) : iv (-1) (-1) (-1)) (by decide)
          refine lv_iconst (v := 2) hx hb dX13_call_135 (by decide) ?_
          refine lv_goto (tgt := 140) hx hb dX13_call_136 (by decide) ?_
          refine ma_put (x := 2) hx hb htb inX13 hown hK hP hD hS 5 (by decide) (by decide) (htb _ kw_239) rfl rfl rfl dX13_call_140 (fun sg_26 H locs esg_26 hP hD hS => ?_)
          have hI_sg_26 := MI_put hI_j59 esg_26 (iv_k (by decide) : iv 2 2 2) (by decide)
          refine lv_aload_n hx hb dX13_call_143 rfl (lv_at hl 3 rfl) ?_
          refine mr_get (v := .int (sg_26 5)) hx hb htb inX13 hown hK hP 5 (by decide) (htb _ kw_239) rfl dX13_call_144 ?_
          refine lv_topi (fun z_27 ez_27 => ?_)
          obtain rfl : 2 = z_27 := (ez_27.trans (up_at esg_26)).symm
          refine lv_if_le (tgt := 152) hx hb dX13_call_147 (by decide) (fun c_28 => absurd c_28 (by decide)) (fun _ => ?_)
          refine lv_iconst (v := 0) hx hb dX13_call_150 (by decide) ?_
          exact W.iret (v := 0) hx hb hr (fun t ht hW => ⟨⟨0, (sg_26, gm, lg), rfl, ⟨sg_26, gm, lg, rfl, hI_sg_26, (KS_up (KS_tr (L := [5, 48, 49, 50, 51, 52, 63, 74]) KS_rf hks_j59 (by decide)) esg_26 (by decide)), KS_rf, KS_rf, ((GI0_of hgi (show KS [5, 51, 52] sg sg_26 from (KS_up (KS_tr (L := [5, 51, 52]) KS_rf hks_j59 (by decide)) esg_26 (by decide))) (show KS [] gm gm from KS_rf) (show KS [] lg lg from KS_rf) (by decide) (by decide) (by decide) (by decide) (by decide) (by decide))), ((MO_of hmo (show KS [5, 51, 52] sg sg_26 from (KS_up (KS_tr (L := [5, 51, 52]) KS_rf hks_j59 (by decide)) esg_26 (by decide))) (show KS [] gm gm from KS_rf) (by decide) (by decide))), ((Or.inr (Or.inl ⟨hdc, (by rcases hfin with q | q; (rw [q.2]; decide); (exfalso; obtain ⟨i9, q1, q2, q3, q4, q5, q6⟩ := q; have := i32_0; have := i32_1; have := i32_2; have := i32_m1; have := (hx5_59).1; have := (hx5_59).2; have := (h_2).1; have := (h_2).2; have := (h_25).1; have := (h_25).2; omega)), (by have := i32_0; have := i32_1; have := i32_2; have := i32_m1; have : (sg_26 5).toInt = 2 := (by rw [up_at esg_26]; rfl); have := (hx5_59).1; have := (hx5_59).2; have := (h_2).1; have := (h_2).2; have := (h_25).1; have := (h_25).2; omega), (RR_ks (L := [5, 51, 52]) (M := []) hRR (KS_up (KS_tr (L := [5, 51, 52]) KS_rf hks_j59 (by decide)) esg_26 (by decide)) KS_rf (by decide) (by decide))⟩)))⟩, by rw [ht]; exact hP, va_K.moved hW.alike hK, hD⟩, hS.F ht⟩) hS.2.2 dX13_call_151
      · have h_29 : iv 1 1 x4_59 := iv_neL c_1 hx4_59 (by decide)
        obtain ⟨_, h64o, h64l, hLQ, hk5⟩ := hLQd.resolve_left (fun q => absurd q.1 (by have := i32_0; have := i32_1; have := i32_2; have := i32_m1; have := (hx5_59).1; have := (hx5_59).2; have := (h_29).1; have := (h_29).2; have := (hx3_59).1; have := (hx3_59).2; omega))
        have hbv := (show iv 0 79 (gm 54 o.toNatClampNeg) from ⟨(OB_r (o := o) hRR (hOBd.resolve_left hdc) h64o.1 h64l).1, (by have q9 := (show (gm 54 o.toNatClampNeg).toInt < (sg 41).toInt from (by have q5 := hBR.1; rw [rs9_41 hRS] at q5; have q6 := (OB_r (o := o) hRR (hOBd.resolve_left hdc) h64o.1 h64l).2; have q7 : (ws 12).toNatClampNeg = (ws 12).toInt.toNat := rfl; have q8 := (show iv 0 80 (sg 41) from MI_s hI 41).1; omega)); have q8 := (show iv 0 80 (sg 41) from MI_s hI 41).2; omega)⟩)
        have hbl := (show (gm 54 o.toNatClampNeg).toInt < (sg 41).toInt from (by have q5 := hBR.1; rw [rs9_41 hRS] at q5; have q6 := (OB_r (o := o) hRR (hOBd.resolve_left hdc) h64o.1 h64l).2; have q7 : (ws 12).toNatClampNeg = (ws 12).toInt.toNat := rfl; have q8 := (show iv 0 80 (sg 41) from MI_s hI 41).1; omega))
        refine lv_iload hx hb dX13_call_64 (lv_at hl 0 rfl) ?_
        refine lv_aload_n hx hb dX13_call_66 rfl (lv_at hl 3 rfl) ?_
        refine mr_get (v := .ref (ad 46)) hx hb htb inX13 hown hK hP 46 (by decide) (htb _ kw_200) rfl dX13_call_67 ?_
        refine lv_aload_n hx hb dX13_call_70 rfl (lv_at hl 3 rfl) ?_
        refine mr_get (v := .ref (ad 54)) hx hb htb inX13 hown hK hP 54 (by decide) (htb _ kw_204) rfl dX13_call_71 ?_
        refine lv_iload_n hx hb dX13_call_74 rfl (lv_at hl 4 rfl) ?_
        refine mr_iald hx hb hK hP 40 (k := 54) rfl rfl rfl (show vp_in o 60 from (iv_in h64o (by decide))) dX13_call_75 ?_
        refine lv_topi (fun z_30 ez_30 => ?_)
        have hz_30 : iv 0 79 z_30 := iv_of ez_30 (MI_a hI_j59 54 h64o (by decide))
        refine mr_iald hx hb hK hP 37 (k := 46) rfl rfl rfl (show vp_in z_30 80 from (iv_in hz_30 (by decide))) dX13_call_76 ?_
        refine lv_topi (fun z_31 ez_31 => ?_)
        have hz_31 : iv 0 26 z_31 := iv_of ez_31 (MI_a hI_j59 46 hz_30 (by decide))
        refine lv_icmp_ge (tgt := 129) hx hb dX13_call_77 (by decide) (fun c_32 => ?_) (fun c_32 => ?_)
        · have d_33 : (z_31 : Int32).toInt ≤ (x5_59 : Int32).toInt := Int32.le_iff_toInt_le.mp c_32
          have hfin : (x3_59.toInt = -1 ∧ zLk wg o.toInt nm.toInt S = -1) ∨ (∃ i, i < (wg 41 (3 * (gm 54 o.toNatClampNeg).toNatClampNeg + 2)).toNatClampNeg ∧ x3_59 = wg 57 (128 * (3 * (gm 54 o.toNatClampNeg).toNatClampNeg + 2) + i) ∧ zLk wg o.toInt nm.toInt S = (x3_59.toNatClampNeg : Int) ∧ iv 0 59 o ∧ o.toInt < (sg 48).toInt ∧ 0 ≤ x3_59.toInt) := (by have q0 := zLk_r (wl := wl) (nm := nm) hRR h64o.1 h64l; rw [show (gm 54 o.toNatClampNeg).toInt.toNat = (gm 54 o.toNatClampNeg).toNatClampNeg from rfl] at q0; have q5 := (BR_l hBR hRW hRS hbv hbl).1; have q6 := congrArg Int32.toInt (show z_31 = gm 46 (gm 54 o.toNatClampNeg).toNatClampNeg from (by rw [ez_31, (show z_30 = (gm 54 o.toNatClampNeg) from ez_30)])); rcases LKQ_e hLQ (by have q7 : (wg 41 (3 * (gm 54 o.toNatClampNeg).toNatClampNeg + 2)).toNatClampNeg = (wg 41 (3 * (gm 54 o.toNatClampNeg).toNatClampNeg + 2)).toInt.toNat := rfl; have := hk5; have q1 : x5_59.toNatClampNeg = x5_59.toInt.toNat := rfl; have := i32_0; have := i32_1; have := i32_2; have := i32_m1; have := (hx5_59).1; have := (hx5_59).2; have := (h_29).1; have := (h_29).2; have := (hx3_59).1; have := (hx3_59).2; have := (h64o).1; have := (h64o).2; have := (hz_30).1; have := (hz_30).2; have := (hz_31).1; have := (hz_31).2; omega) (fun n hn j hj => ((BR_l hBR hRW hRS hbv hbl).2 n hn).2.2.2 j hj) with ⟨p1, p2⟩ | ⟨i, p1, p2, p3, p4⟩; (exact Or.inl ⟨p1, q0.trans p2⟩); (exact Or.inr ⟨i, p1, p2, q0.trans p3, h64o, h64l, p4⟩))
          refine lv_aload_n hx hb dX13_call_129 rfl (lv_at hl 3 rfl) ?_
          refine lv_iload_n hx hb dX13_call_130 rfl (lv_at hl 2 rfl) ?_
          refine lv_iconst (v := (-1)) hx hb dX13_call_131 (by decide) ?_
          refine lv_icmp_ne (tgt := 139) hx hb dX13_call_132 (by decide) (fun c_34 => ?_) (fun c_34 => ?_)
          · have h_35 : iv 0 79 x3_59 := iv_neL c_34 hx3_59 (by decide)
            refine lv_iconst (v := 0) hx hb dX13_call_139 (by decide) ?_
            refine ma_put (x := 0) hx hb htb inX13 hown hK hP hD hS 5 (by decide) (by decide) (htb _ kw_239) rfl rfl rfl dX13_call_140 (fun sg_36 H locs esg_36 hP hD hS => ?_)
            have hI_sg_36 := MI_put hI_j59 esg_36 (iv_k (by decide) : iv 0 0 0) (by decide)
            refine lv_aload_n hx hb dX13_call_143 rfl (lv_at hl 3 rfl) ?_
            refine mr_get (v := .int (sg_36 5)) hx hb htb inX13 hown hK hP 5 (by decide) (htb _ kw_239) rfl dX13_call_144 ?_
            refine lv_topi (fun z_37 ez_37 => ?_)
            obtain rfl : 0 = z_37 := (ez_37.trans (up_at esg_36)).symm
            refine lv_if_le (tgt := 152) hx hb dX13_call_147 (by decide) (fun _ => ?_) (fun c_38 => absurd (by decide) c_38)
            obtain ⟨i9, hi1, hi2, hi3, hi4, hi5, hi6⟩ := hfin.resolve_left (fun q => absurd q.1 (fun q7 => c_34 (Int32.toInt_inj.mp (q7.trans (by decide)))))
            have h152 : iv 0 79 x3_59 := ⟨hi6, (h_35).2⟩
            have hbl := (show (gm 54 o.toNatClampNeg).toInt < (sg 41).toInt from (by have q5 := hBR.1; rw [rs9_41 hRS] at q5; have q6 := (OB_r (o := o) hRR (hOBd.resolve_left hdc) hi4.1 hi5).2; have q7 : (ws 12).toNatClampNeg = (ws 12).toInt.toNat := rfl; have q8 := (show iv 0 80 (sg 41) from MI_s hI 41).1; omega))
            have hbv := (show iv 0 79 (gm 54 o.toNatClampNeg) from ⟨(OB_r (o := o) hRR (hOBd.resolve_left hdc) hi4.1 hi5).1, (by have q9 := (show (gm 54 o.toNatClampNeg).toInt < (sg 41).toInt from (by have q5 := hBR.1; rw [rs9_41 hRS] at q5; have q6 := (OB_r (o := o) hRR (hOBd.resolve_left hdc) hi4.1 hi5).2; have q7 : (ws 12).toNatClampNeg = (ws 12).toInt.toNat := rfl; have q8 := (show iv 0 80 (sg 41) from MI_s hI 41).1; omega)); have q8 := (show iv 0 80 (sg 41) from MI_s hI 41).2; omega)⟩)
            refine lv_aload_n hx hb dX13_call_152 rfl (lv_at hl 3 rfl) ?_
            refine lv_aload_n hx hb dX13_call_153 rfl (lv_at hl 3 rfl) ?_
            refine lv_aload_n hx hb dX13_call_154 rfl (lv_at hl 3 rfl) ?_
            refine lv_aload_n hx hb dX13_call_155 rfl (lv_at hl 3 rfl) ?_
            refine lv_iload_n hx hb dX13_call_156 rfl (lv_at hl 2 rfl) ?_
            refine lv_ldc2 (own := RX13) (v := 1650811246) hx hb hown (htb _ kw_136) dX13_call_157 ?_
            refine mr_calll (rest := [.ref h0, .ref h0, .ref h0]) ⟨hx, hb, hml, hown, htb⟩ (f_word l dC dI h0 ad cid sg_36 gm lg x3_59 1650811246 hI_sg_36 h152) (cwV 2 htb (gd_V kw_923 kw_924 kw_925 kw_5 kw_1545) rfl rfl rfl (by decide +kernel) ⟨Nat.le_of_ble_eq_true rfl, Nat.le_of_ble_eq_true rfl⟩) rfl hl.1 rfl (Nat.le_of_ble_eq_true rfl) dX13_call_160 ⟨Nat.zero_le _, Nat.zero_le _⟩ hK hP hD hS hA (fun r_39 u_40 H locs hw hP hD hS => ?_)
            obtain ⟨fW_r_39, rfl⟩ := hw
            have hP : va_P (dC, dI) vwCl (mW h0 ad cid sg_36 gm lg) H := hP
            have hD : va_D A (mW h0 ad cid sg_36 gm lg) := hD
            refine mr_calli (rest := [.ref h0, .ref h0]) ⟨hx, hb, hml, hown, htb⟩ (f_called9 l dC dI h0 ad cid sg_36 gm lg r_39 hI_sg_36) (cwV 1 htb (gd_V kw_1168 kw_1169 kw_1170 kw_5 kw_1606) rfl rfl rfl (by decide +kernel) ⟨Nat.le_of_ble_eq_true rfl, Nat.le_of_ble_eq_true rfl⟩) rfl hl.1 rfl (Nat.le_of_ble_eq_true rfl) dX13_call_163 ⟨Nat.zero_le _, Nat.zero_le _⟩ hK hP hD hS hA (fun r_41 u_42 H locs hw hP hD hS => ?_)
            obtain ⟨hr_41, fLt_r_41, fCd_r_41, rfl⟩ := hw
            have hP : va_P (dC, dI) vwCl (mW h0 ad cid sg_36 gm lg) H := hP
            have hD : va_D A (mW h0 ad cid sg_36 gm lg) := hD
            have hca : r_41.toInt = caN ws wg wl (wl 2 (zLk wg o.toInt nm.toInt S).toNat) := (by rw [hi3, show (x3_59.toNatClampNeg : Int).toNat = x3_59.toNatClampNeg from rfl, hi2]; have q5 := ((BR_l hBR hRW hRS hbv hbl).2 i9 hi1).2.2.1; have q6 := fCd_r_41; rw [fW_r_39, hi2, mWord_k (DK_of (show KS [5, 51, 52] sg sg_36 from (KS_up (KS_tr (L := [5, 51, 52]) KS_rf hks_j59 (by decide)) esg_36 (by decide))) (show KS [] gm gm from KS_rf) (show KS [] lg lg from KS_rf) (by decide) (by decide) (by decide)).1] at q6; unfold cdR at *; rw [cdF_k (DK_of (show KS [5, 51, 52] sg sg_36 from (KS_up (KS_tr (L := [5, 51, 52]) KS_rf hks_j59 (by decide)) esg_36 (by decide))) (show KS [] gm gm from KS_rf) (show KS [] lg lg from KS_rf) (by decide) (by decide) (by decide))] at q6; rw [← q5, q6])
            refine mr_calli (rest := [.ref h0]) ⟨hx, hb, hml, hown, htb⟩ (f_run9 l dC dI h0 ad cid sg_36 gm lg r_41 ws wg wl rs rg S hI_sg_36 hr_41 (DOC_of hdoc (show KS [5, 51, 52] sg sg_36 from (KS_up (KS_tr (L := [5, 51, 52]) KS_rf hks_j59 (by decide)) esg_36 (by decide))) (show KS [] gm gm from KS_rf) (show KS [] lg lg from KS_rf) (by decide) (by decide) (by decide) (by decide)) (GI0_of hgi (show KS [5, 51, 52] sg sg_36 from (KS_up (KS_tr (L := [5, 51, 52]) KS_rf hks_j59 (by decide)) esg_36 (by decide))) (show KS [] gm gm from KS_rf) (show KS [] lg lg from KS_rf) (by decide) (by decide) (by decide) (by decide) (by decide) (by decide)) hPR (MO_of hmo (show KS [5, 51, 52] sg sg_36 from (KS_up (KS_tr (L := [5, 51, 52]) KS_rf hks_j59 (by decide)) esg_36 (by decide))) (show KS [] gm gm from KS_rf) (by decide) (by decide)) fLt_r_41 hRW ((rs9_ks (L := [5, 51, 52]) (KS_up (KS_tr (L := [5, 51, 52]) KS_rf hks_j59 (by decide)) esg_36 (by decide)) rfl rfl).trans hRS) hBR hCL (RR_ks (L := [5, 51, 52]) (M := []) hRR (KS_up (KS_tr (L := [5, 51, 52]) KS_rf hks_j59 (by decide)) esg_36 (by decide)) KS_rf (by decide) (by decide)) hWD hST hST2 hSB hWF (by have := i32_0; have := i32_1; have := i32_2; have := i32_m1; have := congrArg Int32.toInt (show sg_36 51 = sg_j59 51 from up_ne esg_36 (by decide)); have := (show iv 0 8 (sg_j59 51) from MI_s hI_j59 51).1; have := (show iv 0 8 (sg_j59 51) from MI_s hI_j59 51).2; have := (show iv 0 8 (sg 51) from MI_s hI 51).1; have := (show iv 0 8 (sg 51) from MI_s hI 51).2; have := (show iv 0 8 (sg_j59 51) from MI_s hI_j59 51).1; have := (show iv 0 8 (sg_j59 51) from MI_s hI_j59 51).2; have := (hx5_59).1; have := (hx5_59).2; have := (h_29).1; have := (h_29).2; have := (h152).1; have := (h152).2; have := (h64o).1; have := (h64o).2; have := (hz_30).1; have := (hz_30).2; have := (hz_31).1; have := (hz_31).2; have := (hr_41).1; have := (hr_41).2; omega)) (cwV 1 htb (gd_V kw_1154 kw_1155 kw_1156 kw_5 kw_1602) rfl rfl rfl (by decide +kernel) ⟨Nat.le_of_ble_eq_true rfl, Nat.le_of_ble_eq_true rfl⟩) rfl hl.1 rfl (Nat.le_of_ble_eq_true rfl) dX13_call_166 ⟨Nat.zero_le _, Nat.zero_le _⟩ hK hP hD hS hA (fun r_43 u_44 H locs hw hP hD hS => ?_)
            obtain ⟨sgv_45, gmv_45, lgv_45, rfl, hIv_45, ksv_45, kgv_45, klv_45, hr_43, fGI_r_43, fMo_r_43, f9_r_43⟩ := hw
            obtain rfl := KS_nil klv_45
            have hP : va_P (dC, dI) vwCl (mW h0 ad cid sgv_45 gmv_45 lg) H := hP
            have hD : va_D A (mW h0 ad cid sgv_45 gmv_45 lg) := hD
            refine lv_if_eq (tgt := 176) hx hb dX13_call_169 (by decide) (fun c_46 => ?_) (fun c_46 => ?_)
            · have h_47 : iv 0 0 r_43 := iv_eq c_46 hr_43 (iv_k (by decide) : iv 0 0 0) (by decide)
              refine lv_iconst (v := 3) hx hb dX13_call_176 (by decide) ?_
              refine ma_put (x := 3) hx hb htb inX13 hown hK hP hD hS 5 (by decide) (by decide) (htb _ kw_239) rfl rfl rfl dX13_call_177 (fun sg_48 H locs esg_48 hP hD hS => ?_)
              have hI_sg_48 := MI_put hIv_45 esg_48 (iv_k (by decide) : iv 3 3 3) (by decide)
              refine lv_aload_n hx hb dX13_call_180 rfl (lv_at hl 3 rfl) ?_
              refine mr_get (v := .int (sg_48 5)) hx hb htb inX13 hown hK hP 5 (by decide) (htb _ kw_239) rfl dX13_call_181 ?_
              refine lv_topi (fun z_49 ez_49 => ?_)
              obtain rfl : 3 = z_49 := (ez_49.trans (up_at esg_48)).symm
              refine lv_if_le (tgt := 191) hx hb dX13_call_184 (by decide) (fun c_50 => absurd c_50 (by decide)) (fun _ => ?_)
              refine lv_iconst (v := 0) hx hb dX13_call_187 (by decide) ?_
              refine lv_goto (tgt := 195) hx hb dX13_call_188 (by decide) ?_
              exact W.iret (v := 0) hx hb hr (fun t ht hW => ⟨⟨0, (sg_48, gmv_45, lg), rfl, ⟨sg_48, gmv_45, lg, rfl, hI_sg_48, (KS_up (KS_tr (L := [5, 48, 49, 50, 51, 52, 63, 74]) (KS_up (KS_tr (L := [5, 48, 49, 50, 51, 52, 63, 74]) KS_rf hks_j59 (by decide)) esg_36 (by decide)) ksv_45 (by decide)) esg_48 (by decide)), (KS_tr (L := [53, 54, 55, 56, 57, 58, 59, 60, 61, 62, 64, 65, 66, 67, 68, 69, 70, 71, 72, 73, 75]) KS_rf kgv_45 (by decide)), KS_rf, ((GI0_of fGI_r_43 (show KS [5] sgv_45 sg_48 from (KS_up KS_rf esg_48 (by decide))) (show KS [] gmv_45 gmv_45 from KS_rf) (show KS [] lg lg from KS_rf) (by decide) (by decide) (by decide) (by decide) (by decide) (by decide))), ((MO_of fMo_r_43 (show KS [5] sgv_45 sg_48 from (KS_up KS_rf esg_48 (by decide))) (show KS [] gmv_45 gmv_45 from KS_rf) (by decide) (by decide))), ((Or.inr (Or.inr (by obtain ⟨S2, q1, q2, ⟨p1, p2⟩ | ⟨p1, p2⟩⟩ := RU_g (show iv 0 80 (ws 12) from (by have q5 := hBR.1; rw [rs9_41 hRS] at q5; have q6 := (show iv 0 80 (sg 41) from MI_s hI 41); exact ⟨by rw [← q5]; exact q6.1, by rw [← q5]; exact q6.2⟩)) hca f9_r_43; (exfalso; have := i32_0; have := i32_1; have := i32_2; have := i32_m1; have := (hx5_59).1; have := (hx5_59).2; have := (h_29).1; have := (h_29).2; have := (h152).1; have := (h152).2; have := (h64o).1; have := (h64o).2; have := (hz_30).1; have := (hz_30).2; have := (hz_31).1; have := (hz_31).2; have := (hr_41).1; have := (hr_41).2; have := (h_47).1; have := (h_47).2; have := p1; omega); (exact ⟨hdc, (by rw [hi3]; omega), S2, (RR_ks q1 (show KS [5] sgv_45 sg_48 from (KS_up KS_rf esg_48 (by decide))) (KS_rf (L := []) (f := gmv_45)) (by decide) (by decide)), q2, Or.inr ⟨(by have := i32_0; have := i32_1; have := i32_2; have := i32_m1; have : (sg_48 5).toInt = 3 := (by rw [up_at esg_48]; rfl); have := (hx5_59).1; have := (hx5_59).2; have := (h_29).1; have := (h_29).2; have := (h152).1; have := (h152).2; have := (h64o).1; have := (h64o).2; have := (hz_30).1; have := (hz_30).2; have := (hz_31).1; have := (hz_31).2; have := (hr_41).1; have := (hr_41).2; have := (h_47).1; have := (h_47).2; omega), p2⟩⟩)))))⟩, by rw [ht]; exact hP, va_K.moved hW.alike hK, hD⟩, hS.F ht⟩) hS.2.2 dX13_call_195
            · have h_51 : iv 1 1 r_43 := iv_neL c_46 hr_43 (by decide)
              refine lv_iconst (v := 0) hx hb dX13_call_172 (by decide) ?_
              refine lv_goto (tgt := 177) hx hb dX13_call_173 (by decide) ?_
              refine ma_put (x := 0) hx hb htb inX13 hown hK hP hD hS 5 (by decide) (by decide) (htb _ kw_239) rfl rfl rfl dX13_call_177 (fun sg_52 H locs esg_52 hP hD hS => ?_)
              have hI_sg_52 := MI_put hIv_45 esg_52 (iv_k (by decide) : iv 0 0 0) (by decide)
              refine lv_aload_n hx hb dX13_call_180 rfl (lv_at hl 3 rfl) ?_
              refine mr_get (v := .int (sg_52 5)) hx hb htb inX13 hown hK hP 5 (by decide) (htb _ kw_239) rfl dX13_call_181 ?_
              refine lv_topi (fun z_53 ez_53 => ?_)
              obtain rfl : 0 = z_53 := (ez_53.trans (up_at esg_52)).symm
              refine lv_if_le (tgt := 191) hx hb dX13_call_184 (by decide) (fun _ => ?_) (fun c_54 => absurd (by decide) c_54)
              refine lv_aload_n hx hb dX13_call_191 rfl (lv_at hl 3 rfl) ?_
              refine mr_get (v := .int (sg_52 74)) hx hb htb inX13 hown hK hP 74 (by decide) (htb _ kw_1161) rfl dX13_call_192 ?_
              refine lv_topi (fun z_55 ez_55 => ?_)
              obtain rfl : (sgv_45 74) = z_55 := (ez_55.trans (up_ne esg_52 (by decide))).symm
              exact W.iret (v := (sgv_45 74)) hx hb hr (fun t ht hW => ⟨⟨(sgv_45 74), (sg_52, gmv_45, lg), rfl, ⟨sg_52, gmv_45, lg, rfl, hI_sg_52, (KS_up (KS_tr (L := [5, 48, 49, 50, 51, 52, 63, 74]) (KS_up (KS_tr (L := [5, 48, 49, 50, 51, 52, 63, 74]) KS_rf hks_j59 (by decide)) esg_36 (by decide)) ksv_45 (by decide)) esg_52 (by decide)), (KS_tr (L := [53, 54, 55, 56, 57, 58, 59, 60, 61, 62, 64, 65, 66, 67, 68, 69, 70, 71, 72, 73, 75]) KS_rf kgv_45 (by decide)), KS_rf, ((GI0_of fGI_r_43 (show KS [5] sgv_45 sg_52 from (KS_up KS_rf esg_52 (by decide))) (show KS [] gmv_45 gmv_45 from KS_rf) (show KS [] lg lg from KS_rf) (by decide) (by decide) (by decide) (by decide) (by decide) (by decide))), ((MO_of fMo_r_43 (show KS [5] sgv_45 sg_52 from (KS_up KS_rf esg_52 (by decide))) (show KS [] gmv_45 gmv_45 from KS_rf) (by decide) (by decide))), ((Or.inr (Or.inr (by obtain ⟨S2, q1, q2, ⟨p1, p2⟩ | ⟨p1, p2⟩⟩ := RU_g (show iv 0 80 (ws 12) from (by have q5 := hBR.1; rw [rs9_41 hRS] at q5; have q6 := (show iv 0 80 (sg 41) from MI_s hI 41); exact ⟨by rw [← q5]; exact q6.1, by rw [← q5]; exact q6.2⟩)) hca f9_r_43; (exact ⟨hdc, (by rw [hi3]; omega), S2, (RR_ks q1 (show KS [5] sgv_45 sg_52 from (KS_up KS_rf esg_52 (by decide))) (KS_rf (L := []) (f := gmv_45)) (by decide) (by decide)), q2, Or.inl ⟨(by have := i32_0; have := i32_1; have := i32_2; have := i32_m1; have : (sg_52 5).toInt = 0 := (by rw [up_at esg_52]; rfl); have := (hx5_59).1; have := (hx5_59).2; have := (h_29).1; have := (h_29).2; have := (h152).1; have := (h152).2; have := (h64o).1; have := (h64o).2; have := (hz_30).1; have := (hz_30).2; have := (hz_31).1; have := (hz_31).2; have := (hr_41).1; have := (hr_41).2; have := (h_51).1; have := (h_51).2; have := ((show iv (-1) 59 (sgv_45 74) from MI_s hIv_45 74)).1; have := ((show iv (-1) 59 (sgv_45 74) from MI_s hIv_45 74)).2; omega), p2⟩⟩); (exfalso; have := i32_0; have := i32_1; have := i32_2; have := i32_m1; have := (hx5_59).1; have := (hx5_59).2; have := (h_29).1; have := (h_29).2; have := (h152).1; have := (h152).2; have := (h64o).1; have := (h64o).2; have := (hz_30).1; have := (hz_30).2; have := (hz_31).1; have := (hz_31).2; have := (hr_41).1; have := (hr_41).2; have := (h_51).1; have := (h_51).2; have := ((show iv (-1) 59 (sgv_45 74) from MI_s hIv_45 74)).1; have := ((show iv (-1) 59 (sgv_45 74) from MI_s hIv_45 74)).2; have := p1; omega)))))⟩, by rw [ht]; exact hP, va_K.moved hW.alike hK, hD⟩, hS.F ht⟩) hS.2.2 dX13_call_195
          · have h_56 : iv (-1) (-1) x3_59 := iv_eq c_34 hx3_59 (iv_k (by decide) : iv (-1) (-1) (-1)) (by decide)
            refine lv_iconst (v := 2) hx hb dX13_call_135 (by decide) ?_
            refine lv_goto (tgt := 140) hx hb dX13_call_136 (by decide) ?_
            refine ma_put (x := 2) hx hb htb inX13 hown hK hP hD hS 5 (by decide) (by decide) (htb _ kw_239) rfl rfl rfl dX13_call_140 (fun sg_57 H locs esg_57 hP hD hS => ?_)
            have hI_sg_57 := MI_put hI_j59 esg_57 (iv_k (by decide) : iv 2 2 2) (by decide)
            refine lv_aload_n hx hb dX13_call_143 rfl (lv_at hl 3 rfl) ?_
            refine mr_get (v := .int (sg_57 5)) hx hb htb inX13 hown hK hP 5 (by decide) (htb _ kw_239) rfl dX13_call_144 ?_
            refine lv_topi (fun z_58 ez_58 => ?_)
            obtain rfl : 2 = z_58 := (ez_58.trans (up_at esg_57)).symm
            refine lv_if_le (tgt := 152) hx hb dX13_call_147 (by decide) (fun c_59 => absurd c_59 (by decide)) (fun _ => ?_)
            refine lv_iconst (v := 0) hx hb dX13_call_150 (by decide) ?_
            exact W.iret (v := 0) hx hb hr (fun t ht hW => ⟨⟨0, (sg_57, gm, lg), rfl, ⟨sg_57, gm, lg, rfl, hI_sg_57, (KS_up (KS_tr (L := [5, 48, 49, 50, 51, 52, 63, 74]) KS_rf hks_j59 (by decide)) esg_57 (by decide)), KS_rf, KS_rf, ((GI0_of hgi (show KS [5, 51, 52] sg sg_57 from (KS_up (KS_tr (L := [5, 51, 52]) KS_rf hks_j59 (by decide)) esg_57 (by decide))) (show KS [] gm gm from KS_rf) (show KS [] lg lg from KS_rf) (by decide) (by decide) (by decide) (by decide) (by decide) (by decide))), ((MO_of hmo (show KS [5, 51, 52] sg sg_57 from (KS_up (KS_tr (L := [5, 51, 52]) KS_rf hks_j59 (by decide)) esg_57 (by decide))) (show KS [] gm gm from KS_rf) (by decide) (by decide))), ((Or.inr (Or.inl ⟨hdc, (by rcases hfin with q | q; (rw [q.2]; decide); (exfalso; obtain ⟨i9, q1, q2, q3, q4, q5, q6⟩ := q; have := i32_0; have := i32_1; have := i32_2; have := i32_m1; have := (hx5_59).1; have := (hx5_59).2; have := (h_29).1; have := (h_29).2; have := (h_56).1; have := (h_56).2; have := (h64o).1; have := (h64o).2; have := (hz_30).1; have := (hz_30).2; have := (hz_31).1; have := (hz_31).2; omega)), (by have := i32_0; have := i32_1; have := i32_2; have := i32_m1; have : (sg_57 5).toInt = 2 := (by rw [up_at esg_57]; rfl); have := (hx5_59).1; have := (hx5_59).2; have := (h_29).1; have := (h_29).2; have := (h_56).1; have := (h_56).2; have := (h64o).1; have := (h64o).2; have := (hz_30).1; have := (hz_30).2; have := (hz_31).1; have := (hz_31).2; omega), (RR_ks (L := [5, 51, 52]) (M := []) hRR (KS_up (KS_tr (L := [5, 51, 52]) KS_rf hks_j59 (by decide)) esg_57 (by decide)) KS_rf (by decide) (by decide))⟩)))⟩, by rw [ht]; exact hP, va_K.moved hW.alike hK, hD⟩, hS.F ht⟩) hS.2.2 dX13_call_151
        · have d_60 : (x5_59 : Int32).toInt < (z_31 : Int32).toInt := Int32.lt_iff_toInt_lt.mp (i32_lt c_32)
          have h_61 : iv 0 25 x5_59 := iv_ltL (i32_lt c_32) hx5_59 hz_31 (by decide)
          have h_62 : iv 1 26 z_31 := iv_ltR (i32_lt c_32) hx5_59 hz_31 (by decide)
          have hkn : x5_59.toNatClampNeg < (wg 41 (3 * (gm 54 o.toNatClampNeg).toNatClampNeg + 2)).toNatClampNeg := (by have q5 := (BR_l hBR hRW hRS hbv hbl).1; have q6 := congrArg Int32.toInt (show z_31 = gm 46 (gm 54 o.toNatClampNeg).toNatClampNeg from (by rw [ez_31, (show z_30 = (gm 54 o.toNatClampNeg) from ez_30)])); have q7 : (wg 41 (3 * (gm 54 o.toNatClampNeg).toNatClampNeg + 2)).toNatClampNeg = (wg 41 (3 * (gm 54 o.toNatClampNeg).toNatClampNeg + 2)).toInt.toNat := rfl; have q1 : x5_59.toNatClampNeg = x5_59.toInt.toNat := rfl; have := i32_0; have := i32_1; have := i32_2; have := i32_m1; have := (h_61).1; have := (h_61).2; have := (h_29).1; have := (h_29).2; have := (hx3_59).1; have := (hx3_59).2; have := (h64o).1; have := (h64o).2; have := (hz_30).1; have := (hz_30).2; have := (h_62).1; have := (h_62).2; omega)
          have hbl9 := (BR_l hBR hRW hRS hbv hbl).2 _ hkn
          refine lv_aload_n hx hb dX13_call_80 rfl (lv_at hl 3 rfl) ?_
          refine mr_get (v := .ref (ad 47)) hx hb htb inX13 hown hK hP 47 (by decide) (htb _ kw_201) rfl dX13_call_81 ?_
          refine lv_bipush (v := 26) hx hb dX13_call_84 (by decide) ?_
          refine lv_aload_n hx hb dX13_call_86 rfl (lv_at hl 3 rfl) ?_
          refine mr_get (v := .ref (ad 54)) hx hb htb inX13 hown hK hP 54 (by decide) (htb _ kw_204) rfl dX13_call_87 ?_
          refine lv_iload_n hx hb dX13_call_90 rfl (lv_at hl 4 rfl) ?_
          refine mr_iald hx hb hK hP 40 (k := 54) rfl rfl rfl (show vp_in o 60 from (iv_in h64o (by decide))) dX13_call_91 ?_
          refine lv_topi (fun z_63 ez_63 => ?_)
          obtain rfl : z_30 = z_63 := ez_30.trans ez_63.symm
          refine lv_imul hx hb dX13_call_92 ?_
          refine lv_topi (fun z_64 ez_64 => ?_)
          have hz_64 : iv 0 2054 z_64 := iv_of ez_64 (iv_mul (iv_k (by decide) : iv 26 26 26) hz_30 (by decide))
          have tz_64 : z_64.toInt = 26 * (z_30 : Int32).toInt := by rw [ez_64]; exact iv_mulE (iv_k (by decide) : iv 26 26 26) hz_30 (by decide)
          refine lv_iload hx hb dX13_call_93 (lv_at hl 0 rfl) ?_
          refine lv_iadd hx hb dX13_call_95 ?_
          refine lv_topi (fun z_65 ez_65 => ?_)
          have hz_65 : iv 0 2079 z_65 := iv_of ez_65 (iv_add hz_64 h_61 (by decide))
          have tz_65 : z_65.toInt = (z_64 : Int32).toInt + (x5_59 : Int32).toInt := by rw [ez_65]; exact iv_addE hz_64 h_61 (by decide)
          refine mr_iald hx hb hK hP 38 (k := 47) rfl rfl rfl (show vp_in z_65 2080 from (iv_in hz_65 (by decide))) dX13_call_96 ?_
          refine lv_topi (fun z_66 ez_66 => ?_)
          have hz_66 : iv 0 79 z_66 := iv_of ez_66 (MI_a hI_j59 47 hz_65 (by decide))
          refine lv_istore (lv' := [(6, .int z_66), (5, .int x5_59), (4, .int x4_59), (3, .int x3_59), (0, .ref h0), (1, .int o), (2, .int nm)]) hx hb dX13_call_97 hl (by decide) rfl (fun ls hl => ?_)
          have hel : z_66 = wg 57 (128 * (3 * (gm 54 o.toNatClampNeg).toNatClampNeg + 2) + x5_59.toNatClampNeg) := (by rw [← hbl9.1, ez_66, show z_65.toNatClampNeg = 26 * (gm 54 o.toNatClampNeg).toNatClampNeg + x5_59.toNatClampNeg from (by have q5 := congrArg Int32.toInt (show z_30 = (gm 54 o.toNatClampNeg) from ez_30); have q6 : (gm 54 o.toNatClampNeg).toNatClampNeg = (gm 54 o.toNatClampNeg).toInt.toNat := rfl; have q1 : z_65.toNatClampNeg = z_65.toInt.toNat := rfl; have q1 : x5_59.toNatClampNeg = x5_59.toInt.toNat := rfl; have := i32_0; have := i32_1; have := i32_2; have := i32_m1; have := (h_61).1; have := (h_61).2; have := (h_29).1; have := (h_29).2; have := (hx3_59).1; have := (hx3_59).2; have := (h64o).1; have := (h64o).2; have := (hz_30).1; have := (hz_30).2; have := (h_62).1; have := (h_62).2; have := (hz_64).1; have := (hz_64).2; have := (hz_65).1; have := (hz_65).2; have := (hz_66).1; have := (hz_66).2; omega)])
          refine lv_aload_n hx hb dX13_call_99 rfl (lv_at hl 4 rfl) ?_
          refine lv_iload hx hb dX13_call_100 (lv_at hl 0 rfl) ?_
          refine lv_ldc2 (own := RX13) (v := 1851878757) hx hb hown (htb _ kw_887) dX13_call_102 ?_
          refine mr_calll (rest := []) ⟨hx, hb, hml, hown, htb⟩ (f_word l dC dI h0 ad cid sg_j59 gm lg z_66 1851878757 hI_j59 hz_66) (cwV 2 htb (gd_V kw_923 kw_924 kw_925 kw_5 kw_1545) rfl rfl rfl (by decide +kernel) ⟨Nat.le_of_ble_eq_true rfl, Nat.le_of_ble_eq_true rfl⟩) rfl hl.1 rfl (Nat.le_of_ble_eq_true rfl) dX13_call_105 ⟨Nat.zero_le _, Nat.zero_le _⟩ hK hP hD hS hA (fun r_67 u_68 H locs hw hP hD hS => ?_)
          obtain ⟨fW_r_67, rfl⟩ := hw
          have hP : va_P (dC, dI) vwCl (mW h0 ad cid sg_j59 gm lg) H := hP
          have hD : va_D A (mW h0 ad cid sg_j59 gm lg) := hD
          refine lv_l2i (v := (r_67).toInt32) hx hb dX13_call_108 rfl ?_
          refine lv_topi (fun z_69 ez_69 => ?_)
          refine lv_bipush (v := 97) hx hb dX13_call_109 (by decide) ?_
          refine lv_isub hx hb dX13_call_111 ?_
          refine lv_topi (fun z_70 ez_70 => ?_)
          have hnm : z_70.toInt = (wg 22 (wg 57 (128 * (3 * (gm 54 o.toNatClampNeg).toNatClampNeg + 2) + x5_59.toNatClampNeg)).toNatClampNeg).toInt := (by have q5 := hbl9.2.1; rw [← hel] at q5 ⊢; have q6 := fW_r_67; rw [← q5, ← q6, ← ez_69, ← ez_70])
          refine lv_iload_n hx hb dX13_call_112 rfl (lv_at hl 6 rfl) ?_
          refine lv_icmp_ne (tgt := 121) hx hb dX13_call_113 (by decide) (fun c_71 => ?_) (fun c_71 => ?_)
          · refine lv_iload_n hx hb dX13_call_121 rfl (lv_at hl 3 rfl) ?_
            refine lv_istore_n (lv' := [(3, .int x3_59), (6, .int z_66), (5, .int x5_59), (4, .int x4_59), (0, .ref h0), (1, .int o), (2, .int nm)]) hx hb dX13_call_122 rfl hl (by decide) rfl (fun ls hl => ?_)
            obtain ⟨z_72, ez_72⟩ : ∃ z : Int32, z = x5_59 + 1 := ⟨_, rfl⟩
            have hz_72 : iv 1 26 z_72 := iv_of ez_72 (iv_add h_61 (iv_k (by decide) : iv 1 1 1) (by decide))
            have tz_72 : z_72.toInt = x5_59.toInt + 1 := by rw [ez_72]; exact iv_addE h_61 (iv_k (by decide) : iv 1 1 1) (by decide)
            refine lv_iinc (v := z_72) (lv' := [(5, .int z_72), (3, .int x3_59), (6, .int z_66), (4, .int x4_59), (0, .ref h0), (1, .int o), (2, .int nm)]) hx hb dX13_call_123 hl (k := 2) rfl ez_72.symm (by decide) rfl (fun ls hl => ?_)
            refine lv_goto (tgt := 59) hx hb dX13_call_126 (by decide) ?_
            exact ih59 _ (by rw [← hn59]; exact (iv_meas tz_72 h_61 (by decide))) sg_j59 z_72 x4_59 x3_59 rfl (iv_w hz_72 (by decide)) (iv_w h_29 (by decide)) hx3_59 (KS_tr (L := [5, 51, 52]) KS_rf hks_j59 (by decide)) hI_j59 (hdoc) (hdc) (hBR) (hSB) ((by have := i32_0; have := i32_1; have := i32_2; have := i32_m1; have := (show iv 0 8 (sg_j59 51) from MI_s hI_j59 51).1; have := (show iv 0 8 (sg_j59 51) from MI_s hI_j59 51).2; have := (show iv 0 8 (sg 51) from MI_s hI 51).1; have := (show iv 0 8 (sg 51) from MI_s hI 51).2; have := (h_61).1; have := (h_61).2; have := (h_29).1; have := (h_29).2; have := (hx3_59).1; have := (hx3_59).2; have := (h64o).1; have := (h64o).2; have := (hz_30).1; have := (hz_30).2; have := (h_62).1; have := (h_62).2; have := (hz_64).1; have := (hz_64).2; have := (hz_65).1; have := (hz_65).2; have := (hz_66).1; have := (hz_66).2; have := (hz_72).1; have := (hz_72).2; have q77 := h51j; omega)) (Or.inr ⟨(by have := i32_0; have := i32_1; have := i32_2; have := i32_m1; have := (h_61).1; have := (h_61).2; have := (h_29).1; have := (h_29).2; have := (hx3_59).1; have := (hx3_59).2; have := (h64o).1; have := (h64o).2; have := (hz_30).1; have := (hz_30).2; have := (h_62).1; have := (h_62).2; have := (hz_64).1; have := (hz_64).2; have := (hz_65).1; have := (hz_65).2; have := (hz_66).1; have := (hz_66).2; have := (hz_72).1; have := (hz_72).2; omega), h64o, h64l, (by rw [(show z_72.toNatClampNeg = x5_59.toNatClampNeg + 1 from (by have q1 : z_72.toNatClampNeg = z_72.toInt.toNat := rfl; have q1 : x5_59.toNatClampNeg = x5_59.toInt.toNat := rfl; have := i32_0; have := i32_1; have := i32_2; have := i32_m1; have := (h_61).1; have := (h_61).2; have := (h_29).1; have := (h_29).2; have := (hx3_59).1; have := (hx3_59).2; have := (h64o).1; have := (h64o).2; have := (hz_30).1; have := (hz_30).2; have := (h_62).1; have := (h_62).2; have := (hz_64).1; have := (hz_64).2; have := (hz_65).1; have := (hz_65).2; have := (hz_66).1; have := (hz_66).2; have := (hz_72).1; have := (hz_72).2; omega))]; exact LKQ_n hLQ (by rw [← hnm]; exact (fun q7 => c_71 (Int32.toInt_inj.mp q7)))), (by have q7 : (wg 41 (3 * (gm 54 o.toNatClampNeg).toNatClampNeg + 2)).toNatClampNeg = (wg 41 (3 * (gm 54 o.toNatClampNeg).toNatClampNeg + 2)).toInt.toNat := rfl; have := hkn; have q1 : x5_59.toNatClampNeg = x5_59.toInt.toNat := rfl; have := i32_0; have := i32_1; have := i32_2; have := i32_m1; have := (h_61).1; have := (h_61).2; have := (h_29).1; have := (h_29).2; have := (hx3_59).1; have := (hx3_59).2; have := (h64o).1; have := (h64o).2; have := (hz_30).1; have := (hz_30).2; have := (h_62).1; have := (h_62).2; have := (hz_64).1; have := (hz_64).2; have := (hz_65).1; have := (hz_65).2; have := (hz_66).1; have := (hz_66).2; have := (hz_72).1; have := (hz_72).2; omega)⟩) _ _ _ hP hD hS (lv_sub hl [0, 3, 1, 4, 5, 6] rfl)
          · have d_73 : (z_70 : Int32).toInt = (nm : Int32).toInt := congrArg Int32.toInt c_71
            refine lv_iload hx hb dX13_call_116 (lv_at hl 0 rfl) ?_
            refine lv_goto (tgt := 122) hx hb dX13_call_118 (by decide) ?_
            refine lv_istore_n (lv' := [(3, .int z_66), (6, .int z_66), (5, .int x5_59), (4, .int x4_59), (0, .ref h0), (1, .int o), (2, .int nm)]) hx hb dX13_call_122 rfl hl (by decide) rfl (fun ls hl => ?_)
            obtain ⟨z_74, ez_74⟩ : ∃ z : Int32, z = x5_59 + 1 := ⟨_, rfl⟩
            have hz_74 : iv 1 26 z_74 := iv_of ez_74 (iv_add h_61 (iv_k (by decide) : iv 1 1 1) (by decide))
            have tz_74 : z_74.toInt = x5_59.toInt + 1 := by rw [ez_74]; exact iv_addE h_61 (iv_k (by decide) : iv 1 1 1) (by decide)
            refine lv_iinc (v := z_74) (lv' := [(5, .int z_74), (3, .int z_66), (6, .int z_66), (4, .int x4_59), (0, .ref h0), (1, .int o), (2, .int nm)]) hx hb dX13_call_123 hl (k := 2) rfl ez_74.symm (by decide) rfl (fun ls hl => ?_)
            refine lv_goto (tgt := 59) hx hb dX13_call_126 (by decide) ?_
            exact ih59 _ (by rw [← hn59]; exact (iv_meas tz_74 h_61 (by decide))) sg_j59 z_74 x4_59 z_66 rfl (iv_w hz_74 (by decide)) (iv_w h_29 (by decide)) (iv_w hz_66 (by decide)) (KS_tr (L := [5, 51, 52]) KS_rf hks_j59 (by decide)) hI_j59 (hdoc) (hdc) (hBR) (hSB) ((by have := i32_0; have := i32_1; have := i32_2; have := i32_m1; have := (show iv 0 8 (sg_j59 51) from MI_s hI_j59 51).1; have := (show iv 0 8 (sg_j59 51) from MI_s hI_j59 51).2; have := (show iv 0 8 (sg 51) from MI_s hI 51).1; have := (show iv 0 8 (sg 51) from MI_s hI 51).2; have := (h_61).1; have := (h_61).2; have := (h_29).1; have := (h_29).2; have := (hx3_59).1; have := (hx3_59).2; have := (h64o).1; have := (h64o).2; have := (hz_30).1; have := (hz_30).2; have := (h_62).1; have := (h_62).2; have := (hz_64).1; have := (hz_64).2; have := (hz_65).1; have := (hz_65).2; have := (hz_66).1; have := (hz_66).2; have := (hz_74).1; have := (hz_74).2; have q77 := h51j; omega)) (Or.inr ⟨(by have := i32_0; have := i32_1; have := i32_2; have := i32_m1; have := (h_61).1; have := (h_61).2; have := (h_29).1; have := (h_29).2; have := (hx3_59).1; have := (hx3_59).2; have := (h64o).1; have := (h64o).2; have := (hz_30).1; have := (hz_30).2; have := (h_62).1; have := (h_62).2; have := (hz_64).1; have := (hz_64).2; have := (hz_65).1; have := (hz_65).2; have := (hz_66).1; have := (hz_66).2; have := (hz_74).1; have := (hz_74).2; omega), h64o, h64l, (by rw [(show z_74.toNatClampNeg = x5_59.toNatClampNeg + 1 from (by have q1 : z_74.toNatClampNeg = z_74.toInt.toNat := rfl; have q1 : x5_59.toNatClampNeg = x5_59.toInt.toNat := rfl; have := i32_0; have := i32_1; have := i32_2; have := i32_m1; have := (h_61).1; have := (h_61).2; have := (h_29).1; have := (h_29).2; have := (hx3_59).1; have := (hx3_59).2; have := (h64o).1; have := (h64o).2; have := (hz_30).1; have := (hz_30).2; have := (h_62).1; have := (h_62).2; have := (hz_64).1; have := (hz_64).2; have := (hz_65).1; have := (hz_65).2; have := (hz_66).1; have := (hz_66).2; have := (hz_74).1; have := (hz_74).2; omega))]; exact LKQ_y (by rw [← hnm]; have := i32_0; have := i32_1; have := i32_2; have := i32_m1; have := (h_61).1; have := (h_61).2; have := (h_29).1; have := (h_29).2; have := (hx3_59).1; have := (hx3_59).2; have := (h64o).1; have := (h64o).2; have := (hz_30).1; have := (hz_30).2; have := (h_62).1; have := (h_62).2; have := (hz_64).1; have := (hz_64).2; have := (hz_65).1; have := (hz_65).2; have := (hz_66).1; have := (hz_66).2; have := (hz_74).1; have := (hz_74).2; omega) hel (hz_66).1), (by have q7 : (wg 41 (3 * (gm 54 o.toNatClampNeg).toNatClampNeg + 2)).toNatClampNeg = (wg 41 (3 * (gm 54 o.toNatClampNeg).toNatClampNeg + 2)).toInt.toNat := rfl; have := hkn; have q1 : x5_59.toNatClampNeg = x5_59.toInt.toNat := rfl; have := i32_0; have := i32_1; have := i32_2; have := i32_m1; have := (h_61).1; have := (h_61).2; have := (h_29).1; have := (h_29).2; have := (hx3_59).1; have := (hx3_59).2; have := (h64o).1; have := (h64o).2; have := (hz_30).1; have := (hz_30).2; have := (h_62).1; have := (h_62).2; have := (hz_64).1; have := (hz_64).2; have := (hz_65).1; have := (hz_65).2; have := (hz_66).1; have := (hz_66).2; have := (hz_74).1; have := (hz_74).2; omega)⟩) _ _ _ hP hD hS (lv_sub hl [0, 3, 1, 4, 5, 6] rfl)
  have hj23 : ∀ (sg_j23 : Nat → Int32) (y0_23 : Int32) (_ : iv 0 1 y0_23) (_ : KS [51, 52] sg sg_j23) (_ : MI sg_j23 gm) (_ : 1 ≤ y0_23.toInt ∨ DOC sg gm lg) (_ : (y0_23.toInt = 1 ∧ (sg 40).toInt = 0) ∨ (y0_23.toInt = 0 ∧ ¬ (sg 40).toInt = 0)) (_ : (sg_j23 51).toInt = 0) (H : Heap) (locs : List Loc) (ls : Array Slot), va_P (dC, dI) vwCl (mW h0 ad cid sg_j23 gm lg) H → va_D A (mW h0 ad cid sg_j23 gm lg) → va_S A s.heap H locs → lv_has ls 7 [(0, .ref h0), (1, .int o), (2, .int nm)] → W p l e (headSpec wm_X13_call ({ frames := 12, cells := 0, slots := 0, locals := 300 })).room s m ([.ref h0, .int o, .int nm] : List Value).toArray below meth c H locs 0 0 (MQ below (va_Qi (fun r v => ∃ (sg2 : Nat → Int32) (gm2 : Nat → Nat → Int32) (lg2 : Nat → Nat → Int64), v = (sg2, gm2, lg2) ∧ MI sg2 gm2 ∧ KS [5, 48, 49, 50, 51, 52, 63, 74] sg sg2 ∧ KS [53, 54, 55, 56, 57, 58, 59, 60, 61, 62, 64, 65, 66, 67, 68, 69, 70, 71, 72, 73, 75] gm gm2 ∧ KS [] lg lg2 ∧ (GI0 sg2 gm2 lg2) ∧ (MO sg2 gm2) ∧ (((sg 40).toInt = 0 ∧ (sg2 5).toInt = 1 ∧ RR wg wl S sg2 gm2) ∨ (¬ (sg 40).toInt = 0 ∧ zLk wg o.toInt nm.toInt S < 0 ∧ (sg2 5).toInt = 2 ∧ RR wg wl S sg2 gm2) ∨ (¬ (sg 40).toInt = 0 ∧ 0 ≤ zLk wg o.toInt nm.toInt S ∧ ∃ S2, RR wg wl S2 sg2 gm2 ∧ WF9 S2 ∧ (((sg2 5).toInt = 0 ∧ zGt ws wg wl 81 (wl 2 (zLk wg o.toInt nm.toInt S).toNat) S = (some r.toInt, S2)) ∨ ((sg2 5).toInt = 3 ∧ zGt ws wg wl 81 (wl 2 (zLk wg o.toInt nm.toInt S).toNat) S = (none, S2)))))) (MB dC dI h0 ad cid A) A) ([.ref h0, .int o, .int nm] : List Value).toArray s 0 0 A) (F0 m 23 ls [.int y0_23, .ref h0]) := by
    intro sg_j23 y0_23 hy0_23 hks_j23 hI_j23 hd23 h23x h51j H locs ls hP hD hS hl
    refine ma_put (x := y0_23) hx hb htb inX13 hown hK hP hD hS 5 (by decide) (by decide) (htb _ kw_239) rfl rfl rfl dX13_call_23 (fun sg_75 H locs esg_75 hP hD hS => ?_)
    have hI_sg_75 := MI_put hI_j23 esg_75 hy0_23 (by decide)
    refine lv_aload_n hx hb dX13_call_26 rfl (lv_at hl 0 rfl) ?_
    refine mr_get (v := .int (sg_75 5)) hx hb htb inX13 hown hK hP 5 (by decide) (htb _ kw_239) rfl dX13_call_27 ?_
    refine lv_topi (fun z_76 ez_76 => ?_)
    obtain rfl : y0_23 = z_76 := (ez_76.trans (up_at esg_75)).symm
    refine lv_if_le (tgt := 35) hx hb dX13_call_30 (by decide) (fun c_77 => ?_) (fun c_77 => ?_)
    · have h_78 : iv 0 0 y0_23 := iv_leL c_77 hy0_23 (iv_k (by decide) : iv 0 0 0) (by decide)
      have hdc : ¬ (sg 40).toInt = 0 := (h23x.resolve_left (fun q => absurd q.1 (by have := i32_0; have := i32_1; have := i32_2; have := i32_m1; have := congrArg Int32.toInt (show sg_75 5 = y0_23 from up_at esg_75); have := (h_78).1; have := (h_78).2; omega))).2
      have hdoc := hdd.resolve_left hdc
      have hBR := hBRd.resolve_left hdc
      have hSB := hSBd.resolve_left hdc
      refine lv_iconst (v := (-1)) hx hb dX13_call_35 (by decide) ?_
      refine lv_istore_n (lv' := [(3, .int (-1)), (0, .ref h0), (1, .int o), (2, .int nm)]) hx hb dX13_call_36 rfl hl (by decide) rfl (fun ls hl => ?_)
      refine lv_iload_n hx hb dX13_call_37 rfl (lv_at hl 2 rfl) ?_
      refine lv_if_lt (tgt := 53) hx hb dX13_call_38 (by decide) (fun c_79 => ?_) (fun c_79 => ?_)
      · have h_80 : iv (-2147483648) (-1) o := iv_ltL c_79 (iv_all o) (iv_k (by decide) : iv 0 0 0) (by decide)
        refine lv_iconst (v := 0) hx hb dX13_call_53 (by decide) ?_
        refine lv_istore (lv' := [(4, .int 0), (3, .int (-1)), (0, .ref h0), (1, .int o), (2, .int nm)]) hx hb dX13_call_54 hl (by decide) rfl (fun ls hl => ?_)
        refine lv_iconst (v := 0) hx hb dX13_call_56 (by decide) ?_
        refine lv_istore (lv' := [(5, .int 0), (4, .int 0), (3, .int (-1)), (0, .ref h0), (1, .int o), (2, .int nm)]) hx hb dX13_call_57 hl (by decide) rfl (fun ls hl => ?_)
        exact hj59 _ sg_75 0 0 (-1) rfl (iv_w (iv_k (by decide) : iv 0 0 0) (by decide)) (iv_w (iv_k (by decide) : iv 0 0 0) (by decide)) (iv_w (iv_k (by decide) : iv (-1) (-1) (-1)) (by decide)) (KS_up (KS_tr (L := [5, 51, 52]) KS_rf hks_j23 (by decide)) esg_75 (by decide)) hI_sg_75 (hdoc) (hdc) (hBR) (hSB) ((by have := i32_0; have := i32_1; have := i32_2; have := i32_m1; have := congrArg Int32.toInt (show sg_75 51 = sg_j23 51 from up_ne esg_75 (by decide)); have := (show iv 0 8 (sg_j23 51) from MI_s hI_j23 51).1; have := (show iv 0 8 (sg_j23 51) from MI_s hI_j23 51).2; have := (show iv 0 8 (sg 51) from MI_s hI 51).1; have := (show iv 0 8 (sg 51) from MI_s hI 51).2; have := (h_78).1; have := (h_78).2; have := (h_80).1; have := (h_80).2; have q77 := h51j; omega)) (Or.inl ⟨rfl, rfl, zLk_z hRR (by have := i32_0; have := i32_1; have := i32_2; have := i32_m1; have := congrArg Int32.toInt (show sg_75 48 = sg_j23 48 from up_ne esg_75 (by decide)); have := congrArg Int32.toInt (show sg_j23 48 = sg 48 from hks_j23 48 (by decide)); have := (show iv 0 60 (sg 48) from MI_s hI 48).1; have := (show iv 0 60 (sg 48) from MI_s hI 48).2; have := (h_78).1; have := (h_78).2; have := (h_80).1; have := (h_80).2; omega)⟩) _ _ _ hP hD hS (lv_sub hl [0, 1, 2, 3, 4, 5] rfl)
      · have h_81 : iv 0 2147483647 o := iv_leR (i32_ge c_79) (iv_k (by decide) : iv 0 0 0) (iv_all o) (by decide)
        refine lv_iload_n hx hb dX13_call_41 rfl (lv_at hl 2 rfl) ?_
        refine lv_aload_n hx hb dX13_call_42 rfl (lv_at hl 1 rfl) ?_
        refine mr_get (v := .int (sg_75 48)) hx hb htb inX13 hown hK hP 48 (by decide) (htb _ kw_819) rfl dX13_call_43 ?_
        refine lv_topi (fun z_82 ez_82 => ?_)
        obtain rfl : (sg 48) = z_82 := (ez_82.trans (Eq.trans (up_ne esg_75 (by decide)) (hks_j23 48 (by decide)))).symm
        refine lv_icmp_ge (tgt := 53) hx hb dX13_call_46 (by decide) (fun c_83 => ?_) (fun c_83 => ?_)
        · have d_84 : ((sg 48) : Int32).toInt ≤ (o : Int32).toInt := Int32.le_iff_toInt_le.mp c_83
          refine lv_iconst (v := 0) hx hb dX13_call_53 (by decide) ?_
          refine lv_istore (lv' := [(4, .int 0), (3, .int (-1)), (0, .ref h0), (1, .int o), (2, .int nm)]) hx hb dX13_call_54 hl (by decide) rfl (fun ls hl => ?_)
          refine lv_iconst (v := 0) hx hb dX13_call_56 (by decide) ?_
          refine lv_istore (lv' := [(5, .int 0), (4, .int 0), (3, .int (-1)), (0, .ref h0), (1, .int o), (2, .int nm)]) hx hb dX13_call_57 hl (by decide) rfl (fun ls hl => ?_)
          exact hj59 _ sg_75 0 0 (-1) rfl (iv_w (iv_k (by decide) : iv 0 0 0) (by decide)) (iv_w (iv_k (by decide) : iv 0 0 0) (by decide)) (iv_w (iv_k (by decide) : iv (-1) (-1) (-1)) (by decide)) (KS_up (KS_tr (L := [5, 51, 52]) KS_rf hks_j23 (by decide)) esg_75 (by decide)) hI_sg_75 (hdoc) (hdc) (hBR) (hSB) ((by have := i32_0; have := i32_1; have := i32_2; have := i32_m1; have := congrArg Int32.toInt (show sg_75 51 = sg_j23 51 from up_ne esg_75 (by decide)); have := (show iv 0 8 (sg_j23 51) from MI_s hI_j23 51).1; have := (show iv 0 8 (sg_j23 51) from MI_s hI_j23 51).2; have := (show iv 0 8 (sg 51) from MI_s hI 51).1; have := (show iv 0 8 (sg 51) from MI_s hI 51).2; have := (h_78).1; have := (h_78).2; have := (h_81).1; have := (h_81).2; have := ((show iv 0 60 (sg 48) from MI_s hI 48)).1; have := ((show iv 0 60 (sg 48) from MI_s hI 48)).2; have q77 := h51j; omega)) (Or.inl ⟨rfl, rfl, zLk_z hRR (by have := i32_0; have := i32_1; have := i32_2; have := i32_m1; have := congrArg Int32.toInt (show sg_75 48 = sg_j23 48 from up_ne esg_75 (by decide)); have := congrArg Int32.toInt (show sg_j23 48 = sg 48 from hks_j23 48 (by decide)); have := (show iv 0 60 (sg 48) from MI_s hI 48).1; have := (show iv 0 60 (sg 48) from MI_s hI 48).2; have := (h_78).1; have := (h_78).2; have := (h_81).1; have := (h_81).2; have := ((show iv 0 60 (sg 48) from MI_s hI 48)).1; have := ((show iv 0 60 (sg 48) from MI_s hI 48)).2; omega)⟩) _ _ _ hP hD hS (lv_sub hl [0, 1, 2, 3, 4, 5] rfl)
        · have d_85 : (o : Int32).toInt < ((sg 48) : Int32).toInt := Int32.lt_iff_toInt_lt.mp (i32_lt c_83)
          have h_86 : iv 0 59 o := iv_ltL (i32_lt c_83) h_81 (show iv 0 60 (sg 48) from MI_s hI 48) (by decide)
          have h_87 : iv 1 60 (sg 48) := iv_ltR (i32_lt c_83) h_81 (show iv 0 60 (sg 48) from MI_s hI 48) (by decide)
          refine lv_iconst (v := 1) hx hb dX13_call_49 (by decide) ?_
          refine lv_goto (tgt := 54) hx hb dX13_call_50 (by decide) ?_
          refine lv_istore (lv' := [(4, .int 1), (3, .int (-1)), (0, .ref h0), (1, .int o), (2, .int nm)]) hx hb dX13_call_54 hl (by decide) rfl (fun ls hl => ?_)
          refine lv_iconst (v := 0) hx hb dX13_call_56 (by decide) ?_
          refine lv_istore (lv' := [(5, .int 0), (4, .int 1), (3, .int (-1)), (0, .ref h0), (1, .int o), (2, .int nm)]) hx hb dX13_call_57 hl (by decide) rfl (fun ls hl => ?_)
          exact hj59 _ sg_75 0 1 (-1) rfl (iv_w (iv_k (by decide) : iv 0 0 0) (by decide)) (iv_w (iv_k (by decide) : iv 1 1 1) (by decide)) (iv_w (iv_k (by decide) : iv (-1) (-1) (-1)) (by decide)) (KS_up (KS_tr (L := [5, 51, 52]) KS_rf hks_j23 (by decide)) esg_75 (by decide)) hI_sg_75 (hdoc) (hdc) (hBR) (hSB) ((by have := i32_0; have := i32_1; have := i32_2; have := i32_m1; have := congrArg Int32.toInt (show sg_75 51 = sg_j23 51 from up_ne esg_75 (by decide)); have := (show iv 0 8 (sg_j23 51) from MI_s hI_j23 51).1; have := (show iv 0 8 (sg_j23 51) from MI_s hI_j23 51).2; have := (show iv 0 8 (sg 51) from MI_s hI 51).1; have := (show iv 0 8 (sg 51) from MI_s hI 51).2; have := (h_78).1; have := (h_78).2; have := (h_86).1; have := (h_86).2; have := (h_87).1; have := (h_87).2; have q77 := h51j; omega)) (Or.inr ⟨rfl, ⟨(by have := i32_0; have := i32_1; have := i32_2; have := i32_m1; have := congrArg Int32.toInt (show sg_75 48 = sg_j23 48 from up_ne esg_75 (by decide)); have := congrArg Int32.toInt (show sg_j23 48 = sg 48 from hks_j23 48 (by decide)); have := (show iv 0 60 (sg 48) from MI_s hI 48).1; have := (show iv 0 60 (sg 48) from MI_s hI 48).2; have := (h_78).1; have := (h_78).2; have := (h_86).1; have := (h_86).2; have := (h_87).1; have := (h_87).2; omega), (by have := i32_0; have := i32_1; have := i32_2; have := i32_m1; have := congrArg Int32.toInt (show sg_75 48 = sg_j23 48 from up_ne esg_75 (by decide)); have := congrArg Int32.toInt (show sg_j23 48 = sg 48 from hks_j23 48 (by decide)); have := (show iv 0 60 (sg 48) from MI_s hI 48).1; have := (show iv 0 60 (sg 48) from MI_s hI 48).2; have := (h_78).1; have := (h_78).2; have := (h_86).1; have := (h_86).2; have := (h_87).1; have := (h_87).2; omega)⟩, (by have := i32_0; have := i32_1; have := i32_2; have := i32_m1; have := congrArg Int32.toInt (show sg_75 48 = sg_j23 48 from up_ne esg_75 (by decide)); have := congrArg Int32.toInt (show sg_j23 48 = sg 48 from hks_j23 48 (by decide)); have := (show iv 0 60 (sg 48) from MI_s hI 48).1; have := (show iv 0 60 (sg 48) from MI_s hI 48).2; have := (h_78).1; have := (h_78).2; have := (h_86).1; have := (h_86).2; have := (h_87).1; have := (h_87).2; omega), Or.inl ⟨rfl, fun i hi => absurd hi (Nat.not_lt_zero _)⟩, (by show (0 : Int) ≤ _; have q5 := (BR_l hBR hRW hRS (show iv 0 79 (gm 54 o.toNatClampNeg) from ⟨(OB_r (o := o) hRR (hOBd.resolve_left hdc) (by have := i32_0; have := i32_1; have := i32_2; have := i32_m1; have := congrArg Int32.toInt (show sg_75 48 = sg_j23 48 from up_ne esg_75 (by decide)); have := congrArg Int32.toInt (show sg_j23 48 = sg 48 from hks_j23 48 (by decide)); have := (show iv 0 60 (sg 48) from MI_s hI 48).1; have := (show iv 0 60 (sg 48) from MI_s hI 48).2; have := (h_78).1; have := (h_78).2; have := (h_86).1; have := (h_86).2; have := (h_87).1; have := (h_87).2; omega) (by have := i32_0; have := i32_1; have := i32_2; have := i32_m1; have := congrArg Int32.toInt (show sg_75 48 = sg_j23 48 from up_ne esg_75 (by decide)); have := congrArg Int32.toInt (show sg_j23 48 = sg 48 from hks_j23 48 (by decide)); have := (show iv 0 60 (sg 48) from MI_s hI 48).1; have := (show iv 0 60 (sg 48) from MI_s hI 48).2; have := (h_78).1; have := (h_78).2; have := (h_86).1; have := (h_86).2; have := (h_87).1; have := (h_87).2; omega)).1, (by have q9 := (show (gm 54 o.toNatClampNeg).toInt < (sg 41).toInt from (by have q5 := hBR.1; rw [rs9_41 hRS] at q5; have q6 := (OB_r (o := o) hRR (hOBd.resolve_left hdc) (by have := i32_0; have := i32_1; have := i32_2; have := i32_m1; have := congrArg Int32.toInt (show sg_75 48 = sg_j23 48 from up_ne esg_75 (by decide)); have := congrArg Int32.toInt (show sg_j23 48 = sg 48 from hks_j23 48 (by decide)); have := (show iv 0 60 (sg 48) from MI_s hI 48).1; have := (show iv 0 60 (sg 48) from MI_s hI 48).2; have := (h_78).1; have := (h_78).2; have := (h_86).1; have := (h_86).2; have := (h_87).1; have := (h_87).2; omega) (by have := i32_0; have := i32_1; have := i32_2; have := i32_m1; have := congrArg Int32.toInt (show sg_75 48 = sg_j23 48 from up_ne esg_75 (by decide)); have := congrArg Int32.toInt (show sg_j23 48 = sg 48 from hks_j23 48 (by decide)); have := (show iv 0 60 (sg 48) from MI_s hI 48).1; have := (show iv 0 60 (sg 48) from MI_s hI 48).2; have := (h_78).1; have := (h_78).2; have := (h_86).1; have := (h_86).2; have := (h_87).1; have := (h_87).2; omega)).2; have q7 : (ws 12).toNatClampNeg = (ws 12).toInt.toNat := rfl; have q8 := (show iv 0 80 (sg 41) from MI_s hI 41).1; omega)); have q8 := (show iv 0 80 (sg 41) from MI_s hI 41).2; omega)⟩) (show (gm 54 o.toNatClampNeg).toInt < (sg 41).toInt from (by have q5 := hBR.1; rw [rs9_41 hRS] at q5; have q6 := (OB_r (o := o) hRR (hOBd.resolve_left hdc) (by have := i32_0; have := i32_1; have := i32_2; have := i32_m1; have := congrArg Int32.toInt (show sg_75 48 = sg_j23 48 from up_ne esg_75 (by decide)); have := congrArg Int32.toInt (show sg_j23 48 = sg 48 from hks_j23 48 (by decide)); have := (show iv 0 60 (sg 48) from MI_s hI 48).1; have := (show iv 0 60 (sg 48) from MI_s hI 48).2; have := (h_78).1; have := (h_78).2; have := (h_86).1; have := (h_86).2; have := (h_87).1; have := (h_87).2; omega) (by have := i32_0; have := i32_1; have := i32_2; have := i32_m1; have := congrArg Int32.toInt (show sg_75 48 = sg_j23 48 from up_ne esg_75 (by decide)); have := congrArg Int32.toInt (show sg_j23 48 = sg 48 from hks_j23 48 (by decide)); have := (show iv 0 60 (sg 48) from MI_s hI 48).1; have := (show iv 0 60 (sg 48) from MI_s hI 48).2; have := (h_78).1; have := (h_78).2; have := (h_86).1; have := (h_86).2; have := (h_87).1; have := (h_87).2; omega)).2; have q7 : (ws 12).toNatClampNeg = (ws 12).toInt.toNat := rfl; have q8 := (show iv 0 80 (sg 41) from MI_s hI 41).1; omega))).1; have q6 := (show iv 0 26 (gm 46 (gm 54 o.toNatClampNeg).toNatClampNeg) from hI.2 46 _ (show (gm 54 o.toNatClampNeg).toNatClampNeg < 80 from (by have q7 := (show iv 0 79 (gm 54 o.toNatClampNeg) from ⟨(OB_r (o := o) hRR (hOBd.resolve_left hdc) (by have := i32_0; have := i32_1; have := i32_2; have := i32_m1; have := congrArg Int32.toInt (show sg_75 48 = sg_j23 48 from up_ne esg_75 (by decide)); have := congrArg Int32.toInt (show sg_j23 48 = sg 48 from hks_j23 48 (by decide)); have := (show iv 0 60 (sg 48) from MI_s hI 48).1; have := (show iv 0 60 (sg 48) from MI_s hI 48).2; have := (h_78).1; have := (h_78).2; have := (h_86).1; have := (h_86).2; have := (h_87).1; have := (h_87).2; omega) (by have := i32_0; have := i32_1; have := i32_2; have := i32_m1; have := congrArg Int32.toInt (show sg_75 48 = sg_j23 48 from up_ne esg_75 (by decide)); have := congrArg Int32.toInt (show sg_j23 48 = sg 48 from hks_j23 48 (by decide)); have := (show iv 0 60 (sg 48) from MI_s hI 48).1; have := (show iv 0 60 (sg 48) from MI_s hI 48).2; have := (h_78).1; have := (h_78).2; have := (h_86).1; have := (h_86).2; have := (h_87).1; have := (h_87).2; omega)).1, (by have q9 := (show (gm 54 o.toNatClampNeg).toInt < (sg 41).toInt from (by have q5 := hBR.1; rw [rs9_41 hRS] at q5; have q6 := (OB_r (o := o) hRR (hOBd.resolve_left hdc) (by have := i32_0; have := i32_1; have := i32_2; have := i32_m1; have := congrArg Int32.toInt (show sg_75 48 = sg_j23 48 from up_ne esg_75 (by decide)); have := congrArg Int32.toInt (show sg_j23 48 = sg 48 from hks_j23 48 (by decide)); have := (show iv 0 60 (sg 48) from MI_s hI 48).1; have := (show iv 0 60 (sg 48) from MI_s hI 48).2; have := (h_78).1; have := (h_78).2; have := (h_86).1; have := (h_86).2; have := (h_87).1; have := (h_87).2; omega) (by have := i32_0; have := i32_1; have := i32_2; have := i32_m1; have := congrArg Int32.toInt (show sg_75 48 = sg_j23 48 from up_ne esg_75 (by decide)); have := congrArg Int32.toInt (show sg_j23 48 = sg 48 from hks_j23 48 (by decide)); have := (show iv 0 60 (sg 48) from MI_s hI 48).1; have := (show iv 0 60 (sg 48) from MI_s hI 48).2; have := (h_78).1; have := (h_78).2; have := (h_86).1; have := (h_86).2; have := (h_87).1; have := (h_87).2; omega)).2; have q7 : (ws 12).toNatClampNeg = (ws 12).toInt.toNat := rfl; have q8 := (show iv 0 80 (sg 41) from MI_s hI 41).1; omega)); have q8 := (show iv 0 80 (sg 41) from MI_s hI 41).2; omega)⟩); have q8 : (gm 54 o.toNatClampNeg).toNatClampNeg = (gm 54 o.toNatClampNeg).toInt.toNat := rfl; have := q7.2; have := q7.1; omega))).1; omega)⟩) _ _ _ hP hD hS (lv_sub hl [0, 1, 2, 3, 4, 5] rfl)
    · have h_88 : iv 1 1 y0_23 := iv_ltR (i32_lt c_77) (iv_k (by decide) : iv 0 0 0) hy0_23 (by decide)
      refine lv_iconst (v := 0) hx hb dX13_call_33 (by decide) ?_
      exact W.iret (v := 0) hx hb hr (fun t ht hW => ⟨⟨0, (sg_75, gm, lg), rfl, ⟨sg_75, gm, lg, rfl, hI_sg_75, (KS_up (KS_tr (L := [5, 48, 49, 50, 51, 52, 63, 74]) KS_rf hks_j23 (by decide)) esg_75 (by decide)), KS_rf, KS_rf, ((GI0_of hgi (show KS [5, 51, 52] sg sg_75 from (KS_up (KS_tr (L := [5, 51, 52]) KS_rf hks_j23 (by decide)) esg_75 (by decide))) (show KS [] gm gm from KS_rf) (show KS [] lg lg from KS_rf) (by decide) (by decide) (by decide) (by decide) (by decide) (by decide))), ((MO_of hmo (show KS [5, 51, 52] sg sg_75 from (KS_up (KS_tr (L := [5, 51, 52]) KS_rf hks_j23 (by decide)) esg_75 (by decide))) (show KS [] gm gm from KS_rf) (by decide) (by decide))), ((Or.inl ⟨(h23x.resolve_right (fun q => absurd q.1 (by have := i32_0; have := i32_1; have := i32_2; have := i32_m1; have := congrArg Int32.toInt (show sg_75 5 = y0_23 from up_at esg_75); have := (h_88).1; have := (h_88).2; omega))).2, (by have := i32_0; have := i32_1; have := i32_2; have := i32_m1; have := congrArg Int32.toInt (show sg_75 5 = y0_23 from up_at esg_75); have := (h_88).1; have := (h_88).2; have q77 := h23x; omega), (RR_ks (L := [5, 51, 52]) (M := []) hRR (KS_up (KS_tr (L := [5, 51, 52]) KS_rf hks_j23 (by decide)) esg_75 (by decide)) KS_rf (by decide) (by decide))⟩))⟩, by rw [ht]; exact hP, va_K.moved hW.alike hK, hD⟩, hS.F ht⟩) hS.2.2 dX13_call_34
  refine lv_aload_n hx hb dX13_call_0 rfl (lv_at hl 0 rfl) ?_
  refine lv_iconst (v := 0) hx hb dX13_call_1 (by decide) ?_
  refine ma_put (x := 0) hx hb htb inX13 hown hK hP hD hS 51 (by decide) (by decide) (htb _ kw_980) rfl rfl rfl dX13_call_2 (fun sg_89 H locs esg_89 hP hD hS => ?_)
  have hI_sg_89 := MI_put hI esg_89 (iv_k (by decide) : iv 0 0 0) (by decide)
  refine lv_aload_n hx hb dX13_call_5 rfl (lv_at hl 0 rfl) ?_
  refine lv_iconst (v := (-1)) hx hb dX13_call_6 (by decide) ?_
  refine ma_put (x := (-1)) hx hb htb inX13 hown hK hP hD hS 52 (by decide) (by decide) (htb _ kw_202) rfl rfl rfl dX13_call_7 (fun sg_90 H locs esg_90 hP hD hS => ?_)
  have hI_sg_90 := MI_put hI_sg_89 esg_90 (iv_k (by decide) : iv (-1) (-1) (-1)) (by decide)
  refine lv_aload_n hx hb dX13_call_10 rfl (lv_at hl 0 rfl) ?_
  refine lv_aload_n hx hb dX13_call_11 rfl (lv_at hl 0 rfl) ?_
  refine mr_get (v := .int (sg_90 40)) hx hb htb inX13 hown hK hP 40 (by decide) (htb _ kw_818) rfl dX13_call_12 ?_
  refine lv_topi (fun z_91 ez_91 => ?_)
  obtain rfl : (sg 40) = z_91 := (ez_91.trans (Eq.trans (up_ne esg_90 (by decide)) (up_ne esg_89 (by decide)))).symm
  refine lv_if_eq (tgt := 22) hx hb dX13_call_15 (by decide) (fun c_92 => ?_) (fun c_92 => ?_)
  · have h_93 : iv 0 0 (sg 40) := iv_eq c_92 (show iv 0 1 (sg 40) from MI_s hI 40) (iv_k (by decide) : iv 0 0 0) (by decide)
    refine lv_iconst (v := 1) hx hb dX13_call_22 (by decide) ?_
    exact hj23 sg_90 1 (iv_w (iv_k (by decide) : iv 1 1 1) (by decide)) (KS_up (KS_up KS_rf esg_89 (by decide)) esg_90 (by decide)) hI_sg_90 (Or.inl (by decide)) (Or.inl ⟨rfl, (by have := i32_0; have := i32_1; have := i32_2; have := i32_m1; have := congrArg Int32.toInt (show sg_90 40 = sg_89 40 from up_ne esg_90 (by decide)); have := congrArg Int32.toInt (show sg_89 40 = sg 40 from up_ne esg_89 (by decide)); have := (show iv 0 1 (sg 40) from MI_s hI 40).1; have := (show iv 0 1 (sg 40) from MI_s hI 40).2; have := (h_93).1; have := (h_93).2; omega)⟩) ((by have := i32_0; have := i32_1; have := i32_2; have := i32_m1; have := congrArg Int32.toInt (show sg_90 51 = sg_89 51 from up_ne esg_90 (by decide)); have : (sg_89 51).toInt = 0 := (by rw [up_at esg_89]; rfl); have := (h_93).1; have := (h_93).2; omega)) _ _ _ hP hD hS (lv_sub hl [0, 1, 2] rfl)
  · have h_94 : iv 1 1 (sg 40) := iv_neL c_92 (show iv 0 1 (sg 40) from MI_s hI 40) (by decide)
    refine lv_iconst (v := 0) hx hb dX13_call_18 (by decide) ?_
    refine lv_goto (tgt := 23) hx hb dX13_call_19 (by decide) ?_
    exact hj23 sg_90 0 (iv_w (iv_k (by decide) : iv 0 0 0) (by decide)) (KS_up (KS_up KS_rf esg_89 (by decide)) esg_90 (by decide)) hI_sg_90 (Or.inr (hdd.resolve_left (by have := i32_0; have := i32_1; have := i32_2; have := i32_m1; have := congrArg Int32.toInt (show sg_90 40 = sg_89 40 from up_ne esg_90 (by decide)); have := congrArg Int32.toInt (show sg_89 40 = sg 40 from up_ne esg_89 (by decide)); have := (show iv 0 1 (sg 40) from MI_s hI 40).1; have := (show iv 0 1 (sg 40) from MI_s hI 40).2; have := (h_94).1; have := (h_94).2; omega))) (Or.inr ⟨rfl, (by have := i32_0; have := i32_1; have := i32_2; have := i32_m1; have := congrArg Int32.toInt (show sg_90 40 = sg_89 40 from up_ne esg_90 (by decide)); have := congrArg Int32.toInt (show sg_89 40 = sg 40 from up_ne esg_89 (by decide)); have := (show iv 0 1 (sg 40) from MI_s hI 40).1; have := (show iv 0 1 (sg 40) from MI_s hI 40).2; have := (h_94).1; have := (h_94).2; omega)⟩) ((by have := i32_0; have := i32_1; have := i32_2; have := i32_m1; have := congrArg Int32.toInt (show sg_90 51 = sg_89 51 from up_ne esg_90 (by decide)); have : (sg_89 51).toInt = 0 := (by rw [up_at esg_89]; rfl); have := (h_94).1; have := (h_94).2; omega)) _ _ _ hP hD hS (lv_sub hl [0, 1, 2] rfl)
end
section
section DP9
variable {ws : Nat → Int32} {wg : Nat → Nat → Int32} {wl : Nat → Nat → Int64} {S S2 : S9} {b : Nat} {o fo : Int} {vs : List (List Int)}
/-- what is kept by each making is kept by what is made of it -/
def PK9 (P : S9 → S9 → Prop) (mk : Nat → S9 → Option Int × S9) : Prop := (∀ S, P S S) ∧ (∀ a b c, P a b → P b c → P a c) ∧ ∀ b S, P S (mk b S).2
theorem PK_get {P : S9 → S9 → Prop} {mk : Nat → S9 → Option Int × S9} (h : PK9 P mk) (t : Int) (S : S9) : P S (oGet wg mk t S).2 := by
  unfold oGet
  split
  · exact h.1 S
  · split
    · exact h.1 S
    · split
      · exact h.1 S
      · exact h.2.2 _ S
theorem PK_obj {P : S9 → S9 → Prop} {mk : Nat → S9 → Option Int × S9} (h : PK9 P mk) (e : Nat) (S : S9) : P S (oObj ws wg wl mk e S).2 := by
  unfold oObj
  split
  · exact PK_get h _ S
  · exact h.2.2 _ S
theorem PK_itm {P : S9 → S9 → Prop} {mk : Nat → S9 → Option Int × S9} (h : PK9 P mk) (e : Nat) (S : S9) : P S (oItm ws wg wl mk e S).2 := by
  unfold oItm
  split
  · exact h.1 S
  · split
    · exact h.1 S
    · exact bd9_P h.2.1 (PK_obj h e S) (fun _ => h.1 _)
theorem PK_its {P : S9 → S9 → Prop} {mk : Nat → S9 → Option Int × S9} (h : PK9 P mk) : ∀ (l : List Nat) (acc : List Int) (S : S9), P S (oIts ws wg wl mk l acc S).2
  | [], acc, S => h.1 S
  | e :: l, acc, S => bd9_P h.2.1 (PK_itm h e S) (fun _ => PK_its h l _ _)
theorem PK_con {P : S9 → S9 → Prop} {mk : Nat → S9 → Option Int × S9} (h : PK9 P mk) (c : Nat) (S : S9) : P S (oCon ws wg wl mk c S).2 := by
  unfold oCon
  split
  · exact PK_its h _ _ S
  · split
    · exact bd9_P h.2.1 (PK_obj h c S) (fun _ => h.1 _)
    · exact h.1 S
theorem PK_ars {P : S9 → S9 → Prop} {mk : Nat → S9 → Option Int × S9} (h : PK9 P mk) : ∀ (l : List Nat) (acc : List (List Int)) (S : S9), P S (oArs ws wg wl mk l acc S).2
  | [], acc, S => h.1 S
  | a :: l, acc, S => bd9_P h.2.1 (PK_con h _ S) (fun _ => PK_ars h l _ _)
theorem PK_sts {P : S9 → S9 → Prop} {mk : Nat → S9 → Option Int × S9} (h : PK9 P mk) (hs : ∀ o h V S, P S (oSe wg wl o h V S).2) (o : Int) : ∀ (l : List Nat) (S : S9), P S (oSts ws wg wl mk o l S).2
  | [], S => h.1 S
  | a :: l, S => bd9_P h.2.1 (PK_con h _ S) (fun V => bd9_P h.2.1 (hs o a V _) (fun _ => PK_sts h hs o l _))
/-- the beans that an element, a content, a bean asks for -/
def OBT (ws : Nat → Int32) (wg : Nat → Nat → Int32) (wl : Nat → Nat → Int64) (e t : Nat) : Prop := ((wg 27 e).toInt < 0 ∧ caN ws wg wl (wl 2 e) = (t : Int)) ∨ (0 ≤ (wg 27 e).toInt ∧ (wg 27 e).toInt.toNat = t)
def ITT (ws : Nat → Int32) (wg : Nat → Nat → Int32) (wl : Nat → Nat → Int64) (e t : Nat) : Prop := ¬ (wg 25 e).toInt = 7 ∧ ¬ (wg 25 e).toInt = 9 ∧ OBT ws wg wl e t
def CTT (ws : Nat → Int32) (wg : Nat → Nat → Int32) (wl : Nat → Nat → Int64) (c t : Nat) : Prop := ((wg 25 c).toInt = 6 ∧ ∃ e, e ∈ itC wg c ∧ ITT ws wg wl e t) ∨ (((wg 25 c).toInt = 8 ∨ (wg 25 c).toInt = 2) ∧ OBT ws wg wl c t)
def LK9 (ws : Nat → Int32) (wg : Nat → Nat → Int32) (wl : Nat → Nat → Int64) (b t : Nat) : Prop := (¬ wl 6 b = 0 ∧ caN ws wg wl (wl 6 b) = (t : Int)) ∨ (¬ wl 7 b = 0 ∧ caN ws wg wl (wl 7 b) = (t : Int)) ∨ (∃ a, (a ∈ liL wg (3 * b) ∨ a ∈ liL wg (3 * b + 1)) ∧ CTT ws wg wl (ctE wg a) t)
/-- of scope one, made or being made -/
def RD9 (wg : Nat → Nat → Int32) (wl : Nat → Nat → Int64) (S : S9) (t : Nat) : Prop := one9 wg wl t ∧ (zS S t = 1 ∨ zS S t = 2)
def MO9 (wg : Nat → Nat → Int32) (wl : Nat → Nat → Int64) (S S2 : S9) : Prop := ∀ t, RD9 wg wl S t → RD9 wg wl S2 t
/-- made to the end: what it asks for is there, or was made to the end -/
def DN9 (ws : Nat → Int32) (wg : Nat → Nat → Int32) (wl : Nat → Nat → Int64) (S : S9) (b : Nat) : Prop := Acc (fun t c => LK9 ws wg wl c t ∧ ¬ RD9 wg wl S t) b
def GO9 (ws : Nat → Int32) (wg : Nat → Nat → Int32) (wl : Nat → Nat → Int64) (S : S9) (t : Nat) : Prop := RD9 wg wl S t ∨ DN9 ws wg wl S t
theorem MO_rf : MO9 wg wl S S := fun _ h => h
theorem MO_tr {S1 : S9} (h : MO9 wg wl S S1) (h2 : MO9 wg wl S1 S2) : MO9 wg wl S S2 := fun t q => h2 t (h t q)
theorem MO_e (e : zS S2 = zS S) : MO9 wg wl S S2 := fun t q => by unfold RD9 at *; rw [e]; exact q
theorem DN_m (h : DN9 ws wg wl S b) (hm : MO9 wg wl S S2) : DN9 ws wg wl S2 b := by
  refine Subrelation.accessible ?_ h
  intro t c hq
  exact ⟨hq.1, fun p => hq.2 (hm t p)⟩
theorem GO_m {t : Nat} (h : GO9 ws wg wl S t) (hm : MO9 wg wl S S2) : GO9 ws wg wl S2 t := h.imp (hm t) (fun q => DN_m q hm)
theorem MO_be : MO9 wg wl S (oBe b S) := fun t q => by
  refine ⟨q.1, ?_⟩
  show fu9 (zS S) b 1 t = 1 ∨ fu9 (zS S) b 1 t = 2
  by_cases p : t = b
  · rw [p, fu9_at]; exact Or.inl rfl
  · rw [fu9_ne p]; exact q.2
theorem MO_br : MO9 wg wl S (oBr wg wl b fo vs S).2 := by
  rcases oBr_2 (wg := wg) (wl := wl) (b := b) (fo := fo) (vs := vs) (S := S) with e | ⟨s, f, e⟩
  · rw [e]; exact MO_rf
  · rw [e]; exact MO_e (by rw [(tlA_S _ _ _).2.1, oB2_S.1])
theorem MO_se {h : Nat} {V : List Int} : MO9 wg wl S (oSe wg wl o h V S).2 := by
  rcases oSe_2 (wg := wg) (wl := wl) (o := o) (h := h) (V := V) (S := S) with e | ⟨t, e⟩
  · rw [e]; exact MO_rf
  · rw [e]; exact MO_e tlV_S.1
theorem MO_fi : MO9 wg wl S (oFi wg wl b o S) := fun t q => by
  refine ⟨q.1, ?_⟩
  unfold oFi oF2
  by_cases p : ¬ wl 4 b = 0 ∧ wg 35 b = 0
  · rw [if_pos p]
    show fu9 (zS (oF1 wg b o S)) b 2 t = 1 ∨ fu9 (zS (oF1 wg b o S)) b 2 t = 2
    by_cases p2 : t = b
    · rw [p2, fu9_at]; exact Or.inr rfl
    · rw [fu9_ne p2, oF1_w.2.1]; exact q.2
  · rw [if_neg p]
    show fu9 (zS (oF1 wg b o S)) b 0 t = 1 ∨ fu9 (zS (oF1 wg b o S)) b 0 t = 2
    by_cases p2 : t = b
    · rw [p2] at q; exact absurd q.1 p
    · rw [fu9_ne p2, oF1_w.2.1]; exact q.2
theorem MO_mk (n b : Nat) (S : S9) : MO9 wg wl S (oMK ws wg wl n b S).2 := MKI (P := MO9 wg wl) (fun _ => MO_rf) (fun _ _ _ h1 h2 => MO_tr h1 h2) (fun _ _ _ => MO_be) (fun _ _ _ _ => MO_br) (fun _ _ _ _ => MO_se) (fun _ _ _ => MO_fi) n b S
theorem MO_pk (n : Nat) : PK9 (MO9 wg wl) (oMK ws wg wl n) := ⟨fun _ => MO_rf, fun _ _ _ h1 h2 => MO_tr h1 h2, fun b S => MO_mk n b S⟩
theorem snd_s {α : Type} {x : Option α × S9} {a : α} (h : x = (some a, S2)) {P : S9 → Prop} (hp : P x.2) : P S2 := by rw [h] at hp; exact hp
theorem GO_get {n : Nat} (hn : iv 0 80 (ws 12)) (ih : ∀ b S o S2, oMK ws wg wl n b S = (some o, S2) → DN9 ws wg wl S2 b) {v : Int64} {t : Nat} (h : oGet wg (oMK ws wg wl n) (caN ws wg wl v) S = (some o, S2)) (ht : caN ws wg wl v = (t : Int)) : GO9 ws wg wl S2 t := by
  rw [gt_nm hn, ht] at h
  unfold gtR at h
  split at h
  · exact absurd (congrArg Prod.fst h) (by simp)
  · split at h
    · exact absurd (congrArg Prod.fst h) (by simp)
    · split at h
      · rename_i q
        have e : S = S2 := congrArg Prod.snd h
        rw [← e]
        exact Or.inl ⟨q.1, q.2.elim (fun p => Or.inr p) (fun p => Or.inl p.1)⟩
      · exact Or.inr (ih _ _ _ _ h)
theorem GO_obj {n : Nat} (hn : iv 0 80 (ws 12)) (ih : ∀ b S o S2, oMK ws wg wl n b S = (some o, S2) → DN9 ws wg wl S2 b) {e t : Nat} (h : oObj ws wg wl (oMK ws wg wl n) e S = (some o, S2)) (ht : OBT ws wg wl e t) : GO9 ws wg wl S2 t := by
  rcases ht with ⟨h1, h2⟩ | ⟨h1, h2⟩
  · rw [oObj_n h1] at h; exact GO_get hn ih h h2
  · rw [oObj_b h1, h2] at h; exact Or.inr (ih _ _ _ _ h)
theorem GO_itm {n : Nat} (hn : iv 0 80 (ws 12)) (ih : ∀ b S o S2, oMK ws wg wl n b S = (some o, S2) → DN9 ws wg wl S2 b) {e t : Nat} (h : oItm ws wg wl (oMK ws wg wl n) e S = (some o, S2)) (ht : ITT ws wg wl e t) : GO9 ws wg wl S2 t := by
  unfold oItm at h
  rw [if_neg ht.1, if_neg ht.2.1] at h
  obtain ⟨a, S1, h1, h2⟩ := bd9_so h
  have e : S1 = S2 := congrArg Prod.snd h2
  rw [← e]; exact GO_obj hn ih h1 ht.2.2
theorem GO_its {n : Nat} (hn : iv 0 80 (ws 12)) (ih : ∀ b S o S2, oMK ws wg wl n b S = (some o, S2) → DN9 ws wg wl S2 b) : ∀ (l : List Nat) (acc V : List Int) (S S2 : S9), oIts ws wg wl (oMK ws wg wl n) l acc S = (some V, S2) → ∀ e t, e ∈ l → ITT ws wg wl e t → GO9 ws wg wl S2 t
  | [], acc, V, S, S2, h, e, t, he, _ => absurd he (by simp)
  | x :: l, acc, V, S, S2, h, e, t, he, ht => by
    obtain ⟨a, S1, h1, h2⟩ := bd9_so h
    rcases List.mem_cons.mp he with q | q
    · rw [q] at ht
      exact GO_m (GO_itm hn ih h1 ht) (snd_s h2 (PK_its (MO_pk n) l _ S1))
    · exact GO_its hn ih l _ _ _ _ h2 e t q ht
theorem GO_con {n : Nat} (hn : iv 0 80 (ws 12)) (ih : ∀ b S o S2, oMK ws wg wl n b S = (some o, S2) → DN9 ws wg wl S2 b) {c t : Nat} {V : List Int} (h : oCon ws wg wl (oMK ws wg wl n) c S = (some V, S2)) (ht : CTT ws wg wl c t) : GO9 ws wg wl S2 t := by
  rcases ht with ⟨h1, e, h2, h3⟩ | ⟨h1, h2⟩
  · rw [oCon_l h1] at h; exact GO_its hn ih _ _ _ _ _ h e t h2 h3
  · unfold oCon at h
    rw [if_neg (by omega), if_pos h1] at h
    obtain ⟨a, S1, h3, h4⟩ := bd9_so h
    have e : S1 = S2 := congrArg Prod.snd h4
    rw [← e]; exact GO_obj hn ih h3 h2
theorem GO_ars {n : Nat} (hn : iv 0 80 (ws 12)) (ih : ∀ b S o S2, oMK ws wg wl n b S = (some o, S2) → DN9 ws wg wl S2 b) : ∀ (l : List Nat) (acc V : List (List Int)) (S S2 : S9), oArs ws wg wl (oMK ws wg wl n) l acc S = (some V, S2) → ∀ a t, a ∈ l → CTT ws wg wl (ctE wg a) t → GO9 ws wg wl S2 t
  | [], acc, V, S, S2, h, a, t, ha, _ => absurd ha (by simp)
  | x :: l, acc, V, S, S2, h, a, t, ha, ht => by
    obtain ⟨v, S1, h1, h2⟩ := bd9_so h
    rcases List.mem_cons.mp ha with q | q
    · rw [q] at ht
      exact GO_m (GO_con hn ih h1 ht) (snd_s h2 (PK_ars (MO_pk n) l _ S1))
    · exact GO_ars hn ih l _ _ _ _ h2 a t q ht
theorem GO_sts {n : Nat} (hn : iv 0 80 (ws 12)) (ih : ∀ b S o S2, oMK ws wg wl n b S = (some o, S2) → DN9 ws wg wl S2 b) (u : Int) : ∀ (l : List Nat) (o : Int) (S S2 : S9), oSts ws wg wl (oMK ws wg wl n) u l S = (some o, S2) → ∀ a t, a ∈ l → CTT ws wg wl (ctE wg a) t → GO9 ws wg wl S2 t
  | [], o, S, S2, h, a, t, ha, _ => absurd ha (by simp)
  | x :: l, o, S, S2, h, a, t, ha, ht => by
    obtain ⟨v, S1, h1, h2⟩ := bd9_so h
    obtain ⟨v2, S3, h3, h4⟩ := bd9_so h2
    rcases List.mem_cons.mp ha with q | q
    · rw [q] at ht
      exact GO_m (GO_con hn ih h1 ht) (MO_tr (snd_s h3 (P := fun T => MO9 wg wl S1 T) MO_se) (snd_s h4 (PK_sts (MO_pk n) (fun _ _ _ _ => MO_se) u l S3)))
    · exact GO_sts hn ih u l _ _ _ h4 a t q ht
/-- a bean that was made was made to the end -/
theorem DN_mk (hn : iv 0 80 (ws 12)) : ∀ n b S o S2, oMK ws wg wl n b S = (some o, S2) → DN9 ws wg wl S2 b
  | 0, b, S, o, S2, h => absurd (congrArg Prod.fst h) (by simp [oMK])
  | n + 1, b, S, o, S2, h => by
    have ih := DN_mk hn n
    have h : (if zS S b = 1 then (none, S) else oMB ws wg wl (oMK ws wg wl n) b S) = (some o, S2) := h
    by_cases q : zS S b = 1
    · rw [if_pos q] at h; exact absurd (congrArg Prod.fst h) (by simp)
    · rw [if_neg q] at h
      obtain ⟨a, S1, h1, h2⟩ := bd9_so h
      unfold r1 at h2
      split at h2
      · exact absurd (congrArg Prod.fst h2) (by simp)
      · obtain ⟨fo, S3, h3, h4⟩ := bd9_so h2
        obtain ⟨vs, S4, h5, h6⟩ := bd9_so h4
        obtain ⟨u, S5, h7, h8⟩ := bd9_so h6
        obtain ⟨w, S6, h9, h10⟩ := bd9_so h8
        have e : oFi wg wl b u S6 = S2 := congrArg Prod.snd h10
        have m6 : MO9 wg wl S6 S2 := by rw [← e]; exact MO_fi
        have m5 : MO9 wg wl S5 S2 := MO_tr (snd_s h9 (PK_sts (MO_pk n) (fun _ _ _ _ => MO_se) u _ S5)) m6
        have m4 : MO9 wg wl S4 S2 := MO_tr (snd_s h7 (P := fun T => MO9 wg wl S4 T) MO_br) m5
        have m3 : MO9 wg wl S3 S2 := MO_tr (snd_s h5 (PK_ars (MO_pk n) _ _ S3)) m4
        have m1 : MO9 wg wl S1 S2 := by
          refine MO_tr ?_ m3
          unfold oFa at h3
          split at h3
          · have e : S1 = S3 := congrArg Prod.snd h3
            rw [e]; exact MO_rf
          · exact snd_s h3 (PK_get (MO_pk n) _ S1)
        refine Acc.intro _ (fun t ht => ?_)
        have key : GO9 ws wg wl S2 t := by
          rcases ht.1 with ⟨l1, l2⟩ | ⟨l1, l2⟩ | ⟨a, l1, l2⟩
          · unfold oDe at h1
            rw [if_neg l1] at h1
            exact GO_m (GO_get hn ih h1 l2) m1
          · unfold oFa at h3
            rw [if_neg l1] at h3
            exact GO_m (GO_get hn ih h3 l2) m3
          · rcases l1 with l1 | l1
            · exact GO_m (GO_ars hn ih _ _ _ _ _ h5 a t l1 l2) m4
            · exact GO_m (GO_sts hn ih u _ _ _ _ h9 a t l1 l2) m6
        exact key.resolve_left ht.2
def KQ9 (S S2 : S9) : Prop := ∀ t, zS S2 t = 1 ↔ zS S t = 1
theorem KQ_tr {S1 : S9} (h : KQ9 S S1) (h2 : KQ9 S1 S2) : KQ9 S S2 := fun t => (h2 t).trans (h t)
theorem KQ_rf : KQ9 S S := fun _ => Iff.rfl
theorem KQ_e (e : zS S2 = zS S) : KQ9 S S2 := fun t => by rw [e]
theorem oFi_z2 {t : Nat} (hb : ¬ t = b) (h : zS S t = 1) : zS (oFi wg wl b o S) t = 1 := by
  unfold oFi oF2
  by_cases p : ¬ wl 4 b = 0 ∧ wg 35 b = 0
  · rw [if_pos p]
    show fu9 (zS (oF1 wg b o S)) b 2 t = 1
    rw [fu9_ne hb, oF1_w.2.1]; exact h
  · rw [if_neg p]
    show fu9 (zS (oF1 wg b o S)) b 0 t = 1
    rw [fu9_ne hb, oF1_w.2.1]; exact h
/-- what is being made stays so, and nothing else is left being made -/
theorem KQ_mk : ∀ n b S o S2, oMK ws wg wl n b S = (some o, S2) → KQ9 S S2
  | 0, b, S, o, S2, h => absurd (congrArg Prod.fst h) (by simp [oMK])
  | n + 1, b, S, o, S2, h => by
    have ih := KQ_mk n
    have hg : ∀ t S o S2, oGet wg (oMK ws wg wl n) t S = (some o, S2) → KQ9 S S2 := fun t S o S2 h => by
      unfold oGet at h
      split at h
      · exact absurd (congrArg Prod.fst h) (by simp)
      · split at h
        · exact absurd (congrArg Prod.fst h) (by simp)
        · split at h
          · have e : S = S2 := congrArg Prod.snd h
            rw [← e]; exact KQ_rf
          · exact ih _ _ _ _ h
    have ho : ∀ e S o S2, oObj ws wg wl (oMK ws wg wl n) e S = (some o, S2) → KQ9 S S2 := fun e S o S2 h => by
      unfold oObj at h
      split at h
      · exact hg _ _ _ _ h
      · exact ih _ _ _ _ h
    have hi : ∀ e S o S2, oItm ws wg wl (oMK ws wg wl n) e S = (some o, S2) → KQ9 S S2 := fun e S o S2 h => by
      unfold oItm at h
      split at h
      · have e : S = S2 := congrArg Prod.snd h
        rw [← e]; exact KQ_rf
      · split at h
        · have e : S = S2 := congrArg Prod.snd h
          rw [← e]; exact KQ_rf
        · obtain ⟨a, S1, h1, h2⟩ := bd9_so h
          have e : S1 = S2 := congrArg Prod.snd h2
          rw [← e]; exact ho _ _ _ _ h1
    have hs : ∀ (l : List Nat) (acc : List Int) S o S2, oIts ws wg wl (oMK ws wg wl n) l acc S = (some o, S2) → KQ9 S S2 := by
      intro l
      induction l with
      | nil => intro acc S o S2 h; have e : S = S2 := congrArg Prod.snd h; rw [← e]; exact KQ_rf
      | cons e l ihl =>
        intro acc S o S2 h
        obtain ⟨a, S1, h1, h2⟩ := bd9_so h
        exact KQ_tr (hi _ _ _ _ h1) (ihl _ _ _ _ h2)
    have hc : ∀ c S o S2, oCon ws wg wl (oMK ws wg wl n) c S = (some o, S2) → KQ9 S S2 := fun c S o S2 h => by
      unfold oCon at h
      split at h
      · exact hs _ _ _ _ _ h
      · split at h
        · obtain ⟨a, S1, h1, h2⟩ := bd9_so h
          have e : S1 = S2 := congrArg Prod.snd h2
          rw [← e]; exact ho _ _ _ _ h1
        · have e : S = S2 := congrArg Prod.snd h
          rw [← e]; exact KQ_rf
    have ha : ∀ (l : List Nat) (acc : List (List Int)) S o S2, oArs ws wg wl (oMK ws wg wl n) l acc S = (some o, S2) → KQ9 S S2 := by
      intro l
      induction l with
      | nil => intro acc S o S2 h; have e : S = S2 := congrArg Prod.snd h; rw [← e]; exact KQ_rf
      | cons e l ihl =>
        intro acc S o S2 h
        obtain ⟨a, S1, h1, h2⟩ := bd9_so h
        exact KQ_tr (hc _ _ _ _ h1) (ihl _ _ _ _ h2)
    have ht : ∀ (u : Int) (l : List Nat) S o S2, oSts ws wg wl (oMK ws wg wl n) u l S = (some o, S2) → KQ9 S S2 := by
      intro u l
      induction l with
      | nil => intro S o S2 h; have e : S = S2 := congrArg Prod.snd h; rw [← e]; exact KQ_rf
      | cons e l ihl =>
        intro S o S2 h
        obtain ⟨a, S1, h1, h2⟩ := bd9_so h
        obtain ⟨a2, S3, h3, h4⟩ := bd9_so h2
        exact KQ_tr (hc _ _ _ _ h1) (KQ_tr (KQ_e (oSe_e h3).2.1) (ihl _ _ _ h4))
    have h4 : ∀ b u l S o S2, r4 ws wg wl (oMK ws wg wl n) b u l S = (some o, S2) → ∃ S3 w, KQ9 S S3 ∧ S2 = oFi wg wl b w S3 := fun b u l S o S2 h => by
      obtain ⟨a, S1, h1, h2⟩ := bd9_so h
      exact ⟨S1, u, ht _ _ _ _ _ h1, (congrArg Prod.snd h2).symm⟩
    have h3 : ∀ b fo vs S o S2, r3 ws wg wl (oMK ws wg wl n) b fo vs S = (some o, S2) → ∃ S3 w, KQ9 S S3 ∧ S2 = oFi wg wl b w S3 := fun b fo vs S o S2 h => by
      obtain ⟨a, S1, h1, h2⟩ := bd9_so h
      obtain ⟨S3, w, q1, q2⟩ := h4 _ _ _ _ _ _ h2
      exact ⟨S3, w, KQ_tr (KQ_e (oBr_w h1).2.2.1) q1, q2⟩
    have h2 : ∀ b fo l acc S o S2, r2 ws wg wl (oMK ws wg wl n) b fo l acc S = (some o, S2) → ∃ S3 w, KQ9 S S3 ∧ S2 = oFi wg wl b w S3 := fun b fo l acc S o S2 h => by
      obtain ⟨a, S1, h1, h2⟩ := bd9_so h
      obtain ⟨S3, w, q1, q2⟩ := h3 _ _ _ _ _ _ h2
      exact ⟨S3, w, KQ_tr (ha _ _ _ _ _ h1) q1, q2⟩
    have h1 : ∀ b S o S2, r1 ws wg wl (oMK ws wg wl n) b S = (some o, S2) → ∃ S3 w, KQ9 S S3 ∧ S2 = oFi wg wl b w S3 := fun b S o S2 h => by
      unfold r1 at h
      split at h
      · exact absurd (congrArg Prod.fst h) (by simp)
      · obtain ⟨a, S1, h1, h3⟩ := bd9_so h
        obtain ⟨S3, w, q1, q2⟩ := h2 _ _ _ _ _ _ _ h3
        refine ⟨S3, w, KQ_tr ?_ q1, q2⟩
        unfold oFa at h1
        split at h1
        · have e : S = S1 := congrArg Prod.snd h1
          rw [← e]; exact KQ_rf
        · exact hg _ _ _ _ h1
    have h : (if zS S b = 1 then (none, S) else oMB ws wg wl (oMK ws wg wl n) b S) = (some o, S2) := h
    by_cases q : zS S b = 1
    · rw [if_pos q] at h; exact absurd (congrArg Prod.fst h) (by simp)
    · rw [if_neg q] at h
      obtain ⟨a, S1, h5, h6⟩ := bd9_so h
      obtain ⟨S3, w, q1, q2⟩ := h1 _ _ _ _ h6
      have k1 : KQ9 (oBe b S) S1 := by
        unfold oDe at h5
        split at h5
        · have e : oBe b S = S1 := congrArg Prod.snd h5
          rw [← e]; exact KQ_rf
        · exact hg _ _ _ _ h5
      intro t
      have k1q : zS S3 t = 1 ↔ zS (oBe b S) t = 1 := (q1 t).trans (k1 t)
      rw [q2]
      have e : zS (oBe b S) t = fu9 (zS S) b 1 t := rfl
      by_cases p : t = b
      · rw [p]
        exact ⟨fun p2 => absurd rfl (oFi_z p2).1, fun p2 => absurd p2 q⟩
      · rw [e, fu9_ne p] at k1q
        refine ⟨fun p2 => ?_, fun p2 => ?_⟩
        · exact k1q.mp (oFi_z p2).2
        · exact oFi_z2 p (k1q.mpr p2)
end DP9
end
section
section DE9
variable {ws : Nat → Int32} {wg : Nat → Nat → Int32} {wl : Nat → Nat → Int64} {S S2 : S9} {b c n m nb : Nat} {L : List (Nat × S9)}
/-- the holders of a bean, the names that it asks for -/
def HD9 (wg : Nat → Nat → Int32) (b a : Nat) : Prop := a ∈ liL wg (3 * b) ∨ a ∈ liL wg (3 * b + 1)
def NM9 (wg : Nat → Nat → Int32) (wl : Nat → Nat → Int64) (b : Nat) (v : Int64) : Prop := (¬ wl 6 b = 0 ∧ v = wl 6 b) ∨ (¬ wl 7 b = 0 ∧ v = wl 7 b) ∨ (∃ a, HD9 wg b a ∧ ((kd8 wg (ctE wg a) ∧ (wg 27 (ctE wg a)).toInt < 0 ∧ v = wl 2 (ctE wg a)) ∨ ((wg 25 (ctE wg a)).toInt = 6 ∧ ∃ e, e ∈ itC wg (ctE wg a) ∧ ¬ (wg 25 e).toInt = 7 ∧ ¬ (wg 25 e).toInt = 9 ∧ (wg 27 e).toInt < 0 ∧ v = wl 2 e)))
/-- what stands ahead of an item that is being made -/
def PR9 (ws : Nat → Int32) (wg : Nat → Nat → Int32) (wl : Nat → Nat → Int64) (L : List (Nat × S9)) (S : S9) (pre : List Nat) : Prop := ∀ e, e ∈ pre → ¬ (wg 25 e).toInt = 7 → ¬ (wg 25 e).toInt = 9 → 0 ≤ (wg 27 e).toInt → DN9 ws wg wl S (wg 27 e).toInt.toNat ∧ ∀ x, x ∈ L → ¬ x.1 = (wg 27 e).toInt.toNat
/-- how a bean came to be asked for, with those that are being made -/
def LN9 (ws : Nat → Int32) (wg : Nat → Nat → Int32) (wl : Nat → Nat → Int64) (L : List (Nat × S9)) (t : Nat) (S : S9) : Prop := match L with
  | [] => ¬ wl 4 t = 0
  | (b, T) :: M => (¬ wl 4 t = 0 ∧ ∃ v, NM9 wg wl b v ∧ caN ws wg wl v = (t : Int)) ∨ (∃ a, HD9 wg b a ∧ kd8 wg (ctE wg a) ∧ 0 ≤ (wg 27 (ctE wg a)).toInt ∧ (wg 27 (ctE wg a)).toInt.toNat = t)
    ∨ (∃ a pre e post, HD9 wg b a ∧ (wg 25 (ctE wg a)).toInt = 6 ∧ itC wg (ctE wg a) = pre ++ e :: post ∧ ¬ (wg 25 e).toInt = 7 ∧ ¬ (wg 25 e).toInt = 9 ∧ 0 ≤ (wg 27 e).toInt ∧ (wg 27 e).toInt.toNat = t ∧ PR9 ws wg wl ((b, T) :: M) S pre)
def CH9 (ws : Nat → Int32) (wg : Nat → Nat → Int32) (wl : Nat → Nat → Int64) : List (Nat × S9) → Prop
  | [] => True
  | (t, S) :: L => CH9 ws wg wl L ∧ ¬ zS S t = 1 ∧ ¬ RD9 wg wl S t ∧ (∀ x, x ∈ L → zS S x.1 = 1) ∧ (∀ x, x ∈ L → MO9 wg wl x.2 S) ∧ LN9 ws wg wl L t S
/-- those that are being made still are -/
def GS9 (wg : Nat → Nat → Int32) (wl : Nat → Nat → Int64) (L : List (Nat × S9)) (S : S9) : Prop := (∀ x, x ∈ L → zS S x.1 = 1) ∧ (∀ x, x ∈ L → MO9 wg wl x.2 S)
/-- beans within others have no id, and are of the document -/
def IN9 (wg : Nat → Nat → Int32) (wl : Nat → Nat → Int64) (nb : Nat) : Prop := ∀ b, b < nb → ∀ a, HD9 wg b a → (kd8 wg (ctE wg a) → 0 ≤ (wg 27 (ctE wg a)).toInt → wl 4 (wg 27 (ctE wg a)).toInt.toNat = 0 ∧ (wg 27 (ctE wg a)).toInt.toNat < nb) ∧ ((wg 25 (ctE wg a)).toInt = 6 → ∀ e, e ∈ itC wg (ctE wg a) → ¬ (wg 25 e).toInt = 7 → ¬ (wg 25 e).toInt = 9 → 0 ≤ (wg 27 e).toInt → wl 4 (wg 27 e).toInt.toNat = 0 ∧ (wg 27 e).toInt.toNat < nb)
theorem bd9_c {α β : Type} {x1 x2 : Option α × S9} {f1 f2 : α → S9 → Option β × S9} (hx : x1 = x2) (hf : ∀ a T, x1 = (some a, T) → f1 a T = f2 a T) : bd9 x1 f1 = bd9 x2 f2 := by
  subst hx
  obtain ⟨o, T⟩ := x1
  cases o with
  | none => rfl
  | some a => exact hf a T rfl
theorem GS_s (h : GS9 wg wl L S) (k : KQ9 S S2) (mo : MO9 wg wl S S2) : GS9 wg wl L S2 := ⟨fun x hx => (k x.1).mpr (h.1 x hx), fun x hx => MO_tr (h.2 x hx) mo⟩
theorem PR_m {pre : List Nat} (h : PR9 ws wg wl L S pre) (mo : MO9 wg wl S S2) : PR9 ws wg wl L S2 pre := fun e he h7 h9 h0 => ⟨DN_m (h e he h7 h9 h0).1 mo, (h e he h7 h9 h0).2⟩
/-- two fuels agree on what may be asked for -/
def AG9 (ws : Nat → Int32) (wg : Nat → Nat → Int32) (wl : Nat → Nat → Int64) (nb n m : Nat) (L : List (Nat × S9)) : Prop := ∀ t S, GS9 wg wl L S → ¬ RD9 wg wl S t → t < nb → LN9 ws wg wl L t S → oMK ws wg wl n t S = oMK ws wg wl m t S
theorem AG_n {v : Int64} {T : S9} (hn : iv 0 80 (ws 12)) (hnb : nb = (ws 12).toNatClampNeg) (hA : AG9 ws wg wl nb n m ((b, T) :: L)) (hv : NM9 wg wl b v) (hG : GS9 wg wl ((b, T) :: L) S) : oGet wg (oMK ws wg wl n) (caN ws wg wl v) S = oGet wg (oMK ws wg wl m) (caN ws wg wl v) S := by
  rw [gt_nm hn, gt_nm hn]
  unfold gtR
  by_cases h0 : caN ws wg wl v < 0
  · rw [if_pos h0, if_pos h0]
  · rw [if_neg h0, if_neg h0]
    by_cases h1 : ¬ wg 34 (caN ws wg wl v).toNat = 0
    · rw [if_pos h1, if_pos h1]
    · rw [if_neg h1, if_neg h1]
      by_cases h2 : rdy9 wg wl S (caN ws wg wl v).toNat
      · rw [if_pos h2, if_pos h2]
      · rw [if_neg h2, if_neg h2]
        by_cases h3 : zS S (caN ws wg wl v).toNat = 1
        · rw [oMK_z1 h3, oMK_z1 h3]
        · have h4 : ¬ wl 4 (caN ws wg wl v).toNat = 0 := by
            rcases caF_ok (wg := wg) (wl := wl) hn 21 v with q | q
            · exact absurd (show caN ws wg wl v < 0 by unfold caN; rw [q]; decide) h0
            · exact q.2.2
          refine hA _ _ hG (fun q => ?_) ?_ (Or.inl ⟨h4, v, hv, by omega⟩)
          · rcases q.2 with p | p
            · exact h3 p
            · exact h2 ⟨q.1, Or.inl p⟩
          · have := caN_lt (wg := wg) (wl := wl) hn v; omega
theorem AG_o {a : Nat} {T : S9} (hn : iv 0 80 (ws 12)) (hnb : nb = (ws 12).toNatClampNeg) (hI : IN9 wg wl nb) (hb : b < nb) (hA : AG9 ws wg wl nb n m ((b, T) :: L)) (ha : HD9 wg b a) (hk : kd8 wg (ctE wg a)) (hG : GS9 wg wl ((b, T) :: L) S) : oObj ws wg wl (oMK ws wg wl n) (ctE wg a) S = oObj ws wg wl (oMK ws wg wl m) (ctE wg a) S := by
  by_cases h : (wg 27 (ctE wg a)).toInt < 0
  · rw [oObj_n h, oObj_n h]
    exact AG_n hn hnb hA (Or.inr (Or.inr ⟨a, ha, Or.inl ⟨hk, h, rfl⟩⟩)) hG
  · have h0 : 0 ≤ (wg 27 (ctE wg a)).toInt := by omega
    rw [oObj_b h0, oObj_b h0]
    by_cases h3 : zS S (wg 27 (ctE wg a)).toInt.toNat = 1
    · rw [oMK_z1 h3, oMK_z1 h3]
    · have q := (hI b hb a ha).1 hk h0
      exact hA _ _ hG (fun p => p.1.1 q.1) q.2 (Or.inr (Or.inl ⟨a, ha, hk, h0, rfl⟩))
theorem AG_i {a : Nat} {T : S9} {pre post : List Nat} {e : Nat} (hn : iv 0 80 (ws 12)) (hnb : nb = (ws 12).toNatClampNeg) (hI : IN9 wg wl nb) (hb : b < nb) (hA : AG9 ws wg wl nb n m ((b, T) :: L)) (ha : HD9 wg b a) (hk : (wg 25 (ctE wg a)).toInt = 6) (hl : itC wg (ctE wg a) = pre ++ e :: post) (hP : PR9 ws wg wl ((b, T) :: L) S pre) (hG : GS9 wg wl ((b, T) :: L) S) : oItm ws wg wl (oMK ws wg wl n) e S = oItm ws wg wl (oMK ws wg wl m) e S := by
  unfold oItm
  by_cases h7 : (wg 25 e).toInt = 7
  · rw [if_pos h7, if_pos h7]
  · rw [if_neg h7, if_neg h7]
    by_cases h9 : (wg 25 e).toInt = 9
    · rw [if_pos h9, if_pos h9]
    · rw [if_neg h9, if_neg h9]
      have he : e ∈ itC wg (ctE wg a) := by rw [hl]; simp
      have key : oObj ws wg wl (oMK ws wg wl n) e S = oObj ws wg wl (oMK ws wg wl m) e S := by
        by_cases h : (wg 27 e).toInt < 0
        · rw [oObj_n h, oObj_n h]
          exact AG_n hn hnb hA (Or.inr (Or.inr ⟨a, ha, Or.inr ⟨hk, e, he, h7, h9, h, rfl⟩⟩)) hG
        · have h0 : 0 ≤ (wg 27 e).toInt := by omega
          rw [oObj_b h0, oObj_b h0]
          by_cases h3 : zS S (wg 27 e).toInt.toNat = 1
          · rw [oMK_z1 h3, oMK_z1 h3]
          · have q := (hI b hb a ha).2 hk e he h7 h9 h0
            exact hA _ _ hG (fun p => p.1.1 q.1) q.2 (Or.inr (Or.inr ⟨a, pre, e, post, ha, hk, hl, h7, h9, h0, rfl, hP⟩))
      rw [key]
/-- success keeps what is being made -/
theorem SK_get {t : Int} {o : Int} (h : oGet wg (oMK ws wg wl n) t S = (some o, S2)) : KQ9 S S2 := by
  unfold oGet at h
  split at h
  · exact absurd (congrArg Prod.fst h) (by simp)
  · split at h
    · exact absurd (congrArg Prod.fst h) (by simp)
    · split at h
      · have e : S = S2 := congrArg Prod.snd h
        rw [← e]; exact KQ_rf
      · exact KQ_mk _ _ _ _ _ h
theorem SK_obj {e : Nat} {o : Int} (h : oObj ws wg wl (oMK ws wg wl n) e S = (some o, S2)) : KQ9 S S2 := by
  unfold oObj at h
  split at h
  · exact SK_get h
  · exact KQ_mk _ _ _ _ _ h
theorem SK_itm {e : Nat} {o : Int} (h : oItm ws wg wl (oMK ws wg wl n) e S = (some o, S2)) : KQ9 S S2 := by
  unfold oItm at h
  split at h
  · have e : S = S2 := congrArg Prod.snd h
    rw [← e]; exact KQ_rf
  · split at h
    · have e : S = S2 := congrArg Prod.snd h
      rw [← e]; exact KQ_rf
    · obtain ⟨a, S1, h1, h2⟩ := bd9_so h
      have e : S1 = S2 := congrArg Prod.snd h2
      rw [← e]; exact SK_obj h1
theorem SK_its : ∀ (l : List Nat) (acc V : List Int) (S S2 : S9), oIts ws wg wl (oMK ws wg wl n) l acc S = (some V, S2) → KQ9 S S2
  | [], acc, V, S, S2, h => by have e : S = S2 := congrArg Prod.snd h; rw [← e]; exact KQ_rf
  | x :: l, acc, V, S, S2, h => by
    obtain ⟨a, S1, h1, h2⟩ := bd9_so h
    exact KQ_tr (SK_itm h1) (SK_its l _ _ _ _ h2)
theorem SK_con {c : Nat} {V : List Int} (h : oCon ws wg wl (oMK ws wg wl n) c S = (some V, S2)) : KQ9 S S2 := by
  unfold oCon at h
  split at h
  · exact SK_its _ _ _ _ _ h
  · split at h
    · obtain ⟨a, S1, h1, h2⟩ := bd9_so h
      have e : S1 = S2 := congrArg Prod.snd h2
      rw [← e]; exact SK_obj h1
    · have e : S = S2 := congrArg Prod.snd h
      rw [← e]; exact KQ_rf
theorem SK_ars : ∀ (l : List Nat) (acc V : List (List Int)) (S S2 : S9), oArs ws wg wl (oMK ws wg wl n) l acc S = (some V, S2) → KQ9 S S2
  | [], acc, V, S, S2, h => by have e : S = S2 := congrArg Prod.snd h; rw [← e]; exact KQ_rf
  | x :: l, acc, V, S, S2, h => by
    obtain ⟨a, S1, h1, h2⟩ := bd9_so h
    exact KQ_tr (SK_con h1) (SK_ars l _ _ _ _ h2)
/-- the items of a list -/
theorem AG_its {a : Nat} {T : S9} (hn : iv 0 80 (ws 12)) (hnb : nb = (ws 12).toNatClampNeg) (hI : IN9 wg wl nb) (hb : b < nb) (hA : AG9 ws wg wl nb n m ((b, T) :: L)) (ha : HD9 wg b a) (hk : (wg 25 (ctE wg a)).toInt = 6) : ∀ (post pre : List Nat) (acc : List Int) (S : S9), itC wg (ctE wg a) = pre ++ post → PR9 ws wg wl ((b, T) :: L) S pre → GS9 wg wl ((b, T) :: L) S → oIts ws wg wl (oMK ws wg wl n) post acc S = oIts ws wg wl (oMK ws wg wl m) post acc S
  | [], pre, acc, S, _, _, _ => rfl
  | e :: post, pre, acc, S, hl, hP, hG => by
    refine bd9_c (AG_i hn hnb hI hb hA ha hk hl hP hG) (fun v S1 h1 => ?_)
    have mo : MO9 wg wl S S1 := snd_s h1 (PK_itm (MO_pk n) e S)
    refine AG_its hn hnb hI hb hA ha hk post (pre ++ [e]) _ S1 (by rw [hl]; simp) ?_ (GS_s hG (SK_itm h1) mo)
    intro x hx h7 h9 h0
    rcases List.mem_append.mp hx with q | q
    · exact PR_m hP mo x q h7 h9 h0
    · have ex : x = e := by simpa using q
      subst ex
      unfold oItm at h1
      rw [if_neg h7, if_neg h9] at h1
      obtain ⟨u, S3, h2, h3⟩ := bd9_so h1
      have e3 : S3 = S1 := congrArg Prod.snd h3
      rw [oObj_b h0] at h2
      rw [← e3]
      refine ⟨DN_mk hn _ _ _ _ _ h2, fun y hy ey => ?_⟩
      have z := hG.1 y hy
      rw [ey] at z
      rw [oMK_z1 z] at h2
      exact absurd (congrArg Prod.fst h2) (by simp)
theorem AG_con {a : Nat} {T : S9} (hn : iv 0 80 (ws 12)) (hnb : nb = (ws 12).toNatClampNeg) (hI : IN9 wg wl nb) (hb : b < nb) (hA : AG9 ws wg wl nb n m ((b, T) :: L)) (ha : HD9 wg b a) (hG : GS9 wg wl ((b, T) :: L) S) : oCon ws wg wl (oMK ws wg wl n) (ctE wg a) S = oCon ws wg wl (oMK ws wg wl m) (ctE wg a) S := by
  unfold oCon
  by_cases h6 : (wg 25 (ctE wg a)).toInt = 6
  · rw [if_pos h6, if_pos h6]
    exact AG_its hn hnb hI hb hA ha h6 _ [] [] S rfl (fun e he => absurd he (by simp)) hG
  · rw [if_neg h6, if_neg h6]
    by_cases h8 : (wg 25 (ctE wg a)).toInt = 8 ∨ (wg 25 (ctE wg a)).toInt = 2
    · rw [if_pos h8, if_pos h8, AG_o hn hnb hI hb hA ha h8 hG]
    · rw [if_neg h8, if_neg h8]
theorem AG_ars {T : S9} (hn : iv 0 80 (ws 12)) (hnb : nb = (ws 12).toNatClampNeg) (hI : IN9 wg wl nb) (hb : b < nb) (hA : AG9 ws wg wl nb n m ((b, T) :: L)) : ∀ (l : List Nat) (acc : List (List Int)) (S : S9), (∀ a, a ∈ l → HD9 wg b a) → GS9 wg wl ((b, T) :: L) S → oArs ws wg wl (oMK ws wg wl n) l acc S = oArs ws wg wl (oMK ws wg wl m) l acc S
  | [], acc, S, _, _ => rfl
  | a :: l, acc, S, hl, hG => by
    refine bd9_c (AG_con hn hnb hI hb hA (hl a (List.mem_cons_self ..)) hG) (fun v S1 h1 => ?_)
    exact AG_ars hn hnb hI hb hA l _ S1 (fun x hx => hl x (List.mem_cons_of_mem _ hx)) (GS_s hG (SK_con h1) (snd_s h1 (PK_con (MO_pk n) _ S)))
theorem AG_sts {T : S9} (hn : iv 0 80 (ws 12)) (hnb : nb = (ws 12).toNatClampNeg) (hI : IN9 wg wl nb) (hb : b < nb) (hA : AG9 ws wg wl nb n m ((b, T) :: L)) (o : Int) : ∀ (l : List Nat) (S : S9), (∀ a, a ∈ l → HD9 wg b a) → GS9 wg wl ((b, T) :: L) S → oSts ws wg wl (oMK ws wg wl n) o l S = oSts ws wg wl (oMK ws wg wl m) o l S
  | [], S, _, _ => rfl
  | a :: l, S, hl, hG => by
    refine bd9_c (AG_con hn hnb hI hb hA (hl a (List.mem_cons_self ..)) hG) (fun v S1 h1 => ?_)
    have g1 := GS_s hG (SK_con h1) (snd_s h1 (PK_con (MO_pk n) _ S))
    refine bd9_c rfl (fun u S3 h3 => ?_)
    exact AG_sts hn hnb hI hb hA o l S3 (fun x hx => hl x (List.mem_cons_of_mem _ hx)) (GS_s g1 (KQ_e (oSe_e h3).2.1) (MO_e (oSe_e h3).2.1))
/-- what makes a bean -/
theorem AG_mb {T : S9} (hn : iv 0 80 (ws 12)) (hnb : nb = (ws 12).toNatClampNeg) (hI : IN9 wg wl nb) (hb : b < nb) (hA : AG9 ws wg wl nb n m ((b, T) :: L)) (hG : GS9 wg wl ((b, T) :: L) (oBe b S)) : oMB ws wg wl (oMK ws wg wl n) b S = oMB ws wg wl (oMK ws wg wl m) b S := by
  have hde : oDe ws wg wl (oMK ws wg wl n) b (oBe b S) = oDe ws wg wl (oMK ws wg wl m) b (oBe b S) := by
    unfold oDe
    by_cases h : wl 6 b = 0
    · rw [if_pos h, if_pos h]
    · rw [if_neg h, if_neg h]; exact AG_n hn hnb hA (Or.inl ⟨h, rfl⟩) hG
  refine bd9_c hde (fun d S1 h1 => ?_)
  have g1 : GS9 wg wl ((b, T) :: L) S1 := by
    unfold oDe at h1
    split at h1
    · have e : oBe b S = S1 := congrArg Prod.snd h1
      rw [← e]; exact hG
    · exact GS_s hG (SK_get h1) (snd_s h1 (PK_get (MO_pk n) _ _))
  unfold r1
  by_cases hc : (wg 30 b).toInt = -1 ∧ wl 7 b = 0
  · rw [if_pos hc, if_pos hc]
  · rw [if_neg hc, if_neg hc]
    have hfa : oFa ws wg wl (oMK ws wg wl n) b S1 = oFa ws wg wl (oMK ws wg wl m) b S1 := by
      unfold oFa
      by_cases h : wl 7 b = 0
      · rw [if_pos h, if_pos h]
      · rw [if_neg h, if_neg h]; exact AG_n hn hnb hA (Or.inr (Or.inl ⟨h, rfl⟩)) g1
    refine bd9_c hfa (fun fo S2 h2 => ?_)
    have g2 : GS9 wg wl ((b, T) :: L) S2 := by
      unfold oFa at h2
      split at h2
      · have e : S1 = S2 := congrArg Prod.snd h2
        rw [← e]; exact g1
      · exact GS_s g1 (SK_get h2) (snd_s h2 (PK_get (MO_pk n) _ _))
    refine bd9_c (AG_ars hn hnb hI hb hA _ _ S2 (fun a ha => Or.inl ha) g2) (fun vs S3 h3 => ?_)
    have g3 := GS_s g2 (SK_ars _ _ _ _ _ h3) (snd_s h3 (PK_ars (MO_pk n) _ _ S2))
    refine bd9_c rfl (fun o S4 h4 => ?_)
    have g4 := GS_s g3 (KQ_e (oBr_w h4).2.2.1) (MO_e (oBr_w h4).2.2.1)
    exact bd9_c (AG_sts hn hnb hI hb hA o _ S4 (fun a ha => Or.inr ha) g4) (fun _ _ _ => rfl)
/-- forty levels are enough, if no chain is longer -/
theorem DEP (hn : iv 0 80 (ws 12)) (hnb : nb = (ws 12).toNatClampNeg) (hI : IN9 wg wl nb) (hB : ∀ L, CH9 ws wg wl L → (∀ x, x ∈ L → x.1 < nb) → L.length ≤ 40) (k : Nat) : ∀ (n t : Nat) (S : S9) (L : List (Nat × S9)), L.length + n = 40 → CH9 ws wg wl L → (∀ x, x ∈ L → x.1 < nb) → GS9 wg wl L S → t < nb → ¬ RD9 wg wl S t → LN9 ws wg wl L t S → oMK ws wg wl n t S = oMK ws wg wl (n + k) t S
  | 0, t, S, L, hlen, hC, hL, hG, ht, hr, hl => by
    by_cases q : zS S t = 1
    · rw [oMK_z1 q, oMK_z1 q]
    · exfalso
      have := hB ((t, S) :: L) ⟨hC, q, hr, hG.1, hG.2, hl⟩ (fun x hx => by
        rcases List.mem_cons.mp hx with e | e
        · rw [e]; exact ht
        · exact hL x e)
      have e : ((t, S) :: L).length = L.length + 1 := rfl
      omega
  | n + 1, t, S, L, hlen, hC, hL, hG, ht, hr, hl => by
    by_cases q : zS S t = 1
    · rw [oMK_z1 q, oMK_z1 q]
    · rw [show n + 1 + k = (n + k) + 1 by omega, oMK_2 q, oMK_2 q]
      have hC2 : CH9 ws wg wl ((t, S) :: L) := ⟨hC, q, hr, hG.1, hG.2, hl⟩
      have hL2 : ∀ x, x ∈ (t, S) :: L → x.1 < nb := fun x hx => by
        rcases List.mem_cons.mp hx with e | e
        · rw [e]; exact ht
        · exact hL x e
      refine AG_mb (T := S) (L := L) hn hnb hI ht ?_ ?_
      · intro t2 S2 g2 r2 l2 n2
        exact DEP hn hnb hI hB k n t2 S2 ((t, S) :: L) (by show L.length + 1 + n = 40; omega) hC2 hL2 g2 l2 r2 n2
      · refine ⟨fun x hx => ?_, fun x hx => ?_⟩
        · show fu9 (zS S) t 1 x.1 = 1
          rcases List.mem_cons.mp hx with e | e
          · rw [e, fu9_at]
          · by_cases p : x.1 = t
            · rw [p, fu9_at]
            · rw [fu9_ne p]; exact hG.1 x e
        · rcases List.mem_cons.mp hx with e | e
          · rw [e]; exact MO_be
          · exact MO_tr (hG.2 x e) MO_be
/-- from where nothing is being made -/
theorem DEP_g (hn : iv 0 80 (ws 12)) (hnb : nb = (ws 12).toNatClampNeg) (hI : IN9 wg wl nb) (hB : ∀ L, CH9 ws wg wl L → (∀ x, x ∈ L → x.1 < nb) → L.length ≤ 40) (v : Int64) (S : S9) : oGet wg (oMK ws wg wl 40) (caN ws wg wl v) S = oGet wg (oMK ws wg wl 81) (caN ws wg wl v) S := by
  rw [gt_nm hn, gt_nm hn]
  unfold gtR
  by_cases h0 : caN ws wg wl v < 0
  · rw [if_pos h0, if_pos h0]
  · rw [if_neg h0, if_neg h0]
    by_cases h1 : ¬ wg 34 (caN ws wg wl v).toNat = 0
    · rw [if_pos h1, if_pos h1]
    · rw [if_neg h1, if_neg h1]
      by_cases h2 : rdy9 wg wl S (caN ws wg wl v).toNat
      · rw [if_pos h2, if_pos h2]
      · rw [if_neg h2, if_neg h2]
        by_cases h3 : zS S (caN ws wg wl v).toNat = 1
        · rw [oMK_z1 h3, oMK_z1 h3]
        · have h4 : ¬ wl 4 (caN ws wg wl v).toNat = 0 := by
            rcases caF_ok (wg := wg) (wl := wl) hn 21 v with q | q
            · exact absurd (show caN ws wg wl v < 0 by unfold caN; rw [q]; decide) h0
            · exact q.2.2
          refine DEP hn hnb hI hB 41 40 _ S [] rfl trivial (fun x hx => absurd hx (by simp)) ⟨fun x hx => absurd hx (by simp), fun x hx => absurd hx (by simp)⟩ ?_ (fun q => ?_) h4
          · have := caN_lt (wg := wg) (wl := wl) hn v; omega
          · rcases q.2 with p | p
            · exact h3 p
            · exact h2 ⟨q.1, Or.inl p⟩
end DE9
end
section
section CN9
variable {ws : Nat → Int32} {wg : Nat → Nat → Int32} {wl : Nat → Nat → Int64} {S S2 : S9} {b c n m nb : Nat} {L : List (Nat × S9)}
/-- reached, step by step -/
def RE8 (r : Nat → Nat → Prop) (y z : Nat) : Prop := ∀ X : Nat → Prop, X y → (∀ c u, X c → r u c → X u) → X z
theorem RE_rf {r : Nat → Nat → Prop} {y : Nat} : RE8 r y y := fun _ h _ => h
theorem RE_st {r : Nat → Nat → Prop} {y z u : Nat} (h : RE8 r y z) (hu : r u z) : RE8 r y u := fun X h0 hs => hs z u (h X h0 hs) hu
theorem RE_1 {r : Nat → Nat → Prop} {y z : Nat} (h : RE8 r y z) : z = y ∨ ∃ u, r u y ∧ RE8 r u z := by
  refine h (fun z => z = y ∨ ∃ u, r u y ∧ RE8 r u z) (Or.inl rfl) (fun c u hc hu => ?_)
  rcases hc with q | ⟨w, q1, q2⟩
  · rw [q] at hu; exact Or.inr ⟨u, hu, RE_rf⟩
  · exact Or.inr ⟨w, q1, RE_st q2 hu⟩
theorem AC_y9 {r : Nat → Nat → Prop} {y : Nat} (h : Acc r y) : ∀ z, RE8 r y z → ¬ r y z := by
  induction h with
  | intro y _ ih =>
    intro z hz hy
    rcases RE_1 hz with q | ⟨u, q1, q2⟩
    · rw [q] at hy; exact ih y hy y RE_rf hy
    · exact ih u q1 y (RE_st q2 hy) q1
theorem LN_k {t : Nat} {T : S9} (h : LN9 ws wg wl ((b, T) :: L) t S) : LK9 ws wg wl b t := by
  rcases h with ⟨_, v, h1, h2⟩ | ⟨a, h1, h2, h3, h4⟩ | ⟨a, pre, e, post, h1, h2, h3, h4, h5, h6, h7, _⟩
  · rcases h1 with ⟨q1, q2⟩ | ⟨q1, q2⟩ | ⟨a, q1, ⟨q2, q3, q4⟩ | ⟨q2, e, q3, q4, q5, q6, q7⟩⟩
    · rw [q2] at h2; exact Or.inl ⟨q1, h2⟩
    · rw [q2] at h2; exact Or.inr (Or.inl ⟨q1, h2⟩)
    · rw [q4] at h2; exact Or.inr (Or.inr ⟨a, q1, Or.inr ⟨q2, Or.inl ⟨q3, h2⟩⟩⟩)
    · rw [q7] at h2; exact Or.inr (Or.inr ⟨a, q1, Or.inl ⟨q2, e, q3, q4, q5, Or.inl ⟨q6, h2⟩⟩⟩)
  · exact Or.inr (Or.inr ⟨a, h1, Or.inr ⟨h2, Or.inr ⟨h3, h4⟩⟩⟩)
  · exact Or.inr (Or.inr ⟨a, h1, Or.inl ⟨h2, e, by rw [h3]; simp, h4, h5, Or.inr ⟨h6, h7⟩⟩⟩)
/-- a part of a chain that is older -/
theorem CH_t : ∀ (L1 : List (Nat × S9)) {L2 : List (Nat × S9)}, CH9 ws wg wl (L1 ++ L2) → CH9 ws wg wl L2
  | [], _, h => h
  | (_, _) :: L1, _, h => CH_t L1 h.1
theorem CH_r : ∀ (L1 : List (Nat × S9)) {L2 : List (Nat × S9)} {y x : Nat} {Sy Sx : S9}, CH9 ws wg wl (L1 ++ (y, Sy) :: L2) → (x, Sx) ∈ L2 → ∀ z, z ∈ L1 → RE8 (fun t c => LK9 ws wg wl c t ∧ ¬ RD9 wg wl Sx t) y z.1
  | [], _, _, _, _, _, _, _, z, hz => absurd hz (by simp)
  | (t, T) :: L1, L2, y, x, Sy, Sx, h, hx, z, hz => by
    have hx2 : (x, Sx) ∈ L1 ++ (y, Sy) :: L2 := List.mem_append.mpr (Or.inr (List.mem_cons_of_mem _ hx))
    have hr : ¬ RD9 wg wl Sx t := fun q => h.2.2.1 (h.2.2.2.2.1 _ hx2 t q)
    rcases List.mem_cons.mp hz with e | e
    · rw [e]
      cases L1 with
      | nil => exact RE_st RE_rf ⟨LN_k h.2.2.2.2.2, hr⟩
      | cons p L1 =>
        obtain ⟨w, W⟩ := p
        exact RE_st (CH_r ((w, W) :: L1) h.1 hx (w, W) (List.mem_cons_self ..)) ⟨LN_k h.2.2.2.2.2, hr⟩
    · exact CH_r L1 h.1 hx z e
/-- of a chain: distinct beans -/
theorem CH_d : ∀ (L : List (Nat × S9)), CH9 ws wg wl L → (L.map Prod.fst).Nodup
  | [], _ => List.nodup_nil
  | (t, S) :: L, h => by
    show (t :: L.map Prod.fst).Nodup
    refine List.nodup_cons.mpr ⟨fun hm => ?_, CH_d L h.1⟩
    obtain ⟨x, hx, e⟩ := List.mem_map.mp hm
    exact h.2.1 (by rw [← e]; exact h.2.2.2.1 x hx)
theorem LC9 {p1 q1 p2 q2 : List Nat} {a d : Nat} (h : p1 ++ a :: q1 = p2 ++ d :: q2) (hn : ¬ a = d) (hp : ¬ a ∈ p2) : d ∈ p1 := by
  rcases Nat.lt_trichotomy p1.length p2.length with q | q | q
  · exfalso
    have e := congrArg (fun l => l[p1.length]?) h
    rw [List.getElem?_append_right (Nat.le_refl _), Nat.sub_self, List.getElem?_append_left q] at e
    have e : some a = p2[p1.length]? := e
    exact hp (List.mem_of_getElem? e.symm)
  · exfalso
    have e := congrArg (fun l => l[p1.length]?) h
    rw [List.getElem?_append_right (Nat.le_refl _), Nat.sub_self, q, List.getElem?_append_right (Nat.le_refl _), Nat.sub_self] at e
    have e : some a = some d := e
    exact hn (Option.some.inj e)
  · have e := congrArg (fun l => l[p2.length]?) h
    rw [List.getElem?_append_left q, List.getElem?_append_right (Nat.le_refl _), Nat.sub_self] at e
    have e : p1[p2.length]? = some d := e
    exact List.mem_of_getElem? e
/-- what the text of the document costs: M elements, the cost of each, the names, each bean's element, what it lies in, what a list lies in -/
def CS9 (ws : Nat → Int32) (wg : Nat → Nat → Int32) (wl : Nat → Nat → Int64) (nb M : Nat) (bs : Nat → Nat) (oc : List Int64) (el ou hl : Nat → Nat) : Prop :=
  M ≤ 80
  ∧ (∀ t, t < nb → 0 < el t ∧ el t < M ∧ (¬ wl 4 t = 0 → 25 ≤ bs (el t)) ∧ 18 ≤ bs (el t))
  ∧ (∀ t u, t < nb → u < nb → el t = el u → t = u)
  ∧ (∀ b, b < nb → ∀ v, NM9 wg wl b v → v ∈ oc)
  ∧ (∀ t, t < nb → wl 4 t = 0 → 0 < ou t ∧ ou t < M ∧ 11 ≤ bs (ou t) ∧ ∀ u, u < nb → ¬ ou t = el u)
  ∧ (∀ b, b < nb → ∀ a, HD9 wg b a → kd8 wg (ctE wg a) → 0 ≤ (wg 27 (ctE wg a)).toInt → ∀ u, u < nb → wl 4 u = 0 → ou u = ou (wg 27 (ctE wg a)).toInt.toNat → u = (wg 27 (ctE wg a)).toInt.toNat)
  ∧ (∀ b, b < nb → ∀ a, HD9 wg b a → (wg 25 (ctE wg a)).toInt = 6 → (∀ e, e ∈ itC wg (ctE wg a) → ¬ (wg 25 e).toInt = 7 → ¬ (wg 25 e).toInt = 9 → 0 ≤ (wg 27 e).toInt → ou (wg 27 e).toInt.toNat = ctE wg a) ∧ 0 < hl (ctE wg a) ∧ hl (ctE wg a) < M ∧ 11 ≤ bs (hl (ctE wg a)) ∧ (∀ u, u < nb → ¬ hl (ctE wg a) = el u) ∧ (∀ u, u < nb → wl 4 u = 0 → ¬ hl (ctE wg a) = ou u))
  ∧ (∀ b a b2 a2, b < nb → b2 < nb → HD9 wg b a → HD9 wg b2 a2 → (wg 25 (ctE wg a)).toInt = 6 → (wg 25 (ctE wg a2)).toInt = 6 → hl (ctE wg a) = hl (ctE wg a2) → ctE wg a = ctE wg a2)
theorem hIa {a t : Nat} (hI : IN9 wg wl nb) (hb : b < nb) (h1 : HD9 wg b a) (h2 : kd8 wg (ctE wg a)) (h3 : 0 ≤ (wg 27 (ctE wg a)).toInt) (h4 : (wg 27 (ctE wg a)).toInt.toNat = t) : wl 4 t = 0 := by rw [← h4]; exact ((hI b hb a h1).1 h2 h3).1
theorem hIb {a t e : Nat} (hI : IN9 wg wl nb) (hb : b < nb) (h1 : HD9 wg b a) (h2 : (wg 25 (ctE wg a)).toInt = 6) (he : e ∈ itC wg (ctE wg a)) (h7 : ¬ (wg 25 e).toInt = 7) (h9 : ¬ (wg 25 e).toInt = 9) (h3 : 0 ≤ (wg 27 e).toInt) (h4 : (wg 27 e).toInt.toNat = t) : wl 4 t = 0 := by rw [← h4]; exact ((hI b hb a h1).2 h2 e he h7 h9 h3).1
section CM9
variable {M : Nat} {bs : Nat → Nat} {oc : List Int64} {el ou hl : Nat → Nat}
/-- a bean within another, met in a chain together with another of the same place: by a list -/
theorem LN_l {t u : Nat} {T : S9} (hC : CS9 ws wg wl nb M bs oc el ou hl) (hI : IN9 wg wl nb) (hb : b < nb) (ht : wl 4 t = 0) (h : LN9 ws wg wl ((b, T) :: L) t S) (hu : u < nb) (hu4 : wl 4 u = 0) (hne : ¬ u = t) (ho : ou u = ou t) : ∃ a pre e post, HD9 wg b a ∧ (wg 25 (ctE wg a)).toInt = 6 ∧ ctE wg a = ou t ∧ itC wg (ctE wg a) = pre ++ e :: post ∧ ¬ (wg 25 e).toInt = 7 ∧ ¬ (wg 25 e).toInt = 9 ∧ 0 ≤ (wg 27 e).toInt ∧ (wg 27 e).toInt.toNat = t ∧ PR9 ws wg wl ((b, T) :: L) S pre := by
  rcases h with ⟨q, _⟩ | ⟨a, q1, q2, q3, q4⟩ | ⟨a, pre, e, post, q1, q2, q3, q4, q5, q6, q7, q8⟩
  · exact absurd ht q
  · exfalso
    have := hC.2.2.2.2.2.1 b hb a q1 q2 q3 u hu hu4 (by rw [q4]; exact ho)
    rw [q4] at this; exact hne this
  · refine ⟨a, pre, e, post, q1, q2, ?_, q3, q4, q5, q6, q7, q8⟩
    have := (hC.2.2.2.2.2.2.1 b hb a q1 q2).1 e (by rw [q3]; simp) q4 q5 q6
    rw [q7] at this; exact this.symm
/-- not three of one list -/
theorem CH_3 {t y x : Nat} {T Sy Sx : S9} {L1 L2 : List (Nat × S9)} (hC : CS9 ws wg wl nb M bs oc el ou hl) (hI : IN9 wg wl nb) (h : CH9 ws wg wl ((t, T) :: (L1 ++ (y, Sy) :: L2))) (hL : ∀ z, z ∈ (t, T) :: (L1 ++ (y, Sy) :: L2) → z.1 < nb) (hx : (x, Sx) ∈ L2) (ht : wl 4 t = 0) (hy : wl 4 y = 0) (hx4 : wl 4 x = 0) (e1 : ou y = ou t) (e2 : ou x = ou t) : False := by
  obtain ⟨L3, L4, e3⟩ := List.append_of_mem hx
  have mL2 : ∀ z, z ∈ L2 → z ∈ (t, T) :: (L1 ++ (y, Sy) :: L2) := fun z hz => List.mem_cons_of_mem _ (List.mem_append.mpr (Or.inr (List.mem_cons_of_mem _ hz)))
  have my : (y, Sy) ∈ (t, T) :: (L1 ++ (y, Sy) :: L2) := List.mem_cons_of_mem _ (List.mem_append.mpr (Or.inr (List.mem_cons_self ..)))
  have ty : ¬ y = t := fun q => h.2.1 (by rw [← q]; exact h.2.2.2.1 (y, Sy) (List.mem_append.mpr (Or.inr (List.mem_cons_self ..))))
  have hcy : CH9 ws wg wl ((y, Sy) :: L2) := CH_t L1 h.1
  have yx : ¬ x = y := fun q => hcy.2.1 (by rw [← q]; exact hcy.2.2.2.1 (x, Sx) hx)
  -- the link of x
  have hcx : CH9 ws wg wl ((x, Sx) :: L4) := by
    have := hcy.1
    rw [e3] at this
    exact CH_t L3 this
  cases L4 with
  | nil => exact hcx.2.2.2.2.2 hx4
  | cons p L5 =>
    obtain ⟨bx, Bx⟩ := p
    have mbx : bx < nb := hL (bx, Bx) (mL2 _ (by rw [e3]; simp))
    obtain ⟨ax, prx, ex, pox, x1, x2, x3, x4, x5, x6, x7, x8, x9⟩ := LN_l hC hI mbx hx4 hcx.2.2.2.2.2 (hL _ my) hy (fun q => yx q.symm) (by rw [e1, e2])
    -- the link of y
    cases L2 with
    | nil => exact absurd hx (by simp)
    | cons p L6 =>
      obtain ⟨by9, By⟩ := p
      have mby : by9 < nb := hL (by9, By) (mL2 _ (List.mem_cons_self ..))
      obtain ⟨ay, pry, ey, poy, y1, y2, y3, y4, y5, y6, y7, y8, y9⟩ := LN_l hC hI mby hy hcy.2.2.2.2.2 (hL _ (mL2 _ hx)) hx4 yx (by rw [e1, e2])
      have hsame : ctE wg ax = ctE wg ay := by rw [x3, y3, e1, e2]
      rw [hsame, y4] at x4
      have hexy : ¬ ex = ey := fun q => yx (by rw [← x8, q, y8])
      have hnp : ¬ ex ∈ pry := fun q => by
        have := (y9 ex q x5 x6 x7).2 (x, Sx) hx
        exact this x8.symm
      have hin : ey ∈ prx := LC9 x4.symm hexy hnp
      have hdn := (x9 ey hin y5 y6 y7).1
      rw [y8] at hdn
      -- the link of t, and the cycle
      have hry : ¬ RD9 wg wl Sx y := fun q => hcy.2.2.1 (hcy.2.2.2.2.1 _ hx y q)
      have fin : ∀ (k : Nat) (K : S9) (M2 : List (Nat × S9)), L1 ++ (y, Sy) :: (by9, By) :: L6 = (k, K) :: M2 → False := fun k K M2 eq => by
        have hln := h.2.2.2.2.2
        have mk9 : k < nb := hL (k, K) (List.mem_cons_of_mem _ (by rw [eq]; exact List.mem_cons_self ..))
        rw [eq] at hln
        obtain ⟨at9, prt, et, pot, t1, t2, t3, t4, t5, t6, t7, t8, t9⟩ := LN_l hC hI mk9 ht hln (hL _ my) hy ty e1
        have hlk : LK9 ws wg wl k y := by
          refine Or.inr (Or.inr ⟨at9, t1, Or.inl ⟨t2, ey, ?_, y5, y6, Or.inr ⟨y7, y8⟩⟩⟩)
          rw [show ctE wg at9 = ctE wg ay by rw [t3, y3, e1], y4]; simp
        have hre : RE8 (fun t c => LK9 ws wg wl c t ∧ ¬ RD9 wg wl Sx t) y k := by
          cases L1 with
          | nil =>
            have : y = k := congrArg Prod.fst (List.cons.inj eq).1
            rw [← this]; exact RE_rf
          | cons p L7 =>
            have e9 : p = (k, K) := (List.cons.inj eq).1
            have := CH_r (p :: L7) h.1 hx p (List.mem_cons_self ..)
            rw [e9] at this; exact this
        exact AC_y9 hdn k hre ⟨hlk, hry⟩
      cases L1 with
      | nil => exact fin y Sy _ rfl
      | cons p L7 => obtain ⟨k, K⟩ := p; exact fin k K _ rfl
/-- what stands for the beans within others, of a chain -/
def AN9 (wl : Nat → Nat → Int64) (ou : Nat → Nat) (L : List (Nat × S9)) (t : Nat) : Bool := L.any (fun x => decide (wl 4 x.1 = 0) && decide (ou x.1 = ou t))
theorem AN_1 {t : Nat} (h : AN9 wl ou L t = true) : ∃ x, x ∈ L ∧ wl 4 x.1 = 0 ∧ ou x.1 = ou t := by
  unfold AN9 at h
  rw [List.any_eq_true] at h
  obtain ⟨x, hx, q⟩ := h
  rw [Bool.and_eq_true, decide_eq_true_eq, decide_eq_true_eq] at q
  exact ⟨x, hx, q.1, q.2⟩
theorem AN_0 {t : Nat} (h : ¬ AN9 wl ou L t = true) : ∀ x, x ∈ L → wl 4 x.1 = 0 → ¬ ou x.1 = ou t := fun x hx h4 ho => h (by
  unfold AN9
  rw [List.any_eq_true]
  exact ⟨x, hx, by rw [Bool.and_eq_true, decide_eq_true_eq, decide_eq_true_eq]; exact ⟨h4, ho⟩⟩)
def RS9 (wl : Nat → Nat → Int64) (ou hl : Nat → Nat) : List (Nat × S9) → List Nat
  | [] => []
  | (t, _) :: L => if ¬ wl 4 t = 0 then RS9 wl ou hl L else (if AN9 wl ou L t = true then hl (ou t) else ou t) :: RS9 wl ou hl L
theorem RS_n {t : Nat} {T : S9} (h : ¬ wl 4 t = 0) : RS9 wl ou hl ((t, T) :: L) = RS9 wl ou hl L := if_pos h
theorem RS_a {t : Nat} {T : S9} (h : wl 4 t = 0) (ha : AN9 wl ou L t = true) : RS9 wl ou hl ((t, T) :: L) = hl (ou t) :: RS9 wl ou hl L := by
  show (if ¬ wl 4 t = 0 then _ else (if AN9 wl ou L t = true then hl (ou t) else ou t) :: _) = _
  rw [if_neg (fun q => q h), if_pos ha]
theorem RS_o {t : Nat} {T : S9} (h : wl 4 t = 0) (ha : ¬ AN9 wl ou L t = true) : RS9 wl ou hl ((t, T) :: L) = ou t :: RS9 wl ou hl L := by
  show (if ¬ wl 4 t = 0 then _ else (if AN9 wl ou L t = true then hl (ou t) else ou t) :: _) = _
  rw [if_neg (fun q => q h), if_neg ha]
/-- what those are: the place of one of the chain, or what a list lies in, of which there are two in the chain -/
theorem RS_m : ∀ (L : List (Nat × S9)) (r : Nat), r ∈ RS9 wl ou hl L → (∃ x, x ∈ L ∧ wl 4 x.1 = 0 ∧ r = ou x.1) ∨ (∃ L1 y Sy L2 x, L = L1 ++ (y, Sy) :: L2 ∧ x ∈ L2 ∧ wl 4 y = 0 ∧ wl 4 x.1 = 0 ∧ ou x.1 = ou y ∧ r = hl (ou y))
  | [], r, h => absurd h (by simp [RS9])
  | (t, T) :: L, r, h => by
    have go : r ∈ RS9 wl ou hl L → (∃ x, x ∈ (t, T) :: L ∧ wl 4 x.1 = 0 ∧ r = ou x.1) ∨ (∃ L1 y Sy L2 x, (t, T) :: L = L1 ++ (y, Sy) :: L2 ∧ x ∈ L2 ∧ wl 4 y = 0 ∧ wl 4 x.1 = 0 ∧ ou x.1 = ou y ∧ r = hl (ou y)) := fun q => by
      rcases RS_m L r q with ⟨x, q1, q2⟩ | ⟨L1, y, Sy, L2, x, q1, q2⟩
      · exact Or.inl ⟨x, List.mem_cons_of_mem _ q1, q2⟩
      · exact Or.inr ⟨(t, T) :: L1, y, Sy, L2, x, by rw [q1]; rfl, q2⟩
    by_cases h4 : wl 4 t = 0
    · by_cases ha : AN9 wl ou L t = true
      · rw [RS_a h4 ha] at h
        rcases List.mem_cons.mp h with q | q
        · obtain ⟨x, x1, x2, x3⟩ := AN_1 ha
          exact Or.inr ⟨[], t, T, L, x, rfl, x1, h4, x2, x3, q⟩
        · exact go q
      · rw [RS_o h4 ha] at h
        rcases List.mem_cons.mp h with q | q
        · exact Or.inl ⟨(t, T), List.mem_cons_self .., h4, q⟩
        · exact go q
    · rw [RS_n h4] at h; exact go h
/-- an inner bean of which another of the same place is older: its list -/
theorem CH_l {t : Nat} {T : S9} {x : Nat × S9} (hC : CS9 ws wg wl nb M bs oc el ou hl) (hI : IN9 wg wl nb) (h : CH9 ws wg wl ((t, T) :: L)) (hL : ∀ z, z ∈ (t, T) :: L → z.1 < nb) (hx : x ∈ L) (ht : wl 4 t = 0) (hx4 : wl 4 x.1 = 0) (ho : ou x.1 = ou t) : ∃ b a, b < nb ∧ HD9 wg b a ∧ (wg 25 (ctE wg a)).toInt = 6 ∧ ctE wg a = ou t := by
  cases L with
  | nil => exact absurd hx (by simp)
  | cons p L =>
    obtain ⟨bb, B⟩ := p
    have hb : bb < nb := hL (bb, B) (List.mem_cons_of_mem _ (List.mem_cons_self ..))
    have hne : ¬ x.1 = t := fun q => h.2.1 (by rw [← q]; exact h.2.2.2.1 x hx)
    obtain ⟨a, pre, e, post, q1, q2, q3, _⟩ := LN_l hC hI hb ht h.2.2.2.2.2 (hL x (List.mem_cons_of_mem _ hx)) hx4 hne ho
    exact ⟨bb, a, hb, q1, q2, q3⟩
theorem RS_b (hC : CS9 ws wg wl nb M bs oc el ou hl) (hI : IN9 wg wl nb) (h : CH9 ws wg wl L) (hL : ∀ z, z ∈ L → z.1 < nb) {r : Nat} (hr : r ∈ RS9 wl ou hl L) : 0 < r ∧ r < M ∧ 11 ≤ bs r ∧ ∀ u, u < nb → ¬ r = el u := by
  rcases RS_m L r hr with ⟨x, q1, q2, q3⟩ | ⟨L1, y, Sy, L2, x, q1, q2, q3, q4, q5, q6⟩
  · rw [q3]; exact hC.2.2.2.2.1 x.1 (hL x q1) q2
  · subst q1
    obtain ⟨b, a, p1, p2, p3, p4⟩ := CH_l hC hI (CH_t L1 h) (fun z hz => hL z (List.mem_append.mpr (Or.inr hz))) q2 q3 q4 q5
    have q := hC.2.2.2.2.2.2.1 b p1 a p2 p3
    rw [q6, ← p4]
    exact ⟨q.2.1, q.2.2.1, q.2.2.2.1, q.2.2.2.2.1⟩
theorem RS_d (hC : CS9 ws wg wl nb M bs oc el ou hl) (hI : IN9 wg wl nb) : ∀ (L : List (Nat × S9)), CH9 ws wg wl L → (∀ z, z ∈ L → z.1 < nb) → (RS9 wl ou hl L).Nodup
  | [], _, _ => List.nodup_nil
  | (t, T) :: L, h, hL => by
    have hLt : ∀ z, z ∈ L → z.1 < nb := fun z hz => hL z (List.mem_cons_of_mem _ hz)
    have ih := RS_d hC hI L h.1 hLt
    have htn : t < nb := hL (t, T) (List.mem_cons_self ..)
    by_cases h4 : wl 4 t = 0
    · by_cases ha : AN9 wl ou L t = true
      · rw [RS_a h4 ha]
        refine List.nodup_cons.mpr ⟨fun hm => ?_, ih⟩
        obtain ⟨x0, x1, x2, x3⟩ := AN_1 ha
        obtain ⟨b, a, p1, p2, p3, p4⟩ := CH_l hC hI h hL x1 h4 x2 x3
        have qh := hC.2.2.2.2.2.2.1 b p1 a p2 p3
        rcases RS_m L _ hm with ⟨x, q1, q2, q3⟩ | ⟨L1, y, Sy, L2, x, q1, q2, q3, q4, q5, q6⟩
        · exact qh.2.2.2.2.2 x.1 (hLt x q1) q2 (by rw [p4]; exact q3)
        · subst q1
          obtain ⟨b2, a2, r1, r2, r3, r4⟩ := CH_l hC hI (CH_t L1 h.1) (fun z hz => hLt z (List.mem_append.mpr (Or.inr hz))) q2 q3 q4 q5
          have ee := hC.2.2.2.2.2.2.2 b a b2 a2 p1 r1 p2 r2 p3 r3 (by rw [p4, r4]; exact q6)
          rw [p4, r4] at ee
          exact CH_3 hC hI h hL (x := x.1) (Sx := x.2) q2 h4 q3 q4 ee.symm (q5.trans ee.symm)
      · rw [RS_o h4 ha]
        refine List.nodup_cons.mpr ⟨fun hm => ?_, ih⟩
        rcases RS_m L _ hm with ⟨x, q1, q2, q3⟩ | ⟨L1, y, Sy, L2, x, q1, q2, q3, q4, q5, q6⟩
        · exact AN_0 ha x q1 q2 q3.symm
        · subst q1
          obtain ⟨b2, a2, r1, r2, r3, r4⟩ := CH_l hC hI (CH_t L1 h.1) (fun z hz => hLt z (List.mem_append.mpr (Or.inr hz))) q2 q3 q4 q5
          have qh := hC.2.2.2.2.2.2.1 b2 r1 a2 r2 r3
          exact qh.2.2.2.2.2 t htn h4 (by rw [r4]; exact q6.symm)
    · rw [RS_n h4]; exact ih
/-- the names of a chain -/
theorem CH_v (hC : CS9 ws wg wl nb M bs oc el ou hl) (hI : IN9 wg wl nb) : ∀ (L : List (Nat × S9)), CH9 ws wg wl L → (∀ z, z ∈ L → z.1 < nb) → ¬ L = [] → ∃ V : List Int64, V.Nodup ∧ (∀ v, v ∈ V → v ∈ oc ∧ ∃ x, x ∈ L ∧ caN ws wg wl v = (x.1 : Int)) ∧ V.length + 1 + (RS9 wl ou hl L).length = L.length
  | [], _, _, h => absurd rfl h
  | [(t, T)], h, hL, _ => by
    refine ⟨[], List.nodup_nil, fun v hv => absurd hv (by simp), ?_⟩
    rw [RS_n h.2.2.2.2.2]; rfl
  | (t, T) :: (b, B) :: L, h, hL, _ => by
    have hLt : ∀ z, z ∈ (b, B) :: L → z.1 < nb := fun z hz => hL z (List.mem_cons_of_mem _ hz)
    obtain ⟨V, v1, v2, v3⟩ := CH_v hC hI ((b, B) :: L) h.1 hLt (by simp)
    have len : ((t, T) :: (b, B) :: L).length = ((b, B) :: L).length + 1 := rfl
    have mem : ∀ v, v ∈ V → v ∈ oc ∧ ∃ x, x ∈ (t, T) :: (b, B) :: L ∧ caN ws wg wl v = (x.1 : Int) := fun v hv => by
      obtain ⟨q1, x, q2, q3⟩ := v2 v hv
      exact ⟨q1, x, List.mem_cons_of_mem _ q2, q3⟩
    by_cases h4 : wl 4 t = 0
    · refine ⟨V, v1, mem, ?_⟩
      by_cases ha : AN9 wl ou ((b, B) :: L) t = true
      · rw [RS_a h4 ha, List.length_cons]; omega
      · rw [RS_o h4 ha, List.length_cons]; omega
    · rcases h.2.2.2.2.2 with ⟨_, v, q1, q2⟩ | ⟨a, q1, q2, q3, q4⟩ | ⟨a, pre, e, post, q1, q2, q3, q4, q5, q6, q7, q8⟩
      · refine ⟨v :: V, List.nodup_cons.mpr ⟨fun hv => ?_, v1⟩, fun w hw => ?_, ?_⟩
        · obtain ⟨_, x, p1, p2⟩ := v2 v hv
          have e : x.1 = t := by have : (x.1 : Int) = (t : Int) := p2.symm.trans q2; omega
          exact h.2.1 (by rw [← e]; exact h.2.2.2.1 x p1)
        · rcases List.mem_cons.mp hw with e | e
          · rw [e]; exact ⟨hC.2.2.2.1 b (hLt (b, B) (List.mem_cons_self ..)) v q1, (t, T), List.mem_cons_self .., q2⟩
          · exact mem w e
        · rw [RS_n h4, List.length_cons]; omega
      · exact absurd (hIa hI (hLt (b, B) (List.mem_cons_self ..)) q1 q2 q3 q4) h4
      · exact absurd (hIb hI (hLt (b, B) (List.mem_cons_self ..)) q1 q2 (by rw [q3]; simp) q4 q5 q6 q7) h4
end CM9
end CN9
end
section
section CQ9
variable {ws : Nat → Int32} {wg : Nat → Nat → Int32} {wl : Nat → Nat → Int64} {nb M : Nat} {bs : Nat → Nat} {oc : List Int64} {el ou hl : Nat → Nat}
def sB (f : Nat → Nat) : Nat → Nat
  | 0 => 0
  | n + 1 => sB f n + f n
def sL (f : Nat → Nat) : List Nat → Nat
  | [] => 0
  | x :: l => f x + sL f l
theorem sL_app (f : Nat → Nat) : ∀ (l m : List Nat), sL f (l ++ m) = sL f l + sL f m
  | [], m => by show sL f m = 0 + sL f m; omega
  | x :: l, m => by
    show f x + sL f (l ++ m) = f x + sL f l + sL f m
    rw [sL_app f l m]; omega
/-- distinct ones below a bound sum up to no more than all -/
theorem sL_le (f : Nat → Nat) : ∀ (n : Nat) (l : List Nat), l.Nodup → (∀ x, x ∈ l → x < n) → sL f l ≤ sB f n ∧ l.length ≤ n
  | 0, [], _, _ => ⟨Nat.le_refl _, Nat.le_refl _⟩
  | 0, x :: l, _, h => absurd (h x (List.mem_cons_self ..)) (Nat.not_lt_zero _)
  | n + 1, l, hd, h => by
    by_cases q : n ∈ l
    · obtain ⟨l1, l2, e⟩ := List.append_of_mem q
      subst e
      have hd2 : (l1 ++ l2).Nodup := by
        refine List.Nodup.sublist ?_ hd
        exact List.Sublist.append (List.Sublist.refl _) (List.sublist_cons_self _ _)
      have hn : ¬ n ∈ l1 ++ l2 := fun hm => by
        rw [List.nodup_append] at hd
        rcases List.mem_append.mp hm with p | p
        · exact hd.2.2 n p n (List.mem_cons_self ..) rfl
        · exact (List.nodup_cons.mp hd.2.1).1 p
      have ih := sL_le f n (l1 ++ l2) hd2 (fun x hx => by
        have h1 : x < n + 1 := h x (by
          rcases List.mem_append.mp hx with p | p
          · exact List.mem_append.mpr (Or.inl p)
          · exact List.mem_append.mpr (Or.inr (List.mem_cons_of_mem _ p)))
        have h2 : ¬ x = n := fun e => hn (e ▸ hx)
        omega)
      rw [sL_app, List.length_append] at ih
      rw [sL_app, List.length_append, List.length_cons]
      show sL f l1 + (f n + sL f l2) ≤ sB f n + f n ∧ _
      omega
    · have ih := sL_le f n l hd (fun x hx => by
        have h1 := h x hx
        have h2 : ¬ x = n := fun e => q (e ▸ hx)
        omega)
      exact ⟨Nat.le_trans ih.1 (Nat.le_add_right _ _), by omega⟩
theorem sL_m {f : Nat → Nat} {k : Nat} : ∀ (l : List Nat), (∀ x, x ∈ l → k ≤ f x) → k * l.length ≤ sL f l
  | [], _ => by simp
  | x :: l, h => by
    have := sL_m l (fun y hy => h y (List.mem_cons_of_mem _ hy))
    have h1 := h x (List.mem_cons_self ..)
    show k * (l.length + 1) ≤ f x + sL f l
    rw [Nat.mul_add, Nat.mul_one]; omega
/-- distinct ones of a list are no more than the list has -/
theorem nd_le : ∀ (V O : List Int64), V.Nodup → (∀ v, v ∈ V → v ∈ O) → V.length ≤ O.length
  | [], O, _, _ => Nat.zero_le _
  | v :: V, O, hd, h => by
    obtain ⟨o1, o2, e⟩ := List.append_of_mem (h v (List.mem_cons_self ..))
    have hv := List.nodup_cons.mp hd
    have ih := nd_le V (o1 ++ o2) hv.2 (fun w hw => by
      have := h w (List.mem_cons_of_mem _ hw)
      rw [e] at this
      rcases List.mem_append.mp this with p | p
      · exact List.mem_append.mpr (Or.inl p)
      · rcases List.mem_cons.mp p with p2 | p2
        · exact absurd (p2 ▸ hw) hv.1
        · exact List.mem_append.mpr (Or.inr p2))
    rw [List.length_append] at ih
    rw [e, List.length_append, List.length_cons, List.length_cons]; omega
theorem el_d {L : List (Nat × S9)} (hC : CS9 ws wg wl nb M bs oc el ou hl) : ∀ (L : List Nat), L.Nodup → (∀ t, t ∈ L → t < nb) → (L.map el).Nodup
  | [], _, _ => List.nodup_nil
  | t :: L, hd, hL => by
    have q := List.nodup_cons.mp hd
    show (el t :: L.map el).Nodup
    refine List.nodup_cons.mpr ⟨fun hm => ?_, el_d (L := []) hC L q.2 (fun x hx => hL x (List.mem_cons_of_mem _ hx))⟩
    obtain ⟨u, hu, e⟩ := List.mem_map.mp hm
    exact q.1 (by rw [hC.2.2.1 t u (hL t (List.mem_cons_self ..)) (hL u (List.mem_cons_of_mem _ hu)) e.symm]; exact hu)
theorem el_s (hC : CS9 ws wg wl nb M bs oc el ou hl) : ∀ (L : List (Nat × S9)), (∀ z, z ∈ L → z.1 < nb) → 25 * L.length ≤ sL bs ((L.map Prod.fst).map el) + 7 * (RS9 wl ou hl L).length
  | [], _ => by simp
  | (t, T) :: L, hL => by
    have ih := el_s hC L (fun x hx => hL x (List.mem_cons_of_mem _ hx))
    have q := hC.2.1 t (hL (t, T) (List.mem_cons_self ..))
    show 25 * (L.length + 1) ≤ bs (el t) + sL bs ((L.map Prod.fst).map el) + 7 * (RS9 wl ou hl ((t, T) :: L)).length
    by_cases h4 : wl 4 t = 0
    · have : (RS9 wl ou hl ((t, T) :: L)).length = (RS9 wl ou hl L).length + 1 := by
        by_cases ha : AN9 wl ou L t = true
        · rw [RS_a h4 ha, List.length_cons]
        · rw [RS_o h4 ha, List.length_cons]
      rw [this]; have := q.2.2.2; omega
    · rw [RS_n h4]; have := q.2.2.1 h4; omega
/-- no chain of more than forty -/
theorem CH_40 (hC : CS9 ws wg wl nb M bs oc el ou hl) (hI : IN9 wg wl nb) (hT : sB bs M + 12 * oc.length ≤ 1200) (L : List (Nat × S9)) (h : CH9 ws wg wl L) (hL : ∀ z, z ∈ L → z.1 < nb) : L.length ≤ 40 := by
  refine Nat.le_of_not_lt (fun hlt => ?_)
  -- the oldest forty-one
  obtain ⟨K, hk, hK, hn⟩ : ∃ K, K.length = 41 ∧ CH9 ws wg wl K ∧ ∀ z, z ∈ K → z.1 < nb := by
    refine ⟨L.drop (L.length - 41), by rw [List.length_drop]; omega, ?_, fun z hz => hL z (List.mem_of_mem_drop hz)⟩
    have e := List.take_append_drop (L.length - 41) L
    rw [← e] at h
    exact CH_t _ h
  obtain ⟨V, v1, v2, v3⟩ := CH_v hC hI K hK hn (fun q => by rw [q] at hk; exact absurd hk (by decide))
  have hV := nd_le V oc v1 (fun v hv => (v2 v hv).1)
  have hd : ((K.map Prod.fst).map el ++ RS9 wl ou hl K).Nodup := by
    rw [List.nodup_append]
    refine ⟨el_d (L := []) hC _ (CH_d K hK) (fun t ht => ?_), RS_d hC hI K hK hn, fun x hx y hy e => ?_⟩
    · obtain ⟨z, hz, ez⟩ := List.mem_map.mp ht
      rw [← ez]; exact hn z hz
    · obtain ⟨t, ht, et⟩ := List.mem_map.mp hx
      obtain ⟨z, hz, ez⟩ := List.mem_map.mp ht
      exact (RS_b hC hI hK hn hy).2.2.2 t (by rw [← ez]; exact hn z hz) (by rw [← e, et])
  -- all of them, and the outermost one beside
  have hd0 : (0 :: ((K.map Prod.fst).map el ++ RS9 wl ou hl K)).Nodup := List.nodup_cons.mpr ⟨fun hm => by
    rcases List.mem_append.mp hm with p | p
    · obtain ⟨t, ht, et⟩ := List.mem_map.mp p
      obtain ⟨z, hz, ez⟩ := List.mem_map.mp ht
      have := (hC.2.1 t (by rw [← ez]; exact hn z hz)).1
      omega
    · have := (RS_b hC hI hK hn p).1; omega, hd⟩
  have hM : 0 < M := by
    cases K with
    | nil => exact absurd hk (by decide)
    | cons p K => have := hC.2.1 p.1 (hn p (List.mem_cons_self ..)); omega
  have hlt2 : ∀ x, x ∈ 0 :: ((K.map Prod.fst).map el ++ RS9 wl ou hl K) → x < M := fun x hx => by
    rcases List.mem_cons.mp hx with e | hx
    · rw [e]; exact hM
    · rcases List.mem_append.mp hx with p | p
      · obtain ⟨t, ht, et⟩ := List.mem_map.mp p
        obtain ⟨z, hz, ez⟩ := List.mem_map.mp ht
        have := (hC.2.1 t (by rw [← ez]; exact hn z hz)).2.1
        omega
      · exact (RS_b hC hI hK hn p).2.1
  have s1 := sL_le bs M _ hd0 hlt2
  have e0 : sL bs (0 :: ((K.map Prod.fst).map el ++ RS9 wl ou hl K)) = bs 0 + sL bs ((K.map Prod.fst).map el ++ RS9 wl ou hl K) := rfl
  rw [e0, sL_app, List.length_cons, List.length_append, List.length_map, List.length_map] at s1
  have s2 := el_s hC K hn
  have s3 := sL_m (f := bs) (k := 11) (RS9 wl ou hl K) (fun r hr => (RS_b hC hI hK hn hr).2.2.1)
  have m80 := hC.1
  omega
end CQ9
end
section
section CT9
/-- the characters of an element's text, in the class's rows -/
def CTX (gm : Nat → Nat → Int32) (e : Nat) (C : List Int) : Prop := (gm 11 e).toInt = (C.length : Int) ∧ C.length ≤ 24 ∧ ∀ i x, C[i]? = some x → (gm 56 (24 * e + i)).toInt = x
variable {gm gm2 : Nat → Nat → Int32} {e : Nat} {C T : List Int}
theorem CTX_g {z : Int32} {i : Nat} (h : CTX gm e C) (hi : i < C.length) (hz : z = gm 56 (24 * e + i)) : z.toInt = (C[i]?).getD 0 := by rw [hz]; exact h.2.2 i _ (gd9 hi)
theorem CTX_k (h : CTX gm e C) (h1 : gm2 11 = gm 11) (h2 : gm2 56 = gm 56) : CTX gm2 e C := by unfold CTX; rw [h1, h2]; exact h
/-- the letters of one of the class's own texts -/
def sLs (k : Nat) : List Int := (sByt.getD k []).map Int32.toInt
theorem sLs_g {k i : Nat} (h : i < (sByt.getD k []).length) : (sLs k)[i]? = some (sChr k i) := by
  unfold sLs sChr
  generalize sByt.getD k [] = L at h ⊢
  rw [List.getElem?_map, List.getElem?_eq_getElem h, List.getD_eq_getElem?_getD, List.getElem?_eq_getElem h]; rfl
theorem sLs_l {k : Nat} : (sLs k).length = (sByt.getD k []).length := List.length_map ..
theorem sLs_e {k : Nat} (h : C.length = (sByt.getD k []).length) (ha : ∀ i, i < C.length → (C[i]?).getD 0 = sChr k i) : C = sLs k := by
  refine List.ext_getElem? (fun i => ?_)
  by_cases q : i < C.length
  · rw [sLs_g (by omega), ← ha i q]; exact gd9 q
  · rw [List.getElem?_eq_none (by omega), List.getElem?_eq_none (by rw [sLs_l]; omega)]
theorem sLs_5 : sLs 5 = [116, 114, 117, 101] := by decide
theorem sLs_6 : sLs 6 = [102, 97, 108, 115, 101] := by decide
/-- the same text, with white told alike -/
def WQ9 (C T : List Int) : Prop := C.length = T.length ∧ ∀ (i : Nat) (c t : Int), C[i]? = some c → T[i]? = some t → c = t ∨ (t = 32 ∧ c = 10)
theorem WQ_c {c t : Int} (h : WQ9 (c :: C) (t :: T)) : (c = t ∨ (t = 32 ∧ c = 10)) ∧ WQ9 C T := ⟨h.2 0 c t rfl rfl, by have := h.1; simpa using this, fun i a b h1 h2 => h.2 (i + 1) a b (by simpa using h1) (by simpa using h2)⟩
theorem WQ_d : ∀ (C T : List Int) (a : Int), WQ9 C T → dgF C a = dgF T a
  | [], [], a, _ => rfl
  | [], t :: T, a, h => absurd h.1 (by simp)
  | c :: C, [], a, h => absurd h.1 (by simp)
  | c :: C, t :: T, a, h => by
    obtain ⟨h1, h2⟩ := WQ_c h
    show (if 48 ≤ c ∧ c ≤ 57 then dgF C (a * 10 + (c - 48)) else none) = (if 48 ≤ t ∧ t ≤ 57 then dgF T (a * 10 + (t - 48)) else none)
    rcases h1 with q | ⟨q1, q2⟩
    · rw [q, WQ_d C T _ h2]
    · rw [if_neg (by omega), if_neg (by omega)]
theorem WQ_n (h : WQ9 C T) : ng9 C = ng9 T := by
  cases C with
  | nil =>
    cases T with
    | nil => rfl
    | cons t T => exact absurd h.1 (by simp)
  | cons c C =>
    cases T with
    | nil => exact absurd h.1 (by simp)
    | cons t T =>
      unfold ng9
      rcases (WQ_c h).1 with q | ⟨q1, q2⟩
      · rw [q]; rfl
      · have e1 : decide ((c :: C).head? = some 45) = false := decide_eq_false (fun p => by have := Option.some.inj p; omega)
        have e2 : decide ((t :: T).head? = some 45) = false := decide_eq_false (fun p => by have := Option.some.inj p; omega)
        rw [e1, e2]
theorem WQ_r (h : WQ9 C T) (n : Nat) : WQ9 (C.drop n) (T.drop n) := ⟨by rw [List.length_drop, List.length_drop, h.1], fun i c t h1 h2 => by rw [List.getElem?_drop] at h1 h2; exact h.2 _ c t h1 h2⟩
theorem WQ_nu (h : WQ9 C T) : nuL C = nuL T := by
  unfold nuL
  rw [WQ_n h]
  cases q : ng9 T with
  | true =>
    rw [if_pos rfl, if_pos rfl, WQ_d _ _ 0 (WQ_r h 1), List.length_drop, List.length_drop, h.1]
  | false =>
    have e1 : (if false = true then C.drop 1 else C) = C := rfl
    have e2 : (if false = true then T.drop 1 else T) = T := rfl
    rw [e1, e2, WQ_d _ _ 0 h, h.1]
theorem WQ_l {M : List Int} (h : WQ9 C T) (hM : ∀ x, x ∈ M → ¬ x = 10 ∧ ¬ x = 32) : C = M ↔ T = M := by
  constructor
  · intro q
    subst q
    refine List.ext_getElem? (fun i => ?_)
    by_cases p : i < T.length
    · have hc := gd9 (T := C) (i := i) (d := (0 : Int)) (by rw [h.1]; exact p)
      have ht := gd9 (T := T) (i := i) (d := (0 : Int)) p
      rcases h.2 i _ _ hc ht with w | w
      · rw [ht, hc, w]
      · exact absurd w.2 (hM _ (List.mem_of_getElem? hc)).1
    · rw [List.getElem?_eq_none (by omega), List.getElem?_eq_none (by rw [h.1]; omega)]
  · intro q
    subst q
    refine List.ext_getElem? (fun i => ?_)
    by_cases p : i < C.length
    · have hc := gd9 (T := C) (i := i) (d := (0 : Int)) p
      have ht := gd9 (T := T) (i := i) (d := (0 : Int)) (by rw [← h.1]; exact p)
      rcases h.2 i _ _ hc ht with w | w
      · rw [ht, hc, w]
      · exact absurd w.1 (hM _ (List.mem_of_getElem? ht)).2
    · rw [List.getElem?_eq_none (by omega), List.getElem?_eq_none (by rw [← h.1]; omega)]
theorem WQ_tr (h : WQ9 C T) : trL C = trL T := by
  unfold trL
  by_cases q : C = [116, 114, 117, 101]
  · rw [if_pos q, if_pos ((WQ_l h (by decide)).mp q)]
  · rw [if_neg q, if_neg (fun p => q ((WQ_l h (by decide)).mpr p))]
    by_cases q2 : C = [102, 97, 108, 115, 101]
    · rw [if_pos q2, if_pos ((WQ_l h (by decide)).mp q2)]
    · rw [if_neg q2, if_neg (fun p => q2 ((WQ_l h (by decide)).mpr p))]
/-- what weighText leaves -/
theorem TX_of {wg : Nat → Nat → Int32} {wl : Nat → Nat → Int64} (h : CTX wg e C) (hw : WQ9 C T) (h3 : (wl 3 e).toInt = (nuL C).getD 1099511627776) (h21 : (wg 21 e).toInt = trL C) (h1 : ∀ x, T = [x] → ¬ x = 32) : TXT9 wg wl e T := by
  refine ⟨by rw [h.1, hw.1], by rw [h3, WQ_nu hw], by rw [h21, WQ_tr hw], fun x hx => ?_⟩
  have hl : C.length = 1 := by rw [hw.1, hx]; rfl
  have hc := gd9 (T := C) (i := 0) (d := (0 : Int)) (by omega)
  have q := h.2.2 0 _ hc
  rw [Nat.add_zero] at q
  rw [q]
  rcases hw.2 0 _ x hc (by rw [hx]; rfl) with w | w
  · exact w
  · exact absurd w.1 (h1 x hx)
theorem num_c {v z1 z2 cc : Int64} {d : Int32} (e1 : z1 = v * 10) (ec : cc = d.toInt64) (e2 : z2 = z1 + cc) (hv : 0 ≤ v.toInt) (hv2 : v.toInt ≤ 10000000000) (hd : 0 ≤ d.toInt ∧ d.toInt ≤ 9) : z2.toInt = v.toInt * 10 + d.toInt := by
  have a1 : z1.toInt = v.toInt * 10 := by rw [e1, Int64.toInt_mul, show (10 : Int64).toInt = 10 from by decide]; exact l64_bm (by omega)
  rw [e2, Int64.toInt_add, a1, ec, c64]; exact l64_bm (by omega)
theorem l2i_e {y u : Int64} {w z : Int32} (e1 : w = y.toInt32) (e2 : u = w.toInt64) (e3 : z = lg_cmp y u) : z.toInt = 0 ↔ -2147483648 ≤ y.toInt ∧ y.toInt ≤ 2147483647 := by
  have h0 : z.toInt = 0 ↔ y = u := by rw [← lg_cmp_eq y u, ← e3]; exact ⟨fun q => Int32.toInt_inj.mp q, fun q => by rw [q]; rfl⟩
  have hu : u.toInt = w.toInt := by rw [e2, c64]
  have hw : w.toInt = y.toInt.bmod (2 ^ 32) := by rw [e1, Int64.toInt_toInt32]
  rw [h0]
  constructor
  · intro q
    rw [q, hu]
    have h1 := w.le_toInt; have h2 := w.toInt_lt
    rw [show (2 : Int) ^ 31 = 2147483648 from by decide] at h1 h2
    exact ⟨h1, by omega⟩
  · intro q
    refine Int64.toInt_inj.mp ?_
    rw [hu, hw]
    have e : ((2 : Nat) ^ 32) = 4294967296 := by decide
    rw [e]
    unfold Int.bmod
    by_cases p : 0 ≤ y.toInt
    · have h2 : y.toInt % (4294967296 : Nat) = y.toInt := Int.emod_eq_of_lt p (by omega)
      rw [h2, if_pos (by omega)]
    · have h2 : y.toInt % (4294967296 : Nat) = y.toInt + 4294967296 := by
        rw [← Int.add_emod_right]
        exact Int.emod_eq_of_lt (by omega) (by omega)
      rw [h2, if_neg (by omega)]; omega
theorem nm_y {y u : Int64} {w z : Int32} (e1 : w = y.toInt32) (e2 : u = w.toInt64) (e3 : z = lg_cmp y u) (h : z.toInt = 0) : y.toInt = (if -2147483648 ≤ y.toInt ∧ y.toInt ≤ 2147483647 then some y.toInt else none).getD 1099511627776 := by rw [if_pos ((l2i_e e1 e2 e3).mp h)]; rfl
theorem nm_n {y u : Int64} {w z : Int32} (e1 : w = y.toInt32) (e2 : u = w.toInt64) (e3 : z = lg_cmp y u) (h : ¬ z.toInt = 0) : (1099511627776 : Int64).toInt = (if -2147483648 ≤ y.toInt ∧ y.toInt ≤ 2147483647 then some y.toInt else none).getD 1099511627776 := by rw [if_neg (fun q => h ((l2i_e e1 e2 e3).mpr q))]; decide
theorem frd_1 (h : (C[0]?).getD 0 = 45) (hl : 0 < C.length) : fr9 C = 1 := by unfold fr9; rw [if_pos (ng_y h hl)]
theorem frd_0 (h : ¬ ((C[0]?).getD 0 = 45 ∧ 0 < C.length)) : fr9 C = 0 := by unfold fr9; rw [if_neg (by rw [ng_n h]; decide)]
theorem fr_t (h : fr9 C = 1) : ng9 C = true := by
  unfold fr9 at h
  cases q : ng9 C with
  | true => rfl
  | false => rw [q] at h; exact absurd h (by decide)
theorem fr_f (h : fr9 C = 0) : ¬ ng9 C = true := by
  unfold fr9 at h
  intro q
  rw [q] at h; exact absurd h (by decide)
theorem nu_p {k : Nat} {v y u : Int64} {w z : Int32} (hK : DG9 C k v.toInt) (hk : C.length ≤ k) (hf : fr9 C = 0) (ey : y = v) (e1 : w = y.toInt32) (e2 : u = w.toInt64) (e3 : z = lg_cmp y u) : (z.toInt = 0 → y.toInt = (nuL C).getD 1099511627776) ∧ (¬ z.toInt = 0 → (1099511627776 : Int64).toInt = (nuL C).getD 1099511627776) := by
  rw [DG_e hK hk, if_neg (fr_f hf), ← ey]
  exact ⟨nm_y e1 e2 e3, nm_n e1 e2 e3⟩
theorem nu_m {k : Nat} {v y u : Int64} {w z : Int32} (hK : DG9 C k v.toInt) (hk : C.length ≤ k) (hf : fr9 C = 1) (ey : y = -v) (e1 : w = y.toInt32) (e2 : u = w.toInt64) (e3 : z = lg_cmp y u) : (z.toInt = 0 → y.toInt = (nuL C).getD 1099511627776) ∧ (¬ z.toInt = 0 → (1099511627776 : Int64).toInt = (nuL C).getD 1099511627776) := by
  rw [DG_e hK hk, if_pos (fr_t hf), ← neg64 ey hK.2.2.2.2.2.1]
  exact ⟨nm_y e1 e2 e3, nm_n e1 e2 e3⟩
theorem nu_0 (h : nuL C = none) : (1099511627776 : Int64).toInt = (nuL C).getD 1099511627776 := by rw [h]; decide
theorem DG_i (hf : fr9 C = fr9 C) (h1 : C.length - fr9 C ≤ 10) (h2 : 0 < C.length - fr9 C) {k : Nat} {v : Int} (hk : k = fr9 C) (hv : v = 0) : DG9 C k v := by rw [hk, hv]; exact DG_0 h1 h2
theorem tr_1 (h : C = sLs 5) : (1 : Int32).toInt = trL C := by rw [h, sLs_5]; decide
theorem tr_0 (h : C = sLs 6) : (0 : Int32).toInt = trL C := by rw [h, sLs_6]; decide
theorem tr_m (h : ¬ C = sLs 5) (h2 : ¬ C = sLs 6) : (-1 : Int32).toInt = trL C := by
  rw [sLs_5] at h; rw [sLs_6] at h2
  unfold trL; rw [if_neg h, if_neg h2]; decide
/-- a value that becomes the text -/
def VTX (gm g : Nat → Nat → Int32) (o k : Nat) (V : List Int) : Prop := (∀ (i : Nat) (x : Int), i < k → V[i]? = some x → (g 56 (24 * o + i)).toInt = x) ∧ ∀ j, ¬ (24 * o ≤ j ∧ j < 24 * o + 24) → g 56 j = gm 56 j
theorem VTX_0 {g : Nat → Nat → Int32} {o k : Nat} {V : List Int} (hk : k = 0) (h : g 56 = gm 56) : VTX gm g o k V := ⟨fun i x hi _ => by omega, fun j _ => by rw [h]⟩
theorem VTX_s {g g2 : Nat → Nat → Int32} {o k k2 : Nat} {V : List Int} {r : Int32} (h : VTX gm g o k V) (e : g2 56 = upd (g 56) (24 * o + k) r) (hr : V[k]? = some r.toInt) (hk : k < 24) (hk2 : k2 = k + 1) : VTX gm g2 o k2 V := by
  refine ⟨fun i x hi hx => ?_, fun j hj => ?_⟩
  · rw [e]
    by_cases q : i = k
    · rw [q, upd_at]; rw [q] at hx; exact Option.some.inj (hr.symm.trans hx)
    · rw [upd_ne (by omega)]; exact h.1 i x (by omega) hx
  · rw [e, upd_ne (by omega)]; exact h.2 j hj
theorem VTX_c {g g2 : Nat → Nat → Int32} {o k : Nat} {V : List Int} {r : Int32} {f : Nat → Int32} (h : VTX gm g o k V) (hk : V.length ≤ k) (e56 : g2 56 = g 56) (e11 : g2 11 = upd f o r) (hr : r.toInt = (V.length : Int)) (hl : V.length ≤ 24) : CTX g2 o V := by
  refine ⟨by rw [e11, upd_at, hr], hl, fun i x hx => ?_⟩
  rw [e56]; exact h.1 i x (by have := (List.getElem?_eq_some_iff.mp hx).1; omega) hx
theorem FND_g {A7 : At7} {lg : Nat → Nat → Int64} {j : Nat} {k : Int64} {r : Int32} {P5 P6 : Int} {V : List Int} (h : FND gm lg j k r) (ha : ATC A7 gm lg j P5 P6) (hg : gA A7 k = some V) : 0 ≤ r.toInt ∧ VW7 gm r.toNatClampNeg V := by
  rcases FND_l h ha with ⟨a1, a2⟩ | ⟨a1, v, a2, a3⟩
  · rw [hg] at a2; cases a2
  · rw [hg] at a2; cases Option.some.inj a2; exact ⟨a1, a3⟩
theorem VW_c {g : Nat → Nat → Int32} {a k : Nat} {V : List Int} {r : Int32} (h : VW7 gm a V) (hk : k < V.length) (e : r = g 46 ((g 44 a).toNatClampNeg + k)) (e46 : g 46 = gm 46) (e44 : g 44 = gm 44) : V[k]? = some r.toInt := by
  rw [e, e46, e44, h.2 k _ (gd9 (d := (0 : Int)) hk)]; exact gd9 hk
end CT9
end
section
set_option maxHeartbeats 4000000 in
set_option maxRecDepth 100000 in
theorem d_textIs9 (l : Launch) (dC : Nat → ClassId) (dI : Nat → Nat → Nat) (ad : Nat → Nat → Nat) (cid : Nat → ClassId) (a2 : Nat → Nat) (lx : List Nat) (sg : Nat → Int32) (gm : Nat → Nat → Int32) (lg : Nat → Nat → Int64) (x : Int32) (tx : Int32) (C9 : List Int) (hI : CI sg gm) (hvx : iv 0 79 x) (hvtx : iv 0 6 tx) (hC : CTX gm x.toNatClampNeg C9) : CMt dC dI ad cid a2 lx l yX3_textIs wm_X3_textIs ({ frames := 4, cells := 1, slots := 6, locals := 90 }) [eV (ad 9) x, eV (ad 37) tx] sg gm lg (fun v u => ∃ r : Int32, v = some (.int r) ∧ u = (sg, gm, lg) ∧ (iv 0 1 r) ∧ ((r.toInt = 1 ∧ C9 = sLs tx.toNatClampNeg) ∨ (r.toInt = 0 ∧ ¬ C9 = sLs tx.toNatClampNeg))) (fun _ _ => False) := by
  intro sz
  refine vx_ofW (cc := cX3_textIs) (maxL := 3) (ret := (some .boolean)) (by decide) rfl ?_
  intro p e s m args below meth c s₁ B hml hxt hv
  obtain ⟨rfl, hsz, hP, hK, hD0, hG⟩ := hv
  have hx := B.exec
  have hb := B.bytes
  have hr := B.returns
  have hts := atoms_spec (ws := wm_X3_textIs) B.pre
  have htb := fun (w : Cond) (h : w ∈ tb) => hts w (List.mem_cons_of_mem _ h)
  have hown : s.vm.findClass RX3 = some m.cls := findClass_of_methodNamed B.named
  have hlocks := B.notSynchronized
  subst hsz
  have hD := hD0.self (sz := s.heap.size)
  generalize hAe : va_A (cW ad cid a2 lx sg gm lg) s.heap.size = A at hD hG ⊢
  have hA : ∀ q : Nat, s.heap.size ≤ q → A q := fun q h => by rw [← hAe]; exact Or.inr h
  have hS : va_S A s.heap s.heap [] := va_S.rf
  have hl := lv_entry ([eV (ad 9) x, eV (ad 37) tx]) (n := 3) (by rw [show (lg_sl ([eV (ad 9) x, eV (ad 37) tx])).length = 2 from by simp [lg_sl, eV_cat, cat_i, cat_l]]; exact Nat.le_of_ble_eq_true rfl)
  rw [lg_entry_eq]
  generalize (lg_sl ([eV (ad 9) x, eV (ad 37) tx]) ++ List.replicate (3 - (lg_sl ([eV (ad 9) x, eV (ad 37) tx])).length) Slot.unset).toArray = ls at hl ⊢
  have hl : lv_has ls 3 [(0, eV (ad 9) x), (1, eV (ad 37) tx)] := by simp [lv_args, eV_cat, cat_i, cat_l] at hl; exact hl
  have hj15 : ∀ (n : Nat) (x2_15 : Int32) (_ : (24 - x2_15.toInt).toNat = n) (_ : iv 0 24 x2_15) (_ : iv 0 79 x) (_ : iv 0 6 tx) (_ : (gm 11 x.toNatClampNeg).toInt = ((sByt.getD tx.toNatClampNeg []).length : Int)) (_ : ∀ i, i < x2_15.toNatClampNeg → (C9[i]?).getD 0 = sChr tx.toNatClampNeg i) (H : Heap) (locs : List Loc) (ls : Array Slot), va_P (dC, dI) vwCl (cW ad cid a2 lx sg gm lg) H → va_D A (cW ad cid a2 lx sg gm lg) → va_S A s.heap H locs → lv_has ls 3 [(2, .int x2_15), (0, eV (ad 9) x), (1, eV (ad 37) tx)] → W p l e (headSpec wm_X3_textIs ({ frames := 4, cells := 1, slots := 6, locals := 90 })).room s m ([eV (ad 9) x, eV (ad 37) tx] : List Value).toArray below meth c H locs 0 0 (vx_MQ below (cQx dC dI ad cid a2 lx (fun v u => ∃ r : Int32, v = some (.int r) ∧ u = (sg, gm, lg) ∧ (iv 0 1 r) ∧ ((r.toInt = 1 ∧ C9 = sLs tx.toNatClampNeg) ∨ (r.toInt = 0 ∧ ¬ C9 = sLs tx.toNatClampNeg))) A) (cX dC dI ad cid a2 lx (fun _ _ => False) A) ([eV (ad 9) x, eV (ad 37) tx] : List Value).toArray s 1 6 A) (F0 m 15 ls []) := by
    intro n
    induction n using Nat.strongRecOn with
    | ind n ih15 =>
      intro x2_15 hn15 hx2_15 hsx0_15 hsx1_15 hsl hal H locs ls hP hD hS hl
      refine lv_iload_n hx hb dX3_textIs_15 rfl (lv_at hl 0 rfl) ?_
      refine ec_aload_n hx hb dX3_textIs_16 rfl (lv_at hl 1 rfl) ?_
      refine cr_get (t := 9) (j := 1) (C := RX3) (T := TX3) (N := 21) (v := .int (gm 11 x.toNatClampNeg)) hx hb htb inX3 hown hK hP hsx0_15 (by decide) (by decide) (by decide) rfl (by decide) (htb _ kw_381) rfl dX3_textIs_17 ?_
      obtain ⟨z_1, ez_1⟩ : ∃ z : Int32, z = (gm 11 x.toNatClampNeg) := ⟨_, rfl⟩
      refine W.eq (g2 := F0 m 20 ls [.int z_1, .int x2_15]) (by rw [ez_1]) ?_
      have hz_1 : iv 0 24 z_1 := iv_of ez_1 (CI_a hI 11 hsx0_15 (by decide))
      refine lv_icmp_ge (tgt := 45) hx hb dX3_textIs_20 (by decide) (fun c_2 => ?_) (fun c_2 => ?_)
      · have d_3 : (z_1 : Int32).toInt ≤ (x2_15 : Int32).toInt := Int32.le_iff_toInt_le.mp c_2
        refine lv_iconst (v := 1) hx hb dX3_textIs_45 (by decide) ?_
        exact W.nb (fun hN => W.widen (k := 1) (n := 6) (by decide) (by decide) (vx_ret (W.zret (v := 1) hx hb hr (iv_nb (iv_w (iv_k (by decide) : iv 1 1 1) (by decide))) (fun t ht hW => ⟨⟨some (.int 1), (sg, gm, lg), rfl, ⟨1, rfl, rfl, (iv_w (iv_k (by decide) : iv 1 1 1) (by decide)), (Or.inl ⟨rfl, sLs_e (by have := hC.1; have := hsl; omega) (fun i hi => hal i (by have := hC.1; have := congrArg Int32.toInt ez_1; have q1 : x2_15.toNatClampNeg = x2_15.toInt.toNat := rfl; have := i32_0; have := i32_1; have := i32_2; have := i32_m1; have := (hsx0_15).1; have := (hsx0_15).2; have := (hsx1_15).1; have := (hsx1_15).2; have := (hx2_15).1; have := (hx2_15).2; have := (hz_1).1; have := (hz_1).2; omega))⟩)⟩, by rw [ht]; exact hP, va_K.moved hW.alike hK, hD⟩, hS.F ht, by rw [ht]; exact hN⟩) hS.2.2 dX3_textIs_46)))
      · have d_4 : (x2_15 : Int32).toInt < (z_1 : Int32).toInt := Int32.lt_iff_toInt_lt.mp (i32_lt c_2)
        have h_5 : iv 0 23 x2_15 := iv_ltL (i32_lt c_2) hx2_15 hz_1 (by decide)
        have h_6 : iv 1 24 z_1 := iv_ltR (i32_lt c_2) hx2_15 hz_1 (by decide)
        refine ec_aload_n hx hb dX3_textIs_23 rfl (lv_at hl 1 rfl) ?_
        refine cr_get (t := 9) (j := 0) (C := RX3) (T := TX3) (N := 21) (v := eV (ad 31) x) hx hb htb inX3 hown hK hP hsx0_15 (by decide) (by decide) (by decide) rfl (by decide) (htb _ kw_74) (cV_c rfl (hsx0_15).1 (by rw [show cMu 9 0 = 1 from rfl, Nat.one_mul]; rfl)) dX3_textIs_24 ?_
        refine lv_iload_n hx hb dX3_textIs_27 rfl (lv_at hl 0 rfl) ?_
        refine cr_cald (t := 31) (z := (gm 56 (24 * x.toNatClampNeg + (x2_15 : Int32).toNatClampNeg))) hx hb hK hP hsx0_15 (by decide) (by decide) (by decide) rfl rfl (show vp_in x2_15 (cLen 31) from (show vp_in x2_15 24 from (iv_in h_5 (by decide)))) (cAi_w rfl (by decide) rfl (vin_lt (show vp_in x2_15 (cLen 31) from (show vp_in x2_15 24 from (iv_in h_5 (by decide)))))) dX3_textIs_28 ?_
        obtain ⟨z_7, ez_7⟩ : ∃ z : Int32, z = (gm 56 (24 * x.toNatClampNeg + (x2_15 : Int32).toNatClampNeg)) := ⟨_, rfl⟩
        refine W.eq (g2 := F0 m 29 ls [.int z_7]) (by rw [ez_7]) ?_
        have hz_7 : iv 0 65535 z_7 := iv_of ez_7 (CI_n hI 56 (show _ < crLen 56 from vin_w (show vp_in x2_15 (cLen 31) from (show vp_in x2_15 24 from (iv_in h_5 (by decide)))) (hsx0_15) (by decide)))
        refine ec_aload_n hx hb dX3_textIs_29 rfl (lv_at hl 2 rfl) ?_
        refine lv_iload_n hx hb dX3_textIs_30 rfl (lv_at hl 0 rfl) ?_
        have := congrArg Int32.toInt ez_1
        refine cw_schr2 ⟨hx, hb, hml, hown, htb⟩ kw_707 hsx1_15 (h_5).1 (by rw [← hsl]; have := i32_0; have := i32_1; have := i32_2; have := i32_m1; have := (hsx0_15).1; have := (hsx0_15).2; have := (hsx1_15).1; have := (hsx1_15).2; have := (h_5).1; have := (h_5).2; have := (h_6).1; have := (h_6).2; have := (hz_7).1; have := (hz_7).2; omega) hl.1 (Nat.le_trans (cs_c (cat_i _) cs_n) (by decide)) dX3_textIs_31 ⟨Nat.le_of_ble_eq_true rfl, Nat.le_of_ble_eq_true rfl⟩ ⟨Nat.le_of_ble_eq_true rfl, Nat.le_of_ble_eq_true rfl⟩ hP hS hA hG (fun r_8 H locs hsc_r_8 hP hS => ?_)
        have hr_8 : iv 0 65535 r_8 := by rw [show iv 0 65535 r_8 = (0 ≤ r_8.toInt ∧ r_8.toInt ≤ 65535) from rfl, hsc_r_8]; have := sChr_r tx.toNatClampNeg x2_15.toInt.toNat; omega
        refine lv_icmp_eq (tgt := 39) hx hb dX3_textIs_34 (by decide) (fun c_9 => ?_) (fun c_9 => ?_)
        · have d_10 : (z_7 : Int32).toInt = (r_8 : Int32).toInt := congrArg Int32.toInt c_9
          obtain ⟨z_11, ez_11⟩ : ∃ z : Int32, z = x2_15 + 1 := ⟨_, rfl⟩
          have hz_11 : iv 1 24 z_11 := iv_of ez_11 (iv_add h_5 (iv_k (by decide) : iv 1 1 1) (by decide))
          have tz_11 : z_11.toInt = x2_15.toInt + 1 := by rw [ez_11]; exact iv_addE h_5 (iv_k (by decide) : iv 1 1 1) (by decide)
          refine lv_iinc (v := z_11) (lv' := [(2, .int z_11), (0, eV (ad 9) x), (1, eV (ad 37) tx)]) hx hb dX3_textIs_39 hl (k := 0) rfl ez_11.symm (by decide) (by simp [List.filter, eV_cat, cat_i, cat_l]) (fun ls hl => ?_)
          refine lv_goto (tgt := 15) hx hb dX3_textIs_42 (by decide) ?_
          exact ih15 _ (by rw [← hn15]; exact (iv_meas tz_11 h_5 (by decide))) z_11 rfl (iv_w hz_11 (by decide)) hsx0_15 hsx1_15 (hsl) ((fun i hi => (show i < x2_15.toNatClampNeg ∨ i = x2_15.toNatClampNeg from (by have q1 : z_11.toNatClampNeg = z_11.toInt.toNat := rfl; have q1 : x2_15.toNatClampNeg = x2_15.toInt.toNat := rfl; have := i32_0; have := i32_1; have := i32_2; have := i32_m1; have := (hsx0_15).1; have := (hsx0_15).2; have := (hsx1_15).1; have := (hsx1_15).2; have := (h_5).1; have := (h_5).2; have := (h_6).1; have := (h_6).2; have := (hz_7).1; have := (hz_7).2; have := (hr_8).1; have := (hr_8).2; have := (hz_11).1; have := (hz_11).2; omega)).elim (fun q => hal i q) (fun q => by rw [q, ← CTX_g hC (by have := hC.1; have := congrArg Int32.toInt ez_1; have q1 : x2_15.toNatClampNeg = x2_15.toInt.toNat := rfl; have := i32_0; have := i32_1; have := i32_2; have := i32_m1; have := (hsx0_15).1; have := (hsx0_15).2; have := (hsx1_15).1; have := (hsx1_15).2; have := (h_5).1; have := (h_5).2; have := (h_6).1; have := (h_6).2; have := (hz_7).1; have := (hz_7).2; have := (hr_8).1; have := (hr_8).2; have := (hz_11).1; have := (hz_11).2; omega) ez_7, show x2_15.toNatClampNeg = x2_15.toInt.toNat from rfl, ← hsc_r_8]; have := i32_0; have := i32_1; have := i32_2; have := i32_m1; have := (hsx0_15).1; have := (hsx0_15).2; have := (hsx1_15).1; have := (hsx1_15).2; have := (h_5).1; have := (h_5).2; have := (h_6).1; have := (h_6).2; have := (hz_7).1; have := (hz_7).2; have := (hr_8).1; have := (hr_8).2; have := (hz_11).1; have := (hz_11).2; omega))) _ _ _ hP hD hS (lv_sub hl [0, 1, 2] rfl)
        · refine lv_iconst (v := 0) hx hb dX3_textIs_37 (by decide) ?_
          exact W.nb (fun hN => W.widen (k := 1) (n := 6) (by decide) (by decide) (vx_ret (W.zret (v := 0) hx hb hr (iv_nb (iv_w (iv_k (by decide) : iv 0 0 0) (by decide))) (fun t ht hW => ⟨⟨some (.int 0), (sg, gm, lg), rfl, ⟨0, rfl, rfl, (iv_w (iv_k (by decide) : iv 0 0 0) (by decide)), (Or.inr ⟨rfl, fun q => absurd (show z_7.toInt = sChr tx.toNatClampNeg x2_15.toInt.toNat from (by rw [CTX_g hC (by have := hC.1; have := congrArg Int32.toInt ez_1; have q1 : x2_15.toNatClampNeg = x2_15.toInt.toNat := rfl; have := i32_0; have := i32_1; have := i32_2; have := i32_m1; have := (hsx0_15).1; have := (hsx0_15).2; have := (hsx1_15).1; have := (hsx1_15).2; have := (h_5).1; have := (h_5).2; have := (h_6).1; have := (h_6).2; have := (hz_7).1; have := (hz_7).2; have := (hr_8).1; have := (hr_8).2; omega) ez_7, q, sLs_g (by have := hC.1; have := hsl; have q7 := (show x2_15.toNatClampNeg < C9.length from (by have := hC.1; have := congrArg Int32.toInt ez_1; have q1 : x2_15.toNatClampNeg = x2_15.toInt.toNat := rfl; have := i32_0; have := i32_1; have := i32_2; have := i32_m1; have := (hsx0_15).1; have := (hsx0_15).2; have := (hsx1_15).1; have := (hsx1_15).2; have := (h_5).1; have := (h_5).2; have := (h_6).1; have := (h_6).2; have := (hz_7).1; have := (hz_7).2; have := (hr_8).1; have := (hr_8).2; omega)); omega)]; rfl)) (by rw [← hsc_r_8]; exact fun q7 => c_9 (Int32.toInt_inj.mp q7))⟩)⟩, by rw [ht]; exact hP, va_K.moved hW.alike hK, hD⟩, hS.F ht, by rw [ht]; exact hN⟩) hS.2.2 dX3_textIs_38)))
  refine ec_aload_n hx hb dX3_textIs_0 rfl (lv_at hl 0 rfl) ?_
  refine cr_get (t := 9) (j := 1) (C := RX3) (T := TX3) (N := 21) (v := .int (gm 11 x.toNatClampNeg)) hx hb htb inX3 hown hK hP hvx (by decide) (by decide) (by decide) rfl (by decide) (htb _ kw_381) rfl dX3_textIs_1 ?_
  obtain ⟨z_12, ez_12⟩ : ∃ z : Int32, z = (gm 11 x.toNatClampNeg) := ⟨_, rfl⟩
  refine W.eq (g2 := F0 m 4 ls [.int z_12]) (by rw [ez_12]) ?_
  have hz_12 : iv 0 24 z_12 := iv_of ez_12 (CI_a hI 11 hvx (by decide))
  refine ec_aload_n hx hb dX3_textIs_4 rfl (lv_at hl 1 rfl) ?_
  refine cw_slen ⟨hx, hb, hml, hown, htb⟩ kw_706 hvtx hl.1 (Nat.le_trans (cs_c (cat_i _) cs_n) (by decide)) dX3_textIs_5 ⟨Nat.le_of_ble_eq_true rfl, Nat.le_of_ble_eq_true rfl⟩ ⟨Nat.le_of_ble_eq_true rfl, Nat.le_of_ble_eq_true rfl⟩ hP hS hA hG (fun H locs hP hS => ?_)
  refine lv_topi (fun z_13 ez_13 => ?_)
  obtain ⟨lz_13, hz_13⟩ := slen_iv hvtx ez_13
  refine lv_icmp_eq (tgt := 13) hx hb dX3_textIs_8 (by decide) (fun c_14 => ?_) (fun c_14 => ?_)
  · have d_15 : (z_12 : Int32).toInt = (z_13 : Int32).toInt := congrArg Int32.toInt c_14
    have h_16 : iv 2 5 z_12 := iv_eq c_14 hz_12 hz_13 (by decide)
    refine lv_iconst (v := 0) hx hb dX3_textIs_13 (by decide) ?_
    refine lv_istore_n (i := 2) (lv' := [(2, .int 0), (0, eV (ad 9) x), (1, eV (ad 37) tx)]) hx hb dX3_textIs_14 rfl hl (by decide) (by simp [List.filter, eV_cat, cat_i, cat_l]) (fun ls hl => ?_)
    exact hj15 _ 0 rfl (iv_w (iv_k (by decide) : iv 0 0 0) (by decide)) hvx hvtx ((by rw [← ez_12]; have := lz_13; have := i32_0; have := i32_1; have := i32_2; have := i32_m1; have := (hvx).1; have := (hvx).2; have := (hvtx).1; have := (hvtx).2; have := (h_16).1; have := (h_16).2; have := (hz_13).1; have := (hz_13).2; omega)) ((fun i hi => absurd hi (Nat.not_lt_zero _))) _ _ _ hP hD hS (lv_sub hl [0, 1, 2] rfl)
  · refine lv_iconst (v := 0) hx hb dX3_textIs_11 (by decide) ?_
    exact W.nb (fun hN => W.widen (k := 1) (n := 6) (by decide) (by decide) (vx_ret (W.zret (v := 0) hx hb hr (iv_nb (iv_w (iv_k (by decide) : iv 0 0 0) (by decide))) (fun t ht hW => ⟨⟨some (.int 0), (sg, gm, lg), rfl, ⟨0, rfl, rfl, (iv_w (iv_k (by decide) : iv 0 0 0) (by decide)), (Or.inr ⟨rfl, fun q => absurd (congrArg List.length q) (by rw [sLs_l]; intro q8; exact c_14 (Int32.toInt_inj.mp (by have := hC.1; have := congrArg Int32.toInt ez_12; have := lz_13; have := i32_0; have := i32_1; have := i32_2; have := i32_m1; have := (hvx).1; have := (hvx).2; have := (hvtx).1; have := (hvtx).2; have := (hz_12).1; have := (hz_12).2; have := (hz_13).1; have := (hz_13).2; omega)))⟩)⟩, by rw [ht]; exact hP, va_K.moved hW.alike hK, hD⟩, hS.F ht, by rw [ht]; exact hN⟩) hS.2.2 dX3_textIs_12)))
end
