set_option maxHeartbeats 4000000 in
set_option maxRecDepth 100000 in
theorem d_law5 {p : Program} {l : Launch} {e : Env} {s : State} {m : MethodId} {below : List Frame} {meth : Method} {c : Code} {b L : Nat} {xs : Nat → Int32} {dC : Nat → ClassId} {dI : Nat → Nat → Nat} {ad : Nat → Nat → Nat} {cid : Nat → ClassId} {h0 : Nat} {adm : Nat → Nat} {cidm : Nat → ClassId} {cO : ClassId} {qo : Nat} {A : Nat → Prop} (hl9 : l.stackTraces = false) (C0 : lw_At p s m meth c b L xs) (hL : L ≤ 4608) (hA : ∀ q : Nat, s.heap.size ≤ q → A q) (hbA : ¬ A b) (hG : CE ad A s) (hN9 : NE s) (hK : va_K (dC, dI) vwCl (cT cid ++ (mT cidm ++ [(cO, .long)])) s) (it : Nat) (i : Int32) (hit : it ≤ 511) (hi : i.toInt = 9 * (it : Int)) (hiL : i.toInt + 9 ≤ (L : Int)) (a2 : Nat → Nat) (lx : List Nat) (sg : Nat → Int32) (gm : Nat → Nat → Int32) (lg : Nat → Nat → Int64) (sm : Nat → Int32) (gn : Nat → Nat → Int32) (ln : Nat → Nat → Int64) (f : Nat → Int64) (H : Heap) (locs : List Loc) (ls : Array Slot) (hKI : KI it lx sg gm lg) (hRI : RI sm gn ln) (hREL : REL sg gm sm gn ln) (hP : va_P (dC, dI) vwCl (cW ad cid a2 lx sg gm lg ++ (mW h0 adm cidm sm gn ln ++ [(qo, oE cO f)])) H) (hD : va_D A (cW ad cid a2 lx sg gm lg ++ (mW h0 adm cidm sm gn ln ++ [(qo, oE cO f)]))) (hS : va_S A s.heap H locs) (hl : lv_has ls 7 [(4, .int i), (3, .ref qo), (2, .ref h0), (1, eV (ad 0) 0), (0, .ref b)]) (kont : ∀ (a2 : Nat → Nat) (lx : List Nat) (sg : Nat → Int32) (gm : Nat → Nat → Int32) (lg : Nat → Nat → Int64) (sm : Nat → Int32) (gn : Nat → Nat → Int32) (ln : Nat → Nat → Int64) (f : Nat → Int64) (H : Heap) (locs : List Loc) (ls : Array Slot), KI (it + 1) lx sg gm lg → RI sm gn ln → REL sg gm sm gn ln → va_P (dC, dI) vwCl (cW ad cid a2 lx sg gm lg ++ (mW h0 adm cidm sm gn ln ++ [(qo, oE cO f)])) H → va_D A (cW ad cid a2 lx sg gm lg ++ (mW h0 adm cidm sm gn ln ++ [(qo, oE cO f)])) → va_S A s.heap H locs → lv_has ls 7 [(4, .int i), (3, .ref qo), (2, .ref h0), (1, eV (ad 0) 0), (0, .ref b)] → W p l e room_1 s m #[Value.ref b] below meth c H locs (10000 + 3 * (it + 1) + PHs gm) (400000 + 18 * (it + 1) + 4 * PHs gm) (lw_Z below #[Value.ref b] s) (F0 m 801 ls [])) : W p l e room_1 s m #[Value.ref b] below meth c H locs (10000 + 3 * it + PHs gm) (400000 + 18 * it + 4 * PHs gm) (lw_Z below #[Value.ref b] s) (F0 m 479 ls []) := by
  obtain ⟨hx, hb, hr, hml, hown, hts, hX, hbl, hlocks, hgv⟩ := C0
  have hown : s.vm.findClass RL = some m.cls := hown
  have htb := fun (w : Cond) (h : w ∈ tb) => hts w (tb_in w h)
  have kI := hKI.1
  have hiv : iv 0 4599 i := ⟨by omega, by omega⟩
  refine ec_aload_n hx hb dL_law_479 rfl (lv_at hl 3 rfl) ?_
  refine lv_aload_n hx hb dL_law_480 rfl (lv_at hl 1 rfl) ?_
  refine lw_callH (rest := []) (as := [eV (ad 0) 0, .ref qo]) ⟨hx, hb, hml, hown, htb⟩ (d_hread l hl9 dC dI ad cid cO qo a2 lx sg gm lg f it hKI (by omega) (chT sm gn) (sm 20).toInt.toNat (chT_c hREL.1 (show iv 0 1200 (sm 20) from MI_s hRI.1 20).1) (chT_p hREL.1)) (vx_cwSW 2 htb (gd_S kw_302 kw_303 kw_304 kw_1409) rfl rfl rfl (by decide +kernel) ⟨Nat.le_of_ble_eq_true rfl, Nat.le_of_ble_eq_true rfl⟩) rfl hl.1 rfl (Nat.le_trans cs_n (by decide)) dL_law_481 ⟨(show 10000 + 3 * it + PHs gm + 304803 ≤ 601024 from by have := PHs_le kI; omega), (show 400000 + 18 * it + 4 * PHs gm + 1219339 ≤ 7293034 from by have := PHs_le kI; omega)⟩ hK hP hD hS hA hG hN9 (fun r9 u f9 H locs hw hmu hP hD hS => ?_)
  obtain ⟨a29, lx9, sg9, gm9, lg9⟩ := u
  have hKI2 : KI (it + 1) lx9 sg9 gm9 lg9 := hw.1
  have hH9 := hw.2.2
  have kI2 := hKI2.1
  have hph : PHs gm ≤ PHs gm9 := hmu
  have hP : va_P (dC, dI) vwCl (cW ad cid a29 lx9 sg9 gm9 lg9 ++ (mW h0 adm cidm sm gn ln ++ [(qo, oE cO f9)])) H := hP
  have hD : va_D A (cW ad cid a29 lx9 sg9 gm9 lg9 ++ (mW h0 adm cidm sm gn ln ++ [(qo, oE cO f9)])) := hD
  refine lv_istore (lv' := [(5, .int r9), (4, .int i), (3, .ref qo), (2, .ref h0), (1, eV (ad 0) 0), (0, .ref b)]) hx hb dL_law_484 hl (by decide) (by simp [List.filter, eV_cat, cat_i, cat_l, cat_r]) (fun ls hl => ?_)
  refine lv_aload_n hx hb dL_law_486 rfl (lv_at hl 3 rfl) ?_
  refine lw_callM (w := cW ad cid a29 lx9 sg9 gm9 lg9) (tw := cT cid) (r := [(qo, oE cO f9)]) (tr := [(cO, .long)]) (rest := []) (as := []) ⟨hx, hb, hml, hown, htb⟩ (f_read3 l dC dI h0 adm cidm sm gn ln (chT sm gn) (sm 20).toInt.toNat hRI.1 (chT_r (show iv 0 1200 (sm 20) from MI_s hRI.1 20).1) hREL.2.1 hREL.2.2 (chT_p hREL.1)) (cwV 0 htb (gd_V kw_810 kw_811 kw_812 kw_5 kw_1517) rfl rfl rfl (by decide +kernel) ⟨Nat.le_of_ble_eq_true rfl, Nat.le_of_ble_eq_true rfl⟩) rfl hl.1 rfl (Nat.le_trans cs_n (by decide)) dL_law_487 ⟨(show 10000 + 3 * it + PHs gm + gc gm gm9 2 ≤ 601024 from by have := PHs_le kI2; have := PHs_le kI; have q9 := gc_l0 (gm := gm) (k := 2) kI2; omega), (show 400000 + 18 * it + 4 * PHs gm + gs gm gm9 2 ≤ 7293034 from by have := PHs_le kI2; have := PHs_le kI; have q9 := gs_l0 (gm := gm) (k := 2) kI2; omega)⟩ hK hP hD hS hA (fun r8 u8 H locs hw hP hD hS => ?_)
  obtain ⟨sm9, gn9, ln9, rfl, hI8, j1, j2, j3, gZ, gR, gXX, gdoc, gclr⟩ := hw
  have hRI2 : RI sm9 gn9 ln9 := RI_rd hRI hI8 j2 gdoc gclr (by decide) (by decide) (by decide) (by decide) (by decide)
  have hP : va_P (dC, dI) vwCl (cW ad cid a29 lx9 sg9 gm9 lg9 ++ (mW h0 adm cidm sm9 gn9 ln9 ++ [(qo, oE cO f9)])) H := hP
  have hD : va_D A (cW ad cid a29 lx9 sg9 gm9 lg9 ++ (mW h0 adm cidm sm9 gn9 ln9 ++ [(qo, oE cO f9)])) := hD
  refine lv_istore (lv' := [(6, .int r8), (5, .int r9), (4, .int i), (3, .ref qo), (2, .ref h0), (1, eV (ad 0) 0), (0, .ref b)]) hx hb dL_law_490 hl (by decide) (by simp [List.filter, eV_cat, cat_i, cat_l, cat_r]) (fun ls hl => ?_)
  refine lv_aload_n hx hb dL_law_492 rfl (lv_at hl 4 rfl) ?_
  have hAC := ACPQ gXX (chT_p hREL.1)
  refine lw_callM (w := cW ad cid a29 lx9 sg9 gm9 lg9) (tw := cT cid) (r := [(qo, oE cO f9)]) (tr := [(cO, .long)]) (rest := []) (as := []) ⟨hx, hb, hml, hown, htb⟩ (a_thrown l dC dI h0 adm cidm sm9 gn9 ln9 hI8) (cwV 0 htb (gd_V kw_967 kw_968 kw_969 kw_5 kw_1559) rfl rfl rfl (by decide +kernel) ⟨Nat.le_of_ble_eq_true rfl, Nat.le_of_ble_eq_true rfl⟩) rfl hl.1 rfl (Nat.le_trans cs_n (by decide)) dL_law_493 ⟨(show 10000 + 3 * it + PHs gm + gc gm gm9 2 ≤ 601024 from by have := PHs_le kI2; have := PHs_le kI; have q9 := gc_l0 (gm := gm) (k := 2) kI2; omega), (show 400000 + 18 * it + 4 * PHs gm + gs gm gm9 2 ≤ 7293034 from by have := PHs_le kI2; have := PHs_le kI; have q9 := gs_l0 (gm := gm) (k := 2) kI2; omega)⟩ hK hP hD hS hA (fun r7 u7 H locs hw7 hP hD hS => ?_)
  obtain ⟨gt, rfl⟩ := hw7
  have hP : va_P (dC, dI) vwCl (cW ad cid a29 lx9 sg9 gm9 lg9 ++ (mW h0 adm cidm sm9 gn9 ln9 ++ [(qo, oE cO f9)])) H := hP
  have hD : va_D A (cW ad cid a29 lx9 sg9 gm9 lg9 ++ (mW h0 adm cidm sm9 gn9 ln9 ++ [(qo, oE cO f9)])) := hD
  refine lv_iload hx hb dL_law_496 (lv_at hl 1 rfl) ?_
  refine lv_icmp_eq (tgt := 503) hx hb dL_law_498 (by decide) (fun c_1 => ?_) (fun c_1 => absurd (rd_thr hH9 gR hAC gt) c_1)
  refine lv_iload hx hb dL_law_503 (lv_at hl 1 rfl) ?_
  refine lv_if_ne (tgt := 520) hx hb dL_law_505 (by decide) (fun c5 => ?_) (fun c5 => ?_)
  · refine lv_goto (tgt := 801) hx hb dL_law_520 (by decide) ?_
    have hREL2 : REL sg9 gm9 sm9 gn9 ln9 := ⟨TXR_0 hw.2.1 gZ, ENT_k hREL.2.1 (j2 3 (by decide)) (j2 4 (by decide)) (j3 2 (by decide)), WRD7_k hREL.2.2 (j3 0 (by decide)) (j3 1 (by decide))⟩
    refine W.widen (k := 10000 + 3 * (it + 1) + PHs gm9) (n := 400000 + 18 * (it + 1) + 4 * PHs gm9) (show 10000 + 3 * it + PHs gm + gc gm gm9 2 ≤ _ from by unfold gc PH; omega) (show 400000 + 18 * it + 4 * PHs gm + gs gm gm9 2 ≤ _ from by unfold gs PH; omega) ?_
    exact kont a29 lx9 sg9 gm9 lg9 sm9 gn9 ln9 f9 _ _ _ hKI2 hRI2 hREL2 hP hD hS (lv_sub hl [2, 3, 4, 5, 6] rfl)
  · refine lv_aload_n hx hb dL_law_508 rfl (lv_at hl 3 rfl) ?_
    refine lv_iconst (v := 0) hx hb dL_law_509 (by decide) ?_
    refine va_lald (D := (dC, dI)) (i := 0) hx hb hK hP _ _ wO3 cT3 (vp_in_iff.mpr ⟨by decide, by decide⟩) dL_law_510 ?_
    refine W.eq (g2 := F0 m 511 ls [.long (f9 0)]) rfl ?_
    refine lv_iload hx hb dL_law_511 (lv_at hl 0 rfl) ?_
    refine lv_i2l (v := r8.toInt64) hx hb dL_law_513 rfl ?_
    refine lv_topl (fun w_3 ew_3 => ?_)
    refine W.lcmp hx hb dL_law_514 ?_
    refine lv_topi (fun z_4 ez_4 => ?_)
    have c9 : z_4 = 0 := by rw [ez_4]; exact (lg_cmp_eq _ _).mpr ((rd_out hH9 gR hAC c5).trans ew_3.symm)
    refine lv_if_eq (tgt := 520) hx hb dL_law_515 (by decide) (fun c_5 => ?_) (fun c_5 => ?_)
    · refine lv_goto (tgt := 801) hx hb dL_law_520 (by decide) ?_
      have hREL2 : REL sg9 gm9 sm9 gn9 ln9 := ⟨TXR_0 hw.2.1 gZ, ENT_k hREL.2.1 (j2 3 (by decide)) (j2 4 (by decide)) (j3 2 (by decide)), WRD7_k hREL.2.2 (j3 0 (by decide)) (j3 1 (by decide))⟩
      refine W.widen (k := 10000 + 3 * (it + 1) + PHs gm9) (n := 400000 + 18 * (it + 1) + 4 * PHs gm9) (show 10000 + 3 * it + PHs gm + gc gm gm9 2 ≤ _ from by unfold gc PH; omega) (show 400000 + 18 * it + 4 * PHs gm + gs gm gm9 2 ≤ _ from by unfold gs PH; omega) ?_
      exact kont a29 lx9 sg9 gm9 lg9 sm9 gn9 ln9 f9 _ _ _ hKI2 hRI2 hREL2 hP hD hS (lv_sub hl [2, 3, 4, 5, 6] rfl)
    · exact absurd c9 c_5

set_option maxHeartbeats 4000000 in
set_option maxRecDepth 100000 in
theorem d_law6 {p : Program} {l : Launch} {e : Env} {s : State} {m : MethodId} {below : List Frame} {meth : Method} {c : Code} {b L : Nat} {xs : Nat → Int32} {dC : Nat → ClassId} {dI : Nat → Nat → Nat} {ad : Nat → Nat → Nat} {cid : Nat → ClassId} {h0 : Nat} {adm : Nat → Nat} {cidm : Nat → ClassId} {cO : ClassId} {qo : Nat} {A : Nat → Prop} (hl9 : l.stackTraces = false) (C0 : lw_At p s m meth c b L xs) (hL : L ≤ 4608) (hA : ∀ q : Nat, s.heap.size ≤ q → A q) (hbA : ¬ A b) (hG : CE ad A s) (hN9 : NE s) (hK : va_K (dC, dI) vwCl (cT cid ++ (mT cidm ++ [(cO, .long)])) s) (it : Nat) (i : Int32) (hit : it ≤ 511) (hi : i.toInt = 9 * (it : Int)) (hiL : i.toInt + 9 ≤ (L : Int)) (a2 : Nat → Nat) (lx : List Nat) (sg : Nat → Int32) (gm : Nat → Nat → Int32) (lg : Nat → Nat → Int64) (sm : Nat → Int32) (gn : Nat → Nat → Int32) (ln : Nat → Nat → Int64) (f : Nat → Int64) (H : Heap) (locs : List Loc) (ls : Array Slot) (hKI : KI it lx sg gm lg) (hRI : RI sm gn ln) (hREL : REL sg gm sm gn ln) (hP : va_P (dC, dI) vwCl (cW ad cid a2 lx sg gm lg ++ (mW h0 adm cidm sm gn ln ++ [(qo, oE cO f)])) H) (hD : va_D A (cW ad cid a2 lx sg gm lg ++ (mW h0 adm cidm sm gn ln ++ [(qo, oE cO f)]))) (hS : va_S A s.heap H locs) (hl : lv_has ls 7 [(4, .int i), (3, .ref qo), (2, .ref h0), (1, eV (ad 0) 0), (0, .ref b)]) (kont : ∀ (a2 : Nat → Nat) (lx : List Nat) (sg : Nat → Int32) (gm : Nat → Nat → Int32) (lg : Nat → Nat → Int64) (sm : Nat → Int32) (gn : Nat → Nat → Int32) (ln : Nat → Nat → Int64) (f : Nat → Int64) (H : Heap) (locs : List Loc) (ls : Array Slot), KI (it + 1) lx sg gm lg → RI sm gn ln → REL sg gm sm gn ln → va_P (dC, dI) vwCl (cW ad cid a2 lx sg gm lg ++ (mW h0 adm cidm sm gn ln ++ [(qo, oE cO f)])) H → va_D A (cW ad cid a2 lx sg gm lg ++ (mW h0 adm cidm sm gn ln ++ [(qo, oE cO f)])) → va_S A s.heap H locs → lv_has ls 7 [(4, .int i), (3, .ref qo), (2, .ref h0), (1, eV (ad 0) 0), (0, .ref b)] → W p l e room_1 s m #[Value.ref b] below meth c H locs (10000 + 3 * (it + 1) + PHs gm) (400000 + 18 * (it + 1) + 4 * PHs gm) (lw_Z below #[Value.ref b] s) (F0 m 801 ls [])) : W p l e room_1 s m #[Value.ref b] below meth c H locs (10000 + 3 * it + PHs gm) (400000 + 18 * it + 4 * PHs gm) (lw_Z below #[Value.ref b] s) (F0 m 523 ls []) := by
  obtain ⟨hx, hb, hr, hml, hown, hts, hX, hbl, hlocks, hgv⟩ := C0
  have hown : s.vm.findClass RL = some m.cls := hown
  have htb := fun (w : Cond) (h : w ∈ tb) => hts w (tb_in w h)
  have kI := hKI.1
  have hiv : iv 0 4599 i := ⟨by omega, by omega⟩
  refine ec_aload_n hx hb dL_law_523 rfl (lv_at hl 3 rfl) ?_
  refine lv_aload_n hx hb dL_law_524 rfl (lv_at hl 4 rfl) ?_
  refine lv_iload hx hb dL_law_525 (lv_at hl 0 rfl) ?_
  refine lv_iconst (v := 1) hx hb dL_law_527 (by decide) ?_
  refine lv_iadd hx hb dL_law_528 ?_
  refine lv_topi (fun z_1 ez_1 => ?_)
  have tz_1 : z_1.toInt = i.toInt + 1 := by rw [ez_1]; exact iv_addE hiv (iv_k (by decide) : iv 1 1 1) (by decide)
  refine va_sld hx hb hX hbl hbA hS (vp_in_iff.mpr ⟨by omega, by omega⟩) dL_law_529 ?_
  refine lv_topi (fun v_2 ev_2 => ?_)
  refine lw_callT (r := (mW h0 adm cidm sm gn ln ++ [(qo, oE cO f)])) (tr := mT cidm ++ [(cO, .long)]) (rest := []) (as := [.int v_2]) ⟨hx, hb, hml, hown, htb⟩ (d_fault l dC dI ad cid a2 lx sg gm lg 0 v_2 kI (iv_k (by decide) : iv 0 0 0)) (cwV 1 htb (gd_V kw_970 kw_971 kw_972 kw_2 kw_1560) rfl rfl rfl (by decide +kernel) ⟨Nat.le_of_ble_eq_true rfl, Nat.le_of_ble_eq_true rfl⟩) (iv_k (by decide) : iv 0 0 0) rfl hl.1 rfl (Nat.le_trans cs_n (by decide)) dL_law_530 ⟨(show 10000 + 3 * it + PHs gm + 1 ≤ 601024 from by have := PHs_le kI; omega), (show 400000 + 18 * it + 4 * PHs gm + 6 ≤ 7293034 from by have := PHs_le kI; omega)⟩ hK hP hD hS hA hG (fun _ _ h9 => h9) (fun v9 u H locs hw hP hD hS => ?_)
  obtain ⟨r9, rfl, rfl, hr9⟩ := hw
  have hKI2 : KI (it + 1) lx sg gm lg := KI_of (Ls := []) (Lg := []) (Ll := []) hKI kI KS_rf KS_rf KS_rf (by decide) (by decide) (by decide)
  have hph : PHs gm ≤ PHs gm := Nat.le_refl _
  have hP : va_P (dC, dI) vwCl (cW ad cid a2 lx sg gm lg ++ (mW h0 adm cidm sm gn ln ++ [(qo, oE cO f)])) H := hP
  have hD : va_D A (cW ad cid a2 lx sg gm lg ++ (mW h0 adm cidm sm gn ln ++ [(qo, oE cO f)])) := hD
  refine W.eq (g2 := F0 m 533 ls [.int r9]) rfl ?_
  refine lv_pop hx hb dL_law_533 (cat_i _) ?_
  refine lv_aload_n hx hb dL_law_534 rfl (lv_at hl 2 rfl) ?_
  refine lv_aload_n hx hb dL_law_535 rfl (lv_at hl 4 rfl) ?_
  refine lv_iload hx hb dL_law_536 (lv_at hl 0 rfl) ?_
  refine lv_iconst (v := 1) hx hb dL_law_538 (by decide) ?_
  refine lv_iadd hx hb dL_law_539 ?_
  refine lv_topi (fun z_3 ez_3 => ?_)
  have tz_3 : z_3.toInt = i.toInt + 1 := by rw [ez_3]; exact iv_addE hiv (iv_k (by decide) : iv 1 1 1) (by decide)
  refine va_sld hx hb hX hbl hbA hS (vp_in_iff.mpr ⟨by omega, by omega⟩) dL_law_540 ?_
  refine W.eq (g2 := F0 m 541 ls [.int v_2, .ref h0]) (by rw [ev_2, show z_3 = z_1 from Int32.toInt_inj.mp (by omega)]) ?_
  refine lw_callM (w := cW ad cid a2 lx sg gm lg) (tw := cT cid) (r := [(qo, oE cO f)]) (tr := [(cO, .long)]) (rest := []) (as := [.int v_2]) ⟨hx, hb, hml, hown, htb⟩ (a_fault l dC dI h0 adm cidm sm gn ln v_2 hRI.1) (cwV 1 htb (gd_V kw_980 kw_981 kw_982 kw_5 kw_1563) rfl rfl rfl (by decide +kernel) ⟨Nat.le_of_ble_eq_true rfl, Nat.le_of_ble_eq_true rfl⟩) rfl hl.1 rfl (Nat.le_trans cs_n (by decide)) dL_law_541 ⟨(show 10000 + 3 * it + PHs gm ≤ 601024 from by have := PHs_le kI; omega), (show 400000 + 18 * it + 4 * PHs gm ≤ 7293034 from by have := PHs_le kI; omega)⟩ hK hP hD hS hA (fun r8 u8 H locs hw hP hD hS => ?_)
  obtain ⟨sm9, gn9, ln9, rfl, hI8, j1, j2, j3⟩ := hw
  have hRI2 : RI sm9 gn9 ln9 := RI_of hRI hI8 (PR_k hRI.2.1 (j2 6 (by decide))) j1 j2 j3 (by decide) (by decide) (by decide) (by decide) (by decide) (by decide) (by decide) (by decide) (by decide) (by decide)
  have hP : va_P (dC, dI) vwCl (cW ad cid a2 lx sg gm lg ++ (mW h0 adm cidm sm9 gn9 ln9 ++ [(qo, oE cO f)])) H := hP
  have hD : va_D A (cW ad cid a2 lx sg gm lg ++ (mW h0 adm cidm sm9 gn9 ln9 ++ [(qo, oE cO f)])) := hD
  refine lv_pop hx hb dL_law_544 (cat_i _) ?_
  refine lv_goto (tgt := 801) hx hb dL_law_545 (by decide) ?_
  have hREL2 : REL sg gm sm9 gn9 ln9 := ⟨TXR_k hREL.1 rfl rfl (j1 20 (by decide)) (j2 19 (by decide)), ENT_k hREL.2.1 (j2 3 (by decide)) (j2 4 (by decide)) (j3 2 (by decide)), WRD7_k hREL.2.2 (j3 0 (by decide)) (j3 1 (by decide))⟩
  refine W.widen (k := 10000 + 3 * (it + 1) + PHs gm) (n := 400000 + 18 * (it + 1) + 4 * PHs gm) (show 10000 + 3 * it + PHs gm ≤ _ from by omega) (show 400000 + 18 * it + 4 * PHs gm ≤ _ from by omega) ?_
  exact kont a2 lx sg gm lg sm9 gn9 ln9 f _ _ _ hKI2 hRI2 hREL2 hP hD hS (lv_sub hl [0, 1, 2, 3, 4] rfl)

set_option maxHeartbeats 4000000 in
set_option maxRecDepth 100000 in
theorem d_law7 {p : Program} {l : Launch} {e : Env} {s : State} {m : MethodId} {below : List Frame} {meth : Method} {c : Code} {b L : Nat} {xs : Nat → Int32} {dC : Nat → ClassId} {dI : Nat → Nat → Nat} {ad : Nat → Nat → Nat} {cid : Nat → ClassId} {h0 : Nat} {adm : Nat → Nat} {cidm : Nat → ClassId} {cO : ClassId} {qo : Nat} {A : Nat → Prop} (hl9 : l.stackTraces = false) (C0 : lw_At p s m meth c b L xs) (hL : L ≤ 4608) (hA : ∀ q : Nat, s.heap.size ≤ q → A q) (hbA : ¬ A b) (hG : CE ad A s) (hN9 : NE s) (hK : va_K (dC, dI) vwCl (cT cid ++ (mT cidm ++ [(cO, .long)])) s) (it : Nat) (i : Int32) (hit : it ≤ 511) (hi : i.toInt = 9 * (it : Int)) (hiL : i.toInt + 9 ≤ (L : Int)) (a2 : Nat → Nat) (lx : List Nat) (sg : Nat → Int32) (gm : Nat → Nat → Int32) (lg : Nat → Nat → Int64) (sm : Nat → Int32) (gn : Nat → Nat → Int32) (ln : Nat → Nat → Int64) (f : Nat → Int64) (H : Heap) (locs : List Loc) (ls : Array Slot) (hKI : KI it lx sg gm lg) (hRI : RI sm gn ln) (hREL : REL sg gm sm gn ln) (hP : va_P (dC, dI) vwCl (cW ad cid a2 lx sg gm lg ++ (mW h0 adm cidm sm gn ln ++ [(qo, oE cO f)])) H) (hD : va_D A (cW ad cid a2 lx sg gm lg ++ (mW h0 adm cidm sm gn ln ++ [(qo, oE cO f)]))) (hS : va_S A s.heap H locs) (hl : lv_has ls 7 [(4, .int i), (3, .ref qo), (2, .ref h0), (1, eV (ad 0) 0), (0, .ref b)]) (kont : ∀ (a2 : Nat → Nat) (lx : List Nat) (sg : Nat → Int32) (gm : Nat → Nat → Int32) (lg : Nat → Nat → Int64) (sm : Nat → Int32) (gn : Nat → Nat → Int32) (ln : Nat → Nat → Int64) (f : Nat → Int64) (H : Heap) (locs : List Loc) (ls : Array Slot), KI (it + 1) lx sg gm lg → RI sm gn ln → REL sg gm sm gn ln → va_P (dC, dI) vwCl (cW ad cid a2 lx sg gm lg ++ (mW h0 adm cidm sm gn ln ++ [(qo, oE cO f)])) H → va_D A (cW ad cid a2 lx sg gm lg ++ (mW h0 adm cidm sm gn ln ++ [(qo, oE cO f)])) → va_S A s.heap H locs → lv_has ls 7 [(4, .int i), (3, .ref qo), (2, .ref h0), (1, eV (ad 0) 0), (0, .ref b)] → W p l e room_1 s m #[Value.ref b] below meth c H locs (10000 + 3 * (it + 1) + PHs gm) (400000 + 18 * (it + 1) + 4 * PHs gm) (lw_Z below #[Value.ref b] s) (F0 m 801 ls [])) : W p l e room_1 s m #[Value.ref b] below meth c H locs (10000 + 3 * it + PHs gm) (400000 + 18 * it + 4 * PHs gm) (lw_Z below #[Value.ref b] s) (F0 m 548 ls []) := by
  obtain ⟨hx, hb, hr, hml, hown, hts, hX, hbl, hlocks, hgv⟩ := C0
  have hown : s.vm.findClass RL = some m.cls := hown
  have htb := fun (w : Cond) (h : w ∈ tb) => hts w (tb_in w h)
  have kI := hKI.1
  have hiv : iv 0 4599 i := ⟨by omega, by omega⟩
  refine ec_aload_n hx hb dL_law_548 rfl (lv_at hl 3 rfl) ?_
  refine lv_aload_n hx hb dL_law_549 rfl (lv_at hl 1 rfl) ?_
  refine lw_callH (rest := []) (as := [eV (ad 0) 0, .ref qo]) ⟨hx, hb, hml, hown, htb⟩ (d_hrefresh l hl9 dC dI ad cid cO qo a2 lx sg gm lg f it hKI (by omega)) (vx_cwSW 2 htb (gd_S kw_984 kw_985 kw_304 kw_1564) rfl rfl rfl (by decide +kernel) ⟨Nat.le_of_ble_eq_true rfl, Nat.le_of_ble_eq_true rfl⟩) rfl hl.1 rfl (Nat.le_trans cs_n (by decide)) dL_law_550 ⟨(show 10000 + 3 * it + PHs gm + 60963 ≤ 601024 from by have := PHs_le kI; omega), (show 400000 + 18 * it + 4 * PHs gm + 243858 ≤ 7293034 from by have := PHs_le kI; omega)⟩ hK hP hD hS hA hG hN9 (fun r9 u f9 H locs hw hmu hP hD hS => ?_)
  obtain ⟨a29, lx9, sg9, gm9, lg9⟩ := u
  have hKI2 : KI (it + 1) lx9 sg9 gm9 lg9 := hw.1
  have kI2 := hKI2.1
  have hph : PHs gm ≤ PHs gm9 := hmu
  have hP : va_P (dC, dI) vwCl (cW ad cid a29 lx9 sg9 gm9 lg9 ++ (mW h0 adm cidm sm gn ln ++ [(qo, oE cO f9)])) H := hP
  have hD : va_D A (cW ad cid a29 lx9 sg9 gm9 lg9 ++ (mW h0 adm cidm sm gn ln ++ [(qo, oE cO f9)])) := hD
  refine lv_istore (lv' := [(5, .int r9), (4, .int i), (3, .ref qo), (2, .ref h0), (1, eV (ad 0) 0), (0, .ref b)]) hx hb dL_law_553 hl (by decide) (by simp [List.filter, eV_cat, cat_i, cat_l, cat_r]) (fun ls hl => ?_)
  refine lv_aload_n hx hb dL_law_555 rfl (lv_at hl 3 rfl) ?_
  refine lw_callM (w := cW ad cid a29 lx9 sg9 gm9 lg9) (tw := cT cid) (r := [(qo, oE cO f9)]) (tr := [(cO, .long)]) (rest := []) (as := []) ⟨hx, hb, hml, hown, htb⟩ (f_refresh l dC dI h0 adm cidm sm gn ln hRI.1 hRI.2.2.1 hRI.2.1 hRI.2.2.2.1 hRI.2.2.2.2) (cwV 0 htb (gd_V kw_1148 kw_1149 kw_1150 kw_5 kw_1600) rfl rfl rfl (by decide +kernel) ⟨Nat.le_of_ble_eq_true rfl, Nat.le_of_ble_eq_true rfl⟩) rfl hl.1 rfl (Nat.le_trans cs_n (by decide)) dL_law_556 ⟨(show 10000 + 3 * it + PHs gm + gc gm gm9 2 ≤ 601024 from by have := PHs_le kI2; have := PHs_le kI; have q9 := gc_l0 (gm := gm) (k := 2) kI2; omega), (show 400000 + 18 * it + 4 * PHs gm + gs gm gm9 2 ≤ 7293034 from by have := PHs_le kI2; have := PHs_le kI; have q9 := gs_l0 (gm := gm) (k := 2) kI2; omega)⟩ hK hP hD hS hA (fun r8 u8 H locs hw hP hD hS => ?_)
  obtain ⟨sm9, gn9, ln9, rfl, hI8, j1, j2, j3, gG, gM⟩ := hw
  have hRI2 : RI sm9 gn9 ln9 := RI_mk hRI hI8 gG gM j1 j2 j3 (by decide) (by decide) (by decide) (by decide) (by decide) (by decide)
  have hP : va_P (dC, dI) vwCl (cW ad cid a29 lx9 sg9 gm9 lg9 ++ (mW h0 adm cidm sm9 gn9 ln9 ++ [(qo, oE cO f9)])) H := hP
  have hD : va_D A (cW ad cid a29 lx9 sg9 gm9 lg9 ++ (mW h0 adm cidm sm9 gn9 ln9 ++ [(qo, oE cO f9)])) := hD
  refine lv_istore (lv' := [(6, .int r8), (5, .int r9), (4, .int i), (3, .ref qo), (2, .ref h0), (1, eV (ad 0) 0), (0, .ref b)]) hx hb dL_law_559 hl (by decide) (by simp [List.filter, eV_cat, cat_i, cat_l, cat_r]) (fun ls hl => ?_)
  refine lv_goto (tgt := 801) hx hb dL_law_561 (by decide) ?_
  have hREL2 : REL sg9 gm9 sm9 gn9 ln9 := ⟨TXR_k hREL.1 hw.2.1 hw.2.2 (j1 20 (by decide)) (j2 19 (by decide)), ENT_k hREL.2.1 (j2 3 (by decide)) (j2 4 (by decide)) (j3 2 (by decide)), WRD7_k hREL.2.2 (j3 0 (by decide)) (j3 1 (by decide))⟩
  refine W.widen (k := 10000 + 3 * (it + 1) + PHs gm9) (n := 400000 + 18 * (it + 1) + 4 * PHs gm9) (show 10000 + 3 * it + PHs gm + gc gm gm9 2 ≤ _ from by unfold gc PH; omega) (show 400000 + 18 * it + 4 * PHs gm + gs gm gm9 2 ≤ _ from by unfold gs PH; omega) ?_
  exact kont a29 lx9 sg9 gm9 lg9 sm9 gn9 ln9 f9 _ _ _ hKI2 hRI2 hREL2 hP hD hS (lv_sub hl [2, 3, 4, 5, 6] rfl)

set_option maxHeartbeats 4000000 in
set_option maxRecDepth 100000 in
theorem d_law8 {p : Program} {l : Launch} {e : Env} {s : State} {m : MethodId} {below : List Frame} {meth : Method} {c : Code} {b L : Nat} {xs : Nat → Int32} {dC : Nat → ClassId} {dI : Nat → Nat → Nat} {ad : Nat → Nat → Nat} {cid : Nat → ClassId} {h0 : Nat} {adm : Nat → Nat} {cidm : Nat → ClassId} {cO : ClassId} {qo : Nat} {A : Nat → Prop} (hl9 : l.stackTraces = false) (C0 : lw_At p s m meth c b L xs) (hL : L ≤ 4608) (hA : ∀ q : Nat, s.heap.size ≤ q → A q) (hbA : ¬ A b) (hG : CE ad A s) (hN9 : NE s) (hK : va_K (dC, dI) vwCl (cT cid ++ (mT cidm ++ [(cO, .long)])) s) (it : Nat) (i : Int32) (hit : it ≤ 511) (hi : i.toInt = 9 * (it : Int)) (hiL : i.toInt + 9 ≤ (L : Int)) (a2 : Nat → Nat) (lx : List Nat) (sg : Nat → Int32) (gm : Nat → Nat → Int32) (lg : Nat → Nat → Int64) (sm : Nat → Int32) (gn : Nat → Nat → Int32) (ln : Nat → Nat → Int64) (f : Nat → Int64) (H : Heap) (locs : List Loc) (ls : Array Slot) (hKI : KI it lx sg gm lg) (hRI : RI sm gn ln) (hREL : REL sg gm sm gn ln) (hP : va_P (dC, dI) vwCl (cW ad cid a2 lx sg gm lg ++ (mW h0 adm cidm sm gn ln ++ [(qo, oE cO f)])) H) (hD : va_D A (cW ad cid a2 lx sg gm lg ++ (mW h0 adm cidm sm gn ln ++ [(qo, oE cO f)]))) (hS : va_S A s.heap H locs) (hl : lv_has ls 7 [(4, .int i), (3, .ref qo), (2, .ref h0), (1, eV (ad 0) 0), (0, .ref b)]) (kont : ∀ (a2 : Nat → Nat) (lx : List Nat) (sg : Nat → Int32) (gm : Nat → Nat → Int32) (lg : Nat → Nat → Int64) (sm : Nat → Int32) (gn : Nat → Nat → Int32) (ln : Nat → Nat → Int64) (f : Nat → Int64) (H : Heap) (locs : List Loc) (ls : Array Slot), KI (it + 1) lx sg gm lg → RI sm gn ln → REL sg gm sm gn ln → va_P (dC, dI) vwCl (cW ad cid a2 lx sg gm lg ++ (mW h0 adm cidm sm gn ln ++ [(qo, oE cO f)])) H → va_D A (cW ad cid a2 lx sg gm lg ++ (mW h0 adm cidm sm gn ln ++ [(qo, oE cO f)])) → va_S A s.heap H locs → lv_has ls 7 [(4, .int i), (3, .ref qo), (2, .ref h0), (1, eV (ad 0) 0), (0, .ref b)] → W p l e room_1 s m #[Value.ref b] below meth c H locs (10000 + 3 * (it + 1) + PHs gm) (400000 + 18 * (it + 1) + 4 * PHs gm) (lw_Z below #[Value.ref b] s) (F0 m 801 ls [])) : W p l e room_1 s m #[Value.ref b] below meth c H locs (10000 + 3 * it + PHs gm) (400000 + 18 * it + 4 * PHs gm) (lw_Z below #[Value.ref b] s) (F0 m 564 ls []) := by
  obtain ⟨hx, hb, hr, hml, hown, hts, hX, hbl, hlocks, hgv⟩ := C0
  have hown : s.vm.findClass RL = some m.cls := hown
  have htb := fun (w : Cond) (h : w ∈ tb) => hts w (tb_in w h)
  have kI := hKI.1
  have hiv : iv 0 4599 i := ⟨by omega, by omega⟩
  refine ec_aload_n hx hb dL_law_564 rfl (lv_at hl 3 rfl) ?_
  refine lv_aload_n hx hb dL_law_565 rfl (lv_at hl 4 rfl) ?_
  refine lv_iload hx hb dL_law_566 (lv_at hl 0 rfl) ?_
  refine lv_iconst (v := 1) hx hb dL_law_568 (by decide) ?_
  refine lv_iadd hx hb dL_law_569 ?_
  refine lv_topi (fun z_1 ez_1 => ?_)
  have tz_1 : z_1.toInt = i.toInt + 1 := by rw [ez_1]; exact iv_addE hiv (iv_k (by decide) : iv 1 1 1) (by decide)
  refine va_sld hx hb hX hbl hbA hS (vp_in_iff.mpr ⟨by omega, by omega⟩) dL_law_570 ?_
  refine lv_topi (fun v_2 ev_2 => ?_)
  refine lv_i2l (v := v_2.toInt64) hx hb dL_law_571 rfl ?_
  refine lv_topl (fun w_4 ew_4 => ?_)
  refine lv_bipush (v := 32) hx hb dL_law_572 (by decide) ?_
  refine lv_lshl hx hb dL_law_574 rfl ?_
  refine lv_topl (fun w_5 ew_5 => ?_)
  refine lv_aload_n hx hb dL_law_575 rfl (lv_at hl 4 rfl) ?_
  refine lv_iload hx hb dL_law_576 (lv_at hl 0 rfl) ?_
  refine lv_iconst (v := 2) hx hb dL_law_578 (by decide) ?_
  refine lv_iadd hx hb dL_law_579 ?_
  refine lv_topi (fun z_6 ez_6 => ?_)
  have tz_6 : z_6.toInt = i.toInt + 2 := by rw [ez_6]; exact iv_addE hiv (iv_k (by decide) : iv 2 2 2) (by decide)
  refine va_sld hx hb hX hbl hbA hS (vp_in_iff.mpr ⟨by omega, by omega⟩) dL_law_580 ?_
  refine lv_topi (fun v_7 ev_7 => ?_)
  refine lv_i2l (v := v_7.toInt64) hx hb dL_law_581 rfl ?_
  refine lv_topl (fun w_9 ew_9 => ?_)
  refine lv_ldc2 (own := RL) (v := 4294967295) hx hb hown (htb _ kw_7) dL_law_582 ?_
  refine lv_land hx hb dL_law_585 ?_
  refine lv_topl (fun w_10 ew_10 => ?_)
  refine lv_lor hx hb dL_law_586 ?_
  refine lv_topl (fun w_11 ew_11 => ?_)
  refine lv_aload_n hx hb dL_law_587 rfl (lv_at hl 1 rfl) ?_
  refine lw_callH (rest := []) (as := [eV (ad 0) 0, .long w_11, .ref qo]) ⟨hx, hb, hml, hown, htb⟩ (d_hget l hl9 dC dI ad cid cO qo a2 lx sg gm lg f it w_11 hKI (by omega)) (vx_cwSW 3 htb (gd_S kw_1266 kw_1267 kw_304 kw_1637) rfl rfl rfl (by decide +kernel) ⟨Nat.le_of_ble_eq_true rfl, Nat.le_of_ble_eq_true rfl⟩) rfl hl.1 rfl (Nat.le_trans cs_n (by decide)) dL_law_588 ⟨(show 10000 + 3 * it + PHs gm + 60963 ≤ 601024 from by have := PHs_le kI; omega), (show 400000 + 18 * it + 4 * PHs gm + 243858 ≤ 7293034 from by have := PHs_le kI; omega)⟩ hK hP hD hS hA hG hN9 (fun r9 u f9 H locs hw hmu hP hD hS => ?_)
  obtain ⟨a29, lx9, sg9, gm9, lg9⟩ := u
  have hKI2 : KI (it + 1) lx9 sg9 gm9 lg9 := hw.1
  have kI2 := hKI2.1
  have hph : PHs gm ≤ PHs gm9 := hmu
  have hP : va_P (dC, dI) vwCl (cW ad cid a29 lx9 sg9 gm9 lg9 ++ (mW h0 adm cidm sm gn ln ++ [(qo, oE cO f9)])) H := hP
  have hD : va_D A (cW ad cid a29 lx9 sg9 gm9 lg9 ++ (mW h0 adm cidm sm gn ln ++ [(qo, oE cO f9)])) := hD
  refine lv_istore (lv' := [(5, .int r9), (4, .int i), (3, .ref qo), (2, .ref h0), (1, eV (ad 0) 0), (0, .ref b)]) hx hb dL_law_591 hl (by decide) (by simp [List.filter, eV_cat, cat_i, cat_l, cat_r]) (fun ls hl => ?_)
  refine lv_aload_n hx hb dL_law_593 rfl (lv_at hl 3 rfl) ?_
  refine lv_aload_n hx hb dL_law_594 rfl (lv_at hl 5 rfl) ?_
  refine lv_iload hx hb dL_law_595 (lv_at hl 1 rfl) ?_
  refine lv_iconst (v := 1) hx hb dL_law_597 (by decide) ?_
  refine lv_iadd hx hb dL_law_598 ?_
  refine lv_topi (fun z_12 ez_12 => ?_)
  have tz_12 : z_12.toInt = i.toInt + 1 := by rw [ez_12]; exact iv_addE hiv (iv_k (by decide) : iv 1 1 1) (by decide)
  refine va_sld hx hb hX hbl hbA hS (vp_in_iff.mpr ⟨by omega, by omega⟩) dL_law_599 ?_
  refine W.eq (g2 := F0 m 600 ls [.int v_2, .ref h0]) (by rw [ev_2, show z_12 = z_1 from Int32.toInt_inj.mp (by omega)]) ?_
  refine lv_i2l (v := v_2.toInt64) hx hb dL_law_600 rfl ?_
  refine lv_topl (fun w_14 ew_14 => ?_)
  refine lv_bipush (v := 32) hx hb dL_law_601 (by decide) ?_
  refine lv_lshl hx hb dL_law_603 rfl ?_
  refine lv_topl (fun w_15 ew_15 => ?_)
  refine lv_aload_n hx hb dL_law_604 rfl (lv_at hl 5 rfl) ?_
  refine lv_iload hx hb dL_law_605 (lv_at hl 1 rfl) ?_
  refine lv_iconst (v := 2) hx hb dL_law_607 (by decide) ?_
  refine lv_iadd hx hb dL_law_608 ?_
  refine lv_topi (fun z_16 ez_16 => ?_)
  have tz_16 : z_16.toInt = i.toInt + 2 := by rw [ez_16]; exact iv_addE hiv (iv_k (by decide) : iv 2 2 2) (by decide)
  refine va_sld hx hb hX hbl hbA hS (vp_in_iff.mpr ⟨by omega, by omega⟩) dL_law_609 ?_
  refine W.eq (g2 := F0 m 610 ls [.int v_7, .long w_15, .ref h0]) (by rw [ev_7, show z_16 = z_6 from Int32.toInt_inj.mp (by omega)]) ?_
  refine lv_i2l (v := v_7.toInt64) hx hb dL_law_610 rfl ?_
  refine lv_topl (fun w_18 ew_18 => ?_)
  refine lv_ldc2 (own := RL) (v := 4294967295) hx hb hown (htb _ kw_7) dL_law_611 ?_
  refine lv_land hx hb dL_law_614 ?_
  refine lv_topl (fun w_19 ew_19 => ?_)
  refine lv_lor hx hb dL_law_615 ?_
  refine lv_topl (fun w_20 ew_20 => ?_)
  refine lw_callM (w := cW ad cid a29 lx9 sg9 gm9 lg9) (tw := cT cid) (r := [(qo, oE cO f9)]) (tr := [(cO, .long)]) (rest := []) (as := [.long w_20]) ⟨hx, hb, hml, hown, htb⟩ (f_get l dC dI h0 adm cidm sm gn ln w_20 hRI.1 hRI.2.2.1 hRI.2.1 hRI.2.2.2.1 hRI.2.2.2.2) (cwV 1 htb (gd_V kw_1277 kw_1278 kw_1279 kw_5 kw_1641) rfl rfl rfl (by decide +kernel) ⟨Nat.le_of_ble_eq_true rfl, Nat.le_of_ble_eq_true rfl⟩) rfl hl.1 rfl (Nat.le_trans cs_n (by decide)) dL_law_616 ⟨(show 10000 + 3 * it + PHs gm + gc gm gm9 2 ≤ 601024 from by have := PHs_le kI2; have := PHs_le kI; have q9 := gc_l0 (gm := gm) (k := 2) kI2; omega), (show 400000 + 18 * it + 4 * PHs gm + gs gm gm9 2 ≤ 7293034 from by have := PHs_le kI2; have := PHs_le kI; have q9 := gs_l0 (gm := gm) (k := 2) kI2; omega)⟩ hK hP hD hS hA (fun r8 u8 H locs hw hP hD hS => ?_)
  obtain ⟨sm9, gn9, ln9, rfl, hI8, j1, j2, j3, gG, gM⟩ := hw
  have hRI2 : RI sm9 gn9 ln9 := RI_mk hRI hI8 gG gM j1 j2 j3 (by decide) (by decide) (by decide) (by decide) (by decide) (by decide)
  have hP : va_P (dC, dI) vwCl (cW ad cid a29 lx9 sg9 gm9 lg9 ++ (mW h0 adm cidm sm9 gn9 ln9 ++ [(qo, oE cO f9)])) H := hP
  have hD : va_D A (cW ad cid a29 lx9 sg9 gm9 lg9 ++ (mW h0 adm cidm sm9 gn9 ln9 ++ [(qo, oE cO f9)])) := hD
  refine lv_istore (lv' := [(6, .int r8), (5, .int r9), (4, .int i), (3, .ref qo), (2, .ref h0), (1, eV (ad 0) 0), (0, .ref b)]) hx hb dL_law_619 hl (by decide) (by simp [List.filter, eV_cat, cat_i, cat_l, cat_r]) (fun ls hl => ?_)
  refine lv_goto (tgt := 801) hx hb dL_law_621 (by decide) ?_
  have hREL2 : REL sg9 gm9 sm9 gn9 ln9 := ⟨TXR_k hREL.1 hw.2.1 hw.2.2 (j1 20 (by decide)) (j2 19 (by decide)), ENT_k hREL.2.1 (j2 3 (by decide)) (j2 4 (by decide)) (j3 2 (by decide)), WRD7_k hREL.2.2 (j3 0 (by decide)) (j3 1 (by decide))⟩
  refine W.widen (k := 10000 + 3 * (it + 1) + PHs gm9) (n := 400000 + 18 * (it + 1) + 4 * PHs gm9) (show 10000 + 3 * it + PHs gm + gc gm gm9 2 ≤ _ from by unfold gc PH; omega) (show 400000 + 18 * it + 4 * PHs gm + gs gm gm9 2 ≤ _ from by unfold gs PH; omega) ?_
  exact kont a29 lx9 sg9 gm9 lg9 sm9 gn9 ln9 f9 _ _ _ hKI2 hRI2 hREL2 hP hD hS (lv_sub hl [2, 3, 4, 5, 6] rfl)

set_option maxHeartbeats 4000000 in
set_option maxRecDepth 100000 in
theorem d_law9 {p : Program} {l : Launch} {e : Env} {s : State} {m : MethodId} {below : List Frame} {meth : Method} {c : Code} {b L : Nat} {xs : Nat → Int32} {dC : Nat → ClassId} {dI : Nat → Nat → Nat} {ad : Nat → Nat → Nat} {cid : Nat → ClassId} {h0 : Nat} {adm : Nat → Nat} {cidm : Nat → ClassId} {cO : ClassId} {qo : Nat} {A : Nat → Prop} (hl9 : l.stackTraces = false) (C0 : lw_At p s m meth c b L xs) (hL : L ≤ 4608) (hA : ∀ q : Nat, s.heap.size ≤ q → A q) (hbA : ¬ A b) (hG : CE ad A s) (hN9 : NE s) (hK : va_K (dC, dI) vwCl (cT cid ++ (mT cidm ++ [(cO, .long)])) s) (it : Nat) (i : Int32) (hit : it ≤ 511) (hi : i.toInt = 9 * (it : Int)) (hiL : i.toInt + 9 ≤ (L : Int)) (a2 : Nat → Nat) (lx : List Nat) (sg : Nat → Int32) (gm : Nat → Nat → Int32) (lg : Nat → Nat → Int64) (sm : Nat → Int32) (gn : Nat → Nat → Int32) (ln : Nat → Nat → Int64) (f : Nat → Int64) (H : Heap) (locs : List Loc) (ls : Array Slot) (hKI : KI it lx sg gm lg) (hRI : RI sm gn ln) (hREL : REL sg gm sm gn ln) (hP : va_P (dC, dI) vwCl (cW ad cid a2 lx sg gm lg ++ (mW h0 adm cidm sm gn ln ++ [(qo, oE cO f)])) H) (hD : va_D A (cW ad cid a2 lx sg gm lg ++ (mW h0 adm cidm sm gn ln ++ [(qo, oE cO f)]))) (hS : va_S A s.heap H locs) (hl : lv_has ls 7 [(4, .int i), (3, .ref qo), (2, .ref h0), (1, eV (ad 0) 0), (0, .ref b)]) (kont : ∀ (a2 : Nat → Nat) (lx : List Nat) (sg : Nat → Int32) (gm : Nat → Nat → Int32) (lg : Nat → Nat → Int64) (sm : Nat → Int32) (gn : Nat → Nat → Int32) (ln : Nat → Nat → Int64) (f : Nat → Int64) (H : Heap) (locs : List Loc) (ls : Array Slot), KI (it + 1) lx sg gm lg → RI sm gn ln → REL sg gm sm gn ln → va_P (dC, dI) vwCl (cW ad cid a2 lx sg gm lg ++ (mW h0 adm cidm sm gn ln ++ [(qo, oE cO f)])) H → va_D A (cW ad cid a2 lx sg gm lg ++ (mW h0 adm cidm sm gn ln ++ [(qo, oE cO f)])) → va_S A s.heap H locs → lv_has ls 7 [(4, .int i), (3, .ref qo), (2, .ref h0), (1, eV (ad 0) 0), (0, .ref b)] → W p l e room_1 s m #[Value.ref b] below meth c H locs (10000 + 3 * (it + 1) + PHs gm) (400000 + 18 * (it + 1) + 4 * PHs gm) (lw_Z below #[Value.ref b] s) (F0 m 801 ls [])) : W p l e room_1 s m #[Value.ref b] below meth c H locs (10000 + 3 * it + PHs gm) (400000 + 18 * it + 4 * PHs gm) (lw_Z below #[Value.ref b] s) (F0 m 624 ls []) := by
  obtain ⟨hx, hb, hr, hml, hown, hts, hX, hbl, hlocks, hgv⟩ := C0
  have hown : s.vm.findClass RL = some m.cls := hown
  have htb := fun (w : Cond) (h : w ∈ tb) => hts w (tb_in w h)
  have kI := hKI.1
  have hiv : iv 0 4599 i := ⟨by omega, by omega⟩
  refine ec_aload_n hx hb dL_law_624 rfl (lv_at hl 3 rfl) ?_
  refine lv_aload_n hx hb dL_law_625 rfl (lv_at hl 4 rfl) ?_
  refine lv_iload hx hb dL_law_626 (lv_at hl 0 rfl) ?_
  refine lv_iconst (v := 1) hx hb dL_law_628 (by decide) ?_
  refine lv_iadd hx hb dL_law_629 ?_
  refine lv_topi (fun z_1 ez_1 => ?_)
  have tz_1 : z_1.toInt = i.toInt + 1 := by rw [ez_1]; exact iv_addE hiv (iv_k (by decide) : iv 1 1 1) (by decide)
  refine va_sld hx hb hX hbl hbA hS (vp_in_iff.mpr ⟨by omega, by omega⟩) dL_law_630 ?_
  refine lv_topi (fun v_2 ev_2 => ?_)
  refine lv_aload_n hx hb dL_law_631 rfl (lv_at hl 4 rfl) ?_
  refine lv_iload hx hb dL_law_632 (lv_at hl 0 rfl) ?_
  refine lv_iconst (v := 2) hx hb dL_law_634 (by decide) ?_
  refine lv_iadd hx hb dL_law_635 ?_
  refine lv_topi (fun z_3 ez_3 => ?_)
  have tz_3 : z_3.toInt = i.toInt + 2 := by rw [ez_3]; exact iv_addE hiv (iv_k (by decide) : iv 2 2 2) (by decide)
  refine va_sld hx hb hX hbl hbA hS (vp_in_iff.mpr ⟨by omega, by omega⟩) dL_law_636 ?_
  refine lv_topi (fun v_4 ev_4 => ?_)
  refine lv_aload_n hx hb dL_law_637 rfl (lv_at hl 1 rfl) ?_
  refine lw_callH (rest := []) (as := [eV (ad 0) 0, .int v_2, .int v_4, .ref qo]) ⟨hx, hb, hml, hown, htb⟩ (d_hcall l hl9 dC dI ad cid cO qo a2 lx sg gm lg f it v_2 v_4 hKI (by omega)) (vx_cwSW 4 htb (gd_S kw_1282 kw_1283 kw_304 kw_1643) rfl rfl rfl (by decide +kernel) ⟨Nat.le_of_ble_eq_true rfl, Nat.le_of_ble_eq_true rfl⟩) rfl hl.1 rfl (Nat.le_trans cs_n (by decide)) dL_law_638 ⟨(show 10000 + 3 * it + PHs gm + 60963 ≤ 601024 from by have := PHs_le kI; omega), (show 400000 + 18 * it + 4 * PHs gm + 243858 ≤ 7293034 from by have := PHs_le kI; omega)⟩ hK hP hD hS hA hG hN9 (fun r9 u f9 H locs hw hmu hP hD hS => ?_)
  obtain ⟨a29, lx9, sg9, gm9, lg9⟩ := u
  have hKI2 : KI (it + 1) lx9 sg9 gm9 lg9 := hw.1
  have kI2 := hKI2.1
  have hph : PHs gm ≤ PHs gm9 := hmu
  have hP : va_P (dC, dI) vwCl (cW ad cid a29 lx9 sg9 gm9 lg9 ++ (mW h0 adm cidm sm gn ln ++ [(qo, oE cO f9)])) H := hP
  have hD : va_D A (cW ad cid a29 lx9 sg9 gm9 lg9 ++ (mW h0 adm cidm sm gn ln ++ [(qo, oE cO f9)])) := hD
  refine lv_istore (lv' := [(5, .int r9), (4, .int i), (3, .ref qo), (2, .ref h0), (1, eV (ad 0) 0), (0, .ref b)]) hx hb dL_law_641 hl (by decide) (by simp [List.filter, eV_cat, cat_i, cat_l, cat_r]) (fun ls hl => ?_)
  refine lv_aload_n hx hb dL_law_643 rfl (lv_at hl 3 rfl) ?_
  refine lv_aload_n hx hb dL_law_644 rfl (lv_at hl 5 rfl) ?_
  refine lv_iload hx hb dL_law_645 (lv_at hl 1 rfl) ?_
  refine lv_iconst (v := 1) hx hb dL_law_647 (by decide) ?_
  refine lv_iadd hx hb dL_law_648 ?_
  refine lv_topi (fun z_5 ez_5 => ?_)
  have tz_5 : z_5.toInt = i.toInt + 1 := by rw [ez_5]; exact iv_addE hiv (iv_k (by decide) : iv 1 1 1) (by decide)
  refine va_sld hx hb hX hbl hbA hS (vp_in_iff.mpr ⟨by omega, by omega⟩) dL_law_649 ?_
  refine W.eq (g2 := F0 m 650 ls [.int v_2, .ref h0]) (by rw [ev_2, show z_5 = z_1 from Int32.toInt_inj.mp (by omega)]) ?_
  refine lv_aload_n hx hb dL_law_650 rfl (lv_at hl 5 rfl) ?_
  refine lv_iload hx hb dL_law_651 (lv_at hl 1 rfl) ?_
  refine lv_iconst (v := 2) hx hb dL_law_653 (by decide) ?_
  refine lv_iadd hx hb dL_law_654 ?_
  refine lv_topi (fun z_6 ez_6 => ?_)
  have tz_6 : z_6.toInt = i.toInt + 2 := by rw [ez_6]; exact iv_addE hiv (iv_k (by decide) : iv 2 2 2) (by decide)
  refine va_sld hx hb hX hbl hbA hS (vp_in_iff.mpr ⟨by omega, by omega⟩) dL_law_655 ?_
  refine W.eq (g2 := F0 m 656 ls [.int v_4, .int v_2, .ref h0]) (by rw [ev_4, show z_6 = z_3 from Int32.toInt_inj.mp (by omega)]) ?_
  refine lw_callM (w := cW ad cid a29 lx9 sg9 gm9 lg9) (tw := cT cid) (r := [(qo, oE cO f9)]) (tr := [(cO, .long)]) (rest := []) (as := [.int v_2, .int v_4]) ⟨hx, hb, hml, hown, htb⟩ (f_call l dC dI h0 adm cidm sm gn ln v_2 v_4 hRI.1 hRI.2.2.1 hRI.2.1 hRI.2.2.2.1 hRI.2.2.2.2) (cwV 2 htb (gd_V kw_1300 kw_1301 kw_1302 kw_5 kw_1648) rfl rfl rfl (by decide +kernel) ⟨Nat.le_of_ble_eq_true rfl, Nat.le_of_ble_eq_true rfl⟩) rfl hl.1 rfl (Nat.le_trans cs_n (by decide)) dL_law_656 ⟨(show 10000 + 3 * it + PHs gm + gc gm gm9 2 ≤ 601024 from by have := PHs_le kI2; have := PHs_le kI; have q9 := gc_l0 (gm := gm) (k := 2) kI2; omega), (show 400000 + 18 * it + 4 * PHs gm + gs gm gm9 2 ≤ 7293034 from by have := PHs_le kI2; have := PHs_le kI; have q9 := gs_l0 (gm := gm) (k := 2) kI2; omega)⟩ hK hP hD hS hA (fun r8 u8 H locs hw hP hD hS => ?_)
  obtain ⟨sm9, gn9, ln9, rfl, hI8, j1, j2, j3, gG, gM⟩ := hw
  have hRI2 : RI sm9 gn9 ln9 := RI_mk hRI hI8 gG gM j1 j2 j3 (by decide) (by decide) (by decide) (by decide) (by decide) (by decide)
  have hP : va_P (dC, dI) vwCl (cW ad cid a29 lx9 sg9 gm9 lg9 ++ (mW h0 adm cidm sm9 gn9 ln9 ++ [(qo, oE cO f9)])) H := hP
  have hD : va_D A (cW ad cid a29 lx9 sg9 gm9 lg9 ++ (mW h0 adm cidm sm9 gn9 ln9 ++ [(qo, oE cO f9)])) := hD
  refine lv_istore (lv' := [(6, .int r8), (5, .int r9), (4, .int i), (3, .ref qo), (2, .ref h0), (1, eV (ad 0) 0), (0, .ref b)]) hx hb dL_law_659 hl (by decide) (by simp [List.filter, eV_cat, cat_i, cat_l, cat_r]) (fun ls hl => ?_)
  refine lv_goto (tgt := 801) hx hb dL_law_661 (by decide) ?_
  have hREL2 : REL sg9 gm9 sm9 gn9 ln9 := ⟨TXR_k hREL.1 hw.2.1 hw.2.2 (j1 20 (by decide)) (j2 19 (by decide)), ENT_k hREL.2.1 (j2 3 (by decide)) (j2 4 (by decide)) (j3 2 (by decide)), WRD7_k hREL.2.2 (j3 0 (by decide)) (j3 1 (by decide))⟩
  refine W.widen (k := 10000 + 3 * (it + 1) + PHs gm9) (n := 400000 + 18 * (it + 1) + 4 * PHs gm9) (show 10000 + 3 * it + PHs gm + gc gm gm9 2 ≤ _ from by unfold gc PH; omega) (show 400000 + 18 * it + 4 * PHs gm + gs gm gm9 2 ≤ _ from by unfold gs PH; omega) ?_
  exact kont a29 lx9 sg9 gm9 lg9 sm9 gn9 ln9 f9 _ _ _ hKI2 hRI2 hREL2 hP hD hS (lv_sub hl [2, 3, 4, 5, 6] rfl)

set_option maxHeartbeats 4000000 in
set_option maxRecDepth 100000 in
theorem d_law10 {p : Program} {l : Launch} {e : Env} {s : State} {m : MethodId} {below : List Frame} {meth : Method} {c : Code} {b L : Nat} {xs : Nat → Int32} {dC : Nat → ClassId} {dI : Nat → Nat → Nat} {ad : Nat → Nat → Nat} {cid : Nat → ClassId} {h0 : Nat} {adm : Nat → Nat} {cidm : Nat → ClassId} {cO : ClassId} {qo : Nat} {A : Nat → Prop} (hl9 : l.stackTraces = false) (C0 : lw_At p s m meth c b L xs) (hL : L ≤ 4608) (hA : ∀ q : Nat, s.heap.size ≤ q → A q) (hbA : ¬ A b) (hG : CE ad A s) (hN9 : NE s) (hK : va_K (dC, dI) vwCl (cT cid ++ (mT cidm ++ [(cO, .long)])) s) (it : Nat) (i : Int32) (hit : it ≤ 511) (hi : i.toInt = 9 * (it : Int)) (hiL : i.toInt + 9 ≤ (L : Int)) (a2 : Nat → Nat) (lx : List Nat) (sg : Nat → Int32) (gm : Nat → Nat → Int32) (lg : Nat → Nat → Int64) (sm : Nat → Int32) (gn : Nat → Nat → Int32) (ln : Nat → Nat → Int64) (f : Nat → Int64) (H : Heap) (locs : List Loc) (ls : Array Slot) (hKI : KI it lx sg gm lg) (hRI : RI sm gn ln) (hREL : REL sg gm sm gn ln) (hP : va_P (dC, dI) vwCl (cW ad cid a2 lx sg gm lg ++ (mW h0 adm cidm sm gn ln ++ [(qo, oE cO f)])) H) (hD : va_D A (cW ad cid a2 lx sg gm lg ++ (mW h0 adm cidm sm gn ln ++ [(qo, oE cO f)]))) (hS : va_S A s.heap H locs) (hl : lv_has ls 7 [(4, .int i), (3, .ref qo), (2, .ref h0), (1, eV (ad 0) 0), (0, .ref b)]) (kont : ∀ (a2 : Nat → Nat) (lx : List Nat) (sg : Nat → Int32) (gm : Nat → Nat → Int32) (lg : Nat → Nat → Int64) (sm : Nat → Int32) (gn : Nat → Nat → Int32) (ln : Nat → Nat → Int64) (f : Nat → Int64) (H : Heap) (locs : List Loc) (ls : Array Slot), KI (it + 1) lx sg gm lg → RI sm gn ln → REL sg gm sm gn ln → va_P (dC, dI) vwCl (cW ad cid a2 lx sg gm lg ++ (mW h0 adm cidm sm gn ln ++ [(qo, oE cO f)])) H → va_D A (cW ad cid a2 lx sg gm lg ++ (mW h0 adm cidm sm gn ln ++ [(qo, oE cO f)])) → va_S A s.heap H locs → lv_has ls 7 [(4, .int i), (3, .ref qo), (2, .ref h0), (1, eV (ad 0) 0), (0, .ref b)] → W p l e room_1 s m #[Value.ref b] below meth c H locs (10000 + 3 * (it + 1) + PHs gm) (400000 + 18 * (it + 1) + 4 * PHs gm) (lw_Z below #[Value.ref b] s) (F0 m 801 ls [])) : W p l e room_1 s m #[Value.ref b] below meth c H locs (10000 + 3 * it + PHs gm) (400000 + 18 * it + 4 * PHs gm) (lw_Z below #[Value.ref b] s) (F0 m 664 ls []) := by
  obtain ⟨hx, hb, hr, hml, hown, hts, hX, hbl, hlocks, hgv⟩ := C0
  have hown : s.vm.findClass RL = some m.cls := hown
  have htb := fun (w : Cond) (h : w ∈ tb) => hts w (tb_in w h)
  have kI := hKI.1
  have hiv : iv 0 4599 i := ⟨by omega, by omega⟩
  refine ec_aload_n hx hb dL_law_664 rfl (lv_at hl 3 rfl) ?_
  refine lw_callT (r := (mW h0 adm cidm sm gn ln ++ [(qo, oE cO f)])) (tr := mT cidm ++ [(cO, .long)]) (rest := []) (as := []) ⟨hx, hb, hml, hown, htb⟩ (d_close l dC dI ad cid a2 lx sg gm lg 0 kI (iv_k (by decide) : iv 0 0 0) hKI.2.2.1) (cwV 0 htb (gd_V kw_1303 kw_1304 kw_1305 kw_2 kw_1649) rfl rfl rfl (by decide +kernel) ⟨Nat.le_of_ble_eq_true rfl, Nat.le_of_ble_eq_true rfl⟩) (iv_k (by decide) : iv 0 0 0) rfl hl.1 rfl (Nat.le_trans cs_n (by decide)) dL_law_665 ⟨(show 10000 + 3 * it + PHs gm + 1 ≤ 601024 from by have := PHs_le kI; omega), (show 400000 + 18 * it + 4 * PHs gm + 6 ≤ 7293034 from by have := PHs_le kI; omega)⟩ hK hP hD hS hA hG (fun _ _ h9 => h9) (fun v9 u H locs hw hP hD hS => ?_)
  obtain ⟨r9, rfl, sg9, gm9, lg9, rfl, hI9, k1, k2, k3, hr9, fM, f15⟩ := hw
  have hKI2 : KI (it + 1) lx sg9 gm9 lg9 := KI_cl hKI hI9 k1 k2 k3 fM f15 (by decide) (by decide) (by decide)
  have hph : PHs gm ≤ PHs gm9 := Nat.le_of_eq (PHs_e (k2 42 (by decide))).symm
  have hP : va_P (dC, dI) vwCl (cW ad cid a2 lx sg9 gm9 lg9 ++ (mW h0 adm cidm sm gn ln ++ [(qo, oE cO f)])) H := hP
  have hD : va_D A (cW ad cid a2 lx sg9 gm9 lg9 ++ (mW h0 adm cidm sm gn ln ++ [(qo, oE cO f)])) := hD
  refine W.eq (g2 := F0 m 668 ls [.int r9]) rfl ?_
  refine lv_pop hx hb dL_law_668 (cat_i _) ?_
  refine lv_aload_n hx hb dL_law_669 rfl (lv_at hl 2 rfl) ?_
  refine lw_callM (w := cW ad cid a2 lx sg9 gm9 lg9) (tw := cT cid) (r := [(qo, oE cO f)]) (tr := [(cO, .long)]) (rest := []) (as := []) ⟨hx, hb, hml, hown, htb⟩ (f_close l dC dI h0 adm cidm sm gn ln hRI.1 hRI.2.2.1 hRI.2.1 hRI.2.2.2.1 hRI.2.2.2.2) (cwV 0 htb (gd_V kw_1310 kw_1311 kw_1312 kw_5 kw_1651) rfl rfl rfl (by decide +kernel) ⟨Nat.le_of_ble_eq_true rfl, Nat.le_of_ble_eq_true rfl⟩) rfl hl.1 rfl (Nat.le_trans cs_n (by decide)) dL_law_670 ⟨(show 10000 + 3 * it + PHs gm ≤ 601024 from by have := PHs_le kI; omega), (show 400000 + 18 * it + 4 * PHs gm ≤ 7293034 from by have := PHs_le kI; omega)⟩ hK hP hD hS hA (fun r8 u8 H locs hw hP hD hS => ?_)
  obtain ⟨sm9, gn9, ln9, rfl, hI8, j1, j2, j3, gG, gM⟩ := hw
  have hRI2 : RI sm9 gn9 ln9 := RI_mk hRI hI8 gG gM j1 j2 j3 (by decide) (by decide) (by decide) (by decide) (by decide) (by decide)
  have hP : va_P (dC, dI) vwCl (cW ad cid a2 lx sg9 gm9 lg9 ++ (mW h0 adm cidm sm9 gn9 ln9 ++ [(qo, oE cO f)])) H := hP
  have hD : va_D A (cW ad cid a2 lx sg9 gm9 lg9 ++ (mW h0 adm cidm sm9 gn9 ln9 ++ [(qo, oE cO f)])) := hD
  refine lv_pop hx hb dL_law_673 (cat_i _) ?_
  refine lv_goto (tgt := 801) hx hb dL_law_674 (by decide) ?_
  have hREL2 : REL sg9 gm9 sm9 gn9 ln9 := ⟨TXR_k hREL.1 (k1 0 (by decide)) (k2 43 (by decide)) (j1 20 (by decide)) (j2 19 (by decide)), ENT_k hREL.2.1 (j2 3 (by decide)) (j2 4 (by decide)) (j3 2 (by decide)), WRD7_k hREL.2.2 (j3 0 (by decide)) (j3 1 (by decide))⟩
  refine W.widen (k := 10000 + 3 * (it + 1) + PHs gm9) (n := 400000 + 18 * (it + 1) + 4 * PHs gm9) (show 10000 + 3 * it + PHs gm ≤ _ from by omega) (show 400000 + 18 * it + 4 * PHs gm ≤ _ from by omega) ?_
  exact kont a2 lx sg9 gm9 lg9 sm9 gn9 ln9 f _ _ _ hKI2 hRI2 hREL2 hP hD hS (lv_sub hl [0, 1, 2, 3, 4] rfl)

set_option maxHeartbeats 4000000 in
set_option maxRecDepth 100000 in
theorem d_law11 {p : Program} {l : Launch} {e : Env} {s : State} {m : MethodId} {below : List Frame} {meth : Method} {c : Code} {b L : Nat} {xs : Nat → Int32} {dC : Nat → ClassId} {dI : Nat → Nat → Nat} {ad : Nat → Nat → Nat} {cid : Nat → ClassId} {h0 : Nat} {adm : Nat → Nat} {cidm : Nat → ClassId} {cO : ClassId} {qo : Nat} {A : Nat → Prop} (hl9 : l.stackTraces = false) (C0 : lw_At p s m meth c b L xs) (hL : L ≤ 4608) (hA : ∀ q : Nat, s.heap.size ≤ q → A q) (hbA : ¬ A b) (hG : CE ad A s) (hN9 : NE s) (hK : va_K (dC, dI) vwCl (cT cid ++ (mT cidm ++ [(cO, .long)])) s) (it : Nat) (i : Int32) (hit : it ≤ 511) (hi : i.toInt = 9 * (it : Int)) (hiL : i.toInt + 9 ≤ (L : Int)) (a2 : Nat → Nat) (lx : List Nat) (sg : Nat → Int32) (gm : Nat → Nat → Int32) (lg : Nat → Nat → Int64) (sm : Nat → Int32) (gn : Nat → Nat → Int32) (ln : Nat → Nat → Int64) (f : Nat → Int64) (H : Heap) (locs : List Loc) (ls : Array Slot) (hKI : KI it lx sg gm lg) (hRI : RI sm gn ln) (hREL : REL sg gm sm gn ln) (hP : va_P (dC, dI) vwCl (cW ad cid a2 lx sg gm lg ++ (mW h0 adm cidm sm gn ln ++ [(qo, oE cO f)])) H) (hD : va_D A (cW ad cid a2 lx sg gm lg ++ (mW h0 adm cidm sm gn ln ++ [(qo, oE cO f)]))) (hS : va_S A s.heap H locs) (hl : lv_has ls 7 [(4, .int i), (3, .ref qo), (2, .ref h0), (1, eV (ad 0) 0), (0, .ref b)]) (kont : ∀ (a2 : Nat → Nat) (lx : List Nat) (sg : Nat → Int32) (gm : Nat → Nat → Int32) (lg : Nat → Nat → Int64) (sm : Nat → Int32) (gn : Nat → Nat → Int32) (ln : Nat → Nat → Int64) (f : Nat → Int64) (H : Heap) (locs : List Loc) (ls : Array Slot), KI (it + 1) lx sg gm lg → RI sm gn ln → REL sg gm sm gn ln → va_P (dC, dI) vwCl (cW ad cid a2 lx sg gm lg ++ (mW h0 adm cidm sm gn ln ++ [(qo, oE cO f)])) H → va_D A (cW ad cid a2 lx sg gm lg ++ (mW h0 adm cidm sm gn ln ++ [(qo, oE cO f)])) → va_S A s.heap H locs → lv_has ls 7 [(4, .int i), (3, .ref qo), (2, .ref h0), (1, eV (ad 0) 0), (0, .ref b)] → W p l e room_1 s m #[Value.ref b] below meth c H locs (10000 + 3 * (it + 1) + PHs gm) (400000 + 18 * (it + 1) + 4 * PHs gm) (lw_Z below #[Value.ref b] s) (F0 m 801 ls [])) : W p l e room_1 s m #[Value.ref b] below meth c H locs (10000 + 3 * it + PHs gm) (400000 + 18 * it + 4 * PHs gm) (lw_Z below #[Value.ref b] s) (F0 m 677 ls []) := by
  obtain ⟨hx, hb, hr, hml, hown, hts, hX, hbl, hlocks, hgv⟩ := C0
  have hown : s.vm.findClass RL = some m.cls := hown
  have htb := fun (w : Cond) (h : w ∈ tb) => hts w (tb_in w h)
  have kI := hKI.1
  have hiv : iv 0 4599 i := ⟨by omega, by omega⟩
  refine ec_aload_n hx hb dL_law_677 rfl (lv_at hl 3 rfl) ?_
  refine lw_callT (r := (mW h0 adm cidm sm gn ln ++ [(qo, oE cO f)])) (tr := mT cidm ++ [(cO, .long)]) (rest := []) (as := []) ⟨hx, hb, hml, hown, htb⟩ (d_events l dC dI ad cid a2 lx sg gm lg 0 kI (iv_k (by decide) : iv 0 0 0)) (cwV 0 htb (gd_V kw_1313 kw_1314 kw_1315 kw_2 kw_1652) rfl rfl rfl (by decide +kernel) ⟨Nat.le_of_ble_eq_true rfl, Nat.le_of_ble_eq_true rfl⟩) (iv_k (by decide) : iv 0 0 0) rfl hl.1 rfl (Nat.le_trans cs_n (by decide)) dL_law_678 ⟨(show 10000 + 3 * it + PHs gm + 1 ≤ 601024 from by have := PHs_le kI; omega), (show 400000 + 18 * it + 4 * PHs gm + 6 ≤ 7293034 from by have := PHs_le kI; omega)⟩ hK hP hD hS hA hG (fun _ _ h9 => h9) (fun v9 u H locs hw hP hD hS => ?_)
  obtain ⟨r9, rfl, rfl, hr9⟩ := hw
  have hKI2 : KI (it + 1) lx sg gm lg := KI_of (Ls := []) (Lg := []) (Ll := []) hKI kI KS_rf KS_rf KS_rf (by decide) (by decide) (by decide)
  have hph : PHs gm ≤ PHs gm := Nat.le_refl _
  have hP : va_P (dC, dI) vwCl (cW ad cid a2 lx sg gm lg ++ (mW h0 adm cidm sm gn ln ++ [(qo, oE cO f)])) H := hP
  have hD : va_D A (cW ad cid a2 lx sg gm lg ++ (mW h0 adm cidm sm gn ln ++ [(qo, oE cO f)])) := hD
  refine W.eq (g2 := F0 m 681 ls [.int r9]) rfl ?_
  refine lv_pop hx hb dL_law_681 (cat_i _) ?_
  refine lv_aload_n hx hb dL_law_682 rfl (lv_at hl 2 rfl) ?_
  refine lw_callM (w := cW ad cid a2 lx sg gm lg) (tw := cT cid) (r := [(qo, oE cO f)]) (tr := [(cO, .long)]) (rest := []) (as := []) ⟨hx, hb, hml, hown, htb⟩ (a_events l dC dI h0 adm cidm sm gn ln hRI.1) (cwV 0 htb (gd_V kw_1316 kw_1317 kw_1318 kw_5 kw_1653) rfl rfl rfl (by decide +kernel) ⟨Nat.le_of_ble_eq_true rfl, Nat.le_of_ble_eq_true rfl⟩) rfl hl.1 rfl (Nat.le_trans cs_n (by decide)) dL_law_683 ⟨(show 10000 + 3 * it + PHs gm ≤ 601024 from by have := PHs_le kI; omega), (show 400000 + 18 * it + 4 * PHs gm ≤ 7293034 from by have := PHs_le kI; omega)⟩ hK hP hD hS hA (fun r8 u8 H locs hw hP hD hS => ?_)
  obtain ⟨sm9, gn9, ln9, rfl, hI8, j1, j2, j3⟩ := hw
  have hRI2 : RI sm9 gn9 ln9 := RI_of hRI hI8 (PR_k hRI.2.1 (j2 6 (by decide))) j1 j2 j3 (by decide) (by decide) (by decide) (by decide) (by decide) (by decide) (by decide) (by decide) (by decide) (by decide)
  have hP : va_P (dC, dI) vwCl (cW ad cid a2 lx sg gm lg ++ (mW h0 adm cidm sm9 gn9 ln9 ++ [(qo, oE cO f)])) H := hP
  have hD : va_D A (cW ad cid a2 lx sg gm lg ++ (mW h0 adm cidm sm9 gn9 ln9 ++ [(qo, oE cO f)])) := hD
  refine lv_pop hx hb dL_law_686 (cat_i _) ?_
  refine lv_goto (tgt := 801) hx hb dL_law_687 (by decide) ?_
  have hREL2 : REL sg gm sm9 gn9 ln9 := ⟨TXR_k hREL.1 rfl rfl (j1 20 (by decide)) (j2 19 (by decide)), ENT_k hREL.2.1 (j2 3 (by decide)) (j2 4 (by decide)) (j3 2 (by decide)), WRD7_k hREL.2.2 (j3 0 (by decide)) (j3 1 (by decide))⟩
  refine W.widen (k := 10000 + 3 * (it + 1) + PHs gm) (n := 400000 + 18 * (it + 1) + 4 * PHs gm) (show 10000 + 3 * it + PHs gm ≤ _ from by omega) (show 400000 + 18 * it + 4 * PHs gm ≤ _ from by omega) ?_
  exact kont a2 lx sg gm lg sm9 gn9 ln9 f _ _ _ hKI2 hRI2 hREL2 hP hD hS (lv_sub hl [0, 1, 2, 3, 4] rfl)

set_option maxHeartbeats 4000000 in
set_option maxRecDepth 100000 in
theorem d_law12 {p : Program} {l : Launch} {e : Env} {s : State} {m : MethodId} {below : List Frame} {meth : Method} {c : Code} {b L : Nat} {xs : Nat → Int32} {dC : Nat → ClassId} {dI : Nat → Nat → Nat} {ad : Nat → Nat → Nat} {cid : Nat → ClassId} {h0 : Nat} {adm : Nat → Nat} {cidm : Nat → ClassId} {cO : ClassId} {qo : Nat} {A : Nat → Prop} (hl9 : l.stackTraces = false) (C0 : lw_At p s m meth c b L xs) (hL : L ≤ 4608) (hA : ∀ q : Nat, s.heap.size ≤ q → A q) (hbA : ¬ A b) (hG : CE ad A s) (hN9 : NE s) (hK : va_K (dC, dI) vwCl (cT cid ++ (mT cidm ++ [(cO, .long)])) s) (it : Nat) (i : Int32) (hit : it ≤ 511) (hi : i.toInt = 9 * (it : Int)) (hiL : i.toInt + 9 ≤ (L : Int)) (a2 : Nat → Nat) (lx : List Nat) (sg : Nat → Int32) (gm : Nat → Nat → Int32) (lg : Nat → Nat → Int64) (sm : Nat → Int32) (gn : Nat → Nat → Int32) (ln : Nat → Nat → Int64) (f : Nat → Int64) (H : Heap) (locs : List Loc) (ls : Array Slot) (hKI : KI it lx sg gm lg) (hRI : RI sm gn ln) (hREL : REL sg gm sm gn ln) (hP : va_P (dC, dI) vwCl (cW ad cid a2 lx sg gm lg ++ (mW h0 adm cidm sm gn ln ++ [(qo, oE cO f)])) H) (hD : va_D A (cW ad cid a2 lx sg gm lg ++ (mW h0 adm cidm sm gn ln ++ [(qo, oE cO f)]))) (hS : va_S A s.heap H locs) (hl : lv_has ls 7 [(4, .int i), (3, .ref qo), (2, .ref h0), (1, eV (ad 0) 0), (0, .ref b)]) (kont : ∀ (a2 : Nat → Nat) (lx : List Nat) (sg : Nat → Int32) (gm : Nat → Nat → Int32) (lg : Nat → Nat → Int64) (sm : Nat → Int32) (gn : Nat → Nat → Int32) (ln : Nat → Nat → Int64) (f : Nat → Int64) (H : Heap) (locs : List Loc) (ls : Array Slot), KI (it + 1) lx sg gm lg → RI sm gn ln → REL sg gm sm gn ln → va_P (dC, dI) vwCl (cW ad cid a2 lx sg gm lg ++ (mW h0 adm cidm sm gn ln ++ [(qo, oE cO f)])) H → va_D A (cW ad cid a2 lx sg gm lg ++ (mW h0 adm cidm sm gn ln ++ [(qo, oE cO f)])) → va_S A s.heap H locs → lv_has ls 7 [(4, .int i), (3, .ref qo), (2, .ref h0), (1, eV (ad 0) 0), (0, .ref b)] → W p l e room_1 s m #[Value.ref b] below meth c H locs (10000 + 3 * (it + 1) + PHs gm) (400000 + 18 * (it + 1) + 4 * PHs gm) (lw_Z below #[Value.ref b] s) (F0 m 801 ls [])) : W p l e room_1 s m #[Value.ref b] below meth c H locs (10000 + 3 * it + PHs gm) (400000 + 18 * it + 4 * PHs gm) (lw_Z below #[Value.ref b] s) (F0 m 690 ls []) := by
  obtain ⟨hx, hb, hr, hml, hown, hts, hX, hbl, hlocks, hgv⟩ := C0
  have hown : s.vm.findClass RL = some m.cls := hown
  have htb := fun (w : Cond) (h : w ∈ tb) => hts w (tb_in w h)
  have kI := hKI.1
  have hiv : iv 0 4599 i := ⟨by omega, by omega⟩
  refine ec_aload_n hx hb dL_law_690 rfl (lv_at hl 3 rfl) ?_
  refine lv_aload_n hx hb dL_law_691 rfl (lv_at hl 4 rfl) ?_
  refine lv_iload hx hb dL_law_692 (lv_at hl 0 rfl) ?_
  refine lv_iconst (v := 1) hx hb dL_law_694 (by decide) ?_
  refine lv_iadd hx hb dL_law_695 ?_
  refine lv_topi (fun z_1 ez_1 => ?_)
  have tz_1 : z_1.toInt = i.toInt + 1 := by rw [ez_1]; exact iv_addE hiv (iv_k (by decide) : iv 1 1 1) (by decide)
  refine va_sld hx hb hX hbl hbA hS (vp_in_iff.mpr ⟨by omega, by omega⟩) dL_law_696 ?_
  refine lv_topi (fun v_2 ev_2 => ?_)
  refine lv_aload_n hx hb dL_law_697 rfl (lv_at hl 4 rfl) ?_
  refine lv_iload hx hb dL_law_698 (lv_at hl 0 rfl) ?_
  refine lv_iconst (v := 2) hx hb dL_law_700 (by decide) ?_
  refine lv_iadd hx hb dL_law_701 ?_
  refine lv_topi (fun z_3 ez_3 => ?_)
  have tz_3 : z_3.toInt = i.toInt + 2 := by rw [ez_3]; exact iv_addE hiv (iv_k (by decide) : iv 2 2 2) (by decide)
  refine va_sld hx hb hX hbl hbA hS (vp_in_iff.mpr ⟨by omega, by omega⟩) dL_law_702 ?_
  refine lv_topi (fun v_4 ev_4 => ?_)
  refine lw_callT (r := (mW h0 adm cidm sm gn ln ++ [(qo, oE cO f)])) (tr := mT cidm ++ [(cO, .long)]) (rest := []) (as := [.int v_2, .int v_4]) ⟨hx, hb, hml, hown, htb⟩ (d_event l dC dI ad cid a2 lx sg gm lg 0 v_2 v_4 kI (iv_k (by decide) : iv 0 0 0)) (cwV 2 htb (gd_V kw_1319 kw_1320 kw_1321 kw_2 kw_1654) rfl rfl rfl (by decide +kernel) ⟨Nat.le_of_ble_eq_true rfl, Nat.le_of_ble_eq_true rfl⟩) (iv_k (by decide) : iv 0 0 0) rfl hl.1 rfl (Nat.le_trans cs_n (by decide)) dL_law_703 ⟨(show 10000 + 3 * it + PHs gm + 1 ≤ 601024 from by have := PHs_le kI; omega), (show 400000 + 18 * it + 4 * PHs gm + 6 ≤ 7293034 from by have := PHs_le kI; omega)⟩ hK hP hD hS hA hG (fun _ _ h9 => h9) (fun v9 u H locs hw hP hD hS => ?_)
  obtain ⟨r9, rfl, rfl⟩ := hw
  have hKI2 : KI (it + 1) lx sg gm lg := KI_of (Ls := []) (Lg := []) (Ll := []) hKI kI KS_rf KS_rf KS_rf (by decide) (by decide) (by decide)
  have hph : PHs gm ≤ PHs gm := Nat.le_refl _
  have hP : va_P (dC, dI) vwCl (cW ad cid a2 lx sg gm lg ++ (mW h0 adm cidm sm gn ln ++ [(qo, oE cO f)])) H := hP
  have hD : va_D A (cW ad cid a2 lx sg gm lg ++ (mW h0 adm cidm sm gn ln ++ [(qo, oE cO f)])) := hD
  refine W.eq (g2 := F0 m 706 ls [.int r9]) rfl ?_
  refine lv_pop hx hb dL_law_706 (cat_i _) ?_
  refine lv_aload_n hx hb dL_law_707 rfl (lv_at hl 2 rfl) ?_
  refine lv_aload_n hx hb dL_law_708 rfl (lv_at hl 4 rfl) ?_
  refine lv_iload hx hb dL_law_709 (lv_at hl 0 rfl) ?_
  refine lv_iconst (v := 1) hx hb dL_law_711 (by decide) ?_
  refine lv_iadd hx hb dL_law_712 ?_
  refine lv_topi (fun z_5 ez_5 => ?_)
  have tz_5 : z_5.toInt = i.toInt + 1 := by rw [ez_5]; exact iv_addE hiv (iv_k (by decide) : iv 1 1 1) (by decide)
  refine va_sld hx hb hX hbl hbA hS (vp_in_iff.mpr ⟨by omega, by omega⟩) dL_law_713 ?_
  refine W.eq (g2 := F0 m 714 ls [.int v_2, .ref h0]) (by rw [ev_2, show z_5 = z_1 from Int32.toInt_inj.mp (by omega)]) ?_
  refine lv_aload_n hx hb dL_law_714 rfl (lv_at hl 4 rfl) ?_
  refine lv_iload hx hb dL_law_715 (lv_at hl 0 rfl) ?_
  refine lv_iconst (v := 2) hx hb dL_law_717 (by decide) ?_
  refine lv_iadd hx hb dL_law_718 ?_
  refine lv_topi (fun z_6 ez_6 => ?_)
  have tz_6 : z_6.toInt = i.toInt + 2 := by rw [ez_6]; exact iv_addE hiv (iv_k (by decide) : iv 2 2 2) (by decide)
  refine va_sld hx hb hX hbl hbA hS (vp_in_iff.mpr ⟨by omega, by omega⟩) dL_law_719 ?_
  refine W.eq (g2 := F0 m 720 ls [.int v_4, .int v_2, .ref h0]) (by rw [ev_4, show z_6 = z_3 from Int32.toInt_inj.mp (by omega)]) ?_
  refine lw_callM (w := cW ad cid a2 lx sg gm lg) (tw := cT cid) (r := [(qo, oE cO f)]) (tr := [(cO, .long)]) (rest := []) (as := [.int v_2, .int v_4]) ⟨hx, hb, hml, hown, htb⟩ (a_event l dC dI h0 adm cidm sm gn ln v_2 v_4 hRI.1) (cwV 2 htb (gd_V kw_1325 kw_1326 kw_1327 kw_5 kw_1656) rfl rfl rfl (by decide +kernel) ⟨Nat.le_of_ble_eq_true rfl, Nat.le_of_ble_eq_true rfl⟩) rfl hl.1 rfl (Nat.le_trans cs_n (by decide)) dL_law_720 ⟨(show 10000 + 3 * it + PHs gm ≤ 601024 from by have := PHs_le kI; omega), (show 400000 + 18 * it + 4 * PHs gm ≤ 7293034 from by have := PHs_le kI; omega)⟩ hK hP hD hS hA (fun r8 u8 H locs hw hP hD hS => ?_)
  obtain ⟨sm9, gn9, ln9, rfl, hI8, j1, j2, j3⟩ := hw
  have hRI2 : RI sm9 gn9 ln9 := RI_of hRI hI8 (PR_k hRI.2.1 (j2 6 (by decide))) j1 j2 j3 (by decide) (by decide) (by decide) (by decide) (by decide) (by decide) (by decide) (by decide) (by decide) (by decide)
  have hP : va_P (dC, dI) vwCl (cW ad cid a2 lx sg gm lg ++ (mW h0 adm cidm sm9 gn9 ln9 ++ [(qo, oE cO f)])) H := hP
  have hD : va_D A (cW ad cid a2 lx sg gm lg ++ (mW h0 adm cidm sm9 gn9 ln9 ++ [(qo, oE cO f)])) := hD
  refine lv_pop hx hb dL_law_723 (cat_i _) ?_
  refine lv_goto (tgt := 801) hx hb dL_law_724 (by decide) ?_
  have hREL2 : REL sg gm sm9 gn9 ln9 := ⟨TXR_k hREL.1 rfl rfl (j1 20 (by decide)) (j2 19 (by decide)), ENT_k hREL.2.1 (j2 3 (by decide)) (j2 4 (by decide)) (j3 2 (by decide)), WRD7_k hREL.2.2 (j3 0 (by decide)) (j3 1 (by decide))⟩
  refine W.widen (k := 10000 + 3 * (it + 1) + PHs gm) (n := 400000 + 18 * (it + 1) + 4 * PHs gm) (show 10000 + 3 * it + PHs gm ≤ _ from by omega) (show 400000 + 18 * it + 4 * PHs gm ≤ _ from by omega) ?_
  exact kont a2 lx sg gm lg sm9 gn9 ln9 f _ _ _ hKI2 hRI2 hREL2 hP hD hS (lv_sub hl [0, 1, 2, 3, 4] rfl)

set_option maxHeartbeats 4000000 in
set_option maxRecDepth 100000 in
theorem d_law13 {p : Program} {l : Launch} {e : Env} {s : State} {m : MethodId} {below : List Frame} {meth : Method} {c : Code} {b L : Nat} {xs : Nat → Int32} {dC : Nat → ClassId} {dI : Nat → Nat → Nat} {ad : Nat → Nat → Nat} {cid : Nat → ClassId} {h0 : Nat} {adm : Nat → Nat} {cidm : Nat → ClassId} {cO : ClassId} {qo : Nat} {A : Nat → Prop} (hl9 : l.stackTraces = false) (C0 : lw_At p s m meth c b L xs) (hL : L ≤ 4608) (hA : ∀ q : Nat, s.heap.size ≤ q → A q) (hbA : ¬ A b) (hG : CE ad A s) (hN9 : NE s) (hK : va_K (dC, dI) vwCl (cT cid ++ (mT cidm ++ [(cO, .long)])) s) (it : Nat) (i : Int32) (hit : it ≤ 511) (hi : i.toInt = 9 * (it : Int)) (hiL : i.toInt + 9 ≤ (L : Int)) (a2 : Nat → Nat) (lx : List Nat) (sg : Nat → Int32) (gm : Nat → Nat → Int32) (lg : Nat → Nat → Int64) (sm : Nat → Int32) (gn : Nat → Nat → Int32) (ln : Nat → Nat → Int64) (f : Nat → Int64) (H : Heap) (locs : List Loc) (ls : Array Slot) (hKI : KI it lx sg gm lg) (hRI : RI sm gn ln) (hREL : REL sg gm sm gn ln) (hP : va_P (dC, dI) vwCl (cW ad cid a2 lx sg gm lg ++ (mW h0 adm cidm sm gn ln ++ [(qo, oE cO f)])) H) (hD : va_D A (cW ad cid a2 lx sg gm lg ++ (mW h0 adm cidm sm gn ln ++ [(qo, oE cO f)]))) (hS : va_S A s.heap H locs) (hl : lv_has ls 7 [(4, .int i), (3, .ref qo), (2, .ref h0), (1, eV (ad 0) 0), (0, .ref b)]) (kont : ∀ (a2 : Nat → Nat) (lx : List Nat) (sg : Nat → Int32) (gm : Nat → Nat → Int32) (lg : Nat → Nat → Int64) (sm : Nat → Int32) (gn : Nat → Nat → Int32) (ln : Nat → Nat → Int64) (f : Nat → Int64) (H : Heap) (locs : List Loc) (ls : Array Slot), KI (it + 1) lx sg gm lg → RI sm gn ln → REL sg gm sm gn ln → va_P (dC, dI) vwCl (cW ad cid a2 lx sg gm lg ++ (mW h0 adm cidm sm gn ln ++ [(qo, oE cO f)])) H → va_D A (cW ad cid a2 lx sg gm lg ++ (mW h0 adm cidm sm gn ln ++ [(qo, oE cO f)])) → va_S A s.heap H locs → lv_has ls 7 [(4, .int i), (3, .ref qo), (2, .ref h0), (1, eV (ad 0) 0), (0, .ref b)] → W p l e room_1 s m #[Value.ref b] below meth c H locs (10000 + 3 * (it + 1) + PHs gm) (400000 + 18 * (it + 1) + 4 * PHs gm) (lw_Z below #[Value.ref b] s) (F0 m 801 ls [])) : W p l e room_1 s m #[Value.ref b] below meth c H locs (10000 + 3 * it + PHs gm) (400000 + 18 * it + 4 * PHs gm) (lw_Z below #[Value.ref b] s) (F0 m 727 ls []) := by
  obtain ⟨hx, hb, hr, hml, hown, hts, hX, hbl, hlocks, hgv⟩ := C0
  have hown : s.vm.findClass RL = some m.cls := hown
  have htb := fun (w : Cond) (h : w ∈ tb) => hts w (tb_in w h)
  have kI := hKI.1
  have hiv : iv 0 4599 i := ⟨by omega, by omega⟩
  refine ec_aload_n hx hb dL_law_727 rfl (lv_at hl 3 rfl) ?_
  refine lv_aload_n hx hb dL_law_728 rfl (lv_at hl 4 rfl) ?_
  refine lv_iload hx hb dL_law_729 (lv_at hl 0 rfl) ?_
  refine lv_iconst (v := 1) hx hb dL_law_731 (by decide) ?_
  refine lv_iadd hx hb dL_law_732 ?_
  refine lv_topi (fun z_1 ez_1 => ?_)
  have tz_1 : z_1.toInt = i.toInt + 1 := by rw [ez_1]; exact iv_addE hiv (iv_k (by decide) : iv 1 1 1) (by decide)
  refine va_sld hx hb hX hbl hbA hS (vp_in_iff.mpr ⟨by omega, by omega⟩) dL_law_733 ?_
  refine lv_topi (fun v_2 ev_2 => ?_)
  refine lv_aload_n hx hb dL_law_734 rfl (lv_at hl 4 rfl) ?_
  refine lv_iload hx hb dL_law_735 (lv_at hl 0 rfl) ?_
  refine lv_iconst (v := 2) hx hb dL_law_737 (by decide) ?_
  refine lv_iadd hx hb dL_law_738 ?_
  refine lv_topi (fun z_3 ez_3 => ?_)
  have tz_3 : z_3.toInt = i.toInt + 2 := by rw [ez_3]; exact iv_addE hiv (iv_k (by decide) : iv 2 2 2) (by decide)
  refine va_sld hx hb hX hbl hbA hS (vp_in_iff.mpr ⟨by omega, by omega⟩) dL_law_739 ?_
  refine lv_topi (fun v_4 ev_4 => ?_)
  refine lw_callT (r := (mW h0 adm cidm sm gn ln ++ [(qo, oE cO f)])) (tr := mT cidm ++ [(cO, .long)]) (rest := []) (as := [.int v_2, .int v_4]) ⟨hx, hb, hml, hown, htb⟩ (d_object l dC dI ad cid a2 lx sg gm lg 0 v_2 v_4 kI (iv_k (by decide) : iv 0 0 0)) (cwV 2 htb (gd_V kw_1328 kw_1329 kw_1330 kw_2 kw_1657) rfl rfl rfl (by decide +kernel) ⟨Nat.le_of_ble_eq_true rfl, Nat.le_of_ble_eq_true rfl⟩) (iv_k (by decide) : iv 0 0 0) rfl hl.1 rfl (Nat.le_trans cs_n (by decide)) dL_law_740 ⟨(show 10000 + 3 * it + PHs gm + 1 ≤ 601024 from by have := PHs_le kI; omega), (show 400000 + 18 * it + 4 * PHs gm + 6 ≤ 7293034 from by have := PHs_le kI; omega)⟩ hK hP hD hS hA hG (fun _ _ h9 => h9) (fun v9 u H locs hw hP hD hS => ?_)
  obtain ⟨r9, rfl, rfl, hr9⟩ := hw
  have hKI2 : KI (it + 1) lx sg gm lg := KI_of (Ls := []) (Lg := []) (Ll := []) hKI kI KS_rf KS_rf KS_rf (by decide) (by decide) (by decide)
  have hph : PHs gm ≤ PHs gm := Nat.le_refl _
  have hP : va_P (dC, dI) vwCl (cW ad cid a2 lx sg gm lg ++ (mW h0 adm cidm sm gn ln ++ [(qo, oE cO f)])) H := hP
  have hD : va_D A (cW ad cid a2 lx sg gm lg ++ (mW h0 adm cidm sm gn ln ++ [(qo, oE cO f)])) := hD
  refine W.eq (g2 := F0 m 743 ls [.int r9]) rfl ?_
  refine lv_pop hx hb dL_law_743 (cat_i _) ?_
  refine lv_aload_n hx hb dL_law_744 rfl (lv_at hl 2 rfl) ?_
  refine lv_aload_n hx hb dL_law_745 rfl (lv_at hl 4 rfl) ?_
  refine lv_iload hx hb dL_law_746 (lv_at hl 0 rfl) ?_
  refine lv_iconst (v := 1) hx hb dL_law_748 (by decide) ?_
  refine lv_iadd hx hb dL_law_749 ?_
  refine lv_topi (fun z_5 ez_5 => ?_)
  have tz_5 : z_5.toInt = i.toInt + 1 := by rw [ez_5]; exact iv_addE hiv (iv_k (by decide) : iv 1 1 1) (by decide)
  refine va_sld hx hb hX hbl hbA hS (vp_in_iff.mpr ⟨by omega, by omega⟩) dL_law_750 ?_
  refine W.eq (g2 := F0 m 751 ls [.int v_2, .ref h0]) (by rw [ev_2, show z_5 = z_1 from Int32.toInt_inj.mp (by omega)]) ?_
  refine lv_aload_n hx hb dL_law_751 rfl (lv_at hl 4 rfl) ?_
  refine lv_iload hx hb dL_law_752 (lv_at hl 0 rfl) ?_
  refine lv_iconst (v := 2) hx hb dL_law_754 (by decide) ?_
  refine lv_iadd hx hb dL_law_755 ?_
  refine lv_topi (fun z_6 ez_6 => ?_)
  have tz_6 : z_6.toInt = i.toInt + 2 := by rw [ez_6]; exact iv_addE hiv (iv_k (by decide) : iv 2 2 2) (by decide)
  refine va_sld hx hb hX hbl hbA hS (vp_in_iff.mpr ⟨by omega, by omega⟩) dL_law_756 ?_
  refine W.eq (g2 := F0 m 757 ls [.int v_4, .int v_2, .ref h0]) (by rw [ev_4, show z_6 = z_3 from Int32.toInt_inj.mp (by omega)]) ?_
  refine lw_callM (w := cW ad cid a2 lx sg gm lg) (tw := cT cid) (r := [(qo, oE cO f)]) (tr := [(cO, .long)]) (rest := []) (as := [.int v_2, .int v_4]) ⟨hx, hb, hml, hown, htb⟩ (a_object l dC dI h0 adm cidm sm gn ln v_2 v_4 hRI.1) (cwV 2 htb (gd_V kw_1337 kw_1338 kw_1339 kw_5 kw_1660) rfl rfl rfl (by decide +kernel) ⟨Nat.le_of_ble_eq_true rfl, Nat.le_of_ble_eq_true rfl⟩) rfl hl.1 rfl (Nat.le_trans cs_n (by decide)) dL_law_757 ⟨(show 10000 + 3 * it + PHs gm ≤ 601024 from by have := PHs_le kI; omega), (show 400000 + 18 * it + 4 * PHs gm ≤ 7293034 from by have := PHs_le kI; omega)⟩ hK hP hD hS hA (fun r8 u8 H locs hw hP hD hS => ?_)
  obtain ⟨sm9, gn9, ln9, rfl, hI8, j1, j2, j3⟩ := hw
  have hRI2 : RI sm9 gn9 ln9 := RI_of hRI hI8 (PR_k hRI.2.1 (j2 6 (by decide))) j1 j2 j3 (by decide) (by decide) (by decide) (by decide) (by decide) (by decide) (by decide) (by decide) (by decide) (by decide)
  have hP : va_P (dC, dI) vwCl (cW ad cid a2 lx sg gm lg ++ (mW h0 adm cidm sm9 gn9 ln9 ++ [(qo, oE cO f)])) H := hP
  have hD : va_D A (cW ad cid a2 lx sg gm lg ++ (mW h0 adm cidm sm9 gn9 ln9 ++ [(qo, oE cO f)])) := hD
  refine lv_pop hx hb dL_law_760 (cat_i _) ?_
  refine lv_goto (tgt := 801) hx hb dL_law_761 (by decide) ?_
  have hREL2 : REL sg gm sm9 gn9 ln9 := ⟨TXR_k hREL.1 rfl rfl (j1 20 (by decide)) (j2 19 (by decide)), ENT_k hREL.2.1 (j2 3 (by decide)) (j2 4 (by decide)) (j3 2 (by decide)), WRD7_k hREL.2.2 (j3 0 (by decide)) (j3 1 (by decide))⟩
  refine W.widen (k := 10000 + 3 * (it + 1) + PHs gm) (n := 400000 + 18 * (it + 1) + 4 * PHs gm) (show 10000 + 3 * it + PHs gm ≤ _ from by omega) (show 400000 + 18 * it + 4 * PHs gm ≤ _ from by omega) ?_
  exact kont a2 lx sg gm lg sm9 gn9 ln9 f _ _ _ hKI2 hRI2 hREL2 hP hD hS (lv_sub hl [0, 1, 2, 3, 4] rfl)

set_option maxHeartbeats 4000000 in
set_option maxRecDepth 100000 in
theorem d_law14 {p : Program} {l : Launch} {e : Env} {s : State} {m : MethodId} {below : List Frame} {meth : Method} {c : Code} {b L : Nat} {xs : Nat → Int32} {dC : Nat → ClassId} {dI : Nat → Nat → Nat} {ad : Nat → Nat → Nat} {cid : Nat → ClassId} {h0 : Nat} {adm : Nat → Nat} {cidm : Nat → ClassId} {cO : ClassId} {qo : Nat} {A : Nat → Prop} (hl9 : l.stackTraces = false) (C0 : lw_At p s m meth c b L xs) (hL : L ≤ 4608) (hA : ∀ q : Nat, s.heap.size ≤ q → A q) (hbA : ¬ A b) (hG : CE ad A s) (hN9 : NE s) (hK : va_K (dC, dI) vwCl (cT cid ++ (mT cidm ++ [(cO, .long)])) s) (it : Nat) (i : Int32) (hit : it ≤ 511) (hi : i.toInt = 9 * (it : Int)) (hiL : i.toInt + 9 ≤ (L : Int)) (a2 : Nat → Nat) (lx : List Nat) (sg : Nat → Int32) (gm : Nat → Nat → Int32) (lg : Nat → Nat → Int64) (sm : Nat → Int32) (gn : Nat → Nat → Int32) (ln : Nat → Nat → Int64) (f : Nat → Int64) (H : Heap) (locs : List Loc) (ls : Array Slot) (hKI : KI it lx sg gm lg) (hRI : RI sm gn ln) (hREL : REL sg gm sm gn ln) (hP : va_P (dC, dI) vwCl (cW ad cid a2 lx sg gm lg ++ (mW h0 adm cidm sm gn ln ++ [(qo, oE cO f)])) H) (hD : va_D A (cW ad cid a2 lx sg gm lg ++ (mW h0 adm cidm sm gn ln ++ [(qo, oE cO f)]))) (hS : va_S A s.heap H locs) (hl : lv_has ls 7 [(4, .int i), (3, .ref qo), (2, .ref h0), (1, eV (ad 0) 0), (0, .ref b)]) (kont : ∀ (a2 : Nat → Nat) (lx : List Nat) (sg : Nat → Int32) (gm : Nat → Nat → Int32) (lg : Nat → Nat → Int64) (sm : Nat → Int32) (gn : Nat → Nat → Int32) (ln : Nat → Nat → Int64) (f : Nat → Int64) (H : Heap) (locs : List Loc) (ls : Array Slot), KI (it + 1) lx sg gm lg → RI sm gn ln → REL sg gm sm gn ln → va_P (dC, dI) vwCl (cW ad cid a2 lx sg gm lg ++ (mW h0 adm cidm sm gn ln ++ [(qo, oE cO f)])) H → va_D A (cW ad cid a2 lx sg gm lg ++ (mW h0 adm cidm sm gn ln ++ [(qo, oE cO f)])) → va_S A s.heap H locs → lv_has ls 7 [(4, .int i), (3, .ref qo), (2, .ref h0), (1, eV (ad 0) 0), (0, .ref b)] → W p l e room_1 s m #[Value.ref b] below meth c H locs (10000 + 3 * (it + 1) + PHs gm) (400000 + 18 * (it + 1) + 4 * PHs gm) (lw_Z below #[Value.ref b] s) (F0 m 801 ls [])) : W p l e room_1 s m #[Value.ref b] below meth c H locs (10000 + 3 * it + PHs gm) (400000 + 18 * it + 4 * PHs gm) (lw_Z below #[Value.ref b] s) (F0 m 764 ls []) := by
  obtain ⟨hx, hb, hr, hml, hown, hts, hX, hbl, hlocks, hgv⟩ := C0
  have hown : s.vm.findClass RL = some m.cls := hown
  have htb := fun (w : Cond) (h : w ∈ tb) => hts w (tb_in w h)
  have kI := hKI.1
  have hiv : iv 0 4599 i := ⟨by omega, by omega⟩
  refine ec_aload_n hx hb dL_law_764 rfl (lv_at hl 3 rfl) ?_
  refine lv_aload_n hx hb dL_law_765 rfl (lv_at hl 4 rfl) ?_
  refine lv_iload hx hb dL_law_766 (lv_at hl 0 rfl) ?_
  refine lv_iconst (v := 1) hx hb dL_law_768 (by decide) ?_
  refine lv_iadd hx hb dL_law_769 ?_
  refine lv_topi (fun z_1 ez_1 => ?_)
  have tz_1 : z_1.toInt = i.toInt + 1 := by rw [ez_1]; exact iv_addE hiv (iv_k (by decide) : iv 1 1 1) (by decide)
  refine va_sld hx hb hX hbl hbA hS (vp_in_iff.mpr ⟨by omega, by omega⟩) dL_law_770 ?_
  refine lv_topi (fun v_2 ev_2 => ?_)
  refine lv_aload_n hx hb dL_law_771 rfl (lv_at hl 4 rfl) ?_
  refine lv_iload hx hb dL_law_772 (lv_at hl 0 rfl) ?_
  refine lv_iconst (v := 2) hx hb dL_law_774 (by decide) ?_
  refine lv_iadd hx hb dL_law_775 ?_
  refine lv_topi (fun z_3 ez_3 => ?_)
  have tz_3 : z_3.toInt = i.toInt + 2 := by rw [ez_3]; exact iv_addE hiv (iv_k (by decide) : iv 2 2 2) (by decide)
  refine va_sld hx hb hX hbl hbA hS (vp_in_iff.mpr ⟨by omega, by omega⟩) dL_law_776 ?_
  refine lv_topi (fun v_4 ev_4 => ?_)
  refine lw_callT (r := (mW h0 adm cidm sm gn ln ++ [(qo, oE cO f)])) (tr := mT cidm ++ [(cO, .long)]) (rest := []) (as := [.int v_2, .int v_4]) ⟨hx, hb, hml, hown, htb⟩ (d_bean l dC dI ad cid a2 lx sg gm lg 0 v_2 v_4 kI (iv_k (by decide) : iv 0 0 0) hKI.2.2.2.1) (cwV 2 htb (gd_V kw_1340 kw_1341 kw_1342 kw_2 kw_1661) rfl rfl rfl (by decide +kernel) ⟨Nat.le_of_ble_eq_true rfl, Nat.le_of_ble_eq_true rfl⟩) (iv_k (by decide) : iv 0 0 0) rfl hl.1 rfl (Nat.le_trans cs_n (by decide)) dL_law_777 ⟨(show 10000 + 3 * it + PHs gm + 1 ≤ 601024 from by have := PHs_le kI; omega), (show 400000 + 18 * it + 4 * PHs gm + 6 ≤ 7293034 from by have := PHs_le kI; omega)⟩ hK hP hD hS hA hG (fun _ _ h9 => h9) (fun v9 u H locs hw hP hD hS => ?_)
  obtain ⟨r9, rfl, rfl, hr9⟩ := hw
  have hKI2 : KI (it + 1) lx sg gm lg := KI_of (Ls := []) (Lg := []) (Ll := []) hKI kI KS_rf KS_rf KS_rf (by decide) (by decide) (by decide)
  have hph : PHs gm ≤ PHs gm := Nat.le_refl _
  have hP : va_P (dC, dI) vwCl (cW ad cid a2 lx sg gm lg ++ (mW h0 adm cidm sm gn ln ++ [(qo, oE cO f)])) H := hP
  have hD : va_D A (cW ad cid a2 lx sg gm lg ++ (mW h0 adm cidm sm gn ln ++ [(qo, oE cO f)])) := hD
  refine W.eq (g2 := F0 m 780 ls [.int r9]) rfl ?_
  refine lv_pop hx hb dL_law_780 (cat_i _) ?_
  refine lv_aload_n hx hb dL_law_781 rfl (lv_at hl 2 rfl) ?_
  refine lv_aload_n hx hb dL_law_782 rfl (lv_at hl 4 rfl) ?_
  refine lv_iload hx hb dL_law_783 (lv_at hl 0 rfl) ?_
  refine lv_iconst (v := 1) hx hb dL_law_785 (by decide) ?_
  refine lv_iadd hx hb dL_law_786 ?_
  refine lv_topi (fun z_5 ez_5 => ?_)
  have tz_5 : z_5.toInt = i.toInt + 1 := by rw [ez_5]; exact iv_addE hiv (iv_k (by decide) : iv 1 1 1) (by decide)
  refine va_sld hx hb hX hbl hbA hS (vp_in_iff.mpr ⟨by omega, by omega⟩) dL_law_787 ?_
  refine W.eq (g2 := F0 m 788 ls [.int v_2, .ref h0]) (by rw [ev_2, show z_5 = z_1 from Int32.toInt_inj.mp (by omega)]) ?_
  refine lv_aload_n hx hb dL_law_788 rfl (lv_at hl 4 rfl) ?_
  refine lv_iload hx hb dL_law_789 (lv_at hl 0 rfl) ?_
  refine lv_iconst (v := 2) hx hb dL_law_791 (by decide) ?_
  refine lv_iadd hx hb dL_law_792 ?_
  refine lv_topi (fun z_6 ez_6 => ?_)
  have tz_6 : z_6.toInt = i.toInt + 2 := by rw [ez_6]; exact iv_addE hiv (iv_k (by decide) : iv 2 2 2) (by decide)
  refine va_sld hx hb hX hbl hbA hS (vp_in_iff.mpr ⟨by omega, by omega⟩) dL_law_793 ?_
  refine W.eq (g2 := F0 m 794 ls [.int v_4, .int v_2, .ref h0]) (by rw [ev_4, show z_6 = z_3 from Int32.toInt_inj.mp (by omega)]) ?_
  refine lw_callM (w := cW ad cid a2 lx sg gm lg) (tw := cT cid) (r := [(qo, oE cO f)]) (tr := [(cO, .long)]) (rest := []) (as := [.int v_2, .int v_4]) ⟨hx, hb, hml, hown, htb⟩ (f_bean l dC dI h0 adm cidm sm gn ln v_2 v_4 hRI.1 hRI.2.2.1 hRI.2.1 hRI.2.2.2.1 hRI.2.2.2.2) (cwV 2 htb (gd_V kw_1348 kw_1349 kw_1350 kw_5 kw_1663) rfl rfl rfl (by decide +kernel) ⟨Nat.le_of_ble_eq_true rfl, Nat.le_of_ble_eq_true rfl⟩) rfl hl.1 rfl (Nat.le_trans cs_n (by decide)) dL_law_794 ⟨(show 10000 + 3 * it + PHs gm ≤ 601024 from by have := PHs_le kI; omega), (show 400000 + 18 * it + 4 * PHs gm ≤ 7293034 from by have := PHs_le kI; omega)⟩ hK hP hD hS hA (fun r8 u8 H locs hw hP hD hS => ?_)
  obtain ⟨sm9, gn9, ln9, rfl, hI8, j1, j2, j3, gG, gM⟩ := hw
  have hRI2 : RI sm9 gn9 ln9 := RI_mk hRI hI8 gG gM j1 j2 j3 (by decide) (by decide) (by decide) (by decide) (by decide) (by decide)
  have hP : va_P (dC, dI) vwCl (cW ad cid a2 lx sg gm lg ++ (mW h0 adm cidm sm9 gn9 ln9 ++ [(qo, oE cO f)])) H := hP
  have hD : va_D A (cW ad cid a2 lx sg gm lg ++ (mW h0 adm cidm sm9 gn9 ln9 ++ [(qo, oE cO f)])) := hD
  refine lv_pop hx hb dL_law_797 (cat_i _) ?_
  refine lv_goto (tgt := 801) hx hb dL_law_798 (by decide) ?_
  have hREL2 : REL sg gm sm9 gn9 ln9 := ⟨TXR_k hREL.1 rfl rfl (j1 20 (by decide)) (j2 19 (by decide)), ENT_k hREL.2.1 (j2 3 (by decide)) (j2 4 (by decide)) (j3 2 (by decide)), WRD7_k hREL.2.2 (j3 0 (by decide)) (j3 1 (by decide))⟩
  refine W.widen (k := 10000 + 3 * (it + 1) + PHs gm) (n := 400000 + 18 * (it + 1) + 4 * PHs gm) (show 10000 + 3 * it + PHs gm ≤ _ from by omega) (show 400000 + 18 * it + 4 * PHs gm ≤ _ from by omega) ?_
  exact kont a2 lx sg gm lg sm9 gn9 ln9 f _ _ _ hKI2 hRI2 hREL2 hP hD hS (lv_sub hl [0, 1, 2, 3, 4] rfl)
