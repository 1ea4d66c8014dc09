section
set_option maxHeartbeats 4000000 in
set_option maxRecDepth 100000 in
theorem d_law5 {p : Program} {l : Launch} {e : Env} {s : State} {m : MethodId} {below : List Frame} {meth : Method} {c : Code} {b L : Nat} {xs : Nat → Int32} {dC : Nat → ClassId} {dI : Nat → Nat → Nat} {ad : Nat → Nat → Nat} {cid : Nat → ClassId} {h0 : Nat} {adm : Nat → Nat} {cidm : Nat → ClassId} {cO : ClassId} {qo : Nat} {A : Nat → Prop} (hl9 : l.stackTraces = false) (C0 : lw_At p s m meth c b L xs) (hL : L ≤ 4608) (hA : ∀ q : Nat, s.heap.size ≤ q → A q) (hbA : ¬ A b) (hG : CE ad A s) (hN9 : NE s) (hK : va_K (dC, dI) vwCl (cT cid ++ (mT cidm ++ [(cO, .long)])) s) (it : Nat) (i : Int32) (hit : it ≤ 511) (hi : i.toInt = 9 * (it : Int)) (hiL : i.toInt + 9 ≤ (L : Int)) (a2 : Nat → Nat) (lx : List Nat) (sg : Nat → Int32) (gm : Nat → Nat → Int32) (lg : Nat → Nat → Int64) (sm : Nat → Int32) (gn : Nat → Nat → Int32) (ln : Nat → Nat → Int64) (f : Nat → Int64) (H : Heap) (locs : List Loc) (ls : Array Slot) (hKI : KI it lx sg gm lg) (hRI : RI sm gn ln) (hREL : REL sg gm lg sm gn ln) (hP : va_P (dC, dI) vwCl (cW ad cid a2 lx sg gm lg ++ (mW h0 adm cidm sm gn ln ++ [(qo, oE cO f)])) H) (hD : va_D A (cW ad cid a2 lx sg gm lg ++ (mW h0 adm cidm sm gn ln ++ [(qo, oE cO f)]))) (hS : va_S A s.heap H locs) (hl : lv_has ls 7 [(4, .int i), (3, .ref qo), (2, .ref h0), (1, eV (ad 0) 0), (0, .ref b)]) (kont : ∀ (a2 : Nat → Nat) (lx : List Nat) (sg : Nat → Int32) (gm : Nat → Nat → Int32) (lg : Nat → Nat → Int64) (sm : Nat → Int32) (gn : Nat → Nat → Int32) (ln : Nat → Nat → Int64) (f : Nat → Int64) (H : Heap) (locs : List Loc) (ls : Array Slot), KI (it + 1) lx sg gm lg → RI sm gn ln → REL sg gm lg sm gn ln → va_P (dC, dI) vwCl (cW ad cid a2 lx sg gm lg ++ (mW h0 adm cidm sm gn ln ++ [(qo, oE cO f)])) H → va_D A (cW ad cid a2 lx sg gm lg ++ (mW h0 adm cidm sm gn ln ++ [(qo, oE cO f)])) → va_S A s.heap H locs → lv_has ls 7 [(4, .int i), (3, .ref qo), (2, .ref h0), (1, eV (ad 0) 0), (0, .ref b)] → W p l e room_1 s m #[Value.ref b] below meth c H locs (10000 + 3 * (it + 1) + PHs gm) (400000 + 18 * (it + 1) + 4 * PHs gm) (lw_Z below #[Value.ref b] s) (F0 m 773 ls [])) : W p l e room_1 s m #[Value.ref b] below meth c H locs (10000 + 3 * it + PHs gm) (400000 + 18 * it + 4 * PHs gm) (lw_Z below #[Value.ref b] s) (F0 m 479 ls []) := by
  obtain ⟨hx, hb, hr, hml, hown, hts, hX, hbl, hlocks, hgv⟩ := C0
  have hown : s.vm.findClass RL = some m.cls := hown
  have htb := fun (w : Cond) (h : w ∈ tb) => hts w (tb_in w h)
  have kI := hKI.1
  have hiv : iv 0 4599 i := ⟨by omega, by omega⟩
  obtain ⟨h79, hX9, hN289, hDC9, S, hSS9⟩ := id hREL
  obtain ⟨hSV9, hBR9, hSB9⟩ := REL_q hDC9
  have hXs9 := CLX_st hX9
  refine ec_aload_n hx hb dL_law_479 rfl (lv_at hl 3 rfl) ?_
  refine lv_aload_n hx hb dL_law_480 rfl (lv_at hl 1 rfl) ?_
  refine lw_callH (rest := []) (as := [eV (ad 0) 0, .ref qo]) ⟨hx, hb, hml, hown, htb⟩ (d_hread l hl9 dC dI ad cid cO qo a2 lx sg gm lg f it hKI (by omega) (chT sm gn) (sm 20).toInt.toNat (chT_c h79.1 (show iv 0 1200 (sm 20) from MI_s hRI.1 20).1) (chT_p h79.1)) (vx_cwSW 2 htb (gd_S kw_302 kw_303 kw_304 kw_1409) rfl rfl rfl (by decide +kernel) ⟨Nat.le_of_ble_eq_true rfl, Nat.le_of_ble_eq_true rfl⟩) rfl hl.1 rfl (Nat.le_trans cs_n (by decide)) dL_law_481 ⟨(show 10000 + 3 * it + PHs gm + 304803 ≤ 601024 from by have := PHs_le kI; omega), (show 400000 + 18 * it + 4 * PHs gm + 1219339 ≤ 7293034 from by have := PHs_le kI; omega)⟩ hK hP hD hS hA hG hN9 (fun r9 u f9 H locs hw hmu hP hD hS => ?_)
  obtain ⟨a29, lx9, sg9, gm9, lg9⟩ := u
  obtain ⟨hKI2, hI9, k2, x9, hx9, hH9⟩ := hw
  have hKI2 : KI (it + 1) lx9 sg9 gm9 lg9 := hKI2
  have kI2 := hKI2.1
  have hph : PHs gm ≤ PHs gm9 := hmu
  have hP : va_P (dC, dI) vwCl (cW ad cid a29 lx9 sg9 gm9 lg9 ++ (mW h0 adm cidm sm gn ln ++ [(qo, oE cO f9)])) H := hP
  have hD : va_D A (cW ad cid a29 lx9 sg9 gm9 lg9 ++ (mW h0 adm cidm sm gn ln ++ [(qo, oE cO f9)])) := hD
  refine lv_istore (lv' := [(5, .int r9), (4, .int i), (3, .ref qo), (2, .ref h0), (1, eV (ad 0) 0), (0, .ref b)]) hx hb dL_law_484 hl (by decide) (by simp [List.filter, eV_cat, cat_i, cat_l, cat_r]) (fun ls hl => ?_)
  refine lv_aload_n hx hb dL_law_486 rfl (lv_at hl 3 rfl) ?_
  refine lw_callM (w := cW ad cid a29 lx9 sg9 gm9 lg9) (tw := cT cid) (r := [(qo, oE cO f9)]) (tr := [(cO, .long)]) (rest := []) (as := []) ⟨hx, hb, hml, hown, htb⟩ (f_read9 l dC dI h0 adm cidm sm gn ln (chT sm gn) (sm 20).toInt.toNat hRI.1 (chT_r (show iv 0 1200 (sm 20) from MI_s hRI.1 20).1) h79.2.1 h79.2.2 (chT_p h79.1)) (cwV 0 htb (gd_V kw_810 kw_811 kw_812 kw_5 kw_1517) rfl rfl rfl (by decide +kernel) ⟨Nat.le_of_ble_eq_true rfl, Nat.le_of_ble_eq_true rfl⟩) rfl hl.1 rfl (Nat.le_trans cs_n (by decide)) dL_law_487 ⟨(show 10000 + 3 * it + PHs gm + gc gm gm9 2 ≤ 601024 from by have := PHs_le kI2; have := PHs_le kI; have q9 := gc_l0 (gm := gm) (k := 2) kI2; omega), (show 400000 + 18 * it + 4 * PHs gm + gs gm gm9 2 ≤ 7293034 from by have := PHs_le kI2; have := PHs_le kI; have q9 := gs_l0 (gm := gm) (k := 2) kI2; omega)⟩ hK hP hD hS hA (fun r8 u8 H locs hw hP hD hS => ?_)
  obtain ⟨sm9, gn9, ln9, rfl, hI8, j1, j2, j3, g48, g49, g40, gZ, gR, gXX, gdoc, gclr⟩ := hw
  have hRI2 : RI sm9 gn9 ln9 := RI_rd hRI hI8 j2 gdoc gclr (by decide) (by decide) (by decide) (by decide) (by decide)
  have hP : va_P (dC, dI) vwCl (cW ad cid a29 lx9 sg9 gm9 lg9 ++ (mW h0 adm cidm sm9 gn9 ln9 ++ [(qo, oE cO f9)])) H := hP
  have hD : va_D A (cW ad cid a29 lx9 sg9 gm9 lg9 ++ (mW h0 adm cidm sm9 gn9 ln9 ++ [(qo, oE cO f9)])) := hD
  have hQ9 := R_read hREL hI9 k2 hH9 hI8 j2 j3 g48 g49 g40 gZ gR gXX gdoc gclr (chT_p h79.1) (show (sm 20).toInt.toNat ≤ 1200 from by have q9 := (show iv 0 1200 (sm 20) from MI_s hRI.1 20).2; omega) (CHR_n (chT_r (show iv 0 1200 (sm 20) from MI_s hRI.1 20).1))
  refine lv_istore (lv' := [(6, .int r8), (5, .int r9), (4, .int i), (3, .ref qo), (2, .ref h0), (1, eV (ad 0) 0), (0, .ref b)]) hx hb dL_law_490 hl (by decide) (by simp [List.filter, eV_cat, cat_i, cat_l, cat_r]) (fun ls hl => ?_)
  refine lv_goto (tgt := 773) hx hb dL_law_492 (by decide) ?_
  have hREL2 : REL sg9 gm9 lg9 sm9 gn9 ln9 := hQ9.1
  refine W.widen (k := 10000 + 3 * (it + 1) + PHs gm9) (n := 400000 + 18 * (it + 1) + 4 * PHs gm9) (show 10000 + 3 * it + PHs gm + gc gm gm9 2 ≤ _ from by unfold gc PH; omega) (show 400000 + 18 * it + 4 * PHs gm + gs gm gm9 2 ≤ _ from by unfold gs PH; omega) ?_
  exact kont a29 lx9 sg9 gm9 lg9 sm9 gn9 ln9 f9 _ _ _ hKI2 hRI2 hREL2 hP hD hS (lv_sub hl [2, 3, 4, 5, 6] rfl)

set_option maxHeartbeats 4000000 in
set_option maxRecDepth 100000 in
theorem d_law6 {p : Program} {l : Launch} {e : Env} {s : State} {m : MethodId} {below : List Frame} {meth : Method} {c : Code} {b L : Nat} {xs : Nat → Int32} {dC : Nat → ClassId} {dI : Nat → Nat → Nat} {ad : Nat → Nat → Nat} {cid : Nat → ClassId} {h0 : Nat} {adm : Nat → Nat} {cidm : Nat → ClassId} {cO : ClassId} {qo : Nat} {A : Nat → Prop} (hl9 : l.stackTraces = false) (C0 : lw_At p s m meth c b L xs) (hL : L ≤ 4608) (hA : ∀ q : Nat, s.heap.size ≤ q → A q) (hbA : ¬ A b) (hG : CE ad A s) (hN9 : NE s) (hK : va_K (dC, dI) vwCl (cT cid ++ (mT cidm ++ [(cO, .long)])) s) (it : Nat) (i : Int32) (hit : it ≤ 511) (hi : i.toInt = 9 * (it : Int)) (hiL : i.toInt + 9 ≤ (L : Int)) (a2 : Nat → Nat) (lx : List Nat) (sg : Nat → Int32) (gm : Nat → Nat → Int32) (lg : Nat → Nat → Int64) (sm : Nat → Int32) (gn : Nat → Nat → Int32) (ln : Nat → Nat → Int64) (f : Nat → Int64) (H : Heap) (locs : List Loc) (ls : Array Slot) (hKI : KI it lx sg gm lg) (hRI : RI sm gn ln) (hREL : REL sg gm lg sm gn ln) (hP : va_P (dC, dI) vwCl (cW ad cid a2 lx sg gm lg ++ (mW h0 adm cidm sm gn ln ++ [(qo, oE cO f)])) H) (hD : va_D A (cW ad cid a2 lx sg gm lg ++ (mW h0 adm cidm sm gn ln ++ [(qo, oE cO f)]))) (hS : va_S A s.heap H locs) (hl : lv_has ls 7 [(4, .int i), (3, .ref qo), (2, .ref h0), (1, eV (ad 0) 0), (0, .ref b)]) (kont : ∀ (a2 : Nat → Nat) (lx : List Nat) (sg : Nat → Int32) (gm : Nat → Nat → Int32) (lg : Nat → Nat → Int64) (sm : Nat → Int32) (gn : Nat → Nat → Int32) (ln : Nat → Nat → Int64) (f : Nat → Int64) (H : Heap) (locs : List Loc) (ls : Array Slot), KI (it + 1) lx sg gm lg → RI sm gn ln → REL sg gm lg sm gn ln → va_P (dC, dI) vwCl (cW ad cid a2 lx sg gm lg ++ (mW h0 adm cidm sm gn ln ++ [(qo, oE cO f)])) H → va_D A (cW ad cid a2 lx sg gm lg ++ (mW h0 adm cidm sm gn ln ++ [(qo, oE cO f)])) → va_S A s.heap H locs → lv_has ls 7 [(4, .int i), (3, .ref qo), (2, .ref h0), (1, eV (ad 0) 0), (0, .ref b)] → W p l e room_1 s m #[Value.ref b] below meth c H locs (10000 + 3 * (it + 1) + PHs gm) (400000 + 18 * (it + 1) + 4 * PHs gm) (lw_Z below #[Value.ref b] s) (F0 m 773 ls [])) : W p l e room_1 s m #[Value.ref b] below meth c H locs (10000 + 3 * it + PHs gm) (400000 + 18 * it + 4 * PHs gm) (lw_Z below #[Value.ref b] s) (F0 m 495 ls []) := by
  obtain ⟨hx, hb, hr, hml, hown, hts, hX, hbl, hlocks, hgv⟩ := C0
  have hown : s.vm.findClass RL = some m.cls := hown
  have htb := fun (w : Cond) (h : w ∈ tb) => hts w (tb_in w h)
  have kI := hKI.1
  have hiv : iv 0 4599 i := ⟨by omega, by omega⟩
  obtain ⟨h79, hX9, hN289, hDC9, S, hSS9⟩ := id hREL
  obtain ⟨hSV9, hBR9, hSB9⟩ := REL_q hDC9
  have hXs9 := CLX_st hX9
  refine ec_aload_n hx hb dL_law_495 rfl (lv_at hl 3 rfl) ?_
  refine lv_aload_n hx hb dL_law_496 rfl (lv_at hl 4 rfl) ?_
  refine lv_iload hx hb dL_law_497 (lv_at hl 0 rfl) ?_
  refine lv_iconst (v := 1) hx hb dL_law_499 (by decide) ?_
  refine lv_iadd hx hb dL_law_500 ?_
  refine lv_topi (fun z_1 ez_1 => ?_)
  have tz_1 : z_1.toInt = i.toInt + 1 := by rw [ez_1]; exact iv_addE hiv (iv_k (by decide) : iv 1 1 1) (by decide)
  refine va_sld hx hb hX hbl hbA hS (vp_in_iff.mpr ⟨by omega, by omega⟩) dL_law_501 ?_
  refine lv_topi (fun v_2 ev_2 => ?_)
  refine lw_callT (r := (mW h0 adm cidm sm gn ln ++ [(qo, oE cO f)])) (tr := mT cidm ++ [(cO, .long)]) (rest := []) (as := [.int v_2]) ⟨hx, hb, hml, hown, htb⟩ (d_fault l dC dI ad cid a2 lx sg gm lg 0 v_2 kI (iv_k (by decide) : iv 0 0 0)) (cwV 1 htb (gd_V kw_967 kw_968 kw_969 kw_2 kw_1559) rfl rfl rfl (by decide +kernel) ⟨Nat.le_of_ble_eq_true rfl, Nat.le_of_ble_eq_true rfl⟩) (iv_k (by decide) : iv 0 0 0) rfl hl.1 rfl (Nat.le_trans cs_n (by decide)) dL_law_502 ⟨(show 10000 + 3 * it + PHs gm + 1 ≤ 601024 from by have := PHs_le kI; omega), (show 400000 + 18 * it + 4 * PHs gm + 6 ≤ 7293034 from by have := PHs_le kI; omega)⟩ hK hP hD hS hA hG (fun _ _ h9 => h9) (fun v9 u H locs hw hP hD hS => ?_)
  obtain ⟨r9, rfl, rfl, hr9⟩ := hw
  have hKI2 : KI (it + 1) lx sg gm lg := KI_of (Ls := []) (Lg := []) (Ll := []) hKI kI KS_rf KS_rf KS_rf (by decide) (by decide) (by decide)
  have hph : PHs gm ≤ PHs gm := Nat.le_refl _
  have hP : va_P (dC, dI) vwCl (cW ad cid a2 lx sg gm lg ++ (mW h0 adm cidm sm gn ln ++ [(qo, oE cO f)])) H := hP
  have hD : va_D A (cW ad cid a2 lx sg gm lg ++ (mW h0 adm cidm sm gn ln ++ [(qo, oE cO f)])) := hD
  refine W.eq (g2 := F0 m 505 ls [.int r9]) rfl ?_
  refine lv_pop hx hb dL_law_505 (cat_i _) ?_
  refine lv_aload_n hx hb dL_law_506 rfl (lv_at hl 2 rfl) ?_
  refine lv_aload_n hx hb dL_law_507 rfl (lv_at hl 4 rfl) ?_
  refine lv_iload hx hb dL_law_508 (lv_at hl 0 rfl) ?_
  refine lv_iconst (v := 1) hx hb dL_law_510 (by decide) ?_
  refine lv_iadd hx hb dL_law_511 ?_
  refine lv_topi (fun z_3 ez_3 => ?_)
  have tz_3 : z_3.toInt = i.toInt + 1 := by rw [ez_3]; exact iv_addE hiv (iv_k (by decide) : iv 1 1 1) (by decide)
  refine va_sld hx hb hX hbl hbA hS (vp_in_iff.mpr ⟨by omega, by omega⟩) dL_law_512 ?_
  refine W.eq (g2 := F0 m 513 ls [.int v_2, .ref h0]) (by rw [ev_2, show z_3 = z_1 from Int32.toInt_inj.mp (by omega)]) ?_
  refine lw_callM (w := cW ad cid a2 lx sg gm lg) (tw := cT cid) (r := [(qo, oE cO f)]) (tr := [(cO, .long)]) (rest := []) (as := [.int v_2]) ⟨hx, hb, hml, hown, htb⟩ (a_fault l dC dI h0 adm cidm sm gn ln v_2 hRI.1) (cwV 1 htb (gd_V kw_977 kw_978 kw_979 kw_5 kw_1562) rfl rfl rfl (by decide +kernel) ⟨Nat.le_of_ble_eq_true rfl, Nat.le_of_ble_eq_true rfl⟩) rfl hl.1 rfl (Nat.le_trans cs_n (by decide)) dL_law_513 ⟨(show 10000 + 3 * it + PHs gm ≤ 601024 from by have := PHs_le kI; omega), (show 400000 + 18 * it + 4 * PHs gm ≤ 7293034 from by have := PHs_le kI; omega)⟩ hK hP hD hS hA (fun r8 u8 H locs hw hP hD hS => ?_)
  obtain ⟨sm9, gn9, ln9, rfl, hI8, j1, j2, j3⟩ := hw
  have hRI2 : RI sm9 gn9 ln9 := RI_of hRI hI8 (PR_k hRI.2.1 (j2 6 (by decide))) j1 j2 j3 (by decide) (by decide) (by decide) (by decide) (by decide) (by decide) (by decide) (by decide) (by decide) (by decide)
  have hP : va_P (dC, dI) vwCl (cW ad cid a2 lx sg gm lg ++ (mW h0 adm cidm sm9 gn9 ln9 ++ [(qo, oE cO f)])) H := hP
  have hD : va_D A (cW ad cid a2 lx sg gm lg ++ (mW h0 adm cidm sm9 gn9 ln9 ++ [(qo, oE cO f)])) := hD
  refine lv_pop hx hb dL_law_516 (cat_i _) ?_
  refine lv_goto (tgt := 773) hx hb dL_law_517 (by decide) ?_
  have hREL2 : REL sg gm lg sm9 gn9 ln9 := REL_k hREL (TXR_k h79.1 ((KS_rf (L := []) (f := sg)) 0 (by decide)) ((KS_rf (L := []) (f := gm)) 43 (by decide)) (j1 20 (by decide)) (j2 19 (by decide))) (CLX_k hX9 (KS_rf (L := [])) j2 (by decide) (by decide)) (KS_rf (L := [])) (KS_rf (L := [])) (KS_rf (L := [])) j1 j2 j3 (by decide) (by decide) (by decide) (by decide)
  refine W.widen (k := 10000 + 3 * (it + 1) + PHs gm) (n := 400000 + 18 * (it + 1) + 4 * PHs gm) (show 10000 + 3 * it + PHs gm ≤ _ from by omega) (show 400000 + 18 * it + 4 * PHs gm ≤ _ from by omega) ?_
  exact kont a2 lx sg gm lg sm9 gn9 ln9 f _ _ _ hKI2 hRI2 hREL2 hP hD hS (lv_sub hl [0, 1, 2, 3, 4] rfl)

set_option maxHeartbeats 4000000 in
set_option maxRecDepth 100000 in
theorem d_law7 {p : Program} {l : Launch} {e : Env} {s : State} {m : MethodId} {below : List Frame} {meth : Method} {c : Code} {b L : Nat} {xs : Nat → Int32} {dC : Nat → ClassId} {dI : Nat → Nat → Nat} {ad : Nat → Nat → Nat} {cid : Nat → ClassId} {h0 : Nat} {adm : Nat → Nat} {cidm : Nat → ClassId} {cO : ClassId} {qo : Nat} {A : Nat → Prop} (hl9 : l.stackTraces = false) (C0 : lw_At p s m meth c b L xs) (hL : L ≤ 4608) (hA : ∀ q : Nat, s.heap.size ≤ q → A q) (hbA : ¬ A b) (hG : CE ad A s) (hN9 : NE s) (hK : va_K (dC, dI) vwCl (cT cid ++ (mT cidm ++ [(cO, .long)])) s) (it : Nat) (i : Int32) (hit : it ≤ 511) (hi : i.toInt = 9 * (it : Int)) (hiL : i.toInt + 9 ≤ (L : Int)) (a2 : Nat → Nat) (lx : List Nat) (sg : Nat → Int32) (gm : Nat → Nat → Int32) (lg : Nat → Nat → Int64) (sm : Nat → Int32) (gn : Nat → Nat → Int32) (ln : Nat → Nat → Int64) (f : Nat → Int64) (H : Heap) (locs : List Loc) (ls : Array Slot) (hKI : KI it lx sg gm lg) (hRI : RI sm gn ln) (hREL : REL sg gm lg sm gn ln) (hP : va_P (dC, dI) vwCl (cW ad cid a2 lx sg gm lg ++ (mW h0 adm cidm sm gn ln ++ [(qo, oE cO f)])) H) (hD : va_D A (cW ad cid a2 lx sg gm lg ++ (mW h0 adm cidm sm gn ln ++ [(qo, oE cO f)]))) (hS : va_S A s.heap H locs) (hl : lv_has ls 7 [(4, .int i), (3, .ref qo), (2, .ref h0), (1, eV (ad 0) 0), (0, .ref b)]) (kont : ∀ (a2 : Nat → Nat) (lx : List Nat) (sg : Nat → Int32) (gm : Nat → Nat → Int32) (lg : Nat → Nat → Int64) (sm : Nat → Int32) (gn : Nat → Nat → Int32) (ln : Nat → Nat → Int64) (f : Nat → Int64) (H : Heap) (locs : List Loc) (ls : Array Slot), KI (it + 1) lx sg gm lg → RI sm gn ln → REL sg gm lg sm gn ln → va_P (dC, dI) vwCl (cW ad cid a2 lx sg gm lg ++ (mW h0 adm cidm sm gn ln ++ [(qo, oE cO f)])) H → va_D A (cW ad cid a2 lx sg gm lg ++ (mW h0 adm cidm sm gn ln ++ [(qo, oE cO f)])) → va_S A s.heap H locs → lv_has ls 7 [(4, .int i), (3, .ref qo), (2, .ref h0), (1, eV (ad 0) 0), (0, .ref b)] → W p l e room_1 s m #[Value.ref b] below meth c H locs (10000 + 3 * (it + 1) + PHs gm) (400000 + 18 * (it + 1) + 4 * PHs gm) (lw_Z below #[Value.ref b] s) (F0 m 773 ls [])) : W p l e room_1 s m #[Value.ref b] below meth c H locs (10000 + 3 * it + PHs gm) (400000 + 18 * it + 4 * PHs gm) (lw_Z below #[Value.ref b] s) (F0 m 520 ls []) := by
  obtain ⟨hx, hb, hr, hml, hown, hts, hX, hbl, hlocks, hgv⟩ := C0
  have hown : s.vm.findClass RL = some m.cls := hown
  have htb := fun (w : Cond) (h : w ∈ tb) => hts w (tb_in w h)
  have kI := hKI.1
  have hiv : iv 0 4599 i := ⟨by omega, by omega⟩
  obtain ⟨h79, hX9, hN289, hDC9, S, hSS9⟩ := id hREL
  obtain ⟨hSV9, hBR9, hSB9⟩ := REL_q hDC9
  have hXs9 := CLX_st hX9
  refine ec_aload_n hx hb dL_law_520 rfl (lv_at hl 3 rfl) ?_
  refine lv_aload_n hx hb dL_law_521 rfl (lv_at hl 1 rfl) ?_
  refine lw_callH (rest := []) (as := [eV (ad 0) 0, .ref qo]) ⟨hx, hb, hml, hown, htb⟩ (d_hrefresh l hl9 dC dI ad cid cO qo a2 lx sg gm lg f it hKI (by omega) S hSV9 hSS9.1) (vx_cwSW 2 htb (gd_S kw_981 kw_982 kw_304 kw_1563) rfl rfl rfl (by decide +kernel) ⟨Nat.le_of_ble_eq_true rfl, Nat.le_of_ble_eq_true rfl⟩) rfl hl.1 rfl (Nat.le_trans cs_n (by decide)) dL_law_522 ⟨(show 10000 + 3 * it + PHs gm + 60963 ≤ 601024 from by have := PHs_le kI; omega), (show 400000 + 18 * it + 4 * PHs gm + 243858 ≤ 7293034 from by have := PHs_le kI; omega)⟩ hK hP hD hS hA hG hN9 (fun r9 u f9 H locs hw hmu hP hD hS => ?_)
  obtain ⟨a29, lx9, sg9, gm9, lg9⟩ := u
  obtain ⟨hKI2, k1, k2, k3, x9, hx9, hH9⟩ := hw
  have hKI2 : KI (it + 1) lx9 sg9 gm9 lg9 := hKI2
  have k3 : KS [] lg lg9 := k3
  have kI2 := hKI2.1
  have hph : PHs gm ≤ PHs gm9 := hmu
  have hP : va_P (dC, dI) vwCl (cW ad cid a29 lx9 sg9 gm9 lg9 ++ (mW h0 adm cidm sm gn ln ++ [(qo, oE cO f9)])) H := hP
  have hD : va_D A (cW ad cid a29 lx9 sg9 gm9 lg9 ++ (mW h0 adm cidm sm gn ln ++ [(qo, oE cO f9)])) := hD
  refine lv_istore (lv' := [(5, .int r9), (4, .int i), (3, .ref qo), (2, .ref h0), (1, eV (ad 0) 0), (0, .ref b)]) hx hb dL_law_525 hl (by decide) (by simp [List.filter, eV_cat, cat_i, cat_l, cat_r]) (fun ls hl => ?_)
  refine lv_aload_n hx hb dL_law_527 rfl (lv_at hl 3 rfl) ?_
  refine lw_callM (w := cW ad cid a29 lx9 sg9 gm9 lg9) (tw := cT cid) (r := [(qo, oE cO f9)]) (tr := [(cO, .long)]) (rest := []) (as := []) ⟨hx, hb, hml, hown, htb⟩ (f_refresh9 l dC dI h0 adm cidm sm gn ln (ss9 sg) (st9 gm) lg (rs9 sm) (rt9 gn) S hRI.1 hRI.2.2.1 hRI.2.1 hRI.2.2.2.1 hRI.2.2.2.2 rfl rfl hBR9 hXs9.1 hSS9.2.1 (WD_of h79.2.2) hXs9.2.2.2.1 hXs9.2.2.2.2.1 hSB9 hSS9.2.2.1 hSS9.2.2.2.1 hSS9.2.2.2.2.1) (cwV 0 htb (gd_V kw_1145 kw_1146 kw_1147 kw_5 kw_1599) rfl rfl rfl (by decide +kernel) ⟨Nat.le_of_ble_eq_true rfl, Nat.le_of_ble_eq_true rfl⟩) rfl hl.1 rfl (Nat.le_trans cs_n (by decide)) dL_law_528 ⟨(show 10000 + 3 * it + PHs gm + gc gm gm9 2 ≤ 601024 from by have := PHs_le kI2; have := PHs_le kI; have q9 := gc_l0 (gm := gm) (k := 2) kI2; omega), (show 400000 + 18 * it + 4 * PHs gm + gs gm gm9 2 ≤ 7293034 from by have := PHs_le kI2; have := PHs_le kI; have q9 := gs_l0 (gm := gm) (k := 2) kI2; omega)⟩ hK hP hD hS hA (fun r8 u8 H locs hw hP hD hS => ?_)
  obtain ⟨sm9, gn9, ln9, rfl, hI8, j1, j2, j3, gG, gM, gO⟩ := hw
  have hRI2 : RI sm9 gn9 ln9 := RI_mk hRI hI8 gG gM j1 j2 j3 (by decide) (by decide) (by decide) (by decide) (by decide) (by decide)
  have hP : va_P (dC, dI) vwCl (cW ad cid a29 lx9 sg9 gm9 lg9 ++ (mW h0 adm cidm sm9 gn9 ln9 ++ [(qo, oE cO f9)])) H := hP
  have hD : va_D A (cW ad cid a29 lx9 sg9 gm9 lg9 ++ (mW h0 adm cidm sm9 gn9 ln9 ++ [(qo, oE cO f9)])) := hD
  have hQ9 := R_ref hREL hSS9 hH9 gO
  refine lv_istore (lv' := [(6, .int r8), (5, .int r9), (4, .int i), (3, .ref qo), (2, .ref h0), (1, eV (ad 0) 0), (0, .ref b)]) hx hb dL_law_531 hl (by decide) (by simp [List.filter, eV_cat, cat_i, cat_l, cat_r]) (fun ls hl => ?_)
  refine lv_goto (tgt := 773) hx hb dL_law_533 (by decide) ?_
  have hREL2 : REL sg9 gm9 lg9 sm9 gn9 ln9 := by rw [← KS_nil k3, ← KS_nil j3]; exact REL_mk hREL k1 k2 j1 j2 hQ9.1
  refine W.widen (k := 10000 + 3 * (it + 1) + PHs gm9) (n := 400000 + 18 * (it + 1) + 4 * PHs gm9) (show 10000 + 3 * it + PHs gm + gc gm gm9 2 ≤ _ from by unfold gc PH; omega) (show 400000 + 18 * it + 4 * PHs gm + gs gm gm9 2 ≤ _ from by unfold gs PH; omega) ?_
  exact kont a29 lx9 sg9 gm9 lg9 sm9 gn9 ln9 f9 _ _ _ hKI2 hRI2 hREL2 hP hD hS (lv_sub hl [2, 3, 4, 5, 6] rfl)

set_option maxHeartbeats 4000000 in
set_option maxRecDepth 100000 in
theorem d_law8 {p : Program} {l : Launch} {e : Env} {s : State} {m : MethodId} {below : List Frame} {meth : Method} {c : Code} {b L : Nat} {xs : Nat → Int32} {dC : Nat → ClassId} {dI : Nat → Nat → Nat} {ad : Nat → Nat → Nat} {cid : Nat → ClassId} {h0 : Nat} {adm : Nat → Nat} {cidm : Nat → ClassId} {cO : ClassId} {qo : Nat} {A : Nat → Prop} (hl9 : l.stackTraces = false) (C0 : lw_At p s m meth c b L xs) (hL : L ≤ 4608) (hA : ∀ q : Nat, s.heap.size ≤ q → A q) (hbA : ¬ A b) (hG : CE ad A s) (hN9 : NE s) (hK : va_K (dC, dI) vwCl (cT cid ++ (mT cidm ++ [(cO, .long)])) s) (it : Nat) (i : Int32) (hit : it ≤ 511) (hi : i.toInt = 9 * (it : Int)) (hiL : i.toInt + 9 ≤ (L : Int)) (a2 : Nat → Nat) (lx : List Nat) (sg : Nat → Int32) (gm : Nat → Nat → Int32) (lg : Nat → Nat → Int64) (sm : Nat → Int32) (gn : Nat → Nat → Int32) (ln : Nat → Nat → Int64) (f : Nat → Int64) (H : Heap) (locs : List Loc) (ls : Array Slot) (hKI : KI it lx sg gm lg) (hRI : RI sm gn ln) (hREL : REL sg gm lg sm gn ln) (hP : va_P (dC, dI) vwCl (cW ad cid a2 lx sg gm lg ++ (mW h0 adm cidm sm gn ln ++ [(qo, oE cO f)])) H) (hD : va_D A (cW ad cid a2 lx sg gm lg ++ (mW h0 adm cidm sm gn ln ++ [(qo, oE cO f)]))) (hS : va_S A s.heap H locs) (hl : lv_has ls 7 [(4, .int i), (3, .ref qo), (2, .ref h0), (1, eV (ad 0) 0), (0, .ref b)]) (kont : ∀ (a2 : Nat → Nat) (lx : List Nat) (sg : Nat → Int32) (gm : Nat → Nat → Int32) (lg : Nat → Nat → Int64) (sm : Nat → Int32) (gn : Nat → Nat → Int32) (ln : Nat → Nat → Int64) (f : Nat → Int64) (H : Heap) (locs : List Loc) (ls : Array Slot), KI (it + 1) lx sg gm lg → RI sm gn ln → REL sg gm lg sm gn ln → va_P (dC, dI) vwCl (cW ad cid a2 lx sg gm lg ++ (mW h0 adm cidm sm gn ln ++ [(qo, oE cO f)])) H → va_D A (cW ad cid a2 lx sg gm lg ++ (mW h0 adm cidm sm gn ln ++ [(qo, oE cO f)])) → va_S A s.heap H locs → lv_has ls 7 [(4, .int i), (3, .ref qo), (2, .ref h0), (1, eV (ad 0) 0), (0, .ref b)] → W p l e room_1 s m #[Value.ref b] below meth c H locs (10000 + 3 * (it + 1) + PHs gm) (400000 + 18 * (it + 1) + 4 * PHs gm) (lw_Z below #[Value.ref b] s) (F0 m 773 ls [])) : W p l e room_1 s m #[Value.ref b] below meth c H locs (10000 + 3 * it + PHs gm) (400000 + 18 * it + 4 * PHs gm) (lw_Z below #[Value.ref b] s) (F0 m 536 ls []) := by
  obtain ⟨hx, hb, hr, hml, hown, hts, hX, hbl, hlocks, hgv⟩ := C0
  have hown : s.vm.findClass RL = some m.cls := hown
  have htb := fun (w : Cond) (h : w ∈ tb) => hts w (tb_in w h)
  have kI := hKI.1
  have hiv : iv 0 4599 i := ⟨by omega, by omega⟩
  obtain ⟨h79, hX9, hN289, hDC9, S, hSS9⟩ := id hREL
  obtain ⟨hSV9, hBR9, hSB9⟩ := REL_q hDC9
  have hXs9 := CLX_st hX9
  refine ec_aload_n hx hb dL_law_536 rfl (lv_at hl 3 rfl) ?_
  refine lv_aload_n hx hb dL_law_537 rfl (lv_at hl 4 rfl) ?_
  refine lv_iload hx hb dL_law_538 (lv_at hl 0 rfl) ?_
  refine lv_iconst (v := 1) hx hb dL_law_540 (by decide) ?_
  refine lv_iadd hx hb dL_law_541 ?_
  refine lv_topi (fun z_1 ez_1 => ?_)
  have tz_1 : z_1.toInt = i.toInt + 1 := by rw [ez_1]; exact iv_addE hiv (iv_k (by decide) : iv 1 1 1) (by decide)
  refine va_sld hx hb hX hbl hbA hS (vp_in_iff.mpr ⟨by omega, by omega⟩) dL_law_542 ?_
  refine lv_topi (fun v_2 ev_2 => ?_)
  refine lv_i2l (v := v_2.toInt64) hx hb dL_law_543 rfl ?_
  refine lv_topl (fun w_4 ew_4 => ?_)
  refine lv_bipush (v := 32) hx hb dL_law_544 (by decide) ?_
  refine lv_lshl hx hb dL_law_546 rfl ?_
  refine lv_topl (fun w_5 ew_5 => ?_)
  refine lv_aload_n hx hb dL_law_547 rfl (lv_at hl 4 rfl) ?_
  refine lv_iload hx hb dL_law_548 (lv_at hl 0 rfl) ?_
  refine lv_iconst (v := 2) hx hb dL_law_550 (by decide) ?_
  refine lv_iadd hx hb dL_law_551 ?_
  refine lv_topi (fun z_6 ez_6 => ?_)
  have tz_6 : z_6.toInt = i.toInt + 2 := by rw [ez_6]; exact iv_addE hiv (iv_k (by decide) : iv 2 2 2) (by decide)
  refine va_sld hx hb hX hbl hbA hS (vp_in_iff.mpr ⟨by omega, by omega⟩) dL_law_552 ?_
  refine lv_topi (fun v_7 ev_7 => ?_)
  refine lv_i2l (v := v_7.toInt64) hx hb dL_law_553 rfl ?_
  refine lv_topl (fun w_9 ew_9 => ?_)
  refine lv_ldc2 (own := RL) (v := 4294967295) hx hb hown (htb _ kw_7) dL_law_554 ?_
  refine lv_land hx hb dL_law_557 ?_
  refine lv_topl (fun w_10 ew_10 => ?_)
  refine lv_lor hx hb dL_law_558 ?_
  refine lv_topl (fun w_11 ew_11 => ?_)
  refine lv_aload_n hx hb dL_law_559 rfl (lv_at hl 1 rfl) ?_
  refine lw_callH (rest := []) (as := [eV (ad 0) 0, .long w_11, .ref qo]) ⟨hx, hb, hml, hown, htb⟩ (d_hget l hl9 dC dI ad cid cO qo a2 lx sg gm lg f it w_11 hKI (by omega) S hSV9 hSS9.1) (vx_cwSW 3 htb (gd_S kw_1263 kw_1264 kw_304 kw_1636) rfl rfl rfl (by decide +kernel) ⟨Nat.le_of_ble_eq_true rfl, Nat.le_of_ble_eq_true rfl⟩) rfl hl.1 rfl (Nat.le_trans cs_n (by decide)) dL_law_560 ⟨(show 10000 + 3 * it + PHs gm + 60963 ≤ 601024 from by have := PHs_le kI; omega), (show 400000 + 18 * it + 4 * PHs gm + 243858 ≤ 7293034 from by have := PHs_le kI; omega)⟩ hK hP hD hS hA hG hN9 (fun r9 u f9 H locs hw hmu hP hD hS => ?_)
  obtain ⟨a29, lx9, sg9, gm9, lg9⟩ := u
  obtain ⟨hKI2, k1, k2, k3, x9, hx9, hH9⟩ := hw
  have hKI2 : KI (it + 1) lx9 sg9 gm9 lg9 := hKI2
  have k3 : KS [] lg lg9 := k3
  have kI2 := hKI2.1
  have hph : PHs gm ≤ PHs gm9 := hmu
  have hP : va_P (dC, dI) vwCl (cW ad cid a29 lx9 sg9 gm9 lg9 ++ (mW h0 adm cidm sm gn ln ++ [(qo, oE cO f9)])) H := hP
  have hD : va_D A (cW ad cid a29 lx9 sg9 gm9 lg9 ++ (mW h0 adm cidm sm gn ln ++ [(qo, oE cO f9)])) := hD
  refine lv_istore (lv' := [(5, .int r9), (4, .int i), (3, .ref qo), (2, .ref h0), (1, eV (ad 0) 0), (0, .ref b)]) hx hb dL_law_563 hl (by decide) (by simp [List.filter, eV_cat, cat_i, cat_l, cat_r]) (fun ls hl => ?_)
  refine lv_aload_n hx hb dL_law_565 rfl (lv_at hl 3 rfl) ?_
  refine lv_aload_n hx hb dL_law_566 rfl (lv_at hl 5 rfl) ?_
  refine lv_iload hx hb dL_law_567 (lv_at hl 1 rfl) ?_
  refine lv_iconst (v := 1) hx hb dL_law_569 (by decide) ?_
  refine lv_iadd hx hb dL_law_570 ?_
  refine lv_topi (fun z_12 ez_12 => ?_)
  have tz_12 : z_12.toInt = i.toInt + 1 := by rw [ez_12]; exact iv_addE hiv (iv_k (by decide) : iv 1 1 1) (by decide)
  refine va_sld hx hb hX hbl hbA hS (vp_in_iff.mpr ⟨by omega, by omega⟩) dL_law_571 ?_
  refine W.eq (g2 := F0 m 572 ls [.int v_2, .ref h0]) (by rw [ev_2, show z_12 = z_1 from Int32.toInt_inj.mp (by omega)]) ?_
  refine lv_i2l (v := v_2.toInt64) hx hb dL_law_572 rfl ?_
  refine lv_topl (fun w_14 ew_14 => ?_)
  refine lv_bipush (v := 32) hx hb dL_law_573 (by decide) ?_
  refine lv_lshl hx hb dL_law_575 rfl ?_
  refine lv_topl (fun w_15 ew_15 => ?_)
  refine lv_aload_n hx hb dL_law_576 rfl (lv_at hl 5 rfl) ?_
  refine lv_iload hx hb dL_law_577 (lv_at hl 1 rfl) ?_
  refine lv_iconst (v := 2) hx hb dL_law_579 (by decide) ?_
  refine lv_iadd hx hb dL_law_580 ?_
  refine lv_topi (fun z_16 ez_16 => ?_)
  have tz_16 : z_16.toInt = i.toInt + 2 := by rw [ez_16]; exact iv_addE hiv (iv_k (by decide) : iv 2 2 2) (by decide)
  refine va_sld hx hb hX hbl hbA hS (vp_in_iff.mpr ⟨by omega, by omega⟩) dL_law_581 ?_
  refine W.eq (g2 := F0 m 582 ls [.int v_7, .long w_15, .ref h0]) (by rw [ev_7, show z_16 = z_6 from Int32.toInt_inj.mp (by omega)]) ?_
  refine lv_i2l (v := v_7.toInt64) hx hb dL_law_582 rfl ?_
  refine lv_topl (fun w_18 ew_18 => ?_)
  refine lv_ldc2 (own := RL) (v := 4294967295) hx hb hown (htb _ kw_7) dL_law_583 ?_
  refine lv_land hx hb dL_law_586 ?_
  refine lv_topl (fun w_19 ew_19 => ?_)
  refine lv_lor hx hb dL_law_587 ?_
  refine lv_topl (fun w_20 ew_20 => ?_)
  refine lw_callM (w := cW ad cid a29 lx9 sg9 gm9 lg9) (tw := cT cid) (r := [(qo, oE cO f9)]) (tr := [(cO, .long)]) (rest := []) (as := [.long w_20]) ⟨hx, hb, hml, hown, htb⟩ (f_get9 l dC dI h0 adm cidm sm gn ln w_20 (ss9 sg) (st9 gm) lg (rs9 sm) (rt9 gn) S hRI.1 hRI.2.2.1 hRI.2.1 hRI.2.2.2.1 hRI.2.2.2.2 rfl rfl hBR9 hXs9.1 hSS9.2.1 (WD_of h79.2.2) hXs9.2.2.2.1 hXs9.2.2.2.2.1 hSB9 hSS9.2.2.1 hSS9.2.2.2.1 hSS9.2.2.2.2.1) (cwV 1 htb (gd_V kw_1274 kw_1275 kw_1276 kw_5 kw_1640) rfl rfl rfl (by decide +kernel) ⟨Nat.le_of_ble_eq_true rfl, Nat.le_of_ble_eq_true rfl⟩) rfl hl.1 rfl (Nat.le_trans cs_n (by decide)) dL_law_588 ⟨(show 10000 + 3 * it + PHs gm + gc gm gm9 2 ≤ 601024 from by have := PHs_le kI2; have := PHs_le kI; have q9 := gc_l0 (gm := gm) (k := 2) kI2; omega), (show 400000 + 18 * it + 4 * PHs gm + gs gm gm9 2 ≤ 7293034 from by have := PHs_le kI2; have := PHs_le kI; have q9 := gs_l0 (gm := gm) (k := 2) kI2; omega)⟩ hK hP hD hS hA (fun r8 u8 H locs hw hP hD hS => ?_)
  obtain ⟨sm9, gn9, ln9, rfl, hI8, j1, j2, j3, gG, gM, gO⟩ := hw
  have hRI2 : RI sm9 gn9 ln9 := RI_mk hRI hI8 gG gM j1 j2 j3 (by decide) (by decide) (by decide) (by decide) (by decide) (by decide)
  have hP : va_P (dC, dI) vwCl (cW ad cid a29 lx9 sg9 gm9 lg9 ++ (mW h0 adm cidm sm9 gn9 ln9 ++ [(qo, oE cO f9)])) H := hP
  have hD : va_D A (cW ad cid a29 lx9 sg9 gm9 lg9 ++ (mW h0 adm cidm sm9 gn9 ln9 ++ [(qo, oE cO f9)])) := hD
  have hww : w_20 = w_11 := by rw [ew_20, ew_19, ew_18, ew_15, ew_14, ew_11, ew_10, ew_9, ew_5, ew_4]
  rw [hww] at gO
  have hQ9 := R_get hREL hSS9 hH9 gO
  refine lv_istore (lv' := [(6, .int r8), (5, .int r9), (4, .int i), (3, .ref qo), (2, .ref h0), (1, eV (ad 0) 0), (0, .ref b)]) hx hb dL_law_591 hl (by decide) (by simp [List.filter, eV_cat, cat_i, cat_l, cat_r]) (fun ls hl => ?_)
  refine lv_goto (tgt := 773) hx hb dL_law_593 (by decide) ?_
  have hREL2 : REL sg9 gm9 lg9 sm9 gn9 ln9 := by rw [← KS_nil k3, ← KS_nil j3]; exact REL_mk hREL k1 k2 j1 j2 hQ9.1
  refine W.widen (k := 10000 + 3 * (it + 1) + PHs gm9) (n := 400000 + 18 * (it + 1) + 4 * PHs gm9) (show 10000 + 3 * it + PHs gm + gc gm gm9 2 ≤ _ from by unfold gc PH; omega) (show 400000 + 18 * it + 4 * PHs gm + gs gm gm9 2 ≤ _ from by unfold gs PH; omega) ?_
  exact kont a29 lx9 sg9 gm9 lg9 sm9 gn9 ln9 f9 _ _ _ hKI2 hRI2 hREL2 hP hD hS (lv_sub hl [2, 3, 4, 5, 6] rfl)

set_option maxHeartbeats 4000000 in
set_option maxRecDepth 100000 in
theorem d_law9 {p : Program} {l : Launch} {e : Env} {s : State} {m : MethodId} {below : List Frame} {meth : Method} {c : Code} {b L : Nat} {xs : Nat → Int32} {dC : Nat → ClassId} {dI : Nat → Nat → Nat} {ad : Nat → Nat → Nat} {cid : Nat → ClassId} {h0 : Nat} {adm : Nat → Nat} {cidm : Nat → ClassId} {cO : ClassId} {qo : Nat} {A : Nat → Prop} (hl9 : l.stackTraces = false) (C0 : lw_At p s m meth c b L xs) (hL : L ≤ 4608) (hA : ∀ q : Nat, s.heap.size ≤ q → A q) (hbA : ¬ A b) (hG : CE ad A s) (hN9 : NE s) (hK : va_K (dC, dI) vwCl (cT cid ++ (mT cidm ++ [(cO, .long)])) s) (it : Nat) (i : Int32) (hit : it ≤ 511) (hi : i.toInt = 9 * (it : Int)) (hiL : i.toInt + 9 ≤ (L : Int)) (a2 : Nat → Nat) (lx : List Nat) (sg : Nat → Int32) (gm : Nat → Nat → Int32) (lg : Nat → Nat → Int64) (sm : Nat → Int32) (gn : Nat → Nat → Int32) (ln : Nat → Nat → Int64) (f : Nat → Int64) (H : Heap) (locs : List Loc) (ls : Array Slot) (hKI : KI it lx sg gm lg) (hRI : RI sm gn ln) (hREL : REL sg gm lg sm gn ln) (hP : va_P (dC, dI) vwCl (cW ad cid a2 lx sg gm lg ++ (mW h0 adm cidm sm gn ln ++ [(qo, oE cO f)])) H) (hD : va_D A (cW ad cid a2 lx sg gm lg ++ (mW h0 adm cidm sm gn ln ++ [(qo, oE cO f)]))) (hS : va_S A s.heap H locs) (hl : lv_has ls 7 [(4, .int i), (3, .ref qo), (2, .ref h0), (1, eV (ad 0) 0), (0, .ref b)]) (kont : ∀ (a2 : Nat → Nat) (lx : List Nat) (sg : Nat → Int32) (gm : Nat → Nat → Int32) (lg : Nat → Nat → Int64) (sm : Nat → Int32) (gn : Nat → Nat → Int32) (ln : Nat → Nat → Int64) (f : Nat → Int64) (H : Heap) (locs : List Loc) (ls : Array Slot), KI (it + 1) lx sg gm lg → RI sm gn ln → REL sg gm lg sm gn ln → va_P (dC, dI) vwCl (cW ad cid a2 lx sg gm lg ++ (mW h0 adm cidm sm gn ln ++ [(qo, oE cO f)])) H → va_D A (cW ad cid a2 lx sg gm lg ++ (mW h0 adm cidm sm gn ln ++ [(qo, oE cO f)])) → va_S A s.heap H locs → lv_has ls 7 [(4, .int i), (3, .ref qo), (2, .ref h0), (1, eV (ad 0) 0), (0, .ref b)] → W p l e room_1 s m #[Value.ref b] below meth c H locs (10000 + 3 * (it + 1) + PHs gm) (400000 + 18 * (it + 1) + 4 * PHs gm) (lw_Z below #[Value.ref b] s) (F0 m 773 ls [])) : W p l e room_1 s m #[Value.ref b] below meth c H locs (10000 + 3 * it + PHs gm) (400000 + 18 * it + 4 * PHs gm) (lw_Z below #[Value.ref b] s) (F0 m 596 ls []) := by
  obtain ⟨hx, hb, hr, hml, hown, hts, hX, hbl, hlocks, hgv⟩ := C0
  have hown : s.vm.findClass RL = some m.cls := hown
  have htb := fun (w : Cond) (h : w ∈ tb) => hts w (tb_in w h)
  have kI := hKI.1
  have hiv : iv 0 4599 i := ⟨by omega, by omega⟩
  obtain ⟨h79, hX9, hN289, hDC9, S, hSS9⟩ := id hREL
  obtain ⟨hSV9, hBR9, hSB9⟩ := REL_q hDC9
  have hXs9 := CLX_st hX9
  refine ec_aload_n hx hb dL_law_596 rfl (lv_at hl 3 rfl) ?_
  refine lv_aload_n hx hb dL_law_597 rfl (lv_at hl 4 rfl) ?_
  refine lv_iload hx hb dL_law_598 (lv_at hl 0 rfl) ?_
  refine lv_iconst (v := 1) hx hb dL_law_600 (by decide) ?_
  refine lv_iadd hx hb dL_law_601 ?_
  refine lv_topi (fun z_1 ez_1 => ?_)
  have tz_1 : z_1.toInt = i.toInt + 1 := by rw [ez_1]; exact iv_addE hiv (iv_k (by decide) : iv 1 1 1) (by decide)
  refine va_sld hx hb hX hbl hbA hS (vp_in_iff.mpr ⟨by omega, by omega⟩) dL_law_602 ?_
  refine lv_topi (fun v_2 ev_2 => ?_)
  refine lv_aload_n hx hb dL_law_603 rfl (lv_at hl 4 rfl) ?_
  refine lv_iload hx hb dL_law_604 (lv_at hl 0 rfl) ?_
  refine lv_iconst (v := 2) hx hb dL_law_606 (by decide) ?_
  refine lv_iadd hx hb dL_law_607 ?_
  refine lv_topi (fun z_3 ez_3 => ?_)
  have tz_3 : z_3.toInt = i.toInt + 2 := by rw [ez_3]; exact iv_addE hiv (iv_k (by decide) : iv 2 2 2) (by decide)
  refine va_sld hx hb hX hbl hbA hS (vp_in_iff.mpr ⟨by omega, by omega⟩) dL_law_608 ?_
  refine lv_topi (fun v_4 ev_4 => ?_)
  refine lv_aload_n hx hb dL_law_609 rfl (lv_at hl 1 rfl) ?_
  refine lw_callH (rest := []) (as := [eV (ad 0) 0, .int v_2, .int v_4, .ref qo]) ⟨hx, hb, hml, hown, htb⟩ (d_hcall l hl9 dC dI ad cid cO qo a2 lx sg gm lg f it v_2 v_4 hKI (by omega) S hSV9 hSS9.1) (vx_cwSW 4 htb (gd_S kw_1279 kw_1280 kw_304 kw_1642) rfl rfl rfl (by decide +kernel) ⟨Nat.le_of_ble_eq_true rfl, Nat.le_of_ble_eq_true rfl⟩) rfl hl.1 rfl (Nat.le_trans cs_n (by decide)) dL_law_610 ⟨(show 10000 + 3 * it + PHs gm + 60963 ≤ 601024 from by have := PHs_le kI; omega), (show 400000 + 18 * it + 4 * PHs gm + 243858 ≤ 7293034 from by have := PHs_le kI; omega)⟩ hK hP hD hS hA hG hN9 (fun r9 u f9 H locs hw hmu hP hD hS => ?_)
  obtain ⟨a29, lx9, sg9, gm9, lg9⟩ := u
  obtain ⟨hKI2, k1, k2, k3, x9, hx9, hH9⟩ := hw
  have hKI2 : KI (it + 1) lx9 sg9 gm9 lg9 := hKI2
  have k3 : KS [] lg lg9 := k3
  have kI2 := hKI2.1
  have hph : PHs gm ≤ PHs gm9 := hmu
  have hP : va_P (dC, dI) vwCl (cW ad cid a29 lx9 sg9 gm9 lg9 ++ (mW h0 adm cidm sm gn ln ++ [(qo, oE cO f9)])) H := hP
  have hD : va_D A (cW ad cid a29 lx9 sg9 gm9 lg9 ++ (mW h0 adm cidm sm gn ln ++ [(qo, oE cO f9)])) := hD
  refine lv_istore (lv' := [(5, .int r9), (4, .int i), (3, .ref qo), (2, .ref h0), (1, eV (ad 0) 0), (0, .ref b)]) hx hb dL_law_613 hl (by decide) (by simp [List.filter, eV_cat, cat_i, cat_l, cat_r]) (fun ls hl => ?_)
  refine lv_aload_n hx hb dL_law_615 rfl (lv_at hl 3 rfl) ?_
  refine lv_aload_n hx hb dL_law_616 rfl (lv_at hl 5 rfl) ?_
  refine lv_iload hx hb dL_law_617 (lv_at hl 1 rfl) ?_
  refine lv_iconst (v := 1) hx hb dL_law_619 (by decide) ?_
  refine lv_iadd hx hb dL_law_620 ?_
  refine lv_topi (fun z_5 ez_5 => ?_)
  have tz_5 : z_5.toInt = i.toInt + 1 := by rw [ez_5]; exact iv_addE hiv (iv_k (by decide) : iv 1 1 1) (by decide)
  refine va_sld hx hb hX hbl hbA hS (vp_in_iff.mpr ⟨by omega, by omega⟩) dL_law_621 ?_
  refine W.eq (g2 := F0 m 622 ls [.int v_2, .ref h0]) (by rw [ev_2, show z_5 = z_1 from Int32.toInt_inj.mp (by omega)]) ?_
  refine lv_aload_n hx hb dL_law_622 rfl (lv_at hl 5 rfl) ?_
  refine lv_iload hx hb dL_law_623 (lv_at hl 1 rfl) ?_
  refine lv_iconst (v := 2) hx hb dL_law_625 (by decide) ?_
  refine lv_iadd hx hb dL_law_626 ?_
  refine lv_topi (fun z_6 ez_6 => ?_)
  have tz_6 : z_6.toInt = i.toInt + 2 := by rw [ez_6]; exact iv_addE hiv (iv_k (by decide) : iv 2 2 2) (by decide)
  refine va_sld hx hb hX hbl hbA hS (vp_in_iff.mpr ⟨by omega, by omega⟩) dL_law_627 ?_
  refine W.eq (g2 := F0 m 628 ls [.int v_4, .int v_2, .ref h0]) (by rw [ev_4, show z_6 = z_3 from Int32.toInt_inj.mp (by omega)]) ?_
  refine lw_callM (w := cW ad cid a29 lx9 sg9 gm9 lg9) (tw := cT cid) (r := [(qo, oE cO f9)]) (tr := [(cO, .long)]) (rest := []) (as := [.int v_2, .int v_4]) ⟨hx, hb, hml, hown, htb⟩ (f_call9 l dC dI h0 adm cidm sm gn ln v_2 v_4 (ss9 sg) (st9 gm) lg (rs9 sm) (rt9 gn) S hRI.1 hRI.2.2.1 hRI.2.1 hRI.2.2.2.1 hRI.2.2.2.2 rfl rfl hBR9 hXs9.1 hSS9.2.1 (WD_of h79.2.2) hXs9.2.2.2.1 hXs9.2.2.2.2.1 hSB9 hSS9.2.2.1 hSS9.2.2.2.1 hSS9.2.2.2.2.1 (OB_d hDC9 hSS9)) (cwV 2 htb (gd_V kw_1297 kw_1298 kw_1299 kw_5 kw_1647) rfl rfl rfl (by decide +kernel) ⟨Nat.le_of_ble_eq_true rfl, Nat.le_of_ble_eq_true rfl⟩) rfl hl.1 rfl (Nat.le_trans cs_n (by decide)) dL_law_628 ⟨(show 10000 + 3 * it + PHs gm + gc gm gm9 2 ≤ 601024 from by have := PHs_le kI2; have := PHs_le kI; have q9 := gc_l0 (gm := gm) (k := 2) kI2; omega), (show 400000 + 18 * it + 4 * PHs gm + gs gm gm9 2 ≤ 7293034 from by have := PHs_le kI2; have := PHs_le kI; have q9 := gs_l0 (gm := gm) (k := 2) kI2; omega)⟩ hK hP hD hS hA (fun r8 u8 H locs hw hP hD hS => ?_)
  obtain ⟨sm9, gn9, ln9, rfl, hI8, j1, j2, j3, gG, gM, gO⟩ := hw
  have hRI2 : RI sm9 gn9 ln9 := RI_mk hRI hI8 gG gM j1 j2 j3 (by decide) (by decide) (by decide) (by decide) (by decide) (by decide)
  have hP : va_P (dC, dI) vwCl (cW ad cid a29 lx9 sg9 gm9 lg9 ++ (mW h0 adm cidm sm9 gn9 ln9 ++ [(qo, oE cO f9)])) H := hP
  have hD : va_D A (cW ad cid a29 lx9 sg9 gm9 lg9 ++ (mW h0 adm cidm sm9 gn9 ln9 ++ [(qo, oE cO f9)])) := hD
  have hQ9 := R_call hREL hSS9 hH9 gO
  refine lv_istore (lv' := [(6, .int r8), (5, .int r9), (4, .int i), (3, .ref qo), (2, .ref h0), (1, eV (ad 0) 0), (0, .ref b)]) hx hb dL_law_631 hl (by decide) (by simp [List.filter, eV_cat, cat_i, cat_l, cat_r]) (fun ls hl => ?_)
  refine lv_goto (tgt := 773) hx hb dL_law_633 (by decide) ?_
  have hREL2 : REL sg9 gm9 lg9 sm9 gn9 ln9 := by rw [← KS_nil k3, ← KS_nil j3]; exact REL_mk hREL k1 k2 j1 j2 hQ9.1
  refine W.widen (k := 10000 + 3 * (it + 1) + PHs gm9) (n := 400000 + 18 * (it + 1) + 4 * PHs gm9) (show 10000 + 3 * it + PHs gm + gc gm gm9 2 ≤ _ from by unfold gc PH; omega) (show 400000 + 18 * it + 4 * PHs gm + gs gm gm9 2 ≤ _ from by unfold gs PH; omega) ?_
  exact kont a29 lx9 sg9 gm9 lg9 sm9 gn9 ln9 f9 _ _ _ hKI2 hRI2 hREL2 hP hD hS (lv_sub hl [2, 3, 4, 5, 6] rfl)

set_option maxHeartbeats 4000000 in
set_option maxRecDepth 100000 in
theorem d_law10 {p : Program} {l : Launch} {e : Env} {s : State} {m : MethodId} {below : List Frame} {meth : Method} {c : Code} {b L : Nat} {xs : Nat → Int32} {dC : Nat → ClassId} {dI : Nat → Nat → Nat} {ad : Nat → Nat → Nat} {cid : Nat → ClassId} {h0 : Nat} {adm : Nat → Nat} {cidm : Nat → ClassId} {cO : ClassId} {qo : Nat} {A : Nat → Prop} (hl9 : l.stackTraces = false) (C0 : lw_At p s m meth c b L xs) (hL : L ≤ 4608) (hA : ∀ q : Nat, s.heap.size ≤ q → A q) (hbA : ¬ A b) (hG : CE ad A s) (hN9 : NE s) (hK : va_K (dC, dI) vwCl (cT cid ++ (mT cidm ++ [(cO, .long)])) s) (it : Nat) (i : Int32) (hit : it ≤ 511) (hi : i.toInt = 9 * (it : Int)) (hiL : i.toInt + 9 ≤ (L : Int)) (a2 : Nat → Nat) (lx : List Nat) (sg : Nat → Int32) (gm : Nat → Nat → Int32) (lg : Nat → Nat → Int64) (sm : Nat → Int32) (gn : Nat → Nat → Int32) (ln : Nat → Nat → Int64) (f : Nat → Int64) (H : Heap) (locs : List Loc) (ls : Array Slot) (hKI : KI it lx sg gm lg) (hRI : RI sm gn ln) (hREL : REL sg gm lg sm gn ln) (hP : va_P (dC, dI) vwCl (cW ad cid a2 lx sg gm lg ++ (mW h0 adm cidm sm gn ln ++ [(qo, oE cO f)])) H) (hD : va_D A (cW ad cid a2 lx sg gm lg ++ (mW h0 adm cidm sm gn ln ++ [(qo, oE cO f)]))) (hS : va_S A s.heap H locs) (hl : lv_has ls 7 [(4, .int i), (3, .ref qo), (2, .ref h0), (1, eV (ad 0) 0), (0, .ref b)]) (kont : ∀ (a2 : Nat → Nat) (lx : List Nat) (sg : Nat → Int32) (gm : Nat → Nat → Int32) (lg : Nat → Nat → Int64) (sm : Nat → Int32) (gn : Nat → Nat → Int32) (ln : Nat → Nat → Int64) (f : Nat → Int64) (H : Heap) (locs : List Loc) (ls : Array Slot), KI (it + 1) lx sg gm lg → RI sm gn ln → REL sg gm lg sm gn ln → va_P (dC, dI) vwCl (cW ad cid a2 lx sg gm lg ++ (mW h0 adm cidm sm gn ln ++ [(qo, oE cO f)])) H → va_D A (cW ad cid a2 lx sg gm lg ++ (mW h0 adm cidm sm gn ln ++ [(qo, oE cO f)])) → va_S A s.heap H locs → lv_has ls 7 [(4, .int i), (3, .ref qo), (2, .ref h0), (1, eV (ad 0) 0), (0, .ref b)] → W p l e room_1 s m #[Value.ref b] below meth c H locs (10000 + 3 * (it + 1) + PHs gm) (400000 + 18 * (it + 1) + 4 * PHs gm) (lw_Z below #[Value.ref b] s) (F0 m 773 ls [])) : W p l e room_1 s m #[Value.ref b] below meth c H locs (10000 + 3 * it + PHs gm) (400000 + 18 * it + 4 * PHs gm) (lw_Z below #[Value.ref b] s) (F0 m 636 ls []) := by
  obtain ⟨hx, hb, hr, hml, hown, hts, hX, hbl, hlocks, hgv⟩ := C0
  have hown : s.vm.findClass RL = some m.cls := hown
  have htb := fun (w : Cond) (h : w ∈ tb) => hts w (tb_in w h)
  have kI := hKI.1
  have hiv : iv 0 4599 i := ⟨by omega, by omega⟩
  obtain ⟨h79, hX9, hN289, hDC9, S, hSS9⟩ := id hREL
  obtain ⟨hSV9, hBR9, hSB9⟩ := REL_q hDC9
  have hXs9 := CLX_st hX9
  refine ec_aload_n hx hb dL_law_636 rfl (lv_at hl 3 rfl) ?_
  refine lw_callT (r := (mW h0 adm cidm sm gn ln ++ [(qo, oE cO f)])) (tr := mT cidm ++ [(cO, .long)]) (rest := []) (as := []) ⟨hx, hb, hml, hown, htb⟩ (d_close9 l dC dI ad cid a2 lx sg gm lg 0 (st9 gm) S kI (iv_k (by decide) : iv 0 0 0) hKI.2.2.1 rfl hSS9.1) (cwV 0 htb (gd_V kw_1300 kw_1301 kw_1302 kw_2 kw_1648) rfl rfl rfl (by decide +kernel) ⟨Nat.le_of_ble_eq_true rfl, Nat.le_of_ble_eq_true rfl⟩) (iv_k (by decide) : iv 0 0 0) rfl hl.1 rfl (Nat.le_trans cs_n (by decide)) dL_law_637 ⟨(show 10000 + 3 * it + PHs gm + 1 ≤ 601024 from by have := PHs_le kI; omega), (show 400000 + 18 * it + 4 * PHs gm + 6 ≤ 7293034 from by have := PHs_le kI; omega)⟩ hK hP hD hS hA hG (fun _ _ h9 => h9) (fun v9 u H locs hw hP hD hS => ?_)
  obtain ⟨r9, rfl, sg9, gm9, lg9, rfl, hI9, k1, k2, k3, hr9, fM, f15, fR, fE⟩ := hw
  have hKI2 : KI (it + 1) lx sg9 gm9 lg9 := KI_cl hKI hI9 k1 k2 k3 fM f15 (by decide) (by decide) (by decide)
  have hph : PHs gm ≤ PHs gm9 := Nat.le_of_eq (PHs_e (k2 42 (by decide))).symm
  have hP : va_P (dC, dI) vwCl (cW ad cid a2 lx sg9 gm9 lg9 ++ (mW h0 adm cidm sm gn ln ++ [(qo, oE cO f)])) H := hP
  have hD : va_D A (cW ad cid a2 lx sg9 gm9 lg9 ++ (mW h0 adm cidm sm gn ln ++ [(qo, oE cO f)])) := hD
  refine W.eq (g2 := F0 m 640 ls [.int r9]) rfl ?_
  refine lv_aload_n hx hb dL_law_640 rfl (lv_at hl 2 rfl) ?_
  refine lw_callM (w := cW ad cid a2 lx sg9 gm9 lg9) (tw := cT cid) (r := [(qo, oE cO f)]) (tr := [(cO, .long)]) (rest := [.int r9]) (as := []) ⟨hx, hb, hml, hown, htb⟩ (f_close9 l dC dI h0 adm cidm sm gn ln (ss9 sg) (st9 gm) lg (rs9 sm) (rt9 gn) S hRI.1 hRI.2.2.1 hRI.2.1 hRI.2.2.2.1 hRI.2.2.2.2 rfl rfl hBR9 hXs9.1 hSS9.2.1 (WD_of h79.2.2) hXs9.2.2.2.1 hXs9.2.2.2.2.1 hSB9 hSS9.2.2.1 hSS9.2.2.2.1 hSS9.2.2.2.2.1) (cwV 0 htb (gd_V kw_1307 kw_1308 kw_1309 kw_5 kw_1650) rfl rfl rfl (by decide +kernel) ⟨Nat.le_of_ble_eq_true rfl, Nat.le_of_ble_eq_true rfl⟩) rfl hl.1 rfl (Nat.le_trans (cs_c (cat_i _) cs_n) (by decide)) dL_law_641 ⟨(show 10000 + 3 * it + PHs gm ≤ 601024 from by have := PHs_le kI; omega), (show 400000 + 18 * it + 4 * PHs gm ≤ 7293034 from by have := PHs_le kI; omega)⟩ hK hP hD hS hA (fun r8 u8 H locs hw hP hD hS => ?_)
  obtain ⟨sm9, gn9, ln9, rfl, hI8, j1, j2, j3, gG, gM, gO⟩ := hw
  have hRI2 : RI sm9 gn9 ln9 := RI_mk hRI hI8 gG gM j1 j2 j3 (by decide) (by decide) (by decide) (by decide) (by decide) (by decide)
  have hP : va_P (dC, dI) vwCl (cW ad cid a2 lx sg9 gm9 lg9 ++ (mW h0 adm cidm sm9 gn9 ln9 ++ [(qo, oE cO f)])) H := hP
  have hD : va_D A (cW ad cid a2 lx sg9 gm9 lg9 ++ (mW h0 adm cidm sm9 gn9 ln9 ++ [(qo, oE cO f)])) := hD
  have hQ9 := R_close hREL hSS9 ⟨fR, fE⟩ gO
  refine lv_icmp_eq (tgt := 773) hx hb dL_law_644 (by decide) (fun c_1 => ?_) (fun c_1 => absurd (Int32.toInt_inj.mp hQ9.2) c_1)
  have hREL2 : REL sg9 gm9 lg9 sm9 gn9 ln9 := by rw [← KS_nil k3, ← KS_nil j3]; exact REL_mk hREL (KS_tr (L := [13, 14, 15, 16, 17, 18]) KS_rf k1 (by decide)) (KS_tr (L := [37, 38, 39, 48, 49, 50, 51, 52, 53]) KS_rf k2 (by decide)) (KS_tr (L := [5, 48, 49, 50, 51, 52, 63, 74]) KS_rf j1 (by decide)) (KS_tr (L := [53, 54, 55, 56, 57, 58, 59, 60, 61, 62, 64, 65, 66, 67, 68, 69, 70, 71, 72, 73, 75]) KS_rf j2 (by decide)) hQ9.1
  refine W.widen (k := 10000 + 3 * (it + 1) + PHs gm9) (n := 400000 + 18 * (it + 1) + 4 * PHs gm9) (show 10000 + 3 * it + PHs gm ≤ _ from by omega) (show 400000 + 18 * it + 4 * PHs gm ≤ _ from by omega) ?_
  exact kont a2 lx sg9 gm9 lg9 sm9 gn9 ln9 f _ _ _ hKI2 hRI2 hREL2 hP hD hS (lv_sub hl [0, 1, 2, 3, 4] rfl)

set_option maxHeartbeats 4000000 in
set_option maxRecDepth 100000 in
theorem d_law11 {p : Program} {l : Launch} {e : Env} {s : State} {m : MethodId} {below : List Frame} {meth : Method} {c : Code} {b L : Nat} {xs : Nat → Int32} {dC : Nat → ClassId} {dI : Nat → Nat → Nat} {ad : Nat → Nat → Nat} {cid : Nat → ClassId} {h0 : Nat} {adm : Nat → Nat} {cidm : Nat → ClassId} {cO : ClassId} {qo : Nat} {A : Nat → Prop} (hl9 : l.stackTraces = false) (C0 : lw_At p s m meth c b L xs) (hL : L ≤ 4608) (hA : ∀ q : Nat, s.heap.size ≤ q → A q) (hbA : ¬ A b) (hG : CE ad A s) (hN9 : NE s) (hK : va_K (dC, dI) vwCl (cT cid ++ (mT cidm ++ [(cO, .long)])) s) (it : Nat) (i : Int32) (hit : it ≤ 511) (hi : i.toInt = 9 * (it : Int)) (hiL : i.toInt + 9 ≤ (L : Int)) (a2 : Nat → Nat) (lx : List Nat) (sg : Nat → Int32) (gm : Nat → Nat → Int32) (lg : Nat → Nat → Int64) (sm : Nat → Int32) (gn : Nat → Nat → Int32) (ln : Nat → Nat → Int64) (f : Nat → Int64) (H : Heap) (locs : List Loc) (ls : Array Slot) (hKI : KI it lx sg gm lg) (hRI : RI sm gn ln) (hREL : REL sg gm lg sm gn ln) (hP : va_P (dC, dI) vwCl (cW ad cid a2 lx sg gm lg ++ (mW h0 adm cidm sm gn ln ++ [(qo, oE cO f)])) H) (hD : va_D A (cW ad cid a2 lx sg gm lg ++ (mW h0 adm cidm sm gn ln ++ [(qo, oE cO f)]))) (hS : va_S A s.heap H locs) (hl : lv_has ls 7 [(4, .int i), (3, .ref qo), (2, .ref h0), (1, eV (ad 0) 0), (0, .ref b)]) (kont : ∀ (a2 : Nat → Nat) (lx : List Nat) (sg : Nat → Int32) (gm : Nat → Nat → Int32) (lg : Nat → Nat → Int64) (sm : Nat → Int32) (gn : Nat → Nat → Int32) (ln : Nat → Nat → Int64) (f : Nat → Int64) (H : Heap) (locs : List Loc) (ls : Array Slot), KI (it + 1) lx sg gm lg → RI sm gn ln → REL sg gm lg sm gn ln → va_P (dC, dI) vwCl (cW ad cid a2 lx sg gm lg ++ (mW h0 adm cidm sm gn ln ++ [(qo, oE cO f)])) H → va_D A (cW ad cid a2 lx sg gm lg ++ (mW h0 adm cidm sm gn ln ++ [(qo, oE cO f)])) → va_S A s.heap H locs → lv_has ls 7 [(4, .int i), (3, .ref qo), (2, .ref h0), (1, eV (ad 0) 0), (0, .ref b)] → W p l e room_1 s m #[Value.ref b] below meth c H locs (10000 + 3 * (it + 1) + PHs gm) (400000 + 18 * (it + 1) + 4 * PHs gm) (lw_Z below #[Value.ref b] s) (F0 m 773 ls [])) : W p l e room_1 s m #[Value.ref b] below meth c H locs (10000 + 3 * it + PHs gm) (400000 + 18 * it + 4 * PHs gm) (lw_Z below #[Value.ref b] s) (F0 m 649 ls []) := by
  obtain ⟨hx, hb, hr, hml, hown, hts, hX, hbl, hlocks, hgv⟩ := C0
  have hown : s.vm.findClass RL = some m.cls := hown
  have htb := fun (w : Cond) (h : w ∈ tb) => hts w (tb_in w h)
  have kI := hKI.1
  have hiv : iv 0 4599 i := ⟨by omega, by omega⟩
  obtain ⟨h79, hX9, hN289, hDC9, S, hSS9⟩ := id hREL
  obtain ⟨hSV9, hBR9, hSB9⟩ := REL_q hDC9
  have hXs9 := CLX_st hX9
  refine ec_aload_n hx hb dL_law_649 rfl (lv_at hl 3 rfl) ?_
  refine lw_callT (r := (mW h0 adm cidm sm gn ln ++ [(qo, oE cO f)])) (tr := mT cidm ++ [(cO, .long)]) (rest := []) (as := []) ⟨hx, hb, hml, hown, htb⟩ (d_events9 l dC dI ad cid a2 lx sg gm lg 0 (st9 gm) S kI (iv_k (by decide) : iv 0 0 0) hSS9.1) (cwV 0 htb (gd_V kw_1310 kw_1311 kw_1312 kw_2 kw_1651) rfl rfl rfl (by decide +kernel) ⟨Nat.le_of_ble_eq_true rfl, Nat.le_of_ble_eq_true rfl⟩) (iv_k (by decide) : iv 0 0 0) rfl hl.1 rfl (Nat.le_trans cs_n (by decide)) dL_law_650 ⟨(show 10000 + 3 * it + PHs gm + 1 ≤ 601024 from by have := PHs_le kI; omega), (show 400000 + 18 * it + 4 * PHs gm + 6 ≤ 7293034 from by have := PHs_le kI; omega)⟩ hK hP hD hS hA hG (fun _ _ h9 => h9) (fun v9 u H locs hw hP hD hS => ?_)
  obtain ⟨r9, rfl, rfl, hr9, fE⟩ := hw
  have hKI2 : KI (it + 1) lx sg gm lg := KI_of (Ls := []) (Lg := []) (Ll := []) hKI kI KS_rf KS_rf KS_rf (by decide) (by decide) (by decide)
  have hph : PHs gm ≤ PHs gm := Nat.le_refl _
  have hP : va_P (dC, dI) vwCl (cW ad cid a2 lx sg gm lg ++ (mW h0 adm cidm sm gn ln ++ [(qo, oE cO f)])) H := hP
  have hD : va_D A (cW ad cid a2 lx sg gm lg ++ (mW h0 adm cidm sm gn ln ++ [(qo, oE cO f)])) := hD
  refine W.eq (g2 := F0 m 653 ls [.int r9]) rfl ?_
  refine lv_pop hx hb dL_law_653 (cat_i _) ?_
  refine lv_aload_n hx hb dL_law_654 rfl (lv_at hl 2 rfl) ?_
  refine lw_callM (w := cW ad cid a2 lx sg gm lg) (tw := cT cid) (r := [(qo, oE cO f)]) (tr := [(cO, .long)]) (rest := []) (as := []) ⟨hx, hb, hml, hown, htb⟩ (f_events9 l dC dI h0 adm cidm sm gn ln (st9 gm) lg S hRI.1 hSS9.2.1) (cwV 0 htb (gd_V kw_1313 kw_1314 kw_1315 kw_5 kw_1652) rfl rfl rfl (by decide +kernel) ⟨Nat.le_of_ble_eq_true rfl, Nat.le_of_ble_eq_true rfl⟩) rfl hl.1 rfl (Nat.le_trans cs_n (by decide)) dL_law_655 ⟨(show 10000 + 3 * it + PHs gm ≤ 601024 from by have := PHs_le kI; omega), (show 400000 + 18 * it + 4 * PHs gm ≤ 7293034 from by have := PHs_le kI; omega)⟩ hK hP hD hS hA (fun r8 u8 H locs hw hP hD hS => ?_)
  obtain ⟨sm9, gn9, ln9, rfl, hI8, j1, j2, j3, gE, gRR⟩ := hw
  have hRI2 : RI sm9 gn9 ln9 := RI_of hRI hI8 (PR_k hRI.2.1 (j2 6 (by decide))) j1 j2 j3 (by decide) (by decide) (by decide) (by decide) (by decide) (by decide) (by decide) (by decide) (by decide) (by decide)
  have hP : va_P (dC, dI) vwCl (cW ad cid a2 lx sg gm lg ++ (mW h0 adm cidm sm9 gn9 ln9 ++ [(qo, oE cO f)])) H := hP
  have hD : va_D A (cW ad cid a2 lx sg gm lg ++ (mW h0 adm cidm sm9 gn9 ln9 ++ [(qo, oE cO f)])) := hD
  refine lv_pop hx hb dL_law_658 (cat_i _) ?_
  refine lv_goto (tgt := 773) hx hb dL_law_659 (by decide) ?_
  have hREL2 : REL sg gm lg sm9 gn9 ln9 := REL_k hREL (TXR_k h79.1 ((KS_rf (L := []) (f := sg)) 0 (by decide)) ((KS_rf (L := []) (f := gm)) 43 (by decide)) (j1 20 (by decide)) (j2 19 (by decide))) (CLX_k hX9 (KS_rf (L := [])) j2 (by decide) (by decide)) (KS_rf (L := [])) (KS_rf (L := [])) (KS_rf (L := [])) j1 j2 j3 (by decide) (by decide) (by decide) (by decide)
  refine W.widen (k := 10000 + 3 * (it + 1) + PHs gm) (n := 400000 + 18 * (it + 1) + 4 * PHs gm) (show 10000 + 3 * it + PHs gm ≤ _ from by omega) (show 400000 + 18 * it + 4 * PHs gm ≤ _ from by omega) ?_
  exact kont a2 lx sg gm lg sm9 gn9 ln9 f _ _ _ hKI2 hRI2 hREL2 hP hD hS (lv_sub hl [0, 1, 2, 3, 4] rfl)

set_option maxHeartbeats 4000000 in
set_option maxRecDepth 100000 in
theorem d_law12 {p : Program} {l : Launch} {e : Env} {s : State} {m : MethodId} {below : List Frame} {meth : Method} {c : Code} {b L : Nat} {xs : Nat → Int32} {dC : Nat → ClassId} {dI : Nat → Nat → Nat} {ad : Nat → Nat → Nat} {cid : Nat → ClassId} {h0 : Nat} {adm : Nat → Nat} {cidm : Nat → ClassId} {cO : ClassId} {qo : Nat} {A : Nat → Prop} (hl9 : l.stackTraces = false) (C0 : lw_At p s m meth c b L xs) (hL : L ≤ 4608) (hA : ∀ q : Nat, s.heap.size ≤ q → A q) (hbA : ¬ A b) (hG : CE ad A s) (hN9 : NE s) (hK : va_K (dC, dI) vwCl (cT cid ++ (mT cidm ++ [(cO, .long)])) s) (it : Nat) (i : Int32) (hit : it ≤ 511) (hi : i.toInt = 9 * (it : Int)) (hiL : i.toInt + 9 ≤ (L : Int)) (a2 : Nat → Nat) (lx : List Nat) (sg : Nat → Int32) (gm : Nat → Nat → Int32) (lg : Nat → Nat → Int64) (sm : Nat → Int32) (gn : Nat → Nat → Int32) (ln : Nat → Nat → Int64) (f : Nat → Int64) (H : Heap) (locs : List Loc) (ls : Array Slot) (hKI : KI it lx sg gm lg) (hRI : RI sm gn ln) (hREL : REL sg gm lg sm gn ln) (hP : va_P (dC, dI) vwCl (cW ad cid a2 lx sg gm lg ++ (mW h0 adm cidm sm gn ln ++ [(qo, oE cO f)])) H) (hD : va_D A (cW ad cid a2 lx sg gm lg ++ (mW h0 adm cidm sm gn ln ++ [(qo, oE cO f)]))) (hS : va_S A s.heap H locs) (hl : lv_has ls 7 [(4, .int i), (3, .ref qo), (2, .ref h0), (1, eV (ad 0) 0), (0, .ref b)]) (kont : ∀ (a2 : Nat → Nat) (lx : List Nat) (sg : Nat → Int32) (gm : Nat → Nat → Int32) (lg : Nat → Nat → Int64) (sm : Nat → Int32) (gn : Nat → Nat → Int32) (ln : Nat → Nat → Int64) (f : Nat → Int64) (H : Heap) (locs : List Loc) (ls : Array Slot), KI (it + 1) lx sg gm lg → RI sm gn ln → REL sg gm lg sm gn ln → va_P (dC, dI) vwCl (cW ad cid a2 lx sg gm lg ++ (mW h0 adm cidm sm gn ln ++ [(qo, oE cO f)])) H → va_D A (cW ad cid a2 lx sg gm lg ++ (mW h0 adm cidm sm gn ln ++ [(qo, oE cO f)])) → va_S A s.heap H locs → lv_has ls 7 [(4, .int i), (3, .ref qo), (2, .ref h0), (1, eV (ad 0) 0), (0, .ref b)] → W p l e room_1 s m #[Value.ref b] below meth c H locs (10000 + 3 * (it + 1) + PHs gm) (400000 + 18 * (it + 1) + 4 * PHs gm) (lw_Z below #[Value.ref b] s) (F0 m 773 ls [])) : W p l e room_1 s m #[Value.ref b] below meth c H locs (10000 + 3 * it + PHs gm) (400000 + 18 * it + 4 * PHs gm) (lw_Z below #[Value.ref b] s) (F0 m 662 ls []) := by
  obtain ⟨hx, hb, hr, hml, hown, hts, hX, hbl, hlocks, hgv⟩ := C0
  have hown : s.vm.findClass RL = some m.cls := hown
  have htb := fun (w : Cond) (h : w ∈ tb) => hts w (tb_in w h)
  have kI := hKI.1
  have hiv : iv 0 4599 i := ⟨by omega, by omega⟩
  obtain ⟨h79, hX9, hN289, hDC9, S, hSS9⟩ := id hREL
  obtain ⟨hSV9, hBR9, hSB9⟩ := REL_q hDC9
  have hXs9 := CLX_st hX9
  refine ec_aload_n hx hb dL_law_662 rfl (lv_at hl 3 rfl) ?_
  refine lv_aload_n hx hb dL_law_663 rfl (lv_at hl 4 rfl) ?_
  refine lv_iload hx hb dL_law_664 (lv_at hl 0 rfl) ?_
  refine lv_iconst (v := 1) hx hb dL_law_666 (by decide) ?_
  refine lv_iadd hx hb dL_law_667 ?_
  refine lv_topi (fun z_1 ez_1 => ?_)
  have tz_1 : z_1.toInt = i.toInt + 1 := by rw [ez_1]; exact iv_addE hiv (iv_k (by decide) : iv 1 1 1) (by decide)
  refine va_sld hx hb hX hbl hbA hS (vp_in_iff.mpr ⟨by omega, by omega⟩) dL_law_668 ?_
  refine lv_topi (fun v_2 ev_2 => ?_)
  refine lv_aload_n hx hb dL_law_669 rfl (lv_at hl 4 rfl) ?_
  refine lv_iload hx hb dL_law_670 (lv_at hl 0 rfl) ?_
  refine lv_iconst (v := 2) hx hb dL_law_672 (by decide) ?_
  refine lv_iadd hx hb dL_law_673 ?_
  refine lv_topi (fun z_3 ez_3 => ?_)
  have tz_3 : z_3.toInt = i.toInt + 2 := by rw [ez_3]; exact iv_addE hiv (iv_k (by decide) : iv 2 2 2) (by decide)
  refine va_sld hx hb hX hbl hbA hS (vp_in_iff.mpr ⟨by omega, by omega⟩) dL_law_674 ?_
  refine lv_topi (fun v_4 ev_4 => ?_)
  refine lw_callT (r := (mW h0 adm cidm sm gn ln ++ [(qo, oE cO f)])) (tr := mT cidm ++ [(cO, .long)]) (rest := []) (as := [.int v_2, .int v_4]) ⟨hx, hb, hml, hown, htb⟩ (d_event9 l dC dI ad cid a2 lx sg gm lg 0 v_2 v_4 (st9 gm) S kI (iv_k (by decide) : iv 0 0 0) hSS9.1) (cwV 2 htb (gd_V kw_1316 kw_1317 kw_1318 kw_2 kw_1653) rfl rfl rfl (by decide +kernel) ⟨Nat.le_of_ble_eq_true rfl, Nat.le_of_ble_eq_true rfl⟩) (iv_k (by decide) : iv 0 0 0) rfl hl.1 rfl (Nat.le_trans cs_n (by decide)) dL_law_675 ⟨(show 10000 + 3 * it + PHs gm + 1 ≤ 601024 from by have := PHs_le kI; omega), (show 400000 + 18 * it + 4 * PHs gm + 6 ≤ 7293034 from by have := PHs_le kI; omega)⟩ hK hP hD hS hA hG (fun _ _ h9 => h9) (fun v9 u H locs hw hP hD hS => ?_)
  obtain ⟨r9, rfl, rfl, fE⟩ := hw
  have hKI2 : KI (it + 1) lx sg gm lg := KI_of (Ls := []) (Lg := []) (Ll := []) hKI kI KS_rf KS_rf KS_rf (by decide) (by decide) (by decide)
  have hph : PHs gm ≤ PHs gm := Nat.le_refl _
  have hP : va_P (dC, dI) vwCl (cW ad cid a2 lx sg gm lg ++ (mW h0 adm cidm sm gn ln ++ [(qo, oE cO f)])) H := hP
  have hD : va_D A (cW ad cid a2 lx sg gm lg ++ (mW h0 adm cidm sm gn ln ++ [(qo, oE cO f)])) := hD
  refine W.eq (g2 := F0 m 678 ls [.int r9]) rfl ?_
  refine lv_pop hx hb dL_law_678 (cat_i _) ?_
  refine lv_aload_n hx hb dL_law_679 rfl (lv_at hl 2 rfl) ?_
  refine lv_aload_n hx hb dL_law_680 rfl (lv_at hl 4 rfl) ?_
  refine lv_iload hx hb dL_law_681 (lv_at hl 0 rfl) ?_
  refine lv_iconst (v := 1) hx hb dL_law_683 (by decide) ?_
  refine lv_iadd hx hb dL_law_684 ?_
  refine lv_topi (fun z_5 ez_5 => ?_)
  have tz_5 : z_5.toInt = i.toInt + 1 := by rw [ez_5]; exact iv_addE hiv (iv_k (by decide) : iv 1 1 1) (by decide)
  refine va_sld hx hb hX hbl hbA hS (vp_in_iff.mpr ⟨by omega, by omega⟩) dL_law_685 ?_
  refine W.eq (g2 := F0 m 686 ls [.int v_2, .ref h0]) (by rw [ev_2, show z_5 = z_1 from Int32.toInt_inj.mp (by omega)]) ?_
  refine lv_aload_n hx hb dL_law_686 rfl (lv_at hl 4 rfl) ?_
  refine lv_iload hx hb dL_law_687 (lv_at hl 0 rfl) ?_
  refine lv_iconst (v := 2) hx hb dL_law_689 (by decide) ?_
  refine lv_iadd hx hb dL_law_690 ?_
  refine lv_topi (fun z_6 ez_6 => ?_)
  have tz_6 : z_6.toInt = i.toInt + 2 := by rw [ez_6]; exact iv_addE hiv (iv_k (by decide) : iv 2 2 2) (by decide)
  refine va_sld hx hb hX hbl hbA hS (vp_in_iff.mpr ⟨by omega, by omega⟩) dL_law_691 ?_
  refine W.eq (g2 := F0 m 692 ls [.int v_4, .int v_2, .ref h0]) (by rw [ev_4, show z_6 = z_3 from Int32.toInt_inj.mp (by omega)]) ?_
  refine lw_callM (w := cW ad cid a2 lx sg gm lg) (tw := cT cid) (r := [(qo, oE cO f)]) (tr := [(cO, .long)]) (rest := []) (as := [.int v_2, .int v_4]) ⟨hx, hb, hml, hown, htb⟩ (f_event9 l dC dI h0 adm cidm sm gn ln v_2 v_4 (st9 gm) lg S hRI.1 hSS9.2.1) (cwV 2 htb (gd_V kw_1322 kw_1323 kw_1324 kw_5 kw_1655) rfl rfl rfl (by decide +kernel) ⟨Nat.le_of_ble_eq_true rfl, Nat.le_of_ble_eq_true rfl⟩) rfl hl.1 rfl (Nat.le_trans cs_n (by decide)) dL_law_692 ⟨(show 10000 + 3 * it + PHs gm ≤ 601024 from by have := PHs_le kI; omega), (show 400000 + 18 * it + 4 * PHs gm ≤ 7293034 from by have := PHs_le kI; omega)⟩ hK hP hD hS hA (fun r8 u8 H locs hw hP hD hS => ?_)
  obtain ⟨sm9, gn9, ln9, rfl, hI8, j1, j2, j3, gE, gRR⟩ := hw
  have hRI2 : RI sm9 gn9 ln9 := RI_of hRI hI8 (PR_k hRI.2.1 (j2 6 (by decide))) j1 j2 j3 (by decide) (by decide) (by decide) (by decide) (by decide) (by decide) (by decide) (by decide) (by decide) (by decide)
  have hP : va_P (dC, dI) vwCl (cW ad cid a2 lx sg gm lg ++ (mW h0 adm cidm sm9 gn9 ln9 ++ [(qo, oE cO f)])) H := hP
  have hD : va_D A (cW ad cid a2 lx sg gm lg ++ (mW h0 adm cidm sm9 gn9 ln9 ++ [(qo, oE cO f)])) := hD
  refine lv_pop hx hb dL_law_695 (cat_i _) ?_
  refine lv_goto (tgt := 773) hx hb dL_law_696 (by decide) ?_
  have hREL2 : REL sg gm lg sm9 gn9 ln9 := REL_k hREL (TXR_k h79.1 ((KS_rf (L := []) (f := sg)) 0 (by decide)) ((KS_rf (L := []) (f := gm)) 43 (by decide)) (j1 20 (by decide)) (j2 19 (by decide))) (CLX_k hX9 (KS_rf (L := [])) j2 (by decide) (by decide)) (KS_rf (L := [])) (KS_rf (L := [])) (KS_rf (L := [])) j1 j2 j3 (by decide) (by decide) (by decide) (by decide)
  refine W.widen (k := 10000 + 3 * (it + 1) + PHs gm) (n := 400000 + 18 * (it + 1) + 4 * PHs gm) (show 10000 + 3 * it + PHs gm ≤ _ from by omega) (show 400000 + 18 * it + 4 * PHs gm ≤ _ from by omega) ?_
  exact kont a2 lx sg gm lg sm9 gn9 ln9 f _ _ _ hKI2 hRI2 hREL2 hP hD hS (lv_sub hl [0, 1, 2, 3, 4] rfl)

set_option maxHeartbeats 4000000 in
set_option maxRecDepth 100000 in
theorem d_law13 {p : Program} {l : Launch} {e : Env} {s : State} {m : MethodId} {below : List Frame} {meth : Method} {c : Code} {b L : Nat} {xs : Nat → Int32} {dC : Nat → ClassId} {dI : Nat → Nat → Nat} {ad : Nat → Nat → Nat} {cid : Nat → ClassId} {h0 : Nat} {adm : Nat → Nat} {cidm : Nat → ClassId} {cO : ClassId} {qo : Nat} {A : Nat → Prop} (hl9 : l.stackTraces = false) (C0 : lw_At p s m meth c b L xs) (hL : L ≤ 4608) (hA : ∀ q : Nat, s.heap.size ≤ q → A q) (hbA : ¬ A b) (hG : CE ad A s) (hN9 : NE s) (hK : va_K (dC, dI) vwCl (cT cid ++ (mT cidm ++ [(cO, .long)])) s) (it : Nat) (i : Int32) (hit : it ≤ 511) (hi : i.toInt = 9 * (it : Int)) (hiL : i.toInt + 9 ≤ (L : Int)) (a2 : Nat → Nat) (lx : List Nat) (sg : Nat → Int32) (gm : Nat → Nat → Int32) (lg : Nat → Nat → Int64) (sm : Nat → Int32) (gn : Nat → Nat → Int32) (ln : Nat → Nat → Int64) (f : Nat → Int64) (H : Heap) (locs : List Loc) (ls : Array Slot) (hKI : KI it lx sg gm lg) (hRI : RI sm gn ln) (hREL : REL sg gm lg sm gn ln) (hP : va_P (dC, dI) vwCl (cW ad cid a2 lx sg gm lg ++ (mW h0 adm cidm sm gn ln ++ [(qo, oE cO f)])) H) (hD : va_D A (cW ad cid a2 lx sg gm lg ++ (mW h0 adm cidm sm gn ln ++ [(qo, oE cO f)]))) (hS : va_S A s.heap H locs) (hl : lv_has ls 7 [(4, .int i), (3, .ref qo), (2, .ref h0), (1, eV (ad 0) 0), (0, .ref b)]) (kont : ∀ (a2 : Nat → Nat) (lx : List Nat) (sg : Nat → Int32) (gm : Nat → Nat → Int32) (lg : Nat → Nat → Int64) (sm : Nat → Int32) (gn : Nat → Nat → Int32) (ln : Nat → Nat → Int64) (f : Nat → Int64) (H : Heap) (locs : List Loc) (ls : Array Slot), KI (it + 1) lx sg gm lg → RI sm gn ln → REL sg gm lg sm gn ln → va_P (dC, dI) vwCl (cW ad cid a2 lx sg gm lg ++ (mW h0 adm cidm sm gn ln ++ [(qo, oE cO f)])) H → va_D A (cW ad cid a2 lx sg gm lg ++ (mW h0 adm cidm sm gn ln ++ [(qo, oE cO f)])) → va_S A s.heap H locs → lv_has ls 7 [(4, .int i), (3, .ref qo), (2, .ref h0), (1, eV (ad 0) 0), (0, .ref b)] → W p l e room_1 s m #[Value.ref b] below meth c H locs (10000 + 3 * (it + 1) + PHs gm) (400000 + 18 * (it + 1) + 4 * PHs gm) (lw_Z below #[Value.ref b] s) (F0 m 773 ls [])) : W p l e room_1 s m #[Value.ref b] below meth c H locs (10000 + 3 * it + PHs gm) (400000 + 18 * it + 4 * PHs gm) (lw_Z below #[Value.ref b] s) (F0 m 699 ls []) := by
  obtain ⟨hx, hb, hr, hml, hown, hts, hX, hbl, hlocks, hgv⟩ := C0
  have hown : s.vm.findClass RL = some m.cls := hown
  have htb := fun (w : Cond) (h : w ∈ tb) => hts w (tb_in w h)
  have kI := hKI.1
  have hiv : iv 0 4599 i := ⟨by omega, by omega⟩
  obtain ⟨h79, hX9, hN289, hDC9, S, hSS9⟩ := id hREL
  obtain ⟨hSV9, hBR9, hSB9⟩ := REL_q hDC9
  have hXs9 := CLX_st hX9
  refine ec_aload_n hx hb dL_law_699 rfl (lv_at hl 3 rfl) ?_
  refine lv_aload_n hx hb dL_law_700 rfl (lv_at hl 4 rfl) ?_
  refine lv_iload hx hb dL_law_701 (lv_at hl 0 rfl) ?_
  refine lv_iconst (v := 1) hx hb dL_law_703 (by decide) ?_
  refine lv_iadd hx hb dL_law_704 ?_
  refine lv_topi (fun z_1 ez_1 => ?_)
  have tz_1 : z_1.toInt = i.toInt + 1 := by rw [ez_1]; exact iv_addE hiv (iv_k (by decide) : iv 1 1 1) (by decide)
  refine va_sld hx hb hX hbl hbA hS (vp_in_iff.mpr ⟨by omega, by omega⟩) dL_law_705 ?_
  refine lv_topi (fun v_2 ev_2 => ?_)
  refine lv_aload_n hx hb dL_law_706 rfl (lv_at hl 4 rfl) ?_
  refine lv_iload hx hb dL_law_707 (lv_at hl 0 rfl) ?_
  refine lv_iconst (v := 2) hx hb dL_law_709 (by decide) ?_
  refine lv_iadd hx hb dL_law_710 ?_
  refine lv_topi (fun z_3 ez_3 => ?_)
  have tz_3 : z_3.toInt = i.toInt + 2 := by rw [ez_3]; exact iv_addE hiv (iv_k (by decide) : iv 2 2 2) (by decide)
  refine va_sld hx hb hX hbl hbA hS (vp_in_iff.mpr ⟨by omega, by omega⟩) dL_law_711 ?_
  refine lv_topi (fun v_4 ev_4 => ?_)
  refine lw_callT (r := (mW h0 adm cidm sm gn ln ++ [(qo, oE cO f)])) (tr := mT cidm ++ [(cO, .long)]) (rest := []) (as := [.int v_2, .int v_4]) ⟨hx, hb, hml, hown, htb⟩ (d_object9 l dC dI ad cid a2 lx sg gm lg 0 v_2 v_4 (st9 gm) S kI (iv_k (by decide) : iv 0 0 0) hSS9.1) (cwV 2 htb (gd_V kw_1325 kw_1326 kw_1327 kw_2 kw_1656) rfl rfl rfl (by decide +kernel) ⟨Nat.le_of_ble_eq_true rfl, Nat.le_of_ble_eq_true rfl⟩) (iv_k (by decide) : iv 0 0 0) rfl hl.1 rfl (Nat.le_trans cs_n (by decide)) dL_law_712 ⟨(show 10000 + 3 * it + PHs gm + 1 ≤ 601024 from by have := PHs_le kI; omega), (show 400000 + 18 * it + 4 * PHs gm + 6 ≤ 7293034 from by have := PHs_le kI; omega)⟩ hK hP hD hS hA hG (fun _ _ h9 => h9) (fun v9 u H locs hw hP hD hS => ?_)
  obtain ⟨r9, rfl, rfl, hr9, fO⟩ := hw
  have hKI2 : KI (it + 1) lx sg gm lg := KI_of (Ls := []) (Lg := []) (Ll := []) hKI kI KS_rf KS_rf KS_rf (by decide) (by decide) (by decide)
  have hph : PHs gm ≤ PHs gm := Nat.le_refl _
  have hP : va_P (dC, dI) vwCl (cW ad cid a2 lx sg gm lg ++ (mW h0 adm cidm sm gn ln ++ [(qo, oE cO f)])) H := hP
  have hD : va_D A (cW ad cid a2 lx sg gm lg ++ (mW h0 adm cidm sm gn ln ++ [(qo, oE cO f)])) := hD
  refine W.eq (g2 := F0 m 715 ls [.int r9]) rfl ?_
  refine lv_pop hx hb dL_law_715 (cat_i _) ?_
  refine lv_aload_n hx hb dL_law_716 rfl (lv_at hl 2 rfl) ?_
  refine lv_aload_n hx hb dL_law_717 rfl (lv_at hl 4 rfl) ?_
  refine lv_iload hx hb dL_law_718 (lv_at hl 0 rfl) ?_
  refine lv_iconst (v := 1) hx hb dL_law_720 (by decide) ?_
  refine lv_iadd hx hb dL_law_721 ?_
  refine lv_topi (fun z_5 ez_5 => ?_)
  have tz_5 : z_5.toInt = i.toInt + 1 := by rw [ez_5]; exact iv_addE hiv (iv_k (by decide) : iv 1 1 1) (by decide)
  refine va_sld hx hb hX hbl hbA hS (vp_in_iff.mpr ⟨by omega, by omega⟩) dL_law_722 ?_
  refine W.eq (g2 := F0 m 723 ls [.int v_2, .ref h0]) (by rw [ev_2, show z_5 = z_1 from Int32.toInt_inj.mp (by omega)]) ?_
  refine lv_aload_n hx hb dL_law_723 rfl (lv_at hl 4 rfl) ?_
  refine lv_iload hx hb dL_law_724 (lv_at hl 0 rfl) ?_
  refine lv_iconst (v := 2) hx hb dL_law_726 (by decide) ?_
  refine lv_iadd hx hb dL_law_727 ?_
  refine lv_topi (fun z_6 ez_6 => ?_)
  have tz_6 : z_6.toInt = i.toInt + 2 := by rw [ez_6]; exact iv_addE hiv (iv_k (by decide) : iv 2 2 2) (by decide)
  refine va_sld hx hb hX hbl hbA hS (vp_in_iff.mpr ⟨by omega, by omega⟩) dL_law_728 ?_
  refine W.eq (g2 := F0 m 729 ls [.int v_4, .int v_2, .ref h0]) (by rw [ev_4, show z_6 = z_3 from Int32.toInt_inj.mp (by omega)]) ?_
  refine lw_callM (w := cW ad cid a2 lx sg gm lg) (tw := cT cid) (r := [(qo, oE cO f)]) (tr := [(cO, .long)]) (rest := []) (as := [.int v_2, .int v_4]) ⟨hx, hb, hml, hown, htb⟩ (f_object9 l dC dI h0 adm cidm sm gn ln v_2 v_4 (st9 gm) lg S hRI.1 hSS9.2.1) (cwV 2 htb (gd_V kw_1334 kw_1335 kw_1336 kw_5 kw_1659) rfl rfl rfl (by decide +kernel) ⟨Nat.le_of_ble_eq_true rfl, Nat.le_of_ble_eq_true rfl⟩) rfl hl.1 rfl (Nat.le_trans cs_n (by decide)) dL_law_729 ⟨(show 10000 + 3 * it + PHs gm ≤ 601024 from by have := PHs_le kI; omega), (show 400000 + 18 * it + 4 * PHs gm ≤ 7293034 from by have := PHs_le kI; omega)⟩ hK hP hD hS hA (fun r8 u8 H locs hw hP hD hS => ?_)
  obtain ⟨sm9, gn9, ln9, rfl, hI8, j1, j2, j3, gE, gRR⟩ := hw
  have hRI2 : RI sm9 gn9 ln9 := RI_of hRI hI8 (PR_k hRI.2.1 (j2 6 (by decide))) j1 j2 j3 (by decide) (by decide) (by decide) (by decide) (by decide) (by decide) (by decide) (by decide) (by decide) (by decide)
  have hP : va_P (dC, dI) vwCl (cW ad cid a2 lx sg gm lg ++ (mW h0 adm cidm sm9 gn9 ln9 ++ [(qo, oE cO f)])) H := hP
  have hD : va_D A (cW ad cid a2 lx sg gm lg ++ (mW h0 adm cidm sm9 gn9 ln9 ++ [(qo, oE cO f)])) := hD
  refine lv_pop hx hb dL_law_732 (cat_i _) ?_
  refine lv_goto (tgt := 773) hx hb dL_law_733 (by decide) ?_
  have hREL2 : REL sg gm lg sm9 gn9 ln9 := REL_k hREL (TXR_k h79.1 ((KS_rf (L := []) (f := sg)) 0 (by decide)) ((KS_rf (L := []) (f := gm)) 43 (by decide)) (j1 20 (by decide)) (j2 19 (by decide))) (CLX_k hX9 (KS_rf (L := [])) j2 (by decide) (by decide)) (KS_rf (L := [])) (KS_rf (L := [])) (KS_rf (L := [])) j1 j2 j3 (by decide) (by decide) (by decide) (by decide)
  refine W.widen (k := 10000 + 3 * (it + 1) + PHs gm) (n := 400000 + 18 * (it + 1) + 4 * PHs gm) (show 10000 + 3 * it + PHs gm ≤ _ from by omega) (show 400000 + 18 * it + 4 * PHs gm ≤ _ from by omega) ?_
  exact kont a2 lx sg gm lg sm9 gn9 ln9 f _ _ _ hKI2 hRI2 hREL2 hP hD hS (lv_sub hl [0, 1, 2, 3, 4] rfl)

set_option maxHeartbeats 4000000 in
set_option maxRecDepth 100000 in
theorem d_law14 {p : Program} {l : Launch} {e : Env} {s : State} {m : MethodId} {below : List Frame} {meth : Method} {c : Code} {b L : Nat} {xs : Nat → Int32} {dC : Nat → ClassId} {dI : Nat → Nat → Nat} {ad : Nat → Nat → Nat} {cid : Nat → ClassId} {h0 : Nat} {adm : Nat → Nat} {cidm : Nat → ClassId} {cO : ClassId} {qo : Nat} {A : Nat → Prop} (hl9 : l.stackTraces = false) (C0 : lw_At p s m meth c b L xs) (hL : L ≤ 4608) (hA : ∀ q : Nat, s.heap.size ≤ q → A q) (hbA : ¬ A b) (hG : CE ad A s) (hN9 : NE s) (hK : va_K (dC, dI) vwCl (cT cid ++ (mT cidm ++ [(cO, .long)])) s) (it : Nat) (i : Int32) (hit : it ≤ 511) (hi : i.toInt = 9 * (it : Int)) (hiL : i.toInt + 9 ≤ (L : Int)) (a2 : Nat → Nat) (lx : List Nat) (sg : Nat → Int32) (gm : Nat → Nat → Int32) (lg : Nat → Nat → Int64) (sm : Nat → Int32) (gn : Nat → Nat → Int32) (ln : Nat → Nat → Int64) (f : Nat → Int64) (H : Heap) (locs : List Loc) (ls : Array Slot) (hKI : KI it lx sg gm lg) (hRI : RI sm gn ln) (hREL : REL sg gm lg sm gn ln) (hP : va_P (dC, dI) vwCl (cW ad cid a2 lx sg gm lg ++ (mW h0 adm cidm sm gn ln ++ [(qo, oE cO f)])) H) (hD : va_D A (cW ad cid a2 lx sg gm lg ++ (mW h0 adm cidm sm gn ln ++ [(qo, oE cO f)]))) (hS : va_S A s.heap H locs) (hl : lv_has ls 7 [(4, .int i), (3, .ref qo), (2, .ref h0), (1, eV (ad 0) 0), (0, .ref b)]) (kont : ∀ (a2 : Nat → Nat) (lx : List Nat) (sg : Nat → Int32) (gm : Nat → Nat → Int32) (lg : Nat → Nat → Int64) (sm : Nat → Int32) (gn : Nat → Nat → Int32) (ln : Nat → Nat → Int64) (f : Nat → Int64) (H : Heap) (locs : List Loc) (ls : Array Slot), KI (it + 1) lx sg gm lg → RI sm gn ln → REL sg gm lg sm gn ln → va_P (dC, dI) vwCl (cW ad cid a2 lx sg gm lg ++ (mW h0 adm cidm sm gn ln ++ [(qo, oE cO f)])) H → va_D A (cW ad cid a2 lx sg gm lg ++ (mW h0 adm cidm sm gn ln ++ [(qo, oE cO f)])) → va_S A s.heap H locs → lv_has ls 7 [(4, .int i), (3, .ref qo), (2, .ref h0), (1, eV (ad 0) 0), (0, .ref b)] → W p l e room_1 s m #[Value.ref b] below meth c H locs (10000 + 3 * (it + 1) + PHs gm) (400000 + 18 * (it + 1) + 4 * PHs gm) (lw_Z below #[Value.ref b] s) (F0 m 773 ls [])) : W p l e room_1 s m #[Value.ref b] below meth c H locs (10000 + 3 * it + PHs gm) (400000 + 18 * it + 4 * PHs gm) (lw_Z below #[Value.ref b] s) (F0 m 736 ls []) := by
  obtain ⟨hx, hb, hr, hml, hown, hts, hX, hbl, hlocks, hgv⟩ := C0
  have hown : s.vm.findClass RL = some m.cls := hown
  have htb := fun (w : Cond) (h : w ∈ tb) => hts w (tb_in w h)
  have kI := hKI.1
  have hiv : iv 0 4599 i := ⟨by omega, by omega⟩
  obtain ⟨h79, hX9, hN289, hDC9, S, hSS9⟩ := id hREL
  obtain ⟨hSV9, hBR9, hSB9⟩ := REL_q hDC9
  have hXs9 := CLX_st hX9
  refine ec_aload_n hx hb dL_law_736 rfl (lv_at hl 3 rfl) ?_
  refine lv_aload_n hx hb dL_law_737 rfl (lv_at hl 4 rfl) ?_
  refine lv_iload hx hb dL_law_738 (lv_at hl 0 rfl) ?_
  refine lv_iconst (v := 1) hx hb dL_law_740 (by decide) ?_
  refine lv_iadd hx hb dL_law_741 ?_
  refine lv_topi (fun z_1 ez_1 => ?_)
  have tz_1 : z_1.toInt = i.toInt + 1 := by rw [ez_1]; exact iv_addE hiv (iv_k (by decide) : iv 1 1 1) (by decide)
  refine va_sld hx hb hX hbl hbA hS (vp_in_iff.mpr ⟨by omega, by omega⟩) dL_law_742 ?_
  refine lv_topi (fun v_2 ev_2 => ?_)
  refine lv_aload_n hx hb dL_law_743 rfl (lv_at hl 4 rfl) ?_
  refine lv_iload hx hb dL_law_744 (lv_at hl 0 rfl) ?_
  refine lv_iconst (v := 2) hx hb dL_law_746 (by decide) ?_
  refine lv_iadd hx hb dL_law_747 ?_
  refine lv_topi (fun z_3 ez_3 => ?_)
  have tz_3 : z_3.toInt = i.toInt + 2 := by rw [ez_3]; exact iv_addE hiv (iv_k (by decide) : iv 2 2 2) (by decide)
  refine va_sld hx hb hX hbl hbA hS (vp_in_iff.mpr ⟨by omega, by omega⟩) dL_law_748 ?_
  refine lv_topi (fun v_4 ev_4 => ?_)
  refine lw_callT (r := (mW h0 adm cidm sm gn ln ++ [(qo, oE cO f)])) (tr := mT cidm ++ [(cO, .long)]) (rest := []) (as := [.int v_2, .int v_4]) ⟨hx, hb, hml, hown, htb⟩ (d_bean l dC dI ad cid a2 lx sg gm lg 0 v_2 v_4 kI (iv_k (by decide) : iv 0 0 0) hKI.2.2.2.1) (cwV 2 htb (gd_V kw_1337 kw_1338 kw_1339 kw_2 kw_1660) rfl rfl rfl (by decide +kernel) ⟨Nat.le_of_ble_eq_true rfl, Nat.le_of_ble_eq_true rfl⟩) (iv_k (by decide) : iv 0 0 0) rfl hl.1 rfl (Nat.le_trans cs_n (by decide)) dL_law_749 ⟨(show 10000 + 3 * it + PHs gm + 1 ≤ 601024 from by have := PHs_le kI; omega), (show 400000 + 18 * it + 4 * PHs gm + 6 ≤ 7293034 from by have := PHs_le kI; omega)⟩ hK hP hD hS hA hG (fun _ _ h9 => h9) (fun v9 u H locs hw hP hD hS => ?_)
  obtain ⟨r9, rfl, rfl, hr9⟩ := hw
  have hKI2 : KI (it + 1) lx sg gm lg := KI_of (Ls := []) (Lg := []) (Ll := []) hKI kI KS_rf KS_rf KS_rf (by decide) (by decide) (by decide)
  have hph : PHs gm ≤ PHs gm := Nat.le_refl _
  have hP : va_P (dC, dI) vwCl (cW ad cid a2 lx sg gm lg ++ (mW h0 adm cidm sm gn ln ++ [(qo, oE cO f)])) H := hP
  have hD : va_D A (cW ad cid a2 lx sg gm lg ++ (mW h0 adm cidm sm gn ln ++ [(qo, oE cO f)])) := hD
  refine W.eq (g2 := F0 m 752 ls [.int r9]) rfl ?_
  refine lv_pop hx hb dL_law_752 (cat_i _) ?_
  refine lv_aload_n hx hb dL_law_753 rfl (lv_at hl 2 rfl) ?_
  refine lv_aload_n hx hb dL_law_754 rfl (lv_at hl 4 rfl) ?_
  refine lv_iload hx hb dL_law_755 (lv_at hl 0 rfl) ?_
  refine lv_iconst (v := 1) hx hb dL_law_757 (by decide) ?_
  refine lv_iadd hx hb dL_law_758 ?_
  refine lv_topi (fun z_5 ez_5 => ?_)
  have tz_5 : z_5.toInt = i.toInt + 1 := by rw [ez_5]; exact iv_addE hiv (iv_k (by decide) : iv 1 1 1) (by decide)
  refine va_sld hx hb hX hbl hbA hS (vp_in_iff.mpr ⟨by omega, by omega⟩) dL_law_759 ?_
  refine W.eq (g2 := F0 m 760 ls [.int v_2, .ref h0]) (by rw [ev_2, show z_5 = z_1 from Int32.toInt_inj.mp (by omega)]) ?_
  refine lv_aload_n hx hb dL_law_760 rfl (lv_at hl 4 rfl) ?_
  refine lv_iload hx hb dL_law_761 (lv_at hl 0 rfl) ?_
  refine lv_iconst (v := 2) hx hb dL_law_763 (by decide) ?_
  refine lv_iadd hx hb dL_law_764 ?_
  refine lv_topi (fun z_6 ez_6 => ?_)
  have tz_6 : z_6.toInt = i.toInt + 2 := by rw [ez_6]; exact iv_addE hiv (iv_k (by decide) : iv 2 2 2) (by decide)
  refine va_sld hx hb hX hbl hbA hS (vp_in_iff.mpr ⟨by omega, by omega⟩) dL_law_765 ?_
  refine W.eq (g2 := F0 m 766 ls [.int v_4, .int v_2, .ref h0]) (by rw [ev_4, show z_6 = z_3 from Int32.toInt_inj.mp (by omega)]) ?_
  refine lw_callM (w := cW ad cid a2 lx sg gm lg) (tw := cT cid) (r := [(qo, oE cO f)]) (tr := [(cO, .long)]) (rest := []) (as := [.int v_2, .int v_4]) ⟨hx, hb, hml, hown, htb⟩ (f_bean l dC dI h0 adm cidm sm gn ln v_2 v_4 hRI.1 hRI.2.2.1 hRI.2.1 hRI.2.2.2.1 hRI.2.2.2.2) (cwV 2 htb (gd_V kw_1345 kw_1346 kw_1347 kw_5 kw_1662) rfl rfl rfl (by decide +kernel) ⟨Nat.le_of_ble_eq_true rfl, Nat.le_of_ble_eq_true rfl⟩) rfl hl.1 rfl (Nat.le_trans cs_n (by decide)) dL_law_766 ⟨(show 10000 + 3 * it + PHs gm ≤ 601024 from by have := PHs_le kI; omega), (show 400000 + 18 * it + 4 * PHs gm ≤ 7293034 from by have := PHs_le kI; omega)⟩ hK hP hD hS hA (fun r8 u8 H locs hw hP hD hS => ?_)
  obtain ⟨sm9, gn9, ln9, rfl, hI8, j1, j2, j3, gG, gM⟩ := hw
  have hRI2 : RI sm9 gn9 ln9 := RI_mk hRI hI8 gG gM j1 j2 j3 (by decide) (by decide) (by decide) (by decide) (by decide) (by decide)
  have hP : va_P (dC, dI) vwCl (cW ad cid a2 lx sg gm lg ++ (mW h0 adm cidm sm9 gn9 ln9 ++ [(qo, oE cO f)])) H := hP
  have hD : va_D A (cW ad cid a2 lx sg gm lg ++ (mW h0 adm cidm sm9 gn9 ln9 ++ [(qo, oE cO f)])) := hD
  refine lv_pop hx hb dL_law_769 (cat_i _) ?_
  refine lv_goto (tgt := 773) hx hb dL_law_770 (by decide) ?_
  have hREL2 : REL sg gm lg sm9 gn9 ln9 := REL_k hREL (TXR_k h79.1 ((KS_rf (L := []) (f := sg)) 0 (by decide)) ((KS_rf (L := []) (f := gm)) 43 (by decide)) (j1 20 (by decide)) (j2 19 (by decide))) (CLX_k hX9 (KS_rf (L := [])) j2 (by decide) (by decide)) (KS_rf (L := [])) (KS_rf (L := [])) (KS_rf (L := [])) j1 j2 j3 (by decide) (by decide) (by decide) (by decide)
  refine W.widen (k := 10000 + 3 * (it + 1) + PHs gm) (n := 400000 + 18 * (it + 1) + 4 * PHs gm) (show 10000 + 3 * it + PHs gm ≤ _ from by omega) (show 400000 + 18 * it + 4 * PHs gm ≤ _ from by omega) ?_
  exact kont a2 lx sg gm lg sm9 gn9 ln9 f _ _ _ hKI2 hRI2 hREL2 hP hD hS (lv_sub hl [0, 1, 2, 3, 4] rfl)
end
section
set_option maxHeartbeats 4000000 in
set_option maxRecDepth 100000 in
theorem d_loop {p : Program} {l : Launch} {e : Env} {s : State} {m : MethodId} {below : List Frame} {meth : Method} {c : Code} {b L : Nat} {xs : Nat → Int32} {dC : Nat → ClassId} {dI : Nat → Nat → Nat} {ad : Nat → Nat → Nat} {cid : Nat → ClassId} {h0 : Nat} {adm : Nat → Nat} {cidm : Nat → ClassId} {cO : ClassId} {qo : Nat} {A : Nat → Prop} (hl9 : l.stackTraces = false) (C0 : lw_At p s m meth c b L xs) (hL : L ≤ 4608) (hA : ∀ q : Nat, s.heap.size ≤ q → A q) (hbA : ¬ A b) (hG : CE ad A s) (hN9 : NE s) (hK : va_K (dC, dI) vwCl (cT cid ++ (mT cidm ++ [(cO, .long)])) s) (hAi : ∀ q : Nat, A q → s.heap.size ≤ q) : ∀ (n it : Nat) (i : Int32) (a2 : Nat → Nat) (lx : List Nat) (sg : Nat → Int32) (gm : Nat → Nat → Int32) (lg : Nat → Nat → Int64) (sm : Nat → Int32) (gn : Nat → Nat → Int32) (ln : Nat → Nat → Int64) (f : Nat → Int64) (H : Heap) (locs : List Loc) (ls : Array Slot), n + it = 513 → 9 * it ≤ 4608 → i.toInt = 9 * (it : Int) → KI it lx sg gm lg → RI sm gn ln → REL sg gm lg sm gn ln → va_P (dC, dI) vwCl (cW ad cid a2 lx sg gm lg ++ (mW h0 adm cidm sm gn ln ++ [(qo, oE cO f)])) H → va_D A (cW ad cid a2 lx sg gm lg ++ (mW h0 adm cidm sm gn ln ++ [(qo, oE cO f)])) → va_S A s.heap H locs → lv_has ls 7 [(4, .int i), (3, .ref qo), (2, .ref h0), (1, eV (ad 0) 0), (0, .ref b)] → W p l e room_1 s m #[Value.ref b] below meth c H locs (10000 + 3 * it + PHs gm) (400000 + 18 * it + 4 * PHs gm) (lw_Z below #[Value.ref b] s) (F0 m 23 ls []) := by
  obtain ⟨hx, hb, hr, hml, hown, hts, hX, hbl, hlocks, hgv⟩ := id C0
  intro n
  induction n with
  | zero => intro it i a2 lx sg gm lg sm gn ln f H locs ls hn h9; omega
  | succ n ih =>
    intro it i a2 lx sg gm lg sm gn ln f H locs ls hn h9 hi hKI hRI hREL hP hD hS hl
    have kI := hKI.1
    have hiv : iv 0 4608 i := ⟨by omega, by omega⟩
    have kont : ∀ (a2 : Nat → Nat) (lx : List Nat) (sg : Nat → Int32) (gm : Nat → Nat → Int32) (lg : Nat → Nat → Int64) (sm : Nat → Int32) (gn : Nat → Nat → Int32) (ln : Nat → Nat → Int64) (f : Nat → Int64) (H : Heap) (locs : List Loc) (ls : Array Slot), 9 * (it + 1) ≤ 4608 → KI (it + 1) lx sg gm lg → RI sm gn ln → REL sg gm lg sm gn ln → va_P (dC, dI) vwCl (cW ad cid a2 lx sg gm lg ++ (mW h0 adm cidm sm gn ln ++ [(qo, oE cO f)])) H → va_D A (cW ad cid a2 lx sg gm lg ++ (mW h0 adm cidm sm gn ln ++ [(qo, oE cO f)])) → va_S A s.heap H locs → lv_has ls 7 [(4, .int i), (3, .ref qo), (2, .ref h0), (1, eV (ad 0) 0), (0, .ref b)] → W p l e room_1 s m #[Value.ref b] below meth c H locs (10000 + 3 * (it + 1) + PHs gm) (400000 + 18 * (it + 1) + 4 * PHs gm) (lw_Z below #[Value.ref b] s) (F0 m 773 ls []) := by
      intro a2 lx sg gm lg sm gn ln f H locs ls h10 hKI hRI hREL hP hD hS hl
      obtain ⟨z, ez⟩ : ∃ z : Int32, z = i + 9 := ⟨_, rfl⟩
      have tz : z.toInt = i.toInt + 9 := by rw [ez]; exact iv_addE hiv (iv_k (by decide) : iv 9 9 9) (by decide)
      refine lv_iinc (v := z) (lv' := [(4, .int z), (3, .ref qo), (2, .ref h0), (1, eV (ad 0) 0), (0, .ref b)]) hx hb dL_law_773 hl (k := 0) rfl ez.symm (by decide) (by simp [List.filter, eV_cat, cat_i, cat_l, cat_r]) (fun ls hl => ?_)
      refine lv_goto (tgt := 23) hx hb dL_law_776 (by decide) ?_
      exact ih (it + 1) z a2 lx sg gm lg sm gn ln f H locs ls (by omega) (by omega) (by omega) hKI hRI hREL hP hD hS hl
    refine lv_iload hx hb dL_law_23 (lv_at hl 0 rfl) ?_
    refine lv_aload_n hx hb dL_law_25 rfl (lv_at hl 4 rfl) ?_
    refine va_slen hx hb hX hbl hbA hS dL_law_26 ?_
    refine lv_topi (fun z1 ez1 => ?_)
    have tz1 : z1.toInt = (L : Int) := by rw [ez1]; exact nI_toInt (by omega)
    refine lv_bipush (v := 9) hx hb dL_law_27 (by decide) ?_
    refine lv_isub hx hb dL_law_29 ?_
    refine lv_topi (fun z2 ez2 => ?_)
    have tz2 : z2.toInt = z1.toInt - 9 := by rw [ez2]; exact iv_subE (⟨by omega, by omega⟩ : iv 0 4608 z1) (iv_k (by decide) : iv 9 9 9) (by decide)
    refine lv_icmp_gt (tgt := 779) hx hb dL_law_30 (by decide) (fun c1 => ?_) (fun c1 => ?_)
    · refine lv_iconst (v := 1) hx hb dL_law_779 (by decide) ?_
      refine va_forget (fun q hq => hAi _ (hS.2.2 q hq)) ?_
      refine W.widen (k := 601024) (n := 7293034) (by have := PHs_le kI; omega) (by have := PHs_le kI; omega) ?_
      exact lw_ret hx hb hr hlocks dL_law_780
    have hle : i.toInt ≤ z2.toInt := Int32.le_iff_toInt_le.mp (Int32.not_lt.mp c1)
    refine lv_aload_n hx hb dL_law_33 rfl (lv_at hl 4 rfl) ?_
    refine lv_iload hx hb dL_law_34 (lv_at hl 0 rfl) ?_
    refine va_sld hx hb hX hbl hbA hS (vp_in_iff.mpr ⟨by omega, by omega⟩) dL_law_36 ?_
    refine lv_topi (fun v ev => ?_)
    refine lv_bipush (v := 15) hx hb dL_law_37 (by decide) ?_
    refine lv_iand hx hb dL_law_39 ?_
    refine lv_topi (fun z4 ez4 => ?_)
    rcases tsw_15 z4 with c4 | c4 | c4 | c4 | c4 | c4 | c4 | c4 | c4 | c4 | c4 | c4 | c4 | c4 | c4 | c4
    · refine lv_tableIn (tgt := 116) hx hb dL_law_40 (by rw [c4]; decide) (by rw [c4]; decide) (by rw [c4]; rfl) (by decide) ?_
      exact d_law0 hl9 C0 hL hA hbA hG hN9 hK it i (by omega) hi (by omega) a2 lx sg gm lg sm gn ln f H locs ls hKI hRI hREL hP hD hS hl (fun a2 lx sg gm lg sm gn ln f H locs ls => kont a2 lx sg gm lg sm gn ln f H locs ls (by omega))
    · refine lv_tableIn (tgt := 153) hx hb dL_law_40 (by rw [c4]; decide) (by rw [c4]; decide) (by rw [c4]; rfl) (by decide) ?_
      exact d_law1 hl9 C0 hL hA hbA hG hN9 hK it i (by omega) hi (by omega) a2 lx sg gm lg sm gn ln f H locs ls hKI hRI hREL hP hD hS hl (fun a2 lx sg gm lg sm gn ln f H locs ls => kont a2 lx sg gm lg sm gn ln f H locs ls (by omega))
    · refine lv_tableIn (tgt := 226) hx hb dL_law_40 (by rw [c4]; decide) (by rw [c4]; decide) (by rw [c4]; rfl) (by decide) ?_
      exact d_law2 hl9 C0 hL hA hbA hG hN9 hK it i (by omega) hi (by omega) a2 lx sg gm lg sm gn ln f H locs ls hKI hRI hREL hP hD hS hl (fun a2 lx sg gm lg sm gn ln f H locs ls => kont a2 lx sg gm lg sm gn ln f H locs ls (by omega))
    · refine lv_tableIn (tgt := 275) hx hb dL_law_40 (by rw [c4]; decide) (by rw [c4]; decide) (by rw [c4]; rfl) (by decide) ?_
      exact d_law3 hl9 C0 hL hA hbA hG hN9 hK it i (by omega) hi (by omega) a2 lx sg gm lg sm gn ln f H locs ls hKI hRI hREL hP hD hS hl (fun a2 lx sg gm lg sm gn ln f H locs ls => kont a2 lx sg gm lg sm gn ln f H locs ls (by omega))
    · refine lv_tableIn (tgt := 406) hx hb dL_law_40 (by rw [c4]; decide) (by rw [c4]; decide) (by rw [c4]; rfl) (by decide) ?_
      exact d_law4 hl9 C0 hL hA hbA hG hN9 hK it i (by omega) hi (by omega) a2 lx sg gm lg sm gn ln f H locs ls hKI hRI hREL hP hD hS hl (fun a2 lx sg gm lg sm gn ln f H locs ls => kont a2 lx sg gm lg sm gn ln f H locs ls (by omega))
    · refine lv_tableIn (tgt := 479) hx hb dL_law_40 (by rw [c4]; decide) (by rw [c4]; decide) (by rw [c4]; rfl) (by decide) ?_
      exact d_law5 hl9 C0 hL hA hbA hG hN9 hK it i (by omega) hi (by omega) a2 lx sg gm lg sm gn ln f H locs ls hKI hRI hREL hP hD hS hl (fun a2 lx sg gm lg sm gn ln f H locs ls => kont a2 lx sg gm lg sm gn ln f H locs ls (by omega))
    · refine lv_tableIn (tgt := 495) hx hb dL_law_40 (by rw [c4]; decide) (by rw [c4]; decide) (by rw [c4]; rfl) (by decide) ?_
      exact d_law6 hl9 C0 hL hA hbA hG hN9 hK it i (by omega) hi (by omega) a2 lx sg gm lg sm gn ln f H locs ls hKI hRI hREL hP hD hS hl (fun a2 lx sg gm lg sm gn ln f H locs ls => kont a2 lx sg gm lg sm gn ln f H locs ls (by omega))
    · refine lv_tableIn (tgt := 520) hx hb dL_law_40 (by rw [c4]; decide) (by rw [c4]; decide) (by rw [c4]; rfl) (by decide) ?_
      exact d_law7 hl9 C0 hL hA hbA hG hN9 hK it i (by omega) hi (by omega) a2 lx sg gm lg sm gn ln f H locs ls hKI hRI hREL hP hD hS hl (fun a2 lx sg gm lg sm gn ln f H locs ls => kont a2 lx sg gm lg sm gn ln f H locs ls (by omega))
    · refine lv_tableIn (tgt := 536) hx hb dL_law_40 (by rw [c4]; decide) (by rw [c4]; decide) (by rw [c4]; rfl) (by decide) ?_
      exact d_law8 hl9 C0 hL hA hbA hG hN9 hK it i (by omega) hi (by omega) a2 lx sg gm lg sm gn ln f H locs ls hKI hRI hREL hP hD hS hl (fun a2 lx sg gm lg sm gn ln f H locs ls => kont a2 lx sg gm lg sm gn ln f H locs ls (by omega))
    · refine lv_tableIn (tgt := 596) hx hb dL_law_40 (by rw [c4]; decide) (by rw [c4]; decide) (by rw [c4]; rfl) (by decide) ?_
      exact d_law9 hl9 C0 hL hA hbA hG hN9 hK it i (by omega) hi (by omega) a2 lx sg gm lg sm gn ln f H locs ls hKI hRI hREL hP hD hS hl (fun a2 lx sg gm lg sm gn ln f H locs ls => kont a2 lx sg gm lg sm gn ln f H locs ls (by omega))
    · refine lv_tableIn (tgt := 636) hx hb dL_law_40 (by rw [c4]; decide) (by rw [c4]; decide) (by rw [c4]; rfl) (by decide) ?_
      exact d_law10 hl9 C0 hL hA hbA hG hN9 hK it i (by omega) hi (by omega) a2 lx sg gm lg sm gn ln f H locs ls hKI hRI hREL hP hD hS hl (fun a2 lx sg gm lg sm gn ln f H locs ls => kont a2 lx sg gm lg sm gn ln f H locs ls (by omega))
    · refine lv_tableIn (tgt := 649) hx hb dL_law_40 (by rw [c4]; decide) (by rw [c4]; decide) (by rw [c4]; rfl) (by decide) ?_
      exact d_law11 hl9 C0 hL hA hbA hG hN9 hK it i (by omega) hi (by omega) a2 lx sg gm lg sm gn ln f H locs ls hKI hRI hREL hP hD hS hl (fun a2 lx sg gm lg sm gn ln f H locs ls => kont a2 lx sg gm lg sm gn ln f H locs ls (by omega))
    · refine lv_tableIn (tgt := 662) hx hb dL_law_40 (by rw [c4]; decide) (by rw [c4]; decide) (by rw [c4]; rfl) (by decide) ?_
      exact d_law12 hl9 C0 hL hA hbA hG hN9 hK it i (by omega) hi (by omega) a2 lx sg gm lg sm gn ln f H locs ls hKI hRI hREL hP hD hS hl (fun a2 lx sg gm lg sm gn ln f H locs ls => kont a2 lx sg gm lg sm gn ln f H locs ls (by omega))
    · refine lv_tableIn (tgt := 699) hx hb dL_law_40 (by rw [c4]; decide) (by rw [c4]; decide) (by rw [c4]; rfl) (by decide) ?_
      exact d_law13 hl9 C0 hL hA hbA hG hN9 hK it i (by omega) hi (by omega) a2 lx sg gm lg sm gn ln f H locs ls hKI hRI hREL hP hD hS hl (fun a2 lx sg gm lg sm gn ln f H locs ls => kont a2 lx sg gm lg sm gn ln f H locs ls (by omega))
    · refine lv_tableIn (tgt := 736) hx hb dL_law_40 (by rw [c4]; decide) (by rw [c4]; decide) (by rw [c4]; rfl) (by decide) ?_
      exact d_law14 hl9 C0 hL hA hbA hG hN9 hK it i (by omega) hi (by omega) a2 lx sg gm lg sm gn ln f H locs ls hKI hRI hREL hP hD hS hl (fun a2 lx sg gm lg sm gn ln f H locs ls => kont a2 lx sg gm lg sm gn ln f H locs ls (by omega))
    · refine lv_tableOut (tgt := 773) hx hb dL_law_40 (by have q1 := c4; omega) (by decide) ?_
      refine W.widen (k := 10000 + 3 * (it + 1) + PHs gm) (n := 400000 + 18 * (it + 1) + 4 * PHs gm) (by omega) (by omega) ?_
      exact kont a2 lx sg gm lg sm gn ln f H locs ls (by omega) (KI_of (Ls := []) (Lg := []) (Ll := []) hKI kI KS_rf KS_rf KS_rf (by decide) (by decide) (by decide)) hRI hREL hP hD hS hl
end
section
def mfn (n : Nat) (ad : Nat → Nat) (sg : Nat → Int32) (k : Nat) : Value := if mArr k then (if (mK.take n).contains k then .ref (ad k) else .null) else .int (sg k)
/-- the reference under construction: its first n arrays are there -/
def mWx (n h0 : Nat) (ad : Nat → Nat) (cid : Nat → ClassId) (sg : Nat → Int32) (gm : Nat → Nat → Int32) (lg : Nat → Nat → Int64) : va_W := (h0, .inr (12, (List.range 77).map (mfn n ad sg))) :: (mK.take n).map (fun k => (ad k, mE9 cid gm lg k))
def mTx (n : Nat) (cid : Nat → ClassId) : List (ClassId × FieldType) := (mK.take n).map (fun k => (cid k, mTy k))
theorem take_s {n k : Nat} (hk : mK[n]? = some k) : mK.take (n + 1) = mK.take n ++ [k] := by rw [List.take_add_one, hk]; rfl
theorem mTx_s {n k : Nat} {cid : Nat → ClassId} {cA : ClassId} {ty : FieldType} (hk : mK[n]? = some k) (hn : (mK.take n).contains k = false) (ht : mTy k = ty) : mTx n cid ++ [(cA, ty)] = mTx (n + 1) (va_up cid k cA) := by
  unfold mTx
  rw [take_s hk, List.map_append]
  congr 1
  · refine List.map_congr_left (fun j hj => ?_)
    have hne : j ≠ k := fun q => by rw [q] at hj; have := List.contains_iff_mem.mpr hj; rw [hn] at this; cases this
    rw [va_up_ne _ _ hne]
  · show [(cA, ty)] = [(va_up cid k cA k, mTy k)]
    rw [va_up_self, ht]
theorem mfn_set {n k q : Nat} {ad : Nat → Nat} {sg : Nat → Int32} (hk : mK[n]? = some k) (hA : mArr k = true) (h77 : k < 77) : ((List.range 77).map (mfn n ad sg)).set k (.ref q) = (List.range 77).map (mfn (n + 1) (va_up ad k q) sg) := by
  apply List.ext_getElem?
  intro j
  rw [List.getElem?_set, List.getElem?_map, List.length_map, List.length_range]
  by_cases hj : j < 77
  · rw [List.getElem?_map, List.getElem?_range hj]
    by_cases e9 : k = j
    · subst e9
      rw [if_pos rfl, if_pos h77]
      show some (Value.ref q) = some (mfn (n + 1) (va_up ad k q) sg k)
      unfold mfn
      rw [if_pos hA, take_s hk, if_pos (by rw [List.contains_iff_mem]; exact List.mem_append_right _ List.mem_cons_self), va_up_self]
    · rw [if_neg e9]
      show some (mfn n ad sg j) = some (mfn (n + 1) (va_up ad k q) sg j)
      unfold mfn
      rw [take_s hk, va_up_ne _ _ (Ne.symm e9)]
      have : (mK.take n ++ [k]).contains j = (mK.take n).contains j := by
        rw [Bool.eq_iff_iff, List.contains_iff_mem, List.contains_iff_mem, List.mem_append]
        constructor
        · intro h; rcases h with h | h
          · exact h
          · exact absurd (List.mem_singleton.mp h).symm e9
        · exact Or.inl
      rw [this]
  · have hr : (List.range 77)[j]? = none := List.getElem?_eq_none (by rw [List.length_range]; omega)
    rw [List.getElem?_map, hr]
    by_cases e9 : k = j
    · omega
    · rw [if_neg e9]; rfl
theorem mWx_i {n k h0 q : Nat} {cA : ClassId} {ad : Nat → Nat} {cid : Nat → ClassId} {sg : Nat → Int32} {gm : Nat → Nat → Int32} {lg : Nat → Nat → Int64} {g : Nat → Int32} (hk : mK[n]? = some k) (hn : (mK.take n).contains k = false) (hA : mArr k = true) (h77 : k < 77) (hl : mLong k = false) : (mWx n h0 ad cid sg gm lg ++ [(q, (.inl (cA, mLen k, .inl g) : va_E))]).set 0 (h0, .inr (12, ((List.range 77).map (mfn n ad sg)).set k (.ref q))) = mWx (n + 1) h0 (va_up ad k q) (va_up cid k cA) sg (va_up gm k g) lg := by
  unfold mWx
  rw [List.cons_append, List.set_cons_zero, mfn_set hk hA h77, take_s hk, List.map_append]
  congr 2
  · refine List.map_congr_left (fun j hj => ?_)
    have hne : j ≠ k := fun q => by rw [q] at hj; have := List.contains_iff_mem.mpr hj; rw [hn] at this; cases this
    unfold mE9
    rw [va_up_ne _ _ hne, va_up_ne _ _ hne, va_up_ne _ _ hne]
  · show [(q, _)] = [(va_up ad k q k, mE9 (va_up cid k cA) (va_up gm k g) lg k)]
    unfold mE9
    rw [va_up_self, va_up_self, va_up_self, hl]
    rfl
theorem mWx_l {n k h0 q : Nat} {cA : ClassId} {ad : Nat → Nat} {cid : Nat → ClassId} {sg : Nat → Int32} {gm : Nat → Nat → Int32} {lg : Nat → Nat → Int64} {g : Nat → Int64} (hk : mK[n]? = some k) (hn : (mK.take n).contains k = false) (hA : mArr k = true) (h77 : k < 77) (hl : mLong k = true) : (mWx n h0 ad cid sg gm lg ++ [(q, (.inl (cA, mLen k, .inr (.inl g)) : va_E))]).set 0 (h0, .inr (12, ((List.range 77).map (mfn n ad sg)).set k (.ref q))) = mWx (n + 1) h0 (va_up ad k q) (va_up cid k cA) sg gm (va_up lg k g) := by
  unfold mWx
  rw [List.cons_append, List.set_cons_zero, mfn_set hk hA h77, take_s hk, List.map_append]
  congr 2
  · refine List.map_congr_left (fun j hj => ?_)
    have hne : j ≠ k := fun q => by rw [q] at hj; have := List.contains_iff_mem.mpr hj; rw [hn] at this; cases this
    unfold mE9
    rw [va_up_ne _ _ hne, va_up_ne _ _ hne, va_up_ne _ _ hne]
  · show [(q, _)] = [(va_up ad k q k, mE9 (va_up cid k cA) gm (va_up lg k g) k)]
    unfold mE9
    rw [va_up_self, va_up_self, va_up_self, hl]
    rfl
theorem mfn_int {n k : Nat} {x : Int32} {ad : Nat → Nat} {sg : Nat → Int32} (hA : mArr k = false) : ((List.range 77).map (mfn n ad sg)).set k (.int x) = (List.range 77).map (mfn n ad (va_up sg k x)) := by
  apply List.ext_getElem?
  intro j
  rw [List.getElem?_set, List.getElem?_map, List.length_map, List.length_range]
  by_cases hj : j < 77
  · rw [List.getElem?_map, List.getElem?_range hj]
    by_cases e9 : k = j
    · subst e9
      rw [if_pos rfl, if_pos hj]
      show some (Value.int x) = some (mfn n ad (va_up sg k x) k)
      unfold mfn
      rw [hA, va_up_self]
      rfl
    · rw [if_neg e9]
      show some (mfn n ad sg j) = some (mfn n ad (va_up sg k x) j)
      unfold mfn
      rw [va_up_ne _ _ (Ne.symm e9)]
  · have hr : (List.range 77)[j]? = none := List.getElem?_eq_none (by rw [List.length_range]; omega)
    rw [List.getElem?_map, hr]
    by_cases e9 : k = j
    · rw [if_pos e9, if_neg (by omega)]; rfl
    · rw [if_neg e9]; rfl
theorem mWx_s {n k h0 : Nat} {x : Int32} {ad : Nat → Nat} {cid : Nat → ClassId} {sg : Nat → Int32} {gm : Nat → Nat → Int32} {lg : Nat → Nat → Int64} (hA : mArr k = false) : (mWx n h0 ad cid sg gm lg).set 0 (h0, .inr (12, ((List.range 77).map (mfn n ad sg)).set k (.int x))) = mWx n h0 ad cid (va_up sg k x) gm lg := by
  unfold mWx
  rw [List.set_cons_zero, mfn_int hA]
def zrow (j : Nat) : Bool := !mLong j && !(j == 3) && !(j == 4)
def ZR (n : Nat) (gm : Nat → Nat → Int32) : Prop := ∀ j, (mK.take n).contains j = true → zrow j = true → gm j = fun _ => 0
theorem ZR_z {n k : Nat} {gm : Nat → Nat → Int32} (hk : mK[n]? = some k) (h : ZR n gm) : ZR (n + 1) (va_up gm k (fun _ => 0)) := fun j hj hz => by
  by_cases e9 : j = k
  · rw [e9, va_up_self]
  · rw [va_up_ne _ _ e9]
    refine h j ?_ hz
    rw [take_s hk, List.contains_iff_mem, List.mem_append] at hj
    rw [List.contains_iff_mem]
    rcases hj with q | q
    · exact q
    · exact absurd (List.mem_singleton.mp q) e9
theorem ZR_n {n k : Nat} {gm gm2 : Nat → Nat → Int32} (hk : mK[n]? = some k) (h : ZR n gm) (hz0 : zrow k = false) (he : ∀ j, j ≠ k → gm2 j = gm j) : ZR (n + 1) gm2 := fun j hj hz => by
  have e9 : j ≠ k := fun q => by rw [q, hz0] at hz; cases hz
  rw [he j e9]
  refine h j ?_ hz
  rw [take_s hk, List.contains_iff_mem, List.mem_append] at hj
  rw [List.contains_iff_mem]
  rcases hj with q | q
  · exact q
  · exact absurd (List.mem_singleton.mp q) e9
theorem mWx_60 {h0 : Nat} {ad : Nat → Nat} {cid : Nat → ClassId} {sg : Nat → Int32} {gm : Nat → Nat → Int32} {lg : Nat → Nat → Int64} : mWx 60 h0 ad cid sg gm lg = mW h0 ad cid sg gm lg := by
  unfold mWx mW mfs
  have h1 : (List.range 77).map (mfn 60 ad sg) = (List.range 77).map (mfv ad sg) := List.map_congr_left (fun k hk => by
    have hc : ∀ k, k < 77 → mArr k = true → (mK.take 60).contains k = true := by decide
    unfold mfn mfv
    by_cases hA : mArr k = true
    · rw [if_pos hA, if_pos hA, if_pos (hc k (List.mem_range.mp hk) hA)]
    · rw [if_neg hA, if_neg hA])
  rw [h1]
  rfl
theorem mTx_60 {cid : Nat → ClassId} : mTx 60 cid = mT cid := rfl
/-- the reference's state as its constructor leaves it -/
theorem RI_0 {sg : Nat → Int32} {gm gm0 : Nat → Nat → Int32} {lg : Nat → Nat → Int64} (hz : ZR 60 gm0) (h3 : ∀ i, i < 5 → iv 3 5 (gm0 3 i)) (h4 : ∀ i, i < 5 → iv 34 62 (gm0 4 i)) (hs : ∀ k, k ≠ 23 → k ≠ 52 → sg k = 0) (h52 : sg 52 = -1) (h6 : ∀ k, k < 8 → gm 6 k = -1) (he : ∀ k, k ≠ 6 → gm k = gm0 k) : RI sg gm lg := by
  have z : ∀ j, (mK.take 60).contains j = true → zrow j = true → j ≠ 6 → gm j = fun _ => 0 := fun j a1 a2 a3 => by rw [he j a3]; exact hz j a1 a2
  have r61 : gm 61 = fun _ => 0 := z 61 (by decide) (by decide) (by decide)
  have r60 : gm 60 = fun _ => 0 := z 60 (by decide) (by decide) (by decide)
  have r62 : gm 62 = fun _ => 0 := z 62 (by decide) (by decide) (by decide)
  have r70 : gm 70 = fun _ => 0 := z 70 (by decide) (by decide) (by decide)
  have r71 : gm 71 = fun _ => 0 := z 71 (by decide) (by decide) (by decide)
  have r72 : gm 72 = fun _ => 0 := z 72 (by decide) (by decide) (by decide)
  have r73 : gm 73 = fun _ => 0 := z 73 (by decide) (by decide) (by decide)
  have s50 : (sg 50).toInt = 0 := by rw [hs 50 (by decide) (by decide)]; rfl
  have hm1 : (-1 : Int32).toInt = -1 := by decide
  refine ⟨⟨fun k => ?_, fun k i hi => ?_⟩, fun k hk => by rw [h6 k hk, hm1]; omega, ?_, MO_0 s50, Or.inl (by rw [hs 40 (by decide) (by decide)]; rfl)⟩
  · by_cases e52 : k = 52
    · rw [e52, h52]; exact ⟨by decide, by decide⟩
    · by_cases e23 : k = 23
      · rw [e23]; exact iv_all _
      · rw [hs k e23 e52]
        have key : ∀ k, k < 77 → k ≠ 52 → sLo k ≤ 0 ∧ 0 ≤ sHi k := by decide
        by_cases h77 : k < 77
        · exact ⟨(key k h77 e52).1, (key k h77 e52).2⟩
        · have hlo : sLo k ≤ 0 ∧ 0 ≤ sHi k := by unfold sLo sHi; split <;> first | omega | (split <;> omega)
          exact ⟨hlo.1, hlo.2⟩
  · by_cases e3 : k = 3
    · rw [e3] at hi ⊢; rw [he 3 (by decide)]; exact h3 i hi
    · by_cases e4 : k = 4
      · rw [e4] at hi ⊢; rw [he 4 (by decide)]; exact h4 i hi
      · by_cases e6 : k = 6
        · rw [e6] at hi ⊢; rw [h6 i hi]; exact ⟨by decide, by decide⟩
        · have key : ∀ k, k < 77 → k ≠ 3 → k ≠ 4 → (mLen k = 0 ∨ (mK.take 60).contains k = true) ∧ aLo k ≤ 0 ∧ 0 ≤ aHi k := by decide
          by_cases h77 : k < 77
          · obtain ⟨q1, q2, q3⟩ := key k h77 e3 e4
            rcases q1 with q | q
            · rw [q] at hi; omega
            · by_cases hz1 : zrow k = true
              · rw [z k q hz1 e6]; exact ⟨q2, q3⟩
              · have kl : ∀ k, k < 77 → k ≠ 3 → k ≠ 4 → zrow k = false → aLo k = -2147483648 ∧ aHi k = 2147483647 := by decide
                obtain ⟨a1, a2⟩ := kl k h77 e3 e4 (by simpa using hz1)
                rw [a1, a2]; exact iv_all _
          · exfalso
            have : mLen k = 0 := by unfold mLen; split <;> first | omega | rfl
            omega
  · have v0 : vok 0 0 := ⟨fun q => absurd q (by decide), fun _ => Or.inl (by decide), fun q => absurd q (by decide)⟩
    refine ⟨?_, fun b _ q => absurd (by rw [r61]) q, by rw [s50]; exact Int.natCast_nonneg _⟩
    unfold VAL
    rw [r70, r71, r72, r73]
    exact ⟨fun j _ => v0, fun j _ => v0⟩
end
