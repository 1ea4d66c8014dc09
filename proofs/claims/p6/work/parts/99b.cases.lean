set_option maxHeartbeats 4000000 in
set_option maxRecDepth 100000 in
theorem d_law5 {p : Program} {l : Launch} {e : Env} {s : State} {m : MethodId} {below : List Frame} {meth : Method} {c : Code} {b L : Nat} {xs : Nat → Int32} {dC : Nat → ClassId} {dI : Nat → Nat → Nat} {ad : Nat → Nat → Nat} {cid : Nat → ClassId} {h0 : Nat} {adm : Nat → Nat} {cidm : Nat → ClassId} {cO : ClassId} {qo : Nat} {A : Nat → Prop} (hl9 : l.stackTraces = false) (C0 : lw_At p s m meth c b L xs) (hL : L ≤ 4608) (hA : ∀ q : Nat, s.heap.size ≤ q → A q) (hbA : ¬ A b) (hG : CE ad A s) (hN9 : NE s) (hK : va_K (dC, dI) vwCl (cT cid ++ (mT cidm ++ [(cO, .long)])) s) (it : Nat) (i : Int32) (hit : it ≤ 511) (hi : i.toInt = 9 * (it : Int)) (hiL : i.toInt + 9 ≤ (L : Int)) (a2 : Nat → Nat) (lx : List Nat) (sg : Nat → Int32) (gm : Nat → Nat → Int32) (lg : Nat → Nat → Int64) (sm : Nat → Int32) (gn : Nat → Nat → Int32) (ln : Nat → Nat → Int64) (f : Nat → Int64) (H : Heap) (locs : List Loc) (ls : Array Slot) (hKI : KI it lx sg gm lg) (hRI : RI sm gn ln) (hREL : REL sg sm) (hP : va_P (dC, dI) vwCl (cW ad cid a2 lx sg gm lg ++ (mW h0 adm cidm sm gn ln ++ [(qo, oE cO f)])) H) (hD : va_D A (cW ad cid a2 lx sg gm lg ++ (mW h0 adm cidm sm gn ln ++ [(qo, oE cO f)]))) (hS : va_S A s.heap H locs) (hl : lv_has ls 7 [(4, .int i), (3, .ref qo), (2, .ref h0), (1, eV (ad 0) 0), (0, .ref b)]) (kont : ∀ (a2 : Nat → Nat) (lx : List Nat) (sg : Nat → Int32) (gm : Nat → Nat → Int32) (lg : Nat → Nat → Int64) (sm : Nat → Int32) (gn : Nat → Nat → Int32) (ln : Nat → Nat → Int64) (f : Nat → Int64) (H : Heap) (locs : List Loc) (ls : Array Slot), KI (it + 1) lx sg gm lg → RI sm gn ln → REL sg sm → va_P (dC, dI) vwCl (cW ad cid a2 lx sg gm lg ++ (mW h0 adm cidm sm gn ln ++ [(qo, oE cO f)])) H → va_D A (cW ad cid a2 lx sg gm lg ++ (mW h0 adm cidm sm gn ln ++ [(qo, oE cO f)])) → va_S A s.heap H locs → lv_has ls 7 [(4, .int i), (3, .ref qo), (2, .ref h0), (1, eV (ad 0) 0), (0, .ref b)] → W p l e room_1 s m #[Value.ref b] below meth c H locs (10000 + 3 * (it + 1) + PHs gm) (400000 + 18 * (it + 1) + 4 * PHs gm) (lw_Z below #[Value.ref b] s) (F0 m 773 ls [])) : W p l e room_1 s m #[Value.ref b] below meth c H locs (10000 + 3 * it + PHs gm) (400000 + 18 * it + 4 * PHs gm) (lw_Z below #[Value.ref b] s) (F0 m 479 ls []) := by
  obtain ⟨hx, hb, hr, hml, hown, hts, hX, hbl, hlocks, hgv⟩ := C0
  have hown : s.vm.findClass RL = some m.cls := hown
  have htb := fun (w : Cond) (h : w ∈ tb) => hts w (tb_in w h)
  have kI := hKI.1
  have hiv : iv 0 4599 i := ⟨by omega, by omega⟩
  refine ec_aload_n hx hb dL_law_479 rfl (lv_at hl 3 rfl) ?_
  refine lv_aload_n hx hb dL_law_480 rfl (lv_at hl 1 rfl) ?_
  refine lw_callH (rest := []) (as := [eV (ad 0) 0, .ref qo]) ⟨hx, hb, hml, hown, htb⟩ (d_hread l hl9 dC dI ad cid cO qo a2 lx sg gm lg f it hKI (by omega)) (vx_cwSW 2 htb (gd_S kw_302 kw_303 kw_304 kw_1409) rfl rfl rfl (by decide +kernel) ⟨Nat.le_of_ble_eq_true rfl, Nat.le_of_ble_eq_true rfl⟩) rfl hl.1 rfl (Nat.le_trans cs_n (by decide)) dL_law_481 ⟨(show 10000 + 3 * it + PHs gm + 304803 ≤ 601024 from by have := PHs_le kI; omega), (show 400000 + 18 * it + 4 * PHs gm + 1219339 ≤ 7293034 from by have := PHs_le kI; omega)⟩ hK hP hD hS hA hG hN9 (fun r9 u f9 H locs hw hmu hP hD hS => ?_)
  obtain ⟨a29, lx9, sg9, gm9, lg9⟩ := u
  have hKI2 : KI (it + 1) lx9 sg9 gm9 lg9 := hw.1
  have kI2 := hKI2.1
  have hph : PHs gm ≤ PHs gm9 := hmu
  have hP : va_P (dC, dI) vwCl (cW ad cid a29 lx9 sg9 gm9 lg9 ++ (mW h0 adm cidm sm gn ln ++ [(qo, oE cO f9)])) H := hP
  have hD : va_D A (cW ad cid a29 lx9 sg9 gm9 lg9 ++ (mW h0 adm cidm sm gn ln ++ [(qo, oE cO f9)])) := hD
  refine lv_istore (lv' := [(5, .int r9), (4, .int i), (3, .ref qo), (2, .ref h0), (1, eV (ad 0) 0), (0, .ref b)]) hx hb dL_law_484 hl (by decide) (by simp [List.filter, eV_cat, cat_i, cat_l, cat_r]) (fun ls hl => ?_)
  refine lv_aload_n hx hb dL_law_486 rfl (lv_at hl 3 rfl) ?_
  refine lw_callM (w := cW ad cid a29 lx9 sg9 gm9 lg9) (tw := cT cid) (r := [(qo, oE cO f9)]) (tr := [(cO, .long)]) (rest := []) (as := []) ⟨hx, hb, hml, hown, htb⟩ (f_read2 l dC dI h0 adm cidm sm gn ln hRI.1) (cwV 0 htb (gd_V kw_810 kw_811 kw_812 kw_5 kw_1517) rfl rfl rfl (by decide +kernel) ⟨Nat.le_of_ble_eq_true rfl, Nat.le_of_ble_eq_true rfl⟩) rfl hl.1 rfl (Nat.le_trans cs_n (by decide)) dL_law_487 ⟨(show 10000 + 3 * it + PHs gm + gc gm gm9 2 ≤ 601024 from by have := PHs_le kI2; have := PHs_le kI; have q9 := gc_l0 (gm := gm) (k := 2) kI2; omega), (show 400000 + 18 * it + 4 * PHs gm + gs gm gm9 2 ≤ 7293034 from by have := PHs_le kI2; have := PHs_le kI; have q9 := gs_l0 (gm := gm) (k := 2) kI2; omega)⟩ hK hP hD hS hA (fun r8 u8 H locs hw hP hD hS => ?_)
  obtain ⟨sm9, gn9, ln9, rfl, hI8, j1, j2, j3, gZ, gdoc, gclr⟩ := hw
  have hRI2 : RI sm9 gn9 ln9 := RI_rd hRI hI8 j2 gdoc gclr (by decide) (by decide) (by decide) (by decide) (by decide)
  have hP : va_P (dC, dI) vwCl (cW ad cid a29 lx9 sg9 gm9 lg9 ++ (mW h0 adm cidm sm9 gn9 ln9 ++ [(qo, oE cO f9)])) H := hP
  have hD : va_D A (cW ad cid a29 lx9 sg9 gm9 lg9 ++ (mW h0 adm cidm sm9 gn9 ln9 ++ [(qo, oE cO f9)])) := hD
  refine lv_istore (lv' := [(6, .int r8), (5, .int r9), (4, .int i), (3, .ref qo), (2, .ref h0), (1, eV (ad 0) 0), (0, .ref b)]) hx hb dL_law_490 hl (by decide) (by simp [List.filter, eV_cat, cat_i, cat_l, cat_r]) (fun ls hl => ?_)
  refine lv_goto (tgt := 773) hx hb dL_law_492 (by decide) ?_
  have hREL2 : REL sg9 sm9 := Int32.toInt_inj.mp (hw.2.trans gZ.symm)
  refine W.widen (k := 10000 + 3 * (it + 1) + PHs gm9) (n := 400000 + 18 * (it + 1) + 4 * PHs gm9) (show 10000 + 3 * it + PHs gm + gc gm gm9 2 ≤ _ from by unfold gc PH; omega) (show 400000 + 18 * it + 4 * PHs gm + gs gm gm9 2 ≤ _ from by unfold gs PH; omega) ?_
  exact kont a29 lx9 sg9 gm9 lg9 sm9 gn9 ln9 f9 _ _ _ hKI2 hRI2 hREL2 hP hD hS (lv_sub hl [2, 3, 4, 5, 6] rfl)

set_option maxHeartbeats 4000000 in
set_option maxRecDepth 100000 in
theorem d_law6 {p : Program} {l : Launch} {e : Env} {s : State} {m : MethodId} {below : List Frame} {meth : Method} {c : Code} {b L : Nat} {xs : Nat → Int32} {dC : Nat → ClassId} {dI : Nat → Nat → Nat} {ad : Nat → Nat → Nat} {cid : Nat → ClassId} {h0 : Nat} {adm : Nat → Nat} {cidm : Nat → ClassId} {cO : ClassId} {qo : Nat} {A : Nat → Prop} (hl9 : l.stackTraces = false) (C0 : lw_At p s m meth c b L xs) (hL : L ≤ 4608) (hA : ∀ q : Nat, s.heap.size ≤ q → A q) (hbA : ¬ A b) (hG : CE ad A s) (hN9 : NE s) (hK : va_K (dC, dI) vwCl (cT cid ++ (mT cidm ++ [(cO, .long)])) s) (it : Nat) (i : Int32) (hit : it ≤ 511) (hi : i.toInt = 9 * (it : Int)) (hiL : i.toInt + 9 ≤ (L : Int)) (a2 : Nat → Nat) (lx : List Nat) (sg : Nat → Int32) (gm : Nat → Nat → Int32) (lg : Nat → Nat → Int64) (sm : Nat → Int32) (gn : Nat → Nat → Int32) (ln : Nat → Nat → Int64) (f : Nat → Int64) (H : Heap) (locs : List Loc) (ls : Array Slot) (hKI : KI it lx sg gm lg) (hRI : RI sm gn ln) (hREL : REL sg sm) (hP : va_P (dC, dI) vwCl (cW ad cid a2 lx sg gm lg ++ (mW h0 adm cidm sm gn ln ++ [(qo, oE cO f)])) H) (hD : va_D A (cW ad cid a2 lx sg gm lg ++ (mW h0 adm cidm sm gn ln ++ [(qo, oE cO f)]))) (hS : va_S A s.heap H locs) (hl : lv_has ls 7 [(4, .int i), (3, .ref qo), (2, .ref h0), (1, eV (ad 0) 0), (0, .ref b)]) (kont : ∀ (a2 : Nat → Nat) (lx : List Nat) (sg : Nat → Int32) (gm : Nat → Nat → Int32) (lg : Nat → Nat → Int64) (sm : Nat → Int32) (gn : Nat → Nat → Int32) (ln : Nat → Nat → Int64) (f : Nat → Int64) (H : Heap) (locs : List Loc) (ls : Array Slot), KI (it + 1) lx sg gm lg → RI sm gn ln → REL sg sm → va_P (dC, dI) vwCl (cW ad cid a2 lx sg gm lg ++ (mW h0 adm cidm sm gn ln ++ [(qo, oE cO f)])) H → va_D A (cW ad cid a2 lx sg gm lg ++ (mW h0 adm cidm sm gn ln ++ [(qo, oE cO f)])) → va_S A s.heap H locs → lv_has ls 7 [(4, .int i), (3, .ref qo), (2, .ref h0), (1, eV (ad 0) 0), (0, .ref b)] → W p l e room_1 s m #[Value.ref b] below meth c H locs (10000 + 3 * (it + 1) + PHs gm) (400000 + 18 * (it + 1) + 4 * PHs gm) (lw_Z below #[Value.ref b] s) (F0 m 773 ls [])) : W p l e room_1 s m #[Value.ref b] below meth c H locs (10000 + 3 * it + PHs gm) (400000 + 18 * it + 4 * PHs gm) (lw_Z below #[Value.ref b] s) (F0 m 495 ls []) := by
  obtain ⟨hx, hb, hr, hml, hown, hts, hX, hbl, hlocks, hgv⟩ := C0
  have hown : s.vm.findClass RL = some m.cls := hown
  have htb := fun (w : Cond) (h : w ∈ tb) => hts w (tb_in w h)
  have kI := hKI.1
  have hiv : iv 0 4599 i := ⟨by omega, by omega⟩
  refine ec_aload_n hx hb dL_law_495 rfl (lv_at hl 3 rfl) ?_
  refine lv_aload_n hx hb dL_law_496 rfl (lv_at hl 4 rfl) ?_
  refine lv_iload hx hb dL_law_497 (lv_at hl 0 rfl) ?_
  refine lv_iconst (v := 1) hx hb dL_law_499 (by decide) ?_
  refine lv_iadd hx hb dL_law_500 ?_
  refine lv_topi (fun z_1 ez_1 => ?_)
  have tz_1 : z_1.toInt = i.toInt + 1 := by rw [ez_1]; exact iv_addE hiv (iv_k (by decide) : iv 1 1 1) (by decide)
  refine va_sld hx hb hX hbl hbA hS (vp_in_iff.mpr ⟨by omega, by omega⟩) dL_law_501 ?_
  refine lv_topi (fun v_2 ev_2 => ?_)
  refine lw_callT (r := (mW h0 adm cidm sm gn ln ++ [(qo, oE cO f)])) (tr := mT cidm ++ [(cO, .long)]) (rest := []) (as := [.int v_2]) ⟨hx, hb, hml, hown, htb⟩ (d_fault l dC dI ad cid a2 lx sg gm lg 0 v_2 kI (iv_k (by decide) : iv 0 0 0)) (cwV 1 htb (gd_V kw_967 kw_968 kw_969 kw_2 kw_1559) rfl rfl rfl (by decide +kernel) ⟨Nat.le_of_ble_eq_true rfl, Nat.le_of_ble_eq_true rfl⟩) (iv_k (by decide) : iv 0 0 0) rfl hl.1 rfl (Nat.le_trans cs_n (by decide)) dL_law_502 ⟨(show 10000 + 3 * it + PHs gm + 1 ≤ 601024 from by have := PHs_le kI; omega), (show 400000 + 18 * it + 4 * PHs gm + 6 ≤ 7293034 from by have := PHs_le kI; omega)⟩ hK hP hD hS hA hG (fun _ _ h9 => h9) (fun v9 u H locs hw hP hD hS => ?_)
  obtain ⟨r9, rfl, rfl, hr9⟩ := hw
  have hKI2 : KI (it + 1) lx sg gm lg := KI_of (Ls := []) (Lg := []) (Ll := []) hKI kI KS_rf KS_rf KS_rf (by decide) (by decide) (by decide)
  have hph : PHs gm ≤ PHs gm := Nat.le_refl _
  have hP : va_P (dC, dI) vwCl (cW ad cid a2 lx sg gm lg ++ (mW h0 adm cidm sm gn ln ++ [(qo, oE cO f)])) H := hP
  have hD : va_D A (cW ad cid a2 lx sg gm lg ++ (mW h0 adm cidm sm gn ln ++ [(qo, oE cO f)])) := hD
  refine W.eq (g2 := F0 m 505 ls [.int r9]) rfl ?_
  refine lv_pop hx hb dL_law_505 (cat_i _) ?_
  refine lv_aload_n hx hb dL_law_506 rfl (lv_at hl 2 rfl) ?_
  refine lv_aload_n hx hb dL_law_507 rfl (lv_at hl 4 rfl) ?_
  refine lv_iload hx hb dL_law_508 (lv_at hl 0 rfl) ?_
  refine lv_iconst (v := 1) hx hb dL_law_510 (by decide) ?_
  refine lv_iadd hx hb dL_law_511 ?_
  refine lv_topi (fun z_3 ez_3 => ?_)
  have tz_3 : z_3.toInt = i.toInt + 1 := by rw [ez_3]; exact iv_addE hiv (iv_k (by decide) : iv 1 1 1) (by decide)
  refine va_sld hx hb hX hbl hbA hS (vp_in_iff.mpr ⟨by omega, by omega⟩) dL_law_512 ?_
  refine W.eq (g2 := F0 m 513 ls [.int v_2, .ref h0]) (by rw [ev_2, show z_3 = z_1 from Int32.toInt_inj.mp (by omega)]) ?_
  refine lw_callM (w := cW ad cid a2 lx sg gm lg) (tw := cT cid) (r := [(qo, oE cO f)]) (tr := [(cO, .long)]) (rest := []) (as := [.int v_2]) ⟨hx, hb, hml, hown, htb⟩ (a_fault l dC dI h0 adm cidm sm gn ln v_2 hRI.1) (cwV 1 htb (gd_V kw_977 kw_978 kw_979 kw_5 kw_1562) rfl rfl rfl (by decide +kernel) ⟨Nat.le_of_ble_eq_true rfl, Nat.le_of_ble_eq_true rfl⟩) rfl hl.1 rfl (Nat.le_trans cs_n (by decide)) dL_law_513 ⟨(show 10000 + 3 * it + PHs gm ≤ 601024 from by have := PHs_le kI; omega), (show 400000 + 18 * it + 4 * PHs gm ≤ 7293034 from by have := PHs_le kI; omega)⟩ hK hP hD hS hA (fun r8 u8 H locs hw hP hD hS => ?_)
  obtain ⟨sm9, gn9, ln9, rfl, hI8, j1, j2, j3⟩ := hw
  have hRI2 : RI sm9 gn9 ln9 := RI_of hRI hI8 (PR_k hRI.2.1 (j2 6 (by decide))) j1 j2 j3 (by decide) (by decide) (by decide) (by decide) (by decide) (by decide) (by decide) (by decide) (by decide) (by decide)
  have hP : va_P (dC, dI) vwCl (cW ad cid a2 lx sg gm lg ++ (mW h0 adm cidm sm9 gn9 ln9 ++ [(qo, oE cO f)])) H := hP
  have hD : va_D A (cW ad cid a2 lx sg gm lg ++ (mW h0 adm cidm sm9 gn9 ln9 ++ [(qo, oE cO f)])) := hD
  refine lv_pop hx hb dL_law_516 (cat_i _) ?_
  refine lv_goto (tgt := 773) hx hb dL_law_517 (by decide) ?_
  have hREL2 : REL sg sm9 := (show sg 0 = sg 0 from rfl).trans (hREL.trans (show sm9 20 = sm 20 from j1 20 (by decide)).symm)
  refine W.widen (k := 10000 + 3 * (it + 1) + PHs gm) (n := 400000 + 18 * (it + 1) + 4 * PHs gm) (show 10000 + 3 * it + PHs gm ≤ _ from by omega) (show 400000 + 18 * it + 4 * PHs gm ≤ _ from by omega) ?_
  exact kont a2 lx sg gm lg sm9 gn9 ln9 f _ _ _ hKI2 hRI2 hREL2 hP hD hS (lv_sub hl [0, 1, 2, 3, 4] rfl)

set_option maxHeartbeats 4000000 in
set_option maxRecDepth 100000 in
theorem d_law7 {p : Program} {l : Launch} {e : Env} {s : State} {m : MethodId} {below : List Frame} {meth : Method} {c : Code} {b L : Nat} {xs : Nat → Int32} {dC : Nat → ClassId} {dI : Nat → Nat → Nat} {ad : Nat → Nat → Nat} {cid : Nat → ClassId} {h0 : Nat} {adm : Nat → Nat} {cidm : Nat → ClassId} {cO : ClassId} {qo : Nat} {A : Nat → Prop} (hl9 : l.stackTraces = false) (C0 : lw_At p s m meth c b L xs) (hL : L ≤ 4608) (hA : ∀ q : Nat, s.heap.size ≤ q → A q) (hbA : ¬ A b) (hG : CE ad A s) (hN9 : NE s) (hK : va_K (dC, dI) vwCl (cT cid ++ (mT cidm ++ [(cO, .long)])) s) (it : Nat) (i : Int32) (hit : it ≤ 511) (hi : i.toInt = 9 * (it : Int)) (hiL : i.toInt + 9 ≤ (L : Int)) (a2 : Nat → Nat) (lx : List Nat) (sg : Nat → Int32) (gm : Nat → Nat → Int32) (lg : Nat → Nat → Int64) (sm : Nat → Int32) (gn : Nat → Nat → Int32) (ln : Nat → Nat → Int64) (f : Nat → Int64) (H : Heap) (locs : List Loc) (ls : Array Slot) (hKI : KI it lx sg gm lg) (hRI : RI sm gn ln) (hREL : REL sg sm) (hP : va_P (dC, dI) vwCl (cW ad cid a2 lx sg gm lg ++ (mW h0 adm cidm sm gn ln ++ [(qo, oE cO f)])) H) (hD : va_D A (cW ad cid a2 lx sg gm lg ++ (mW h0 adm cidm sm gn ln ++ [(qo, oE cO f)]))) (hS : va_S A s.heap H locs) (hl : lv_has ls 7 [(4, .int i), (3, .ref qo), (2, .ref h0), (1, eV (ad 0) 0), (0, .ref b)]) (kont : ∀ (a2 : Nat → Nat) (lx : List Nat) (sg : Nat → Int32) (gm : Nat → Nat → Int32) (lg : Nat → Nat → Int64) (sm : Nat → Int32) (gn : Nat → Nat → Int32) (ln : Nat → Nat → Int64) (f : Nat → Int64) (H : Heap) (locs : List Loc) (ls : Array Slot), KI (it + 1) lx sg gm lg → RI sm gn ln → REL sg sm → va_P (dC, dI) vwCl (cW ad cid a2 lx sg gm lg ++ (mW h0 adm cidm sm gn ln ++ [(qo, oE cO f)])) H → va_D A (cW ad cid a2 lx sg gm lg ++ (mW h0 adm cidm sm gn ln ++ [(qo, oE cO f)])) → va_S A s.heap H locs → lv_has ls 7 [(4, .int i), (3, .ref qo), (2, .ref h0), (1, eV (ad 0) 0), (0, .ref b)] → W p l e room_1 s m #[Value.ref b] below meth c H locs (10000 + 3 * (it + 1) + PHs gm) (400000 + 18 * (it + 1) + 4 * PHs gm) (lw_Z below #[Value.ref b] s) (F0 m 773 ls [])) : W p l e room_1 s m #[Value.ref b] below meth c H locs (10000 + 3 * it + PHs gm) (400000 + 18 * it + 4 * PHs gm) (lw_Z below #[Value.ref b] s) (F0 m 520 ls []) := by
  obtain ⟨hx, hb, hr, hml, hown, hts, hX, hbl, hlocks, hgv⟩ := C0
  have hown : s.vm.findClass RL = some m.cls := hown
  have htb := fun (w : Cond) (h : w ∈ tb) => hts w (tb_in w h)
  have kI := hKI.1
  have hiv : iv 0 4599 i := ⟨by omega, by omega⟩
  refine ec_aload_n hx hb dL_law_520 rfl (lv_at hl 3 rfl) ?_
  refine lv_aload_n hx hb dL_law_521 rfl (lv_at hl 1 rfl) ?_
  refine lw_callH (rest := []) (as := [eV (ad 0) 0, .ref qo]) ⟨hx, hb, hml, hown, htb⟩ (d_hrefresh l hl9 dC dI ad cid cO qo a2 lx sg gm lg f it hKI (by omega)) (vx_cwSW 2 htb (gd_S kw_981 kw_982 kw_304 kw_1563) rfl rfl rfl (by decide +kernel) ⟨Nat.le_of_ble_eq_true rfl, Nat.le_of_ble_eq_true rfl⟩) rfl hl.1 rfl (Nat.le_trans cs_n (by decide)) dL_law_522 ⟨(show 10000 + 3 * it + PHs gm + 60963 ≤ 601024 from by have := PHs_le kI; omega), (show 400000 + 18 * it + 4 * PHs gm + 243858 ≤ 7293034 from by have := PHs_le kI; omega)⟩ hK hP hD hS hA hG hN9 (fun r9 u f9 H locs hw hmu hP hD hS => ?_)
  obtain ⟨a29, lx9, sg9, gm9, lg9⟩ := u
  have hKI2 : KI (it + 1) lx9 sg9 gm9 lg9 := hw.1
  have kI2 := hKI2.1
  have hph : PHs gm ≤ PHs gm9 := hmu
  have hP : va_P (dC, dI) vwCl (cW ad cid a29 lx9 sg9 gm9 lg9 ++ (mW h0 adm cidm sm gn ln ++ [(qo, oE cO f9)])) H := hP
  have hD : va_D A (cW ad cid a29 lx9 sg9 gm9 lg9 ++ (mW h0 adm cidm sm gn ln ++ [(qo, oE cO f9)])) := hD
  refine lv_istore (lv' := [(5, .int r9), (4, .int i), (3, .ref qo), (2, .ref h0), (1, eV (ad 0) 0), (0, .ref b)]) hx hb dL_law_525 hl (by decide) (by simp [List.filter, eV_cat, cat_i, cat_l, cat_r]) (fun ls hl => ?_)
  refine lv_aload_n hx hb dL_law_527 rfl (lv_at hl 3 rfl) ?_
  refine lw_callM (w := cW ad cid a29 lx9 sg9 gm9 lg9) (tw := cT cid) (r := [(qo, oE cO f9)]) (tr := [(cO, .long)]) (rest := []) (as := []) ⟨hx, hb, hml, hown, htb⟩ (f_refresh l dC dI h0 adm cidm sm gn ln hRI.1 hRI.2.2.1 hRI.2.1 hRI.2.2.2.1 hRI.2.2.2.2) (cwV 0 htb (gd_V kw_1145 kw_1146 kw_1147 kw_5 kw_1599) rfl rfl rfl (by decide +kernel) ⟨Nat.le_of_ble_eq_true rfl, Nat.le_of_ble_eq_true rfl⟩) rfl hl.1 rfl (Nat.le_trans cs_n (by decide)) dL_law_528 ⟨(show 10000 + 3 * it + PHs gm + gc gm gm9 2 ≤ 601024 from by have := PHs_le kI2; have := PHs_le kI; have q9 := gc_l0 (gm := gm) (k := 2) kI2; omega), (show 400000 + 18 * it + 4 * PHs gm + gs gm gm9 2 ≤ 7293034 from by have := PHs_le kI2; have := PHs_le kI; have q9 := gs_l0 (gm := gm) (k := 2) kI2; omega)⟩ hK hP hD hS hA (fun r8 u8 H locs hw hP hD hS => ?_)
  obtain ⟨sm9, gn9, ln9, rfl, hI8, j1, j2, j3, gG, gM⟩ := hw
  have hRI2 : RI sm9 gn9 ln9 := RI_mk hRI hI8 gG gM j1 j2 j3 (by decide) (by decide) (by decide) (by decide) (by decide) (by decide)
  have hP : va_P (dC, dI) vwCl (cW ad cid a29 lx9 sg9 gm9 lg9 ++ (mW h0 adm cidm sm9 gn9 ln9 ++ [(qo, oE cO f9)])) H := hP
  have hD : va_D A (cW ad cid a29 lx9 sg9 gm9 lg9 ++ (mW h0 adm cidm sm9 gn9 ln9 ++ [(qo, oE cO f9)])) := hD
  refine lv_istore (lv' := [(6, .int r8), (5, .int r9), (4, .int i), (3, .ref qo), (2, .ref h0), (1, eV (ad 0) 0), (0, .ref b)]) hx hb dL_law_531 hl (by decide) (by simp [List.filter, eV_cat, cat_i, cat_l, cat_r]) (fun ls hl => ?_)
  refine lv_goto (tgt := 773) hx hb dL_law_533 (by decide) ?_
  have hREL2 : REL sg9 sm9 := (show sg9 0 = sg 0 from hw.2).trans (hREL.trans (show sm9 20 = sm 20 from j1 20 (by decide)).symm)
  refine W.widen (k := 10000 + 3 * (it + 1) + PHs gm9) (n := 400000 + 18 * (it + 1) + 4 * PHs gm9) (show 10000 + 3 * it + PHs gm + gc gm gm9 2 ≤ _ from by unfold gc PH; omega) (show 400000 + 18 * it + 4 * PHs gm + gs gm gm9 2 ≤ _ from by unfold gs PH; omega) ?_
  exact kont a29 lx9 sg9 gm9 lg9 sm9 gn9 ln9 f9 _ _ _ hKI2 hRI2 hREL2 hP hD hS (lv_sub hl [2, 3, 4, 5, 6] rfl)

set_option maxHeartbeats 4000000 in
set_option maxRecDepth 100000 in
theorem d_law8 {p : Program} {l : Launch} {e : Env} {s : State} {m : MethodId} {below : List Frame} {meth : Method} {c : Code} {b L : Nat} {xs : Nat → Int32} {dC : Nat → ClassId} {dI : Nat → Nat → Nat} {ad : Nat → Nat → Nat} {cid : Nat → ClassId} {h0 : Nat} {adm : Nat → Nat} {cidm : Nat → ClassId} {cO : ClassId} {qo : Nat} {A : Nat → Prop} (hl9 : l.stackTraces = false) (C0 : lw_At p s m meth c b L xs) (hL : L ≤ 4608) (hA : ∀ q : Nat, s.heap.size ≤ q → A q) (hbA : ¬ A b) (hG : CE ad A s) (hN9 : NE s) (hK : va_K (dC, dI) vwCl (cT cid ++ (mT cidm ++ [(cO, .long)])) s) (it : Nat) (i : Int32) (hit : it ≤ 511) (hi : i.toInt = 9 * (it : Int)) (hiL : i.toInt + 9 ≤ (L : Int)) (a2 : Nat → Nat) (lx : List Nat) (sg : Nat → Int32) (gm : Nat → Nat → Int32) (lg : Nat → Nat → Int64) (sm : Nat → Int32) (gn : Nat → Nat → Int32) (ln : Nat → Nat → Int64) (f : Nat → Int64) (H : Heap) (locs : List Loc) (ls : Array Slot) (hKI : KI it lx sg gm lg) (hRI : RI sm gn ln) (hREL : REL sg sm) (hP : va_P (dC, dI) vwCl (cW ad cid a2 lx sg gm lg ++ (mW h0 adm cidm sm gn ln ++ [(qo, oE cO f)])) H) (hD : va_D A (cW ad cid a2 lx sg gm lg ++ (mW h0 adm cidm sm gn ln ++ [(qo, oE cO f)]))) (hS : va_S A s.heap H locs) (hl : lv_has ls 7 [(4, .int i), (3, .ref qo), (2, .ref h0), (1, eV (ad 0) 0), (0, .ref b)]) (kont : ∀ (a2 : Nat → Nat) (lx : List Nat) (sg : Nat → Int32) (gm : Nat → Nat → Int32) (lg : Nat → Nat → Int64) (sm : Nat → Int32) (gn : Nat → Nat → Int32) (ln : Nat → Nat → Int64) (f : Nat → Int64) (H : Heap) (locs : List Loc) (ls : Array Slot), KI (it + 1) lx sg gm lg → RI sm gn ln → REL sg sm → va_P (dC, dI) vwCl (cW ad cid a2 lx sg gm lg ++ (mW h0 adm cidm sm gn ln ++ [(qo, oE cO f)])) H → va_D A (cW ad cid a2 lx sg gm lg ++ (mW h0 adm cidm sm gn ln ++ [(qo, oE cO f)])) → va_S A s.heap H locs → lv_has ls 7 [(4, .int i), (3, .ref qo), (2, .ref h0), (1, eV (ad 0) 0), (0, .ref b)] → W p l e room_1 s m #[Value.ref b] below meth c H locs (10000 + 3 * (it + 1) + PHs gm) (400000 + 18 * (it + 1) + 4 * PHs gm) (lw_Z below #[Value.ref b] s) (F0 m 773 ls [])) : W p l e room_1 s m #[Value.ref b] below meth c H locs (10000 + 3 * it + PHs gm) (400000 + 18 * it + 4 * PHs gm) (lw_Z below #[Value.ref b] s) (F0 m 536 ls []) := by
  obtain ⟨hx, hb, hr, hml, hown, hts, hX, hbl, hlocks, hgv⟩ := C0
  have hown : s.vm.findClass RL = some m.cls := hown
  have htb := fun (w : Cond) (h : w ∈ tb) => hts w (tb_in w h)
  have kI := hKI.1
  have hiv : iv 0 4599 i := ⟨by omega, by omega⟩
  refine ec_aload_n hx hb dL_law_536 rfl (lv_at hl 3 rfl) ?_
  refine lv_aload_n hx hb dL_law_537 rfl (lv_at hl 4 rfl) ?_
  refine lv_iload hx hb dL_law_538 (lv_at hl 0 rfl) ?_
  refine lv_iconst (v := 1) hx hb dL_law_540 (by decide) ?_
  refine lv_iadd hx hb dL_law_541 ?_
  refine lv_topi (fun z_1 ez_1 => ?_)
  have tz_1 : z_1.toInt = i.toInt + 1 := by rw [ez_1]; exact iv_addE hiv (iv_k (by decide) : iv 1 1 1) (by decide)
  refine va_sld hx hb hX hbl hbA hS (vp_in_iff.mpr ⟨by omega, by omega⟩) dL_law_542 ?_
  refine lv_topi (fun v_2 ev_2 => ?_)
  refine lv_i2l (v := v_2.toInt64) hx hb dL_law_543 rfl ?_
  refine lv_topl (fun w_4 ew_4 => ?_)
  refine lv_bipush (v := 32) hx hb dL_law_544 (by decide) ?_
  refine lv_lshl hx hb dL_law_546 rfl ?_
  refine lv_topl (fun w_5 ew_5 => ?_)
  refine lv_aload_n hx hb dL_law_547 rfl (lv_at hl 4 rfl) ?_
  refine lv_iload hx hb dL_law_548 (lv_at hl 0 rfl) ?_
  refine lv_iconst (v := 2) hx hb dL_law_550 (by decide) ?_
  refine lv_iadd hx hb dL_law_551 ?_
  refine lv_topi (fun z_6 ez_6 => ?_)
  have tz_6 : z_6.toInt = i.toInt + 2 := by rw [ez_6]; exact iv_addE hiv (iv_k (by decide) : iv 2 2 2) (by decide)
  refine va_sld hx hb hX hbl hbA hS (vp_in_iff.mpr ⟨by omega, by omega⟩) dL_law_552 ?_
  refine lv_topi (fun v_7 ev_7 => ?_)
  refine lv_i2l (v := v_7.toInt64) hx hb dL_law_553 rfl ?_
  refine lv_topl (fun w_9 ew_9 => ?_)
  refine lv_ldc2 (own := RL) (v := 4294967295) hx hb hown (htb _ kw_7) dL_law_554 ?_
  refine lv_land hx hb dL_law_557 ?_
  refine lv_topl (fun w_10 ew_10 => ?_)
  refine lv_lor hx hb dL_law_558 ?_
  refine lv_topl (fun w_11 ew_11 => ?_)
  refine lv_aload_n hx hb dL_law_559 rfl (lv_at hl 1 rfl) ?_
  refine lw_callH (rest := []) (as := [eV (ad 0) 0, .long w_11, .ref qo]) ⟨hx, hb, hml, hown, htb⟩ (d_hget l hl9 dC dI ad cid cO qo a2 lx sg gm lg f it w_11 hKI (by omega)) (vx_cwSW 3 htb (gd_S kw_1263 kw_1264 kw_304 kw_1636) rfl rfl rfl (by decide +kernel) ⟨Nat.le_of_ble_eq_true rfl, Nat.le_of_ble_eq_true rfl⟩) rfl hl.1 rfl (Nat.le_trans cs_n (by decide)) dL_law_560 ⟨(show 10000 + 3 * it + PHs gm + 60963 ≤ 601024 from by have := PHs_le kI; omega), (show 400000 + 18 * it + 4 * PHs gm + 243858 ≤ 7293034 from by have := PHs_le kI; omega)⟩ hK hP hD hS hA hG hN9 (fun r9 u f9 H locs hw hmu hP hD hS => ?_)
  obtain ⟨a29, lx9, sg9, gm9, lg9⟩ := u
  have hKI2 : KI (it + 1) lx9 sg9 gm9 lg9 := hw.1
  have kI2 := hKI2.1
  have hph : PHs gm ≤ PHs gm9 := hmu
  have hP : va_P (dC, dI) vwCl (cW ad cid a29 lx9 sg9 gm9 lg9 ++ (mW h0 adm cidm sm gn ln ++ [(qo, oE cO f9)])) H := hP
  have hD : va_D A (cW ad cid a29 lx9 sg9 gm9 lg9 ++ (mW h0 adm cidm sm gn ln ++ [(qo, oE cO f9)])) := hD
  refine lv_istore (lv' := [(5, .int r9), (4, .int i), (3, .ref qo), (2, .ref h0), (1, eV (ad 0) 0), (0, .ref b)]) hx hb dL_law_563 hl (by decide) (by simp [List.filter, eV_cat, cat_i, cat_l, cat_r]) (fun ls hl => ?_)
  refine lv_aload_n hx hb dL_law_565 rfl (lv_at hl 3 rfl) ?_
  refine lv_aload_n hx hb dL_law_566 rfl (lv_at hl 5 rfl) ?_
  refine lv_iload hx hb dL_law_567 (lv_at hl 1 rfl) ?_
  refine lv_iconst (v := 1) hx hb dL_law_569 (by decide) ?_
  refine lv_iadd hx hb dL_law_570 ?_
  refine lv_topi (fun z_12 ez_12 => ?_)
  have tz_12 : z_12.toInt = i.toInt + 1 := by rw [ez_12]; exact iv_addE hiv (iv_k (by decide) : iv 1 1 1) (by decide)
  refine va_sld hx hb hX hbl hbA hS (vp_in_iff.mpr ⟨by omega, by omega⟩) dL_law_571 ?_
  refine W.eq (g2 := F0 m 572 ls [.int v_2, .ref h0]) (by rw [ev_2, show z_12 = z_1 from Int32.toInt_inj.mp (by omega)]) ?_
  refine lv_i2l (v := v_2.toInt64) hx hb dL_law_572 rfl ?_
  refine lv_topl (fun w_14 ew_14 => ?_)
  refine lv_bipush (v := 32) hx hb dL_law_573 (by decide) ?_
  refine lv_lshl hx hb dL_law_575 rfl ?_
  refine lv_topl (fun w_15 ew_15 => ?_)
  refine lv_aload_n hx hb dL_law_576 rfl (lv_at hl 5 rfl) ?_
  refine lv_iload hx hb dL_law_577 (lv_at hl 1 rfl) ?_
  refine lv_iconst (v := 2) hx hb dL_law_579 (by decide) ?_
  refine lv_iadd hx hb dL_law_580 ?_
  refine lv_topi (fun z_16 ez_16 => ?_)
  have tz_16 : z_16.toInt = i.toInt + 2 := by rw [ez_16]; exact iv_addE hiv (iv_k (by decide) : iv 2 2 2) (by decide)
  refine va_sld hx hb hX hbl hbA hS (vp_in_iff.mpr ⟨by omega, by omega⟩) dL_law_581 ?_
  refine W.eq (g2 := F0 m 582 ls [.int v_7, .long w_15, .ref h0]) (by rw [ev_7, show z_16 = z_6 from Int32.toInt_inj.mp (by omega)]) ?_
  refine lv_i2l (v := v_7.toInt64) hx hb dL_law_582 rfl ?_
  refine lv_topl (fun w_18 ew_18 => ?_)
  refine lv_ldc2 (own := RL) (v := 4294967295) hx hb hown (htb _ kw_7) dL_law_583 ?_
  refine lv_land hx hb dL_law_586 ?_
  refine lv_topl (fun w_19 ew_19 => ?_)
  refine lv_lor hx hb dL_law_587 ?_
  refine lv_topl (fun w_20 ew_20 => ?_)
  refine lw_callM (w := cW ad cid a29 lx9 sg9 gm9 lg9) (tw := cT cid) (r := [(qo, oE cO f9)]) (tr := [(cO, .long)]) (rest := []) (as := [.long w_20]) ⟨hx, hb, hml, hown, htb⟩ (f_get l dC dI h0 adm cidm sm gn ln w_20 hRI.1 hRI.2.2.1 hRI.2.1 hRI.2.2.2.1 hRI.2.2.2.2) (cwV 1 htb (gd_V kw_1274 kw_1275 kw_1276 kw_5 kw_1640) rfl rfl rfl (by decide +kernel) ⟨Nat.le_of_ble_eq_true rfl, Nat.le_of_ble_eq_true rfl⟩) rfl hl.1 rfl (Nat.le_trans cs_n (by decide)) dL_law_588 ⟨(show 10000 + 3 * it + PHs gm + gc gm gm9 2 ≤ 601024 from by have := PHs_le kI2; have := PHs_le kI; have q9 := gc_l0 (gm := gm) (k := 2) kI2; omega), (show 400000 + 18 * it + 4 * PHs gm + gs gm gm9 2 ≤ 7293034 from by have := PHs_le kI2; have := PHs_le kI; have q9 := gs_l0 (gm := gm) (k := 2) kI2; omega)⟩ hK hP hD hS hA (fun r8 u8 H locs hw hP hD hS => ?_)
  obtain ⟨sm9, gn9, ln9, rfl, hI8, j1, j2, j3, gG, gM⟩ := hw
  have hRI2 : RI sm9 gn9 ln9 := RI_mk hRI hI8 gG gM j1 j2 j3 (by decide) (by decide) (by decide) (by decide) (by decide) (by decide)
  have hP : va_P (dC, dI) vwCl (cW ad cid a29 lx9 sg9 gm9 lg9 ++ (mW h0 adm cidm sm9 gn9 ln9 ++ [(qo, oE cO f9)])) H := hP
  have hD : va_D A (cW ad cid a29 lx9 sg9 gm9 lg9 ++ (mW h0 adm cidm sm9 gn9 ln9 ++ [(qo, oE cO f9)])) := hD
  refine lv_istore (lv' := [(6, .int r8), (5, .int r9), (4, .int i), (3, .ref qo), (2, .ref h0), (1, eV (ad 0) 0), (0, .ref b)]) hx hb dL_law_591 hl (by decide) (by simp [List.filter, eV_cat, cat_i, cat_l, cat_r]) (fun ls hl => ?_)
  refine lv_goto (tgt := 773) hx hb dL_law_593 (by decide) ?_
  have hREL2 : REL sg9 sm9 := (show sg9 0 = sg 0 from hw.2).trans (hREL.trans (show sm9 20 = sm 20 from j1 20 (by decide)).symm)
  refine W.widen (k := 10000 + 3 * (it + 1) + PHs gm9) (n := 400000 + 18 * (it + 1) + 4 * PHs gm9) (show 10000 + 3 * it + PHs gm + gc gm gm9 2 ≤ _ from by unfold gc PH; omega) (show 400000 + 18 * it + 4 * PHs gm + gs gm gm9 2 ≤ _ from by unfold gs PH; omega) ?_
  exact kont a29 lx9 sg9 gm9 lg9 sm9 gn9 ln9 f9 _ _ _ hKI2 hRI2 hREL2 hP hD hS (lv_sub hl [2, 3, 4, 5, 6] rfl)

set_option maxHeartbeats 4000000 in
set_option maxRecDepth 100000 in
theorem d_law9 {p : Program} {l : Launch} {e : Env} {s : State} {m : MethodId} {below : List Frame} {meth : Method} {c : Code} {b L : Nat} {xs : Nat → Int32} {dC : Nat → ClassId} {dI : Nat → Nat → Nat} {ad : Nat → Nat → Nat} {cid : Nat → ClassId} {h0 : Nat} {adm : Nat → Nat} {cidm : Nat → ClassId} {cO : ClassId} {qo : Nat} {A : Nat → Prop} (hl9 : l.stackTraces = false) (C0 : lw_At p s m meth c b L xs) (hL : L ≤ 4608) (hA : ∀ q : Nat, s.heap.size ≤ q → A q) (hbA : ¬ A b) (hG : CE ad A s) (hN9 : NE s) (hK : va_K (dC, dI) vwCl (cT cid ++ (mT cidm ++ [(cO, .long)])) s) (it : Nat) (i : Int32) (hit : it ≤ 511) (hi : i.toInt = 9 * (it : Int)) (hiL : i.toInt + 9 ≤ (L : Int)) (a2 : Nat → Nat) (lx : List Nat) (sg : Nat → Int32) (gm : Nat → Nat → Int32) (lg : Nat → Nat → Int64) (sm : Nat → Int32) (gn : Nat → Nat → Int32) (ln : Nat → Nat → Int64) (f : Nat → Int64) (H : Heap) (locs : List Loc) (ls : Array Slot) (hKI : KI it lx sg gm lg) (hRI : RI sm gn ln) (hREL : REL sg sm) (hP : va_P (dC, dI) vwCl (cW ad cid a2 lx sg gm lg ++ (mW h0 adm cidm sm gn ln ++ [(qo, oE cO f)])) H) (hD : va_D A (cW ad cid a2 lx sg gm lg ++ (mW h0 adm cidm sm gn ln ++ [(qo, oE cO f)]))) (hS : va_S A s.heap H locs) (hl : lv_has ls 7 [(4, .int i), (3, .ref qo), (2, .ref h0), (1, eV (ad 0) 0), (0, .ref b)]) (kont : ∀ (a2 : Nat → Nat) (lx : List Nat) (sg : Nat → Int32) (gm : Nat → Nat → Int32) (lg : Nat → Nat → Int64) (sm : Nat → Int32) (gn : Nat → Nat → Int32) (ln : Nat → Nat → Int64) (f : Nat → Int64) (H : Heap) (locs : List Loc) (ls : Array Slot), KI (it + 1) lx sg gm lg → RI sm gn ln → REL sg sm → va_P (dC, dI) vwCl (cW ad cid a2 lx sg gm lg ++ (mW h0 adm cidm sm gn ln ++ [(qo, oE cO f)])) H → va_D A (cW ad cid a2 lx sg gm lg ++ (mW h0 adm cidm sm gn ln ++ [(qo, oE cO f)])) → va_S A s.heap H locs → lv_has ls 7 [(4, .int i), (3, .ref qo), (2, .ref h0), (1, eV (ad 0) 0), (0, .ref b)] → W p l e room_1 s m #[Value.ref b] below meth c H locs (10000 + 3 * (it + 1) + PHs gm) (400000 + 18 * (it + 1) + 4 * PHs gm) (lw_Z below #[Value.ref b] s) (F0 m 773 ls [])) : W p l e room_1 s m #[Value.ref b] below meth c H locs (10000 + 3 * it + PHs gm) (400000 + 18 * it + 4 * PHs gm) (lw_Z below #[Value.ref b] s) (F0 m 596 ls []) := by
  obtain ⟨hx, hb, hr, hml, hown, hts, hX, hbl, hlocks, hgv⟩ := C0
  have hown : s.vm.findClass RL = some m.cls := hown
  have htb := fun (w : Cond) (h : w ∈ tb) => hts w (tb_in w h)
  have kI := hKI.1
  have hiv : iv 0 4599 i := ⟨by omega, by omega⟩
  refine ec_aload_n hx hb dL_law_596 rfl (lv_at hl 3 rfl) ?_
  refine lv_aload_n hx hb dL_law_597 rfl (lv_at hl 4 rfl) ?_
  refine lv_iload hx hb dL_law_598 (lv_at hl 0 rfl) ?_
  refine lv_iconst (v := 1) hx hb dL_law_600 (by decide) ?_
  refine lv_iadd hx hb dL_law_601 ?_
  refine lv_topi (fun z_1 ez_1 => ?_)
  have tz_1 : z_1.toInt = i.toInt + 1 := by rw [ez_1]; exact iv_addE hiv (iv_k (by decide) : iv 1 1 1) (by decide)
  refine va_sld hx hb hX hbl hbA hS (vp_in_iff.mpr ⟨by omega, by omega⟩) dL_law_602 ?_
  refine lv_topi (fun v_2 ev_2 => ?_)
  refine lv_aload_n hx hb dL_law_603 rfl (lv_at hl 4 rfl) ?_
  refine lv_iload hx hb dL_law_604 (lv_at hl 0 rfl) ?_
  refine lv_iconst (v := 2) hx hb dL_law_606 (by decide) ?_
  refine lv_iadd hx hb dL_law_607 ?_
  refine lv_topi (fun z_3 ez_3 => ?_)
  have tz_3 : z_3.toInt = i.toInt + 2 := by rw [ez_3]; exact iv_addE hiv (iv_k (by decide) : iv 2 2 2) (by decide)
  refine va_sld hx hb hX hbl hbA hS (vp_in_iff.mpr ⟨by omega, by omega⟩) dL_law_608 ?_
  refine lv_topi (fun v_4 ev_4 => ?_)
  refine lv_aload_n hx hb dL_law_609 rfl (lv_at hl 1 rfl) ?_
  refine lw_callH (rest := []) (as := [eV (ad 0) 0, .int v_2, .int v_4, .ref qo]) ⟨hx, hb, hml, hown, htb⟩ (d_hcall l hl9 dC dI ad cid cO qo a2 lx sg gm lg f it v_2 v_4 hKI (by omega)) (vx_cwSW 4 htb (gd_S kw_1279 kw_1280 kw_304 kw_1642) rfl rfl rfl (by decide +kernel) ⟨Nat.le_of_ble_eq_true rfl, Nat.le_of_ble_eq_true rfl⟩) rfl hl.1 rfl (Nat.le_trans cs_n (by decide)) dL_law_610 ⟨(show 10000 + 3 * it + PHs gm + 60963 ≤ 601024 from by have := PHs_le kI; omega), (show 400000 + 18 * it + 4 * PHs gm + 243858 ≤ 7293034 from by have := PHs_le kI; omega)⟩ hK hP hD hS hA hG hN9 (fun r9 u f9 H locs hw hmu hP hD hS => ?_)
  obtain ⟨a29, lx9, sg9, gm9, lg9⟩ := u
  have hKI2 : KI (it + 1) lx9 sg9 gm9 lg9 := hw.1
  have kI2 := hKI2.1
  have hph : PHs gm ≤ PHs gm9 := hmu
  have hP : va_P (dC, dI) vwCl (cW ad cid a29 lx9 sg9 gm9 lg9 ++ (mW h0 adm cidm sm gn ln ++ [(qo, oE cO f9)])) H := hP
  have hD : va_D A (cW ad cid a29 lx9 sg9 gm9 lg9 ++ (mW h0 adm cidm sm gn ln ++ [(qo, oE cO f9)])) := hD
  refine lv_istore (lv' := [(5, .int r9), (4, .int i), (3, .ref qo), (2, .ref h0), (1, eV (ad 0) 0), (0, .ref b)]) hx hb dL_law_613 hl (by decide) (by simp [List.filter, eV_cat, cat_i, cat_l, cat_r]) (fun ls hl => ?_)
  refine lv_aload_n hx hb dL_law_615 rfl (lv_at hl 3 rfl) ?_
  refine lv_aload_n hx hb dL_law_616 rfl (lv_at hl 5 rfl) ?_
  refine lv_iload hx hb dL_law_617 (lv_at hl 1 rfl) ?_
  refine lv_iconst (v := 1) hx hb dL_law_619 (by decide) ?_
  refine lv_iadd hx hb dL_law_620 ?_
  refine lv_topi (fun z_5 ez_5 => ?_)
  have tz_5 : z_5.toInt = i.toInt + 1 := by rw [ez_5]; exact iv_addE hiv (iv_k (by decide) : iv 1 1 1) (by decide)
  refine va_sld hx hb hX hbl hbA hS (vp_in_iff.mpr ⟨by omega, by omega⟩) dL_law_621 ?_
  refine W.eq (g2 := F0 m 622 ls [.int v_2, .ref h0]) (by rw [ev_2, show z_5 = z_1 from Int32.toInt_inj.mp (by omega)]) ?_
  refine lv_aload_n hx hb dL_law_622 rfl (lv_at hl 5 rfl) ?_
  refine lv_iload hx hb dL_law_623 (lv_at hl 1 rfl) ?_
  refine lv_iconst (v := 2) hx hb dL_law_625 (by decide) ?_
  refine lv_iadd hx hb dL_law_626 ?_
  refine lv_topi (fun z_6 ez_6 => ?_)
  have tz_6 : z_6.toInt = i.toInt + 2 := by rw [ez_6]; exact iv_addE hiv (iv_k (by decide) : iv 2 2 2) (by decide)
  refine va_sld hx hb hX hbl hbA hS (vp_in_iff.mpr ⟨by omega, by omega⟩) dL_law_627 ?_
  refine W.eq (g2 := F0 m 628 ls [.int v_4, .int v_2, .ref h0]) (by rw [ev_4, show z_6 = z_3 from Int32.toInt_inj.mp (by omega)]) ?_
  refine lw_callM (w := cW ad cid a29 lx9 sg9 gm9 lg9) (tw := cT cid) (r := [(qo, oE cO f9)]) (tr := [(cO, .long)]) (rest := []) (as := [.int v_2, .int v_4]) ⟨hx, hb, hml, hown, htb⟩ (f_call l dC dI h0 adm cidm sm gn ln v_2 v_4 hRI.1 hRI.2.2.1 hRI.2.1 hRI.2.2.2.1 hRI.2.2.2.2) (cwV 2 htb (gd_V kw_1297 kw_1298 kw_1299 kw_5 kw_1647) rfl rfl rfl (by decide +kernel) ⟨Nat.le_of_ble_eq_true rfl, Nat.le_of_ble_eq_true rfl⟩) rfl hl.1 rfl (Nat.le_trans cs_n (by decide)) dL_law_628 ⟨(show 10000 + 3 * it + PHs gm + gc gm gm9 2 ≤ 601024 from by have := PHs_le kI2; have := PHs_le kI; have q9 := gc_l0 (gm := gm) (k := 2) kI2; omega), (show 400000 + 18 * it + 4 * PHs gm + gs gm gm9 2 ≤ 7293034 from by have := PHs_le kI2; have := PHs_le kI; have q9 := gs_l0 (gm := gm) (k := 2) kI2; omega)⟩ hK hP hD hS hA (fun r8 u8 H locs hw hP hD hS => ?_)
  obtain ⟨sm9, gn9, ln9, rfl, hI8, j1, j2, j3, gG, gM⟩ := hw
  have hRI2 : RI sm9 gn9 ln9 := RI_mk hRI hI8 gG gM j1 j2 j3 (by decide) (by decide) (by decide) (by decide) (by decide) (by decide)
  have hP : va_P (dC, dI) vwCl (cW ad cid a29 lx9 sg9 gm9 lg9 ++ (mW h0 adm cidm sm9 gn9 ln9 ++ [(qo, oE cO f9)])) H := hP
  have hD : va_D A (cW ad cid a29 lx9 sg9 gm9 lg9 ++ (mW h0 adm cidm sm9 gn9 ln9 ++ [(qo, oE cO f9)])) := hD
  refine lv_istore (lv' := [(6, .int r8), (5, .int r9), (4, .int i), (3, .ref qo), (2, .ref h0), (1, eV (ad 0) 0), (0, .ref b)]) hx hb dL_law_631 hl (by decide) (by simp [List.filter, eV_cat, cat_i, cat_l, cat_r]) (fun ls hl => ?_)
  refine lv_goto (tgt := 773) hx hb dL_law_633 (by decide) ?_
  have hREL2 : REL sg9 sm9 := (show sg9 0 = sg 0 from hw.2).trans (hREL.trans (show sm9 20 = sm 20 from j1 20 (by decide)).symm)
  refine W.widen (k := 10000 + 3 * (it + 1) + PHs gm9) (n := 400000 + 18 * (it + 1) + 4 * PHs gm9) (show 10000 + 3 * it + PHs gm + gc gm gm9 2 ≤ _ from by unfold gc PH; omega) (show 400000 + 18 * it + 4 * PHs gm + gs gm gm9 2 ≤ _ from by unfold gs PH; omega) ?_
  exact kont a29 lx9 sg9 gm9 lg9 sm9 gn9 ln9 f9 _ _ _ hKI2 hRI2 hREL2 hP hD hS (lv_sub hl [2, 3, 4, 5, 6] rfl)

set_option maxHeartbeats 4000000 in
set_option maxRecDepth 100000 in
theorem d_law10 {p : Program} {l : Launch} {e : Env} {s : State} {m : MethodId} {below : List Frame} {meth : Method} {c : Code} {b L : Nat} {xs : Nat → Int32} {dC : Nat → ClassId} {dI : Nat → Nat → Nat} {ad : Nat → Nat → Nat} {cid : Nat → ClassId} {h0 : Nat} {adm : Nat → Nat} {cidm : Nat → ClassId} {cO : ClassId} {qo : Nat} {A : Nat → Prop} (hl9 : l.stackTraces = false) (C0 : lw_At p s m meth c b L xs) (hL : L ≤ 4608) (hA : ∀ q : Nat, s.heap.size ≤ q → A q) (hbA : ¬ A b) (hG : CE ad A s) (hN9 : NE s) (hK : va_K (dC, dI) vwCl (cT cid ++ (mT cidm ++ [(cO, .long)])) s) (it : Nat) (i : Int32) (hit : it ≤ 511) (hi : i.toInt = 9 * (it : Int)) (hiL : i.toInt + 9 ≤ (L : Int)) (a2 : Nat → Nat) (lx : List Nat) (sg : Nat → Int32) (gm : Nat → Nat → Int32) (lg : Nat → Nat → Int64) (sm : Nat → Int32) (gn : Nat → Nat → Int32) (ln : Nat → Nat → Int64) (f : Nat → Int64) (H : Heap) (locs : List Loc) (ls : Array Slot) (hKI : KI it lx sg gm lg) (hRI : RI sm gn ln) (hREL : REL sg sm) (hP : va_P (dC, dI) vwCl (cW ad cid a2 lx sg gm lg ++ (mW h0 adm cidm sm gn ln ++ [(qo, oE cO f)])) H) (hD : va_D A (cW ad cid a2 lx sg gm lg ++ (mW h0 adm cidm sm gn ln ++ [(qo, oE cO f)]))) (hS : va_S A s.heap H locs) (hl : lv_has ls 7 [(4, .int i), (3, .ref qo), (2, .ref h0), (1, eV (ad 0) 0), (0, .ref b)]) (kont : ∀ (a2 : Nat → Nat) (lx : List Nat) (sg : Nat → Int32) (gm : Nat → Nat → Int32) (lg : Nat → Nat → Int64) (sm : Nat → Int32) (gn : Nat → Nat → Int32) (ln : Nat → Nat → Int64) (f : Nat → Int64) (H : Heap) (locs : List Loc) (ls : Array Slot), KI (it + 1) lx sg gm lg → RI sm gn ln → REL sg sm → va_P (dC, dI) vwCl (cW ad cid a2 lx sg gm lg ++ (mW h0 adm cidm sm gn ln ++ [(qo, oE cO f)])) H → va_D A (cW ad cid a2 lx sg gm lg ++ (mW h0 adm cidm sm gn ln ++ [(qo, oE cO f)])) → va_S A s.heap H locs → lv_has ls 7 [(4, .int i), (3, .ref qo), (2, .ref h0), (1, eV (ad 0) 0), (0, .ref b)] → W p l e room_1 s m #[Value.ref b] below meth c H locs (10000 + 3 * (it + 1) + PHs gm) (400000 + 18 * (it + 1) + 4 * PHs gm) (lw_Z below #[Value.ref b] s) (F0 m 773 ls [])) : W p l e room_1 s m #[Value.ref b] below meth c H locs (10000 + 3 * it + PHs gm) (400000 + 18 * it + 4 * PHs gm) (lw_Z below #[Value.ref b] s) (F0 m 636 ls []) := by
  obtain ⟨hx, hb, hr, hml, hown, hts, hX, hbl, hlocks, hgv⟩ := C0
  have hown : s.vm.findClass RL = some m.cls := hown
  have htb := fun (w : Cond) (h : w ∈ tb) => hts w (tb_in w h)
  have kI := hKI.1
  have hiv : iv 0 4599 i := ⟨by omega, by omega⟩
  refine ec_aload_n hx hb dL_law_636 rfl (lv_at hl 3 rfl) ?_
  refine lw_callT (r := (mW h0 adm cidm sm gn ln ++ [(qo, oE cO f)])) (tr := mT cidm ++ [(cO, .long)]) (rest := []) (as := []) ⟨hx, hb, hml, hown, htb⟩ (d_close l dC dI ad cid a2 lx sg gm lg 0 kI (iv_k (by decide) : iv 0 0 0) hKI.2.2.1) (cwV 0 htb (gd_V kw_1300 kw_1301 kw_1302 kw_2 kw_1648) rfl rfl rfl (by decide +kernel) ⟨Nat.le_of_ble_eq_true rfl, Nat.le_of_ble_eq_true rfl⟩) (iv_k (by decide) : iv 0 0 0) rfl hl.1 rfl (Nat.le_trans cs_n (by decide)) dL_law_637 ⟨(show 10000 + 3 * it + PHs gm + 1 ≤ 601024 from by have := PHs_le kI; omega), (show 400000 + 18 * it + 4 * PHs gm + 6 ≤ 7293034 from by have := PHs_le kI; omega)⟩ hK hP hD hS hA hG (fun _ _ h9 => h9) (fun v9 u H locs hw hP hD hS => ?_)
  obtain ⟨r9, rfl, sg9, gm9, lg9, rfl, hI9, k1, k2, k3, hr9, fM, f15⟩ := hw
  have hKI2 : KI (it + 1) lx sg9 gm9 lg9 := KI_cl hKI hI9 k1 k2 k3 fM f15 (by decide) (by decide) (by decide)
  have hph : PHs gm ≤ PHs gm9 := Nat.le_of_eq (PHs_e (k2 42 (by decide))).symm
  have hP : va_P (dC, dI) vwCl (cW ad cid a2 lx sg9 gm9 lg9 ++ (mW h0 adm cidm sm gn ln ++ [(qo, oE cO f)])) H := hP
  have hD : va_D A (cW ad cid a2 lx sg9 gm9 lg9 ++ (mW h0 adm cidm sm gn ln ++ [(qo, oE cO f)])) := hD
  refine W.eq (g2 := F0 m 640 ls [.int r9]) rfl ?_
  refine lv_pop hx hb dL_law_640 (cat_i _) ?_
  refine lv_aload_n hx hb dL_law_641 rfl (lv_at hl 2 rfl) ?_
  refine lw_callM (w := cW ad cid a2 lx sg9 gm9 lg9) (tw := cT cid) (r := [(qo, oE cO f)]) (tr := [(cO, .long)]) (rest := []) (as := []) ⟨hx, hb, hml, hown, htb⟩ (f_close l dC dI h0 adm cidm sm gn ln hRI.1 hRI.2.2.1 hRI.2.1 hRI.2.2.2.1 hRI.2.2.2.2) (cwV 0 htb (gd_V kw_1307 kw_1308 kw_1309 kw_5 kw_1650) rfl rfl rfl (by decide +kernel) ⟨Nat.le_of_ble_eq_true rfl, Nat.le_of_ble_eq_true rfl⟩) rfl hl.1 rfl (Nat.le_trans cs_n (by decide)) dL_law_642 ⟨(show 10000 + 3 * it + PHs gm ≤ 601024 from by have := PHs_le kI; omega), (show 400000 + 18 * it + 4 * PHs gm ≤ 7293034 from by have := PHs_le kI; omega)⟩ hK hP hD hS hA (fun r8 u8 H locs hw hP hD hS => ?_)
  obtain ⟨sm9, gn9, ln9, rfl, hI8, j1, j2, j3, gG, gM⟩ := hw
  have hRI2 : RI sm9 gn9 ln9 := RI_mk hRI hI8 gG gM j1 j2 j3 (by decide) (by decide) (by decide) (by decide) (by decide) (by decide)
  have hP : va_P (dC, dI) vwCl (cW ad cid a2 lx sg9 gm9 lg9 ++ (mW h0 adm cidm sm9 gn9 ln9 ++ [(qo, oE cO f)])) H := hP
  have hD : va_D A (cW ad cid a2 lx sg9 gm9 lg9 ++ (mW h0 adm cidm sm9 gn9 ln9 ++ [(qo, oE cO f)])) := hD
  refine lv_pop hx hb dL_law_645 (cat_i _) ?_
  refine lv_goto (tgt := 773) hx hb dL_law_646 (by decide) ?_
  have hREL2 : REL sg9 sm9 := (show sg9 0 = sg 0 from (k1 0 (by decide))).trans (hREL.trans (show sm9 20 = sm 20 from j1 20 (by decide)).symm)
  refine W.widen (k := 10000 + 3 * (it + 1) + PHs gm9) (n := 400000 + 18 * (it + 1) + 4 * PHs gm9) (show 10000 + 3 * it + PHs gm ≤ _ from by omega) (show 400000 + 18 * it + 4 * PHs gm ≤ _ from by omega) ?_
  exact kont a2 lx sg9 gm9 lg9 sm9 gn9 ln9 f _ _ _ hKI2 hRI2 hREL2 hP hD hS (lv_sub hl [0, 1, 2, 3, 4] rfl)

set_option maxHeartbeats 4000000 in
set_option maxRecDepth 100000 in
theorem d_law11 {p : Program} {l : Launch} {e : Env} {s : State} {m : MethodId} {below : List Frame} {meth : Method} {c : Code} {b L : Nat} {xs : Nat → Int32} {dC : Nat → ClassId} {dI : Nat → Nat → Nat} {ad : Nat → Nat → Nat} {cid : Nat → ClassId} {h0 : Nat} {adm : Nat → Nat} {cidm : Nat → ClassId} {cO : ClassId} {qo : Nat} {A : Nat → Prop} (hl9 : l.stackTraces = false) (C0 : lw_At p s m meth c b L xs) (hL : L ≤ 4608) (hA : ∀ q : Nat, s.heap.size ≤ q → A q) (hbA : ¬ A b) (hG : CE ad A s) (hN9 : NE s) (hK : va_K (dC, dI) vwCl (cT cid ++ (mT cidm ++ [(cO, .long)])) s) (it : Nat) (i : Int32) (hit : it ≤ 511) (hi : i.toInt = 9 * (it : Int)) (hiL : i.toInt + 9 ≤ (L : Int)) (a2 : Nat → Nat) (lx : List Nat) (sg : Nat → Int32) (gm : Nat → Nat → Int32) (lg : Nat → Nat → Int64) (sm : Nat → Int32) (gn : Nat → Nat → Int32) (ln : Nat → Nat → Int64) (f : Nat → Int64) (H : Heap) (locs : List Loc) (ls : Array Slot) (hKI : KI it lx sg gm lg) (hRI : RI sm gn ln) (hREL : REL sg sm) (hP : va_P (dC, dI) vwCl (cW ad cid a2 lx sg gm lg ++ (mW h0 adm cidm sm gn ln ++ [(qo, oE cO f)])) H) (hD : va_D A (cW ad cid a2 lx sg gm lg ++ (mW h0 adm cidm sm gn ln ++ [(qo, oE cO f)]))) (hS : va_S A s.heap H locs) (hl : lv_has ls 7 [(4, .int i), (3, .ref qo), (2, .ref h0), (1, eV (ad 0) 0), (0, .ref b)]) (kont : ∀ (a2 : Nat → Nat) (lx : List Nat) (sg : Nat → Int32) (gm : Nat → Nat → Int32) (lg : Nat → Nat → Int64) (sm : Nat → Int32) (gn : Nat → Nat → Int32) (ln : Nat → Nat → Int64) (f : Nat → Int64) (H : Heap) (locs : List Loc) (ls : Array Slot), KI (it + 1) lx sg gm lg → RI sm gn ln → REL sg sm → va_P (dC, dI) vwCl (cW ad cid a2 lx sg gm lg ++ (mW h0 adm cidm sm gn ln ++ [(qo, oE cO f)])) H → va_D A (cW ad cid a2 lx sg gm lg ++ (mW h0 adm cidm sm gn ln ++ [(qo, oE cO f)])) → va_S A s.heap H locs → lv_has ls 7 [(4, .int i), (3, .ref qo), (2, .ref h0), (1, eV (ad 0) 0), (0, .ref b)] → W p l e room_1 s m #[Value.ref b] below meth c H locs (10000 + 3 * (it + 1) + PHs gm) (400000 + 18 * (it + 1) + 4 * PHs gm) (lw_Z below #[Value.ref b] s) (F0 m 773 ls [])) : W p l e room_1 s m #[Value.ref b] below meth c H locs (10000 + 3 * it + PHs gm) (400000 + 18 * it + 4 * PHs gm) (lw_Z below #[Value.ref b] s) (F0 m 649 ls []) := by
  obtain ⟨hx, hb, hr, hml, hown, hts, hX, hbl, hlocks, hgv⟩ := C0
  have hown : s.vm.findClass RL = some m.cls := hown
  have htb := fun (w : Cond) (h : w ∈ tb) => hts w (tb_in w h)
  have kI := hKI.1
  have hiv : iv 0 4599 i := ⟨by omega, by omega⟩
  refine ec_aload_n hx hb dL_law_649 rfl (lv_at hl 3 rfl) ?_
  refine lw_callT (r := (mW h0 adm cidm sm gn ln ++ [(qo, oE cO f)])) (tr := mT cidm ++ [(cO, .long)]) (rest := []) (as := []) ⟨hx, hb, hml, hown, htb⟩ (d_events l dC dI ad cid a2 lx sg gm lg 0 kI (iv_k (by decide) : iv 0 0 0)) (cwV 0 htb (gd_V kw_1310 kw_1311 kw_1312 kw_2 kw_1651) rfl rfl rfl (by decide +kernel) ⟨Nat.le_of_ble_eq_true rfl, Nat.le_of_ble_eq_true rfl⟩) (iv_k (by decide) : iv 0 0 0) rfl hl.1 rfl (Nat.le_trans cs_n (by decide)) dL_law_650 ⟨(show 10000 + 3 * it + PHs gm + 1 ≤ 601024 from by have := PHs_le kI; omega), (show 400000 + 18 * it + 4 * PHs gm + 6 ≤ 7293034 from by have := PHs_le kI; omega)⟩ hK hP hD hS hA hG (fun _ _ h9 => h9) (fun v9 u H locs hw hP hD hS => ?_)
  obtain ⟨r9, rfl, rfl, hr9⟩ := hw
  have hKI2 : KI (it + 1) lx sg gm lg := KI_of (Ls := []) (Lg := []) (Ll := []) hKI kI KS_rf KS_rf KS_rf (by decide) (by decide) (by decide)
  have hph : PHs gm ≤ PHs gm := Nat.le_refl _
  have hP : va_P (dC, dI) vwCl (cW ad cid a2 lx sg gm lg ++ (mW h0 adm cidm sm gn ln ++ [(qo, oE cO f)])) H := hP
  have hD : va_D A (cW ad cid a2 lx sg gm lg ++ (mW h0 adm cidm sm gn ln ++ [(qo, oE cO f)])) := hD
  refine W.eq (g2 := F0 m 653 ls [.int r9]) rfl ?_
  refine lv_pop hx hb dL_law_653 (cat_i _) ?_
  refine lv_aload_n hx hb dL_law_654 rfl (lv_at hl 2 rfl) ?_
  refine lw_callM (w := cW ad cid a2 lx sg gm lg) (tw := cT cid) (r := [(qo, oE cO f)]) (tr := [(cO, .long)]) (rest := []) (as := []) ⟨hx, hb, hml, hown, htb⟩ (a_events l dC dI h0 adm cidm sm gn ln hRI.1) (cwV 0 htb (gd_V kw_1313 kw_1314 kw_1315 kw_5 kw_1652) rfl rfl rfl (by decide +kernel) ⟨Nat.le_of_ble_eq_true rfl, Nat.le_of_ble_eq_true rfl⟩) rfl hl.1 rfl (Nat.le_trans cs_n (by decide)) dL_law_655 ⟨(show 10000 + 3 * it + PHs gm ≤ 601024 from by have := PHs_le kI; omega), (show 400000 + 18 * it + 4 * PHs gm ≤ 7293034 from by have := PHs_le kI; omega)⟩ hK hP hD hS hA (fun r8 u8 H locs hw hP hD hS => ?_)
  obtain ⟨sm9, gn9, ln9, rfl, hI8, j1, j2, j3⟩ := hw
  have hRI2 : RI sm9 gn9 ln9 := RI_of hRI hI8 (PR_k hRI.2.1 (j2 6 (by decide))) j1 j2 j3 (by decide) (by decide) (by decide) (by decide) (by decide) (by decide) (by decide) (by decide) (by decide) (by decide)
  have hP : va_P (dC, dI) vwCl (cW ad cid a2 lx sg gm lg ++ (mW h0 adm cidm sm9 gn9 ln9 ++ [(qo, oE cO f)])) H := hP
  have hD : va_D A (cW ad cid a2 lx sg gm lg ++ (mW h0 adm cidm sm9 gn9 ln9 ++ [(qo, oE cO f)])) := hD
  refine lv_pop hx hb dL_law_658 (cat_i _) ?_
  refine lv_goto (tgt := 773) hx hb dL_law_659 (by decide) ?_
  have hREL2 : REL sg sm9 := (show sg 0 = sg 0 from rfl).trans (hREL.trans (show sm9 20 = sm 20 from j1 20 (by decide)).symm)
  refine W.widen (k := 10000 + 3 * (it + 1) + PHs gm) (n := 400000 + 18 * (it + 1) + 4 * PHs gm) (show 10000 + 3 * it + PHs gm ≤ _ from by omega) (show 400000 + 18 * it + 4 * PHs gm ≤ _ from by omega) ?_
  exact kont a2 lx sg gm lg sm9 gn9 ln9 f _ _ _ hKI2 hRI2 hREL2 hP hD hS (lv_sub hl [0, 1, 2, 3, 4] rfl)

set_option maxHeartbeats 4000000 in
set_option maxRecDepth 100000 in
theorem d_law12 {p : Program} {l : Launch} {e : Env} {s : State} {m : MethodId} {below : List Frame} {meth : Method} {c : Code} {b L : Nat} {xs : Nat → Int32} {dC : Nat → ClassId} {dI : Nat → Nat → Nat} {ad : Nat → Nat → Nat} {cid : Nat → ClassId} {h0 : Nat} {adm : Nat → Nat} {cidm : Nat → ClassId} {cO : ClassId} {qo : Nat} {A : Nat → Prop} (hl9 : l.stackTraces = false) (C0 : lw_At p s m meth c b L xs) (hL : L ≤ 4608) (hA : ∀ q : Nat, s.heap.size ≤ q → A q) (hbA : ¬ A b) (hG : CE ad A s) (hN9 : NE s) (hK : va_K (dC, dI) vwCl (cT cid ++ (mT cidm ++ [(cO, .long)])) s) (it : Nat) (i : Int32) (hit : it ≤ 511) (hi : i.toInt = 9 * (it : Int)) (hiL : i.toInt + 9 ≤ (L : Int)) (a2 : Nat → Nat) (lx : List Nat) (sg : Nat → Int32) (gm : Nat → Nat → Int32) (lg : Nat → Nat → Int64) (sm : Nat → Int32) (gn : Nat → Nat → Int32) (ln : Nat → Nat → Int64) (f : Nat → Int64) (H : Heap) (locs : List Loc) (ls : Array Slot) (hKI : KI it lx sg gm lg) (hRI : RI sm gn ln) (hREL : REL sg sm) (hP : va_P (dC, dI) vwCl (cW ad cid a2 lx sg gm lg ++ (mW h0 adm cidm sm gn ln ++ [(qo, oE cO f)])) H) (hD : va_D A (cW ad cid a2 lx sg gm lg ++ (mW h0 adm cidm sm gn ln ++ [(qo, oE cO f)]))) (hS : va_S A s.heap H locs) (hl : lv_has ls 7 [(4, .int i), (3, .ref qo), (2, .ref h0), (1, eV (ad 0) 0), (0, .ref b)]) (kont : ∀ (a2 : Nat → Nat) (lx : List Nat) (sg : Nat → Int32) (gm : Nat → Nat → Int32) (lg : Nat → Nat → Int64) (sm : Nat → Int32) (gn : Nat → Nat → Int32) (ln : Nat → Nat → Int64) (f : Nat → Int64) (H : Heap) (locs : List Loc) (ls : Array Slot), KI (it + 1) lx sg gm lg → RI sm gn ln → REL sg sm → va_P (dC, dI) vwCl (cW ad cid a2 lx sg gm lg ++ (mW h0 adm cidm sm gn ln ++ [(qo, oE cO f)])) H → va_D A (cW ad cid a2 lx sg gm lg ++ (mW h0 adm cidm sm gn ln ++ [(qo, oE cO f)])) → va_S A s.heap H locs → lv_has ls 7 [(4, .int i), (3, .ref qo), (2, .ref h0), (1, eV (ad 0) 0), (0, .ref b)] → W p l e room_1 s m #[Value.ref b] below meth c H locs (10000 + 3 * (it + 1) + PHs gm) (400000 + 18 * (it + 1) + 4 * PHs gm) (lw_Z below #[Value.ref b] s) (F0 m 773 ls [])) : W p l e room_1 s m #[Value.ref b] below meth c H locs (10000 + 3 * it + PHs gm) (400000 + 18 * it + 4 * PHs gm) (lw_Z below #[Value.ref b] s) (F0 m 662 ls []) := by
  obtain ⟨hx, hb, hr, hml, hown, hts, hX, hbl, hlocks, hgv⟩ := C0
  have hown : s.vm.findClass RL = some m.cls := hown
  have htb := fun (w : Cond) (h : w ∈ tb) => hts w (tb_in w h)
  have kI := hKI.1
  have hiv : iv 0 4599 i := ⟨by omega, by omega⟩
  refine ec_aload_n hx hb dL_law_662 rfl (lv_at hl 3 rfl) ?_
  refine lv_aload_n hx hb dL_law_663 rfl (lv_at hl 4 rfl) ?_
  refine lv_iload hx hb dL_law_664 (lv_at hl 0 rfl) ?_
  refine lv_iconst (v := 1) hx hb dL_law_666 (by decide) ?_
  refine lv_iadd hx hb dL_law_667 ?_
  refine lv_topi (fun z_1 ez_1 => ?_)
  have tz_1 : z_1.toInt = i.toInt + 1 := by rw [ez_1]; exact iv_addE hiv (iv_k (by decide) : iv 1 1 1) (by decide)
  refine va_sld hx hb hX hbl hbA hS (vp_in_iff.mpr ⟨by omega, by omega⟩) dL_law_668 ?_
  refine lv_topi (fun v_2 ev_2 => ?_)
  refine lv_aload_n hx hb dL_law_669 rfl (lv_at hl 4 rfl) ?_
  refine lv_iload hx hb dL_law_670 (lv_at hl 0 rfl) ?_
  refine lv_iconst (v := 2) hx hb dL_law_672 (by decide) ?_
  refine lv_iadd hx hb dL_law_673 ?_
  refine lv_topi (fun z_3 ez_3 => ?_)
  have tz_3 : z_3.toInt = i.toInt + 2 := by rw [ez_3]; exact iv_addE hiv (iv_k (by decide) : iv 2 2 2) (by decide)
  refine va_sld hx hb hX hbl hbA hS (vp_in_iff.mpr ⟨by omega, by omega⟩) dL_law_674 ?_
  refine lv_topi (fun v_4 ev_4 => ?_)
  refine lw_callT (r := (mW h0 adm cidm sm gn ln ++ [(qo, oE cO f)])) (tr := mT cidm ++ [(cO, .long)]) (rest := []) (as := [.int v_2, .int v_4]) ⟨hx, hb, hml, hown, htb⟩ (d_event l dC dI ad cid a2 lx sg gm lg 0 v_2 v_4 kI (iv_k (by decide) : iv 0 0 0)) (cwV 2 htb (gd_V kw_1316 kw_1317 kw_1318 kw_2 kw_1653) rfl rfl rfl (by decide +kernel) ⟨Nat.le_of_ble_eq_true rfl, Nat.le_of_ble_eq_true rfl⟩) (iv_k (by decide) : iv 0 0 0) rfl hl.1 rfl (Nat.le_trans cs_n (by decide)) dL_law_675 ⟨(show 10000 + 3 * it + PHs gm + 1 ≤ 601024 from by have := PHs_le kI; omega), (show 400000 + 18 * it + 4 * PHs gm + 6 ≤ 7293034 from by have := PHs_le kI; omega)⟩ hK hP hD hS hA hG (fun _ _ h9 => h9) (fun v9 u H locs hw hP hD hS => ?_)
  obtain ⟨r9, rfl, rfl⟩ := hw
  have hKI2 : KI (it + 1) lx sg gm lg := KI_of (Ls := []) (Lg := []) (Ll := []) hKI kI KS_rf KS_rf KS_rf (by decide) (by decide) (by decide)
  have hph : PHs gm ≤ PHs gm := Nat.le_refl _
  have hP : va_P (dC, dI) vwCl (cW ad cid a2 lx sg gm lg ++ (mW h0 adm cidm sm gn ln ++ [(qo, oE cO f)])) H := hP
  have hD : va_D A (cW ad cid a2 lx sg gm lg ++ (mW h0 adm cidm sm gn ln ++ [(qo, oE cO f)])) := hD
  refine W.eq (g2 := F0 m 678 ls [.int r9]) rfl ?_
  refine lv_pop hx hb dL_law_678 (cat_i _) ?_
  refine lv_aload_n hx hb dL_law_679 rfl (lv_at hl 2 rfl) ?_
  refine lv_aload_n hx hb dL_law_680 rfl (lv_at hl 4 rfl) ?_
  refine lv_iload hx hb dL_law_681 (lv_at hl 0 rfl) ?_
  refine lv_iconst (v := 1) hx hb dL_law_683 (by decide) ?_
  refine lv_iadd hx hb dL_law_684 ?_
  refine lv_topi (fun z_5 ez_5 => ?_)
  have tz_5 : z_5.toInt = i.toInt + 1 := by rw [ez_5]; exact iv_addE hiv (iv_k (by decide) : iv 1 1 1) (by decide)
  refine va_sld hx hb hX hbl hbA hS (vp_in_iff.mpr ⟨by omega, by omega⟩) dL_law_685 ?_
  refine W.eq (g2 := F0 m 686 ls [.int v_2, .ref h0]) (by rw [ev_2, show z_5 = z_1 from Int32.toInt_inj.mp (by omega)]) ?_
  refine lv_aload_n hx hb dL_law_686 rfl (lv_at hl 4 rfl) ?_
  refine lv_iload hx hb dL_law_687 (lv_at hl 0 rfl) ?_
  refine lv_iconst (v := 2) hx hb dL_law_689 (by decide) ?_
  refine lv_iadd hx hb dL_law_690 ?_
  refine lv_topi (fun z_6 ez_6 => ?_)
  have tz_6 : z_6.toInt = i.toInt + 2 := by rw [ez_6]; exact iv_addE hiv (iv_k (by decide) : iv 2 2 2) (by decide)
  refine va_sld hx hb hX hbl hbA hS (vp_in_iff.mpr ⟨by omega, by omega⟩) dL_law_691 ?_
  refine W.eq (g2 := F0 m 692 ls [.int v_4, .int v_2, .ref h0]) (by rw [ev_4, show z_6 = z_3 from Int32.toInt_inj.mp (by omega)]) ?_
  refine lw_callM (w := cW ad cid a2 lx sg gm lg) (tw := cT cid) (r := [(qo, oE cO f)]) (tr := [(cO, .long)]) (rest := []) (as := [.int v_2, .int v_4]) ⟨hx, hb, hml, hown, htb⟩ (a_event l dC dI h0 adm cidm sm gn ln v_2 v_4 hRI.1) (cwV 2 htb (gd_V kw_1322 kw_1323 kw_1324 kw_5 kw_1655) rfl rfl rfl (by decide +kernel) ⟨Nat.le_of_ble_eq_true rfl, Nat.le_of_ble_eq_true rfl⟩) rfl hl.1 rfl (Nat.le_trans cs_n (by decide)) dL_law_692 ⟨(show 10000 + 3 * it + PHs gm ≤ 601024 from by have := PHs_le kI; omega), (show 400000 + 18 * it + 4 * PHs gm ≤ 7293034 from by have := PHs_le kI; omega)⟩ hK hP hD hS hA (fun r8 u8 H locs hw hP hD hS => ?_)
  obtain ⟨sm9, gn9, ln9, rfl, hI8, j1, j2, j3⟩ := hw
  have hRI2 : RI sm9 gn9 ln9 := RI_of hRI hI8 (PR_k hRI.2.1 (j2 6 (by decide))) j1 j2 j3 (by decide) (by decide) (by decide) (by decide) (by decide) (by decide) (by decide) (by decide) (by decide) (by decide)
  have hP : va_P (dC, dI) vwCl (cW ad cid a2 lx sg gm lg ++ (mW h0 adm cidm sm9 gn9 ln9 ++ [(qo, oE cO f)])) H := hP
  have hD : va_D A (cW ad cid a2 lx sg gm lg ++ (mW h0 adm cidm sm9 gn9 ln9 ++ [(qo, oE cO f)])) := hD
  refine lv_pop hx hb dL_law_695 (cat_i _) ?_
  refine lv_goto (tgt := 773) hx hb dL_law_696 (by decide) ?_
  have hREL2 : REL sg sm9 := (show sg 0 = sg 0 from rfl).trans (hREL.trans (show sm9 20 = sm 20 from j1 20 (by decide)).symm)
  refine W.widen (k := 10000 + 3 * (it + 1) + PHs gm) (n := 400000 + 18 * (it + 1) + 4 * PHs gm) (show 10000 + 3 * it + PHs gm ≤ _ from by omega) (show 400000 + 18 * it + 4 * PHs gm ≤ _ from by omega) ?_
  exact kont a2 lx sg gm lg sm9 gn9 ln9 f _ _ _ hKI2 hRI2 hREL2 hP hD hS (lv_sub hl [0, 1, 2, 3, 4] rfl)

set_option maxHeartbeats 4000000 in
set_option maxRecDepth 100000 in
theorem d_law13 {p : Program} {l : Launch} {e : Env} {s : State} {m : MethodId} {below : List Frame} {meth : Method} {c : Code} {b L : Nat} {xs : Nat → Int32} {dC : Nat → ClassId} {dI : Nat → Nat → Nat} {ad : Nat → Nat → Nat} {cid : Nat → ClassId} {h0 : Nat} {adm : Nat → Nat} {cidm : Nat → ClassId} {cO : ClassId} {qo : Nat} {A : Nat → Prop} (hl9 : l.stackTraces = false) (C0 : lw_At p s m meth c b L xs) (hL : L ≤ 4608) (hA : ∀ q : Nat, s.heap.size ≤ q → A q) (hbA : ¬ A b) (hG : CE ad A s) (hN9 : NE s) (hK : va_K (dC, dI) vwCl (cT cid ++ (mT cidm ++ [(cO, .long)])) s) (it : Nat) (i : Int32) (hit : it ≤ 511) (hi : i.toInt = 9 * (it : Int)) (hiL : i.toInt + 9 ≤ (L : Int)) (a2 : Nat → Nat) (lx : List Nat) (sg : Nat → Int32) (gm : Nat → Nat → Int32) (lg : Nat → Nat → Int64) (sm : Nat → Int32) (gn : Nat → Nat → Int32) (ln : Nat → Nat → Int64) (f : Nat → Int64) (H : Heap) (locs : List Loc) (ls : Array Slot) (hKI : KI it lx sg gm lg) (hRI : RI sm gn ln) (hREL : REL sg sm) (hP : va_P (dC, dI) vwCl (cW ad cid a2 lx sg gm lg ++ (mW h0 adm cidm sm gn ln ++ [(qo, oE cO f)])) H) (hD : va_D A (cW ad cid a2 lx sg gm lg ++ (mW h0 adm cidm sm gn ln ++ [(qo, oE cO f)]))) (hS : va_S A s.heap H locs) (hl : lv_has ls 7 [(4, .int i), (3, .ref qo), (2, .ref h0), (1, eV (ad 0) 0), (0, .ref b)]) (kont : ∀ (a2 : Nat → Nat) (lx : List Nat) (sg : Nat → Int32) (gm : Nat → Nat → Int32) (lg : Nat → Nat → Int64) (sm : Nat → Int32) (gn : Nat → Nat → Int32) (ln : Nat → Nat → Int64) (f : Nat → Int64) (H : Heap) (locs : List Loc) (ls : Array Slot), KI (it + 1) lx sg gm lg → RI sm gn ln → REL sg sm → va_P (dC, dI) vwCl (cW ad cid a2 lx sg gm lg ++ (mW h0 adm cidm sm gn ln ++ [(qo, oE cO f)])) H → va_D A (cW ad cid a2 lx sg gm lg ++ (mW h0 adm cidm sm gn ln ++ [(qo, oE cO f)])) → va_S A s.heap H locs → lv_has ls 7 [(4, .int i), (3, .ref qo), (2, .ref h0), (1, eV (ad 0) 0), (0, .ref b)] → W p l e room_1 s m #[Value.ref b] below meth c H locs (10000 + 3 * (it + 1) + PHs gm) (400000 + 18 * (it + 1) + 4 * PHs gm) (lw_Z below #[Value.ref b] s) (F0 m 773 ls [])) : W p l e room_1 s m #[Value.ref b] below meth c H locs (10000 + 3 * it + PHs gm) (400000 + 18 * it + 4 * PHs gm) (lw_Z below #[Value.ref b] s) (F0 m 699 ls []) := by
  obtain ⟨hx, hb, hr, hml, hown, hts, hX, hbl, hlocks, hgv⟩ := C0
  have hown : s.vm.findClass RL = some m.cls := hown
  have htb := fun (w : Cond) (h : w ∈ tb) => hts w (tb_in w h)
  have kI := hKI.1
  have hiv : iv 0 4599 i := ⟨by omega, by omega⟩
  refine ec_aload_n hx hb dL_law_699 rfl (lv_at hl 3 rfl) ?_
  refine lv_aload_n hx hb dL_law_700 rfl (lv_at hl 4 rfl) ?_
  refine lv_iload hx hb dL_law_701 (lv_at hl 0 rfl) ?_
  refine lv_iconst (v := 1) hx hb dL_law_703 (by decide) ?_
  refine lv_iadd hx hb dL_law_704 ?_
  refine lv_topi (fun z_1 ez_1 => ?_)
  have tz_1 : z_1.toInt = i.toInt + 1 := by rw [ez_1]; exact iv_addE hiv (iv_k (by decide) : iv 1 1 1) (by decide)
  refine va_sld hx hb hX hbl hbA hS (vp_in_iff.mpr ⟨by omega, by omega⟩) dL_law_705 ?_
  refine lv_topi (fun v_2 ev_2 => ?_)
  refine lv_aload_n hx hb dL_law_706 rfl (lv_at hl 4 rfl) ?_
  refine lv_iload hx hb dL_law_707 (lv_at hl 0 rfl) ?_
  refine lv_iconst (v := 2) hx hb dL_law_709 (by decide) ?_
  refine lv_iadd hx hb dL_law_710 ?_
  refine lv_topi (fun z_3 ez_3 => ?_)
  have tz_3 : z_3.toInt = i.toInt + 2 := by rw [ez_3]; exact iv_addE hiv (iv_k (by decide) : iv 2 2 2) (by decide)
  refine va_sld hx hb hX hbl hbA hS (vp_in_iff.mpr ⟨by omega, by omega⟩) dL_law_711 ?_
  refine lv_topi (fun v_4 ev_4 => ?_)
  refine lw_callT (r := (mW h0 adm cidm sm gn ln ++ [(qo, oE cO f)])) (tr := mT cidm ++ [(cO, .long)]) (rest := []) (as := [.int v_2, .int v_4]) ⟨hx, hb, hml, hown, htb⟩ (d_object l dC dI ad cid a2 lx sg gm lg 0 v_2 v_4 kI (iv_k (by decide) : iv 0 0 0)) (cwV 2 htb (gd_V kw_1325 kw_1326 kw_1327 kw_2 kw_1656) rfl rfl rfl (by decide +kernel) ⟨Nat.le_of_ble_eq_true rfl, Nat.le_of_ble_eq_true rfl⟩) (iv_k (by decide) : iv 0 0 0) rfl hl.1 rfl (Nat.le_trans cs_n (by decide)) dL_law_712 ⟨(show 10000 + 3 * it + PHs gm + 1 ≤ 601024 from by have := PHs_le kI; omega), (show 400000 + 18 * it + 4 * PHs gm + 6 ≤ 7293034 from by have := PHs_le kI; omega)⟩ hK hP hD hS hA hG (fun _ _ h9 => h9) (fun v9 u H locs hw hP hD hS => ?_)
  obtain ⟨r9, rfl, rfl, hr9⟩ := hw
  have hKI2 : KI (it + 1) lx sg gm lg := KI_of (Ls := []) (Lg := []) (Ll := []) hKI kI KS_rf KS_rf KS_rf (by decide) (by decide) (by decide)
  have hph : PHs gm ≤ PHs gm := Nat.le_refl _
  have hP : va_P (dC, dI) vwCl (cW ad cid a2 lx sg gm lg ++ (mW h0 adm cidm sm gn ln ++ [(qo, oE cO f)])) H := hP
  have hD : va_D A (cW ad cid a2 lx sg gm lg ++ (mW h0 adm cidm sm gn ln ++ [(qo, oE cO f)])) := hD
  refine W.eq (g2 := F0 m 715 ls [.int r9]) rfl ?_
  refine lv_pop hx hb dL_law_715 (cat_i _) ?_
  refine lv_aload_n hx hb dL_law_716 rfl (lv_at hl 2 rfl) ?_
  refine lv_aload_n hx hb dL_law_717 rfl (lv_at hl 4 rfl) ?_
  refine lv_iload hx hb dL_law_718 (lv_at hl 0 rfl) ?_
  refine lv_iconst (v := 1) hx hb dL_law_720 (by decide) ?_
  refine lv_iadd hx hb dL_law_721 ?_
  refine lv_topi (fun z_5 ez_5 => ?_)
  have tz_5 : z_5.toInt = i.toInt + 1 := by rw [ez_5]; exact iv_addE hiv (iv_k (by decide) : iv 1 1 1) (by decide)
  refine va_sld hx hb hX hbl hbA hS (vp_in_iff.mpr ⟨by omega, by omega⟩) dL_law_722 ?_
  refine W.eq (g2 := F0 m 723 ls [.int v_2, .ref h0]) (by rw [ev_2, show z_5 = z_1 from Int32.toInt_inj.mp (by omega)]) ?_
  refine lv_aload_n hx hb dL_law_723 rfl (lv_at hl 4 rfl) ?_
  refine lv_iload hx hb dL_law_724 (lv_at hl 0 rfl) ?_
  refine lv_iconst (v := 2) hx hb dL_law_726 (by decide) ?_
  refine lv_iadd hx hb dL_law_727 ?_
  refine lv_topi (fun z_6 ez_6 => ?_)
  have tz_6 : z_6.toInt = i.toInt + 2 := by rw [ez_6]; exact iv_addE hiv (iv_k (by decide) : iv 2 2 2) (by decide)
  refine va_sld hx hb hX hbl hbA hS (vp_in_iff.mpr ⟨by omega, by omega⟩) dL_law_728 ?_
  refine W.eq (g2 := F0 m 729 ls [.int v_4, .int v_2, .ref h0]) (by rw [ev_4, show z_6 = z_3 from Int32.toInt_inj.mp (by omega)]) ?_
  refine lw_callM (w := cW ad cid a2 lx sg gm lg) (tw := cT cid) (r := [(qo, oE cO f)]) (tr := [(cO, .long)]) (rest := []) (as := [.int v_2, .int v_4]) ⟨hx, hb, hml, hown, htb⟩ (a_object l dC dI h0 adm cidm sm gn ln v_2 v_4 hRI.1) (cwV 2 htb (gd_V kw_1334 kw_1335 kw_1336 kw_5 kw_1659) rfl rfl rfl (by decide +kernel) ⟨Nat.le_of_ble_eq_true rfl, Nat.le_of_ble_eq_true rfl⟩) rfl hl.1 rfl (Nat.le_trans cs_n (by decide)) dL_law_729 ⟨(show 10000 + 3 * it + PHs gm ≤ 601024 from by have := PHs_le kI; omega), (show 400000 + 18 * it + 4 * PHs gm ≤ 7293034 from by have := PHs_le kI; omega)⟩ hK hP hD hS hA (fun r8 u8 H locs hw hP hD hS => ?_)
  obtain ⟨sm9, gn9, ln9, rfl, hI8, j1, j2, j3⟩ := hw
  have hRI2 : RI sm9 gn9 ln9 := RI_of hRI hI8 (PR_k hRI.2.1 (j2 6 (by decide))) j1 j2 j3 (by decide) (by decide) (by decide) (by decide) (by decide) (by decide) (by decide) (by decide) (by decide) (by decide)
  have hP : va_P (dC, dI) vwCl (cW ad cid a2 lx sg gm lg ++ (mW h0 adm cidm sm9 gn9 ln9 ++ [(qo, oE cO f)])) H := hP
  have hD : va_D A (cW ad cid a2 lx sg gm lg ++ (mW h0 adm cidm sm9 gn9 ln9 ++ [(qo, oE cO f)])) := hD
  refine lv_pop hx hb dL_law_732 (cat_i _) ?_
  refine lv_goto (tgt := 773) hx hb dL_law_733 (by decide) ?_
  have hREL2 : REL sg sm9 := (show sg 0 = sg 0 from rfl).trans (hREL.trans (show sm9 20 = sm 20 from j1 20 (by decide)).symm)
  refine W.widen (k := 10000 + 3 * (it + 1) + PHs gm) (n := 400000 + 18 * (it + 1) + 4 * PHs gm) (show 10000 + 3 * it + PHs gm ≤ _ from by omega) (show 400000 + 18 * it + 4 * PHs gm ≤ _ from by omega) ?_
  exact kont a2 lx sg gm lg sm9 gn9 ln9 f _ _ _ hKI2 hRI2 hREL2 hP hD hS (lv_sub hl [0, 1, 2, 3, 4] rfl)

set_option maxHeartbeats 4000000 in
set_option maxRecDepth 100000 in
theorem d_law14 {p : Program} {l : Launch} {e : Env} {s : State} {m : MethodId} {below : List Frame} {meth : Method} {c : Code} {b L : Nat} {xs : Nat → Int32} {dC : Nat → ClassId} {dI : Nat → Nat → Nat} {ad : Nat → Nat → Nat} {cid : Nat → ClassId} {h0 : Nat} {adm : Nat → Nat} {cidm : Nat → ClassId} {cO : ClassId} {qo : Nat} {A : Nat → Prop} (hl9 : l.stackTraces = false) (C0 : lw_At p s m meth c b L xs) (hL : L ≤ 4608) (hA : ∀ q : Nat, s.heap.size ≤ q → A q) (hbA : ¬ A b) (hG : CE ad A s) (hN9 : NE s) (hK : va_K (dC, dI) vwCl (cT cid ++ (mT cidm ++ [(cO, .long)])) s) (it : Nat) (i : Int32) (hit : it ≤ 511) (hi : i.toInt = 9 * (it : Int)) (hiL : i.toInt + 9 ≤ (L : Int)) (a2 : Nat → Nat) (lx : List Nat) (sg : Nat → Int32) (gm : Nat → Nat → Int32) (lg : Nat → Nat → Int64) (sm : Nat → Int32) (gn : Nat → Nat → Int32) (ln : Nat → Nat → Int64) (f : Nat → Int64) (H : Heap) (locs : List Loc) (ls : Array Slot) (hKI : KI it lx sg gm lg) (hRI : RI sm gn ln) (hREL : REL sg sm) (hP : va_P (dC, dI) vwCl (cW ad cid a2 lx sg gm lg ++ (mW h0 adm cidm sm gn ln ++ [(qo, oE cO f)])) H) (hD : va_D A (cW ad cid a2 lx sg gm lg ++ (mW h0 adm cidm sm gn ln ++ [(qo, oE cO f)]))) (hS : va_S A s.heap H locs) (hl : lv_has ls 7 [(4, .int i), (3, .ref qo), (2, .ref h0), (1, eV (ad 0) 0), (0, .ref b)]) (kont : ∀ (a2 : Nat → Nat) (lx : List Nat) (sg : Nat → Int32) (gm : Nat → Nat → Int32) (lg : Nat → Nat → Int64) (sm : Nat → Int32) (gn : Nat → Nat → Int32) (ln : Nat → Nat → Int64) (f : Nat → Int64) (H : Heap) (locs : List Loc) (ls : Array Slot), KI (it + 1) lx sg gm lg → RI sm gn ln → REL sg sm → va_P (dC, dI) vwCl (cW ad cid a2 lx sg gm lg ++ (mW h0 adm cidm sm gn ln ++ [(qo, oE cO f)])) H → va_D A (cW ad cid a2 lx sg gm lg ++ (mW h0 adm cidm sm gn ln ++ [(qo, oE cO f)])) → va_S A s.heap H locs → lv_has ls 7 [(4, .int i), (3, .ref qo), (2, .ref h0), (1, eV (ad 0) 0), (0, .ref b)] → W p l e room_1 s m #[Value.ref b] below meth c H locs (10000 + 3 * (it + 1) + PHs gm) (400000 + 18 * (it + 1) + 4 * PHs gm) (lw_Z below #[Value.ref b] s) (F0 m 773 ls [])) : W p l e room_1 s m #[Value.ref b] below meth c H locs (10000 + 3 * it + PHs gm) (400000 + 18 * it + 4 * PHs gm) (lw_Z below #[Value.ref b] s) (F0 m 736 ls []) := by
  obtain ⟨hx, hb, hr, hml, hown, hts, hX, hbl, hlocks, hgv⟩ := C0
  have hown : s.vm.findClass RL = some m.cls := hown
  have htb := fun (w : Cond) (h : w ∈ tb) => hts w (tb_in w h)
  have kI := hKI.1
  have hiv : iv 0 4599 i := ⟨by omega, by omega⟩
  refine ec_aload_n hx hb dL_law_736 rfl (lv_at hl 3 rfl) ?_
  refine lv_aload_n hx hb dL_law_737 rfl (lv_at hl 4 rfl) ?_
  refine lv_iload hx hb dL_law_738 (lv_at hl 0 rfl) ?_
  refine lv_iconst (v := 1) hx hb dL_law_740 (by decide) ?_
  refine lv_iadd hx hb dL_law_741 ?_
  refine lv_topi (fun z_1 ez_1 => ?_)
  have tz_1 : z_1.toInt = i.toInt + 1 := by rw [ez_1]; exact iv_addE hiv (iv_k (by decide) : iv 1 1 1) (by decide)
  refine va_sld hx hb hX hbl hbA hS (vp_in_iff.mpr ⟨by omega, by omega⟩) dL_law_742 ?_
  refine lv_topi (fun v_2 ev_2 => ?_)
  refine lv_aload_n hx hb dL_law_743 rfl (lv_at hl 4 rfl) ?_
  refine lv_iload hx hb dL_law_744 (lv_at hl 0 rfl) ?_
  refine lv_iconst (v := 2) hx hb dL_law_746 (by decide) ?_
  refine lv_iadd hx hb dL_law_747 ?_
  refine lv_topi (fun z_3 ez_3 => ?_)
  have tz_3 : z_3.toInt = i.toInt + 2 := by rw [ez_3]; exact iv_addE hiv (iv_k (by decide) : iv 2 2 2) (by decide)
  refine va_sld hx hb hX hbl hbA hS (vp_in_iff.mpr ⟨by omega, by omega⟩) dL_law_748 ?_
  refine lv_topi (fun v_4 ev_4 => ?_)
  refine lw_callT (r := (mW h0 adm cidm sm gn ln ++ [(qo, oE cO f)])) (tr := mT cidm ++ [(cO, .long)]) (rest := []) (as := [.int v_2, .int v_4]) ⟨hx, hb, hml, hown, htb⟩ (d_bean l dC dI ad cid a2 lx sg gm lg 0 v_2 v_4 kI (iv_k (by decide) : iv 0 0 0) hKI.2.2.2.1) (cwV 2 htb (gd_V kw_1337 kw_1338 kw_1339 kw_2 kw_1660) rfl rfl rfl (by decide +kernel) ⟨Nat.le_of_ble_eq_true rfl, Nat.le_of_ble_eq_true rfl⟩) (iv_k (by decide) : iv 0 0 0) rfl hl.1 rfl (Nat.le_trans cs_n (by decide)) dL_law_749 ⟨(show 10000 + 3 * it + PHs gm + 1 ≤ 601024 from by have := PHs_le kI; omega), (show 400000 + 18 * it + 4 * PHs gm + 6 ≤ 7293034 from by have := PHs_le kI; omega)⟩ hK hP hD hS hA hG (fun _ _ h9 => h9) (fun v9 u H locs hw hP hD hS => ?_)
  obtain ⟨r9, rfl, rfl, hr9⟩ := hw
  have hKI2 : KI (it + 1) lx sg gm lg := KI_of (Ls := []) (Lg := []) (Ll := []) hKI kI KS_rf KS_rf KS_rf (by decide) (by decide) (by decide)
  have hph : PHs gm ≤ PHs gm := Nat.le_refl _
  have hP : va_P (dC, dI) vwCl (cW ad cid a2 lx sg gm lg ++ (mW h0 adm cidm sm gn ln ++ [(qo, oE cO f)])) H := hP
  have hD : va_D A (cW ad cid a2 lx sg gm lg ++ (mW h0 adm cidm sm gn ln ++ [(qo, oE cO f)])) := hD
  refine W.eq (g2 := F0 m 752 ls [.int r9]) rfl ?_
  refine lv_pop hx hb dL_law_752 (cat_i _) ?_
  refine lv_aload_n hx hb dL_law_753 rfl (lv_at hl 2 rfl) ?_
  refine lv_aload_n hx hb dL_law_754 rfl (lv_at hl 4 rfl) ?_
  refine lv_iload hx hb dL_law_755 (lv_at hl 0 rfl) ?_
  refine lv_iconst (v := 1) hx hb dL_law_757 (by decide) ?_
  refine lv_iadd hx hb dL_law_758 ?_
  refine lv_topi (fun z_5 ez_5 => ?_)
  have tz_5 : z_5.toInt = i.toInt + 1 := by rw [ez_5]; exact iv_addE hiv (iv_k (by decide) : iv 1 1 1) (by decide)
  refine va_sld hx hb hX hbl hbA hS (vp_in_iff.mpr ⟨by omega, by omega⟩) dL_law_759 ?_
  refine W.eq (g2 := F0 m 760 ls [.int v_2, .ref h0]) (by rw [ev_2, show z_5 = z_1 from Int32.toInt_inj.mp (by omega)]) ?_
  refine lv_aload_n hx hb dL_law_760 rfl (lv_at hl 4 rfl) ?_
  refine lv_iload hx hb dL_law_761 (lv_at hl 0 rfl) ?_
  refine lv_iconst (v := 2) hx hb dL_law_763 (by decide) ?_
  refine lv_iadd hx hb dL_law_764 ?_
  refine lv_topi (fun z_6 ez_6 => ?_)
  have tz_6 : z_6.toInt = i.toInt + 2 := by rw [ez_6]; exact iv_addE hiv (iv_k (by decide) : iv 2 2 2) (by decide)
  refine va_sld hx hb hX hbl hbA hS (vp_in_iff.mpr ⟨by omega, by omega⟩) dL_law_765 ?_
  refine W.eq (g2 := F0 m 766 ls [.int v_4, .int v_2, .ref h0]) (by rw [ev_4, show z_6 = z_3 from Int32.toInt_inj.mp (by omega)]) ?_
  refine lw_callM (w := cW ad cid a2 lx sg gm lg) (tw := cT cid) (r := [(qo, oE cO f)]) (tr := [(cO, .long)]) (rest := []) (as := [.int v_2, .int v_4]) ⟨hx, hb, hml, hown, htb⟩ (f_bean l dC dI h0 adm cidm sm gn ln v_2 v_4 hRI.1 hRI.2.2.1 hRI.2.1 hRI.2.2.2.1 hRI.2.2.2.2) (cwV 2 htb (gd_V kw_1345 kw_1346 kw_1347 kw_5 kw_1662) rfl rfl rfl (by decide +kernel) ⟨Nat.le_of_ble_eq_true rfl, Nat.le_of_ble_eq_true rfl⟩) rfl hl.1 rfl (Nat.le_trans cs_n (by decide)) dL_law_766 ⟨(show 10000 + 3 * it + PHs gm ≤ 601024 from by have := PHs_le kI; omega), (show 400000 + 18 * it + 4 * PHs gm ≤ 7293034 from by have := PHs_le kI; omega)⟩ hK hP hD hS hA (fun r8 u8 H locs hw hP hD hS => ?_)
  obtain ⟨sm9, gn9, ln9, rfl, hI8, j1, j2, j3, gG, gM⟩ := hw
  have hRI2 : RI sm9 gn9 ln9 := RI_mk hRI hI8 gG gM j1 j2 j3 (by decide) (by decide) (by decide) (by decide) (by decide) (by decide)
  have hP : va_P (dC, dI) vwCl (cW ad cid a2 lx sg gm lg ++ (mW h0 adm cidm sm9 gn9 ln9 ++ [(qo, oE cO f)])) H := hP
  have hD : va_D A (cW ad cid a2 lx sg gm lg ++ (mW h0 adm cidm sm9 gn9 ln9 ++ [(qo, oE cO f)])) := hD
  refine lv_pop hx hb dL_law_769 (cat_i _) ?_
  refine lv_goto (tgt := 773) hx hb dL_law_770 (by decide) ?_
  have hREL2 : REL sg sm9 := (show sg 0 = sg 0 from rfl).trans (hREL.trans (show sm9 20 = sm 20 from j1 20 (by decide)).symm)
  refine W.widen (k := 10000 + 3 * (it + 1) + PHs gm) (n := 400000 + 18 * (it + 1) + 4 * PHs gm) (show 10000 + 3 * it + PHs gm ≤ _ from by omega) (show 400000 + 18 * it + 4 * PHs gm ≤ _ from by omega) ?_
  exact kont a2 lx sg gm lg sm9 gn9 ln9 f _ _ _ hKI2 hRI2 hREL2 hP hD hS (lv_sub hl [0, 1, 2, 3, 4] rfl)
