/-- an element that stands in an arg or a set is a thing to be held -/
def HOK (gm : Nat → Nat → Int32) (j : Nat) : Prop := 0 ≤ (gm 15 j).toInt → ((gm 14 (gm 15 j).toNatClampNeg).toInt = 3 ∨ (gm 14 (gm 15 j).toNatClampNeg).toInt = 4) → (gm 14 j).toInt = 2 ∨ (6 ≤ (gm 14 j).toInt ∧ (gm 14 j).toInt ≤ 9)
theorem HOK_g {gm : Nat → Nat → Int32} {j : Nat} (h : (gm 14 j).toInt = 2 ∨ (6 ≤ (gm 14 j).toInt ∧ (gm 14 j).toInt ≤ 9)) : HOK gm j := fun _ _ => h
theorem HOK_o {gm : Nat → Nat → Int32} {j : Nat} {a : Int32} (h : ISI gm j a) (ha : ¬ a.toInt = 3 ∧ ¬ a.toInt = 4) : HOK gm j := fun _ q => by
  rw [h.2] at q; exact absurd q (by omega)
theorem HOK_n {gm : Nat → Nat → Int32} {j : Nat} (h : (gm 15 j).toInt < 0) : HOK gm j := fun q => absurd q (by omega)
/-- an element is right by itself -/
def SOK (gm : Nat → Nat → Int32) (lg : Nat → Nat → Int64) (j : Nat) : Prop := 0 ≤ (gm 14 j).toInt ∧ HOK gm j ∧ ((gm 14 j).toInt = 4 → LVP gm lg j (wKy.getD 21 0)) ∧ ((gm 14 j).toInt = 2 → ¬ ISI gm j 0 → ¬ HSK gm lg j (wKy.getD 10 0))

set_option maxHeartbeats 4000000 in
set_option maxRecDepth 100000 in
theorem d_textIs (l : Launch) (dC : Nat → ClassId) (dI : Nat → Nat → Nat) (ad : Nat → Nat → Nat) (cid : Nat → ClassId) (a2 : Nat → Nat) (lx : List Nat) (sg : Nat → Int32) (gm : Nat → Nat → Int32) (lg : Nat → Nat → Int64) (x : Int32) (tx : Int32) (hI : CI sg gm) (hvx : iv 0 79 x) (hvtx : iv 0 6 tx) : CMt dC dI ad cid a2 lx l yX3_textIs wm_X3_textIs ({ frames := 4, cells := 1, slots := 6, locals := 90 }) [eV (ad 9) x, eV (ad 37) tx] sg gm lg (fun v u => ∃ r : Int32, v = some (.int r) ∧ u = (sg, gm, lg) ∧ (iv 0 1 r)) (fun _ _ => False) := by
  intro sz
  refine vx_ofW (cc := cX3_textIs) (maxL := 3) (ret := (some .boolean)) (by decide) rfl ?_
  intro p e s m args below meth c s₁ B hml hxt hv
  obtain ⟨rfl, hsz, hP, hK, hD0, hG⟩ := hv
  have hx := B.exec
  have hb := B.bytes
  have hr := B.returns
  have hts := atoms_spec (ws := wm_X3_textIs) B.pre
  have htb := fun (w : Cond) (h : w ∈ tb) => hts w (List.mem_cons_of_mem _ h)
  have hown : s.vm.findClass RX3 = some m.cls := findClass_of_methodNamed B.named
  have hlocks := B.notSynchronized
  subst hsz
  have hD := hD0.self (sz := s.heap.size)
  generalize hAe : va_A (cW ad cid a2 lx sg gm lg) s.heap.size = A at hD hG ⊢
  have hA : ∀ q : Nat, s.heap.size ≤ q → A q := fun q h => by rw [← hAe]; exact Or.inr h
  have hS : va_S A s.heap s.heap [] := va_S.rf
  have hl := lv_entry ([eV (ad 9) x, eV (ad 37) tx]) (n := 3) (by rw [show (lg_sl ([eV (ad 9) x, eV (ad 37) tx])).length = 2 from by simp [lg_sl, eV_cat, cat_i, cat_l]]; exact Nat.le_of_ble_eq_true rfl)
  rw [lg_entry_eq]
  generalize (lg_sl ([eV (ad 9) x, eV (ad 37) tx]) ++ List.replicate (3 - (lg_sl ([eV (ad 9) x, eV (ad 37) tx])).length) Slot.unset).toArray = ls at hl ⊢
  have hl : lv_has ls 3 [(0, eV (ad 9) x), (1, eV (ad 37) tx)] := by simp [lv_args, eV_cat, cat_i, cat_l] at hl; exact hl
  have hj15 : ∀ (n : Nat) (x2_15 : Int32) (_ : (24 - x2_15.toInt).toNat = n) (_ : iv 0 24 x2_15) (_ : iv 0 79 x) (_ : iv 0 6 tx) (_ : (gm 11 x.toNatClampNeg).toInt = ((sByt.getD tx.toNatClampNeg []).length : Int)) (H : Heap) (locs : List Loc) (ls : Array Slot), va_P (dC, dI) vwCl (cW ad cid a2 lx sg gm lg) H → va_D A (cW ad cid a2 lx sg gm lg) → va_S A s.heap H locs → lv_has ls 3 [(2, .int x2_15), (0, eV (ad 9) x), (1, eV (ad 37) tx)] → W p l e (headSpec wm_X3_textIs ({ frames := 4, cells := 1, slots := 6, locals := 90 })).room s m ([eV (ad 9) x, eV (ad 37) tx] : List Value).toArray below meth c H locs 0 0 (vx_MQ below (cQx dC dI ad cid a2 lx (fun v u => ∃ r : Int32, v = some (.int r) ∧ u = (sg, gm, lg) ∧ (iv 0 1 r)) A) (cX dC dI ad cid a2 lx (fun _ _ => False) A) ([eV (ad 9) x, eV (ad 37) tx] : List Value).toArray s 1 6 A) (F0 m 15 ls []) := by
    intro n
    induction n using Nat.strongRecOn with
    | ind n ih15 =>
      intro x2_15 hn15 hx2_15 hsx0_15 hsx1_15 hsl H locs ls hP hD hS hl
      refine lv_iload_n hx hb dX3_textIs_15 rfl (lv_at hl 0 rfl) ?_
      refine ec_aload_n hx hb dX3_textIs_16 rfl (lv_at hl 1 rfl) ?_
      refine cr_get (t := 9) (j := 1) (C := RX3) (T := TX3) (N := 21) (v := .int (gm 11 x.toNatClampNeg)) hx hb htb inX3 hown hK hP hsx0_15 (by decide) (by decide) (by decide) rfl (by decide) (htb _ kw_381) rfl dX3_textIs_17 ?_
      obtain ⟨z_1, ez_1⟩ : ∃ z : Int32, z = (gm 11 x.toNatClampNeg) := ⟨_, rfl⟩
      refine W.eq (g2 := F0 m 20 ls [.int z_1, .int x2_15]) (by rw [ez_1]) ?_
      have hz_1 : iv 0 24 z_1 := iv_of ez_1 (CI_a hI 11 hsx0_15 (by decide))
      refine lv_icmp_ge (tgt := 45) hx hb dX3_textIs_20 (by decide) (fun c_2 => ?_) (fun c_2 => ?_)
      · have d_3 : (z_1 : Int32).toInt ≤ (x2_15 : Int32).toInt := Int32.le_iff_toInt_le.mp c_2
        refine lv_iconst (v := 1) hx hb dX3_textIs_45 (by decide) ?_
        exact W.nb (fun hN => W.widen (k := 1) (n := 6) (by decide) (by decide) (vx_ret (W.zret (v := 1) hx hb hr (iv_nb (iv_w (iv_k (by decide) : iv 1 1 1) (by decide))) (fun t ht hW => ⟨⟨some (.int 1), (sg, gm, lg), rfl, ⟨1, rfl, rfl, (iv_w (iv_k (by decide) : iv 1 1 1) (by decide))⟩, by rw [ht]; exact hP, va_K.moved hW.alike hK, hD⟩, hS.F ht, by rw [ht]; exact hN⟩) hS.2.2 dX3_textIs_46)))
      · have d_4 : (x2_15 : Int32).toInt < (z_1 : Int32).toInt := Int32.lt_iff_toInt_lt.mp (i32_lt c_2)
        have h_5 : iv 0 23 x2_15 := iv_ltL (i32_lt c_2) hx2_15 hz_1 (by decide)
        have h_6 : iv 1 24 z_1 := iv_ltR (i32_lt c_2) hx2_15 hz_1 (by decide)
        refine ec_aload_n hx hb dX3_textIs_23 rfl (lv_at hl 1 rfl) ?_
        refine cr_get (t := 9) (j := 0) (C := RX3) (T := TX3) (N := 21) (v := eV (ad 31) x) hx hb htb inX3 hown hK hP hsx0_15 (by decide) (by decide) (by decide) rfl (by decide) (htb _ kw_74) (cV_c rfl (hsx0_15).1 (by rw [show cMu 9 0 = 1 from rfl, Nat.one_mul]; rfl)) dX3_textIs_24 ?_
        refine lv_iload_n hx hb dX3_textIs_27 rfl (lv_at hl 0 rfl) ?_
        refine cr_cald (t := 31) (z := (gm 56 (24 * x.toNatClampNeg + (x2_15 : Int32).toNatClampNeg))) hx hb hK hP hsx0_15 (by decide) (by decide) (by decide) rfl rfl (show vp_in x2_15 (cLen 31) from (show vp_in x2_15 24 from (iv_in h_5 (by decide)))) (cAi_w rfl (by decide) rfl (vin_lt (show vp_in x2_15 (cLen 31) from (show vp_in x2_15 24 from (iv_in h_5 (by decide)))))) dX3_textIs_28 ?_
        obtain ⟨z_7, ez_7⟩ : ∃ z : Int32, z = (gm 56 (24 * x.toNatClampNeg + (x2_15 : Int32).toNatClampNeg)) := ⟨_, rfl⟩
        refine W.eq (g2 := F0 m 29 ls [.int z_7]) (by rw [ez_7]) ?_
        have hz_7 : iv 0 65535 z_7 := iv_of ez_7 (CI_n hI 56 (show _ < crLen 56 from vin_w (show vp_in x2_15 (cLen 31) from (show vp_in x2_15 24 from (iv_in h_5 (by decide)))) (hsx0_15) (by decide)))
        refine ec_aload_n hx hb dX3_textIs_29 rfl (lv_at hl 2 rfl) ?_
        refine lv_iload_n hx hb dX3_textIs_30 rfl (lv_at hl 0 rfl) ?_
        have := congrArg Int32.toInt ez_1
        refine cw_schr ⟨hx, hb, hml, hown, htb⟩ kw_707 hsx1_15 (h_5).1 (by rw [← hsl]; have := i32_0; have := i32_1; have := i32_2; have := i32_m1; have := (hsx0_15).1; have := (hsx0_15).2; have := (hsx1_15).1; have := (hsx1_15).2; have := (h_5).1; have := (h_5).2; have := (h_6).1; have := (h_6).2; have := (hz_7).1; have := (hz_7).2; omega) hl.1 (Nat.le_trans (cs_c (cat_i _) cs_n) (by decide)) dX3_textIs_31 ⟨Nat.le_of_ble_eq_true rfl, Nat.le_of_ble_eq_true rfl⟩ ⟨Nat.le_of_ble_eq_true rfl, Nat.le_of_ble_eq_true rfl⟩ hP hS hA hG (fun r_8 H locs hr_8 hP hS => ?_)
        refine lv_icmp_eq (tgt := 39) hx hb dX3_textIs_34 (by decide) (fun c_9 => ?_) (fun c_9 => ?_)
        · have d_10 : (z_7 : Int32).toInt = (r_8 : Int32).toInt := congrArg Int32.toInt c_9
          obtain ⟨z_11, ez_11⟩ : ∃ z : Int32, z = x2_15 + 1 := ⟨_, rfl⟩
          have hz_11 : iv 1 24 z_11 := iv_of ez_11 (iv_add h_5 (iv_k (by decide) : iv 1 1 1) (by decide))
          have tz_11 : z_11.toInt = x2_15.toInt + 1 := by rw [ez_11]; exact iv_addE h_5 (iv_k (by decide) : iv 1 1 1) (by decide)
          refine lv_iinc (v := z_11) (lv' := [(2, .int z_11), (0, eV (ad 9) x), (1, eV (ad 37) tx)]) hx hb dX3_textIs_39 hl (k := 0) rfl ez_11.symm (by decide) (by simp [List.filter, eV_cat, cat_i, cat_l]) (fun ls hl => ?_)
          refine lv_goto (tgt := 15) hx hb dX3_textIs_42 (by decide) ?_
          exact ih15 _ (by rw [← hn15]; exact (iv_meas tz_11 h_5 (by decide))) z_11 rfl (iv_w hz_11 (by decide)) hsx0_15 hsx1_15 (hsl) _ _ _ hP hD hS (lv_sub hl [0, 1, 2] rfl)
        · refine lv_iconst (v := 0) hx hb dX3_textIs_37 (by decide) ?_
          exact W.nb (fun hN => W.widen (k := 1) (n := 6) (by decide) (by decide) (vx_ret (W.zret (v := 0) hx hb hr (iv_nb (iv_w (iv_k (by decide) : iv 0 0 0) (by decide))) (fun t ht hW => ⟨⟨some (.int 0), (sg, gm, lg), rfl, ⟨0, rfl, rfl, (iv_w (iv_k (by decide) : iv 0 0 0) (by decide))⟩, by rw [ht]; exact hP, va_K.moved hW.alike hK, hD⟩, hS.F ht, by rw [ht]; exact hN⟩) hS.2.2 dX3_textIs_38)))
  refine ec_aload_n hx hb dX3_textIs_0 rfl (lv_at hl 0 rfl) ?_
  refine cr_get (t := 9) (j := 1) (C := RX3) (T := TX3) (N := 21) (v := .int (gm 11 x.toNatClampNeg)) hx hb htb inX3 hown hK hP hvx (by decide) (by decide) (by decide) rfl (by decide) (htb _ kw_381) rfl dX3_textIs_1 ?_
  obtain ⟨z_12, ez_12⟩ : ∃ z : Int32, z = (gm 11 x.toNatClampNeg) := ⟨_, rfl⟩
  refine W.eq (g2 := F0 m 4 ls [.int z_12]) (by rw [ez_12]) ?_
  have hz_12 : iv 0 24 z_12 := iv_of ez_12 (CI_a hI 11 hvx (by decide))
  refine ec_aload_n hx hb dX3_textIs_4 rfl (lv_at hl 1 rfl) ?_
  refine cw_slen ⟨hx, hb, hml, hown, htb⟩ kw_706 hvtx hl.1 (Nat.le_trans (cs_c (cat_i _) cs_n) (by decide)) dX3_textIs_5 ⟨Nat.le_of_ble_eq_true rfl, Nat.le_of_ble_eq_true rfl⟩ ⟨Nat.le_of_ble_eq_true rfl, Nat.le_of_ble_eq_true rfl⟩ hP hS hA hG (fun H locs hP hS => ?_)
  refine lv_topi (fun z_13 ez_13 => ?_)
  obtain ⟨lz_13, hz_13⟩ := slen_iv hvtx ez_13
  refine lv_icmp_eq (tgt := 13) hx hb dX3_textIs_8 (by decide) (fun c_14 => ?_) (fun c_14 => ?_)
  · have d_15 : (z_12 : Int32).toInt = (z_13 : Int32).toInt := congrArg Int32.toInt c_14
    have h_16 : iv 2 5 z_12 := iv_eq c_14 hz_12 hz_13 (by decide)
    refine lv_iconst (v := 0) hx hb dX3_textIs_13 (by decide) ?_
    refine lv_istore_n (i := 2) (lv' := [(2, .int 0), (0, eV (ad 9) x), (1, eV (ad 37) tx)]) hx hb dX3_textIs_14 rfl hl (by decide) (by simp [List.filter, eV_cat, cat_i, cat_l]) (fun ls hl => ?_)
    exact hj15 _ 0 rfl (iv_w (iv_k (by decide) : iv 0 0 0) (by decide)) hvx hvtx ((by rw [← ez_12]; have := lz_13; have := i32_0; have := i32_1; have := i32_2; have := i32_m1; have := (hvx).1; have := (hvx).2; have := (hvtx).1; have := (hvtx).2; have := (h_16).1; have := (h_16).2; have := (hz_13).1; have := (hz_13).2; omega)) _ _ _ hP hD hS (lv_sub hl [0, 1, 2] rfl)
  · refine lv_iconst (v := 0) hx hb dX3_textIs_11 (by decide) ?_
    exact W.nb (fun hN => W.widen (k := 1) (n := 6) (by decide) (by decide) (vx_ret (W.zret (v := 0) hx hb hr (iv_nb (iv_w (iv_k (by decide) : iv 0 0 0) (by decide))) (fun t ht hW => ⟨⟨some (.int 0), (sg, gm, lg), rfl, ⟨0, rfl, rfl, (iv_w (iv_k (by decide) : iv 0 0 0) (by decide))⟩, by rw [ht]; exact hP, va_K.moved hW.alike hK, hD⟩, hS.F ht, by rw [ht]; exact hN⟩) hS.2.2 dX3_textIs_12)))

set_option maxHeartbeats 4000000 in
set_option maxRecDepth 100000 in
theorem d_textAsNumber (l : Launch) (dC : Nat → ClassId) (dI : Nat → Nat → Nat) (ad : Nat → Nat → Nat) (cid : Nat → ClassId) (a2 : Nat → Nat) (lx : List Nat) (sg : Nat → Int32) (gm : Nat → Nat → Int32) (lg : Nat → Nat → Int64) (x : Int32) (hI : CI sg gm) (hvx : iv 0 79 x) : CMt dC dI ad cid a2 lx l yX3_textAsNumber wm_X3_textAsNumber ({ frames := 0, cells := 1, slots := 6, locals := 0 }) [eV (ad 9) x] sg gm lg (fun v u => ∃ r : Int64, v = some (.long r) ∧ u = (sg, gm, lg)) (fun _ _ => False) := by
  intro sz
  refine vx_ofW (cc := cX3_textAsNumber) (maxL := 7) (ret := (some .long)) (by decide) rfl ?_
  intro p e s m args below meth c s₁ B hml hxt hv
  obtain ⟨rfl, hsz, hP, hK, hD0, hG⟩ := hv
  have hx := B.exec
  have hb := B.bytes
  have hr := B.returns
  have hts := atoms_spec (ws := wm_X3_textAsNumber) B.pre
  have htb := fun (w : Cond) (h : w ∈ tb) => hts w (List.mem_cons_of_mem _ h)
  have hown : s.vm.findClass RX3 = some m.cls := findClass_of_methodNamed B.named
  have hlocks := B.notSynchronized
  subst hsz
  have hD := hD0.self (sz := s.heap.size)
  generalize hAe : va_A (cW ad cid a2 lx sg gm lg) s.heap.size = A at hD hG ⊢
  have hA : ∀ q : Nat, s.heap.size ≤ q → A q := fun q h => by rw [← hAe]; exact Or.inr h
  have hS : va_S A s.heap s.heap [] := va_S.rf
  have hl := lv_entry ([eV (ad 9) x]) (n := 7) (by rw [show (lg_sl ([eV (ad 9) x])).length = 1 from by simp [lg_sl, eV_cat, cat_i, cat_l]]; exact Nat.le_of_ble_eq_true rfl)
  rw [lg_entry_eq]
  generalize (lg_sl ([eV (ad 9) x]) ++ List.replicate (7 - (lg_sl ([eV (ad 9) x])).length) Slot.unset).toArray = ls at hl ⊢
  have hl : lv_has ls 7 [(0, eV (ad 9) x)] := by simp [lv_args, eV_cat, cat_i, cat_l] at hl; exact hl
  have hj42 : ∀ (x2_42 : Int32) (x1_42 : Int32) (_ : iv (-1) 24 x2_42) (_ : iv 0 1 x1_42) (_ : iv 0 79 x) (H : Heap) (locs : List Loc) (ls : Array Slot), va_P (dC, dI) vwCl (cW ad cid a2 lx sg gm lg) H → va_D A (cW ad cid a2 lx sg gm lg) → va_S A s.heap H locs → lv_has ls 7 [(2, .int x2_42), (1, .int x1_42), (0, eV (ad 9) x)] → W p l e (headSpec wm_X3_textAsNumber ({ frames := 0, cells := 1, slots := 6, locals := 0 })).room s m ([eV (ad 9) x] : List Value).toArray below meth c H locs 0 0 (vx_MQ below (cQx dC dI ad cid a2 lx (fun v u => ∃ r : Int64, v = some (.long r) ∧ u = (sg, gm, lg)) A) (cX dC dI ad cid a2 lx (fun _ _ => False) A) ([eV (ad 9) x] : List Value).toArray s 1 6 A) (F0 m 42 ls []) := by
    intro x2_42 x1_42 hx2_42 hx1_42 hsx0_42 H locs ls hP hD hS hl
    refine lv_ldc2 (own := RX3) (v := 1099511627776) hx hb hown (htb _ kw_396) dX3_textAsNumber_42 ?_
    exact W.nb (fun hN => W.widen (k := 1) (n := 6) (by decide) (by decide) (vx_ret (W.lret (v := 1099511627776) hx hb hr (fun t ht hW => ⟨⟨some (.long 1099511627776), (sg, gm, lg), rfl, ⟨1099511627776, rfl, rfl⟩, by rw [ht]; exact hP, va_K.moved hW.alike hK, hD⟩, hS.F ht, by rw [ht]; exact hN⟩) hS.2.2 dX3_textAsNumber_45)))
  have hj143 : ∀ (x5_143 : Int64) (x3_143 : Int64) (x2_143 : Int32) (x1_143 : Int32) (y0_143 : Int64) (_ : iv 1 10 x2_143) (_ : iv 0 1 x1_143) (_ : iv 0 79 x) (H : Heap) (locs : List Loc) (ls : Array Slot), va_P (dC, dI) vwCl (cW ad cid a2 lx sg gm lg) H → va_D A (cW ad cid a2 lx sg gm lg) → va_S A s.heap H locs → lv_has ls 7 [(5, .long x5_143), (3, .long x3_143), (2, .int x2_143), (1, .int x1_143), (0, eV (ad 9) x)] → W p l e (headSpec wm_X3_textAsNumber ({ frames := 0, cells := 1, slots := 6, locals := 0 })).room s m ([eV (ad 9) x] : List Value).toArray below meth c H locs 0 0 (vx_MQ below (cQx dC dI ad cid a2 lx (fun v u => ∃ r : Int64, v = some (.long r) ∧ u = (sg, gm, lg)) A) (cX dC dI ad cid a2 lx (fun _ _ => False) A) ([eV (ad 9) x] : List Value).toArray s 1 6 A) (F0 m 143 ls [.long y0_143]) := by
    intro x5_143 x3_143 x2_143 x1_143 y0_143 hx2_143 hx1_143 hsx0_143 H locs ls hP hD hS hl
    exact W.nb (fun hN => W.widen (k := 1) (n := 6) (by decide) (by decide) (vx_ret (W.lret (v := y0_143) hx hb hr (fun t ht hW => ⟨⟨some (.long y0_143), (sg, gm, lg), rfl, ⟨y0_143, rfl, rfl⟩, by rw [ht]; exact hP, va_K.moved hW.alike hK, hD⟩, hS.F ht, by rw [ht]; exact hN⟩) hS.2.2 dX3_textAsNumber_143)))
  have hj123 : ∀ (x5_123 : Int32) (x3_123 : Int64) (x2_123 : Int32) (x1_123 : Int32) (y0_123 : Int64) (_ : iv 0 24 x5_123) (_ : iv 1 10 x2_123) (_ : iv 0 1 x1_123) (_ : iv 0 79 x) (H : Heap) (locs : List Loc) (ls : Array Slot), va_P (dC, dI) vwCl (cW ad cid a2 lx sg gm lg) H → va_D A (cW ad cid a2 lx sg gm lg) → va_S A s.heap H locs → lv_has ls 7 [(5, .int x5_123), (3, .long x3_123), (2, .int x2_123), (1, .int x1_123), (0, eV (ad 9) x)] → W p l e (headSpec wm_X3_textAsNumber ({ frames := 0, cells := 1, slots := 6, locals := 0 })).room s m ([eV (ad 9) x] : List Value).toArray below meth c H locs 0 0 (vx_MQ below (cQx dC dI ad cid a2 lx (fun v u => ∃ r : Int64, v = some (.long r) ∧ u = (sg, gm, lg)) A) (cX dC dI ad cid a2 lx (fun _ _ => False) A) ([eV (ad 9) x] : List Value).toArray s 1 6 A) (F0 m 123 ls [.long y0_123]) := by
    intro x5_123 x3_123 x2_123 x1_123 y0_123 hx5_123 hx2_123 hx1_123 hsx0_123 H locs ls hP hD hS hl
    refine lv_lstore (i := 5) (lv' := [(5, .long y0_123), (3, .long x3_123), (2, .int x2_123), (1, .int x1_123), (0, eV (ad 9) x)]) hx hb dX3_textAsNumber_123 hl (by decide) rfl (fun ls hl => ?_)
    refine lv_lload hx hb dX3_textAsNumber_125 (lv_at hl 0 rfl) ?_
    refine lv_lload hx hb dX3_textAsNumber_127 (lv_at hl 0 rfl) ?_
    refine lv_l2i (v := (y0_123).toInt32) hx hb dX3_textAsNumber_129 rfl ?_
    refine lv_topi (fun z_1 ez_1 => ?_)
    refine lv_i2l (v := (z_1 : Int32).toInt64) hx hb dX3_textAsNumber_130 rfl ?_
    refine lv_topl (fun z_2 ez_2 => ?_)
    refine W.lcmp hx hb dX3_textAsNumber_131 ?_
    refine lv_topi (fun z_3 ez_3 => ?_)
    have hz_3 : iv (-1) 1 z_3 := iv_of ez_3 (iv_cmp _ _)
    refine lv_if_ne (tgt := 140) hx hb dX3_textAsNumber_132 (by decide) (fun c_4 => ?_) (fun c_4 => ?_)
    · have d_5 : ¬ (z_3 : Int32).toInt = 0 := lv_neT c_4 rfl
      refine lv_ldc2 (own := RX3) (v := 1099511627776) hx hb hown (htb _ kw_396) dX3_textAsNumber_140 ?_
      exact hj143 y0_123 x3_123 x2_123 x1_123 1099511627776 hx2_123 hx1_123 hsx0_123 _ _ _ hP hD hS (lv_sub hl [0, 1, 2, 3, 4] rfl)
    · have h_6 : iv 0 0 z_3 := iv_eq c_4 hz_3 (iv_k (by decide) : iv 0 0 0) (by decide)
      refine lv_lload hx hb dX3_textAsNumber_135 (lv_at hl 0 rfl) ?_
      refine lv_goto (tgt := 143) hx hb dX3_textAsNumber_137 (by decide) ?_
      exact hj143 y0_123 x3_123 x2_123 x1_123 y0_123 hx2_123 hx1_123 hsx0_123 _ _ _ hP hD hS (lv_sub hl [0, 1, 2, 3, 4] rfl)
  have hj84 : ∀ (x5_84 : Int32) (x3_84 : Int64) (x2_84 : Int32) (x1_84 : Int32) (_ : iv 0 23 x5_84) (_ : iv 1 10 x2_84) (_ : iv 0 1 x1_84) (_ : iv 0 79 x) (H : Heap) (locs : List Loc) (ls : Array Slot), va_P (dC, dI) vwCl (cW ad cid a2 lx sg gm lg) H → va_D A (cW ad cid a2 lx sg gm lg) → va_S A s.heap H locs → lv_has ls 7 [(5, .int x5_84), (3, .long x3_84), (2, .int x2_84), (1, .int x1_84), (0, eV (ad 9) x)] → W p l e (headSpec wm_X3_textAsNumber ({ frames := 0, cells := 1, slots := 6, locals := 0 })).room s m ([eV (ad 9) x] : List Value).toArray below meth c H locs 0 0 (vx_MQ below (cQx dC dI ad cid a2 lx (fun v u => ∃ r : Int64, v = some (.long r) ∧ u = (sg, gm, lg)) A) (cX dC dI ad cid a2 lx (fun _ _ => False) A) ([eV (ad 9) x] : List Value).toArray s 1 6 A) (F0 m 84 ls []) := by
    intro x5_84 x3_84 x2_84 x1_84 hx5_84 hx2_84 hx1_84 hsx0_84 H locs ls hP hD hS hl
    refine lv_ldc2 (own := RX3) (v := 1099511627776) hx hb hown (htb _ kw_396) dX3_textAsNumber_84 ?_
    exact W.nb (fun hN => W.widen (k := 1) (n := 6) (by decide) (by decide) (vx_ret (W.lret (v := 1099511627776) hx hb hr (fun t ht hW => ⟨⟨some (.long 1099511627776), (sg, gm, lg), rfl, ⟨1099511627776, rfl, rfl⟩, by rw [ht]; exact hP, va_K.moved hW.alike hK, hD⟩, hS.F ht, by rw [ht]; exact hN⟩) hS.2.2 dX3_textAsNumber_87)))
  have hj51 : ∀ (n : Nat) (x5_51 : Int32) (x3_51 : Int64) (x2_51 : Int32) (x1_51 : Int32) (_ : (24 - x5_51.toInt).toNat = n) (_ : iv 0 24 x5_51) (_ : iv 1 10 x2_51) (_ : iv 0 1 x1_51) (_ : iv 0 79 x) (H : Heap) (locs : List Loc) (ls : Array Slot), va_P (dC, dI) vwCl (cW ad cid a2 lx sg gm lg) H → va_D A (cW ad cid a2 lx sg gm lg) → va_S A s.heap H locs → lv_has ls 7 [(5, .int x5_51), (3, .long x3_51), (2, .int x2_51), (1, .int x1_51), (0, eV (ad 9) x)] → W p l e (headSpec wm_X3_textAsNumber ({ frames := 0, cells := 1, slots := 6, locals := 0 })).room s m ([eV (ad 9) x] : List Value).toArray below meth c H locs 0 0 (vx_MQ below (cQx dC dI ad cid a2 lx (fun v u => ∃ r : Int64, v = some (.long r) ∧ u = (sg, gm, lg)) A) (cX dC dI ad cid a2 lx (fun _ _ => False) A) ([eV (ad 9) x] : List Value).toArray s 1 6 A) (F0 m 51 ls []) := by
    intro n
    induction n using Nat.strongRecOn with
    | ind n ih51 =>
      intro x5_51 x3_51 x2_51 x1_51 hn51 hx5_51 hx2_51 hx1_51 hsx0_51 H locs ls hP hD hS hl
      refine lv_iload hx hb dX3_textAsNumber_51 (lv_at hl 0 rfl) ?_
      refine ec_aload_n hx hb dX3_textAsNumber_53 rfl (lv_at hl 4 rfl) ?_
      refine cr_get (t := 9) (j := 1) (C := RX3) (T := TX3) (N := 21) (v := .int (gm 11 x.toNatClampNeg)) hx hb htb inX3 hown hK hP hsx0_51 (by decide) (by decide) (by decide) rfl (by decide) (htb _ kw_381) rfl dX3_textAsNumber_54 ?_
      obtain ⟨z_7, ez_7⟩ : ∃ z : Int32, z = (gm 11 x.toNatClampNeg) := ⟨_, rfl⟩
      refine W.eq (g2 := F0 m 57 ls [.int z_7, .int x5_51]) (by rw [ez_7]) ?_
      have hz_7 : iv 0 24 z_7 := iv_of ez_7 (CI_a hI 11 hsx0_51 (by decide))
      refine lv_icmp_ge (tgt := 112) hx hb dX3_textAsNumber_57 (by decide) (fun c_8 => ?_) (fun c_8 => ?_)
      · have d_9 : (z_7 : Int32).toInt ≤ (x5_51 : Int32).toInt := Int32.le_iff_toInt_le.mp c_8
        refine lv_iload_n hx hb dX3_textAsNumber_112 rfl (lv_at hl 3 rfl) ?_
        refine lv_iconst (v := 1) hx hb dX3_textAsNumber_113 (by decide) ?_
        refine lv_icmp_ne (tgt := 122) hx hb dX3_textAsNumber_114 (by decide) (fun c_10 => ?_) (fun c_10 => ?_)
        · have h_11 : iv 0 0 x1_51 := iv_neH c_10 hx1_51 (by decide)
          refine lv_lload_n hx hb dX3_textAsNumber_122 rfl (lv_at hl 1 rfl) ?_
          exact hj123 x5_51 x3_51 x2_51 x1_51 x3_51 hx5_51 hx2_51 (iv_w h_11 (by decide)) hsx0_51 _ _ _ hP hD hS (lv_sub hl [0, 1, 2, 3, 4] rfl)
        · have h_12 : iv 1 1 x1_51 := iv_eq c_10 hx1_51 (iv_k (by decide) : iv 1 1 1) (by decide)
          refine lv_lload_n hx hb dX3_textAsNumber_117 rfl (lv_at hl 1 rfl) ?_
          refine lv_lneg hx hb dX3_textAsNumber_118 ?_
          refine lv_topl (fun z_13 ez_13 => ?_)
          refine lv_goto (tgt := 123) hx hb dX3_textAsNumber_119 (by decide) ?_
          exact hj123 x5_51 x3_51 x2_51 x1_51 z_13 hx5_51 hx2_51 (iv_w h_12 (by decide)) hsx0_51 _ _ _ hP hD hS (lv_sub hl [0, 1, 2, 3, 4] rfl)
      · have d_14 : (x5_51 : Int32).toInt < (z_7 : Int32).toInt := Int32.lt_iff_toInt_lt.mp (i32_lt c_8)
        have h_15 : iv 0 23 x5_51 := iv_ltL (i32_lt c_8) hx5_51 hz_7 (by decide)
        have h_16 : iv 1 24 z_7 := iv_ltR (i32_lt c_8) hx5_51 hz_7 (by decide)
        refine ec_aload_n hx hb dX3_textAsNumber_60 rfl (lv_at hl 4 rfl) ?_
        refine cr_get (t := 9) (j := 0) (C := RX3) (T := TX3) (N := 21) (v := eV (ad 31) x) hx hb htb inX3 hown hK hP hsx0_51 (by decide) (by decide) (by decide) rfl (by decide) (htb _ kw_74) (cV_c rfl (hsx0_51).1 (by rw [show cMu 9 0 = 1 from rfl, Nat.one_mul]; rfl)) dX3_textAsNumber_61 ?_
        refine lv_iload hx hb dX3_textAsNumber_64 (lv_at hl 0 rfl) ?_
        refine cr_cald (t := 31) (z := (gm 56 (24 * x.toNatClampNeg + (x5_51 : Int32).toNatClampNeg))) hx hb hK hP hsx0_51 (by decide) (by decide) (by decide) rfl rfl (show vp_in x5_51 (cLen 31) from (show vp_in x5_51 24 from (iv_in h_15 (by decide)))) (cAi_w rfl (by decide) rfl (vin_lt (show vp_in x5_51 (cLen 31) from (show vp_in x5_51 24 from (iv_in h_15 (by decide)))))) dX3_textAsNumber_66 ?_
        obtain ⟨z_17, ez_17⟩ : ∃ z : Int32, z = (gm 56 (24 * x.toNatClampNeg + (x5_51 : Int32).toNatClampNeg)) := ⟨_, rfl⟩
        refine W.eq (g2 := F0 m 67 ls [.int z_17]) (by rw [ez_17]) ?_
        have hz_17 : iv 0 65535 z_17 := iv_of ez_17 (CI_n hI 56 (show _ < crLen 56 from vin_w (show vp_in x5_51 (cLen 31) from (show vp_in x5_51 24 from (iv_in h_15 (by decide)))) (hsx0_51) (by decide)))
        refine lv_bipush (v := 48) hx hb dX3_textAsNumber_67 (by decide) ?_
        refine lv_icmp_lt (tgt := 84) hx hb dX3_textAsNumber_69 (by decide) (fun c_18 => ?_) (fun c_18 => ?_)
        · have h_19 : iv 0 47 z_17 := iv_ltL c_18 hz_17 (iv_k (by decide) : iv 48 48 48) (by decide)
          exact hj84 x5_51 x3_51 x2_51 x1_51 h_15 hx2_51 hx1_51 hsx0_51 _ _ _ hP hD hS (lv_sub hl [0, 1, 2, 3, 4] rfl)
        · have h_20 : iv 48 65535 z_17 := iv_leR (i32_ge c_18) (iv_k (by decide) : iv 48 48 48) hz_17 (by decide)
          refine ec_aload_n hx hb dX3_textAsNumber_72 rfl (lv_at hl 4 rfl) ?_
          refine cr_get (t := 9) (j := 0) (C := RX3) (T := TX3) (N := 21) (v := eV (ad 31) x) hx hb htb inX3 hown hK hP hsx0_51 (by decide) (by decide) (by decide) rfl (by decide) (htb _ kw_74) (cV_c rfl (hsx0_51).1 (by rw [show cMu 9 0 = 1 from rfl, Nat.one_mul]; rfl)) dX3_textAsNumber_73 ?_
          refine lv_iload hx hb dX3_textAsNumber_76 (lv_at hl 0 rfl) ?_
          refine cr_cald (t := 31) (z := (gm 56 (24 * x.toNatClampNeg + (x5_51 : Int32).toNatClampNeg))) hx hb hK hP hsx0_51 (by decide) (by decide) (by decide) rfl rfl (show vp_in x5_51 (cLen 31) from (show vp_in x5_51 24 from (iv_in h_15 (by decide)))) (cAi_w rfl (by decide) rfl (vin_lt (show vp_in x5_51 (cLen 31) from (show vp_in x5_51 24 from (iv_in h_15 (by decide)))))) dX3_textAsNumber_78 ?_
          refine W.eq (g2 := F0 m 79 ls [.int z_17]) (by rw [show (gm 56 (24 * x.toNatClampNeg + (x5_51 : Int32).toNatClampNeg)) = z_17 from ez_17.symm]) ?_
          refine lv_bipush (v := 57) hx hb dX3_textAsNumber_79 (by decide) ?_
          refine lv_icmp_le (tgt := 88) hx hb dX3_textAsNumber_81 (by decide) (fun c_21 => ?_) (fun c_21 => ?_)
          · have h_22 : iv 48 57 z_17 := iv_leL c_21 h_20 (iv_k (by decide) : iv 57 57 57) (by decide)
            refine lv_lload_n hx hb dX3_textAsNumber_88 rfl (lv_at hl 1 rfl) ?_
            refine lv_ldc2 (own := RX3) (v := 10) hx hb hown (htb _ kw_702) dX3_textAsNumber_89 ?_
            refine lv_lmul hx hb dX3_textAsNumber_92 ?_
            refine lv_topl (fun z_23 ez_23 => ?_)
            refine ec_aload_n hx hb dX3_textAsNumber_93 rfl (lv_at hl 4 rfl) ?_
            refine cr_get (t := 9) (j := 0) (C := RX3) (T := TX3) (N := 21) (v := eV (ad 31) x) hx hb htb inX3 hown hK hP hsx0_51 (by decide) (by decide) (by decide) rfl (by decide) (htb _ kw_74) (cV_c rfl (hsx0_51).1 (by rw [show cMu 9 0 = 1 from rfl, Nat.one_mul]; rfl)) dX3_textAsNumber_94 ?_
            refine lv_iload hx hb dX3_textAsNumber_97 (lv_at hl 0 rfl) ?_
            refine cr_cald (t := 31) (z := (gm 56 (24 * x.toNatClampNeg + (x5_51 : Int32).toNatClampNeg))) hx hb hK hP hsx0_51 (by decide) (by decide) (by decide) rfl rfl (show vp_in x5_51 (cLen 31) from (show vp_in x5_51 24 from (iv_in h_15 (by decide)))) (cAi_w rfl (by decide) rfl (vin_lt (show vp_in x5_51 (cLen 31) from (show vp_in x5_51 24 from (iv_in h_15 (by decide)))))) dX3_textAsNumber_99 ?_
            refine W.eq (g2 := F0 m 100 ls [.int z_17, .long z_23]) (by rw [show (gm 56 (24 * x.toNatClampNeg + (x5_51 : Int32).toNatClampNeg)) = z_17 from ez_17.symm]) ?_
            refine lv_bipush (v := 48) hx hb dX3_textAsNumber_100 (by decide) ?_
            refine lv_isub hx hb dX3_textAsNumber_102 ?_
            refine lv_topi (fun z_24 ez_24 => ?_)
            have hz_24 : iv 0 9 z_24 := iv_of ez_24 (iv_sub h_22 (iv_k (by decide) : iv 48 48 48) (by decide))
            have tz_24 : z_24.toInt = (z_17 : Int32).toInt - 48 := by rw [ez_24]; exact iv_subE h_22 (iv_k (by decide) : iv 48 48 48) (by decide)
            refine lv_i2l (v := (z_24 : Int32).toInt64) hx hb dX3_textAsNumber_103 rfl ?_
            refine lv_topl (fun z_25 ez_25 => ?_)
            refine lv_ladd hx hb dX3_textAsNumber_104 ?_
            refine lv_topl (fun z_26 ez_26 => ?_)
            refine lv_lstore_n (i := 3) (lv' := [(3, .long z_26), (5, .int x5_51), (2, .int x2_51), (1, .int x1_51), (0, eV (ad 9) x)]) hx hb dX3_textAsNumber_105 rfl hl (by decide) rfl (fun ls hl => ?_)
            obtain ⟨z_27, ez_27⟩ : ∃ z : Int32, z = x5_51 + 1 := ⟨_, rfl⟩
            have hz_27 : iv 1 24 z_27 := iv_of ez_27 (iv_add h_15 (iv_k (by decide) : iv 1 1 1) (by decide))
            have tz_27 : z_27.toInt = x5_51.toInt + 1 := by rw [ez_27]; exact iv_addE h_15 (iv_k (by decide) : iv 1 1 1) (by decide)
            refine lv_iinc (v := z_27) (lv' := [(5, .int z_27), (3, .long z_26), (2, .int x2_51), (1, .int x1_51), (0, eV (ad 9) x)]) hx hb dX3_textAsNumber_106 hl (k := 1) rfl ez_27.symm (by decide) rfl (fun ls hl => ?_)
            refine lv_goto (tgt := 51) hx hb dX3_textAsNumber_109 (by decide) ?_
            exact ih51 _ (by rw [← hn51]; exact (iv_meas tz_27 h_15 (by decide))) z_27 z_26 x2_51 x1_51 rfl (iv_w hz_27 (by decide)) hx2_51 hx1_51 hsx0_51 _ _ _ hP hD hS (lv_sub hl [0, 1, 2, 3, 4] rfl)
          · have h_28 : iv 58 65535 z_17 := iv_ltR (i32_lt c_21) (iv_k (by decide) : iv 57 57 57) h_20 (by decide)
            exact hj84 x5_51 x3_51 x2_51 x1_51 h_15 hx2_51 hx1_51 hsx0_51 _ _ _ hP hD hS (lv_sub hl [0, 1, 2, 3, 4] rfl)
  have hj23 : ∀ (y0_23 : Int32) (_ : iv 0 79 x) (_ : iv 0 1 y0_23) (H : Heap) (locs : List Loc) (ls : Array Slot), va_P (dC, dI) vwCl (cW ad cid a2 lx sg gm lg) H → va_D A (cW ad cid a2 lx sg gm lg) → va_S A s.heap H locs → lv_has ls 7 [(0, eV (ad 9) x)] → W p l e (headSpec wm_X3_textAsNumber ({ frames := 0, cells := 1, slots := 6, locals := 0 })).room s m ([eV (ad 9) x] : List Value).toArray below meth c H locs 0 0 (vx_MQ below (cQx dC dI ad cid a2 lx (fun v u => ∃ r : Int64, v = some (.long r) ∧ u = (sg, gm, lg)) A) (cX dC dI ad cid a2 lx (fun _ _ => False) A) ([eV (ad 9) x] : List Value).toArray s 1 6 A) (F0 m 23 ls [.int y0_23]) := by
    intro y0_23 hsx0_23 hy0_23 H locs ls hP hD hS hl
    refine lv_istore_n (i := 1) (lv' := [(1, .int y0_23), (0, eV (ad 9) x)]) hx hb dX3_textAsNumber_23 rfl hl (by decide) (by simp [List.filter, eV_cat, cat_i, cat_l]) (fun ls hl => ?_)
    refine ec_aload_n hx hb dX3_textAsNumber_24 rfl (lv_at hl 1 rfl) ?_
    refine cr_get (t := 9) (j := 1) (C := RX3) (T := TX3) (N := 21) (v := .int (gm 11 x.toNatClampNeg)) hx hb htb inX3 hown hK hP hsx0_23 (by decide) (by decide) (by decide) rfl (by decide) (htb _ kw_381) rfl dX3_textAsNumber_25 ?_
    obtain ⟨z_29, ez_29⟩ : ∃ z : Int32, z = (gm 11 x.toNatClampNeg) := ⟨_, rfl⟩
    refine W.eq (g2 := F0 m 28 ls [.int z_29]) (by rw [ez_29]) ?_
    have hz_29 : iv 0 24 z_29 := iv_of ez_29 (CI_a hI 11 hsx0_23 (by decide))
    refine lv_iload_n hx hb dX3_textAsNumber_28 rfl (lv_at hl 0 rfl) ?_
    refine lv_isub hx hb dX3_textAsNumber_29 ?_
    refine lv_topi (fun z_30 ez_30 => ?_)
    have hz_30 : iv (-1) 24 z_30 := iv_of ez_30 (iv_sub hz_29 hy0_23 (by decide))
    have tz_30 : z_30.toInt = (z_29 : Int32).toInt - (y0_23 : Int32).toInt := by rw [ez_30]; exact iv_subE hz_29 hy0_23 (by decide)
    refine lv_istore_n (i := 2) (lv' := [(2, .int z_30), (1, .int y0_23), (0, eV (ad 9) x)]) hx hb dX3_textAsNumber_30 rfl hl (by decide) rfl (fun ls hl => ?_)
    refine lv_iload_n hx hb dX3_textAsNumber_31 rfl (lv_at hl 0 rfl) ?_
    refine lv_iconst (v := 1) hx hb dX3_textAsNumber_32 (by decide) ?_
    refine lv_icmp_lt (tgt := 42) hx hb dX3_textAsNumber_33 (by decide) (fun c_31 => ?_) (fun c_31 => ?_)
    · have h_32 : iv (-1) 0 z_30 := iv_ltL c_31 hz_30 (iv_k (by decide) : iv 1 1 1) (by decide)
      exact hj42 z_30 y0_23 (iv_w h_32 (by decide)) hy0_23 hsx0_23 _ _ _ hP hD hS (lv_sub hl [0, 1, 2] rfl)
    · have h_33 : iv 1 24 z_30 := iv_leR (i32_ge c_31) (iv_k (by decide) : iv 1 1 1) hz_30 (by decide)
      refine lv_iload_n hx hb dX3_textAsNumber_36 rfl (lv_at hl 0 rfl) ?_
      refine lv_bipush (v := 10) hx hb dX3_textAsNumber_37 (by decide) ?_
      refine lv_icmp_le (tgt := 46) hx hb dX3_textAsNumber_39 (by decide) (fun c_34 => ?_) (fun c_34 => ?_)
      · have h_35 : iv 1 10 z_30 := iv_leL c_34 h_33 (iv_k (by decide) : iv 10 10 10) (by decide)
        refine lv_lconst (v := 0) hx hb dX3_textAsNumber_46 (by decide) ?_
        refine lv_lstore_n (i := 3) (lv' := [(3, .long 0), (2, .int z_30), (1, .int y0_23), (0, eV (ad 9) x)]) hx hb dX3_textAsNumber_47 rfl hl (by decide) rfl (fun ls hl => ?_)
        refine lv_iload_n hx hb dX3_textAsNumber_48 rfl (lv_at hl 2 rfl) ?_
        refine lv_istore (i := 5) (lv' := [(5, .int y0_23), (3, .long 0), (2, .int z_30), (1, .int y0_23), (0, eV (ad 9) x)]) hx hb dX3_textAsNumber_49 hl (by decide) rfl (fun ls hl => ?_)
        exact hj51 _ y0_23 0 z_30 y0_23 rfl (iv_w hy0_23 (by decide)) h_35 hy0_23 hsx0_23 _ _ _ hP hD hS (lv_sub hl [0, 1, 2, 3, 4] rfl)
      · have h_36 : iv 11 24 z_30 := iv_ltR (i32_lt c_34) (iv_k (by decide) : iv 10 10 10) h_33 (by decide)
        exact hj42 z_30 y0_23 (iv_w h_36 (by decide)) hy0_23 hsx0_23 _ _ _ hP hD hS (lv_sub hl [0, 1, 2] rfl)
  have hj22 : ∀ (_ : iv 0 79 x) (H : Heap) (locs : List Loc) (ls : Array Slot), va_P (dC, dI) vwCl (cW ad cid a2 lx sg gm lg) H → va_D A (cW ad cid a2 lx sg gm lg) → va_S A s.heap H locs → lv_has ls 7 [(0, eV (ad 9) x)] → W p l e (headSpec wm_X3_textAsNumber ({ frames := 0, cells := 1, slots := 6, locals := 0 })).room s m ([eV (ad 9) x] : List Value).toArray below meth c H locs 0 0 (vx_MQ below (cQx dC dI ad cid a2 lx (fun v u => ∃ r : Int64, v = some (.long r) ∧ u = (sg, gm, lg)) A) (cX dC dI ad cid a2 lx (fun _ _ => False) A) ([eV (ad 9) x] : List Value).toArray s 1 6 A) (F0 m 22 ls []) := by
    intro  hsx0_22 H locs ls hP hD hS hl
    refine lv_iconst (v := 0) hx hb dX3_textAsNumber_22 (by decide) ?_
    exact hj23 0 hsx0_22 (iv_w (iv_k (by decide) : iv 0 0 0) (by decide)) _ _ _ hP hD hS (lv_sub hl [0] rfl)
  refine ec_aload_n hx hb dX3_textAsNumber_0 rfl (lv_at hl 0 rfl) ?_
  refine cr_get (t := 9) (j := 1) (C := RX3) (T := TX3) (N := 21) (v := .int (gm 11 x.toNatClampNeg)) hx hb htb inX3 hown hK hP hvx (by decide) (by decide) (by decide) rfl (by decide) (htb _ kw_381) rfl dX3_textAsNumber_1 ?_
  obtain ⟨z_37, ez_37⟩ : ∃ z : Int32, z = (gm 11 x.toNatClampNeg) := ⟨_, rfl⟩
  refine W.eq (g2 := F0 m 4 ls [.int z_37]) (by rw [ez_37]) ?_
  have hz_37 : iv 0 24 z_37 := iv_of ez_37 (CI_a hI 11 hvx (by decide))
  refine lv_if_le (tgt := 22) hx hb dX3_textAsNumber_4 (by decide) (fun c_38 => ?_) (fun c_38 => ?_)
  · have h_39 : iv 0 0 z_37 := iv_leL c_38 hz_37 (iv_k (by decide) : iv 0 0 0) (by decide)
    exact hj22 hvx _ _ _ hP hD hS (lv_sub hl [0] rfl)
  · have h_40 : iv 1 24 z_37 := iv_ltR (i32_lt c_38) (iv_k (by decide) : iv 0 0 0) hz_37 (by decide)
    refine ec_aload_n hx hb dX3_textAsNumber_7 rfl (lv_at hl 0 rfl) ?_
    refine cr_get (t := 9) (j := 0) (C := RX3) (T := TX3) (N := 21) (v := eV (ad 31) x) hx hb htb inX3 hown hK hP hvx (by decide) (by decide) (by decide) rfl (by decide) (htb _ kw_74) (cV_c rfl (hvx).1 (by rw [show cMu 9 0 = 1 from rfl, Nat.one_mul]; rfl)) dX3_textAsNumber_8 ?_
    refine lv_iconst (v := 0) hx hb dX3_textAsNumber_11 (by decide) ?_
    refine cr_cald (t := 31) (z := (gm 56 (24 * x.toNatClampNeg + (0 : Int32).toNatClampNeg))) hx hb hK hP hvx (by decide) (by decide) (by decide) rfl rfl (show vp_in 0 (cLen 31) from (show vp_in 0 24 from (iv_in (iv_k (by decide) : iv 0 0 0) (by decide)))) (cAi_w rfl (by decide) rfl (vin_lt (show vp_in 0 (cLen 31) from (show vp_in 0 24 from (iv_in (iv_k (by decide) : iv 0 0 0) (by decide)))))) dX3_textAsNumber_12 ?_
    obtain ⟨z_41, ez_41⟩ : ∃ z : Int32, z = (gm 56 (24 * x.toNatClampNeg + (0 : Int32).toNatClampNeg)) := ⟨_, rfl⟩
    refine W.eq (g2 := F0 m 13 ls [.int z_41]) (by rw [ez_41]) ?_
    have hz_41 : iv 0 65535 z_41 := iv_of ez_41 (CI_n hI 56 (show _ < crLen 56 from vin_w (show vp_in 0 (cLen 31) from (show vp_in 0 24 from (iv_in (iv_k (by decide) : iv 0 0 0) (by decide)))) (hvx) (by decide)))
    refine lv_bipush (v := 45) hx hb dX3_textAsNumber_13 (by decide) ?_
    refine lv_icmp_ne (tgt := 22) hx hb dX3_textAsNumber_15 (by decide) (fun c_42 => ?_) (fun c_42 => ?_)
    · have d_43 : ¬ (z_41 : Int32).toInt = 45 := lv_neT c_42 rfl
      exact hj22 hvx _ _ _ hP hD hS (lv_sub hl [0] rfl)
    · have h_44 : iv 45 45 z_41 := iv_eq c_42 hz_41 (iv_k (by decide) : iv 45 45 45) (by decide)
      refine lv_iconst (v := 1) hx hb dX3_textAsNumber_18 (by decide) ?_
      refine lv_goto (tgt := 23) hx hb dX3_textAsNumber_19 (by decide) ?_
      exact hj23 1 hvx (iv_w (iv_k (by decide) : iv 1 1 1) (by decide)) _ _ _ hP hD hS (lv_sub hl [0] rfl)

set_option maxHeartbeats 4000000 in
set_option maxRecDepth 100000 in
theorem d_weighText (l : Launch) (dC : Nat → ClassId) (dI : Nat → Nat → Nat) (ad : Nat → Nat → Nat) (cid : Nat → ClassId) (a2 : Nat → Nat) (lx : List Nat) (sg : Nat → Int32) (gm : Nat → Nat → Int32) (lg : Nat → Nat → Int64) (x : Int32) (hI : CI sg gm) (hvx : iv 0 79 x) : CMt dC dI ad cid a2 lx l yX3_weighText wm_X3_weighText ({ frames := 5, cells := 1, slots := 6, locals := 112 }) [eV (ad 9) x] sg gm lg (fun v u => v = none ∧ ∃ (sg2 : Nat → Int32) (gm2 : Nat → Nat → Int32) (lg2 : Nat → Nat → Int64), u = (sg2, gm2, lg2) ∧ CI sg2 gm2 ∧ KS [] sg sg2 ∧ KS [21] gm gm2 ∧ KS [3] lg lg2) (fun _ _ => False) := by
  intro sz
  refine vx_ofW (cc := cX3_weighText) (maxL := 1) (ret := none) (by decide) rfl ?_
  intro p e s m args below meth c s₁ B hml hxt hv
  obtain ⟨rfl, hsz, hP, hK, hD0, hG⟩ := hv
  have hx := B.exec
  have hb := B.bytes
  have hr := B.returns
  have hts := atoms_spec (ws := wm_X3_weighText) B.pre
  have htb := fun (w : Cond) (h : w ∈ tb) => hts w (List.mem_cons_of_mem _ h)
  have hown : s.vm.findClass RX3 = some m.cls := findClass_of_methodNamed B.named
  have hlocks := B.notSynchronized
  subst hsz
  have hD := hD0.self (sz := s.heap.size)
  generalize hAe : va_A (cW ad cid a2 lx sg gm lg) s.heap.size = A at hD hG ⊢
  have hA : ∀ q : Nat, s.heap.size ≤ q → A q := fun q h => by rw [← hAe]; exact Or.inr h
  have hS : va_S A s.heap s.heap [] := va_S.rf
  have hl := lv_entry ([eV (ad 9) x]) (n := 1) (by rw [show (lg_sl ([eV (ad 9) x])).length = 1 from by simp [lg_sl, eV_cat, cat_i, cat_l]]; exact Nat.le_of_ble_eq_true rfl)
  rw [lg_entry_eq]
  generalize (lg_sl ([eV (ad 9) x]) ++ List.replicate (1 - (lg_sl ([eV (ad 9) x])).length) Slot.unset).toArray = ls at hl ⊢
  have hl : lv_has ls 1 [(0, eV (ad 9) x)] := by simp [lv_args, eV_cat, cat_i, cat_l] at hl; exact hl
  have hj43 : ∀ (gm_j43 : Nat → Nat → Int32) (lg_j43 : Nat → Nat → Int64) (_ : iv 0 79 x) (_ : KS [21] gm gm_j43) (_ : KS [3] lg lg_j43) (_ : CI sg gm_j43) (H : Heap) (locs : List Loc) (ls : Array Slot), va_P (dC, dI) vwCl (cW ad cid a2 lx sg gm_j43 lg_j43) H → va_D A (cW ad cid a2 lx sg gm_j43 lg_j43) → va_S A s.heap H locs → lv_has ls 1 [(0, eV (ad 9) x)] → W p l e (headSpec wm_X3_weighText ({ frames := 5, cells := 1, slots := 6, locals := 112 })).room s m ([eV (ad 9) x] : List Value).toArray below meth c H locs 0 0 (vx_MQ below (cQx dC dI ad cid a2 lx (fun v u => v = none ∧ ∃ (sg2 : Nat → Int32) (gm2 : Nat → Nat → Int32) (lg2 : Nat → Nat → Int64), u = (sg2, gm2, lg2) ∧ CI sg2 gm2 ∧ KS [] sg sg2 ∧ KS [21] gm gm2 ∧ KS [3] lg lg2) A) (cX dC dI ad cid a2 lx (fun _ _ => False) A) ([eV (ad 9) x] : List Value).toArray s 1 6 A) (F0 m 43 ls []) := by
    intro gm_j43 lg_j43 hsx0_43 hkg_j43 hkl_j43 hI_j43 H locs ls hP hD hS hl
    exact W.nb (fun hN => W.widen (k := 1) (n := 6) (by decide) (by decide) (vx_ret (W.vret hx hb hr (fun t ht hW => ⟨⟨none, (sg, gm_j43, lg_j43), rfl, ⟨rfl, sg, gm_j43, lg_j43, rfl, hI_j43, KS_rf, (KS_tr (L := [21]) KS_rf hkg_j43 (by decide)), (KS_tr (L := [3]) KS_rf hkl_j43 (by decide))⟩, by rw [ht]; exact hP, va_K.moved hW.alike hK, hD⟩, hS.F ht, by rw [ht]; exact hN⟩) hS.2.2 dX3_weighText_43)))
  have hj40 : ∀ (lg_j40 : Nat → Nat → Int64) (y0_40 : Int32) (_ : iv 0 79 x) (_ : iv (-1) 0 y0_40) (_ : iv 0 79 x) (_ : KS [3] lg lg_j40) (_ : CI sg gm) (H : Heap) (locs : List Loc) (ls : Array Slot), va_P (dC, dI) vwCl (cW ad cid a2 lx sg gm lg_j40) H → va_D A (cW ad cid a2 lx sg gm lg_j40) → va_S A s.heap H locs → lv_has ls 1 [(0, eV (ad 9) x)] → W p l e (headSpec wm_X3_weighText ({ frames := 5, cells := 1, slots := 6, locals := 112 })).room s m ([eV (ad 9) x] : List Value).toArray below meth c H locs 0 0 (vx_MQ below (cQx dC dI ad cid a2 lx (fun v u => v = none ∧ ∃ (sg2 : Nat → Int32) (gm2 : Nat → Nat → Int32) (lg2 : Nat → Nat → Int64), u = (sg2, gm2, lg2) ∧ CI sg2 gm2 ∧ KS [] sg sg2 ∧ KS [21] gm gm2 ∧ KS [3] lg lg2) A) (cX dC dI ad cid a2 lx (fun _ _ => False) A) ([eV (ad 9) x] : List Value).toArray s 1 6 A) (F0 m 40 ls [.int y0_40, eV (ad 9) x]) := by
    intro lg_j40 y0_40 hsx0_40 hy0_40 hsy1_40 hkl_j40 hI_j40 H locs ls hP hD hS hl
    refine cr_putg (t := 9) (j := 14) (C := RX3) (T := TX3) (N := 21) (ty0 := tyX3) (k := 21) (y := y0_40) hx hb htb inX3 tyX3_ok nmX3 hown hK hP hD hS hsy1_40 (by decide) (by decide) (by decide) (by decide) rfl rfl (by decide) (htb _ kw_398) rfl (by show Value.int y0_40 = Value.int (va_up gm 21 (upd (gm 21) x.toNatClampNeg y0_40) 21 x.toNatClampNeg); rw [va_up_self, upd_at]) rfl rfl dX3_weighText_40 (fun gm_1 H locs egm_1 hP hD hS => ?_)
    have hI_gm_1 := CI_st hI_j40 egm_1 hy0_40 (by decide)
    exact hj43 gm_1 lg_j40 hsy1_40 (KS_up KS_rf egm_1 (by decide)) (KS_tr (L := [3]) KS_rf hkl_j40 (by decide)) hI_gm_1 _ _ _ hP hD hS (lv_sub hl [0] rfl)
  refine ec_aload_n hx hb dX3_weighText_0 rfl (lv_at hl 0 rfl) ?_
  refine ec_aload_n hx hb dX3_weighText_1 rfl (lv_at hl 0 rfl) ?_
  refine cm_callV (t := 9) (C := RX3) (T := TX3) (N := 21) (rest := [eV (ad 9) x]) (as := []) ⟨hx, hb, hml, hown, htb⟩ (d_textAsNumber l dC dI ad cid a2 lx sg gm lg x hI hvx) (cwV 0 htb (gd_V kw_699 kw_700 kw_701 kw_66 kw_1491) rfl rfl rfl (by decide +kernel) ⟨Nat.le_of_ble_eq_true rfl, Nat.le_of_ble_eq_true rfl⟩) hvx (by decide) (by decide) rfl rfl hl.1 rfl (Nat.le_trans (cs_c (eV_cat _ _) cs_n) (by decide)) dX3_weighText_2 ⟨Nat.le_of_ble_eq_true rfl, Nat.le_of_ble_eq_true rfl⟩ hK hP hD hS hA hG (fun E ce q9 u_3 H locs hw hP hD hS hce hcv hcl => ?_) (fun v9 u_3 H locs hw hP hD hS => ?_)
  · exact hw.elim
  obtain ⟨r_2, rfl, rfl⟩ := hw
  have hP : va_P (dC, dI) vwCl (cW ad cid a2 lx sg gm lg) H := hP
  have hD : va_D A (cW ad cid a2 lx sg gm lg) := hD
  refine W.eq (g2 := F0 m 5 ls [.long r_2, eV (ad 9) x]) rfl ?_
  refine cr_putl (t := 9) (j := 13) (C := RX3) (T := TX3) (N := 21) (ty0 := tyX3) (k := 3) (y := r_2) hx hb htb inX3 tyX3_ok nmX3 hown hK hP hD hS hvx (by decide) (by decide) (by decide) rfl rfl rfl (by decide) (htb _ kw_397) rfl (by show Value.long r_2 = Value.long (va_up lg 3 (vp_updL (lg 3) x.toNatClampNeg r_2) 3 x.toNatClampNeg); rw [va_up_self, pk_uLs]) rfl rfl dX3_weighText_5 (fun lg_5 H locs elg_5 hP hD hS => ?_)
  refine ec_aload_n hx hb dX3_weighText_8 rfl (lv_at hl 0 rfl) ?_
  refine cw_str (k := 5) (kx := 5) hx hb hG (by decide) ⟨by decide, by decide⟩ hown dX3_weighText_9 ?_
  refine cm_callV (t := 9) (C := RX3) (T := TX3) (N := 21) (rest := []) (as := [eV (ad 37) 5]) ⟨hx, hb, hml, hown, htb⟩ (d_textIs l dC dI ad cid a2 lx sg gm lg_5 x 5 hI hvx (iv_w (iv_k (by decide) : iv 5 5 5) (by decide))) (cwV 1 htb (gd_V kw_703 kw_704 kw_705 kw_66 kw_1492) rfl rfl rfl (by decide +kernel) ⟨Nat.le_of_ble_eq_true rfl, Nat.le_of_ble_eq_true rfl⟩) hvx (by decide) (by decide) rfl rfl hl.1 rfl (Nat.le_trans cs_n (by decide)) dX3_weighText_11 ⟨Nat.le_of_ble_eq_true rfl, Nat.le_of_ble_eq_true rfl⟩ hK hP hD hS hA hG (fun E ce q9 u_7 H locs hw hP hD hS hce hcv hcl => ?_) (fun v9 u_7 H locs hw hP hD hS => ?_)
  · exact hw.elim
  obtain ⟨r_6, rfl, rfl, hr_6⟩ := hw
  have hP : va_P (dC, dI) vwCl (cW ad cid a2 lx sg gm lg_5) H := hP
  have hD : va_D A (cW ad cid a2 lx sg gm lg_5) := hD
  refine W.eq (g2 := F0 m 14 ls [.int r_6]) rfl ?_
  refine lv_if_eq (tgt := 25) hx hb dX3_weighText_14 (by decide) (fun c_9 => ?_) (fun c_9 => ?_)
  · have h_10 : iv 0 0 r_6 := iv_eq c_9 hr_6 (iv_k (by decide) : iv 0 0 0) (by decide)
    refine ec_aload_n hx hb dX3_weighText_25 rfl (lv_at hl 0 rfl) ?_
    refine ec_aload_n hx hb dX3_weighText_26 rfl (lv_at hl 0 rfl) ?_
    refine cw_str (k := 6) (kx := 6) hx hb hG (by decide) ⟨by decide, by decide⟩ hown dX3_weighText_27 ?_
    refine cm_callV (t := 9) (C := RX3) (T := TX3) (N := 21) (rest := [eV (ad 9) x]) (as := [eV (ad 37) 6]) ⟨hx, hb, hml, hown, htb⟩ (d_textIs l dC dI ad cid a2 lx sg gm lg_5 x 6 hI hvx (iv_w (iv_k (by decide) : iv 6 6 6) (by decide))) (cwV 1 htb (gd_V kw_703 kw_704 kw_705 kw_66 kw_1492) rfl rfl rfl (by decide +kernel) ⟨Nat.le_of_ble_eq_true rfl, Nat.le_of_ble_eq_true rfl⟩) hvx (by decide) (by decide) rfl rfl hl.1 rfl (Nat.le_trans (cs_c (eV_cat _ _) cs_n) (by decide)) dX3_weighText_29 ⟨Nat.le_of_ble_eq_true rfl, Nat.le_of_ble_eq_true rfl⟩ hK hP hD hS hA hG (fun E ce q9 u_12 H locs hw hP hD hS hce hcv hcl => ?_) (fun v9 u_12 H locs hw hP hD hS => ?_)
    · exact hw.elim
    obtain ⟨r_11, rfl, rfl, hr_11⟩ := hw
    have hP : va_P (dC, dI) vwCl (cW ad cid a2 lx sg gm lg_5) H := hP
    have hD : va_D A (cW ad cid a2 lx sg gm lg_5) := hD
    refine W.eq (g2 := F0 m 32 ls [.int r_11, eV (ad 9) x]) rfl ?_
    refine lv_if_eq (tgt := 39) hx hb dX3_weighText_32 (by decide) (fun c_14 => ?_) (fun c_14 => ?_)
    · have h_15 : iv 0 0 r_11 := iv_eq c_14 hr_11 (iv_k (by decide) : iv 0 0 0) (by decide)
      refine lv_iconst (v := (-1)) hx hb dX3_weighText_39 (by decide) ?_
      exact hj40 lg_5 (-1) hvx (iv_w (iv_k (by decide) : iv (-1) (-1) (-1)) (by decide)) hvx (KS_up KS_rf elg_5 (by decide)) hI _ _ _ hP hD hS (lv_sub hl [0] rfl)
    · have h_16 : iv 1 1 r_11 := iv_neL c_14 hr_11 (by decide)
      refine lv_iconst (v := 0) hx hb dX3_weighText_35 (by decide) ?_
      refine lv_goto (tgt := 40) hx hb dX3_weighText_36 (by decide) ?_
      exact hj40 lg_5 0 hvx (iv_w (iv_k (by decide) : iv 0 0 0) (by decide)) hvx (KS_up KS_rf elg_5 (by decide)) hI _ _ _ hP hD hS (lv_sub hl [0] rfl)
  · have h_17 : iv 1 1 r_6 := iv_neL c_9 hr_6 (by decide)
    refine ec_aload_n hx hb dX3_weighText_17 rfl (lv_at hl 0 rfl) ?_
    refine lv_iconst (v := 1) hx hb dX3_weighText_18 (by decide) ?_
    refine cr_putg (t := 9) (j := 14) (C := RX3) (T := TX3) (N := 21) (ty0 := tyX3) (k := 21) (y := 1) hx hb htb inX3 tyX3_ok nmX3 hown hK hP hD hS hvx (by decide) (by decide) (by decide) (by decide) rfl rfl (by decide) (htb _ kw_398) rfl (by show Value.int 1 = Value.int (va_up gm 21 (upd (gm 21) x.toNatClampNeg 1) 21 x.toNatClampNeg); rw [va_up_self, upd_at]) rfl rfl dX3_weighText_19 (fun gm_18 H locs egm_18 hP hD hS => ?_)
    have hI_gm_18 := CI_st hI egm_18 (iv_k (by decide) : iv 1 1 1) (by decide)
    refine lv_goto (tgt := 43) hx hb dX3_weighText_22 (by decide) ?_
    exact hj43 gm_18 lg_5 hvx (KS_up KS_rf egm_18 (by decide)) (KS_up KS_rf elg_5 (by decide)) hI_gm_18 _ _ _ hP hD hS (lv_sub hl [0] rfl)

set_option maxHeartbeats 4000000 in
set_option maxRecDepth 100000 in
theorem d_isHeld (l : Launch) (dC : Nat → ClassId) (dI : Nat → Nat → Nat) (ad : Nat → Nat → Nat) (cid : Nat → ClassId) (a2 : Nat → Nat) (lx : List Nat) (sg : Nat → Int32) (gm : Nat → Nat → Int32) (lg : Nat → Nat → Int64) (x : Int32) (o : Int32) (hI : CI sg gm) (hvx : iv 0 0 x) (hvo : iv 0 79 o) : CMt dC dI ad cid a2 lx l yX9_isHeld wm_X9_isHeld ({ frames := 1, cells := 1, slots := 6, locals := 21 }) [eV (ad 3) x, eV (ad 9) o] sg gm lg (fun v u => ∃ r : Int32, v = some (.int r) ∧ u = (sg, gm, lg) ∧ (iv 0 1 r)) (fun _ _ => False) := by
  intro sz
  refine vx_ofW (cc := cX9_isHeld) (maxL := 2) (ret := (some .boolean)) (by decide) rfl ?_
  intro p e s m args below meth c s₁ B hml hxt hv
  obtain ⟨rfl, hsz, hP, hK, hD0, hG⟩ := hv
  have hx := B.exec
  have hb := B.bytes
  have hr := B.returns
  have hts := atoms_spec (ws := wm_X9_isHeld) B.pre
  have htb := fun (w : Cond) (h : w ∈ tb) => hts w (List.mem_cons_of_mem _ h)
  have hown : s.vm.findClass RX9 = some m.cls := findClass_of_methodNamed B.named
  have hlocks := B.notSynchronized
  subst hsz
  have hD := hD0.self (sz := s.heap.size)
  generalize hAe : va_A (cW ad cid a2 lx sg gm lg) s.heap.size = A at hD hG ⊢
  have hA : ∀ q : Nat, s.heap.size ≤ q → A q := fun q h => by rw [← hAe]; exact Or.inr h
  have hS : va_S A s.heap s.heap [] := va_S.rf
  have hl := lv_entry ([eV (ad 3) x, eV (ad 9) o]) (n := 2) (by rw [show (lg_sl ([eV (ad 3) x, eV (ad 9) o])).length = 2 from by simp [lg_sl, eV_cat, cat_i, cat_l]]; exact Nat.le_of_ble_eq_true rfl)
  rw [lg_entry_eq]
  generalize (lg_sl ([eV (ad 3) x, eV (ad 9) o]) ++ List.replicate (2 - (lg_sl ([eV (ad 3) x, eV (ad 9) o])).length) Slot.unset).toArray = ls at hl ⊢
  have hl : lv_has ls 2 [(0, eV (ad 3) x), (1, eV (ad 9) o)] := by simp [lv_args, eV_cat, cat_i, cat_l] at hl; exact hl
  have hj35 : ∀ (y0_35 : Int32) (_ : iv 0 0 x) (_ : iv 0 79 o) (_ : iv 0 1 y0_35) (H : Heap) (locs : List Loc) (ls : Array Slot), va_P (dC, dI) vwCl (cW ad cid a2 lx sg gm lg) H → va_D A (cW ad cid a2 lx sg gm lg) → va_S A s.heap H locs → lv_has ls 2 [(0, eV (ad 3) x), (1, eV (ad 9) o)] → W p l e (headSpec wm_X9_isHeld ({ frames := 1, cells := 1, slots := 6, locals := 21 })).room s m ([eV (ad 3) x, eV (ad 9) o] : List Value).toArray below meth c H locs 0 0 (vx_MQ below (cQx dC dI ad cid a2 lx (fun v u => ∃ r : Int32, v = some (.int r) ∧ u = (sg, gm, lg) ∧ (iv 0 1 r)) A) (cX dC dI ad cid a2 lx (fun _ _ => False) A) ([eV (ad 3) x, eV (ad 9) o] : List Value).toArray s 1 6 A) (F0 m 35 ls [.int y0_35]) := by
    intro y0_35 hsx0_35 hsx1_35 hy0_35 H locs ls hP hD hS hl
    exact W.nb (fun hN => W.widen (k := 1) (n := 6) (by decide) (by decide) (vx_ret (W.zret (v := y0_35) hx hb hr (iv_nb hy0_35) (fun t ht hW => ⟨⟨some (.int y0_35), (sg, gm, lg), rfl, ⟨y0_35, rfl, rfl, hy0_35⟩, by rw [ht]; exact hP, va_K.moved hW.alike hK, hD⟩, hS.F ht, by rw [ht]; exact hN⟩) hS.2.2 dX9_isHeld_35)))
  have hj30 : ∀ (_ : iv 0 0 x) (_ : iv 0 79 o) (H : Heap) (locs : List Loc) (ls : Array Slot), va_P (dC, dI) vwCl (cW ad cid a2 lx sg gm lg) H → va_D A (cW ad cid a2 lx sg gm lg) → va_S A s.heap H locs → lv_has ls 2 [(0, eV (ad 3) x), (1, eV (ad 9) o)] → W p l e (headSpec wm_X9_isHeld ({ frames := 1, cells := 1, slots := 6, locals := 21 })).room s m ([eV (ad 3) x, eV (ad 9) o] : List Value).toArray below meth c H locs 0 0 (vx_MQ below (cQx dC dI ad cid a2 lx (fun v u => ∃ r : Int32, v = some (.int r) ∧ u = (sg, gm, lg) ∧ (iv 0 1 r)) A) (cX dC dI ad cid a2 lx (fun _ _ => False) A) ([eV (ad 3) x, eV (ad 9) o] : List Value).toArray s 1 6 A) (F0 m 30 ls []) := by
    intro  hsx0_30 hsx1_30 H locs ls hP hD hS hl
    refine lv_iconst (v := 1) hx hb dX9_isHeld_30 (by decide) ?_
    refine lv_goto (tgt := 35) hx hb dX9_isHeld_31 (by decide) ?_
    exact hj35 1 hsx0_30 hsx1_30 (iv_w (iv_k (by decide) : iv 1 1 1) (by decide)) _ _ _ hP hD hS (lv_sub hl [0, 1] rfl)
  refine ec_aload_n hx hb dX9_isHeld_0 rfl (lv_at hl 1 rfl) ?_
  refine cw_word (k := 3) (kx := 3) hx hb hG hS (by decide) rfl ⟨by decide, by decide⟩ hown (htb _ kw_518) dX9_isHeld_1 ?_
  refine cm_callV (t := 9) (C := RX3) (T := TX3) (N := 21) (rest := []) (as := [eV (ad 33) 3]) ⟨hx, hb, hml, hown, htb⟩ (d_isIn l dC dI ad cid a2 lx sg gm lg o 3 hI hvo (iv_w (iv_k (by decide) : iv 3 3 3) (by decide))) (cwV 1 htb (gd_V kw_526 kw_527 kw_528 kw_66 kw_1462) rfl rfl rfl (by decide +kernel) ⟨Nat.le_of_ble_eq_true rfl, Nat.le_of_ble_eq_true rfl⟩) hvo (by decide) (by decide) rfl rfl hl.1 rfl (Nat.le_trans cs_n (by decide)) dX9_isHeld_4 ⟨Nat.le_of_ble_eq_true rfl, Nat.le_of_ble_eq_true rfl⟩ hK hP hD hS hA hG (fun E ce q9 u_2 H locs hw hP hD hS hce hcv hcl => ?_) (fun v9 u_2 H locs hw hP hD hS => ?_)
  · exact hw.elim
  obtain ⟨r_1, rfl, rfl, hr_1, fI_r_1⟩ := hw
  have hP : va_P (dC, dI) vwCl (cW ad cid a2 lx sg gm lg) H := hP
  have hD : va_D A (cW ad cid a2 lx sg gm lg) := hD
  refine W.eq (g2 := F0 m 7 ls [.int r_1]) rfl ?_
  refine lv_if_ne (tgt := 30) hx hb dX9_isHeld_7 (by decide) (fun c_4 => ?_) (fun c_4 => ?_)
  · have h_5 : iv 1 1 r_1 := iv_neL c_4 hr_1 (by decide)
    exact hj30 hvx hvo _ _ _ hP hD hS (lv_sub hl [0, 1] rfl)
  · have h_6 : iv 0 0 r_1 := iv_eq c_4 hr_1 (iv_k (by decide) : iv 0 0 0) (by decide)
    refine ec_aload_n hx hb dX9_isHeld_10 rfl (lv_at hl 1 rfl) ?_
    refine cw_word (k := 4) (kx := 4) hx hb hG hS (by decide) rfl ⟨by decide, by decide⟩ hown (htb _ kw_519) dX9_isHeld_11 ?_
    refine cm_callV (t := 9) (C := RX3) (T := TX3) (N := 21) (rest := []) (as := [eV (ad 33) 4]) ⟨hx, hb, hml, hown, htb⟩ (d_isIn l dC dI ad cid a2 lx sg gm lg o 4 hI hvo (iv_w (iv_k (by decide) : iv 4 4 4) (by decide))) (cwV 1 htb (gd_V kw_526 kw_527 kw_528 kw_66 kw_1462) rfl rfl rfl (by decide +kernel) ⟨Nat.le_of_ble_eq_true rfl, Nat.le_of_ble_eq_true rfl⟩) hvo (by decide) (by decide) rfl rfl hl.1 rfl (Nat.le_trans cs_n (by decide)) dX9_isHeld_14 ⟨Nat.le_of_ble_eq_true rfl, Nat.le_of_ble_eq_true rfl⟩ hK hP hD hS hA hG (fun E ce q9 u_8 H locs hw hP hD hS hce hcv hcl => ?_) (fun v9 u_8 H locs hw hP hD hS => ?_)
    · exact hw.elim
    obtain ⟨r_7, rfl, rfl, hr_7, fI_r_7⟩ := hw
    have hP : va_P (dC, dI) vwCl (cW ad cid a2 lx sg gm lg) H := hP
    have hD : va_D A (cW ad cid a2 lx sg gm lg) := hD
    refine W.eq (g2 := F0 m 17 ls [.int r_7]) rfl ?_
    refine lv_if_ne (tgt := 30) hx hb dX9_isHeld_17 (by decide) (fun c_10 => ?_) (fun c_10 => ?_)
    · have h_11 : iv 1 1 r_7 := iv_neL c_10 hr_7 (by decide)
      exact hj30 hvx hvo _ _ _ hP hD hS (lv_sub hl [0, 1] rfl)
    · have h_12 : iv 0 0 r_7 := iv_eq c_10 hr_7 (iv_k (by decide) : iv 0 0 0) (by decide)
      refine ec_aload_n hx hb dX9_isHeld_20 rfl (lv_at hl 1 rfl) ?_
      refine cw_word (k := 6) (kx := 6) hx hb hG hS (by decide) rfl ⟨by decide, by decide⟩ hown (htb _ kw_532) dX9_isHeld_21 ?_
      refine cm_callV (t := 9) (C := RX3) (T := TX3) (N := 21) (rest := []) (as := [eV (ad 33) 6]) ⟨hx, hb, hml, hown, htb⟩ (d_isIn l dC dI ad cid a2 lx sg gm lg o 6 hI hvo (iv_w (iv_k (by decide) : iv 6 6 6) (by decide))) (cwV 1 htb (gd_V kw_526 kw_527 kw_528 kw_66 kw_1462) rfl rfl rfl (by decide +kernel) ⟨Nat.le_of_ble_eq_true rfl, Nat.le_of_ble_eq_true rfl⟩) hvo (by decide) (by decide) rfl rfl hl.1 rfl (Nat.le_trans cs_n (by decide)) dX9_isHeld_24 ⟨Nat.le_of_ble_eq_true rfl, Nat.le_of_ble_eq_true rfl⟩ hK hP hD hS hA hG (fun E ce q9 u_14 H locs hw hP hD hS hce hcv hcl => ?_) (fun v9 u_14 H locs hw hP hD hS => ?_)
      · exact hw.elim
      obtain ⟨r_13, rfl, rfl, hr_13, fI_r_13⟩ := hw
      have hP : va_P (dC, dI) vwCl (cW ad cid a2 lx sg gm lg) H := hP
      have hD : va_D A (cW ad cid a2 lx sg gm lg) := hD
      refine W.eq (g2 := F0 m 27 ls [.int r_13]) rfl ?_
      refine lv_if_eq (tgt := 34) hx hb dX9_isHeld_27 (by decide) (fun c_16 => ?_) (fun c_16 => ?_)
      · have h_17 : iv 0 0 r_13 := iv_eq c_16 hr_13 (iv_k (by decide) : iv 0 0 0) (by decide)
        refine lv_iconst (v := 0) hx hb dX9_isHeld_34 (by decide) ?_
        exact hj35 0 hvx hvo (iv_w (iv_k (by decide) : iv 0 0 0) (by decide)) _ _ _ hP hD hS (lv_sub hl [0, 1] rfl)
      · have h_18 : iv 1 1 r_13 := iv_neL c_16 hr_13 (by decide)
        exact hj30 hvx hvo _ _ _ hP hD hS (lv_sub hl [0, 1] rfl)

set_option maxHeartbeats 4000000 in
set_option maxRecDepth 100000 in
theorem d_likeBefore (l : Launch) (dC : Nat → ClassId) (dI : Nat → Nat → Nat) (ad : Nat → Nat → Nat) (cid : Nat → ClassId) (a2 : Nat → Nat) (lx : List Nat) (sg : Nat → Int32) (gm : Nat → Nat → Int32) (lg : Nat → Nat → Int64) (x : Int32) (o : Int32) (hI : CI sg gm) (hvx : iv 0 0 x) (hvo : iv 0 79 o) (ho0 : 0 ≤ (gm 15 o.toNatClampNeg).toInt) : CMt dC dI ad cid a2 lx l yX9_likeBefore wm_X9_likeBefore ({ frames := 0, cells := 1, slots := 6, locals := 0 }) [eV (ad 3) x, eV (ad 9) o] sg gm lg (fun v u => ∃ r : Int32, v = some (.int r) ∧ u = (sg, gm, lg) ∧ (iv 0 80 r)) (fun _ _ => False) := by
  intro sz
  refine vx_ofW (cc := cX9_likeBefore) (maxL := 5) (ret := (some .int)) (by decide) rfl ?_
  intro p e s m args below meth c s₁ B hml hxt hv
  obtain ⟨rfl, hsz, hP, hK, hD0, hG⟩ := hv
  have hx := B.exec
  have hb := B.bytes
  have hr := B.returns
  have hts := atoms_spec (ws := wm_X9_likeBefore) B.pre
  have htb := fun (w : Cond) (h : w ∈ tb) => hts w (List.mem_cons_of_mem _ h)
  have hown : s.vm.findClass RX9 = some m.cls := findClass_of_methodNamed B.named
  have hlocks := B.notSynchronized
  subst hsz
  have hD := hD0.self (sz := s.heap.size)
  generalize hAe : va_A (cW ad cid a2 lx sg gm lg) s.heap.size = A at hD hG ⊢
  have hA : ∀ q : Nat, s.heap.size ≤ q → A q := fun q h => by rw [← hAe]; exact Or.inr h
  have hS : va_S A s.heap s.heap [] := va_S.rf
  have hl := lv_entry ([eV (ad 3) x, eV (ad 9) o]) (n := 5) (by rw [show (lg_sl ([eV (ad 3) x, eV (ad 9) o])).length = 2 from by simp [lg_sl, eV_cat, cat_i, cat_l]]; exact Nat.le_of_ble_eq_true rfl)
  rw [lg_entry_eq]
  generalize (lg_sl ([eV (ad 3) x, eV (ad 9) o]) ++ List.replicate (5 - (lg_sl ([eV (ad 3) x, eV (ad 9) o])).length) Slot.unset).toArray = ls at hl ⊢
  have hl : lv_has ls 5 [(0, eV (ad 3) x), (1, eV (ad 9) o)] := by simp [lv_args, eV_cat, cat_i, cat_l] at hl; exact hl
  have hj54 : ∀ (x4_54 : Int32) (x3_54 : Int32) (x2_54 : Int32) (_ : iv 0 80 x4_54) (_ : iv (-1) 79 x3_54) (_ : iv 0 80 x2_54) (_ : iv 0 0 x) (_ : iv 0 79 o) (H : Heap) (locs : List Loc) (ls : Array Slot), va_P (dC, dI) vwCl (cW ad cid a2 lx sg gm lg) H → va_D A (cW ad cid a2 lx sg gm lg) → va_S A s.heap H locs → lv_has ls 5 [(4, .int x4_54), (3, eV (ad 9) x3_54), (2, .int x2_54), (0, eV (ad 3) x), (1, eV (ad 9) o)] → W p l e (headSpec wm_X9_likeBefore ({ frames := 0, cells := 1, slots := 6, locals := 0 })).room s m ([eV (ad 3) x, eV (ad 9) o] : List Value).toArray below meth c H locs 0 0 (vx_MQ below (cQx dC dI ad cid a2 lx (fun v u => ∃ r : Int32, v = some (.int r) ∧ u = (sg, gm, lg) ∧ (iv 0 80 r)) A) (cX dC dI ad cid a2 lx (fun _ _ => False) A) ([eV (ad 3) x, eV (ad 9) o] : List Value).toArray s 1 6 A) (F0 m 54 ls []) := by
    intro x4_54 x3_54 x2_54 hx4_54 hx3_54 hx2_54 hsx0_54 hsx1_54 H locs ls hP hD hS hl
    refine lv_iload_n hx hb dX9_likeBefore_54 rfl (lv_at hl 2 rfl) ?_
    exact W.nb (fun hN => W.widen (k := 1) (n := 6) (by decide) (by decide) (vx_ret (W.iret (v := x2_54) hx hb hr (fun t ht hW => ⟨⟨some (.int x2_54), (sg, gm, lg), rfl, ⟨x2_54, rfl, rfl, hx2_54⟩, by rw [ht]; exact hP, va_K.moved hW.alike hK, hD⟩, hS.F ht, by rw [ht]; exact hN⟩) hS.2.2 dX9_likeBefore_55)))
  have hj13 : ∀ (n : Nat) (x4_13 : Int32) (x3_13 : Int32) (x2_13 : Int32) (_ : (80 - x4_13.toInt).toNat = n) (_ : iv 0 80 x4_13) (_ : iv (-1) 79 x3_13) (_ : iv 0 80 x2_13) (_ : iv 0 0 x) (_ : iv 0 79 o) (_ : x2_13.toInt ≤ x4_13.toInt) (H : Heap) (locs : List Loc) (ls : Array Slot), va_P (dC, dI) vwCl (cW ad cid a2 lx sg gm lg) H → va_D A (cW ad cid a2 lx sg gm lg) → va_S A s.heap H locs → lv_has ls 5 [(4, .int x4_13), (3, eV (ad 9) x3_13), (2, .int x2_13), (0, eV (ad 3) x), (1, eV (ad 9) o)] → W p l e (headSpec wm_X9_likeBefore ({ frames := 0, cells := 1, slots := 6, locals := 0 })).room s m ([eV (ad 3) x, eV (ad 9) o] : List Value).toArray below meth c H locs 0 0 (vx_MQ below (cQx dC dI ad cid a2 lx (fun v u => ∃ r : Int32, v = some (.int r) ∧ u = (sg, gm, lg) ∧ (iv 0 80 r)) A) (cX dC dI ad cid a2 lx (fun _ _ => False) A) ([eV (ad 3) x, eV (ad 9) o] : List Value).toArray s 1 6 A) (F0 m 13 ls []) := by
    intro n
    induction n using Nat.strongRecOn with
    | ind n ih13 =>
      intro x4_13 x3_13 x2_13 hn13 hx4_13 hx3_13 hx2_13 hsx0_13 hsx1_13 h24 H locs ls hP hD hS hl
      have hj43 : ∀ (x2_43 : Int32) (_ : iv 0 79 x4_13) (_ : iv 0 79 x3_13) (_ : iv 0 80 x2_43) (_ : iv 0 0 x) (_ : iv 0 79 o) (_ : x2_43.toInt ≤ x4_13.toInt + 1) (H : Heap) (locs : List Loc) (ls : Array Slot), va_P (dC, dI) vwCl (cW ad cid a2 lx sg gm lg) H → va_D A (cW ad cid a2 lx sg gm lg) → va_S A s.heap H locs → lv_has ls 5 [(4, .int x4_13), (3, eV (ad 9) x3_13), (2, .int x2_43), (0, eV (ad 3) x), (1, eV (ad 9) o)] → W p l e (headSpec wm_X9_likeBefore ({ frames := 0, cells := 1, slots := 6, locals := 0 })).room s m ([eV (ad 3) x, eV (ad 9) o] : List Value).toArray below meth c H locs 0 0 (vx_MQ below (cQx dC dI ad cid a2 lx (fun v u => ∃ r : Int32, v = some (.int r) ∧ u = (sg, gm, lg) ∧ (iv 0 80 r)) A) (cX dC dI ad cid a2 lx (fun _ _ => False) A) ([eV (ad 3) x, eV (ad 9) o] : List Value).toArray s 1 6 A) (F0 m 43 ls []) := by
        intro x2_43 hsx4_43 hsx3_43 hx2_43 hsx0_43 hsx1_43 h24 H locs ls hP hD hS hl
        refine ec_aload_n hx hb dX9_likeBefore_43 rfl (lv_at hl 1 rfl) ?_
        refine cr_get (t := 9) (j := 7) (C := RX3) (T := TX3) (N := 21) (v := eV (ad 9) (gm 17 x3_13.toNatClampNeg)) hx hb htb inX3 hown hK hP hsx3_43 (by decide) (by decide) (by decide) rfl (by decide) (htb _ kw_537) rfl dX9_likeBefore_44 ?_
        obtain ⟨z_1, ez_1⟩ : ∃ z : Int32, z = (gm 17 x3_13.toNatClampNeg) := ⟨_, rfl⟩
        refine W.eq (g2 := F0 m 47 ls [eV (ad 9) z_1]) (by rw [ez_1]) ?_
        have hz_1 : iv (-1) 79 z_1 := iv_of ez_1 (CI_a hI 17 hsx3_43 (by decide))
        refine ec_astore_n (i := 3) (lv' := [(3, eV (ad 9) z_1), (4, .int x4_13), (2, .int x2_43), (0, eV (ad 3) x), (1, eV (ad 9) o)]) hx hb dX9_likeBefore_47 rfl hl (by decide) rfl (fun ls hl => ?_)
        obtain ⟨z_2, ez_2⟩ : ∃ z : Int32, z = x4_13 + 1 := ⟨_, rfl⟩
        have hz_2 : iv 1 80 z_2 := iv_of ez_2 (iv_add hsx4_43 (iv_k (by decide) : iv 1 1 1) (by decide))
        have tz_2 : z_2.toInt = x4_13.toInt + 1 := by rw [ez_2]; exact iv_addE hsx4_43 (iv_k (by decide) : iv 1 1 1) (by decide)
        refine lv_iinc (v := z_2) (lv' := [(4, .int z_2), (3, eV (ad 9) z_1), (2, .int x2_43), (0, eV (ad 3) x), (1, eV (ad 9) o)]) hx hb dX9_likeBefore_48 hl (k := 1) rfl ez_2.symm (by decide) (by simp [List.filter, eV_cat, cat_i, cat_l]) (fun ls hl => ?_)
        refine lv_goto (tgt := 13) hx hb dX9_likeBefore_51 (by decide) ?_
        exact ih13 _ (by rw [← hn13]; exact (by have := i32_0; have := i32_1; have := i32_2; have := i32_m1; have := (hsx0_43).1; have := (hsx0_43).2; have := (hsx1_43).1; have := (hsx1_43).2; have := (hsx4_43).1; have := (hsx4_43).2; have := (hsx3_43).1; have := (hsx3_43).2; have := (hx2_13).1; have := (hx2_13).2; have := (hx2_43).1; have := (hx2_43).2; have := (hz_1).1; have := (hz_1).2; have := (hz_2).1; have := (hz_2).2; omega)) z_2 z_1 x2_43 rfl (iv_w hz_2 (by decide)) hz_1 hx2_43 hsx0_43 hsx1_43 (by have := i32_0; have := i32_1; have := i32_2; have := i32_m1; have := (hsx0_43).1; have := (hsx0_43).2; have := (hsx1_43).1; have := (hsx1_43).2; have := (hsx4_43).1; have := (hsx4_43).2; have := (hsx3_43).1; have := (hsx3_43).2; have := (hx2_13).1; have := (hx2_13).2; have := (hx2_43).1; have := (hx2_43).2; have := (hz_1).1; have := (hz_1).2; have := (hz_2).1; have := (hz_2).2; omega) _ _ _ hP hD hS (lv_sub hl [0, 1, 2, 3, 4] rfl)
      refine lv_iload hx hb dX9_likeBefore_13 (lv_at hl 0 rfl) ?_
      refine lv_bipush (v := 80) hx hb dX9_likeBefore_15 (by decide) ?_
      refine lv_icmp_ge (tgt := 54) hx hb dX9_likeBefore_17 (by decide) (fun c_3 => ?_) (fun c_3 => ?_)
      · have h_4 : iv 80 80 x4_13 := iv_leR c_3 (iv_k (by decide) : iv 80 80 80) hx4_13 (by decide)
        exact hj54 x4_13 x3_13 x2_13 (iv_w h_4 (by decide)) hx3_13 hx2_13 hsx0_13 hsx1_13 _ _ _ hP hD hS (lv_sub hl [0, 1, 2, 3, 4] rfl)
      · have h_5 : iv 0 79 x4_13 := iv_ltL (i32_lt c_3) hx4_13 (iv_k (by decide) : iv 80 80 80) (by decide)
        refine ec_aload_n hx hb dX9_likeBefore_20 rfl (lv_at hl 1 rfl) ?_
        refine ec_ifnull (tgt := 54) hx hb dX9_likeBefore_21 (by decide) (fun c_6 => ?_) (fun c_6 => ?_)
        · have h_7 : iv (-1) (-1) x3_13 := ⟨(hx3_13).1, by omega⟩
          exact hj54 x4_13 x3_13 x2_13 (iv_w h_5 (by decide)) (iv_w h_7 (by decide)) hx2_13 hsx0_13 hsx1_13 _ _ _ hP hD hS (lv_sub hl [0, 1, 2, 3, 4] rfl)
        · have h_8 : iv 0 79 x3_13 := ⟨c_6, (hx3_13).2⟩
          refine ec_aload_n hx hb dX9_likeBefore_24 rfl (lv_at hl 1 rfl) ?_
          refine ec_aload_n hx hb dX9_likeBefore_25 rfl (lv_at hl 4 rfl) ?_
          refine ec_acmp_eq (tgt := 54) hx hb dX9_likeBefore_26 (by decide) (fun c_9 => ?_) (fun c_9 => ?_)
          · exact hj54 x4_13 x3_13 x2_13 (iv_w h_5 (by decide)) (iv_w h_8 (by decide)) hx2_13 hsx0_13 hsx1_13 _ _ _ hP hD hS (lv_sub hl [0, 1, 2, 3, 4] rfl)
          · refine ec_aload_n hx hb dX9_likeBefore_29 rfl (lv_at hl 1 rfl) ?_
            refine cr_get (t := 9) (j := 4) (C := RX3) (T := TX3) (N := 21) (v := eV (ad 33) (gm 14 x3_13.toNatClampNeg)) hx hb htb inX3 hown hK hP h_8 (by decide) (by decide) (by decide) rfl (by decide) (htb _ kw_508) rfl dX9_likeBefore_30 ?_
            obtain ⟨z_10, ez_10⟩ : ∃ z : Int32, z = (gm 14 x3_13.toNatClampNeg) := ⟨_, rfl⟩
            refine W.eq (g2 := F0 m 33 ls [eV (ad 33) z_10]) (by rw [ez_10]) ?_
            have hz_10 : iv (-1) 33 z_10 := iv_of ez_10 (CI_a hI 14 h_8 (by decide))
            refine ec_aload_n hx hb dX9_likeBefore_33 rfl (lv_at hl 4 rfl) ?_
            refine cr_get (t := 9) (j := 4) (C := RX3) (T := TX3) (N := 21) (v := eV (ad 33) (gm 14 o.toNatClampNeg)) hx hb htb inX3 hown hK hP hsx1_13 (by decide) (by decide) (by decide) rfl (by decide) (htb _ kw_508) rfl dX9_likeBefore_34 ?_
            obtain ⟨z_11, ez_11⟩ : ∃ z : Int32, z = (gm 14 o.toNatClampNeg) := ⟨_, rfl⟩
            refine W.eq (g2 := F0 m 37 ls [eV (ad 33) z_11, eV (ad 33) z_10]) (by rw [ez_11]) ?_
            have hz_11 : iv (-1) 33 z_11 := iv_of ez_11 (CI_a hI 14 hsx1_13 (by decide))
            refine ec_acmp_ne (tgt := 43) hx hb dX9_likeBefore_37 (by decide) (fun c_12 => ?_) (fun c_12 => ?_)
            · have wc_12 : ¬ z_10.toInt = z_11.toInt := fun q9 => c_12 (congrArg (er (ad 33)) (Int32.toInt_inj.mp q9))
              exact hj43 x2_13 h_5 h_8 hx2_13 hsx0_13 hsx1_13 (by have := i32_0; have := i32_1; have := i32_2; have := i32_m1; have := (hsx0_13).1; have := (hsx0_13).2; have := (hsx1_13).1; have := (hsx1_13).2; have := (h_5).1; have := (h_5).2; have := (h_8).1; have := (h_8).2; have := (hx2_13).1; have := (hx2_13).2; have := (hz_10).1; have := (hz_10).2; have := (hz_11).1; have := (hz_11).2; omega) _ _ _ hP hD hS (lv_sub hl [0, 1, 2, 3, 4] rfl)
            · have wc_12 : z_10.toInt = z_11.toInt := er_wd hG hz_10 hz_11 c_12
              have h_13 : iv 0 79 x2_13 := ⟨(hx2_13).1, by have := i32_0; have := i32_1; have := i32_2; have := i32_m1; have := (hsx0_13).1; have := (hsx0_13).2; have := (hsx1_13).1; have := (hsx1_13).2; have := (h_5).1; have := (h_5).2; have := (h_8).1; have := (h_8).2; have := (hx2_13).1; have := (hx2_13).2; have := (hz_10).1; have := (hz_10).2; have := (hz_11).1; have := (hz_11).2; omega⟩
              obtain ⟨z_14, ez_14⟩ : ∃ z : Int32, z = x2_13 + 1 := ⟨_, rfl⟩
              have hz_14 : iv 1 80 z_14 := iv_of ez_14 (iv_add h_13 (iv_k (by decide) : iv 1 1 1) (by decide))
              have tz_14 : z_14.toInt = x2_13.toInt + 1 := by rw [ez_14]; exact iv_addE h_13 (iv_k (by decide) : iv 1 1 1) (by decide)
              refine lv_iinc (v := z_14) (lv' := [(2, .int z_14), (4, .int x4_13), (3, eV (ad 9) x3_13), (0, eV (ad 3) x), (1, eV (ad 9) o)]) hx hb dX9_likeBefore_40 hl (k := 2) rfl ez_14.symm (by decide) (by simp [List.filter, eV_cat, cat_i, cat_l]) (fun ls hl => ?_)
              exact hj43 z_14 h_5 h_8 (iv_w hz_14 (by decide)) hsx0_13 hsx1_13 (by have := i32_0; have := i32_1; have := i32_2; have := i32_m1; have := (hsx0_13).1; have := (hsx0_13).2; have := (hsx1_13).1; have := (hsx1_13).2; have := (h_5).1; have := (h_5).2; have := (h_8).1; have := (h_8).2; have := (h_13).1; have := (h_13).2; have := (hz_10).1; have := (hz_10).2; have := (hz_11).1; have := (hz_11).2; have := (hz_14).1; have := (hz_14).2; omega) _ _ _ hP hD hS (lv_sub hl [1, 2, 0, 3, 4] rfl)
  refine lv_iconst (v := 0) hx hb dX9_likeBefore_0 (by decide) ?_
  refine lv_istore_n (i := 2) (lv' := [(2, .int 0), (0, eV (ad 3) x), (1, eV (ad 9) o)]) hx hb dX9_likeBefore_1 rfl hl (by decide) (by simp [List.filter, eV_cat, cat_i, cat_l]) (fun ls hl => ?_)
  refine ec_aload_n hx hb dX9_likeBefore_2 rfl (lv_at hl 2 rfl) ?_
  refine cr_get (t := 9) (j := 5) (C := RX3) (T := TX3) (N := 21) (v := eV (ad 9) (gm 15 o.toNatClampNeg)) hx hb htb inX3 hown hK hP hvo (by decide) (by decide) (by decide) rfl (by decide) (htb _ kw_515) rfl dX9_likeBefore_3 ?_
  obtain ⟨z_15, ez_15⟩ : ∃ z : Int32, z = (gm 15 o.toNatClampNeg) := ⟨_, rfl⟩
  refine W.eq (g2 := F0 m 6 ls [eV (ad 9) z_15]) (by rw [ez_15]) ?_
  have hz_15 : iv (-1) 79 z_15 := iv_of ez_15 (CI_a hI 15 hvo (by decide))
  have h_16 : iv 0 79 z_15 := ⟨by rw [ez_15]; exact ho0, (hz_15).2⟩
  refine cr_get (t := 9) (j := 6) (C := RX3) (T := TX3) (N := 21) (v := eV (ad 9) (gm 16 z_15.toNatClampNeg)) hx hb htb inX3 hown hK hP h_16 (by decide) (by decide) (by decide) rfl (by decide) (htb _ kw_536) rfl dX9_likeBefore_6 ?_
  obtain ⟨z_17, ez_17⟩ : ∃ z : Int32, z = (gm 16 z_15.toNatClampNeg) := ⟨_, rfl⟩
  refine W.eq (g2 := F0 m 9 ls [eV (ad 9) z_17]) (by rw [ez_17]) ?_
  have hz_17 : iv (-1) 79 z_17 := iv_of ez_17 (CI_a hI 16 h_16 (by decide))
  refine ec_astore_n (i := 3) (lv' := [(3, eV (ad 9) z_17), (2, .int 0), (0, eV (ad 3) x), (1, eV (ad 9) o)]) hx hb dX9_likeBefore_9 rfl hl (by decide) rfl (fun ls hl => ?_)
  refine lv_iconst (v := 0) hx hb dX9_likeBefore_10 (by decide) ?_
  refine lv_istore (i := 4) (lv' := [(4, .int 0), (3, eV (ad 9) z_17), (2, .int 0), (0, eV (ad 3) x), (1, eV (ad 9) o)]) hx hb dX9_likeBefore_11 hl (by decide) (by simp [List.filter, eV_cat, cat_i, cat_l]) (fun ls hl => ?_)
  exact hj13 _ 0 z_17 0 rfl (iv_w (iv_k (by decide) : iv 0 0 0) (by decide)) hz_17 (iv_w (iv_k (by decide) : iv 0 0 0) (by decide)) hvx hvo (by have := i32_0; have := i32_1; have := i32_2; have := i32_m1; have := (hvx).1; have := (hvx).2; have := (hvo).1; have := (hvo).2; have := (h_16).1; have := (h_16).2; have := (hz_17).1; have := (hz_17).2; omega) _ _ _ hP hD hS (lv_sub hl [0, 1, 2, 3, 4] rfl)

set_option maxHeartbeats 4000000 in
set_option maxRecDepth 100000 in
theorem d_isFirstOfName (l : Launch) (dC : Nat → ClassId) (dI : Nat → Nat → Nat) (ad : Nat → Nat → Nat) (cid : Nat → ClassId) (a2 : Nat → Nat) (lx : List Nat) (sg : Nat → Int32) (gm : Nat → Nat → Int32) (lg : Nat → Nat → Int64) (x : Int32) (o : Int32) (hI : CI sg gm) (hvx : iv 0 0 x) (hvo : iv 0 79 o) (hFA : FA sg gm) (how : o.toInt < (sg 4).toInt) (hVS : VS sg gm) (hLK : LK sg gm) (ho0 : 0 ≤ (gm 15 o.toNatClampNeg).toInt) : CMt dC dI ad cid a2 lx l yX9_isFirstOfName wm_X9_isFirstOfName ({ frames := 2, cells := 1, slots := 6, locals := 47 }) [eV (ad 3) x, eV (ad 9) o] sg gm lg (fun v u => ∃ r : Int32, v = some (.int r) ∧ u = (sg, gm, lg) ∧ (iv 0 1 r)) (fun _ _ => False) := by
  intro sz
  refine vx_ofW (cc := cX9_isFirstOfName) (maxL := 5) (ret := (some .boolean)) (by decide) rfl ?_
  intro p e s m args below meth c s₁ B hml hxt hv
  obtain ⟨rfl, hsz, hP, hK, hD0, hG⟩ := hv
  have hx := B.exec
  have hb := B.bytes
  have hr := B.returns
  have hts := atoms_spec (ws := wm_X9_isFirstOfName) B.pre
  have htb := fun (w : Cond) (h : w ∈ tb) => hts w (List.mem_cons_of_mem _ h)
  have hown : s.vm.findClass RX9 = some m.cls := findClass_of_methodNamed B.named
  have hlocks := B.notSynchronized
  subst hsz
  have hD := hD0.self (sz := s.heap.size)
  generalize hAe : va_A (cW ad cid a2 lx sg gm lg) s.heap.size = A at hD hG ⊢
  have hA : ∀ q : Nat, s.heap.size ≤ q → A q := fun q h => by rw [← hAe]; exact Or.inr h
  have hS : va_S A s.heap s.heap [] := va_S.rf
  have hl := lv_entry ([eV (ad 3) x, eV (ad 9) o]) (n := 5) (by rw [show (lg_sl ([eV (ad 3) x, eV (ad 9) o])).length = 2 from by simp [lg_sl, eV_cat, cat_i, cat_l]]; exact Nat.le_of_ble_eq_true rfl)
  rw [lg_entry_eq]
  generalize (lg_sl ([eV (ad 3) x, eV (ad 9) o]) ++ List.replicate (5 - (lg_sl ([eV (ad 3) x, eV (ad 9) o])).length) Slot.unset).toArray = ls at hl ⊢
  have hl : lv_has ls 5 [(0, eV (ad 3) x), (1, eV (ad 9) o)] := by simp [lv_args, eV_cat, cat_i, cat_l] at hl; exact hl
  have hj78 : ∀ (x4_78 : Int32) (x3_78 : Int32) (x2_78 : Int32) (_ : iv 0 80 x4_78) (_ : iv (-1) 79 x3_78) (_ : iv (-1) 25 x2_78) (_ : iv 0 0 x) (_ : iv 0 79 o) (H : Heap) (locs : List Loc) (ls : Array Slot), va_P (dC, dI) vwCl (cW ad cid a2 lx sg gm lg) H → va_D A (cW ad cid a2 lx sg gm lg) → va_S A s.heap H locs → lv_has ls 5 [(4, .int x4_78), (3, eV (ad 9) x3_78), (2, .int x2_78), (0, eV (ad 3) x), (1, eV (ad 9) o)] → W p l e (headSpec wm_X9_isFirstOfName ({ frames := 2, cells := 1, slots := 6, locals := 47 })).room s m ([eV (ad 3) x, eV (ad 9) o] : List Value).toArray below meth c H locs 0 0 (vx_MQ below (cQx dC dI ad cid a2 lx (fun v u => ∃ r : Int32, v = some (.int r) ∧ u = (sg, gm, lg) ∧ (iv 0 1 r)) A) (cX dC dI ad cid a2 lx (fun _ _ => False) A) ([eV (ad 3) x, eV (ad 9) o] : List Value).toArray s 1 6 A) (F0 m 78 ls []) := by
    intro x4_78 x3_78 x2_78 hx4_78 hx3_78 hx2_78 hsx0_78 hsx1_78 H locs ls hP hD hS hl
    refine lv_iconst (v := 1) hx hb dX9_isFirstOfName_78 (by decide) ?_
    exact W.nb (fun hN => W.widen (k := 1) (n := 6) (by decide) (by decide) (vx_ret (W.zret (v := 1) hx hb hr (iv_nb (iv_w (iv_k (by decide) : iv 1 1 1) (by decide))) (fun t ht hW => ⟨⟨some (.int 1), (sg, gm, lg), rfl, ⟨1, rfl, rfl, (iv_w (iv_k (by decide) : iv 1 1 1) (by decide))⟩, by rw [ht]; exact hP, va_K.moved hW.alike hK, hD⟩, hS.F ht, by rw [ht]; exact hN⟩) hS.2.2 dX9_isFirstOfName_79)))
  have hj23 : ∀ (n : Nat) (x4_23 : Int32) (x3_23 : Int32) (x2_23 : Int32) (_ : (80 - x4_23.toInt).toNat = n) (_ : iv 0 80 x4_23) (_ : iv (-1) 79 x3_23) (_ : iv (-1) 25 x2_23) (_ : iv 0 0 x) (_ : iv 0 79 o) (_ : x3_23.toInt < (sg 4).toInt) (H : Heap) (locs : List Loc) (ls : Array Slot), va_P (dC, dI) vwCl (cW ad cid a2 lx sg gm lg) H → va_D A (cW ad cid a2 lx sg gm lg) → va_S A s.heap H locs → lv_has ls 5 [(4, .int x4_23), (3, eV (ad 9) x3_23), (2, .int x2_23), (0, eV (ad 3) x), (1, eV (ad 9) o)] → W p l e (headSpec wm_X9_isFirstOfName ({ frames := 2, cells := 1, slots := 6, locals := 47 })).room s m ([eV (ad 3) x, eV (ad 9) o] : List Value).toArray below meth c H locs 0 0 (vx_MQ below (cQx dC dI ad cid a2 lx (fun v u => ∃ r : Int32, v = some (.int r) ∧ u = (sg, gm, lg) ∧ (iv 0 1 r)) A) (cX dC dI ad cid a2 lx (fun _ _ => False) A) ([eV (ad 3) x, eV (ad 9) o] : List Value).toArray s 1 6 A) (F0 m 23 ls []) := by
    intro n
    induction n using Nat.strongRecOn with
    | ind n ih23 =>
      intro x4_23 x3_23 x2_23 hn23 hx4_23 hx3_23 hx2_23 hsx0_23 hsx1_23 hl3 H locs ls hP hD hS hl
      have hj67 : ∀ (_ : iv 0 79 x4_23) (_ : iv 0 79 x3_23) (_ : iv (-1) 25 x2_23) (_ : iv 0 0 x) (_ : iv 0 79 o) (_ : x3_23.toInt < (sg 4).toInt) (H : Heap) (locs : List Loc) (ls : Array Slot), va_P (dC, dI) vwCl (cW ad cid a2 lx sg gm lg) H → va_D A (cW ad cid a2 lx sg gm lg) → va_S A s.heap H locs → lv_has ls 5 [(4, .int x4_23), (3, eV (ad 9) x3_23), (2, .int x2_23), (0, eV (ad 3) x), (1, eV (ad 9) o)] → W p l e (headSpec wm_X9_isFirstOfName ({ frames := 2, cells := 1, slots := 6, locals := 47 })).room s m ([eV (ad 3) x, eV (ad 9) o] : List Value).toArray below meth c H locs 0 0 (vx_MQ below (cQx dC dI ad cid a2 lx (fun v u => ∃ r : Int32, v = some (.int r) ∧ u = (sg, gm, lg) ∧ (iv 0 1 r)) A) (cX dC dI ad cid a2 lx (fun _ _ => False) A) ([eV (ad 3) x, eV (ad 9) o] : List Value).toArray s 1 6 A) (F0 m 67 ls []) := by
        intro  hsx4_67 hsx3_67 hsx2_67 hsx0_67 hsx1_67 hl3 H locs ls hP hD hS hl
        refine ec_aload_n hx hb dX9_isFirstOfName_67 rfl (lv_at hl 1 rfl) ?_
        refine cr_get (t := 9) (j := 7) (C := RX3) (T := TX3) (N := 21) (v := eV (ad 9) (gm 17 x3_23.toNatClampNeg)) hx hb htb inX3 hown hK hP hsx3_67 (by decide) (by decide) (by decide) rfl (by decide) (htb _ kw_537) rfl dX9_isFirstOfName_68 ?_
        obtain ⟨z_1, ez_1⟩ : ∃ z : Int32, z = (gm 17 x3_23.toNatClampNeg) := ⟨_, rfl⟩
        refine W.eq (g2 := F0 m 71 ls [eV (ad 9) z_1]) (by rw [ez_1]) ?_
        have hz_1 : iv (-1) 79 z_1 := iv_of ez_1 (CI_a hI 17 hsx3_67 (by decide))
        refine ec_astore_n (i := 3) (lv' := [(3, eV (ad 9) z_1), (4, .int x4_23), (2, .int x2_23), (0, eV (ad 3) x), (1, eV (ad 9) o)]) hx hb dX9_isFirstOfName_71 rfl hl (by decide) rfl (fun ls hl => ?_)
        obtain ⟨z_2, ez_2⟩ : ∃ z : Int32, z = x4_23 + 1 := ⟨_, rfl⟩
        have hz_2 : iv 1 80 z_2 := iv_of ez_2 (iv_add hsx4_67 (iv_k (by decide) : iv 1 1 1) (by decide))
        have tz_2 : z_2.toInt = x4_23.toInt + 1 := by rw [ez_2]; exact iv_addE hsx4_67 (iv_k (by decide) : iv 1 1 1) (by decide)
        refine lv_iinc (v := z_2) (lv' := [(4, .int z_2), (3, eV (ad 9) z_1), (2, .int x2_23), (0, eV (ad 3) x), (1, eV (ad 9) o)]) hx hb dX9_isFirstOfName_72 hl (k := 1) rfl ez_2.symm (by decide) (by simp [List.filter, eV_cat, cat_i, cat_l]) (fun ls hl => ?_)
        refine lv_goto (tgt := 23) hx hb dX9_isFirstOfName_75 (by decide) ?_
        exact ih23 _ (by rw [← hn23]; exact (iv_meas tz_2 hsx4_67 (by decide))) z_2 z_1 x2_23 rfl (iv_w hz_2 (by decide)) hz_1 hsx2_67 hsx0_67 hsx1_67 ((by rw [ez_1]; exact (hLK _ (lt_cl hsx3_67 (show iv 0 80 (sg 4) from CI_s hI 4) (by decide) (by decide) (by have := i32_0; have := i32_1; have := i32_2; have := i32_m1; have := (show iv 0 80 (sg 4) from CI_s hI 4).1; have := (show iv 0 80 (sg 4) from CI_s hI 4).2; have := (hsx0_67).1; have := (hsx0_67).2; have := (hsx1_67).1; have := (hsx1_67).2; have := (hsx4_67).1; have := (hsx4_67).2; have := (hsx3_67).1; have := (hsx3_67).2; have := (hsx2_67).1; have := (hsx2_67).2; have := (hz_1).1; have := (hz_1).2; have := (hz_2).1; have := (hz_2).2; omega))).2.2.1)) _ _ _ hP hD hS (lv_sub hl [0, 1, 2, 3, 4] rfl)
      refine lv_iload hx hb dX9_isFirstOfName_23 (lv_at hl 0 rfl) ?_
      refine lv_bipush (v := 80) hx hb dX9_isFirstOfName_25 (by decide) ?_
      refine lv_icmp_ge (tgt := 78) hx hb dX9_isFirstOfName_27 (by decide) (fun c_3 => ?_) (fun c_3 => ?_)
      · have h_4 : iv 80 80 x4_23 := iv_leR c_3 (iv_k (by decide) : iv 80 80 80) hx4_23 (by decide)
        exact hj78 x4_23 x3_23 x2_23 (iv_w h_4 (by decide)) hx3_23 hx2_23 hsx0_23 hsx1_23 _ _ _ hP hD hS (lv_sub hl [0, 1, 2, 3, 4] rfl)
      · have h_5 : iv 0 79 x4_23 := iv_ltL (i32_lt c_3) hx4_23 (iv_k (by decide) : iv 80 80 80) (by decide)
        refine ec_aload_n hx hb dX9_isFirstOfName_30 rfl (lv_at hl 1 rfl) ?_
        refine ec_ifnull (tgt := 78) hx hb dX9_isFirstOfName_31 (by decide) (fun c_6 => ?_) (fun c_6 => ?_)
        · have h_7 : iv (-1) (-1) x3_23 := ⟨(hx3_23).1, by omega⟩
          exact hj78 x4_23 x3_23 x2_23 (iv_w h_5 (by decide)) (iv_w h_7 (by decide)) hx2_23 hsx0_23 hsx1_23 _ _ _ hP hD hS (lv_sub hl [0, 1, 2, 3, 4] rfl)
        · have h_8 : iv 0 79 x3_23 := ⟨c_6, (hx3_23).2⟩
          refine ec_aload_n hx hb dX9_isFirstOfName_34 rfl (lv_at hl 1 rfl) ?_
          refine ec_aload_n hx hb dX9_isFirstOfName_35 rfl (lv_at hl 4 rfl) ?_
          refine ec_acmp_eq (tgt := 78) hx hb dX9_isFirstOfName_36 (by decide) (fun c_9 => ?_) (fun c_9 => ?_)
          · exact hj78 x4_23 x3_23 x2_23 (iv_w h_5 (by decide)) (iv_w h_8 (by decide)) hx2_23 hsx0_23 hsx1_23 _ _ _ hP hD hS (lv_sub hl [0, 1, 2, 3, 4] rfl)
          · refine ec_aload_n hx hb dX9_isFirstOfName_39 rfl (lv_at hl 1 rfl) ?_
            refine cr_get (t := 9) (j := 4) (C := RX3) (T := TX3) (N := 21) (v := eV (ad 33) (gm 14 x3_23.toNatClampNeg)) hx hb htb inX3 hown hK hP h_8 (by decide) (by decide) (by decide) rfl (by decide) (htb _ kw_508) rfl dX9_isFirstOfName_40 ?_
            obtain ⟨z_10, ez_10⟩ : ∃ z : Int32, z = (gm 14 x3_23.toNatClampNeg) := ⟨_, rfl⟩
            refine W.eq (g2 := F0 m 43 ls [eV (ad 33) z_10]) (by rw [ez_10]) ?_
            have hz_10 : iv (-1) 33 z_10 := iv_of ez_10 (CI_a hI 14 h_8 (by decide))
            refine ec_aload_n hx hb dX9_isFirstOfName_43 rfl (lv_at hl 4 rfl) ?_
            refine cr_get (t := 9) (j := 4) (C := RX3) (T := TX3) (N := 21) (v := eV (ad 33) (gm 14 o.toNatClampNeg)) hx hb htb inX3 hown hK hP hsx1_23 (by decide) (by decide) (by decide) rfl (by decide) (htb _ kw_508) rfl dX9_isFirstOfName_44 ?_
            obtain ⟨z_11, ez_11⟩ : ∃ z : Int32, z = (gm 14 o.toNatClampNeg) := ⟨_, rfl⟩
            refine W.eq (g2 := F0 m 47 ls [eV (ad 33) z_11, eV (ad 33) z_10]) (by rw [ez_11]) ?_
            have hz_11 : iv (-1) 33 z_11 := iv_of ez_11 (CI_a hI 14 hsx1_23 (by decide))
            refine ec_acmp_ne (tgt := 67) hx hb dX9_isFirstOfName_47 (by decide) (fun c_12 => ?_) (fun c_12 => ?_)
            · have wc_12 : ¬ z_10.toInt = z_11.toInt := fun q9 => c_12 (congrArg (er (ad 33)) (Int32.toInt_inj.mp q9))
              exact hj67 h_5 h_8 hx2_23 hsx0_23 hsx1_23 (hl3) _ _ _ hP hD hS (lv_sub hl [0, 1, 2, 3, 4] rfl)
            · have wc_12 : z_10.toInt = z_11.toInt := er_wd hG hz_10 hz_11 c_12
              refine ec_aload_n hx hb dX9_isFirstOfName_50 rfl (lv_at hl 3 rfl) ?_
              refine cr_get (t := 3) (j := 0) (C := RX9) (T := TX9) (N := 1) (v := eV (ad 1) 0) hx hb htb inX9 hown hK hP hsx0_23 (by decide) (by decide) (by decide) rfl (by decide) (htb _ kw_82) (cV_c rfl (by decide) (by rw [show cMu 3 0 = 0 from rfl, Nat.zero_mul]; rfl)) dX9_isFirstOfName_51 ?_
              refine ec_aload_n hx hb dX9_isFirstOfName_54 rfl (lv_at hl 1 rfl) ?_
              refine cw_word (k := 21) (kx := 21) hx hb hG hS (by decide) rfl ⟨by decide, by decide⟩ hown (htb _ kw_541) dX9_isFirstOfName_55 ?_
              refine cm_callV (t := 1) (C := RX6) (T := TX6) (N := 8) (rest := []) (as := [eV (ad 9) x3_23, eV (ad 33) 21]) ⟨hx, hb, hml, hown, htb⟩ (d_letterValue l dC dI ad cid a2 lx sg gm lg 0 x3_23 21 hI (iv_k (by decide) : iv 0 0 0) h_8 (iv_w (iv_k (by decide) : iv 21 21 21) (by decide)) hFA (by have := i32_0; have := i32_1; have := i32_2; have := i32_m1; have := (show iv 0 80 (sg 4) from CI_s hI 4).1; have := (show iv 0 80 (sg 4) from CI_s hI 4).2; have := (hsx0_23).1; have := (hsx0_23).2; have := (hsx1_23).1; have := (hsx1_23).2; have := (h_5).1; have := (h_5).2; have := (h_8).1; have := (h_8).2; have := (hx2_23).1; have := (hx2_23).2; have := (hz_10).1; have := (hz_10).2; have := (hz_11).1; have := (hz_11).2; omega) hVS) (cwV 2 htb (gd_V kw_542 kw_543 kw_544 kw_20 kw_1466) rfl rfl rfl (by decide +kernel) ⟨Nat.le_of_ble_eq_true rfl, Nat.le_of_ble_eq_true rfl⟩) (iv_k (by decide) : iv 0 0 0) (by decide) (by decide) rfl rfl hl.1 rfl (Nat.le_trans cs_n (by decide)) dX9_isFirstOfName_58 ⟨Nat.le_of_ble_eq_true rfl, Nat.le_of_ble_eq_true rfl⟩ hK hP hD hS hA hG (fun E ce q9 u_14 H locs hw hP hD hS hce hcv hcl => ?_) (fun v9 u_14 H locs hw hP hD hS => ?_)
              · exact hw.elim
              obtain ⟨r_13, rfl, rfl, hr_13, fP_r_13, fQ_r_13⟩ := hw
              have hP : va_P (dC, dI) vwCl (cW ad cid a2 lx sg gm lg) H := hP
              have hD : va_D A (cW ad cid a2 lx sg gm lg) := hD
              refine W.eq (g2 := F0 m 61 ls [.int r_13]) rfl ?_
              refine lv_iload_n hx hb dX9_isFirstOfName_61 rfl (lv_at hl 2 rfl) ?_
              refine lv_icmp_ne (tgt := 67) hx hb dX9_isFirstOfName_62 (by decide) (fun c_16 => ?_) (fun c_16 => ?_)
              · exact hj67 h_5 h_8 hx2_23 hsx0_23 hsx1_23 (hl3) _ _ _ hP hD hS (lv_sub hl [0, 1, 2, 3, 4] rfl)
              · have d_17 : (r_13 : Int32).toInt = (x2_23 : Int32).toInt := congrArg Int32.toInt c_16
                refine lv_iconst (v := 0) hx hb dX9_isFirstOfName_65 (by decide) ?_
                exact W.nb (fun hN => W.widen (k := 1) (n := 6) (by decide) (by decide) (vx_ret (W.zret (v := 0) hx hb hr (iv_nb (iv_w (iv_k (by decide) : iv 0 0 0) (by decide))) (fun t ht hW => ⟨⟨some (.int 0), (sg, gm, lg), rfl, ⟨0, rfl, rfl, (iv_w (iv_k (by decide) : iv 0 0 0) (by decide))⟩, by rw [ht]; exact hP, va_K.moved hW.alike hK, hD⟩, hS.F ht, by rw [ht]; exact hN⟩) hS.2.2 dX9_isFirstOfName_66)))
  refine ec_aload_n hx hb dX9_isFirstOfName_0 rfl (lv_at hl 0 rfl) ?_
  refine cr_get (t := 3) (j := 0) (C := RX9) (T := TX9) (N := 1) (v := eV (ad 1) 0) hx hb htb inX9 hown hK hP hvx (by decide) (by decide) (by decide) rfl (by decide) (htb _ kw_82) (cV_c rfl (by decide) (by rw [show cMu 3 0 = 0 from rfl, Nat.zero_mul]; rfl)) dX9_isFirstOfName_1 ?_
  refine ec_aload_n hx hb dX9_isFirstOfName_4 rfl (lv_at hl 1 rfl) ?_
  refine cw_word (k := 21) (kx := 21) hx hb hG hS (by decide) rfl ⟨by decide, by decide⟩ hown (htb _ kw_541) dX9_isFirstOfName_5 ?_
  refine cm_callV (t := 1) (C := RX6) (T := TX6) (N := 8) (rest := []) (as := [eV (ad 9) o, eV (ad 33) 21]) ⟨hx, hb, hml, hown, htb⟩ (d_letterValue l dC dI ad cid a2 lx sg gm lg 0 o 21 hI (iv_k (by decide) : iv 0 0 0) hvo (iv_w (iv_k (by decide) : iv 21 21 21) (by decide)) hFA how hVS) (cwV 2 htb (gd_V kw_542 kw_543 kw_544 kw_20 kw_1466) rfl rfl rfl (by decide +kernel) ⟨Nat.le_of_ble_eq_true rfl, Nat.le_of_ble_eq_true rfl⟩) (iv_k (by decide) : iv 0 0 0) (by decide) (by decide) rfl rfl hl.1 rfl (Nat.le_trans cs_n (by decide)) dX9_isFirstOfName_8 ⟨Nat.le_of_ble_eq_true rfl, Nat.le_of_ble_eq_true rfl⟩ hK hP hD hS hA hG (fun E ce q9 u_19 H locs hw hP hD hS hce hcv hcl => ?_) (fun v9 u_19 H locs hw hP hD hS => ?_)
  · exact hw.elim
  obtain ⟨r_18, rfl, rfl, hr_18, fP_r_18, fQ_r_18⟩ := hw
  have hP : va_P (dC, dI) vwCl (cW ad cid a2 lx sg gm lg) H := hP
  have hD : va_D A (cW ad cid a2 lx sg gm lg) := hD
  refine W.eq (g2 := F0 m 11 ls [.int r_18]) rfl ?_
  refine lv_istore_n (i := 2) (lv' := [(2, .int r_18), (0, eV (ad 3) x), (1, eV (ad 9) o)]) hx hb dX9_isFirstOfName_11 rfl hl (by decide) (by simp [List.filter, eV_cat, cat_i, cat_l]) (fun ls hl => ?_)
  refine ec_aload_n hx hb dX9_isFirstOfName_12 rfl (lv_at hl 2 rfl) ?_
  refine cr_get (t := 9) (j := 5) (C := RX3) (T := TX3) (N := 21) (v := eV (ad 9) (gm 15 o.toNatClampNeg)) hx hb htb inX3 hown hK hP hvo (by decide) (by decide) (by decide) rfl (by decide) (htb _ kw_515) rfl dX9_isFirstOfName_13 ?_
  obtain ⟨z_21, ez_21⟩ : ∃ z : Int32, z = (gm 15 o.toNatClampNeg) := ⟨_, rfl⟩
  refine W.eq (g2 := F0 m 16 ls [eV (ad 9) z_21]) (by rw [ez_21]) ?_
  have hz_21 : iv (-1) 79 z_21 := iv_of ez_21 (CI_a hI 15 hvo (by decide))
  have h_22 : iv 0 79 z_21 := ⟨by rw [ez_21]; exact ho0, (hz_21).2⟩
  refine cr_get (t := 9) (j := 6) (C := RX3) (T := TX3) (N := 21) (v := eV (ad 9) (gm 16 z_21.toNatClampNeg)) hx hb htb inX3 hown hK hP h_22 (by decide) (by decide) (by decide) rfl (by decide) (htb _ kw_536) rfl dX9_isFirstOfName_16 ?_
  obtain ⟨z_23, ez_23⟩ : ∃ z : Int32, z = (gm 16 z_21.toNatClampNeg) := ⟨_, rfl⟩
  refine W.eq (g2 := F0 m 19 ls [eV (ad 9) z_23]) (by rw [ez_23]) ?_
  have hz_23 : iv (-1) 79 z_23 := iv_of ez_23 (CI_a hI 16 h_22 (by decide))
  refine ec_astore_n (i := 3) (lv' := [(3, eV (ad 9) z_23), (2, .int r_18), (0, eV (ad 3) x), (1, eV (ad 9) o)]) hx hb dX9_isFirstOfName_19 rfl hl (by decide) rfl (fun ls hl => ?_)
  refine lv_iconst (v := 0) hx hb dX9_isFirstOfName_20 (by decide) ?_
  refine lv_istore (i := 4) (lv' := [(4, .int 0), (3, eV (ad 9) z_23), (2, .int r_18), (0, eV (ad 3) x), (1, eV (ad 9) o)]) hx hb dX9_isFirstOfName_21 hl (by decide) (by simp [List.filter, eV_cat, cat_i, cat_l]) (fun ls hl => ?_)
  exact hj23 _ 0 z_23 r_18 rfl (iv_w (iv_k (by decide) : iv 0 0 0) (by decide)) hz_23 hr_18 hvx hvo ((by rw [ez_23]; exact (hLK _ (lt_cl h_22 (show iv 0 80 (sg 4) from CI_s hI 4) (by decide) (by decide) (by rw [ez_21]; exact (hLK _ (lt_cl hvo (show iv 0 80 (sg 4) from CI_s hI 4) (by decide) (by decide) how)).1))).2.1)) _ _ _ hP hD hS (lv_sub hl [0, 1, 2, 3, 4] rfl)

set_option maxHeartbeats 4000000 in
set_option maxRecDepth 100000 in
theorem d_standsRight (l : Launch) (dC : Nat → ClassId) (dI : Nat → Nat → Nat) (ad : Nat → Nat → Nat) (cid : Nat → ClassId) (a2 : Nat → Nat) (lx : List Nat) (sg : Nat → Int32) (gm : Nat → Nat → Int32) (lg : Nat → Nat → Int64) (x : Int32) (o : Int32) (hI : CI sg gm) (hvx : iv 0 0 x) (hvo : iv 0 79 o) (hFA : FA sg gm) (how : o.toInt < (sg 4).toInt) (hVS : VS sg gm) (hLK : LK sg gm) (hw0 : 0 ≤ (gm 14 o.toNatClampNeg).toInt) : CMt dC dI ad cid a2 lx l yX9_standsRight wm_X9_standsRight ({ frames := 3, cells := 1, slots := 6, locals := 71 }) [eV (ad 3) x, eV (ad 9) o] sg gm lg (fun v u => ∃ r : Int32, v = some (.int r) ∧ u = (sg, gm, lg) ∧ (iv 0 1 r) ∧ (r.toInt = 0 ∨ HOK gm o.toNatClampNeg)) (fun _ _ => False) := by
  intro sz
  refine vx_ofW (cc := cX9_standsRight) (maxL := 2) (ret := (some .boolean)) (by decide) rfl ?_
  intro p e s m args below meth c s₁ B hml hxt hv
  obtain ⟨rfl, hsz, hP, hK, hD0, hG⟩ := hv
  have hx := B.exec
  have hb := B.bytes
  have hr := B.returns
  have hts := atoms_spec (ws := wm_X9_standsRight) B.pre
  have htb := fun (w : Cond) (h : w ∈ tb) => hts w (List.mem_cons_of_mem _ h)
  have hown : s.vm.findClass RX9 = some m.cls := findClass_of_methodNamed B.named
  have hlocks := B.notSynchronized
  subst hsz
  have hD := hD0.self (sz := s.heap.size)
  generalize hAe : va_A (cW ad cid a2 lx sg gm lg) s.heap.size = A at hD hG ⊢
  have hA : ∀ q : Nat, s.heap.size ≤ q → A q := fun q h => by rw [← hAe]; exact Or.inr h
  have hS : va_S A s.heap s.heap [] := va_S.rf
  have hl := lv_entry ([eV (ad 3) x, eV (ad 9) o]) (n := 2) (by rw [show (lg_sl ([eV (ad 3) x, eV (ad 9) o])).length = 2 from by simp [lg_sl, eV_cat, cat_i, cat_l]]; exact Nat.le_of_ble_eq_true rfl)
  rw [lg_entry_eq]
  generalize (lg_sl ([eV (ad 3) x, eV (ad 9) o]) ++ List.replicate (2 - (lg_sl ([eV (ad 3) x, eV (ad 9) o])).length) Slot.unset).toArray = ls at hl ⊢
  have hl : lv_has ls 2 [(0, eV (ad 3) x), (1, eV (ad 9) o)] := by simp [lv_args, eV_cat, cat_i, cat_l] at hl; exact hl
  have hj76 : ∀ (y0_76 : Int32) (_ : iv 0 0 x) (_ : iv 0 79 o) (_ : iv 0 1 y0_76) (_ : y0_76.toInt = 0 ∨ HOK gm o.toNatClampNeg) (H : Heap) (locs : List Loc) (ls : Array Slot), va_P (dC, dI) vwCl (cW ad cid a2 lx sg gm lg) H → va_D A (cW ad cid a2 lx sg gm lg) → va_S A s.heap H locs → lv_has ls 2 [(0, eV (ad 3) x), (1, eV (ad 9) o)] → W p l e (headSpec wm_X9_standsRight ({ frames := 3, cells := 1, slots := 6, locals := 71 })).room s m ([eV (ad 3) x, eV (ad 9) o] : List Value).toArray below meth c H locs 0 0 (vx_MQ below (cQx dC dI ad cid a2 lx (fun v u => ∃ r : Int32, v = some (.int r) ∧ u = (sg, gm, lg) ∧ (iv 0 1 r) ∧ (r.toInt = 0 ∨ HOK gm o.toNatClampNeg)) A) (cX dC dI ad cid a2 lx (fun _ _ => False) A) ([eV (ad 3) x, eV (ad 9) o] : List Value).toArray s 1 6 A) (F0 m 76 ls [.int y0_76]) := by
    intro y0_76 hsx0_76 hsx1_76 hy0_76 hR9 H locs ls hP hD hS hl
    exact W.nb (fun hN => W.widen (k := 1) (n := 6) (by decide) (by decide) (vx_ret (W.zret (v := y0_76) hx hb hr (iv_nb hy0_76) (fun t ht hW => ⟨⟨some (.int y0_76), (sg, gm, lg), rfl, ⟨y0_76, rfl, rfl, hy0_76, (hR9)⟩, by rw [ht]; exact hP, va_K.moved hW.alike hK, hD⟩, hS.F ht, by rw [ht]; exact hN⟩) hS.2.2 dX9_standsRight_76)))
  have hj108 : ∀ (y0_108 : Int32) (_ : iv 0 0 x) (_ : iv 0 79 o) (_ : iv 0 1 y0_108) (_ : y0_108.toInt = 0 ∨ HOK gm o.toNatClampNeg) (H : Heap) (locs : List Loc) (ls : Array Slot), va_P (dC, dI) vwCl (cW ad cid a2 lx sg gm lg) H → va_D A (cW ad cid a2 lx sg gm lg) → va_S A s.heap H locs → lv_has ls 2 [(0, eV (ad 3) x), (1, eV (ad 9) o)] → W p l e (headSpec wm_X9_standsRight ({ frames := 3, cells := 1, slots := 6, locals := 71 })).room s m ([eV (ad 3) x, eV (ad 9) o] : List Value).toArray below meth c H locs 0 0 (vx_MQ below (cQx dC dI ad cid a2 lx (fun v u => ∃ r : Int32, v = some (.int r) ∧ u = (sg, gm, lg) ∧ (iv 0 1 r) ∧ (r.toInt = 0 ∨ HOK gm o.toNatClampNeg)) A) (cX dC dI ad cid a2 lx (fun _ _ => False) A) ([eV (ad 3) x, eV (ad 9) o] : List Value).toArray s 1 6 A) (F0 m 108 ls [.int y0_108]) := by
    intro y0_108 hsx0_108 hsx1_108 hy0_108 hR9 H locs ls hP hD hS hl
    exact W.nb (fun hN => W.widen (k := 1) (n := 6) (by decide) (by decide) (vx_ret (W.zret (v := y0_108) hx hb hr (iv_nb hy0_108) (fun t ht hW => ⟨⟨some (.int y0_108), (sg, gm, lg), rfl, ⟨y0_108, rfl, rfl, hy0_108, (hR9)⟩, by rw [ht]; exact hP, va_K.moved hW.alike hK, hD⟩, hS.F ht, by rw [ht]; exact hN⟩) hS.2.2 dX9_standsRight_108)))
  have hj103 : ∀ (_ : iv 0 0 x) (_ : iv 0 79 o) (_ : HOK gm o.toNatClampNeg) (H : Heap) (locs : List Loc) (ls : Array Slot), va_P (dC, dI) vwCl (cW ad cid a2 lx sg gm lg) H → va_D A (cW ad cid a2 lx sg gm lg) → va_S A s.heap H locs → lv_has ls 2 [(0, eV (ad 3) x), (1, eV (ad 9) o)] → W p l e (headSpec wm_X9_standsRight ({ frames := 3, cells := 1, slots := 6, locals := 71 })).room s m ([eV (ad 3) x, eV (ad 9) o] : List Value).toArray below meth c H locs 0 0 (vx_MQ below (cQx dC dI ad cid a2 lx (fun v u => ∃ r : Int32, v = some (.int r) ∧ u = (sg, gm, lg) ∧ (iv 0 1 r) ∧ (r.toInt = 0 ∨ HOK gm o.toNatClampNeg)) A) (cX dC dI ad cid a2 lx (fun _ _ => False) A) ([eV (ad 3) x, eV (ad 9) o] : List Value).toArray s 1 6 A) (F0 m 103 ls []) := by
    intro  hsx0_103 hsx1_103 hH H locs ls hP hD hS hl
    refine lv_iconst (v := 1) hx hb dX9_standsRight_103 (by decide) ?_
    refine lv_goto (tgt := 108) hx hb dX9_standsRight_104 (by decide) ?_
    exact hj108 1 hsx0_103 hsx1_103 (iv_w (iv_k (by decide) : iv 1 1 1) (by decide)) (Or.inr hH) _ _ _ hP hD hS (lv_sub hl [0, 1] rfl)
  have hj133 : ∀ (y0_133 : Int32) (_ : iv 0 0 x) (_ : iv 0 79 o) (_ : iv 0 1 y0_133) (_ : y0_133.toInt = 0 ∨ HOK gm o.toNatClampNeg) (H : Heap) (locs : List Loc) (ls : Array Slot), va_P (dC, dI) vwCl (cW ad cid a2 lx sg gm lg) H → va_D A (cW ad cid a2 lx sg gm lg) → va_S A s.heap H locs → lv_has ls 2 [(0, eV (ad 3) x), (1, eV (ad 9) o)] → W p l e (headSpec wm_X9_standsRight ({ frames := 3, cells := 1, slots := 6, locals := 71 })).room s m ([eV (ad 3) x, eV (ad 9) o] : List Value).toArray below meth c H locs 0 0 (vx_MQ below (cQx dC dI ad cid a2 lx (fun v u => ∃ r : Int32, v = some (.int r) ∧ u = (sg, gm, lg) ∧ (iv 0 1 r) ∧ (r.toInt = 0 ∨ HOK gm o.toNatClampNeg)) A) (cX dC dI ad cid a2 lx (fun _ _ => False) A) ([eV (ad 3) x, eV (ad 9) o] : List Value).toArray s 1 6 A) (F0 m 133 ls [.int y0_133]) := by
    intro y0_133 hsx0_133 hsx1_133 hy0_133 hR9 H locs ls hP hD hS hl
    exact W.nb (fun hN => W.widen (k := 1) (n := 6) (by decide) (by decide) (vx_ret (W.zret (v := y0_133) hx hb hr (iv_nb hy0_133) (fun t ht hW => ⟨⟨some (.int y0_133), (sg, gm, lg), rfl, ⟨y0_133, rfl, rfl, hy0_133, (hR9)⟩, by rw [ht]; exact hP, va_K.moved hW.alike hK, hD⟩, hS.F ht, by rw [ht]; exact hN⟩) hS.2.2 dX9_standsRight_133)))
  have hj132 : ∀ (_ : iv 0 0 x) (_ : iv 0 79 o) (H : Heap) (locs : List Loc) (ls : Array Slot), va_P (dC, dI) vwCl (cW ad cid a2 lx sg gm lg) H → va_D A (cW ad cid a2 lx sg gm lg) → va_S A s.heap H locs → lv_has ls 2 [(0, eV (ad 3) x), (1, eV (ad 9) o)] → W p l e (headSpec wm_X9_standsRight ({ frames := 3, cells := 1, slots := 6, locals := 71 })).room s m ([eV (ad 3) x, eV (ad 9) o] : List Value).toArray below meth c H locs 0 0 (vx_MQ below (cQx dC dI ad cid a2 lx (fun v u => ∃ r : Int32, v = some (.int r) ∧ u = (sg, gm, lg) ∧ (iv 0 1 r) ∧ (r.toInt = 0 ∨ HOK gm o.toNatClampNeg)) A) (cX dC dI ad cid a2 lx (fun _ _ => False) A) ([eV (ad 3) x, eV (ad 9) o] : List Value).toArray s 1 6 A) (F0 m 132 ls []) := by
    intro  hsx0_132 hsx1_132 H locs ls hP hD hS hl
    refine lv_iconst (v := 0) hx hb dX9_standsRight_132 (by decide) ?_
    exact hj133 0 hsx0_132 hsx1_132 (iv_w (iv_k (by decide) : iv 0 0 0) (by decide)) (Or.inl rfl) _ _ _ hP hD hS (lv_sub hl [0, 1] rfl)
  have hj167 : ∀ (y0_167 : Int32) (_ : iv 0 0 x) (_ : iv 0 79 o) (_ : iv 0 1 y0_167) (_ : y0_167.toInt = 0 ∨ HOK gm o.toNatClampNeg) (H : Heap) (locs : List Loc) (ls : Array Slot), va_P (dC, dI) vwCl (cW ad cid a2 lx sg gm lg) H → va_D A (cW ad cid a2 lx sg gm lg) → va_S A s.heap H locs → lv_has ls 2 [(0, eV (ad 3) x), (1, eV (ad 9) o)] → W p l e (headSpec wm_X9_standsRight ({ frames := 3, cells := 1, slots := 6, locals := 71 })).room s m ([eV (ad 3) x, eV (ad 9) o] : List Value).toArray below meth c H locs 0 0 (vx_MQ below (cQx dC dI ad cid a2 lx (fun v u => ∃ r : Int32, v = some (.int r) ∧ u = (sg, gm, lg) ∧ (iv 0 1 r) ∧ (r.toInt = 0 ∨ HOK gm o.toNatClampNeg)) A) (cX dC dI ad cid a2 lx (fun _ _ => False) A) ([eV (ad 3) x, eV (ad 9) o] : List Value).toArray s 1 6 A) (F0 m 167 ls [.int y0_167]) := by
    intro y0_167 hsx0_167 hsx1_167 hy0_167 hR9 H locs ls hP hD hS hl
    exact W.nb (fun hN => W.widen (k := 1) (n := 6) (by decide) (by decide) (vx_ret (W.zret (v := y0_167) hx hb hr (iv_nb hy0_167) (fun t ht hW => ⟨⟨some (.int y0_167), (sg, gm, lg), rfl, ⟨y0_167, rfl, rfl, hy0_167, (hR9)⟩, by rw [ht]; exact hP, va_K.moved hW.alike hK, hD⟩, hS.F ht, by rw [ht]; exact hN⟩) hS.2.2 dX9_standsRight_167)))
  have hj166 : ∀ (_ : iv 0 0 x) (_ : iv 0 79 o) (H : Heap) (locs : List Loc) (ls : Array Slot), va_P (dC, dI) vwCl (cW ad cid a2 lx sg gm lg) H → va_D A (cW ad cid a2 lx sg gm lg) → va_S A s.heap H locs → lv_has ls 2 [(0, eV (ad 3) x), (1, eV (ad 9) o)] → W p l e (headSpec wm_X9_standsRight ({ frames := 3, cells := 1, slots := 6, locals := 71 })).room s m ([eV (ad 3) x, eV (ad 9) o] : List Value).toArray below meth c H locs 0 0 (vx_MQ below (cQx dC dI ad cid a2 lx (fun v u => ∃ r : Int32, v = some (.int r) ∧ u = (sg, gm, lg) ∧ (iv 0 1 r) ∧ (r.toInt = 0 ∨ HOK gm o.toNatClampNeg)) A) (cX dC dI ad cid a2 lx (fun _ _ => False) A) ([eV (ad 3) x, eV (ad 9) o] : List Value).toArray s 1 6 A) (F0 m 166 ls []) := by
    intro  hsx0_166 hsx1_166 H locs ls hP hD hS hl
    refine lv_iconst (v := 0) hx hb dX9_standsRight_166 (by decide) ?_
    exact hj167 0 hsx0_166 hsx1_166 (iv_w (iv_k (by decide) : iv 0 0 0) (by decide)) (Or.inl rfl) _ _ _ hP hD hS (lv_sub hl [0, 1] rfl)
  have hj200 : ∀ (y0_200 : Int32) (_ : iv 0 0 x) (_ : iv 0 79 o) (_ : iv 0 1 y0_200) (_ : y0_200.toInt = 0 ∨ HOK gm o.toNatClampNeg) (H : Heap) (locs : List Loc) (ls : Array Slot), va_P (dC, dI) vwCl (cW ad cid a2 lx sg gm lg) H → va_D A (cW ad cid a2 lx sg gm lg) → va_S A s.heap H locs → lv_has ls 2 [(0, eV (ad 3) x), (1, eV (ad 9) o)] → W p l e (headSpec wm_X9_standsRight ({ frames := 3, cells := 1, slots := 6, locals := 71 })).room s m ([eV (ad 3) x, eV (ad 9) o] : List Value).toArray below meth c H locs 0 0 (vx_MQ below (cQx dC dI ad cid a2 lx (fun v u => ∃ r : Int32, v = some (.int r) ∧ u = (sg, gm, lg) ∧ (iv 0 1 r) ∧ (r.toInt = 0 ∨ HOK gm o.toNatClampNeg)) A) (cX dC dI ad cid a2 lx (fun _ _ => False) A) ([eV (ad 3) x, eV (ad 9) o] : List Value).toArray s 1 6 A) (F0 m 200 ls [.int y0_200]) := by
    intro y0_200 hsx0_200 hsx1_200 hy0_200 hR9 H locs ls hP hD hS hl
    exact W.nb (fun hN => W.widen (k := 1) (n := 6) (by decide) (by decide) (vx_ret (W.zret (v := y0_200) hx hb hr (iv_nb hy0_200) (fun t ht hW => ⟨⟨some (.int y0_200), (sg, gm, lg), rfl, ⟨y0_200, rfl, rfl, hy0_200, (hR9)⟩, by rw [ht]; exact hP, va_K.moved hW.alike hK, hD⟩, hS.F ht, by rw [ht]; exact hN⟩) hS.2.2 dX9_standsRight_200)))
  have hj199 : ∀ (_ : iv 0 0 x) (_ : iv 0 79 o) (H : Heap) (locs : List Loc) (ls : Array Slot), va_P (dC, dI) vwCl (cW ad cid a2 lx sg gm lg) H → va_D A (cW ad cid a2 lx sg gm lg) → va_S A s.heap H locs → lv_has ls 2 [(0, eV (ad 3) x), (1, eV (ad 9) o)] → W p l e (headSpec wm_X9_standsRight ({ frames := 3, cells := 1, slots := 6, locals := 71 })).room s m ([eV (ad 3) x, eV (ad 9) o] : List Value).toArray below meth c H locs 0 0 (vx_MQ below (cQx dC dI ad cid a2 lx (fun v u => ∃ r : Int32, v = some (.int r) ∧ u = (sg, gm, lg) ∧ (iv 0 1 r) ∧ (r.toInt = 0 ∨ HOK gm o.toNatClampNeg)) A) (cX dC dI ad cid a2 lx (fun _ _ => False) A) ([eV (ad 3) x, eV (ad 9) o] : List Value).toArray s 1 6 A) (F0 m 199 ls []) := by
    intro  hsx0_199 hsx1_199 H locs ls hP hD hS hl
    refine lv_iconst (v := 0) hx hb dX9_standsRight_199 (by decide) ?_
    exact hj200 0 hsx0_199 hsx1_199 (iv_w (iv_k (by decide) : iv 0 0 0) (by decide)) (Or.inl rfl) _ _ _ hP hD hS (lv_sub hl [0, 1] rfl)
  have hj226 : ∀ (y0_226 : Int32) (_ : iv 0 0 x) (_ : iv 0 79 o) (_ : iv 0 1 y0_226) (_ : y0_226.toInt = 0 ∨ HOK gm o.toNatClampNeg) (H : Heap) (locs : List Loc) (ls : Array Slot), va_P (dC, dI) vwCl (cW ad cid a2 lx sg gm lg) H → va_D A (cW ad cid a2 lx sg gm lg) → va_S A s.heap H locs → lv_has ls 2 [(0, eV (ad 3) x), (1, eV (ad 9) o)] → W p l e (headSpec wm_X9_standsRight ({ frames := 3, cells := 1, slots := 6, locals := 71 })).room s m ([eV (ad 3) x, eV (ad 9) o] : List Value).toArray below meth c H locs 0 0 (vx_MQ below (cQx dC dI ad cid a2 lx (fun v u => ∃ r : Int32, v = some (.int r) ∧ u = (sg, gm, lg) ∧ (iv 0 1 r) ∧ (r.toInt = 0 ∨ HOK gm o.toNatClampNeg)) A) (cX dC dI ad cid a2 lx (fun _ _ => False) A) ([eV (ad 3) x, eV (ad 9) o] : List Value).toArray s 1 6 A) (F0 m 226 ls [.int y0_226]) := by
    intro y0_226 hsx0_226 hsx1_226 hy0_226 hR9 H locs ls hP hD hS hl
    exact W.nb (fun hN => W.widen (k := 1) (n := 6) (by decide) (by decide) (vx_ret (W.zret (v := y0_226) hx hb hr (iv_nb hy0_226) (fun t ht hW => ⟨⟨some (.int y0_226), (sg, gm, lg), rfl, ⟨y0_226, rfl, rfl, hy0_226, (hR9)⟩, by rw [ht]; exact hP, va_K.moved hW.alike hK, hD⟩, hS.F ht, by rw [ht]; exact hN⟩) hS.2.2 dX9_standsRight_226)))
  have hj221 : ∀ (_ : iv 0 0 x) (_ : iv 0 79 o) (_ : HOK gm o.toNatClampNeg) (H : Heap) (locs : List Loc) (ls : Array Slot), va_P (dC, dI) vwCl (cW ad cid a2 lx sg gm lg) H → va_D A (cW ad cid a2 lx sg gm lg) → va_S A s.heap H locs → lv_has ls 2 [(0, eV (ad 3) x), (1, eV (ad 9) o)] → W p l e (headSpec wm_X9_standsRight ({ frames := 3, cells := 1, slots := 6, locals := 71 })).room s m ([eV (ad 3) x, eV (ad 9) o] : List Value).toArray below meth c H locs 0 0 (vx_MQ below (cQx dC dI ad cid a2 lx (fun v u => ∃ r : Int32, v = some (.int r) ∧ u = (sg, gm, lg) ∧ (iv 0 1 r) ∧ (r.toInt = 0 ∨ HOK gm o.toNatClampNeg)) A) (cX dC dI ad cid a2 lx (fun _ _ => False) A) ([eV (ad 3) x, eV (ad 9) o] : List Value).toArray s 1 6 A) (F0 m 221 ls []) := by
    intro  hsx0_221 hsx1_221 hH H locs ls hP hD hS hl
    refine lv_iconst (v := 1) hx hb dX9_standsRight_221 (by decide) ?_
    refine lv_goto (tgt := 226) hx hb dX9_standsRight_222 (by decide) ?_
    exact hj226 1 hsx0_221 hsx1_221 (iv_w (iv_k (by decide) : iv 1 1 1) (by decide)) (Or.inr hH) _ _ _ hP hD hS (lv_sub hl [0, 1] rfl)
  have hj227 : ∀ (_ : iv 0 0 x) (_ : iv 0 79 o) (_ : HOK gm o.toNatClampNeg) (H : Heap) (locs : List Loc) (ls : Array Slot), va_P (dC, dI) vwCl (cW ad cid a2 lx sg gm lg) H → va_D A (cW ad cid a2 lx sg gm lg) → va_S A s.heap H locs → lv_has ls 2 [(0, eV (ad 3) x), (1, eV (ad 9) o)] → W p l e (headSpec wm_X9_standsRight ({ frames := 3, cells := 1, slots := 6, locals := 71 })).room s m ([eV (ad 3) x, eV (ad 9) o] : List Value).toArray below meth c H locs 0 0 (vx_MQ below (cQx dC dI ad cid a2 lx (fun v u => ∃ r : Int32, v = some (.int r) ∧ u = (sg, gm, lg) ∧ (iv 0 1 r) ∧ (r.toInt = 0 ∨ HOK gm o.toNatClampNeg)) A) (cX dC dI ad cid a2 lx (fun _ _ => False) A) ([eV (ad 3) x, eV (ad 9) o] : List Value).toArray s 1 6 A) (F0 m 227 ls []) := by
    intro  hsx0_227 hsx1_227 hH H locs ls hP hD hS hl
    refine ec_aload_n hx hb dX9_standsRight_227 rfl (lv_at hl 0 rfl) ?_
    refine ec_aload_n hx hb dX9_standsRight_228 rfl (lv_at hl 1 rfl) ?_
    refine cm_callV (t := 3) (C := RX9) (T := TX9) (N := 1) (rest := []) (as := [eV (ad 9) o]) ⟨hx, hb, hml, hown, htb⟩ (d_isHeld l dC dI ad cid a2 lx sg gm lg x o hI hsx0_227 hsx1_227) (cwV 1 htb (gd_V kw_529 kw_530 kw_531 kw_28 kw_1463) rfl rfl rfl (by decide +kernel) ⟨Nat.le_of_ble_eq_true rfl, Nat.le_of_ble_eq_true rfl⟩) hsx0_227 (by decide) (by decide) rfl rfl hl.1 rfl (Nat.le_trans cs_n (by decide)) dX9_standsRight_229 ⟨Nat.le_of_ble_eq_true rfl, Nat.le_of_ble_eq_true rfl⟩ hK hP hD hS hA hG (fun E ce q9 u_2 H locs hw hP hD hS hce hcv hcl => ?_) (fun v9 u_2 H locs hw hP hD hS => ?_)
    · exact hw.elim
    obtain ⟨r_1, rfl, rfl, hr_1⟩ := hw
    have hP : va_P (dC, dI) vwCl (cW ad cid a2 lx sg gm lg) H := hP
    have hD : va_D A (cW ad cid a2 lx sg gm lg) := hD
    refine W.eq (g2 := F0 m 232 ls [.int r_1]) rfl ?_
    exact W.nb (fun hN => W.widen (k := 1) (n := 6) (by decide) (by decide) (vx_ret (W.zret (v := r_1) hx hb hr (iv_nb hr_1) (fun t ht hW => ⟨⟨some (.int r_1), (sg, gm, lg), rfl, ⟨r_1, rfl, rfl, hr_1, (Or.inr hH)⟩, by rw [ht]; exact hP, va_K.moved hW.alike hK, hD⟩, hS.F ht, by rw [ht]; exact hN⟩) hS.2.2 dX9_standsRight_232)))
  refine cw_sw hx hb hG hS hown (htb _ kw_514) dX9_standsRight_0 ?_
  refine ec_aload_n hx hb dX9_standsRight_3 rfl (lv_at hl 1 rfl) ?_
  refine cr_get (t := 9) (j := 4) (C := RX3) (T := TX3) (N := 21) (v := eV (ad 33) (gm 14 o.toNatClampNeg)) hx hb htb inX3 hown hK hP hvo (by decide) (by decide) (by decide) rfl (by decide) (htb _ kw_508) rfl dX9_standsRight_4 ?_
  obtain ⟨z_4, ez_4⟩ : ∃ z : Int32, z = (gm 14 o.toNatClampNeg) := ⟨_, rfl⟩
  refine W.eq (g2 := F0 m 7 ls [eV (ad 33) z_4, eV (ad 36) 0]) (by rw [ez_4]) ?_
  have hz_4 : iv (-1) 33 z_4 := iv_of ez_4 (CI_a hI 14 hvo (by decide))
  have h_5 : iv 0 33 z_4 := ⟨by rw [ez_4]; exact hw0, (hz_4).2⟩
  refine cw_ord ⟨hx, hb, hml, hown, htb⟩ kw_520 h_5 hl.1 (Nat.le_trans (cs_c (eV_cat _ _) cs_n) (by decide)) dX9_standsRight_7 ⟨Nat.le_of_ble_eq_true rfl, Nat.le_of_ble_eq_true rfl⟩ ⟨Nat.le_of_ble_eq_true rfl, Nat.le_of_ble_eq_true rfl⟩ hP hD hS hA hG (fun H locs hP hS => ?_)
  refine cw_swld (iv_k (by decide) : iv 0 0 0) hx hb hG hS h_5 dX9_standsRight_10 ?_
  refine lv_topi (fun z_6 ez_6 => ?_)
  have hz_6 : iv 0 29 z_6 := iv_of ez_6 (sw_iv z_4)
  by_cases c_7 : (z_6 : Int32).toInt = 6
  · refine lv_tableIn (tgt := 64) hx hb dX9_standsRight_11 (by rw [c_7]; decide) (by rw [c_7]; decide) (by rw [c_7]; rfl) (by decide) ?_
    have h_8 : iv 6 6 z_6 := iv_at c_7
    refine ec_aload_n hx hb dX9_standsRight_64 rfl (lv_at hl 1 rfl) ?_
    refine cr_get (t := 9) (j := 5) (C := RX3) (T := TX3) (N := 21) (v := eV (ad 9) (gm 15 o.toNatClampNeg)) hx hb htb inX3 hown hK hP hvo (by decide) (by decide) (by decide) rfl (by decide) (htb _ kw_515) rfl dX9_standsRight_65 ?_
    obtain ⟨z_9, ez_9⟩ : ∃ z : Int32, z = (gm 15 o.toNatClampNeg) := ⟨_, rfl⟩
    refine W.eq (g2 := F0 m 68 ls [eV (ad 9) z_9]) (by rw [ez_9]) ?_
    have hz_9 : iv (-1) 79 z_9 := iv_of ez_9 (CI_a hI 15 hvo (by decide))
    refine ec_ifnonnull (tgt := 75) hx hb dX9_standsRight_68 (by decide) (fun c_10 => ?_) (fun c_10 => ?_)
    · have h_11 : iv 0 79 z_9 := ⟨c_10, (hz_9).2⟩
      refine lv_iconst (v := 0) hx hb dX9_standsRight_75 (by decide) ?_
      exact hj76 0 hvx hvo (iv_w (iv_k (by decide) : iv 0 0 0) (by decide)) (Or.inl rfl) _ _ _ hP hD hS (lv_sub hl [0, 1] rfl)
    · have h_12 : iv (-1) (-1) z_9 := ⟨(hz_9).1, by omega⟩
      refine lv_iconst (v := 1) hx hb dX9_standsRight_71 (by decide) ?_
      refine lv_goto (tgt := 76) hx hb dX9_standsRight_72 (by decide) ?_
      exact hj76 1 hvx hvo (iv_w (iv_k (by decide) : iv 1 1 1) (by decide)) (Or.inr (HOK_n (by rw [← ez_9]; have := i32_0; have := i32_1; have := i32_2; have := i32_m1; have := (hvx).1; have := (hvx).2; have := (hvo).1; have := (hvo).2; have := (h_5).1; have := (h_5).2; have := (h_8).1; have := (h_8).2; have := (h_12).1; have := (h_12).2; omega))) _ _ _ hP hD hS (lv_sub hl [0, 1] rfl)
  by_cases c_13 : (z_6 : Int32).toInt = 7
  · refine lv_tableIn (tgt := 77) hx hb dX9_standsRight_11 (by rw [c_13]; decide) (by rw [c_13]; decide) (by rw [c_13]; rfl) (by decide) ?_
    have h_14 : iv 7 7 z_6 := iv_at c_13
    refine ec_aload_n hx hb dX9_standsRight_77 rfl (lv_at hl 1 rfl) ?_
    refine cw_word (k := 0) (kx := 0) hx hb hG hS (by decide) rfl ⟨by decide, by decide⟩ hown (htb _ kw_516) dX9_standsRight_78 ?_
    refine cm_callV (t := 9) (C := RX3) (T := TX3) (N := 21) (rest := []) (as := [eV (ad 33) 0]) ⟨hx, hb, hml, hown, htb⟩ (d_isIn l dC dI ad cid a2 lx sg gm lg o 0 hI hvo (iv_w (iv_k (by decide) : iv 0 0 0) (by decide))) (cwV 1 htb (gd_V kw_526 kw_527 kw_528 kw_66 kw_1462) rfl rfl rfl (by decide +kernel) ⟨Nat.le_of_ble_eq_true rfl, Nat.le_of_ble_eq_true rfl⟩) hvo (by decide) (by decide) rfl rfl hl.1 rfl (Nat.le_trans cs_n (by decide)) dX9_standsRight_81 ⟨Nat.le_of_ble_eq_true rfl, Nat.le_of_ble_eq_true rfl⟩ hK hP hD hS hA hG (fun E ce q9 u_16 H locs hw hP hD hS hce hcv hcl => ?_) (fun v9 u_16 H locs hw hP hD hS => ?_)
    · exact hw.elim
    obtain ⟨r_15, rfl, rfl, hr_15, fI_r_15⟩ := hw
    have hP : va_P (dC, dI) vwCl (cW ad cid a2 lx sg gm lg) H := hP
    have hD : va_D A (cW ad cid a2 lx sg gm lg) := hD
    refine W.eq (g2 := F0 m 84 ls [.int r_15]) rfl ?_
    exact W.nb (fun hN => W.widen (k := 1) (n := 6) (by decide) (by decide) (vx_ret (W.zret (v := r_15) hx hb hr (iv_nb hr_15) (fun t ht hW => ⟨⟨some (.int r_15), (sg, gm, lg), rfl, ⟨r_15, rfl, rfl, hr_15, (fI_r_15.imp id (fun q9 => HOK_o q9 (by decide)))⟩, by rw [ht]; exact hP, va_K.moved hW.alike hK, hD⟩, hS.F ht, by rw [ht]; exact hN⟩) hS.2.2 dX9_standsRight_84)))
  by_cases c_18 : (z_6 : Int32).toInt = 8
  · refine lv_tableIn (tgt := 85) hx hb dX9_standsRight_11 (by rw [c_18]; decide) (by rw [c_18]; decide) (by rw [c_18]; rfl) (by decide) ?_
    have h_19 : iv 8 8 z_6 := iv_at c_18
    refine ec_aload_n hx hb dX9_standsRight_85 rfl (lv_at hl 1 rfl) ?_
    refine cw_word (k := 0) (kx := 0) hx hb hG hS (by decide) rfl ⟨by decide, by decide⟩ hown (htb _ kw_516) dX9_standsRight_86 ?_
    refine cm_callV (t := 9) (C := RX3) (T := TX3) (N := 21) (rest := []) (as := [eV (ad 33) 0]) ⟨hx, hb, hml, hown, htb⟩ (d_isIn l dC dI ad cid a2 lx sg gm lg o 0 hI hvo (iv_w (iv_k (by decide) : iv 0 0 0) (by decide))) (cwV 1 htb (gd_V kw_526 kw_527 kw_528 kw_66 kw_1462) rfl rfl rfl (by decide +kernel) ⟨Nat.le_of_ble_eq_true rfl, Nat.le_of_ble_eq_true rfl⟩) hvo (by decide) (by decide) rfl rfl hl.1 rfl (Nat.le_trans cs_n (by decide)) dX9_standsRight_89 ⟨Nat.le_of_ble_eq_true rfl, Nat.le_of_ble_eq_true rfl⟩ hK hP hD hS hA hG (fun E ce q9 u_21 H locs hw hP hD hS hce hcv hcl => ?_) (fun v9 u_21 H locs hw hP hD hS => ?_)
    · exact hw.elim
    obtain ⟨r_20, rfl, rfl, hr_20, fI_r_20⟩ := hw
    have hP : va_P (dC, dI) vwCl (cW ad cid a2 lx sg gm lg) H := hP
    have hD : va_D A (cW ad cid a2 lx sg gm lg) := hD
    refine W.eq (g2 := F0 m 92 ls [.int r_20]) rfl ?_
    refine lv_if_ne (tgt := 103) hx hb dX9_standsRight_92 (by decide) (fun c_23 => ?_) (fun c_23 => ?_)
    · have h_24 : iv 1 1 r_20 := iv_neL c_23 hr_20 (by decide)
      exact hj103 hvx hvo (HOK_g (by have q1 := sw10 (show iv 0 33 z_4 from h_5) ez_6 (by omega) (by omega); rw [← ez_4]; omega)) _ _ _ hP hD hS (lv_sub hl [0, 1] rfl)
    · have h_25 : iv 0 0 r_20 := iv_eq c_23 hr_20 (iv_k (by decide) : iv 0 0 0) (by decide)
      refine ec_aload_n hx hb dX9_standsRight_95 rfl (lv_at hl 0 rfl) ?_
      refine ec_aload_n hx hb dX9_standsRight_96 rfl (lv_at hl 1 rfl) ?_
      refine cm_callV (t := 3) (C := RX9) (T := TX9) (N := 1) (rest := []) (as := [eV (ad 9) o]) ⟨hx, hb, hml, hown, htb⟩ (d_isHeld l dC dI ad cid a2 lx sg gm lg x o hI hvx hvo) (cwV 1 htb (gd_V kw_529 kw_530 kw_531 kw_28 kw_1463) rfl rfl rfl (by decide +kernel) ⟨Nat.le_of_ble_eq_true rfl, Nat.le_of_ble_eq_true rfl⟩) hvx (by decide) (by decide) rfl rfl hl.1 rfl (Nat.le_trans cs_n (by decide)) dX9_standsRight_97 ⟨Nat.le_of_ble_eq_true rfl, Nat.le_of_ble_eq_true rfl⟩ hK hP hD hS hA hG (fun E ce q9 u_27 H locs hw hP hD hS hce hcv hcl => ?_) (fun v9 u_27 H locs hw hP hD hS => ?_)
      · exact hw.elim
      obtain ⟨r_26, rfl, rfl, hr_26⟩ := hw
      have hP : va_P (dC, dI) vwCl (cW ad cid a2 lx sg gm lg) H := hP
      have hD : va_D A (cW ad cid a2 lx sg gm lg) := hD
      refine W.eq (g2 := F0 m 100 ls [.int r_26]) rfl ?_
      refine lv_if_eq (tgt := 107) hx hb dX9_standsRight_100 (by decide) (fun c_29 => ?_) (fun c_29 => ?_)
      · have h_30 : iv 0 0 r_26 := iv_eq c_29 hr_26 (iv_k (by decide) : iv 0 0 0) (by decide)
        refine lv_iconst (v := 0) hx hb dX9_standsRight_107 (by decide) ?_
        exact hj108 0 hvx hvo (iv_w (iv_k (by decide) : iv 0 0 0) (by decide)) (Or.inl rfl) _ _ _ hP hD hS (lv_sub hl [0, 1] rfl)
      · have h_31 : iv 1 1 r_26 := iv_neL c_29 hr_26 (by decide)
        exact hj103 hvx hvo (HOK_g (by have q1 := sw10 (show iv 0 33 z_4 from h_5) ez_6 (by omega) (by omega); rw [← ez_4]; omega)) _ _ _ hP hD hS (lv_sub hl [0, 1] rfl)
  by_cases c_32 : (z_6 : Int32).toInt = 9
  · refine lv_tableIn (tgt := 109) hx hb dX9_standsRight_11 (by rw [c_32]; decide) (by rw [c_32]; decide) (by rw [c_32]; rfl) (by decide) ?_
    have h_33 : iv 9 9 z_6 := iv_at c_32
    refine ec_aload_n hx hb dX9_standsRight_109 rfl (lv_at hl 1 rfl) ?_
    refine cw_word (k := 2) (kx := 2) hx hb hG hS (by decide) rfl ⟨by decide, by decide⟩ hown (htb _ kw_517) dX9_standsRight_110 ?_
    refine cm_callV (t := 9) (C := RX3) (T := TX3) (N := 21) (rest := []) (as := [eV (ad 33) 2]) ⟨hx, hb, hml, hown, htb⟩ (d_isIn l dC dI ad cid a2 lx sg gm lg o 2 hI hvo (iv_w (iv_k (by decide) : iv 2 2 2) (by decide))) (cwV 1 htb (gd_V kw_526 kw_527 kw_528 kw_66 kw_1462) rfl rfl rfl (by decide +kernel) ⟨Nat.le_of_ble_eq_true rfl, Nat.le_of_ble_eq_true rfl⟩) hvo (by decide) (by decide) rfl rfl hl.1 rfl (Nat.le_trans cs_n (by decide)) dX9_standsRight_113 ⟨Nat.le_of_ble_eq_true rfl, Nat.le_of_ble_eq_true rfl⟩ hK hP hD hS hA hG (fun E ce q9 u_35 H locs hw hP hD hS hce hcv hcl => ?_) (fun v9 u_35 H locs hw hP hD hS => ?_)
    · exact hw.elim
    obtain ⟨r_34, rfl, rfl, hr_34, fI_r_34⟩ := hw
    have hP : va_P (dC, dI) vwCl (cW ad cid a2 lx sg gm lg) H := hP
    have hD : va_D A (cW ad cid a2 lx sg gm lg) := hD
    refine W.eq (g2 := F0 m 116 ls [.int r_34]) rfl ?_
    refine lv_if_eq (tgt := 132) hx hb dX9_standsRight_116 (by decide) (fun c_37 => ?_) (fun c_37 => ?_)
    · have h_38 : iv 0 0 r_34 := iv_eq c_37 hr_34 (iv_k (by decide) : iv 0 0 0) (by decide)
      exact hj132 hvx hvo _ _ _ hP hD hS (lv_sub hl [0, 1] rfl)
    · have h_39 : iv 1 1 r_34 := iv_neL c_37 hr_34 (by decide)
      refine ec_aload_n hx hb dX9_standsRight_119 rfl (lv_at hl 0 rfl) ?_
      refine ec_aload_n hx hb dX9_standsRight_120 rfl (lv_at hl 1 rfl) ?_
      refine cm_callV (t := 3) (C := RX9) (T := TX9) (N := 1) (rest := []) (as := [eV (ad 9) o]) ⟨hx, hb, hml, hown, htb⟩ (d_likeBefore l dC dI ad cid a2 lx sg gm lg x o hI hvx hvo ((fI_r_34.resolve_left (by have := i32_0; have := i32_1; have := i32_2; have := i32_m1; have := (hvx).1; have := (hvx).2; have := (hvo).1; have := (hvo).2; have := (h_5).1; have := (h_5).2; have := (h_33).1; have := (h_33).2; have := (h_39).1; have := (h_39).2; omega)).1)) (cwV 1 htb (gd_V kw_533 kw_534 kw_535 kw_28 kw_1464) rfl rfl rfl (by decide +kernel) ⟨Nat.le_of_ble_eq_true rfl, Nat.le_of_ble_eq_true rfl⟩) hvx (by decide) (by decide) rfl rfl hl.1 rfl (Nat.le_trans cs_n (by decide)) dX9_standsRight_121 ⟨Nat.le_of_ble_eq_true rfl, Nat.le_of_ble_eq_true rfl⟩ hK hP hD hS hA hG (fun E ce q9 u_41 H locs hw hP hD hS hce hcv hcl => ?_) (fun v9 u_41 H locs hw hP hD hS => ?_)
      · exact hw.elim
      obtain ⟨r_40, rfl, rfl, hr_40⟩ := hw
      have hP : va_P (dC, dI) vwCl (cW ad cid a2 lx sg gm lg) H := hP
      have hD : va_D A (cW ad cid a2 lx sg gm lg) := hD
      refine W.eq (g2 := F0 m 124 ls [.int r_40]) rfl ?_
      refine lv_iconst (v := 4) hx hb dX9_standsRight_124 (by decide) ?_
      refine lv_icmp_ge (tgt := 132) hx hb dX9_standsRight_125 (by decide) (fun c_43 => ?_) (fun c_43 => ?_)
      · have h_44 : iv 4 80 r_40 := iv_leR c_43 (iv_k (by decide) : iv 4 4 4) hr_40 (by decide)
        exact hj132 hvx hvo _ _ _ hP hD hS (lv_sub hl [0, 1] rfl)
      · have h_45 : iv 0 3 r_40 := iv_ltL (i32_lt c_43) hr_40 (iv_k (by decide) : iv 4 4 4) (by decide)
        refine lv_iconst (v := 1) hx hb dX9_standsRight_128 (by decide) ?_
        refine lv_goto (tgt := 133) hx hb dX9_standsRight_129 (by decide) ?_
        exact hj133 1 hvx hvo (iv_w (iv_k (by decide) : iv 1 1 1) (by decide)) (Or.inr (HOK_o (fI_r_34.resolve_left (by have := i32_0; have := i32_1; have := i32_2; have := i32_m1; have := (hvx).1; have := (hvx).2; have := (hvo).1; have := (hvo).2; have := (h_5).1; have := (h_5).2; have := (h_33).1; have := (h_33).2; have := (h_39).1; have := (h_39).2; have := (h_45).1; have := (h_45).2; omega)) (by decide))) _ _ _ hP hD hS (lv_sub hl [0, 1] rfl)
  by_cases c_46 : (z_6 : Int32).toInt = 10
  · refine lv_tableIn (tgt := 134) hx hb dX9_standsRight_11 (by rw [c_46]; decide) (by rw [c_46]; decide) (by rw [c_46]; rfl) (by decide) ?_
    have h_47 : iv 10 10 z_6 := iv_at c_46
    refine ec_aload_n hx hb dX9_standsRight_134 rfl (lv_at hl 1 rfl) ?_
    refine cw_word (k := 2) (kx := 2) hx hb hG hS (by decide) rfl ⟨by decide, by decide⟩ hown (htb _ kw_517) dX9_standsRight_135 ?_
    refine cm_callV (t := 9) (C := RX3) (T := TX3) (N := 21) (rest := []) (as := [eV (ad 33) 2]) ⟨hx, hb, hml, hown, htb⟩ (d_isIn l dC dI ad cid a2 lx sg gm lg o 2 hI hvo (iv_w (iv_k (by decide) : iv 2 2 2) (by decide))) (cwV 1 htb (gd_V kw_526 kw_527 kw_528 kw_66 kw_1462) rfl rfl rfl (by decide +kernel) ⟨Nat.le_of_ble_eq_true rfl, Nat.le_of_ble_eq_true rfl⟩) hvo (by decide) (by decide) rfl rfl hl.1 rfl (Nat.le_trans cs_n (by decide)) dX9_standsRight_138 ⟨Nat.le_of_ble_eq_true rfl, Nat.le_of_ble_eq_true rfl⟩ hK hP hD hS hA hG (fun E ce q9 u_49 H locs hw hP hD hS hce hcv hcl => ?_) (fun v9 u_49 H locs hw hP hD hS => ?_)
    · exact hw.elim
    obtain ⟨r_48, rfl, rfl, hr_48, fI_r_48⟩ := hw
    have hP : va_P (dC, dI) vwCl (cW ad cid a2 lx sg gm lg) H := hP
    have hD : va_D A (cW ad cid a2 lx sg gm lg) := hD
    refine W.eq (g2 := F0 m 141 ls [.int r_48]) rfl ?_
    refine lv_if_eq (tgt := 166) hx hb dX9_standsRight_141 (by decide) (fun c_51 => ?_) (fun c_51 => ?_)
    · have h_52 : iv 0 0 r_48 := iv_eq c_51 hr_48 (iv_k (by decide) : iv 0 0 0) (by decide)
      exact hj166 hvx hvo _ _ _ hP hD hS (lv_sub hl [0, 1] rfl)
    · have h_53 : iv 1 1 r_48 := iv_neL c_51 hr_48 (by decide)
      refine ec_aload_n hx hb dX9_standsRight_144 rfl (lv_at hl 0 rfl) ?_
      refine ec_aload_n hx hb dX9_standsRight_145 rfl (lv_at hl 1 rfl) ?_
      refine cm_callV (t := 3) (C := RX9) (T := TX9) (N := 1) (rest := []) (as := [eV (ad 9) o]) ⟨hx, hb, hml, hown, htb⟩ (d_likeBefore l dC dI ad cid a2 lx sg gm lg x o hI hvx hvo ((fI_r_48.resolve_left (by have := i32_0; have := i32_1; have := i32_2; have := i32_m1; have := (hvx).1; have := (hvx).2; have := (hvo).1; have := (hvo).2; have := (h_5).1; have := (h_5).2; have := (h_47).1; have := (h_47).2; have := (h_53).1; have := (h_53).2; omega)).1)) (cwV 1 htb (gd_V kw_533 kw_534 kw_535 kw_28 kw_1464) rfl rfl rfl (by decide +kernel) ⟨Nat.le_of_ble_eq_true rfl, Nat.le_of_ble_eq_true rfl⟩) hvx (by decide) (by decide) rfl rfl hl.1 rfl (Nat.le_trans cs_n (by decide)) dX9_standsRight_146 ⟨Nat.le_of_ble_eq_true rfl, Nat.le_of_ble_eq_true rfl⟩ hK hP hD hS hA hG (fun E ce q9 u_55 H locs hw hP hD hS hce hcv hcl => ?_) (fun v9 u_55 H locs hw hP hD hS => ?_)
      · exact hw.elim
      obtain ⟨r_54, rfl, rfl, hr_54⟩ := hw
      have hP : va_P (dC, dI) vwCl (cW ad cid a2 lx sg gm lg) H := hP
      have hD : va_D A (cW ad cid a2 lx sg gm lg) := hD
      refine W.eq (g2 := F0 m 149 ls [.int r_54]) rfl ?_
      refine lv_bipush (v := 8) hx hb dX9_standsRight_149 (by decide) ?_
      refine lv_icmp_ge (tgt := 166) hx hb dX9_standsRight_151 (by decide) (fun c_57 => ?_) (fun c_57 => ?_)
      · have h_58 : iv 8 80 r_54 := iv_leR c_57 (iv_k (by decide) : iv 8 8 8) hr_54 (by decide)
        exact hj166 hvx hvo _ _ _ hP hD hS (lv_sub hl [0, 1] rfl)
      · have h_59 : iv 0 7 r_54 := iv_ltL (i32_lt c_57) hr_54 (iv_k (by decide) : iv 8 8 8) (by decide)
        refine ec_aload_n hx hb dX9_standsRight_154 rfl (lv_at hl 0 rfl) ?_
        refine ec_aload_n hx hb dX9_standsRight_155 rfl (lv_at hl 1 rfl) ?_
        refine cm_callV (t := 3) (C := RX9) (T := TX9) (N := 1) (rest := []) (as := [eV (ad 9) o]) ⟨hx, hb, hml, hown, htb⟩ (d_isFirstOfName l dC dI ad cid a2 lx sg gm lg x o hI hvx hvo hFA how hVS hLK ((fI_r_48.resolve_left (by have := i32_0; have := i32_1; have := i32_2; have := i32_m1; have := (hvx).1; have := (hvx).2; have := (hvo).1; have := (hvo).2; have := (h_5).1; have := (h_5).2; have := (h_47).1; have := (h_47).2; have := (h_53).1; have := (h_53).2; have := (h_59).1; have := (h_59).2; omega)).1)) (cwV 1 htb (gd_V kw_538 kw_539 kw_540 kw_28 kw_1465) rfl rfl rfl (by decide +kernel) ⟨Nat.le_of_ble_eq_true rfl, Nat.le_of_ble_eq_true rfl⟩) hvx (by decide) (by decide) rfl rfl hl.1 rfl (Nat.le_trans cs_n (by decide)) dX9_standsRight_156 ⟨Nat.le_of_ble_eq_true rfl, Nat.le_of_ble_eq_true rfl⟩ hK hP hD hS hA hG (fun E ce q9 u_61 H locs hw hP hD hS hce hcv hcl => ?_) (fun v9 u_61 H locs hw hP hD hS => ?_)
        · exact hw.elim
        obtain ⟨r_60, rfl, rfl, hr_60⟩ := hw
        have hP : va_P (dC, dI) vwCl (cW ad cid a2 lx sg gm lg) H := hP
        have hD : va_D A (cW ad cid a2 lx sg gm lg) := hD
        refine W.eq (g2 := F0 m 159 ls [.int r_60]) rfl ?_
        refine lv_if_eq (tgt := 166) hx hb dX9_standsRight_159 (by decide) (fun c_63 => ?_) (fun c_63 => ?_)
        · have h_64 : iv 0 0 r_60 := iv_eq c_63 hr_60 (iv_k (by decide) : iv 0 0 0) (by decide)
          exact hj166 hvx hvo _ _ _ hP hD hS (lv_sub hl [0, 1] rfl)
        · have h_65 : iv 1 1 r_60 := iv_neL c_63 hr_60 (by decide)
          refine lv_iconst (v := 1) hx hb dX9_standsRight_162 (by decide) ?_
          refine lv_goto (tgt := 167) hx hb dX9_standsRight_163 (by decide) ?_
          exact hj167 1 hvx hvo (iv_w (iv_k (by decide) : iv 1 1 1) (by decide)) (Or.inr (HOK_o (fI_r_48.resolve_left (by have := i32_0; have := i32_1; have := i32_2; have := i32_m1; have := (hvx).1; have := (hvx).2; have := (hvo).1; have := (hvo).2; have := (h_5).1; have := (h_5).2; have := (h_47).1; have := (h_47).2; have := (h_53).1; have := (h_53).2; have := (h_59).1; have := (h_59).2; have := (h_65).1; have := (h_65).2; omega)) (by decide))) _ _ _ hP hD hS (lv_sub hl [0, 1] rfl)
  by_cases c_66 : (z_6 : Int32).toInt = 11
  · refine lv_tableIn (tgt := 168) hx hb dX9_standsRight_11 (by rw [c_66]; decide) (by rw [c_66]; decide) (by rw [c_66]; rfl) (by decide) ?_
    have h_67 : iv 11 11 z_6 := iv_at c_66
    refine ec_aload_n hx hb dX9_standsRight_168 rfl (lv_at hl 1 rfl) ?_
    refine cw_word (k := 2) (kx := 2) hx hb hG hS (by decide) rfl ⟨by decide, by decide⟩ hown (htb _ kw_517) dX9_standsRight_169 ?_
    refine cm_callV (t := 9) (C := RX3) (T := TX3) (N := 21) (rest := []) (as := [eV (ad 33) 2]) ⟨hx, hb, hml, hown, htb⟩ (d_isIn l dC dI ad cid a2 lx sg gm lg o 2 hI hvo (iv_w (iv_k (by decide) : iv 2 2 2) (by decide))) (cwV 1 htb (gd_V kw_526 kw_527 kw_528 kw_66 kw_1462) rfl rfl rfl (by decide +kernel) ⟨Nat.le_of_ble_eq_true rfl, Nat.le_of_ble_eq_true rfl⟩) hvo (by decide) (by decide) rfl rfl hl.1 rfl (Nat.le_trans cs_n (by decide)) dX9_standsRight_172 ⟨Nat.le_of_ble_eq_true rfl, Nat.le_of_ble_eq_true rfl⟩ hK hP hD hS hA hG (fun E ce q9 u_69 H locs hw hP hD hS hce hcv hcl => ?_) (fun v9 u_69 H locs hw hP hD hS => ?_)
    · exact hw.elim
    obtain ⟨r_68, rfl, rfl, hr_68, fI_r_68⟩ := hw
    have hP : va_P (dC, dI) vwCl (cW ad cid a2 lx sg gm lg) H := hP
    have hD : va_D A (cW ad cid a2 lx sg gm lg) := hD
    refine W.eq (g2 := F0 m 175 ls [.int r_68]) rfl ?_
    refine lv_if_eq (tgt := 199) hx hb dX9_standsRight_175 (by decide) (fun c_71 => ?_) (fun c_71 => ?_)
    · have h_72 : iv 0 0 r_68 := iv_eq c_71 hr_68 (iv_k (by decide) : iv 0 0 0) (by decide)
      exact hj199 hvx hvo _ _ _ hP hD hS (lv_sub hl [0, 1] rfl)
    · have h_73 : iv 1 1 r_68 := iv_neL c_71 hr_68 (by decide)
      refine ec_aload_n hx hb dX9_standsRight_178 rfl (lv_at hl 0 rfl) ?_
      refine ec_aload_n hx hb dX9_standsRight_179 rfl (lv_at hl 1 rfl) ?_
      refine cm_callV (t := 3) (C := RX9) (T := TX9) (N := 1) (rest := []) (as := [eV (ad 9) o]) ⟨hx, hb, hml, hown, htb⟩ (d_likeBefore l dC dI ad cid a2 lx sg gm lg x o hI hvx hvo ((fI_r_68.resolve_left (by have := i32_0; have := i32_1; have := i32_2; have := i32_m1; have := (hvx).1; have := (hvx).2; have := (hvo).1; have := (hvo).2; have := (h_5).1; have := (h_5).2; have := (h_67).1; have := (h_67).2; have := (h_73).1; have := (h_73).2; omega)).1)) (cwV 1 htb (gd_V kw_533 kw_534 kw_535 kw_28 kw_1464) rfl rfl rfl (by decide +kernel) ⟨Nat.le_of_ble_eq_true rfl, Nat.le_of_ble_eq_true rfl⟩) hvx (by decide) (by decide) rfl rfl hl.1 rfl (Nat.le_trans cs_n (by decide)) dX9_standsRight_180 ⟨Nat.le_of_ble_eq_true rfl, Nat.le_of_ble_eq_true rfl⟩ hK hP hD hS hA hG (fun E ce q9 u_75 H locs hw hP hD hS hce hcv hcl => ?_) (fun v9 u_75 H locs hw hP hD hS => ?_)
      · exact hw.elim
      obtain ⟨r_74, rfl, rfl, hr_74⟩ := hw
      have hP : va_P (dC, dI) vwCl (cW ad cid a2 lx sg gm lg) H := hP
      have hD : va_D A (cW ad cid a2 lx sg gm lg) := hD
      refine W.eq (g2 := F0 m 183 ls [.int r_74]) rfl ?_
      refine lv_iconst (v := 2) hx hb dX9_standsRight_183 (by decide) ?_
      refine lv_icmp_ge (tgt := 199) hx hb dX9_standsRight_184 (by decide) (fun c_77 => ?_) (fun c_77 => ?_)
      · have h_78 : iv 2 80 r_74 := iv_leR c_77 (iv_k (by decide) : iv 2 2 2) hr_74 (by decide)
        exact hj199 hvx hvo _ _ _ hP hD hS (lv_sub hl [0, 1] rfl)
      · have h_79 : iv 0 1 r_74 := iv_ltL (i32_lt c_77) hr_74 (iv_k (by decide) : iv 2 2 2) (by decide)
        refine ec_aload_n hx hb dX9_standsRight_187 rfl (lv_at hl 0 rfl) ?_
        refine ec_aload_n hx hb dX9_standsRight_188 rfl (lv_at hl 1 rfl) ?_
        refine cm_callV (t := 3) (C := RX9) (T := TX9) (N := 1) (rest := []) (as := [eV (ad 9) o]) ⟨hx, hb, hml, hown, htb⟩ (d_isFirstOfName l dC dI ad cid a2 lx sg gm lg x o hI hvx hvo hFA how hVS hLK ((fI_r_68.resolve_left (by have := i32_0; have := i32_1; have := i32_2; have := i32_m1; have := (hvx).1; have := (hvx).2; have := (hvo).1; have := (hvo).2; have := (h_5).1; have := (h_5).2; have := (h_67).1; have := (h_67).2; have := (h_73).1; have := (h_73).2; have := (h_79).1; have := (h_79).2; omega)).1)) (cwV 1 htb (gd_V kw_538 kw_539 kw_540 kw_28 kw_1465) rfl rfl rfl (by decide +kernel) ⟨Nat.le_of_ble_eq_true rfl, Nat.le_of_ble_eq_true rfl⟩) hvx (by decide) (by decide) rfl rfl hl.1 rfl (Nat.le_trans cs_n (by decide)) dX9_standsRight_189 ⟨Nat.le_of_ble_eq_true rfl, Nat.le_of_ble_eq_true rfl⟩ hK hP hD hS hA hG (fun E ce q9 u_81 H locs hw hP hD hS hce hcv hcl => ?_) (fun v9 u_81 H locs hw hP hD hS => ?_)
        · exact hw.elim
        obtain ⟨r_80, rfl, rfl, hr_80⟩ := hw
        have hP : va_P (dC, dI) vwCl (cW ad cid a2 lx sg gm lg) H := hP
        have hD : va_D A (cW ad cid a2 lx sg gm lg) := hD
        refine W.eq (g2 := F0 m 192 ls [.int r_80]) rfl ?_
        refine lv_if_eq (tgt := 199) hx hb dX9_standsRight_192 (by decide) (fun c_83 => ?_) (fun c_83 => ?_)
        · have h_84 : iv 0 0 r_80 := iv_eq c_83 hr_80 (iv_k (by decide) : iv 0 0 0) (by decide)
          exact hj199 hvx hvo _ _ _ hP hD hS (lv_sub hl [0, 1] rfl)
        · have h_85 : iv 1 1 r_80 := iv_neL c_83 hr_80 (by decide)
          refine lv_iconst (v := 1) hx hb dX9_standsRight_195 (by decide) ?_
          refine lv_goto (tgt := 200) hx hb dX9_standsRight_196 (by decide) ?_
          exact hj200 1 hvx hvo (iv_w (iv_k (by decide) : iv 1 1 1) (by decide)) (Or.inr (HOK_o (fI_r_68.resolve_left (by have := i32_0; have := i32_1; have := i32_2; have := i32_m1; have := (hvx).1; have := (hvx).2; have := (hvo).1; have := (hvo).2; have := (h_5).1; have := (h_5).2; have := (h_67).1; have := (h_67).2; have := (h_73).1; have := (h_73).2; have := (h_79).1; have := (h_79).2; have := (h_85).1; have := (h_85).2; omega)) (by decide))) _ _ _ hP hD hS (lv_sub hl [0, 1] rfl)
  by_cases c_86 : (z_6 : Int32).toInt = 12
  · refine lv_tableIn (tgt := 201) hx hb dX9_standsRight_11 (by rw [c_86]; decide) (by rw [c_86]; decide) (by rw [c_86]; rfl) (by decide) ?_
    have h_87 : iv 12 12 z_6 := iv_at c_86
    refine ec_aload_n hx hb dX9_standsRight_201 rfl (lv_at hl 1 rfl) ?_
    refine cw_word (k := 3) (kx := 3) hx hb hG hS (by decide) rfl ⟨by decide, by decide⟩ hown (htb _ kw_518) dX9_standsRight_202 ?_
    refine cm_callV (t := 9) (C := RX3) (T := TX3) (N := 21) (rest := []) (as := [eV (ad 33) 3]) ⟨hx, hb, hml, hown, htb⟩ (d_isIn l dC dI ad cid a2 lx sg gm lg o 3 hI hvo (iv_w (iv_k (by decide) : iv 3 3 3) (by decide))) (cwV 1 htb (gd_V kw_526 kw_527 kw_528 kw_66 kw_1462) rfl rfl rfl (by decide +kernel) ⟨Nat.le_of_ble_eq_true rfl, Nat.le_of_ble_eq_true rfl⟩) hvo (by decide) (by decide) rfl rfl hl.1 rfl (Nat.le_trans cs_n (by decide)) dX9_standsRight_205 ⟨Nat.le_of_ble_eq_true rfl, Nat.le_of_ble_eq_true rfl⟩ hK hP hD hS hA hG (fun E ce q9 u_89 H locs hw hP hD hS hce hcv hcl => ?_) (fun v9 u_89 H locs hw hP hD hS => ?_)
    · exact hw.elim
    obtain ⟨r_88, rfl, rfl, hr_88, fI_r_88⟩ := hw
    have hP : va_P (dC, dI) vwCl (cW ad cid a2 lx sg gm lg) H := hP
    have hD : va_D A (cW ad cid a2 lx sg gm lg) := hD
    refine W.eq (g2 := F0 m 208 ls [.int r_88]) rfl ?_
    refine lv_if_ne (tgt := 221) hx hb dX9_standsRight_208 (by decide) (fun c_91 => ?_) (fun c_91 => ?_)
    · have h_92 : iv 1 1 r_88 := iv_neL c_91 hr_88 (by decide)
      exact hj221 hvx hvo (HOK_g (by have q1 := sw10 (show iv 0 33 z_4 from h_5) ez_6 (by omega) (by omega); rw [← ez_4]; omega)) _ _ _ hP hD hS (lv_sub hl [0, 1] rfl)
    · have h_93 : iv 0 0 r_88 := iv_eq c_91 hr_88 (iv_k (by decide) : iv 0 0 0) (by decide)
      refine ec_aload_n hx hb dX9_standsRight_211 rfl (lv_at hl 1 rfl) ?_
      refine cw_word (k := 4) (kx := 4) hx hb hG hS (by decide) rfl ⟨by decide, by decide⟩ hown (htb _ kw_519) dX9_standsRight_212 ?_
      refine cm_callV (t := 9) (C := RX3) (T := TX3) (N := 21) (rest := []) (as := [eV (ad 33) 4]) ⟨hx, hb, hml, hown, htb⟩ (d_isIn l dC dI ad cid a2 lx sg gm lg o 4 hI hvo (iv_w (iv_k (by decide) : iv 4 4 4) (by decide))) (cwV 1 htb (gd_V kw_526 kw_527 kw_528 kw_66 kw_1462) rfl rfl rfl (by decide +kernel) ⟨Nat.le_of_ble_eq_true rfl, Nat.le_of_ble_eq_true rfl⟩) hvo (by decide) (by decide) rfl rfl hl.1 rfl (Nat.le_trans cs_n (by decide)) dX9_standsRight_215 ⟨Nat.le_of_ble_eq_true rfl, Nat.le_of_ble_eq_true rfl⟩ hK hP hD hS hA hG (fun E ce q9 u_95 H locs hw hP hD hS hce hcv hcl => ?_) (fun v9 u_95 H locs hw hP hD hS => ?_)
      · exact hw.elim
      obtain ⟨r_94, rfl, rfl, hr_94, fI_r_94⟩ := hw
      have hP : va_P (dC, dI) vwCl (cW ad cid a2 lx sg gm lg) H := hP
      have hD : va_D A (cW ad cid a2 lx sg gm lg) := hD
      refine W.eq (g2 := F0 m 218 ls [.int r_94]) rfl ?_
      refine lv_if_eq (tgt := 225) hx hb dX9_standsRight_218 (by decide) (fun c_97 => ?_) (fun c_97 => ?_)
      · have h_98 : iv 0 0 r_94 := iv_eq c_97 hr_94 (iv_k (by decide) : iv 0 0 0) (by decide)
        refine lv_iconst (v := 0) hx hb dX9_standsRight_225 (by decide) ?_
        exact hj226 0 hvx hvo (iv_w (iv_k (by decide) : iv 0 0 0) (by decide)) (Or.inl rfl) _ _ _ hP hD hS (lv_sub hl [0, 1] rfl)
      · have h_99 : iv 1 1 r_94 := iv_neL c_97 hr_94 (by decide)
        exact hj221 hvx hvo (HOK_g (by have q1 := sw10 (show iv 0 33 z_4 from h_5) ez_6 (by omega) (by omega); rw [← ez_4]; omega)) _ _ _ hP hD hS (lv_sub hl [0, 1] rfl)
  by_cases c_100 : (z_6 : Int32).toInt = 13
  · refine lv_tableIn (tgt := 227) hx hb dX9_standsRight_11 (by rw [c_100]; decide) (by rw [c_100]; decide) (by rw [c_100]; rfl) (by decide) ?_
    have h_101 : iv 13 13 z_6 := iv_at c_100
    exact hj227 hvx hvo (HOK_g (by have q1 := sw10 (show iv 0 33 z_4 from h_5) ez_6 (by omega) (by omega); rw [← ez_4]; omega)) _ _ _ hP hD hS (lv_sub hl [0, 1] rfl)
  by_cases c_102 : (z_6 : Int32).toInt = 14
  · refine lv_tableIn (tgt := 227) hx hb dX9_standsRight_11 (by rw [c_102]; decide) (by rw [c_102]; decide) (by rw [c_102]; rfl) (by decide) ?_
    have h_103 : iv 14 14 z_6 := iv_at c_102
    exact hj227 hvx hvo (HOK_g (by have q1 := sw10 (show iv 0 33 z_4 from h_5) ez_6 (by omega) (by omega); rw [← ez_4]; omega)) _ _ _ hP hD hS (lv_sub hl [0, 1] rfl)
  by_cases c_104 : (z_6 : Int32).toInt = 15
  · refine lv_tableIn (tgt := 227) hx hb dX9_standsRight_11 (by rw [c_104]; decide) (by rw [c_104]; decide) (by rw [c_104]; rfl) (by decide) ?_
    have h_105 : iv 15 15 z_6 := iv_at c_104
    exact hj227 hvx hvo (HOK_g (by have q1 := sw10 (show iv 0 33 z_4 from h_5) ez_6 (by omega) (by omega); rw [← ez_4]; omega)) _ _ _ hP hD hS (lv_sub hl [0, 1] rfl)
  refine lv_tableOut (tgt := 233) hx hb dX9_standsRight_11 (by have q1 := (hz_6).1; have q2 := (hz_6).2; omega) (by decide) ?_
  refine lv_iconst (v := 0) hx hb dX9_standsRight_233 (by decide) ?_
  exact W.nb (fun hN => W.widen (k := 1) (n := 6) (by decide) (by decide) (vx_ret (W.zret (v := 0) hx hb hr (iv_nb (iv_w (iv_k (by decide) : iv 0 0 0) (by decide))) (fun t ht hW => ⟨⟨some (.int 0), (sg, gm, lg), rfl, ⟨0, rfl, rfl, (iv_w (iv_k (by decide) : iv 0 0 0) (by decide)), (Or.inl rfl)⟩, by rw [ht]; exact hP, va_K.moved hW.alike hK, hD⟩, hS.F ht, by rw [ht]; exact hN⟩) hS.2.2 dX9_standsRight_234)))

set_option maxHeartbeats 4000000 in
set_option maxRecDepth 100000 in
theorem d_beanMayHave (l : Launch) (dC : Nat → ClassId) (dI : Nat → Nat → Nat) (ad : Nat → Nat → Nat) (cid : Nat → ClassId) (a2 : Nat → Nat) (lx : List Nat) (sg : Nat → Int32) (gm : Nat → Nat → Int32) (lg : Nat → Nat → Int64) (x : Int32) (w : Int32) (b : Int32) (hI : CI sg gm) (hvx : iv 0 0 x) (hvw : iv 0 33 w) (hvb : iv 0 1 b) : CMt dC dI ad cid a2 lx l yX9_beanMayHave wm_X9_beanMayHave ({ frames := 1, cells := 1, slots := 6, locals := 20 }) [eV (ad 3) x, eV (ad 33) w, .int b] sg gm lg (fun v u => ∃ r : Int32, v = some (.int r) ∧ u = (sg, gm, lg) ∧ (iv 0 1 r) ∧ (r.toInt = 0 ∨ ¬ w.toInt = 10 ∨ b.toInt = 1)) (fun _ _ => False) := by
  intro sz
  refine vx_ofW (cc := cX9_beanMayHave) (maxL := 3) (ret := (some .boolean)) (by decide) rfl ?_
  intro p e s m args below meth c s₁ B hml hxt hv
  obtain ⟨rfl, hsz, hP, hK, hD0, hG⟩ := hv
  have hx := B.exec
  have hb := B.bytes
  have hr := B.returns
  have hts := atoms_spec (ws := wm_X9_beanMayHave) B.pre
  have htb := fun (w : Cond) (h : w ∈ tb) => hts w (List.mem_cons_of_mem _ h)
  have hown : s.vm.findClass RX9 = some m.cls := findClass_of_methodNamed B.named
  have hlocks := B.notSynchronized
  subst hsz
  have hD := hD0.self (sz := s.heap.size)
  generalize hAe : va_A (cW ad cid a2 lx sg gm lg) s.heap.size = A at hD hG ⊢
  have hA : ∀ q : Nat, s.heap.size ≤ q → A q := fun q h => by rw [← hAe]; exact Or.inr h
  have hS : va_S A s.heap s.heap [] := va_S.rf
  have hl := lv_entry ([eV (ad 3) x, eV (ad 33) w, .int b]) (n := 3) (by rw [show (lg_sl ([eV (ad 3) x, eV (ad 33) w, .int b])).length = 3 from by simp [lg_sl, eV_cat, cat_i, cat_l]]; exact Nat.le_of_ble_eq_true rfl)
  rw [lg_entry_eq]
  generalize (lg_sl ([eV (ad 3) x, eV (ad 33) w, .int b]) ++ List.replicate (3 - (lg_sl ([eV (ad 3) x, eV (ad 33) w, .int b])).length) Slot.unset).toArray = ls at hl ⊢
  have hl : lv_has ls 3 [(0, eV (ad 3) x), (1, eV (ad 33) w), (2, .int b)] := by simp [lv_args, eV_cat, cat_i, cat_l] at hl; exact hl
  have hj68 : ∀ (_ : iv 0 0 x) (_ : iv 0 33 w) (_ : iv 0 1 b) (H : Heap) (locs : List Loc) (ls : Array Slot), va_P (dC, dI) vwCl (cW ad cid a2 lx sg gm lg) H → va_D A (cW ad cid a2 lx sg gm lg) → va_S A s.heap H locs → lv_has ls 3 [(0, eV (ad 3) x), (1, eV (ad 33) w), (2, .int b)] → W p l e (headSpec wm_X9_beanMayHave ({ frames := 1, cells := 1, slots := 6, locals := 20 })).room s m ([eV (ad 3) x, eV (ad 33) w, .int b] : List Value).toArray below meth c H locs 0 0 (vx_MQ below (cQx dC dI ad cid a2 lx (fun v u => ∃ r : Int32, v = some (.int r) ∧ u = (sg, gm, lg) ∧ (iv 0 1 r) ∧ (r.toInt = 0 ∨ ¬ w.toInt = 10 ∨ b.toInt = 1)) A) (cX dC dI ad cid a2 lx (fun _ _ => False) A) ([eV (ad 3) x, eV (ad 33) w, .int b] : List Value).toArray s 1 6 A) (F0 m 68 ls []) := by
    intro  hsx0_68 hsx1_68 hsx2_68 H locs ls hP hD hS hl
    refine lv_iload_n hx hb dX9_beanMayHave_68 rfl (lv_at hl 2 rfl) ?_
    exact W.nb (fun hN => W.widen (k := 1) (n := 6) (by decide) (by decide) (vx_ret (W.zret (v := b) hx hb hr (iv_nb hsx2_68) (fun t ht hW => ⟨⟨some (.int b), (sg, gm, lg), rfl, ⟨b, rfl, rfl, hsx2_68, (by have := hvb.1; have := hvb.2; omega)⟩, by rw [ht]; exact hP, va_K.moved hW.alike hK, hD⟩, hS.F ht, by rw [ht]; exact hN⟩) hS.2.2 dX9_beanMayHave_69)))
  have hj70 : ∀ (_ : iv 0 0 x) (_ : iv 0 33 w) (_ : iv 0 1 b) (_ : ¬ w.toInt = 10) (H : Heap) (locs : List Loc) (ls : Array Slot), va_P (dC, dI) vwCl (cW ad cid a2 lx sg gm lg) H → va_D A (cW ad cid a2 lx sg gm lg) → va_S A s.heap H locs → lv_has ls 3 [(0, eV (ad 3) x), (1, eV (ad 33) w), (2, .int b)] → W p l e (headSpec wm_X9_beanMayHave ({ frames := 1, cells := 1, slots := 6, locals := 20 })).room s m ([eV (ad 3) x, eV (ad 33) w, .int b] : List Value).toArray below meth c H locs 0 0 (vx_MQ below (cQx dC dI ad cid a2 lx (fun v u => ∃ r : Int32, v = some (.int r) ∧ u = (sg, gm, lg) ∧ (iv 0 1 r) ∧ (r.toInt = 0 ∨ ¬ w.toInt = 10 ∨ b.toInt = 1)) A) (cX dC dI ad cid a2 lx (fun _ _ => False) A) ([eV (ad 3) x, eV (ad 33) w, .int b] : List Value).toArray s 1 6 A) (F0 m 70 ls []) := by
    intro  hsx0_70 hsx1_70 hsx2_70 h10 H locs ls hP hD hS hl
    refine lv_iconst (v := 1) hx hb dX9_beanMayHave_70 (by decide) ?_
    exact W.nb (fun hN => W.widen (k := 1) (n := 6) (by decide) (by decide) (vx_ret (W.zret (v := 1) hx hb hr (iv_nb (iv_w (iv_k (by decide) : iv 1 1 1) (by decide))) (fun t ht hW => ⟨⟨some (.int 1), (sg, gm, lg), rfl, ⟨1, rfl, rfl, (iv_w (iv_k (by decide) : iv 1 1 1) (by decide)), (Or.inr (Or.inl h10))⟩, by rw [ht]; exact hP, va_K.moved hW.alike hK, hD⟩, hS.F ht, by rw [ht]; exact hN⟩) hS.2.2 dX9_beanMayHave_71)))
  refine cw_sw hx hb hG hS hown (htb _ kw_514) dX9_beanMayHave_0 ?_
  refine ec_aload_n hx hb dX9_beanMayHave_3 rfl (lv_at hl 1 rfl) ?_
  refine cw_ord ⟨hx, hb, hml, hown, htb⟩ kw_520 hvw hl.1 (Nat.le_trans (cs_c (eV_cat _ _) cs_n) (by decide)) dX9_beanMayHave_4 ⟨Nat.le_of_ble_eq_true rfl, Nat.le_of_ble_eq_true rfl⟩ ⟨Nat.le_of_ble_eq_true rfl, Nat.le_of_ble_eq_true rfl⟩ hP hD hS hA hG (fun H locs hP hS => ?_)
  refine cw_swld (iv_k (by decide) : iv 0 0 0) hx hb hG hS hvw dX9_beanMayHave_7 ?_
  refine lv_topi (fun z_1 ez_1 => ?_)
  have hz_1 : iv 0 29 z_1 := iv_of ez_1 (sw_iv w)
  by_cases c_2 : (z_1 : Int32).toInt = 16
  · refine lv_tableIn (tgt := 68) hx hb dX9_beanMayHave_8 (by rw [c_2]; decide) (by rw [c_2]; decide) (by rw [c_2]; rfl) (by decide) ?_
    have h_3 : iv 16 16 z_1 := iv_at c_2
    exact hj68 hvx hvw hvb _ _ _ hP hD hS (lv_sub hl [0, 1, 2] rfl)
  by_cases c_4 : (z_1 : Int32).toInt = 17
  · refine lv_tableIn (tgt := 68) hx hb dX9_beanMayHave_8 (by rw [c_4]; decide) (by rw [c_4]; decide) (by rw [c_4]; rfl) (by decide) ?_
    have h_5 : iv 17 17 z_1 := iv_at c_4
    exact hj68 hvx hvw hvb _ _ _ hP hD hS (lv_sub hl [0, 1, 2] rfl)
  by_cases c_6 : (z_1 : Int32).toInt = 18
  · refine lv_tableIn (tgt := 68) hx hb dX9_beanMayHave_8 (by rw [c_6]; decide) (by rw [c_6]; decide) (by rw [c_6]; rfl) (by decide) ?_
    have h_7 : iv 18 18 z_1 := iv_at c_6
    exact hj68 hvx hvw hvb _ _ _ hP hD hS (lv_sub hl [0, 1, 2] rfl)
  by_cases c_8 : (z_1 : Int32).toInt = 19
  · refine lv_tableIn (tgt := 70) hx hb dX9_beanMayHave_8 (by rw [c_8]; decide) (by rw [c_8]; decide) (by rw [c_8]; rfl) (by decide) ?_
    have h_9 : iv 19 19 z_1 := iv_at c_8
    exact hj70 hvx hvw hvb (swx 10 16 (by decide) hvw ez_1 (by omega)) _ _ _ hP hD hS (lv_sub hl [0, 1, 2] rfl)
  by_cases c_10 : (z_1 : Int32).toInt = 20
  · refine lv_tableIn (tgt := 70) hx hb dX9_beanMayHave_8 (by rw [c_10]; decide) (by rw [c_10]; decide) (by rw [c_10]; rfl) (by decide) ?_
    have h_11 : iv 20 20 z_1 := iv_at c_10
    exact hj70 hvx hvw hvb (swx 10 16 (by decide) hvw ez_1 (by omega)) _ _ _ hP hD hS (lv_sub hl [0, 1, 2] rfl)
  by_cases c_12 : (z_1 : Int32).toInt = 21
  · refine lv_tableIn (tgt := 70) hx hb dX9_beanMayHave_8 (by rw [c_12]; decide) (by rw [c_12]; decide) (by rw [c_12]; rfl) (by decide) ?_
    have h_13 : iv 21 21 z_1 := iv_at c_12
    exact hj70 hvx hvw hvb (swx 10 16 (by decide) hvw ez_1 (by omega)) _ _ _ hP hD hS (lv_sub hl [0, 1, 2] rfl)
  by_cases c_14 : (z_1 : Int32).toInt = 22
  · refine lv_tableIn (tgt := 70) hx hb dX9_beanMayHave_8 (by rw [c_14]; decide) (by rw [c_14]; decide) (by rw [c_14]; rfl) (by decide) ?_
    have h_15 : iv 22 22 z_1 := iv_at c_14
    exact hj70 hvx hvw hvb (swx 10 16 (by decide) hvw ez_1 (by omega)) _ _ _ hP hD hS (lv_sub hl [0, 1, 2] rfl)
  by_cases c_16 : (z_1 : Int32).toInt = 23
  · refine lv_tableIn (tgt := 70) hx hb dX9_beanMayHave_8 (by rw [c_16]; decide) (by rw [c_16]; decide) (by rw [c_16]; rfl) (by decide) ?_
    have h_17 : iv 23 23 z_1 := iv_at c_16
    exact hj70 hvx hvw hvb (swx 10 16 (by decide) hvw ez_1 (by omega)) _ _ _ hP hD hS (lv_sub hl [0, 1, 2] rfl)
  by_cases c_18 : (z_1 : Int32).toInt = 24
  · refine lv_tableIn (tgt := 70) hx hb dX9_beanMayHave_8 (by rw [c_18]; decide) (by rw [c_18]; decide) (by rw [c_18]; rfl) (by decide) ?_
    have h_19 : iv 24 24 z_1 := iv_at c_18
    exact hj70 hvx hvw hvb (swx 10 16 (by decide) hvw ez_1 (by omega)) _ _ _ hP hD hS (lv_sub hl [0, 1, 2] rfl)
  by_cases c_20 : (z_1 : Int32).toInt = 25
  · refine lv_tableIn (tgt := 70) hx hb dX9_beanMayHave_8 (by rw [c_20]; decide) (by rw [c_20]; decide) (by rw [c_20]; rfl) (by decide) ?_
    have h_21 : iv 25 25 z_1 := iv_at c_20
    exact hj70 hvx hvw hvb (swx 10 16 (by decide) hvw ez_1 (by omega)) _ _ _ hP hD hS (lv_sub hl [0, 1, 2] rfl)
  by_cases c_22 : (z_1 : Int32).toInt = 26
  · refine lv_tableIn (tgt := 70) hx hb dX9_beanMayHave_8 (by rw [c_22]; decide) (by rw [c_22]; decide) (by rw [c_22]; rfl) (by decide) ?_
    have h_23 : iv 26 26 z_1 := iv_at c_22
    exact hj70 hvx hvw hvb (swx 10 16 (by decide) hvw ez_1 (by omega)) _ _ _ hP hD hS (lv_sub hl [0, 1, 2] rfl)
  refine lv_tableOut (tgt := 72) hx hb dX9_beanMayHave_8 (by have q1 := (hz_1).1; have q2 := (hz_1).2; omega) (by decide) ?_
  refine lv_iconst (v := 0) hx hb dX9_beanMayHave_72 (by decide) ?_
  exact W.nb (fun hN => W.widen (k := 1) (n := 6) (by decide) (by decide) (vx_ret (W.zret (v := 0) hx hb hr (iv_nb (iv_w (iv_k (by decide) : iv 0 0 0) (by decide))) (fun t ht hW => ⟨⟨some (.int 0), (sg, gm, lg), rfl, ⟨0, rfl, rfl, (iv_w (iv_k (by decide) : iv 0 0 0) (by decide)), (Or.inl rfl)⟩, by rw [ht]; exact hP, va_K.moved hW.alike hK, hD⟩, hS.F ht, by rw [ht]; exact hN⟩) hS.2.2 dX9_beanMayHave_73)))

set_option maxHeartbeats 4000000 in
set_option maxRecDepth 100000 in
theorem d_mayHave (l : Launch) (dC : Nat → ClassId) (dI : Nat → Nat → Nat) (ad : Nat → Nat → Nat) (cid : Nat → ClassId) (a2 : Nat → Nat) (lx : List Nat) (sg : Nat → Int32) (gm : Nat → Nat → Int32) (lg : Nat → Nat → Int64) (x : Int32) (o : Int32) (w : Int32) (hI : CI sg gm) (hvx : iv 0 0 x) (hvo : iv 0 79 o) (hvw : iv 0 33 w) (hw0 : 0 ≤ (gm 14 o.toNatClampNeg).toInt) : CMt dC dI ad cid a2 lx l yX9_mayHave wm_X9_mayHave ({ frames := 2, cells := 1, slots := 6, locals := 42 }) [eV (ad 3) x, eV (ad 9) o, eV (ad 33) w] sg gm lg (fun v u => ∃ r : Int32, v = some (.int r) ∧ u = (sg, gm, lg) ∧ (iv 0 1 r) ∧ (r.toInt = 0 ∨ ¬ (gm 14 o.toNatClampNeg).toInt = 2 ∨ ¬ w.toInt = 10 ∨ ISI gm o.toNatClampNeg 0)) (fun _ _ => False) := by
  intro sz
  refine vx_ofW (cc := cX9_mayHave) (maxL := 3) (ret := (some .boolean)) (by decide) rfl ?_
  intro p e s m args below meth c s₁ B hml hxt hv
  obtain ⟨rfl, hsz, hP, hK, hD0, hG⟩ := hv
  have hx := B.exec
  have hb := B.bytes
  have hr := B.returns
  have hts := atoms_spec (ws := wm_X9_mayHave) B.pre
  have htb := fun (w : Cond) (h : w ∈ tb) => hts w (List.mem_cons_of_mem _ h)
  have hown : s.vm.findClass RX9 = some m.cls := findClass_of_methodNamed B.named
  have hlocks := B.notSynchronized
  subst hsz
  have hD := hD0.self (sz := s.heap.size)
  generalize hAe : va_A (cW ad cid a2 lx sg gm lg) s.heap.size = A at hD hG ⊢
  have hA : ∀ q : Nat, s.heap.size ≤ q → A q := fun q h => by rw [← hAe]; exact Or.inr h
  have hS : va_S A s.heap s.heap [] := va_S.rf
  have hl := lv_entry ([eV (ad 3) x, eV (ad 9) o, eV (ad 33) w]) (n := 3) (by rw [show (lg_sl ([eV (ad 3) x, eV (ad 9) o, eV (ad 33) w])).length = 3 from by simp [lg_sl, eV_cat, cat_i, cat_l]]; exact Nat.le_of_ble_eq_true rfl)
  rw [lg_entry_eq]
  generalize (lg_sl ([eV (ad 3) x, eV (ad 9) o, eV (ad 33) w]) ++ List.replicate (3 - (lg_sl ([eV (ad 3) x, eV (ad 9) o, eV (ad 33) w])).length) Slot.unset).toArray = ls at hl ⊢
  have hl : lv_has ls 3 [(0, eV (ad 3) x), (1, eV (ad 9) o), (2, eV (ad 33) w)] := by simp [lv_args, eV_cat, cat_i, cat_l] at hl; exact hl
  have hj75 : ∀ (y0_75 : Int32) (_ : iv 0 0 x) (_ : iv 0 79 o) (_ : iv 0 33 w) (_ : iv 0 1 y0_75) (_ : ¬ (gm 14 o.toNatClampNeg).toInt = 2) (H : Heap) (locs : List Loc) (ls : Array Slot), va_P (dC, dI) vwCl (cW ad cid a2 lx sg gm lg) H → va_D A (cW ad cid a2 lx sg gm lg) → va_S A s.heap H locs → lv_has ls 3 [(0, eV (ad 3) x), (1, eV (ad 9) o), (2, eV (ad 33) w)] → W p l e (headSpec wm_X9_mayHave ({ frames := 2, cells := 1, slots := 6, locals := 42 })).room s m ([eV (ad 3) x, eV (ad 9) o, eV (ad 33) w] : List Value).toArray below meth c H locs 0 0 (vx_MQ below (cQx dC dI ad cid a2 lx (fun v u => ∃ r : Int32, v = some (.int r) ∧ u = (sg, gm, lg) ∧ (iv 0 1 r) ∧ (r.toInt = 0 ∨ ¬ (gm 14 o.toNatClampNeg).toInt = 2 ∨ ¬ w.toInt = 10 ∨ ISI gm o.toNatClampNeg 0)) A) (cX dC dI ad cid a2 lx (fun _ _ => False) A) ([eV (ad 3) x, eV (ad 9) o, eV (ad 33) w] : List Value).toArray s 1 6 A) (F0 m 75 ls [.int y0_75]) := by
    intro y0_75 hsx0_75 hsx1_75 hsx2_75 hy0_75 h2 H locs ls hP hD hS hl
    exact W.nb (fun hN => W.widen (k := 1) (n := 6) (by decide) (by decide) (vx_ret (W.zret (v := y0_75) hx hb hr (iv_nb hy0_75) (fun t ht hW => ⟨⟨some (.int y0_75), (sg, gm, lg), rfl, ⟨y0_75, rfl, rfl, hy0_75, (Or.inr (Or.inl (h2)))⟩, by rw [ht]; exact hP, va_K.moved hW.alike hK, hD⟩, hS.F ht, by rw [ht]; exact hN⟩) hS.2.2 dX9_mayHave_75)))
  have hj70 : ∀ (_ : iv 0 0 x) (_ : iv 0 79 o) (_ : iv 0 33 w) (_ : ¬ (gm 14 o.toNatClampNeg).toInt = 2) (H : Heap) (locs : List Loc) (ls : Array Slot), va_P (dC, dI) vwCl (cW ad cid a2 lx sg gm lg) H → va_D A (cW ad cid a2 lx sg gm lg) → va_S A s.heap H locs → lv_has ls 3 [(0, eV (ad 3) x), (1, eV (ad 9) o), (2, eV (ad 33) w)] → W p l e (headSpec wm_X9_mayHave ({ frames := 2, cells := 1, slots := 6, locals := 42 })).room s m ([eV (ad 3) x, eV (ad 9) o, eV (ad 33) w] : List Value).toArray below meth c H locs 0 0 (vx_MQ below (cQx dC dI ad cid a2 lx (fun v u => ∃ r : Int32, v = some (.int r) ∧ u = (sg, gm, lg) ∧ (iv 0 1 r) ∧ (r.toInt = 0 ∨ ¬ (gm 14 o.toNatClampNeg).toInt = 2 ∨ ¬ w.toInt = 10 ∨ ISI gm o.toNatClampNeg 0)) A) (cX dC dI ad cid a2 lx (fun _ _ => False) A) ([eV (ad 3) x, eV (ad 9) o, eV (ad 33) w] : List Value).toArray s 1 6 A) (F0 m 70 ls []) := by
    intro  hsx0_70 hsx1_70 hsx2_70 h2 H locs ls hP hD hS hl
    refine lv_iconst (v := 1) hx hb dX9_mayHave_70 (by decide) ?_
    refine lv_goto (tgt := 75) hx hb dX9_mayHave_71 (by decide) ?_
    exact hj75 1 hsx0_70 hsx1_70 hsx2_70 (iv_w (iv_k (by decide) : iv 1 1 1) (by decide)) (h2) _ _ _ hP hD hS (lv_sub hl [0, 1, 2] rfl)
  have hj122 : ∀ (y0_122 : Int32) (_ : iv 0 0 x) (_ : iv 0 79 o) (_ : iv 0 33 w) (_ : iv 0 1 y0_122) (_ : ¬ (gm 14 o.toNatClampNeg).toInt = 2) (H : Heap) (locs : List Loc) (ls : Array Slot), va_P (dC, dI) vwCl (cW ad cid a2 lx sg gm lg) H → va_D A (cW ad cid a2 lx sg gm lg) → va_S A s.heap H locs → lv_has ls 3 [(0, eV (ad 3) x), (1, eV (ad 9) o), (2, eV (ad 33) w)] → W p l e (headSpec wm_X9_mayHave ({ frames := 2, cells := 1, slots := 6, locals := 42 })).room s m ([eV (ad 3) x, eV (ad 9) o, eV (ad 33) w] : List Value).toArray below meth c H locs 0 0 (vx_MQ below (cQx dC dI ad cid a2 lx (fun v u => ∃ r : Int32, v = some (.int r) ∧ u = (sg, gm, lg) ∧ (iv 0 1 r) ∧ (r.toInt = 0 ∨ ¬ (gm 14 o.toNatClampNeg).toInt = 2 ∨ ¬ w.toInt = 10 ∨ ISI gm o.toNatClampNeg 0)) A) (cX dC dI ad cid a2 lx (fun _ _ => False) A) ([eV (ad 3) x, eV (ad 9) o, eV (ad 33) w] : List Value).toArray s 1 6 A) (F0 m 122 ls [.int y0_122]) := by
    intro y0_122 hsx0_122 hsx1_122 hsx2_122 hy0_122 h2 H locs ls hP hD hS hl
    exact W.nb (fun hN => W.widen (k := 1) (n := 6) (by decide) (by decide) (vx_ret (W.zret (v := y0_122) hx hb hr (iv_nb hy0_122) (fun t ht hW => ⟨⟨some (.int y0_122), (sg, gm, lg), rfl, ⟨y0_122, rfl, rfl, hy0_122, (Or.inr (Or.inl (h2)))⟩, by rw [ht]; exact hP, va_K.moved hW.alike hK, hD⟩, hS.F ht, by rw [ht]; exact hN⟩) hS.2.2 dX9_mayHave_122)))
  have hj117 : ∀ (_ : iv 0 0 x) (_ : iv 0 79 o) (_ : iv 0 33 w) (_ : ¬ (gm 14 o.toNatClampNeg).toInt = 2) (H : Heap) (locs : List Loc) (ls : Array Slot), va_P (dC, dI) vwCl (cW ad cid a2 lx sg gm lg) H → va_D A (cW ad cid a2 lx sg gm lg) → va_S A s.heap H locs → lv_has ls 3 [(0, eV (ad 3) x), (1, eV (ad 9) o), (2, eV (ad 33) w)] → W p l e (headSpec wm_X9_mayHave ({ frames := 2, cells := 1, slots := 6, locals := 42 })).room s m ([eV (ad 3) x, eV (ad 9) o, eV (ad 33) w] : List Value).toArray below meth c H locs 0 0 (vx_MQ below (cQx dC dI ad cid a2 lx (fun v u => ∃ r : Int32, v = some (.int r) ∧ u = (sg, gm, lg) ∧ (iv 0 1 r) ∧ (r.toInt = 0 ∨ ¬ (gm 14 o.toNatClampNeg).toInt = 2 ∨ ¬ w.toInt = 10 ∨ ISI gm o.toNatClampNeg 0)) A) (cX dC dI ad cid a2 lx (fun _ _ => False) A) ([eV (ad 3) x, eV (ad 9) o, eV (ad 33) w] : List Value).toArray s 1 6 A) (F0 m 117 ls []) := by
    intro  hsx0_117 hsx1_117 hsx2_117 h2 H locs ls hP hD hS hl
    refine lv_iconst (v := 1) hx hb dX9_mayHave_117 (by decide) ?_
    refine lv_goto (tgt := 122) hx hb dX9_mayHave_118 (by decide) ?_
    exact hj122 1 hsx0_117 hsx1_117 hsx2_117 (iv_w (iv_k (by decide) : iv 1 1 1) (by decide)) (h2) _ _ _ hP hD hS (lv_sub hl [0, 1, 2] rfl)
  have hj149 : ∀ (y0_149 : Int32) (_ : iv 0 0 x) (_ : iv 0 79 o) (_ : iv 0 33 w) (_ : iv 0 1 y0_149) (_ : ¬ (gm 14 o.toNatClampNeg).toInt = 2) (H : Heap) (locs : List Loc) (ls : Array Slot), va_P (dC, dI) vwCl (cW ad cid a2 lx sg gm lg) H → va_D A (cW ad cid a2 lx sg gm lg) → va_S A s.heap H locs → lv_has ls 3 [(0, eV (ad 3) x), (1, eV (ad 9) o), (2, eV (ad 33) w)] → W p l e (headSpec wm_X9_mayHave ({ frames := 2, cells := 1, slots := 6, locals := 42 })).room s m ([eV (ad 3) x, eV (ad 9) o, eV (ad 33) w] : List Value).toArray below meth c H locs 0 0 (vx_MQ below (cQx dC dI ad cid a2 lx (fun v u => ∃ r : Int32, v = some (.int r) ∧ u = (sg, gm, lg) ∧ (iv 0 1 r) ∧ (r.toInt = 0 ∨ ¬ (gm 14 o.toNatClampNeg).toInt = 2 ∨ ¬ w.toInt = 10 ∨ ISI gm o.toNatClampNeg 0)) A) (cX dC dI ad cid a2 lx (fun _ _ => False) A) ([eV (ad 3) x, eV (ad 9) o, eV (ad 33) w] : List Value).toArray s 1 6 A) (F0 m 149 ls [.int y0_149]) := by
    intro y0_149 hsx0_149 hsx1_149 hsx2_149 hy0_149 h2 H locs ls hP hD hS hl
    exact W.nb (fun hN => W.widen (k := 1) (n := 6) (by decide) (by decide) (vx_ret (W.zret (v := y0_149) hx hb hr (iv_nb hy0_149) (fun t ht hW => ⟨⟨some (.int y0_149), (sg, gm, lg), rfl, ⟨y0_149, rfl, rfl, hy0_149, (Or.inr (Or.inl (h2)))⟩, by rw [ht]; exact hP, va_K.moved hW.alike hK, hD⟩, hS.F ht, by rw [ht]; exact hN⟩) hS.2.2 dX9_mayHave_149)))
  have hj144 : ∀ (_ : iv 0 0 x) (_ : iv 0 79 o) (_ : iv 0 33 w) (_ : ¬ (gm 14 o.toNatClampNeg).toInt = 2) (H : Heap) (locs : List Loc) (ls : Array Slot), va_P (dC, dI) vwCl (cW ad cid a2 lx sg gm lg) H → va_D A (cW ad cid a2 lx sg gm lg) → va_S A s.heap H locs → lv_has ls 3 [(0, eV (ad 3) x), (1, eV (ad 9) o), (2, eV (ad 33) w)] → W p l e (headSpec wm_X9_mayHave ({ frames := 2, cells := 1, slots := 6, locals := 42 })).room s m ([eV (ad 3) x, eV (ad 9) o, eV (ad 33) w] : List Value).toArray below meth c H locs 0 0 (vx_MQ below (cQx dC dI ad cid a2 lx (fun v u => ∃ r : Int32, v = some (.int r) ∧ u = (sg, gm, lg) ∧ (iv 0 1 r) ∧ (r.toInt = 0 ∨ ¬ (gm 14 o.toNatClampNeg).toInt = 2 ∨ ¬ w.toInt = 10 ∨ ISI gm o.toNatClampNeg 0)) A) (cX dC dI ad cid a2 lx (fun _ _ => False) A) ([eV (ad 3) x, eV (ad 9) o, eV (ad 33) w] : List Value).toArray s 1 6 A) (F0 m 144 ls []) := by
    intro  hsx0_144 hsx1_144 hsx2_144 h2 H locs ls hP hD hS hl
    refine lv_iconst (v := 1) hx hb dX9_mayHave_144 (by decide) ?_
    refine lv_goto (tgt := 149) hx hb dX9_mayHave_145 (by decide) ?_
    exact hj149 1 hsx0_144 hsx1_144 hsx2_144 (iv_w (iv_k (by decide) : iv 1 1 1) (by decide)) (h2) _ _ _ hP hD hS (lv_sub hl [0, 1, 2] rfl)
  have hj182 : ∀ (y0_182 : Int32) (_ : iv 0 0 x) (_ : iv 0 79 o) (_ : iv 0 33 w) (_ : iv 0 1 y0_182) (_ : ¬ (gm 14 o.toNatClampNeg).toInt = 2) (H : Heap) (locs : List Loc) (ls : Array Slot), va_P (dC, dI) vwCl (cW ad cid a2 lx sg gm lg) H → va_D A (cW ad cid a2 lx sg gm lg) → va_S A s.heap H locs → lv_has ls 3 [(0, eV (ad 3) x), (1, eV (ad 9) o), (2, eV (ad 33) w)] → W p l e (headSpec wm_X9_mayHave ({ frames := 2, cells := 1, slots := 6, locals := 42 })).room s m ([eV (ad 3) x, eV (ad 9) o, eV (ad 33) w] : List Value).toArray below meth c H locs 0 0 (vx_MQ below (cQx dC dI ad cid a2 lx (fun v u => ∃ r : Int32, v = some (.int r) ∧ u = (sg, gm, lg) ∧ (iv 0 1 r) ∧ (r.toInt = 0 ∨ ¬ (gm 14 o.toNatClampNeg).toInt = 2 ∨ ¬ w.toInt = 10 ∨ ISI gm o.toNatClampNeg 0)) A) (cX dC dI ad cid a2 lx (fun _ _ => False) A) ([eV (ad 3) x, eV (ad 9) o, eV (ad 33) w] : List Value).toArray s 1 6 A) (F0 m 182 ls [.int y0_182]) := by
    intro y0_182 hsx0_182 hsx1_182 hsx2_182 hy0_182 h2 H locs ls hP hD hS hl
    exact W.nb (fun hN => W.widen (k := 1) (n := 6) (by decide) (by decide) (vx_ret (W.zret (v := y0_182) hx hb hr (iv_nb hy0_182) (fun t ht hW => ⟨⟨some (.int y0_182), (sg, gm, lg), rfl, ⟨y0_182, rfl, rfl, hy0_182, (Or.inr (Or.inl (h2)))⟩, by rw [ht]; exact hP, va_K.moved hW.alike hK, hD⟩, hS.F ht, by rw [ht]; exact hN⟩) hS.2.2 dX9_mayHave_182)))
  have hj177 : ∀ (_ : iv 0 0 x) (_ : iv 0 79 o) (_ : iv 0 33 w) (_ : ¬ (gm 14 o.toNatClampNeg).toInt = 2) (H : Heap) (locs : List Loc) (ls : Array Slot), va_P (dC, dI) vwCl (cW ad cid a2 lx sg gm lg) H → va_D A (cW ad cid a2 lx sg gm lg) → va_S A s.heap H locs → lv_has ls 3 [(0, eV (ad 3) x), (1, eV (ad 9) o), (2, eV (ad 33) w)] → W p l e (headSpec wm_X9_mayHave ({ frames := 2, cells := 1, slots := 6, locals := 42 })).room s m ([eV (ad 3) x, eV (ad 9) o, eV (ad 33) w] : List Value).toArray below meth c H locs 0 0 (vx_MQ below (cQx dC dI ad cid a2 lx (fun v u => ∃ r : Int32, v = some (.int r) ∧ u = (sg, gm, lg) ∧ (iv 0 1 r) ∧ (r.toInt = 0 ∨ ¬ (gm 14 o.toNatClampNeg).toInt = 2 ∨ ¬ w.toInt = 10 ∨ ISI gm o.toNatClampNeg 0)) A) (cX dC dI ad cid a2 lx (fun _ _ => False) A) ([eV (ad 3) x, eV (ad 9) o, eV (ad 33) w] : List Value).toArray s 1 6 A) (F0 m 177 ls []) := by
    intro  hsx0_177 hsx1_177 hsx2_177 h2 H locs ls hP hD hS hl
    refine lv_iconst (v := 1) hx hb dX9_mayHave_177 (by decide) ?_
    refine lv_goto (tgt := 182) hx hb dX9_mayHave_178 (by decide) ?_
    exact hj182 1 hsx0_177 hsx1_177 hsx2_177 (iv_w (iv_k (by decide) : iv 1 1 1) (by decide)) (h2) _ _ _ hP hD hS (lv_sub hl [0, 1, 2] rfl)
  have hj183 : ∀ (_ : iv 0 0 x) (_ : iv 0 79 o) (_ : iv 0 33 w) (_ : ¬ (gm 14 o.toNatClampNeg).toInt = 2) (H : Heap) (locs : List Loc) (ls : Array Slot), va_P (dC, dI) vwCl (cW ad cid a2 lx sg gm lg) H → va_D A (cW ad cid a2 lx sg gm lg) → va_S A s.heap H locs → lv_has ls 3 [(0, eV (ad 3) x), (1, eV (ad 9) o), (2, eV (ad 33) w)] → W p l e (headSpec wm_X9_mayHave ({ frames := 2, cells := 1, slots := 6, locals := 42 })).room s m ([eV (ad 3) x, eV (ad 9) o, eV (ad 33) w] : List Value).toArray below meth c H locs 0 0 (vx_MQ below (cQx dC dI ad cid a2 lx (fun v u => ∃ r : Int32, v = some (.int r) ∧ u = (sg, gm, lg) ∧ (iv 0 1 r) ∧ (r.toInt = 0 ∨ ¬ (gm 14 o.toNatClampNeg).toInt = 2 ∨ ¬ w.toInt = 10 ∨ ISI gm o.toNatClampNeg 0)) A) (cX dC dI ad cid a2 lx (fun _ _ => False) A) ([eV (ad 3) x, eV (ad 9) o, eV (ad 33) w] : List Value).toArray s 1 6 A) (F0 m 183 ls []) := by
    intro  hsx0_183 hsx1_183 hsx2_183 h2 H locs ls hP hD hS hl
    refine lv_iconst (v := 0) hx hb dX9_mayHave_183 (by decide) ?_
    exact W.nb (fun hN => W.widen (k := 1) (n := 6) (by decide) (by decide) (vx_ret (W.zret (v := 0) hx hb hr (iv_nb (iv_w (iv_k (by decide) : iv 0 0 0) (by decide))) (fun t ht hW => ⟨⟨some (.int 0), (sg, gm, lg), rfl, ⟨0, rfl, rfl, (iv_w (iv_k (by decide) : iv 0 0 0) (by decide)), (Or.inr (Or.inl (h2)))⟩, by rw [ht]; exact hP, va_K.moved hW.alike hK, hD⟩, hS.F ht, by rw [ht]; exact hN⟩) hS.2.2 dX9_mayHave_184)))
  have hj162 : ∀ (y0_162 : Int32) (_ : iv 0 0 x) (_ : iv 0 79 o) (_ : iv 0 33 w) (_ : iv 0 1 y0_162) (_ : ¬ (gm 14 o.toNatClampNeg).toInt = 2) (H : Heap) (locs : List Loc) (ls : Array Slot), va_P (dC, dI) vwCl (cW ad cid a2 lx sg gm lg) H → va_D A (cW ad cid a2 lx sg gm lg) → va_S A s.heap H locs → lv_has ls 3 [(0, eV (ad 3) x), (1, eV (ad 9) o), (2, eV (ad 33) w)] → W p l e (headSpec wm_X9_mayHave ({ frames := 2, cells := 1, slots := 6, locals := 42 })).room s m ([eV (ad 3) x, eV (ad 9) o, eV (ad 33) w] : List Value).toArray below meth c H locs 0 0 (vx_MQ below (cQx dC dI ad cid a2 lx (fun v u => ∃ r : Int32, v = some (.int r) ∧ u = (sg, gm, lg) ∧ (iv 0 1 r) ∧ (r.toInt = 0 ∨ ¬ (gm 14 o.toNatClampNeg).toInt = 2 ∨ ¬ w.toInt = 10 ∨ ISI gm o.toNatClampNeg 0)) A) (cX dC dI ad cid a2 lx (fun _ _ => False) A) ([eV (ad 3) x, eV (ad 9) o, eV (ad 33) w] : List Value).toArray s 1 6 A) (F0 m 162 ls [.int y0_162]) := by
    intro y0_162 hsx0_162 hsx1_162 hsx2_162 hy0_162 h2 H locs ls hP hD hS hl
    exact W.nb (fun hN => W.widen (k := 1) (n := 6) (by decide) (by decide) (vx_ret (W.zret (v := y0_162) hx hb hr (iv_nb hy0_162) (fun t ht hW => ⟨⟨some (.int y0_162), (sg, gm, lg), rfl, ⟨y0_162, rfl, rfl, hy0_162, (Or.inr (Or.inl (h2)))⟩, by rw [ht]; exact hP, va_K.moved hW.alike hK, hD⟩, hS.F ht, by rw [ht]; exact hN⟩) hS.2.2 dX9_mayHave_162)))
  refine cw_sw hx hb hG hS hown (htb _ kw_514) dX9_mayHave_0 ?_
  refine ec_aload_n hx hb dX9_mayHave_3 rfl (lv_at hl 1 rfl) ?_
  refine cr_get (t := 9) (j := 4) (C := RX3) (T := TX3) (N := 21) (v := eV (ad 33) (gm 14 o.toNatClampNeg)) hx hb htb inX3 hown hK hP hvo (by decide) (by decide) (by decide) rfl (by decide) (htb _ kw_508) rfl dX9_mayHave_4 ?_
  obtain ⟨z_1, ez_1⟩ : ∃ z : Int32, z = (gm 14 o.toNatClampNeg) := ⟨_, rfl⟩
  refine W.eq (g2 := F0 m 7 ls [eV (ad 33) z_1, eV (ad 36) 0]) (by rw [ez_1]) ?_
  have hz_1 : iv (-1) 33 z_1 := iv_of ez_1 (CI_a hI 14 hvo (by decide))
  have h_2 : iv 0 33 z_1 := ⟨by rw [ez_1]; exact hw0, (hz_1).2⟩
  refine cw_ord ⟨hx, hb, hml, hown, htb⟩ kw_520 h_2 hl.1 (Nat.le_trans (cs_c (eV_cat _ _) cs_n) (by decide)) dX9_mayHave_7 ⟨Nat.le_of_ble_eq_true rfl, Nat.le_of_ble_eq_true rfl⟩ ⟨Nat.le_of_ble_eq_true rfl, Nat.le_of_ble_eq_true rfl⟩ hP hD hS hA hG (fun H locs hP hS => ?_)
  refine cw_swld (iv_k (by decide) : iv 0 0 0) hx hb hG hS h_2 dX9_mayHave_10 ?_
  refine lv_topi (fun z_3 ez_3 => ?_)
  have hz_3 : iv 0 29 z_3 := iv_of ez_3 (sw_iv z_1)
  by_cases c_4 : (z_3 : Int32).toInt = 7
  · refine lv_tableIn (tgt := 56) hx hb dX9_mayHave_11 (by rw [c_4]; decide) (by rw [c_4]; decide) (by rw [c_4]; rfl) (by decide) ?_
    have h_5 : iv 7 7 z_3 := iv_at c_4
    refine ec_aload_n hx hb dX9_mayHave_56 rfl (lv_at hl 2 rfl) ?_
    refine cw_word (k := 21) (kx := 21) hx hb hG hS (by decide) rfl ⟨by decide, by decide⟩ hown (htb _ kw_541) dX9_mayHave_57 ?_
    refine ec_acmp_eq (tgt := 70) hx hb dX9_mayHave_60 (by decide) (fun c_6 => ?_) (fun c_6 => ?_)
    · have wc_6 : w.toInt = (21 : Int) := er_wd hG (iv_w hvw (by decide)) (iv_w (iv_k (by decide) : iv 21 21 21) (by decide)) c_6
      exact hj70 hvx hvo hvw (by rw [← ez_1]; exact swx 2 8 (by decide) (h_2) ez_3 (by omega)) _ _ _ hP hD hS (lv_sub hl [0, 1, 2] rfl)
    · have wc_6 : ¬ w.toInt = (21 : Int) := fun q9 => c_6 (congrArg (er (ad 33)) (Int32.toInt_inj.mp q9))
      refine ec_aload_n hx hb dX9_mayHave_63 rfl (lv_at hl 2 rfl) ?_
      refine cw_word (k := 22) (kx := 22) hx hb hG hS (by decide) rfl ⟨by decide, by decide⟩ hown (htb _ kw_567) dX9_mayHave_64 ?_
      refine ec_acmp_ne (tgt := 74) hx hb dX9_mayHave_67 (by decide) (fun c_7 => ?_) (fun c_7 => ?_)
      · have wc_7 : ¬ w.toInt = (22 : Int) := fun q9 => c_7 (congrArg (er (ad 33)) (Int32.toInt_inj.mp q9))
        refine lv_iconst (v := 0) hx hb dX9_mayHave_74 (by decide) ?_
        exact hj75 0 hvx hvo hvw (iv_w (iv_k (by decide) : iv 0 0 0) (by decide)) (by rw [← ez_1]; exact swx 2 8 (by decide) (h_2) ez_3 (by omega)) _ _ _ hP hD hS (lv_sub hl [0, 1, 2] rfl)
      · have wc_7 : w.toInt = (22 : Int) := er_wd hG (iv_w hvw (by decide)) (iv_w (iv_k (by decide) : iv 22 22 22) (by decide)) c_7
        exact hj70 hvx hvo hvw (by rw [← ez_1]; exact swx 2 8 (by decide) (h_2) ez_3 (by omega)) _ _ _ hP hD hS (lv_sub hl [0, 1, 2] rfl)
  by_cases c_8 : (z_3 : Int32).toInt = 8
  · refine lv_tableIn (tgt := 76) hx hb dX9_mayHave_11 (by rw [c_8]; decide) (by rw [c_8]; decide) (by rw [c_8]; rfl) (by decide) ?_
    have h_9 : iv 8 8 z_3 := iv_at c_8
    refine ec_aload_n hx hb dX9_mayHave_76 rfl (lv_at hl 0 rfl) ?_
    refine ec_aload_n hx hb dX9_mayHave_77 rfl (lv_at hl 2 rfl) ?_
    refine ec_aload_n hx hb dX9_mayHave_78 rfl (lv_at hl 1 rfl) ?_
    refine cw_word (k := 0) (kx := 0) hx hb hG hS (by decide) rfl ⟨by decide, by decide⟩ hown (htb _ kw_516) dX9_mayHave_79 ?_
    refine cm_callV (t := 9) (C := RX3) (T := TX3) (N := 21) (rest := [eV (ad 33) w, eV (ad 3) x]) (as := [eV (ad 33) 0]) ⟨hx, hb, hml, hown, htb⟩ (d_isIn l dC dI ad cid a2 lx sg gm lg o 0 hI hvo (iv_w (iv_k (by decide) : iv 0 0 0) (by decide))) (cwV 1 htb (gd_V kw_526 kw_527 kw_528 kw_66 kw_1462) rfl rfl rfl (by decide +kernel) ⟨Nat.le_of_ble_eq_true rfl, Nat.le_of_ble_eq_true rfl⟩) hvo (by decide) (by decide) rfl rfl hl.1 rfl (Nat.le_trans (cs_c (eV_cat _ _) (cs_c (eV_cat _ _) cs_n)) (by decide)) dX9_mayHave_82 ⟨Nat.le_of_ble_eq_true rfl, Nat.le_of_ble_eq_true rfl⟩ hK hP hD hS hA hG (fun E ce q9 u_11 H locs hw hP hD hS hce hcv hcl => ?_) (fun v9 u_11 H locs hw hP hD hS => ?_)
    · exact hw.elim
    obtain ⟨r_10, rfl, rfl, hr_10, fI_r_10⟩ := hw
    have hP : va_P (dC, dI) vwCl (cW ad cid a2 lx sg gm lg) H := hP
    have hD : va_D A (cW ad cid a2 lx sg gm lg) := hD
    refine W.eq (g2 := F0 m 85 ls [.int r_10, eV (ad 33) w, eV (ad 3) x]) rfl ?_
    refine cm_callV (t := 3) (C := RX9) (T := TX9) (N := 1) (rest := []) (as := [eV (ad 33) w, .int r_10]) ⟨hx, hb, hml, hown, htb⟩ (d_beanMayHave l dC dI ad cid a2 lx sg gm lg x w r_10 hI hvx hvw hr_10) (cwV 2 htb (gd_V kw_571 kw_572 kw_573 kw_28 kw_1473) rfl rfl rfl (by decide +kernel) ⟨Nat.le_of_ble_eq_true rfl, Nat.le_of_ble_eq_true rfl⟩) hvx (by decide) (by decide) rfl rfl hl.1 rfl (Nat.le_trans cs_n (by decide)) dX9_mayHave_85 ⟨Nat.le_of_ble_eq_true rfl, Nat.le_of_ble_eq_true rfl⟩ hK hP hD hS hA hG (fun E ce q9 u_14 H locs hw hP hD hS hce hcv hcl => ?_) (fun v9 u_14 H locs hw hP hD hS => ?_)
    · exact hw.elim
    obtain ⟨r_13, rfl, rfl, hr_13, fB_r_13⟩ := hw
    have hP : va_P (dC, dI) vwCl (cW ad cid a2 lx sg gm lg) H := hP
    have hD : va_D A (cW ad cid a2 lx sg gm lg) := hD
    refine W.eq (g2 := F0 m 88 ls [.int r_13]) rfl ?_
    exact W.nb (fun hN => W.widen (k := 1) (n := 6) (by decide) (by decide) (vx_ret (W.zret (v := r_13) hx hb hr (iv_nb hr_13) (fun t ht hW => ⟨⟨some (.int r_13), (sg, gm, lg), rfl, ⟨r_13, rfl, rfl, hr_13, (fB_r_13.imp id (fun q9 => Or.inr (q9.imp id (fun q8 => fI_r_10.resolve_left (by omega)))))⟩, by rw [ht]; exact hP, va_K.moved hW.alike hK, hD⟩, hS.F ht, by rw [ht]; exact hN⟩) hS.2.2 dX9_mayHave_88)))
  by_cases c_16 : (z_3 : Int32).toInt = 9
  · refine lv_tableIn (tgt := 89) hx hb dX9_mayHave_11 (by rw [c_16]; decide) (by rw [c_16]; decide) (by rw [c_16]; rfl) (by decide) ?_
    have h_17 : iv 9 9 z_3 := iv_at c_16
    refine ec_aload_n hx hb dX9_mayHave_89 rfl (lv_at hl 2 rfl) ?_
    refine cw_word (k := 23) (kx := 23) hx hb hG hS (by decide) rfl ⟨by decide, by decide⟩ hown (htb _ kw_568) dX9_mayHave_90 ?_
    refine ec_acmp_eq (tgt := 117) hx hb dX9_mayHave_93 (by decide) (fun c_18 => ?_) (fun c_18 => ?_)
    · have wc_18 : w.toInt = (23 : Int) := er_wd hG (iv_w hvw (by decide)) (iv_w (iv_k (by decide) : iv 23 23 23) (by decide)) c_18
      exact hj117 hvx hvo hvw (by rw [← ez_1]; exact swx 2 8 (by decide) (h_2) ez_3 (by omega)) _ _ _ hP hD hS (lv_sub hl [0, 1, 2] rfl)
    · have wc_18 : ¬ w.toInt = (23 : Int) := fun q9 => c_18 (congrArg (er (ad 33)) (Int32.toInt_inj.mp q9))
      refine ec_aload_n hx hb dX9_mayHave_96 rfl (lv_at hl 2 rfl) ?_
      refine cw_word (k := 24) (kx := 24) hx hb hG hS (by decide) rfl ⟨by decide, by decide⟩ hown (htb _ kw_569) dX9_mayHave_97 ?_
      refine ec_acmp_eq (tgt := 117) hx hb dX9_mayHave_100 (by decide) (fun c_19 => ?_) (fun c_19 => ?_)
      · have wc_19 : w.toInt = (24 : Int) := er_wd hG (iv_w hvw (by decide)) (iv_w (iv_k (by decide) : iv 24 24 24) (by decide)) c_19
        exact hj117 hvx hvo hvw (by rw [← ez_1]; exact swx 2 8 (by decide) (h_2) ez_3 (by omega)) _ _ _ hP hD hS (lv_sub hl [0, 1, 2] rfl)
      · have wc_19 : ¬ w.toInt = (24 : Int) := fun q9 => c_19 (congrArg (er (ad 33)) (Int32.toInt_inj.mp q9))
        refine ec_aload_n hx hb dX9_mayHave_103 rfl (lv_at hl 2 rfl) ?_
        refine cw_word (k := 7) (kx := 7) hx hb hG hS (by decide) rfl ⟨by decide, by decide⟩ hown (htb _ kw_510) dX9_mayHave_104 ?_
        refine ec_acmp_eq (tgt := 117) hx hb dX9_mayHave_107 (by decide) (fun c_20 => ?_) (fun c_20 => ?_)
        · have wc_20 : w.toInt = (7 : Int) := er_wd hG (iv_w hvw (by decide)) (iv_w (iv_k (by decide) : iv 7 7 7) (by decide)) c_20
          exact hj117 hvx hvo hvw (by rw [← ez_1]; exact swx 2 8 (by decide) (h_2) ez_3 (by omega)) _ _ _ hP hD hS (lv_sub hl [0, 1, 2] rfl)
        · have wc_20 : ¬ w.toInt = (7 : Int) := fun q9 => c_20 (congrArg (er (ad 33)) (Int32.toInt_inj.mp q9))
          refine ec_aload_n hx hb dX9_mayHave_110 rfl (lv_at hl 2 rfl) ?_
          refine cw_word (k := 8) (kx := 8) hx hb hG hS (by decide) rfl ⟨by decide, by decide⟩ hown (htb _ kw_570) dX9_mayHave_111 ?_
          refine ec_acmp_ne (tgt := 121) hx hb dX9_mayHave_114 (by decide) (fun c_21 => ?_) (fun c_21 => ?_)
          · have wc_21 : ¬ w.toInt = (8 : Int) := fun q9 => c_21 (congrArg (er (ad 33)) (Int32.toInt_inj.mp q9))
            refine lv_iconst (v := 0) hx hb dX9_mayHave_121 (by decide) ?_
            exact hj122 0 hvx hvo hvw (iv_w (iv_k (by decide) : iv 0 0 0) (by decide)) (by rw [← ez_1]; exact swx 2 8 (by decide) (h_2) ez_3 (by omega)) _ _ _ hP hD hS (lv_sub hl [0, 1, 2] rfl)
          · have wc_21 : w.toInt = (8 : Int) := er_wd hG (iv_w hvw (by decide)) (iv_w (iv_k (by decide) : iv 8 8 8) (by decide)) c_21
            exact hj117 hvx hvo hvw (by rw [← ez_1]; exact swx 2 8 (by decide) (h_2) ez_3 (by omega)) _ _ _ hP hD hS (lv_sub hl [0, 1, 2] rfl)
  by_cases c_22 : (z_3 : Int32).toInt = 10
  · refine lv_tableIn (tgt := 123) hx hb dX9_mayHave_11 (by rw [c_22]; decide) (by rw [c_22]; decide) (by rw [c_22]; rfl) (by decide) ?_
    have h_23 : iv 10 10 z_3 := iv_at c_22
    refine ec_aload_n hx hb dX9_mayHave_123 rfl (lv_at hl 2 rfl) ?_
    refine cw_word (k := 21) (kx := 21) hx hb hG hS (by decide) rfl ⟨by decide, by decide⟩ hown (htb _ kw_541) dX9_mayHave_124 ?_
    refine ec_acmp_eq (tgt := 144) hx hb dX9_mayHave_127 (by decide) (fun c_24 => ?_) (fun c_24 => ?_)
    · have wc_24 : w.toInt = (21 : Int) := er_wd hG (iv_w hvw (by decide)) (iv_w (iv_k (by decide) : iv 21 21 21) (by decide)) c_24
      exact hj144 hvx hvo hvw (by rw [← ez_1]; exact swx 2 8 (by decide) (h_2) ez_3 (by omega)) _ _ _ hP hD hS (lv_sub hl [0, 1, 2] rfl)
    · have wc_24 : ¬ w.toInt = (21 : Int) := fun q9 => c_24 (congrArg (er (ad 33)) (Int32.toInt_inj.mp q9))
      refine ec_aload_n hx hb dX9_mayHave_130 rfl (lv_at hl 2 rfl) ?_
      refine cw_word (k := 7) (kx := 7) hx hb hG hS (by decide) rfl ⟨by decide, by decide⟩ hown (htb _ kw_510) dX9_mayHave_131 ?_
      refine ec_acmp_eq (tgt := 144) hx hb dX9_mayHave_134 (by decide) (fun c_25 => ?_) (fun c_25 => ?_)
      · have wc_25 : w.toInt = (7 : Int) := er_wd hG (iv_w hvw (by decide)) (iv_w (iv_k (by decide) : iv 7 7 7) (by decide)) c_25
        exact hj144 hvx hvo hvw (by rw [← ez_1]; exact swx 2 8 (by decide) (h_2) ez_3 (by omega)) _ _ _ hP hD hS (lv_sub hl [0, 1, 2] rfl)
      · have wc_25 : ¬ w.toInt = (7 : Int) := fun q9 => c_25 (congrArg (er (ad 33)) (Int32.toInt_inj.mp q9))
        refine ec_aload_n hx hb dX9_mayHave_137 rfl (lv_at hl 2 rfl) ?_
        refine cw_word (k := 8) (kx := 8) hx hb hG hS (by decide) rfl ⟨by decide, by decide⟩ hown (htb _ kw_570) dX9_mayHave_138 ?_
        refine ec_acmp_ne (tgt := 148) hx hb dX9_mayHave_141 (by decide) (fun c_26 => ?_) (fun c_26 => ?_)
        · have wc_26 : ¬ w.toInt = (8 : Int) := fun q9 => c_26 (congrArg (er (ad 33)) (Int32.toInt_inj.mp q9))
          refine lv_iconst (v := 0) hx hb dX9_mayHave_148 (by decide) ?_
          exact hj149 0 hvx hvo hvw (iv_w (iv_k (by decide) : iv 0 0 0) (by decide)) (by rw [← ez_1]; exact swx 2 8 (by decide) (h_2) ez_3 (by omega)) _ _ _ hP hD hS (lv_sub hl [0, 1, 2] rfl)
        · have wc_26 : w.toInt = (8 : Int) := er_wd hG (iv_w hvw (by decide)) (iv_w (iv_k (by decide) : iv 8 8 8) (by decide)) c_26
          exact hj144 hvx hvo hvw (by rw [← ez_1]; exact swx 2 8 (by decide) (h_2) ez_3 (by omega)) _ _ _ hP hD hS (lv_sub hl [0, 1, 2] rfl)
  by_cases c_27 : (z_3 : Int32).toInt = 11
  · refine lv_tableIn (tgt := 163) hx hb dX9_mayHave_11 (by rw [c_27]; decide) (by rw [c_27]; decide) (by rw [c_27]; rfl) (by decide) ?_
    have h_28 : iv 11 11 z_3 := iv_at c_27
    refine ec_aload_n hx hb dX9_mayHave_163 rfl (lv_at hl 2 rfl) ?_
    refine cw_word (k := 21) (kx := 21) hx hb hG hS (by decide) rfl ⟨by decide, by decide⟩ hown (htb _ kw_541) dX9_mayHave_164 ?_
    refine ec_acmp_eq (tgt := 177) hx hb dX9_mayHave_167 (by decide) (fun c_29 => ?_) (fun c_29 => ?_)
    · have wc_29 : w.toInt = (21 : Int) := er_wd hG (iv_w hvw (by decide)) (iv_w (iv_k (by decide) : iv 21 21 21) (by decide)) c_29
      exact hj177 hvx hvo hvw (by rw [← ez_1]; exact swx 2 8 (by decide) (h_2) ez_3 (by omega)) _ _ _ hP hD hS (lv_sub hl [0, 1, 2] rfl)
    · have wc_29 : ¬ w.toInt = (21 : Int) := fun q9 => c_29 (congrArg (er (ad 33)) (Int32.toInt_inj.mp q9))
      refine ec_aload_n hx hb dX9_mayHave_170 rfl (lv_at hl 2 rfl) ?_
      refine cw_word (k := 2) (kx := 2) hx hb hG hS (by decide) rfl ⟨by decide, by decide⟩ hown (htb _ kw_517) dX9_mayHave_171 ?_
      refine ec_acmp_ne (tgt := 181) hx hb dX9_mayHave_174 (by decide) (fun c_30 => ?_) (fun c_30 => ?_)
      · have wc_30 : ¬ w.toInt = (2 : Int) := fun q9 => c_30 (congrArg (er (ad 33)) (Int32.toInt_inj.mp q9))
        refine lv_iconst (v := 0) hx hb dX9_mayHave_181 (by decide) ?_
        exact hj182 0 hvx hvo hvw (iv_w (iv_k (by decide) : iv 0 0 0) (by decide)) (by rw [← ez_1]; exact swx 2 8 (by decide) (h_2) ez_3 (by omega)) _ _ _ hP hD hS (lv_sub hl [0, 1, 2] rfl)
      · have wc_30 : w.toInt = (2 : Int) := er_wd hG (iv_w hvw (by decide)) (iv_w (iv_k (by decide) : iv 2 2 2) (by decide)) c_30
        exact hj177 hvx hvo hvw (by rw [← ez_1]; exact swx 2 8 (by decide) (h_2) ez_3 (by omega)) _ _ _ hP hD hS (lv_sub hl [0, 1, 2] rfl)
  by_cases c_31 : (z_3 : Int32).toInt = 12
  · refine lv_tableIn (tgt := 183) hx hb dX9_mayHave_11 (by rw [c_31]; decide) (by rw [c_31]; decide) (by rw [c_31]; rfl) (by decide) ?_
    have h_32 : iv 12 12 z_3 := iv_at c_31
    exact hj183 hvx hvo hvw (by rw [← ez_1]; exact swx 2 8 (by decide) (h_2) ez_3 (by omega)) _ _ _ hP hD hS (lv_sub hl [0, 1, 2] rfl)
  by_cases c_33 : (z_3 : Int32).toInt = 13
  · refine lv_tableIn (tgt := 183) hx hb dX9_mayHave_11 (by rw [c_33]; decide) (by rw [c_33]; decide) (by rw [c_33]; rfl) (by decide) ?_
    have h_34 : iv 13 13 z_3 := iv_at c_33
    exact hj183 hvx hvo hvw (by rw [← ez_1]; exact swx 2 8 (by decide) (h_2) ez_3 (by omega)) _ _ _ hP hD hS (lv_sub hl [0, 1, 2] rfl)
  by_cases c_35 : (z_3 : Int32).toInt = 14
  · refine lv_tableIn (tgt := 150) hx hb dX9_mayHave_11 (by rw [c_35]; decide) (by rw [c_35]; decide) (by rw [c_35]; rfl) (by decide) ?_
    have h_36 : iv 14 14 z_3 := iv_at c_35
    refine ec_aload_n hx hb dX9_mayHave_150 rfl (lv_at hl 2 rfl) ?_
    refine cw_word (k := 2) (kx := 2) hx hb hG hS (by decide) rfl ⟨by decide, by decide⟩ hown (htb _ kw_517) dX9_mayHave_151 ?_
    refine ec_acmp_ne (tgt := 161) hx hb dX9_mayHave_154 (by decide) (fun c_37 => ?_) (fun c_37 => ?_)
    · have wc_37 : ¬ w.toInt = (2 : Int) := fun q9 => c_37 (congrArg (er (ad 33)) (Int32.toInt_inj.mp q9))
      refine lv_iconst (v := 0) hx hb dX9_mayHave_161 (by decide) ?_
      exact hj162 0 hvx hvo hvw (iv_w (iv_k (by decide) : iv 0 0 0) (by decide)) (by rw [← ez_1]; exact swx 2 8 (by decide) (h_2) ez_3 (by omega)) _ _ _ hP hD hS (lv_sub hl [0, 1, 2] rfl)
    · have wc_37 : w.toInt = (2 : Int) := er_wd hG (iv_w hvw (by decide)) (iv_w (iv_k (by decide) : iv 2 2 2) (by decide)) c_37
      refine lv_iconst (v := 1) hx hb dX9_mayHave_157 (by decide) ?_
      refine lv_goto (tgt := 162) hx hb dX9_mayHave_158 (by decide) ?_
      exact hj162 1 hvx hvo hvw (iv_w (iv_k (by decide) : iv 1 1 1) (by decide)) (by rw [← ez_1]; exact swx 2 8 (by decide) (h_2) ez_3 (by omega)) _ _ _ hP hD hS (lv_sub hl [0, 1, 2] rfl)
  refine lv_tableOut (tgt := 183) hx hb dX9_mayHave_11 (by have q1 := (hz_3).1; have q2 := (hz_3).2; omega) (by decide) ?_
  exact hj183 hvx hvo hvw (by rw [← ez_1]; exact swx 2 8 (by decide) (h_2) ez_3 (by omega)) _ _ _ hP hD hS (lv_sub hl [0, 1, 2] rfl)
