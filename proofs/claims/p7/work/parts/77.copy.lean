theorem gc_l0 {sg : Nat → Int32} {gm gm2 : Nat → Nat → Int32} {k : Nat} (hI : CI sg gm2) : gc gm gm2 k ≤ 30480 + k := by have := PH_le (gm := gm) hI; unfold gc; omega
theorem gs_l0 {sg : Nat → Int32} {gm gm2 : Nat → Nat → Int32} {k : Nat} (hI : CI sg gm2) : gs gm gm2 k ≤ 121920 + 6 * k := by have := PH_le (gm := gm) hI; unfold gs; omega

theorem dJ7_copyOf_6403c_0 : decode cJ7_copyOf_6403c 0 = .ok (.aload_n 2, 1) := by decide +kernel
theorem dJ7_copyOf_6403c_1 : decode cJ7_copyOf_6403c 1 = .ok (.ldc 110, 2) := by decide +kernel
theorem dJ7_copyOf_6403c_3 : decode cJ7_copyOf_6403c 3 = .ok (.if_acmp .ne 10, 3) := by decide +kernel
theorem dJ7_copyOf_6403c_6 : decode cJ7_copyOf_6403c 6 = .ok (.iload_n 1, 1) := by decide +kernel
theorem dJ7_copyOf_6403c_7 : decode cJ7_copyOf_6403c 7 = .ok (.anewarray 2, 3) := by decide +kernel
theorem dJ7_copyOf_6403c_10 : decode cJ7_copyOf_6403c 10 = .ok (.goto 14, 3) := by decide +kernel
theorem dJ7_copyOf_6403c_13 : decode cJ7_copyOf_6403c 13 = .ok (.aload_n 2, 1) := by decide +kernel
theorem dJ7_copyOf_6403c_14 : decode cJ7_copyOf_6403c 14 = .ok (.invokevirtual 90, 3) := by decide +kernel
theorem dJ7_copyOf_6403c_17 : decode cJ7_copyOf_6403c 17 = .ok (.iload_n 1, 1) := by decide +kernel
theorem dJ7_copyOf_6403c_18 : decode cJ7_copyOf_6403c 18 = .ok (.invokestatic 95, 3) := by decide +kernel
theorem dJ7_copyOf_6403c_21 : decode cJ7_copyOf_6403c 21 = .ok (.checkcast 110, 3) := by decide +kernel
theorem dJ7_copyOf_6403c_24 : decode cJ7_copyOf_6403c 24 = .ok (.astore_n 3, 1) := by decide +kernel
theorem dJ7_copyOf_6403c_25 : decode cJ7_copyOf_6403c 25 = .ok (.aload_n 0, 1) := by decide +kernel
theorem dJ7_copyOf_6403c_26 : decode cJ7_copyOf_6403c 26 = .ok (.iconst 0, 1) := by decide +kernel
theorem dJ7_copyOf_6403c_27 : decode cJ7_copyOf_6403c 27 = .ok (.aload_n 3, 1) := by decide +kernel
theorem dJ7_copyOf_6403c_28 : decode cJ7_copyOf_6403c 28 = .ok (.iconst 0, 1) := by decide +kernel
theorem dJ7_copyOf_6403c_29 : decode cJ7_copyOf_6403c 29 = .ok (.aload_n 0, 1) := by decide +kernel
theorem dJ7_copyOf_6403c_30 : decode cJ7_copyOf_6403c 30 = .ok (.arraylength, 1) := by decide +kernel
theorem dJ7_copyOf_6403c_31 : decode cJ7_copyOf_6403c 31 = .ok (.iload_n 1, 1) := by decide +kernel
theorem dJ7_copyOf_6403c_32 : decode cJ7_copyOf_6403c 32 = .ok (.invokestatic 304, 3) := by decide +kernel
theorem dJ7_copyOf_6403c_35 : decode cJ7_copyOf_6403c 35 = .ok (.invokestatic 150, 3) := by decide +kernel
theorem dJ7_copyOf_6403c_38 : decode cJ7_copyOf_6403c 38 = .ok (.aload_n 3, 1) := by decide +kernel
theorem dJ7_copyOf_6403c_39 : decode cJ7_copyOf_6403c 39 = .ok (.areturn, 1) := by decide +kernel
theorem dJ7_copyOf_1904c_0 : decode cJ7_copyOf_1904c 0 = .ok (.aload_n 0, 1) := by decide +kernel
theorem dJ7_copyOf_1904c_1 : decode cJ7_copyOf_1904c 1 = .ok (.iload_n 1, 1) := by decide +kernel
theorem dJ7_copyOf_1904c_2 : decode cJ7_copyOf_1904c 2 = .ok (.aload_n 0, 1) := by decide +kernel
theorem dJ7_copyOf_1904c_3 : decode cJ7_copyOf_1904c 3 = .ok (.invokevirtual 86, 3) := by decide +kernel
theorem dJ7_copyOf_1904c_6 : decode cJ7_copyOf_1904c 6 = .ok (.invokestatic 300, 3) := by decide +kernel
theorem dJ7_copyOf_1904c_9 : decode cJ7_copyOf_1904c 9 = .ok (.areturn, 1) := by decide +kernel

theorem cap_of {sg : Nat → Int32} {gm : Nat → Nat → Int32} {q : Nat} (hI : CI sg gm) (hq : q < 240) : (gm 42 q).toNatClampNeg ≤ 127 ∧ 0 ≤ (gm 42 q).toInt ∧ (gm 42 q).toInt = ((gm 42 q).toNatClampNeg : Int) ∧ Int32.ofNat (gm 42 q).toNatClampNeg = gm 42 q := by
  have h := (show iv 0 127 (gm 42 q) from CI_n hI 42 hq)
  have h1 := h.1
  have h2 := h.2
  have h3 : (gm 42 q).toNatClampNeg = (gm 42 q).toInt.toNat := rfl
  refine ⟨by omega, h1, by omega, Int32.toInt_inj.mp ?_⟩
  rw [show Int32.ofNat (gm 42 q).toNatClampNeg = nI (gm 42 q).toNatClampNeg from rfl, nI_toInt (by omega)]
  omega
set_option maxHeartbeats 4000000 in
set_option maxRecDepth 100000 in
theorem d_copyOf3 (l : Launch) (dC : Nat → ClassId) (dI : Nat → Nat → Nat) (ad : Nat → Nat → Nat) (cid : Nat → ClassId) (a2 : Nat → Nat) (lx : List Nat) (sg : Nat → Int32) (gm : Nat → Nat → Int32) (lg : Nat → Nat → Int64) (q i : Nat) (n : Int32) (hI : CI sg gm) (hq : q < 240) (hi : lx[i]? = some q) (hvn : iv 1 127 n) (hge : (gm 42 q).toInt ≤ n.toInt) :
    ∀ sz, vx_Met l yJ7_copyOf_6403c wm_J7_copyOf_6403c ({ frames := 4, cells := 1, slots := 127, locals := 80 }) (va_Pc [.ref (a2 q), .int n, .ref (ad 39 0)] (CPre dC dI ad cid a2 lx sg gm lg sz)) (cQn dC dI ad cid a2 lx sg gm lg q n.toNatClampNeg (va_A (cW ad cid a2 lx sg gm lg) sz)) (fun _ _ _ => False) 1 127 (va_A (cW ad cid a2 lx sg gm lg) sz) := by
  intro sz
  refine vx_ofW (cc := cJ7_copyOf_6403c) (maxL := 4) (ret := (some (.array (.object "java/lang/Object")))) (by decide) rfl ?_
  intro p e s m args below meth c s₁ B hml hxt hv
  obtain ⟨rfl, hsz, hP, hK, hD0, hG⟩ := hv
  have hx := B.exec
  have hb := B.bytes
  have hr := B.returns
  have hts := atoms_spec (ws := wm_J7_copyOf_6403c) B.pre
  have htb := fun (w : Cond) (h : w ∈ tb) => hts w (List.mem_cons_of_mem _ h)
  have hown : s.vm.findClass RJ7 = some m.cls := findClass_of_methodNamed B.named
  have hlocks := B.notSynchronized
  subst hsz
  have hD := hD0.self (sz := s.heap.size)
  generalize hAe : va_A (cW ad cid a2 lx sg gm lg) s.heap.size = A at hD hG ⊢
  have hA : ∀ q : Nat, s.heap.size ≤ q → A q := fun q h => by rw [← hAe]; exact Or.inr h
  have hS : va_S A s.heap s.heap [] := va_S.rf
  have hl := lv_entry ([.ref (a2 q), .int n, .ref (ad 39 0)]) (n := 4) (Nat.le_of_ble_eq_true rfl)
  rw [lg_entry_eq]
  generalize (lg_sl ([.ref (a2 q), .int n, .ref (ad 39 0)]) ++ List.replicate (4 - (lg_sl ([.ref (a2 q), .int n, .ref (ad 39 0)])).length) Slot.unset).toArray = ls at hl ⊢
  have hl : lv_has ls 4 [(0, .ref (a2 q)), (1, .int n), (2, .ref (ad 39 0))] := hl
  obtain ⟨k1, k2, k3, k4⟩ := cap_of hI hq
  have hn1 := hvn.1
  have hn2 := hvn.2
  have hn3 : n.toNatClampNeg = n.toInt.toNat := rfl
  have hn4 : n.toNatClampNeg ≤ 127 := by omega
  have n0 : ¬ n < 0 := fun q9 => by have := Int32.lt_iff_toInt_lt.mp q9; have z0 : (0 : Int32).toInt = 0 := (by decide); omega
  have c0 : ¬ gm 42 q < 0 := fun q9 => by have := Int32.lt_iff_toInt_lt.mp q9; have z0 : (0 : Int32).toInt = 0 := (by decide); omega
  have nc : ¬ n < gm 42 q := fun q9 => by have := Int32.lt_iff_toInt_lt.mp q9; omega
  refine lv_aload_n hx hb dJ7_copyOf_6403c_0 rfl (lv_at hl 2 rfl) ?_
  refine va_ldcM hx hb hown (htb _ kw_778) hG.2.1.2.2.2.1.2.2 dJ7_copyOf_6403c_1 ?_
  refine lv_acmp_ne (rx := some (ad 39 0)) (ry := some (ad 39 0)) (tgt := 13) hx hb dJ7_copyOf_6403c_3 (by decide) (fun q9 => absurd rfl q9) (fun _ => ?_)
  refine lv_iload_n hx hb dJ7_copyOf_6403c_6 rfl (lv_at hl 1 rfl) ?_
  refine va_newq (D := (dC, dI)) (N' := n.toNatClampNeg) (C := "java/lang/Object") hx hb hown (htb _ kw_779) hG.2.1.2.2.2.1.1 hK hP hD hS hA n0 rfl (by omega) (Nat.le_of_ble_eq_true rfl) (show 0 + n.toNatClampNeg ≤ 127 from (by omega)) dJ7_copyOf_6403c_7 (fun a cA H hK2 hP hD hS => ?_)
  obtain rfl : cA = cid 32 := cA_eq hK hK2
  refine lv_goto (tgt := 24) hx hb dJ7_copyOf_6403c_10 (by decide) ?_
  refine lv_astore_n (lv' := [(3, .ref a), (0, .ref (a2 q)), (1, .int n), (2, .ref (ad 39 0))]) hx hb dJ7_copyOf_6403c_24 rfl hl (by decide) rfl (fun ls hl => ?_)
  refine lv_aload_n hx hb dJ7_copyOf_6403c_25 rfl (lv_at hl 1 rfl) ?_
  refine lv_iconst (v := 0) hx hb dJ7_copyOf_6403c_26 (by decide) ?_
  refine lv_aload_n hx hb dJ7_copyOf_6403c_27 rfl (lv_at hl 0 rfl) ?_
  refine lv_iconst (v := 0) hx hb dJ7_copyOf_6403c_28 (by decide) ?_
  refine lv_aload_n hx hb dJ7_copyOf_6403c_29 rfl (lv_at hl 1 rfl) ?_
  have hlat := cW_lat (ad := ad) (cid := cid) (a2 := a2) (sg := sg) (gm := gm) (lg := lg) hi
  have hsrc : (cW ad cid a2 lx sg gm lg ++ [(a, (.inl (cid 32, n.toNatClampNeg, .inr (.inr (.inr (.inr (fun _ => none))))) : va_E))])[(cFx ad cid a2 sg gm lg).length + i]? = some (a2 q, cD ad cid gm q) := by
    rw [List.getElem?_append_left (List.getElem?_eq_some_iff.mp hlat).1]; exact hlat
  have hdst : (cW ad cid a2 lx sg gm lg ++ [(a, (.inl (cid 32, n.toNatClampNeg, .inr (.inr (.inr (.inr (fun _ => none))))) : va_E))])[(cW ad cid a2 lx sg gm lg).length]? = some (a, .inl (cid 32, n.toNatClampNeg, .inr (.inr (.inr (.inr (fun _ => none)))))) := by
    rw [List.getElem?_append_right (Nat.le_refl _), Nat.sub_self]; rfl
  refine va_alen (D := (dC, dI)) (v := gm 42 q) hx hb hK hP _ 32 hsrc (cT_at (by decide)) k4 dJ7_copyOf_6403c_30 ?_
  refine lv_iload_n hx hb dJ7_copyOf_6403c_31 rfl (lv_at hl 2 rfl) ?_
  refine va_mmin hx hb (hml.trans hl.1.symm) hown (htb _ kw_780) (htb _ kw_781) (htb _ kw_760) (htb _ kw_1509) (Nat.le_of_ble_eq_true rfl) (Nat.le_of_ble_eq_true rfl) (Nat.le_of_ble_eq_true rfl) (show 0 + n.toNatClampNeg ≤ 127 from (by omega)) dJ7_copyOf_6403c_32 ?_
  refine W.eq (g2 := F0 m 35 ls [.int (gm 42 q), .int 0, .ref a, .int 0, .ref (a2 q)]) (by rw [if_neg nc]) ?_
  refine va_copyq (D := (dC, dI)) (C := "WiredBeans$Element") hx hb (hml.trans hl.1.symm) hown (htb _ kw_782) (htb _ kw_783) (htb _ kw_784) (htb _ kw_785) hK hP hD hS _ _ 32 32 hsrc hdst (cT_at (by decide)) (cT_at (by decide)) (by decide) (by decide) c0 (by rw [show (0 : Int32).toNatClampNeg = 0 from by decide, Nat.zero_add]; exact Nat.le_refl _) (by rw [show (0 : Int32).toNatClampNeg = 0 from by decide]; omega) (fun j hj y hy => ?_) (fun comp c0 f2 f1 => ?_) (Nat.le_of_ble_eq_true rfl) (Nat.le_of_ble_eq_true rfl) dJ7_copyOf_6403c_35 (fun H locs hP hD hS => ?_)
  · rw [show (0 : Int32).toNatClampNeg + j = j from by rw [show (0 : Int32).toNatClampNeg = 0 from by decide, Nat.zero_add]] at hy
    unfold cDr at hy
    rw [if_pos (by omega)] at hy
    by_cases h9 : (gm 57 (128 * q + j)).toInt < 0
    · rw [er_none h9] at hy; cases hy
    · rw [er_some (by omega)] at hy
      cases hy
      exact cm_recv (C := RX3) (T := TX3) (N := 21) (t := 9) (h := 79) hK (va_Psl hP (List.sublist_append_left _ _)) ⟨by omega, (show iv (-1) 79 _ from CI_n hI 57 (show 128 * q + j < crLen 57 from by show _ < 30720; omega)).2⟩ (by decide) (by decide) rfl
  · obtain ⟨c9, t9, g1, g2, g3⟩ := Cond.castable_spec (va_Nw.use (A := #[]) rfl hG.2.1.2.2.1.1)
    cases g1.symm.trans f1
    cases g2.symm.trans f2
    exact g3
  rw [show (0 : Int32).toNatClampNeg = 0 from by decide] at hP hD
  rw [set_last] at hP hD
  refine lv_aload_n hx hb dJ7_copyOf_6403c_38 rfl (lv_at hl 0 rfl) ?_
  exact W.nb (fun hN => W.widen (k := 1) (n := 127) (Nat.le_of_ble_eq_true rfl) (by omega) (vx_ret (W.aret (v := .ref a) hx hb hr (Or.inr ⟨_, rfl⟩) (Or.inr ⟨_, rfl⟩) (fun t ht hW => ⟨⟨a, rfl, by rw [ht]; exact hP, va_K.moved hW.alike hK, hD⟩, hS.F ht, by rw [ht]; exact NBw_w hN (Nat.le_of_ble_eq_true rfl) (by omega)⟩) hS.2.2 dJ7_copyOf_6403c_39)))
set_option maxHeartbeats 4000000 in
set_option maxRecDepth 100000 in
theorem d_copyOf2 (l : Launch) (dC : Nat → ClassId) (dI : Nat → Nat → Nat) (ad : Nat → Nat → Nat) (cid : Nat → ClassId) (a2 : Nat → Nat) (lx : List Nat) (sg : Nat → Int32) (gm : Nat → Nat → Int32) (lg : Nat → Nat → Int64) (q i : Nat) (n : Int32) (hI : CI sg gm) (hq : q < 240) (hi : lx[i]? = some q) (hvn : iv 1 127 n) (hge : (gm 42 q).toInt ≤ n.toInt) :
    ∀ sz, vx_Met l yJ7_copyOf_1904c wm_J7_copyOf_1904c ({ frames := 6, cells := 1, slots := 127, locals := 120 }) (va_Pc [.ref (a2 q), .int n] (CPre dC dI ad cid a2 lx sg gm lg sz)) (cQn dC dI ad cid a2 lx sg gm lg q n.toNatClampNeg (va_A (cW ad cid a2 lx sg gm lg) sz)) (fun _ _ _ => False) 1 127 (va_A (cW ad cid a2 lx sg gm lg) sz) := by
  intro sz
  refine vx_ofW (cc := cJ7_copyOf_1904c) (maxL := 2) (ret := (some (.array (.object "java/lang/Object")))) (by decide) rfl ?_
  intro p e s m args below meth c s₁ B hml hxt hv
  obtain ⟨rfl, hsz, hP, hK, hD0, hG⟩ := hv
  have hx := B.exec
  have hb := B.bytes
  have hr := B.returns
  have hts := atoms_spec (ws := wm_J7_copyOf_1904c) B.pre
  have htb := fun (w : Cond) (h : w ∈ tb) => hts w (List.mem_cons_of_mem _ h)
  have hown : s.vm.findClass RJ7 = some m.cls := findClass_of_methodNamed B.named
  have hlocks := B.notSynchronized
  subst hsz
  have hD := hD0.self (sz := s.heap.size)
  generalize hAe : va_A (cW ad cid a2 lx sg gm lg) s.heap.size = A at hD hG ⊢
  have hA : ∀ q : Nat, s.heap.size ≤ q → A q := fun q h => by rw [← hAe]; exact Or.inr h
  have hS : va_S A s.heap s.heap [] := va_S.rf
  have hl := lv_entry ([.ref (a2 q), .int n]) (n := 2) (Nat.le_of_ble_eq_true rfl)
  rw [lg_entry_eq]
  generalize (lg_sl ([.ref (a2 q), .int n]) ++ List.replicate (2 - (lg_sl ([.ref (a2 q), .int n])).length) Slot.unset).toArray = ls at hl ⊢
  have hl : lv_has ls 2 [(0, .ref (a2 q)), (1, .int n)] := hl
  refine lv_aload_n hx hb dJ7_copyOf_1904c_0 rfl (lv_at hl 0 rfl) ?_
  refine lv_iload_n hx hb dJ7_copyOf_1904c_1 rfl (lv_at hl 1 rfl) ?_
  refine lv_aload_n hx hb dJ7_copyOf_1904c_2 rfl (lv_at hl 0 rfl) ?_
  refine va_getC hx hb (hml.trans hl.1.symm) hown (htb _ kw_772) (va_Dc.use hG.2.1.2.2.2.1.2.1) (htb _ kw_773) (htb _ kw_774) (htb _ kw_775) hG.2.1.2.2.2.1.2.2 (cl_recv hK hP hi) (Nat.le_of_ble_eq_true rfl) (Nat.le_of_ble_eq_true rfl) dJ7_copyOf_1904c_3 ?_
  have hFc := cfree hD hS hA
  refine cm_goN (q := q) (N := n.toNatClampNeg) (vx_runS (cells := 0) (slots := 0) (As := [.ref (a2 q), .int n, .ref (ad 39 0)]) (rest := []) ⟨hx, hb, hml, hown, htb⟩ (d_copyOf3 l dC dI ad cid a2 lx sg gm lg q i n hI hq hi hvn hge s.heap.size) (va_cwS 3 htb (gd_S kw_776 kw_777 kw_771 kw_1508) rfl rfl rfl (by decide +kernel) ⟨Nat.le_of_ble_eq_true rfl, Nat.le_of_ble_eq_true rfl⟩) ⟨CPre_blind, fun U hU hW => ⟨rfl, by rw [hU], by rw [hU]; exact hP, va_K.moved hW.alike hK, hD.weaken (fun _ _ _ _ => trivial), hG.go hS hFc hU hW⟩⟩ rfl rfl hl.1 rfl (lv_room (by decide)) dJ7_copyOf_1904c_6 ⟨Nat.le_of_ble_eq_true rfl, Nat.le_of_ble_eq_true rfl⟩) hD hS hA (fun a H locs hP hD hS => ?_)
  have hn4 : n.toNatClampNeg ≤ 127 := by have h2 := hvn.2; have h3 : n.toNatClampNeg = n.toInt.toNat := rfl; omega
  exact W.nb (fun hN => W.widen (k := 1) (n := 127) (Nat.le_of_ble_eq_true rfl) (by omega) (vx_ret (W.aret (v := .ref a) hx hb hr (Or.inr ⟨_, rfl⟩) (Or.inr ⟨_, rfl⟩) (fun t ht hW => ⟨⟨a, rfl, by rw [ht]; exact hP, va_K.moved hW.alike hK, hD⟩, hS.F ht, by rw [ht]; exact NBw_w hN (Nat.le_of_ble_eq_true rfl) (by omega)⟩) hS.2.2 dJ7_copyOf_1904c_9)))
