theorem LKS_i {gm gb gm2 : Nat → Nat → Int32} {n : Nat} {a nn : Int32} (h : LKS gm n) (ha : a.toInt < (n : Int)) (ha0 : 0 ≤ a.toInt) (hn : n < 2147483647) (hnn : nn.toInt = (n : Int)) (b15 : gb 15 = upd (gm 15) n a) (b16 : gb 16 = upd (gm 16) n (-1)) (b17 : gb 17 = upd (gm 17) n (-1)) (b18 : gb 18 = upd (gm 18) n 0) (e15 : gm2 15 = gb 15)
    (hi : (∃ z : Int32, z.toInt = (gb 18 a.toNatClampNeg).toInt + 1 ∧ gm2 18 = upd (gb 18) a.toNatClampNeg z) ∧ (((gb 16 a.toNatClampNeg).toInt = -1 ∧ gm2 16 = upd (gb 16) a.toNatClampNeg nn ∧ gm2 17 = gb 17) ∨ (¬ (gb 16 a.toNatClampNeg).toInt = -1 ∧ gm2 16 = gb 16 ∧ ∃ j : Nat, (j : Int) < nn.toInt ∧ gb 15 j = a ∧ (gb 17 j).toInt = -1 ∧ gm2 17 = upd (gb 17) j nn))) : LKS gm2 (n + 1) := by
  have ka : a.toNatClampNeg = a.toInt.toNat := rfl
  have hne : a.toNatClampNeg ≠ n := by omega
  have c15 : ∀ e, e < n → gb 15 e = gm 15 e := fun e he => by rw [b15, upd_ne (by omega)]
  have c16 : ∀ e, e < n → gb 16 e = gm 16 e := fun e he => by rw [b16, upd_ne (by omega)]
  have c17 : ∀ e, e < n → gb 17 e = gm 17 e := fun e he => by rw [b17, upd_ne (by omega)]
  have c18 : ∀ e, e < n → gb 18 e = gm 18 e := fun e he => by rw [b18, upd_ne (by omega)]
  have m1 : (-1 : Int32).toInt = -1 := by decide
  have m0 : (0 : Int32).toInt = 0 := by decide
  obtain ⟨⟨z, hz1, hz2⟩, hi⟩ := hi
  rw [c16 _ (by omega)] at hi
  rw [c18 _ (by omega)] at hz1
  have hA := h a.toNatClampNeg (by omega)
  have hfi := fiR_p (f := fun j => (gm 15 j).toInt) (e := (a.toNatClampNeg : Int)) n
  have key : (gm2 16 n).toInt = -1 ∧ (gm2 17 n).toInt = -1 ∧ (∀ e, e < n → (gm2 16 e).toInt = if a.toInt = (e : Int) ∧ (gm 16 e).toInt = -1 then (n : Int) else (gm 16 e).toInt) ∧ (∀ e, e < n → (gm2 17 e).toInt = if (gm 15 e).toInt = a.toInt ∧ 0 ≤ a.toInt ∧ (gm 17 e).toInt = -1 then (n : Int) else (gm 17 e).toInt) := by
    rcases hi with ⟨q1, q2, q3⟩ | ⟨q1, q2, j, q3, q4, q5, q6⟩
    · refine ⟨by rw [q2, upd_ne (Ne.symm hne), b16, upd_at]; exact m1, by rw [q3, b17, upd_at]; exact m1, fun e he => ?_, fun e he => ?_⟩
      · rw [q2]
        by_cases e9 : e = a.toNatClampNeg
        · rw [e9, upd_at, if_pos ⟨by omega, q1⟩]; exact hnn
        · rw [upd_ne e9, c16 e he, if_neg (fun w => e9 (by omega))]
      · rw [q3, c17 e he, if_neg]
        intro w
        rw [← hA.2.2.1, q1] at hfi
        rcases hfi with ⟨_, w2⟩ | ⟨w1, _⟩
        · exact w2 e he (by show (gm 15 e).toInt = _; omega)
        · omega
    · have hj : j < n := by omega
      rw [c15 j hj] at q4
      rw [c17 j hj] at q5
      refine ⟨by rw [q2, b16, upd_at]; exact m1, by rw [q6, upd_ne (by omega), b17, upd_at]; exact m1, fun e he => ?_, fun e he => ?_⟩
      · rw [q2, c16 e he, if_neg]
        intro w
        have e9 : e = a.toNatClampNeg := by omega
        rw [e9] at w
        exact q1 w.2
      · rw [q6]
        by_cases e9 : e = j
        · rw [e9, upd_at, if_pos ⟨by rw [q4], ha0, q5⟩]; exact hnn
        · rw [upd_ne e9, c17 e he, if_neg]
          intro ⟨w1, _, w3⟩
          have ne := nxR_p (f := fun j => (gm 15 j).toInt) (k := e) n
          have nj := nxR_p (f := fun j => (gm 15 j).toInt) (k := j) n
          rw [← (h e he).2.2.2.1, w3] at ne
          rw [← (h j hj).2.2.2.1, q5] at nj
          have hs : (gm 15 e).toInt = (gm 15 j).toInt := by rw [q4]; exact w1
          rcases ne with ⟨_, ne⟩ | ⟨ne, _⟩
          · rcases nj with ⟨_, nj⟩ | ⟨nj, _⟩
            · rcases Nat.lt_or_gt_of_ne e9 with w | w
              · exact ne j w hj hs.symm
              · exact nj e w he hs
            · omega
          · omega
  refine LKS_n (a := a) h ha (by omega) hn (e15.trans b15) key.1 key.2.1 (by rw [hz2, upd_ne (Ne.symm hne), b18, upd_at]; exact m0) (fun e he => ?_) key.2.2.1 key.2.2.2 (fun q => by omega)
  rw [hz2]
  clear hi hfi key
  by_cases e9 : e = a.toNatClampNeg
  · rw [e9, upd_at, if_pos (by omega)]; exact hz1
  · rw [upd_ne e9, c18 e he, if_neg (by omega)]; omega

theorem LKS_x {gm gb : Nat → Nat → Int32} {n : Int32} (h : LKS gm n.toNatClampNeg) (b17 : gb 17 = upd (gm 17) n.toNatClampNeg (-1)) (h0 : 0 ≤ n.toInt) {j : Nat} (hj : j < n.toInt.toNat + 1) (hp : 0 ≤ (gb 17 j).toInt) : (j : Int) < (gb 17 j).toInt := by
  have k1 : n.toNatClampNeg = n.toInt.toNat := rfl
  rw [b17] at hp ⊢
  by_cases e9 : j = n.toNatClampNeg
  · rw [e9, upd_at] at hp; exact absurd hp (by decide)
  · rw [upd_ne e9] at hp ⊢
    rw [(h j (by omega)).2.2.2.1] at hp ⊢
    rcases nxR_p (f := fun j => (gm 15 j).toInt) (k := j) n.toNatClampNeg with ⟨q, _⟩ | ⟨_, q, _⟩
    · omega
    · exact q
theorem LKS_y {gm gb : Nat → Nat → Int32} {n : Int32} (h : LKS gm n.toNatClampNeg) (b17 : gb 17 = upd (gm 17) n.toNatClampNeg (-1)) {j : Nat} (hj : j < n.toInt.toNat) (h0 : 0 ≤ n.toInt) : (gb 17 j).toInt < n.toInt := by
  have k1 : n.toNatClampNeg = n.toInt.toNat := rfl
  rw [b17, upd_ne (by omega), (h j (by omega)).2.2.2.1]
  rcases nxR_p (f := fun j => (gm 15 j).toInt) (k := j) n.toNatClampNeg with ⟨q, _⟩ | ⟨_, _, q, _⟩
  · omega
  · omega
theorem LKS_z {gm gb : Nat → Nat → Int32} {n : Int32} (h : LKS gm n.toNatClampNeg) (b16 : gb 16 = upd (gm 16) n.toNatClampNeg (-1)) {j : Nat} (hj : j < n.toInt.toNat) (h0 : 0 ≤ n.toInt) : (gb 16 j).toInt < n.toInt := by
  have k1 : n.toNatClampNeg = n.toInt.toNat := rfl
  rw [b16, upd_ne (by omega), (h j (by omega)).2.2.1]
  rcases fiR_p (f := fun j => (gm 15 j).toInt) (e := (j : Int)) n.toNatClampNeg with ⟨q, _⟩ | ⟨_, q, _⟩
  · omega
  · omega

set_option maxHeartbeats 4000000 in
set_option maxRecDepth 100000 in
theorem d_addElement2 (l : Launch) (dC : Nat → ClassId) (dI : Nat → Nat → Nat) (ad : Nat → Nat → Nat) (cid : Nat → ClassId) (a2 : Nat → Nat) (lx : List Nat) (sg : Nat → Int32) (gm : Nat → Nat → Int32) (lg : Nat → Nat → Int64) (x : Int32) (pl : Int32) (ar : Int32) (K9 : Nat) (hI : CI sg gm) (hvx : iv 0 0 x) (hvpl : iv 0 1201 pl) (hvar : iv (-1) 79 ar) (hful : (sg 4).toInt ≤ 79) (hou : ar.toInt < (sg 4).toInt) (hFA : FA sg gm) (hLK : LK sg gm) (hBN : BN sg gm) (hLS : LKS gm (sg 4).toNatClampNeg) (hr0 : ar.toInt = -1 → (sg 4).toInt = 0) (hU12 : UB 12 K9 gm) (hU18 : UB 18 K9 gm) (hK9 : K9 ≤ 1999990) : CMt dC dI ad cid a2 lx l yX6_addElement wm_X6_addElement ({ frames := 2, cells := 1, slots := 6, locals := 43 }) [eV (ad 1) x, .int pl, eV (ad 9) ar] sg gm lg (fun v u => ∃ r : Int32, v = some (eV (ad 9) r) ∧ ∃ (sg2 : Nat → Int32) (gm2 : Nat → Nat → Int32) (lg2 : Nat → Nat → Int64), u = (sg2, gm2, lg2) ∧ CI sg2 gm2 ∧ KS [4] sg sg2 ∧ KS [11, 12, 13, 14, 15, 16, 17, 18, 19, 20, 21, 22, 23, 24, 25, 26, 27] gm gm2 ∧ KS [1, 2, 3] lg lg2 ∧ (iv 0 79 r) ∧ (BN sg2 gm2) ∧ (r = sg 4) ∧ ((sg2 4).toInt = (sg 4).toInt + 1) ∧ (FA sg2 gm2) ∧ (LK sg2 gm2) ∧ (UB 12 (K9 + 1) gm2) ∧ (UB 18 (K9 + 1) gm2) ∧ (LKS gm2 ((sg 4).toNatClampNeg + 1)) ∧ (lg2 1 = vp_updL (lg 1) (sg 4).toNatClampNeg 0) ∧ (gm2 11 = upd (gm 11) (sg 4).toNatClampNeg 0) ∧ (gm2 12 = upd (gm 12) (sg 4).toNatClampNeg 0) ∧ (gm2 13 = upd (gm 13) (sg 4).toNatClampNeg pl) ∧ (gm2 14 = upd (gm 14) (sg 4).toNatClampNeg (-1)) ∧ (gm2 15 = upd (gm 15) (sg 4).toNatClampNeg ar) ∧ (gm2 19 = upd (gm 19) (sg 4).toNatClampNeg (sg 5)) ∧ (gm2 20 = upd (gm 20) (sg 4).toNatClampNeg 0)) (fun _ _ => False) := by
  intro sz
  refine vx_ofW (cc := cX6_addElement) (maxL := 4) (ret := (some (.object "WiredBeans$Element"))) (by decide) rfl ?_
  intro p e s m args below meth c s₁ B hml hxt hv
  obtain ⟨rfl, hsz, hP, hK, hD0, hG⟩ := hv
  have hx := B.exec
  have hb := B.bytes
  have hr := B.returns
  have hts := atoms_spec (ws := wm_X6_addElement) B.pre
  have htb := fun (w : Cond) (h : w ∈ tb) => hts w (List.mem_cons_of_mem _ h)
  have hown : s.vm.findClass RX6 = some m.cls := findClass_of_methodNamed B.named
  have hlocks := B.notSynchronized
  subst hsz
  have hD := hD0.self (sz := s.heap.size)
  generalize hAe : va_A (cW ad cid a2 lx sg gm lg) s.heap.size = A at hD hG ⊢
  have hA : ∀ q : Nat, s.heap.size ≤ q → A q := fun q h => by rw [← hAe]; exact Or.inr h
  have hS : va_S A s.heap s.heap [] := va_S.rf
  have hl := lv_entry ([eV (ad 1) x, .int pl, eV (ad 9) ar]) (n := 4) (by rw [show (lg_sl ([eV (ad 1) x, .int pl, eV (ad 9) ar])).length = 3 from by simp [lg_sl, eV_cat, cat_i, cat_l]]; exact Nat.le_of_ble_eq_true rfl)
  rw [lg_entry_eq]
  generalize (lg_sl ([eV (ad 1) x, .int pl, eV (ad 9) ar]) ++ List.replicate (4 - (lg_sl ([eV (ad 1) x, .int pl, eV (ad 9) ar])).length) Slot.unset).toArray = ls at hl ⊢
  have hl : lv_has ls 4 [(0, eV (ad 1) x), (1, .int pl), (2, eV (ad 9) ar)] := by simp [lv_args, eV_cat, cat_i, cat_l] at hl; exact hl
  have h4 : iv 0 79 (sg 4) := ⟨(show iv 0 80 (sg 4) from CI_s hI 4).1, hful⟩
  have hj39 : ∀ (sg_j39 : Nat → Int32) (gm_j39 : Nat → Nat → Int32) (lg_j39 : Nat → Nat → Int64) (_ : iv 0 79 (sg 4)) (_ : iv 0 0 x) (_ : iv 0 1201 pl) (_ : iv (-1) 79 ar) (_ : KS [4] sg sg_j39) (_ : KS [11, 12, 13, 14, 15, 16, 17, 18, 19, 20, 21, 22, 23, 24, 25, 26, 27] gm gm_j39) (_ : KS [1, 2, 3] lg lg_j39) (_ : CI sg_j39 gm_j39) (_ : BN sg_j39 gm_j39) (_ : FA sg_j39 gm_j39) (_ : LK sg_j39 gm_j39) (_ : UB 12 (K9 + 1) gm_j39) (_ : UB 18 (K9 + 1) gm_j39) (_ : (sg_j39 4).toInt = (sg 4).toInt + 1) (_ : LKS gm_j39 ((sg 4).toNatClampNeg + 1)) (_ : lg_j39 1 = vp_updL (lg 1) (sg 4).toNatClampNeg 0) (_ : gm_j39 11 = upd (gm 11) (sg 4).toNatClampNeg 0) (_ : gm_j39 12 = upd (gm 12) (sg 4).toNatClampNeg 0) (_ : gm_j39 13 = upd (gm 13) (sg 4).toNatClampNeg pl) (_ : gm_j39 14 = upd (gm 14) (sg 4).toNatClampNeg (-1)) (_ : gm_j39 15 = upd (gm 15) (sg 4).toNatClampNeg ar) (_ : gm_j39 19 = upd (gm 19) (sg 4).toNatClampNeg (sg 5)) (_ : gm_j39 20 = upd (gm 20) (sg 4).toNatClampNeg 0) (H : Heap) (locs : List Loc) (ls : Array Slot), va_P (dC, dI) vwCl (cW ad cid a2 lx sg_j39 gm_j39 lg_j39) H → va_D A (cW ad cid a2 lx sg_j39 gm_j39 lg_j39) → va_S A s.heap H locs → lv_has ls 4 [(3, eV (ad 9) (sg 4)), (0, eV (ad 1) x), (1, .int pl), (2, eV (ad 9) ar)] → W p l e (headSpec wm_X6_addElement ({ frames := 2, cells := 1, slots := 6, locals := 43 })).room s m ([eV (ad 1) x, .int pl, eV (ad 9) ar] : List Value).toArray below meth c H locs 0 0 (vx_MQ below (cQx dC dI ad cid a2 lx (fun v u => ∃ r : Int32, v = some (eV (ad 9) r) ∧ ∃ (sg2 : Nat → Int32) (gm2 : Nat → Nat → Int32) (lg2 : Nat → Nat → Int64), u = (sg2, gm2, lg2) ∧ CI sg2 gm2 ∧ KS [4] sg sg2 ∧ KS [11, 12, 13, 14, 15, 16, 17, 18, 19, 20, 21, 22, 23, 24, 25, 26, 27] gm gm2 ∧ KS [1, 2, 3] lg lg2 ∧ (iv 0 79 r) ∧ (BN sg2 gm2) ∧ (r = sg 4) ∧ ((sg2 4).toInt = (sg 4).toInt + 1) ∧ (FA sg2 gm2) ∧ (LK sg2 gm2) ∧ (UB 12 (K9 + 1) gm2) ∧ (UB 18 (K9 + 1) gm2) ∧ (LKS gm2 ((sg 4).toNatClampNeg + 1)) ∧ (lg2 1 = vp_updL (lg 1) (sg 4).toNatClampNeg 0) ∧ (gm2 11 = upd (gm 11) (sg 4).toNatClampNeg 0) ∧ (gm2 12 = upd (gm 12) (sg 4).toNatClampNeg 0) ∧ (gm2 13 = upd (gm 13) (sg 4).toNatClampNeg pl) ∧ (gm2 14 = upd (gm 14) (sg 4).toNatClampNeg (-1)) ∧ (gm2 15 = upd (gm 15) (sg 4).toNatClampNeg ar) ∧ (gm2 19 = upd (gm 19) (sg 4).toNatClampNeg (sg 5)) ∧ (gm2 20 = upd (gm 20) (sg 4).toNatClampNeg 0)) A) (cX dC dI ad cid a2 lx (fun _ _ => False) A) ([eV (ad 1) x, .int pl, eV (ad 9) ar] : List Value).toArray s 1 6 A) (F0 m 39 ls []) := by
    intro sg_j39 gm_j39 lg_j39 hsx3_39 hsx0_39 hsx1_39 hsx2_39 hks_j39 hkg_j39 hkl_j39 hI_j39 hBN2 hFA2 hLK2 hU12b hU18b h4b hS2 ul1 u11 u12 u13 u14 u15 u19 u20 H locs ls hP hD hS hl
    refine ec_aload_n hx hb dX6_addElement_39 rfl (lv_at hl 0 rfl) ?_
    exact W.nb (fun hN => W.widen (k := 1) (n := 6) (by decide) (by decide) (vx_ret (W.aret (v := eV (ad 9) (sg 4)) hx hb hr (Or.inl ⟨_, rfl⟩) (eV_is _ _) (fun t ht hW => ⟨⟨some (eV (ad 9) (sg 4)), (sg_j39, gm_j39, lg_j39), rfl, ⟨(sg 4), rfl, sg_j39, gm_j39, lg_j39, rfl, hI_j39, (KS_tr (L := [4]) KS_rf hks_j39 (by decide)), (KS_tr (L := [11, 12, 13, 14, 15, 16, 17, 18, 19, 20, 21, 22, 23, 24, 25, 26, 27]) KS_rf hkg_j39 (by decide)), (KS_tr (L := [1, 2, 3]) KS_rf hkl_j39 (by decide)), hsx3_39, (hBN2), (rfl), (h4b), (hFA2), (hLK2), (hU12b), (hU18b), (hS2), (ul1), (u11), (u12), (u13), (u14), (u15), (u19), (u20)⟩, by rw [ht]; exact hP, va_K.moved hW.alike hK, hD⟩, hS.F ht, by rw [ht]; exact hN⟩) hS.2.2 dX6_addElement_40)))
  refine ec_aload_n hx hb dX6_addElement_0 rfl (lv_at hl 0 rfl) ?_
  refine cr_get (t := 1) (j := 0) (C := RX6) (T := TX6) (N := 8) (v := eV (ad 14) 0) hx hb htb inX6 hown hK hP hvx (by decide) (by decide) (by decide) rfl (by decide) (htb _ kw_64) (cV_c rfl (by decide) (by rw [show cMu 1 0 = 0 from rfl, Nat.zero_mul]; rfl)) dX6_addElement_1 ?_
  refine ec_aload_n hx hb dX6_addElement_4 rfl (lv_at hl 0 rfl) ?_
  refine cr_get (t := 1) (j := 5) (C := RX6) (T := TX6) (N := 8) (v := .int (sg 4)) hx hb htb inX6 hown hK hP hvx (by decide) (by decide) (by decide) rfl (by decide) (htb _ kw_345) rfl dX6_addElement_5 ?_
  refine cr_aald (t := 14) (C := RX3) (v := eV (ad 9) (sg 4)) hx hb hK hP (iv_k (by decide) : iv 0 0 0) (by decide) (by decide) (by decide) (by decide) (by decide) rfl (show vp_in (sg 4) (cLen 14) from (show vp_in (sg 4) 80 from (iv_in h4 (by decide)))) (cAr_c (by decide) (h4).1 (by rw [show cAm 14 = 0 from rfl, Nat.zero_mul, show cAo 14 = 0 from rfl]; omega)) dX6_addElement_8 ?_
  refine ec_astore_n (i := 3) (lv' := [(3, eV (ad 9) (sg 4)), (0, eV (ad 1) x), (1, .int pl), (2, eV (ad 9) ar)]) hx hb dX6_addElement_9 rfl hl (by decide) (by simp [List.filter, eV_cat, cat_i, cat_l]) (fun ls hl => ?_)
  refine ec_aload_n hx hb dX6_addElement_10 rfl (lv_at hl 1 rfl) ?_
  refine lv_dup hx hb dX6_addElement_11 (eV_cat _ _) ?_
  refine cr_get (t := 1) (j := 5) (C := RX6) (T := TX6) (N := 8) (v := .int (sg 4)) hx hb htb inX6 hown hK hP hvx (by decide) (by decide) (by decide) rfl (by decide) (htb _ kw_345) rfl dX6_addElement_12 ?_
  refine lv_iconst (v := 1) hx hb dX6_addElement_15 (by decide) ?_
  refine lv_iadd hx hb dX6_addElement_16 ?_
  refine lv_topi (fun z_1 ez_1 => ?_)
  have hz_1 : iv 1 80 z_1 := iv_of ez_1 (iv_add h4 (iv_k (by decide) : iv 1 1 1) (by decide))
  have tz_1 : z_1.toInt = ((sg 4) : Int32).toInt + 1 := by rw [ez_1]; exact iv_addE h4 (iv_k (by decide) : iv 1 1 1) (by decide)
  refine cr_puts (t := 1) (j := 5) (C := RX6) (T := TX6) (N := 8) (ty0 := tyX6) (k := 4) (y := z_1) hx hb htb inX6 tyX6_ok nmX6 hown hK hP hD hS hvx (by decide) (by decide) (by decide) (by decide) rfl rfl rfl (by decide) (htb _ kw_345) rfl (by show Value.int z_1 = Value.int (va_up sg 4 z_1 4); rw [va_up_self]) rfl rfl dX6_addElement_17 (fun sg_2 H locs esg_2 hP hD hS => ?_)
  have hI_sg_2 := CI_put hI esg_2 hz_1 (by decide)
  refine ec_aload_n hx hb dX6_addElement_20 rfl (lv_at hl 0 rfl) ?_
  refine lv_iload_n hx hb dX6_addElement_21 rfl (lv_at hl 2 rfl) ?_
  refine ec_aload_n hx hb dX6_addElement_22 rfl (lv_at hl 3 rfl) ?_
  refine ec_aload_n hx hb dX6_addElement_23 rfl (lv_at hl 1 rfl) ?_
  refine cr_get (t := 1) (j := 6) (C := RX6) (T := TX6) (N := 8) (v := .int (sg_2 5)) hx hb htb inX6 hown hK hP hvx (by decide) (by decide) (by decide) rfl (by decide) (htb _ kw_346) rfl dX6_addElement_24 ?_
  refine W.eq (g2 := F0 m 27 ls [.int (sg 5), eV (ad 9) ar, .int pl, eV (ad 9) (sg 4)]) (by rw [show sg_2 5 = sg 5 from (up_ne esg_2 (by decide))]) ?_
  refine cm_callV (t := 9) (C := RX3) (T := TX3) (N := 21) (rest := []) (as := [.int pl, eV (ad 9) ar, .int (sg 5)]) ⟨hx, hb, hml, hown, htb⟩ (d_beginEl2 l dC dI ad cid a2 lx sg_2 gm lg (sg 4) pl ar (sg 5) hI_sg_2 h4 hvpl hvar (show iv 0 240 (sg 5) from CI_s hI 5)) (cwV 3 htb (gd_V kw_378 kw_379 kw_380 kw_66 kw_1428) rfl rfl rfl (by decide +kernel) ⟨Nat.le_of_ble_eq_true rfl, Nat.le_of_ble_eq_true rfl⟩) h4 (by decide) (by decide) rfl rfl hl.1 rfl (Nat.le_trans cs_n (by decide)) dX6_addElement_27 ⟨Nat.le_of_ble_eq_true rfl, Nat.le_of_ble_eq_true rfl⟩ hK hP hD hS hA hG (fun E ce q9 u_4 H locs hw hP hD hS hce hcv hcl => ?_) (fun v9 u_4 H locs hw hP hD hS => ?_)
  · exact hw.elim
  obtain ⟨rfl, sgv_5, gmv_5, lgv_5, rfl, hIv_5, ksv_5, kgv_5, klv_5, f11_r_3, f12_r_3, f13_r_3, f14_r_3, f15_r_3, f16_r_3, f17_r_3, f18_r_3, f19_r_3, f20_r_3, f27_r_3, fl1_r_3⟩ := hw
  obtain rfl := KS_nil ksv_5
  have hP : va_P (dC, dI) vwCl (cW ad cid a2 lx sg_2 gmv_5 lgv_5) H := hP
  have hD : va_D A (cW ad cid a2 lx sg_2 gmv_5 lgv_5) := hD
  refine W.eq (g2 := F0 m 30 ls []) rfl ?_
  refine ec_aload_n hx hb dX6_addElement_30 rfl (lv_at hl 3 rfl) ?_
  refine ec_ifnull (tgt := 39) hx hb dX6_addElement_31 (by decide) (fun c_6 => ?_) (fun c_6 => ?_)
  · have h_7 : iv (-1) (-1) ar := ⟨(hvar).1, by omega⟩
    exact hj39 sg_2 gmv_5 lgv_5 h4 hvx hvpl (iv_w h_7 (by decide)) (KS_up KS_rf esg_2 (by decide)) (KS_tr (L := [11, 12, 13, 14, 15, 16, 17, 18, 19, 20, 21, 22, 23, 24, 25, 26, 27]) KS_rf kgv_5 (by decide)) (KS_tr (L := [1, 2, 3]) KS_rf klv_5 (by decide)) hIv_5 (BN_new hBN (by have := i32_0; have := i32_1; have := i32_2; have := i32_m1; have := congrArg Int32.toInt (show sg_2 4 = z_1 from up_at esg_2); have := (hz_1).1; have := (hz_1).2; have := (hvx).1; have := (hvx).2; have := (hvpl).1; have := (hvpl).2; have := (h_7).1; have := (h_7).2; have := (h4).1; have := (h4).2; have := ((show iv 0 240 (sg 5) from CI_s hI 5)).1; have := ((show iv 0 240 (sg 5) from CI_s hI 5)).2; omega) h4.1 (Eq.trans ((show KS [] gmv_5 gmv_5 from KS_rf) 27 (by decide)) f27_r_3)) (FA_new hFA (by have := i32_0; have := i32_1; have := i32_2; have := i32_m1; have := congrArg Int32.toInt (show sg_2 4 = z_1 from up_at esg_2); have := (hz_1).1; have := (hz_1).2; have := (hvx).1; have := (hvx).2; have := (hvpl).1; have := (hvpl).2; have := (h_7).1; have := (h_7).2; have := (h4).1; have := (h4).2; have := ((show iv 0 240 (sg 5) from CI_s hI 5)).1; have := ((show iv 0 240 (sg 5) from CI_s hI 5)).2; omega) h4.1 (up_ne esg_2 (by decide)) (Eq.trans ((show KS [] gmv_5 gmv_5 from KS_rf) 19 (by decide)) f19_r_3) (Eq.trans ((show KS [] gmv_5 gmv_5 from KS_rf) 20 (by decide)) f20_r_3) rfl) (LK_new hLK (by have := i32_0; have := i32_1; have := i32_2; have := i32_m1; have := congrArg Int32.toInt (show sg_2 4 = z_1 from up_at esg_2); have := (hz_1).1; have := (hz_1).2; have := (hvx).1; have := (hvx).2; have := (hvpl).1; have := (hvpl).2; have := (h_7).1; have := (h_7).2; have := (h4).1; have := (h4).2; have := ((show iv 0 240 (sg 5) from CI_s hI 5)).1; have := ((show iv 0 240 (sg 5) from CI_s hI 5)).2; omega) h4.1 hou (Eq.trans ((show KS [] gmv_5 gmv_5 from KS_rf) 15 (by decide)) f15_r_3) f16_r_3 f17_r_3 (fun _ => Or.inl rfl) (fun _ => Or.inl rfl)) (UB_u hU12 (Eq.trans ((show KS [] gmv_5 gmv_5 from KS_rf) 12 (by decide)) f12_r_3) (by omega) (by show (0 : Int) ≤ _; omega)) (UB_u hU18 (Eq.trans ((show KS [] gmv_5 gmv_5 from KS_rf) 18 (by decide)) f18_r_3) (by omega) (by show (0 : Int) ≤ _; omega)) (by have := i32_0; have := i32_1; have := i32_2; have := i32_m1; have := congrArg Int32.toInt (show sg_2 4 = z_1 from up_at esg_2); have := (hz_1).1; have := (hz_1).2; have := (hvx).1; have := (hvx).2; have := (hvpl).1; have := (hvpl).2; have := (h_7).1; have := (h_7).2; have := (h4).1; have := (h4).2; have := ((show iv 0 240 (sg 5) from CI_s hI 5)).1; have := ((show iv 0 240 (sg 5) from CI_s hI 5)).2; omega) ((LKS_n (a := ar) hLS (show ar.toInt < (((sg 4).toNatClampNeg : Nat) : Int) from (by show _ < (((sg 4).toInt.toNat : Nat) : Int); omega)) hvar.1 (show (sg 4).toNatClampNeg < 2147483647 from (by have := h4.2; show (sg 4).toInt.toNat < _; omega)) f15_r_3 (by rw [f16_r_3, upd_at]; decide) (by rw [f17_r_3, upd_at]; decide) (by rw [f18_r_3, upd_at]; decide) (fun e he => absurd he (by show ¬ e < (sg 4).toInt.toNat; have := hr0 (by have := i32_0; have := i32_1; have := i32_2; have := i32_m1; have := (hvx).1; have := (hvx).2; have := (hvpl).1; have := (hvpl).2; have := (h_7).1; have := (h_7).2; have := (h4).1; have := (h4).2; have := (hz_1).1; have := (hz_1).2; have := ((show iv 0 240 (sg 5) from CI_s hI 5)).1; have := ((show iv 0 240 (sg 5) from CI_s hI 5)).2; omega); omega)) (fun e he => absurd he (by show ¬ e < (sg 4).toInt.toNat; have := hr0 (by have := i32_0; have := i32_1; have := i32_2; have := i32_m1; have := (hvx).1; have := (hvx).2; have := (hvpl).1; have := (hvpl).2; have := (h_7).1; have := (h_7).2; have := (h4).1; have := (h4).2; have := (hz_1).1; have := (hz_1).2; have := ((show iv 0 240 (sg 5) from CI_s hI 5)).1; have := ((show iv 0 240 (sg 5) from CI_s hI 5)).2; omega); omega)) (fun e he => absurd he (by show ¬ e < (sg 4).toInt.toNat; have := hr0 (by have := i32_0; have := i32_1; have := i32_2; have := i32_m1; have := (hvx).1; have := (hvx).2; have := (hvpl).1; have := (hvpl).2; have := (h_7).1; have := (h_7).2; have := (h4).1; have := (h4).2; have := (hz_1).1; have := (hz_1).2; have := ((show iv 0 240 (sg 5) from CI_s hI 5)).1; have := ((show iv 0 240 (sg 5) from CI_s hI 5)).2; omega); omega)) (fun q => (show (sg 4).toInt.toNat = 0 by have := hr0 q; omega)))) (fl1_r_3) ((Eq.trans ((show KS [] gmv_5 gmv_5 from KS_rf) 11 (by decide)) f11_r_3)) ((Eq.trans ((show KS [] gmv_5 gmv_5 from KS_rf) 12 (by decide)) f12_r_3)) ((Eq.trans ((show KS [] gmv_5 gmv_5 from KS_rf) 13 (by decide)) f13_r_3)) ((Eq.trans ((show KS [] gmv_5 gmv_5 from KS_rf) 14 (by decide)) f14_r_3)) ((Eq.trans ((show KS [] gmv_5 gmv_5 from KS_rf) 15 (by decide)) f15_r_3)) ((Eq.trans ((show KS [] gmv_5 gmv_5 from KS_rf) 19 (by decide)) f19_r_3)) ((Eq.trans ((show KS [] gmv_5 gmv_5 from KS_rf) 20 (by decide)) f20_r_3)) _ _ _ hP hD hS (lv_sub hl [0, 1, 2, 3] rfl)
  · have h_8 : iv 0 79 ar := ⟨c_6, (hvar).2⟩
    refine ec_aload_n hx hb dX6_addElement_34 rfl (lv_at hl 3 rfl) ?_
    refine ec_aload_n hx hb dX6_addElement_35 rfl (lv_at hl 0 rfl) ?_
    refine cm_callV (t := 9) (C := RX3) (T := TX3) (N := 21) (rest := []) (as := [eV (ad 9) (sg 4)]) ⟨hx, hb, hml, hown, htb⟩ (d_addInner2 l dC dI ad cid a2 lx sg_2 gmv_5 lgv_5 ar (sg 4) K9 hIv_5 h_8 h4 (UB_u hU12 f12_r_3 (Nat.le_refl _) (by show (0 : Int) ≤ _; omega)) (UB_u hU18 f18_r_3 (Nat.le_refl _) (by show (0 : Int) ≤ _; omega)) hK9 (LK_new hLK (by have := i32_0; have := i32_1; have := i32_2; have := i32_m1; have := congrArg Int32.toInt (show sg_2 4 = z_1 from up_at esg_2); have := (hz_1).1; have := (hz_1).2; have := (hvx).1; have := (hvx).2; have := (hvpl).1; have := (hvpl).2; have := (h_8).1; have := (h_8).2; have := (h4).1; have := (h4).2; have := ((show iv 0 240 (sg 5) from CI_s hI 5)).1; have := ((show iv 0 240 (sg 5) from CI_s hI 5)).2; omega) h4.1 hou f15_r_3 f16_r_3 f17_r_3 (fun _ => Or.inl rfl) (fun _ => Or.inl rfl)) (by have := i32_0; have := i32_1; have := i32_2; have := i32_m1; have := congrArg Int32.toInt (show sg_2 4 = z_1 from up_at esg_2); have := (hz_1).1; have := (hz_1).2; have := (hvx).1; have := (hvx).2; have := (hvpl).1; have := (hvpl).2; have := (h_8).1; have := (h_8).2; have := (h4).1; have := (h4).2; have := ((show iv 0 240 (sg 5) from CI_s hI 5)).1; have := ((show iv 0 240 (sg 5) from CI_s hI 5)).2; omega) (fun j hj hp => LKS_x hLS f17_r_3 h4.1 (show j < (sg 4).toInt.toNat + 1 from (by have hj : j < (sg_2 4).toInt.toNat := hj; have := i32_0; have := i32_1; have := i32_2; have := i32_m1; have := congrArg Int32.toInt (show sg_2 4 = z_1 from up_at esg_2); have := (hz_1).1; have := (hz_1).2; have := (hvx).1; have := (hvx).2; have := (hvpl).1; have := (hvpl).2; have := (h_8).1; have := (h_8).2; have := (h4).1; have := (h4).2; have := ((show iv 0 240 (sg 5) from CI_s hI 5)).1; have := ((show iv 0 240 (sg 5) from CI_s hI 5)).2; omega)) hp) (fun j hj => LKS_y hLS f17_r_3 (show j < (sg 4).toInt.toNat from (by omega)) h4.1) (LKS_z hLS f16_r_3 (show ar.toInt.toNat < (sg 4).toInt.toNat from (by have := (h_8).1; omega)) h4.1)) (cwV 1 htb (gd_V kw_405 kw_406 kw_407 kw_66 kw_1430) rfl rfl rfl (by decide +kernel) ⟨Nat.le_of_ble_eq_true rfl, Nat.le_of_ble_eq_true rfl⟩) h_8 (by decide) (by decide) rfl rfl hl.1 rfl (Nat.le_trans cs_n (by decide)) dX6_addElement_36 ⟨Nat.le_of_ble_eq_true rfl, Nat.le_of_ble_eq_true rfl⟩ hK hP hD hS hA hG (fun E ce q9 u_10 H locs hw hP hD hS hce hcv hcl => ?_) (fun v9 u_10 H locs hw hP hD hS => ?_)
    · exact hw.elim
    obtain ⟨rfl, sgv_11, gmv_11, lgv_11, rfl, hIv_11, ksv_11, kgv_11, klv_11, fU_r_9, fL_r_9, fI_r_9⟩ := hw
    obtain rfl := KS_nil ksv_11
    obtain rfl := KS_nil klv_11
    have hP : va_P (dC, dI) vwCl (cW ad cid a2 lx sg_2 gmv_11 lgv_5) H := hP
    have hD : va_D A (cW ad cid a2 lx sg_2 gmv_11 lgv_5) := hD
    refine W.eq (g2 := F0 m 39 ls []) rfl ?_
    exact hj39 sg_2 gmv_11 lgv_5 h4 hvx hvpl (iv_w h_8 (by decide)) (KS_up KS_rf esg_2 (by decide)) (KS_tr (L := [11, 12, 13, 14, 15, 16, 17, 18, 19, 20, 21, 22, 23, 24, 25, 26, 27]) (KS_tr (L := [11, 12, 13, 14, 15, 16, 17, 18, 19, 20, 21, 22, 23, 24, 25, 26, 27]) KS_rf kgv_5 (by decide)) kgv_11 (by decide)) (KS_tr (L := [1, 2, 3]) KS_rf klv_5 (by decide)) hIv_11 (BN_new hBN (by have := i32_0; have := i32_1; have := i32_2; have := i32_m1; have := congrArg Int32.toInt (show sg_2 4 = z_1 from up_at esg_2); have := (hz_1).1; have := (hz_1).2; have := (hvx).1; have := (hvx).2; have := (hvpl).1; have := (hvpl).2; have := (h_8).1; have := (h_8).2; have := (h4).1; have := (h4).2; have := ((show iv 0 240 (sg 5) from CI_s hI 5)).1; have := ((show iv 0 240 (sg 5) from CI_s hI 5)).2; omega) h4.1 (Eq.trans ((show KS [16, 17, 18] gmv_5 gmv_11 from (KS_tr (L := [16, 17, 18]) KS_rf kgv_11 (by decide))) 27 (by decide)) f27_r_3)) (FA_new hFA (by have := i32_0; have := i32_1; have := i32_2; have := i32_m1; have := congrArg Int32.toInt (show sg_2 4 = z_1 from up_at esg_2); have := (hz_1).1; have := (hz_1).2; have := (hvx).1; have := (hvx).2; have := (hvpl).1; have := (hvpl).2; have := (h_8).1; have := (h_8).2; have := (h4).1; have := (h4).2; have := ((show iv 0 240 (sg 5) from CI_s hI 5)).1; have := ((show iv 0 240 (sg 5) from CI_s hI 5)).2; omega) h4.1 (up_ne esg_2 (by decide)) (Eq.trans ((show KS [16, 17, 18] gmv_5 gmv_11 from (KS_tr (L := [16, 17, 18]) KS_rf kgv_11 (by decide))) 19 (by decide)) f19_r_3) (Eq.trans ((show KS [16, 17, 18] gmv_5 gmv_11 from (KS_tr (L := [16, 17, 18]) KS_rf kgv_11 (by decide))) 20 (by decide)) f20_r_3) rfl) (LK_new hLK (by have := i32_0; have := i32_1; have := i32_2; have := i32_m1; have := congrArg Int32.toInt (show sg_2 4 = z_1 from up_at esg_2); have := (hz_1).1; have := (hz_1).2; have := (hvx).1; have := (hvx).2; have := (hvpl).1; have := (hvpl).2; have := (h_8).1; have := (h_8).2; have := (h4).1; have := (h4).2; have := ((show iv 0 240 (sg 5) from CI_s hI 5)).1; have := ((show iv 0 240 (sg 5) from CI_s hI 5)).2; omega) h4.1 hou (Eq.trans ((show KS [16, 17, 18] gmv_5 gmv_11 from (KS_tr (L := [16, 17, 18]) KS_rf kgv_11 (by decide))) 15 (by decide)) f15_r_3) f16_r_3 f17_r_3 (fun j => (fL_r_9 j).1.imp id (fun q9 => ⟨q9.1, by rw [q9.2]; exact cl_0 (h_8).1⟩)) (fun j => (fL_r_9 j).2.imp id (fun q9 => ⟨q9.1, by rw [show gmv_11 15 = gmv_5 15 from (show KS [16, 17, 18] gmv_5 gmv_11 from (KS_tr (L := [16, 17, 18]) KS_rf kgv_11 (by decide))) 15 (by decide)]; exact q9.2⟩))) (UB_u hU12 (Eq.trans ((show KS [16, 17, 18] gmv_5 gmv_11 from (KS_tr (L := [16, 17, 18]) KS_rf kgv_11 (by decide))) 12 (by decide)) f12_r_3) (by omega) (by show (0 : Int) ≤ _; omega)) (fU_r_9) (by have := i32_0; have := i32_1; have := i32_2; have := i32_m1; have := congrArg Int32.toInt (show sg_2 4 = z_1 from up_at esg_2); have := (hz_1).1; have := (hz_1).2; have := (hvx).1; have := (hvx).2; have := (hvpl).1; have := (hvpl).2; have := (h_8).1; have := (h_8).2; have := (h4).1; have := (h4).2; have := ((show iv 0 240 (sg 5) from CI_s hI 5)).1; have := ((show iv 0 240 (sg 5) from CI_s hI 5)).2; omega) ((LKS_i hLS (show ar.toInt < (((sg 4).toNatClampNeg : Nat) : Int) from (by show _ < (((sg 4).toInt.toNat : Nat) : Int); omega)) (h_8).1 (show (sg 4).toNatClampNeg < 2147483647 from (by have := h4.2; show (sg 4).toInt.toNat < _; omega)) (show (sg 4).toInt = (((sg 4).toNatClampNeg : Nat) : Int) from (by have := h4.1; show _ = (((sg 4).toInt.toNat : Nat) : Int); omega)) f15_r_3 f16_r_3 f17_r_3 f18_r_3 ((show KS [16, 17, 18] gmv_5 gmv_11 from (KS_tr (L := [16, 17, 18]) KS_rf kgv_11 (by decide))) 15 (by decide)) fI_r_9)) (fl1_r_3) ((Eq.trans ((show KS [16, 17, 18] gmv_5 gmv_11 from (KS_tr (L := [16, 17, 18]) KS_rf kgv_11 (by decide))) 11 (by decide)) f11_r_3)) ((Eq.trans ((show KS [16, 17, 18] gmv_5 gmv_11 from (KS_tr (L := [16, 17, 18]) KS_rf kgv_11 (by decide))) 12 (by decide)) f12_r_3)) ((Eq.trans ((show KS [16, 17, 18] gmv_5 gmv_11 from (KS_tr (L := [16, 17, 18]) KS_rf kgv_11 (by decide))) 13 (by decide)) f13_r_3)) ((Eq.trans ((show KS [16, 17, 18] gmv_5 gmv_11 from (KS_tr (L := [16, 17, 18]) KS_rf kgv_11 (by decide))) 14 (by decide)) f14_r_3)) ((Eq.trans ((show KS [16, 17, 18] gmv_5 gmv_11 from (KS_tr (L := [16, 17, 18]) KS_rf kgv_11 (by decide))) 15 (by decide)) f15_r_3)) ((Eq.trans ((show KS [16, 17, 18] gmv_5 gmv_11 from (KS_tr (L := [16, 17, 18]) KS_rf kgv_11 (by decide))) 19 (by decide)) f19_r_3)) ((Eq.trans ((show KS [16, 17, 18] gmv_5 gmv_11 from (KS_tr (L := [16, 17, 18]) KS_rf kgv_11 (by decide))) 20 (by decide)) f20_r_3)) _ _ _ hP hD hS (lv_sub hl [0, 1, 2, 3] rfl)
