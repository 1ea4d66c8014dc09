set_option maxHeartbeats 4000000 in
set_option maxRecDepth 100000 in
theorem d_chooseA (l : Launch) (dC : Nat → ClassId) (dI : Nat → Nat → Nat) (ad : Nat → Nat → Nat) (cid : Nat → ClassId) (a2 : Nat → Nat) (lx : List Nat) (sg : Nat → Int32) (gm : Nat → Nat → Int32) (lg : Nat → Nat → Int64) (hl9 : l.stackTraces = false) (x : Int32) (b : Int32) (fr : Int32) (dp : Int32) (hI : CI sg gm) (hvx : iv 0 0 x) (hvb : iv 0 79 b) (hvfr : iv (-1) 59 fr) (hvdp : iv 0 39 dp) (hLD : LDI lx gm) (hW : WRD sg gm lg) (hb12 : b.toInt < (sg 12).toInt) (hWK : WKD gm (3 * b.toNatClampNeg + 0) dp.toNatClampNeg 3) (hfr : fr.toInt = -1 → 0 ≤ (gm 30 b.toNatClampNeg).toInt) (hmt : (gm 31 b.toNatClampNeg).toInt = -1) : CMt dC dI ad cid a2 lx l yX5_chooseFor wm_X5_chooseFor ({ frames := 14, cells := 1, slots := 6, locals := 400 }) [eV (ad 6) x, eV (ad 10) b, .int fr, .int dp] sg gm lg (fun v u => ∃ r : Int32, v = some (eV (ad 8) r) ∧ ∃ (sg2 : Nat → Int32) (gm2 : Nat → Nat → Int32) (lg2 : Nat → Nat → Int64), u = (sg2, gm2, lg2) ∧ CI sg2 gm2 ∧ KS [17, 18] sg sg2 ∧ KS [53] gm gm2 ∧ KS [] lg lg2 ∧ (iv 0 63 r) ∧ (SPF (gm2 53) (gm 41 (3 * b.toNatClampNeg + 0)).toNatClampNeg ∧ (gm 41 (3 * b.toNatClampNeg + 0)).toNatClampNeg ≤ 3) ∧ ((gm 7 r.toNatClampNeg).toInt = (gm 41 (3 * b.toNatClampNeg + 0)).toInt)) (fun E u => (E = "java/lang/UnsupportedOperationException") ∧ ∃ (sg2 : Nat → Int32) (gm2 : Nat → Nat → Int32) (lg2 : Nat → Nat → Int64), u = (sg2, gm2, lg2) ∧ CI sg2 gm2 ∧ KS [17, 18] sg sg2 ∧ KS [53] gm gm2 ∧ KS [] lg lg2) := by
  intro sz
  refine vx_ofW (cc := cX5_chooseFor) (maxL := 13) (ret := (some (.object "WiredBeans$Signature"))) (by decide) rfl ?_
  intro p e s m args below meth c s₁ B hml hxt hv
  obtain ⟨rfl, hsz, hP, hK, hD0, hG⟩ := hv
  have hx := B.exec
  have hb := B.bytes
  have hr := B.returns
  have hts := atoms_spec (ws := wm_X5_chooseFor) B.pre
  have htb := fun (w : Cond) (h : w ∈ tb) => hts w (List.mem_cons_of_mem _ h)
  have hown : s.vm.findClass RX5 = some m.cls := findClass_of_methodNamed B.named
  have hlocks := B.notSynchronized
  subst hsz
  have hD := hD0.self (sz := s.heap.size)
  generalize hAe : va_A (cW ad cid a2 lx sg gm lg) s.heap.size = A at hD hG ⊢
  have hA : ∀ q : Nat, s.heap.size ≤ q → A q := fun q h => by rw [← hAe]; exact Or.inr h
  have hS : va_S A s.heap s.heap [] := va_S.rf
  have hl := lv_entry ([eV (ad 6) x, eV (ad 10) b, .int fr, .int dp]) (n := 13) (by rw [show (lg_sl ([eV (ad 6) x, eV (ad 10) b, .int fr, .int dp])).length = 4 from by simp [lg_sl, eV_cat, cat_i, cat_l]]; exact Nat.le_of_ble_eq_true rfl)
  rw [lg_entry_eq]
  generalize (lg_sl ([eV (ad 6) x, eV (ad 10) b, .int fr, .int dp]) ++ List.replicate (13 - (lg_sl ([eV (ad 6) x, eV (ad 10) b, .int fr, .int dp])).length) Slot.unset).toArray = ls at hl ⊢
  have hl : lv_has ls 13 [(0, eV (ad 6) x), (1, eV (ad 10) b), (2, .int fr), (3, .int dp)] := by simp [lv_args, eV_cat, cat_i, cat_l] at hl; exact hl
  have hj209 : ∀ (gm_j209 : Nat → Nat → Int32) (x11_209 : Int32) (x10_209 : Int32) (x9_209 : Int32) (x8_209 : Int32) (x7_209 : Int32) (x6_209 : Int32) (x4_209 : Int32) (_ : iv 0 4 x11_209) (_ : iv 0 1 x10_209) (_ : iv 0 42 x9_209) (_ : iv (-1) 63 x8_209) (_ : iv 0 4 x7_209) (_ : iv 0 7 x6_209) (_ : iv 0 7 x4_209) (_ : iv 0 0 x) (_ : iv 0 79 b) (_ : iv (-1) 59 fr) (_ : iv 0 39 dp) (_ : KS [53] gm gm_j209) (_ : CI sg gm_j209) (_ : x10_209.toInt = 0 ∨ (SPF (gm_j209 53) (gm 41 (3 * b.toNatClampNeg + 0)).toNatClampNeg ∧ (gm 41 (3 * b.toNatClampNeg + 0)).toNatClampNeg ≤ 3)) (_ : 0 ≤ x8_209.toInt → (gm 7 x8_209.toNatClampNeg).toInt = (gm 41 (3 * b.toNatClampNeg + 0)).toInt ∧ ¬ x10_209.toInt = 0) (H : Heap) (locs : List Loc) (ls : Array Slot), va_P (dC, dI) vwCl (cW ad cid a2 lx sg gm_j209 lg) H → va_D A (cW ad cid a2 lx sg gm_j209 lg) → va_S A s.heap H locs → lv_has ls 13 [(11, .int x11_209), (10, .int x10_209), (9, .int x9_209), (8, eV (ad 8) x8_209), (7, .int x7_209), (6, eV (ad 28) x6_209), (5, .int 0), (4, eV (ad 7) x4_209), (0, eV (ad 6) x), (1, eV (ad 10) b), (2, .int fr), (3, .int dp)] → W p l e (headSpec wm_X5_chooseFor ({ frames := 14, cells := 1, slots := 6, locals := 400 })).room s m ([eV (ad 6) x, eV (ad 10) b, .int fr, .int dp] : List Value).toArray below meth c H locs 0 0 (vx_MQ below (cQx dC dI ad cid a2 lx (fun v u => ∃ r : Int32, v = some (eV (ad 8) r) ∧ ∃ (sg2 : Nat → Int32) (gm2 : Nat → Nat → Int32) (lg2 : Nat → Nat → Int64), u = (sg2, gm2, lg2) ∧ CI sg2 gm2 ∧ KS [17, 18] sg sg2 ∧ KS [53] gm gm2 ∧ KS [] lg lg2 ∧ (iv 0 63 r) ∧ (SPF (gm2 53) (gm 41 (3 * b.toNatClampNeg + 0)).toNatClampNeg ∧ (gm 41 (3 * b.toNatClampNeg + 0)).toNatClampNeg ≤ 3) ∧ ((gm 7 r.toNatClampNeg).toInt = (gm 41 (3 * b.toNatClampNeg + 0)).toInt)) A) (cX dC dI ad cid a2 lx (fun E u => (E = "java/lang/UnsupportedOperationException") ∧ ∃ (sg2 : Nat → Int32) (gm2 : Nat → Nat → Int32) (lg2 : Nat → Nat → Int64), u = (sg2, gm2, lg2) ∧ CI sg2 gm2 ∧ KS [17, 18] sg sg2 ∧ KS [53] gm gm2 ∧ KS [] lg lg2) A) ([eV (ad 6) x, eV (ad 10) b, .int fr, .int dp] : List Value).toArray s 1 6 A) (F0 m 209 ls []) := by
    intro gm_j209 x11_209 x10_209 x9_209 x8_209 x7_209 x6_209 x4_209 hx11_209 hx10_209 hx9_209 hx8_209 hx7_209 hx6_209 hx4_209 hsx0_209 hsx1_209 hsx2_209 hsx3_209 hkg_j209 hI_j209 hpl209 hb209 H locs ls hP hD hS hl
    refine ec_aload hx hb dX5_chooseFor_209 (lv_at hl 3 rfl) ?_
    refine ec_ifnonnull (tgt := 220) hx hb dX5_chooseFor_211 (by decide) (fun c_1 => ?_) (fun c_1 => ?_)
    · have h_2 : iv 0 63 x8_209 := ⟨c_1, (hx8_209).2⟩
      refine ec_aload hx hb dX5_chooseFor_220 (lv_at hl 3 rfl) ?_
      exact W.nb (fun hN => W.widen (k := 1) (n := 6) (by decide) (by decide) (vx_ret (W.aret (v := eV (ad 8) x8_209) hx hb hr (Or.inl ⟨_, rfl⟩) (eV_is _ _) (fun t ht hW => ⟨⟨some (eV (ad 8) x8_209), (sg, gm_j209, lg), rfl, ⟨x8_209, rfl, sg, gm_j209, lg, rfl, hI_j209, KS_rf, (KS_tr (L := [53]) KS_rf hkg_j209 (by decide)), KS_rf, h_2, (hpl209.resolve_left (hb209 (h_2).1).2), ((hb209 (h_2).1).1)⟩, by rw [ht]; exact hP, va_K.moved hW.alike hK, hD⟩, hS.F ht, by rw [ht]; exact hN⟩) hS.2.2 dX5_chooseFor_222)))
    · have h_3 : iv (-1) (-1) x8_209 := ⟨(hx8_209).1, by omega⟩
      refine ec_aload_n hx hb dX5_chooseFor_214 rfl (lv_at hl 8 rfl) ?_
      refine lv_iconst (v := 5) hx hb dX5_chooseFor_215 (by decide) ?_
      refine cm_callV (t := 6) (C := RX5) (T := TX5) (N := 13) (rest := []) (as := [.int 5]) ⟨hx, hb, hml, hown, htb⟩ (d_failWith l dC dI ad cid a2 lx sg gm_j209 lg hl9 x 5 hI_j209 hsx0_209 (iv_w (iv_k (by decide) : iv 5 5 5) (by decide))) (cwV 1 htb (gd_V kw_1018 kw_1019 kw_1020 kw_40 kw_1571) rfl rfl rfl (by decide +kernel) ⟨Nat.le_of_ble_eq_true rfl, Nat.le_of_ble_eq_true rfl⟩) hsx0_209 (by decide) (by decide) rfl rfl hl.1 rfl (Nat.le_trans cs_n (by decide)) dX5_chooseFor_216 ⟨Nat.le_of_ble_eq_true rfl, Nat.le_of_ble_eq_true rfl⟩ hK hP hD hS hA hG (fun E ce q9 u_5 H locs hw hP hD hS hce hcv hcl => ?_) (fun v9 u_5 H locs hw hP hD hS => ?_)
      · obtain ⟨hE, hw⟩ := hw
        obtain ⟨sgv_6, gmv_6, lgv_6, rfl, hIv_6, ksv_6, kgv_6, klv_6⟩ := hw
        obtain rfl := KS_nil kgv_6
        obtain rfl := KS_nil klv_6
        have hP : va_P (dC, dI) vwCl (cW ad cid a2 lx sgv_6 gm_j209 lg) H := hP
        have hD : va_D A (cW ad cid a2 lx sgv_6 gm_j209 lg) := hD
        exact vx_out (fun x hx9 => (hxt x hx9).elim) hlocks hce hcv hcl (fun t ht hal => ⟨⟨(sgv_6, gm_j209, lg), ⟨hE, sgv_6, gm_j209, lg, rfl, hIv_6, (KS_tr (L := [17, 18]) KS_rf ksv_6 (by decide)), (KS_tr (L := [53]) KS_rf hkg_j209 (by decide)), KS_rf⟩, by rw [ht]; exact hP, va_K.moved hal hK, hD⟩, hS.F ht⟩) hS.2.2 (Nat.le_of_ble_eq_true rfl) (Nat.le_of_ble_eq_true rfl)
      obtain ⟨r_4, rfl, sgv_7, gmv_7, lgv_7, rfl, hIv_7, ksv_7, kgv_7, klv_7, fF_r_4⟩ := hw
      obtain rfl := KS_nil kgv_7
      obtain rfl := KS_nil klv_7
      have hP : va_P (dC, dI) vwCl (cW ad cid a2 lx sgv_7 gm_j209 lg) H := hP
      have hD : va_D A (cW ad cid a2 lx sgv_7 gm_j209 lg) := hD
      exact fF_r_4.elim
  have hj128 : ∀ (n : Nat) (gm_j128 : Nat → Nat → Int32) (x11_128 : Int32) (x10_128 : Int32) (x9_128 : Int32) (x8_128 : Int32) (x7_128 : Int32) (x6_128 : Int32) (x4_128 : Int32) (_ : (4 - x11_128.toInt).toNat = n) (_ : iv 0 4 x11_128) (_ : iv 0 1 x10_128) (_ : iv 0 42 x9_128) (_ : iv (-1) 63 x8_128) (_ : iv 0 4 x7_128) (_ : iv 0 7 x6_128) (_ : iv 0 7 x4_128) (_ : iv 0 0 x) (_ : iv 0 79 b) (_ : iv (-1) 59 fr) (_ : iv 0 39 dp) (_ : KS [53] gm gm_j128) (_ : CI sg gm_j128) (_ : x10_128.toInt = 0 ∨ (SPF (gm_j128 53) (gm 41 (3 * b.toNatClampNeg + 0)).toNatClampNeg ∧ (gm 41 (3 * b.toNatClampNeg + 0)).toNatClampNeg ≤ 3)) (_ : 0 ≤ x8_128.toInt → (gm 7 x8_128.toNatClampNeg).toInt = (gm 41 (3 * b.toNatClampNeg + 0)).toInt ∧ ¬ x10_128.toInt = 0) (_ : 0 < x7_128.toInt → 0 ≤ x6_128.toInt) (H : Heap) (locs : List Loc) (ls : Array Slot), va_P (dC, dI) vwCl (cW ad cid a2 lx sg gm_j128 lg) H → va_D A (cW ad cid a2 lx sg gm_j128 lg) → va_S A s.heap H locs → lv_has ls 13 [(11, .int x11_128), (10, .int x10_128), (9, .int x9_128), (8, eV (ad 8) x8_128), (7, .int x7_128), (6, eV (ad 28) x6_128), (5, .int 0), (4, eV (ad 7) x4_128), (0, eV (ad 6) x), (1, eV (ad 10) b), (2, .int fr), (3, .int dp)] → W p l e (headSpec wm_X5_chooseFor ({ frames := 14, cells := 1, slots := 6, locals := 400 })).room s m ([eV (ad 6) x, eV (ad 10) b, .int fr, .int dp] : List Value).toArray below meth c H locs 0 0 (vx_MQ below (cQx dC dI ad cid a2 lx (fun v u => ∃ r : Int32, v = some (eV (ad 8) r) ∧ ∃ (sg2 : Nat → Int32) (gm2 : Nat → Nat → Int32) (lg2 : Nat → Nat → Int64), u = (sg2, gm2, lg2) ∧ CI sg2 gm2 ∧ KS [17, 18] sg sg2 ∧ KS [53] gm gm2 ∧ KS [] lg lg2 ∧ (iv 0 63 r) ∧ (SPF (gm2 53) (gm 41 (3 * b.toNatClampNeg + 0)).toNatClampNeg ∧ (gm 41 (3 * b.toNatClampNeg + 0)).toNatClampNeg ≤ 3) ∧ ((gm 7 r.toNatClampNeg).toInt = (gm 41 (3 * b.toNatClampNeg + 0)).toInt)) A) (cX dC dI ad cid a2 lx (fun E u => (E = "java/lang/UnsupportedOperationException") ∧ ∃ (sg2 : Nat → Int32) (gm2 : Nat → Nat → Int32) (lg2 : Nat → Nat → Int64), u = (sg2, gm2, lg2) ∧ CI sg2 gm2 ∧ KS [17, 18] sg sg2 ∧ KS [53] gm gm2 ∧ KS [] lg lg2) A) ([eV (ad 6) x, eV (ad 10) b, .int fr, .int dp] : List Value).toArray s 1 6 A) (F0 m 128 ls []) := by
    intro n
    induction n using Nat.strongRecOn with
    | ind n ih128 =>
      intro gm_j128 x11_128 x10_128 x9_128 x8_128 x7_128 x6_128 x4_128 hn128 hx11_128 hx10_128 hx9_128 hx8_128 hx7_128 hx6_128 hx4_128 hsx0_128 hsx1_128 hsx2_128 hsx3_128 hkg_j128 hI_j128 hpl128 hb128 h6p H locs ls hP hD hS hl
      have hj203 : ∀ (gm_j203 : Nat → Nat → Int32) (x12_203 : Int32) (x9_203 : Int32) (x8_203 : Int32) (_ : iv (-1) 42 x12_203) (_ : iv 0 3 x11_128) (_ : iv 1 1 x10_128) (_ : iv 0 42 x9_203) (_ : iv (-1) 63 x8_203) (_ : iv 1 4 x7_128) (_ : iv 0 7 x6_128) (_ : iv 0 7 x4_128) (_ : iv 0 0 x) (_ : iv 0 79 b) (_ : iv (-1) 59 fr) (_ : iv 0 39 dp) (_ : KS [53] gm gm_j203) (_ : CI sg gm_j203) (_ : x10_128.toInt = 0 ∨ (SPF (gm_j203 53) (gm 41 (3 * b.toNatClampNeg + 0)).toNatClampNeg ∧ (gm 41 (3 * b.toNatClampNeg + 0)).toNatClampNeg ≤ 3)) (_ : 0 ≤ x8_203.toInt → (gm 7 x8_203.toNatClampNeg).toInt = (gm 41 (3 * b.toNatClampNeg + 0)).toInt ∧ ¬ x10_128.toInt = 0) (H : Heap) (locs : List Loc) (ls : Array Slot), va_P (dC, dI) vwCl (cW ad cid a2 lx sg gm_j203 lg) H → va_D A (cW ad cid a2 lx sg gm_j203 lg) → va_S A s.heap H locs → lv_has ls 13 [(12, .int x12_203), (11, .int x11_128), (10, .int x10_128), (9, .int x9_203), (8, eV (ad 8) x8_203), (7, .int x7_128), (6, eV (ad 28) x6_128), (5, .int 0), (4, eV (ad 7) x4_128), (0, eV (ad 6) x), (1, eV (ad 10) b), (2, .int fr), (3, .int dp)] → W p l e (headSpec wm_X5_chooseFor ({ frames := 14, cells := 1, slots := 6, locals := 400 })).room s m ([eV (ad 6) x, eV (ad 10) b, .int fr, .int dp] : List Value).toArray below meth c H locs 0 0 (vx_MQ below (cQx dC dI ad cid a2 lx (fun v u => ∃ r : Int32, v = some (eV (ad 8) r) ∧ ∃ (sg2 : Nat → Int32) (gm2 : Nat → Nat → Int32) (lg2 : Nat → Nat → Int64), u = (sg2, gm2, lg2) ∧ CI sg2 gm2 ∧ KS [17, 18] sg sg2 ∧ KS [53] gm gm2 ∧ KS [] lg lg2 ∧ (iv 0 63 r) ∧ (SPF (gm2 53) (gm 41 (3 * b.toNatClampNeg + 0)).toNatClampNeg ∧ (gm 41 (3 * b.toNatClampNeg + 0)).toNatClampNeg ≤ 3) ∧ ((gm 7 r.toNatClampNeg).toInt = (gm 41 (3 * b.toNatClampNeg + 0)).toInt)) A) (cX dC dI ad cid a2 lx (fun E u => (E = "java/lang/UnsupportedOperationException") ∧ ∃ (sg2 : Nat → Int32) (gm2 : Nat → Nat → Int32) (lg2 : Nat → Nat → Int64), u = (sg2, gm2, lg2) ∧ CI sg2 gm2 ∧ KS [17, 18] sg sg2 ∧ KS [53] gm gm2 ∧ KS [] lg lg2) A) ([eV (ad 6) x, eV (ad 10) b, .int fr, .int dp] : List Value).toArray s 1 6 A) (F0 m 203 ls []) := by
        intro gm_j203 x12_203 x9_203 x8_203 hx12_203 hsx11_203 hsx10_203 hx9_203 hx8_203 hsx7_203 hsx6_203 hsx4_203 hsx0_203 hsx1_203 hsx2_203 hsx3_203 hkg_j203 hI_j203 hpl203 hb203 H locs ls hP hD hS hl
        obtain ⟨z_8, ez_8⟩ : ∃ z : Int32, z = x11_128 + 1 := ⟨_, rfl⟩
        have hz_8 : iv 1 4 z_8 := iv_of ez_8 (iv_add hsx11_203 (iv_k (by decide) : iv 1 1 1) (by decide))
        have tz_8 : z_8.toInt = x11_128.toInt + 1 := by rw [ez_8]; exact iv_addE hsx11_203 (iv_k (by decide) : iv 1 1 1) (by decide)
        refine lv_iinc (v := z_8) (lv' := [(11, .int z_8), (12, .int x12_203), (10, .int x10_128), (9, .int x9_203), (8, eV (ad 8) x8_203), (7, .int x7_128), (6, eV (ad 28) x6_128), (5, .int 0), (4, eV (ad 7) x4_128), (0, eV (ad 6) x), (1, eV (ad 10) b), (2, .int fr), (3, .int dp)]) hx hb dX5_chooseFor_203 hl (k := 1) rfl ez_8.symm (by decide) rfl (fun ls hl => ?_)
        refine lv_goto (tgt := 128) hx hb dX5_chooseFor_206 (by decide) ?_
        exact ih128 _ (by rw [← hn128]; exact (iv_meas tz_8 hsx11_203 (by decide))) gm_j203 z_8 x10_128 x9_203 x8_203 x7_128 x6_128 x4_128 rfl (iv_w hz_8 (by decide)) (iv_w hsx10_203 (by decide)) hx9_203 hx8_203 (iv_w hsx7_203 (by decide)) hsx6_203 hsx4_203 hsx0_203 hsx1_203 hsx2_203 hsx3_203 (KS_tr (L := [53]) KS_rf hkg_j203 (by decide)) hI_j203 (hpl203) (hb203) (h6p) _ _ _ hP hD hS (lv_sub hl [0, 2, 3, 4, 5, 6, 7, 8, 9, 10, 11, 12] rfl)
      refine lv_iload hx hb dX5_chooseFor_128 (lv_at hl 1 rfl) ?_
      refine lv_if_eq (tgt := 209) hx hb dX5_chooseFor_130 (by decide) (fun c_9 => ?_) (fun c_9 => ?_)
      · have h_10 : iv 0 0 x10_128 := iv_eq c_9 hx10_128 (iv_k (by decide) : iv 0 0 0) (by decide)
        exact hj209 gm_j128 x11_128 x10_128 x9_128 x8_128 x7_128 x6_128 x4_128 hx11_128 (iv_w h_10 (by decide)) hx9_128 hx8_128 hx7_128 hx6_128 hx4_128 hsx0_128 hsx1_128 hsx2_128 hsx3_128 (KS_tr (L := [53]) KS_rf hkg_j128 (by decide)) hI_j128 (hpl128) (hb128) _ _ _ hP hD hS (lv_sub hl [0, 1, 2, 3, 4, 5, 6, 7, 8, 9, 10, 11] rfl)
      · have h_11 : iv 1 1 x10_128 := iv_neL c_9 hx10_128 (by decide)
        refine lv_iload hx hb dX5_chooseFor_133 (lv_at hl 0 rfl) ?_
        refine lv_iload hx hb dX5_chooseFor_135 (lv_at hl 4 rfl) ?_
        refine lv_icmp_ge (tgt := 209) hx hb dX5_chooseFor_137 (by decide) (fun c_12 => ?_) (fun c_12 => ?_)
        · have d_13 : (x7_128 : Int32).toInt ≤ (x11_128 : Int32).toInt := Int32.le_iff_toInt_le.mp c_12
          exact hj209 gm_j128 x11_128 x10_128 x9_128 x8_128 x7_128 x6_128 x4_128 hx11_128 (iv_w h_11 (by decide)) hx9_128 hx8_128 hx7_128 hx6_128 hx4_128 hsx0_128 hsx1_128 hsx2_128 hsx3_128 (KS_tr (L := [53]) KS_rf hkg_j128 (by decide)) hI_j128 (hpl128) (hb128) _ _ _ hP hD hS (lv_sub hl [0, 1, 2, 3, 4, 5, 6, 7, 8, 9, 10, 11] rfl)
        · have d_14 : (x11_128 : Int32).toInt < (x7_128 : Int32).toInt := Int32.lt_iff_toInt_lt.mp (i32_lt c_12)
          have h_15 : iv 0 3 x11_128 := iv_ltL (i32_lt c_12) hx11_128 hx7_128 (by decide)
          have h_16 : iv 1 4 x7_128 := iv_ltR (i32_lt c_12) hx11_128 hx7_128 (by decide)
          have hpl9 := hpl128.resolve_left (by have := i32_0; have := i32_1; have := i32_2; have := i32_m1; have := (hsx0_128).1; have := (hsx0_128).2; have := (hsx1_128).1; have := (hsx1_128).2; have := (hsx2_128).1; have := (hsx2_128).2; have := (hsx3_128).1; have := (hsx3_128).2; have := (h_15).1; have := (h_15).2; have := (h_11).1; have := (h_11).2; have := (hx9_128).1; have := (hx9_128).2; have := (hx8_128).1; have := (hx8_128).2; have := (h_16).1; have := (h_16).2; have := (hx6_128).1; have := (hx6_128).2; have := (hx4_128).1; have := (hx4_128).2; omega)
          refine ec_aload hx hb dX5_chooseFor_140 (lv_at hl 5 rfl) ?_
          refine lv_iload hx hb dX5_chooseFor_142 (lv_at hl 0 rfl) ?_
          obtain ⟨q_18, hq_18, nq_18, tq_18⟩ := ix_mk (8 * x6_128.toNatClampNeg + 0 + (x11_128 : Int32).toNatClampNeg) 63 (by have q1 := iv_cl hx6_128 (by decide); have q2 := (hx6_128).2; have q3 := iv_cl h_15 (by decide); have q4 := (h_15).2; omega) (by decide)
          refine cr_aald (t := 28) (C := RX8) (v := eV (ad 8) q_18) hx hb hK hP hx6_128 (by decide) (by decide) (by decide) (by decide) (by decide) rfl (show vp_in x11_128 (cLen 28) from (show vp_in x11_128 4 from (iv_in h_15 (by decide)))) (cAr_c (by decide) hq_18.1 nq_18) dX5_chooseFor_144 ?_
          refine ec_aload_n hx hb dX5_chooseFor_145 rfl (lv_at hl 9 rfl) ?_
          refine cr_get (t := 10) (j := 10) (C := RX1) (T := TX1) (N := 19) (v := .int (gm_j128 31 b.toNatClampNeg)) hx hb htb inX1 hown hK hP hsx1_128 (by decide) (by decide) (by decide) rfl (by decide) (htb _ kw_1087) rfl dX5_chooseFor_146 ?_
          obtain ⟨z_19, ez_19⟩ : ∃ z : Int32, z = (gm_j128 31 b.toNatClampNeg) := ⟨_, rfl⟩
          refine W.eq (g2 := F0 m 149 ls [.int z_19, eV (ad 8) q_18]) (by rw [ez_19]) ?_
          have hz_19 : iv (-1) 25 z_19 := iv_of ez_19 (CI_a hI_j128 31 hsx1_128 (by decide))
          have ez_19 := ez_19.trans (congrFun (hkg_j128 31 (by decide)) _)
          refine lv_iload hx hb dX5_chooseFor_149 (lv_at hl 6 rfl) ?_
          refine cm_callV (t := 8) (C := RX8) (T := TX8) (N := 7) (rest := []) (as := [.int z_19, .int 0]) ⟨hx, hb, hml, hown, htb⟩ (d_isCalled l dC dI ad cid a2 lx sg gm_j128 lg q_18 z_19 0 hI_j128 hq_18 (iv_w (iv_k (by decide) : iv 0 0 0) (by decide))) (cwV 2 htb (gd_V kw_1109 kw_1099 kw_1100 kw_51 kw_1588) rfl rfl rfl (by decide +kernel) ⟨Nat.le_of_ble_eq_true rfl, Nat.le_of_ble_eq_true rfl⟩) hq_18 (by decide) (by decide) rfl rfl hl.1 rfl (Nat.le_trans cs_n (by decide)) dX5_chooseFor_151 ⟨Nat.le_of_ble_eq_true rfl, Nat.le_of_ble_eq_true rfl⟩ hK hP hD hS hA hG (fun E ce q9 u_21 H locs hw hP hD hS hce hcv hcl => ?_) (fun v9 u_21 H locs hw hP hD hS => ?_)
          · exact hw.elim
          obtain ⟨r_20, rfl, rfl, hr_20⟩ := hw
          have hP : va_P (dC, dI) vwCl (cW ad cid a2 lx sg gm_j128 lg) H := hP
          have hD : va_D A (cW ad cid a2 lx sg gm_j128 lg) := hD
          refine W.eq (g2 := F0 m 154 ls [.int r_20]) rfl ?_
          refine lv_if_eq (tgt := 171) hx hb dX5_chooseFor_154 (by decide) (fun c_23 => ?_) (fun c_23 => ?_)
          · have h_24 : iv 0 0 r_20 := iv_eq c_23 hr_20 (iv_k (by decide) : iv 0 0 0) (by decide)
            refine lv_iconst (v := (-1)) hx hb dX5_chooseFor_171 (by decide) ?_
            refine lv_istore (i := 12) (lv' := [(12, .int (-1)), (11, .int x11_128), (10, .int x10_128), (9, .int x9_128), (8, eV (ad 8) x8_128), (7, .int x7_128), (6, eV (ad 28) x6_128), (5, .int 0), (4, eV (ad 7) x4_128), (0, eV (ad 6) x), (1, eV (ad 10) b), (2, .int fr), (3, .int dp)]) hx hb dX5_chooseFor_172 hl (by decide) rfl (fun ls hl => ?_)
            refine lv_iload hx hb dX5_chooseFor_174 (lv_at hl 0 rfl) ?_
            refine lv_iconst (v := (-1)) hx hb dX5_chooseFor_176 (by decide) ?_
            refine lv_icmp_eq (tgt := 203) hx hb dX5_chooseFor_177 (by decide) (fun _ => ?_) (fun c_25 => absurd (by decide) c_25)
            exact hj203 gm_j128 (-1) x9_128 x8_128 (iv_w (iv_k (by decide) : iv (-1) (-1) (-1)) (by decide)) h_15 h_11 hx9_128 hx8_128 h_16 hx6_128 hx4_128 hsx0_128 hsx1_128 hsx2_128 hsx3_128 (KS_tr (L := [53]) KS_rf hkg_j128 (by decide)) hI_j128 (hpl128) (hb128) _ _ _ hP hD hS (lv_sub hl [0, 1, 2, 3, 4, 5, 6, 7, 8, 9, 10, 11, 12] rfl)
          · have h_26 : iv 1 1 r_20 := iv_neL c_23 hr_20 (by decide)
            refine ec_aload_n hx hb dX5_chooseFor_157 rfl (lv_at hl 8 rfl) ?_
            refine ec_aload_n hx hb dX5_chooseFor_158 rfl (lv_at hl 9 rfl) ?_
            refine ec_aload hx hb dX5_chooseFor_159 (lv_at hl 5 rfl) ?_
            refine lv_iload hx hb dX5_chooseFor_161 (lv_at hl 0 rfl) ?_
            refine cr_aald (t := 28) (C := RX8) (v := eV (ad 8) q_18) hx hb hK hP hx6_128 (by decide) (by decide) (by decide) (by decide) (by decide) rfl (show vp_in x11_128 (cLen 28) from (show vp_in x11_128 4 from (iv_in h_15 (by decide)))) (cAr_c (by decide) hq_18.1 nq_18) dX5_chooseFor_163 ?_
            refine lv_iload_n hx hb dX5_chooseFor_164 rfl (lv_at hl 11 rfl) ?_
            refine cm_callV (t := 6) (C := RX5) (T := TX5) (N := 13) (rest := []) (as := [eV (ad 10) b, eV (ad 8) q_18, .int dp]) ⟨hx, hb, hml, hown, htb⟩ (d_sumFor l dC dI ad cid a2 lx sg gm_j128 lg x b q_18 dp hI_j128 hsx0_128 hsx1_128 hq_18 hsx3_128 (LDI_e hLD (hkg_j128 41 (by decide)) (hkg_j128 42 (by decide)) (hkg_j128 57 (by decide))) (WRD_e hW rfl rfl (hkg_j128 14 (by decide)) (hkg_j128 15 (by decide)) (hkg_j128 16 (by decide)) (hkg_j128 17 (by decide)) (hkg_j128 19 (by decide)) (hkg_j128 20 (by decide)) (hkg_j128 22 (by decide)) (hkg_j128 25 (by decide)) (hkg_j128 26 (by decide)) (hkg_j128 27 (by decide)) (hkg_j128 29 (by decide)) (hkg_j128 41 (by decide)) (hkg_j128 44 (by decide)) (hkg_j128 45 (by decide)) (hkg_j128 46 (by decide)) (hkg_j128 57 (by decide)) rfl rfl) (by rw [show sg 12 = sg 12 from rfl]; exact hb12) (WKD_e hWK (hkg_j128 25 (by decide)) (hkg_j128 26 (by decide)) (hkg_j128 41 (by decide)) (hkg_j128 52 (by decide)) (hkg_j128 57 (by decide))) (by rw [show gm_j128 41 = gm 41 from (hkg_j128 41 (by decide))]; exact hpl9.1) (by rw [show gm_j128 41 = gm 41 from (hkg_j128 41 (by decide))]; exact hpl9.2)) (cwV 3 htb (gd_V kw_1110 kw_1111 kw_1112 kw_40 kw_1591) rfl rfl rfl (by decide +kernel) ⟨Nat.le_of_ble_eq_true rfl, Nat.le_of_ble_eq_true rfl⟩) hsx0_128 (by decide) (by decide) rfl rfl hl.1 rfl (Nat.le_trans cs_n (by decide)) dX5_chooseFor_165 ⟨Nat.le_of_ble_eq_true rfl, Nat.le_of_ble_eq_true rfl⟩ hK hP hD hS hA hG (fun E ce q9 u_28 H locs hw hP hD hS hce hcv hcl => ?_) (fun v9 u_28 H locs hw hP hD hS => ?_)
            · exact hw.elim
            obtain ⟨r_27, rfl, rfl, hr_27, fN_r_27⟩ := hw
            have hP : va_P (dC, dI) vwCl (cW ad cid a2 lx sg gm_j128 lg) H := hP
            have hD : va_D A (cW ad cid a2 lx sg gm_j128 lg) := hD
            refine W.eq (g2 := F0 m 168 ls [.int r_27]) rfl ?_
            refine lv_goto (tgt := 172) hx hb dX5_chooseFor_168 (by decide) ?_
            refine lv_istore (i := 12) (lv' := [(12, .int r_27), (11, .int x11_128), (10, .int x10_128), (9, .int x9_128), (8, eV (ad 8) x8_128), (7, .int x7_128), (6, eV (ad 28) x6_128), (5, .int 0), (4, eV (ad 7) x4_128), (0, eV (ad 6) x), (1, eV (ad 10) b), (2, .int fr), (3, .int dp)]) hx hb dX5_chooseFor_172 hl (by decide) rfl (fun ls hl => ?_)
            refine lv_iload hx hb dX5_chooseFor_174 (lv_at hl 0 rfl) ?_
            refine lv_iconst (v := (-1)) hx hb dX5_chooseFor_176 (by decide) ?_
            refine lv_icmp_eq (tgt := 203) hx hb dX5_chooseFor_177 (by decide) (fun c_30 => ?_) (fun c_30 => ?_)
            · have h_31 : iv (-1) (-1) r_27 := iv_eq c_30 hr_27 (iv_k (by decide) : iv (-1) (-1) (-1)) (by decide)
              exact hj203 gm_j128 r_27 x9_128 x8_128 (iv_w h_31 (by decide)) h_15 h_11 hx9_128 hx8_128 h_16 hx6_128 hx4_128 hsx0_128 hsx1_128 hsx2_128 hsx3_128 (KS_tr (L := [53]) KS_rf hkg_j128 (by decide)) hI_j128 (hpl128) (hb128) _ _ _ hP hD hS (lv_sub hl [0, 1, 2, 3, 4, 5, 6, 7, 8, 9, 10, 11, 12] rfl)
            · have h_32 : iv 0 42 r_27 := iv_neL c_30 hr_27 (by decide)
              refine ec_aload hx hb dX5_chooseFor_180 (lv_at hl 4 rfl) ?_
              refine ec_ifnull (tgt := 192) hx hb dX5_chooseFor_182 (by decide) (fun c_33 => ?_) (fun c_33 => ?_)
              · have h_34 : iv (-1) (-1) x8_128 := ⟨(hx8_128).1, by omega⟩
                refine ec_aload hx hb dX5_chooseFor_192 (lv_at hl 6 rfl) ?_
                refine lv_iload hx hb dX5_chooseFor_194 (lv_at hl 1 rfl) ?_
                refine cr_aald (t := 28) (C := RX8) (v := eV (ad 8) q_18) hx hb hK hP hx6_128 (by decide) (by decide) (by decide) (by decide) (by decide) rfl (show vp_in x11_128 (cLen 28) from (show vp_in x11_128 4 from (iv_in h_15 (by decide)))) (cAr_c (by decide) hq_18.1 nq_18) dX5_chooseFor_196 ?_
                refine ec_astore (i := 8) (lv' := [(8, eV (ad 8) q_18), (12, .int r_27), (11, .int x11_128), (10, .int x10_128), (9, .int x9_128), (7, .int x7_128), (6, eV (ad 28) x6_128), (5, .int 0), (4, eV (ad 7) x4_128), (0, eV (ad 6) x), (1, eV (ad 10) b), (2, .int fr), (3, .int dp)]) hx hb dX5_chooseFor_197 hl (by decide) rfl (fun ls hl => ?_)
                refine lv_iload hx hb dX5_chooseFor_199 (lv_at hl 1 rfl) ?_
                refine lv_istore (i := 9) (lv' := [(9, .int r_27), (8, eV (ad 8) q_18), (12, .int r_27), (11, .int x11_128), (10, .int x10_128), (7, .int x7_128), (6, eV (ad 28) x6_128), (5, .int 0), (4, eV (ad 7) x4_128), (0, eV (ad 6) x), (1, eV (ad 10) b), (2, .int fr), (3, .int dp)]) hx hb dX5_chooseFor_201 hl (by decide) (by simp [List.filter, eV_cat, cat_i, cat_l]) (fun ls hl => ?_)
                exact hj203 gm_j128 r_27 r_27 q_18 (iv_w h_32 (by decide)) h_15 h_11 h_32 (iv_w hq_18 (by decide)) h_16 hx6_128 hx4_128 hsx0_128 hsx1_128 hsx2_128 hsx3_128 (KS_tr (L := [53]) KS_rf hkg_j128 (by decide)) hI_j128 (hpl128) (fun _ => ⟨by have q1 := fN_r_27.resolve_left (by have := i32_0; have := i32_1; have := i32_2; have := i32_m1; have := (hsx0_128).1; have := (hsx0_128).2; have := (hsx1_128).1; have := (hsx1_128).2; have := (hsx2_128).1; have := (hsx2_128).2; have := (hsx3_128).1; have := (hsx3_128).2; have := (h_15).1; have := (h_15).2; have := (h_11).1; have := (h_11).2; have := (hx9_128).1; have := (hx9_128).2; have := (h_34).1; have := (h_34).2; have := (h_16).1; have := (h_16).2; have := (hx6_128).1; have := (hx6_128).2; have := (hx4_128).1; have := (hx4_128).2; have := (hq_18).1; have := (hq_18).2; have := (hz_19).1; have := (hz_19).2; have := (h_26).1; have := (h_26).2; have := (h_32).1; have := (h_32).2; omega); rw [show q_18.toNatClampNeg = q_18.toNatClampNeg from (nq_18.trans nq_18.symm)]; rw [show gm_j128 7 = gm 7 from (hkg_j128 7 (by decide)), show gm_j128 41 = gm 41 from (hkg_j128 41 (by decide))] at q1; exact q1, by have := i32_0; have := i32_1; have := i32_2; have := i32_m1; have := (hsx0_128).1; have := (hsx0_128).2; have := (hsx1_128).1; have := (hsx1_128).2; have := (hsx2_128).1; have := (hsx2_128).2; have := (hsx3_128).1; have := (hsx3_128).2; have := (h_15).1; have := (h_15).2; have := (h_11).1; have := (h_11).2; have := (hx9_128).1; have := (hx9_128).2; have := (h_34).1; have := (h_34).2; have := (h_16).1; have := (h_16).2; have := (hx6_128).1; have := (hx6_128).2; have := (hx4_128).1; have := (hx4_128).2; have := (hq_18).1; have := (hq_18).2; have := (hz_19).1; have := (hz_19).2; have := (h_26).1; have := (h_26).2; have := (h_32).1; have := (h_32).2; omega⟩) _ _ _ hP hD hS (lv_sub hl [2, 3, 4, 0, 1, 5, 6, 7, 8, 9, 10, 11, 12] rfl)
              · have h_35 : iv 0 63 x8_128 := ⟨c_33, (hx8_128).2⟩
                refine lv_iload hx hb dX5_chooseFor_185 (lv_at hl 0 rfl) ?_
                refine lv_iload hx hb dX5_chooseFor_187 (lv_at hl 3 rfl) ?_
                refine lv_icmp_ge (tgt := 203) hx hb dX5_chooseFor_189 (by decide) (fun c_36 => ?_) (fun c_36 => ?_)
                · have d_37 : (x9_128 : Int32).toInt ≤ (r_27 : Int32).toInt := Int32.le_iff_toInt_le.mp c_36
                  exact hj203 gm_j128 r_27 x9_128 x8_128 (iv_w h_32 (by decide)) h_15 h_11 hx9_128 (iv_w h_35 (by decide)) h_16 hx6_128 hx4_128 hsx0_128 hsx1_128 hsx2_128 hsx3_128 (KS_tr (L := [53]) KS_rf hkg_j128 (by decide)) hI_j128 (hpl128) (hb128) _ _ _ hP hD hS (lv_sub hl [0, 1, 2, 3, 4, 5, 6, 7, 8, 9, 10, 11, 12] rfl)
                · have d_38 : (r_27 : Int32).toInt < (x9_128 : Int32).toInt := Int32.lt_iff_toInt_lt.mp (i32_lt c_36)
                  have h_39 : iv 0 41 r_27 := iv_ltL (i32_lt c_36) h_32 hx9_128 (by decide)
                  have h_40 : iv 1 42 x9_128 := iv_ltR (i32_lt c_36) h_32 hx9_128 (by decide)
                  refine ec_aload hx hb dX5_chooseFor_192 (lv_at hl 6 rfl) ?_
                  refine lv_iload hx hb dX5_chooseFor_194 (lv_at hl 1 rfl) ?_
                  refine cr_aald (t := 28) (C := RX8) (v := eV (ad 8) q_18) hx hb hK hP hx6_128 (by decide) (by decide) (by decide) (by decide) (by decide) rfl (show vp_in x11_128 (cLen 28) from (show vp_in x11_128 4 from (iv_in h_15 (by decide)))) (cAr_c (by decide) hq_18.1 nq_18) dX5_chooseFor_196 ?_
                  refine ec_astore (i := 8) (lv' := [(8, eV (ad 8) q_18), (12, .int r_27), (11, .int x11_128), (10, .int x10_128), (9, .int x9_128), (7, .int x7_128), (6, eV (ad 28) x6_128), (5, .int 0), (4, eV (ad 7) x4_128), (0, eV (ad 6) x), (1, eV (ad 10) b), (2, .int fr), (3, .int dp)]) hx hb dX5_chooseFor_197 hl (by decide) rfl (fun ls hl => ?_)
                  refine lv_iload hx hb dX5_chooseFor_199 (lv_at hl 1 rfl) ?_
                  refine lv_istore (i := 9) (lv' := [(9, .int r_27), (8, eV (ad 8) q_18), (12, .int r_27), (11, .int x11_128), (10, .int x10_128), (7, .int x7_128), (6, eV (ad 28) x6_128), (5, .int 0), (4, eV (ad 7) x4_128), (0, eV (ad 6) x), (1, eV (ad 10) b), (2, .int fr), (3, .int dp)]) hx hb dX5_chooseFor_201 hl (by decide) (by simp [List.filter, eV_cat, cat_i, cat_l]) (fun ls hl => ?_)
                  exact hj203 gm_j128 r_27 r_27 q_18 (iv_w h_39 (by decide)) h_15 h_11 (iv_w h_39 (by decide)) (iv_w hq_18 (by decide)) h_16 hx6_128 hx4_128 hsx0_128 hsx1_128 hsx2_128 hsx3_128 (KS_tr (L := [53]) KS_rf hkg_j128 (by decide)) hI_j128 (hpl128) (fun _ => ⟨by have q1 := fN_r_27.resolve_left (by have := i32_0; have := i32_1; have := i32_2; have := i32_m1; have := (hsx0_128).1; have := (hsx0_128).2; have := (hsx1_128).1; have := (hsx1_128).2; have := (hsx2_128).1; have := (hsx2_128).2; have := (hsx3_128).1; have := (hsx3_128).2; have := (h_15).1; have := (h_15).2; have := (h_11).1; have := (h_11).2; have := (h_40).1; have := (h_40).2; have := (h_35).1; have := (h_35).2; have := (h_16).1; have := (h_16).2; have := (hx6_128).1; have := (hx6_128).2; have := (hx4_128).1; have := (hx4_128).2; have := (hq_18).1; have := (hq_18).2; have := (hz_19).1; have := (hz_19).2; have := (h_26).1; have := (h_26).2; have := (h_39).1; have := (h_39).2; omega); rw [show q_18.toNatClampNeg = q_18.toNatClampNeg from (nq_18.trans nq_18.symm)]; rw [show gm_j128 7 = gm 7 from (hkg_j128 7 (by decide)), show gm_j128 41 = gm 41 from (hkg_j128 41 (by decide))] at q1; exact q1, by have := i32_0; have := i32_1; have := i32_2; have := i32_m1; have := (hsx0_128).1; have := (hsx0_128).2; have := (hsx1_128).1; have := (hsx1_128).2; have := (hsx2_128).1; have := (hsx2_128).2; have := (hsx3_128).1; have := (hsx3_128).2; have := (h_15).1; have := (h_15).2; have := (h_11).1; have := (h_11).2; have := (h_40).1; have := (h_40).2; have := (h_35).1; have := (h_35).2; have := (h_16).1; have := (h_16).2; have := (hx6_128).1; have := (hx6_128).2; have := (hx4_128).1; have := (hx4_128).2; have := (hq_18).1; have := (hq_18).2; have := (hz_19).1; have := (hz_19).2; have := (h_26).1; have := (h_26).2; have := (h_39).1; have := (h_39).2; omega⟩) _ _ _ hP hD hS (lv_sub hl [2, 3, 4, 0, 1, 5, 6, 7, 8, 9, 10, 11, 12] rfl)
  have hj43 : ∀ (x4_43 : Int32) (_ : iv 0 7 x4_43) (_ : iv 0 0 x) (_ : iv 0 79 b) (_ : iv (-1) 59 fr) (_ : iv 0 39 dp) (H : Heap) (locs : List Loc) (ls : Array Slot), va_P (dC, dI) vwCl (cW ad cid a2 lx sg gm lg) H → va_D A (cW ad cid a2 lx sg gm lg) → va_S A s.heap H locs → lv_has ls 13 [(4, eV (ad 7) x4_43), (0, eV (ad 6) x), (1, eV (ad 10) b), (2, .int fr), (3, .int dp)] → W p l e (headSpec wm_X5_chooseFor ({ frames := 14, cells := 1, slots := 6, locals := 400 })).room s m ([eV (ad 6) x, eV (ad 10) b, .int fr, .int dp] : List Value).toArray below meth c H locs 0 0 (vx_MQ below (cQx dC dI ad cid a2 lx (fun v u => ∃ r : Int32, v = some (eV (ad 8) r) ∧ ∃ (sg2 : Nat → Int32) (gm2 : Nat → Nat → Int32) (lg2 : Nat → Nat → Int64), u = (sg2, gm2, lg2) ∧ CI sg2 gm2 ∧ KS [17, 18] sg sg2 ∧ KS [53] gm gm2 ∧ KS [] lg lg2 ∧ (iv 0 63 r) ∧ (SPF (gm2 53) (gm 41 (3 * b.toNatClampNeg + 0)).toNatClampNeg ∧ (gm 41 (3 * b.toNatClampNeg + 0)).toNatClampNeg ≤ 3) ∧ ((gm 7 r.toNatClampNeg).toInt = (gm 41 (3 * b.toNatClampNeg + 0)).toInt)) A) (cX dC dI ad cid a2 lx (fun E u => (E = "java/lang/UnsupportedOperationException") ∧ ∃ (sg2 : Nat → Int32) (gm2 : Nat → Nat → Int32) (lg2 : Nat → Nat → Int64), u = (sg2, gm2, lg2) ∧ CI sg2 gm2 ∧ KS [17, 18] sg sg2 ∧ KS [53] gm gm2 ∧ KS [] lg lg2) A) ([eV (ad 6) x, eV (ad 10) b, .int fr, .int dp] : List Value).toArray s 1 6 A) (F0 m 43 ls [.int 0]) := by
    intro x4_43 hx4_43 hsx0_43 hsx1_43 hsx2_43 hsx3_43 H locs ls hP hD hS hl
    refine lv_istore (i := 5) (lv' := [(5, .int 0), (4, eV (ad 7) x4_43), (0, eV (ad 6) x), (1, eV (ad 10) b), (2, .int fr), (3, .int dp)]) hx hb dX5_chooseFor_43 hl (by decide) (by simp [List.filter, eV_cat, cat_i, cat_l]) (fun ls hl => ?_)
    refine ec_aload hx hb dX5_chooseFor_45 (lv_at hl 1 rfl) ?_
    refine cr_get (t := 7) (j := 0) (C := RX2) (T := TX2) (N := 8) (v := eV (ad 28) x4_43) hx hb htb inX2 hown hK hP hx4_43 (by decide) (by decide) (by decide) rfl (by decide) (htb _ kw_1088) (cV_c rfl (hx4_43).1 (by rw [show cMu 7 0 = 1 from rfl, Nat.one_mul]; rfl)) dX5_chooseFor_47 ?_
    refine ec_astore (i := 6) (lv' := [(6, eV (ad 28) x4_43), (5, .int 0), (4, eV (ad 7) x4_43), (0, eV (ad 6) x), (1, eV (ad 10) b), (2, .int fr), (3, .int dp)]) hx hb dX5_chooseFor_50 hl (by decide) rfl (fun ls hl => ?_)
    refine ec_aload hx hb dX5_chooseFor_52 (lv_at hl 2 rfl) ?_
    refine cr_get (t := 7) (j := 2) (C := RX2) (T := TX2) (N := 8) (v := .int (gm 0 x4_43.toNatClampNeg)) hx hb htb inX2 hown hK hP hx4_43 (by decide) (by decide) (by decide) rfl (by decide) (htb _ kw_1089) rfl dX5_chooseFor_54 ?_
    obtain ⟨z_41, ez_41⟩ : ∃ z : Int32, z = (gm 0 x4_43.toNatClampNeg) := ⟨_, rfl⟩
    refine W.eq (g2 := F0 m 57 ls [.int z_41]) (by rw [ez_41]) ?_
    have hz_41 : iv 0 4 z_41 := iv_of ez_41 (CI_a hI 0 hx4_43 (by decide))
    refine lv_istore (i := 7) (lv' := [(7, .int z_41), (6, eV (ad 28) x4_43), (5, .int 0), (4, eV (ad 7) x4_43), (0, eV (ad 6) x), (1, eV (ad 10) b), (2, .int fr), (3, .int dp)]) hx hb dX5_chooseFor_57 hl (by decide) (by simp [List.filter, eV_cat, cat_i, cat_l]) (fun ls hl => ?_)
    refine ec_aload_n hx hb dX5_chooseFor_59 rfl (lv_at hl 5 rfl) ?_
    refine cr_get (t := 10) (j := 10) (C := RX1) (T := TX1) (N := 19) (v := .int (gm 31 b.toNatClampNeg)) hx hb htb inX1 hown hK hP hsx1_43 (by decide) (by decide) (by decide) rfl (by decide) (htb _ kw_1087) rfl dX5_chooseFor_60 ?_
    obtain ⟨z_42, ez_42⟩ : ∃ z : Int32, z = (gm 31 b.toNatClampNeg) := ⟨_, rfl⟩
    refine W.eq (g2 := F0 m 63 ls [.int z_42]) (by rw [ez_42]) ?_
    have hz_42 : iv (-1) 25 z_42 := iv_of ez_42 (CI_a hI 31 hsx1_43 (by decide))
    refine lv_iconst (v := (-1)) hx hb dX5_chooseFor_63 (by decide) ?_
    refine lv_icmp_eq (tgt := 112) hx hb dX5_chooseFor_64 (by decide) (fun c_43 => ?_) (fun c_43 => ?_)
    · have h_44 : iv (-1) (-1) z_42 := iv_eq c_43 hz_42 (iv_k (by decide) : iv (-1) (-1) (-1)) (by decide)
      refine ec_null (a := ad 8) hx hb dX5_chooseFor_112 ?_
      refine ec_astore (i := 8) (lv' := [(8, eV (ad 8) (-1)), (7, .int z_41), (6, eV (ad 28) x4_43), (5, .int 0), (4, eV (ad 7) x4_43), (0, eV (ad 6) x), (1, eV (ad 10) b), (2, .int fr), (3, .int dp)]) hx hb dX5_chooseFor_113 hl (by decide) rfl (fun ls hl => ?_)
      refine lv_iconst (v := 0) hx hb dX5_chooseFor_115 (by decide) ?_
      refine lv_istore (i := 9) (lv' := [(9, .int 0), (8, eV (ad 8) (-1)), (7, .int z_41), (6, eV (ad 28) x4_43), (5, .int 0), (4, eV (ad 7) x4_43), (0, eV (ad 6) x), (1, eV (ad 10) b), (2, .int fr), (3, .int dp)]) hx hb dX5_chooseFor_116 hl (by decide) (by simp [List.filter, eV_cat, cat_i, cat_l]) (fun ls hl => ?_)
      refine ec_aload_n hx hb dX5_chooseFor_118 rfl (lv_at hl 6 rfl) ?_
      refine ec_aload_n hx hb dX5_chooseFor_119 rfl (lv_at hl 7 rfl) ?_
      refine cm_callV (t := 6) (C := RX5) (T := TX5) (N := 13) (rest := []) (as := [eV (ad 10) b]) ⟨hx, hb, hml, hown, htb⟩ (d_placesArgs l dC dI ad cid a2 lx sg gm lg x b hI hsx0_43 hsx1_43 hLD) (cwV 1 htb (gd_V kw_1101 kw_1102 kw_1103 kw_40 kw_1589) rfl rfl rfl (by decide +kernel) ⟨Nat.le_of_ble_eq_true rfl, Nat.le_of_ble_eq_true rfl⟩) hsx0_43 (by decide) (by decide) rfl rfl hl.1 rfl (Nat.le_trans cs_n (by decide)) dX5_chooseFor_120 ⟨Nat.le_of_ble_eq_true rfl, Nat.le_of_ble_eq_true rfl⟩ hK hP hD hS hA hG (fun E ce q9 u_46 H locs hw hP hD hS hce hcv hcl => ?_) (fun v9 u_46 H locs hw hP hD hS => ?_)
      · exact hw.elim
      obtain ⟨r_45, rfl, sgv_47, gmv_47, lgv_47, rfl, hIv_47, ksv_47, kgv_47, klv_47, hr_45, fP_r_45⟩ := hw
      obtain rfl := KS_nil ksv_47
      obtain rfl := KS_nil klv_47
      have hP : va_P (dC, dI) vwCl (cW ad cid a2 lx sg gmv_47 lg) H := hP
      have hD : va_D A (cW ad cid a2 lx sg gmv_47 lg) := hD
      refine W.eq (g2 := F0 m 123 ls [.int r_45]) rfl ?_
      refine lv_istore (i := 10) (lv' := [(10, .int r_45), (9, .int 0), (8, eV (ad 8) (-1)), (7, .int z_41), (6, eV (ad 28) x4_43), (5, .int 0), (4, eV (ad 7) x4_43), (0, eV (ad 6) x), (1, eV (ad 10) b), (2, .int fr), (3, .int dp)]) hx hb dX5_chooseFor_123 hl (by decide) rfl (fun ls hl => ?_)
      refine lv_iconst (v := 0) hx hb dX5_chooseFor_125 (by decide) ?_
      refine lv_istore (i := 11) (lv' := [(11, .int 0), (10, .int r_45), (9, .int 0), (8, eV (ad 8) (-1)), (7, .int z_41), (6, eV (ad 28) x4_43), (5, .int 0), (4, eV (ad 7) x4_43), (0, eV (ad 6) x), (1, eV (ad 10) b), (2, .int fr), (3, .int dp)]) hx hb dX5_chooseFor_126 hl (by decide) rfl (fun ls hl => ?_)
      exact hj128 _ gmv_47 0 r_45 0 (-1) z_41 x4_43 x4_43 rfl (iv_w (iv_k (by decide) : iv 0 0 0) (by decide)) hr_45 (iv_w (iv_k (by decide) : iv 0 0 0) (by decide)) (iv_w (iv_k (by decide) : iv (-1) (-1) (-1)) (by decide)) hz_41 hx4_43 hx4_43 hsx0_43 hsx1_43 hsx2_43 hsx3_43 (KS_tr (L := [53]) KS_rf kgv_47 (by decide)) hIv_47 (fP_r_45) (fun q9 => absurd q9 (by decide)) (fun _ => (hx4_43).1) _ _ _ hP hD hS (lv_sub hl [0, 1, 2, 3, 4, 5, 6, 7, 8, 9, 10, 11] rfl)
    · have h_48 : iv 0 25 z_42 := iv_neL c_43 hz_42 (by decide)
      exact absurd hmt (by rw [← ez_42]; have := i32_0; have := i32_1; have := i32_2; have := i32_m1; have := (hsx0_43).1; have := (hsx0_43).2; have := (hsx1_43).1; have := (hsx1_43).2; have := (hsx2_43).1; have := (hsx2_43).2; have := (hsx3_43).1; have := (hsx3_43).2; have := (hx4_43).1; have := (hx4_43).2; have := (hz_41).1; have := (hz_41).2; have := (h_48).1; have := (h_48).2; omega)
  have hj42 : ∀ (x4_42 : Int32) (_ : iv 0 7 x4_42) (_ : iv 0 0 x) (_ : iv 0 79 b) (_ : iv (-1) 59 fr) (_ : iv 0 39 dp) (H : Heap) (locs : List Loc) (ls : Array Slot), va_P (dC, dI) vwCl (cW ad cid a2 lx sg gm lg) H → va_D A (cW ad cid a2 lx sg gm lg) → va_S A s.heap H locs → lv_has ls 13 [(4, eV (ad 7) x4_42), (0, eV (ad 6) x), (1, eV (ad 10) b), (2, .int fr), (3, .int dp)] → W p l e (headSpec wm_X5_chooseFor ({ frames := 14, cells := 1, slots := 6, locals := 400 })).room s m ([eV (ad 6) x, eV (ad 10) b, .int fr, .int dp] : List Value).toArray below meth c H locs 0 0 (vx_MQ below (cQx dC dI ad cid a2 lx (fun v u => ∃ r : Int32, v = some (eV (ad 8) r) ∧ ∃ (sg2 : Nat → Int32) (gm2 : Nat → Nat → Int32) (lg2 : Nat → Nat → Int64), u = (sg2, gm2, lg2) ∧ CI sg2 gm2 ∧ KS [17, 18] sg sg2 ∧ KS [53] gm gm2 ∧ KS [] lg lg2 ∧ (iv 0 63 r) ∧ (SPF (gm2 53) (gm 41 (3 * b.toNatClampNeg + 0)).toNatClampNeg ∧ (gm 41 (3 * b.toNatClampNeg + 0)).toNatClampNeg ≤ 3) ∧ ((gm 7 r.toNatClampNeg).toInt = (gm 41 (3 * b.toNatClampNeg + 0)).toInt)) A) (cX dC dI ad cid a2 lx (fun E u => (E = "java/lang/UnsupportedOperationException") ∧ ∃ (sg2 : Nat → Int32) (gm2 : Nat → Nat → Int32) (lg2 : Nat → Nat → Int64), u = (sg2, gm2, lg2) ∧ CI sg2 gm2 ∧ KS [17, 18] sg sg2 ∧ KS [53] gm gm2 ∧ KS [] lg lg2) A) ([eV (ad 6) x, eV (ad 10) b, .int fr, .int dp] : List Value).toArray s 1 6 A) (F0 m 42 ls []) := by
    intro x4_42 hx4_42 hsx0_42 hsx1_42 hsx2_42 hsx3_42 H locs ls hP hD hS hl
    refine lv_iconst (v := 0) hx hb dX5_chooseFor_42 (by decide) ?_
    exact hj43 x4_42 hx4_42 hsx0_42 hsx1_42 hsx2_42 hsx3_42 _ _ _ hP hD hS (lv_sub hl [0, 1, 2, 3, 4] rfl)
  have hj22 : ∀ (y0_22 : Int32) (_ : iv 0 0 x) (_ : iv 0 79 b) (_ : iv (-1) 59 fr) (_ : iv 0 39 dp) (_ : iv 0 7 y0_22) (H : Heap) (locs : List Loc) (ls : Array Slot), va_P (dC, dI) vwCl (cW ad cid a2 lx sg gm lg) H → va_D A (cW ad cid a2 lx sg gm lg) → va_S A s.heap H locs → lv_has ls 13 [(0, eV (ad 6) x), (1, eV (ad 10) b), (2, .int fr), (3, .int dp)] → W p l e (headSpec wm_X5_chooseFor ({ frames := 14, cells := 1, slots := 6, locals := 400 })).room s m ([eV (ad 6) x, eV (ad 10) b, .int fr, .int dp] : List Value).toArray below meth c H locs 0 0 (vx_MQ below (cQx dC dI ad cid a2 lx (fun v u => ∃ r : Int32, v = some (eV (ad 8) r) ∧ ∃ (sg2 : Nat → Int32) (gm2 : Nat → Nat → Int32) (lg2 : Nat → Nat → Int64), u = (sg2, gm2, lg2) ∧ CI sg2 gm2 ∧ KS [17, 18] sg sg2 ∧ KS [53] gm gm2 ∧ KS [] lg lg2 ∧ (iv 0 63 r) ∧ (SPF (gm2 53) (gm 41 (3 * b.toNatClampNeg + 0)).toNatClampNeg ∧ (gm 41 (3 * b.toNatClampNeg + 0)).toNatClampNeg ≤ 3) ∧ ((gm 7 r.toNatClampNeg).toInt = (gm 41 (3 * b.toNatClampNeg + 0)).toInt)) A) (cX dC dI ad cid a2 lx (fun E u => (E = "java/lang/UnsupportedOperationException") ∧ ∃ (sg2 : Nat → Int32) (gm2 : Nat → Nat → Int32) (lg2 : Nat → Nat → Int64), u = (sg2, gm2, lg2) ∧ CI sg2 gm2 ∧ KS [17, 18] sg sg2 ∧ KS [53] gm gm2 ∧ KS [] lg lg2) A) ([eV (ad 6) x, eV (ad 10) b, .int fr, .int dp] : List Value).toArray s 1 6 A) (F0 m 22 ls [.int y0_22, eV (ad 12) 0]) := by
    intro y0_22 hsx0_22 hsx1_22 hsx2_22 hsx3_22 hy0_22 H locs ls hP hD hS hl
    refine cr_aald (t := 12) (C := RX2) (v := eV (ad 7) y0_22) hx hb hK hP (iv_k (by decide) : iv 0 0 0) (by decide) (by decide) (by decide) (by decide) (by decide) rfl (show vp_in y0_22 (cLen 12) from (show vp_in y0_22 8 from (iv_in hy0_22 (by decide)))) (cAr_c (by decide) (hy0_22).1 (by rw [show cAm 12 = 0 from rfl, Nat.zero_mul, show cAo 12 = 0 from rfl]; omega)) dX5_chooseFor_22 ?_
    refine ec_astore (i := 4) (lv' := [(4, eV (ad 7) y0_22), (0, eV (ad 6) x), (1, eV (ad 10) b), (2, .int fr), (3, .int dp)]) hx hb dX5_chooseFor_23 hl (by decide) rfl (fun ls hl => ?_)
    refine ec_aload_n hx hb dX5_chooseFor_25 rfl (lv_at hl 2 rfl) ?_
    refine cr_get (t := 10) (j := 10) (C := RX1) (T := TX1) (N := 19) (v := .int (gm 31 b.toNatClampNeg)) hx hb htb inX1 hown hK hP hsx1_22 (by decide) (by decide) (by decide) rfl (by decide) (htb _ kw_1087) rfl dX5_chooseFor_26 ?_
    obtain ⟨z_49, ez_49⟩ : ∃ z : Int32, z = (gm 31 b.toNatClampNeg) := ⟨_, rfl⟩
    refine W.eq (g2 := F0 m 29 ls [.int z_49]) (by rw [ez_49]) ?_
    have hz_49 : iv (-1) 25 z_49 := iv_of ez_49 (CI_a hI 31 hsx1_22 (by decide))
    refine lv_iconst (v := (-1)) hx hb dX5_chooseFor_29 (by decide) ?_
    refine lv_icmp_eq (tgt := 42) hx hb dX5_chooseFor_30 (by decide) (fun c_50 => ?_) (fun c_50 => ?_)
    · have h_51 : iv (-1) (-1) z_49 := iv_eq c_50 hz_49 (iv_k (by decide) : iv (-1) (-1) (-1)) (by decide)
      exact hj42 y0_22 hy0_22 hsx0_22 hsx1_22 hsx2_22 hsx3_22 _ _ _ hP hD hS (lv_sub hl [0, 1, 2, 3, 4] rfl)
    · have h_52 : iv 0 25 z_49 := iv_neL c_50 hz_49 (by decide)
      exact absurd hmt (by rw [← ez_49]; have := i32_0; have := i32_1; have := i32_2; have := i32_m1; have := (hsx0_22).1; have := (hsx0_22).2; have := (hsx1_22).1; have := (hsx1_22).2; have := (hsx2_22).1; have := (hsx2_22).2; have := (hsx3_22).1; have := (hsx3_22).2; have := (hy0_22).1; have := (hy0_22).2; have := (h_52).1; have := (h_52).2; omega)
  refine ec_aload_n hx hb dX5_chooseFor_0 rfl (lv_at hl 0 rfl) ?_
  refine cr_get (t := 6) (j := 1) (C := RX5) (T := TX5) (N := 13) (v := eV (ad 12) 0) hx hb htb inX5 hown hK hP hvx (by decide) (by decide) (by decide) rfl (by decide) (htb _ kw_122) (cV_c rfl (by decide) (by rw [show cMu 6 1 = 0 from rfl, Nat.zero_mul]; rfl)) dX5_chooseFor_1 ?_
  refine lv_iload_n hx hb dX5_chooseFor_4 rfl (lv_at hl 2 rfl) ?_
  refine lv_iconst (v := (-1)) hx hb dX5_chooseFor_5 (by decide) ?_
  refine lv_icmp_ne (tgt := 16) hx hb dX5_chooseFor_6 (by decide) (fun c_53 => ?_) (fun c_53 => ?_)
  · have h_54 : iv 0 59 fr := iv_neL c_53 hvfr (by decide)
    have h_55 : iv 0 59 fr := ⟨by have := i32_0; have := i32_1; have := i32_2; have := i32_m1; have := (hvx).1; have := (hvx).2; have := (hvb).1; have := (hvb).2; have := (h_54).1; have := (h_54).2; have := (hvdp).1; have := (hvdp).2; omega, hvfr.2⟩
    refine ec_aload_n hx hb dX5_chooseFor_16 rfl (lv_at hl 0 rfl) ?_
    refine cr_get (t := 6) (j := 3) (C := RX5) (T := TX5) (N := 13) (v := eV (ad 22) 0) hx hb htb inX5 hown hK hP hvx (by decide) (by decide) (by decide) rfl (by decide) (htb _ kw_124) (cV_c rfl (by decide) (by rw [show cMu 6 3 = 0 from rfl, Nat.zero_mul]; rfl)) dX5_chooseFor_17 ?_
    refine lv_iload_n hx hb dX5_chooseFor_20 rfl (lv_at hl 2 rfl) ?_
    refine cr_iald (t := 22) (z := (gm 49 (fr : Int32).toNatClampNeg)) hx hb hK hP (iv_k (by decide) : iv 0 0 0) (by decide) (by decide) (by decide) rfl rfl (show vp_in fr (cLen 22) from (show vp_in fr 60 from (iv_in h_55 (by decide)))) rfl dX5_chooseFor_21 ?_
    obtain ⟨z_56, ez_56⟩ : ∃ z : Int32, z = (gm 49 (fr : Int32).toNatClampNeg) := ⟨_, rfl⟩
    refine W.eq (g2 := F0 m 22 ls [.int z_56, eV (ad 12) 0]) (by rw [ez_56]) ?_
    have hz_56 : iv 0 7 z_56 := iv_of ez_56 (CI_a hI 49 h_55 (by decide))
    exact hj22 z_56 hvx hvb (iv_w h_55 (by decide)) hvdp hz_56 _ _ _ hP hD hS (lv_sub hl [0, 1, 2, 3] rfl)
  · have h_57 : iv (-1) (-1) fr := iv_eq c_53 hvfr (iv_k (by decide) : iv (-1) (-1) (-1)) (by decide)
    refine ec_aload_n hx hb dX5_chooseFor_9 rfl (lv_at hl 1 rfl) ?_
    refine cr_get (t := 10) (j := 9) (C := RX1) (T := TX1) (N := 19) (v := .int (gm 30 b.toNatClampNeg)) hx hb htb inX1 hown hK hP hvb (by decide) (by decide) (by decide) rfl (by decide) (htb _ kw_1078) rfl dX5_chooseFor_10 ?_
    obtain ⟨z_58, ez_58⟩ : ∃ z : Int32, z = (gm 30 b.toNatClampNeg) := ⟨_, rfl⟩
    refine W.eq (g2 := F0 m 13 ls [.int z_58, eV (ad 12) 0]) (by rw [ez_58]) ?_
    have hz_58 : iv (-1) 7 z_58 := iv_of ez_58 (CI_a hI 30 hvb (by decide))
    have h_59 : iv 0 7 z_58 := ⟨by rw [ez_58]; exact hfr (by have := i32_0; have := i32_1; have := i32_2; have := i32_m1; have := (hvx).1; have := (hvx).2; have := (hvb).1; have := (hvb).2; have := (h_57).1; have := (h_57).2; have := (hvdp).1; have := (hvdp).2; have := (hz_58).1; have := (hz_58).2; omega), (hz_58).2⟩
    refine lv_goto (tgt := 22) hx hb dX5_chooseFor_13 (by decide) ?_
    exact hj22 z_58 hvx hvb (iv_w h_57 (by decide)) hvdp h_59 _ _ _ hP hD hS (lv_sub hl [0, 1, 2, 3] rfl)

set_option maxHeartbeats 4000000 in
set_option maxRecDepth 100000 in
theorem d_chooseB (l : Launch) (dC : Nat → ClassId) (dI : Nat → Nat → Nat) (ad : Nat → Nat → Nat) (cid : Nat → ClassId) (a2 : Nat → Nat) (lx : List Nat) (sg : Nat → Int32) (gm : Nat → Nat → Int32) (lg : Nat → Nat → Int64) (hl9 : l.stackTraces = false) (x : Int32) (b : Int32) (fr : Int32) (dp : Int32) (hI : CI sg gm) (hvx : iv 0 0 x) (hvb : iv 0 79 b) (hvfr : iv (-1) 59 fr) (hvdp : iv 0 39 dp) (hLD : LDI lx gm) (hW : WRD sg gm lg) (hb12 : b.toInt < (sg 12).toInt) (hWK : WKD gm (3 * b.toNatClampNeg + 0) dp.toNatClampNeg 3) (hfr : fr.toInt = -1 → 0 ≤ (gm 30 b.toNatClampNeg).toInt) (hmt : ¬ (gm 31 b.toNatClampNeg).toInt = -1) : CMt dC dI ad cid a2 lx l yX5_chooseFor wm_X5_chooseFor ({ frames := 14, cells := 1, slots := 6, locals := 400 }) [eV (ad 6) x, eV (ad 10) b, .int fr, .int dp] sg gm lg (fun v u => ∃ r : Int32, v = some (eV (ad 8) r) ∧ ∃ (sg2 : Nat → Int32) (gm2 : Nat → Nat → Int32) (lg2 : Nat → Nat → Int64), u = (sg2, gm2, lg2) ∧ CI sg2 gm2 ∧ KS [17, 18] sg sg2 ∧ KS [53] gm gm2 ∧ KS [] lg lg2 ∧ (iv 0 63 r) ∧ (SPF (gm2 53) (gm 41 (3 * b.toNatClampNeg + 0)).toNatClampNeg ∧ (gm 41 (3 * b.toNatClampNeg + 0)).toNatClampNeg ≤ 3) ∧ ((gm 7 r.toNatClampNeg).toInt = (gm 41 (3 * b.toNatClampNeg + 0)).toInt)) (fun E u => (E = "java/lang/UnsupportedOperationException") ∧ ∃ (sg2 : Nat → Int32) (gm2 : Nat → Nat → Int32) (lg2 : Nat → Nat → Int64), u = (sg2, gm2, lg2) ∧ CI sg2 gm2 ∧ KS [17, 18] sg sg2 ∧ KS [53] gm gm2 ∧ KS [] lg lg2) := by
  intro sz
  refine vx_ofW (cc := cX5_chooseFor) (maxL := 13) (ret := (some (.object "WiredBeans$Signature"))) (by decide) rfl ?_
  intro p e s m args below meth c s₁ B hml hxt hv
  obtain ⟨rfl, hsz, hP, hK, hD0, hG⟩ := hv
  have hx := B.exec
  have hb := B.bytes
  have hr := B.returns
  have hts := atoms_spec (ws := wm_X5_chooseFor) B.pre
  have htb := fun (w : Cond) (h : w ∈ tb) => hts w (List.mem_cons_of_mem _ h)
  have hown : s.vm.findClass RX5 = some m.cls := findClass_of_methodNamed B.named
  have hlocks := B.notSynchronized
  subst hsz
  have hD := hD0.self (sz := s.heap.size)
  generalize hAe : va_A (cW ad cid a2 lx sg gm lg) s.heap.size = A at hD hG ⊢
  have hA : ∀ q : Nat, s.heap.size ≤ q → A q := fun q h => by rw [← hAe]; exact Or.inr h
  have hS : va_S A s.heap s.heap [] := va_S.rf
  have hl := lv_entry ([eV (ad 6) x, eV (ad 10) b, .int fr, .int dp]) (n := 13) (by rw [show (lg_sl ([eV (ad 6) x, eV (ad 10) b, .int fr, .int dp])).length = 4 from by simp [lg_sl, eV_cat, cat_i, cat_l]]; exact Nat.le_of_ble_eq_true rfl)
  rw [lg_entry_eq]
  generalize (lg_sl ([eV (ad 6) x, eV (ad 10) b, .int fr, .int dp]) ++ List.replicate (13 - (lg_sl ([eV (ad 6) x, eV (ad 10) b, .int fr, .int dp])).length) Slot.unset).toArray = ls at hl ⊢
  have hl : lv_has ls 13 [(0, eV (ad 6) x), (1, eV (ad 10) b), (2, .int fr), (3, .int dp)] := by simp [lv_args, eV_cat, cat_i, cat_l] at hl; exact hl
  have hj209 : ∀ (gm_j209 : Nat → Nat → Int32) (x11_209 : Int32) (x10_209 : Int32) (x9_209 : Int32) (x8_209 : Int32) (x7_209 : Int32) (x6_209 : Int32) (x5_209 : Int32) (x4_209 : Int32) (_ : iv 0 4 x11_209) (_ : iv 0 1 x10_209) (_ : iv 0 42 x9_209) (_ : iv (-1) 63 x8_209) (_ : iv 0 4 x7_209) (_ : iv (-1) 7 x6_209) (_ : iv 0 1 x5_209) (_ : iv 0 7 x4_209) (_ : iv 0 0 x) (_ : iv 0 79 b) (_ : iv (-1) 59 fr) (_ : iv 0 39 dp) (_ : KS [53] gm gm_j209) (_ : CI sg gm_j209) (_ : x10_209.toInt = 0 ∨ (SPF (gm_j209 53) (gm 41 (3 * b.toNatClampNeg + 0)).toNatClampNeg ∧ (gm 41 (3 * b.toNatClampNeg + 0)).toNatClampNeg ≤ 3)) (_ : 0 ≤ x8_209.toInt → (gm 7 x8_209.toNatClampNeg).toInt = (gm 41 (3 * b.toNatClampNeg + 0)).toInt ∧ ¬ x10_209.toInt = 0) (H : Heap) (locs : List Loc) (ls : Array Slot), va_P (dC, dI) vwCl (cW ad cid a2 lx sg gm_j209 lg) H → va_D A (cW ad cid a2 lx sg gm_j209 lg) → va_S A s.heap H locs → lv_has ls 13 [(11, .int x11_209), (10, .int x10_209), (9, .int x9_209), (8, eV (ad 8) x8_209), (7, .int x7_209), (6, eV (ad 29) x6_209), (5, .int x5_209), (4, eV (ad 7) x4_209), (0, eV (ad 6) x), (1, eV (ad 10) b), (2, .int fr), (3, .int dp)] → W p l e (headSpec wm_X5_chooseFor ({ frames := 14, cells := 1, slots := 6, locals := 400 })).room s m ([eV (ad 6) x, eV (ad 10) b, .int fr, .int dp] : List Value).toArray below meth c H locs 0 0 (vx_MQ below (cQx dC dI ad cid a2 lx (fun v u => ∃ r : Int32, v = some (eV (ad 8) r) ∧ ∃ (sg2 : Nat → Int32) (gm2 : Nat → Nat → Int32) (lg2 : Nat → Nat → Int64), u = (sg2, gm2, lg2) ∧ CI sg2 gm2 ∧ KS [17, 18] sg sg2 ∧ KS [53] gm gm2 ∧ KS [] lg lg2 ∧ (iv 0 63 r) ∧ (SPF (gm2 53) (gm 41 (3 * b.toNatClampNeg + 0)).toNatClampNeg ∧ (gm 41 (3 * b.toNatClampNeg + 0)).toNatClampNeg ≤ 3) ∧ ((gm 7 r.toNatClampNeg).toInt = (gm 41 (3 * b.toNatClampNeg + 0)).toInt)) A) (cX dC dI ad cid a2 lx (fun E u => (E = "java/lang/UnsupportedOperationException") ∧ ∃ (sg2 : Nat → Int32) (gm2 : Nat → Nat → Int32) (lg2 : Nat → Nat → Int64), u = (sg2, gm2, lg2) ∧ CI sg2 gm2 ∧ KS [17, 18] sg sg2 ∧ KS [53] gm gm2 ∧ KS [] lg lg2) A) ([eV (ad 6) x, eV (ad 10) b, .int fr, .int dp] : List Value).toArray s 1 6 A) (F0 m 209 ls []) := by
    intro gm_j209 x11_209 x10_209 x9_209 x8_209 x7_209 x6_209 x5_209 x4_209 hx11_209 hx10_209 hx9_209 hx8_209 hx7_209 hx6_209 hx5_209 hx4_209 hsx0_209 hsx1_209 hsx2_209 hsx3_209 hkg_j209 hI_j209 hpl209 hb209 H locs ls hP hD hS hl
    refine ec_aload hx hb dX5_chooseFor_209 (lv_at hl 3 rfl) ?_
    refine ec_ifnonnull (tgt := 220) hx hb dX5_chooseFor_211 (by decide) (fun c_1 => ?_) (fun c_1 => ?_)
    · have h_2 : iv 0 63 x8_209 := ⟨c_1, (hx8_209).2⟩
      refine ec_aload hx hb dX5_chooseFor_220 (lv_at hl 3 rfl) ?_
      exact W.nb (fun hN => W.widen (k := 1) (n := 6) (by decide) (by decide) (vx_ret (W.aret (v := eV (ad 8) x8_209) hx hb hr (Or.inl ⟨_, rfl⟩) (eV_is _ _) (fun t ht hW => ⟨⟨some (eV (ad 8) x8_209), (sg, gm_j209, lg), rfl, ⟨x8_209, rfl, sg, gm_j209, lg, rfl, hI_j209, KS_rf, (KS_tr (L := [53]) KS_rf hkg_j209 (by decide)), KS_rf, h_2, (hpl209.resolve_left (hb209 (h_2).1).2), ((hb209 (h_2).1).1)⟩, by rw [ht]; exact hP, va_K.moved hW.alike hK, hD⟩, hS.F ht, by rw [ht]; exact hN⟩) hS.2.2 dX5_chooseFor_222)))
    · have h_3 : iv (-1) (-1) x8_209 := ⟨(hx8_209).1, by omega⟩
      refine ec_aload_n hx hb dX5_chooseFor_214 rfl (lv_at hl 8 rfl) ?_
      refine lv_iconst (v := 5) hx hb dX5_chooseFor_215 (by decide) ?_
      refine cm_callV (t := 6) (C := RX5) (T := TX5) (N := 13) (rest := []) (as := [.int 5]) ⟨hx, hb, hml, hown, htb⟩ (d_failWith l dC dI ad cid a2 lx sg gm_j209 lg hl9 x 5 hI_j209 hsx0_209 (iv_w (iv_k (by decide) : iv 5 5 5) (by decide))) (cwV 1 htb (gd_V kw_1018 kw_1019 kw_1020 kw_40 kw_1571) rfl rfl rfl (by decide +kernel) ⟨Nat.le_of_ble_eq_true rfl, Nat.le_of_ble_eq_true rfl⟩) hsx0_209 (by decide) (by decide) rfl rfl hl.1 rfl (Nat.le_trans cs_n (by decide)) dX5_chooseFor_216 ⟨Nat.le_of_ble_eq_true rfl, Nat.le_of_ble_eq_true rfl⟩ hK hP hD hS hA hG (fun E ce q9 u_5 H locs hw hP hD hS hce hcv hcl => ?_) (fun v9 u_5 H locs hw hP hD hS => ?_)
      · obtain ⟨hE, hw⟩ := hw
        obtain ⟨sgv_6, gmv_6, lgv_6, rfl, hIv_6, ksv_6, kgv_6, klv_6⟩ := hw
        obtain rfl := KS_nil kgv_6
        obtain rfl := KS_nil klv_6
        have hP : va_P (dC, dI) vwCl (cW ad cid a2 lx sgv_6 gm_j209 lg) H := hP
        have hD : va_D A (cW ad cid a2 lx sgv_6 gm_j209 lg) := hD
        exact vx_out (fun x hx9 => (hxt x hx9).elim) hlocks hce hcv hcl (fun t ht hal => ⟨⟨(sgv_6, gm_j209, lg), ⟨hE, sgv_6, gm_j209, lg, rfl, hIv_6, (KS_tr (L := [17, 18]) KS_rf ksv_6 (by decide)), (KS_tr (L := [53]) KS_rf hkg_j209 (by decide)), KS_rf⟩, by rw [ht]; exact hP, va_K.moved hal hK, hD⟩, hS.F ht⟩) hS.2.2 (Nat.le_of_ble_eq_true rfl) (Nat.le_of_ble_eq_true rfl)
      obtain ⟨r_4, rfl, sgv_7, gmv_7, lgv_7, rfl, hIv_7, ksv_7, kgv_7, klv_7, fF_r_4⟩ := hw
      obtain rfl := KS_nil kgv_7
      obtain rfl := KS_nil klv_7
      have hP : va_P (dC, dI) vwCl (cW ad cid a2 lx sgv_7 gm_j209 lg) H := hP
      have hD : va_D A (cW ad cid a2 lx sgv_7 gm_j209 lg) := hD
      exact fF_r_4.elim
  have hj128 : ∀ (n : Nat) (gm_j128 : Nat → Nat → Int32) (x11_128 : Int32) (x10_128 : Int32) (x9_128 : Int32) (x8_128 : Int32) (x7_128 : Int32) (x6_128 : Int32) (x5_128 : Int32) (x4_128 : Int32) (_ : (4 - x11_128.toInt).toNat = n) (_ : iv 0 4 x11_128) (_ : iv 0 1 x10_128) (_ : iv 0 42 x9_128) (_ : iv (-1) 63 x8_128) (_ : iv 0 4 x7_128) (_ : iv (-1) 7 x6_128) (_ : iv 0 1 x5_128) (_ : iv 0 7 x4_128) (_ : iv 0 0 x) (_ : iv 0 79 b) (_ : iv (-1) 59 fr) (_ : iv 0 39 dp) (_ : KS [53] gm gm_j128) (_ : CI sg gm_j128) (_ : x10_128.toInt = 0 ∨ (SPF (gm_j128 53) (gm 41 (3 * b.toNatClampNeg + 0)).toNatClampNeg ∧ (gm 41 (3 * b.toNatClampNeg + 0)).toNatClampNeg ≤ 3)) (_ : 0 ≤ x8_128.toInt → (gm 7 x8_128.toNatClampNeg).toInt = (gm 41 (3 * b.toNatClampNeg + 0)).toInt ∧ ¬ x10_128.toInt = 0) (_ : 0 < x7_128.toInt → 0 ≤ x6_128.toInt) (H : Heap) (locs : List Loc) (ls : Array Slot), va_P (dC, dI) vwCl (cW ad cid a2 lx sg gm_j128 lg) H → va_D A (cW ad cid a2 lx sg gm_j128 lg) → va_S A s.heap H locs → lv_has ls 13 [(11, .int x11_128), (10, .int x10_128), (9, .int x9_128), (8, eV (ad 8) x8_128), (7, .int x7_128), (6, eV (ad 29) x6_128), (5, .int x5_128), (4, eV (ad 7) x4_128), (0, eV (ad 6) x), (1, eV (ad 10) b), (2, .int fr), (3, .int dp)] → W p l e (headSpec wm_X5_chooseFor ({ frames := 14, cells := 1, slots := 6, locals := 400 })).room s m ([eV (ad 6) x, eV (ad 10) b, .int fr, .int dp] : List Value).toArray below meth c H locs 0 0 (vx_MQ below (cQx dC dI ad cid a2 lx (fun v u => ∃ r : Int32, v = some (eV (ad 8) r) ∧ ∃ (sg2 : Nat → Int32) (gm2 : Nat → Nat → Int32) (lg2 : Nat → Nat → Int64), u = (sg2, gm2, lg2) ∧ CI sg2 gm2 ∧ KS [17, 18] sg sg2 ∧ KS [53] gm gm2 ∧ KS [] lg lg2 ∧ (iv 0 63 r) ∧ (SPF (gm2 53) (gm 41 (3 * b.toNatClampNeg + 0)).toNatClampNeg ∧ (gm 41 (3 * b.toNatClampNeg + 0)).toNatClampNeg ≤ 3) ∧ ((gm 7 r.toNatClampNeg).toInt = (gm 41 (3 * b.toNatClampNeg + 0)).toInt)) A) (cX dC dI ad cid a2 lx (fun E u => (E = "java/lang/UnsupportedOperationException") ∧ ∃ (sg2 : Nat → Int32) (gm2 : Nat → Nat → Int32) (lg2 : Nat → Nat → Int64), u = (sg2, gm2, lg2) ∧ CI sg2 gm2 ∧ KS [17, 18] sg sg2 ∧ KS [53] gm gm2 ∧ KS [] lg lg2) A) ([eV (ad 6) x, eV (ad 10) b, .int fr, .int dp] : List Value).toArray s 1 6 A) (F0 m 128 ls []) := by
    intro n
    induction n using Nat.strongRecOn with
    | ind n ih128 =>
      intro gm_j128 x11_128 x10_128 x9_128 x8_128 x7_128 x6_128 x5_128 x4_128 hn128 hx11_128 hx10_128 hx9_128 hx8_128 hx7_128 hx6_128 hx5_128 hx4_128 hsx0_128 hsx1_128 hsx2_128 hsx3_128 hkg_j128 hI_j128 hpl128 hb128 h6p H locs ls hP hD hS hl
      have hj203 : ∀ (gm_j203 : Nat → Nat → Int32) (x12_203 : Int32) (x9_203 : Int32) (x8_203 : Int32) (_ : iv (-1) 42 x12_203) (_ : iv 0 3 x11_128) (_ : iv 1 1 x10_128) (_ : iv 0 42 x9_203) (_ : iv (-1) 63 x8_203) (_ : iv 1 4 x7_128) (_ : iv 0 7 x6_128) (_ : iv 0 1 x5_128) (_ : iv 0 7 x4_128) (_ : iv 0 0 x) (_ : iv 0 79 b) (_ : iv (-1) 59 fr) (_ : iv 0 39 dp) (_ : KS [53] gm gm_j203) (_ : CI sg gm_j203) (_ : x10_128.toInt = 0 ∨ (SPF (gm_j203 53) (gm 41 (3 * b.toNatClampNeg + 0)).toNatClampNeg ∧ (gm 41 (3 * b.toNatClampNeg + 0)).toNatClampNeg ≤ 3)) (_ : 0 ≤ x8_203.toInt → (gm 7 x8_203.toNatClampNeg).toInt = (gm 41 (3 * b.toNatClampNeg + 0)).toInt ∧ ¬ x10_128.toInt = 0) (H : Heap) (locs : List Loc) (ls : Array Slot), va_P (dC, dI) vwCl (cW ad cid a2 lx sg gm_j203 lg) H → va_D A (cW ad cid a2 lx sg gm_j203 lg) → va_S A s.heap H locs → lv_has ls 13 [(12, .int x12_203), (11, .int x11_128), (10, .int x10_128), (9, .int x9_203), (8, eV (ad 8) x8_203), (7, .int x7_128), (6, eV (ad 29) x6_128), (5, .int x5_128), (4, eV (ad 7) x4_128), (0, eV (ad 6) x), (1, eV (ad 10) b), (2, .int fr), (3, .int dp)] → W p l e (headSpec wm_X5_chooseFor ({ frames := 14, cells := 1, slots := 6, locals := 400 })).room s m ([eV (ad 6) x, eV (ad 10) b, .int fr, .int dp] : List Value).toArray below meth c H locs 0 0 (vx_MQ below (cQx dC dI ad cid a2 lx (fun v u => ∃ r : Int32, v = some (eV (ad 8) r) ∧ ∃ (sg2 : Nat → Int32) (gm2 : Nat → Nat → Int32) (lg2 : Nat → Nat → Int64), u = (sg2, gm2, lg2) ∧ CI sg2 gm2 ∧ KS [17, 18] sg sg2 ∧ KS [53] gm gm2 ∧ KS [] lg lg2 ∧ (iv 0 63 r) ∧ (SPF (gm2 53) (gm 41 (3 * b.toNatClampNeg + 0)).toNatClampNeg ∧ (gm 41 (3 * b.toNatClampNeg + 0)).toNatClampNeg ≤ 3) ∧ ((gm 7 r.toNatClampNeg).toInt = (gm 41 (3 * b.toNatClampNeg + 0)).toInt)) A) (cX dC dI ad cid a2 lx (fun E u => (E = "java/lang/UnsupportedOperationException") ∧ ∃ (sg2 : Nat → Int32) (gm2 : Nat → Nat → Int32) (lg2 : Nat → Nat → Int64), u = (sg2, gm2, lg2) ∧ CI sg2 gm2 ∧ KS [17, 18] sg sg2 ∧ KS [53] gm gm2 ∧ KS [] lg lg2) A) ([eV (ad 6) x, eV (ad 10) b, .int fr, .int dp] : List Value).toArray s 1 6 A) (F0 m 203 ls []) := by
        intro gm_j203 x12_203 x9_203 x8_203 hx12_203 hsx11_203 hsx10_203 hx9_203 hx8_203 hsx7_203 hsx6_203 hsx5_203 hsx4_203 hsx0_203 hsx1_203 hsx2_203 hsx3_203 hkg_j203 hI_j203 hpl203 hb203 H locs ls hP hD hS hl
        obtain ⟨z_8, ez_8⟩ : ∃ z : Int32, z = x11_128 + 1 := ⟨_, rfl⟩
        have hz_8 : iv 1 4 z_8 := iv_of ez_8 (iv_add hsx11_203 (iv_k (by decide) : iv 1 1 1) (by decide))
        have tz_8 : z_8.toInt = x11_128.toInt + 1 := by rw [ez_8]; exact iv_addE hsx11_203 (iv_k (by decide) : iv 1 1 1) (by decide)
        refine lv_iinc (v := z_8) (lv' := [(11, .int z_8), (12, .int x12_203), (10, .int x10_128), (9, .int x9_203), (8, eV (ad 8) x8_203), (7, .int x7_128), (6, eV (ad 29) x6_128), (5, .int x5_128), (4, eV (ad 7) x4_128), (0, eV (ad 6) x), (1, eV (ad 10) b), (2, .int fr), (3, .int dp)]) hx hb dX5_chooseFor_203 hl (k := 1) rfl ez_8.symm (by decide) rfl (fun ls hl => ?_)
        refine lv_goto (tgt := 128) hx hb dX5_chooseFor_206 (by decide) ?_
        exact ih128 _ (by rw [← hn128]; exact (iv_meas tz_8 hsx11_203 (by decide))) gm_j203 z_8 x10_128 x9_203 x8_203 x7_128 x6_128 x5_128 x4_128 rfl (iv_w hz_8 (by decide)) (iv_w hsx10_203 (by decide)) hx9_203 hx8_203 (iv_w hsx7_203 (by decide)) (iv_w hsx6_203 (by decide)) hsx5_203 hsx4_203 hsx0_203 hsx1_203 hsx2_203 hsx3_203 (KS_tr (L := [53]) KS_rf hkg_j203 (by decide)) hI_j203 (hpl203) (hb203) (h6p) _ _ _ hP hD hS (lv_sub hl [0, 2, 3, 4, 5, 6, 7, 8, 9, 10, 11, 12] rfl)
      refine lv_iload hx hb dX5_chooseFor_128 (lv_at hl 1 rfl) ?_
      refine lv_if_eq (tgt := 209) hx hb dX5_chooseFor_130 (by decide) (fun c_9 => ?_) (fun c_9 => ?_)
      · have h_10 : iv 0 0 x10_128 := iv_eq c_9 hx10_128 (iv_k (by decide) : iv 0 0 0) (by decide)
        exact hj209 gm_j128 x11_128 x10_128 x9_128 x8_128 x7_128 x6_128 x5_128 x4_128 hx11_128 (iv_w h_10 (by decide)) hx9_128 hx8_128 hx7_128 hx6_128 hx5_128 hx4_128 hsx0_128 hsx1_128 hsx2_128 hsx3_128 (KS_tr (L := [53]) KS_rf hkg_j128 (by decide)) hI_j128 (hpl128) (hb128) _ _ _ hP hD hS (lv_sub hl [0, 1, 2, 3, 4, 5, 6, 7, 8, 9, 10, 11] rfl)
      · have h_11 : iv 1 1 x10_128 := iv_neL c_9 hx10_128 (by decide)
        refine lv_iload hx hb dX5_chooseFor_133 (lv_at hl 0 rfl) ?_
        refine lv_iload hx hb dX5_chooseFor_135 (lv_at hl 4 rfl) ?_
        refine lv_icmp_ge (tgt := 209) hx hb dX5_chooseFor_137 (by decide) (fun c_12 => ?_) (fun c_12 => ?_)
        · have d_13 : (x7_128 : Int32).toInt ≤ (x11_128 : Int32).toInt := Int32.le_iff_toInt_le.mp c_12
          exact hj209 gm_j128 x11_128 x10_128 x9_128 x8_128 x7_128 x6_128 x5_128 x4_128 hx11_128 (iv_w h_11 (by decide)) hx9_128 hx8_128 hx7_128 hx6_128 hx5_128 hx4_128 hsx0_128 hsx1_128 hsx2_128 hsx3_128 (KS_tr (L := [53]) KS_rf hkg_j128 (by decide)) hI_j128 (hpl128) (hb128) _ _ _ hP hD hS (lv_sub hl [0, 1, 2, 3, 4, 5, 6, 7, 8, 9, 10, 11] rfl)
        · have d_14 : (x11_128 : Int32).toInt < (x7_128 : Int32).toInt := Int32.lt_iff_toInt_lt.mp (i32_lt c_12)
          have h_15 : iv 0 3 x11_128 := iv_ltL (i32_lt c_12) hx11_128 hx7_128 (by decide)
          have h_16 : iv 1 4 x7_128 := iv_ltR (i32_lt c_12) hx11_128 hx7_128 (by decide)
          have h_17 : iv 0 7 x6_128 := ⟨h6p (by have := i32_0; have := i32_1; have := i32_2; have := i32_m1; have := (hsx0_128).1; have := (hsx0_128).2; have := (hsx1_128).1; have := (hsx1_128).2; have := (hsx2_128).1; have := (hsx2_128).2; have := (hsx3_128).1; have := (hsx3_128).2; have := (h_15).1; have := (h_15).2; have := (h_11).1; have := (h_11).2; have := (hx9_128).1; have := (hx9_128).2; have := (hx8_128).1; have := (hx8_128).2; have := (h_16).1; have := (h_16).2; have := (hx6_128).1; have := (hx6_128).2; have := (hx5_128).1; have := (hx5_128).2; have := (hx4_128).1; have := (hx4_128).2; omega), (hx6_128).2⟩
          have hpl9 := hpl128.resolve_left (by have := i32_0; have := i32_1; have := i32_2; have := i32_m1; have := (hsx0_128).1; have := (hsx0_128).2; have := (hsx1_128).1; have := (hsx1_128).2; have := (hsx2_128).1; have := (hsx2_128).2; have := (hsx3_128).1; have := (hsx3_128).2; have := (h_15).1; have := (h_15).2; have := (h_11).1; have := (h_11).2; have := (hx9_128).1; have := (hx9_128).2; have := (hx8_128).1; have := (hx8_128).2; have := (h_16).1; have := (h_16).2; have := (h_17).1; have := (h_17).2; have := (hx5_128).1; have := (hx5_128).2; have := (hx4_128).1; have := (hx4_128).2; omega)
          refine ec_aload hx hb dX5_chooseFor_140 (lv_at hl 5 rfl) ?_
          refine lv_iload hx hb dX5_chooseFor_142 (lv_at hl 0 rfl) ?_
          obtain ⟨q_18, hq_18, nq_18, tq_18⟩ := ix_mk (8 * x6_128.toNatClampNeg + 4 + (x11_128 : Int32).toNatClampNeg) 63 (by have q1 := iv_cl h_17 (by decide); have q2 := (h_17).2; have q3 := iv_cl h_15 (by decide); have q4 := (h_15).2; omega) (by decide)
          refine cr_aald (t := 29) (C := RX8) (v := eV (ad 8) q_18) hx hb hK hP h_17 (by decide) (by decide) (by decide) (by decide) (by decide) rfl (show vp_in x11_128 (cLen 29) from (show vp_in x11_128 4 from (iv_in h_15 (by decide)))) (cAr_c (by decide) hq_18.1 nq_18) dX5_chooseFor_144 ?_
          refine ec_aload_n hx hb dX5_chooseFor_145 rfl (lv_at hl 9 rfl) ?_
          refine cr_get (t := 10) (j := 10) (C := RX1) (T := TX1) (N := 19) (v := .int (gm_j128 31 b.toNatClampNeg)) hx hb htb inX1 hown hK hP hsx1_128 (by decide) (by decide) (by decide) rfl (by decide) (htb _ kw_1087) rfl dX5_chooseFor_146 ?_
          obtain ⟨z_19, ez_19⟩ : ∃ z : Int32, z = (gm_j128 31 b.toNatClampNeg) := ⟨_, rfl⟩
          refine W.eq (g2 := F0 m 149 ls [.int z_19, eV (ad 8) q_18]) (by rw [ez_19]) ?_
          have hz_19 : iv (-1) 25 z_19 := iv_of ez_19 (CI_a hI_j128 31 hsx1_128 (by decide))
          have ez_19 := ez_19.trans (congrFun (hkg_j128 31 (by decide)) _)
          refine lv_iload hx hb dX5_chooseFor_149 (lv_at hl 6 rfl) ?_
          refine cm_callV (t := 8) (C := RX8) (T := TX8) (N := 7) (rest := []) (as := [.int z_19, .int x5_128]) ⟨hx, hb, hml, hown, htb⟩ (d_isCalled l dC dI ad cid a2 lx sg gm_j128 lg q_18 z_19 x5_128 hI_j128 hq_18 hx5_128) (cwV 2 htb (gd_V kw_1109 kw_1099 kw_1100 kw_51 kw_1588) rfl rfl rfl (by decide +kernel) ⟨Nat.le_of_ble_eq_true rfl, Nat.le_of_ble_eq_true rfl⟩) hq_18 (by decide) (by decide) rfl rfl hl.1 rfl (Nat.le_trans cs_n (by decide)) dX5_chooseFor_151 ⟨Nat.le_of_ble_eq_true rfl, Nat.le_of_ble_eq_true rfl⟩ hK hP hD hS hA hG (fun E ce q9 u_21 H locs hw hP hD hS hce hcv hcl => ?_) (fun v9 u_21 H locs hw hP hD hS => ?_)
          · exact hw.elim
          obtain ⟨r_20, rfl, rfl, hr_20⟩ := hw
          have hP : va_P (dC, dI) vwCl (cW ad cid a2 lx sg gm_j128 lg) H := hP
          have hD : va_D A (cW ad cid a2 lx sg gm_j128 lg) := hD
          refine W.eq (g2 := F0 m 154 ls [.int r_20]) rfl ?_
          refine lv_if_eq (tgt := 171) hx hb dX5_chooseFor_154 (by decide) (fun c_23 => ?_) (fun c_23 => ?_)
          · have h_24 : iv 0 0 r_20 := iv_eq c_23 hr_20 (iv_k (by decide) : iv 0 0 0) (by decide)
            refine lv_iconst (v := (-1)) hx hb dX5_chooseFor_171 (by decide) ?_
            refine lv_istore (i := 12) (lv' := [(12, .int (-1)), (11, .int x11_128), (10, .int x10_128), (9, .int x9_128), (8, eV (ad 8) x8_128), (7, .int x7_128), (6, eV (ad 29) x6_128), (5, .int x5_128), (4, eV (ad 7) x4_128), (0, eV (ad 6) x), (1, eV (ad 10) b), (2, .int fr), (3, .int dp)]) hx hb dX5_chooseFor_172 hl (by decide) rfl (fun ls hl => ?_)
            refine lv_iload hx hb dX5_chooseFor_174 (lv_at hl 0 rfl) ?_
            refine lv_iconst (v := (-1)) hx hb dX5_chooseFor_176 (by decide) ?_
            refine lv_icmp_eq (tgt := 203) hx hb dX5_chooseFor_177 (by decide) (fun _ => ?_) (fun c_25 => absurd (by decide) c_25)
            exact hj203 gm_j128 (-1) x9_128 x8_128 (iv_w (iv_k (by decide) : iv (-1) (-1) (-1)) (by decide)) h_15 h_11 hx9_128 hx8_128 h_16 h_17 hx5_128 hx4_128 hsx0_128 hsx1_128 hsx2_128 hsx3_128 (KS_tr (L := [53]) KS_rf hkg_j128 (by decide)) hI_j128 (hpl128) (hb128) _ _ _ hP hD hS (lv_sub hl [0, 1, 2, 3, 4, 5, 6, 7, 8, 9, 10, 11, 12] rfl)
          · have h_26 : iv 1 1 r_20 := iv_neL c_23 hr_20 (by decide)
            refine ec_aload_n hx hb dX5_chooseFor_157 rfl (lv_at hl 8 rfl) ?_
            refine ec_aload_n hx hb dX5_chooseFor_158 rfl (lv_at hl 9 rfl) ?_
            refine ec_aload hx hb dX5_chooseFor_159 (lv_at hl 5 rfl) ?_
            refine lv_iload hx hb dX5_chooseFor_161 (lv_at hl 0 rfl) ?_
            refine cr_aald (t := 29) (C := RX8) (v := eV (ad 8) q_18) hx hb hK hP h_17 (by decide) (by decide) (by decide) (by decide) (by decide) rfl (show vp_in x11_128 (cLen 29) from (show vp_in x11_128 4 from (iv_in h_15 (by decide)))) (cAr_c (by decide) hq_18.1 nq_18) dX5_chooseFor_163 ?_
            refine lv_iload_n hx hb dX5_chooseFor_164 rfl (lv_at hl 11 rfl) ?_
            refine cm_callV (t := 6) (C := RX5) (T := TX5) (N := 13) (rest := []) (as := [eV (ad 10) b, eV (ad 8) q_18, .int dp]) ⟨hx, hb, hml, hown, htb⟩ (d_sumFor l dC dI ad cid a2 lx sg gm_j128 lg x b q_18 dp hI_j128 hsx0_128 hsx1_128 hq_18 hsx3_128 (LDI_e hLD (hkg_j128 41 (by decide)) (hkg_j128 42 (by decide)) (hkg_j128 57 (by decide))) (WRD_e hW rfl rfl (hkg_j128 14 (by decide)) (hkg_j128 15 (by decide)) (hkg_j128 16 (by decide)) (hkg_j128 17 (by decide)) (hkg_j128 19 (by decide)) (hkg_j128 20 (by decide)) (hkg_j128 22 (by decide)) (hkg_j128 25 (by decide)) (hkg_j128 26 (by decide)) (hkg_j128 27 (by decide)) (hkg_j128 29 (by decide)) (hkg_j128 41 (by decide)) (hkg_j128 44 (by decide)) (hkg_j128 45 (by decide)) (hkg_j128 46 (by decide)) (hkg_j128 57 (by decide)) rfl rfl) (by rw [show sg 12 = sg 12 from rfl]; exact hb12) (WKD_e hWK (hkg_j128 25 (by decide)) (hkg_j128 26 (by decide)) (hkg_j128 41 (by decide)) (hkg_j128 52 (by decide)) (hkg_j128 57 (by decide))) (by rw [show gm_j128 41 = gm 41 from (hkg_j128 41 (by decide))]; exact hpl9.1) (by rw [show gm_j128 41 = gm 41 from (hkg_j128 41 (by decide))]; exact hpl9.2)) (cwV 3 htb (gd_V kw_1110 kw_1111 kw_1112 kw_40 kw_1591) rfl rfl rfl (by decide +kernel) ⟨Nat.le_of_ble_eq_true rfl, Nat.le_of_ble_eq_true rfl⟩) hsx0_128 (by decide) (by decide) rfl rfl hl.1 rfl (Nat.le_trans cs_n (by decide)) dX5_chooseFor_165 ⟨Nat.le_of_ble_eq_true rfl, Nat.le_of_ble_eq_true rfl⟩ hK hP hD hS hA hG (fun E ce q9 u_28 H locs hw hP hD hS hce hcv hcl => ?_) (fun v9 u_28 H locs hw hP hD hS => ?_)
            · exact hw.elim
            obtain ⟨r_27, rfl, rfl, hr_27, fN_r_27⟩ := hw
            have hP : va_P (dC, dI) vwCl (cW ad cid a2 lx sg gm_j128 lg) H := hP
            have hD : va_D A (cW ad cid a2 lx sg gm_j128 lg) := hD
            refine W.eq (g2 := F0 m 168 ls [.int r_27]) rfl ?_
            refine lv_goto (tgt := 172) hx hb dX5_chooseFor_168 (by decide) ?_
            refine lv_istore (i := 12) (lv' := [(12, .int r_27), (11, .int x11_128), (10, .int x10_128), (9, .int x9_128), (8, eV (ad 8) x8_128), (7, .int x7_128), (6, eV (ad 29) x6_128), (5, .int x5_128), (4, eV (ad 7) x4_128), (0, eV (ad 6) x), (1, eV (ad 10) b), (2, .int fr), (3, .int dp)]) hx hb dX5_chooseFor_172 hl (by decide) rfl (fun ls hl => ?_)
            refine lv_iload hx hb dX5_chooseFor_174 (lv_at hl 0 rfl) ?_
            refine lv_iconst (v := (-1)) hx hb dX5_chooseFor_176 (by decide) ?_
            refine lv_icmp_eq (tgt := 203) hx hb dX5_chooseFor_177 (by decide) (fun c_30 => ?_) (fun c_30 => ?_)
            · have h_31 : iv (-1) (-1) r_27 := iv_eq c_30 hr_27 (iv_k (by decide) : iv (-1) (-1) (-1)) (by decide)
              exact hj203 gm_j128 r_27 x9_128 x8_128 (iv_w h_31 (by decide)) h_15 h_11 hx9_128 hx8_128 h_16 h_17 hx5_128 hx4_128 hsx0_128 hsx1_128 hsx2_128 hsx3_128 (KS_tr (L := [53]) KS_rf hkg_j128 (by decide)) hI_j128 (hpl128) (hb128) _ _ _ hP hD hS (lv_sub hl [0, 1, 2, 3, 4, 5, 6, 7, 8, 9, 10, 11, 12] rfl)
            · have h_32 : iv 0 42 r_27 := iv_neL c_30 hr_27 (by decide)
              refine ec_aload hx hb dX5_chooseFor_180 (lv_at hl 4 rfl) ?_
              refine ec_ifnull (tgt := 192) hx hb dX5_chooseFor_182 (by decide) (fun c_33 => ?_) (fun c_33 => ?_)
              · have h_34 : iv (-1) (-1) x8_128 := ⟨(hx8_128).1, by omega⟩
                refine ec_aload hx hb dX5_chooseFor_192 (lv_at hl 6 rfl) ?_
                refine lv_iload hx hb dX5_chooseFor_194 (lv_at hl 1 rfl) ?_
                refine cr_aald (t := 29) (C := RX8) (v := eV (ad 8) q_18) hx hb hK hP h_17 (by decide) (by decide) (by decide) (by decide) (by decide) rfl (show vp_in x11_128 (cLen 29) from (show vp_in x11_128 4 from (iv_in h_15 (by decide)))) (cAr_c (by decide) hq_18.1 nq_18) dX5_chooseFor_196 ?_
                refine ec_astore (i := 8) (lv' := [(8, eV (ad 8) q_18), (12, .int r_27), (11, .int x11_128), (10, .int x10_128), (9, .int x9_128), (7, .int x7_128), (6, eV (ad 29) x6_128), (5, .int x5_128), (4, eV (ad 7) x4_128), (0, eV (ad 6) x), (1, eV (ad 10) b), (2, .int fr), (3, .int dp)]) hx hb dX5_chooseFor_197 hl (by decide) rfl (fun ls hl => ?_)
                refine lv_iload hx hb dX5_chooseFor_199 (lv_at hl 1 rfl) ?_
                refine lv_istore (i := 9) (lv' := [(9, .int r_27), (8, eV (ad 8) q_18), (12, .int r_27), (11, .int x11_128), (10, .int x10_128), (7, .int x7_128), (6, eV (ad 29) x6_128), (5, .int x5_128), (4, eV (ad 7) x4_128), (0, eV (ad 6) x), (1, eV (ad 10) b), (2, .int fr), (3, .int dp)]) hx hb dX5_chooseFor_201 hl (by decide) (by simp [List.filter, eV_cat, cat_i, cat_l]) (fun ls hl => ?_)
                exact hj203 gm_j128 r_27 r_27 q_18 (iv_w h_32 (by decide)) h_15 h_11 h_32 (iv_w hq_18 (by decide)) h_16 h_17 hx5_128 hx4_128 hsx0_128 hsx1_128 hsx2_128 hsx3_128 (KS_tr (L := [53]) KS_rf hkg_j128 (by decide)) hI_j128 (hpl128) (fun _ => ⟨by have q1 := fN_r_27.resolve_left (by have := i32_0; have := i32_1; have := i32_2; have := i32_m1; have := (hsx0_128).1; have := (hsx0_128).2; have := (hsx1_128).1; have := (hsx1_128).2; have := (hsx2_128).1; have := (hsx2_128).2; have := (hsx3_128).1; have := (hsx3_128).2; have := (h_15).1; have := (h_15).2; have := (h_11).1; have := (h_11).2; have := (hx9_128).1; have := (hx9_128).2; have := (h_34).1; have := (h_34).2; have := (h_16).1; have := (h_16).2; have := (h_17).1; have := (h_17).2; have := (hx5_128).1; have := (hx5_128).2; have := (hx4_128).1; have := (hx4_128).2; have := (hq_18).1; have := (hq_18).2; have := (hz_19).1; have := (hz_19).2; have := (h_26).1; have := (h_26).2; have := (h_32).1; have := (h_32).2; omega); rw [show q_18.toNatClampNeg = q_18.toNatClampNeg from (nq_18.trans nq_18.symm)]; rw [show gm_j128 7 = gm 7 from (hkg_j128 7 (by decide)), show gm_j128 41 = gm 41 from (hkg_j128 41 (by decide))] at q1; exact q1, by have := i32_0; have := i32_1; have := i32_2; have := i32_m1; have := (hsx0_128).1; have := (hsx0_128).2; have := (hsx1_128).1; have := (hsx1_128).2; have := (hsx2_128).1; have := (hsx2_128).2; have := (hsx3_128).1; have := (hsx3_128).2; have := (h_15).1; have := (h_15).2; have := (h_11).1; have := (h_11).2; have := (hx9_128).1; have := (hx9_128).2; have := (h_34).1; have := (h_34).2; have := (h_16).1; have := (h_16).2; have := (h_17).1; have := (h_17).2; have := (hx5_128).1; have := (hx5_128).2; have := (hx4_128).1; have := (hx4_128).2; have := (hq_18).1; have := (hq_18).2; have := (hz_19).1; have := (hz_19).2; have := (h_26).1; have := (h_26).2; have := (h_32).1; have := (h_32).2; omega⟩) _ _ _ hP hD hS (lv_sub hl [2, 3, 4, 0, 1, 5, 6, 7, 8, 9, 10, 11, 12] rfl)
              · have h_35 : iv 0 63 x8_128 := ⟨c_33, (hx8_128).2⟩
                refine lv_iload hx hb dX5_chooseFor_185 (lv_at hl 0 rfl) ?_
                refine lv_iload hx hb dX5_chooseFor_187 (lv_at hl 3 rfl) ?_
                refine lv_icmp_ge (tgt := 203) hx hb dX5_chooseFor_189 (by decide) (fun c_36 => ?_) (fun c_36 => ?_)
                · have d_37 : (x9_128 : Int32).toInt ≤ (r_27 : Int32).toInt := Int32.le_iff_toInt_le.mp c_36
                  exact hj203 gm_j128 r_27 x9_128 x8_128 (iv_w h_32 (by decide)) h_15 h_11 hx9_128 (iv_w h_35 (by decide)) h_16 h_17 hx5_128 hx4_128 hsx0_128 hsx1_128 hsx2_128 hsx3_128 (KS_tr (L := [53]) KS_rf hkg_j128 (by decide)) hI_j128 (hpl128) (hb128) _ _ _ hP hD hS (lv_sub hl [0, 1, 2, 3, 4, 5, 6, 7, 8, 9, 10, 11, 12] rfl)
                · have d_38 : (r_27 : Int32).toInt < (x9_128 : Int32).toInt := Int32.lt_iff_toInt_lt.mp (i32_lt c_36)
                  have h_39 : iv 0 41 r_27 := iv_ltL (i32_lt c_36) h_32 hx9_128 (by decide)
                  have h_40 : iv 1 42 x9_128 := iv_ltR (i32_lt c_36) h_32 hx9_128 (by decide)
                  refine ec_aload hx hb dX5_chooseFor_192 (lv_at hl 6 rfl) ?_
                  refine lv_iload hx hb dX5_chooseFor_194 (lv_at hl 1 rfl) ?_
                  refine cr_aald (t := 29) (C := RX8) (v := eV (ad 8) q_18) hx hb hK hP h_17 (by decide) (by decide) (by decide) (by decide) (by decide) rfl (show vp_in x11_128 (cLen 29) from (show vp_in x11_128 4 from (iv_in h_15 (by decide)))) (cAr_c (by decide) hq_18.1 nq_18) dX5_chooseFor_196 ?_
                  refine ec_astore (i := 8) (lv' := [(8, eV (ad 8) q_18), (12, .int r_27), (11, .int x11_128), (10, .int x10_128), (9, .int x9_128), (7, .int x7_128), (6, eV (ad 29) x6_128), (5, .int x5_128), (4, eV (ad 7) x4_128), (0, eV (ad 6) x), (1, eV (ad 10) b), (2, .int fr), (3, .int dp)]) hx hb dX5_chooseFor_197 hl (by decide) rfl (fun ls hl => ?_)
                  refine lv_iload hx hb dX5_chooseFor_199 (lv_at hl 1 rfl) ?_
                  refine lv_istore (i := 9) (lv' := [(9, .int r_27), (8, eV (ad 8) q_18), (12, .int r_27), (11, .int x11_128), (10, .int x10_128), (7, .int x7_128), (6, eV (ad 29) x6_128), (5, .int x5_128), (4, eV (ad 7) x4_128), (0, eV (ad 6) x), (1, eV (ad 10) b), (2, .int fr), (3, .int dp)]) hx hb dX5_chooseFor_201 hl (by decide) (by simp [List.filter, eV_cat, cat_i, cat_l]) (fun ls hl => ?_)
                  exact hj203 gm_j128 r_27 r_27 q_18 (iv_w h_39 (by decide)) h_15 h_11 (iv_w h_39 (by decide)) (iv_w hq_18 (by decide)) h_16 h_17 hx5_128 hx4_128 hsx0_128 hsx1_128 hsx2_128 hsx3_128 (KS_tr (L := [53]) KS_rf hkg_j128 (by decide)) hI_j128 (hpl128) (fun _ => ⟨by have q1 := fN_r_27.resolve_left (by have := i32_0; have := i32_1; have := i32_2; have := i32_m1; have := (hsx0_128).1; have := (hsx0_128).2; have := (hsx1_128).1; have := (hsx1_128).2; have := (hsx2_128).1; have := (hsx2_128).2; have := (hsx3_128).1; have := (hsx3_128).2; have := (h_15).1; have := (h_15).2; have := (h_11).1; have := (h_11).2; have := (h_40).1; have := (h_40).2; have := (h_35).1; have := (h_35).2; have := (h_16).1; have := (h_16).2; have := (h_17).1; have := (h_17).2; have := (hx5_128).1; have := (hx5_128).2; have := (hx4_128).1; have := (hx4_128).2; have := (hq_18).1; have := (hq_18).2; have := (hz_19).1; have := (hz_19).2; have := (h_26).1; have := (h_26).2; have := (h_39).1; have := (h_39).2; omega); rw [show q_18.toNatClampNeg = q_18.toNatClampNeg from (nq_18.trans nq_18.symm)]; rw [show gm_j128 7 = gm 7 from (hkg_j128 7 (by decide)), show gm_j128 41 = gm 41 from (hkg_j128 41 (by decide))] at q1; exact q1, by have := i32_0; have := i32_1; have := i32_2; have := i32_m1; have := (hsx0_128).1; have := (hsx0_128).2; have := (hsx1_128).1; have := (hsx1_128).2; have := (hsx2_128).1; have := (hsx2_128).2; have := (hsx3_128).1; have := (hsx3_128).2; have := (h_15).1; have := (h_15).2; have := (h_11).1; have := (h_11).2; have := (h_40).1; have := (h_40).2; have := (h_35).1; have := (h_35).2; have := (h_16).1; have := (h_16).2; have := (h_17).1; have := (h_17).2; have := (hx5_128).1; have := (hx5_128).2; have := (hx4_128).1; have := (hx4_128).2; have := (hq_18).1; have := (hq_18).2; have := (hz_19).1; have := (hz_19).2; have := (h_26).1; have := (h_26).2; have := (h_39).1; have := (h_39).2; omega⟩) _ _ _ hP hD hS (lv_sub hl [2, 3, 4, 0, 1, 5, 6, 7, 8, 9, 10, 11, 12] rfl)
  have hj110 : ∀ (x6_110 : Int32) (x8_110 : Int32) (x7_110 : Int32) (x5_110 : Int32) (x4_110 : Int32) (y0_110 : Int32) (_ : iv (-1) 7 x6_110) (_ : iv (-1) 7 x8_110) (_ : iv 0 4 x7_110) (_ : iv 0 1 x5_110) (_ : iv 0 7 x4_110) (_ : iv 0 0 x) (_ : iv 0 79 b) (_ : iv (-1) 59 fr) (_ : iv 0 39 dp) (_ : iv 0 4 y0_110) (_ : 0 < y0_110.toInt → 0 ≤ x6_110.toInt) (H : Heap) (locs : List Loc) (ls : Array Slot), va_P (dC, dI) vwCl (cW ad cid a2 lx sg gm lg) H → va_D A (cW ad cid a2 lx sg gm lg) → va_S A s.heap H locs → lv_has ls 13 [(6, eV (ad 29) x6_110), (8, eV (ad 7) x8_110), (7, .int x7_110), (5, .int x5_110), (4, eV (ad 7) x4_110), (0, eV (ad 6) x), (1, eV (ad 10) b), (2, .int fr), (3, .int dp)] → W p l e (headSpec wm_X5_chooseFor ({ frames := 14, cells := 1, slots := 6, locals := 400 })).room s m ([eV (ad 6) x, eV (ad 10) b, .int fr, .int dp] : List Value).toArray below meth c H locs 0 0 (vx_MQ below (cQx dC dI ad cid a2 lx (fun v u => ∃ r : Int32, v = some (eV (ad 8) r) ∧ ∃ (sg2 : Nat → Int32) (gm2 : Nat → Nat → Int32) (lg2 : Nat → Nat → Int64), u = (sg2, gm2, lg2) ∧ CI sg2 gm2 ∧ KS [17, 18] sg sg2 ∧ KS [53] gm gm2 ∧ KS [] lg lg2 ∧ (iv 0 63 r) ∧ (SPF (gm2 53) (gm 41 (3 * b.toNatClampNeg + 0)).toNatClampNeg ∧ (gm 41 (3 * b.toNatClampNeg + 0)).toNatClampNeg ≤ 3) ∧ ((gm 7 r.toNatClampNeg).toInt = (gm 41 (3 * b.toNatClampNeg + 0)).toInt)) A) (cX dC dI ad cid a2 lx (fun E u => (E = "java/lang/UnsupportedOperationException") ∧ ∃ (sg2 : Nat → Int32) (gm2 : Nat → Nat → Int32) (lg2 : Nat → Nat → Int64), u = (sg2, gm2, lg2) ∧ CI sg2 gm2 ∧ KS [17, 18] sg sg2 ∧ KS [53] gm gm2 ∧ KS [] lg lg2) A) ([eV (ad 6) x, eV (ad 10) b, .int fr, .int dp] : List Value).toArray s 1 6 A) (F0 m 110 ls [.int y0_110]) := by
    intro x6_110 x8_110 x7_110 x5_110 x4_110 y0_110 hx6_110 hx8_110 hx7_110 hx5_110 hx4_110 hsx0_110 hsx1_110 hsx2_110 hsx3_110 hy0_110 h110 H locs ls hP hD hS hl
    refine lv_istore (i := 7) (lv' := [(7, .int y0_110), (6, eV (ad 29) x6_110), (8, eV (ad 7) x8_110), (5, .int x5_110), (4, eV (ad 7) x4_110), (0, eV (ad 6) x), (1, eV (ad 10) b), (2, .int fr), (3, .int dp)]) hx hb dX5_chooseFor_110 hl (by decide) (by simp [List.filter, eV_cat, cat_i, cat_l]) (fun ls hl => ?_)
    refine ec_null (a := ad 8) hx hb dX5_chooseFor_112 ?_
    refine ec_astore (i := 8) (lv' := [(8, eV (ad 8) (-1)), (7, .int y0_110), (6, eV (ad 29) x6_110), (5, .int x5_110), (4, eV (ad 7) x4_110), (0, eV (ad 6) x), (1, eV (ad 10) b), (2, .int fr), (3, .int dp)]) hx hb dX5_chooseFor_113 hl (by decide) rfl (fun ls hl => ?_)
    refine lv_iconst (v := 0) hx hb dX5_chooseFor_115 (by decide) ?_
    refine lv_istore (i := 9) (lv' := [(9, .int 0), (8, eV (ad 8) (-1)), (7, .int y0_110), (6, eV (ad 29) x6_110), (5, .int x5_110), (4, eV (ad 7) x4_110), (0, eV (ad 6) x), (1, eV (ad 10) b), (2, .int fr), (3, .int dp)]) hx hb dX5_chooseFor_116 hl (by decide) (by simp [List.filter, eV_cat, cat_i, cat_l]) (fun ls hl => ?_)
    refine ec_aload_n hx hb dX5_chooseFor_118 rfl (lv_at hl 6 rfl) ?_
    refine ec_aload_n hx hb dX5_chooseFor_119 rfl (lv_at hl 7 rfl) ?_
    refine cm_callV (t := 6) (C := RX5) (T := TX5) (N := 13) (rest := []) (as := [eV (ad 10) b]) ⟨hx, hb, hml, hown, htb⟩ (d_placesArgs l dC dI ad cid a2 lx sg gm lg x b hI hsx0_110 hsx1_110 hLD) (cwV 1 htb (gd_V kw_1101 kw_1102 kw_1103 kw_40 kw_1589) rfl rfl rfl (by decide +kernel) ⟨Nat.le_of_ble_eq_true rfl, Nat.le_of_ble_eq_true rfl⟩) hsx0_110 (by decide) (by decide) rfl rfl hl.1 rfl (Nat.le_trans cs_n (by decide)) dX5_chooseFor_120 ⟨Nat.le_of_ble_eq_true rfl, Nat.le_of_ble_eq_true rfl⟩ hK hP hD hS hA hG (fun E ce q9 u_42 H locs hw hP hD hS hce hcv hcl => ?_) (fun v9 u_42 H locs hw hP hD hS => ?_)
    · exact hw.elim
    obtain ⟨r_41, rfl, sgv_43, gmv_43, lgv_43, rfl, hIv_43, ksv_43, kgv_43, klv_43, hr_41, fP_r_41⟩ := hw
    obtain rfl := KS_nil ksv_43
    obtain rfl := KS_nil klv_43
    have hP : va_P (dC, dI) vwCl (cW ad cid a2 lx sg gmv_43 lg) H := hP
    have hD : va_D A (cW ad cid a2 lx sg gmv_43 lg) := hD
    refine W.eq (g2 := F0 m 123 ls [.int r_41]) rfl ?_
    refine lv_istore (i := 10) (lv' := [(10, .int r_41), (9, .int 0), (8, eV (ad 8) (-1)), (7, .int y0_110), (6, eV (ad 29) x6_110), (5, .int x5_110), (4, eV (ad 7) x4_110), (0, eV (ad 6) x), (1, eV (ad 10) b), (2, .int fr), (3, .int dp)]) hx hb dX5_chooseFor_123 hl (by decide) rfl (fun ls hl => ?_)
    refine lv_iconst (v := 0) hx hb dX5_chooseFor_125 (by decide) ?_
    refine lv_istore (i := 11) (lv' := [(11, .int 0), (10, .int r_41), (9, .int 0), (8, eV (ad 8) (-1)), (7, .int y0_110), (6, eV (ad 29) x6_110), (5, .int x5_110), (4, eV (ad 7) x4_110), (0, eV (ad 6) x), (1, eV (ad 10) b), (2, .int fr), (3, .int dp)]) hx hb dX5_chooseFor_126 hl (by decide) rfl (fun ls hl => ?_)
    exact hj128 _ gmv_43 0 r_41 0 (-1) y0_110 x6_110 x5_110 x4_110 rfl (iv_w (iv_k (by decide) : iv 0 0 0) (by decide)) hr_41 (iv_w (iv_k (by decide) : iv 0 0 0) (by decide)) (iv_w (iv_k (by decide) : iv (-1) (-1) (-1)) (by decide)) hy0_110 hx6_110 hx5_110 hx4_110 hsx0_110 hsx1_110 hsx2_110 hsx3_110 (KS_tr (L := [53]) KS_rf kgv_43 (by decide)) hIv_43 (fP_r_41) (fun q9 => absurd q9 (by decide)) (h110) _ _ _ hP hD hS (lv_sub hl [0, 1, 2, 3, 4, 5, 6, 7, 8, 9, 10, 11] rfl)
  have hj94 : ∀ (x8_94 : Int32) (x7_94 : Int32) (x6_94 : Int32) (x5_94 : Int32) (x4_94 : Int32) (y0_94 : Int32) (_ : iv (-1) 7 x8_94) (_ : iv 0 4 x7_94) (_ : iv 0 7 x6_94) (_ : iv 0 1 x5_94) (_ : iv 0 7 x4_94) (_ : iv 0 0 x) (_ : iv 0 79 b) (_ : iv (-1) 59 fr) (_ : iv 0 39 dp) (_ : iv (-1) 7 y0_94) (_ : 0 ≤ x8_94.toInt → 0 ≤ y0_94.toInt) (H : Heap) (locs : List Loc) (ls : Array Slot), va_P (dC, dI) vwCl (cW ad cid a2 lx sg gm lg) H → va_D A (cW ad cid a2 lx sg gm lg) → va_S A s.heap H locs → lv_has ls 13 [(8, eV (ad 7) x8_94), (7, .int x7_94), (6, eV (ad 28) x6_94), (5, .int x5_94), (4, eV (ad 7) x4_94), (0, eV (ad 6) x), (1, eV (ad 10) b), (2, .int fr), (3, .int dp)] → W p l e (headSpec wm_X5_chooseFor ({ frames := 14, cells := 1, slots := 6, locals := 400 })).room s m ([eV (ad 6) x, eV (ad 10) b, .int fr, .int dp] : List Value).toArray below meth c H locs 0 0 (vx_MQ below (cQx dC dI ad cid a2 lx (fun v u => ∃ r : Int32, v = some (eV (ad 8) r) ∧ ∃ (sg2 : Nat → Int32) (gm2 : Nat → Nat → Int32) (lg2 : Nat → Nat → Int64), u = (sg2, gm2, lg2) ∧ CI sg2 gm2 ∧ KS [17, 18] sg sg2 ∧ KS [53] gm gm2 ∧ KS [] lg lg2 ∧ (iv 0 63 r) ∧ (SPF (gm2 53) (gm 41 (3 * b.toNatClampNeg + 0)).toNatClampNeg ∧ (gm 41 (3 * b.toNatClampNeg + 0)).toNatClampNeg ≤ 3) ∧ ((gm 7 r.toNatClampNeg).toInt = (gm 41 (3 * b.toNatClampNeg + 0)).toInt)) A) (cX dC dI ad cid a2 lx (fun E u => (E = "java/lang/UnsupportedOperationException") ∧ ∃ (sg2 : Nat → Int32) (gm2 : Nat → Nat → Int32) (lg2 : Nat → Nat → Int64), u = (sg2, gm2, lg2) ∧ CI sg2 gm2 ∧ KS [17, 18] sg sg2 ∧ KS [53] gm gm2 ∧ KS [] lg lg2) A) ([eV (ad 6) x, eV (ad 10) b, .int fr, .int dp] : List Value).toArray s 1 6 A) (F0 m 94 ls [eV (ad 29) y0_94]) := by
    intro x8_94 x7_94 x6_94 x5_94 x4_94 y0_94 hx8_94 hx7_94 hx6_94 hx5_94 hx4_94 hsx0_94 hsx1_94 hsx2_94 hsx3_94 hy0_94 h94 H locs ls hP hD hS hl
    refine ec_astore (i := 6) (lv' := [(6, eV (ad 29) y0_94), (8, eV (ad 7) x8_94), (7, .int x7_94), (5, .int x5_94), (4, eV (ad 7) x4_94), (0, eV (ad 6) x), (1, eV (ad 10) b), (2, .int fr), (3, .int dp)]) hx hb dX5_chooseFor_94 hl (by decide) rfl (fun ls hl => ?_)
    refine ec_aload hx hb dX5_chooseFor_96 (lv_at hl 1 rfl) ?_
    refine ec_ifnonnull (tgt := 105) hx hb dX5_chooseFor_98 (by decide) (fun c_44 => ?_) (fun c_44 => ?_)
    · have h_45 : iv 0 7 x8_94 := ⟨c_44, (hx8_94).2⟩
      refine ec_aload hx hb dX5_chooseFor_105 (lv_at hl 1 rfl) ?_
      refine cr_get (t := 7) (j := 3) (C := RX2) (T := TX2) (N := 8) (v := .int (gm 1 x8_94.toNatClampNeg)) hx hb htb inX2 hown hK hP h_45 (by decide) (by decide) (by decide) rfl (by decide) (htb _ kw_1091) rfl dX5_chooseFor_107 ?_
      obtain ⟨z_46, ez_46⟩ : ∃ z : Int32, z = (gm 1 x8_94.toNatClampNeg) := ⟨_, rfl⟩
      refine W.eq (g2 := F0 m 110 ls [.int z_46]) (by rw [ez_46]) ?_
      have hz_46 : iv 0 4 z_46 := iv_of ez_46 (CI_a hI 1 h_45 (by decide))
      exact hj110 y0_94 x8_94 x7_94 x5_94 x4_94 z_46 hy0_94 (iv_w h_45 (by decide)) hx7_94 hx5_94 hx4_94 hsx0_94 hsx1_94 hsx2_94 hsx3_94 hz_46 (fun _ => h94 (h_45).1) _ _ _ hP hD hS (lv_sub hl [0, 1, 2, 3, 4, 5, 6, 7, 8] rfl)
    · have h_47 : iv (-1) (-1) x8_94 := ⟨(hx8_94).1, by omega⟩
      refine lv_iconst (v := 0) hx hb dX5_chooseFor_101 (by decide) ?_
      refine lv_goto (tgt := 110) hx hb dX5_chooseFor_102 (by decide) ?_
      exact hj110 y0_94 x8_94 x7_94 x5_94 x4_94 0 hy0_94 (iv_w h_47 (by decide)) hx7_94 hx5_94 hx4_94 hsx0_94 hsx1_94 hsx2_94 hsx3_94 (iv_w (iv_k (by decide) : iv 0 0 0) (by decide)) (fun q9 => absurd q9 (by decide)) _ _ _ hP hD hS (lv_sub hl [0, 1, 2, 3, 4, 5, 6, 7, 8] rfl)
  have hj43 : ∀ (x4_43 : Int32) (y0_43 : Int32) (_ : iv 0 7 x4_43) (_ : iv 0 0 x) (_ : iv 0 79 b) (_ : iv (-1) 59 fr) (_ : iv 0 39 dp) (_ : iv 0 1 y0_43) (H : Heap) (locs : List Loc) (ls : Array Slot), va_P (dC, dI) vwCl (cW ad cid a2 lx sg gm lg) H → va_D A (cW ad cid a2 lx sg gm lg) → va_S A s.heap H locs → lv_has ls 13 [(4, eV (ad 7) x4_43), (0, eV (ad 6) x), (1, eV (ad 10) b), (2, .int fr), (3, .int dp)] → W p l e (headSpec wm_X5_chooseFor ({ frames := 14, cells := 1, slots := 6, locals := 400 })).room s m ([eV (ad 6) x, eV (ad 10) b, .int fr, .int dp] : List Value).toArray below meth c H locs 0 0 (vx_MQ below (cQx dC dI ad cid a2 lx (fun v u => ∃ r : Int32, v = some (eV (ad 8) r) ∧ ∃ (sg2 : Nat → Int32) (gm2 : Nat → Nat → Int32) (lg2 : Nat → Nat → Int64), u = (sg2, gm2, lg2) ∧ CI sg2 gm2 ∧ KS [17, 18] sg sg2 ∧ KS [53] gm gm2 ∧ KS [] lg lg2 ∧ (iv 0 63 r) ∧ (SPF (gm2 53) (gm 41 (3 * b.toNatClampNeg + 0)).toNatClampNeg ∧ (gm 41 (3 * b.toNatClampNeg + 0)).toNatClampNeg ≤ 3) ∧ ((gm 7 r.toNatClampNeg).toInt = (gm 41 (3 * b.toNatClampNeg + 0)).toInt)) A) (cX dC dI ad cid a2 lx (fun E u => (E = "java/lang/UnsupportedOperationException") ∧ ∃ (sg2 : Nat → Int32) (gm2 : Nat → Nat → Int32) (lg2 : Nat → Nat → Int64), u = (sg2, gm2, lg2) ∧ CI sg2 gm2 ∧ KS [17, 18] sg sg2 ∧ KS [53] gm gm2 ∧ KS [] lg lg2) A) ([eV (ad 6) x, eV (ad 10) b, .int fr, .int dp] : List Value).toArray s 1 6 A) (F0 m 43 ls [.int y0_43]) := by
    intro x4_43 y0_43 hx4_43 hsx0_43 hsx1_43 hsx2_43 hsx3_43 hy0_43 H locs ls hP hD hS hl
    refine lv_istore (i := 5) (lv' := [(5, .int y0_43), (4, eV (ad 7) x4_43), (0, eV (ad 6) x), (1, eV (ad 10) b), (2, .int fr), (3, .int dp)]) hx hb dX5_chooseFor_43 hl (by decide) (by simp [List.filter, eV_cat, cat_i, cat_l]) (fun ls hl => ?_)
    refine ec_aload hx hb dX5_chooseFor_45 (lv_at hl 1 rfl) ?_
    refine cr_get (t := 7) (j := 0) (C := RX2) (T := TX2) (N := 8) (v := eV (ad 28) x4_43) hx hb htb inX2 hown hK hP hx4_43 (by decide) (by decide) (by decide) rfl (by decide) (htb _ kw_1088) (cV_c rfl (hx4_43).1 (by rw [show cMu 7 0 = 1 from rfl, Nat.one_mul]; rfl)) dX5_chooseFor_47 ?_
    refine ec_astore (i := 6) (lv' := [(6, eV (ad 28) x4_43), (5, .int y0_43), (4, eV (ad 7) x4_43), (0, eV (ad 6) x), (1, eV (ad 10) b), (2, .int fr), (3, .int dp)]) hx hb dX5_chooseFor_50 hl (by decide) rfl (fun ls hl => ?_)
    refine ec_aload hx hb dX5_chooseFor_52 (lv_at hl 2 rfl) ?_
    refine cr_get (t := 7) (j := 2) (C := RX2) (T := TX2) (N := 8) (v := .int (gm 0 x4_43.toNatClampNeg)) hx hb htb inX2 hown hK hP hx4_43 (by decide) (by decide) (by decide) rfl (by decide) (htb _ kw_1089) rfl dX5_chooseFor_54 ?_
    obtain ⟨z_48, ez_48⟩ : ∃ z : Int32, z = (gm 0 x4_43.toNatClampNeg) := ⟨_, rfl⟩
    refine W.eq (g2 := F0 m 57 ls [.int z_48]) (by rw [ez_48]) ?_
    have hz_48 : iv 0 4 z_48 := iv_of ez_48 (CI_a hI 0 hx4_43 (by decide))
    refine lv_istore (i := 7) (lv' := [(7, .int z_48), (6, eV (ad 28) x4_43), (5, .int y0_43), (4, eV (ad 7) x4_43), (0, eV (ad 6) x), (1, eV (ad 10) b), (2, .int fr), (3, .int dp)]) hx hb dX5_chooseFor_57 hl (by decide) (by simp [List.filter, eV_cat, cat_i, cat_l]) (fun ls hl => ?_)
    refine ec_aload_n hx hb dX5_chooseFor_59 rfl (lv_at hl 5 rfl) ?_
    refine cr_get (t := 10) (j := 10) (C := RX1) (T := TX1) (N := 19) (v := .int (gm 31 b.toNatClampNeg)) hx hb htb inX1 hown hK hP hsx1_43 (by decide) (by decide) (by decide) rfl (by decide) (htb _ kw_1087) rfl dX5_chooseFor_60 ?_
    obtain ⟨z_49, ez_49⟩ : ∃ z : Int32, z = (gm 31 b.toNatClampNeg) := ⟨_, rfl⟩
    refine W.eq (g2 := F0 m 63 ls [.int z_49]) (by rw [ez_49]) ?_
    have hz_49 : iv (-1) 25 z_49 := iv_of ez_49 (CI_a hI 31 hsx1_43 (by decide))
    refine lv_iconst (v := (-1)) hx hb dX5_chooseFor_63 (by decide) ?_
    refine lv_icmp_eq (tgt := 112) hx hb dX5_chooseFor_64 (by decide) (fun c_50 => ?_) (fun c_50 => ?_)
    · have h_51 : iv (-1) (-1) z_49 := iv_eq c_50 hz_49 (iv_k (by decide) : iv (-1) (-1) (-1)) (by decide)
      exact absurd hmt (by rw [← ez_49]; have := i32_0; have := i32_1; have := i32_2; have := i32_m1; have := (hsx0_43).1; have := (hsx0_43).2; have := (hsx1_43).1; have := (hsx1_43).2; have := (hsx2_43).1; have := (hsx2_43).2; have := (hsx3_43).1; have := (hsx3_43).2; have := (hx4_43).1; have := (hx4_43).2; have := (hy0_43).1; have := (hy0_43).2; have := (hz_48).1; have := (hz_48).2; have := (h_51).1; have := (h_51).2; omega)
    · have h_52 : iv 0 25 z_49 := iv_neL c_50 hz_49 (by decide)
      refine ec_aload hx hb dX5_chooseFor_67 (lv_at hl 3 rfl) ?_
      refine ec_aload_n hx hb dX5_chooseFor_69 rfl (lv_at hl 5 rfl) ?_
      refine cr_get (t := 10) (j := 10) (C := RX1) (T := TX1) (N := 19) (v := .int (gm 31 b.toNatClampNeg)) hx hb htb inX1 hown hK hP hsx1_43 (by decide) (by decide) (by decide) rfl (by decide) (htb _ kw_1087) rfl dX5_chooseFor_70 ?_
      refine W.eq (g2 := F0 m 73 ls [.int z_49, eV (ad 7) x4_43]) (by rw [show (gm 31 b.toNatClampNeg) = z_49 from ez_49.symm]) ?_
      refine lv_iload hx hb dX5_chooseFor_73 (lv_at hl 2 rfl) ?_
      refine cm_callV (t := 7) (C := RX2) (T := TX2) (N := 8) (rest := []) (as := [.int z_49, .int y0_43]) ⟨hx, hb, hml, hown, htb⟩ (d_withFactory l dC dI ad cid a2 lx sg gm lg x4_43 z_49 y0_43 hI hx4_43 hy0_43) (cwV 2 htb (gd_V kw_1092 kw_1093 kw_1094 kw_15 kw_1586) rfl rfl rfl (by decide +kernel) ⟨Nat.le_of_ble_eq_true rfl, Nat.le_of_ble_eq_true rfl⟩) hx4_43 (by decide) (by decide) rfl rfl hl.1 rfl (Nat.le_trans cs_n (by decide)) dX5_chooseFor_75 ⟨Nat.le_of_ble_eq_true rfl, Nat.le_of_ble_eq_true rfl⟩ hK hP hD hS hA hG (fun E ce q9 u_54 H locs hw hP hD hS hce hcv hcl => ?_) (fun v9 u_54 H locs hw hP hD hS => ?_)
      · exact hw.elim
      obtain ⟨r_53, rfl, rfl, hr_53⟩ := hw
      have hP : va_P (dC, dI) vwCl (cW ad cid a2 lx sg gm lg) H := hP
      have hD : va_D A (cW ad cid a2 lx sg gm lg) := hD
      refine W.eq (g2 := F0 m 78 ls [eV (ad 7) r_53]) rfl ?_
      refine ec_astore (i := 8) (lv' := [(8, eV (ad 7) r_53), (7, .int z_48), (6, eV (ad 28) x4_43), (5, .int y0_43), (4, eV (ad 7) x4_43), (0, eV (ad 6) x), (1, eV (ad 10) b), (2, .int fr), (3, .int dp)]) hx hb dX5_chooseFor_78 hl (by decide) rfl (fun ls hl => ?_)
      refine ec_aload hx hb dX5_chooseFor_80 (lv_at hl 0 rfl) ?_
      refine ec_ifnonnull (tgt := 89) hx hb dX5_chooseFor_82 (by decide) (fun c_56 => ?_) (fun c_56 => ?_)
      · have h_57 : iv 0 7 r_53 := ⟨c_56, (hr_53).2⟩
        refine ec_aload hx hb dX5_chooseFor_89 (lv_at hl 0 rfl) ?_
        refine cr_get (t := 7) (j := 1) (C := RX2) (T := TX2) (N := 8) (v := eV (ad 29) r_53) hx hb htb inX2 hown hK hP h_57 (by decide) (by decide) (by decide) rfl (by decide) (htb _ kw_1090) (cV_c rfl (h_57).1 (by rw [show cMu 7 1 = 1 from rfl, Nat.one_mul]; rfl)) dX5_chooseFor_91 ?_
        exact hj94 r_53 z_48 x4_43 y0_43 x4_43 r_53 (iv_w h_57 (by decide)) hz_48 hx4_43 hy0_43 hx4_43 hsx0_43 hsx1_43 hsx2_43 hsx3_43 (iv_w h_57 (by decide)) (fun _ => (h_57).1) _ _ _ hP hD hS (lv_sub hl [0, 1, 2, 3, 4, 5, 6, 7, 8] rfl)
      · have h_58 : iv (-1) (-1) r_53 := ⟨(hr_53).1, by omega⟩
        refine ec_null (a := ad 29) hx hb dX5_chooseFor_85 ?_
        refine lv_goto (tgt := 94) hx hb dX5_chooseFor_86 (by decide) ?_
        exact hj94 r_53 z_48 x4_43 y0_43 x4_43 (-1) (iv_w h_58 (by decide)) hz_48 hx4_43 hy0_43 hx4_43 hsx0_43 hsx1_43 hsx2_43 hsx3_43 (iv_w (iv_k (by decide) : iv (-1) (-1) (-1)) (by decide)) (fun q9 => absurd q9 (by have := i32_0; have := i32_1; have := i32_2; have := i32_m1; have := (hsx0_43).1; have := (hsx0_43).2; have := (hsx1_43).1; have := (hsx1_43).2; have := (hsx2_43).1; have := (hsx2_43).2; have := (hsx3_43).1; have := (hsx3_43).2; have := (hx4_43).1; have := (hx4_43).2; have := (hy0_43).1; have := (hy0_43).2; have := (hz_48).1; have := (hz_48).2; have := (h_52).1; have := (h_52).2; have := (h_58).1; have := (h_58).2; have := (h_58).2; omega)) _ _ _ hP hD hS (lv_sub hl [0, 1, 2, 3, 4, 5, 6, 7, 8] rfl)
  have hj42 : ∀ (x4_42 : Int32) (_ : iv 0 7 x4_42) (_ : iv 0 0 x) (_ : iv 0 79 b) (_ : iv (-1) 59 fr) (_ : iv 0 39 dp) (H : Heap) (locs : List Loc) (ls : Array Slot), va_P (dC, dI) vwCl (cW ad cid a2 lx sg gm lg) H → va_D A (cW ad cid a2 lx sg gm lg) → va_S A s.heap H locs → lv_has ls 13 [(4, eV (ad 7) x4_42), (0, eV (ad 6) x), (1, eV (ad 10) b), (2, .int fr), (3, .int dp)] → W p l e (headSpec wm_X5_chooseFor ({ frames := 14, cells := 1, slots := 6, locals := 400 })).room s m ([eV (ad 6) x, eV (ad 10) b, .int fr, .int dp] : List Value).toArray below meth c H locs 0 0 (vx_MQ below (cQx dC dI ad cid a2 lx (fun v u => ∃ r : Int32, v = some (eV (ad 8) r) ∧ ∃ (sg2 : Nat → Int32) (gm2 : Nat → Nat → Int32) (lg2 : Nat → Nat → Int64), u = (sg2, gm2, lg2) ∧ CI sg2 gm2 ∧ KS [17, 18] sg sg2 ∧ KS [53] gm gm2 ∧ KS [] lg lg2 ∧ (iv 0 63 r) ∧ (SPF (gm2 53) (gm 41 (3 * b.toNatClampNeg + 0)).toNatClampNeg ∧ (gm 41 (3 * b.toNatClampNeg + 0)).toNatClampNeg ≤ 3) ∧ ((gm 7 r.toNatClampNeg).toInt = (gm 41 (3 * b.toNatClampNeg + 0)).toInt)) A) (cX dC dI ad cid a2 lx (fun E u => (E = "java/lang/UnsupportedOperationException") ∧ ∃ (sg2 : Nat → Int32) (gm2 : Nat → Nat → Int32) (lg2 : Nat → Nat → Int64), u = (sg2, gm2, lg2) ∧ CI sg2 gm2 ∧ KS [17, 18] sg sg2 ∧ KS [53] gm gm2 ∧ KS [] lg lg2) A) ([eV (ad 6) x, eV (ad 10) b, .int fr, .int dp] : List Value).toArray s 1 6 A) (F0 m 42 ls []) := by
    intro x4_42 hx4_42 hsx0_42 hsx1_42 hsx2_42 hsx3_42 H locs ls hP hD hS hl
    refine lv_iconst (v := 0) hx hb dX5_chooseFor_42 (by decide) ?_
    exact hj43 x4_42 0 hx4_42 hsx0_42 hsx1_42 hsx2_42 hsx3_42 (iv_w (iv_k (by decide) : iv 0 0 0) (by decide)) _ _ _ hP hD hS (lv_sub hl [0, 1, 2, 3, 4] rfl)
  have hj22 : ∀ (y0_22 : Int32) (_ : iv 0 0 x) (_ : iv 0 79 b) (_ : iv (-1) 59 fr) (_ : iv 0 39 dp) (_ : iv 0 7 y0_22) (H : Heap) (locs : List Loc) (ls : Array Slot), va_P (dC, dI) vwCl (cW ad cid a2 lx sg gm lg) H → va_D A (cW ad cid a2 lx sg gm lg) → va_S A s.heap H locs → lv_has ls 13 [(0, eV (ad 6) x), (1, eV (ad 10) b), (2, .int fr), (3, .int dp)] → W p l e (headSpec wm_X5_chooseFor ({ frames := 14, cells := 1, slots := 6, locals := 400 })).room s m ([eV (ad 6) x, eV (ad 10) b, .int fr, .int dp] : List Value).toArray below meth c H locs 0 0 (vx_MQ below (cQx dC dI ad cid a2 lx (fun v u => ∃ r : Int32, v = some (eV (ad 8) r) ∧ ∃ (sg2 : Nat → Int32) (gm2 : Nat → Nat → Int32) (lg2 : Nat → Nat → Int64), u = (sg2, gm2, lg2) ∧ CI sg2 gm2 ∧ KS [17, 18] sg sg2 ∧ KS [53] gm gm2 ∧ KS [] lg lg2 ∧ (iv 0 63 r) ∧ (SPF (gm2 53) (gm 41 (3 * b.toNatClampNeg + 0)).toNatClampNeg ∧ (gm 41 (3 * b.toNatClampNeg + 0)).toNatClampNeg ≤ 3) ∧ ((gm 7 r.toNatClampNeg).toInt = (gm 41 (3 * b.toNatClampNeg + 0)).toInt)) A) (cX dC dI ad cid a2 lx (fun E u => (E = "java/lang/UnsupportedOperationException") ∧ ∃ (sg2 : Nat → Int32) (gm2 : Nat → Nat → Int32) (lg2 : Nat → Nat → Int64), u = (sg2, gm2, lg2) ∧ CI sg2 gm2 ∧ KS [17, 18] sg sg2 ∧ KS [53] gm gm2 ∧ KS [] lg lg2) A) ([eV (ad 6) x, eV (ad 10) b, .int fr, .int dp] : List Value).toArray s 1 6 A) (F0 m 22 ls [.int y0_22, eV (ad 12) 0]) := by
    intro y0_22 hsx0_22 hsx1_22 hsx2_22 hsx3_22 hy0_22 H locs ls hP hD hS hl
    refine cr_aald (t := 12) (C := RX2) (v := eV (ad 7) y0_22) hx hb hK hP (iv_k (by decide) : iv 0 0 0) (by decide) (by decide) (by decide) (by decide) (by decide) rfl (show vp_in y0_22 (cLen 12) from (show vp_in y0_22 8 from (iv_in hy0_22 (by decide)))) (cAr_c (by decide) (hy0_22).1 (by rw [show cAm 12 = 0 from rfl, Nat.zero_mul, show cAo 12 = 0 from rfl]; omega)) dX5_chooseFor_22 ?_
    refine ec_astore (i := 4) (lv' := [(4, eV (ad 7) y0_22), (0, eV (ad 6) x), (1, eV (ad 10) b), (2, .int fr), (3, .int dp)]) hx hb dX5_chooseFor_23 hl (by decide) rfl (fun ls hl => ?_)
    refine ec_aload_n hx hb dX5_chooseFor_25 rfl (lv_at hl 2 rfl) ?_
    refine cr_get (t := 10) (j := 10) (C := RX1) (T := TX1) (N := 19) (v := .int (gm 31 b.toNatClampNeg)) hx hb htb inX1 hown hK hP hsx1_22 (by decide) (by decide) (by decide) rfl (by decide) (htb _ kw_1087) rfl dX5_chooseFor_26 ?_
    obtain ⟨z_59, ez_59⟩ : ∃ z : Int32, z = (gm 31 b.toNatClampNeg) := ⟨_, rfl⟩
    refine W.eq (g2 := F0 m 29 ls [.int z_59]) (by rw [ez_59]) ?_
    have hz_59 : iv (-1) 25 z_59 := iv_of ez_59 (CI_a hI 31 hsx1_22 (by decide))
    refine lv_iconst (v := (-1)) hx hb dX5_chooseFor_29 (by decide) ?_
    refine lv_icmp_eq (tgt := 42) hx hb dX5_chooseFor_30 (by decide) (fun c_60 => ?_) (fun c_60 => ?_)
    · have h_61 : iv (-1) (-1) z_59 := iv_eq c_60 hz_59 (iv_k (by decide) : iv (-1) (-1) (-1)) (by decide)
      exact hj42 y0_22 hy0_22 hsx0_22 hsx1_22 hsx2_22 hsx3_22 _ _ _ hP hD hS (lv_sub hl [0, 1, 2, 3, 4] rfl)
    · have h_62 : iv 0 25 z_59 := iv_neL c_60 hz_59 (by decide)
      refine lv_iload_n hx hb dX5_chooseFor_33 rfl (lv_at hl 3 rfl) ?_
      refine lv_iconst (v := (-1)) hx hb dX5_chooseFor_34 (by decide) ?_
      refine lv_icmp_ne (tgt := 42) hx hb dX5_chooseFor_35 (by decide) (fun c_63 => ?_) (fun c_63 => ?_)
      · have h_64 : iv 0 59 fr := iv_neL c_63 hsx2_22 (by decide)
        exact hj42 y0_22 hy0_22 hsx0_22 hsx1_22 (iv_w h_64 (by decide)) hsx3_22 _ _ _ hP hD hS (lv_sub hl [0, 1, 2, 3, 4] rfl)
      · have h_65 : iv (-1) (-1) fr := iv_eq c_63 hsx2_22 (iv_k (by decide) : iv (-1) (-1) (-1)) (by decide)
        refine lv_iconst (v := 1) hx hb dX5_chooseFor_38 (by decide) ?_
        refine lv_goto (tgt := 43) hx hb dX5_chooseFor_39 (by decide) ?_
        exact hj43 y0_22 1 hy0_22 hsx0_22 hsx1_22 (iv_w h_65 (by decide)) hsx3_22 (iv_w (iv_k (by decide) : iv 1 1 1) (by decide)) _ _ _ hP hD hS (lv_sub hl [0, 1, 2, 3, 4] rfl)
  refine ec_aload_n hx hb dX5_chooseFor_0 rfl (lv_at hl 0 rfl) ?_
  refine cr_get (t := 6) (j := 1) (C := RX5) (T := TX5) (N := 13) (v := eV (ad 12) 0) hx hb htb inX5 hown hK hP hvx (by decide) (by decide) (by decide) rfl (by decide) (htb _ kw_122) (cV_c rfl (by decide) (by rw [show cMu 6 1 = 0 from rfl, Nat.zero_mul]; rfl)) dX5_chooseFor_1 ?_
  refine lv_iload_n hx hb dX5_chooseFor_4 rfl (lv_at hl 2 rfl) ?_
  refine lv_iconst (v := (-1)) hx hb dX5_chooseFor_5 (by decide) ?_
  refine lv_icmp_ne (tgt := 16) hx hb dX5_chooseFor_6 (by decide) (fun c_66 => ?_) (fun c_66 => ?_)
  · have h_67 : iv 0 59 fr := iv_neL c_66 hvfr (by decide)
    have h_68 : iv 0 59 fr := ⟨by have := i32_0; have := i32_1; have := i32_2; have := i32_m1; have := (hvx).1; have := (hvx).2; have := (hvb).1; have := (hvb).2; have := (h_67).1; have := (h_67).2; have := (hvdp).1; have := (hvdp).2; omega, hvfr.2⟩
    refine ec_aload_n hx hb dX5_chooseFor_16 rfl (lv_at hl 0 rfl) ?_
    refine cr_get (t := 6) (j := 3) (C := RX5) (T := TX5) (N := 13) (v := eV (ad 22) 0) hx hb htb inX5 hown hK hP hvx (by decide) (by decide) (by decide) rfl (by decide) (htb _ kw_124) (cV_c rfl (by decide) (by rw [show cMu 6 3 = 0 from rfl, Nat.zero_mul]; rfl)) dX5_chooseFor_17 ?_
    refine lv_iload_n hx hb dX5_chooseFor_20 rfl (lv_at hl 2 rfl) ?_
    refine cr_iald (t := 22) (z := (gm 49 (fr : Int32).toNatClampNeg)) hx hb hK hP (iv_k (by decide) : iv 0 0 0) (by decide) (by decide) (by decide) rfl rfl (show vp_in fr (cLen 22) from (show vp_in fr 60 from (iv_in h_68 (by decide)))) rfl dX5_chooseFor_21 ?_
    obtain ⟨z_69, ez_69⟩ : ∃ z : Int32, z = (gm 49 (fr : Int32).toNatClampNeg) := ⟨_, rfl⟩
    refine W.eq (g2 := F0 m 22 ls [.int z_69, eV (ad 12) 0]) (by rw [ez_69]) ?_
    have hz_69 : iv 0 7 z_69 := iv_of ez_69 (CI_a hI 49 h_68 (by decide))
    exact hj22 z_69 hvx hvb (iv_w h_68 (by decide)) hvdp hz_69 _ _ _ hP hD hS (lv_sub hl [0, 1, 2, 3] rfl)
  · have h_70 : iv (-1) (-1) fr := iv_eq c_66 hvfr (iv_k (by decide) : iv (-1) (-1) (-1)) (by decide)
    refine ec_aload_n hx hb dX5_chooseFor_9 rfl (lv_at hl 1 rfl) ?_
    refine cr_get (t := 10) (j := 9) (C := RX1) (T := TX1) (N := 19) (v := .int (gm 30 b.toNatClampNeg)) hx hb htb inX1 hown hK hP hvb (by decide) (by decide) (by decide) rfl (by decide) (htb _ kw_1078) rfl dX5_chooseFor_10 ?_
    obtain ⟨z_71, ez_71⟩ : ∃ z : Int32, z = (gm 30 b.toNatClampNeg) := ⟨_, rfl⟩
    refine W.eq (g2 := F0 m 13 ls [.int z_71, eV (ad 12) 0]) (by rw [ez_71]) ?_
    have hz_71 : iv (-1) 7 z_71 := iv_of ez_71 (CI_a hI 30 hvb (by decide))
    have h_72 : iv 0 7 z_71 := ⟨by rw [ez_71]; exact hfr (by have := i32_0; have := i32_1; have := i32_2; have := i32_m1; have := (hvx).1; have := (hvx).2; have := (hvb).1; have := (hvb).2; have := (h_70).1; have := (h_70).2; have := (hvdp).1; have := (hvdp).2; have := (hz_71).1; have := (hz_71).2; omega), (hz_71).2⟩
    refine lv_goto (tgt := 22) hx hb dX5_chooseFor_13 (by decide) ?_
    exact hj22 z_71 hvx hvb (iv_w h_70 (by decide)) hvdp h_72 _ _ _ hP hD hS (lv_sub hl [0, 1, 2, 3] rfl)

theorem d_chooseFor (l : Launch) (dC : Nat → ClassId) (dI : Nat → Nat → Nat) (ad : Nat → Nat → Nat) (cid : Nat → ClassId) (a2 : Nat → Nat) (lx : List Nat) (sg : Nat → Int32) (gm : Nat → Nat → Int32) (lg : Nat → Nat → Int64) (hl9 : l.stackTraces = false) (x : Int32) (b : Int32) (fr : Int32) (dp : Int32) (hI : CI sg gm) (hvx : iv 0 0 x) (hvb : iv 0 79 b) (hvfr : iv (-1) 59 fr) (hvdp : iv 0 39 dp) (hLD : LDI lx gm) (hW : WRD sg gm lg) (hb12 : b.toInt < (sg 12).toInt) (hWK : WKD gm (3 * b.toNatClampNeg + 0) dp.toNatClampNeg 3) (hfr : fr.toInt = -1 → 0 ≤ (gm 30 b.toNatClampNeg).toInt) : CMt dC dI ad cid a2 lx l yX5_chooseFor wm_X5_chooseFor ({ frames := 14, cells := 1, slots := 6, locals := 400 }) [eV (ad 6) x, eV (ad 10) b, .int fr, .int dp] sg gm lg (fun v u => ∃ r : Int32, v = some (eV (ad 8) r) ∧ ∃ (sg2 : Nat → Int32) (gm2 : Nat → Nat → Int32) (lg2 : Nat → Nat → Int64), u = (sg2, gm2, lg2) ∧ CI sg2 gm2 ∧ KS [17, 18] sg sg2 ∧ KS [53] gm gm2 ∧ KS [] lg lg2 ∧ (iv 0 63 r) ∧ (SPF (gm2 53) (gm 41 (3 * b.toNatClampNeg + 0)).toNatClampNeg ∧ (gm 41 (3 * b.toNatClampNeg + 0)).toNatClampNeg ≤ 3) ∧ ((gm 7 r.toNatClampNeg).toInt = (gm 41 (3 * b.toNatClampNeg + 0)).toInt)) (fun E u => (E = "java/lang/UnsupportedOperationException") ∧ ∃ (sg2 : Nat → Int32) (gm2 : Nat → Nat → Int32) (lg2 : Nat → Nat → Int64), u = (sg2, gm2, lg2) ∧ CI sg2 gm2 ∧ KS [17, 18] sg sg2 ∧ KS [53] gm gm2 ∧ KS [] lg lg2) := by
  by_cases hmt : (gm 31 b.toNatClampNeg).toInt = -1
  · exact d_chooseA l dC dI ad cid a2 lx sg gm lg hl9 x b fr dp hI hvx hvb hvfr hvdp hLD hW hb12 hWK hfr hmt
  · exact d_chooseB l dC dI ad cid a2 lx sg gm lg hl9 x b fr dp hI hvx hvb hvfr hvdp hLD hW hb12 hWK hfr hmt

set_option maxHeartbeats 4000000 in
set_option maxRecDepth 100000 in
theorem d_bringToBe (l : Launch) (dC : Nat → ClassId) (dI : Nat → Nat → Nat) (ad : Nat → Nat → Nat) (cid : Nat → ClassId) (a2 : Nat → Nat) (lx : List Nat) (sg : Nat → Int32) (gm : Nat → Nat → Int32) (lg : Nat → Nat → Int64) (hl9 : l.stackTraces = false) (x : Int32) (b : Int32) (si : Int32) (dp : Int32) (hI : CI sg gm) (hvx : iv 0 0 x) (hvb : iv 0 79 b) (hvsi : iv 0 63 si) (hvdp : iv 0 39 dp) (hLD : LDI lx gm) (hW : WRD sg gm lg) (hb12 : b.toInt < (sg 12).toInt) (hSPF : SPF (gm 53) (gm 41 (3 * b.toNatClampNeg + 0)).toNatClampNeg) (hN3 : (gm 41 (3 * b.toNatClampNeg + 0)).toNatClampNeg ≤ 3) (hcs : (gm 7 si.toNatClampNeg).toInt = (gm 41 (3 * b.toNatClampNeg + 0)).toInt) : CMt dC dI ad cid a2 lx l yX5_bringToBe wm_X5_bringToBe ({ frames := 7, cells := 1, slots := 6, locals := 141 }) [eV (ad 6) x, eV (ad 10) b, eV (ad 8) si, .int dp] sg gm lg (fun v u => v = none ∧ ∃ (sg2 : Nat → Int32) (gm2 : Nat → Nat → Int32) (lg2 : Nat → Nat → Int64), u = (sg2, gm2, lg2) ∧ CI sg2 gm2 ∧ KS [13, 14, 17, 18] sg sg2 ∧ KS [39, 48, 49, 50] gm gm2 ∧ KS [] lg lg2 ∧ (∃ n9 : Int32, gm2 39 = upd (gm 39) b.toNatClampNeg n9 ∧ 0 ≤ n9.toInt)) (fun E u => (E = "java/lang/UnsupportedOperationException") ∧ ∃ (sg2 : Nat → Int32) (gm2 : Nat → Nat → Int32) (lg2 : Nat → Nat → Int64), u = (sg2, gm2, lg2) ∧ CI sg2 gm2 ∧ KS [13, 14, 17, 18] sg sg2 ∧ KS [39, 48, 49, 50] gm gm2 ∧ KS [] lg lg2 ∧ (gm2 39 = gm 39)) := by
  intro sz
  refine vx_ofW (cc := cX5_bringToBe) (maxL := 7) (ret := none) (by decide) rfl ?_
  intro p e s m args below meth c s₁ B hml hxt hv
  obtain ⟨rfl, hsz, hP, hK, hD0, hG⟩ := hv
  have hx := B.exec
  have hb := B.bytes
  have hr := B.returns
  have hts := atoms_spec (ws := wm_X5_bringToBe) B.pre
  have htb := fun (w : Cond) (h : w ∈ tb) => hts w (List.mem_cons_of_mem _ h)
  have hown : s.vm.findClass RX5 = some m.cls := findClass_of_methodNamed B.named
  have hlocks := B.notSynchronized
  subst hsz
  have hD := hD0.self (sz := s.heap.size)
  generalize hAe : va_A (cW ad cid a2 lx sg gm lg) s.heap.size = A at hD hG ⊢
  have hA : ∀ q : Nat, s.heap.size ≤ q → A q := fun q h => by rw [← hAe]; exact Or.inr h
  have hS : va_S A s.heap s.heap [] := va_S.rf
  have hl := lv_entry ([eV (ad 6) x, eV (ad 10) b, eV (ad 8) si, .int dp]) (n := 7) (by rw [show (lg_sl ([eV (ad 6) x, eV (ad 10) b, eV (ad 8) si, .int dp])).length = 4 from by simp [lg_sl, eV_cat, cat_i, cat_l]]; exact Nat.le_of_ble_eq_true rfl)
  rw [lg_entry_eq]
  generalize (lg_sl ([eV (ad 6) x, eV (ad 10) b, eV (ad 8) si, .int dp]) ++ List.replicate (7 - (lg_sl ([eV (ad 6) x, eV (ad 10) b, eV (ad 8) si, .int dp])).length) Slot.unset).toArray = ls at hl ⊢
  have hl : lv_has ls 7 [(0, eV (ad 6) x), (1, eV (ad 10) b), (2, eV (ad 8) si), (3, .int dp)] := by simp [lv_args, eV_cat, cat_i, cat_l] at hl; exact hl
  have hj118 : ∀ (n : Nat) (sg_j118 : Nat → Int32) (gm_j118 : Nat → Nat → Int32) (x5_118 : Int32) (_ : (3 - x5_118.toInt).toNat = n) (_ : iv 0 3 x5_118) (_ : iv 0 59 (sg 14)) (_ : iv 0 0 x) (_ : iv 0 79 b) (_ : iv 0 63 si) (_ : iv 0 39 dp) (_ : KS [13, 14] sg sg_j118) (_ : KS [39, 48, 49, 50] gm gm_j118) (_ : CI sg_j118 gm_j118) (_ : ∃ n9 : Int32, gm_j118 39 = upd (gm 39) b.toNatClampNeg n9 ∧ 0 ≤ n9.toInt) (H : Heap) (locs : List Loc) (ls : Array Slot), va_P (dC, dI) vwCl (cW ad cid a2 lx sg_j118 gm_j118 lg) H → va_D A (cW ad cid a2 lx sg_j118 gm_j118 lg) → va_S A s.heap H locs → lv_has ls 7 [(5, .int x5_118), (4, .int (sg 14)), (0, eV (ad 6) x), (1, eV (ad 10) b), (2, eV (ad 8) si), (3, .int dp)] → W p l e (headSpec wm_X5_bringToBe ({ frames := 7, cells := 1, slots := 6, locals := 141 })).room s m ([eV (ad 6) x, eV (ad 10) b, eV (ad 8) si, .int dp] : List Value).toArray below meth c H locs 0 0 (vx_MQ below (cQx dC dI ad cid a2 lx (fun v u => v = none ∧ ∃ (sg2 : Nat → Int32) (gm2 : Nat → Nat → Int32) (lg2 : Nat → Nat → Int64), u = (sg2, gm2, lg2) ∧ CI sg2 gm2 ∧ KS [13, 14, 17, 18] sg sg2 ∧ KS [39, 48, 49, 50] gm gm2 ∧ KS [] lg lg2 ∧ (∃ n9 : Int32, gm2 39 = upd (gm 39) b.toNatClampNeg n9 ∧ 0 ≤ n9.toInt)) A) (cX dC dI ad cid a2 lx (fun E u => (E = "java/lang/UnsupportedOperationException") ∧ ∃ (sg2 : Nat → Int32) (gm2 : Nat → Nat → Int32) (lg2 : Nat → Nat → Int64), u = (sg2, gm2, lg2) ∧ CI sg2 gm2 ∧ KS [13, 14, 17, 18] sg sg2 ∧ KS [39, 48, 49, 50] gm gm2 ∧ KS [] lg lg2 ∧ (gm2 39 = gm 39)) A) ([eV (ad 6) x, eV (ad 10) b, eV (ad 8) si, .int dp] : List Value).toArray s 1 6 A) (F0 m 118 ls []) := by
    intro n
    induction n using Nat.strongRecOn with
    | ind n ih118 =>
      intro sg_j118 gm_j118 x5_118 hn118 hx5_118 hsx4_118 hsx0_118 hsx1_118 hsx2_118 hsx3_118 hks_j118 hkg_j118 hI_j118 h39 H locs ls hP hD hS hl
      refine lv_iload hx hb dX5_bringToBe_118 (lv_at hl 0 rfl) ?_
      refine ec_aload_n hx hb dX5_bringToBe_120 rfl (lv_at hl 4 rfl) ?_
      refine cr_get (t := 8) (j := 3) (C := RX8) (T := TX8) (N := 7) (v := .int (gm_j118 7 si.toNatClampNeg)) hx hb htb inX8 hown hK hP hsx2_118 (by decide) (by decide) (by decide) rfl (by decide) (htb _ kw_1113) rfl dX5_bringToBe_121 ?_
      obtain ⟨z_1, ez_1⟩ : ∃ z : Int32, z = (gm_j118 7 si.toNatClampNeg) := ⟨_, rfl⟩
      refine W.eq (g2 := F0 m 124 ls [.int z_1, .int x5_118]) (by rw [ez_1]) ?_
      have hz_1 : iv 0 3 z_1 := iv_of ez_1 (CI_a hI_j118 7 hsx2_118 (by decide))
      have ez_1 := ez_1.trans (congrFun (hkg_j118 7 (by decide)) _)
      refine lv_icmp_ge (tgt := 179) hx hb dX5_bringToBe_124 (by decide) (fun c_2 => ?_) (fun c_2 => ?_)
      · have d_3 : (z_1 : Int32).toInt ≤ (x5_118 : Int32).toInt := Int32.le_iff_toInt_le.mp c_2
        exact W.nb (fun hN => W.widen (k := 1) (n := 6) (by decide) (by decide) (vx_ret (W.vret hx hb hr (fun t ht hW => ⟨⟨none, (sg_j118, gm_j118, lg), rfl, ⟨rfl, sg_j118, gm_j118, lg, rfl, hI_j118, (KS_tr (L := [13, 14, 17, 18]) KS_rf hks_j118 (by decide)), (KS_tr (L := [39, 48, 49, 50]) KS_rf hkg_j118 (by decide)), KS_rf, (h39)⟩, by rw [ht]; exact hP, va_K.moved hW.alike hK, hD⟩, hS.F ht, by rw [ht]; exact hN⟩) hS.2.2 dX5_bringToBe_179)))
      · have d_4 : (x5_118 : Int32).toInt < (z_1 : Int32).toInt := Int32.lt_iff_toInt_lt.mp (i32_lt c_2)
        have h_5 : iv 0 2 x5_118 := iv_ltL (i32_lt c_2) hx5_118 hz_1 (by decide)
        have h_6 : iv 1 3 z_1 := iv_ltR (i32_lt c_2) hx5_118 hz_1 (by decide)
        refine ec_aload_n hx hb dX5_bringToBe_127 rfl (lv_at hl 2 rfl) ?_
        refine cr_get (t := 6) (j := 9) (C := RX5) (T := TX5) (N := 13) (v := eV (ad 26) 0) hx hb htb inX5 hown hK hP hsx0_118 (by decide) (by decide) (by decide) rfl (by decide) (htb _ kw_129) (cV_c rfl (by decide) (by rw [show cMu 6 9 = 0 from rfl, Nat.zero_mul]; rfl)) dX5_bringToBe_128 ?_
        refine lv_iload hx hb dX5_bringToBe_131 (lv_at hl 0 rfl) ?_
        refine cr_iald (t := 26) (z := (gm_j118 53 (x5_118 : Int32).toNatClampNeg)) hx hb hK hP (iv_k (by decide) : iv 0 0 0) (by decide) (by decide) (by decide) rfl rfl (show vp_in x5_118 (cLen 26) from (show vp_in x5_118 3 from (iv_in h_5 (by decide)))) rfl dX5_bringToBe_133 ?_
        obtain ⟨z_7, ez_7⟩ : ∃ z : Int32, z = (gm_j118 53 (x5_118 : Int32).toNatClampNeg) := ⟨_, rfl⟩
        refine W.eq (g2 := F0 m 134 ls [.int z_7]) (by rw [ez_7]) ?_
        have hz_7 : iv (-1) 2 z_7 := iv_of ez_7 (CI_a hI_j118 53 h_5 (by decide))
        have ez_7 := ez_7.trans (congrFun (hkg_j118 53 (by decide)) _)
        have h_8 : iv 0 2 z_7 := ⟨by rw [ez_7]; exact (hSPF x5_118.toNatClampNeg (by have q8 := hcs; rw [← ez_1] at q8; have kna : (gm 41 (3 * b.toNatClampNeg + 0)).toNatClampNeg = (gm 41 (3 * b.toNatClampNeg + 0)).toInt.toNat := rfl; have q1 : x5_118.toNatClampNeg = x5_118.toInt.toNat := rfl; have := i32_0; have := i32_1; have := i32_2; have := i32_m1; have := (hsx0_118).1; have := (hsx0_118).2; have := (hsx1_118).1; have := (hsx1_118).2; have := (hsx2_118).1; have := (hsx2_118).2; have := (hsx3_118).1; have := (hsx3_118).2; have := (h_5).1; have := (h_5).2; have := (hsx4_118).1; have := (hsx4_118).2; have := (h_6).1; have := (h_6).2; have := (hz_7).1; have := (hz_7).2; omega)).1, (hz_7).2⟩
        refine lv_istore (i := 6) (lv' := [(6, .int z_7), (5, .int x5_118), (4, .int (sg 14)), (0, eV (ad 6) x), (1, eV (ad 10) b), (2, eV (ad 8) si), (3, .int dp)]) hx hb dX5_bringToBe_134 hl (by decide) rfl (fun ls hl => ?_)
        refine ec_aload_n hx hb dX5_bringToBe_136 rfl (lv_at hl 3 rfl) ?_
        refine lv_iconst (v := 3) hx hb dX5_bringToBe_137 (by decide) ?_
        refine lv_iload hx hb dX5_bringToBe_138 (lv_at hl 2 rfl) ?_
        refine lv_iload hx hb dX5_bringToBe_140 (lv_at hl 1 rfl) ?_
        refine ec_aload_n hx hb dX5_bringToBe_142 rfl (lv_at hl 4 rfl) ?_
        obtain ⟨q_9, hq_9, nq_9, tq_9⟩ := ix_mk (3 * b.toNatClampNeg + 0) 239 (by have q1 := iv_cl hsx1_118 (by decide); have q2 := (hsx1_118).2; omega) (by decide)
        refine cr_get (t := 10) (j := 1) (C := RX1) (T := TX1) (N := 19) (v := eV (ad 11) q_9) hx hb htb inX1 hown hK hP hsx1_118 (by decide) (by decide) (by decide) rfl (by decide) (htb _ kw_1104) (cV_c rfl hq_9.1 nq_9) dX5_bringToBe_143 ?_
        refine lv_iload hx hb dX5_bringToBe_146 (lv_at hl 0 rfl) ?_
        refine cm_callV (t := 11) (C := RJx4a65c) (T := TJx4a65c) (N := 3) (rest := [.int x5_118, .int (sg 14), .int 3, eV (ad 6) x]) (as := [.int z_7]) ⟨hx, hb, hml, hown, htb⟩ (d_lget l dC dI ad cid a2 lx sg_j118 gm_j118 lg q_9 z_7 hI_j118 hq_9 (LDI_e hLD (hkg_j118 41 (by decide)) (hkg_j118 42 (by decide)) (hkg_j118 57 (by decide))) (by have := i32_0; have := i32_1; have := i32_2; have := i32_m1; have := (hsx0_118).1; have := (hsx0_118).2; have := (hsx1_118).1; have := (hsx1_118).2; have := (hsx2_118).1; have := (hsx2_118).2; have := (hsx3_118).1; have := (hsx3_118).2; have := (h_5).1; have := (h_5).2; have := (hsx4_118).1; have := (hsx4_118).2; have := (h_6).1; have := (h_6).2; have := (h_8).1; have := (h_8).2; have := (hq_9).1; have := (hq_9).2; omega) (by rw [(show gm_j118 41 = gm 41 from (hkg_j118 41 (by decide))), show q_9.toNatClampNeg = 3 * b.toNatClampNeg + 0 from nq_9]; have q1 := (hSPF x5_118.toNatClampNeg (by have q8 := hcs; rw [← ez_1] at q8; have kna : (gm 41 (3 * b.toNatClampNeg + 0)).toNatClampNeg = (gm 41 (3 * b.toNatClampNeg + 0)).toInt.toNat := rfl; have q1 : x5_118.toNatClampNeg = x5_118.toInt.toNat := rfl; have := i32_0; have := i32_1; have := i32_2; have := i32_m1; have := (hsx0_118).1; have := (hsx0_118).2; have := (hsx1_118).1; have := (hsx1_118).2; have := (hsx2_118).1; have := (hsx2_118).2; have := (hsx3_118).1; have := (hsx3_118).2; have := (h_5).1; have := (h_5).2; have := (hsx4_118).1; have := (hsx4_118).2; have := (h_6).1; have := (h_6).2; have := (h_8).1; have := (h_8).2; have := (hq_9).1; have := (hq_9).2; omega)).2; rw [← ez_7] at q1; have k9 : (gm 41 (3 * b.toNatClampNeg + 0)).toNatClampNeg = (gm 41 (3 * b.toNatClampNeg + 0)).toInt.toNat := rfl; have k8 := (show iv 0 80 (gm 41 (3 * b.toNatClampNeg + 0)) from CI_n hI 41 (show (3 * b.toNatClampNeg + 0) < crLen 41 from by have := (show b.toNatClampNeg < 80 from by have := iv_cl hvb (by decide); have := hvb.2; omega); show _ < 240; omega)).1; omega)) (cwV 1 htb (gd_V kw_1033 kw_794 kw_795 kw_98 kw_1512) rfl rfl rfl (by decide +kernel) ⟨Nat.le_of_ble_eq_true rfl, Nat.le_of_ble_eq_true rfl⟩) hq_9 (by decide) (by decide) rfl rfl hl.1 rfl (Nat.le_trans (cs_c (cat_i _) (cs_c (cat_i _) (cs_c (cat_i _) (cs_c (eV_cat _ _) cs_n)))) (by decide)) dX5_bringToBe_148 ⟨Nat.le_of_ble_eq_true rfl, Nat.le_of_ble_eq_true rfl⟩ hK hP hD hS hA hG (fun E ce q9 u_11 H locs hw hP hD hS hce hcv hcl => ?_) (fun v9 u_11 H locs hw hP hD hS => ?_)
        · exact hw.elim
        obtain ⟨r_10, rfl, rfl, hr_10, fr_r_10⟩ := hw
        have hP : va_P (dC, dI) vwCl (cW ad cid a2 lx sg_j118 gm_j118 lg) H := hP
        have hD : va_D A (cW ad cid a2 lx sg_j118 gm_j118 lg) := hD
        refine W.eq (g2 := F0 m 151 ls [eV (ad 9) r_10, .int x5_118, .int (sg 14), .int 3, eV (ad 6) x]) rfl ?_
        have fr_r_10 := fr_r_10.trans (congrFun (show gm_j118 57 = gm 57 from (hkg_j118 57 (by decide))) _)
        have fa_r_10 : r_10 = gm 57 (128 * (3 * b.toNatClampNeg + 0) + z_7.toNatClampNeg) := by rw [fr_r_10, show q_9.toNatClampNeg = 3 * b.toNatClampNeg + 0 from nq_9]
        have hai_r_10 : z_7.toNatClampNeg < (gm 41 (3 * b.toNatClampNeg + 0)).toNatClampNeg := (by have q1 := (hSPF x5_118.toNatClampNeg (by have q8 := hcs; rw [← ez_1] at q8; have kna : (gm 41 (3 * b.toNatClampNeg + 0)).toNatClampNeg = (gm 41 (3 * b.toNatClampNeg + 0)).toInt.toNat := rfl; have q1 : x5_118.toNatClampNeg = x5_118.toInt.toNat := rfl; have := i32_0; have := i32_1; have := i32_2; have := i32_m1; have := (hsx0_118).1; have := (hsx0_118).2; have := (hsx1_118).1; have := (hsx1_118).2; have := (hsx2_118).1; have := (hsx2_118).2; have := (hsx3_118).1; have := (hsx3_118).2; have := (h_5).1; have := (h_5).2; have := (hsx4_118).1; have := (hsx4_118).2; have := (h_6).1; have := (h_6).2; have := (h_8).1; have := (h_8).2; have := (hq_9).1; have := (hq_9).2; have := (hr_10).1; have := (hr_10).2; omega)).2; rw [← ez_7] at q1; have q1 : z_7.toNatClampNeg = z_7.toInt.toNat := rfl; have := i32_0; have := i32_1; have := i32_2; have := i32_m1; have := (hsx0_118).1; have := (hsx0_118).2; have := (hsx1_118).1; have := (hsx1_118).2; have := (hsx2_118).1; have := (hsx2_118).2; have := (hsx3_118).1; have := (hsx3_118).2; have := (h_5).1; have := (h_5).2; have := (hsx4_118).1; have := (hsx4_118).2; have := (h_6).1; have := (h_6).2; have := (h_8).1; have := (h_8).2; have := (hq_9).1; have := (hq_9).2; have := (hr_10).1; have := (hr_10).2; omega)
        have hct_r_10 := arg_in (k := 0) (w := 3) hI hW hLD (Or.inl ⟨rfl, rfl⟩) (lt_cl hvb (show iv 0 80 (sg 12) from CI_s hI 12) (by decide) (by decide) hb12) hai_r_10
        rw [← fa_r_10] at hct_r_10
        refine cl_cast hx hb hG hown (htb _ kw_1027) hK hP hr_10 (by decide) dX5_bringToBe_151 ?_
        refine cr_get (t := 9) (j := 19) (C := RX3) (T := TX3) (N := 21) (v := eV (ad 9) (gm_j118 26 r_10.toNatClampNeg)) hx hb htb inX3 hown hK hP hr_10 (by decide) (by decide) (by decide) rfl (by decide) (htb _ kw_1028) rfl dX5_bringToBe_154 ?_
        obtain ⟨z_13, ez_13⟩ : ∃ z : Int32, z = (gm_j118 26 r_10.toNatClampNeg) := ⟨_, rfl⟩
        refine W.eq (g2 := F0 m 157 ls [eV (ad 9) z_13, .int x5_118, .int (sg 14), .int 3, eV (ad 6) x]) (by rw [ez_13]) ?_
        have hz_13 : iv (-1) 79 z_13 := iv_of ez_13 (CI_a hI_j118 26 hr_10 (by decide))
        have ez_13 := ez_13.trans (congrFun (hkg_j118 26 (by decide)) _)
        have h_14 : iv 0 79 z_13 := ⟨by rw [ez_13]; exact hct_r_10.1.1, (hz_13).2⟩
        refine lv_iload_n hx hb dX5_bringToBe_157 rfl (lv_at hl 6 rfl) ?_
        refine lv_iload hx hb dX5_bringToBe_158 (lv_at hl 0 rfl) ?_
        refine cm_callS (rest := [eV (ad 9) z_13, .int x5_118, .int (sg 14), .int 3, eV (ad 6) x]) (as := [.int dp, .int z_7]) ⟨hx, hb, hml, hown, htb⟩ (d_slot l dC dI ad cid a2 lx sg_j118 gm_j118 lg dp z_7 hI_j118 hsx3_118 (iv_w h_8 (by decide))) (va_cwS 2 htb (gd_S kw_1030 kw_1031 kw_40 kw_1573) rfl rfl rfl (by decide +kernel) ⟨Nat.le_of_ble_eq_true rfl, Nat.le_of_ble_eq_true rfl⟩)  rfl hl.1 rfl (Nat.le_trans (cs_c (eV_cat _ _) (cs_c (cat_i _) (cs_c (cat_i _) (cs_c (cat_i _) (cs_c (eV_cat _ _) cs_n))))) (by decide)) dX5_bringToBe_160 ⟨Nat.le_of_ble_eq_true rfl, Nat.le_of_ble_eq_true rfl⟩ hK hP hD hS hA hG (fun E ce q9 u_16 H locs hw hP hD hS hce hcv hcl => ?_) (fun v9 u_16 H locs hw hP hD hS => ?_)
        · exact hw.elim
        obtain ⟨r_15, rfl, rfl, hr_15, fs_r_15⟩ := hw
        have hP : va_P (dC, dI) vwCl (cW ad cid a2 lx sg_j118 gm_j118 lg) H := hP
        have hD : va_D A (cW ad cid a2 lx sg_j118 gm_j118 lg) := hD
        refine W.eq (g2 := F0 m 163 ls [.int r_15, eV (ad 9) z_13, .int x5_118, .int (sg 14), .int 3, eV (ad 6) x]) rfl ?_
        refine ec_aload_n hx hb dX5_bringToBe_163 rfl (lv_at hl 5 rfl) ?_
        refine cr_get (t := 8) (j := 2) (C := RX8) (T := TX8) (N := 7) (v := eV (ad 27) si) hx hb htb inX8 hown hK hP hsx2_118 (by decide) (by decide) (by decide) rfl (by decide) (htb _ kw_1114) (cV_c rfl (hsx2_118).1 (by rw [show cMu 8 2 = 1 from rfl, Nat.one_mul]; rfl)) dX5_bringToBe_164 ?_
        refine lv_iload hx hb dX5_bringToBe_167 (lv_at hl 1 rfl) ?_
        refine cr_iald (t := 27) (z := (gm_j118 54 (3 * si.toNatClampNeg + (x5_118 : Int32).toNatClampNeg))) hx hb hK hP hsx2_118 (by decide) (by decide) (by decide) rfl rfl (show vp_in x5_118 (cLen 27) from (show vp_in x5_118 3 from (iv_in h_5 (by decide)))) (cAi_w rfl (by decide) rfl (vin_lt (show vp_in x5_118 (cLen 27) from (show vp_in x5_118 3 from (iv_in h_5 (by decide)))))) dX5_bringToBe_169 ?_
        obtain ⟨z_18, ez_18⟩ : ∃ z : Int32, z = (gm_j118 54 (3 * si.toNatClampNeg + (x5_118 : Int32).toNatClampNeg)) := ⟨_, rfl⟩
        refine W.eq (g2 := F0 m 170 ls [.int z_18, .int r_15, eV (ad 9) z_13, .int x5_118, .int (sg 14), .int 3, eV (ad 6) x]) (by rw [ez_18]) ?_
        have ez_18 := ez_18.trans (congrFun (hkg_j118 54 (by decide)) _)
        refine cm_callV (t := 6) (C := RX5) (T := TX5) (N := 13) (rest := []) (as := [.int 3, .int (sg 14), .int x5_118, eV (ad 9) z_13, .int r_15, .int z_18]) ⟨hx, hb, hml, hown, htb⟩ (d_tellValue l dC dI ad cid a2 lx sg_j118 gm_j118 lg x 3 (sg 14) x5_118 z_13 r_15 z_18 hI_j118 hsx0_118 h_14 hr_15 (by rw [(show gm_j118 25 = gm 25 from (hkg_j118 25 (by decide))), ez_13]; have := hct_r_10.1.2.2.1; omega)) (cwV 6 htb (gd_V kw_1058 kw_1059 kw_1060 kw_40 kw_1579) rfl rfl rfl (by decide +kernel) ⟨Nat.le_of_ble_eq_true rfl, Nat.le_of_ble_eq_true rfl⟩) hsx0_118 (by decide) (by decide) rfl rfl hl.1 rfl (Nat.le_trans cs_n (by decide)) dX5_bringToBe_170 ⟨Nat.le_of_ble_eq_true rfl, Nat.le_of_ble_eq_true rfl⟩ hK hP hD hS hA hG (fun E ce q9 u_20 H locs hw hP hD hS hce hcv hcl => ?_) (fun v9 u_20 H locs hw hP hD hS => ?_)
        · exact hw.elim
        obtain ⟨rfl, sgv_21, gmv_21, lgv_21, rfl, hIv_21, ksv_21, kgv_21, klv_21⟩ := hw
        obtain rfl := KS_nil klv_21
        have hP : va_P (dC, dI) vwCl (cW ad cid a2 lx sgv_21 gmv_21 lg) H := hP
        have hD : va_D A (cW ad cid a2 lx sgv_21 gmv_21 lg) := hD
        refine W.eq (g2 := F0 m 173 ls []) rfl ?_
        obtain ⟨z_22, ez_22⟩ : ∃ z : Int32, z = x5_118 + 1 := ⟨_, rfl⟩
        have hz_22 : iv 1 3 z_22 := iv_of ez_22 (iv_add h_5 (iv_k (by decide) : iv 1 1 1) (by decide))
        have tz_22 : z_22.toInt = x5_118.toInt + 1 := by rw [ez_22]; exact iv_addE h_5 (iv_k (by decide) : iv 1 1 1) (by decide)
        refine lv_iinc (v := z_22) (lv' := [(5, .int z_22), (6, .int z_7), (4, .int (sg 14)), (0, eV (ad 6) x), (1, eV (ad 10) b), (2, eV (ad 8) si), (3, .int dp)]) hx hb dX5_bringToBe_173 hl (k := 1) rfl ez_22.symm (by decide) rfl (fun ls hl => ?_)
        refine lv_goto (tgt := 118) hx hb dX5_bringToBe_176 (by decide) ?_
        exact ih118 _ (by rw [← hn118]; exact (iv_meas tz_22 h_5 (by decide))) sgv_21 gmv_21 z_22 rfl (iv_w hz_22 (by decide)) hsx4_118 hsx0_118 hsx1_118 hsx2_118 hsx3_118 (KS_tr (L := [13, 14]) (KS_tr (L := [13, 14]) KS_rf hks_j118 (by decide)) ksv_21 (by decide)) (KS_tr (L := [39, 48, 49, 50]) (KS_tr (L := [39, 48, 49, 50]) KS_rf hkg_j118 (by decide)) kgv_21 (by decide)) hIv_21 ((by obtain ⟨n9, q1, q2⟩ := h39; exact ⟨n9, ((show gmv_21 39 = gm_j118 39 from (kgv_21 39 (by decide)))).trans q1, q2⟩)) _ _ _ hP hD hS (lv_sub hl [0, 2, 3, 4, 5, 6] rfl)
  have hj115 : ∀ (sg_j115 : Nat → Int32) (gm_j115 : Nat → Nat → Int32) (_ : iv 0 59 (sg 14)) (_ : iv 0 0 x) (_ : iv 0 79 b) (_ : iv 0 63 si) (_ : iv 0 39 dp) (_ : KS [13, 14] sg sg_j115) (_ : KS [39, 48, 49, 50] gm gm_j115) (_ : CI sg_j115 gm_j115) (_ : ∃ n9 : Int32, gm_j115 39 = upd (gm 39) b.toNatClampNeg n9 ∧ 0 ≤ n9.toInt) (H : Heap) (locs : List Loc) (ls : Array Slot), va_P (dC, dI) vwCl (cW ad cid a2 lx sg_j115 gm_j115 lg) H → va_D A (cW ad cid a2 lx sg_j115 gm_j115 lg) → va_S A s.heap H locs → lv_has ls 7 [(4, .int (sg 14)), (0, eV (ad 6) x), (1, eV (ad 10) b), (2, eV (ad 8) si), (3, .int dp)] → W p l e (headSpec wm_X5_bringToBe ({ frames := 7, cells := 1, slots := 6, locals := 141 })).room s m ([eV (ad 6) x, eV (ad 10) b, eV (ad 8) si, .int dp] : List Value).toArray below meth c H locs 0 0 (vx_MQ below (cQx dC dI ad cid a2 lx (fun v u => v = none ∧ ∃ (sg2 : Nat → Int32) (gm2 : Nat → Nat → Int32) (lg2 : Nat → Nat → Int64), u = (sg2, gm2, lg2) ∧ CI sg2 gm2 ∧ KS [13, 14, 17, 18] sg sg2 ∧ KS [39, 48, 49, 50] gm gm2 ∧ KS [] lg lg2 ∧ (∃ n9 : Int32, gm2 39 = upd (gm 39) b.toNatClampNeg n9 ∧ 0 ≤ n9.toInt)) A) (cX dC dI ad cid a2 lx (fun E u => (E = "java/lang/UnsupportedOperationException") ∧ ∃ (sg2 : Nat → Int32) (gm2 : Nat → Nat → Int32) (lg2 : Nat → Nat → Int64), u = (sg2, gm2, lg2) ∧ CI sg2 gm2 ∧ KS [13, 14, 17, 18] sg sg2 ∧ KS [39, 48, 49, 50] gm gm2 ∧ KS [] lg lg2 ∧ (gm2 39 = gm 39)) A) ([eV (ad 6) x, eV (ad 10) b, eV (ad 8) si, .int dp] : List Value).toArray s 1 6 A) (F0 m 115 ls []) := by
    intro sg_j115 gm_j115 hsx4_115 hsx0_115 hsx1_115 hsx2_115 hsx3_115 hks_j115 hkg_j115 hI_j115 h39a H locs ls hP hD hS hl
    refine lv_iconst (v := 0) hx hb dX5_bringToBe_115 (by decide) ?_
    refine lv_istore (i := 5) (lv' := [(5, .int 0), (4, .int (sg 14)), (0, eV (ad 6) x), (1, eV (ad 10) b), (2, eV (ad 8) si), (3, .int dp)]) hx hb dX5_bringToBe_116 hl (by decide) rfl (fun ls hl => ?_)
    exact hj118 _ sg_j115 gm_j115 0 rfl (iv_w (iv_k (by decide) : iv 0 0 0) (by decide)) hsx4_115 hsx0_115 hsx1_115 hsx2_115 hsx3_115 (KS_tr (L := [13, 14]) KS_rf hks_j115 (by decide)) (KS_tr (L := [39, 48, 49, 50]) KS_rf hkg_j115 (by decide)) hI_j115 (h39a) _ _ _ hP hD hS (lv_sub hl [0, 1, 2, 3, 4, 5] rfl)
  refine ec_aload_n hx hb dX5_bringToBe_0 rfl (lv_at hl 0 rfl) ?_
  refine cr_get (t := 6) (j := 5) (C := RX5) (T := TX5) (N := 13) (v := .int (sg 14)) hx hb htb inX5 hown hK hP hvx (by decide) (by decide) (by decide) rfl (by decide) (htb _ kw_316) rfl dX5_bringToBe_1 ?_
  refine lv_bipush (v := 60) hx hb dX5_bringToBe_4 (by decide) ?_
  refine lv_icmp_lt (tgt := 16) hx hb dX5_bringToBe_6 (by decide) (fun c_23 => ?_) (fun c_23 => ?_)
  · have h_24 : iv 0 59 (sg 14) := iv_ltL c_23 (show iv 0 60 (sg 14) from CI_s hI 14) (iv_k (by decide) : iv 60 60 60) (by decide)
    refine ec_aload_n hx hb dX5_bringToBe_16 rfl (lv_at hl 0 rfl) ?_
    refine cr_get (t := 6) (j := 5) (C := RX5) (T := TX5) (N := 13) (v := .int (sg 14)) hx hb htb inX5 hown hK hP hvx (by decide) (by decide) (by decide) rfl (by decide) (htb _ kw_316) rfl dX5_bringToBe_17 ?_
    refine lv_istore (i := 4) (lv' := [(4, .int (sg 14)), (0, eV (ad 6) x), (1, eV (ad 10) b), (2, eV (ad 8) si), (3, .int dp)]) hx hb dX5_bringToBe_20 hl (by decide) rfl (fun ls hl => ?_)
    refine ec_aload_n hx hb dX5_bringToBe_22 rfl (lv_at hl 1 rfl) ?_
    refine lv_dup hx hb dX5_bringToBe_23 (eV_cat _ _) ?_
    refine cr_get (t := 6) (j := 5) (C := RX5) (T := TX5) (N := 13) (v := .int (sg 14)) hx hb htb inX5 hown hK hP hvx (by decide) (by decide) (by decide) rfl (by decide) (htb _ kw_316) rfl dX5_bringToBe_24 ?_
    refine lv_iconst (v := 1) hx hb dX5_bringToBe_27 (by decide) ?_
    refine lv_iadd hx hb dX5_bringToBe_28 ?_
    refine lv_topi (fun z_25 ez_25 => ?_)
    have hz_25 : iv 1 60 z_25 := iv_of ez_25 (iv_add h_24 (iv_k (by decide) : iv 1 1 1) (by decide))
    have tz_25 : z_25.toInt = ((sg 14) : Int32).toInt + 1 := by rw [ez_25]; exact iv_addE h_24 (iv_k (by decide) : iv 1 1 1) (by decide)
    refine cr_puts (t := 6) (j := 5) (C := RX5) (T := TX5) (N := 13) (ty0 := tyX5) (k := 14) (y := z_25) hx hb htb inX5 tyX5_ok nmX5 hown hK hP hD hS hvx (by decide) (by decide) (by decide) (by decide) rfl rfl rfl (by decide) (htb _ kw_316) rfl (by show Value.int z_25 = Value.int (va_up sg 14 z_25 14); rw [va_up_self]) rfl rfl dX5_bringToBe_29 (fun sg_26 H locs esg_26 hP hD hS => ?_)
    have hI_sg_26 := CI_put hI esg_26 hz_25 (by decide)
    refine ec_aload_n hx hb dX5_bringToBe_32 rfl (lv_at hl 1 rfl) ?_
    refine cr_get (t := 6) (j := 3) (C := RX5) (T := TX5) (N := 13) (v := eV (ad 22) 0) hx hb htb inX5 hown hK hP hvx (by decide) (by decide) (by decide) rfl (by decide) (htb _ kw_124) (cV_c rfl (by decide) (by rw [show cMu 6 3 = 0 from rfl, Nat.zero_mul]; rfl)) dX5_bringToBe_33 ?_
    refine lv_iload hx hb dX5_bringToBe_36 (lv_at hl 0 rfl) ?_
    refine ec_aload_n hx hb dX5_bringToBe_38 rfl (lv_at hl 3 rfl) ?_
    refine cr_get (t := 8) (j := 6) (C := RX8) (T := TX8) (N := 7) (v := .int (gm 10 si.toNatClampNeg)) hx hb htb inX8 hown hK hP hvsi (by decide) (by decide) (by decide) rfl (by decide) (htb _ kw_1119) rfl dX5_bringToBe_39 ?_
    obtain ⟨z_27, ez_27⟩ : ∃ z : Int32, z = (gm 10 si.toNatClampNeg) := ⟨_, rfl⟩
    refine W.eq (g2 := F0 m 42 ls [.int z_27, .int (sg 14), eV (ad 22) 0]) (by rw [ez_27]) ?_
    have hz_27 : iv 0 7 z_27 := iv_of ez_27 (CI_a hI_sg_26 10 hvsi (by decide))
    refine cr_iast (t := 22) (k := 49) (n9 := ((sg 14) : Int32).toNatClampNeg) (z := z_27) hx hb hK hP hD hS (iv_k (by decide) : iv 0 0 0) (by decide) (by decide) (by decide) rfl rfl rfl (show vp_in (sg 14) (cLen 22) from (show vp_in (sg 14) 60 from (iv_in h_24 (by decide)))) (Or.inl rfl) (by rw [show cAw 22 = 0 from rfl, Nat.zero_mul, Nat.zero_add]) dX5_bringToBe_42 (fun gm_28 H locs egm_28 hP hD hS => ?_)
    have hI_gm_28 := CI_st hI_sg_26 egm_28 hz_27 (by decide)
    refine ec_aload_n hx hb dX5_bringToBe_43 rfl (lv_at hl 1 rfl) ?_
    refine cr_get (t := 6) (j := 4) (C := RX5) (T := TX5) (N := 13) (v := eV (ad 23) 0) hx hb htb inX5 hown hK hP hvx (by decide) (by decide) (by decide) rfl (by decide) (htb _ kw_125) (cV_c rfl (by decide) (by rw [show cMu 6 4 = 0 from rfl, Nat.zero_mul]; rfl)) dX5_bringToBe_44 ?_
    refine lv_iload hx hb dX5_bringToBe_47 (lv_at hl 0 rfl) ?_
    refine ec_aload_n hx hb dX5_bringToBe_49 rfl (lv_at hl 2 rfl) ?_
    refine cr_get (t := 10) (j := 0) (C := RX1) (T := TX1) (N := 19) (v := .int (gm_28 28 b.toNatClampNeg)) hx hb htb inX1 hown hK hP hvb (by decide) (by decide) (by decide) rfl (by decide) (htb _ kw_1022) rfl dX5_bringToBe_50 ?_
    obtain ⟨z_29, ez_29⟩ : ∃ z : Int32, z = (gm_28 28 b.toNatClampNeg) := ⟨_, rfl⟩
    refine W.eq (g2 := F0 m 53 ls [.int z_29, .int (sg 14), eV (ad 23) 0]) (by rw [ez_29]) ?_
    have hz_29 : iv 0 79 z_29 := iv_of ez_29 (CI_a hI_gm_28 28 hvb (by decide))
    have ez_29 := ez_29.trans (congrFun (up_ne egm_28 (by decide)) _)
    refine cr_iast (t := 23) (k := 50) (n9 := ((sg 14) : Int32).toNatClampNeg) (z := z_29) hx hb hK hP hD hS (iv_k (by decide) : iv 0 0 0) (by decide) (by decide) (by decide) rfl rfl rfl (show vp_in (sg 14) (cLen 23) from (show vp_in (sg 14) 60 from (iv_in h_24 (by decide)))) (Or.inl rfl) (by rw [show cAw 23 = 0 from rfl, Nat.zero_mul, Nat.zero_add]) dX5_bringToBe_53 (fun gm_30 H locs egm_30 hP hD hS => ?_)
    have hI_gm_30 := CI_st hI_gm_28 egm_30 hz_29 (by decide)
    refine ec_aload_n hx hb dX5_bringToBe_54 rfl (lv_at hl 2 rfl) ?_
    refine lv_iload hx hb dX5_bringToBe_55 (lv_at hl 0 rfl) ?_
    refine cr_putg (t := 10) (j := 18) (C := RX1) (T := TX1) (N := 19) (ty0 := tyX1) (k := 39) (y := (sg 14)) hx hb htb inX1 tyX1_ok nmX1 hown hK hP hD hS hvb (by decide) (by decide) (by decide) (by decide) rfl rfl (by decide) (htb _ kw_1010) rfl (by show Value.int (sg 14) = Value.int (va_up gm_30 39 (upd (gm_30 39) b.toNatClampNeg (sg 14)) 39 b.toNatClampNeg); rw [va_up_self, upd_at]) rfl rfl dX5_bringToBe_57 (fun gm_31 H locs egm_31 hP hD hS => ?_)
    have hI_gm_31 := CI_st hI_gm_30 egm_31 h_24 (by decide)
    refine ec_aload_n hx hb dX5_bringToBe_60 rfl (lv_at hl 3 rfl) ?_
    refine cr_get (t := 8) (j := 4) (C := RX8) (T := TX8) (N := 7) (v := .int (gm_31 8 si.toNatClampNeg)) hx hb htb inX8 hown hK hP hvsi (by decide) (by decide) (by decide) rfl (by decide) (htb _ kw_1120) rfl dX5_bringToBe_61 ?_
    obtain ⟨z_32, ez_32⟩ : ∃ z : Int32, z = (gm_31 8 si.toNatClampNeg) := ⟨_, rfl⟩
    refine W.eq (g2 := F0 m 64 ls [.int z_32]) (by rw [ez_32]) ?_
    have hz_32 : iv (-1) 25 z_32 := iv_of ez_32 (CI_a hI_gm_31 8 hvsi (by decide))
    have ez_32 := ez_32.trans (congrFun (Eq.trans (Eq.trans (up_ne egm_31 (by decide)) (up_ne egm_30 (by decide))) (up_ne egm_28 (by decide))) _)
    refine lv_iconst (v := (-1)) hx hb dX5_bringToBe_64 (by decide) ?_
    refine lv_icmp_ne (tgt := 89) hx hb dX5_bringToBe_65 (by decide) (fun c_33 => ?_) (fun c_33 => ?_)
    · have h_34 : iv 0 25 z_32 := iv_neL c_33 hz_32 (by decide)
      refine ec_aload_n hx hb dX5_bringToBe_89 rfl (lv_at hl 1 rfl) ?_
      refine cr_get (t := 6) (j := 2) (C := RX5) (T := TX5) (N := 13) (v := eV (ad 5) 0) hx hb htb inX5 hown hK hP hvx (by decide) (by decide) (by decide) rfl (by decide) (htb _ kw_123) (cV_c rfl (by decide) (by rw [show cMu 6 2 = 0 from rfl, Nat.zero_mul]; rfl)) dX5_bringToBe_90 ?_
      refine lv_iconst (v := 2) hx hb dX5_bringToBe_93 (by decide) ?_
      refine lv_iload hx hb dX5_bringToBe_94 (lv_at hl 0 rfl) ?_
      refine ec_aload_n hx hb dX5_bringToBe_96 rfl (lv_at hl 3 rfl) ?_
      refine cr_get (t := 8) (j := 6) (C := RX8) (T := TX8) (N := 7) (v := .int (gm_31 10 si.toNatClampNeg)) hx hb htb inX8 hown hK hP hvsi (by decide) (by decide) (by decide) rfl (by decide) (htb _ kw_1119) rfl dX5_bringToBe_97 ?_
      refine W.eq (g2 := F0 m 100 ls [.int z_27, .int (sg 14), .int 2, eV (ad 5) 0]) (by rw [show (gm_31 10 si.toNatClampNeg) = z_27 from (Eq.trans (congrFun (Eq.trans (Eq.trans (up_ne egm_31 (by decide)) (up_ne egm_30 (by decide))) (up_ne egm_28 (by decide))) _) ez_27.symm)]) ?_
      refine lv_bipush (v := 8) hx hb dX5_bringToBe_100 (by decide) ?_
      refine ec_aload_n hx hb dX5_bringToBe_102 rfl (lv_at hl 3 rfl) ?_
      refine cr_get (t := 8) (j := 0) (C := RX8) (T := TX8) (N := 7) (v := .int (gm_31 5 si.toNatClampNeg)) hx hb htb inX8 hown hK hP hvsi (by decide) (by decide) (by decide) rfl (by decide) (htb _ kw_1122) rfl dX5_bringToBe_103 ?_
      obtain ⟨z_35, ez_35⟩ : ∃ z : Int32, z = (gm_31 5 si.toNatClampNeg) := ⟨_, rfl⟩
      refine W.eq (g2 := F0 m 106 ls [.int z_35, .int 8, .int z_27, .int (sg 14), .int 2, eV (ad 5) 0]) (by rw [ez_35]) ?_
      have hz_35 : iv 0 7 z_35 := iv_of ez_35 (CI_a hI_gm_31 5 hvsi (by decide))
      have ez_35 := ez_35.trans (congrFun (Eq.trans (Eq.trans (up_ne egm_31 (by decide)) (up_ne egm_30 (by decide))) (up_ne egm_28 (by decide))) _)
      refine lv_imul hx hb dX5_bringToBe_106 ?_
      refine lv_topi (fun z_36 ez_36 => ?_)
      have hz_36 : iv 0 56 z_36 := iv_of ez_36 (iv_mul (iv_k (by decide) : iv 8 8 8) hz_35 (by decide))
      have tz_36 : z_36.toInt = 8 * (z_35 : Int32).toInt := by rw [ez_36]; exact iv_mulE (iv_k (by decide) : iv 8 8 8) hz_35 (by decide)
      refine ec_aload_n hx hb dX5_bringToBe_107 rfl (lv_at hl 3 rfl) ?_
      refine cr_get (t := 8) (j := 1) (C := RX8) (T := TX8) (N := 7) (v := .int (gm_31 6 si.toNatClampNeg)) hx hb htb inX8 hown hK hP hvsi (by decide) (by decide) (by decide) rfl (by decide) (htb _ kw_1121) rfl dX5_bringToBe_108 ?_
      obtain ⟨z_37, ez_37⟩ : ∃ z : Int32, z = (gm_31 6 si.toNatClampNeg) := ⟨_, rfl⟩
      refine W.eq (g2 := F0 m 111 ls [.int z_37, .int z_36, .int z_27, .int (sg 14), .int 2, eV (ad 5) 0]) (by rw [ez_37]) ?_
      have hz_37 : iv 0 3 z_37 := iv_of ez_37 (CI_a hI_gm_31 6 hvsi (by decide))
      have ez_37 := ez_37.trans (congrFun (Eq.trans (Eq.trans (up_ne egm_31 (by decide)) (up_ne egm_30 (by decide))) (up_ne egm_28 (by decide))) _)
      refine lv_iadd hx hb dX5_bringToBe_111 ?_
      refine lv_topi (fun z_38 ez_38 => ?_)
      have hz_38 : iv 0 59 z_38 := iv_of ez_38 (iv_add hz_36 hz_37 (by decide))
      have tz_38 : z_38.toInt = (z_36 : Int32).toInt + (z_37 : Int32).toInt := by rw [ez_38]; exact iv_addE hz_36 hz_37 (by decide)
      refine cm_callV (t := 5) (C := RX4) (T := TX4) (N := 2) (rest := []) (as := [.int 2, .int (sg 14), .int z_27, .int z_38]) ⟨hx, hb, hml, hown, htb⟩ (d_addEv l dC dI ad cid a2 lx sg_26 gm_31 lg 0 2 (sg 14) z_27 z_38 hI_gm_31 (iv_k (by decide) : iv 0 0 0)) (cwV 4 htb (gd_V kw_1069 kw_1070 kw_1071 kw_36 kw_1582) rfl rfl rfl (by decide +kernel) ⟨Nat.le_of_ble_eq_true rfl, Nat.le_of_ble_eq_true rfl⟩) (iv_k (by decide) : iv 0 0 0) (by decide) (by decide) rfl rfl hl.1 rfl (Nat.le_trans cs_n (by decide)) dX5_bringToBe_112 ⟨Nat.le_of_ble_eq_true rfl, Nat.le_of_ble_eq_true rfl⟩ hK hP hD hS hA hG (fun E ce q9 u_40 H locs hw hP hD hS hce hcv hcl => ?_) (fun v9 u_40 H locs hw hP hD hS => ?_)
      · exact hw.elim
      obtain ⟨rfl, sgv_41, gmv_41, lgv_41, rfl, hIv_41, ksv_41, kgv_41, klv_41⟩ := hw
      obtain rfl := KS_nil klv_41
      have hP : va_P (dC, dI) vwCl (cW ad cid a2 lx sgv_41 gmv_41 lg) H := hP
      have hD : va_D A (cW ad cid a2 lx sgv_41 gmv_41 lg) := hD
      refine W.eq (g2 := F0 m 115 ls []) rfl ?_
      exact hj115 sgv_41 gmv_41 h_24 hvx hvb hvsi hvdp (KS_tr (L := [13, 14]) (KS_up KS_rf esg_26 (by decide)) ksv_41 (by decide)) (KS_tr (L := [39, 48, 49, 50]) (KS_up (KS_up (KS_up KS_rf egm_28 (by decide)) egm_30 (by decide)) egm_31 (by decide)) kgv_41 (by decide)) hIv_41 (⟨_, (show gmv_41 39 = upd (gm 39) (b : Int32).toNatClampNeg (sg 14) from ((kgv_41 39 (by decide)).trans ((up_at egm_31).trans (by rw [show gm_30 39 = gm 39 from ((up_ne egm_30 (by decide)).trans ((up_ne egm_28 (by decide)).trans rfl))])))), by have := i32_0; have := i32_1; have := i32_2; have := i32_m1; have := (hvx).1; have := (hvx).2; have := (hvb).1; have := (hvb).2; have := (hvsi).1; have := (hvsi).2; have := (hvdp).1; have := (hvdp).2; have := (h_24).1; have := (h_24).2; have := (hz_25).1; have := (hz_25).2; have := (hz_27).1; have := (hz_27).2; have := (hz_29).1; have := (hz_29).2; have := (h_34).1; have := (h_34).2; have := (hz_35).1; have := (hz_35).2; have := (hz_36).1; have := (hz_36).2; have := (hz_37).1; have := (hz_37).2; have := (hz_38).1; have := (hz_38).2; omega⟩) _ _ _ hP hD hS (lv_sub hl [0, 1, 2, 3, 4] rfl)
    · have h_42 : iv (-1) (-1) z_32 := iv_eq c_33 hz_32 (iv_k (by decide) : iv (-1) (-1) (-1)) (by decide)
      refine ec_aload_n hx hb dX5_bringToBe_68 rfl (lv_at hl 1 rfl) ?_
      refine cr_get (t := 6) (j := 2) (C := RX5) (T := TX5) (N := 13) (v := eV (ad 5) 0) hx hb htb inX5 hown hK hP hvx (by decide) (by decide) (by decide) rfl (by decide) (htb _ kw_123) (cV_c rfl (by decide) (by rw [show cMu 6 2 = 0 from rfl, Nat.zero_mul]; rfl)) dX5_bringToBe_69 ?_
      refine lv_iconst (v := 1) hx hb dX5_bringToBe_72 (by decide) ?_
      refine lv_iload hx hb dX5_bringToBe_73 (lv_at hl 0 rfl) ?_
      refine ec_aload_n hx hb dX5_bringToBe_75 rfl (lv_at hl 3 rfl) ?_
      refine cr_get (t := 8) (j := 6) (C := RX8) (T := TX8) (N := 7) (v := .int (gm_31 10 si.toNatClampNeg)) hx hb htb inX8 hown hK hP hvsi (by decide) (by decide) (by decide) rfl (by decide) (htb _ kw_1119) rfl dX5_bringToBe_76 ?_
      refine W.eq (g2 := F0 m 79 ls [.int z_27, .int (sg 14), .int 1, eV (ad 5) 0]) (by rw [show (gm_31 10 si.toNatClampNeg) = z_27 from (Eq.trans (congrFun (Eq.trans (Eq.trans (up_ne egm_31 (by decide)) (up_ne egm_30 (by decide))) (up_ne egm_28 (by decide))) _) ez_27.symm)]) ?_
      refine ec_aload_n hx hb dX5_bringToBe_79 rfl (lv_at hl 3 rfl) ?_
      refine cr_get (t := 8) (j := 1) (C := RX8) (T := TX8) (N := 7) (v := .int (gm_31 6 si.toNatClampNeg)) hx hb htb inX8 hown hK hP hvsi (by decide) (by decide) (by decide) rfl (by decide) (htb _ kw_1121) rfl dX5_bringToBe_80 ?_
      obtain ⟨z_43, ez_43⟩ : ∃ z : Int32, z = (gm_31 6 si.toNatClampNeg) := ⟨_, rfl⟩
      refine W.eq (g2 := F0 m 83 ls [.int z_43, .int z_27, .int (sg 14), .int 1, eV (ad 5) 0]) (by rw [ez_43]) ?_
      have hz_43 : iv 0 3 z_43 := iv_of ez_43 (CI_a hI_gm_31 6 hvsi (by decide))
      have ez_43 := ez_43.trans (congrFun (Eq.trans (Eq.trans (up_ne egm_31 (by decide)) (up_ne egm_30 (by decide))) (up_ne egm_28 (by decide))) _)
      refine cm_callV (t := 5) (C := RX4) (T := TX4) (N := 2) (rest := []) (as := [.int 1, .int (sg 14), .int z_27, .int z_43]) ⟨hx, hb, hml, hown, htb⟩ (d_addEv l dC dI ad cid a2 lx sg_26 gm_31 lg 0 1 (sg 14) z_27 z_43 hI_gm_31 (iv_k (by decide) : iv 0 0 0)) (cwV 4 htb (gd_V kw_1069 kw_1070 kw_1071 kw_36 kw_1582) rfl rfl rfl (by decide +kernel) ⟨Nat.le_of_ble_eq_true rfl, Nat.le_of_ble_eq_true rfl⟩) (iv_k (by decide) : iv 0 0 0) (by decide) (by decide) rfl rfl hl.1 rfl (Nat.le_trans cs_n (by decide)) dX5_bringToBe_83 ⟨Nat.le_of_ble_eq_true rfl, Nat.le_of_ble_eq_true rfl⟩ hK hP hD hS hA hG (fun E ce q9 u_45 H locs hw hP hD hS hce hcv hcl => ?_) (fun v9 u_45 H locs hw hP hD hS => ?_)
      · exact hw.elim
      obtain ⟨rfl, sgv_46, gmv_46, lgv_46, rfl, hIv_46, ksv_46, kgv_46, klv_46⟩ := hw
      obtain rfl := KS_nil klv_46
      have hP : va_P (dC, dI) vwCl (cW ad cid a2 lx sgv_46 gmv_46 lg) H := hP
      have hD : va_D A (cW ad cid a2 lx sgv_46 gmv_46 lg) := hD
      refine W.eq (g2 := F0 m 86 ls []) rfl ?_
      refine lv_goto (tgt := 115) hx hb dX5_bringToBe_86 (by decide) ?_
      exact hj115 sgv_46 gmv_46 h_24 hvx hvb hvsi hvdp (KS_tr (L := [13, 14]) (KS_up KS_rf esg_26 (by decide)) ksv_46 (by decide)) (KS_tr (L := [39, 48, 49, 50]) (KS_up (KS_up (KS_up KS_rf egm_28 (by decide)) egm_30 (by decide)) egm_31 (by decide)) kgv_46 (by decide)) hIv_46 (⟨_, (show gmv_46 39 = upd (gm 39) (b : Int32).toNatClampNeg (sg 14) from ((kgv_46 39 (by decide)).trans ((up_at egm_31).trans (by rw [show gm_30 39 = gm 39 from ((up_ne egm_30 (by decide)).trans ((up_ne egm_28 (by decide)).trans rfl))])))), by have := i32_0; have := i32_1; have := i32_2; have := i32_m1; have := (hvx).1; have := (hvx).2; have := (hvb).1; have := (hvb).2; have := (hvsi).1; have := (hvsi).2; have := (hvdp).1; have := (hvdp).2; have := (h_24).1; have := (h_24).2; have := (hz_25).1; have := (hz_25).2; have := (hz_27).1; have := (hz_27).2; have := (hz_29).1; have := (hz_29).2; have := (h_42).1; have := (h_42).2; have := (hz_43).1; have := (hz_43).2; omega⟩) _ _ _ hP hD hS (lv_sub hl [0, 1, 2, 3, 4] rfl)
  · have h_47 : iv 60 60 (sg 14) := iv_leR (i32_ge c_23) (iv_k (by decide) : iv 60 60 60) (show iv 0 60 (sg 14) from CI_s hI 14) (by decide)
    refine ec_aload_n hx hb dX5_bringToBe_9 rfl (lv_at hl 0 rfl) ?_
    refine lv_bipush (v := 6) hx hb dX5_bringToBe_10 (by decide) ?_
    refine cm_callV (t := 6) (C := RX5) (T := TX5) (N := 13) (rest := []) (as := [.int 6]) ⟨hx, hb, hml, hown, htb⟩ (d_failWith l dC dI ad cid a2 lx sg gm lg hl9 x 6 hI hvx (iv_w (iv_k (by decide) : iv 6 6 6) (by decide))) (cwV 1 htb (gd_V kw_1018 kw_1019 kw_1020 kw_40 kw_1571) rfl rfl rfl (by decide +kernel) ⟨Nat.le_of_ble_eq_true rfl, Nat.le_of_ble_eq_true rfl⟩) hvx (by decide) (by decide) rfl rfl hl.1 rfl (Nat.le_trans cs_n (by decide)) dX5_bringToBe_12 ⟨Nat.le_of_ble_eq_true rfl, Nat.le_of_ble_eq_true rfl⟩ hK hP hD hS hA hG (fun E ce q9 u_49 H locs hw hP hD hS hce hcv hcl => ?_) (fun v9 u_49 H locs hw hP hD hS => ?_)
    · obtain ⟨hE, hw⟩ := hw
      obtain ⟨sgv_50, gmv_50, lgv_50, rfl, hIv_50, ksv_50, kgv_50, klv_50⟩ := hw
      obtain rfl := KS_nil kgv_50
      obtain rfl := KS_nil klv_50
      have hP : va_P (dC, dI) vwCl (cW ad cid a2 lx sgv_50 gm lg) H := hP
      have hD : va_D A (cW ad cid a2 lx sgv_50 gm lg) := hD
      exact vx_out (fun x hx9 => (hxt x hx9).elim) hlocks hce hcv hcl (fun t ht hal => ⟨⟨(sgv_50, gm, lg), ⟨hE, sgv_50, gm, lg, rfl, hIv_50, (KS_tr (L := [13, 14, 17, 18]) KS_rf ksv_50 (by decide)), KS_rf, KS_rf, (rfl)⟩, by rw [ht]; exact hP, va_K.moved hal hK, hD⟩, hS.F ht⟩) hS.2.2 (Nat.le_of_ble_eq_true rfl) (Nat.le_of_ble_eq_true rfl)
    obtain ⟨r_48, rfl, sgv_51, gmv_51, lgv_51, rfl, hIv_51, ksv_51, kgv_51, klv_51, fF_r_48⟩ := hw
    obtain rfl := KS_nil kgv_51
    obtain rfl := KS_nil klv_51
    have hP : va_P (dC, dI) vwCl (cW ad cid a2 lx sgv_51 gm lg) H := hP
    have hD : va_D A (cW ad cid a2 lx sgv_51 gm lg) := hD
    exact fF_r_48.elim
