section
set_option maxHeartbeats 4000000 in
set_option maxRecDepth 100000 in
theorem d_bringToBe9 (l : Launch) (dC : Nat → ClassId) (dI : Nat → Nat → Nat) (ad : Nat → Nat → Nat) (cid : Nat → ClassId) (a2 : Nat → Nat) (lx : List Nat) (sg : Nat → Int32) (gm : Nat → Nat → Int32) (lg : Nat → Nat → Int64) (hl9 : l.stackTraces = false) (x : Int32) (b : Int32) (si : Int32) (dp : Int32) (wg : Nat → Nat → Int32) (S : S9) (VS : List (List Int)) (fo : Int) (hI : CI sg gm) (hvx : iv 0 0 x) (hvb : iv 0 79 b) (hvsi : iv 0 63 si) (hvdp : iv 0 39 dp) (hLD : LDI lx gm) (hW : WRD sg gm lg) (hb12 : b.toInt < (sg 12).toInt) (hSPF : SPF (gm 53) (gm 41 (3 * b.toNatClampNeg + 0)).toNatClampNeg) (hN3 : (gm 41 (3 * b.toNatClampNeg + 0)).toNatClampNeg ≤ 3) (hcs : (gm 7 si.toNatClampNeg).toInt = (gm 41 (3 * b.toNatClampNeg + 0)).toInt) (hSW : st9 gm = wg) (hRC : RC wg lg S sg gm) (hVA : VA wg (zO S) gm b.toNatClampNeg dp.toNatClampNeg VS) (hch : chS wg lg b.toNatClampNeg fo (zO S) VS = some (si.toNatClampNeg, f53 gm)) : CMt dC dI ad cid a2 lx l yX5_bringToBe wm_X5_bringToBe ({ frames := 7, cells := 1, slots := 6, locals := 141 }) [eV (ad 6) x, eV (ad 10) b, eV (ad 8) si, .int dp] sg gm lg (fun v u => v = none ∧ ∃ (sg2 : Nat → Int32) (gm2 : Nat → Nat → Int32) (lg2 : Nat → Nat → Int64), u = (sg2, gm2, lg2) ∧ CI sg2 gm2 ∧ KS [13, 14, 17, 18] sg sg2 ∧ KS [39, 48, 49, 50] gm gm2 ∧ KS [] lg lg2 ∧ (∃ n9 : Int32, gm2 39 = upd (gm 39) b.toNatClampNeg n9 ∧ 0 ≤ n9.toInt) ∧ (∃ o9 S9_, (oBr wg lg b.toNatClampNeg fo VS S) = (some o9, S9_) ∧ RC wg lg S9_ sg2 gm2 ∧ (gm2 39 b.toNatClampNeg).toInt = o9 ∧ o9 < (sg2 14).toInt ∧ (sg 14).toInt ≤ (sg2 14).toInt)) (fun E u => (E = "java/lang/UnsupportedOperationException") ∧ ∃ (sg2 : Nat → Int32) (gm2 : Nat → Nat → Int32) (lg2 : Nat → Nat → Int64), u = (sg2, gm2, lg2) ∧ CI sg2 gm2 ∧ KS [13, 14, 17, 18] sg sg2 ∧ KS [39, 48, 49, 50] gm gm2 ∧ KS [] lg lg2 ∧ (gm2 39 = gm 39) ∧ ((oBr wg lg b.toNatClampNeg fo VS S) = (none, S)) ∧ (RC wg lg S sg2 gm2)) := by
  intro sz
  refine vx_ofW (cc := cX5_bringToBe) (maxL := 7) (ret := none) (by decide) rfl ?_
  intro p e s m args below meth c s₁ B hml hxt hv
  obtain ⟨rfl, hsz, hP, hK, hD0, hG⟩ := hv
  have hx := B.exec
  have hb := B.bytes
  have hr := B.returns
  have hts := atoms_spec (ws := wm_X5_bringToBe) B.pre
  have htb := fun (w : Cond) (h : w ∈ tb) => hts w (List.mem_cons_of_mem _ h)
  have hown : s.vm.findClass RX5 = some m.cls := findClass_of_methodNamed B.named
  have hlocks := B.notSynchronized
  subst hsz
  have hD := hD0.self (sz := s.heap.size)
  generalize hAe : va_A (cW ad cid a2 lx sg gm lg) s.heap.size = A at hD hG ⊢
  have hA : ∀ q : Nat, s.heap.size ≤ q → A q := fun q h => by rw [← hAe]; exact Or.inr h
  have hS : va_S A s.heap s.heap [] := va_S.rf
  have hl := lv_entry ([eV (ad 6) x, eV (ad 10) b, eV (ad 8) si, .int dp]) (n := 7) (by rw [show (lg_sl ([eV (ad 6) x, eV (ad 10) b, eV (ad 8) si, .int dp])).length = 4 from by simp [lg_sl, eV_cat, cat_i, cat_l]]; exact Nat.le_of_ble_eq_true rfl)
  rw [lg_entry_eq]
  generalize (lg_sl ([eV (ad 6) x, eV (ad 10) b, eV (ad 8) si, .int dp]) ++ List.replicate (7 - (lg_sl ([eV (ad 6) x, eV (ad 10) b, eV (ad 8) si, .int dp])).length) Slot.unset).toArray = ls at hl ⊢
  have hl : lv_has ls 7 [(0, eV (ad 6) x), (1, eV (ad 10) b), (2, eV (ad 8) si), (3, .int dp)] := by simp [lv_args, eV_cat, cat_i, cat_l] at hl; exact hl
  have hj118 : ∀ (n : Nat) (sg_j118 : Nat → Int32) (gm_j118 : Nat → Nat → Int32) (x5_118 : Int32) (_ : (3 - x5_118.toInt).toNat = n) (_ : iv 0 3 x5_118) (_ : iv 0 59 (sg 14)) (_ : iv 0 0 x) (_ : iv 0 79 b) (_ : iv 0 63 si) (_ : iv 0 39 dp) (_ : KS [13, 14] sg sg_j118) (_ : KS [39, 48, 49, 50] gm gm_j118) (_ : CI sg_j118 gm_j118) (_ : ∃ n9 : Int32, gm_j118 39 = upd (gm 39) b.toNatClampNeg n9 ∧ 0 ≤ n9.toInt ∧ n9 = sg 14) (_ : (sg 14).toInt < 60) (_ : ∃ S3, RC wg lg S3 sg_j118 gm_j118 ∧ (zO S3).length = (zO S).length + 1 ∧ tlA wg lg b.toNatClampNeg ((zO S).length : Int) VS (f53 gm) si.toNatClampNeg (wg 7 si.toNatClampNeg).toNatClampNeg 0 (oB2 wg b.toNatClampNeg si.toNatClampNeg S) = tlA wg lg b.toNatClampNeg ((zO S).length : Int) VS (f53 gm) si.toNatClampNeg ((wg 7 si.toNatClampNeg).toNatClampNeg - x5_118.toNatClampNeg) x5_118.toNatClampNeg S3) (H : Heap) (locs : List Loc) (ls : Array Slot), va_P (dC, dI) vwCl (cW ad cid a2 lx sg_j118 gm_j118 lg) H → va_D A (cW ad cid a2 lx sg_j118 gm_j118 lg) → va_S A s.heap H locs → lv_has ls 7 [(5, .int x5_118), (4, .int (sg 14)), (0, eV (ad 6) x), (1, eV (ad 10) b), (2, eV (ad 8) si), (3, .int dp)] → W p l e (headSpec wm_X5_bringToBe ({ frames := 7, cells := 1, slots := 6, locals := 141 })).room s m ([eV (ad 6) x, eV (ad 10) b, eV (ad 8) si, .int dp] : List Value).toArray below meth c H locs 0 0 (vx_MQ below (cQx dC dI ad cid a2 lx (fun v u => v = none ∧ ∃ (sg2 : Nat → Int32) (gm2 : Nat → Nat → Int32) (lg2 : Nat → Nat → Int64), u = (sg2, gm2, lg2) ∧ CI sg2 gm2 ∧ KS [13, 14, 17, 18] sg sg2 ∧ KS [39, 48, 49, 50] gm gm2 ∧ KS [] lg lg2 ∧ (∃ n9 : Int32, gm2 39 = upd (gm 39) b.toNatClampNeg n9 ∧ 0 ≤ n9.toInt) ∧ (∃ o9 S9_, (oBr wg lg b.toNatClampNeg fo VS S) = (some o9, S9_) ∧ RC wg lg S9_ sg2 gm2 ∧ (gm2 39 b.toNatClampNeg).toInt = o9 ∧ o9 < (sg2 14).toInt ∧ (sg 14).toInt ≤ (sg2 14).toInt)) A) (cX dC dI ad cid a2 lx (fun E u => (E = "java/lang/UnsupportedOperationException") ∧ ∃ (sg2 : Nat → Int32) (gm2 : Nat → Nat → Int32) (lg2 : Nat → Nat → Int64), u = (sg2, gm2, lg2) ∧ CI sg2 gm2 ∧ KS [13, 14, 17, 18] sg sg2 ∧ KS [39, 48, 49, 50] gm gm2 ∧ KS [] lg lg2 ∧ (gm2 39 = gm 39) ∧ ((oBr wg lg b.toNatClampNeg fo VS S) = (none, S)) ∧ (RC wg lg S sg2 gm2)) A) ([eV (ad 6) x, eV (ad 10) b, eV (ad 8) si, .int dp] : List Value).toArray s 1 6 A) (F0 m 118 ls []) := by
    intro n
    induction n using Nat.strongRecOn with
    | ind n ih118 =>
      intro sg_j118 gm_j118 x5_118 hn118 hx5_118 hsx4_118 hsx0_118 hsx1_118 hsx2_118 hsx3_118 hks_j118 hkg_j118 hI_j118 h39 h60 hTA H locs ls hP hD hS hl
      obtain ⟨S3, hR3, hO3, hT3⟩ := hTA
      refine lv_iload hx hb dX5_bringToBe_118 (lv_at hl 0 rfl) ?_
      refine ec_aload_n hx hb dX5_bringToBe_120 rfl (lv_at hl 4 rfl) ?_
      refine cr_get (t := 8) (j := 3) (C := RX8) (T := TX8) (N := 7) (v := .int (gm_j118 7 si.toNatClampNeg)) hx hb htb inX8 hown hK hP hsx2_118 (by decide) (by decide) (by decide) rfl (by decide) (htb _ kw_199) rfl dX5_bringToBe_121 ?_
      obtain ⟨z_1, ez_1⟩ : ∃ z : Int32, z = (gm_j118 7 si.toNatClampNeg) := ⟨_, rfl⟩
      refine W.eq (g2 := F0 m 124 ls [.int z_1, .int x5_118]) (by rw [ez_1]) ?_
      have hz_1 : iv 0 3 z_1 := iv_of ez_1 (CI_a hI_j118 7 hsx2_118 (by decide))
      have ez_1 := ez_1.trans (congrFun (hkg_j118 7 (by decide)) _)
      refine lv_icmp_ge (tgt := 179) hx hb dX5_bringToBe_124 (by decide) (fun c_2 => ?_) (fun c_2 => ?_)
      · have d_3 : (z_1 : Int32).toInt ≤ (x5_118 : Int32).toInt := Int32.le_iff_toInt_le.mp c_2
        exact W.nb (fun hN => W.widen (k := 1) (n := 6) (by decide) (by decide) (vx_ret (W.vret hx hb hr (fun t ht hW => ⟨⟨none, (sg_j118, gm_j118, lg), rfl, ⟨rfl, sg_j118, gm_j118, lg, rfl, hI_j118, (KS_tr (L := [13, 14, 17, 18]) KS_rf hks_j118 (by decide)), (KS_tr (L := [39, 48, 49, 50]) KS_rf hkg_j118 (by decide)), KS_rf, ((by obtain ⟨n9, q1, q2, q3⟩ := h39; exact ⟨n9, q1, q2⟩)), ((by obtain ⟨n9, q1, q2, q3⟩ := h39; refine ⟨_, _, oBr_s hch (by have := hRC.1.1; have := h60; omega), ?_, ?_, ?_, ?_⟩; (rw [tlA_e hT3 (hx5_118).1 (by have q7 := congrArg Int32.toInt (swt9 hSW ez_1 rfl); have k7 : (wg 7 si.toNatClampNeg).toNatClampNeg = (wg 7 si.toNatClampNeg).toInt.toNat := rfl; have := i32_0; have := i32_1; have := i32_2; have := i32_m1; have := (hsx0_118).1; have := (hsx0_118).2; have := (hsx1_118).1; have := (hsx1_118).2; have := (hsx2_118).1; have := (hsx2_118).2; have := (hsx3_118).1; have := (hsx3_118).2; have := (hx5_118).1; have := (hx5_118).2; have := (hsx4_118).1; have := (hsx4_118).2; have := (hz_1).1; have := (hz_1).2; omega)]; exact hR3); (rw [q1, upd_at, q3]; exact hRC.1.1); (have a1 := hR3.1.1; rw [hO3] at a1; omega); (have a1 := hR3.1.1; have a2 := hRC.1.1; rw [hO3] at a1; omega)))⟩, by rw [ht]; exact hP, va_K.moved hW.alike hK, hD⟩, hS.F ht, by rw [ht]; exact hN⟩) hS.2.2 dX5_bringToBe_179)))
      · have d_4 : (x5_118 : Int32).toInt < (z_1 : Int32).toInt := Int32.lt_iff_toInt_lt.mp (i32_lt c_2)
        have h_5 : iv 0 2 x5_118 := iv_ltL (i32_lt c_2) hx5_118 hz_1 (by decide)
        have h_6 : iv 1 3 z_1 := iv_ltR (i32_lt c_2) hx5_118 hz_1 (by decide)
        refine ec_aload_n hx hb dX5_bringToBe_127 rfl (lv_at hl 2 rfl) ?_
        refine cr_get (t := 6) (j := 9) (C := RX5) (T := TX5) (N := 13) (v := eV (ad 26) 0) hx hb htb inX5 hown hK hP hsx0_118 (by decide) (by decide) (by decide) rfl (by decide) (htb _ kw_413) (cV_c rfl (by decide) (by rw [show cMu 6 9 = 0 from rfl, Nat.zero_mul]; rfl)) dX5_bringToBe_128 ?_
        refine lv_iload hx hb dX5_bringToBe_131 (lv_at hl 0 rfl) ?_
        refine cr_iald (t := 26) (z := (gm_j118 53 (x5_118 : Int32).toNatClampNeg)) hx hb hK hP (iv_k (by decide) : iv 0 0 0) (by decide) (by decide) (by decide) rfl rfl (show vp_in x5_118 (cLen 26) from (show vp_in x5_118 3 from (iv_in h_5 (by decide)))) rfl dX5_bringToBe_133 ?_
        obtain ⟨z_7, ez_7⟩ : ∃ z : Int32, z = (gm_j118 53 (x5_118 : Int32).toNatClampNeg) := ⟨_, rfl⟩
        refine W.eq (g2 := F0 m 134 ls [.int z_7]) (by rw [ez_7]) ?_
        have hz_7 : iv (-1) 2 z_7 := iv_of ez_7 (CI_a hI_j118 53 h_5 (by decide))
        have ez_7 := ez_7.trans (congrFun (hkg_j118 53 (by decide)) _)
        have h_8 : iv 0 2 z_7 := ⟨by rw [ez_7]; exact (hSPF x5_118.toNatClampNeg (by have q8 := hcs; rw [← ez_1] at q8; have kna : (gm 41 (3 * b.toNatClampNeg + 0)).toNatClampNeg = (gm 41 (3 * b.toNatClampNeg + 0)).toInt.toNat := rfl; have q1 : x5_118.toNatClampNeg = x5_118.toInt.toNat := rfl; have := i32_0; have := i32_1; have := i32_2; have := i32_m1; have := (hsx0_118).1; have := (hsx0_118).2; have := (hsx1_118).1; have := (hsx1_118).2; have := (hsx2_118).1; have := (hsx2_118).2; have := (hsx3_118).1; have := (hsx3_118).2; have := (h_5).1; have := (h_5).2; have := (hsx4_118).1; have := (hsx4_118).2; have := (h_6).1; have := (h_6).2; have := (hz_7).1; have := (hz_7).2; omega)).1, (hz_7).2⟩
        refine lv_istore (i := 6) (lv' := [(6, .int z_7), (5, .int x5_118), (4, .int (sg 14)), (0, eV (ad 6) x), (1, eV (ad 10) b), (2, eV (ad 8) si), (3, .int dp)]) hx hb dX5_bringToBe_134 hl (by decide) rfl (fun ls hl => ?_)
        refine ec_aload_n hx hb dX5_bringToBe_136 rfl (lv_at hl 3 rfl) ?_
        refine lv_iconst (v := 3) hx hb dX5_bringToBe_137 (by decide) ?_
        refine lv_iload hx hb dX5_bringToBe_138 (lv_at hl 2 rfl) ?_
        refine lv_iload hx hb dX5_bringToBe_140 (lv_at hl 1 rfl) ?_
        refine ec_aload_n hx hb dX5_bringToBe_142 rfl (lv_at hl 4 rfl) ?_
        obtain ⟨q_9, hq_9, nq_9, tq_9⟩ := ix_mk (3 * b.toNatClampNeg + 0) 239 (by have q1 := iv_cl hsx1_118 (by decide); have q2 := (hsx1_118).2; omega) (by decide)
        refine cr_get (t := 10) (j := 1) (C := RX1) (T := TX1) (N := 19) (v := eV (ad 11) q_9) hx hb htb inX1 hown hK hP hsx1_118 (by decide) (by decide) (by decide) rfl (by decide) (htb _ kw_352) (cV_c rfl hq_9.1 nq_9) dX5_bringToBe_143 ?_
        refine lv_iload hx hb dX5_bringToBe_146 (lv_at hl 0 rfl) ?_
        refine cm_callV (t := 11) (C := RJx4a65c) (T := TJx4a65c) (N := 3) (rest := [.int x5_118, .int (sg 14), .int 3, eV (ad 6) x]) (as := [.int z_7]) ⟨hx, hb, hml, hown, htb⟩ (d_lget l dC dI ad cid a2 lx sg_j118 gm_j118 lg q_9 z_7 hI_j118 hq_9 (LDI_e hLD (hkg_j118 41 (by decide)) (hkg_j118 42 (by decide)) (hkg_j118 57 (by decide))) (by have := i32_0; have := i32_1; have := i32_2; have := i32_m1; have := (hsx0_118).1; have := (hsx0_118).2; have := (hsx1_118).1; have := (hsx1_118).2; have := (hsx2_118).1; have := (hsx2_118).2; have := (hsx3_118).1; have := (hsx3_118).2; have := (h_5).1; have := (h_5).2; have := (hsx4_118).1; have := (hsx4_118).2; have := (h_6).1; have := (h_6).2; have := (h_8).1; have := (h_8).2; have := (hq_9).1; have := (hq_9).2; omega) (by rw [(show gm_j118 41 = gm 41 from (hkg_j118 41 (by decide))), show q_9.toNatClampNeg = 3 * b.toNatClampNeg + 0 from nq_9]; have q1 := (hSPF x5_118.toNatClampNeg (by have q8 := hcs; rw [← ez_1] at q8; have kna : (gm 41 (3 * b.toNatClampNeg + 0)).toNatClampNeg = (gm 41 (3 * b.toNatClampNeg + 0)).toInt.toNat := rfl; have q1 : x5_118.toNatClampNeg = x5_118.toInt.toNat := rfl; have := i32_0; have := i32_1; have := i32_2; have := i32_m1; have := (hsx0_118).1; have := (hsx0_118).2; have := (hsx1_118).1; have := (hsx1_118).2; have := (hsx2_118).1; have := (hsx2_118).2; have := (hsx3_118).1; have := (hsx3_118).2; have := (h_5).1; have := (h_5).2; have := (hsx4_118).1; have := (hsx4_118).2; have := (h_6).1; have := (h_6).2; have := (h_8).1; have := (h_8).2; have := (hq_9).1; have := (hq_9).2; omega)).2; rw [← ez_7] at q1; have k9 : (gm 41 (3 * b.toNatClampNeg + 0)).toNatClampNeg = (gm 41 (3 * b.toNatClampNeg + 0)).toInt.toNat := rfl; have k8 := (show iv 0 80 (gm 41 (3 * b.toNatClampNeg + 0)) from CI_n hI 41 (show (3 * b.toNatClampNeg + 0) < crLen 41 from by have := (show b.toNatClampNeg < 80 from by have := iv_cl hvb (by decide); have := hvb.2; omega); show _ < 240; omega)).1; omega)) (cwV 1 htb (gd_V kw_906 kw_859 kw_860 kw_157 kw_1518) rfl rfl rfl (by decide +kernel) ⟨Nat.le_of_ble_eq_true rfl, Nat.le_of_ble_eq_true rfl⟩) hq_9 (by decide) (by decide) rfl rfl hl.1 rfl (Nat.le_trans (cs_c (cat_i _) (cs_c (cat_i _) (cs_c (cat_i _) (cs_c (eV_cat _ _) cs_n)))) (by decide)) dX5_bringToBe_148 ⟨Nat.le_of_ble_eq_true rfl, Nat.le_of_ble_eq_true rfl⟩ hK hP hD hS hA hG (fun E ce q9 u_11 H locs hw hP hD hS hce hcv hcl => ?_) (fun v9 u_11 H locs hw hP hD hS => ?_)
        · exact hw.elim
        obtain ⟨r_10, rfl, rfl, hr_10, fr_r_10⟩ := hw
        have hP : va_P (dC, dI) vwCl (cW ad cid a2 lx sg_j118 gm_j118 lg) H := hP
        have hD : va_D A (cW ad cid a2 lx sg_j118 gm_j118 lg) := hD
        refine W.eq (g2 := F0 m 151 ls [eV (ad 9) r_10, .int x5_118, .int (sg 14), .int 3, eV (ad 6) x]) rfl ?_
        have fr_r_10 := fr_r_10.trans (congrFun (show gm_j118 57 = gm 57 from (hkg_j118 57 (by decide))) _)
        have fa_r_10 : r_10 = gm 57 (128 * (3 * b.toNatClampNeg + 0) + z_7.toNatClampNeg) := by rw [fr_r_10, show q_9.toNatClampNeg = 3 * b.toNatClampNeg + 0 from nq_9]
        have hai_r_10 : z_7.toNatClampNeg < (gm 41 (3 * b.toNatClampNeg + 0)).toNatClampNeg := (by have q1 := (hSPF x5_118.toNatClampNeg (by have q8 := hcs; rw [← ez_1] at q8; have kna : (gm 41 (3 * b.toNatClampNeg + 0)).toNatClampNeg = (gm 41 (3 * b.toNatClampNeg + 0)).toInt.toNat := rfl; have q1 : x5_118.toNatClampNeg = x5_118.toInt.toNat := rfl; have := i32_0; have := i32_1; have := i32_2; have := i32_m1; have := (hsx0_118).1; have := (hsx0_118).2; have := (hsx1_118).1; have := (hsx1_118).2; have := (hsx2_118).1; have := (hsx2_118).2; have := (hsx3_118).1; have := (hsx3_118).2; have := (h_5).1; have := (h_5).2; have := (hsx4_118).1; have := (hsx4_118).2; have := (h_6).1; have := (h_6).2; have := (h_8).1; have := (h_8).2; have := (hq_9).1; have := (hq_9).2; have := (hr_10).1; have := (hr_10).2; omega)).2; rw [← ez_7] at q1; have q1 : z_7.toNatClampNeg = z_7.toInt.toNat := rfl; have := i32_0; have := i32_1; have := i32_2; have := i32_m1; have := (hsx0_118).1; have := (hsx0_118).2; have := (hsx1_118).1; have := (hsx1_118).2; have := (hsx2_118).1; have := (hsx2_118).2; have := (hsx3_118).1; have := (hsx3_118).2; have := (h_5).1; have := (h_5).2; have := (hsx4_118).1; have := (hsx4_118).2; have := (h_6).1; have := (h_6).2; have := (h_8).1; have := (h_8).2; have := (hq_9).1; have := (hq_9).2; have := (hr_10).1; have := (hr_10).2; omega)
        have hct_r_10 := arg_in (k := 0) (w := 3) hI hW hLD (Or.inl ⟨rfl, rfl⟩) (lt_cl hvb (show iv 0 80 (sg 12) from CI_s hI 12) (by decide) (by decide) hb12) hai_r_10
        rw [← fa_r_10] at hct_r_10
        refine cl_cast hx hb hG hown (htb _ kw_907) hK hP hr_10 (by decide) dX5_bringToBe_151 ?_
        refine cr_get (t := 9) (j := 19) (C := RX3) (T := TX3) (N := 21) (v := eV (ad 9) (gm_j118 26 r_10.toNatClampNeg)) hx hb htb inX3 hown hK hP hr_10 (by decide) (by decide) (by decide) rfl (by decide) (htb _ kw_293) rfl dX5_bringToBe_154 ?_
        obtain ⟨z_13, ez_13⟩ : ∃ z : Int32, z = (gm_j118 26 r_10.toNatClampNeg) := ⟨_, rfl⟩
        refine W.eq (g2 := F0 m 157 ls [eV (ad 9) z_13, .int x5_118, .int (sg 14), .int 3, eV (ad 6) x]) (by rw [ez_13]) ?_
        have hz_13 : iv (-1) 79 z_13 := iv_of ez_13 (CI_a hI_j118 26 hr_10 (by decide))
        have ez_13 := ez_13.trans (congrFun (hkg_j118 26 (by decide)) _)
        have h_14 : iv 0 79 z_13 := ⟨by rw [ez_13]; exact hct_r_10.1.1, (hz_13).2⟩
        refine lv_iload_n hx hb dX5_bringToBe_157 rfl (lv_at hl 6 rfl) ?_
        refine lv_iload hx hb dX5_bringToBe_158 (lv_at hl 0 rfl) ?_
        refine cm_callS (rest := [eV (ad 9) z_13, .int x5_118, .int (sg 14), .int 3, eV (ad 6) x]) (as := [.int dp, .int z_7]) ⟨hx, hb, hml, hown, htb⟩ (d_slot l dC dI ad cid a2 lx sg_j118 gm_j118 lg dp z_7 hI_j118 hsx3_118 (iv_w h_8 (by decide))) (va_cwS 2 htb (gd_S kw_908 kw_909 kw_159 kw_1533) rfl rfl rfl (by decide +kernel) ⟨Nat.le_of_ble_eq_true rfl, Nat.le_of_ble_eq_true rfl⟩)  rfl hl.1 rfl (Nat.le_trans (cs_c (eV_cat _ _) (cs_c (cat_i _) (cs_c (cat_i _) (cs_c (cat_i _) (cs_c (eV_cat _ _) cs_n))))) (by decide)) dX5_bringToBe_160 ⟨Nat.le_of_ble_eq_true rfl, Nat.le_of_ble_eq_true rfl⟩ hK hP hD hS hA hG (fun E ce q9 u_16 H locs hw hP hD hS hce hcv hcl => ?_) (fun v9 u_16 H locs hw hP hD hS => ?_)
        · exact hw.elim
        obtain ⟨r_15, rfl, rfl, hr_15, fs_r_15⟩ := hw
        have hP : va_P (dC, dI) vwCl (cW ad cid a2 lx sg_j118 gm_j118 lg) H := hP
        have hD : va_D A (cW ad cid a2 lx sg_j118 gm_j118 lg) := hD
        refine W.eq (g2 := F0 m 163 ls [.int r_15, eV (ad 9) z_13, .int x5_118, .int (sg 14), .int 3, eV (ad 6) x]) rfl ?_
        refine ec_aload_n hx hb dX5_bringToBe_163 rfl (lv_at hl 5 rfl) ?_
        refine cr_get (t := 8) (j := 2) (C := RX8) (T := TX8) (N := 7) (v := eV (ad 27) si) hx hb htb inX8 hown hK hP hsx2_118 (by decide) (by decide) (by decide) rfl (by decide) (htb _ kw_197) (cV_c rfl (hsx2_118).1 (by rw [show cMu 8 2 = 1 from rfl, Nat.one_mul]; rfl)) dX5_bringToBe_164 ?_
        refine lv_iload hx hb dX5_bringToBe_167 (lv_at hl 1 rfl) ?_
        refine cr_iald (t := 27) (z := (gm_j118 54 (3 * si.toNatClampNeg + (x5_118 : Int32).toNatClampNeg))) hx hb hK hP hsx2_118 (by decide) (by decide) (by decide) rfl rfl (show vp_in x5_118 (cLen 27) from (show vp_in x5_118 3 from (iv_in h_5 (by decide)))) (cAi_w rfl (by decide) rfl (vin_lt (show vp_in x5_118 (cLen 27) from (show vp_in x5_118 3 from (iv_in h_5 (by decide)))))) dX5_bringToBe_169 ?_
        obtain ⟨z_18, ez_18⟩ : ∃ z : Int32, z = (gm_j118 54 (3 * si.toNatClampNeg + (x5_118 : Int32).toNatClampNeg)) := ⟨_, rfl⟩
        refine W.eq (g2 := F0 m 170 ls [.int z_18, .int r_15, eV (ad 9) z_13, .int x5_118, .int (sg 14), .int 3, eV (ad 6) x]) (by rw [ez_18]) ?_
        have ez_18 := ez_18.trans (congrFun (hkg_j118 54 (by decide)) _)
        refine cm_callV (t := 6) (C := RX5) (T := TX5) (N := 13) (rest := []) (as := [.int 3, .int (sg 14), .int x5_118, eV (ad 9) z_13, .int r_15, .int z_18]) ⟨hx, hb, hml, hown, htb⟩ (d_tellValue9 l dC dI ad cid a2 lx sg_j118 gm_j118 lg x 3 (sg 14) x5_118 z_13 r_15 z_18 wg S3 ((VS[z_7.toNatClampNeg]?).getD []) hI_j118 hsx0_118 h_14 hr_15 ((st9_ks (L := [39, 48, 49, 50]) (KS_tr (L := [39, 48, 49, 50]) KS_rf hkg_j118 (by decide)) (by decide)).trans hSW) hR3 (by rw [(show gm_j118 25 = gm 25 from (hkg_j118 25 (by decide))), ez_13]; have := hct_r_10.1.2.2.1; omega) (VOK_m (by have q9 := (hVA z_7.toNatClampNeg (by rw [(show (wg 41 (3 * b.toNatClampNeg)).toNatClampNeg = (gm 41 (3 * b.toNatClampNeg + 0)).toNatClampNeg from congrArg Int32.toNatClampNeg (sw9 hSW 41 rfl _))]; exact hai_r_10)).1; rw [(show ctE wg (wg 57 (128 * (3 * b.toNatClampNeg) + z_7.toNatClampNeg)).toNatClampNeg = z_13.toNatClampNeg from (by rw [show wg 57 (128 * (3 * b.toNatClampNeg) + z_7.toNatClampNeg) = r_10 from (by rw [sw9 hSW 57 rfl]; exact fa_r_10.symm)]; unfold ctE; rw [(swt9 hSW ez_13 rfl)]))] at q9; exact q9) (by rw [hO3]; omega)) (WVL_e (by have q9 := (hVA z_7.toNatClampNeg (by rw [(show (wg 41 (3 * b.toNatClampNeg)).toNatClampNeg = (gm 41 (3 * b.toNatClampNeg + 0)).toNatClampNeg from congrArg Int32.toNatClampNeg (sw9 hSW 41 rfl _))]; exact hai_r_10)).2.1; rw [show r_15.toNatClampNeg = 24 * dp.toNatClampNeg + 6 * z_7.toNatClampNeg from (by have q2 := fs_r_15; have q3 : dp.toNatClampNeg = dp.toInt.toNat := rfl; have q1 : z_7.toNatClampNeg = z_7.toInt.toNat := rfl; have q1 : r_15.toNatClampNeg = r_15.toInt.toNat := rfl; have := i32_0; have := i32_1; have := i32_2; have := i32_m1; have := (hsx0_118).1; have := (hsx0_118).2; have := (hsx1_118).1; have := (hsx1_118).2; have := (hsx2_118).1; have := (hsx2_118).2; have := (hsx3_118).1; have := (hsx3_118).2; have := (h_5).1; have := (h_5).2; have := (hsx4_118).1; have := (hsx4_118).2; have := (h_6).1; have := (h_6).2; have := (h_8).1; have := (h_8).2; have := (hq_9).1; have := (hq_9).2; have := (hr_10).1; have := (hr_10).2; have := (h_14).1; have := (h_14).2; have := (hr_15).1; have := (hr_15).2; omega)]; exact q9) (hkg_j118 52 (by decide))) (by have q9 := (hVA z_7.toNatClampNeg (by rw [(show (wg 41 (3 * b.toNatClampNeg)).toNatClampNeg = (gm 41 (3 * b.toNatClampNeg + 0)).toNatClampNeg from congrArg Int32.toNatClampNeg (sw9 hSW 41 rfl _))]; exact hai_r_10)).2.2; rw [(show ctE wg (wg 57 (128 * (3 * b.toNatClampNeg) + z_7.toNatClampNeg)).toNatClampNeg = z_13.toNatClampNeg from (by rw [show wg 57 (128 * (3 * b.toNatClampNeg) + z_7.toNatClampNeg) = r_10 from (by rw [sw9 hSW 57 rfl]; exact fa_r_10.symm)]; unfold ctE; rw [(swt9 hSW ez_13 rfl)]))] at q9; exact q9)) (cwV 6 htb (gd_V kw_952 kw_953 kw_64 kw_159 kw_1549) rfl rfl rfl (by decide +kernel) ⟨Nat.le_of_ble_eq_true rfl, Nat.le_of_ble_eq_true rfl⟩) hsx0_118 (by decide) (by decide) rfl rfl hl.1 rfl (Nat.le_trans cs_n (by decide)) dX5_bringToBe_170 ⟨Nat.le_of_ble_eq_true rfl, Nat.le_of_ble_eq_true rfl⟩ hK hP hD hS hA hG (fun E ce q9 u_20 H locs hw hP hD hS hce hcv hcl => ?_) (fun v9 u_20 H locs hw hP hD hS => ?_)
        · exact hw.elim
        obtain ⟨rfl, sgv_21, gmv_21, lgv_21, rfl, hIv_21, ksv_21, kgv_21, klv_21, fR_r_19⟩ := hw
        obtain rfl := KS_nil klv_21
        have hP : va_P (dC, dI) vwCl (cW ad cid a2 lx sgv_21 gmv_21 lg) H := hP
        have hD : va_D A (cW ad cid a2 lx sgv_21 gmv_21 lg) := hD
        refine W.eq (g2 := F0 m 173 ls []) rfl ?_
        obtain ⟨z_22, ez_22⟩ : ∃ z : Int32, z = x5_118 + 1 := ⟨_, rfl⟩
        have hz_22 : iv 1 3 z_22 := iv_of ez_22 (iv_add h_5 (iv_k (by decide) : iv 1 1 1) (by decide))
        have tz_22 : z_22.toInt = x5_118.toInt + 1 := by rw [ez_22]; exact iv_addE h_5 (iv_k (by decide) : iv 1 1 1) (by decide)
        refine lv_iinc (v := z_22) (lv' := [(5, .int z_22), (6, .int z_7), (4, .int (sg 14)), (0, eV (ad 6) x), (1, eV (ad 10) b), (2, eV (ad 8) si), (3, .int dp)]) hx hb dX5_bringToBe_173 hl (k := 1) rfl ez_22.symm (by decide) rfl (fun ls hl => ?_)
        refine lv_goto (tgt := 118) hx hb dX5_bringToBe_176 (by decide) ?_
        exact ih118 _ (by rw [← hn118]; exact (iv_meas tz_22 h_5 (by decide))) sgv_21 gmv_21 z_22 rfl (iv_w hz_22 (by decide)) hsx4_118 hsx0_118 hsx1_118 hsx2_118 hsx3_118 (KS_tr (L := [13, 14]) (KS_tr (L := [13, 14]) KS_rf hks_j118 (by decide)) ksv_21 (by decide)) (KS_tr (L := [39, 48, 49, 50]) (KS_tr (L := [39, 48, 49, 50]) KS_rf hkg_j118 (by decide)) kgv_21 (by decide)) hIv_21 ((by obtain ⟨n9, q1, q2, q3⟩ := h39; exact ⟨n9, ((show gmv_21 39 = gm_j118 39 from (kgv_21 39 (by decide)))).trans q1, q2, q3⟩)) (h60) (⟨_, fR_r_19, (by rw [tlV_O]; exact hO3), tlA_st hT3 (h_5).1 (by have q7 := congrArg Int32.toInt (swt9 hSW ez_1 rfl); have k7 : (wg 7 si.toNatClampNeg).toNatClampNeg = (wg 7 si.toNatClampNeg).toInt.toNat := rfl; have := i32_0; have := i32_1; have := i32_2; have := i32_m1; have := (hsx0_118).1; have := (hsx0_118).2; have := (hsx1_118).1; have := (hsx1_118).2; have := (hsx2_118).1; have := (hsx2_118).2; have := (hsx3_118).1; have := (hsx3_118).2; have := (h_5).1; have := (h_5).2; have := (hsx4_118).1; have := (hsx4_118).2; have := (h_6).1; have := (h_6).2; have := (h_8).1; have := (h_8).2; have := (hq_9).1; have := (hq_9).2; have := (hr_10).1; have := (hr_10).2; have := (h_14).1; have := (h_14).2; have := (hr_15).1; have := (hr_15).2; have := (hz_22).1; have := (hz_22).2; omega) tz_22 (by decide) hRC.1.1 (by rw [f53_at (by have q1 : x5_118.toNatClampNeg = x5_118.toInt.toNat := rfl; have := i32_0; have := i32_1; have := i32_2; have := i32_m1; have := (hsx0_118).1; have := (hsx0_118).2; have := (hsx1_118).1; have := (hsx1_118).2; have := (hsx2_118).1; have := (hsx2_118).2; have := (hsx3_118).1; have := (hsx3_118).2; have := (h_5).1; have := (h_5).2; have := (hsx4_118).1; have := (hsx4_118).2; have := (h_6).1; have := (h_6).2; have := (h_8).1; have := (h_8).2; have := (hq_9).1; have := (hq_9).2; have := (hr_10).1; have := (hr_10).2; have := (h_14).1; have := (h_14).2; have := (hr_15).1; have := (hr_15).2; have := (hz_22).1; have := (hz_22).2; omega), ← ez_7]; rfl) (liL_a (gm := gm) (z := r_10) (by rw [(show (wg 41 (3 * b.toNatClampNeg)).toNatClampNeg = (gm 41 (3 * b.toNatClampNeg + 0)).toNatClampNeg from congrArg Int32.toNatClampNeg (sw9 hSW 41 rfl _))]; exact hai_r_10) (by rw [sw9 hSW 57 rfl]; exact fa_r_10)) (show ctE wg r_10.toNatClampNeg = z_13.toNatClampNeg from (by unfold ctE; rw [(swt9 hSW ez_13 rfl)])) (congrArg Int32.toInt (show wg 54 (3 * si.toNatClampNeg + x5_118.toNatClampNeg) = z_18 from swt9 hSW ez_18 rfl))⟩) _ _ _ hP hD hS (lv_sub hl [0, 2, 3, 4, 5, 6] rfl)
  have hj115 : ∀ (sg_j115 : Nat → Int32) (gm_j115 : Nat → Nat → Int32) (_ : iv 0 59 (sg 14)) (_ : iv 0 0 x) (_ : iv 0 79 b) (_ : iv 0 63 si) (_ : iv 0 39 dp) (_ : KS [13, 14] sg sg_j115) (_ : KS [39, 48, 49, 50] gm gm_j115) (_ : CI sg_j115 gm_j115) (_ : ∃ n9 : Int32, gm_j115 39 = upd (gm 39) b.toNatClampNeg n9 ∧ 0 ≤ n9.toInt ∧ n9 = sg 14) (_ : (sg 14).toInt < 60) (_ : RC wg lg (oB2 wg b.toNatClampNeg si.toNatClampNeg S) sg_j115 gm_j115) (H : Heap) (locs : List Loc) (ls : Array Slot), va_P (dC, dI) vwCl (cW ad cid a2 lx sg_j115 gm_j115 lg) H → va_D A (cW ad cid a2 lx sg_j115 gm_j115 lg) → va_S A s.heap H locs → lv_has ls 7 [(4, .int (sg 14)), (0, eV (ad 6) x), (1, eV (ad 10) b), (2, eV (ad 8) si), (3, .int dp)] → W p l e (headSpec wm_X5_bringToBe ({ frames := 7, cells := 1, slots := 6, locals := 141 })).room s m ([eV (ad 6) x, eV (ad 10) b, eV (ad 8) si, .int dp] : List Value).toArray below meth c H locs 0 0 (vx_MQ below (cQx dC dI ad cid a2 lx (fun v u => v = none ∧ ∃ (sg2 : Nat → Int32) (gm2 : Nat → Nat → Int32) (lg2 : Nat → Nat → Int64), u = (sg2, gm2, lg2) ∧ CI sg2 gm2 ∧ KS [13, 14, 17, 18] sg sg2 ∧ KS [39, 48, 49, 50] gm gm2 ∧ KS [] lg lg2 ∧ (∃ n9 : Int32, gm2 39 = upd (gm 39) b.toNatClampNeg n9 ∧ 0 ≤ n9.toInt) ∧ (∃ o9 S9_, (oBr wg lg b.toNatClampNeg fo VS S) = (some o9, S9_) ∧ RC wg lg S9_ sg2 gm2 ∧ (gm2 39 b.toNatClampNeg).toInt = o9 ∧ o9 < (sg2 14).toInt ∧ (sg 14).toInt ≤ (sg2 14).toInt)) A) (cX dC dI ad cid a2 lx (fun E u => (E = "java/lang/UnsupportedOperationException") ∧ ∃ (sg2 : Nat → Int32) (gm2 : Nat → Nat → Int32) (lg2 : Nat → Nat → Int64), u = (sg2, gm2, lg2) ∧ CI sg2 gm2 ∧ KS [13, 14, 17, 18] sg sg2 ∧ KS [39, 48, 49, 50] gm gm2 ∧ KS [] lg lg2 ∧ (gm2 39 = gm 39) ∧ ((oBr wg lg b.toNatClampNeg fo VS S) = (none, S)) ∧ (RC wg lg S sg2 gm2)) A) ([eV (ad 6) x, eV (ad 10) b, eV (ad 8) si, .int dp] : List Value).toArray s 1 6 A) (F0 m 115 ls []) := by
    intro sg_j115 gm_j115 hsx4_115 hsx0_115 hsx1_115 hsx2_115 hsx3_115 hks_j115 hkg_j115 hI_j115 h39a h60a h115 H locs ls hP hD hS hl
    refine lv_iconst (v := 0) hx hb dX5_bringToBe_115 (by decide) ?_
    refine lv_istore (i := 5) (lv' := [(5, .int 0), (4, .int (sg 14)), (0, eV (ad 6) x), (1, eV (ad 10) b), (2, eV (ad 8) si), (3, .int dp)]) hx hb dX5_bringToBe_116 hl (by decide) rfl (fun ls hl => ?_)
    exact hj118 _ sg_j115 gm_j115 0 rfl (iv_w (iv_k (by decide) : iv 0 0 0) (by decide)) hsx4_115 hsx0_115 hsx1_115 hsx2_115 hsx3_115 (KS_tr (L := [13, 14]) KS_rf hks_j115 (by decide)) (KS_tr (L := [39, 48, 49, 50]) KS_rf hkg_j115 (by decide)) hI_j115 (h39a) (h60a) (⟨_, h115, oB2_O, rfl⟩) _ _ _ hP hD hS (lv_sub hl [0, 1, 2, 3, 4, 5] rfl)
  refine ec_aload_n hx hb dX5_bringToBe_0 rfl (lv_at hl 0 rfl) ?_
  refine cr_get (t := 6) (j := 5) (C := RX5) (T := TX5) (N := 13) (v := .int (sg 14)) hx hb htb inX5 hown hK hP hvx (by decide) (by decide) (by decide) rfl (by decide) (htb _ kw_409) rfl dX5_bringToBe_1 ?_
  refine lv_bipush (v := 60) hx hb dX5_bringToBe_4 (by decide) ?_
  refine lv_icmp_lt (tgt := 16) hx hb dX5_bringToBe_6 (by decide) (fun c_23 => ?_) (fun c_23 => ?_)
  · have h_24 : iv 0 59 (sg 14) := iv_ltL c_23 (show iv 0 60 (sg 14) from CI_s hI 14) (iv_k (by decide) : iv 60 60 60) (by decide)
    refine ec_aload_n hx hb dX5_bringToBe_16 rfl (lv_at hl 0 rfl) ?_
    refine cr_get (t := 6) (j := 5) (C := RX5) (T := TX5) (N := 13) (v := .int (sg 14)) hx hb htb inX5 hown hK hP hvx (by decide) (by decide) (by decide) rfl (by decide) (htb _ kw_409) rfl dX5_bringToBe_17 ?_
    refine lv_istore (i := 4) (lv' := [(4, .int (sg 14)), (0, eV (ad 6) x), (1, eV (ad 10) b), (2, eV (ad 8) si), (3, .int dp)]) hx hb dX5_bringToBe_20 hl (by decide) rfl (fun ls hl => ?_)
    refine ec_aload_n hx hb dX5_bringToBe_22 rfl (lv_at hl 1 rfl) ?_
    refine lv_dup hx hb dX5_bringToBe_23 (eV_cat _ _) ?_
    refine cr_get (t := 6) (j := 5) (C := RX5) (T := TX5) (N := 13) (v := .int (sg 14)) hx hb htb inX5 hown hK hP hvx (by decide) (by decide) (by decide) rfl (by decide) (htb _ kw_409) rfl dX5_bringToBe_24 ?_
    refine lv_iconst (v := 1) hx hb dX5_bringToBe_27 (by decide) ?_
    refine lv_iadd hx hb dX5_bringToBe_28 ?_
    refine lv_topi (fun z_25 ez_25 => ?_)
    have hz_25 : iv 1 60 z_25 := iv_of ez_25 (iv_add h_24 (iv_k (by decide) : iv 1 1 1) (by decide))
    have tz_25 : z_25.toInt = ((sg 14) : Int32).toInt + 1 := by rw [ez_25]; exact iv_addE h_24 (iv_k (by decide) : iv 1 1 1) (by decide)
    refine cr_puts (t := 6) (j := 5) (C := RX5) (T := TX5) (N := 13) (ty0 := tyX5) (k := 14) (y := z_25) hx hb htb inX5 tyX5_ok nmX5 hown hK hP hD hS hvx (by decide) (by decide) (by decide) (by decide) rfl rfl rfl (by decide) (htb _ kw_409) rfl (by show Value.int z_25 = Value.int (va_up sg 14 z_25 14); rw [va_up_self]) rfl rfl dX5_bringToBe_29 (fun sg_26 H locs esg_26 hP hD hS => ?_)
    have hI_sg_26 := CI_put hI esg_26 hz_25 (by decide)
    refine ec_aload_n hx hb dX5_bringToBe_32 rfl (lv_at hl 1 rfl) ?_
    refine cr_get (t := 6) (j := 3) (C := RX5) (T := TX5) (N := 13) (v := eV (ad 22) 0) hx hb htb inX5 hown hK hP hvx (by decide) (by decide) (by decide) rfl (by decide) (htb _ kw_407) (cV_c rfl (by decide) (by rw [show cMu 6 3 = 0 from rfl, Nat.zero_mul]; rfl)) dX5_bringToBe_33 ?_
    refine lv_iload hx hb dX5_bringToBe_36 (lv_at hl 0 rfl) ?_
    refine ec_aload_n hx hb dX5_bringToBe_38 rfl (lv_at hl 3 rfl) ?_
    refine cr_get (t := 8) (j := 6) (C := RX8) (T := TX8) (N := 7) (v := .int (gm 10 si.toNatClampNeg)) hx hb htb inX8 hown hK hP hvsi (by decide) (by decide) (by decide) rfl (by decide) (htb _ kw_204) rfl dX5_bringToBe_39 ?_
    obtain ⟨z_27, ez_27⟩ : ∃ z : Int32, z = (gm 10 si.toNatClampNeg) := ⟨_, rfl⟩
    refine W.eq (g2 := F0 m 42 ls [.int z_27, .int (sg 14), eV (ad 22) 0]) (by rw [ez_27]) ?_
    have hz_27 : iv 0 7 z_27 := iv_of ez_27 (CI_a hI_sg_26 10 hvsi (by decide))
    refine cr_iast (t := 22) (k := 49) (n9 := ((sg 14) : Int32).toNatClampNeg) (z := z_27) hx hb hK hP hD hS (iv_k (by decide) : iv 0 0 0) (by decide) (by decide) (by decide) rfl rfl rfl (show vp_in (sg 14) (cLen 22) from (show vp_in (sg 14) 60 from (iv_in h_24 (by decide)))) (Or.inl rfl) (by rw [show cAw 22 = 0 from rfl, Nat.zero_mul, Nat.zero_add]) dX5_bringToBe_42 (fun gm_28 H locs egm_28 hP hD hS => ?_)
    have hI_gm_28 := CI_st hI_sg_26 egm_28 hz_27 (by decide)
    refine ec_aload_n hx hb dX5_bringToBe_43 rfl (lv_at hl 1 rfl) ?_
    refine cr_get (t := 6) (j := 4) (C := RX5) (T := TX5) (N := 13) (v := eV (ad 23) 0) hx hb htb inX5 hown hK hP hvx (by decide) (by decide) (by decide) rfl (by decide) (htb _ kw_408) (cV_c rfl (by decide) (by rw [show cMu 6 4 = 0 from rfl, Nat.zero_mul]; rfl)) dX5_bringToBe_44 ?_
    refine lv_iload hx hb dX5_bringToBe_47 (lv_at hl 0 rfl) ?_
    refine ec_aload_n hx hb dX5_bringToBe_49 rfl (lv_at hl 2 rfl) ?_
    refine cr_get (t := 10) (j := 0) (C := RX1) (T := TX1) (N := 19) (v := .int (gm_28 28 b.toNatClampNeg)) hx hb htb inX1 hown hK hP hvb (by decide) (by decide) (by decide) rfl (by decide) (htb _ kw_350) rfl dX5_bringToBe_50 ?_
    obtain ⟨z_29, ez_29⟩ : ∃ z : Int32, z = (gm_28 28 b.toNatClampNeg) := ⟨_, rfl⟩
    refine W.eq (g2 := F0 m 53 ls [.int z_29, .int (sg 14), eV (ad 23) 0]) (by rw [ez_29]) ?_
    have hz_29 : iv 0 79 z_29 := iv_of ez_29 (CI_a hI_gm_28 28 hvb (by decide))
    have ez_29 := ez_29.trans (congrFun (up_ne egm_28 (by decide)) _)
    refine cr_iast (t := 23) (k := 50) (n9 := ((sg 14) : Int32).toNatClampNeg) (z := z_29) hx hb hK hP hD hS (iv_k (by decide) : iv 0 0 0) (by decide) (by decide) (by decide) rfl rfl rfl (show vp_in (sg 14) (cLen 23) from (show vp_in (sg 14) 60 from (iv_in h_24 (by decide)))) (Or.inl rfl) (by rw [show cAw 23 = 0 from rfl, Nat.zero_mul, Nat.zero_add]) dX5_bringToBe_53 (fun gm_30 H locs egm_30 hP hD hS => ?_)
    have hI_gm_30 := CI_st hI_gm_28 egm_30 hz_29 (by decide)
    refine ec_aload_n hx hb dX5_bringToBe_54 rfl (lv_at hl 2 rfl) ?_
    refine lv_iload hx hb dX5_bringToBe_55 (lv_at hl 0 rfl) ?_
    refine cr_putg (t := 10) (j := 18) (C := RX1) (T := TX1) (N := 19) (ty0 := tyX1) (k := 39) (y := (sg 14)) hx hb htb inX1 tyX1_ok nmX1 hown hK hP hD hS hvb (by decide) (by decide) (by decide) (by decide) rfl rfl (by decide) (htb _ kw_386) rfl (by show Value.int (sg 14) = Value.int (va_up gm_30 39 (upd (gm_30 39) b.toNatClampNeg (sg 14)) 39 b.toNatClampNeg); rw [va_up_self, upd_at]) rfl rfl dX5_bringToBe_57 (fun gm_31 H locs egm_31 hP hD hS => ?_)
    have hI_gm_31 := CI_st hI_gm_30 egm_31 h_24 (by decide)
    have hR1 : RC wg lg (oB1 wg b.toNatClampNeg si.toNatClampNeg S) sg_26 gm_31 := RC_ob (k := (sg 14).toNatClampNeg) hRC (KS_up KS_rf esg_26 (by decide)) (KS_up (KS_up (KS_up KS_rf egm_28 (by decide)) egm_30 (by decide)) egm_31 (by decide)) (cln9 (show iv 0 60 (sg 14) from CI_s hI 14).1) (by have := i32_0; have := i32_1; have := i32_2; have := i32_m1; have := congrArg Int32.toInt (show sg_26 14 = z_25 from up_at esg_26); have := (hz_25).1; have := (hz_25).2; have := (hvx).1; have := (hvx).2; have := (hvb).1; have := (hvb).2; have := (hvsi).1; have := (hvsi).2; have := (hvdp).1; have := (hvdp).2; have := (h_24).1; have := (h_24).2; have := (hz_27).1; have := (hz_27).2; have := (hz_29).1; have := (hz_29).2; omega) (show gm_31 49 = upd (gm 49) ((sg 14) : Int32).toNatClampNeg z_27 from ((up_ne egm_31 (by decide)).trans ((up_ne egm_30 (by decide)).trans ((up_at egm_28).trans (by rw [show gm 49 = gm 49 from rfl]))))) rfl (show gm_31 50 = upd (gm 50) ((sg 14) : Int32).toNatClampNeg z_29 from ((up_ne egm_31 (by decide)).trans ((up_at egm_30).trans (by rw [show gm_28 50 = gm 50 from ((up_ne egm_28 (by decide)).trans rfl)])))) rfl (show gm_31 39 = upd (gm 39) (b : Int32).toNatClampNeg (sg 14) from ((up_at egm_31).trans (by rw [show gm_30 39 = gm 39 from ((up_ne egm_30 (by decide)).trans ((up_ne egm_28 (by decide)).trans rfl))]))) rfl (swt9 hSW ez_27 rfl).symm (swt9 hSW ez_29 rfl).symm
    refine ec_aload_n hx hb dX5_bringToBe_60 rfl (lv_at hl 3 rfl) ?_
    refine cr_get (t := 8) (j := 4) (C := RX8) (T := TX8) (N := 7) (v := .int (gm_31 8 si.toNatClampNeg)) hx hb htb inX8 hown hK hP hvsi (by decide) (by decide) (by decide) rfl (by decide) (htb _ kw_201) rfl dX5_bringToBe_61 ?_
    obtain ⟨z_32, ez_32⟩ : ∃ z : Int32, z = (gm_31 8 si.toNatClampNeg) := ⟨_, rfl⟩
    refine W.eq (g2 := F0 m 64 ls [.int z_32]) (by rw [ez_32]) ?_
    have hz_32 : iv (-1) 25 z_32 := iv_of ez_32 (CI_a hI_gm_31 8 hvsi (by decide))
    have ez_32 := ez_32.trans (congrFun (Eq.trans (Eq.trans (up_ne egm_31 (by decide)) (up_ne egm_30 (by decide))) (up_ne egm_28 (by decide))) _)
    refine lv_iconst (v := (-1)) hx hb dX5_bringToBe_64 (by decide) ?_
    refine lv_icmp_ne (tgt := 89) hx hb dX5_bringToBe_65 (by decide) (fun c_33 => ?_) (fun c_33 => ?_)
    · have h_34 : iv 0 25 z_32 := iv_neL c_33 hz_32 (by decide)
      refine ec_aload_n hx hb dX5_bringToBe_89 rfl (lv_at hl 1 rfl) ?_
      refine cr_get (t := 6) (j := 2) (C := RX5) (T := TX5) (N := 13) (v := eV (ad 5) 0) hx hb htb inX5 hown hK hP hvx (by decide) (by decide) (by decide) rfl (by decide) (htb _ kw_406) (cV_c rfl (by decide) (by rw [show cMu 6 2 = 0 from rfl, Nat.zero_mul]; rfl)) dX5_bringToBe_90 ?_
      refine lv_iconst (v := 2) hx hb dX5_bringToBe_93 (by decide) ?_
      refine lv_iload hx hb dX5_bringToBe_94 (lv_at hl 0 rfl) ?_
      refine ec_aload_n hx hb dX5_bringToBe_96 rfl (lv_at hl 3 rfl) ?_
      refine cr_get (t := 8) (j := 6) (C := RX8) (T := TX8) (N := 7) (v := .int (gm_31 10 si.toNatClampNeg)) hx hb htb inX8 hown hK hP hvsi (by decide) (by decide) (by decide) rfl (by decide) (htb _ kw_204) rfl dX5_bringToBe_97 ?_
      refine W.eq (g2 := F0 m 100 ls [.int z_27, .int (sg 14), .int 2, eV (ad 5) 0]) (by rw [show (gm_31 10 si.toNatClampNeg) = z_27 from (Eq.trans (congrFun (Eq.trans (Eq.trans (up_ne egm_31 (by decide)) (up_ne egm_30 (by decide))) (up_ne egm_28 (by decide))) _) ez_27.symm)]) ?_
      refine lv_bipush (v := 8) hx hb dX5_bringToBe_100 (by decide) ?_
      refine ec_aload_n hx hb dX5_bringToBe_102 rfl (lv_at hl 3 rfl) ?_
      refine cr_get (t := 8) (j := 0) (C := RX8) (T := TX8) (N := 7) (v := .int (gm_31 5 si.toNatClampNeg)) hx hb htb inX8 hown hK hP hvsi (by decide) (by decide) (by decide) rfl (by decide) (htb _ kw_193) rfl dX5_bringToBe_103 ?_
      obtain ⟨z_35, ez_35⟩ : ∃ z : Int32, z = (gm_31 5 si.toNatClampNeg) := ⟨_, rfl⟩
      refine W.eq (g2 := F0 m 106 ls [.int z_35, .int 8, .int z_27, .int (sg 14), .int 2, eV (ad 5) 0]) (by rw [ez_35]) ?_
      have hz_35 : iv 0 7 z_35 := iv_of ez_35 (CI_a hI_gm_31 5 hvsi (by decide))
      have ez_35 := ez_35.trans (congrFun (Eq.trans (Eq.trans (up_ne egm_31 (by decide)) (up_ne egm_30 (by decide))) (up_ne egm_28 (by decide))) _)
      refine lv_imul hx hb dX5_bringToBe_106 ?_
      refine lv_topi (fun z_36 ez_36 => ?_)
      have hz_36 : iv 0 56 z_36 := iv_of ez_36 (iv_mul (iv_k (by decide) : iv 8 8 8) hz_35 (by decide))
      have tz_36 : z_36.toInt = 8 * (z_35 : Int32).toInt := by rw [ez_36]; exact iv_mulE (iv_k (by decide) : iv 8 8 8) hz_35 (by decide)
      refine ec_aload_n hx hb dX5_bringToBe_107 rfl (lv_at hl 3 rfl) ?_
      refine cr_get (t := 8) (j := 1) (C := RX8) (T := TX8) (N := 7) (v := .int (gm_31 6 si.toNatClampNeg)) hx hb htb inX8 hown hK hP hvsi (by decide) (by decide) (by decide) rfl (by decide) (htb _ kw_195) rfl dX5_bringToBe_108 ?_
      obtain ⟨z_37, ez_37⟩ : ∃ z : Int32, z = (gm_31 6 si.toNatClampNeg) := ⟨_, rfl⟩
      refine W.eq (g2 := F0 m 111 ls [.int z_37, .int z_36, .int z_27, .int (sg 14), .int 2, eV (ad 5) 0]) (by rw [ez_37]) ?_
      have hz_37 : iv 0 3 z_37 := iv_of ez_37 (CI_a hI_gm_31 6 hvsi (by decide))
      have ez_37 := ez_37.trans (congrFun (Eq.trans (Eq.trans (up_ne egm_31 (by decide)) (up_ne egm_30 (by decide))) (up_ne egm_28 (by decide))) _)
      refine lv_iadd hx hb dX5_bringToBe_111 ?_
      refine lv_topi (fun z_38 ez_38 => ?_)
      have hz_38 : iv 0 59 z_38 := iv_of ez_38 (iv_add hz_36 hz_37 (by decide))
      have tz_38 : z_38.toInt = (z_36 : Int32).toInt + (z_37 : Int32).toInt := by rw [ez_38]; exact iv_addE hz_36 hz_37 (by decide)
      refine cm_callV (t := 5) (C := RX4) (T := TX4) (N := 2) (rest := []) (as := [.int 2, .int (sg 14), .int z_27, .int z_38]) ⟨hx, hb, hml, hown, htb⟩ (d_addEv9 l dC dI ad cid a2 lx sg_26 gm_31 lg 0 2 (sg 14) z_27 z_38 wg (oB1 wg b.toNatClampNeg si.toNatClampNeg S) hI_gm_31 (iv_k (by decide) : iv 0 0 0) hR1) (cwV 4 htb (gd_V kw_487 kw_488 kw_489 kw_158 kw_1404) rfl rfl rfl (by decide +kernel) ⟨Nat.le_of_ble_eq_true rfl, Nat.le_of_ble_eq_true rfl⟩) (iv_k (by decide) : iv 0 0 0) (by decide) (by decide) rfl rfl hl.1 rfl (Nat.le_trans cs_n (by decide)) dX5_bringToBe_112 ⟨Nat.le_of_ble_eq_true rfl, Nat.le_of_ble_eq_true rfl⟩ hK hP hD hS hA hG (fun E ce q9 u_40 H locs hw hP hD hS hce hcv hcl => ?_) (fun v9 u_40 H locs hw hP hD hS => ?_)
      · exact hw.elim
      obtain ⟨rfl, sgv_41, gmv_41, lgv_41, rfl, hIv_41, ksv_41, kgv_41, klv_41, fR_r_39⟩ := hw
      obtain rfl := KS_nil klv_41
      have hP : va_P (dC, dI) vwCl (cW ad cid a2 lx sgv_41 gmv_41 lg) H := hP
      have hD : va_D A (cW ad cid a2 lx sgv_41 gmv_41 lg) := hD
      refine W.eq (g2 := F0 m 115 ls []) rfl ?_
      exact hj115 sgv_41 gmv_41 h_24 hvx hvb hvsi hvdp (KS_tr (L := [13, 14]) (KS_up KS_rf esg_26 (by decide)) ksv_41 (by decide)) (KS_tr (L := [39, 48, 49, 50]) (KS_up (KS_up (KS_up KS_rf egm_28 (by decide)) egm_30 (by decide)) egm_31 (by decide)) kgv_41 (by decide)) hIv_41 (⟨_, (show gmv_41 39 = upd (gm 39) (b : Int32).toNatClampNeg (sg 14) from ((kgv_41 39 (by decide)).trans ((up_at egm_31).trans (by rw [show gm_30 39 = gm 39 from ((up_ne egm_30 (by decide)).trans ((up_ne egm_28 (by decide)).trans rfl))])))), (show iv 0 60 (sg 14) from CI_s hI 14).1, rfl⟩) (by have := i32_0; have := i32_1; have := i32_2; have := i32_m1; have := congrArg Int32.toInt (show sgv_41 14 = sg_26 14 from ksv_41 14 (by decide)); have := congrArg Int32.toInt (show sg_26 14 = z_25 from up_at esg_26); have := (hz_25).1; have := (hz_25).2; have := (hvx).1; have := (hvx).2; have := (hvb).1; have := (hvb).2; have := (hvsi).1; have := (hvsi).2; have := (hvdp).1; have := (hvdp).2; have := (h_24).1; have := (h_24).2; have := (hz_27).1; have := (hz_27).2; have := (hz_29).1; have := (hz_29).2; have := (h_34).1; have := (h_34).2; have := (hz_35).1; have := (hz_35).2; have := (hz_36).1; have := (hz_36).2; have := (hz_37).1; have := (hz_37).2; have := (hz_38).1; have := (hz_38).2; omega) ((by unfold oB2; rw [if_neg (by rw [(swt9 hSW ez_32 rfl)]; have := i32_0; have := i32_1; have := i32_2; have := i32_m1; have := (hvx).1; have := (hvx).2; have := (hvb).1; have := (hvb).2; have := (hvsi).1; have := (hvsi).2; have := (hvdp).1; have := (hvdp).2; have := (h_24).1; have := (h_24).2; have := (hz_25).1; have := (hz_25).2; have := (hz_27).1; have := (hz_27).2; have := (hz_29).1; have := (hz_29).2; have := (h_34).1; have := (h_34).2; have := (hz_35).1; have := (hz_35).2; have := (hz_36).1; have := (hz_36).2; have := (hz_37).1; have := (hz_37).2; have := (hz_38).1; have := (hz_38).2; omega), (show ((zO S).length : Int) = (sg 14).toInt from hRC.1.1.symm), (swt9 hSW ez_27 rfl), (swt9 hSW ez_37 rfl), (swt9 hSW ez_35 rfl), ← tz_36, ← tz_38]; exact fR_r_39)) _ _ _ hP hD hS (lv_sub hl [0, 1, 2, 3, 4] rfl)
    · have h_42 : iv (-1) (-1) z_32 := iv_eq c_33 hz_32 (iv_k (by decide) : iv (-1) (-1) (-1)) (by decide)
      refine ec_aload_n hx hb dX5_bringToBe_68 rfl (lv_at hl 1 rfl) ?_
      refine cr_get (t := 6) (j := 2) (C := RX5) (T := TX5) (N := 13) (v := eV (ad 5) 0) hx hb htb inX5 hown hK hP hvx (by decide) (by decide) (by decide) rfl (by decide) (htb _ kw_406) (cV_c rfl (by decide) (by rw [show cMu 6 2 = 0 from rfl, Nat.zero_mul]; rfl)) dX5_bringToBe_69 ?_
      refine lv_iconst (v := 1) hx hb dX5_bringToBe_72 (by decide) ?_
      refine lv_iload hx hb dX5_bringToBe_73 (lv_at hl 0 rfl) ?_
      refine ec_aload_n hx hb dX5_bringToBe_75 rfl (lv_at hl 3 rfl) ?_
      refine cr_get (t := 8) (j := 6) (C := RX8) (T := TX8) (N := 7) (v := .int (gm_31 10 si.toNatClampNeg)) hx hb htb inX8 hown hK hP hvsi (by decide) (by decide) (by decide) rfl (by decide) (htb _ kw_204) rfl dX5_bringToBe_76 ?_
      refine W.eq (g2 := F0 m 79 ls [.int z_27, .int (sg 14), .int 1, eV (ad 5) 0]) (by rw [show (gm_31 10 si.toNatClampNeg) = z_27 from (Eq.trans (congrFun (Eq.trans (Eq.trans (up_ne egm_31 (by decide)) (up_ne egm_30 (by decide))) (up_ne egm_28 (by decide))) _) ez_27.symm)]) ?_
      refine ec_aload_n hx hb dX5_bringToBe_79 rfl (lv_at hl 3 rfl) ?_
      refine cr_get (t := 8) (j := 1) (C := RX8) (T := TX8) (N := 7) (v := .int (gm_31 6 si.toNatClampNeg)) hx hb htb inX8 hown hK hP hvsi (by decide) (by decide) (by decide) rfl (by decide) (htb _ kw_195) rfl dX5_bringToBe_80 ?_
      obtain ⟨z_43, ez_43⟩ : ∃ z : Int32, z = (gm_31 6 si.toNatClampNeg) := ⟨_, rfl⟩
      refine W.eq (g2 := F0 m 83 ls [.int z_43, .int z_27, .int (sg 14), .int 1, eV (ad 5) 0]) (by rw [ez_43]) ?_
      have hz_43 : iv 0 3 z_43 := iv_of ez_43 (CI_a hI_gm_31 6 hvsi (by decide))
      have ez_43 := ez_43.trans (congrFun (Eq.trans (Eq.trans (up_ne egm_31 (by decide)) (up_ne egm_30 (by decide))) (up_ne egm_28 (by decide))) _)
      refine cm_callV (t := 5) (C := RX4) (T := TX4) (N := 2) (rest := []) (as := [.int 1, .int (sg 14), .int z_27, .int z_43]) ⟨hx, hb, hml, hown, htb⟩ (d_addEv9 l dC dI ad cid a2 lx sg_26 gm_31 lg 0 1 (sg 14) z_27 z_43 wg (oB1 wg b.toNatClampNeg si.toNatClampNeg S) hI_gm_31 (iv_k (by decide) : iv 0 0 0) hR1) (cwV 4 htb (gd_V kw_487 kw_488 kw_489 kw_158 kw_1404) rfl rfl rfl (by decide +kernel) ⟨Nat.le_of_ble_eq_true rfl, Nat.le_of_ble_eq_true rfl⟩) (iv_k (by decide) : iv 0 0 0) (by decide) (by decide) rfl rfl hl.1 rfl (Nat.le_trans cs_n (by decide)) dX5_bringToBe_83 ⟨Nat.le_of_ble_eq_true rfl, Nat.le_of_ble_eq_true rfl⟩ hK hP hD hS hA hG (fun E ce q9 u_45 H locs hw hP hD hS hce hcv hcl => ?_) (fun v9 u_45 H locs hw hP hD hS => ?_)
      · exact hw.elim
      obtain ⟨rfl, sgv_46, gmv_46, lgv_46, rfl, hIv_46, ksv_46, kgv_46, klv_46, fR_r_44⟩ := hw
      obtain rfl := KS_nil klv_46
      have hP : va_P (dC, dI) vwCl (cW ad cid a2 lx sgv_46 gmv_46 lg) H := hP
      have hD : va_D A (cW ad cid a2 lx sgv_46 gmv_46 lg) := hD
      refine W.eq (g2 := F0 m 86 ls []) rfl ?_
      refine lv_goto (tgt := 115) hx hb dX5_bringToBe_86 (by decide) ?_
      exact hj115 sgv_46 gmv_46 h_24 hvx hvb hvsi hvdp (KS_tr (L := [13, 14]) (KS_up KS_rf esg_26 (by decide)) ksv_46 (by decide)) (KS_tr (L := [39, 48, 49, 50]) (KS_up (KS_up (KS_up KS_rf egm_28 (by decide)) egm_30 (by decide)) egm_31 (by decide)) kgv_46 (by decide)) hIv_46 (⟨_, (show gmv_46 39 = upd (gm 39) (b : Int32).toNatClampNeg (sg 14) from ((kgv_46 39 (by decide)).trans ((up_at egm_31).trans (by rw [show gm_30 39 = gm 39 from ((up_ne egm_30 (by decide)).trans ((up_ne egm_28 (by decide)).trans rfl))])))), (show iv 0 60 (sg 14) from CI_s hI 14).1, rfl⟩) (by have := i32_0; have := i32_1; have := i32_2; have := i32_m1; have := congrArg Int32.toInt (show sgv_46 14 = sg_26 14 from ksv_46 14 (by decide)); have := congrArg Int32.toInt (show sg_26 14 = z_25 from up_at esg_26); have := (hz_25).1; have := (hz_25).2; have := (hvx).1; have := (hvx).2; have := (hvb).1; have := (hvb).2; have := (hvsi).1; have := (hvsi).2; have := (hvdp).1; have := (hvdp).2; have := (h_24).1; have := (h_24).2; have := (hz_27).1; have := (hz_27).2; have := (hz_29).1; have := (hz_29).2; have := (h_42).1; have := (h_42).2; have := (hz_43).1; have := (hz_43).2; omega) ((by unfold oB2; rw [if_pos (by rw [(swt9 hSW ez_32 rfl)]; have := i32_0; have := i32_1; have := i32_2; have := i32_m1; have := (hvx).1; have := (hvx).2; have := (hvb).1; have := (hvb).2; have := (hvsi).1; have := (hvsi).2; have := (hvdp).1; have := (hvdp).2; have := (h_24).1; have := (h_24).2; have := (hz_25).1; have := (hz_25).2; have := (hz_27).1; have := (hz_27).2; have := (hz_29).1; have := (hz_29).2; have := (h_42).1; have := (h_42).2; have := (hz_43).1; have := (hz_43).2; omega), (show ((zO S).length : Int) = (sg 14).toInt from hRC.1.1.symm), (swt9 hSW ez_27 rfl), (swt9 hSW ez_43 rfl)]; exact fR_r_44)) _ _ _ hP hD hS (lv_sub hl [0, 1, 2, 3, 4] rfl)
  · have h_47 : iv 60 60 (sg 14) := iv_leR (i32_ge c_23) (iv_k (by decide) : iv 60 60 60) (show iv 0 60 (sg 14) from CI_s hI 14) (by decide)
    refine ec_aload_n hx hb dX5_bringToBe_9 rfl (lv_at hl 0 rfl) ?_
    refine lv_bipush (v := 6) hx hb dX5_bringToBe_10 (by decide) ?_
    refine cm_callV (t := 6) (C := RX5) (T := TX5) (N := 13) (rest := []) (as := [.int 6]) ⟨hx, hb, hml, hown, htb⟩ (d_failWith l dC dI ad cid a2 lx sg gm lg hl9 x 6 hI hvx (iv_w (iv_k (by decide) : iv 6 6 6) (by decide))) (cwV 1 htb (gd_V kw_899 kw_900 kw_50 kw_159 kw_1530) rfl rfl rfl (by decide +kernel) ⟨Nat.le_of_ble_eq_true rfl, Nat.le_of_ble_eq_true rfl⟩) hvx (by decide) (by decide) rfl rfl hl.1 rfl (Nat.le_trans cs_n (by decide)) dX5_bringToBe_12 ⟨Nat.le_of_ble_eq_true rfl, Nat.le_of_ble_eq_true rfl⟩ hK hP hD hS hA hG (fun E ce q9 u_49 H locs hw hP hD hS hce hcv hcl => ?_) (fun v9 u_49 H locs hw hP hD hS => ?_)
    · obtain ⟨hE, hw⟩ := hw
      obtain ⟨sgv_50, gmv_50, lgv_50, rfl, hIv_50, ksv_50, kgv_50, klv_50⟩ := hw
      obtain rfl := KS_nil kgv_50
      obtain rfl := KS_nil klv_50
      have hP : va_P (dC, dI) vwCl (cW ad cid a2 lx sgv_50 gm lg) H := hP
      have hD : va_D A (cW ad cid a2 lx sgv_50 gm lg) := hD
      exact vx_out (fun x hx9 => (hxt x hx9).elim) hlocks hce hcv hcl (fun t ht hal => ⟨⟨(sgv_50, gm, lg), ⟨hE, sgv_50, gm, lg, rfl, hIv_50, (KS_tr (L := [13, 14, 17, 18]) KS_rf ksv_50 (by decide)), KS_rf, KS_rf, (rfl), (oBr_6 hch (by have := hRC.1.1; have := i32_0; have := i32_1; have := i32_2; have := i32_m1; have := congrArg Int32.toInt (show sgv_50 14 = sg 14 from ksv_50 14 (by decide)); have := (show iv 0 60 (sg 14) from CI_s hI 14).1; have := (show iv 0 60 (sg 14) from CI_s hI 14).2; have := (hvx).1; have := (hvx).2; have := (hvb).1; have := (hvb).2; have := (hvsi).1; have := (hvsi).2; have := (hvdp).1; have := (hvdp).2; have := (h_47).1; have := (h_47).2; omega)), ((RC_ks (L := [17, 18]) (M := []) hRC (KS_tr (L := [17, 18]) KS_rf ksv_50 (by decide)) KS_rf (by decide) (by decide)))⟩, by rw [ht]; exact hP, va_K.moved hal hK, hD⟩, hS.F ht⟩) hS.2.2 (Nat.le_of_ble_eq_true rfl) (Nat.le_of_ble_eq_true rfl)
    obtain ⟨r_48, rfl, sgv_51, gmv_51, lgv_51, rfl, hIv_51, ksv_51, kgv_51, klv_51, fF_r_48⟩ := hw
    obtain rfl := KS_nil kgv_51
    obtain rfl := KS_nil klv_51
    have hP : va_P (dC, dI) vwCl (cW ad cid a2 lx sgv_51 gm lg) H := hP
    have hD : va_D A (cW ad cid a2 lx sgv_51 gm lg) := hD
    exact fF_r_48.elim
end
section
theorem ndl9 : ∀ (n : Nat) (l : List Nat), l.Nodup → (∀ x, x ∈ l → x < n) → l.length ≤ n := by
  intro n
  induction n with
  | zero =>
    intro l _ h
    cases l with
    | nil => exact Nat.le_refl _
    | cons a l => exact absurd (h a List.mem_cons_self) (Nat.not_lt_zero _)
  | succ n ih =>
    intro l hn h
    by_cases hm : n ∈ l
    · have h1 := ih (l.erase n) (hn.erase n) (fun x hx => by
        have := (hn.mem_erase_iff).mp hx
        have := h x this.2
        omega)
      have h2 := List.length_erase_of_mem hm
      omega
    · have h1 := ih l hn (fun x hx => by
        have h3 := h x hx
        have h4 : ¬ x = n := fun q => hm (q ▸ hx)
        omega)
      omega
theorem RC_nf {wg : Nat → Nat → Int32} {lg : Nat → Nat → Int64} {S : S9} {sg : Nat → Int32} {gm : Nat → Nat → Int32} {b : Nat} (h : RC wg lg S sg gm) (hb : b < (sg 12).toNatClampNeg) (h1 : zS S b = 1) : (zF S).length + 1 ≤ (sg 12).toNatClampNeg ∧ ¬ b ∈ zF S := by
  have hf := h.2.2.2
  have hm : ∀ x, x ∈ zF S → x < (sg 12).toNatClampNeg ∧ zS S x = 2 := fun x hx => by
    obtain ⟨k, hk, e⟩ := List.mem_iff_getElem.mp hx
    have := hf.2.1 k x (by rw [List.getElem?_eq_getElem hk, e])
    exact ⟨this.2.1, this.2.2.2.2⟩
  have hn : ¬ b ∈ zF S := fun q => by have := (hm b q).2; omega
  refine ⟨?_, hn⟩
  have := ndl9 (sg 12).toNatClampNeg (b :: zF S) (List.nodup_cons.mpr ⟨hn, hf.2.2⟩) (fun x hx => by
    rcases List.mem_cons.mp hx with rfl | hx
    · exact hb
    · exact (hm x hx).1)
  exact this
theorem RC_fn {wg : Nat → Nat → Int32} {lg : Nat → Nat → Int64} {S : S9} {sg sg2 : Nat → Int32} {gm gm2 : Nat → Nat → Int32} {b : Nat} {v1 v2 : Int32} (h : RC wg lg S sg gm) (hb : b < (sg 12).toNatClampNeg) (h1 : zS S b = 1) (hs : KS [15] sg sg2) (hg : KS [37, 38, 51] gm gm2) (h37 : gm2 37 = upd (gm 37) b v1) (hv1 : v1 = 0) (h38 : gm2 38 = upd (gm 38) b v2) (hv2 : ¬ v2 = 0) (h51 : (¬ lg 4 b = 0 ∧ wg 35 b = 0) → (sg2 15).toInt = (sg 15).toInt + 1 ∧ ∃ (i : Nat) (c : Int32), (i : Int) = (sg 15).toInt ∧ c.toInt = (b : Int) ∧ gm2 51 = upd (gm 51) i c) (h51n : ¬ (¬ lg 4 b = 0 ∧ wg 35 b = 0) → sg2 15 = sg 15 ∧ gm2 51 = gm 51) : RC wg lg (oF2 wg lg b S) sg2 gm2 := by
  have hnf := RC_nf h hb h1
  obtain ⟨ho, he, hbb, hf⟩ := h
  have s12 := hs 12 (by decide); have s13 := hs 13 (by decide); have s14 := hs 14 (by decide)
  have g39 := hg 39 (by decide); have g48 := hg 48 (by decide); have g49 := hg 49 (by decide); have g50 := hg 50 (by decide)
  subst hv1
  unfold oF2
  by_cases q : ¬ lg 4 b = 0 ∧ wg 35 b = 0
  · rw [if_pos q]
    obtain ⟨e15, i, c, hi, hc, h51⟩ := h51 q
    refine ⟨?_, ?_, ?_, ?_⟩
    · unfold RCo; rw [s14, g49, g50]; exact ho
    · unfold RCe; rw [s13, g48]; exact he
    · unfold RCb; rw [s12, g39, h37, h38]
      intro x hx
      show (fu9 (zS S) b 2 x = 1 ↔ _) ∧ (_ → _ → (fu9 (zS S) b 2 x = 2 ↔ _) ∧ (¬ fu9 (zS S) b 2 x = 0 → _ = zW S x ∧ zW S x < ((zO S).length : Int))) ∧ fu9 (zS S) b 2 x ≤ 2
      by_cases e : x = b
      · subst e; rw [fu9_at, upd_at, upd_at]
        exact ⟨⟨fun w => absurd w (by decide), fun w => absurd rfl w⟩, fun q1 q2 => ⟨⟨fun _ => hv2, fun _ => rfl⟩, fun _ => ((hbb x hx).2.1 q1 q2).2 (by omega)⟩, by omega⟩
      · rw [fu9_ne e, upd_ne e, upd_ne e]; exact hbb x hx
    · have h15 := hf.1
      refine ⟨?_, ?_, ?_⟩
      · show (sg2 15).toInt = ((zF S ++ [b]).length : Int)
        rw [e15, h15, List.length_append]; rfl
      · intro k x hk
        have hk : (zF S ++ [b])[k]? = some x := hk
        rw [s12, h51]
        show _ ∧ _ ∧ _ ∧ _ ∧ fu9 (zS S) b 2 x = 2
        rcases ga9 hk with ⟨hl, hk⟩ | ⟨hl, hk⟩
        · have := hf.2.1 k x hk
          rw [upd_ne (by omega)]
          refine ⟨this.1, this.2.1, this.2.2.1, this.2.2.2.1, ?_⟩
          by_cases e : x = b
          · subst e; exact fu9_at
          · rw [fu9_ne e]; exact this.2.2.2.2
        · subst hk
          have : k = i := by omega
          subst this
          rw [upd_at]
          exact ⟨hc, hb, q.1, q.2, fu9_at⟩
      · show (zF S ++ [b]).Nodup
        rw [List.nodup_append]
        exact ⟨hf.2.2, List.nodup_cons.mpr ⟨by simp, List.nodup_nil⟩, fun x hx y hy e => by
          have : y = b := by simpa using hy
          exact hnf.2 (this ▸ e ▸ hx)⟩
  · rw [if_neg q]
    obtain ⟨e15, e51⟩ := h51n q
    refine ⟨?_, ?_, ?_, ?_⟩
    · unfold RCo; rw [s14, g49, g50]; exact ho
    · unfold RCe; rw [s13, g48]; exact he
    · unfold RCb; rw [s12, g39, h37, h38]
      intro x hx
      show (fu9 (zS S) b 0 x = 1 ↔ _) ∧ (_ → _ → (fu9 (zS S) b 0 x = 2 ↔ _) ∧ (¬ fu9 (zS S) b 0 x = 0 → _ = zW S x ∧ zW S x < ((zO S).length : Int))) ∧ fu9 (zS S) b 0 x ≤ 2
      by_cases e : x = b
      · subst e; rw [fu9_at, upd_at, upd_at]
        exact ⟨⟨fun w => absurd w (by decide), fun w => absurd rfl w⟩, fun q1 q2 => absurd ⟨q1, q2⟩ q, by omega⟩
      · rw [fu9_ne e, upd_ne e, upd_ne e]; exact hbb x hx
    · refine ⟨by rw [e15]; exact hf.1, fun k x hk => ?_, hf.2.2⟩
      have := hf.2.1 k x hk
      rw [s12, e51]
      refine ⟨this.1, this.2.1, this.2.2.1, this.2.2.2.1, ?_⟩
      show fu9 (zS S) b 0 x = 2
      by_cases e : x = b
      · subst e; have := this.2.2.2.2; omega
      · rw [fu9_ne e]; exact this.2.2.2.2
/-- names -/
theorem caF_z {ws : Nat → Int32} {wg : Nat → Nat → Int32} {wl : Nat → Nat → Int64} {f : Nat} {v : Int64} (h : v = 0 ∨ f = 0) : caF ws wg wl f v = -1 := by
  cases f with
  | zero => rfl
  | succ f => show (if v = 0 then (-1 : Int32) else _) = -1; rw [if_pos (by rcases h with h | h; exact h; omega)]
theorem caF_y {ws : Nat → Int32} {wg : Nat → Nat → Int32} {wl : Nat → Nat → Int64} {f : Nat} {v : Int64} (hf : 0 < f) (h : ¬ v = 0) (hc : ¬ cWid ws wl v = -1) : caF ws wg wl f v = cWid ws wl v := by
  obtain ⟨g, rfl⟩ : ∃ g, f = g + 1 := ⟨f - 1, by omega⟩
  show (if v = 0 then (-1 : Int32) else if cWid ws wl v = -1 then _ else _) = _
  rw [if_neg h, if_neg hc]
theorem caF_s {ws : Nat → Int32} {wg : Nat → Nat → Int32} {wl : Nat → Nat → Int64} {f : Nat} {v : Int64} (h : ¬ v = 0) (hc : cWid ws wl v = -1) : caF ws wg wl (f + 1) v = caF ws wg wl f (alN ws wg wl v) := by
  show (if v = 0 then (-1 : Int32) else if cWid ws wl v = -1 then _ else _) = _
  rw [if_neg h, if_pos hc]
theorem alF_s {wg : Nat → Nat → Int32} {wl : Nat → Nat → Int64} {to : Int64} {f i : Nat} (h : ¬ ((wg 14 i).toInt = 1 ∧ wl 1 i = to)) : alF wg wl to (f + 1) i = alF wg wl to f (i + 1) := by
  show (if _ then _ else _) = _; rw [if_neg h]
theorem alF_h {wg : Nat → Nat → Int32} {wl : Nat → Nat → Int64} {to : Int64} {f i : Nat} (hf : 0 < f) (h : (wg 14 i).toInt = 1 ∧ wl 1 i = to) : alF wg wl to f i = wl 2 i := by
  obtain ⟨g, rfl⟩ : ∃ g, f = g + 1 := ⟨f - 1, by omega⟩
  show (if _ then _ else _) = _; rw [if_pos h]
theorem ss9_4 {sg ws : Nat → Int32} (h : ss9 sg = ws) : ws 4 = sg 4 := by rw [← h]; rfl
theorem ss9_12 {sg ws : Nat → Int32} (h : ss9 sg = ws) : ws 12 = sg 12 := by rw [← h]; rfl
theorem cWid_w {sg ws : Nat → Int32} {lg : Nat → Nat → Int64} (h : ss9 sg = ws) (v : Int64) : cWid ws lg v = cWid sg lg v := by unfold cWid; rw [ss9_12 h]
end
section
set_option maxHeartbeats 4000000 in
set_option maxRecDepth 100000 in
theorem d_finish9 (l : Launch) (dC : Nat → ClassId) (dI : Nat → Nat → Nat) (ad : Nat → Nat → Nat) (cid : Nat → ClassId) (a2 : Nat → Nat) (lx : List Nat) (sg : Nat → Int32) (gm : Nat → Nat → Int32) (lg : Nat → Nat → Int64) (x : Int32) (b : Int32) (wg : Nat → Nat → Int32) (S : S9) (hI : CI sg gm) (hvx : iv 0 0 x) (hvb : iv 0 79 b) (hFND9 : FND9 sg gm) (hSW : st9 gm = wg) (hRC : RC wg lg S sg gm) (hb12 : b.toInt < (sg 12).toInt) (hz1 : zS S b.toNatClampNeg = 1) : CMt dC dI ad cid a2 lx l yX5_finish wm_X5_finish ({ frames := 0, cells := 1, slots := 6, locals := 0 }) [eV (ad 6) x, eV (ad 10) b] sg gm lg (fun v u => v = none ∧ ∃ (sg2 : Nat → Int32) (gm2 : Nat → Nat → Int32) (lg2 : Nat → Nat → Int64), u = (sg2, gm2, lg2) ∧ CI sg2 gm2 ∧ KS [15] sg sg2 ∧ KS [37, 38, 51] gm gm2 ∧ KS [] lg lg2 ∧ (gm2 37 = upd (gm 37) b.toNatClampNeg 0) ∧ (gm2 38 = upd (gm 38) b.toNatClampNeg 1) ∧ (FND9 sg2 gm2) ∧ (RC wg lg (oF2 wg lg b.toNatClampNeg S) sg2 gm2)) (fun _ _ => False) := by
  intro sz
  refine vx_ofW (cc := cX5_finish) (maxL := 2) (ret := none) (by decide) rfl ?_
  intro p e s m args below meth c s₁ B hml hxt hv
  obtain ⟨rfl, hsz, hP, hK, hD0, hG⟩ := hv
  have hx := B.exec
  have hb := B.bytes
  have hr := B.returns
  have hts := atoms_spec (ws := wm_X5_finish) B.pre
  have htb := fun (w : Cond) (h : w ∈ tb) => hts w (List.mem_cons_of_mem _ h)
  have hown : s.vm.findClass RX5 = some m.cls := findClass_of_methodNamed B.named
  have hlocks := B.notSynchronized
  subst hsz
  have hD := hD0.self (sz := s.heap.size)
  generalize hAe : va_A (cW ad cid a2 lx sg gm lg) s.heap.size = A at hD hG ⊢
  have hA : ∀ q : Nat, s.heap.size ≤ q → A q := fun q h => by rw [← hAe]; exact Or.inr h
  have hS : va_S A s.heap s.heap [] := va_S.rf
  have hl := lv_entry ([eV (ad 6) x, eV (ad 10) b]) (n := 2) (by rw [show (lg_sl ([eV (ad 6) x, eV (ad 10) b])).length = 2 from by simp [lg_sl, eV_cat, cat_i, cat_l]]; exact Nat.le_of_ble_eq_true rfl)
  rw [lg_entry_eq]
  generalize (lg_sl ([eV (ad 6) x, eV (ad 10) b]) ++ List.replicate (2 - (lg_sl ([eV (ad 6) x, eV (ad 10) b])).length) Slot.unset).toArray = ls at hl ⊢
  have hl : lv_has ls 2 [(0, eV (ad 6) x), (1, eV (ad 10) b)] := by simp [lv_args, eV_cat, cat_i, cat_l] at hl; exact hl
  have hj58 : ∀ (sg_j58 : Nat → Int32) (gm_j58 : Nat → Nat → Int32) (_ : iv 0 0 x) (_ : iv 0 79 b) (_ : KS [15] sg sg_j58) (_ : KS [37, 38, 51] gm gm_j58) (_ : CI sg_j58 gm_j58) (_ : gm_j58 37 = upd (gm 37) b.toNatClampNeg 0) (_ : gm_j58 38 = upd (gm 38) b.toNatClampNeg 1) (_ : FND9 sg_j58 gm_j58) (_ : RC wg lg (oF2 wg lg b.toNatClampNeg S) sg_j58 gm_j58) (H : Heap) (locs : List Loc) (ls : Array Slot), va_P (dC, dI) vwCl (cW ad cid a2 lx sg_j58 gm_j58 lg) H → va_D A (cW ad cid a2 lx sg_j58 gm_j58 lg) → va_S A s.heap H locs → lv_has ls 2 [(0, eV (ad 6) x), (1, eV (ad 10) b)] → W p l e (headSpec wm_X5_finish ({ frames := 0, cells := 1, slots := 6, locals := 0 })).room s m ([eV (ad 6) x, eV (ad 10) b] : List Value).toArray below meth c H locs 0 0 (vx_MQ below (cQx dC dI ad cid a2 lx (fun v u => v = none ∧ ∃ (sg2 : Nat → Int32) (gm2 : Nat → Nat → Int32) (lg2 : Nat → Nat → Int64), u = (sg2, gm2, lg2) ∧ CI sg2 gm2 ∧ KS [15] sg sg2 ∧ KS [37, 38, 51] gm gm2 ∧ KS [] lg lg2 ∧ (gm2 37 = upd (gm 37) b.toNatClampNeg 0) ∧ (gm2 38 = upd (gm 38) b.toNatClampNeg 1) ∧ (FND9 sg2 gm2) ∧ (RC wg lg (oF2 wg lg b.toNatClampNeg S) sg2 gm2)) A) (cX dC dI ad cid a2 lx (fun _ _ => False) A) ([eV (ad 6) x, eV (ad 10) b] : List Value).toArray s 1 6 A) (F0 m 58 ls []) := by
    intro sg_j58 gm_j58 hsx0_58 hsx1_58 hks_j58 hkg_j58 hI_j58 h37 h38 hFND9b hR58 H locs ls hP hD hS hl
    exact W.nb (fun hN => W.widen (k := 1) (n := 6) (by decide) (by decide) (vx_ret (W.vret hx hb hr (fun t ht hW => ⟨⟨none, (sg_j58, gm_j58, lg), rfl, ⟨rfl, sg_j58, gm_j58, lg, rfl, hI_j58, (KS_tr (L := [15]) KS_rf hks_j58 (by decide)), (KS_tr (L := [37, 38, 51]) KS_rf hkg_j58 (by decide)), KS_rf, (h37), (h38), (hFND9b), (hR58)⟩, by rw [ht]; exact hP, va_K.moved hW.alike hK, hD⟩, hS.F ht, by rw [ht]; exact hN⟩) hS.2.2 dX5_finish_58)))
  refine ec_aload_n hx hb dX5_finish_0 rfl (lv_at hl 1 rfl) ?_
  refine lv_iconst (v := 0) hx hb dX5_finish_1 (by decide) ?_
  refine cr_putg (t := 10) (j := 16) (C := RX1) (T := TX1) (N := 19) (ty0 := tyX1) (k := 37) (y := 0) hx hb htb inX1 tyX1_ok nmX1 hown hK hP hD hS hvb (by decide) (by decide) (by decide) (by decide) rfl rfl (by decide) (htb _ kw_382) rfl (by show Value.int 0 = Value.int (va_up gm 37 (upd (gm 37) b.toNatClampNeg 0) 37 b.toNatClampNeg); rw [va_up_self, upd_at]) (iv_nb (iv_w (iv_k (by decide) : iv 0 0 0) (by decide))) (iv_fb (iv_w (iv_k (by decide) : iv 0 0 0) (by decide))) dX5_finish_2 (fun gm_1 H locs egm_1 hP hD hS => ?_)
  have hI_gm_1 := CI_st hI egm_1 (iv_k (by decide) : iv 0 0 0) (by decide)
  refine ec_aload_n hx hb dX5_finish_5 rfl (lv_at hl 1 rfl) ?_
  refine lv_iconst (v := 1) hx hb dX5_finish_6 (by decide) ?_
  refine cr_putg (t := 10) (j := 17) (C := RX1) (T := TX1) (N := 19) (ty0 := tyX1) (k := 38) (y := 1) hx hb htb inX1 tyX1_ok nmX1 hown hK hP hD hS hvb (by decide) (by decide) (by decide) (by decide) rfl rfl (by decide) (htb _ kw_384) rfl (by show Value.int 1 = Value.int (va_up gm_1 38 (upd (gm_1 38) b.toNatClampNeg 1) 38 b.toNatClampNeg); rw [va_up_self, upd_at]) (iv_nb (iv_w (iv_k (by decide) : iv 1 1 1) (by decide))) (iv_fb (iv_w (iv_k (by decide) : iv 1 1 1) (by decide))) dX5_finish_7 (fun gm_2 H locs egm_2 hP hD hS => ?_)
  have hI_gm_2 := CI_st hI_gm_1 egm_2 (iv_k (by decide) : iv 1 1 1) (by decide)
  refine ec_aload_n hx hb dX5_finish_10 rfl (lv_at hl 1 rfl) ?_
  refine cr_get (t := 10) (j := 5) (C := RX1) (T := TX1) (N := 19) (v := .long (lg 4 b.toNatClampNeg)) hx hb htb inX1 hown hK hP hvb (by decide) (by decide) (by decide) rfl (by decide) (htb _ kw_360) rfl dX5_finish_11 ?_
  refine lv_topl (fun z_3 ez_3 => ?_)
  refine lv_lconst (v := 0) hx hb dX5_finish_14 (by decide) ?_
  refine W.lcmp hx hb dX5_finish_15 ?_
  refine lv_topi (fun z_4 ez_4 => ?_)
  have hz_4 : iv (-1) 1 z_4 := iv_of ez_4 (iv_cmp _ _)
  refine lv_if_eq (tgt := 58) hx hb dX5_finish_16 (by decide) (fun c_5 => ?_) (fun c_5 => ?_)
  · have h_6 : iv 0 0 z_4 := iv_eq c_5 hz_4 (iv_k (by decide) : iv 0 0 0) (by decide)
    exact hj58 sg gm_2 hvx hvb KS_rf (KS_up (KS_up KS_rf egm_1 (by decide)) egm_2 (by decide)) hI_gm_2 ((show gm_2 37 = upd (gm 37) (b : Int32).toNatClampNeg 0 from ((up_ne egm_2 (by decide)).trans ((up_at egm_1).trans (by rw [show gm 37 = gm 37 from rfl]))))) ((show gm_2 38 = upd (gm 38) (b : Int32).toNatClampNeg 1 from ((up_at egm_2).trans (by rw [show gm_1 38 = gm 38 from ((up_ne egm_1 (by decide)).trans rfl)])))) (FND9_e hFND9 rfl (Eq.trans (up_ne egm_2 (by decide)) (up_ne egm_1 (by decide)))) (RC_fn hRC (lt_cl hvb (show iv 0 80 (sg 12) from CI_s hI 12) (by decide) (by decide) hb12) hz1 KS_rf (KS_up (KS_up KS_rf egm_1 (by decide)) egm_2 (by decide)) (show gm_2 37 = upd (gm 37) (b : Int32).toNatClampNeg 0 from ((up_ne egm_2 (by decide)).trans ((up_at egm_1).trans (by rw [show gm 37 = gm 37 from rfl])))) rfl (show gm_2 38 = upd (gm 38) (b : Int32).toNatClampNeg 1 from ((up_at egm_2).trans (by rw [show gm_1 38 = gm 38 from ((up_ne egm_1 (by decide)).trans rfl)]))) (by decide) (fun q9 => absurd q9 (fun q8 => q8.1 (ez_3.symm.trans ((lg_cmp_eq _ _).mp (by rw [← ez_4]; exact c_5))))) (fun _ => ⟨rfl, (Eq.trans (up_ne egm_2 (by decide)) (up_ne egm_1 (by decide)))⟩)) _ _ _ hP hD hS (lv_sub hl [0, 1] rfl)
  · have d_7 : ¬ (z_4 : Int32).toInt = 0 := lv_neT c_5 rfl
    refine ec_aload_n hx hb dX5_finish_19 rfl (lv_at hl 1 rfl) ?_
    refine cr_get (t := 10) (j := 14) (C := RX1) (T := TX1) (N := 19) (v := .int (gm_2 35 b.toNatClampNeg)) hx hb htb inX1 hown hK hP hvb (by decide) (by decide) (by decide) rfl (by decide) (htb _ kw_378) rfl dX5_finish_20 ?_
    obtain ⟨z_8, ez_8⟩ : ∃ z : Int32, z = (gm_2 35 b.toNatClampNeg) := ⟨_, rfl⟩
    refine W.eq (g2 := F0 m 23 ls [.int z_8]) (by rw [ez_8]) ?_
    have hz_8 : iv 0 1 z_8 := iv_of ez_8 (CI_a hI_gm_2 35 hvb (by decide))
    have ez_8 := ez_8.trans (congrFun (Eq.trans (up_ne egm_2 (by decide)) (up_ne egm_1 (by decide))) _)
    refine lv_if_ne (tgt := 58) hx hb dX5_finish_23 (by decide) (fun c_9 => ?_) (fun c_9 => ?_)
    · have h_10 : iv 1 1 z_8 := iv_neL c_9 hz_8 (by decide)
      exact hj58 sg gm_2 hvx hvb KS_rf (KS_up (KS_up KS_rf egm_1 (by decide)) egm_2 (by decide)) hI_gm_2 ((show gm_2 37 = upd (gm 37) (b : Int32).toNatClampNeg 0 from ((up_ne egm_2 (by decide)).trans ((up_at egm_1).trans (by rw [show gm 37 = gm 37 from rfl]))))) ((show gm_2 38 = upd (gm 38) (b : Int32).toNatClampNeg 1 from ((up_at egm_2).trans (by rw [show gm_1 38 = gm 38 from ((up_ne egm_1 (by decide)).trans rfl)])))) (FND9_e hFND9 rfl (Eq.trans (up_ne egm_2 (by decide)) (up_ne egm_1 (by decide)))) (RC_fn hRC (lt_cl hvb (show iv 0 80 (sg 12) from CI_s hI 12) (by decide) (by decide) hb12) hz1 KS_rf (KS_up (KS_up KS_rf egm_1 (by decide)) egm_2 (by decide)) (show gm_2 37 = upd (gm 37) (b : Int32).toNatClampNeg 0 from ((up_ne egm_2 (by decide)).trans ((up_at egm_1).trans (by rw [show gm 37 = gm 37 from rfl])))) rfl (show gm_2 38 = upd (gm 38) (b : Int32).toNatClampNeg 1 from ((up_at egm_2).trans (by rw [show gm_1 38 = gm 38 from ((up_ne egm_1 (by decide)).trans rfl)]))) (by decide) (fun q9 => absurd q9 (fun q8 => absurd (congrArg Int32.toInt ((swt9 hSW ez_8 rfl).symm.trans q8.2)) (by have := i32_0; have := i32_0; have := i32_1; have := i32_2; have := i32_m1; have := (hvx).1; have := (hvx).2; have := (hvb).1; have := (hvb).2; have := (hz_4).1; have := (hz_4).2; have := (h_10).1; have := (h_10).2; omega))) (fun _ => ⟨rfl, (Eq.trans (up_ne egm_2 (by decide)) (up_ne egm_1 (by decide)))⟩)) _ _ _ hP hD hS (lv_sub hl [0, 1] rfl)
    · have h_11 : iv 0 0 z_8 := iv_eq c_9 hz_8 (iv_k (by decide) : iv 0 0 0) (by decide)
      refine ec_aload_n hx hb dX5_finish_26 rfl (lv_at hl 0 rfl) ?_
      refine cr_get (t := 6) (j := 7) (C := RX5) (T := TX5) (N := 13) (v := .int (sg 15)) hx hb htb inX5 hown hK hP hvx (by decide) (by decide) (by decide) rfl (by decide) (htb _ kw_411) rfl dX5_finish_27 ?_
      refine ec_aload_n hx hb dX5_finish_30 rfl (lv_at hl 0 rfl) ?_
      refine cr_get (t := 6) (j := 6) (C := RX5) (T := TX5) (N := 13) (v := eV (ad 24) 0) hx hb htb inX5 hown hK hP hvx (by decide) (by decide) (by decide) rfl (by decide) (htb _ kw_410) (cV_c rfl (by decide) (by rw [show cMu 6 6 = 0 from rfl, Nat.zero_mul]; rfl)) dX5_finish_31 ?_
      refine cr_alen (t := 24) (z := 80) hx hb hK hP (iv_k (by decide) : iv 0 0 0) (by decide) (by decide) (by decide) rfl dX5_finish_34 ?_
      refine lv_icmp_ge (tgt := 58) hx hb dX5_finish_35 (by decide) (fun c_12 => ?_) (fun c_12 => ?_)
      · have h_13 : iv 80 80 (sg 15) := iv_leR c_12 (iv_k (by decide) : iv 80 80 80) (show iv 0 80 (sg 15) from CI_s hI 15) (by decide)
        exact hj58 sg gm_2 hvx hvb KS_rf (KS_up (KS_up KS_rf egm_1 (by decide)) egm_2 (by decide)) hI_gm_2 ((show gm_2 37 = upd (gm 37) (b : Int32).toNatClampNeg 0 from ((up_ne egm_2 (by decide)).trans ((up_at egm_1).trans (by rw [show gm 37 = gm 37 from rfl]))))) ((show gm_2 38 = upd (gm 38) (b : Int32).toNatClampNeg 1 from ((up_at egm_2).trans (by rw [show gm_1 38 = gm 38 from ((up_ne egm_1 (by decide)).trans rfl)])))) (FND9_e hFND9 rfl (Eq.trans (up_ne egm_2 (by decide)) (up_ne egm_1 (by decide)))) (RC_fn hRC (lt_cl hvb (show iv 0 80 (sg 12) from CI_s hI 12) (by decide) (by decide) hb12) hz1 KS_rf (KS_up (KS_up KS_rf egm_1 (by decide)) egm_2 (by decide)) (show gm_2 37 = upd (gm 37) (b : Int32).toNatClampNeg 0 from ((up_ne egm_2 (by decide)).trans ((up_at egm_1).trans (by rw [show gm 37 = gm 37 from rfl])))) rfl (show gm_2 38 = upd (gm 38) (b : Int32).toNatClampNeg 1 from ((up_at egm_2).trans (by rw [show gm_1 38 = gm 38 from ((up_ne egm_1 (by decide)).trans rfl)]))) (by decide) (fun q9 => absurd q9 (fun _ => absurd (RC_nf hRC (lt_cl hvb (show iv 0 80 (sg 12) from CI_s hI 12) (by decide) (by decide) hb12) hz1).1 (by have := hRC.2.2.2.1; have k1 : (sg 12).toNatClampNeg = (sg 12).toInt.toNat := rfl; have := i32_0; have := i32_1; have := i32_2; have := i32_m1; have := (show iv 0 80 (sg 12) from CI_s hI 12).1; have := (show iv 0 80 (sg 12) from CI_s hI 12).2; have := (show iv 0 80 (sg 15) from CI_s hI 15).1; have := (show iv 0 80 (sg 15) from CI_s hI 15).2; have := (hvx).1; have := (hvx).2; have := (hvb).1; have := (hvb).2; have := (hz_4).1; have := (hz_4).2; have := (h_11).1; have := (h_11).2; have := (h_13).1; have := (h_13).2; omega))) (fun _ => ⟨rfl, (Eq.trans (up_ne egm_2 (by decide)) (up_ne egm_1 (by decide)))⟩)) _ _ _ hP hD hS (lv_sub hl [0, 1] rfl)
      · have h_14 : iv 0 79 (sg 15) := iv_ltL (i32_lt c_12) (show iv 0 80 (sg 15) from CI_s hI 15) (iv_k (by decide) : iv 80 80 80) (by decide)
        refine ec_aload_n hx hb dX5_finish_38 rfl (lv_at hl 0 rfl) ?_
        refine cr_get (t := 6) (j := 6) (C := RX5) (T := TX5) (N := 13) (v := eV (ad 24) 0) hx hb htb inX5 hown hK hP hvx (by decide) (by decide) (by decide) rfl (by decide) (htb _ kw_410) (cV_c rfl (by decide) (by rw [show cMu 6 6 = 0 from rfl, Nat.zero_mul]; rfl)) dX5_finish_39 ?_
        refine ec_aload_n hx hb dX5_finish_42 rfl (lv_at hl 0 rfl) ?_
        refine cr_get (t := 6) (j := 7) (C := RX5) (T := TX5) (N := 13) (v := .int (sg 15)) hx hb htb inX5 hown hK hP hvx (by decide) (by decide) (by decide) rfl (by decide) (htb _ kw_411) rfl dX5_finish_43 ?_
        refine ec_aload_n hx hb dX5_finish_46 rfl (lv_at hl 1 rfl) ?_
        refine cr_aast (t := 24) (k := 51) hx hb hK hP hD hS (iv_k (by decide) : iv 0 0 0) (by decide) (by decide) (by decide) rfl rfl rfl rfl (show vp_in (sg 15) (cLen 24) from (show vp_in (sg 15) 80 from (iv_in h_14 (by decide)))) hvb (by decide) dX5_finish_47 (fun gm_15 H locs egm_15 hP hD hS => ?_)
        have hI_gm_15 := CI_st hI_gm_2 egm_15 hvb (by decide)
        refine ec_aload_n hx hb dX5_finish_48 rfl (lv_at hl 0 rfl) ?_
        refine lv_dup hx hb dX5_finish_49 (eV_cat _ _) ?_
        refine cr_get (t := 6) (j := 7) (C := RX5) (T := TX5) (N := 13) (v := .int (sg 15)) hx hb htb inX5 hown hK hP hvx (by decide) (by decide) (by decide) rfl (by decide) (htb _ kw_411) rfl dX5_finish_50 ?_
        refine lv_iconst (v := 1) hx hb dX5_finish_53 (by decide) ?_
        refine lv_iadd hx hb dX5_finish_54 ?_
        refine lv_topi (fun z_16 ez_16 => ?_)
        have hz_16 : iv 1 80 z_16 := iv_of ez_16 (iv_add h_14 (iv_k (by decide) : iv 1 1 1) (by decide))
        have tz_16 : z_16.toInt = ((sg 15) : Int32).toInt + 1 := by rw [ez_16]; exact iv_addE h_14 (iv_k (by decide) : iv 1 1 1) (by decide)
        refine cr_puts (t := 6) (j := 7) (C := RX5) (T := TX5) (N := 13) (ty0 := tyX5) (k := 15) (y := z_16) hx hb htb inX5 tyX5_ok nmX5 hown hK hP hD hS hvx (by decide) (by decide) (by decide) (by decide) rfl rfl rfl (by decide) (htb _ kw_411) rfl (by show Value.int z_16 = Value.int (va_up sg 15 z_16 15); rw [va_up_self]) rfl rfl dX5_finish_55 (fun sg_17 H locs esg_17 hP hD hS => ?_)
        have hI_sg_17 := CI_put hI_gm_15 esg_17 hz_16 (by decide)
        exact hj58 sg_17 gm_15 hvx hvb (KS_up KS_rf esg_17 (by decide)) (KS_up (KS_up (KS_up KS_rf egm_1 (by decide)) egm_2 (by decide)) egm_15 (by decide)) hI_sg_17 ((show gm_15 37 = upd (gm 37) (b : Int32).toNatClampNeg 0 from ((up_ne egm_15 (by decide)).trans ((up_ne egm_2 (by decide)).trans ((up_at egm_1).trans (by rw [show gm 37 = gm 37 from rfl])))))) ((show gm_15 38 = upd (gm 38) (b : Int32).toNatClampNeg 1 from ((up_ne egm_15 (by decide)).trans ((up_at egm_2).trans (by rw [show gm_1 38 = gm 38 from ((up_ne egm_1 (by decide)).trans rfl)]))))) (FND9_add hFND9 (show iv 0 80 (sg 15) from CI_s hI 15).1 hvb.1 (by have := i32_0; have := i32_1; have := i32_2; have := i32_m1; have := congrArg Int32.toInt (show sg_17 15 = z_16 from up_at esg_17); have := (hz_16).1; have := (hz_16).2; have := (hvx).1; have := (hvx).2; have := (hvb).1; have := (hvb).2; have := (hz_4).1; have := (hz_4).2; have := (h_11).1; have := (h_11).2; have := (h_14).1; have := (h_14).2; omega) (show gm_15 51 = upd (gm 51) ((sg 15) : Int32).toNatClampNeg b from ((up_at egm_15).trans (by rw [show gm_2 51 = gm 51 from ((up_ne egm_2 (by decide)).trans ((up_ne egm_1 (by decide)).trans rfl))])))) (RC_fn hRC (lt_cl hvb (show iv 0 80 (sg 12) from CI_s hI 12) (by decide) (by decide) hb12) hz1 (KS_up KS_rf esg_17 (by decide)) (KS_up (KS_up (KS_up KS_rf egm_1 (by decide)) egm_2 (by decide)) egm_15 (by decide)) (show gm_15 37 = upd (gm 37) (b : Int32).toNatClampNeg 0 from ((up_ne egm_15 (by decide)).trans ((up_ne egm_2 (by decide)).trans ((up_at egm_1).trans (by rw [show gm 37 = gm 37 from rfl]))))) rfl (show gm_15 38 = upd (gm 38) (b : Int32).toNatClampNeg 1 from ((up_ne egm_15 (by decide)).trans ((up_at egm_2).trans (by rw [show gm_1 38 = gm 38 from ((up_ne egm_1 (by decide)).trans rfl)])))) (by decide) (fun _ => ⟨by have := i32_0; have := i32_1; have := i32_2; have := i32_m1; have := congrArg Int32.toInt (show sg_17 15 = z_16 from up_at esg_17); have := (hz_16).1; have := (hz_16).2; have := (hvx).1; have := (hvx).2; have := (hvb).1; have := (hvb).2; have := (hz_4).1; have := (hz_4).2; have := (h_11).1; have := (h_11).2; have := (h_14).1; have := (h_14).2; omega, (sg 15).toNatClampNeg, b, cln9 (show iv 0 80 (sg 15) from CI_s hI 15).1, (cln9 hvb.1).symm, (show gm_15 51 = upd (gm 51) ((sg 15) : Int32).toNatClampNeg b from ((up_at egm_15).trans (by rw [show gm_2 51 = gm 51 from ((up_ne egm_2 (by decide)).trans ((up_ne egm_1 (by decide)).trans rfl))])))⟩) (fun q9 => absurd (show ¬ lg 4 b.toNatClampNeg = 0 ∧ wg 35 b.toNatClampNeg = 0 from ⟨(fun q8 => absurd (ez_3.trans q8) (fun q9 => c_5 (by rw [ez_4]; exact (lg_cmp_eq _ _).mpr q9))), (by rw [(swt9 hSW ez_8 rfl)]; exact Int32.toInt_inj.mp (by have := i32_0; have := i32_0; have := i32_1; have := i32_2; have := i32_m1; have := (hvx).1; have := (hvx).2; have := (hvb).1; have := (hvb).2; have := (hz_4).1; have := (hz_4).2; have := (h_11).1; have := (h_11).2; have := (h_14).1; have := (h_14).2; have := (hz_16).1; have := (hz_16).2; omega))⟩) q9)) _ _ _ hP hD hS (lv_sub hl [0, 1] rfl)

set_option maxHeartbeats 4000000 in
set_option maxRecDepth 100000 in
theorem d_nameBehindAlias9 (l : Launch) (dC : Nat → ClassId) (dI : Nat → Nat → Nat) (ad : Nat → Nat → Nat) (cid : Nat → ClassId) (a2 : Nat → Nat) (lx : List Nat) (sg : Nat → Int32) (gm : Nat → Nat → Int32) (lg : Nat → Nat → Int64) (x : Int32) (to : Int64) (wg : Nat → Nat → Int32) (ws : Nat → Int32) (hI : CI sg gm) (hvx : iv 0 0 x) (hSW : st9 gm = wg) (hSS : ss9 sg = ws) : CMt dC dI ad cid a2 lx l yX10_nameBehindAlias wm_X10_nameBehindAlias ({ frames := 1, cells := 1, slots := 6, locals := 21 }) [eV (ad 4) x, .long to] sg gm lg (fun v u => ∃ r : Int64, v = some (.long r) ∧ u = (sg, gm, lg) ∧ (r = alN ws wg lg to)) (fun _ _ => False) := by
  intro sz
  refine vx_ofW (cc := cX10_nameBehindAlias) (maxL := 5) (ret := (some .long)) (by decide) rfl ?_
  intro p e s m args below meth c s₁ B hml hxt hv
  obtain ⟨rfl, hsz, hP, hK, hD0, hG⟩ := hv
  have hx := B.exec
  have hb := B.bytes
  have hr := B.returns
  have hts := atoms_spec (ws := wm_X10_nameBehindAlias) B.pre
  have htb := fun (w : Cond) (h : w ∈ tb) => hts w (List.mem_cons_of_mem _ h)
  have hown : s.vm.findClass RX10 = some m.cls := findClass_of_methodNamed B.named
  have hlocks := B.notSynchronized
  subst hsz
  have hD := hD0.self (sz := s.heap.size)
  generalize hAe : va_A (cW ad cid a2 lx sg gm lg) s.heap.size = A at hD hG ⊢
  have hA : ∀ q : Nat, s.heap.size ≤ q → A q := fun q h => by rw [← hAe]; exact Or.inr h
  have hS : va_S A s.heap s.heap [] := va_S.rf
  have hl := lv_entry ([eV (ad 4) x, .long to]) (n := 5) (by rw [show (lg_sl ([eV (ad 4) x, .long to])).length = 3 from by simp [lg_sl, eV_cat, cat_i, cat_l]]; exact Nat.le_of_ble_eq_true rfl)
  rw [lg_entry_eq]
  generalize (lg_sl ([eV (ad 4) x, .long to]) ++ List.replicate (5 - (lg_sl ([eV (ad 4) x, .long to])).length) Slot.unset).toArray = ls at hl ⊢
  have hl : lv_has ls 5 [(0, eV (ad 4) x), (1, .long to)] := by simp [lv_args, eV_cat, cat_i, cat_l] at hl; exact hl
  have hj2 : ∀ (n : Nat) (x3_2 : Int32) (_ : (80 - x3_2.toInt).toNat = n) (_ : iv 0 80 x3_2) (_ : iv 0 0 x) (_ : alN ws wg lg to = alF wg lg to ((ws 4).toNatClampNeg - x3_2.toNatClampNeg) x3_2.toNatClampNeg) (H : Heap) (locs : List Loc) (ls : Array Slot), va_P (dC, dI) vwCl (cW ad cid a2 lx sg gm lg) H → va_D A (cW ad cid a2 lx sg gm lg) → va_S A s.heap H locs → lv_has ls 5 [(3, .int x3_2), (0, eV (ad 4) x), (1, .long to)] → W p l e (headSpec wm_X10_nameBehindAlias ({ frames := 1, cells := 1, slots := 6, locals := 21 })).room s m ([eV (ad 4) x, .long to] : List Value).toArray below meth c H locs 0 0 (vx_MQ below (cQx dC dI ad cid a2 lx (fun v u => ∃ r : Int64, v = some (.long r) ∧ u = (sg, gm, lg) ∧ (r = alN ws wg lg to)) A) (cX dC dI ad cid a2 lx (fun _ _ => False) A) ([eV (ad 4) x, .long to] : List Value).toArray s 1 6 A) (F0 m 2 ls []) := by
    intro n
    induction n using Nat.strongRecOn with
    | ind n ih2 =>
      intro x3_2 hn2 hx3_2 hsx0_2 hal H locs ls hP hD hS hl
      have hj50 : ∀ (x4_50 : Int32) (_ : iv 0 79 x4_50) (_ : iv 0 79 x3_2) (_ : iv 0 0 x) (_ : ¬ ((wg 14 x3_2.toNatClampNeg).toInt = 1 ∧ lg 1 x3_2.toNatClampNeg = to)) (_ : alN ws wg lg to = alF wg lg to ((ws 4).toNatClampNeg - x3_2.toNatClampNeg) x3_2.toNatClampNeg) (_ : x3_2.toInt < (ws 4).toInt) (H : Heap) (locs : List Loc) (ls : Array Slot), va_P (dC, dI) vwCl (cW ad cid a2 lx sg gm lg) H → va_D A (cW ad cid a2 lx sg gm lg) → va_S A s.heap H locs → lv_has ls 5 [(4, eV (ad 9) x4_50), (3, .int x3_2), (0, eV (ad 4) x), (1, .long to)] → W p l e (headSpec wm_X10_nameBehindAlias ({ frames := 1, cells := 1, slots := 6, locals := 21 })).room s m ([eV (ad 4) x, .long to] : List Value).toArray below meth c H locs 0 0 (vx_MQ below (cQx dC dI ad cid a2 lx (fun v u => ∃ r : Int64, v = some (.long r) ∧ u = (sg, gm, lg) ∧ (r = alN ws wg lg to)) A) (cX dC dI ad cid a2 lx (fun _ _ => False) A) ([eV (ad 4) x, .long to] : List Value).toArray s 1 6 A) (F0 m 50 ls []) := by
        intro x4_50 hx4_50 hsx3_50 hsx0_50 u50 hal50 h50 H locs ls hP hD hS hl
        obtain ⟨z_1, ez_1⟩ : ∃ z : Int32, z = x3_2 + 1 := ⟨_, rfl⟩
        have hz_1 : iv 1 80 z_1 := iv_of ez_1 (iv_add hsx3_50 (iv_k (by decide) : iv 1 1 1) (by decide))
        have tz_1 : z_1.toInt = x3_2.toInt + 1 := by rw [ez_1]; exact iv_addE hsx3_50 (iv_k (by decide) : iv 1 1 1) (by decide)
        refine lv_iinc (v := z_1) (lv' := [(3, .int z_1), (4, eV (ad 9) x4_50), (0, eV (ad 4) x), (1, .long to)]) hx hb dX10_nameBehindAlias_50 hl (k := 1) rfl ez_1.symm (by decide) rfl (fun ls hl => ?_)
        refine lv_goto (tgt := 2) hx hb dX10_nameBehindAlias_53 (by decide) ?_
        exact ih2 _ (by rw [← hn2]; exact (iv_meas tz_1 hsx3_50 (by decide))) z_1 rfl (iv_w hz_1 (by decide)) hsx0_50 ((by have q9 := hal50; rw [show (ws 4).toNatClampNeg - x3_2.toNatClampNeg = ((ws 4).toNatClampNeg - z_1.toNatClampNeg) + 1 from (by have q2 := h50; have k4 : (ws 4).toNatClampNeg = (ws 4).toInt.toNat := rfl; have q1 : z_1.toNatClampNeg = z_1.toInt.toNat := rfl; have q1 : x3_2.toNatClampNeg = x3_2.toInt.toNat := rfl; have := i32_0; have := i32_1; have := i32_2; have := i32_m1; have := (hsx0_50).1; have := (hsx0_50).2; have := (hsx3_50).1; have := (hsx3_50).2; have := (hx4_50).1; have := (hx4_50).2; have := (hz_1).1; have := (hz_1).2; omega), alF_s u50] at q9; rw [show z_1.toNatClampNeg = x3_2.toNatClampNeg + 1 from (by have q1 : z_1.toNatClampNeg = z_1.toInt.toNat := rfl; have q1 : x3_2.toNatClampNeg = x3_2.toInt.toNat := rfl; have := i32_0; have := i32_1; have := i32_2; have := i32_m1; have := (hsx0_50).1; have := (hsx0_50).2; have := (hsx3_50).1; have := (hsx3_50).2; have := (hx4_50).1; have := (hx4_50).2; have := (hz_1).1; have := (hz_1).2; omega)]; rw [show z_1.toNatClampNeg = x3_2.toNatClampNeg + 1 from (by have q1 : z_1.toNatClampNeg = z_1.toInt.toNat := rfl; have q1 : x3_2.toNatClampNeg = x3_2.toInt.toNat := rfl; have := i32_0; have := i32_1; have := i32_2; have := i32_m1; have := (hsx0_50).1; have := (hsx0_50).2; have := (hsx3_50).1; have := (hsx3_50).2; have := (hx4_50).1; have := (hx4_50).2; have := (hz_1).1; have := (hz_1).2; omega)] at q9; exact q9)) _ _ _ hP hD hS (lv_sub hl [0, 2, 3] rfl)
      refine lv_iload_n hx hb dX10_nameBehindAlias_2 rfl (lv_at hl 0 rfl) ?_
      refine ec_aload_n hx hb dX10_nameBehindAlias_3 rfl (lv_at hl 1 rfl) ?_
      refine cr_get (t := 4) (j := 0) (C := RX10) (T := TX10) (N := 4) (v := eV (ad 1) 0) hx hb htb inX10 hown hK hP hsx0_2 (by decide) (by decide) (by decide) rfl (by decide) (htb _ kw_387) (cV_c rfl (by decide) (by rw [show cMu 4 0 = 0 from rfl, Nat.zero_mul]; rfl)) dX10_nameBehindAlias_4 ?_
      refine cm_callV (t := 1) (C := RX6) (T := TX6) (N := 8) (rest := [.int x3_2]) (as := []) ⟨hx, hb, hml, hown, htb⟩ (d_countPa l dC dI ad cid a2 lx sg gm lg 0 hI (iv_k (by decide) : iv 0 0 0)) (cwV 0 htb (gd_V kw_749 kw_651 kw_652 kw_149 kw_1464) rfl rfl rfl (by decide +kernel) ⟨Nat.le_of_ble_eq_true rfl, Nat.le_of_ble_eq_true rfl⟩) (iv_k (by decide) : iv 0 0 0) (by decide) (by decide) rfl rfl hl.1 rfl (Nat.le_trans (cs_c (cat_i _) cs_n) (by decide)) dX10_nameBehindAlias_7 ⟨Nat.le_of_ble_eq_true rfl, Nat.le_of_ble_eq_true rfl⟩ hK hP hD hS hA hG (fun E ce q9 u_3 H locs hw hP hD hS hce hcv hcl => ?_) (fun v9 u_3 H locs hw hP hD hS => ?_)
      · exact hw.elim
      obtain ⟨r_2, rfl, rfl, hr_2, fr_r_2⟩ := hw
      have hP : va_P (dC, dI) vwCl (cW ad cid a2 lx sg gm lg) H := hP
      have hD : va_D A (cW ad cid a2 lx sg gm lg) := hD
      refine W.eq (g2 := F0 m 10 ls [.int r_2, .int x3_2]) rfl ?_
      refine lv_icmp_ge (tgt := 56) hx hb dX10_nameBehindAlias_10 (by decide) (fun c_5 => ?_) (fun c_5 => ?_)
      · have d_6 : (r_2 : Int32).toInt ≤ (x3_2 : Int32).toInt := Int32.le_iff_toInt_le.mp c_5
        refine lv_lconst (v := 0) hx hb dX10_nameBehindAlias_56 (by decide) ?_
        exact W.nb (fun hN => W.widen (k := 1) (n := 6) (by decide) (by decide) (vx_ret (W.lret (v := 0) hx hb hr (fun t ht hW => ⟨⟨some (.long 0), (sg, gm, lg), rfl, ⟨0, rfl, rfl, ((by have q9 := hal; rw [show (ws 4).toNatClampNeg - x3_2.toNatClampNeg = 0 from (by have q3 := congrArg Int32.toInt fr_r_2; have q2 := congrArg Int32.toInt (ss9_4 hSS); have k4 : (ws 4).toNatClampNeg = (ws 4).toInt.toNat := rfl; have q1 : x3_2.toNatClampNeg = x3_2.toInt.toNat := rfl; have := i32_0; have := i32_1; have := i32_2; have := i32_m1; have := (hsx0_2).1; have := (hsx0_2).2; have := (hx3_2).1; have := (hx3_2).2; have := (hr_2).1; have := (hr_2).2; omega)] at q9; exact q9.symm))⟩, by rw [ht]; exact hP, va_K.moved hW.alike hK, hD⟩, hS.F ht, by rw [ht]; exact hN⟩) hS.2.2 dX10_nameBehindAlias_57)))
      · have d_7 : (x3_2 : Int32).toInt < (r_2 : Int32).toInt := Int32.lt_iff_toInt_lt.mp (i32_lt c_5)
        have h_8 : iv 0 79 x3_2 := iv_ltL (i32_lt c_5) hx3_2 hr_2 (by decide)
        have h_9 : iv 1 80 r_2 := iv_ltR (i32_lt c_5) hx3_2 hr_2 (by decide)
        refine ec_aload_n hx hb dX10_nameBehindAlias_13 rfl (lv_at hl 1 rfl) ?_
        refine cr_get (t := 4) (j := 0) (C := RX10) (T := TX10) (N := 4) (v := eV (ad 1) 0) hx hb htb inX10 hown hK hP hsx0_2 (by decide) (by decide) (by decide) rfl (by decide) (htb _ kw_387) (cV_c rfl (by decide) (by rw [show cMu 4 0 = 0 from rfl, Nat.zero_mul]; rfl)) dX10_nameBehindAlias_14 ?_
        refine lv_iload_n hx hb dX10_nameBehindAlias_17 rfl (lv_at hl 0 rfl) ?_
        refine cm_callV (t := 1) (C := RX6) (T := TX6) (N := 8) (rest := []) (as := [.int x3_2]) ⟨hx, hb, hml, hown, htb⟩ (d_element l dC dI ad cid a2 lx sg gm lg 0 x3_2 hI (iv_k (by decide) : iv 0 0 0) h_8) (cwV 1 htb (gd_V kw_750 kw_654 kw_655 kw_149 kw_1465) rfl rfl rfl (by decide +kernel) ⟨Nat.le_of_ble_eq_true rfl, Nat.le_of_ble_eq_true rfl⟩) (iv_k (by decide) : iv 0 0 0) (by decide) (by decide) rfl rfl hl.1 rfl (Nat.le_trans cs_n (by decide)) dX10_nameBehindAlias_18 ⟨Nat.le_of_ble_eq_true rfl, Nat.le_of_ble_eq_true rfl⟩ hK hP hD hS hA hG (fun E ce q9 u_11 H locs hw hP hD hS hce hcv hcl => ?_) (fun v9 u_11 H locs hw hP hD hS => ?_)
        · exact hw.elim
        obtain ⟨r_10, rfl, rfl, hr_10, fr_r_10⟩ := hw
        have hP : va_P (dC, dI) vwCl (cW ad cid a2 lx sg gm lg) H := hP
        have hD : va_D A (cW ad cid a2 lx sg gm lg) := hD
        refine W.eq (g2 := F0 m 21 ls [eV (ad 9) r_10]) rfl ?_
        refine ec_astore (i := 4) (lv' := [(4, eV (ad 9) r_10), (3, .int x3_2), (0, eV (ad 4) x), (1, .long to)]) hx hb dX10_nameBehindAlias_21 hl (by decide) rfl (fun ls hl => ?_)
        refine ec_aload hx hb dX10_nameBehindAlias_23 (lv_at hl 0 rfl) ?_
        refine cr_get (t := 9) (j := 4) (C := RX3) (T := TX3) (N := 21) (v := eV (ad 33) (gm 14 r_10.toNatClampNeg)) hx hb htb inX3 hown hK hP hr_10 (by decide) (by decide) (by decide) rfl (by decide) (htb _ kw_244) rfl dX10_nameBehindAlias_25 ?_
        obtain ⟨z_13, ez_13⟩ : ∃ z : Int32, z = (gm 14 r_10.toNatClampNeg) := ⟨_, rfl⟩
        refine W.eq (g2 := F0 m 28 ls [eV (ad 33) z_13]) (by rw [ez_13]) ?_
        have hz_13 : iv (-1) 33 z_13 := iv_of ez_13 (CI_a hI 14 hr_10 (by decide))
        refine cw_word (k := 1) (kx := 1) hx hb hG hS (by decide) rfl ⟨by decide, by decide⟩ hown (htb _ kw_898) dX10_nameBehindAlias_28 ?_
        refine ec_acmp_ne (tgt := 50) hx hb dX10_nameBehindAlias_31 (by decide) (fun c_14 => ?_) (fun c_14 => ?_)
        · have wc_14 : ¬ z_13.toInt = (1 : Int) := fun q9 => c_14 (congrArg (er (ad 33)) (Int32.toInt_inj.mp q9))
          exact hj50 r_10 hr_10 h_8 hsx0_2 ((fun q9 => wc_14 (by have q8 := q9.1; rw [show wg 14 x3_2.toNatClampNeg = z_13 from (by rw [← fr_r_10]; exact (swt9 hSW ez_13 rfl))] at q8; exact q8))) (hal) ((by have q3 := congrArg Int32.toInt fr_r_2; have q2 := congrArg Int32.toInt (ss9_4 hSS); have k4 : (ws 4).toNatClampNeg = (ws 4).toInt.toNat := rfl; have := i32_0; have := i32_1; have := i32_2; have := i32_m1; have := (hsx0_2).1; have := (hsx0_2).2; have := (h_8).1; have := (h_8).2; have := (h_9).1; have := (h_9).2; have := (hr_10).1; have := (hr_10).2; have := (hz_13).1; have := (hz_13).2; omega)) _ _ _ hP hD hS (lv_sub hl [0, 1, 2, 3] rfl)
        · have wc_14 : z_13.toInt = (1 : Int) := er_wd hG hz_13 (iv_w (iv_k (by decide) : iv 1 1 1) (by decide)) c_14
          refine ec_aload hx hb dX10_nameBehindAlias_34 (lv_at hl 0 rfl) ?_
          refine cr_get (t := 9) (j := 11) (C := RX3) (T := TX3) (N := 21) (v := .long (lg 1 r_10.toNatClampNeg)) hx hb htb inX3 hown hK hP hr_10 (by decide) (by decide) (by decide) rfl (by decide) (htb _ kw_269) rfl dX10_nameBehindAlias_36 ?_
          refine lv_topl (fun z_15 ez_15 => ?_)
          refine lv_lload_n hx hb dX10_nameBehindAlias_39 rfl (lv_at hl 3 rfl) ?_
          refine W.lcmp hx hb dX10_nameBehindAlias_40 ?_
          refine lv_topi (fun z_16 ez_16 => ?_)
          have hz_16 : iv (-1) 1 z_16 := iv_of ez_16 (iv_cmp _ _)
          refine lv_if_ne (tgt := 50) hx hb dX10_nameBehindAlias_41 (by decide) (fun c_17 => ?_) (fun c_17 => ?_)
          · have d_18 : ¬ (z_16 : Int32).toInt = 0 := lv_neT c_17 rfl
            exact hj50 r_10 hr_10 h_8 hsx0_2 ((fun q9 => c_17 (by rw [ez_16]; exact (lg_cmp_eq _ _).mpr (by rw [ez_15, fr_r_10]; exact q9.2)))) (hal) ((by have q3 := congrArg Int32.toInt fr_r_2; have q2 := congrArg Int32.toInt (ss9_4 hSS); have k4 : (ws 4).toNatClampNeg = (ws 4).toInt.toNat := rfl; have := i32_0; have := i32_1; have := i32_2; have := i32_m1; have := (hsx0_2).1; have := (hsx0_2).2; have := (h_8).1; have := (h_8).2; have := (h_9).1; have := (h_9).2; have := (hr_10).1; have := (hr_10).2; have := (hz_13).1; have := (hz_13).2; have := (hz_16).1; have := (hz_16).2; omega)) _ _ _ hP hD hS (lv_sub hl [0, 1, 2, 3] rfl)
          · have h_19 : iv 0 0 z_16 := iv_eq c_17 hz_16 (iv_k (by decide) : iv 0 0 0) (by decide)
            refine ec_aload hx hb dX10_nameBehindAlias_44 (lv_at hl 0 rfl) ?_
            refine cr_get (t := 9) (j := 12) (C := RX3) (T := TX3) (N := 21) (v := .long (lg 2 r_10.toNatClampNeg)) hx hb htb inX3 hown hK hP hr_10 (by decide) (by decide) (by decide) rfl (by decide) (htb _ kw_271) rfl dX10_nameBehindAlias_46 ?_
            refine lv_topl (fun z_20 ez_20 => ?_)
            exact W.nb (fun hN => W.widen (k := 1) (n := 6) (by decide) (by decide) (vx_ret (W.lret (v := z_20) hx hb hr (fun t ht hW => ⟨⟨some (.long z_20), (sg, gm, lg), rfl, ⟨z_20, rfl, rfl, ((by have q9 := hal; rw [alF_h (by have q3 := congrArg Int32.toInt fr_r_2; have q2 := congrArg Int32.toInt (ss9_4 hSS); have k4 : (ws 4).toNatClampNeg = (ws 4).toInt.toNat := rfl; have q1 : x3_2.toNatClampNeg = x3_2.toInt.toNat := rfl; have := i32_0; have := i32_1; have := i32_2; have := i32_m1; have := (hsx0_2).1; have := (hsx0_2).2; have := (h_8).1; have := (h_8).2; have := (h_9).1; have := (h_9).2; have := (hr_10).1; have := (hr_10).2; have := (hz_13).1; have := (hz_13).2; have := (h_19).1; have := (h_19).2; omega) ⟨(by rw [show wg 14 x3_2.toNatClampNeg = z_13 from (by rw [← fr_r_10]; exact (swt9 hSW ez_13 rfl))]; exact wc_14), (by have q8 := c_17; rw [ez_16] at q8; have q7 := (lg_cmp_eq _ _).mp q8; rw [ez_15, fr_r_10] at q7; exact q7)⟩] at q9; rw [q9, ez_20, fr_r_10]))⟩, by rw [ht]; exact hP, va_K.moved hW.alike hK, hD⟩, hS.F ht, by rw [ht]; exact hN⟩) hS.2.2 dX10_nameBehindAlias_49)))
  refine lv_iconst (v := 0) hx hb dX10_nameBehindAlias_0 (by decide) ?_
  refine lv_istore_n (i := 3) (lv' := [(3, .int 0), (0, eV (ad 4) x), (1, .long to)]) hx hb dX10_nameBehindAlias_1 rfl hl (by decide) rfl (fun ls hl => ?_)
  exact hj2 _ 0 rfl (iv_w (iv_k (by decide) : iv 0 0 0) (by decide)) hvx (rfl) _ _ _ hP hD hS (lv_sub hl [0, 1, 2] rfl)
end
section
set_option maxHeartbeats 4000000 in
set_option maxRecDepth 100000 in
theorem d_called9 (l : Launch) (dC : Nat → ClassId) (dI : Nat → Nat → Nat) (ad : Nat → Nat → Nat) (cid : Nat → ClassId) (a2 : Nat → Nat) (lx : List Nat) (sg : Nat → Int32) (gm : Nat → Nat → Int32) (lg : Nat → Nat → Int64) (x : Int32) (nm : Int64) (wg : Nat → Nat → Int32) (ws : Nat → Int32) (hI : CI sg gm) (hvx : iv 0 0 x) (hSW : st9 gm = wg) (hSS : ss9 sg = ws) : CMt dC dI ad cid a2 lx l yX10_called wm_X10_called ({ frames := 2, cells := 1, slots := 6, locals := 45 }) [eV (ad 4) x, .long nm] sg gm lg (fun v u => ∃ r : Int32, v = some (eV (ad 10) r) ∧ u = (sg, gm, lg) ∧ (iv (-1) 79 r) ∧ (r.toInt = -1 ∨ (r.toInt < (sg 12).toInt ∧ ¬ lg 4 r.toNatClampNeg = 0)) ∧ (r.toInt = caN ws wg lg nm)) (fun _ _ => False) := by
  intro sz
  refine vx_ofW (cc := cX10_called) (maxL := 7) (ret := (some (.object "WiredBeans$Bean"))) (by decide) rfl ?_
  intro p e s m args below meth c s₁ B hml hxt hv
  obtain ⟨rfl, hsz, hP, hK, hD0, hG⟩ := hv
  have hx := B.exec
  have hb := B.bytes
  have hr := B.returns
  have hts := atoms_spec (ws := wm_X10_called) B.pre
  have htb := fun (w : Cond) (h : w ∈ tb) => hts w (List.mem_cons_of_mem _ h)
  have hown : s.vm.findClass RX10 = some m.cls := findClass_of_methodNamed B.named
  have hlocks := B.notSynchronized
  subst hsz
  have hD := hD0.self (sz := s.heap.size)
  generalize hAe : va_A (cW ad cid a2 lx sg gm lg) s.heap.size = A at hD hG ⊢
  have hA : ∀ q : Nat, s.heap.size ≤ q → A q := fun q h => by rw [← hAe]; exact Or.inr h
  have hS : va_S A s.heap s.heap [] := va_S.rf
  have hl := lv_entry ([eV (ad 4) x, .long nm]) (n := 7) (by rw [show (lg_sl ([eV (ad 4) x, .long nm])).length = 3 from by simp [lg_sl, eV_cat, cat_i, cat_l]]; exact Nat.le_of_ble_eq_true rfl)
  rw [lg_entry_eq]
  generalize (lg_sl ([eV (ad 4) x, .long nm]) ++ List.replicate (7 - (lg_sl ([eV (ad 4) x, .long nm])).length) Slot.unset).toArray = ls at hl ⊢
  have hl : lv_has ls 7 [(0, eV (ad 4) x), (1, .long nm)] := by simp [lv_args, eV_cat, cat_i, cat_l] at hl; exact hl
  have hj45 : ∀ (x5_45 : Int32) (x3_45 : Int64) (_ : iv 0 21 x5_45) (_ : iv 0 0 x) (_ : caF ws wg lg 21 nm = -1) (H : Heap) (locs : List Loc) (ls : Array Slot), va_P (dC, dI) vwCl (cW ad cid a2 lx sg gm lg) H → va_D A (cW ad cid a2 lx sg gm lg) → va_S A s.heap H locs → lv_has ls 7 [(5, .int x5_45), (3, .long x3_45), (0, eV (ad 4) x), (1, .long nm)] → W p l e (headSpec wm_X10_called ({ frames := 2, cells := 1, slots := 6, locals := 45 })).room s m ([eV (ad 4) x, .long nm] : List Value).toArray below meth c H locs 0 0 (vx_MQ below (cQx dC dI ad cid a2 lx (fun v u => ∃ r : Int32, v = some (eV (ad 10) r) ∧ u = (sg, gm, lg) ∧ (iv (-1) 79 r) ∧ (r.toInt = -1 ∨ (r.toInt < (sg 12).toInt ∧ ¬ lg 4 r.toNatClampNeg = 0)) ∧ (r.toInt = caN ws wg lg nm)) A) (cX dC dI ad cid a2 lx (fun _ _ => False) A) ([eV (ad 4) x, .long nm] : List Value).toArray s 1 6 A) (F0 m 45 ls []) := by
    intro x5_45 x3_45 hx5_45 hsx0_45 u45 H locs ls hP hD hS hl
    refine ec_null (a := ad 10) hx hb dX10_called_45 ?_
    exact W.nb (fun hN => W.widen (k := 1) (n := 6) (by decide) (by decide) (vx_ret (W.aret (v := eV (ad 10) (-1)) hx hb hr (Or.inl ⟨_, rfl⟩) (eV_is _ _) (fun t ht hW => ⟨⟨some (eV (ad 10) (-1)), (sg, gm, lg), rfl, ⟨(-1), rfl, rfl, (iv_w (iv_k (by decide) : iv (-1) (-1) (-1)) (by decide)), (Or.inl rfl), ((by show _ = (caF ws wg lg 21 nm).toInt; rw [u45]))⟩, by rw [ht]; exact hP, va_K.moved hW.alike hK, hD⟩, hS.F ht, by rw [ht]; exact hN⟩) hS.2.2 dX10_called_46)))
  have hj5 : ∀ (n : Nat) (x5_5 : Int32) (x3_5 : Int64) (_ : (21 - x5_5.toInt).toNat = n) (_ : iv 0 21 x5_5) (_ : iv 0 0 x) (_ : caF ws wg lg 21 nm = caF ws wg lg (21 - x5_5.toNatClampNeg) x3_5) (H : Heap) (locs : List Loc) (ls : Array Slot), va_P (dC, dI) vwCl (cW ad cid a2 lx sg gm lg) H → va_D A (cW ad cid a2 lx sg gm lg) → va_S A s.heap H locs → lv_has ls 7 [(5, .int x5_5), (3, .long x3_5), (0, eV (ad 4) x), (1, .long nm)] → W p l e (headSpec wm_X10_called ({ frames := 2, cells := 1, slots := 6, locals := 45 })).room s m ([eV (ad 4) x, .long nm] : List Value).toArray below meth c H locs 0 0 (vx_MQ below (cQx dC dI ad cid a2 lx (fun v u => ∃ r : Int32, v = some (eV (ad 10) r) ∧ u = (sg, gm, lg) ∧ (iv (-1) 79 r) ∧ (r.toInt = -1 ∨ (r.toInt < (sg 12).toInt ∧ ¬ lg 4 r.toNatClampNeg = 0)) ∧ (r.toInt = caN ws wg lg nm)) A) (cX dC dI ad cid a2 lx (fun _ _ => False) A) ([eV (ad 4) x, .long nm] : List Value).toArray s 1 6 A) (F0 m 5 ls []) := by
    intro n
    induction n using Nat.strongRecOn with
    | ind n ih5 =>
      intro x5_5 x3_5 hn5 hx5_5 hsx0_5 hca H locs ls hP hD hS hl
      refine lv_iload hx hb dX10_called_5 (lv_at hl 0 rfl) ?_
      refine lv_bipush (v := 20) hx hb dX10_called_7 (by decide) ?_
      refine lv_icmp_gt (tgt := 45) hx hb dX10_called_9 (by decide) (fun c_1 => ?_) (fun c_1 => ?_)
      · have h_2 : iv 21 21 x5_5 := iv_ltR c_1 (iv_k (by decide) : iv 20 20 20) hx5_5 (by decide)
        exact hj45 x5_5 x3_5 (iv_w h_2 (by decide)) hsx0_5 ((by rw [hca]; exact caF_z (Or.inr (by have q1 : x5_5.toNatClampNeg = x5_5.toInt.toNat := rfl; have := i32_0; have := i32_1; have := i32_2; have := i32_m1; have := (hsx0_5).1; have := (hsx0_5).2; have := (h_2).1; have := (h_2).2; omega)))) _ _ _ hP hD hS (lv_sub hl [0, 1, 2, 3] rfl)
      · have h_3 : iv 0 20 x5_5 := iv_leL (i32_ge c_1) hx5_5 (iv_k (by decide) : iv 20 20 20) (by decide)
        refine lv_lload_n hx hb dX10_called_12 rfl (lv_at hl 1 rfl) ?_
        refine lv_lconst (v := 0) hx hb dX10_called_13 (by decide) ?_
        refine W.lcmp hx hb dX10_called_14 ?_
        refine lv_topi (fun z_4 ez_4 => ?_)
        have hz_4 : iv (-1) 1 z_4 := iv_of ez_4 (iv_cmp _ _)
        refine lv_if_eq (tgt := 45) hx hb dX10_called_15 (by decide) (fun c_5 => ?_) (fun c_5 => ?_)
        · have h_6 : iv 0 0 z_4 := iv_eq c_5 hz_4 (iv_k (by decide) : iv 0 0 0) (by decide)
          exact hj45 x5_5 x3_5 (iv_w h_3 (by decide)) hsx0_5 ((by rw [hca]; exact caF_z (Or.inl ((lg_cmp_eq _ _).mp (by rw [← ez_4]; exact c_5))))) _ _ _ hP hD hS (lv_sub hl [0, 1, 2, 3] rfl)
        · have d_7 : ¬ (z_4 : Int32).toInt = 0 := lv_neT c_5 rfl
          refine ec_aload_n hx hb dX10_called_18 rfl (lv_at hl 2 rfl) ?_
          refine lv_lload_n hx hb dX10_called_19 rfl (lv_at hl 1 rfl) ?_
          refine cm_callV (t := 4) (C := RX10) (T := TX10) (N := 4) (rest := []) (as := [.long x3_5]) ⟨hx, hb, hml, hown, htb⟩ (d_withId2 l dC dI ad cid a2 lx sg gm lg x x3_5 hI hsx0_5) (cwV 1 htb (gd_V kw_803 kw_804 kw_41 kw_153 kw_1502) rfl rfl rfl (by decide +kernel) ⟨Nat.le_of_ble_eq_true rfl, Nat.le_of_ble_eq_true rfl⟩) hsx0_5 (by decide) (by decide) rfl rfl hl.1 rfl (Nat.le_trans cs_n (by decide)) dX10_called_20 ⟨Nat.le_of_ble_eq_true rfl, Nat.le_of_ble_eq_true rfl⟩ hK hP hD hS hA hG (fun E ce q9 u_9 H locs hw hP hD hS hce hcv hcl => ?_) (fun v9 u_9 H locs hw hP hD hS => ?_)
          · exact hw.elim
          obtain ⟨r_8, rfl, rfl, hr_8, fI_r_8, fD_r_8⟩ := hw
          have hP : va_P (dC, dI) vwCl (cW ad cid a2 lx sg gm lg) H := hP
          have hD : va_D A (cW ad cid a2 lx sg gm lg) := hD
          refine W.eq (g2 := F0 m 23 ls [eV (ad 10) r_8]) rfl ?_
          refine ec_astore (i := 6) (lv' := [(6, eV (ad 10) r_8), (5, .int x5_5), (3, .long x3_5), (0, eV (ad 4) x), (1, .long nm)]) hx hb dX10_called_23 hl (by decide) rfl (fun ls hl => ?_)
          refine ec_aload hx hb dX10_called_25 (lv_at hl 0 rfl) ?_
          refine ec_ifnull (tgt := 33) hx hb dX10_called_27 (by decide) (fun c_11 => ?_) (fun c_11 => ?_)
          · have h_12 : iv (-1) (-1) r_8 := ⟨(hr_8).1, by omega⟩
            refine ec_aload_n hx hb dX10_called_33 rfl (lv_at hl 3 rfl) ?_
            refine lv_lload_n hx hb dX10_called_34 rfl (lv_at hl 2 rfl) ?_
            refine cm_callV (t := 4) (C := RX10) (T := TX10) (N := 4) (rest := []) (as := [.long x3_5]) ⟨hx, hb, hml, hown, htb⟩ (d_nameBehindAlias9 l dC dI ad cid a2 lx sg gm lg x x3_5 wg ws hI hsx0_5 hSW hSS) (cwV 1 htb (gd_V kw_896 kw_897 kw_49 kw_153 kw_1529) rfl rfl rfl (by decide +kernel) ⟨Nat.le_of_ble_eq_true rfl, Nat.le_of_ble_eq_true rfl⟩) hsx0_5 (by decide) (by decide) rfl rfl hl.1 rfl (Nat.le_trans cs_n (by decide)) dX10_called_35 ⟨Nat.le_of_ble_eq_true rfl, Nat.le_of_ble_eq_true rfl⟩ hK hP hD hS hA hG (fun E ce q9 u_14 H locs hw hP hD hS hce hcv hcl => ?_) (fun v9 u_14 H locs hw hP hD hS => ?_)
            · exact hw.elim
            obtain ⟨r_13, rfl, rfl, fA_r_13⟩ := hw
            have hP : va_P (dC, dI) vwCl (cW ad cid a2 lx sg gm lg) H := hP
            have hD : va_D A (cW ad cid a2 lx sg gm lg) := hD
            refine W.eq (g2 := F0 m 38 ls [.long r_13]) rfl ?_
            refine lv_lstore_n (i := 3) (lv' := [(3, .long r_13), (6, eV (ad 10) r_8), (5, .int x5_5), (0, eV (ad 4) x), (1, .long nm)]) hx hb dX10_called_38 rfl hl (by decide) rfl (fun ls hl => ?_)
            obtain ⟨z_16, ez_16⟩ : ∃ z : Int32, z = x5_5 + 1 := ⟨_, rfl⟩
            have hz_16 : iv 1 21 z_16 := iv_of ez_16 (iv_add h_3 (iv_k (by decide) : iv 1 1 1) (by decide))
            have tz_16 : z_16.toInt = x5_5.toInt + 1 := by rw [ez_16]; exact iv_addE h_3 (iv_k (by decide) : iv 1 1 1) (by decide)
            refine lv_iinc (v := z_16) (lv' := [(5, .int z_16), (3, .long r_13), (6, eV (ad 10) r_8), (0, eV (ad 4) x), (1, .long nm)]) hx hb dX10_called_39 hl (k := 2) rfl ez_16.symm (by decide) rfl (fun ls hl => ?_)
            refine lv_goto (tgt := 5) hx hb dX10_called_42 (by decide) ?_
            exact ih5 _ (by rw [← hn5]; exact (iv_meas tz_16 h_3 (by decide))) z_16 r_13 rfl (iv_w hz_16 (by decide)) hsx0_5 ((by have q9 := hca; rw [show 21 - x5_5.toNatClampNeg = (21 - z_16.toNatClampNeg) + 1 from (by have q1 : z_16.toNatClampNeg = z_16.toInt.toNat := rfl; have q1 : x5_5.toNatClampNeg = x5_5.toInt.toNat := rfl; have := i32_0; have := i32_1; have := i32_2; have := i32_m1; have := (hsx0_5).1; have := (hsx0_5).2; have := (h_3).1; have := (h_3).2; have := (hz_4).1; have := (hz_4).2; have := (h_12).1; have := (h_12).2; have := (hz_16).1; have := (hz_16).2; omega), caF_s (f := 21 - z_16.toNatClampNeg) (v := x3_5) (fun q9 => c_5 (by rw [ez_4]; exact (lg_cmp_eq _ _).mpr q9)) (by rw [cWid_w hSS, ← fD_r_8]; exact Int32.toInt_inj.mp (by have := i32_m1; have := i32_0; have := i32_1; have := i32_2; have := i32_m1; have := (hsx0_5).1; have := (hsx0_5).2; have := (h_3).1; have := (h_3).2; have := (hz_4).1; have := (hz_4).2; have := (h_12).1; have := (h_12).2; have := (hz_16).1; have := (hz_16).2; have := (h_12).2; omega)), ← fA_r_13] at q9; exact q9)) _ _ _ hP hD hS (lv_sub hl [0, 1, 3, 4] rfl)
          · have h_17 : iv 0 79 r_8 := ⟨c_11, (hr_8).2⟩
            refine ec_aload hx hb dX10_called_30 (lv_at hl 0 rfl) ?_
            exact W.nb (fun hN => W.widen (k := 1) (n := 6) (by decide) (by decide) (vx_ret (W.aret (v := eV (ad 10) r_8) hx hb hr (Or.inl ⟨_, rfl⟩) (eV_is _ _) (fun t ht hW => ⟨⟨some (eV (ad 10) r_8), (sg, gm, lg), rfl, ⟨r_8, rfl, rfl, (iv_w h_17 (by decide)), (fI_r_8), ((by show _ = (caF ws wg lg 21 nm).toInt; rw [hca, caF_y (by have q1 : x5_5.toNatClampNeg = x5_5.toInt.toNat := rfl; have := i32_0; have := i32_1; have := i32_2; have := i32_m1; have := (hsx0_5).1; have := (hsx0_5).2; have := (h_3).1; have := (h_3).2; have := (hz_4).1; have := (hz_4).2; have := (h_17).1; have := (h_17).2; omega) (fun q9 => c_5 (by rw [ez_4]; exact (lg_cmp_eq _ _).mpr q9)) (by rw [cWid_w hSS, ← fD_r_8]; intro q8; have := congrArg Int32.toInt q8; have := i32_m1; have := i32_0; have := i32_1; have := i32_2; have := i32_m1; have := (hsx0_5).1; have := (hsx0_5).2; have := (h_3).1; have := (h_3).2; have := (hz_4).1; have := (hz_4).2; have := (h_17).1; have := (h_17).2; have := (h_17).1; omega), cWid_w hSS, ← fD_r_8]))⟩, by rw [ht]; exact hP, va_K.moved hW.alike hK, hD⟩, hS.F ht, by rw [ht]; exact hN⟩) hS.2.2 dX10_called_32)))
  refine lv_lload_n hx hb dX10_called_0 rfl (lv_at hl 1 rfl) ?_
  refine lv_lstore_n (i := 3) (lv' := [(3, .long nm), (0, eV (ad 4) x), (1, .long nm)]) hx hb dX10_called_1 rfl hl (by decide) rfl (fun ls hl => ?_)
  refine lv_iconst (v := 0) hx hb dX10_called_2 (by decide) ?_
  refine lv_istore (i := 5) (lv' := [(5, .int 0), (3, .long nm), (0, eV (ad 4) x), (1, .long nm)]) hx hb dX10_called_3 hl (by decide) rfl (fun ls hl => ?_)
  exact hj5 _ 0 nm rfl (iv_w (iv_k (by decide) : iv 0 0 0) (by decide)) hvx (rfl) _ _ _ hP hD hS (lv_sub hl [0, 1, 2, 3] rfl)
end
section
/-- what the document promises of the rows -/
def SV (ws : Nat → Int32) (wg : Nat → Nat → Int32) (wl : Nat → Nat → Int64) : Prop := (∀ c, c < (ws 4).toNatClampNeg → (wg 25 c).toInt = 6 → (wg 18 c).toInt = ((itC wg c).length : Int)) ∧ ∀ b, b < (ws 12).toNatClampNeg → (wg 41 (3 * b)).toInt ≤ 4 ∧ (¬ wl 4 b = 0 → caN ws wg wl (wl 4 b) = (b : Int))
theorem itL_le {wg : Nat → Nat → Int32} : ∀ f x, (itL wg f x).length ≤ f := by
  intro f
  induction f with
  | zero => intro x; exact Nat.le_refl _
  | succ f ih =>
    intro x
    show (if x < 0 then [] else x.toNat :: itL wg f (wg 17 x.toNat).toInt).length ≤ f + 1
    split
    · exact Nat.zero_le _
    · have := ih (wg 17 x.toNat).toInt
      show (itL wg f (wg 17 x.toNat).toInt).length + 1 ≤ f + 1
      omega
theorem itL_n {wg : Nat → Nat → Int32} {f : Nat} {x : Int} (h : x < 0 ∨ f = 0) : itL wg f x = [] := by
  cases f with
  | zero => rfl
  | succ f => show (if x < 0 then [] else _) = []; rw [if_pos (by rcases h with h | h; exact h; omega)]
theorem itL_c {wg : Nat → Nat → Int32} {f : Nat} {x : Int} (h : 0 ≤ x) : itL wg (f + 1) x = x.toNat :: itL wg f (wg 17 x.toNat).toInt := by
  show (if x < 0 then [] else _) = _; rw [if_neg (by omega)]
section RE9
variable {ws : Nat → Int32} {wg : Nat → Nat → Int32} {wl : Nat → Nat → Int64} {mk : Nat → S9 → Option Int × S9}
theorem oGet_n {t : Int} {S : S9} (h : t < 0) : oGet wg mk t S = (none, S) := by unfold oGet; rw [if_pos h]
theorem oGet_a {t : Int} {S : S9} (h : 0 ≤ t) (ha : ¬ wg 34 t.toNat = 0) : oGet wg mk t S = (none, S) := by unfold oGet; rw [if_neg (by omega), if_pos ha]
theorem oGet_h {t : Int} {S : S9} (h : 0 ≤ t) (ha : wg 34 t.toNat = 0) (h1 : wg 35 t.toNat = 0) (h2 : zS S t.toNat = 2 ∨ (zS S t.toNat = 1 ∧ ¬ zW S t.toNat = -1)) : oGet wg mk t S = (some (zW S t.toNat), S) := by
  unfold oGet; rw [if_neg (by omega), if_neg (fun q => q ha), if_pos ⟨h1, h2⟩]
theorem oGet_m {t : Int} {S : S9} (h : 0 ≤ t) (ha : wg 34 t.toNat = 0) (h1 : ¬ (wg 35 t.toNat = 0 ∧ (zS S t.toNat = 2 ∨ (zS S t.toNat = 1 ∧ ¬ zW S t.toNat = -1)))) : oGet wg mk t S = mk t.toNat S := by
  unfold oGet; rw [if_neg (by omega), if_neg (fun q => q ha), if_neg h1]
theorem oObj_n {e : Nat} {S : S9} (h : (wg 27 e).toInt < 0) : oObj ws wg wl mk e S = oGet wg mk (caN ws wg wl (wl 2 e)) S := by unfold oObj; rw [if_pos h]
theorem oObj_b {e : Nat} {S : S9} (h : 0 ≤ (wg 27 e).toInt) : oObj ws wg wl mk e S = mk (wg 27 e).toInt.toNat S := by unfold oObj; rw [if_neg (by omega)]
theorem oItm_7 {e : Nat} {S : S9} (h : (wg 25 e).toInt = 7) : oItm ws wg wl mk e S = (some (1000 + (wg 11 e).toInt), S) := by unfold oItm; rw [if_pos h]
theorem oItm_9 {e : Nat} {S : S9} (h : (wg 25 e).toInt = 9) : oItm ws wg wl mk e S = (some (-1), S) := by unfold oItm; rw [if_neg (by omega), if_pos h]
theorem oItm_o {e : Nat} {S S2 : S9} {o : Int} (h7 : ¬ (wg 25 e).toInt = 7) (h9 : ¬ (wg 25 e).toInt = 9) (ho : oObj ws wg wl mk e S = (some o, S2)) : oItm ws wg wl mk e S = (some (3000 + o), S2) := by unfold oItm; rw [if_neg h7, if_neg h9, ho]; rfl
theorem oItm_x {e : Nat} {S S2 : S9} (h7 : ¬ (wg 25 e).toInt = 7) (h9 : ¬ (wg 25 e).toInt = 9) (ho : oObj ws wg wl mk e S = (none, S2)) : oItm ws wg wl mk e S = (none, S2) := by unfold oItm; rw [if_neg h7, if_neg h9, ho]; rfl
theorem oCon_l {c : Nat} {S : S9} (h : (wg 25 c).toInt = 6) : oCon ws wg wl mk c S = oIts ws wg wl mk (itC wg c) [] S := by unfold oCon; rw [if_pos h]
theorem oCon_o {c : Nat} {S S2 : S9} {o : Int} (h : (wg 25 c).toInt = 8 ∨ (wg 25 c).toInt = 2) (ho : oObj ws wg wl mk c S = (some o, S2)) : oCon ws wg wl mk c S = (some [o], S2) := by unfold oCon; rw [if_neg (by omega), if_pos h, ho]; rfl
theorem oCon_x {c : Nat} {S S2 : S9} (h : (wg 25 c).toInt = 8 ∨ (wg 25 c).toInt = 2) (ho : oObj ws wg wl mk c S = (none, S2)) : oCon ws wg wl mk c S = (none, S2) := by unfold oCon; rw [if_neg (by omega), if_pos h, ho]; rfl
theorem oCon_t {c : Nat} {S : S9} (h6 : ¬ (wg 25 c).toInt = 6) (h : ¬ ((wg 25 c).toInt = 8 ∨ (wg 25 c).toInt = 2)) : oCon ws wg wl mk c S = (some [], S) := by unfold oCon; rw [if_neg h6, if_neg h]
theorem oIts_st {R : Option (List Int) × S9} {x y i i2 : Int32} {acc : List Int} {v : Int} {S1 S2 : S9} (hR : R = oIts ws wg wl mk (itL wg (6 - i.toNatClampNeg) x.toInt) acc S1) (hi : iv 0 5 i) (hx : 0 ≤ x.toInt) (hm : oItm ws wg wl mk x.toNatClampNeg S1 = (some v, S2)) (hy : y = wg 17 x.toNatClampNeg) (h2 : i2.toInt = i.toInt + 1) : R = oIts ws wg wl mk (itL wg (6 - i2.toNatClampNeg) y.toInt) (acc ++ [v]) S2 := by
  have a := cln9 hi.1
  have b := cln9 (u := i2) (by have := hi.1; omega)
  have c := hi.2
  rw [show 6 - i.toNatClampNeg = (6 - i2.toNatClampNeg) + 1 by omega, itL_c hx] at hR
  rw [hR, hy]
  show bd9 (oItm ws wg wl mk x.toNatClampNeg S1) _ = _
  rw [hm]; rfl
theorem oIts_x {R : Option (List Int) × S9} {x i : Int32} {acc : List Int} {S1 S2 : S9} (hR : R = oIts ws wg wl mk (itL wg (6 - i.toNatClampNeg) x.toInt) acc S1) (hi : iv 0 5 i) (hx : 0 ≤ x.toInt) (hm : oItm ws wg wl mk x.toNatClampNeg S1 = (none, S2)) : R = (none, S2) := by
  have a := cln9 hi.1
  have c := hi.2
  rw [show 6 - i.toNatClampNeg = (5 - i.toNatClampNeg) + 1 by omega, itL_c hx] at hR
  rw [hR]
  show bd9 (oItm ws wg wl mk x.toNatClampNeg S1) _ = _
  rw [hm]; rfl
theorem oIts_e {R : Option (List Int) × S9} {x i : Int32} {acc : List Int} {S1 : S9} (hR : R = oIts ws wg wl mk (itL wg (6 - i.toNatClampNeg) x.toInt) acc S1) (h : x.toInt < 0 ∨ 6 ≤ i.toInt) : R = (some acc, S1) := by
  rw [itL_n (by rcases h with h | h; exact Or.inl h; exact Or.inr (by have := cln9 (u := i) (by omega); omega))] at hR
  exact hR
theorem oIts_len : ∀ (l : List Nat) (acc V : List Int) (S S2 : S9), oIts ws wg wl mk l acc S = (some V, S2) → V.length = acc.length + l.length := by
  intro l
  induction l with
  | nil =>
    intro acc V S S2 h
    have h : ((some acc, S) : Option (List Int) × S9) = (some V, S2) := h
    injection h with h1 h2
    injection h1 with h1
    subst h1; rfl
  | cons e l ih =>
    intro acc V S S2 h
    have h : bd9 (oItm ws wg wl mk e S) (fun v S => oIts ws wg wl mk l (acc ++ [v]) S) = (some V, S2) := h
    cases hm : oItm ws wg wl mk e S with
    | mk o S1 =>
      rw [hm] at h
      cases o with
      | none => cases h
      | some v =>
        have := ih _ _ _ _ h
        rw [this, List.length_append, List.length_singleton, List.length_cons]; omega
theorem WVL_a {gm gm1 gm2 : Nat → Nat → Int32} {sl i d : Nat} {V : List Int} {v : Int32} (h : WVL gm sl V) (hw : WFR d gm gm1) (hd : sl + V.length < d) (hu : gm2 52 = upd (gm1 52) i v) (hi : i = sl + V.length) : WVL gm2 sl (V ++ [v.toInt]) := by
  intro j x hj
  subst hi
  rw [hu]
  rcases ga9 hj with ⟨hl, hj⟩ | ⟨hl, hj⟩
  · rw [upd_ne (by omega), hw (sl + j) (by omega)]; exact h j x hj
  · subst hj; subst hl; rw [upd_at]
theorem WVL_f {gm gm1 : Nat → Nat → Int32} {sl d : Nat} {V : List Int} (h : WVL gm sl V) (hw : WFR d gm gm1) (hd : sl + V.length ≤ d) : WVL gm1 sl V := fun j x hj => by
  have := gl9 hj
  rw [hw (sl + j) (by omega)]; exact h j x hj
theorem WVL_0 {gm : Nat → Nat → Int32} {sl : Nat} : WVL gm sl [] := fun j x hj => by cases hj
theorem WVL_1 {gm gm1 : Nat → Nat → Int32} {sl i : Nat} {v : Int32} (hu : gm1 52 = upd (gm 52) i v) (hi : i = sl) : WVL gm1 sl [v.toInt] := by
  have := WVL_a (gm := gm) (gm1 := gm) (gm2 := gm1) (sl := sl) (i := i) (d := sl + 1) (V := []) (v := v) WVL_0 WFR_rf (by show sl + 0 < _; omega) hu (by show i = sl + 0; omega)
  exact this
theorem oArs_st {R : Option (List (List Int)) × S9} {q : Nat} {i i2 : Int32} {a c : Nat} {acc : List (List Int)} {V : List Int} {S1 S2 : S9} (hR : R = oArs ws wg wl mk ((liL wg q).drop i.toNatClampNeg) acc S1) (ha : (liL wg q)[i.toNatClampNeg]? = some a) (hc : ctE wg a = c) (hm : oCon ws wg wl mk c S1 = (some V, S2)) (h0 : 0 ≤ i.toInt) (h2 : i2.toInt = i.toInt + 1) : R = oArs ws wg wl mk ((liL wg q).drop i2.toNatClampNeg) (acc ++ [V]) S2 := by
  have b1 := cln9 h0
  have b2 := cln9 (u := i2) (by omega)
  subst hc
  rw [dro9 ha] at hR
  rw [hR, show i2.toNatClampNeg = i.toNatClampNeg + 1 by omega]
  show bd9 (oCon ws wg wl mk (ctE wg a) S1) _ = _
  rw [hm]; rfl
theorem oArs_x {R : Option (List (List Int)) × S9} {q : Nat} {i : Int32} {a c : Nat} {acc : List (List Int)} {S1 S2 : S9} (hR : R = oArs ws wg wl mk ((liL wg q).drop i.toNatClampNeg) acc S1) (ha : (liL wg q)[i.toNatClampNeg]? = some a) (hc : ctE wg a = c) (hm : oCon ws wg wl mk c S1 = (none, S2)) : R = (none, S2) := by
  subst hc
  rw [dro9 ha] at hR
  rw [hR]
  show bd9 (oCon ws wg wl mk (ctE wg a) S1) _ = _
  rw [hm]; rfl
theorem oArs_e {R : Option (List (List Int)) × S9} {q : Nat} {i : Int32} {acc : List (List Int)} {S1 : S9} (hR : R = oArs ws wg wl mk ((liL wg q).drop i.toNatClampNeg) acc S1) (h : (wg 41 q).toNatClampNeg ≤ i.toNatClampNeg) : R = (some acc, S1) := by
  rw [List.drop_eq_nil_of_le (by rw [liL_l]; exact h)] at hR
  exact hR
theorem oSts_st {R : Option Int × S9} {o : Int} {q : Nat} {i i2 : Int32} {h c : Nat} {V : List Int} {u : Int} {S1 S2 S3 : S9} (hR : R = oSts ws wg wl mk o ((liL wg q).drop i.toNatClampNeg) S1) (ha : (liL wg q)[i.toNatClampNeg]? = some h) (hc : ctE wg h = c) (hm : oCon ws wg wl mk c S1 = (some V, S2)) (hs : oSe wg wl o h V S2 = (some u, S3)) (h0 : 0 ≤ i.toInt) (h2 : i2.toInt = i.toInt + 1) : R = oSts ws wg wl mk o ((liL wg q).drop i2.toNatClampNeg) S3 := by
  have b1 := cln9 h0
  have b2 := cln9 (u := i2) (by omega)
  subst hc
  rw [dro9 ha] at hR
  rw [hR, show i2.toNatClampNeg = i.toNatClampNeg + 1 by omega]
  show bd9 (oCon ws wg wl mk (ctE wg h) S1) _ = _
  rw [hm]
  show bd9 (oSe wg wl o h V S2) _ = _
  rw [hs]; rfl
theorem oSts_x {R : Option Int × S9} {o : Int} {q : Nat} {i : Int32} {h c : Nat} {S1 S2 : S9} (hR : R = oSts ws wg wl mk o ((liL wg q).drop i.toNatClampNeg) S1) (ha : (liL wg q)[i.toNatClampNeg]? = some h) (hc : ctE wg h = c) (hm : oCon ws wg wl mk c S1 = (none, S2)) : R = (none, S2) := by
  subst hc
  rw [dro9 ha] at hR
  rw [hR]
  show bd9 (oCon ws wg wl mk (ctE wg h) S1) _ = _
  rw [hm]; rfl
theorem oSts_y {R : Option Int × S9} {o : Int} {q : Nat} {i : Int32} {h c : Nat} {V : List Int} {S1 S2 S3 : S9} (hR : R = oSts ws wg wl mk o ((liL wg q).drop i.toNatClampNeg) S1) (ha : (liL wg q)[i.toNatClampNeg]? = some h) (hc : ctE wg h = c) (hm : oCon ws wg wl mk c S1 = (some V, S2)) (hs : oSe wg wl o h V S2 = (none, S3)) : R = (none, S3) := by
  subst hc
  rw [dro9 ha] at hR
  rw [hR]
  show bd9 (oCon ws wg wl mk (ctE wg h) S1) _ = _
  rw [hm]
  show bd9 (oSe wg wl o h V S2) _ = _
  rw [hs]; rfl
theorem oSts_e {R : Option Int × S9} {o : Int} {q : Nat} {i : Int32} {S1 : S9} (hR : R = oSts ws wg wl mk o ((liL wg q).drop i.toNatClampNeg) S1) (h : (wg 41 q).toNatClampNeg ≤ i.toNatClampNeg) : R = (some 0, S1) := by
  rw [List.drop_eq_nil_of_le (by rw [liL_l]; exact h)] at hR
  exact hR
theorem oSe_7 {o t : Int} {h : Nat} {V : List Int} {S : S9} (ht : sgF wg (wg 22 h).toNatClampNeg 8 (((zO S)[o.toNat]?).getD (0, 0)).1 = t) (h7 : t = -1) : oSe wg wl o h V S = (none, S) := by
  subst ht; unfold oSe; exact if_pos h7
theorem oSe_8 {o t w : Int} {h c : Nat} {V : List Int} {S : S9} (ht : sgF wg (wg 22 h).toNatClampNeg 8 (((zO S)[o.toNat]?).getD (0, 0)).1 = t) (h7 : ¬ t = -1) (hc : ctE wg h = c) (hw : wCo wg wl (zO S) c V t = w) (h8 : w = -1) : oSe wg wl o h V S = (none, S) := by
  subst ht; subst hc; subst hw; unfold oSe; show (if _ then _ else if _ then _ else _) = _; rw [if_neg h7, if_pos h8]
theorem oSe_s {o t w : Int} {h c : Nat} {V : List Int} {S : S9} (ht : sgF wg (wg 22 h).toNatClampNeg 8 (((zO S)[o.toNat]?).getD (0, 0)).1 = t) (h7 : ¬ t = -1) (hc : ctE wg h = c) (hw : wCo wg wl (zO S) c V t = w) (h8 : ¬ w = -1) : oSe wg wl o h V S = (some 0, tlV wg wl 4 o (wg 22 h).toInt c V t S) := by
  subst ht; subst hc; subst hw; unfold oSe; show (if _ then _ else if _ then _ else _) = _; rw [if_neg h7, if_neg h8]
end RE9
end
section
def PO9 (l : Launch) (dC : Nat → ClassId) (dI : Nat → Nat → Nat) (ad : Nat → Nat → Nat) (cid : Nat → ClassId) (a2 : Nat → Nat) (lx : List Nat) (n9 : Nat) : Prop := ∀ (sg : Nat → Int32) (gm : Nat → Nat → Int32) (lg : Nat → Nat → Int64) (x : Int32) (nm : Int64) (dp : Int32) (wg : Nat → Nat → Int32) (ws : Nat → Int32) (S : S9) (_ : CI sg gm) (_ : iv 0 0 x) (_ : iv 0 40 dp) (_ : WRD sg gm lg) (_ : LDI lx gm) (_ : MOK sg gm lg) (_ : FND9 sg gm) (_ : dp.toInt + ((n9 : Nat) : Int) = 40) (_ : st9 gm = wg) (_ : ss9 sg = ws) (_ : SV ws wg lg) (_ : RC wg lg S sg gm), CMt dC dI ad cid a2 lx l yX5_obtain wm_X5_obtain ({ frames := 22 + 8 * n9, cells := 1, slots := 6, locals := 640 + 260 * n9 }) [eV (ad 6) x, .long nm, .int dp] sg gm lg (fun v u => ∃ r : Int32, v = some (.int r) ∧ ∃ (sg2 : Nat → Int32) (gm2 : Nat → Nat → Int32) (lg2 : Nat → Nat → Int64), u = (sg2, gm2, lg2) ∧ CI sg2 gm2 ∧ KS [13, 14, 15, 16, 17, 18] sg sg2 ∧ KS [37, 38, 39, 48, 49, 50, 51, 52, 53] gm gm2 ∧ KS [] lg lg2 ∧ (iv 0 59 r) ∧ (MOK sg2 gm2 lg2) ∧ (FND9 sg2 gm2) ∧ (BMK gm gm2) ∧ (WFR (24 * dp.toNatClampNeg) gm gm2) ∧ ((sg 14).toInt ≤ (sg2 14).toInt) ∧ (r.toInt < (sg2 14).toInt) ∧ (∃ S2, oGet wg (oMK ws wg lg n9) (caN ws wg lg nm) S = (some r.toInt, S2) ∧ RC wg lg S2 sg2 gm2)) (fun E u => (E = "java/lang/UnsupportedOperationException") ∧ ∃ (sg2 : Nat → Int32) (gm2 : Nat → Nat → Int32) (lg2 : Nat → Nat → Int64), u = (sg2, gm2, lg2) ∧ CI sg2 gm2 ∧ KS [13, 14, 15, 16, 17, 18] sg sg2 ∧ KS [37, 38, 39, 48, 49, 50, 51, 52, 53] gm gm2 ∧ KS [] lg lg2 ∧ (MOK sg2 gm2 lg2) ∧ (FND9 sg2 gm2) ∧ (∃ S2, oGet wg (oMK ws wg lg n9) (caN ws wg lg nm) S = (none, S2) ∧ RC wg lg S2 sg2 gm2))

def PM9 (l : Launch) (dC : Nat → ClassId) (dI : Nat → Nat → Nat) (ad : Nat → Nat → Nat) (cid : Nat → ClassId) (a2 : Nat → Nat) (lx : List Nat) (n9 : Nat) : Prop := ∀ (sg : Nat → Int32) (gm : Nat → Nat → Int32) (lg : Nat → Nat → Int64) (x : Int32) (b : Int32) (dp : Int32) (wg : Nat → Nat → Int32) (ws : Nat → Int32) (S : S9) (_ : CI sg gm) (_ : iv 0 0 x) (_ : iv 0 79 b) (_ : iv 0 40 dp) (_ : WRD sg gm lg) (_ : LDI lx gm) (_ : MOK sg gm lg) (_ : FND9 sg gm) (_ : b.toInt < (sg 12).toInt) (_ : ¬ lg 4 b.toNatClampNeg = 0 → gm 35 b.toNatClampNeg = 0 → gm 38 b.toNatClampNeg = 0) (_ : dp.toInt + ((n9 : Nat) : Int) = 40) (_ : st9 gm = wg) (_ : ss9 sg = ws) (_ : SV ws wg lg) (_ : RC wg lg S sg gm), CMt dC dI ad cid a2 lx l yX5_make wm_X5_make ({ frames := 20 + 8 * n9, cells := 1, slots := 6, locals := 600 + 260 * n9 }) [eV (ad 6) x, eV (ad 10) b, .int dp] sg gm lg (fun v u => ∃ r : Int32, v = some (.int r) ∧ ∃ (sg2 : Nat → Int32) (gm2 : Nat → Nat → Int32) (lg2 : Nat → Nat → Int64), u = (sg2, gm2, lg2) ∧ CI sg2 gm2 ∧ KS [13, 14, 15, 16, 17, 18] sg sg2 ∧ KS [37, 38, 39, 48, 49, 50, 51, 52, 53] gm gm2 ∧ KS [] lg lg2 ∧ (iv 0 59 r) ∧ (MOK sg2 gm2 lg2) ∧ (FND9 sg2 gm2) ∧ (BMK gm gm2) ∧ (WFR (24 * dp.toNatClampNeg) gm gm2) ∧ ((sg 14).toInt ≤ (sg2 14).toInt) ∧ (r.toInt < (sg2 14).toInt) ∧ (∃ S2, oMK ws wg lg n9 b.toNatClampNeg S = (some r.toInt, S2) ∧ RC wg lg S2 sg2 gm2)) (fun E u => (E = "java/lang/UnsupportedOperationException") ∧ ∃ (sg2 : Nat → Int32) (gm2 : Nat → Nat → Int32) (lg2 : Nat → Nat → Int64), u = (sg2, gm2, lg2) ∧ CI sg2 gm2 ∧ KS [13, 14, 15, 16, 17, 18] sg sg2 ∧ KS [37, 38, 39, 48, 49, 50, 51, 52, 53] gm gm2 ∧ KS [] lg lg2 ∧ (MOK sg2 gm2 lg2) ∧ (FND9 sg2 gm2) ∧ (∃ S2, oMK ws wg lg n9 b.toNatClampNeg S = (none, S2) ∧ RC wg lg S2 sg2 gm2))

set_option maxHeartbeats 4000000 in
set_option maxRecDepth 100000 in
theorem d_objectOf9 (l : Launch) (dC : Nat → ClassId) (dI : Nat → Nat → Nat) (ad : Nat → Nat → Nat) (cid : Nat → ClassId) (a2 : Nat → Nat) (lx : List Nat) (sg : Nat → Int32) (gm : Nat → Nat → Int32) (lg : Nat → Nat → Int64) (hl9 : l.stackTraces = false) (n9 : Nat) (HO : PO9 l dC dI ad cid a2 lx n9) (HM : PM9 l dC dI ad cid a2 lx n9) (x : Int32) (o : Int32) (dp : Int32) (wg : Nat → Nat → Int32) (ws : Nat → Int32) (S : S9) (hI : CI sg gm) (hvx : iv 0 0 x) (hvo : iv 0 79 o) (hvdp : iv 0 39 dp) (hW : WRD sg gm lg) (hLD : LDI lx gm) (hMO : MOK sg gm lg) (hFN : FND9 sg gm) (ho4 : o.toInt < (sg 4).toInt) (hbo : BOK sg gm lg o.toNatClampNeg) (hdp : dp.toInt + ((n9 + 1 : Nat) : Int) = 40) (hSW : st9 gm = wg) (hSS : ss9 sg = ws) (hSV : SV ws wg lg) (hRC : RC wg lg S sg gm) : CMt dC dI ad cid a2 lx l yX5_objectOf wm_X5_objectOf ({ frames := 24 + 8 * n9, cells := 1, slots := 6, locals := 680 + 260 * n9 }) [eV (ad 6) x, eV (ad 9) o, .int dp] sg gm lg (fun v u => ∃ r : Int32, v = some (.int r) ∧ ∃ (sg2 : Nat → Int32) (gm2 : Nat → Nat → Int32) (lg2 : Nat → Nat → Int64), u = (sg2, gm2, lg2) ∧ CI sg2 gm2 ∧ KS [13, 14, 15, 16, 17, 18] sg sg2 ∧ KS [37, 38, 39, 48, 49, 50, 51, 52, 53] gm gm2 ∧ KS [] lg lg2 ∧ (iv 0 59 r) ∧ (MOK sg2 gm2 lg2) ∧ (FND9 sg2 gm2) ∧ (BMK gm gm2) ∧ (WFR (24 * dp.toNatClampNeg + 24) gm gm2) ∧ ((sg 14).toInt ≤ (sg2 14).toInt) ∧ (r.toInt < (sg2 14).toInt) ∧ (∃ S2, oObj ws wg lg (oMK ws wg lg n9) o.toNatClampNeg S = (some r.toInt, S2) ∧ RC wg lg S2 sg2 gm2)) (fun E u => (E = "java/lang/UnsupportedOperationException") ∧ ∃ (sg2 : Nat → Int32) (gm2 : Nat → Nat → Int32) (lg2 : Nat → Nat → Int64), u = (sg2, gm2, lg2) ∧ CI sg2 gm2 ∧ KS [13, 14, 15, 16, 17, 18] sg sg2 ∧ KS [37, 38, 39, 48, 49, 50, 51, 52, 53] gm gm2 ∧ KS [] lg lg2 ∧ (MOK sg2 gm2 lg2) ∧ (FND9 sg2 gm2) ∧ (∃ S2, oObj ws wg lg (oMK ws wg lg n9) o.toNatClampNeg S = (none, S2) ∧ RC wg lg S2 sg2 gm2)) := by
  intro sz
  refine vx_ofW (cc := cX5_objectOf) (maxL := 3) (ret := (some .int)) (by decide) rfl ?_
  intro p e s m args below meth c s₁ B hml hxt hv
  obtain ⟨rfl, hsz, hP, hK, hD0, hG⟩ := hv
  have hx := B.exec
  have hb := B.bytes
  have hr := B.returns
  have hts := atoms_spec (ws := wm_X5_objectOf) B.pre
  have htb := fun (w : Cond) (h : w ∈ tb) => hts w (List.mem_cons_of_mem _ h)
  have hown : s.vm.findClass RX5 = some m.cls := findClass_of_methodNamed B.named
  have hlocks := B.notSynchronized
  subst hsz
  have hD := hD0.self (sz := s.heap.size)
  generalize hAe : va_A (cW ad cid a2 lx sg gm lg) s.heap.size = A at hD hG ⊢
  have hA : ∀ q : Nat, s.heap.size ≤ q → A q := fun q h => by rw [← hAe]; exact Or.inr h
  have hS : va_S A s.heap s.heap [] := va_S.rf
  have hl := lv_entry ([eV (ad 6) x, eV (ad 9) o, .int dp]) (n := 3) (by rw [show (lg_sl ([eV (ad 6) x, eV (ad 9) o, .int dp])).length = 3 from by simp [lg_sl, eV_cat, cat_i, cat_l]]; exact Nat.le_of_ble_eq_true rfl)
  rw [lg_entry_eq]
  generalize (lg_sl ([eV (ad 6) x, eV (ad 9) o, .int dp]) ++ List.replicate (3 - (lg_sl ([eV (ad 6) x, eV (ad 9) o, .int dp])).length) Slot.unset).toArray = ls at hl ⊢
  have hl : lv_has ls 3 [(0, eV (ad 6) x), (1, eV (ad 9) o), (2, .int dp)] := by simp [lv_args, eV_cat, cat_i, cat_l] at hl; exact hl
  refine ec_aload_n hx hb dX5_objectOf_0 rfl (lv_at hl 1 rfl) ?_
  refine cr_get (t := 9) (j := 20) (C := RX3) (T := TX3) (N := 21) (v := eV (ad 10) (gm 27 o.toNatClampNeg)) hx hb htb inX3 hown hK hP hvo (by decide) (by decide) (by decide) rfl (by decide) (htb _ kw_296) rfl dX5_objectOf_1 ?_
  obtain ⟨z_1, ez_1⟩ : ∃ z : Int32, z = (gm 27 o.toNatClampNeg) := ⟨_, rfl⟩
  refine W.eq (g2 := F0 m 4 ls [eV (ad 10) z_1]) (by rw [ez_1]) ?_
  have hz_1 : iv (-1) 79 z_1 := iv_of ez_1 (CI_a hI 27 hvo (by decide))
  refine ec_ifnonnull (tgt := 21) hx hb dX5_objectOf_4 (by decide) (fun c_2 => ?_) (fun c_2 => ?_)
  · have h_3 : iv 0 79 z_1 := ⟨c_2, (hz_1).2⟩
    refine ec_aload_n hx hb dX5_objectOf_21 rfl (lv_at hl 0 rfl) ?_
    refine ec_aload_n hx hb dX5_objectOf_22 rfl (lv_at hl 1 rfl) ?_
    refine cr_get (t := 9) (j := 20) (C := RX3) (T := TX3) (N := 21) (v := eV (ad 10) (gm 27 o.toNatClampNeg)) hx hb htb inX3 hown hK hP hvo (by decide) (by decide) (by decide) rfl (by decide) (htb _ kw_296) rfl dX5_objectOf_23 ?_
    refine W.eq (g2 := F0 m 26 ls [eV (ad 10) z_1, eV (ad 6) x]) (by rw [show (gm 27 o.toNatClampNeg) = z_1 from ez_1.symm]) ?_
    refine lv_iload_n hx hb dX5_objectOf_26 rfl (lv_at hl 2 rfl) ?_
    refine lv_iconst (v := 1) hx hb dX5_objectOf_27 (by decide) ?_
    refine lv_iadd hx hb dX5_objectOf_28 ?_
    refine lv_topi (fun z_4 ez_4 => ?_)
    have hz_4 : iv 1 40 z_4 := iv_of ez_4 (iv_add hvdp (iv_k (by decide) : iv 1 1 1) (by decide))
    have tz_4 : z_4.toInt = (dp : Int32).toInt + 1 := by rw [ez_4]; exact iv_addE hvdp (iv_k (by decide) : iv 1 1 1) (by decide)
    refine cm_callV (t := 6) (C := RX5) (T := TX5) (N := 13) (rest := []) (as := [eV (ad 10) z_1, .int z_4]) ⟨hx, hb, hml, hown, htb⟩ (HM sg gm lg x z_1 z_4 wg ws S hI hvx h_3 (iv_w hz_4 (by decide)) hW hLD hMO hFN (by rw [show sg 12 = sg 12 from rfl]; rw [ez_1]; exact (hbo (by rw [← ez_1]; have := i32_0; have := i32_1; have := i32_2; have := i32_m1; have := (hvx).1; have := (hvx).2; have := (hvo).1; have := (hvo).2; have := (hvdp).1; have := (hvdp).2; have := (h_3).1; have := (h_3).2; have := (hz_4).1; have := (hz_4).2; have := (h_3).1; omega)).1) (fun q9 => absurd (by rw [ez_1]; exact (hbo (by rw [← ez_1]; have := i32_0; have := i32_1; have := i32_2; have := i32_m1; have := (hvx).1; have := (hvx).2; have := (hvo).1; have := (hvo).2; have := (hvdp).1; have := (hvdp).2; have := (h_3).1; have := (h_3).2; have := (hz_4).1; have := (hz_4).2; have := (h_3).1; omega)).2) q9) (by have := i32_0; have := i32_1; have := i32_2; have := i32_m1; have := (hvx).1; have := (hvx).2; have := (hvo).1; have := (hvo).2; have := (hvdp).1; have := (hvdp).2; have := (h_3).1; have := (h_3).2; have := (hz_4).1; have := (hz_4).2; omega) hSW hSS hSV hRC) (cwV 2 htb (gd_V kw_901 kw_902 kw_51 kw_159 kw_1531) rfl rfl rfl (by decide +kernel) ⟨(show 20 + 8 * n9 + 1 ≤ 24 + 8 * n9 from by omega), (show 8 + (5 + 11) + (600 + 260 * n9) ≤ 680 + 260 * n9 from by omega)⟩) hvx (by decide) (by decide) rfl rfl hl.1 rfl (Nat.le_trans cs_n (by decide)) dX5_objectOf_29 ⟨Nat.le_of_ble_eq_true rfl, Nat.le_of_ble_eq_true rfl⟩ hK hP hD hS hA hG (fun E ce q9 u_6 H locs hw hP hD hS hce hcv hcl => ?_) (fun v9 u_6 H locs hw hP hD hS => ?_)
    · obtain ⟨hE, hw⟩ := hw
      obtain ⟨sgv_7, gmv_7, lgv_7, rfl, hIv_7, ksv_7, kgv_7, klv_7, xMO_v_7, xFN_v_7, xM_v_7⟩ := hw
      obtain rfl := KS_nil klv_7
      have hP : va_P (dC, dI) vwCl (cW ad cid a2 lx sgv_7 gmv_7 lg) H := hP
      have hD : va_D A (cW ad cid a2 lx sgv_7 gmv_7 lg) := hD
      exact vx_out (fun x hx9 => (hxt x hx9).elim) hlocks hce hcv hcl (fun t ht hal => ⟨⟨(sgv_7, gmv_7, lg), ⟨hE, sgv_7, gmv_7, lg, rfl, hIv_7, (KS_tr (L := [13, 14, 15, 16, 17, 18]) KS_rf ksv_7 (by decide)), (KS_tr (L := [37, 38, 39, 48, 49, 50, 51, 52, 53]) KS_rf kgv_7 (by decide)), KS_rf, (xMO_v_7), (xFN_v_7), ((by obtain ⟨S2, h1, h2⟩ := xM_v_7; exact ⟨S2, (by rw [oObj_b (by rw [(swt9 hSW ez_1 rfl)]; exact (h_3).1), (swt9 hSW ez_1 rfl)]; exact h1), h2⟩))⟩, by rw [ht]; exact hP, va_K.moved hal hK, hD⟩, hS.F ht⟩) hS.2.2 (Nat.le_of_ble_eq_true rfl) (Nat.le_of_ble_eq_true rfl)
    obtain ⟨r_5, rfl, sgv_8, gmv_8, lgv_8, rfl, hIv_8, ksv_8, kgv_8, klv_8, hr_5, fMO_r_5, fFN_r_5, fBM_r_5, fWF_r_5, f14_r_5, fr_r_5, fM_r_5⟩ := hw
    obtain rfl := KS_nil klv_8
    have hP : va_P (dC, dI) vwCl (cW ad cid a2 lx sgv_8 gmv_8 lg) H := hP
    have hD : va_D A (cW ad cid a2 lx sgv_8 gmv_8 lg) := hD
    refine W.eq (g2 := F0 m 32 ls [.int r_5]) rfl ?_
    have bm_r_5 := BMK_t BMK_rf fBM_r_5
    have wf_r_5 : WFR (24 * dp.toNatClampNeg + 24) gm gmv_8 := WFR_t WFR_rf fWF_r_5 (by have q1 : z_4.toNatClampNeg = z_4.toInt.toNat := rfl; have q2 : dp.toNatClampNeg = dp.toInt.toNat := rfl; have := i32_0; have := i32_1; have := i32_2; have := i32_m1; have := (hvx).1; have := (hvx).2; have := (hvo).1; have := (hvo).2; have := (hvdp).1; have := (hvdp).2; have := (h_3).1; have := (h_3).2; have := (hz_4).1; have := (hz_4).2; have := (hr_5).1; have := (hr_5).2; omega)
    have m14_r_5 : (sg 14).toInt ≤ (sgv_8 14).toInt := Int.le_trans (Int.le_refl _) f14_r_5
    exact W.nb (fun hN => W.widen (k := 1) (n := 6) (by decide) (by decide) (vx_ret (W.iret (v := r_5) hx hb hr (fun t ht hW => ⟨⟨some (.int r_5), (sgv_8, gmv_8, lg), rfl, ⟨r_5, rfl, sgv_8, gmv_8, lg, rfl, hIv_8, (KS_tr (L := [13, 14, 15, 16, 17, 18]) KS_rf ksv_8 (by decide)), (KS_tr (L := [37, 38, 39, 48, 49, 50, 51, 52, 53]) KS_rf kgv_8 (by decide)), KS_rf, hr_5, (fMO_r_5), (fFN_r_5), (bm_r_5), (wf_r_5), (m14_r_5), (fr_r_5), ((by obtain ⟨S2, h1, h2⟩ := fM_r_5; exact ⟨S2, (by rw [oObj_b (by rw [(swt9 hSW ez_1 rfl)]; exact (h_3).1), (swt9 hSW ez_1 rfl)]; exact h1), h2⟩))⟩, by rw [ht]; exact hP, va_K.moved hW.alike hK, hD⟩, hS.F ht, by rw [ht]; exact hN⟩) hS.2.2 dX5_objectOf_32)))
  · have h_9 : iv (-1) (-1) z_1 := ⟨(hz_1).1, by omega⟩
    refine ec_aload_n hx hb dX5_objectOf_7 rfl (lv_at hl 0 rfl) ?_
    refine ec_aload_n hx hb dX5_objectOf_8 rfl (lv_at hl 1 rfl) ?_
    refine cr_get (t := 9) (j := 12) (C := RX3) (T := TX3) (N := 21) (v := .long (lg 2 o.toNatClampNeg)) hx hb htb inX3 hown hK hP hvo (by decide) (by decide) (by decide) rfl (by decide) (htb _ kw_273) rfl dX5_objectOf_9 ?_
    refine lv_topl (fun z_10 ez_10 => ?_)
    refine lv_iload_n hx hb dX5_objectOf_12 rfl (lv_at hl 2 rfl) ?_
    refine lv_iconst (v := 1) hx hb dX5_objectOf_13 (by decide) ?_
    refine lv_iadd hx hb dX5_objectOf_14 ?_
    refine lv_topi (fun z_11 ez_11 => ?_)
    have hz_11 : iv 1 40 z_11 := iv_of ez_11 (iv_add hvdp (iv_k (by decide) : iv 1 1 1) (by decide))
    have tz_11 : z_11.toInt = (dp : Int32).toInt + 1 := by rw [ez_11]; exact iv_addE hvdp (iv_k (by decide) : iv 1 1 1) (by decide)
    refine cm_callV (t := 6) (C := RX5) (T := TX5) (N := 13) (rest := []) (as := [.long z_10, .int z_11]) ⟨hx, hb, hml, hown, htb⟩ (HO sg gm lg x z_10 z_11 wg ws S hI hvx (iv_w hz_11 (by decide)) hW hLD hMO hFN (by have := i32_0; have := i32_1; have := i32_2; have := i32_m1; have := (hvx).1; have := (hvx).2; have := (hvo).1; have := (hvo).2; have := (hvdp).1; have := (hvdp).2; have := (h_9).1; have := (h_9).2; have := (hz_11).1; have := (hz_11).2; omega) hSW hSS hSV hRC) (cwV 2 htb (gd_V kw_891 kw_892 kw_48 kw_159 kw_1527) rfl rfl rfl (by decide +kernel) ⟨(show 22 + 8 * n9 + 1 ≤ 24 + 8 * n9 from by omega), (show 8 + (5 + 11) + (640 + 260 * n9) ≤ 680 + 260 * n9 from by omega)⟩) hvx (by decide) (by decide) rfl rfl hl.1 rfl (Nat.le_trans cs_n (by decide)) dX5_objectOf_15 ⟨Nat.le_of_ble_eq_true rfl, Nat.le_of_ble_eq_true rfl⟩ hK hP hD hS hA hG (fun E ce q9 u_13 H locs hw hP hD hS hce hcv hcl => ?_) (fun v9 u_13 H locs hw hP hD hS => ?_)
    · obtain ⟨hE, hw⟩ := hw
      obtain ⟨sgv_14, gmv_14, lgv_14, rfl, hIv_14, ksv_14, kgv_14, klv_14, xMO_v_14, xFN_v_14, xG_v_14⟩ := hw
      obtain rfl := KS_nil klv_14
      have hP : va_P (dC, dI) vwCl (cW ad cid a2 lx sgv_14 gmv_14 lg) H := hP
      have hD : va_D A (cW ad cid a2 lx sgv_14 gmv_14 lg) := hD
      exact vx_out (fun x hx9 => (hxt x hx9).elim) hlocks hce hcv hcl (fun t ht hal => ⟨⟨(sgv_14, gmv_14, lg), ⟨hE, sgv_14, gmv_14, lg, rfl, hIv_14, (KS_tr (L := [13, 14, 15, 16, 17, 18]) KS_rf ksv_14 (by decide)), (KS_tr (L := [37, 38, 39, 48, 49, 50, 51, 52, 53]) KS_rf kgv_14 (by decide)), KS_rf, (xMO_v_14), (xFN_v_14), ((by obtain ⟨S2, h1, h2⟩ := xG_v_14; exact ⟨S2, (by rw [oObj_n (by rw [(swt9 hSW ez_1 rfl)]; have := i32_0; have := i32_1; have := i32_2; have := i32_m1; have := (hvx).1; have := (hvx).2; have := (hvo).1; have := (hvo).2; have := (hvdp).1; have := (hvdp).2; have := (h_9).1; have := (h_9).2; have := (hz_11).1; have := (hz_11).2; have := (h_9).2; omega), ← ez_10]; exact h1), h2⟩))⟩, by rw [ht]; exact hP, va_K.moved hal hK, hD⟩, hS.F ht⟩) hS.2.2 (Nat.le_of_ble_eq_true rfl) (Nat.le_of_ble_eq_true rfl)
    obtain ⟨r_12, rfl, sgv_15, gmv_15, lgv_15, rfl, hIv_15, ksv_15, kgv_15, klv_15, hr_12, fMO_r_12, fFN_r_12, fBM_r_12, fWF_r_12, f14_r_12, fr_r_12, fG_r_12⟩ := hw
    obtain rfl := KS_nil klv_15
    have hP : va_P (dC, dI) vwCl (cW ad cid a2 lx sgv_15 gmv_15 lg) H := hP
    have hD : va_D A (cW ad cid a2 lx sgv_15 gmv_15 lg) := hD
    refine W.eq (g2 := F0 m 18 ls [.int r_12]) rfl ?_
    have bm_r_12 := BMK_t BMK_rf fBM_r_12
    have wf_r_12 : WFR (24 * dp.toNatClampNeg + 24) gm gmv_15 := WFR_t WFR_rf fWF_r_12 (by have q1 : z_11.toNatClampNeg = z_11.toInt.toNat := rfl; have q2 : dp.toNatClampNeg = dp.toInt.toNat := rfl; have := i32_0; have := i32_1; have := i32_2; have := i32_m1; have := (hvx).1; have := (hvx).2; have := (hvo).1; have := (hvo).2; have := (hvdp).1; have := (hvdp).2; have := (h_9).1; have := (h_9).2; have := (hz_11).1; have := (hz_11).2; have := (hr_12).1; have := (hr_12).2; omega)
    have m14_r_12 : (sg 14).toInt ≤ (sgv_15 14).toInt := Int.le_trans (Int.le_refl _) f14_r_12
    refine lv_goto (tgt := 32) hx hb dX5_objectOf_18 (by decide) ?_
    exact W.nb (fun hN => W.widen (k := 1) (n := 6) (by decide) (by decide) (vx_ret (W.iret (v := r_12) hx hb hr (fun t ht hW => ⟨⟨some (.int r_12), (sgv_15, gmv_15, lg), rfl, ⟨r_12, rfl, sgv_15, gmv_15, lg, rfl, hIv_15, (KS_tr (L := [13, 14, 15, 16, 17, 18]) KS_rf ksv_15 (by decide)), (KS_tr (L := [37, 38, 39, 48, 49, 50, 51, 52, 53]) KS_rf kgv_15 (by decide)), KS_rf, hr_12, (fMO_r_12), (fFN_r_12), (bm_r_12), (wf_r_12), (m14_r_12), (fr_r_12), ((by obtain ⟨S2, h1, h2⟩ := fG_r_12; exact ⟨S2, (by rw [oObj_n (by rw [(swt9 hSW ez_1 rfl)]; have := i32_0; have := i32_1; have := i32_2; have := i32_m1; have := (hvx).1; have := (hvx).2; have := (hvo).1; have := (hvo).2; have := (hvdp).1; have := (hvdp).2; have := (h_9).1; have := (h_9).2; have := (hz_11).1; have := (hz_11).2; have := (hr_12).1; have := (hr_12).2; have := (h_9).2; omega), ← ez_10]; exact h1), h2⟩))⟩, by rw [ht]; exact hP, va_K.moved hW.alike hK, hD⟩, hS.F ht, by rw [ht]; exact hN⟩) hS.2.2 dX5_objectOf_32)))

set_option maxHeartbeats 4000000 in
set_option maxRecDepth 100000 in
theorem d_itemValue9 (l : Launch) (dC : Nat → ClassId) (dI : Nat → Nat → Nat) (ad : Nat → Nat → Nat) (cid : Nat → ClassId) (a2 : Nat → Nat) (lx : List Nat) (sg : Nat → Int32) (gm : Nat → Nat → Int32) (lg : Nat → Nat → Int64) (hl9 : l.stackTraces = false) (n9 : Nat) (HO : PO9 l dC dI ad cid a2 lx n9) (HM : PM9 l dC dI ad cid a2 lx n9) (x : Int32) (o : Int32) (dp : Int32) (wg : Nat → Nat → Int32) (ws : Nat → Int32) (S : S9) (hI : CI sg gm) (hvx : iv 0 0 x) (hvo : iv 0 79 o) (hvdp : iv 0 39 dp) (hW : WRD sg gm lg) (hLD : LDI lx gm) (hMO : MOK sg gm lg) (hFN : FND9 sg gm) (ho4 : o.toInt < (sg 4).toInt) (hbo : BOK sg gm lg o.toNatClampNeg) (hdp : dp.toInt + ((n9 + 1 : Nat) : Int) = 40) (hSW : st9 gm = wg) (hSS : ss9 sg = ws) (hSV : SV ws wg lg) (hRC : RC wg lg S sg gm) : CMt dC dI ad cid a2 lx l yX5_itemValue wm_X5_itemValue ({ frames := 25 + 8 * n9, cells := 1, slots := 6, locals := 720 + 260 * n9 }) [eV (ad 6) x, eV (ad 9) o, .int dp] sg gm lg (fun v u => ∃ r : Int32, v = some (.int r) ∧ ∃ (sg2 : Nat → Int32) (gm2 : Nat → Nat → Int32) (lg2 : Nat → Nat → Int64), u = (sg2, gm2, lg2) ∧ CI sg2 gm2 ∧ KS [13, 14, 15, 16, 17, 18] sg sg2 ∧ KS [37, 38, 39, 48, 49, 50, 51, 52, 53] gm gm2 ∧ KS [] lg lg2 ∧ (MOK sg2 gm2 lg2) ∧ (FND9 sg2 gm2) ∧ (BMK gm gm2) ∧ (WFR (24 * dp.toNatClampNeg + 24) gm gm2) ∧ ((sg 14).toInt ≤ (sg2 14).toInt) ∧ (∃ S2, oItm ws wg lg (oMK ws wg lg n9) o.toNatClampNeg S = (some r.toInt, S2) ∧ RC wg lg S2 sg2 gm2)) (fun E u => (E = "java/lang/UnsupportedOperationException") ∧ ∃ (sg2 : Nat → Int32) (gm2 : Nat → Nat → Int32) (lg2 : Nat → Nat → Int64), u = (sg2, gm2, lg2) ∧ CI sg2 gm2 ∧ KS [13, 14, 15, 16, 17, 18] sg sg2 ∧ KS [37, 38, 39, 48, 49, 50, 51, 52, 53] gm gm2 ∧ KS [] lg lg2 ∧ (MOK sg2 gm2 lg2) ∧ (FND9 sg2 gm2) ∧ (∃ S2, oItm ws wg lg (oMK ws wg lg n9) o.toNatClampNeg S = (none, S2) ∧ RC wg lg S2 sg2 gm2)) := by
  intro sz
  refine vx_ofW (cc := cX5_itemValue) (maxL := 3) (ret := (some .int)) (by decide) rfl ?_
  intro p e s m args below meth c s₁ B hml hxt hv
  obtain ⟨rfl, hsz, hP, hK, hD0, hG⟩ := hv
  have hx := B.exec
  have hb := B.bytes
  have hr := B.returns
  have hts := atoms_spec (ws := wm_X5_itemValue) B.pre
  have htb := fun (w : Cond) (h : w ∈ tb) => hts w (List.mem_cons_of_mem _ h)
  have hown : s.vm.findClass RX5 = some m.cls := findClass_of_methodNamed B.named
  have hlocks := B.notSynchronized
  subst hsz
  have hD := hD0.self (sz := s.heap.size)
  generalize hAe : va_A (cW ad cid a2 lx sg gm lg) s.heap.size = A at hD hG ⊢
  have hA : ∀ q : Nat, s.heap.size ≤ q → A q := fun q h => by rw [← hAe]; exact Or.inr h
  have hS : va_S A s.heap s.heap [] := va_S.rf
  have hl := lv_entry ([eV (ad 6) x, eV (ad 9) o, .int dp]) (n := 3) (by rw [show (lg_sl ([eV (ad 6) x, eV (ad 9) o, .int dp])).length = 3 from by simp [lg_sl, eV_cat, cat_i, cat_l]]; exact Nat.le_of_ble_eq_true rfl)
  rw [lg_entry_eq]
  generalize (lg_sl ([eV (ad 6) x, eV (ad 9) o, .int dp]) ++ List.replicate (3 - (lg_sl ([eV (ad 6) x, eV (ad 9) o, .int dp])).length) Slot.unset).toArray = ls at hl ⊢
  have hl : lv_has ls 3 [(0, eV (ad 6) x), (1, eV (ad 9) o), (2, .int dp)] := by simp [lv_args, eV_cat, cat_i, cat_l] at hl; exact hl
  refine ec_aload_n hx hb dX5_itemValue_0 rfl (lv_at hl 1 rfl) ?_
  refine cr_get (t := 9) (j := 18) (C := RX3) (T := TX3) (N := 21) (v := eV (ad 33) (gm 25 o.toNatClampNeg)) hx hb htb inX3 hown hK hP hvo (by decide) (by decide) (by decide) rfl (by decide) (htb _ kw_290) rfl dX5_itemValue_1 ?_
  obtain ⟨z_1, ez_1⟩ : ∃ z : Int32, z = (gm 25 o.toNatClampNeg) := ⟨_, rfl⟩
  refine W.eq (g2 := F0 m 4 ls [eV (ad 33) z_1]) (by rw [ez_1]) ?_
  have hz_1 : iv (-1) 33 z_1 := iv_of ez_1 (CI_a hI 25 hvo (by decide))
  refine cw_word (k := 7) (kx := 7) hx hb hG hS (by decide) rfl ⟨by decide, by decide⟩ hown (htb _ kw_915) dX5_itemValue_4 ?_
  refine ec_acmp_ne (tgt := 19) hx hb dX5_itemValue_7 (by decide) (fun c_2 => ?_) (fun c_2 => ?_)
  · have wc_2 : ¬ z_1.toInt = (7 : Int) := fun q9 => c_2 (congrArg (er (ad 33)) (Int32.toInt_inj.mp q9))
    refine ec_aload_n hx hb dX5_itemValue_19 rfl (lv_at hl 1 rfl) ?_
    refine cr_get (t := 9) (j := 18) (C := RX3) (T := TX3) (N := 21) (v := eV (ad 33) (gm 25 o.toNatClampNeg)) hx hb htb inX3 hown hK hP hvo (by decide) (by decide) (by decide) rfl (by decide) (htb _ kw_290) rfl dX5_itemValue_20 ?_
    refine W.eq (g2 := F0 m 23 ls [eV (ad 33) z_1]) (by rw [show (gm 25 o.toNatClampNeg) = z_1 from ez_1.symm]) ?_
    refine cw_word (k := 9) (kx := 9) hx hb hG hS (by decide) rfl ⟨by decide, by decide⟩ hown (htb _ kw_916) dX5_itemValue_23 ?_
    refine ec_acmp_ne (tgt := 33) hx hb dX5_itemValue_26 (by decide) (fun c_3 => ?_) (fun c_3 => ?_)
    · have wc_3 : ¬ z_1.toInt = (9 : Int) := fun q9 => c_3 (congrArg (er (ad 33)) (Int32.toInt_inj.mp q9))
      refine lv_sipush (v := 3000) hx hb dX5_itemValue_33 (by decide) ?_
      refine ec_aload_n hx hb dX5_itemValue_36 rfl (lv_at hl 0 rfl) ?_
      refine ec_aload_n hx hb dX5_itemValue_37 rfl (lv_at hl 1 rfl) ?_
      refine lv_iload_n hx hb dX5_itemValue_38 rfl (lv_at hl 2 rfl) ?_
      refine cm_callV (t := 6) (C := RX5) (T := TX5) (N := 13) (rest := [.int 3000]) (as := [eV (ad 9) o, .int dp]) ⟨hx, hb, hml, hown, htb⟩ (d_objectOf9 l dC dI ad cid a2 lx sg gm lg hl9 n9 HO HM x o dp wg ws S hI hvx hvo hvdp hW hLD hMO hFN ho4 hbo (by have := i32_0; have := i32_1; have := i32_2; have := i32_m1; have := (hvx).1; have := (hvx).2; have := (hvo).1; have := (hvo).2; have := (hvdp).1; have := (hvdp).2; have := (hz_1).1; have := (hz_1).2; omega) hSW hSS hSV hRC) (cwV 2 htb (gd_V kw_917 kw_918 kw_55 kw_159 kw_1536) rfl rfl rfl (by decide +kernel) ⟨(show 24 + 8 * n9 + 1 ≤ 25 + 8 * n9 from by omega), (show 8 + (3 + 11) + (680 + 260 * n9) ≤ 720 + 260 * n9 from by omega)⟩) hvx (by decide) (by decide) rfl rfl hl.1 rfl (Nat.le_trans (cs_c (cat_i _) cs_n) (by decide)) dX5_itemValue_39 ⟨Nat.le_of_ble_eq_true rfl, Nat.le_of_ble_eq_true rfl⟩ hK hP hD hS hA hG (fun E ce q9 u_5 H locs hw hP hD hS hce hcv hcl => ?_) (fun v9 u_5 H locs hw hP hD hS => ?_)
      · obtain ⟨hE, hw⟩ := hw
        obtain ⟨sgv_6, gmv_6, lgv_6, rfl, hIv_6, ksv_6, kgv_6, klv_6, xMO_v_6, xFN_v_6, xO_v_6⟩ := hw
        obtain rfl := KS_nil klv_6
        have hP : va_P (dC, dI) vwCl (cW ad cid a2 lx sgv_6 gmv_6 lg) H := hP
        have hD : va_D A (cW ad cid a2 lx sgv_6 gmv_6 lg) := hD
        exact vx_out (fun x hx9 => (hxt x hx9).elim) hlocks hce hcv hcl (fun t ht hal => ⟨⟨(sgv_6, gmv_6, lg), ⟨hE, sgv_6, gmv_6, lg, rfl, hIv_6, (KS_tr (L := [13, 14, 15, 16, 17, 18]) KS_rf ksv_6 (by decide)), (KS_tr (L := [37, 38, 39, 48, 49, 50, 51, 52, 53]) KS_rf kgv_6 (by decide)), KS_rf, (xMO_v_6), (xFN_v_6), ((by obtain ⟨S2, h1, h2⟩ := xO_v_6; exact ⟨S2, oItm_x (by rw [(swt9 hSW ez_1 rfl)]; exact wc_2) (by rw [(swt9 hSW ez_1 rfl)]; exact wc_3) h1, h2⟩))⟩, by rw [ht]; exact hP, va_K.moved hal hK, hD⟩, hS.F ht⟩) hS.2.2 (Nat.le_of_ble_eq_true rfl) (Nat.le_of_ble_eq_true rfl)
      obtain ⟨r_4, rfl, sgv_7, gmv_7, lgv_7, rfl, hIv_7, ksv_7, kgv_7, klv_7, hr_4, fMO_r_4, fFN_r_4, fBM_r_4, fWF_r_4, f14_r_4, fr_r_4, fO_r_4⟩ := hw
      obtain rfl := KS_nil klv_7
      have hP : va_P (dC, dI) vwCl (cW ad cid a2 lx sgv_7 gmv_7 lg) H := hP
      have hD : va_D A (cW ad cid a2 lx sgv_7 gmv_7 lg) := hD
      refine W.eq (g2 := F0 m 42 ls [.int r_4, .int 3000]) rfl ?_
      have bm_r_4 := BMK_t BMK_rf fBM_r_4
      have wf_r_4 : WFR (24 * dp.toNatClampNeg + 24) gm gmv_7 := WFR_t WFR_rf fWF_r_4 (Nat.le_refl _)
      have m14_r_4 : (sg 14).toInt ≤ (sgv_7 14).toInt := Int.le_trans (Int.le_refl _) f14_r_4
      refine lv_iadd hx hb dX5_itemValue_42 ?_
      refine lv_topi (fun z_8 ez_8 => ?_)
      have hz_8 : iv 3000 3059 z_8 := iv_of ez_8 (iv_add (iv_k (by decide) : iv 3000 3000 3000) hr_4 (by decide))
      have tz_8 : z_8.toInt = 3000 + (r_4 : Int32).toInt := by rw [ez_8]; exact iv_addE (iv_k (by decide) : iv 3000 3000 3000) hr_4 (by decide)
      exact W.nb (fun hN => W.widen (k := 1) (n := 6) (by decide) (by decide) (vx_ret (W.iret (v := z_8) hx hb hr (fun t ht hW => ⟨⟨some (.int z_8), (sgv_7, gmv_7, lg), rfl, ⟨z_8, rfl, sgv_7, gmv_7, lg, rfl, hIv_7, (KS_tr (L := [13, 14, 15, 16, 17, 18]) KS_rf ksv_7 (by decide)), (KS_tr (L := [37, 38, 39, 48, 49, 50, 51, 52, 53]) KS_rf kgv_7 (by decide)), KS_rf, (fMO_r_4), (fFN_r_4), (bm_r_4), (wf_r_4), (m14_r_4), ((by obtain ⟨S2, h1, h2⟩ := fO_r_4; exact ⟨S2, (by rw [show z_8.toInt = 3000 + r_4.toInt from tz_8]; exact oItm_o (by rw [(swt9 hSW ez_1 rfl)]; exact wc_2) (by rw [(swt9 hSW ez_1 rfl)]; exact wc_3) h1), h2⟩))⟩, by rw [ht]; exact hP, va_K.moved hW.alike hK, hD⟩, hS.F ht, by rw [ht]; exact hN⟩) hS.2.2 dX5_itemValue_43)))
    · have wc_3 : z_1.toInt = (9 : Int) := er_wd hG hz_1 (iv_w (iv_k (by decide) : iv 9 9 9) (by decide)) c_3
      refine lv_iconst (v := (-1)) hx hb dX5_itemValue_29 (by decide) ?_
      refine lv_goto (tgt := 43) hx hb dX5_itemValue_30 (by decide) ?_
      exact W.nb (fun hN => W.widen (k := 1) (n := 6) (by decide) (by decide) (vx_ret (W.iret (v := (-1)) hx hb hr (fun t ht hW => ⟨⟨some (.int (-1)), (sg, gm, lg), rfl, ⟨(-1), rfl, sg, gm, lg, rfl, hI, KS_rf, KS_rf, KS_rf, (hMO), (hFN), (BMK_rf), (WFR_rf), ((Int.le_refl _)), (⟨S, (by rw [oItm_9 (by rw [(swt9 hSW ez_1 rfl)]; exact wc_3)]; rfl), hRC⟩)⟩, by rw [ht]; exact hP, va_K.moved hW.alike hK, hD⟩, hS.F ht, by rw [ht]; exact hN⟩) hS.2.2 dX5_itemValue_43)))
  · have wc_2 : z_1.toInt = (7 : Int) := er_wd hG hz_1 (iv_w (iv_k (by decide) : iv 7 7 7) (by decide)) c_2
    refine lv_sipush (v := 1000) hx hb dX5_itemValue_10 (by decide) ?_
    refine ec_aload_n hx hb dX5_itemValue_13 rfl (lv_at hl 1 rfl) ?_
    refine cr_get (t := 9) (j := 1) (C := RX3) (T := TX3) (N := 21) (v := .int (gm 11 o.toNatClampNeg)) hx hb htb inX3 hown hK hP hvo (by decide) (by decide) (by decide) rfl (by decide) (htb _ kw_234) rfl dX5_itemValue_14 ?_
    obtain ⟨z_9, ez_9⟩ : ∃ z : Int32, z = (gm 11 o.toNatClampNeg) := ⟨_, rfl⟩
    refine W.eq (g2 := F0 m 17 ls [.int z_9, .int 1000]) (by rw [ez_9]) ?_
    have hz_9 : iv 0 24 z_9 := iv_of ez_9 (CI_a hI 11 hvo (by decide))
    refine lv_iadd hx hb dX5_itemValue_17 ?_
    refine lv_topi (fun z_10 ez_10 => ?_)
    have hz_10 : iv 1000 1024 z_10 := iv_of ez_10 (iv_add (iv_k (by decide) : iv 1000 1000 1000) hz_9 (by decide))
    have tz_10 : z_10.toInt = 1000 + (z_9 : Int32).toInt := by rw [ez_10]; exact iv_addE (iv_k (by decide) : iv 1000 1000 1000) hz_9 (by decide)
    exact W.nb (fun hN => W.widen (k := 1) (n := 6) (by decide) (by decide) (vx_ret (W.iret (v := z_10) hx hb hr (fun t ht hW => ⟨⟨some (.int z_10), (sg, gm, lg), rfl, ⟨z_10, rfl, sg, gm, lg, rfl, hI, KS_rf, KS_rf, KS_rf, (hMO), (hFN), (BMK_rf), (WFR_rf), ((Int.le_refl _)), (⟨S, (by rw [oItm_7 (by rw [(swt9 hSW ez_1 rfl)]; exact wc_2), (swt9 hSW ez_9 rfl), show z_10.toInt = 1000 + z_9.toInt from tz_10]), hRC⟩)⟩, by rw [ht]; exact hP, va_K.moved hW.alike hK, hD⟩, hS.F ht, by rw [ht]; exact hN⟩) hS.2.2 dX5_itemValue_18)))
end
section
set_option maxHeartbeats 4000000 in
set_option maxRecDepth 100000 in
theorem d_workOut9 (l : Launch) (dC : Nat → ClassId) (dI : Nat → Nat → Nat) (ad : Nat → Nat → Nat) (cid : Nat → ClassId) (a2 : Nat → Nat) (lx : List Nat) (sg : Nat → Int32) (gm : Nat → Nat → Int32) (lg : Nat → Nat → Int64) (hl9 : l.stackTraces = false) (n9 : Nat) (HO : PO9 l dC dI ad cid a2 lx n9) (HM : PM9 l dC dI ad cid a2 lx n9) (x : Int32) (o : Int32) (sl : Int32) (dp : Int32) (wg : Nat → Nat → Int32) (ws : Nat → Int32) (S : S9) (hI : CI sg gm) (hvx : iv 0 0 x) (hvo : iv 0 79 o) (hvsl : iv 0 954 sl) (hvdp : iv 0 39 dp) (hW : WRD sg gm lg) (hLD : LDI lx gm) (hMO : MOK sg gm lg) (hFN : FND9 sg gm) (hct : CTO sg gm lg o) (hsl : 24 * dp.toInt ≤ sl.toInt ∧ sl.toInt ≤ 24 * dp.toInt + 18) (hdp : dp.toInt + ((n9 + 1 : Nat) : Int) = 40) (hSW : st9 gm = wg) (hSS : ss9 sg = ws) (hSV : SV ws wg lg) (hRC : RC wg lg S sg gm) : CMt dC dI ad cid a2 lx l yX5_workOut wm_X5_workOut ({ frames := 26 + 8 * n9, cells := 1, slots := 6, locals := 760 + 260 * n9 }) [eV (ad 6) x, eV (ad 9) o, .int sl, .int dp] sg gm lg (fun v u => v = none ∧ ∃ (sg2 : Nat → Int32) (gm2 : Nat → Nat → Int32) (lg2 : Nat → Nat → Int64), u = (sg2, gm2, lg2) ∧ CI sg2 gm2 ∧ KS [13, 14, 15, 16, 17, 18] sg sg2 ∧ KS [37, 38, 39, 48, 49, 50, 51, 52, 53] gm gm2 ∧ KS [] lg lg2 ∧ (MOK sg2 gm2 lg2) ∧ (FND9 sg2 gm2) ∧ (BMK gm gm2) ∧ (WFR (sl.toNatClampNeg) gm gm2) ∧ ((gm 25 o.toNatClampNeg).toInt = 6 ∨ (gm 25 o.toNatClampNeg).toInt = 7 ∨ (gm 25 o.toNatClampNeg).toInt = 9 ∨ iv 0 59 (gm2 52 sl.toNatClampNeg)) ∧ ((sg 14).toInt ≤ (sg2 14).toInt) ∧ (∃ V S2, oCon ws wg lg (oMK ws wg lg n9) o.toNatClampNeg S = (some V, S2) ∧ RC wg lg S2 sg2 gm2 ∧ VOK wg (zO S2) o.toNatClampNeg V ∧ WVL gm2 sl.toNatClampNeg V ∧ ((wg 25 o.toNatClampNeg).toInt = 6 → (wg 18 o.toNatClampNeg).toInt ≤ 6 ∧ (V.length : Int) = (wg 18 o.toNatClampNeg).toInt) ∧ V.length ≤ 6)) (fun E u => (E = "java/lang/UnsupportedOperationException") ∧ ∃ (sg2 : Nat → Int32) (gm2 : Nat → Nat → Int32) (lg2 : Nat → Nat → Int64), u = (sg2, gm2, lg2) ∧ CI sg2 gm2 ∧ KS [13, 14, 15, 16, 17, 18] sg sg2 ∧ KS [37, 38, 39, 48, 49, 50, 51, 52, 53] gm gm2 ∧ KS [] lg lg2 ∧ (MOK sg2 gm2 lg2) ∧ (FND9 sg2 gm2) ∧ (∃ S2, oCon ws wg lg (oMK ws wg lg n9) o.toNatClampNeg S = (none, S2) ∧ RC wg lg S2 sg2 gm2)) := by
  intro sz
  refine vx_ofW (cc := cX5_workOut) (maxL := 6) (ret := none) (by decide) rfl ?_
  intro p e s m args below meth c s₁ B hml hxt hv
  obtain ⟨rfl, hsz, hP, hK, hD0, hG⟩ := hv
  have hx := B.exec
  have hb := B.bytes
  have hr := B.returns
  have hts := atoms_spec (ws := wm_X5_workOut) B.pre
  have htb := fun (w : Cond) (h : w ∈ tb) => hts w (List.mem_cons_of_mem _ h)
  have hown : s.vm.findClass RX5 = some m.cls := findClass_of_methodNamed B.named
  have hlocks := B.notSynchronized
  subst hsz
  have hD := hD0.self (sz := s.heap.size)
  generalize hAe : va_A (cW ad cid a2 lx sg gm lg) s.heap.size = A at hD hG ⊢
  have hA : ∀ q : Nat, s.heap.size ≤ q → A q := fun q h => by rw [← hAe]; exact Or.inr h
  have hS : va_S A s.heap s.heap [] := va_S.rf
  have hl := lv_entry ([eV (ad 6) x, eV (ad 9) o, .int sl, .int dp]) (n := 6) (by rw [show (lg_sl ([eV (ad 6) x, eV (ad 9) o, .int sl, .int dp])).length = 4 from by simp [lg_sl, eV_cat, cat_i, cat_l]]; exact Nat.le_of_ble_eq_true rfl)
  rw [lg_entry_eq]
  generalize (lg_sl ([eV (ad 6) x, eV (ad 9) o, .int sl, .int dp]) ++ List.replicate (6 - (lg_sl ([eV (ad 6) x, eV (ad 9) o, .int sl, .int dp])).length) Slot.unset).toArray = ls at hl ⊢
  have hl : lv_has ls 6 [(0, eV (ad 6) x), (1, eV (ad 9) o), (2, .int sl), (3, .int dp)] := by simp [lv_args, eV_cat, cat_i, cat_l] at hl; exact hl
  have hj19 : ∀ (n : Nat) (sg_j19 : Nat → Int32) (gm_j19 : Nat → Nat → Int32) (x5_19 : Int32) (x4_19 : Int32) (_ : (6 - x5_19.toInt).toNat = n) (_ : iv 0 6 x5_19) (_ : iv (-1) 79 x4_19) (_ : iv 0 0 x) (_ : iv 0 79 o) (_ : iv 0 954 sl) (_ : iv 0 39 dp) (_ : KS [13, 14, 15, 16, 17, 18] sg sg_j19) (_ : KS [37, 38, 39, 48, 49, 50, 51, 52, 53] gm gm_j19) (_ : CI sg_j19 gm_j19) (_ : MOK sg_j19 gm_j19 lg) (_ : FND9 sg_j19 gm_j19) (_ : BMK gm gm_j19) (_ : WFR (sl.toNatClampNeg) gm gm_j19) (_ : (gm 25 o.toNatClampNeg).toInt = 6) (_ : 0 ≤ x4_19.toInt → x4_19.toInt < (sg 4).toInt ∧ (gm 15 x4_19.toNatClampNeg).toInt = o.toInt) (_ : (sg 14).toInt ≤ (sg_j19 14).toInt) (_ : ∃ acc S2, RC wg lg S2 sg_j19 gm_j19 ∧ oIts ws wg lg (oMK ws wg lg n9) (itC wg o.toNatClampNeg) [] S = oIts ws wg lg (oMK ws wg lg n9) (itL wg (6 - x5_19.toNatClampNeg) x4_19.toInt) acc S2 ∧ acc.length = x5_19.toNatClampNeg ∧ WVL gm_j19 sl.toNatClampNeg acc) (H : Heap) (locs : List Loc) (ls : Array Slot), va_P (dC, dI) vwCl (cW ad cid a2 lx sg_j19 gm_j19 lg) H → va_D A (cW ad cid a2 lx sg_j19 gm_j19 lg) → va_S A s.heap H locs → lv_has ls 6 [(5, .int x5_19), (4, eV (ad 9) x4_19), (0, eV (ad 6) x), (1, eV (ad 9) o), (2, .int sl), (3, .int dp)] → W p l e (headSpec wm_X5_workOut ({ frames := 26 + 8 * n9, cells := 1, slots := 6, locals := 760 + 260 * n9 })).room s m ([eV (ad 6) x, eV (ad 9) o, .int sl, .int dp] : List Value).toArray below meth c H locs 0 0 (vx_MQ below (cQx dC dI ad cid a2 lx (fun v u => v = none ∧ ∃ (sg2 : Nat → Int32) (gm2 : Nat → Nat → Int32) (lg2 : Nat → Nat → Int64), u = (sg2, gm2, lg2) ∧ CI sg2 gm2 ∧ KS [13, 14, 15, 16, 17, 18] sg sg2 ∧ KS [37, 38, 39, 48, 49, 50, 51, 52, 53] gm gm2 ∧ KS [] lg lg2 ∧ (MOK sg2 gm2 lg2) ∧ (FND9 sg2 gm2) ∧ (BMK gm gm2) ∧ (WFR (sl.toNatClampNeg) gm gm2) ∧ ((gm 25 o.toNatClampNeg).toInt = 6 ∨ (gm 25 o.toNatClampNeg).toInt = 7 ∨ (gm 25 o.toNatClampNeg).toInt = 9 ∨ iv 0 59 (gm2 52 sl.toNatClampNeg)) ∧ ((sg 14).toInt ≤ (sg2 14).toInt) ∧ (∃ V S2, oCon ws wg lg (oMK ws wg lg n9) o.toNatClampNeg S = (some V, S2) ∧ RC wg lg S2 sg2 gm2 ∧ VOK wg (zO S2) o.toNatClampNeg V ∧ WVL gm2 sl.toNatClampNeg V ∧ ((wg 25 o.toNatClampNeg).toInt = 6 → (wg 18 o.toNatClampNeg).toInt ≤ 6 ∧ (V.length : Int) = (wg 18 o.toNatClampNeg).toInt) ∧ V.length ≤ 6)) A) (cX dC dI ad cid a2 lx (fun E u => (E = "java/lang/UnsupportedOperationException") ∧ ∃ (sg2 : Nat → Int32) (gm2 : Nat → Nat → Int32) (lg2 : Nat → Nat → Int64), u = (sg2, gm2, lg2) ∧ CI sg2 gm2 ∧ KS [13, 14, 15, 16, 17, 18] sg sg2 ∧ KS [37, 38, 39, 48, 49, 50, 51, 52, 53] gm gm2 ∧ KS [] lg lg2 ∧ (MOK sg2 gm2 lg2) ∧ (FND9 sg2 gm2) ∧ (∃ S2, oCon ws wg lg (oMK ws wg lg n9) o.toNatClampNeg S = (none, S2) ∧ RC wg lg S2 sg2 gm2)) A) ([eV (ad 6) x, eV (ad 9) o, .int sl, .int dp] : List Value).toArray s 1 6 A) (F0 m 19 ls []) := by
    intro n
    induction n using Nat.strongRecOn with
    | ind n ih19 =>
      intro sg_j19 gm_j19 x5_19 x4_19 hn19 hx5_19 hx4_19 hsx0_19 hsx1_19 hsx2_19 hsx3_19 hks_j19 hkg_j19 hI_j19 hMOj hFNj hBMj hWFj hk19 hit h14j hIT H locs ls hP hD hS hl
      obtain ⟨acc9, Sj, hRj, hIj, hLj, hVj⟩ := hIT
      refine lv_iload hx hb dX5_workOut_19 (lv_at hl 0 rfl) ?_
      refine lv_bipush (v := 6) hx hb dX5_workOut_21 (by decide) ?_
      refine lv_icmp_ge (tgt := 60) hx hb dX5_workOut_23 (by decide) (fun c_1 => ?_) (fun c_1 => ?_)
      · have h_2 : iv 6 6 x5_19 := iv_leR c_1 (iv_k (by decide) : iv 6 6 6) hx5_19 (by decide)
        refine lv_goto (tgt := 95) hx hb dX5_workOut_60 (by decide) ?_
        exact W.nb (fun hN => W.widen (k := 1) (n := 6) (by decide) (by decide) (vx_ret (W.vret hx hb hr (fun t ht hW => ⟨⟨none, (sg_j19, gm_j19, lg), rfl, ⟨rfl, sg_j19, gm_j19, lg, rfl, hI_j19, (KS_tr (L := [13, 14, 15, 16, 17, 18]) KS_rf hks_j19 (by decide)), (KS_tr (L := [37, 38, 39, 48, 49, 50, 51, 52, 53]) KS_rf hkg_j19 (by decide)), KS_rf, (hMOj), (hFNj), (hBMj), (hWFj), (Or.inl hk19), (h14j), ((by have hk : (wg 25 o.toNatClampNeg).toInt = 6 := (by rw [(show wg 25 o.toNatClampNeg = gm 25 o.toNatClampNeg from sw9 hSW 25 rfl _)]; exact hk19); have hD := oIts_e hIj (by have := i32_0; have := i32_1; have := i32_2; have := i32_m1; have := (hsx0_19).1; have := (hsx0_19).2; have := (hsx1_19).1; have := (hsx1_19).2; have := (hsx2_19).1; have := (hsx2_19).2; have := (hsx3_19).1; have := (hsx3_19).2; have := (h_2).1; have := (h_2).2; have := (hx4_19).1; have := (hx4_19).2; have := (hx4_19).2; omega); have hl9_ := oIts_len _ _ _ _ _ hD; have hsv := hSV.1 _ (by have q1 := congrArg Int32.toNatClampNeg (ss9_4 hSS); rw [q1]; exact lt_cl hvo (show iv 0 80 (sg 4) from CI_s hI 4) (by decide) (by decide) hct.2.1) hk; have hle : (itC wg o.toNatClampNeg).length ≤ 6 := itL_le _ _; exact ⟨acc9, Sj, (by rw [oCon_l hk]; exact hD), hRj, Or.inl hk, hVj, fun _ => ⟨by omega, by rw [hsv, hl9_]; show ((0 + _ : Nat) : Int) = _; omega⟩, by rw [hl9_]; show 0 + _ ≤ 6; omega⟩))⟩, by rw [ht]; exact hP, va_K.moved hW.alike hK, hD⟩, hS.F ht, by rw [ht]; exact hN⟩) hS.2.2 dX5_workOut_95)))
      · have h_3 : iv 0 5 x5_19 := iv_ltL (i32_lt c_1) hx5_19 (iv_k (by decide) : iv 6 6 6) (by decide)
        refine ec_aload hx hb dX5_workOut_26 (lv_at hl 1 rfl) ?_
        refine ec_ifnull (tgt := 60) hx hb dX5_workOut_28 (by decide) (fun c_4 => ?_) (fun c_4 => ?_)
        · have h_5 : iv (-1) (-1) x4_19 := ⟨(hx4_19).1, by omega⟩
          refine lv_goto (tgt := 95) hx hb dX5_workOut_60 (by decide) ?_
          exact W.nb (fun hN => W.widen (k := 1) (n := 6) (by decide) (by decide) (vx_ret (W.vret hx hb hr (fun t ht hW => ⟨⟨none, (sg_j19, gm_j19, lg), rfl, ⟨rfl, sg_j19, gm_j19, lg, rfl, hI_j19, (KS_tr (L := [13, 14, 15, 16, 17, 18]) KS_rf hks_j19 (by decide)), (KS_tr (L := [37, 38, 39, 48, 49, 50, 51, 52, 53]) KS_rf hkg_j19 (by decide)), KS_rf, (hMOj), (hFNj), (hBMj), (hWFj), (Or.inl hk19), (h14j), ((by have hk : (wg 25 o.toNatClampNeg).toInt = 6 := (by rw [(show wg 25 o.toNatClampNeg = gm 25 o.toNatClampNeg from sw9 hSW 25 rfl _)]; exact hk19); have hD := oIts_e hIj (by have := i32_0; have := i32_1; have := i32_2; have := i32_m1; have := (hsx0_19).1; have := (hsx0_19).2; have := (hsx1_19).1; have := (hsx1_19).2; have := (hsx2_19).1; have := (hsx2_19).2; have := (hsx3_19).1; have := (hsx3_19).2; have := (h_3).1; have := (h_3).2; have := (h_5).1; have := (h_5).2; have := (h_5).2; omega); have hl9_ := oIts_len _ _ _ _ _ hD; have hsv := hSV.1 _ (by have q1 := congrArg Int32.toNatClampNeg (ss9_4 hSS); rw [q1]; exact lt_cl hvo (show iv 0 80 (sg 4) from CI_s hI 4) (by decide) (by decide) hct.2.1) hk; have hle : (itC wg o.toNatClampNeg).length ≤ 6 := itL_le _ _; exact ⟨acc9, Sj, (by rw [oCon_l hk]; exact hD), hRj, Or.inl hk, hVj, fun _ => ⟨by omega, by rw [hsv, hl9_]; show ((0 + _ : Nat) : Int) = _; omega⟩, by rw [hl9_]; show 0 + _ ≤ 6; omega⟩))⟩, by rw [ht]; exact hP, va_K.moved hW.alike hK, hD⟩, hS.F ht, by rw [ht]; exact hN⟩) hS.2.2 dX5_workOut_95)))
        · have h_6 : iv 0 79 x4_19 := ⟨c_4, (hx4_19).2⟩
          refine ec_aload_n hx hb dX5_workOut_31 rfl (lv_at hl 2 rfl) ?_
          refine cr_get (t := 6) (j := 8) (C := RX5) (T := TX5) (N := 13) (v := eV (ad 25) 0) hx hb htb inX5 hown hK hP hsx0_19 (by decide) (by decide) (by decide) rfl (by decide) (htb _ kw_412) (cV_c rfl (by decide) (by rw [show cMu 6 8 = 0 from rfl, Nat.zero_mul]; rfl)) dX5_workOut_32 ?_
          refine lv_iload_n hx hb dX5_workOut_35 rfl (lv_at hl 4 rfl) ?_
          refine lv_iload hx hb dX5_workOut_36 (lv_at hl 0 rfl) ?_
          refine lv_iadd hx hb dX5_workOut_38 ?_
          refine lv_topi (fun z_7 ez_7 => ?_)
          have hz_7 : iv 0 959 z_7 := iv_of ez_7 (iv_add hsx2_19 h_3 (by decide))
          have tz_7 : z_7.toInt = (sl : Int32).toInt + (x5_19 : Int32).toInt := by rw [ez_7]; exact iv_addE hsx2_19 h_3 (by decide)
          refine ec_aload_n hx hb dX5_workOut_39 rfl (lv_at hl 2 rfl) ?_
          refine ec_aload hx hb dX5_workOut_40 (lv_at hl 1 rfl) ?_
          refine lv_iload_n hx hb dX5_workOut_42 rfl (lv_at hl 5 rfl) ?_
          refine cm_callV (t := 6) (C := RX5) (T := TX5) (N := 13) (rest := [.int z_7, eV (ad 25) 0]) (as := [eV (ad 9) x4_19, .int dp]) ⟨hx, hb, hml, hown, htb⟩ (d_itemValue9 l dC dI ad cid a2 lx sg_j19 gm_j19 lg hl9 n9 HO HM x x4_19 dp wg ws Sj hI_j19 hsx0_19 h_6 hsx3_19 (WRD_e hW (hks_j19 4 (by decide)) (hks_j19 12 (by decide)) (hkg_j19 14 (by decide)) (hkg_j19 15 (by decide)) (hkg_j19 16 (by decide)) (hkg_j19 17 (by decide)) (hkg_j19 19 (by decide)) (hkg_j19 20 (by decide)) (hkg_j19 22 (by decide)) (hkg_j19 25 (by decide)) (hkg_j19 26 (by decide)) (hkg_j19 27 (by decide)) (hkg_j19 29 (by decide)) (hkg_j19 41 (by decide)) (hkg_j19 44 (by decide)) (hkg_j19 45 (by decide)) (hkg_j19 46 (by decide)) (hkg_j19 57 (by decide)) rfl rfl) (LDI_e hLD (hkg_j19 41 (by decide)) (hkg_j19 42 (by decide)) (hkg_j19 57 (by decide))) hMOj hFNj (by rw [show sg_j19 4 = sg 4 from (hks_j19 4 (by decide))]; exact (hit (h_6).1).1) (BOK_e (BOK_it hI hW hct.1 (hct.2.2.2.1 hk19) (h_6).1 (hit (h_6).1).1 (hit (h_6).1).2) (hks_j19 12 (by decide)) (hkg_j19 27 (by decide)) rfl) (by have := i32_0; have := i32_1; have := i32_2; have := i32_m1; have := (hsx0_19).1; have := (hsx0_19).2; have := (hsx1_19).1; have := (hsx1_19).2; have := (hsx2_19).1; have := (hsx2_19).2; have := (hsx3_19).1; have := (hsx3_19).2; have := (h_3).1; have := (h_3).2; have := (h_6).1; have := (h_6).2; have := (hz_7).1; have := (hz_7).2; omega) ((st9_ks (L := [37, 38, 39, 48, 49, 50, 51, 52, 53]) (KS_tr (L := [37, 38, 39, 48, 49, 50, 51, 52, 53]) KS_rf hkg_j19 (by decide)) (by decide)).trans hSW) ((ss9_ks (L := [13, 14, 15, 16, 17, 18]) (KS_tr (L := [13, 14, 15, 16, 17, 18]) KS_rf hks_j19 (by decide)) rfl rfl).trans hSS) hSV hRj) (cwV 2 htb (gd_V kw_913 kw_914 kw_54 kw_159 kw_1535) rfl rfl rfl (by decide +kernel) ⟨(show 25 + 8 * n9 + 1 ≤ 26 + 8 * n9 from by omega), (show 8 + (3 + 11) + (720 + 260 * n9) ≤ 760 + 260 * n9 from by omega)⟩) hsx0_19 (by decide) (by decide) rfl rfl hl.1 rfl (Nat.le_trans (cs_c (cat_i _) (cs_c (eV_cat _ _) cs_n)) (by decide)) dX5_workOut_43 ⟨Nat.le_of_ble_eq_true rfl, Nat.le_of_ble_eq_true rfl⟩ hK hP hD hS hA hG (fun E ce q9 u_9 H locs hw hP hD hS hce hcv hcl => ?_) (fun v9 u_9 H locs hw hP hD hS => ?_)
          · obtain ⟨hE, hw⟩ := hw
            obtain ⟨sgv_10, gmv_10, lgv_10, rfl, hIv_10, ksv_10, kgv_10, klv_10, xMO_v_10, xFN_v_10, xI_v_10⟩ := hw
            obtain rfl := KS_nil klv_10
            have hP : va_P (dC, dI) vwCl (cW ad cid a2 lx sgv_10 gmv_10 lg) H := hP
            have hD : va_D A (cW ad cid a2 lx sgv_10 gmv_10 lg) := hD
            exact vx_out (fun x hx9 => (hxt x hx9).elim) hlocks hce hcv hcl (fun t ht hal => ⟨⟨(sgv_10, gmv_10, lg), ⟨hE, sgv_10, gmv_10, lg, rfl, hIv_10, (KS_tr (L := [13, 14, 15, 16, 17, 18]) (KS_tr (L := [13, 14, 15, 16, 17, 18]) KS_rf hks_j19 (by decide)) ksv_10 (by decide)), (KS_tr (L := [37, 38, 39, 48, 49, 50, 51, 52, 53]) (KS_tr (L := [37, 38, 39, 48, 49, 50, 51, 52, 53]) KS_rf hkg_j19 (by decide)) kgv_10 (by decide)), KS_rf, (xMO_v_10), (xFN_v_10), ((by have hk : (wg 25 o.toNatClampNeg).toInt = 6 := (by rw [(show wg 25 o.toNatClampNeg = gm 25 o.toNatClampNeg from sw9 hSW 25 rfl _)]; exact hk19); obtain ⟨S2, h1, h2⟩ := xI_v_10; exact ⟨S2, (by rw [oCon_l hk]; exact oIts_x hIj (show iv 0 5 x5_19 from h_3) (h_6).1 h1), h2⟩))⟩, by rw [ht]; exact hP, va_K.moved hal hK, hD⟩, hS.F ht⟩) hS.2.2 (Nat.le_of_ble_eq_true rfl) (Nat.le_of_ble_eq_true rfl)
          obtain ⟨r_8, rfl, sgv_11, gmv_11, lgv_11, rfl, hIv_11, ksv_11, kgv_11, klv_11, fMO_r_8, fFN_r_8, fBM_r_8, fWF_r_8, f14_r_8, fI_r_8⟩ := hw
          obtain rfl := KS_nil klv_11
          have hP : va_P (dC, dI) vwCl (cW ad cid a2 lx sgv_11 gmv_11 lg) H := hP
          have hD : va_D A (cW ad cid a2 lx sgv_11 gmv_11 lg) := hD
          refine W.eq (g2 := F0 m 46 ls [.int r_8, .int z_7, eV (ad 25) 0]) rfl ?_
          have bm_r_8 := BMK_t hBMj fBM_r_8
          have wf_r_8 : WFR (sl.toNatClampNeg) gm gmv_11 := WFR_t hWFj fWF_r_8 (by have qs : sl.toNatClampNeg = sl.toInt.toNat := rfl; have qd : dp.toNatClampNeg = dp.toInt.toNat := rfl; have := i32_0; have := i32_1; have := i32_2; have := i32_m1; have := (hsx0_19).1; have := (hsx0_19).2; have := (hsx1_19).1; have := (hsx1_19).2; have := (hsx2_19).1; have := (hsx2_19).2; have := (hsx3_19).1; have := (hsx3_19).2; have := (h_3).1; have := (h_3).2; have := (h_6).1; have := (h_6).2; have := (hz_7).1; have := (hz_7).2; omega)
          obtain ⟨S_r_8, hE_r_8, hR_r_8⟩ := fI_r_8
          have m14_r_8 : (sg 14).toInt ≤ (sgv_11 14).toInt := Int.le_trans h14j f14_r_8
          refine cr_iast (t := 25) (k := 52) (n9 := (z_7 : Int32).toNatClampNeg) (z := r_8) hx hb hK hP hD hS (iv_k (by decide) : iv 0 0 0) (by decide) (by decide) (by decide) rfl rfl rfl (show vp_in z_7 (cLen 25) from (show vp_in z_7 960 from (iv_in hz_7 (by decide)))) (Or.inl rfl) (by rw [show cAw 25 = 0 from rfl, Nat.zero_mul, Nat.zero_add]) dX5_workOut_46 (fun gm_12 H locs egm_12 hP hD hS => ?_)
          have hI_gm_12 := CI_st hIv_11 egm_12 (iv_all r_8) (by decide)
          have wu_13 : WFR (sl.toNatClampNeg) gm gm_12 := WFR_u wf_r_8 (up_at egm_12) (by have q1 : z_7.toNatClampNeg = z_7.toInt.toNat := rfl; have qs : sl.toNatClampNeg = sl.toInt.toNat := rfl; have qd : dp.toNatClampNeg = dp.toInt.toNat := rfl; have := i32_0; have := i32_1; have := i32_2; have := i32_m1; have := (hsx0_19).1; have := (hsx0_19).2; have := (hsx1_19).1; have := (hsx1_19).2; have := (hsx2_19).1; have := (hsx2_19).2; have := (hsx3_19).1; have := (hsx3_19).2; have := (h_3).1; have := (h_3).2; have := (h_6).1; have := (h_6).2; have := (hz_7).1; have := (hz_7).2; omega)
          refine ec_aload hx hb dX5_workOut_47 (lv_at hl 1 rfl) ?_
          refine cr_get (t := 9) (j := 7) (C := RX3) (T := TX3) (N := 21) (v := eV (ad 9) (gm_12 17 x4_19.toNatClampNeg)) hx hb htb inX3 hown hK hP h_6 (by decide) (by decide) (by decide) rfl (by decide) (htb _ kw_257) rfl dX5_workOut_49 ?_
          obtain ⟨z_14, ez_14⟩ : ∃ z : Int32, z = (gm_12 17 x4_19.toNatClampNeg) := ⟨_, rfl⟩
          refine W.eq (g2 := F0 m 52 ls [eV (ad 9) z_14]) (by rw [ez_14]) ?_
          have hz_14 : iv (-1) 79 z_14 := iv_of ez_14 (CI_a hI_gm_12 17 h_6 (by decide))
          have ez_14 := ez_14.trans (congrFun (Eq.trans (Eq.trans (up_ne egm_12 (by decide)) (kgv_11 17 (by decide))) (hkg_j19 17 (by decide))) _)
          refine ec_astore (i := 4) (lv' := [(4, eV (ad 9) z_14), (5, .int x5_19), (0, eV (ad 6) x), (1, eV (ad 9) o), (2, .int sl), (3, .int dp)]) hx hb dX5_workOut_52 hl (by decide) rfl (fun ls hl => ?_)
          obtain ⟨z_15, ez_15⟩ : ∃ z : Int32, z = x5_19 + 1 := ⟨_, rfl⟩
          have hz_15 : iv 1 6 z_15 := iv_of ez_15 (iv_add h_3 (iv_k (by decide) : iv 1 1 1) (by decide))
          have tz_15 : z_15.toInt = x5_19.toInt + 1 := by rw [ez_15]; exact iv_addE h_3 (iv_k (by decide) : iv 1 1 1) (by decide)
          refine lv_iinc (v := z_15) (lv' := [(5, .int z_15), (4, eV (ad 9) z_14), (0, eV (ad 6) x), (1, eV (ad 9) o), (2, .int sl), (3, .int dp)]) hx hb dX5_workOut_54 hl (k := 1) rfl ez_15.symm (by decide) (by simp [List.filter, eV_cat, cat_i, cat_l]) (fun ls hl => ?_)
          refine lv_goto (tgt := 19) hx hb dX5_workOut_57 (by decide) ?_
          exact ih19 _ (by rw [← hn19]; exact (iv_meas tz_15 h_3 (by decide))) sgv_11 gm_12 z_15 z_14 rfl (iv_w hz_15 (by decide)) hz_14 hsx0_19 hsx1_19 hsx2_19 hsx3_19 (KS_tr (L := [13, 14, 15, 16, 17, 18]) (KS_tr (L := [13, 14, 15, 16, 17, 18]) KS_rf hks_j19 (by decide)) ksv_11 (by decide)) (KS_up (KS_tr (L := [37, 38, 39, 48, 49, 50, 51, 52, 53]) (KS_tr (L := [37, 38, 39, 48, 49, 50, 51, 52, 53]) KS_rf hkg_j19 (by decide)) kgv_11 (by decide)) egm_12 (by decide)) hI_gm_12 ((MOK_e fMO_r_8 rfl (show gm_12 35 = gmv_11 35 from (up_ne egm_12 (by decide))) (show gm_12 38 = gmv_11 38 from (up_ne egm_12 (by decide))) (show gm_12 39 = gmv_11 39 from (up_ne egm_12 (by decide))) rfl)) ((FND9_e fFN_r_8 rfl (show gm_12 51 = gmv_11 51 from (up_ne egm_12 (by decide))))) ((BMK_t bm_r_8 (BMK_e (show gm_12 37 = gmv_11 37 from (up_ne egm_12 (by decide))) (show gm_12 39 = gmv_11 39 from (up_ne egm_12 (by decide)))))) (wu_13) (hk19) (fun q9 => by { have h9 := hit ((h_6).1); have h8 := hW.1 _ (lt_cl h_6 (show iv 0 80 (sg 4) from CI_s hI 4) (by decide) (by decide) h9.1); rw [ez_14] at q9 ⊢; exact ⟨h8.2.2.1, by rw [h8.2.2.2.2 q9]; exact h9.2⟩ }) (m14_r_8) (⟨acc9 ++ [r_8.toInt], S_r_8, (RC_ks (L := []) (M := [52]) hR_r_8 KS_rf (KS_up KS_rf egm_12 (by decide)) (by decide) (by decide)), oIts_st hIj (show iv 0 5 x5_19 from h_3) (h_6).1 hE_r_8 (swt9 hSW ez_14 rfl).symm tz_15, (by rw [List.length_append, List.length_singleton, hLj]; have c1 := cln9 (u := x5_19) (h_3).1; have c2 := cln9 hvsl.1; have c3 := cln9 hvdp.1; have c4 : (z_7 : Int32).toNatClampNeg = (z_7 : Int32).toInt.toNat := rfl; have c5 : z_15.toNatClampNeg = z_15.toInt.toNat := rfl; have := i32_0; have := i32_1; have := i32_2; have := i32_m1; have := (hsx0_19).1; have := (hsx0_19).2; have := (hsx1_19).1; have := (hsx1_19).2; have := (hsx2_19).1; have := (hsx2_19).2; have := (hsx3_19).1; have := (hsx3_19).2; have := (h_3).1; have := (h_3).2; have := (h_6).1; have := (h_6).2; have := (hz_7).1; have := (hz_7).2; have := (hz_14).1; have := (hz_14).2; have := (hz_15).1; have := (hz_15).2; omega), WVL_a hVj (show WFR (24 * dp.toNatClampNeg + 24) gm_j19 _ from fWF_r_8) (by rw [hLj]; have c1 := cln9 (u := x5_19) (h_3).1; have c2 := cln9 hvsl.1; have c3 := cln9 hvdp.1; have c4 : (z_7 : Int32).toNatClampNeg = (z_7 : Int32).toInt.toNat := rfl; have := i32_0; have := i32_1; have := i32_2; have := i32_m1; have := (hsx0_19).1; have := (hsx0_19).2; have := (hsx1_19).1; have := (hsx1_19).2; have := (hsx2_19).1; have := (hsx2_19).2; have := (hsx3_19).1; have := (hsx3_19).2; have := (h_3).1; have := (h_3).2; have := (h_6).1; have := (h_6).2; have := (hz_7).1; have := (hz_7).2; have := (hz_14).1; have := (hz_14).2; have := (hz_15).1; have := (hz_15).2; omega) (up_at egm_12) (by rw [hLj]; have c1 := cln9 (u := x5_19) (h_3).1; have c2 := cln9 hvsl.1; have c3 := cln9 hvdp.1; have c4 : (z_7 : Int32).toNatClampNeg = (z_7 : Int32).toInt.toNat := rfl; have := i32_0; have := i32_1; have := i32_2; have := i32_m1; have := (hsx0_19).1; have := (hsx0_19).2; have := (hsx1_19).1; have := (hsx1_19).2; have := (hsx2_19).1; have := (hsx2_19).2; have := (hsx3_19).1; have := (hsx3_19).2; have := (h_3).1; have := (h_3).2; have := (h_6).1; have := (h_6).2; have := (hz_7).1; have := (hz_7).2; have := (hz_14).1; have := (hz_14).2; have := (hz_15).1; have := (hz_15).2; omega)⟩) _ _ _ hP hD hS (lv_sub hl [0, 1, 2, 3, 4, 5] rfl)
  refine ec_aload_n hx hb dX5_workOut_0 rfl (lv_at hl 1 rfl) ?_
  refine cr_get (t := 9) (j := 18) (C := RX3) (T := TX3) (N := 21) (v := eV (ad 33) (gm 25 o.toNatClampNeg)) hx hb htb inX3 hown hK hP hvo (by decide) (by decide) (by decide) rfl (by decide) (htb _ kw_290) rfl dX5_workOut_1 ?_
  obtain ⟨z_16, ez_16⟩ : ∃ z : Int32, z = (gm 25 o.toNatClampNeg) := ⟨_, rfl⟩
  refine W.eq (g2 := F0 m 4 ls [eV (ad 33) z_16]) (by rw [ez_16]) ?_
  have hz_16 : iv (-1) 33 z_16 := iv_of ez_16 (CI_a hI 25 hvo (by decide))
  refine cw_word (k := 6) (kx := 6) hx hb hG hS (by decide) rfl ⟨by decide, by decide⟩ hown (htb _ kw_912) dX5_workOut_4 ?_
  refine ec_acmp_ne (tgt := 63) hx hb dX5_workOut_7 (by decide) (fun c_17 => ?_) (fun c_17 => ?_)
  · have wc_17 : ¬ z_16.toInt = (6 : Int) := fun q9 => c_17 (congrArg (er (ad 33)) (Int32.toInt_inj.mp q9))
    refine ec_aload_n hx hb dX5_workOut_63 rfl (lv_at hl 1 rfl) ?_
    refine cr_get (t := 9) (j := 18) (C := RX3) (T := TX3) (N := 21) (v := eV (ad 33) (gm 25 o.toNatClampNeg)) hx hb htb inX3 hown hK hP hvo (by decide) (by decide) (by decide) rfl (by decide) (htb _ kw_290) rfl dX5_workOut_64 ?_
    refine W.eq (g2 := F0 m 67 ls [eV (ad 33) z_16]) (by rw [show (gm 25 o.toNatClampNeg) = z_16 from ez_16.symm]) ?_
    refine cw_word (k := 8) (kx := 8) hx hb hG hS (by decide) rfl ⟨by decide, by decide⟩ hown (htb _ kw_919) dX5_workOut_67 ?_
    refine ec_acmp_eq (tgt := 83) hx hb dX5_workOut_70 (by decide) (fun c_18 => ?_) (fun c_18 => ?_)
    · have wc_18 : z_16.toInt = (8 : Int) := er_wd hG hz_16 (iv_w (iv_k (by decide) : iv 8 8 8) (by decide)) c_18
      refine ec_aload_n hx hb dX5_workOut_83 rfl (lv_at hl 0 rfl) ?_
      refine cr_get (t := 6) (j := 8) (C := RX5) (T := TX5) (N := 13) (v := eV (ad 25) 0) hx hb htb inX5 hown hK hP hvx (by decide) (by decide) (by decide) rfl (by decide) (htb _ kw_412) (cV_c rfl (by decide) (by rw [show cMu 6 8 = 0 from rfl, Nat.zero_mul]; rfl)) dX5_workOut_84 ?_
      refine lv_iload_n hx hb dX5_workOut_87 rfl (lv_at hl 2 rfl) ?_
      refine ec_aload_n hx hb dX5_workOut_88 rfl (lv_at hl 0 rfl) ?_
      refine ec_aload_n hx hb dX5_workOut_89 rfl (lv_at hl 1 rfl) ?_
      refine lv_iload_n hx hb dX5_workOut_90 rfl (lv_at hl 3 rfl) ?_
      refine cm_callV (t := 6) (C := RX5) (T := TX5) (N := 13) (rest := [.int sl, eV (ad 25) 0]) (as := [eV (ad 9) o, .int dp]) ⟨hx, hb, hml, hown, htb⟩ (d_objectOf9 l dC dI ad cid a2 lx sg gm lg hl9 n9 HO HM x o dp wg ws S hI hvx hvo hvdp hW hLD hMO hFN (by rw [show sg 4 = sg 4 from rfl]; exact hct.2.1) hct.2.2.2.2 (by have := i32_0; have := i32_1; have := i32_2; have := i32_m1; have := (hvx).1; have := (hvx).2; have := (hvo).1; have := (hvo).2; have := (hvsl).1; have := (hvsl).2; have := (hvdp).1; have := (hvdp).2; have := (hz_16).1; have := (hz_16).2; omega) hSW hSS hSV hRC) (cwV 2 htb (gd_V kw_917 kw_918 kw_55 kw_159 kw_1536) rfl rfl rfl (by decide +kernel) ⟨(show 24 + 8 * n9 + 1 ≤ 26 + 8 * n9 from by omega), (show 8 + (3 + 11) + (680 + 260 * n9) ≤ 760 + 260 * n9 from by omega)⟩) hvx (by decide) (by decide) rfl rfl hl.1 rfl (Nat.le_trans (cs_c (cat_i _) (cs_c (eV_cat _ _) cs_n)) (by decide)) dX5_workOut_91 ⟨Nat.le_of_ble_eq_true rfl, Nat.le_of_ble_eq_true rfl⟩ hK hP hD hS hA hG (fun E ce q9 u_20 H locs hw hP hD hS hce hcv hcl => ?_) (fun v9 u_20 H locs hw hP hD hS => ?_)
      · obtain ⟨hE, hw⟩ := hw
        obtain ⟨sgv_21, gmv_21, lgv_21, rfl, hIv_21, ksv_21, kgv_21, klv_21, xMO_v_21, xFN_v_21, xO_v_21⟩ := hw
        obtain rfl := KS_nil klv_21
        have hP : va_P (dC, dI) vwCl (cW ad cid a2 lx sgv_21 gmv_21 lg) H := hP
        have hD : va_D A (cW ad cid a2 lx sgv_21 gmv_21 lg) := hD
        exact vx_out (fun x hx9 => (hxt x hx9).elim) hlocks hce hcv hcl (fun t ht hal => ⟨⟨(sgv_21, gmv_21, lg), ⟨hE, sgv_21, gmv_21, lg, rfl, hIv_21, (KS_tr (L := [13, 14, 15, 16, 17, 18]) KS_rf ksv_21 (by decide)), (KS_tr (L := [37, 38, 39, 48, 49, 50, 51, 52, 53]) KS_rf kgv_21 (by decide)), KS_rf, (xMO_v_21), (xFN_v_21), ((by have hk : (wg 25 o.toNatClampNeg).toInt = 8 ∨ (wg 25 o.toNatClampNeg).toInt = 2 := (by rw [(show wg 25 o.toNatClampNeg = gm 25 o.toNatClampNeg from sw9 hSW 25 rfl _)]; have q7 : ¬ ((gm 25 o.toNatClampNeg).toInt = 6) := (by rw [← ez_16]; exact wc_17); have q70 : ((gm 25 o.toNatClampNeg).toInt = 8) := (by rw [← ez_16]; exact wc_18); omega); obtain ⟨S2, h1, h2⟩ := xO_v_21; exact ⟨S2, oCon_x hk h1, h2⟩))⟩, by rw [ht]; exact hP, va_K.moved hal hK, hD⟩, hS.F ht⟩) hS.2.2 (Nat.le_of_ble_eq_true rfl) (Nat.le_of_ble_eq_true rfl)
      obtain ⟨r_19, rfl, sgv_22, gmv_22, lgv_22, rfl, hIv_22, ksv_22, kgv_22, klv_22, hr_19, fMO_r_19, fFN_r_19, fBM_r_19, fWF_r_19, f14_r_19, fr_r_19, fO_r_19⟩ := hw
      obtain rfl := KS_nil klv_22
      have hP : va_P (dC, dI) vwCl (cW ad cid a2 lx sgv_22 gmv_22 lg) H := hP
      have hD : va_D A (cW ad cid a2 lx sgv_22 gmv_22 lg) := hD
      refine W.eq (g2 := F0 m 94 ls [.int r_19, .int sl, eV (ad 25) 0]) rfl ?_
      have bm_r_19 := BMK_t BMK_rf fBM_r_19
      have wf_r_19 : WFR (sl.toNatClampNeg) gm gmv_22 := WFR_t WFR_rf fWF_r_19 (by have qs : sl.toNatClampNeg = sl.toInt.toNat := rfl; have qd : dp.toNatClampNeg = dp.toInt.toNat := rfl; have := i32_0; have := i32_1; have := i32_2; have := i32_m1; have := (hvx).1; have := (hvx).2; have := (hvo).1; have := (hvo).2; have := (hvsl).1; have := (hvsl).2; have := (hvdp).1; have := (hvdp).2; have := (hz_16).1; have := (hz_16).2; have := (hr_19).1; have := (hr_19).2; omega)
      obtain ⟨S_r_19, hE_r_19, hR_r_19⟩ := fO_r_19
      have m14_r_19 : (sg 14).toInt ≤ (sgv_22 14).toInt := Int.le_trans (Int.le_refl _) f14_r_19
      refine cr_iast (t := 25) (k := 52) (n9 := (sl : Int32).toNatClampNeg) (z := r_19) hx hb hK hP hD hS (iv_k (by decide) : iv 0 0 0) (by decide) (by decide) (by decide) rfl rfl rfl (show vp_in sl (cLen 25) from (show vp_in sl 960 from (iv_in hvsl (by decide)))) (Or.inl rfl) (by rw [show cAw 25 = 0 from rfl, Nat.zero_mul, Nat.zero_add]) dX5_workOut_94 (fun gm_23 H locs egm_23 hP hD hS => ?_)
      have hI_gm_23 := CI_st hIv_22 egm_23 hr_19 (by decide)
      have wu_24 : WFR (sl.toNatClampNeg) gm gm_23 := WFR_u wf_r_19 (up_at egm_23) (by have q1 : sl.toNatClampNeg = sl.toInt.toNat := rfl; have qs : sl.toNatClampNeg = sl.toInt.toNat := rfl; have qd : dp.toNatClampNeg = dp.toInt.toNat := rfl; have := i32_0; have := i32_1; have := i32_2; have := i32_m1; have := (hvx).1; have := (hvx).2; have := (hvo).1; have := (hvo).2; have := (hvsl).1; have := (hvsl).2; have := (hvdp).1; have := (hvdp).2; have := (hz_16).1; have := (hz_16).2; have := (hr_19).1; have := (hr_19).2; omega)
      exact W.nb (fun hN => W.widen (k := 1) (n := 6) (by decide) (by decide) (vx_ret (W.vret hx hb hr (fun t ht hW => ⟨⟨none, (sgv_22, gm_23, lg), rfl, ⟨rfl, sgv_22, gm_23, lg, rfl, hI_gm_23, (KS_tr (L := [13, 14, 15, 16, 17, 18]) KS_rf ksv_22 (by decide)), (KS_up (KS_tr (L := [37, 38, 39, 48, 49, 50, 51, 52, 53]) KS_rf kgv_22 (by decide)) egm_23 (by decide)), KS_rf, ((MOK_e fMO_r_19 rfl (show gm_23 35 = gmv_22 35 from (up_ne egm_23 (by decide))) (show gm_23 38 = gmv_22 38 from (up_ne egm_23 (by decide))) (show gm_23 39 = gmv_22 39 from (up_ne egm_23 (by decide))) rfl)), ((FND9_e fFN_r_19 rfl (show gm_23 51 = gmv_22 51 from (up_ne egm_23 (by decide))))), ((BMK_t bm_r_19 (BMK_e (show gm_23 37 = gmv_22 37 from (up_ne egm_23 (by decide))) (show gm_23 39 = gmv_22 39 from (up_ne egm_23 (by decide)))))), (wu_24), (Or.inr (Or.inr (Or.inr (by rw [show gm_23 52 = _ from up_at egm_23, upd_at]; exact hr_19)))), (m14_r_19), ((by have q1 := trivial; have hk : (wg 25 o.toNatClampNeg).toInt = 8 ∨ (wg 25 o.toNatClampNeg).toInt = 2 := (by rw [(show wg 25 o.toNatClampNeg = gm 25 o.toNatClampNeg from sw9 hSW 25 rfl _)]; have q7 : ¬ ((gm 25 o.toNatClampNeg).toInt = 6) := (by rw [← ez_16]; exact wc_17); have q70 : ((gm 25 o.toNatClampNeg).toInt = 8) := (by rw [← ez_16]; exact wc_18); omega); have r14 := hR_r_19.1.1; have r15 := fr_r_19; have r16 := (hr_19).1; exact ⟨[r_19.toInt], S_r_19, oCon_o hk hE_r_19, (RC_ks (L := []) (M := [52]) hR_r_19 KS_rf (KS_up KS_rf egm_23 (by decide)) (by decide) (by decide)), Or.inr (Or.inr (Or.inr ⟨_, rfl, r16, by omega⟩)), WVL_1 (up_at egm_23) rfl, fun q => absurd q (by omega), (by show 1 ≤ 6; omega)⟩))⟩, by rw [ht]; exact hP, va_K.moved hW.alike hK, hD⟩, hS.F ht, by rw [ht]; exact hN⟩) hS.2.2 dX5_workOut_95)))
    · have wc_18 : ¬ z_16.toInt = (8 : Int) := fun q9 => c_18 (congrArg (er (ad 33)) (Int32.toInt_inj.mp q9))
      refine ec_aload_n hx hb dX5_workOut_73 rfl (lv_at hl 1 rfl) ?_
      refine cr_get (t := 9) (j := 18) (C := RX3) (T := TX3) (N := 21) (v := eV (ad 33) (gm 25 o.toNatClampNeg)) hx hb htb inX3 hown hK hP hvo (by decide) (by decide) (by decide) rfl (by decide) (htb _ kw_290) rfl dX5_workOut_74 ?_
      refine W.eq (g2 := F0 m 77 ls [eV (ad 33) z_16]) (by rw [show (gm 25 o.toNatClampNeg) = z_16 from ez_16.symm]) ?_
      refine cw_word (k := 2) (kx := 2) hx hb hG hS (by decide) rfl ⟨by decide, by decide⟩ hown (htb _ kw_920) dX5_workOut_77 ?_
      refine ec_acmp_ne (tgt := 95) hx hb dX5_workOut_80 (by decide) (fun c_25 => ?_) (fun c_25 => ?_)
      · have wc_25 : ¬ z_16.toInt = (2 : Int) := fun q9 => c_25 (congrArg (er (ad 33)) (Int32.toInt_inj.mp q9))
        exact W.nb (fun hN => W.widen (k := 1) (n := 6) (by decide) (by decide) (vx_ret (W.vret hx hb hr (fun t ht hW => ⟨⟨none, (sg, gm, lg), rfl, ⟨rfl, sg, gm, lg, rfl, hI, KS_rf, KS_rf, KS_rf, (hMO), (hFN), (BMK_rf), (WFR_rf), ((by have q0 := hct.2.2.1; have q7 : ¬ ((gm 25 o.toNatClampNeg).toInt = 6) := (by rw [← ez_16]; exact wc_17); have q70 : ¬ ((gm 25 o.toNatClampNeg).toInt = 8) := (by rw [← ez_16]; exact wc_18); have q80 : ¬ ((gm 25 o.toNatClampNeg).toInt = 2) := (by rw [← ez_16]; exact wc_25); omega)), ((Int.le_refl _)), ((by have q0 := hct.2.2.1; have q7 : ¬ ((gm 25 o.toNatClampNeg).toInt = 6) := (by rw [← ez_16]; exact wc_17); have q70 : ¬ ((gm 25 o.toNatClampNeg).toInt = 8) := (by rw [← ez_16]; exact wc_18); have q80 : ¬ ((gm 25 o.toNatClampNeg).toInt = 2) := (by rw [← ez_16]; exact wc_25); have h6 : ¬ (wg 25 o.toNatClampNeg).toInt = 6 := (by rw [(show wg 25 o.toNatClampNeg = gm 25 o.toNatClampNeg from sw9 hSW 25 rfl _)]; omega); have h8 : ¬ ((wg 25 o.toNatClampNeg).toInt = 8 ∨ (wg 25 o.toNatClampNeg).toInt = 2) := (by rw [(show wg 25 o.toNatClampNeg = gm 25 o.toNatClampNeg from sw9 hSW 25 rfl _)]; omega); exact ⟨[], S, oCon_t h6 h8, hRC, (by have h79 : (wg 25 o.toNatClampNeg).toInt = 7 ∨ (wg 25 o.toNatClampNeg).toInt = 9 := (by rw [(show wg 25 o.toNatClampNeg = gm 25 o.toNatClampNeg from sw9 hSW 25 rfl _)]; omega); exact Or.inr (h79.elim Or.inl (fun q => Or.inr (Or.inl q)))), WVL_0, fun q => absurd q h6, Nat.zero_le _⟩))⟩, by rw [ht]; exact hP, va_K.moved hW.alike hK, hD⟩, hS.F ht, by rw [ht]; exact hN⟩) hS.2.2 dX5_workOut_95)))
      · have wc_25 : z_16.toInt = (2 : Int) := er_wd hG hz_16 (iv_w (iv_k (by decide) : iv 2 2 2) (by decide)) c_25
        refine ec_aload_n hx hb dX5_workOut_83 rfl (lv_at hl 0 rfl) ?_
        refine cr_get (t := 6) (j := 8) (C := RX5) (T := TX5) (N := 13) (v := eV (ad 25) 0) hx hb htb inX5 hown hK hP hvx (by decide) (by decide) (by decide) rfl (by decide) (htb _ kw_412) (cV_c rfl (by decide) (by rw [show cMu 6 8 = 0 from rfl, Nat.zero_mul]; rfl)) dX5_workOut_84 ?_
        refine lv_iload_n hx hb dX5_workOut_87 rfl (lv_at hl 2 rfl) ?_
        refine ec_aload_n hx hb dX5_workOut_88 rfl (lv_at hl 0 rfl) ?_
        refine ec_aload_n hx hb dX5_workOut_89 rfl (lv_at hl 1 rfl) ?_
        refine lv_iload_n hx hb dX5_workOut_90 rfl (lv_at hl 3 rfl) ?_
        refine cm_callV (t := 6) (C := RX5) (T := TX5) (N := 13) (rest := [.int sl, eV (ad 25) 0]) (as := [eV (ad 9) o, .int dp]) ⟨hx, hb, hml, hown, htb⟩ (d_objectOf9 l dC dI ad cid a2 lx sg gm lg hl9 n9 HO HM x o dp wg ws S hI hvx hvo hvdp hW hLD hMO hFN (by rw [show sg 4 = sg 4 from rfl]; exact hct.2.1) hct.2.2.2.2 (by have := i32_0; have := i32_1; have := i32_2; have := i32_m1; have := (hvx).1; have := (hvx).2; have := (hvo).1; have := (hvo).2; have := (hvsl).1; have := (hvsl).2; have := (hvdp).1; have := (hvdp).2; have := (hz_16).1; have := (hz_16).2; omega) hSW hSS hSV hRC) (cwV 2 htb (gd_V kw_917 kw_918 kw_55 kw_159 kw_1536) rfl rfl rfl (by decide +kernel) ⟨(show 24 + 8 * n9 + 1 ≤ 26 + 8 * n9 from by omega), (show 8 + (3 + 11) + (680 + 260 * n9) ≤ 760 + 260 * n9 from by omega)⟩) hvx (by decide) (by decide) rfl rfl hl.1 rfl (Nat.le_trans (cs_c (cat_i _) (cs_c (eV_cat _ _) cs_n)) (by decide)) dX5_workOut_91 ⟨Nat.le_of_ble_eq_true rfl, Nat.le_of_ble_eq_true rfl⟩ hK hP hD hS hA hG (fun E ce q9 u_27 H locs hw hP hD hS hce hcv hcl => ?_) (fun v9 u_27 H locs hw hP hD hS => ?_)
        · obtain ⟨hE, hw⟩ := hw
          obtain ⟨sgv_28, gmv_28, lgv_28, rfl, hIv_28, ksv_28, kgv_28, klv_28, xMO_v_28, xFN_v_28, xO_v_28⟩ := hw
          obtain rfl := KS_nil klv_28
          have hP : va_P (dC, dI) vwCl (cW ad cid a2 lx sgv_28 gmv_28 lg) H := hP
          have hD : va_D A (cW ad cid a2 lx sgv_28 gmv_28 lg) := hD
          exact vx_out (fun x hx9 => (hxt x hx9).elim) hlocks hce hcv hcl (fun t ht hal => ⟨⟨(sgv_28, gmv_28, lg), ⟨hE, sgv_28, gmv_28, lg, rfl, hIv_28, (KS_tr (L := [13, 14, 15, 16, 17, 18]) KS_rf ksv_28 (by decide)), (KS_tr (L := [37, 38, 39, 48, 49, 50, 51, 52, 53]) KS_rf kgv_28 (by decide)), KS_rf, (xMO_v_28), (xFN_v_28), ((by have hk : (wg 25 o.toNatClampNeg).toInt = 8 ∨ (wg 25 o.toNatClampNeg).toInt = 2 := (by rw [(show wg 25 o.toNatClampNeg = gm 25 o.toNatClampNeg from sw9 hSW 25 rfl _)]; have q7 : ¬ ((gm 25 o.toNatClampNeg).toInt = 6) := (by rw [← ez_16]; exact wc_17); have q70 : ¬ ((gm 25 o.toNatClampNeg).toInt = 8) := (by rw [← ez_16]; exact wc_18); have q80 : ((gm 25 o.toNatClampNeg).toInt = 2) := (by rw [← ez_16]; exact wc_25); omega); obtain ⟨S2, h1, h2⟩ := xO_v_28; exact ⟨S2, oCon_x hk h1, h2⟩))⟩, by rw [ht]; exact hP, va_K.moved hal hK, hD⟩, hS.F ht⟩) hS.2.2 (Nat.le_of_ble_eq_true rfl) (Nat.le_of_ble_eq_true rfl)
        obtain ⟨r_26, rfl, sgv_29, gmv_29, lgv_29, rfl, hIv_29, ksv_29, kgv_29, klv_29, hr_26, fMO_r_26, fFN_r_26, fBM_r_26, fWF_r_26, f14_r_26, fr_r_26, fO_r_26⟩ := hw
        obtain rfl := KS_nil klv_29
        have hP : va_P (dC, dI) vwCl (cW ad cid a2 lx sgv_29 gmv_29 lg) H := hP
        have hD : va_D A (cW ad cid a2 lx sgv_29 gmv_29 lg) := hD
        refine W.eq (g2 := F0 m 94 ls [.int r_26, .int sl, eV (ad 25) 0]) rfl ?_
        have bm_r_26 := BMK_t BMK_rf fBM_r_26
        have wf_r_26 : WFR (sl.toNatClampNeg) gm gmv_29 := WFR_t WFR_rf fWF_r_26 (by have qs : sl.toNatClampNeg = sl.toInt.toNat := rfl; have qd : dp.toNatClampNeg = dp.toInt.toNat := rfl; have := i32_0; have := i32_1; have := i32_2; have := i32_m1; have := (hvx).1; have := (hvx).2; have := (hvo).1; have := (hvo).2; have := (hvsl).1; have := (hvsl).2; have := (hvdp).1; have := (hvdp).2; have := (hz_16).1; have := (hz_16).2; have := (hr_26).1; have := (hr_26).2; omega)
        obtain ⟨S_r_26, hE_r_26, hR_r_26⟩ := fO_r_26
        have m14_r_26 : (sg 14).toInt ≤ (sgv_29 14).toInt := Int.le_trans (Int.le_refl _) f14_r_26
        refine cr_iast (t := 25) (k := 52) (n9 := (sl : Int32).toNatClampNeg) (z := r_26) hx hb hK hP hD hS (iv_k (by decide) : iv 0 0 0) (by decide) (by decide) (by decide) rfl rfl rfl (show vp_in sl (cLen 25) from (show vp_in sl 960 from (iv_in hvsl (by decide)))) (Or.inl rfl) (by rw [show cAw 25 = 0 from rfl, Nat.zero_mul, Nat.zero_add]) dX5_workOut_94 (fun gm_30 H locs egm_30 hP hD hS => ?_)
        have hI_gm_30 := CI_st hIv_29 egm_30 hr_26 (by decide)
        have wu_31 : WFR (sl.toNatClampNeg) gm gm_30 := WFR_u wf_r_26 (up_at egm_30) (by have q1 : sl.toNatClampNeg = sl.toInt.toNat := rfl; have qs : sl.toNatClampNeg = sl.toInt.toNat := rfl; have qd : dp.toNatClampNeg = dp.toInt.toNat := rfl; have := i32_0; have := i32_1; have := i32_2; have := i32_m1; have := (hvx).1; have := (hvx).2; have := (hvo).1; have := (hvo).2; have := (hvsl).1; have := (hvsl).2; have := (hvdp).1; have := (hvdp).2; have := (hz_16).1; have := (hz_16).2; have := (hr_26).1; have := (hr_26).2; omega)
        exact W.nb (fun hN => W.widen (k := 1) (n := 6) (by decide) (by decide) (vx_ret (W.vret hx hb hr (fun t ht hW => ⟨⟨none, (sgv_29, gm_30, lg), rfl, ⟨rfl, sgv_29, gm_30, lg, rfl, hI_gm_30, (KS_tr (L := [13, 14, 15, 16, 17, 18]) KS_rf ksv_29 (by decide)), (KS_up (KS_tr (L := [37, 38, 39, 48, 49, 50, 51, 52, 53]) KS_rf kgv_29 (by decide)) egm_30 (by decide)), KS_rf, ((MOK_e fMO_r_26 rfl (show gm_30 35 = gmv_29 35 from (up_ne egm_30 (by decide))) (show gm_30 38 = gmv_29 38 from (up_ne egm_30 (by decide))) (show gm_30 39 = gmv_29 39 from (up_ne egm_30 (by decide))) rfl)), ((FND9_e fFN_r_26 rfl (show gm_30 51 = gmv_29 51 from (up_ne egm_30 (by decide))))), ((BMK_t bm_r_26 (BMK_e (show gm_30 37 = gmv_29 37 from (up_ne egm_30 (by decide))) (show gm_30 39 = gmv_29 39 from (up_ne egm_30 (by decide)))))), (wu_31), (Or.inr (Or.inr (Or.inr (by rw [show gm_30 52 = _ from up_at egm_30, upd_at]; exact hr_26)))), (m14_r_26), ((by have q1 := trivial; have hk : (wg 25 o.toNatClampNeg).toInt = 8 ∨ (wg 25 o.toNatClampNeg).toInt = 2 := (by rw [(show wg 25 o.toNatClampNeg = gm 25 o.toNatClampNeg from sw9 hSW 25 rfl _)]; have q7 : ¬ ((gm 25 o.toNatClampNeg).toInt = 6) := (by rw [← ez_16]; exact wc_17); have q70 : ¬ ((gm 25 o.toNatClampNeg).toInt = 8) := (by rw [← ez_16]; exact wc_18); have q80 : ((gm 25 o.toNatClampNeg).toInt = 2) := (by rw [← ez_16]; exact wc_25); omega); have r14 := hR_r_26.1.1; have r15 := fr_r_26; have r16 := (hr_26).1; exact ⟨[r_26.toInt], S_r_26, oCon_o hk hE_r_26, (RC_ks (L := []) (M := [52]) hR_r_26 KS_rf (KS_up KS_rf egm_30 (by decide)) (by decide) (by decide)), Or.inr (Or.inr (Or.inr ⟨_, rfl, r16, by omega⟩)), WVL_1 (up_at egm_30) rfl, fun q => absurd q (by omega), (by show 1 ≤ 6; omega)⟩))⟩, by rw [ht]; exact hP, va_K.moved hW.alike hK, hD⟩, hS.F ht, by rw [ht]; exact hN⟩) hS.2.2 dX5_workOut_95)))
  · have wc_17 : z_16.toInt = (6 : Int) := er_wd hG hz_16 (iv_w (iv_k (by decide) : iv 6 6 6) (by decide)) c_17
    refine ec_aload_n hx hb dX5_workOut_10 rfl (lv_at hl 1 rfl) ?_
    refine cr_get (t := 9) (j := 6) (C := RX3) (T := TX3) (N := 21) (v := eV (ad 9) (gm 16 o.toNatClampNeg)) hx hb htb inX3 hown hK hP hvo (by decide) (by decide) (by decide) rfl (by decide) (htb _ kw_253) rfl dX5_workOut_11 ?_
    obtain ⟨z_32, ez_32⟩ : ∃ z : Int32, z = (gm 16 o.toNatClampNeg) := ⟨_, rfl⟩
    refine W.eq (g2 := F0 m 14 ls [eV (ad 9) z_32]) (by rw [ez_32]) ?_
    have hz_32 : iv (-1) 79 z_32 := iv_of ez_32 (CI_a hI 16 hvo (by decide))
    refine ec_astore (i := 4) (lv' := [(4, eV (ad 9) z_32), (0, eV (ad 6) x), (1, eV (ad 9) o), (2, .int sl), (3, .int dp)]) hx hb dX5_workOut_14 hl (by decide) rfl (fun ls hl => ?_)
    refine lv_iconst (v := 0) hx hb dX5_workOut_16 (by decide) ?_
    refine lv_istore (i := 5) (lv' := [(5, .int 0), (4, eV (ad 9) z_32), (0, eV (ad 6) x), (1, eV (ad 9) o), (2, .int sl), (3, .int dp)]) hx hb dX5_workOut_17 hl (by decide) (by simp [List.filter, eV_cat, cat_i, cat_l]) (fun ls hl => ?_)
    exact hj19 _ sg gm 0 z_32 rfl (iv_w (iv_k (by decide) : iv 0 0 0) (by decide)) hz_32 hvx hvo hvsl hvdp KS_rf KS_rf hI (hMO) (hFN) (BMK_rf) (WFR_rf) ((by rw [← ez_16]; exact wc_17)) (fun q9 => by { have h8 := hW.1 _ (lt_cl hvo (show iv 0 80 (sg 4) from CI_s hI 4) (by decide) (by decide) hct.2.1); rw [ez_32] at q9 ⊢; exact ⟨h8.2.1, by rw [h8.2.2.2.1 q9]; exact cl_0 hct.1⟩ }) ((Int.le_refl _)) (⟨[], S, hRC, (by unfold itC; rw [(swt9 hSW ez_32 rfl)]; rfl), rfl, WVL_0⟩) _ _ _ hP hD hS (lv_sub hl [0, 1, 2, 3, 4, 5] rfl)
end
section
def VAn (wg : Nat → Nat → Int32) (ob : List Ob9) (gm : Nat → Nat → Int32) (b dp : Nat) (vs : List (List Int)) (n : Nat) : Prop := vs.length = n ∧ ∀ i, i < n → VOK wg ob (ctE wg (wg 57 (128 * (3 * b) + i)).toNatClampNeg) ((vs[i]?).getD []) ∧ WVL gm (24 * dp + 6 * i) ((vs[i]?).getD []) ∧ ((wg 25 (ctE wg (wg 57 (128 * (3 * b) + i)).toNatClampNeg)).toInt = 6 → (wg 18 (ctE wg (wg 57 (128 * (3 * b) + i)).toNatClampNeg)).toInt ≤ 6 ∧ (((vs[i]?).getD []).length : Int) = (wg 18 (ctE wg (wg 57 (128 * (3 * b) + i)).toNatClampNeg)).toInt) ∧ ((vs[i]?).getD []).length ≤ 6
theorem VAn_0 {wg : Nat → Nat → Int32} {ob : List Ob9} {gm : Nat → Nat → Int32} {b dp : Nat} : VAn wg ob gm b dp [] 0 := ⟨rfl, fun i hi => absurd hi (Nat.not_lt_zero _)⟩
theorem VAn_s {wg : Nat → Nat → Int32} {ob1 ob2 : List Ob9} {gm1 gm2 : Nat → Nat → Int32} {b dp n d c : Nat} {vs : List (List Int)} {V : List Int} (h : VAn wg ob1 gm1 b dp vs n) (hl : ob1.length ≤ ob2.length) (hw : WFR d gm1 gm2) (hd : d = 24 * dp + 6 * n) (hc : ctE wg (wg 57 (128 * (3 * b) + n)).toNatClampNeg = c) (hv : VOK wg ob2 c V) (hwv : WVL gm2 d V) (h18 : (wg 25 c).toInt = 6 → (wg 18 c).toInt ≤ 6 ∧ (V.length : Int) = (wg 18 c).toInt) (h6 : V.length ≤ 6) : VAn wg ob2 gm2 b dp (vs ++ [V]) (n + 1) := by
  refine ⟨by rw [List.length_append, h.1]; rfl, fun i hi => ?_⟩
  by_cases e : i = n
  · subst e
    subst hd; subst hc
    have : ((vs ++ [V])[i]?).getD [] = V := by rw [List.getElem?_append_right (by rw [h.1]; exact Nat.le_refl _), h.1, Nat.sub_self]; rfl
    rw [this]
    exact ⟨hv, hwv, h18, h6⟩
  · have e1 : ((vs ++ [V])[i]?).getD [] = (vs[i]?).getD [] := by rw [List.getElem?_append_left (by rw [h.1]; omega)]
    rw [e1]
    obtain ⟨a1, a2, a3, a4⟩ := h.2 i (by omega)
    exact ⟨VOK_m a1 hl, WVL_f a2 hw (by omega), a3, a4⟩
theorem VAn_V {wg : Nat → Nat → Int32} {ob : List Ob9} {gm : Nat → Nat → Int32} {b dp n : Nat} {vs : List (List Int)} (h : VAn wg ob gm b dp vs n) (hn : (wg 41 (3 * b)).toNatClampNeg ≤ n) : VA wg ob gm b dp vs := fun i hi => by
  obtain ⟨a1, a2, a3, a4⟩ := h.2 i (by omega)
  exact ⟨a1, a2, a3⟩
theorem RC_le {wg : Nat → Nat → Int32} {lg lg2 : Nat → Nat → Int64} {S S2 : S9} {sg sg2 : Nat → Int32} {gm gm2 : Nat → Nat → Int32} (h : RC wg lg S sg gm) (h2 : RC wg lg2 S2 sg2 gm2) (hl : (sg 14).toInt ≤ (sg2 14).toInt) : (zO S).length ≤ (zO S2).length := by
  have a := h.1.1
  have b := h2.1.1
  omega
end
section
set_option maxHeartbeats 4000000 in
set_option maxRecDepth 100000 in
theorem d_workOutArgs9 (l : Launch) (dC : Nat → ClassId) (dI : Nat → Nat → Nat) (ad : Nat → Nat → Nat) (cid : Nat → ClassId) (a2 : Nat → Nat) (lx : List Nat) (sg : Nat → Int32) (gm : Nat → Nat → Int32) (lg : Nat → Nat → Int64) (hl9 : l.stackTraces = false) (n9 : Nat) (HO : PO9 l dC dI ad cid a2 lx n9) (HM : PM9 l dC dI ad cid a2 lx n9) (x : Int32) (b : Int32) (dp : Int32) (wg : Nat → Nat → Int32) (ws : Nat → Int32) (S : S9) (hI : CI sg gm) (hvx : iv 0 0 x) (hvb : iv 0 79 b) (hvdp : iv 0 39 dp) (hW : WRD sg gm lg) (hLD : LDI lx gm) (hMO : MOK sg gm lg) (hFN : FND9 sg gm) (hb12 : b.toInt < (sg 12).toInt) (hdp : dp.toInt + ((n9 + 1 : Nat) : Int) = 40) (hSW : st9 gm = wg) (hSS : ss9 sg = ws) (hSV : SV ws wg lg) (hRC : RC wg lg S sg gm) : CMt dC dI ad cid a2 lx l yX5_workOutArgs wm_X5_workOutArgs ({ frames := 27 + 8 * n9, cells := 1, slots := 6, locals := 800 + 260 * n9 }) [eV (ad 6) x, eV (ad 10) b, .int dp] sg gm lg (fun v u => v = none ∧ ∃ (sg2 : Nat → Int32) (gm2 : Nat → Nat → Int32) (lg2 : Nat → Nat → Int64), u = (sg2, gm2, lg2) ∧ CI sg2 gm2 ∧ KS [13, 14, 15, 16, 17, 18] sg sg2 ∧ KS [37, 38, 39, 48, 49, 50, 51, 52, 53] gm gm2 ∧ KS [] lg lg2 ∧ (MOK sg2 gm2 lg2) ∧ (FND9 sg2 gm2) ∧ (BMK gm gm2) ∧ (WFR (24 * dp.toNatClampNeg) gm gm2) ∧ (WKD gm2 (3 * b.toNatClampNeg + 0) dp.toNatClampNeg 3) ∧ ((sg 14).toInt ≤ (sg2 14).toInt) ∧ (∃ vs S2, oArs ws wg lg (oMK ws wg lg n9) (liL wg (3 * b.toNatClampNeg)) [] S = (some vs, S2) ∧ RC wg lg S2 sg2 gm2 ∧ VA wg (zO S2) gm2 b.toNatClampNeg dp.toNatClampNeg vs)) (fun E u => (E = "java/lang/UnsupportedOperationException") ∧ ∃ (sg2 : Nat → Int32) (gm2 : Nat → Nat → Int32) (lg2 : Nat → Nat → Int64), u = (sg2, gm2, lg2) ∧ CI sg2 gm2 ∧ KS [13, 14, 15, 16, 17, 18] sg sg2 ∧ KS [37, 38, 39, 48, 49, 50, 51, 52, 53] gm gm2 ∧ KS [] lg lg2 ∧ (MOK sg2 gm2 lg2) ∧ (FND9 sg2 gm2) ∧ (∃ S2, oArs ws wg lg (oMK ws wg lg n9) (liL wg (3 * b.toNatClampNeg)) [] S = (none, S2) ∧ RC wg lg S2 sg2 gm2)) := by
  intro sz
  refine vx_ofW (cc := cX5_workOutArgs) (maxL := 4) (ret := none) (by decide) rfl ?_
  intro p e s m args below meth c s₁ B hml hxt hv
  obtain ⟨rfl, hsz, hP, hK, hD0, hG⟩ := hv
  have hx := B.exec
  have hb := B.bytes
  have hr := B.returns
  have hts := atoms_spec (ws := wm_X5_workOutArgs) B.pre
  have htb := fun (w : Cond) (h : w ∈ tb) => hts w (List.mem_cons_of_mem _ h)
  have hown : s.vm.findClass RX5 = some m.cls := findClass_of_methodNamed B.named
  have hlocks := B.notSynchronized
  subst hsz
  have hD := hD0.self (sz := s.heap.size)
  generalize hAe : va_A (cW ad cid a2 lx sg gm lg) s.heap.size = A at hD hG ⊢
  have hA : ∀ q : Nat, s.heap.size ≤ q → A q := fun q h => by rw [← hAe]; exact Or.inr h
  have hS : va_S A s.heap s.heap [] := va_S.rf
  have hl := lv_entry ([eV (ad 6) x, eV (ad 10) b, .int dp]) (n := 4) (by rw [show (lg_sl ([eV (ad 6) x, eV (ad 10) b, .int dp])).length = 3 from by simp [lg_sl, eV_cat, cat_i, cat_l]]; exact Nat.le_of_ble_eq_true rfl)
  rw [lg_entry_eq]
  generalize (lg_sl ([eV (ad 6) x, eV (ad 10) b, .int dp]) ++ List.replicate (4 - (lg_sl ([eV (ad 6) x, eV (ad 10) b, .int dp])).length) Slot.unset).toArray = ls at hl ⊢
  have hl : lv_has ls 4 [(0, eV (ad 6) x), (1, eV (ad 10) b), (2, .int dp)] := by simp [lv_args, eV_cat, cat_i, cat_l] at hl; exact hl
  have hj2 : ∀ (n : Nat) (sg_j2 : Nat → Int32) (gm_j2 : Nat → Nat → Int32) (x3_2 : Int32) (_ : (4 - x3_2.toInt).toNat = n) (_ : iv 0 4 x3_2) (_ : iv 0 0 x) (_ : iv 0 79 b) (_ : iv 0 39 dp) (_ : KS [13, 14, 15, 16, 17, 18] sg sg_j2) (_ : KS [37, 38, 39, 48, 49, 50, 51, 52, 53] gm gm_j2) (_ : CI sg_j2 gm_j2) (_ : MOK sg_j2 gm_j2 lg) (_ : FND9 sg_j2 gm_j2) (_ : BMK gm gm_j2) (_ : WFR (24 * dp.toNatClampNeg) gm gm_j2) (_ : WKD gm_j2 (3 * b.toNatClampNeg + 0) dp.toNatClampNeg x3_2.toNatClampNeg) (_ : (sg 14).toInt ≤ (sg_j2 14).toInt) (_ : ∃ acc S2, RC wg lg S2 sg_j2 gm_j2 ∧ oArs ws wg lg (oMK ws wg lg n9) (liL wg (3 * b.toNatClampNeg)) [] S = oArs ws wg lg (oMK ws wg lg n9) ((liL wg (3 * b.toNatClampNeg)).drop x3_2.toNatClampNeg) acc S2 ∧ VAn wg (zO S2) gm_j2 b.toNatClampNeg dp.toNatClampNeg acc x3_2.toNatClampNeg) (H : Heap) (locs : List Loc) (ls : Array Slot), va_P (dC, dI) vwCl (cW ad cid a2 lx sg_j2 gm_j2 lg) H → va_D A (cW ad cid a2 lx sg_j2 gm_j2 lg) → va_S A s.heap H locs → lv_has ls 4 [(3, .int x3_2), (0, eV (ad 6) x), (1, eV (ad 10) b), (2, .int dp)] → W p l e (headSpec wm_X5_workOutArgs ({ frames := 27 + 8 * n9, cells := 1, slots := 6, locals := 800 + 260 * n9 })).room s m ([eV (ad 6) x, eV (ad 10) b, .int dp] : List Value).toArray below meth c H locs 0 0 (vx_MQ below (cQx dC dI ad cid a2 lx (fun v u => v = none ∧ ∃ (sg2 : Nat → Int32) (gm2 : Nat → Nat → Int32) (lg2 : Nat → Nat → Int64), u = (sg2, gm2, lg2) ∧ CI sg2 gm2 ∧ KS [13, 14, 15, 16, 17, 18] sg sg2 ∧ KS [37, 38, 39, 48, 49, 50, 51, 52, 53] gm gm2 ∧ KS [] lg lg2 ∧ (MOK sg2 gm2 lg2) ∧ (FND9 sg2 gm2) ∧ (BMK gm gm2) ∧ (WFR (24 * dp.toNatClampNeg) gm gm2) ∧ (WKD gm2 (3 * b.toNatClampNeg + 0) dp.toNatClampNeg 3) ∧ ((sg 14).toInt ≤ (sg2 14).toInt) ∧ (∃ vs S2, oArs ws wg lg (oMK ws wg lg n9) (liL wg (3 * b.toNatClampNeg)) [] S = (some vs, S2) ∧ RC wg lg S2 sg2 gm2 ∧ VA wg (zO S2) gm2 b.toNatClampNeg dp.toNatClampNeg vs)) A) (cX dC dI ad cid a2 lx (fun E u => (E = "java/lang/UnsupportedOperationException") ∧ ∃ (sg2 : Nat → Int32) (gm2 : Nat → Nat → Int32) (lg2 : Nat → Nat → Int64), u = (sg2, gm2, lg2) ∧ CI sg2 gm2 ∧ KS [13, 14, 15, 16, 17, 18] sg sg2 ∧ KS [37, 38, 39, 48, 49, 50, 51, 52, 53] gm gm2 ∧ KS [] lg lg2 ∧ (MOK sg2 gm2 lg2) ∧ (FND9 sg2 gm2) ∧ (∃ S2, oArs ws wg lg (oMK ws wg lg n9) (liL wg (3 * b.toNatClampNeg)) [] S = (none, S2) ∧ RC wg lg S2 sg2 gm2)) A) ([eV (ad 6) x, eV (ad 10) b, .int dp] : List Value).toArray s 1 6 A) (F0 m 2 ls []) := by
    intro n
    induction n using Nat.strongRecOn with
    | ind n ih2 =>
      intro sg_j2 gm_j2 x3_2 hn2 hx3_2 hsx0_2 hsx1_2 hsx2_2 hks_j2 hkg_j2 hI_j2 hMOj hFNj hBMj hWFj hWKj h14j hAR H locs ls hP hD hS hl
      obtain ⟨acc9, Sj, hRj, hIj, hVj⟩ := hAR
      refine lv_iload_n hx hb dX5_workOutArgs_2 rfl (lv_at hl 0 rfl) ?_
      refine ec_aload_n hx hb dX5_workOutArgs_3 rfl (lv_at hl 2 rfl) ?_
      obtain ⟨q_1, hq_1, nq_1, tq_1⟩ := ix_mk (3 * b.toNatClampNeg + 0) 239 (by have q1 := iv_cl hsx1_2 (by decide); have q2 := (hsx1_2).2; omega) (by decide)
      refine cr_get (t := 10) (j := 1) (C := RX1) (T := TX1) (N := 19) (v := eV (ad 11) q_1) hx hb htb inX1 hown hK hP hsx1_2 (by decide) (by decide) (by decide) rfl (by decide) (htb _ kw_352) (cV_c rfl hq_1.1 nq_1) dX5_workOutArgs_4 ?_
      refine cm_callV (t := 11) (C := RJx4a65c) (T := TJx4a65c) (N := 3) (rest := [.int x3_2]) (as := []) ⟨hx, hb, hml, hown, htb⟩ (d_lsize l dC dI ad cid a2 lx sg_j2 gm_j2 lg q_1 hI_j2 hq_1) (cwV 0 htb (gd_V kw_905 kw_530 kw_531 kw_157 kw_1418) rfl rfl rfl (by decide +kernel) ⟨(show 0 + 1 ≤ 27 + 8 * n9 from by omega), (show 8 + (1 + 11) + (0) ≤ 800 + 260 * n9 from by omega)⟩) hq_1 (by decide) (by decide) rfl rfl hl.1 rfl (Nat.le_trans (cs_c (cat_i _) cs_n) (by decide)) dX5_workOutArgs_7 ⟨Nat.le_of_ble_eq_true rfl, Nat.le_of_ble_eq_true rfl⟩ hK hP hD hS hA hG (fun E ce q9 u_3 H locs hw hP hD hS hce hcv hcl => ?_) (fun v9 u_3 H locs hw hP hD hS => ?_)
      · exact hw.elim
      obtain ⟨r_2, rfl, rfl, hr_2, fr_r_2⟩ := hw
      have hP : va_P (dC, dI) vwCl (cW ad cid a2 lx sg_j2 gm_j2 lg) H := hP
      have hD : va_D A (cW ad cid a2 lx sg_j2 gm_j2 lg) := hD
      refine W.eq (g2 := F0 m 10 ls [.int r_2, .int x3_2]) rfl ?_
      have fr_r_2 := fr_r_2.trans (congrFun (show gm_j2 41 = gm 41 from (hkg_j2 41 (by decide))) _)
      refine lv_icmp_ge (tgt := 48) hx hb dX5_workOutArgs_10 (by decide) (fun c_5 => ?_) (fun c_5 => ?_)
      · have d_6 : (r_2 : Int32).toInt ≤ (x3_2 : Int32).toInt := Int32.le_iff_toInt_le.mp c_5
        have h_7 : iv 0 4 r_2 := iv_leL c_5 hr_2 hx3_2 (by decide)
        exact W.nb (fun hN => W.widen (k := 1) (n := 6) (by decide) (by decide) (vx_ret (W.vret hx hb hr (fun t ht hW => ⟨⟨none, (sg_j2, gm_j2, lg), rfl, ⟨rfl, sg_j2, gm_j2, lg, rfl, hI_j2, (KS_tr (L := [13, 14, 15, 16, 17, 18]) KS_rf hks_j2 (by decide)), (KS_tr (L := [37, 38, 39, 48, 49, 50, 51, 52, 53]) KS_rf hkg_j2 (by decide)), KS_rf, (hMOj), (hFNj), (hBMj), (hWFj), ((WKD_le hWKj (by have k9 : (gm_j2 41 (3 * b.toNatClampNeg + 0)).toNatClampNeg = (gm_j2 41 (3 * b.toNatClampNeg + 0)).toInt.toNat := rfl; have e9 : gm_j2 41 (3 * b.toNatClampNeg + 0) = gm 41 (3 * b.toNatClampNeg + 0) := congrFun (show gm_j2 41 = gm 41 from (hkg_j2 41 (by decide))) _; have q1 := congrArg Int32.toInt fr_r_2; rw [show q_1.toNatClampNeg = 3 * b.toNatClampNeg + 0 from nq_1] at q1; rw [e9] at k9 ⊢; have q1 : x3_2.toNatClampNeg = x3_2.toInt.toNat := rfl; have := i32_0; have := i32_1; have := i32_2; have := i32_m1; have := (hsx0_2).1; have := (hsx0_2).2; have := (hsx1_2).1; have := (hsx1_2).2; have := (hsx2_2).1; have := (hsx2_2).2; have := (hx3_2).1; have := (hx3_2).2; have := (hq_1).1; have := (hq_1).2; have := (h_7).1; have := (h_7).2; omega))), (h14j), ((by have hn := (show (wg 41 (3 * b.toNatClampNeg)).toNatClampNeg ≤ x3_2.toNatClampNeg from (by have hz := (hSV.2 b.toNatClampNeg (by have q1 := congrArg Int32.toNatClampNeg (ss9_12 hSS); rw [q1]; exact (lt_cl hvb (show iv 0 80 (sg 12) from CI_s hI 12) (by decide) (by decide) hb12))).1; have q2 : wg 41 (3 * b.toNatClampNeg) = gm 41 (3 * b.toNatClampNeg + 0) := sw9 hSW 41 rfl _; rw [q2] at hz ⊢; have q1 := congrArg Int32.toInt fr_r_2; rw [show q_1.toNatClampNeg = 3 * b.toNatClampNeg + 0 from nq_1] at q1; have q5 : (gm 41 (3 * b.toNatClampNeg + 0)).toNatClampNeg = (gm 41 (3 * b.toNatClampNeg + 0)).toInt.toNat := rfl; have q1 : x3_2.toNatClampNeg = x3_2.toInt.toNat := rfl; have := i32_0; have := i32_1; have := i32_2; have := i32_m1; have := (hsx0_2).1; have := (hsx0_2).2; have := (hsx1_2).1; have := (hsx1_2).2; have := (hsx2_2).1; have := (hsx2_2).2; have := (hx3_2).1; have := (hx3_2).2; have := (hq_1).1; have := (hq_1).2; have := (h_7).1; have := (h_7).2; omega)); exact ⟨acc9, Sj, oArs_e hIj hn, hRj, VAn_V hVj hn⟩))⟩, by rw [ht]; exact hP, va_K.moved hW.alike hK, hD⟩, hS.F ht, by rw [ht]; exact hN⟩) hS.2.2 dX5_workOutArgs_48)))
      · have d_8 : (x3_2 : Int32).toInt < (r_2 : Int32).toInt := Int32.lt_iff_toInt_lt.mp (i32_lt c_5)
        have h_9 : iv 1 80 r_2 := iv_ltR (i32_lt c_5) hx3_2 hr_2 (by decide)
        refine lv_iload_n hx hb dX5_workOutArgs_13 rfl (lv_at hl 0 rfl) ?_
        refine lv_iconst (v := 4) hx hb dX5_workOutArgs_14 (by decide) ?_
        refine lv_icmp_ge (tgt := 48) hx hb dX5_workOutArgs_15 (by decide) (fun c_10 => ?_) (fun c_10 => ?_)
        · have h_11 : iv 4 4 x3_2 := iv_leR c_10 (iv_k (by decide) : iv 4 4 4) hx3_2 (by decide)
          exact W.nb (fun hN => W.widen (k := 1) (n := 6) (by decide) (by decide) (vx_ret (W.vret hx hb hr (fun t ht hW => ⟨⟨none, (sg_j2, gm_j2, lg), rfl, ⟨rfl, sg_j2, gm_j2, lg, rfl, hI_j2, (KS_tr (L := [13, 14, 15, 16, 17, 18]) KS_rf hks_j2 (by decide)), (KS_tr (L := [37, 38, 39, 48, 49, 50, 51, 52, 53]) KS_rf hkg_j2 (by decide)), KS_rf, (hMOj), (hFNj), (hBMj), (hWFj), ((WKD_le hWKj (by have k9 : (gm_j2 41 (3 * b.toNatClampNeg + 0)).toNatClampNeg = (gm_j2 41 (3 * b.toNatClampNeg + 0)).toInt.toNat := rfl; have e9 : gm_j2 41 (3 * b.toNatClampNeg + 0) = gm 41 (3 * b.toNatClampNeg + 0) := congrFun (show gm_j2 41 = gm 41 from (hkg_j2 41 (by decide))) _; have q1 := congrArg Int32.toInt fr_r_2; rw [show q_1.toNatClampNeg = 3 * b.toNatClampNeg + 0 from nq_1] at q1; rw [e9] at k9 ⊢; have q1 : x3_2.toNatClampNeg = x3_2.toInt.toNat := rfl; have := i32_0; have := i32_1; have := i32_2; have := i32_m1; have := (hsx0_2).1; have := (hsx0_2).2; have := (hsx1_2).1; have := (hsx1_2).2; have := (hsx2_2).1; have := (hsx2_2).2; have := (h_11).1; have := (h_11).2; have := (hq_1).1; have := (hq_1).2; have := (h_9).1; have := (h_9).2; omega))), (h14j), ((by have hn := (show (wg 41 (3 * b.toNatClampNeg)).toNatClampNeg ≤ x3_2.toNatClampNeg from (by have hz := (hSV.2 b.toNatClampNeg (by have q1 := congrArg Int32.toNatClampNeg (ss9_12 hSS); rw [q1]; exact (lt_cl hvb (show iv 0 80 (sg 12) from CI_s hI 12) (by decide) (by decide) hb12))).1; have q2 : wg 41 (3 * b.toNatClampNeg) = gm 41 (3 * b.toNatClampNeg + 0) := sw9 hSW 41 rfl _; rw [q2] at hz ⊢; have q1 := congrArg Int32.toInt fr_r_2; rw [show q_1.toNatClampNeg = 3 * b.toNatClampNeg + 0 from nq_1] at q1; have q5 : (gm 41 (3 * b.toNatClampNeg + 0)).toNatClampNeg = (gm 41 (3 * b.toNatClampNeg + 0)).toInt.toNat := rfl; have q1 : x3_2.toNatClampNeg = x3_2.toInt.toNat := rfl; have := i32_0; have := i32_1; have := i32_2; have := i32_m1; have := (hsx0_2).1; have := (hsx0_2).2; have := (hsx1_2).1; have := (hsx1_2).2; have := (hsx2_2).1; have := (hsx2_2).2; have := (h_11).1; have := (h_11).2; have := (hq_1).1; have := (hq_1).2; have := (h_9).1; have := (h_9).2; omega)); exact ⟨acc9, Sj, oArs_e hIj hn, hRj, VAn_V hVj hn⟩))⟩, by rw [ht]; exact hP, va_K.moved hW.alike hK, hD⟩, hS.F ht, by rw [ht]; exact hN⟩) hS.2.2 dX5_workOutArgs_48)))
        · have h_12 : iv 0 3 x3_2 := iv_ltL (i32_lt c_10) hx3_2 (iv_k (by decide) : iv 4 4 4) (by decide)
          refine ec_aload_n hx hb dX5_workOutArgs_18 rfl (lv_at hl 1 rfl) ?_
          refine ec_aload_n hx hb dX5_workOutArgs_19 rfl (lv_at hl 2 rfl) ?_
          refine cr_get (t := 10) (j := 1) (C := RX1) (T := TX1) (N := 19) (v := eV (ad 11) q_1) hx hb htb inX1 hown hK hP hsx1_2 (by decide) (by decide) (by decide) rfl (by decide) (htb _ kw_352) (cV_c rfl hq_1.1 nq_1) dX5_workOutArgs_20 ?_
          refine lv_iload_n hx hb dX5_workOutArgs_23 rfl (lv_at hl 0 rfl) ?_
          refine cm_callV (t := 11) (C := RJx4a65c) (T := TJx4a65c) (N := 3) (rest := [eV (ad 6) x]) (as := [.int x3_2]) ⟨hx, hb, hml, hown, htb⟩ (d_lget l dC dI ad cid a2 lx sg_j2 gm_j2 lg q_1 x3_2 hI_j2 hq_1 (LDI_e hLD (hkg_j2 41 (by decide)) (hkg_j2 42 (by decide)) (hkg_j2 57 (by decide))) (by have := i32_0; have := i32_1; have := i32_2; have := i32_m1; have := (hsx0_2).1; have := (hsx0_2).2; have := (hsx1_2).1; have := (hsx1_2).2; have := (hsx2_2).1; have := (hsx2_2).2; have := (h_12).1; have := (h_12).2; have := (hq_1).1; have := (hq_1).2; have := (h_9).1; have := (h_9).2; omega) (by rw [show gm_j2 41 = gm 41 from (hkg_j2 41 (by decide)), ← fr_r_2]; have := i32_0; have := i32_1; have := i32_2; have := i32_m1; have := (hsx0_2).1; have := (hsx0_2).2; have := (hsx1_2).1; have := (hsx1_2).2; have := (hsx2_2).1; have := (hsx2_2).2; have := (h_12).1; have := (h_12).2; have := (hq_1).1; have := (hq_1).2; have := (h_9).1; have := (h_9).2; omega)) (cwV 1 htb (gd_V kw_906 kw_859 kw_860 kw_157 kw_1518) rfl rfl rfl (by decide +kernel) ⟨(show 2 + 1 ≤ 27 + 8 * n9 from by omega), (show 8 + (2 + 11) + (43) ≤ 800 + 260 * n9 from by omega)⟩) hq_1 (by decide) (by decide) rfl rfl hl.1 rfl (Nat.le_trans (cs_c (eV_cat _ _) cs_n) (by decide)) dX5_workOutArgs_24 ⟨Nat.le_of_ble_eq_true rfl, Nat.le_of_ble_eq_true rfl⟩ hK hP hD hS hA hG (fun E ce q9 u_14 H locs hw hP hD hS hce hcv hcl => ?_) (fun v9 u_14 H locs hw hP hD hS => ?_)
          · exact hw.elim
          obtain ⟨r_13, rfl, rfl, hr_13, fr_r_13⟩ := hw
          have hP : va_P (dC, dI) vwCl (cW ad cid a2 lx sg_j2 gm_j2 lg) H := hP
          have hD : va_D A (cW ad cid a2 lx sg_j2 gm_j2 lg) := hD
          refine W.eq (g2 := F0 m 27 ls [eV (ad 9) r_13, eV (ad 6) x]) rfl ?_
          have fr_r_13 := fr_r_13.trans (congrFun (show gm_j2 57 = gm 57 from (hkg_j2 57 (by decide))) _)
          have fa_r_13 : r_13 = gm 57 (128 * (3 * b.toNatClampNeg + 0) + x3_2.toNatClampNeg) := by rw [fr_r_13, show q_1.toNatClampNeg = 3 * b.toNatClampNeg + 0 from nq_1]
          have hai_r_13 : x3_2.toNatClampNeg < (gm 41 (3 * b.toNatClampNeg + 0)).toNatClampNeg := (by have q1 := congrArg Int32.toInt fr_r_2; rw [show q_1.toNatClampNeg = 3 * b.toNatClampNeg + 0 from nq_1] at q1; have k9 : (gm 41 (3 * b.toNatClampNeg + 0)).toNatClampNeg = (gm 41 (3 * b.toNatClampNeg + 0)).toInt.toNat := rfl; have q1 : x3_2.toNatClampNeg = x3_2.toInt.toNat := rfl; have := i32_0; have := i32_1; have := i32_2; have := i32_m1; have := (hsx0_2).1; have := (hsx0_2).2; have := (hsx1_2).1; have := (hsx1_2).2; have := (hsx2_2).1; have := (hsx2_2).2; have := (h_12).1; have := (h_12).2; have := (hq_1).1; have := (hq_1).2; have := (h_9).1; have := (h_9).2; have := (hr_13).1; have := (hr_13).2; omega)
          have hct_r_13 := arg_in (k := 0) (w := 3) hI hW hLD (Or.inl ⟨rfl, rfl⟩) (lt_cl hvb (show iv 0 80 (sg 12) from CI_s hI 12) (by decide) (by decide) hb12) hai_r_13
          rw [← fa_r_13] at hct_r_13
          refine cl_cast hx hb hG hown (htb _ kw_907) hK hP hr_13 (by decide) dX5_workOutArgs_27 ?_
          refine cr_get (t := 9) (j := 19) (C := RX3) (T := TX3) (N := 21) (v := eV (ad 9) (gm_j2 26 r_13.toNatClampNeg)) hx hb htb inX3 hown hK hP hr_13 (by decide) (by decide) (by decide) rfl (by decide) (htb _ kw_293) rfl dX5_workOutArgs_30 ?_
          obtain ⟨z_16, ez_16⟩ : ∃ z : Int32, z = (gm_j2 26 r_13.toNatClampNeg) := ⟨_, rfl⟩
          refine W.eq (g2 := F0 m 33 ls [eV (ad 9) z_16, eV (ad 6) x]) (by rw [ez_16]) ?_
          have hz_16 : iv (-1) 79 z_16 := iv_of ez_16 (CI_a hI_j2 26 hr_13 (by decide))
          have ez_16 := ez_16.trans (congrFun (hkg_j2 26 (by decide)) _)
          have h_17 : iv 0 79 z_16 := ⟨by rw [ez_16]; exact hct_r_13.1.1, (hz_16).2⟩
          refine lv_iload_n hx hb dX5_workOutArgs_33 rfl (lv_at hl 3 rfl) ?_
          refine lv_iload_n hx hb dX5_workOutArgs_34 rfl (lv_at hl 0 rfl) ?_
          refine cm_callS (rest := [eV (ad 9) z_16, eV (ad 6) x]) (as := [.int dp, .int x3_2]) ⟨hx, hb, hml, hown, htb⟩ (d_slot l dC dI ad cid a2 lx sg_j2 gm_j2 lg dp x3_2 hI_j2 hsx2_2 h_12) (va_cwS 2 htb (gd_S kw_908 kw_909 kw_159 kw_1533) rfl rfl rfl (by decide +kernel) ⟨(show 0 + 1 ≤ 27 + 8 * n9 from by omega), (show 8 + (2 + 11) + (0) ≤ 800 + 260 * n9 from by omega)⟩)  rfl hl.1 rfl (Nat.le_trans (cs_c (eV_cat _ _) (cs_c (eV_cat _ _) cs_n)) (by decide)) dX5_workOutArgs_35 ⟨Nat.le_of_ble_eq_true rfl, Nat.le_of_ble_eq_true rfl⟩ hK hP hD hS hA hG (fun E ce q9 u_19 H locs hw hP hD hS hce hcv hcl => ?_) (fun v9 u_19 H locs hw hP hD hS => ?_)
          · exact hw.elim
          obtain ⟨r_18, rfl, rfl, hr_18, fs_r_18⟩ := hw
          have hP : va_P (dC, dI) vwCl (cW ad cid a2 lx sg_j2 gm_j2 lg) H := hP
          have hD : va_D A (cW ad cid a2 lx sg_j2 gm_j2 lg) := hD
          refine W.eq (g2 := F0 m 38 ls [.int r_18, eV (ad 9) z_16, eV (ad 6) x]) rfl ?_
          refine lv_iload_n hx hb dX5_workOutArgs_38 rfl (lv_at hl 3 rfl) ?_
          refine cm_callV (t := 6) (C := RX5) (T := TX5) (N := 13) (rest := []) (as := [eV (ad 9) z_16, .int r_18, .int dp]) ⟨hx, hb, hml, hown, htb⟩ (d_workOut9 l dC dI ad cid a2 lx sg_j2 gm_j2 lg hl9 n9 HO HM x z_16 r_18 dp wg ws Sj hI_j2 hsx0_2 h_17 hr_18 hsx2_2 (WRD_e hW (hks_j2 4 (by decide)) (hks_j2 12 (by decide)) (hkg_j2 14 (by decide)) (hkg_j2 15 (by decide)) (hkg_j2 16 (by decide)) (hkg_j2 17 (by decide)) (hkg_j2 19 (by decide)) (hkg_j2 20 (by decide)) (hkg_j2 22 (by decide)) (hkg_j2 25 (by decide)) (hkg_j2 26 (by decide)) (hkg_j2 27 (by decide)) (hkg_j2 29 (by decide)) (hkg_j2 41 (by decide)) (hkg_j2 44 (by decide)) (hkg_j2 45 (by decide)) (hkg_j2 46 (by decide)) (hkg_j2 57 (by decide)) rfl rfl) (LDI_e hLD (hkg_j2 41 (by decide)) (hkg_j2 42 (by decide)) (hkg_j2 57 (by decide))) hMOj hFNj (CTO_k (show CTO sg gm lg z_16 from (by rw [ez_16]; exact hct_r_13.1)) (hks_j2 4 (by decide)) (hks_j2 12 (by decide)) (hkg_j2 14 (by decide)) (hkg_j2 25 (by decide)) (hkg_j2 27 (by decide)) rfl) (by have q1 := fs_r_18; have := i32_0; have := i32_1; have := i32_2; have := i32_m1; have := (hsx0_2).1; have := (hsx0_2).2; have := (hsx1_2).1; have := (hsx1_2).2; have := (hsx2_2).1; have := (hsx2_2).2; have := (h_12).1; have := (h_12).2; have := (hq_1).1; have := (hq_1).2; have := (h_9).1; have := (h_9).2; have := (hr_13).1; have := (hr_13).2; have := (h_17).1; have := (h_17).2; have := (hr_18).1; have := (hr_18).2; omega) (by have := i32_0; have := i32_1; have := i32_2; have := i32_m1; have := (hsx0_2).1; have := (hsx0_2).2; have := (hsx1_2).1; have := (hsx1_2).2; have := (hsx2_2).1; have := (hsx2_2).2; have := (h_12).1; have := (h_12).2; have := (hq_1).1; have := (hq_1).2; have := (h_9).1; have := (h_9).2; have := (hr_13).1; have := (hr_13).2; have := (h_17).1; have := (h_17).2; have := (hr_18).1; have := (hr_18).2; omega) ((st9_ks (L := [37, 38, 39, 48, 49, 50, 51, 52, 53]) (KS_tr (L := [37, 38, 39, 48, 49, 50, 51, 52, 53]) KS_rf hkg_j2 (by decide)) (by decide)).trans hSW) ((ss9_ks (L := [13, 14, 15, 16, 17, 18]) (KS_tr (L := [13, 14, 15, 16, 17, 18]) KS_rf hks_j2 (by decide)) rfl rfl).trans hSS) hSV hRj) (cwV 3 htb (gd_V kw_910 kw_911 kw_53 kw_159 kw_1534) rfl rfl rfl (by decide +kernel) ⟨(show 26 + 8 * n9 + 1 ≤ 27 + 8 * n9 from by omega), (show 8 + (6 + 11) + (760 + 260 * n9) ≤ 800 + 260 * n9 from by omega)⟩) hsx0_2 (by decide) (by decide) rfl rfl hl.1 rfl (Nat.le_trans cs_n (by decide)) dX5_workOutArgs_39 ⟨Nat.le_of_ble_eq_true rfl, Nat.le_of_ble_eq_true rfl⟩ hK hP hD hS hA hG (fun E ce q9 u_22 H locs hw hP hD hS hce hcv hcl => ?_) (fun v9 u_22 H locs hw hP hD hS => ?_)
          · obtain ⟨hE, hw⟩ := hw
            obtain ⟨sgv_23, gmv_23, lgv_23, rfl, hIv_23, ksv_23, kgv_23, klv_23, xMO_v_23, xFN_v_23, xW_v_23⟩ := hw
            obtain rfl := KS_nil klv_23
            have hP : va_P (dC, dI) vwCl (cW ad cid a2 lx sgv_23 gmv_23 lg) H := hP
            have hD : va_D A (cW ad cid a2 lx sgv_23 gmv_23 lg) := hD
            exact vx_out (fun x hx9 => (hxt x hx9).elim) hlocks hce hcv hcl (fun t ht hal => ⟨⟨(sgv_23, gmv_23, lg), ⟨hE, sgv_23, gmv_23, lg, rfl, hIv_23, (KS_tr (L := [13, 14, 15, 16, 17, 18]) (KS_tr (L := [13, 14, 15, 16, 17, 18]) KS_rf hks_j2 (by decide)) ksv_23 (by decide)), (KS_tr (L := [37, 38, 39, 48, 49, 50, 51, 52, 53]) (KS_tr (L := [37, 38, 39, 48, 49, 50, 51, 52, 53]) KS_rf hkg_j2 (by decide)) kgv_23 (by decide)), KS_rf, (xMO_v_23), (xFN_v_23), ((by obtain ⟨S2, h1, h2⟩ := xW_v_23; exact ⟨S2, oArs_x hIj (show (liL wg (3 * b.toNatClampNeg + 0))[x3_2.toNatClampNeg]? = some r_13.toNatClampNeg from (by rw [liL_g (by rw [show wg 41 (3 * b.toNatClampNeg + 0) = gm 41 (3 * b.toNatClampNeg + 0) from sw9 hSW 41 rfl _]; exact hai_r_13), show wg 57 (128 * (3 * b.toNatClampNeg + 0) + x3_2.toNatClampNeg) = r_13 from (by rw [sw9 hSW 57 rfl]; exact fa_r_13.symm)])) (show ctE wg r_13.toNatClampNeg = z_16.toNatClampNeg from (by unfold ctE; rw [(swt9 hSW ez_16 rfl)])) h1, h2⟩))⟩, by rw [ht]; exact hP, va_K.moved hal hK, hD⟩, hS.F ht⟩) hS.2.2 (Nat.le_of_ble_eq_true rfl) (Nat.le_of_ble_eq_true rfl)
          obtain ⟨rfl, sgv_24, gmv_24, lgv_24, rfl, hIv_24, ksv_24, kgv_24, klv_24, fMO_r_21, fFN_r_21, fBM_r_21, fWF_r_21, fWO_r_21, f14_r_21, fW_r_21⟩ := hw
          obtain rfl := KS_nil klv_24
          have hP : va_P (dC, dI) vwCl (cW ad cid a2 lx sgv_24 gmv_24 lg) H := hP
          have hD : va_D A (cW ad cid a2 lx sgv_24 gmv_24 lg) := hD
          refine W.eq (g2 := F0 m 42 ls []) rfl ?_
          have bm_r_21 := BMK_t hBMj fBM_r_21
          have wf_r_21 : WFR (24 * dp.toNatClampNeg) gm gmv_24 := WFR_t hWFj fWF_r_21 (by have q1 := fs_r_18; have q3 : r_18.toNatClampNeg = r_18.toInt.toNat := rfl; have qd : dp.toNatClampNeg = dp.toInt.toNat := rfl; have := i32_0; have := i32_1; have := i32_2; have := i32_m1; have := (hsx0_2).1; have := (hsx0_2).2; have := (hsx1_2).1; have := (hsx1_2).2; have := (hsx2_2).1; have := (hsx2_2).2; have := (h_12).1; have := (h_12).2; have := (hq_1).1; have := (hq_1).2; have := (h_9).1; have := (h_9).2; have := (hr_13).1; have := (hr_13).2; have := (h_17).1; have := (h_17).2; have := (hr_18).1; have := (hr_18).2; omega)
          obtain ⟨V_r_21, S_r_21, hE_r_21, hR_r_21, hv_r_21, hw_r_21, hn_r_21, h6_r_21⟩ := fW_r_21
          have m14_r_21 : (sg 14).toInt ≤ (sgv_24 14).toInt := Int.le_trans h14j f14_r_21
          obtain ⟨z_25, ez_25⟩ : ∃ z : Int32, z = x3_2 + 1 := ⟨_, rfl⟩
          have hz_25 : iv 1 4 z_25 := iv_of ez_25 (iv_add h_12 (iv_k (by decide) : iv 1 1 1) (by decide))
          have tz_25 : z_25.toInt = x3_2.toInt + 1 := by rw [ez_25]; exact iv_addE h_12 (iv_k (by decide) : iv 1 1 1) (by decide)
          refine lv_iinc (v := z_25) (lv' := [(3, .int z_25), (0, eV (ad 6) x), (1, eV (ad 10) b), (2, .int dp)]) hx hb dX5_workOutArgs_42 hl (k := 0) rfl ez_25.symm (by decide) rfl (fun ls hl => ?_)
          refine lv_goto (tgt := 2) hx hb dX5_workOutArgs_45 (by decide) ?_
          exact ih2 _ (by rw [← hn2]; exact (iv_meas tz_25 h_12 (by decide))) sgv_24 gmv_24 z_25 rfl (iv_w hz_25 (by decide)) hsx0_2 hsx1_2 hsx2_2 (KS_tr (L := [13, 14, 15, 16, 17, 18]) (KS_tr (L := [13, 14, 15, 16, 17, 18]) KS_rf hks_j2 (by decide)) ksv_24 (by decide)) (KS_tr (L := [37, 38, 39, 48, 49, 50, 51, 52, 53]) (KS_tr (L := [37, 38, 39, 48, 49, 50, 51, 52, 53]) KS_rf hkg_j2 (by decide)) kgv_24 (by decide)) hIv_24 (fMO_r_21) (fFN_r_21) (bm_r_21) (wf_r_21) ((by have q7 : z_25.toNatClampNeg = x3_2.toNatClampNeg + 1 := (by have q1 : z_25.toNatClampNeg = z_25.toInt.toNat := rfl; have q1 : x3_2.toNatClampNeg = x3_2.toInt.toNat := rfl; have := i32_0; have := i32_1; have := i32_2; have := i32_m1; have := (hsx0_2).1; have := (hsx0_2).2; have := (hsx1_2).1; have := (hsx1_2).2; have := (hsx2_2).1; have := (hsx2_2).2; have := (h_12).1; have := (h_12).2; have := (hq_1).1; have := (hq_1).2; have := (h_9).1; have := (h_9).2; have := (hr_13).1; have := (hr_13).2; have := (h_17).1; have := (h_17).2; have := (hr_18).1; have := (hr_18).2; have := (hz_25).1; have := (hz_25).2; omega); have q6 : r_18.toNatClampNeg = 24 * dp.toNatClampNeg + 6 * x3_2.toNatClampNeg := (by have q1 := fs_r_18; have qd : dp.toNatClampNeg = dp.toInt.toNat := rfl; have q1 : x3_2.toNatClampNeg = x3_2.toInt.toNat := rfl; have q1 : r_18.toNatClampNeg = r_18.toInt.toNat := rfl; have := i32_0; have := i32_1; have := i32_2; have := i32_m1; have := (hsx0_2).1; have := (hsx0_2).2; have := (hsx1_2).1; have := (hsx1_2).2; have := (hsx2_2).1; have := (hsx2_2).2; have := (h_12).1; have := (h_12).2; have := (hq_1).1; have := (hq_1).2; have := (h_9).1; have := (h_9).2; have := (hr_13).1; have := (hr_13).2; have := (h_17).1; have := (h_17).2; have := (hr_18).1; have := (hr_18).2; have := (hz_25).1; have := (hz_25).2; omega); rw [q7]; have f9 := fWF_r_21; have f8 := fWO_r_21; rw [q6] at f9 f8; refine WKD_s hWKj f9 (show gmv_24 25 = gm_j2 25 from (kgv_24 25 (by decide))) (show gmv_24 26 = gm_j2 26 from (kgv_24 26 (by decide))) (show gmv_24 41 = gm_j2 41 from (kgv_24 41 (by decide))) (show gmv_24 57 = gm_j2 57 from (kgv_24 57 (by decide))) ?_; rw [(show gm_j2 25 = gm 25 from hkg_j2 25 (by decide)), (show gm_j2 26 = gm 26 from hkg_j2 26 (by decide)), (show gm_j2 57 = gm 57 from hkg_j2 57 (by decide)), ← fa_r_13, ← ez_16]; rw [(show gm_j2 25 = gm 25 from hkg_j2 25 (by decide))] at f8; exact f8)) (m14_r_21) (⟨acc9 ++ [V_r_21], S_r_21, hR_r_21, oArs_st hIj (show (liL wg (3 * b.toNatClampNeg + 0))[x3_2.toNatClampNeg]? = some r_13.toNatClampNeg from (by rw [liL_g (by rw [show wg 41 (3 * b.toNatClampNeg + 0) = gm 41 (3 * b.toNatClampNeg + 0) from sw9 hSW 41 rfl _]; exact hai_r_13), show wg 57 (128 * (3 * b.toNatClampNeg + 0) + x3_2.toNatClampNeg) = r_13 from (by rw [sw9 hSW 57 rfl]; exact fa_r_13.symm)])) (show ctE wg r_13.toNatClampNeg = z_16.toNatClampNeg from (by unfold ctE; rw [(swt9 hSW ez_16 rfl)])) hE_r_21 (h_12).1 tz_25, (by rw [show z_25.toNatClampNeg = x3_2.toNatClampNeg + 1 from (by have q1 : z_25.toNatClampNeg = z_25.toInt.toNat := rfl; have q1 : x3_2.toNatClampNeg = x3_2.toInt.toNat := rfl; have := i32_0; have := i32_1; have := i32_2; have := i32_m1; have := (hsx0_2).1; have := (hsx0_2).2; have := (hsx1_2).1; have := (hsx1_2).2; have := (hsx2_2).1; have := (hsx2_2).2; have := (h_12).1; have := (h_12).2; have := (hq_1).1; have := (hq_1).2; have := (h_9).1; have := (h_9).2; have := (hr_13).1; have := (hr_13).2; have := (h_17).1; have := (h_17).2; have := (hr_18).1; have := (hr_18).2; have := (hz_25).1; have := (hz_25).2; omega)]; exact VAn_s hVj (RC_le hRj hR_r_21 f14_r_21) fWF_r_21 (show r_18.toNatClampNeg = 24 * dp.toNatClampNeg + 6 * x3_2.toNatClampNeg from (by have q1 := fs_r_18; have qd : dp.toNatClampNeg = dp.toInt.toNat := rfl; have q1 : x3_2.toNatClampNeg = x3_2.toInt.toNat := rfl; have q1 : r_18.toNatClampNeg = r_18.toInt.toNat := rfl; have := i32_0; have := i32_1; have := i32_2; have := i32_m1; have := (hsx0_2).1; have := (hsx0_2).2; have := (hsx1_2).1; have := (hsx1_2).2; have := (hsx2_2).1; have := (hsx2_2).2; have := (h_12).1; have := (h_12).2; have := (hq_1).1; have := (hq_1).2; have := (h_9).1; have := (h_9).2; have := (hr_13).1; have := (hr_13).2; have := (h_17).1; have := (h_17).2; have := (hr_18).1; have := (hr_18).2; have := (hz_25).1; have := (hz_25).2; omega)) (show ctE wg (wg 57 (128 * (3 * b.toNatClampNeg) + x3_2.toNatClampNeg)).toNatClampNeg = z_16.toNatClampNeg from (by rw [show wg 57 (128 * (3 * b.toNatClampNeg) + x3_2.toNatClampNeg) = r_13 from (by rw [sw9 hSW 57 rfl]; exact fa_r_13.symm)]; exact (show ctE wg r_13.toNatClampNeg = z_16.toNatClampNeg from (by unfold ctE; rw [(swt9 hSW ez_16 rfl)])))) hv_r_21 hw_r_21 hn_r_21 h6_r_21)⟩) _ _ _ hP hD hS (lv_sub hl [0, 1, 2, 3] rfl)
  refine lv_iconst (v := 0) hx hb dX5_workOutArgs_0 (by decide) ?_
  refine lv_istore_n (i := 3) (lv' := [(3, .int 0), (0, eV (ad 6) x), (1, eV (ad 10) b), (2, .int dp)]) hx hb dX5_workOutArgs_1 rfl hl (by decide) rfl (fun ls hl => ?_)
  exact hj2 _ sg gm 0 rfl (iv_w (iv_k (by decide) : iv 0 0 0) (by decide)) hvx hvb hvdp KS_rf KS_rf hI (hMO) (hFN) (BMK_rf) (WFR_rf) (fun j9 q9 _ => absurd q9 (Nat.not_lt_zero _)) ((Int.le_refl _)) (⟨[], S, hRC, rfl, VAn_0⟩) _ _ _ hP hD hS (lv_sub hl [0, 1, 2, 3] rfl)
end
section
set_option maxHeartbeats 4000000 in
set_option maxRecDepth 100000 in
theorem d_applySets9 (l : Launch) (dC : Nat → ClassId) (dI : Nat → Nat → Nat) (ad : Nat → Nat → Nat) (cid : Nat → ClassId) (a2 : Nat → Nat) (lx : List Nat) (sg : Nat → Int32) (gm : Nat → Nat → Int32) (lg : Nat → Nat → Int64) (hl9 : l.stackTraces = false) (n9 : Nat) (HO : PO9 l dC dI ad cid a2 lx n9) (HM : PM9 l dC dI ad cid a2 lx n9) (x : Int32) (b : Int32) (dp : Int32) (wg : Nat → Nat → Int32) (ws : Nat → Int32) (S : S9) (o9 : Int) (hI : CI sg gm) (hvx : iv 0 0 x) (hvb : iv 0 79 b) (hvdp : iv 0 39 dp) (hW : WRD sg gm lg) (hLD : LDI lx gm) (hMO : MOK sg gm lg) (hFN : FND9 sg gm) (hb12 : b.toInt < (sg 12).toInt) (h37 : ¬ gm 37 b.toNatClampNeg = 0) (h39 : 0 ≤ (gm 39 b.toNatClampNeg).toInt) (hdp : dp.toInt + ((n9 + 1 : Nat) : Int) = 40) (hSW : st9 gm = wg) (hSS : ss9 sg = ws) (hSV : SV ws wg lg) (hRC : RC wg lg S sg gm) (h39o : (gm 39 b.toNatClampNeg).toInt = o9) (h14o : o9 < (sg 14).toInt) : CMt dC dI ad cid a2 lx l yX5_applySets wm_X5_applySets ({ frames := 27 + 8 * n9, cells := 1, slots := 6, locals := 800 + 260 * n9 }) [eV (ad 6) x, eV (ad 10) b, .int dp] sg gm lg (fun v u => v = none ∧ ∃ (sg2 : Nat → Int32) (gm2 : Nat → Nat → Int32) (lg2 : Nat → Nat → Int64), u = (sg2, gm2, lg2) ∧ CI sg2 gm2 ∧ KS [13, 14, 15, 16, 17, 18] sg sg2 ∧ KS [37, 38, 39, 48, 49, 50, 51, 52, 53] gm gm2 ∧ KS [] lg lg2 ∧ (MOK sg2 gm2 lg2) ∧ (FND9 sg2 gm2) ∧ (BMK gm gm2) ∧ (WFR (24 * dp.toNatClampNeg) gm gm2) ∧ ((sg 14).toInt ≤ (sg2 14).toInt) ∧ (∃ S2, oSts ws wg lg (oMK ws wg lg n9) o9 (liL wg (3 * b.toNatClampNeg + 1)) S = (some 0, S2) ∧ RC wg lg S2 sg2 gm2)) (fun E u => (E = "java/lang/UnsupportedOperationException") ∧ ∃ (sg2 : Nat → Int32) (gm2 : Nat → Nat → Int32) (lg2 : Nat → Nat → Int64), u = (sg2, gm2, lg2) ∧ CI sg2 gm2 ∧ KS [13, 14, 15, 16, 17, 18] sg sg2 ∧ KS [37, 38, 39, 48, 49, 50, 51, 52, 53] gm gm2 ∧ KS [] lg lg2 ∧ (MOK sg2 gm2 lg2) ∧ (FND9 sg2 gm2) ∧ (∃ S2, oSts ws wg lg (oMK ws wg lg n9) o9 (liL wg (3 * b.toNatClampNeg + 1)) S = (none, S2) ∧ RC wg lg S2 sg2 gm2)) := by
  intro sz
  refine vx_ofW (cc := cX5_applySets) (maxL := 8) (ret := none) (by decide) rfl ?_
  intro p e s m args below meth c s₁ B hml hxt hv
  obtain ⟨rfl, hsz, hP, hK, hD0, hG⟩ := hv
  have hx := B.exec
  have hb := B.bytes
  have hr := B.returns
  have hts := atoms_spec (ws := wm_X5_applySets) B.pre
  have htb := fun (w : Cond) (h : w ∈ tb) => hts w (List.mem_cons_of_mem _ h)
  have hown : s.vm.findClass RX5 = some m.cls := findClass_of_methodNamed B.named
  have hlocks := B.notSynchronized
  subst hsz
  have hD := hD0.self (sz := s.heap.size)
  generalize hAe : va_A (cW ad cid a2 lx sg gm lg) s.heap.size = A at hD hG ⊢
  have hA : ∀ q : Nat, s.heap.size ≤ q → A q := fun q h => by rw [← hAe]; exact Or.inr h
  have hS : va_S A s.heap s.heap [] := va_S.rf
  have hl := lv_entry ([eV (ad 6) x, eV (ad 10) b, .int dp]) (n := 8) (by rw [show (lg_sl ([eV (ad 6) x, eV (ad 10) b, .int dp])).length = 3 from by simp [lg_sl, eV_cat, cat_i, cat_l]]; exact Nat.le_of_ble_eq_true rfl)
  rw [lg_entry_eq]
  generalize (lg_sl ([eV (ad 6) x, eV (ad 10) b, .int dp]) ++ List.replicate (8 - (lg_sl ([eV (ad 6) x, eV (ad 10) b, .int dp])).length) Slot.unset).toArray = ls at hl ⊢
  have hl : lv_has ls 8 [(0, eV (ad 6) x), (1, eV (ad 10) b), (2, .int dp)] := by simp [lv_args, eV_cat, cat_i, cat_l] at hl; exact hl
  have hj15 : ∀ (n : Nat) (sg_j15 : Nat → Int32) (gm_j15 : Nat → Nat → Int32) (x5_15 : Int32) (x4_15 : Int32) (x3_15 : Int32) (_ : (80 - x5_15.toInt).toNat = n) (_ : iv 0 80 x5_15) (_ : iv 0 954 x4_15) (_ : iv 0 59 x3_15) (_ : iv 0 0 x) (_ : iv 0 79 b) (_ : iv 0 39 dp) (_ : KS [13, 14, 15, 16, 17, 18] sg sg_j15) (_ : KS [37, 38, 39, 48, 49, 50, 51, 52, 53] gm gm_j15) (_ : CI sg_j15 gm_j15) (_ : MOK sg_j15 gm_j15 lg) (_ : FND9 sg_j15 gm_j15) (_ : BMK gm gm_j15) (_ : WFR (24 * dp.toNatClampNeg) gm gm_j15) (_ : x4_15.toInt = 24 * dp.toInt) (_ : (sg 14).toInt ≤ (sg_j15 14).toInt) (_ : x3_15.toInt = o9) (_ : ∃ S2, RC wg lg S2 sg_j15 gm_j15 ∧ oSts ws wg lg (oMK ws wg lg n9) o9 (liL wg (3 * b.toNatClampNeg + 1)) S = oSts ws wg lg (oMK ws wg lg n9) o9 ((liL wg (3 * b.toNatClampNeg + 1)).drop x5_15.toNatClampNeg) S2) (H : Heap) (locs : List Loc) (ls : Array Slot), va_P (dC, dI) vwCl (cW ad cid a2 lx sg_j15 gm_j15 lg) H → va_D A (cW ad cid a2 lx sg_j15 gm_j15 lg) → va_S A s.heap H locs → lv_has ls 8 [(5, .int x5_15), (4, .int x4_15), (3, .int x3_15), (0, eV (ad 6) x), (1, eV (ad 10) b), (2, .int dp)] → W p l e (headSpec wm_X5_applySets ({ frames := 27 + 8 * n9, cells := 1, slots := 6, locals := 800 + 260 * n9 })).room s m ([eV (ad 6) x, eV (ad 10) b, .int dp] : List Value).toArray below meth c H locs 0 0 (vx_MQ below (cQx dC dI ad cid a2 lx (fun v u => v = none ∧ ∃ (sg2 : Nat → Int32) (gm2 : Nat → Nat → Int32) (lg2 : Nat → Nat → Int64), u = (sg2, gm2, lg2) ∧ CI sg2 gm2 ∧ KS [13, 14, 15, 16, 17, 18] sg sg2 ∧ KS [37, 38, 39, 48, 49, 50, 51, 52, 53] gm gm2 ∧ KS [] lg lg2 ∧ (MOK sg2 gm2 lg2) ∧ (FND9 sg2 gm2) ∧ (BMK gm gm2) ∧ (WFR (24 * dp.toNatClampNeg) gm gm2) ∧ ((sg 14).toInt ≤ (sg2 14).toInt) ∧ (∃ S2, oSts ws wg lg (oMK ws wg lg n9) o9 (liL wg (3 * b.toNatClampNeg + 1)) S = (some 0, S2) ∧ RC wg lg S2 sg2 gm2)) A) (cX dC dI ad cid a2 lx (fun E u => (E = "java/lang/UnsupportedOperationException") ∧ ∃ (sg2 : Nat → Int32) (gm2 : Nat → Nat → Int32) (lg2 : Nat → Nat → Int64), u = (sg2, gm2, lg2) ∧ CI sg2 gm2 ∧ KS [13, 14, 15, 16, 17, 18] sg sg2 ∧ KS [37, 38, 39, 48, 49, 50, 51, 52, 53] gm gm2 ∧ KS [] lg lg2 ∧ (MOK sg2 gm2 lg2) ∧ (FND9 sg2 gm2) ∧ (∃ S2, oSts ws wg lg (oMK ws wg lg n9) o9 (liL wg (3 * b.toNatClampNeg + 1)) S = (none, S2) ∧ RC wg lg S2 sg2 gm2)) A) ([eV (ad 6) x, eV (ad 10) b, .int dp] : List Value).toArray s 1 6 A) (F0 m 15 ls []) := by
    intro n
    induction n using Nat.strongRecOn with
    | ind n ih15 =>
      intro sg_j15 gm_j15 x5_15 x4_15 x3_15 hn15 hx5_15 hx4_15 hx3_15 hsx0_15 hsx1_15 hsx2_15 hks_j15 hkg_j15 hI_j15 hMOj hFNj hBMj hWFj h4s h14j h3o hST H locs ls hP hD hS hl
      obtain ⟨Sj, hRj, hIj⟩ := hST
      refine lv_iload hx hb dX5_applySets_15 (lv_at hl 0 rfl) ?_
      refine ec_aload_n hx hb dX5_applySets_17 rfl (lv_at hl 4 rfl) ?_
      obtain ⟨q_1, hq_1, nq_1, tq_1⟩ := ix_mk (3 * b.toNatClampNeg + 1) 239 (by have q1 := iv_cl hsx1_15 (by decide); have q2 := (hsx1_15).2; omega) (by decide)
      refine cr_get (t := 10) (j := 2) (C := RX1) (T := TX1) (N := 19) (v := eV (ad 11) q_1) hx hb htb inX1 hown hK hP hsx1_15 (by decide) (by decide) (by decide) rfl (by decide) (htb _ kw_354) (cV_c rfl hq_1.1 nq_1) dX5_applySets_18 ?_
      refine cm_callV (t := 11) (C := RJx4a65c) (T := TJx4a65c) (N := 3) (rest := [.int x5_15]) (as := []) ⟨hx, hb, hml, hown, htb⟩ (d_lsize l dC dI ad cid a2 lx sg_j15 gm_j15 lg q_1 hI_j15 hq_1) (cwV 0 htb (gd_V kw_905 kw_530 kw_531 kw_157 kw_1418) rfl rfl rfl (by decide +kernel) ⟨(show 0 + 1 ≤ 27 + 8 * n9 from by omega), (show 8 + (1 + 11) + (0) ≤ 800 + 260 * n9 from by omega)⟩) hq_1 (by decide) (by decide) rfl rfl hl.1 rfl (Nat.le_trans (cs_c (cat_i _) cs_n) (by decide)) dX5_applySets_21 ⟨Nat.le_of_ble_eq_true rfl, Nat.le_of_ble_eq_true rfl⟩ hK hP hD hS hA hG (fun E ce q9 u_3 H locs hw hP hD hS hce hcv hcl => ?_) (fun v9 u_3 H locs hw hP hD hS => ?_)
      · exact hw.elim
      obtain ⟨r_2, rfl, rfl, hr_2, fr_r_2⟩ := hw
      have hP : va_P (dC, dI) vwCl (cW ad cid a2 lx sg_j15 gm_j15 lg) H := hP
      have hD : va_D A (cW ad cid a2 lx sg_j15 gm_j15 lg) := hD
      refine W.eq (g2 := F0 m 24 ls [.int r_2, .int x5_15]) rfl ?_
      have fr_r_2 := fr_r_2.trans (congrFun (show gm_j15 41 = gm 41 from (hkg_j15 41 (by decide))) _)
      refine lv_icmp_ge (tgt := 137) hx hb dX5_applySets_24 (by decide) (fun c_5 => ?_) (fun c_5 => ?_)
      · have d_6 : (r_2 : Int32).toInt ≤ (x5_15 : Int32).toInt := Int32.le_iff_toInt_le.mp c_5
        exact W.nb (fun hN => W.widen (k := 1) (n := 6) (by decide) (by decide) (vx_ret (W.vret hx hb hr (fun t ht hW => ⟨⟨none, (sg_j15, gm_j15, lg), rfl, ⟨rfl, sg_j15, gm_j15, lg, rfl, hI_j15, (KS_tr (L := [13, 14, 15, 16, 17, 18]) KS_rf hks_j15 (by decide)), (KS_tr (L := [37, 38, 39, 48, 49, 50, 51, 52, 53]) KS_rf hkg_j15 (by decide)), KS_rf, (hMOj), (hFNj), (hBMj), (hWFj), (h14j), ((by have hn : (wg 41 (3 * b.toNatClampNeg + 1)).toNatClampNeg ≤ x5_15.toNatClampNeg := (by rw [sw9 hSW 41 rfl]; have q1 := congrArg Int32.toInt fr_r_2; rw [show q_1.toNatClampNeg = 3 * b.toNatClampNeg + 1 from nq_1] at q1; have q5 : (gm 41 (3 * b.toNatClampNeg + 1)).toNatClampNeg = (gm 41 (3 * b.toNatClampNeg + 1)).toInt.toNat := rfl; have q1 : x5_15.toNatClampNeg = x5_15.toInt.toNat := rfl; have := i32_0; have := i32_1; have := i32_2; have := i32_m1; have := (hsx0_15).1; have := (hsx0_15).2; have := (hsx1_15).1; have := (hsx1_15).2; have := (hsx2_15).1; have := (hsx2_15).2; have := (hx5_15).1; have := (hx5_15).2; have := (hx4_15).1; have := (hx4_15).2; have := (hx3_15).1; have := (hx3_15).2; have := (hq_1).1; have := (hq_1).2; have := (hr_2).1; have := (hr_2).2; omega); exact ⟨Sj, oSts_e hIj hn, hRj⟩))⟩, by rw [ht]; exact hP, va_K.moved hW.alike hK, hD⟩, hS.F ht, by rw [ht]; exact hN⟩) hS.2.2 dX5_applySets_137)))
      · have d_7 : (x5_15 : Int32).toInt < (r_2 : Int32).toInt := Int32.lt_iff_toInt_lt.mp (i32_lt c_5)
        have h_8 : iv 0 79 x5_15 := iv_ltL (i32_lt c_5) hx5_15 hr_2 (by decide)
        have h_9 : iv 1 80 r_2 := iv_ltR (i32_lt c_5) hx5_15 hr_2 (by decide)
        refine ec_aload_n hx hb dX5_applySets_27 rfl (lv_at hl 4 rfl) ?_
        refine cr_get (t := 10) (j := 2) (C := RX1) (T := TX1) (N := 19) (v := eV (ad 11) q_1) hx hb htb inX1 hown hK hP hsx1_15 (by decide) (by decide) (by decide) rfl (by decide) (htb _ kw_354) (cV_c rfl hq_1.1 nq_1) dX5_applySets_28 ?_
        refine lv_iload hx hb dX5_applySets_31 (lv_at hl 0 rfl) ?_
        refine cm_callV (t := 11) (C := RJx4a65c) (T := TJx4a65c) (N := 3) (rest := []) (as := [.int x5_15]) ⟨hx, hb, hml, hown, htb⟩ (d_lget l dC dI ad cid a2 lx sg_j15 gm_j15 lg q_1 x5_15 hI_j15 hq_1 (LDI_e hLD (hkg_j15 41 (by decide)) (hkg_j15 42 (by decide)) (hkg_j15 57 (by decide))) (by have := i32_0; have := i32_1; have := i32_2; have := i32_m1; have := (hsx0_15).1; have := (hsx0_15).2; have := (hsx1_15).1; have := (hsx1_15).2; have := (hsx2_15).1; have := (hsx2_15).2; have := (h_8).1; have := (h_8).2; have := (hx4_15).1; have := (hx4_15).2; have := (hx3_15).1; have := (hx3_15).2; have := (hq_1).1; have := (hq_1).2; have := (h_9).1; have := (h_9).2; omega) (by rw [show gm_j15 41 = gm 41 from (hkg_j15 41 (by decide)), ← fr_r_2]; have := i32_0; have := i32_1; have := i32_2; have := i32_m1; have := (hsx0_15).1; have := (hsx0_15).2; have := (hsx1_15).1; have := (hsx1_15).2; have := (hsx2_15).1; have := (hsx2_15).2; have := (h_8).1; have := (h_8).2; have := (hx4_15).1; have := (hx4_15).2; have := (hx3_15).1; have := (hx3_15).2; have := (hq_1).1; have := (hq_1).2; have := (h_9).1; have := (h_9).2; omega)) (cwV 1 htb (gd_V kw_906 kw_859 kw_860 kw_157 kw_1518) rfl rfl rfl (by decide +kernel) ⟨(show 2 + 1 ≤ 27 + 8 * n9 from by omega), (show 8 + (2 + 11) + (43) ≤ 800 + 260 * n9 from by omega)⟩) hq_1 (by decide) (by decide) rfl rfl hl.1 rfl (Nat.le_trans cs_n (by decide)) dX5_applySets_33 ⟨Nat.le_of_ble_eq_true rfl, Nat.le_of_ble_eq_true rfl⟩ hK hP hD hS hA hG (fun E ce q9 u_11 H locs hw hP hD hS hce hcv hcl => ?_) (fun v9 u_11 H locs hw hP hD hS => ?_)
        · exact hw.elim
        obtain ⟨r_10, rfl, rfl, hr_10, fr_r_10⟩ := hw
        have hP : va_P (dC, dI) vwCl (cW ad cid a2 lx sg_j15 gm_j15 lg) H := hP
        have hD : va_D A (cW ad cid a2 lx sg_j15 gm_j15 lg) := hD
        refine W.eq (g2 := F0 m 36 ls [eV (ad 9) r_10]) rfl ?_
        have fr_r_10 := fr_r_10.trans (congrFun (show gm_j15 57 = gm 57 from (hkg_j15 57 (by decide))) _)
        have fa_r_10 : r_10 = gm 57 (128 * (3 * b.toNatClampNeg + 1) + x5_15.toNatClampNeg) := by rw [fr_r_10, show q_1.toNatClampNeg = 3 * b.toNatClampNeg + 1 from nq_1]
        have hai_r_10 : x5_15.toNatClampNeg < (gm 41 (3 * b.toNatClampNeg + 1)).toNatClampNeg := (by have q1 := congrArg Int32.toInt fr_r_2; rw [show q_1.toNatClampNeg = 3 * b.toNatClampNeg + 1 from nq_1] at q1; have k9 : (gm 41 (3 * b.toNatClampNeg + 1)).toNatClampNeg = (gm 41 (3 * b.toNatClampNeg + 1)).toInt.toNat := rfl; have q1 : x5_15.toNatClampNeg = x5_15.toInt.toNat := rfl; have := i32_0; have := i32_1; have := i32_2; have := i32_m1; have := (hsx0_15).1; have := (hsx0_15).2; have := (hsx1_15).1; have := (hsx1_15).2; have := (hsx2_15).1; have := (hsx2_15).2; have := (h_8).1; have := (h_8).2; have := (hx4_15).1; have := (hx4_15).2; have := (hx3_15).1; have := (hx3_15).2; have := (hq_1).1; have := (hq_1).2; have := (h_9).1; have := (h_9).2; have := (hr_10).1; have := (hr_10).2; omega)
        have hct_r_10 := arg_in (k := 1) (w := 4) hI hW hLD (Or.inr ⟨rfl, rfl⟩) (lt_cl hvb (show iv 0 80 (sg 12) from CI_s hI 12) (by decide) (by decide) hb12) hai_r_10
        rw [← fa_r_10] at hct_r_10
        refine cl_cast hx hb hG hown (htb _ kw_907) hK hP hr_10 (by decide) dX5_applySets_36 ?_
        refine ec_astore (i := 6) (lv' := [(6, eV (ad 9) r_10), (5, .int x5_15), (4, .int x4_15), (3, .int x3_15), (0, eV (ad 6) x), (1, eV (ad 10) b), (2, .int dp)]) hx hb dX5_applySets_39 hl (by decide) rfl (fun ls hl => ?_)
        refine ec_aload_n hx hb dX5_applySets_41 rfl (lv_at hl 4 rfl) ?_
        refine ec_aload hx hb dX5_applySets_42 (lv_at hl 0 rfl) ?_
        refine cr_get (t := 9) (j := 19) (C := RX3) (T := TX3) (N := 21) (v := eV (ad 9) (gm_j15 26 r_10.toNatClampNeg)) hx hb htb inX3 hown hK hP hr_10 (by decide) (by decide) (by decide) rfl (by decide) (htb _ kw_293) rfl dX5_applySets_44 ?_
        obtain ⟨z_13, ez_13⟩ : ∃ z : Int32, z = (gm_j15 26 r_10.toNatClampNeg) := ⟨_, rfl⟩
        refine W.eq (g2 := F0 m 47 ls [eV (ad 9) z_13, eV (ad 6) x]) (by rw [ez_13]) ?_
        have hz_13 : iv (-1) 79 z_13 := iv_of ez_13 (CI_a hI_j15 26 hr_10 (by decide))
        have ez_13 := ez_13.trans (congrFun (hkg_j15 26 (by decide)) _)
        have h_14 : iv 0 79 z_13 := ⟨by rw [ez_13]; exact hct_r_10.1.1, (hz_13).2⟩
        refine lv_iload hx hb dX5_applySets_47 (lv_at hl 2 rfl) ?_
        refine lv_iload_n hx hb dX5_applySets_49 rfl (lv_at hl 6 rfl) ?_
        refine cm_callV (t := 6) (C := RX5) (T := TX5) (N := 13) (rest := []) (as := [eV (ad 9) z_13, .int x4_15, .int dp]) ⟨hx, hb, hml, hown, htb⟩ (d_workOut9 l dC dI ad cid a2 lx sg_j15 gm_j15 lg hl9 n9 HO HM x z_13 x4_15 dp wg ws Sj hI_j15 hsx0_15 h_14 hx4_15 hsx2_15 (WRD_e hW (hks_j15 4 (by decide)) (hks_j15 12 (by decide)) (hkg_j15 14 (by decide)) (hkg_j15 15 (by decide)) (hkg_j15 16 (by decide)) (hkg_j15 17 (by decide)) (hkg_j15 19 (by decide)) (hkg_j15 20 (by decide)) (hkg_j15 22 (by decide)) (hkg_j15 25 (by decide)) (hkg_j15 26 (by decide)) (hkg_j15 27 (by decide)) (hkg_j15 29 (by decide)) (hkg_j15 41 (by decide)) (hkg_j15 44 (by decide)) (hkg_j15 45 (by decide)) (hkg_j15 46 (by decide)) (hkg_j15 57 (by decide)) rfl rfl) (LDI_e hLD (hkg_j15 41 (by decide)) (hkg_j15 42 (by decide)) (hkg_j15 57 (by decide))) hMOj hFNj (CTO_k (show CTO sg gm lg z_13 from (by rw [ez_13]; exact hct_r_10.1)) (hks_j15 4 (by decide)) (hks_j15 12 (by decide)) (hkg_j15 14 (by decide)) (hkg_j15 25 (by decide)) (hkg_j15 27 (by decide)) rfl) (by have q1 := h4s; have := i32_0; have := i32_1; have := i32_2; have := i32_m1; have := (hsx0_15).1; have := (hsx0_15).2; have := (hsx1_15).1; have := (hsx1_15).2; have := (hsx2_15).1; have := (hsx2_15).2; have := (h_8).1; have := (h_8).2; have := (hx4_15).1; have := (hx4_15).2; have := (hx3_15).1; have := (hx3_15).2; have := (hq_1).1; have := (hq_1).2; have := (h_9).1; have := (h_9).2; have := (hr_10).1; have := (hr_10).2; have := (h_14).1; have := (h_14).2; omega) (by have := i32_0; have := i32_1; have := i32_2; have := i32_m1; have := (hsx0_15).1; have := (hsx0_15).2; have := (hsx1_15).1; have := (hsx1_15).2; have := (hsx2_15).1; have := (hsx2_15).2; have := (h_8).1; have := (h_8).2; have := (hx4_15).1; have := (hx4_15).2; have := (hx3_15).1; have := (hx3_15).2; have := (hq_1).1; have := (hq_1).2; have := (h_9).1; have := (h_9).2; have := (hr_10).1; have := (hr_10).2; have := (h_14).1; have := (h_14).2; omega) ((st9_ks (L := [37, 38, 39, 48, 49, 50, 51, 52, 53]) (KS_tr (L := [37, 38, 39, 48, 49, 50, 51, 52, 53]) KS_rf hkg_j15 (by decide)) (by decide)).trans hSW) ((ss9_ks (L := [13, 14, 15, 16, 17, 18]) (KS_tr (L := [13, 14, 15, 16, 17, 18]) KS_rf hks_j15 (by decide)) rfl rfl).trans hSS) hSV hRj) (cwV 3 htb (gd_V kw_910 kw_911 kw_53 kw_159 kw_1534) rfl rfl rfl (by decide +kernel) ⟨(show 26 + 8 * n9 + 1 ≤ 27 + 8 * n9 from by omega), (show 8 + (6 + 11) + (760 + 260 * n9) ≤ 800 + 260 * n9 from by omega)⟩) hsx0_15 (by decide) (by decide) rfl rfl hl.1 rfl (Nat.le_trans cs_n (by decide)) dX5_applySets_50 ⟨Nat.le_of_ble_eq_true rfl, Nat.le_of_ble_eq_true rfl⟩ hK hP hD hS hA hG (fun E ce q9 u_16 H locs hw hP hD hS hce hcv hcl => ?_) (fun v9 u_16 H locs hw hP hD hS => ?_)
        · obtain ⟨hE, hw⟩ := hw
          obtain ⟨sgv_17, gmv_17, lgv_17, rfl, hIv_17, ksv_17, kgv_17, klv_17, xMO_v_17, xFN_v_17, xW_v_17⟩ := hw
          obtain rfl := KS_nil klv_17
          have hP : va_P (dC, dI) vwCl (cW ad cid a2 lx sgv_17 gmv_17 lg) H := hP
          have hD : va_D A (cW ad cid a2 lx sgv_17 gmv_17 lg) := hD
          exact vx_out (fun x hx9 => (hxt x hx9).elim) hlocks hce hcv hcl (fun t ht hal => ⟨⟨(sgv_17, gmv_17, lg), ⟨hE, sgv_17, gmv_17, lg, rfl, hIv_17, (KS_tr (L := [13, 14, 15, 16, 17, 18]) (KS_tr (L := [13, 14, 15, 16, 17, 18]) KS_rf hks_j15 (by decide)) ksv_17 (by decide)), (KS_tr (L := [37, 38, 39, 48, 49, 50, 51, 52, 53]) (KS_tr (L := [37, 38, 39, 48, 49, 50, 51, 52, 53]) KS_rf hkg_j15 (by decide)) kgv_17 (by decide)), KS_rf, (xMO_v_17), (xFN_v_17), ((by obtain ⟨S2, h1, h2⟩ := xW_v_17; exact ⟨S2, oSts_x hIj (show (liL wg (3 * b.toNatClampNeg + 1))[x5_15.toNatClampNeg]? = some r_10.toNatClampNeg from (by rw [liL_g (by rw [show wg 41 (3 * b.toNatClampNeg + 1) = gm 41 (3 * b.toNatClampNeg + 1) from sw9 hSW 41 rfl _]; exact hai_r_10), show wg 57 (128 * (3 * b.toNatClampNeg + 1) + x5_15.toNatClampNeg) = r_10 from (by rw [sw9 hSW 57 rfl]; exact fa_r_10.symm)])) (show ctE wg r_10.toNatClampNeg = z_13.toNatClampNeg from (by unfold ctE; rw [(swt9 hSW ez_13 rfl)])) h1, h2⟩))⟩, by rw [ht]; exact hP, va_K.moved hal hK, hD⟩, hS.F ht⟩) hS.2.2 (Nat.le_of_ble_eq_true rfl) (Nat.le_of_ble_eq_true rfl)
        obtain ⟨rfl, sgv_18, gmv_18, lgv_18, rfl, hIv_18, ksv_18, kgv_18, klv_18, fMO_r_15, fFN_r_15, fBM_r_15, fWF_r_15, fWO_r_15, f14_r_15, fW_r_15⟩ := hw
        obtain rfl := KS_nil klv_18
        have hP : va_P (dC, dI) vwCl (cW ad cid a2 lx sgv_18 gmv_18 lg) H := hP
        have hD : va_D A (cW ad cid a2 lx sgv_18 gmv_18 lg) := hD
        refine W.eq (g2 := F0 m 53 ls []) rfl ?_
        have bm_r_15 := BMK_t hBMj fBM_r_15
        have wf_r_15 : WFR (24 * dp.toNatClampNeg) gm gmv_18 := WFR_t hWFj fWF_r_15 (by have q1 := h4s; have q3 : x4_15.toNatClampNeg = x4_15.toInt.toNat := rfl; have qd : dp.toNatClampNeg = dp.toInt.toNat := rfl; have := i32_0; have := i32_1; have := i32_2; have := i32_m1; have := (hsx0_15).1; have := (hsx0_15).2; have := (hsx1_15).1; have := (hsx1_15).2; have := (hsx2_15).1; have := (hsx2_15).2; have := (h_8).1; have := (h_8).2; have := (hx4_15).1; have := (hx4_15).2; have := (hx3_15).1; have := (hx3_15).2; have := (hq_1).1; have := (hq_1).2; have := (h_9).1; have := (h_9).2; have := (hr_10).1; have := (hr_10).2; have := (h_14).1; have := (h_14).2; omega)
        obtain ⟨V_r_15, S_r_15, hE_r_15, hR_r_15, hv_r_15, hw_r_15, hn_r_15, h6_r_15⟩ := fW_r_15
        have m14_r_15 : (sg 14).toInt ≤ (sgv_18 14).toInt := Int.le_trans h14j f14_r_15
        refine ec_aload_n hx hb dX5_applySets_53 rfl (lv_at hl 4 rfl) ?_
        refine cr_get (t := 6) (j := 1) (C := RX5) (T := TX5) (N := 13) (v := eV (ad 12) 0) hx hb htb inX5 hown hK hP hsx0_15 (by decide) (by decide) (by decide) rfl (by decide) (htb _ kw_405) (cV_c rfl (by decide) (by rw [show cMu 6 1 = 0 from rfl, Nat.zero_mul]; rfl)) dX5_applySets_54 ?_
        refine ec_aload_n hx hb dX5_applySets_57 rfl (lv_at hl 4 rfl) ?_
        refine cr_get (t := 6) (j := 3) (C := RX5) (T := TX5) (N := 13) (v := eV (ad 22) 0) hx hb htb inX5 hown hK hP hsx0_15 (by decide) (by decide) (by decide) rfl (by decide) (htb _ kw_407) (cV_c rfl (by decide) (by rw [show cMu 6 3 = 0 from rfl, Nat.zero_mul]; rfl)) dX5_applySets_58 ?_
        refine lv_iload_n hx hb dX5_applySets_61 rfl (lv_at hl 3 rfl) ?_
        refine cr_iald (t := 22) (z := (gmv_18 49 (x3_15 : Int32).toNatClampNeg)) hx hb hK hP (iv_k (by decide) : iv 0 0 0) (by decide) (by decide) (by decide) rfl rfl (show vp_in x3_15 (cLen 22) from (show vp_in x3_15 60 from (iv_in hx3_15 (by decide)))) rfl dX5_applySets_62 ?_
        obtain ⟨z_19, ez_19⟩ : ∃ z : Int32, z = (gmv_18 49 (x3_15 : Int32).toNatClampNeg) := ⟨_, rfl⟩
        refine W.eq (g2 := F0 m 63 ls [.int z_19, eV (ad 12) 0]) (by rw [ez_19]) ?_
        have hz_19 : iv 0 7 z_19 := iv_of ez_19 (CI_a hIv_18 49 hx3_15 (by decide))
        refine cr_aald (t := 12) (C := RX2) (v := eV (ad 7) z_19) hx hb hK hP (iv_k (by decide) : iv 0 0 0) (by decide) (by decide) (by decide) (by decide) (by decide) rfl (show vp_in z_19 (cLen 12) from (show vp_in z_19 8 from (iv_in hz_19 (by decide)))) (cAr_c (by decide) (hz_19).1 (by rw [show cAm 12 = 0 from rfl, Nat.zero_mul, show cAo 12 = 0 from rfl]; omega)) dX5_applySets_63 ?_
        refine ec_aload hx hb dX5_applySets_64 (lv_at hl 0 rfl) ?_
        refine cr_get (t := 9) (j := 15) (C := RX3) (T := TX3) (N := 21) (v := .int (gmv_18 22 r_10.toNatClampNeg)) hx hb htb inX3 hown hK hP hr_10 (by decide) (by decide) (by decide) rfl (by decide) (htb _ kw_281) rfl dX5_applySets_66 ?_
        obtain ⟨z_20, ez_20⟩ : ∃ z : Int32, z = (gmv_18 22 r_10.toNatClampNeg) := ⟨_, rfl⟩
        refine W.eq (g2 := F0 m 69 ls [.int z_20, eV (ad 7) z_19]) (by rw [ez_20]) ?_
        have hz_20 : iv (-1) 25 z_20 := iv_of ez_20 (CI_a hIv_18 22 hr_10 (by decide))
        have ez_20 := ez_20.trans (congrFun (Eq.trans (kgv_18 22 (by decide)) (hkg_j15 22 (by decide))) _)
        have h_21 : iv 0 25 z_20 := ⟨by rw [ez_20]; exact set_let hW hct_r_10.2.2.1 hct_r_10.2.2.2 hct_r_10.2.1, (hz_20).2⟩
        refine cm_callV (t := 7) (C := RX2) (T := TX2) (N := 8) (rest := []) (as := [.int z_20]) ⟨hx, hb, hml, hown, htb⟩ (d_setterType9 l dC dI ad cid a2 lx sgv_18 gmv_18 lg z_19 z_20 wg hIv_18 hz_19 h_21 ((st9_ks (L := [37, 38, 39, 48, 49, 50, 51, 52, 53]) (KS_tr (L := [37, 38, 39, 48, 49, 50, 51, 52, 53]) (KS_tr (L := [37, 38, 39, 48, 49, 50, 51, 52, 53]) KS_rf hkg_j15 (by decide)) kgv_18 (by decide)) (by decide)).trans hSW)) (cwV 1 htb (gd_V kw_960 kw_961 kw_962 kw_147 kw_1553) rfl rfl rfl (by decide +kernel) ⟨(show 0 + 1 ≤ 27 + 8 * n9 from by omega), (show 8 + (4 + 11) + (0) ≤ 800 + 260 * n9 from by omega)⟩) hz_19 (by decide) (by decide) rfl rfl hl.1 rfl (Nat.le_trans cs_n (by decide)) dX5_applySets_69 ⟨Nat.le_of_ble_eq_true rfl, Nat.le_of_ble_eq_true rfl⟩ hK hP hD hS hA hG (fun E ce q9 u_23 H locs hw hP hD hS hce hcv hcl => ?_) (fun v9 u_23 H locs hw hP hD hS => ?_)
        · exact hw.elim
        obtain ⟨r_22, rfl, rfl, hr_22, fS_r_22⟩ := hw
        have hP : va_P (dC, dI) vwCl (cW ad cid a2 lx sgv_18 gmv_18 lg) H := hP
        have hD : va_D A (cW ad cid a2 lx sgv_18 gmv_18 lg) := hD
        refine W.eq (g2 := F0 m 72 ls [.int r_22]) rfl ?_
        refine lv_istore (i := 7) (lv' := [(7, .int r_22), (6, eV (ad 9) r_10), (5, .int x5_15), (4, .int x4_15), (3, .int x3_15), (0, eV (ad 6) x), (1, eV (ad 10) b), (2, .int dp)]) hx hb dX5_applySets_72 hl (by decide) (by simp [List.filter, eV_cat, cat_i, cat_l]) (fun ls hl => ?_)
        refine lv_iload hx hb dX5_applySets_74 (lv_at hl 0 rfl) ?_
        refine lv_iconst (v := (-1)) hx hb dX5_applySets_76 (by decide) ?_
        refine lv_icmp_ne (tgt := 87) hx hb dX5_applySets_77 (by decide) (fun c_25 => ?_) (fun c_25 => ?_)
        · have h_26 : iv 0 15 r_22 := iv_neL c_25 hr_22 (by decide)
          refine ec_aload_n hx hb dX5_applySets_87 rfl (lv_at hl 5 rfl) ?_
          refine ec_aload hx hb dX5_applySets_88 (lv_at hl 1 rfl) ?_
          refine cr_get (t := 9) (j := 19) (C := RX3) (T := TX3) (N := 21) (v := eV (ad 9) (gmv_18 26 r_10.toNatClampNeg)) hx hb htb inX3 hown hK hP hr_10 (by decide) (by decide) (by decide) rfl (by decide) (htb _ kw_293) rfl dX5_applySets_90 ?_
          refine W.eq (g2 := F0 m 93 ls [eV (ad 9) z_13, eV (ad 6) x]) (by rw [show (gmv_18 26 r_10.toNatClampNeg) = z_13 from (Eq.trans (congrFun (Eq.trans (kgv_18 26 (by decide)) (hkg_j15 26 (by decide))) _) ez_13.symm)]) ?_
          refine lv_iload hx hb dX5_applySets_93 (lv_at hl 3 rfl) ?_
          refine lv_iload hx hb dX5_applySets_95 (lv_at hl 0 rfl) ?_
          refine cm_callV (t := 6) (C := RX5) (T := TX5) (N := 13) (rest := []) (as := [eV (ad 9) z_13, .int x4_15, .int r_22]) ⟨hx, hb, hml, hown, htb⟩ (d_weightOf9 l dC dI ad cid a2 lx sgv_18 gmv_18 lg x z_13 x4_15 r_22 wg S_r_15 V_r_15 hIv_18 hsx0_15 h_14 hx4_15 ((st9_ks (L := [37, 38, 39, 48, 49, 50, 51, 52, 53]) (KS_tr (L := [37, 38, 39, 48, 49, 50, 51, 52, 53]) (KS_tr (L := [37, 38, 39, 48, 49, 50, 51, 52, 53]) KS_rf hkg_j15 (by decide)) kgv_18 (by decide)) (by decide)).trans hSW) hR_r_15 (by rw [(show gmv_18 25 = gm 25 from (Eq.trans (kgv_18 25 (by decide)) (hkg_j15 25 (by decide)))), ez_13]; have := hct_r_10.1.2.2.1; omega) hv_r_15 (WVL_e hw_r_15 rfl)) (cwV 3 htb (gd_V kw_938 kw_939 kw_61 kw_159 kw_1544) rfl rfl rfl (by decide +kernel) ⟨(show 2 + 1 ≤ 27 + 8 * n9 from by omega), (show 8 + (4 + 11) + (46) ≤ 800 + 260 * n9 from by omega)⟩) hsx0_15 (by decide) (by decide) rfl rfl hl.1 rfl (Nat.le_trans cs_n (by decide)) dX5_applySets_97 ⟨Nat.le_of_ble_eq_true rfl, Nat.le_of_ble_eq_true rfl⟩ hK hP hD hS hA hG (fun E ce q9 u_28 H locs hw hP hD hS hce hcv hcl => ?_) (fun v9 u_28 H locs hw hP hD hS => ?_)
          · exact hw.elim
          obtain ⟨r_27, rfl, rfl, hr_27, fW_r_27⟩ := hw
          have hP : va_P (dC, dI) vwCl (cW ad cid a2 lx sgv_18 gmv_18 lg) H := hP
          have hD : va_D A (cW ad cid a2 lx sgv_18 gmv_18 lg) := hD
          refine W.eq (g2 := F0 m 100 ls [.int r_27]) rfl ?_
          refine lv_iconst (v := (-1)) hx hb dX5_applySets_100 (by decide) ?_
          refine lv_icmp_ne (tgt := 111) hx hb dX5_applySets_101 (by decide) (fun c_30 => ?_) (fun c_30 => ?_)
          · have h_31 : iv 0 14 r_27 := iv_neL c_30 hr_27 (by decide)
            refine ec_aload_n hx hb dX5_applySets_111 rfl (lv_at hl 5 rfl) ?_
            refine lv_iconst (v := 4) hx hb dX5_applySets_112 (by decide) ?_
            refine lv_iload_n hx hb dX5_applySets_113 rfl (lv_at hl 4 rfl) ?_
            refine ec_aload hx hb dX5_applySets_114 (lv_at hl 1 rfl) ?_
            refine cr_get (t := 9) (j := 15) (C := RX3) (T := TX3) (N := 21) (v := .int (gmv_18 22 r_10.toNatClampNeg)) hx hb htb inX3 hown hK hP hr_10 (by decide) (by decide) (by decide) rfl (by decide) (htb _ kw_281) rfl dX5_applySets_116 ?_
            refine W.eq (g2 := F0 m 119 ls [.int z_20, .int x3_15, .int 4, eV (ad 6) x]) (by rw [show (gmv_18 22 r_10.toNatClampNeg) = z_20 from (Eq.trans (congrFun (Eq.trans (kgv_18 22 (by decide)) (hkg_j15 22 (by decide))) _) ez_20.symm)]) ?_
            refine ec_aload hx hb dX5_applySets_119 (lv_at hl 1 rfl) ?_
            refine cr_get (t := 9) (j := 19) (C := RX3) (T := TX3) (N := 21) (v := eV (ad 9) (gmv_18 26 r_10.toNatClampNeg)) hx hb htb inX3 hown hK hP hr_10 (by decide) (by decide) (by decide) rfl (by decide) (htb _ kw_293) rfl dX5_applySets_121 ?_
            refine W.eq (g2 := F0 m 124 ls [eV (ad 9) z_13, .int z_20, .int x3_15, .int 4, eV (ad 6) x]) (by rw [show (gmv_18 26 r_10.toNatClampNeg) = z_13 from (Eq.trans (congrFun (Eq.trans (kgv_18 26 (by decide)) (hkg_j15 26 (by decide))) _) ez_13.symm)]) ?_
            refine lv_iload hx hb dX5_applySets_124 (lv_at hl 3 rfl) ?_
            refine lv_iload hx hb dX5_applySets_126 (lv_at hl 0 rfl) ?_
            refine cm_callV (t := 6) (C := RX5) (T := TX5) (N := 13) (rest := []) (as := [.int 4, .int x3_15, .int z_20, eV (ad 9) z_13, .int x4_15, .int r_22]) ⟨hx, hb, hml, hown, htb⟩ (d_tellValue9 l dC dI ad cid a2 lx sgv_18 gmv_18 lg x 4 x3_15 z_20 z_13 x4_15 r_22 wg S_r_15 V_r_15 hIv_18 hsx0_15 h_14 hx4_15 ((st9_ks (L := [37, 38, 39, 48, 49, 50, 51, 52, 53]) (KS_tr (L := [37, 38, 39, 48, 49, 50, 51, 52, 53]) (KS_tr (L := [37, 38, 39, 48, 49, 50, 51, 52, 53]) KS_rf hkg_j15 (by decide)) kgv_18 (by decide)) (by decide)).trans hSW) hR_r_15 (by rw [(show gmv_18 25 = gm 25 from (Eq.trans (kgv_18 25 (by decide)) (hkg_j15 25 (by decide)))), ez_13]; have := hct_r_10.1.2.2.1; omega) hv_r_15 (WVL_e hw_r_15 rfl) hn_r_15) (cwV 6 htb (gd_V kw_952 kw_953 kw_64 kw_159 kw_1549) rfl rfl rfl (by decide +kernel) ⟨(show 2 + 1 ≤ 27 + 8 * n9 from by omega), (show 8 + (8 + 11) + (44) ≤ 800 + 260 * n9 from by omega)⟩) hsx0_15 (by decide) (by decide) rfl rfl hl.1 rfl (Nat.le_trans cs_n (by decide)) dX5_applySets_128 ⟨Nat.le_of_ble_eq_true rfl, Nat.le_of_ble_eq_true rfl⟩ hK hP hD hS hA hG (fun E ce q9 u_33 H locs hw hP hD hS hce hcv hcl => ?_) (fun v9 u_33 H locs hw hP hD hS => ?_)
            · exact hw.elim
            obtain ⟨rfl, sgv_34, gmv_34, lgv_34, rfl, hIv_34, ksv_34, kgv_34, klv_34, fR_r_32⟩ := hw
            obtain rfl := KS_nil klv_34
            have hP : va_P (dC, dI) vwCl (cW ad cid a2 lx sgv_34 gmv_34 lg) H := hP
            have hD : va_D A (cW ad cid a2 lx sgv_34 gmv_34 lg) := hD
            refine W.eq (g2 := F0 m 131 ls []) rfl ?_
            obtain ⟨z_35, ez_35⟩ : ∃ z : Int32, z = x5_15 + 1 := ⟨_, rfl⟩
            have hz_35 : iv 1 80 z_35 := iv_of ez_35 (iv_add h_8 (iv_k (by decide) : iv 1 1 1) (by decide))
            have tz_35 : z_35.toInt = x5_15.toInt + 1 := by rw [ez_35]; exact iv_addE h_8 (iv_k (by decide) : iv 1 1 1) (by decide)
            refine lv_iinc (v := z_35) (lv' := [(5, .int z_35), (7, .int r_22), (6, eV (ad 9) r_10), (4, .int x4_15), (3, .int x3_15), (0, eV (ad 6) x), (1, eV (ad 10) b), (2, .int dp)]) hx hb dX5_applySets_131 hl (k := 2) rfl ez_35.symm (by decide) rfl (fun ls hl => ?_)
            refine lv_goto (tgt := 15) hx hb dX5_applySets_134 (by decide) ?_
            exact ih15 _ (by rw [← hn15]; exact (iv_meas tz_35 h_8 (by decide))) sgv_34 gmv_34 z_35 x4_15 x3_15 rfl (iv_w hz_35 (by decide)) hx4_15 hx3_15 hsx0_15 hsx1_15 hsx2_15 (KS_tr (L := [13, 14, 15, 16, 17, 18]) (KS_tr (L := [13, 14, 15, 16, 17, 18]) (KS_tr (L := [13, 14, 15, 16, 17, 18]) KS_rf hks_j15 (by decide)) ksv_18 (by decide)) ksv_34 (by decide)) (KS_tr (L := [37, 38, 39, 48, 49, 50, 51, 52, 53]) (KS_tr (L := [37, 38, 39, 48, 49, 50, 51, 52, 53]) (KS_tr (L := [37, 38, 39, 48, 49, 50, 51, 52, 53]) KS_rf hkg_j15 (by decide)) kgv_18 (by decide)) kgv_34 (by decide)) hIv_34 ((MOK_e fMO_r_15 (show sgv_34 12 = sgv_18 12 from (ksv_34 12 (by decide))) (show gmv_34 35 = gmv_18 35 from (kgv_34 35 (by decide))) (show gmv_34 38 = gmv_18 38 from (kgv_34 38 (by decide))) (show gmv_34 39 = gmv_18 39 from (kgv_34 39 (by decide))) rfl)) ((FND9_e fFN_r_15 (show sgv_34 15 = sgv_18 15 from (ksv_34 15 (by decide))) (show gmv_34 51 = gmv_18 51 from (kgv_34 51 (by decide))))) ((BMK_t bm_r_15 (BMK_e (show gmv_34 37 = gmv_18 37 from (kgv_34 37 (by decide))) (show gmv_34 39 = gmv_18 39 from (kgv_34 39 (by decide)))))) ((WFR_t wf_r_15 (WFR_e (d := 24 * dp.toNatClampNeg) (show gmv_34 52 = gmv_18 52 from (kgv_34 52 (by decide)))) (Nat.le_refl _))) (h4s) ((by rw [(show sgv_34 14 = sgv_18 14 from (ksv_34 14 (by decide)))]; exact m14_r_15)) (h3o) (⟨_, fR_r_32, (by have hs9 := oSe_s (show sgF wg (wg 22 r_10.toNatClampNeg).toNatClampNeg 8 (((zO S_r_15)[o9.toNat]?).getD (0, 0)).1 = r_22.toInt from (by rw [(swt9 hSW ez_20 rfl), ← h3o, (RC_cl (nb := x3_15) hR_r_15 (hx3_15).1 (by have q1 := f14_r_15; have q2 := h14j; have q3 := h14o; have := i32_0; have := i32_1; have := i32_2; have := i32_m1; have := (hsx0_15).1; have := (hsx0_15).2; have := (hsx1_15).1; have := (hsx1_15).2; have := (hsx2_15).1; have := (hsx2_15).2; have := (h_8).1; have := (h_8).2; have := (hx4_15).1; have := (hx4_15).2; have := (hx3_15).1; have := (hx3_15).2; have := (hq_1).1; have := (hq_1).2; have := (h_9).1; have := (h_9).2; have := (hr_10).1; have := (hr_10).2; have := (h_14).1; have := (h_14).2; have := (hz_19).1; have := (hz_19).2; have := (h_21).1; have := (h_21).2; have := (h_26).1; have := (h_26).2; have := (h_31).1; have := (h_31).2; have := (hz_35).1; have := (hz_35).2; omega)).1, ← ez_19]; exact fS_r_22.symm)) (by have := i32_0; have := i32_1; have := i32_2; have := i32_m1; have := (hsx0_15).1; have := (hsx0_15).2; have := (hsx1_15).1; have := (hsx1_15).2; have := (hsx2_15).1; have := (hsx2_15).2; have := (h_8).1; have := (h_8).2; have := (hx4_15).1; have := (hx4_15).2; have := (hx3_15).1; have := (hx3_15).2; have := (hq_1).1; have := (hq_1).2; have := (h_9).1; have := (h_9).2; have := (hr_10).1; have := (hr_10).2; have := (h_14).1; have := (h_14).2; have := (hz_19).1; have := (hz_19).2; have := (h_21).1; have := (h_21).2; have := (h_26).1; have := (h_26).2; have := (h_31).1; have := (h_31).2; have := (hz_35).1; have := (hz_35).2; omega) (show ctE wg r_10.toNatClampNeg = z_13.toNatClampNeg from (by unfold ctE; rw [(swt9 hSW ez_13 rfl)])) fW_r_27.symm (by have := i32_0; have := i32_1; have := i32_2; have := i32_m1; have := (hsx0_15).1; have := (hsx0_15).2; have := (hsx1_15).1; have := (hsx1_15).2; have := (hsx2_15).1; have := (hsx2_15).2; have := (h_8).1; have := (h_8).2; have := (hx4_15).1; have := (hx4_15).2; have := (hx3_15).1; have := (hx3_15).2; have := (hq_1).1; have := (hq_1).2; have := (h_9).1; have := (h_9).2; have := (hr_10).1; have := (hr_10).2; have := (h_14).1; have := (h_14).2; have := (hz_19).1; have := (hz_19).2; have := (h_21).1; have := (h_21).2; have := (h_26).1; have := (h_26).2; have := (h_31).1; have := (h_31).2; have := (hz_35).1; have := (hz_35).2; omega); rw [show (wg 22 r_10.toNatClampNeg).toInt = z_20.toInt from congrArg Int32.toInt (swt9 hSW ez_20 rfl), ← h3o] at hs9; exact oSts_st hIj (show (liL wg (3 * b.toNatClampNeg + 1))[x5_15.toNatClampNeg]? = some r_10.toNatClampNeg from (by rw [liL_g (by rw [show wg 41 (3 * b.toNatClampNeg + 1) = gm 41 (3 * b.toNatClampNeg + 1) from sw9 hSW 41 rfl _]; exact hai_r_10), show wg 57 (128 * (3 * b.toNatClampNeg + 1) + x5_15.toNatClampNeg) = r_10 from (by rw [sw9 hSW 57 rfl]; exact fa_r_10.symm)])) (show ctE wg r_10.toNatClampNeg = z_13.toNatClampNeg from (by unfold ctE; rw [(swt9 hSW ez_13 rfl)])) hE_r_15 (by rw [← h3o]; exact hs9) ((show iv 0 80 x5_15 from (iv_w h_8 (by decide)))).1 tz_35)⟩) _ _ _ hP hD hS (lv_sub hl [0, 3, 4, 5, 6, 7] rfl)
          · have h_36 : iv (-1) (-1) r_27 := iv_eq c_30 hr_27 (iv_k (by decide) : iv (-1) (-1) (-1)) (by decide)
            refine ec_aload_n hx hb dX5_applySets_104 rfl (lv_at hl 5 rfl) ?_
            refine lv_bipush (v := 8) hx hb dX5_applySets_105 (by decide) ?_
            refine cm_callV (t := 6) (C := RX5) (T := TX5) (N := 13) (rest := []) (as := [.int 8]) ⟨hx, hb, hml, hown, htb⟩ (d_failWith l dC dI ad cid a2 lx sgv_18 gmv_18 lg hl9 x 8 hIv_18 hsx0_15 (iv_w (iv_k (by decide) : iv 8 8 8) (by decide))) (cwV 1 htb (gd_V kw_899 kw_900 kw_50 kw_159 kw_1530) rfl rfl rfl (by decide +kernel) ⟨(show 6 + 1 ≤ 27 + 8 * n9 from by omega), (show 8 + (2 + 11) + (120) ≤ 800 + 260 * n9 from by omega)⟩) hsx0_15 (by decide) (by decide) rfl rfl hl.1 rfl (Nat.le_trans cs_n (by decide)) dX5_applySets_107 ⟨Nat.le_of_ble_eq_true rfl, Nat.le_of_ble_eq_true rfl⟩ hK hP hD hS hA hG (fun E ce q9 u_38 H locs hw hP hD hS hce hcv hcl => ?_) (fun v9 u_38 H locs hw hP hD hS => ?_)
            · obtain ⟨hE, hw⟩ := hw
              obtain ⟨sgv_39, gmv_39, lgv_39, rfl, hIv_39, ksv_39, kgv_39, klv_39⟩ := hw
              obtain rfl := KS_nil kgv_39
              obtain rfl := KS_nil klv_39
              have hP : va_P (dC, dI) vwCl (cW ad cid a2 lx sgv_39 gmv_18 lg) H := hP
              have hD : va_D A (cW ad cid a2 lx sgv_39 gmv_18 lg) := hD
              exact vx_out (fun x hx9 => (hxt x hx9).elim) hlocks hce hcv hcl (fun t ht hal => ⟨⟨(sgv_39, gmv_18, lg), ⟨hE, sgv_39, gmv_18, lg, rfl, hIv_39, (KS_tr (L := [13, 14, 15, 16, 17, 18]) (KS_tr (L := [13, 14, 15, 16, 17, 18]) (KS_tr (L := [13, 14, 15, 16, 17, 18]) KS_rf hks_j15 (by decide)) ksv_18 (by decide)) ksv_39 (by decide)), (KS_tr (L := [37, 38, 39, 48, 49, 50, 51, 52, 53]) (KS_tr (L := [37, 38, 39, 48, 49, 50, 51, 52, 53]) KS_rf hkg_j15 (by decide)) kgv_18 (by decide)), KS_rf, ((MOK_e fMO_r_15 (show sgv_39 12 = sgv_18 12 from (ksv_39 12 (by decide))) rfl rfl rfl rfl)), ((FND9_e fFN_r_15 (show sgv_39 15 = sgv_18 15 from (ksv_39 15 (by decide))) rfl)), (⟨S_r_15, oSts_y hIj (show (liL wg (3 * b.toNatClampNeg + 1))[x5_15.toNatClampNeg]? = some r_10.toNatClampNeg from (by rw [liL_g (by rw [show wg 41 (3 * b.toNatClampNeg + 1) = gm 41 (3 * b.toNatClampNeg + 1) from sw9 hSW 41 rfl _]; exact hai_r_10), show wg 57 (128 * (3 * b.toNatClampNeg + 1) + x5_15.toNatClampNeg) = r_10 from (by rw [sw9 hSW 57 rfl]; exact fa_r_10.symm)])) (show ctE wg r_10.toNatClampNeg = z_13.toNatClampNeg from (by unfold ctE; rw [(swt9 hSW ez_13 rfl)])) hE_r_15 (oSe_8 (show sgF wg (wg 22 r_10.toNatClampNeg).toNatClampNeg 8 (((zO S_r_15)[o9.toNat]?).getD (0, 0)).1 = r_22.toInt from (by rw [(swt9 hSW ez_20 rfl), ← h3o, (RC_cl (nb := x3_15) hR_r_15 (hx3_15).1 (by have q1 := f14_r_15; have q2 := h14j; have q3 := h14o; have := i32_0; have := i32_1; have := i32_2; have := i32_m1; have := (hsx0_15).1; have := (hsx0_15).2; have := (hsx1_15).1; have := (hsx1_15).2; have := (hsx2_15).1; have := (hsx2_15).2; have := (h_8).1; have := (h_8).2; have := (hx4_15).1; have := (hx4_15).2; have := (hx3_15).1; have := (hx3_15).2; have := (hq_1).1; have := (hq_1).2; have := (h_9).1; have := (h_9).2; have := (hr_10).1; have := (hr_10).2; have := (h_14).1; have := (h_14).2; have := (hz_19).1; have := (hz_19).2; have := (h_21).1; have := (h_21).2; have := (h_26).1; have := (h_26).2; have := (h_36).1; have := (h_36).2; omega)).1, ← ez_19]; exact fS_r_22.symm)) (by have := i32_0; have := i32_1; have := i32_2; have := i32_m1; have := (hsx0_15).1; have := (hsx0_15).2; have := (hsx1_15).1; have := (hsx1_15).2; have := (hsx2_15).1; have := (hsx2_15).2; have := (h_8).1; have := (h_8).2; have := (hx4_15).1; have := (hx4_15).2; have := (hx3_15).1; have := (hx3_15).2; have := (hq_1).1; have := (hq_1).2; have := (h_9).1; have := (h_9).2; have := (hr_10).1; have := (hr_10).2; have := (h_14).1; have := (h_14).2; have := (hz_19).1; have := (hz_19).2; have := (h_21).1; have := (h_21).2; have := (h_26).1; have := (h_26).2; have := (h_36).1; have := (h_36).2; omega) (show ctE wg r_10.toNatClampNeg = z_13.toNatClampNeg from (by unfold ctE; rw [(swt9 hSW ez_13 rfl)])) fW_r_27.symm (by have := i32_0; have := i32_1; have := i32_2; have := i32_m1; have := (hsx0_15).1; have := (hsx0_15).2; have := (hsx1_15).1; have := (hsx1_15).2; have := (hsx2_15).1; have := (hsx2_15).2; have := (h_8).1; have := (h_8).2; have := (hx4_15).1; have := (hx4_15).2; have := (hx3_15).1; have := (hx3_15).2; have := (hq_1).1; have := (hq_1).2; have := (h_9).1; have := (h_9).2; have := (hr_10).1; have := (hr_10).2; have := (h_14).1; have := (h_14).2; have := (hz_19).1; have := (hz_19).2; have := (h_21).1; have := (h_21).2; have := (h_26).1; have := (h_26).2; have := (h_36).1; have := (h_36).2; omega)), (RC_ks (L := [17, 18]) (M := []) hR_r_15 (KS_tr (L := [17, 18]) KS_rf ksv_39 (by decide)) KS_rf (by decide) (by decide))⟩)⟩, by rw [ht]; exact hP, va_K.moved hal hK, hD⟩, hS.F ht⟩) hS.2.2 (Nat.le_of_ble_eq_true rfl) (Nat.le_of_ble_eq_true rfl)
            obtain ⟨r_37, rfl, sgv_40, gmv_40, lgv_40, rfl, hIv_40, ksv_40, kgv_40, klv_40, fF_r_37⟩ := hw
            obtain rfl := KS_nil kgv_40
            obtain rfl := KS_nil klv_40
            have hP : va_P (dC, dI) vwCl (cW ad cid a2 lx sgv_40 gmv_18 lg) H := hP
            have hD : va_D A (cW ad cid a2 lx sgv_40 gmv_18 lg) := hD
            exact fF_r_37.elim
        · have h_41 : iv (-1) (-1) r_22 := iv_eq c_25 hr_22 (iv_k (by decide) : iv (-1) (-1) (-1)) (by decide)
          refine ec_aload_n hx hb dX5_applySets_80 rfl (lv_at hl 5 rfl) ?_
          refine lv_bipush (v := 7) hx hb dX5_applySets_81 (by decide) ?_
          refine cm_callV (t := 6) (C := RX5) (T := TX5) (N := 13) (rest := []) (as := [.int 7]) ⟨hx, hb, hml, hown, htb⟩ (d_failWith l dC dI ad cid a2 lx sgv_18 gmv_18 lg hl9 x 7 hIv_18 hsx0_15 (iv_w (iv_k (by decide) : iv 7 7 7) (by decide))) (cwV 1 htb (gd_V kw_899 kw_900 kw_50 kw_159 kw_1530) rfl rfl rfl (by decide +kernel) ⟨(show 6 + 1 ≤ 27 + 8 * n9 from by omega), (show 8 + (2 + 11) + (120) ≤ 800 + 260 * n9 from by omega)⟩) hsx0_15 (by decide) (by decide) rfl rfl hl.1 rfl (Nat.le_trans cs_n (by decide)) dX5_applySets_83 ⟨Nat.le_of_ble_eq_true rfl, Nat.le_of_ble_eq_true rfl⟩ hK hP hD hS hA hG (fun E ce q9 u_43 H locs hw hP hD hS hce hcv hcl => ?_) (fun v9 u_43 H locs hw hP hD hS => ?_)
          · obtain ⟨hE, hw⟩ := hw
            obtain ⟨sgv_44, gmv_44, lgv_44, rfl, hIv_44, ksv_44, kgv_44, klv_44⟩ := hw
            obtain rfl := KS_nil kgv_44
            obtain rfl := KS_nil klv_44
            have hP : va_P (dC, dI) vwCl (cW ad cid a2 lx sgv_44 gmv_18 lg) H := hP
            have hD : va_D A (cW ad cid a2 lx sgv_44 gmv_18 lg) := hD
            exact vx_out (fun x hx9 => (hxt x hx9).elim) hlocks hce hcv hcl (fun t ht hal => ⟨⟨(sgv_44, gmv_18, lg), ⟨hE, sgv_44, gmv_18, lg, rfl, hIv_44, (KS_tr (L := [13, 14, 15, 16, 17, 18]) (KS_tr (L := [13, 14, 15, 16, 17, 18]) (KS_tr (L := [13, 14, 15, 16, 17, 18]) KS_rf hks_j15 (by decide)) ksv_18 (by decide)) ksv_44 (by decide)), (KS_tr (L := [37, 38, 39, 48, 49, 50, 51, 52, 53]) (KS_tr (L := [37, 38, 39, 48, 49, 50, 51, 52, 53]) KS_rf hkg_j15 (by decide)) kgv_18 (by decide)), KS_rf, ((MOK_e fMO_r_15 (show sgv_44 12 = sgv_18 12 from (ksv_44 12 (by decide))) rfl rfl rfl rfl)), ((FND9_e fFN_r_15 (show sgv_44 15 = sgv_18 15 from (ksv_44 15 (by decide))) rfl)), (⟨S_r_15, oSts_y hIj (show (liL wg (3 * b.toNatClampNeg + 1))[x5_15.toNatClampNeg]? = some r_10.toNatClampNeg from (by rw [liL_g (by rw [show wg 41 (3 * b.toNatClampNeg + 1) = gm 41 (3 * b.toNatClampNeg + 1) from sw9 hSW 41 rfl _]; exact hai_r_10), show wg 57 (128 * (3 * b.toNatClampNeg + 1) + x5_15.toNatClampNeg) = r_10 from (by rw [sw9 hSW 57 rfl]; exact fa_r_10.symm)])) (show ctE wg r_10.toNatClampNeg = z_13.toNatClampNeg from (by unfold ctE; rw [(swt9 hSW ez_13 rfl)])) hE_r_15 (oSe_7 (show sgF wg (wg 22 r_10.toNatClampNeg).toNatClampNeg 8 (((zO S_r_15)[o9.toNat]?).getD (0, 0)).1 = r_22.toInt from (by rw [(swt9 hSW ez_20 rfl), ← h3o, (RC_cl (nb := x3_15) hR_r_15 (hx3_15).1 (by have q1 := f14_r_15; have q2 := h14j; have q3 := h14o; have := i32_0; have := i32_1; have := i32_2; have := i32_m1; have := (hsx0_15).1; have := (hsx0_15).2; have := (hsx1_15).1; have := (hsx1_15).2; have := (hsx2_15).1; have := (hsx2_15).2; have := (h_8).1; have := (h_8).2; have := (hx4_15).1; have := (hx4_15).2; have := (hx3_15).1; have := (hx3_15).2; have := (hq_1).1; have := (hq_1).2; have := (h_9).1; have := (h_9).2; have := (hr_10).1; have := (hr_10).2; have := (h_14).1; have := (h_14).2; have := (hz_19).1; have := (hz_19).2; have := (h_21).1; have := (h_21).2; have := (h_41).1; have := (h_41).2; omega)).1, ← ez_19]; exact fS_r_22.symm)) (by have := i32_0; have := i32_1; have := i32_2; have := i32_m1; have := (hsx0_15).1; have := (hsx0_15).2; have := (hsx1_15).1; have := (hsx1_15).2; have := (hsx2_15).1; have := (hsx2_15).2; have := (h_8).1; have := (h_8).2; have := (hx4_15).1; have := (hx4_15).2; have := (hx3_15).1; have := (hx3_15).2; have := (hq_1).1; have := (hq_1).2; have := (h_9).1; have := (h_9).2; have := (hr_10).1; have := (hr_10).2; have := (h_14).1; have := (h_14).2; have := (hz_19).1; have := (hz_19).2; have := (h_21).1; have := (h_21).2; have := (h_41).1; have := (h_41).2; omega)), (RC_ks (L := [17, 18]) (M := []) hR_r_15 (KS_tr (L := [17, 18]) KS_rf ksv_44 (by decide)) KS_rf (by decide) (by decide))⟩)⟩, by rw [ht]; exact hP, va_K.moved hal hK, hD⟩, hS.F ht⟩) hS.2.2 (Nat.le_of_ble_eq_true rfl) (Nat.le_of_ble_eq_true rfl)
          obtain ⟨r_42, rfl, sgv_45, gmv_45, lgv_45, rfl, hIv_45, ksv_45, kgv_45, klv_45, fF_r_42⟩ := hw
          obtain rfl := KS_nil kgv_45
          obtain rfl := KS_nil klv_45
          have hP : va_P (dC, dI) vwCl (cW ad cid a2 lx sgv_45 gmv_18 lg) H := hP
          have hD : va_D A (cW ad cid a2 lx sgv_45 gmv_18 lg) := hD
          exact fF_r_42.elim
  refine ec_aload_n hx hb dX5_applySets_0 rfl (lv_at hl 1 rfl) ?_
  refine cr_get (t := 10) (j := 18) (C := RX1) (T := TX1) (N := 19) (v := .int (gm 39 b.toNatClampNeg)) hx hb htb inX1 hown hK hP hvb (by decide) (by decide) (by decide) rfl (by decide) (htb _ kw_386) rfl dX5_applySets_1 ?_
  obtain ⟨z_46, ez_46⟩ : ∃ z : Int32, z = (gm 39 b.toNatClampNeg) := ⟨_, rfl⟩
  refine W.eq (g2 := F0 m 4 ls [.int z_46]) (by rw [ez_46]) ?_
  have hz_46 : iv (-1) 59 z_46 := iv_of ez_46 (CI_a hI 39 hvb (by decide))
  have h_47 : iv 0 59 z_46 := ⟨by rw [ez_46]; exact h39, (hz_46).2⟩
  refine lv_istore_n (i := 3) (lv' := [(3, .int z_46), (0, eV (ad 6) x), (1, eV (ad 10) b), (2, .int dp)]) hx hb dX5_applySets_4 rfl hl (by decide) rfl (fun ls hl => ?_)
  refine lv_iload_n hx hb dX5_applySets_5 rfl (lv_at hl 3 rfl) ?_
  refine lv_iconst (v := 0) hx hb dX5_applySets_6 (by decide) ?_
  refine cm_callS (rest := []) (as := [.int dp, .int 0]) ⟨hx, hb, hml, hown, htb⟩ (d_slot l dC dI ad cid a2 lx sg gm lg dp 0 hI hvdp (iv_w (iv_k (by decide) : iv 0 0 0) (by decide))) (va_cwS 2 htb (gd_S kw_908 kw_909 kw_159 kw_1533) rfl rfl rfl (by decide +kernel) ⟨(show 0 + 1 ≤ 27 + 8 * n9 from by omega), (show 8 + (2 + 11) + (0) ≤ 800 + 260 * n9 from by omega)⟩)  rfl hl.1 rfl (Nat.le_trans cs_n (by decide)) dX5_applySets_7 ⟨Nat.le_of_ble_eq_true rfl, Nat.le_of_ble_eq_true rfl⟩ hK hP hD hS hA hG (fun E ce q9 u_49 H locs hw hP hD hS hce hcv hcl => ?_) (fun v9 u_49 H locs hw hP hD hS => ?_)
  · exact hw.elim
  obtain ⟨r_48, rfl, rfl, hr_48, fs_r_48⟩ := hw
  have hP : va_P (dC, dI) vwCl (cW ad cid a2 lx sg gm lg) H := hP
  have hD : va_D A (cW ad cid a2 lx sg gm lg) := hD
  refine W.eq (g2 := F0 m 10 ls [.int r_48]) rfl ?_
  refine lv_istore (i := 4) (lv' := [(4, .int r_48), (3, .int z_46), (0, eV (ad 6) x), (1, eV (ad 10) b), (2, .int dp)]) hx hb dX5_applySets_10 hl (by decide) rfl (fun ls hl => ?_)
  refine lv_iconst (v := 0) hx hb dX5_applySets_12 (by decide) ?_
  refine lv_istore (i := 5) (lv' := [(5, .int 0), (4, .int r_48), (3, .int z_46), (0, eV (ad 6) x), (1, eV (ad 10) b), (2, .int dp)]) hx hb dX5_applySets_13 hl (by decide) rfl (fun ls hl => ?_)
  exact hj15 _ sg gm 0 r_48 z_46 rfl (iv_w (iv_k (by decide) : iv 0 0 0) (by decide)) hr_48 h_47 hvx hvb hvdp KS_rf KS_rf hI (hMO) (hFN) (BMK_rf) (WFR_rf) ((by have q1 := fs_r_48; have q2 : (0 : Int32).toInt = 0 := (by decide); have := i32_0; have := i32_1; have := i32_2; have := i32_m1; have := (hvx).1; have := (hvx).2; have := (hvb).1; have := (hvb).2; have := (hvdp).1; have := (hvdp).2; have := (h_47).1; have := (h_47).2; have := (hr_48).1; have := (hr_48).2; omega)) ((Int.le_refl _)) (((congrArg Int32.toInt ez_46).trans h39o)) (⟨S, hRC, rfl⟩) _ _ _ hP hD hS (lv_sub hl [0, 1, 2, 3, 4, 5] rfl)
end
section
section MK8
variable {ws : Nat → Int32} {wg : Nat → Nat → Int32} {wl : Nat → Nat → Int64} {mk : Nat → S9 → Option Int × S9} {b : Nat}
theorem oMK_1 {n : Nat} {S : S9} (h : zS S b = 1) : oMK ws wg wl (n + 1) b S = (none, S) := by show (if _ then _ else _) = _; rw [if_pos h]
theorem oMK_2 {n : Nat} {S : S9} (h : ¬ zS S b = 1) : oMK ws wg wl (n + 1) b S = oMB ws wg wl (oMK ws wg wl n) b S := by show (if _ then _ else _) = _; rw [if_neg h]
theorem oMB_0 {S : S9} (h : wl 6 b = 0) : oMB ws wg wl mk b S = r1 ws wg wl mk b (oBe b S) := by unfold oMB oDe; rw [if_pos h]; rfl
theorem oMB_1 {S S2 : S9} {o : Int} (h : ¬ wl 6 b = 0) (hg : oGet wg mk (caN ws wg wl (wl 6 b)) (oBe b S) = (some o, S2)) : oMB ws wg wl mk b S = r1 ws wg wl mk b S2 := by unfold oMB oDe; rw [if_neg h, hg]; rfl
theorem oMB_x {S S2 : S9} (h : ¬ wl 6 b = 0) (hg : oGet wg mk (caN ws wg wl (wl 6 b)) (oBe b S) = (none, S2)) : oMB ws wg wl mk b S = (none, S2) := by unfold oMB oDe; rw [if_neg h, hg]; rfl
theorem r1_4 {S : S9} (h : (wg 30 b).toInt = -1 ∧ wl 7 b = 0) : r1 ws wg wl mk b S = (none, S) := by unfold r1; rw [if_pos h]
theorem r1_0 {S : S9} (hn : ¬ (wg 30 b).toInt = -1) (h : wl 7 b = 0) : r1 ws wg wl mk b S = r2 ws wg wl mk b (-1) (liL wg (3 * b)) [] S := by unfold r1 oFa; rw [if_neg (fun q => hn q.1), if_pos h]; rfl
theorem r1_1 {S S2 : S9} {o : Int} (h : ¬ wl 7 b = 0) (hg : oGet wg mk (caN ws wg wl (wl 7 b)) S = (some o, S2)) : r1 ws wg wl mk b S = r2 ws wg wl mk b o (liL wg (3 * b)) [] S2 := by unfold r1 oFa; rw [if_neg (fun q => h q.2), if_neg h, hg]; rfl
theorem r1_x {S S2 : S9} (h : ¬ wl 7 b = 0) (hg : oGet wg mk (caN ws wg wl (wl 7 b)) S = (none, S2)) : r1 ws wg wl mk b S = (none, S2) := by unfold r1 oFa; rw [if_neg (fun q => h q.2), if_neg h, hg]; rfl
theorem r2_a {fo : Int} {l : List Nat} {acc vs : List (List Int)} {S S2 : S9} (h : oArs ws wg wl mk l acc S = (some vs, S2)) : r2 ws wg wl mk b fo l acc S = r3 ws wg wl mk b fo vs S2 := by unfold r2; rw [h]; rfl
theorem r2_x {fo : Int} {l : List Nat} {acc : List (List Int)} {S S2 : S9} (h : oArs ws wg wl mk l acc S = (none, S2)) : r2 ws wg wl mk b fo l acc S = (none, S2) := by unfold r2; rw [h]; rfl
theorem r3_b {fo o : Int} {vs : List (List Int)} {S S2 : S9} (h : oBr wg wl b fo vs S = (some o, S2)) : r3 ws wg wl mk b fo vs S = r4 ws wg wl mk b o (liL wg (3 * b + 1)) S2 := by unfold r3; rw [h]; rfl
theorem r3_x {fo : Int} {vs : List (List Int)} {S S2 : S9} (h : oBr wg wl b fo vs S = (none, S2)) : r3 ws wg wl mk b fo vs S = (none, S2) := by unfold r3; rw [h]; rfl
theorem r4_s {o u : Int} {l : List Nat} {S S2 : S9} (h : oSts ws wg wl mk o l S = (some u, S2)) : r4 ws wg wl mk b o l S = (some o, oFi wg wl b o S2) := by unfold r4; rw [h]; rfl
theorem r4_x {o : Int} {l : List Nat} {S S2 : S9} (h : oSts ws wg wl mk o l S = (none, S2)) : r4 ws wg wl mk b o l S = (none, S2) := by unfold r4; rw [h]; rfl
theorem oF1_n {o : Int} {S : S9} (h : (wg 32 b).toInt = -1) : oF1 wg b o S = S := by unfold oF1; rw [if_pos h]
theorem oF1_y {o : Int} {S : S9} (h : ¬ (wg 32 b).toInt = -1) : oF1 wg b o S = zAdd S (5, o, (wg 32 b).toInt, 0) := by unfold oF1; rw [if_neg h]
theorem RC_be {lg : Nat → Nat → Int64} {S : S9} {sg sg2 : Nat → Int32} {gm gm2 : Nat → Nat → Int32} {v w : Int32} (h : RC wg lg S sg gm) (hb : b < (sg 12).toNatClampNeg) (hz : gm 37 b = 0) (h38 : ¬ lg 4 b = 0 → wg 35 b = 0 → gm 38 b = 0) (h12 : sg2 12 = sg 12) (h13 : sg2 13 = sg 13) (h14 : sg2 14 = sg 14) (h15 : sg2 15 = sg 15) (hg : KS [37, 39] gm gm2) (h37 : gm2 37 = upd (gm 37) b v) (hv : ¬ v = 0) (h39 : gm2 39 = upd (gm 39) b w) (hw : w.toInt = -1) : RC wg lg (oBe b S) sg2 gm2 := by
  obtain ⟨ho, he, hbb, hf⟩ := h
  have g38 := hg 38 (by decide); have g48 := hg 48 (by decide); have g49 := hg 49 (by decide); have g50 := hg 50 (by decide); have g51 := hg 51 (by decide)
  have hz1 : ¬ zS S b = 1 := fun q => ((hbb b hb).1.mp q) hz
  refine ⟨?_, ?_, ?_, ?_⟩
  · unfold RCo; rw [h14, g49, g50]; exact ho
  · unfold RCe; rw [h13, g48]; exact he
  · unfold RCb; rw [h12, g38]
    intro x hx
    show (fu9 (zS S) b 1 x = 1 ↔ _) ∧ (_ → _ → (fu9 (zS S) b 1 x = 2 ↔ _) ∧ (¬ fu9 (zS S) b 1 x = 0 → _ = fu9 (zW S) b (-1) x ∧ fu9 (zW S) b (-1) x < ((zO S).length : Int))) ∧ fu9 (zS S) b 1 x ≤ 2
    rw [h37, h39]
    by_cases e : x = b
    · subst e; rw [fu9_at, fu9_at, upd_at, upd_at]
      exact ⟨⟨fun _ => hv, fun _ => rfl⟩, fun q1 q2 => ⟨⟨fun q => absurd q (by decide), fun q => absurd (h38 q1 q2) q⟩, fun _ => ⟨hw, by omega⟩⟩, by omega⟩
    · rw [fu9_ne e, fu9_ne e, upd_ne e, upd_ne e]; exact hbb x hx
  · refine ⟨by rw [h15]; exact hf.1, fun k x hk => ?_, hf.2.2⟩
    have := hf.2.1 k x hk
    rw [h12, g51]
    refine ⟨this.1, this.2.1, this.2.2.1, this.2.2.2.1, ?_⟩
    show fu9 (zS S) b 1 x = 2
    by_cases e : x = b
    · subst e
      exact absurd ((((hbb x hb).2.1 this.2.2.1 this.2.2.2.1).1.mp this.2.2.2.2)) (fun q => q (h38 this.2.2.1 this.2.2.2.1))
    · rw [fu9_ne e]; exact this.2.2.2.2
theorem RC_z1 {lg : Nat → Nat → Int64} {S : S9} {sg : Nat → Int32} {gm : Nat → Nat → Int32} (h : RC wg lg S sg gm) (hb : b < (sg 12).toNatClampNeg) (h37 : ¬ gm 37 b = 0) : zS S b = 1 := (h.2.2.1 b hb).1.mpr h37
theorem RC_z0 {lg : Nat → Nat → Int64} {S : S9} {sg : Nat → Int32} {gm : Nat → Nat → Int32} (h : RC wg lg S sg gm) (hb : b < (sg 12).toNatClampNeg) (h37 : gm 37 b = 0) : ¬ zS S b = 1 := fun q => (h.2.2.1 b hb).1.mp q h37
end MK8
end
section
set_option maxHeartbeats 4000000 in
set_option maxRecDepth 100000 in
theorem d_make9 (l : Launch) (dC : Nat → ClassId) (dI : Nat → Nat → Nat) (ad : Nat → Nat → Nat) (cid : Nat → ClassId) (a2 : Nat → Nat) (lx : List Nat) (sg : Nat → Int32) (gm : Nat → Nat → Int32) (lg : Nat → Nat → Int64) (hl9 : l.stackTraces = false) (n9 : Nat) (HO : PO9 l dC dI ad cid a2 lx n9) (HM : PM9 l dC dI ad cid a2 lx n9) (x : Int32) (b : Int32) (dp : Int32) (wg : Nat → Nat → Int32) (ws : Nat → Int32) (S : S9) (hI : CI sg gm) (hvx : iv 0 0 x) (hvb : iv 0 79 b) (hvdp : iv 0 40 dp) (hW : WRD sg gm lg) (hLD : LDI lx gm) (hMO : MOK sg gm lg) (hFN : FND9 sg gm) (hb12 : b.toInt < (sg 12).toInt) (hnm : ¬ lg 4 b.toNatClampNeg = 0 → gm 35 b.toNatClampNeg = 0 → gm 38 b.toNatClampNeg = 0) (hdp : dp.toInt + ((n9 + 1 : Nat) : Int) = 40) (hSW : st9 gm = wg) (hSS : ss9 sg = ws) (hSV : SV ws wg lg) (hRC : RC wg lg S sg gm) : CMt dC dI ad cid a2 lx l yX5_make wm_X5_make ({ frames := 20 + 8 * (n9 + 1), cells := 1, slots := 6, locals := 600 + 260 * (n9 + 1) }) [eV (ad 6) x, eV (ad 10) b, .int dp] sg gm lg (fun v u => ∃ r : Int32, v = some (.int r) ∧ ∃ (sg2 : Nat → Int32) (gm2 : Nat → Nat → Int32) (lg2 : Nat → Nat → Int64), u = (sg2, gm2, lg2) ∧ CI sg2 gm2 ∧ KS [13, 14, 15, 16, 17, 18] sg sg2 ∧ KS [37, 38, 39, 48, 49, 50, 51, 52, 53] gm gm2 ∧ KS [] lg lg2 ∧ (iv 0 59 r) ∧ (MOK sg2 gm2 lg2) ∧ (FND9 sg2 gm2) ∧ (BMK gm gm2) ∧ (WFR (24 * dp.toNatClampNeg) gm gm2) ∧ ((sg 14).toInt ≤ (sg2 14).toInt) ∧ (r.toInt < (sg2 14).toInt) ∧ (∃ S2, oMK ws wg lg (n9 + 1) b.toNatClampNeg S = (some r.toInt, S2) ∧ RC wg lg S2 sg2 gm2)) (fun E u => (E = "java/lang/UnsupportedOperationException") ∧ ∃ (sg2 : Nat → Int32) (gm2 : Nat → Nat → Int32) (lg2 : Nat → Nat → Int64), u = (sg2, gm2, lg2) ∧ CI sg2 gm2 ∧ KS [13, 14, 15, 16, 17, 18] sg sg2 ∧ KS [37, 38, 39, 48, 49, 50, 51, 52, 53] gm gm2 ∧ KS [] lg lg2 ∧ (MOK sg2 gm2 lg2) ∧ (FND9 sg2 gm2) ∧ (∃ S2, oMK ws wg lg (n9 + 1) b.toNatClampNeg S = (none, S2) ∧ RC wg lg S2 sg2 gm2)) := by
  intro sz
  refine vx_ofW (cc := cX5_make) (maxL := 5) (ret := (some .int)) (by decide) rfl ?_
  intro p e s m args below meth c s₁ B hml hxt hv
  obtain ⟨rfl, hsz, hP, hK, hD0, hG⟩ := hv
  have hx := B.exec
  have hb := B.bytes
  have hr := B.returns
  have hts := atoms_spec (ws := wm_X5_make) B.pre
  have htb := fun (w : Cond) (h : w ∈ tb) => hts w (List.mem_cons_of_mem _ h)
  have hown : s.vm.findClass RX5 = some m.cls := findClass_of_methodNamed B.named
  have hlocks := B.notSynchronized
  subst hsz
  have hD := hD0.self (sz := s.heap.size)
  generalize hAe : va_A (cW ad cid a2 lx sg gm lg) s.heap.size = A at hD hG ⊢
  have hA : ∀ q : Nat, s.heap.size ≤ q → A q := fun q h => by rw [← hAe]; exact Or.inr h
  have hS : va_S A s.heap s.heap [] := va_S.rf
  have hl := lv_entry ([eV (ad 6) x, eV (ad 10) b, .int dp]) (n := 5) (by rw [show (lg_sl ([eV (ad 6) x, eV (ad 10) b, .int dp])).length = 3 from by simp [lg_sl, eV_cat, cat_i, cat_l]]; exact Nat.le_of_ble_eq_true rfl)
  rw [lg_entry_eq]
  generalize (lg_sl ([eV (ad 6) x, eV (ad 10) b, .int dp]) ++ List.replicate (5 - (lg_sl ([eV (ad 6) x, eV (ad 10) b, .int dp])).length) Slot.unset).toArray = ls at hl ⊢
  have hl : lv_has ls 5 [(0, eV (ad 6) x), (1, eV (ad 10) b), (2, .int dp)] := by simp [lv_args, eV_cat, cat_i, cat_l] at hl; exact hl
  have hd39 : iv 0 39 dp := ⟨hvdp.1, by omega⟩
  have hj160 : ∀ (sg_j160 : Nat → Int32) (gm_j160 : Nat → Nat → Int32) (x4_160 : Int32) (_ : iv (-1) 59 x4_160) (_ : iv (-1) 79 (sg 16)) (_ : iv 0 0 x) (_ : iv 0 79 b) (_ : iv 0 39 dp) (_ : KS [13, 14, 15, 16, 17, 18] sg sg_j160) (_ : KS [37, 38, 39, 48, 49, 50, 51, 52, 53] gm gm_j160) (_ : CI sg_j160 gm_j160) (_ : MOK sg_j160 gm_j160 lg) (_ : FND9 sg_j160 gm_j160) (_ : BMb b.toNatClampNeg gm gm_j160) (_ : WFR (24 * dp.toNatClampNeg) gm gm_j160) (_ : gm 37 b.toNatClampNeg = 0) (_ : ¬ gm_j160 37 b.toNatClampNeg = 0) (_ : 0 ≤ (gm_j160 39 b.toNatClampNeg).toInt) (_ : (sg 14).toInt ≤ (sg_j160 14).toInt) (_ : ∃ o9 S2, oMB ws wg lg (oMK ws wg lg n9) b.toNatClampNeg S = (some o9, oF2 wg lg b.toNatClampNeg S2) ∧ RC wg lg S2 sg_j160 gm_j160 ∧ (gm_j160 39 b.toNatClampNeg).toInt = o9 ∧ o9 < (sg_j160 14).toInt) (H : Heap) (locs : List Loc) (ls : Array Slot), va_P (dC, dI) vwCl (cW ad cid a2 lx sg_j160 gm_j160 lg) H → va_D A (cW ad cid a2 lx sg_j160 gm_j160 lg) → va_S A s.heap H locs → lv_has ls 5 [(4, .int x4_160), (3, eV (ad 10) (sg 16)), (0, eV (ad 6) x), (1, eV (ad 10) b), (2, .int dp)] → W p l e (headSpec wm_X5_make ({ frames := 20 + 8 * (n9 + 1), cells := 1, slots := 6, locals := 600 + 260 * (n9 + 1) })).room s m ([eV (ad 6) x, eV (ad 10) b, .int dp] : List Value).toArray below meth c H locs 0 0 (vx_MQ below (cQx dC dI ad cid a2 lx (fun v u => ∃ r : Int32, v = some (.int r) ∧ ∃ (sg2 : Nat → Int32) (gm2 : Nat → Nat → Int32) (lg2 : Nat → Nat → Int64), u = (sg2, gm2, lg2) ∧ CI sg2 gm2 ∧ KS [13, 14, 15, 16, 17, 18] sg sg2 ∧ KS [37, 38, 39, 48, 49, 50, 51, 52, 53] gm gm2 ∧ KS [] lg lg2 ∧ (iv 0 59 r) ∧ (MOK sg2 gm2 lg2) ∧ (FND9 sg2 gm2) ∧ (BMK gm gm2) ∧ (WFR (24 * dp.toNatClampNeg) gm gm2) ∧ ((sg 14).toInt ≤ (sg2 14).toInt) ∧ (r.toInt < (sg2 14).toInt) ∧ (∃ S2, oMK ws wg lg (n9 + 1) b.toNatClampNeg S = (some r.toInt, S2) ∧ RC wg lg S2 sg2 gm2)) A) (cX dC dI ad cid a2 lx (fun E u => (E = "java/lang/UnsupportedOperationException") ∧ ∃ (sg2 : Nat → Int32) (gm2 : Nat → Nat → Int32) (lg2 : Nat → Nat → Int64), u = (sg2, gm2, lg2) ∧ CI sg2 gm2 ∧ KS [13, 14, 15, 16, 17, 18] sg sg2 ∧ KS [37, 38, 39, 48, 49, 50, 51, 52, 53] gm gm2 ∧ KS [] lg lg2 ∧ (MOK sg2 gm2 lg2) ∧ (FND9 sg2 gm2) ∧ (∃ S2, oMK ws wg lg (n9 + 1) b.toNatClampNeg S = (none, S2) ∧ RC wg lg S2 sg2 gm2)) A) ([eV (ad 6) x, eV (ad 10) b, .int dp] : List Value).toArray s 1 6 A) (F0 m 160 ls []) := by
    intro sg_j160 gm_j160 x4_160 hx4_160 hsx3_160 hsx0_160 hsx1_160 hsx2_160 hks_j160 hkg_j160 hI_j160 hMOe hFNe hBBe hWFe hb0e h37e h39e h14e hX160 H locs ls hP hD hS hl
    obtain ⟨o160, S160, hE160, hR160, h9160, hl160⟩ := hX160
    refine ec_aload_n hx hb dX5_make_160 rfl (lv_at hl 2 rfl) ?_
    refine ec_aload_n hx hb dX5_make_161 rfl (lv_at hl 3 rfl) ?_
    refine cm_callV (t := 6) (C := RX5) (T := TX5) (N := 13) (rest := []) (as := [eV (ad 10) b]) ⟨hx, hb, hml, hown, htb⟩ (d_finish9 l dC dI ad cid a2 lx sg_j160 gm_j160 lg x b wg S160 hI_j160 hsx0_160 hsx1_160 hFNe ((st9_ks (L := [37, 38, 39, 48, 49, 50, 51, 52, 53]) (KS_tr (L := [37, 38, 39, 48, 49, 50, 51, 52, 53]) KS_rf hkg_j160 (by decide)) (by decide)).trans hSW) hR160 (by rw [show sg_j160 12 = sg 12 from (hks_j160 12 (by decide))]; exact hb12) (RC_z1 hR160 (by rw [show sg_j160 12 = sg 12 from (hks_j160 12 (by decide))]; exact (lt_cl hvb (show iv 0 80 (sg 12) from CI_s hI 12) (by decide) (by decide) hb12)) h37e)) (cwV 1 htb (gd_V kw_963 kw_964 kw_67 kw_159 kw_1554) rfl rfl rfl (by decide +kernel) ⟨(show 0 + 1 ≤ 20 + 8 * (n9 + 1) from by omega), (show 8 + (2 + 11) + (0) ≤ 600 + 260 * (n9 + 1) from by omega)⟩) hsx0_160 (by decide) (by decide) rfl rfl hl.1 rfl (Nat.le_trans cs_n (by decide)) dX5_make_162 ⟨Nat.le_of_ble_eq_true rfl, Nat.le_of_ble_eq_true rfl⟩ hK hP hD hS hA hG (fun E ce q9 u_2 H locs hw hP hD hS hce hcv hcl => ?_) (fun v9 u_2 H locs hw hP hD hS => ?_)
    · exact hw.elim
    obtain ⟨rfl, sgv_3, gmv_3, lgv_3, rfl, hIv_3, ksv_3, kgv_3, klv_3, f37_r_1, f38_r_1, fFND9_r_1, fR_r_1⟩ := hw
    obtain rfl := KS_nil klv_3
    have hP : va_P (dC, dI) vwCl (cW ad cid a2 lx sgv_3 gmv_3 lg) H := hP
    have hD : va_D A (cW ad cid a2 lx sgv_3 gmv_3 lg) := hD
    refine W.eq (g2 := F0 m 165 ls []) rfl ?_
    have hMOf : MOK sgv_3 gmv_3 lg := MOK_f hMOe (show sgv_3 12 = sg_j160 12 from (ksv_3 12 (by decide))) (show gmv_3 35 = gm_j160 35 from (kgv_3 35 (by decide))) f38_r_1 (show gmv_3 39 = gm_j160 39 from (kgv_3 39 (by decide))) rfl h39e
    have hBMf : BMK gm gmv_3 := BMb_K (BMb_u (w := 0) hBBe (Or.inr f37_r_1) (Or.inl (show gmv_3 39 = gm_j160 39 from (kgv_3 39 (by decide))))) hb0e
    refine ec_aload_n hx hb dX5_make_165 rfl (lv_at hl 2 rfl) ?_
    refine ec_aload_n hx hb dX5_make_166 rfl (lv_at hl 1 rfl) ?_
    refine cr_puts (t := 6) (j := 10) (C := RX5) (T := TX5) (N := 13) (ty0 := tyX5) (k := 16) (y := (sg 16)) hx hb htb inX5 tyX5_ok nmX5 hown hK hP hD hS hsx0_160 (by decide) (by decide) (by decide) (by decide) rfl rfl rfl (by decide) (htb _ kw_414) rfl (by show eV (ad 10) (sg 16) = eV (ad 10) (va_up sgv_3 16 (sg 16) 16); rw [va_up_self]) (ev_n _) (ev_f _) dX5_make_167 (fun sg_4 H locs esg_4 hP hD hS => ?_)
    have hI_sg_4 := CI_put hIv_3 esg_4 hsx3_160 (by decide)
    refine ec_aload_n hx hb dX5_make_170 rfl (lv_at hl 3 rfl) ?_
    refine cr_get (t := 10) (j := 18) (C := RX1) (T := TX1) (N := 19) (v := .int (gmv_3 39 b.toNatClampNeg)) hx hb htb inX1 hown hK hP hsx1_160 (by decide) (by decide) (by decide) rfl (by decide) (htb _ kw_386) rfl dX5_make_171 ?_
    obtain ⟨z_5, ez_5⟩ : ∃ z : Int32, z = (gmv_3 39 b.toNatClampNeg) := ⟨_, rfl⟩
    refine W.eq (g2 := F0 m 174 ls [.int z_5]) (by rw [ez_5]) ?_
    have hz_5 : iv (-1) 59 z_5 := iv_of ez_5 (CI_a hI_sg_4 39 hsx1_160 (by decide))
    have ez_5 := ez_5.trans (congrFun (kgv_3 39 (by decide)) _)
    have h_6 : iv 0 59 z_5 := ⟨by rw [ez_5]; exact h39e, (hz_5).2⟩
    exact W.nb (fun hN => W.widen (k := 1) (n := 6) (by decide) (by decide) (vx_ret (W.iret (v := z_5) hx hb hr (fun t ht hW => ⟨⟨some (.int z_5), (sg_4, gmv_3, lg), rfl, ⟨z_5, rfl, sg_4, gmv_3, lg, rfl, hI_sg_4, (KS_up (KS_tr (L := [13, 14, 15, 16, 17, 18]) (KS_tr (L := [13, 14, 15, 16, 17, 18]) KS_rf hks_j160 (by decide)) ksv_3 (by decide)) esg_4 (by decide)), (KS_tr (L := [37, 38, 39, 48, 49, 50, 51, 52, 53]) (KS_tr (L := [37, 38, 39, 48, 49, 50, 51, 52, 53]) KS_rf hkg_j160 (by decide)) kgv_3 (by decide)), KS_rf, h_6, ((MOK_e hMOf (show sg_4 12 = sgv_3 12 from (up_ne esg_4 (by decide))) rfl rfl rfl rfl)), ((FND9_e fFND9_r_1 (show sg_4 15 = sgv_3 15 from (up_ne esg_4 (by decide))) rfl)), (hBMf), ((WFR_t hWFe (WFR_e (d := 24 * dp.toNatClampNeg) (show gmv_3 52 = gm_j160 52 from (kgv_3 52 (by decide)))) (Nat.le_refl _))), ((by rw [(show sg_4 14 = sg_j160 14 from (Eq.trans (up_ne esg_4 (by decide)) (ksv_3 14 (by decide))))]; exact h14e)), ((by rw [show z_5.toInt = o160 from (congrArg Int32.toInt ez_5).trans h9160]; rw [(show sg_4 14 = sg_j160 14 from (Eq.trans (up_ne esg_4 (by decide)) (ksv_3 14 (by decide))))]; exact hl160)), ((by refine ⟨oF2 wg lg b.toNatClampNeg S160, ?_, (RC_ks (L := [16]) (M := []) fR_r_1 (KS_up KS_rf esg_4 (by decide)) KS_rf (by decide) (by decide))⟩; rw [oMK_2 (RC_z0 hRC (lt_cl hvb (show iv 0 80 (sg 12) from CI_s hI 12) (by decide) (by decide) hb12) hb0e), hE160, show z_5.toInt = o160 from (congrArg Int32.toInt ez_5).trans h9160]))⟩, by rw [ht]; exact hP, va_K.moved hW.alike hK, hD⟩, hS.F ht, by rw [ht]; exact hN⟩) hS.2.2 dX5_make_174)))
  have hj107 : ∀ (sg_j107 : Nat → Int32) (gm_j107 : Nat → Nat → Int32) (y0_107 : Int32) (_ : iv (-1) 79 (sg 16)) (_ : iv 0 0 x) (_ : iv 0 79 b) (_ : iv 0 39 dp) (_ : iv (-1) 59 y0_107) (_ : KS [13, 14, 15, 16, 17, 18] sg sg_j107) (_ : KS [37, 38, 39, 48, 49, 50, 51, 52, 53] gm gm_j107) (_ : CI sg_j107 gm_j107) (_ : MOK sg_j107 gm_j107 lg) (_ : FND9 sg_j107 gm_j107) (_ : BMb b.toNatClampNeg gm gm_j107) (_ : WFR (24 * dp.toNatClampNeg) gm gm_j107) (_ : gm 37 b.toNatClampNeg = 0) (_ : ¬ gm_j107 37 b.toNatClampNeg = 0) (_ : y0_107.toInt = -1 → 0 ≤ (gm 30 b.toNatClampNeg).toInt) (_ : (sg 14).toInt ≤ (sg_j107 14).toInt) (_ : ∃ S2, oMB ws wg lg (oMK ws wg lg n9) b.toNatClampNeg S = r2 ws wg lg (oMK ws wg lg n9) b.toNatClampNeg (y0_107 : Int32).toInt (liL wg (3 * b.toNatClampNeg)) [] S2 ∧ RC wg lg S2 sg_j107 gm_j107) (_ : 0 ≤ (y0_107 : Int32).toInt → (y0_107 : Int32).toInt < (sg_j107 14).toInt) (H : Heap) (locs : List Loc) (ls : Array Slot), va_P (dC, dI) vwCl (cW ad cid a2 lx sg_j107 gm_j107 lg) H → va_D A (cW ad cid a2 lx sg_j107 gm_j107 lg) → va_S A s.heap H locs → lv_has ls 5 [(3, eV (ad 10) (sg 16)), (0, eV (ad 6) x), (1, eV (ad 10) b), (2, .int dp)] → W p l e (headSpec wm_X5_make ({ frames := 20 + 8 * (n9 + 1), cells := 1, slots := 6, locals := 600 + 260 * (n9 + 1) })).room s m ([eV (ad 6) x, eV (ad 10) b, .int dp] : List Value).toArray below meth c H locs 0 0 (vx_MQ below (cQx dC dI ad cid a2 lx (fun v u => ∃ r : Int32, v = some (.int r) ∧ ∃ (sg2 : Nat → Int32) (gm2 : Nat → Nat → Int32) (lg2 : Nat → Nat → Int64), u = (sg2, gm2, lg2) ∧ CI sg2 gm2 ∧ KS [13, 14, 15, 16, 17, 18] sg sg2 ∧ KS [37, 38, 39, 48, 49, 50, 51, 52, 53] gm gm2 ∧ KS [] lg lg2 ∧ (iv 0 59 r) ∧ (MOK sg2 gm2 lg2) ∧ (FND9 sg2 gm2) ∧ (BMK gm gm2) ∧ (WFR (24 * dp.toNatClampNeg) gm gm2) ∧ ((sg 14).toInt ≤ (sg2 14).toInt) ∧ (r.toInt < (sg2 14).toInt) ∧ (∃ S2, oMK ws wg lg (n9 + 1) b.toNatClampNeg S = (some r.toInt, S2) ∧ RC wg lg S2 sg2 gm2)) A) (cX dC dI ad cid a2 lx (fun E u => (E = "java/lang/UnsupportedOperationException") ∧ ∃ (sg2 : Nat → Int32) (gm2 : Nat → Nat → Int32) (lg2 : Nat → Nat → Int64), u = (sg2, gm2, lg2) ∧ CI sg2 gm2 ∧ KS [13, 14, 15, 16, 17, 18] sg sg2 ∧ KS [37, 38, 39, 48, 49, 50, 51, 52, 53] gm gm2 ∧ KS [] lg lg2 ∧ (MOK sg2 gm2 lg2) ∧ (FND9 sg2 gm2) ∧ (∃ S2, oMK ws wg lg (n9 + 1) b.toNatClampNeg S = (none, S2) ∧ RC wg lg S2 sg2 gm2)) A) ([eV (ad 6) x, eV (ad 10) b, .int dp] : List Value).toArray s 1 6 A) (F0 m 107 ls [.int y0_107]) := by
    intro sg_j107 gm_j107 y0_107 hsx3_107 hsx0_107 hsx1_107 hsx2_107 hy0_107 hks_j107 hkg_j107 hI_j107 hMOd hFNd hBBd hWFd hb0d h37d h107 h14d hX107 h107o H locs ls hP hD hS hl
    obtain ⟨S107, hE107, hR107⟩ := hX107
    refine lv_istore (i := 4) (lv' := [(4, .int y0_107), (3, eV (ad 10) (sg 16)), (0, eV (ad 6) x), (1, eV (ad 10) b), (2, .int dp)]) hx hb dX5_make_107 hl (by decide) (by simp [List.filter, eV_cat, cat_i, cat_l]) (fun ls hl => ?_)
    refine ec_aload_n hx hb dX5_make_109 rfl (lv_at hl 2 rfl) ?_
    refine ec_aload_n hx hb dX5_make_110 rfl (lv_at hl 3 rfl) ?_
    refine lv_iload_n hx hb dX5_make_111 rfl (lv_at hl 4 rfl) ?_
    refine cm_callV (t := 6) (C := RX5) (T := TX5) (N := 13) (rest := []) (as := [eV (ad 10) b, .int dp]) ⟨hx, hb, hml, hown, htb⟩ (d_workOutArgs9 l dC dI ad cid a2 lx sg_j107 gm_j107 lg hl9 n9 HO HM x b dp wg ws S107 hI_j107 hsx0_107 hsx1_107 hsx2_107 (WRD_e hW (hks_j107 4 (by decide)) (hks_j107 12 (by decide)) (hkg_j107 14 (by decide)) (hkg_j107 15 (by decide)) (hkg_j107 16 (by decide)) (hkg_j107 17 (by decide)) (hkg_j107 19 (by decide)) (hkg_j107 20 (by decide)) (hkg_j107 22 (by decide)) (hkg_j107 25 (by decide)) (hkg_j107 26 (by decide)) (hkg_j107 27 (by decide)) (hkg_j107 29 (by decide)) (hkg_j107 41 (by decide)) (hkg_j107 44 (by decide)) (hkg_j107 45 (by decide)) (hkg_j107 46 (by decide)) (hkg_j107 57 (by decide)) rfl rfl) (LDI_e hLD (hkg_j107 41 (by decide)) (hkg_j107 42 (by decide)) (hkg_j107 57 (by decide))) hMOd hFNd (by rw [show sg_j107 12 = sg 12 from (hks_j107 12 (by decide))]; exact hb12) (by have := i32_0; have := i32_1; have := i32_2; have := i32_m1; have := (hsx0_107).1; have := (hsx0_107).2; have := (hsx1_107).1; have := (hsx1_107).2; have := (hsx2_107).1; have := (hsx2_107).2; have := (hsx3_107).1; have := (hsx3_107).2; have := (hy0_107).1; have := (hy0_107).2; omega) ((st9_ks (L := [37, 38, 39, 48, 49, 50, 51, 52, 53]) (KS_tr (L := [37, 38, 39, 48, 49, 50, 51, 52, 53]) KS_rf hkg_j107 (by decide)) (by decide)).trans hSW) ((ss9_ks (L := [13, 14, 15, 16, 17, 18]) (KS_tr (L := [13, 14, 15, 16, 17, 18]) KS_rf hks_j107 (by decide)) rfl rfl).trans hSS) hSV hR107) (cwV 2 htb (gd_V kw_903 kw_904 kw_52 kw_159 kw_1532) rfl rfl rfl (by decide +kernel) ⟨(show 27 + 8 * n9 + 1 ≤ 20 + 8 * (n9 + 1) from by omega), (show 8 + (4 + 11) + (800 + 260 * n9) ≤ 600 + 260 * (n9 + 1) from by omega)⟩) hsx0_107 (by decide) (by decide) rfl rfl hl.1 rfl (Nat.le_trans cs_n (by decide)) dX5_make_112 ⟨Nat.le_of_ble_eq_true rfl, Nat.le_of_ble_eq_true rfl⟩ hK hP hD hS hA hG (fun E ce q9 u_8 H locs hw hP hD hS hce hcv hcl => ?_) (fun v9 u_8 H locs hw hP hD hS => ?_)
    · obtain ⟨hE, hw⟩ := hw
      obtain ⟨sgv_9, gmv_9, lgv_9, rfl, hIv_9, ksv_9, kgv_9, klv_9, xMO_v_9, xFN_v_9, xA_v_9⟩ := hw
      obtain rfl := KS_nil klv_9
      have hP : va_P (dC, dI) vwCl (cW ad cid a2 lx sgv_9 gmv_9 lg) H := hP
      have hD : va_D A (cW ad cid a2 lx sgv_9 gmv_9 lg) := hD
      exact vx_out (fun x hx9 => (hxt x hx9).elim) hlocks hce hcv hcl (fun t ht hal => ⟨⟨(sgv_9, gmv_9, lg), ⟨hE, sgv_9, gmv_9, lg, rfl, hIv_9, (KS_tr (L := [13, 14, 15, 16, 17, 18]) (KS_tr (L := [13, 14, 15, 16, 17, 18]) KS_rf hks_j107 (by decide)) ksv_9 (by decide)), (KS_tr (L := [37, 38, 39, 48, 49, 50, 51, 52, 53]) (KS_tr (L := [37, 38, 39, 48, 49, 50, 51, 52, 53]) KS_rf hkg_j107 (by decide)) kgv_9 (by decide)), KS_rf, (xMO_v_9), (xFN_v_9), ((by obtain ⟨S2, h1, h2⟩ := xA_v_9; exact ⟨S2, (by rw [oMK_2 (RC_z0 hRC (lt_cl hvb (show iv 0 80 (sg 12) from CI_s hI 12) (by decide) (by decide) hb12) hb0d), hE107, r2_x h1]), h2⟩))⟩, by rw [ht]; exact hP, va_K.moved hal hK, hD⟩, hS.F ht⟩) hS.2.2 (Nat.le_of_ble_eq_true rfl) (Nat.le_of_ble_eq_true rfl)
    obtain ⟨rfl, sgv_10, gmv_10, lgv_10, rfl, hIv_10, ksv_10, kgv_10, klv_10, fMO_r_7, fFN_r_7, fBM_r_7, fWF_r_7, fWK_r_7, f14_r_7, fA_r_7⟩ := hw
    obtain rfl := KS_nil klv_10
    have hP : va_P (dC, dI) vwCl (cW ad cid a2 lx sgv_10 gmv_10 lg) H := hP
    have hD : va_D A (cW ad cid a2 lx sgv_10 gmv_10 lg) := hD
    refine W.eq (g2 := F0 m 115 ls []) rfl ?_
    have bb_r_7 := BMb_t hBBd fBM_r_7
    have wf_r_7 : WFR (24 * dp.toNatClampNeg) gm gmv_10 := WFR_t hWFd fWF_r_7 (Nat.le_refl _)
    have n37_r_7 := bm_n h37d fBM_r_7
    obtain ⟨VS_r_7, S_r_7, hE_r_7, hR_r_7, hv_r_7⟩ := fA_r_7
    have m14_r_7 : (sg 14).toInt ≤ (sgv_10 14).toInt := Int.le_trans h14d f14_r_7
    refine ec_aload_n hx hb dX5_make_115 rfl (lv_at hl 2 rfl) ?_
    refine ec_aload_n hx hb dX5_make_116 rfl (lv_at hl 3 rfl) ?_
    refine ec_aload_n hx hb dX5_make_117 rfl (lv_at hl 2 rfl) ?_
    refine ec_aload_n hx hb dX5_make_118 rfl (lv_at hl 3 rfl) ?_
    refine lv_iload hx hb dX5_make_119 (lv_at hl 0 rfl) ?_
    refine lv_iload_n hx hb dX5_make_121 rfl (lv_at hl 4 rfl) ?_
    refine cm_callV (t := 6) (C := RX5) (T := TX5) (N := 13) (rest := [eV (ad 10) b, eV (ad 6) x]) (as := [eV (ad 10) b, .int y0_107, .int dp]) ⟨hx, hb, hml, hown, htb⟩ (d_chooseFor9 l dC dI ad cid a2 lx sgv_10 gmv_10 lg hl9 x b y0_107 dp wg S_r_7 VS_r_7 hIv_10 hsx0_107 hsx1_107 hy0_107 hsx2_107 (LDI_e hLD (Eq.trans (kgv_10 41 (by decide)) (hkg_j107 41 (by decide))) (Eq.trans (kgv_10 42 (by decide)) (hkg_j107 42 (by decide))) (Eq.trans (kgv_10 57 (by decide)) (hkg_j107 57 (by decide)))) (WRD_e hW (Eq.trans (ksv_10 4 (by decide)) (hks_j107 4 (by decide))) (Eq.trans (ksv_10 12 (by decide)) (hks_j107 12 (by decide))) (Eq.trans (kgv_10 14 (by decide)) (hkg_j107 14 (by decide))) (Eq.trans (kgv_10 15 (by decide)) (hkg_j107 15 (by decide))) (Eq.trans (kgv_10 16 (by decide)) (hkg_j107 16 (by decide))) (Eq.trans (kgv_10 17 (by decide)) (hkg_j107 17 (by decide))) (Eq.trans (kgv_10 19 (by decide)) (hkg_j107 19 (by decide))) (Eq.trans (kgv_10 20 (by decide)) (hkg_j107 20 (by decide))) (Eq.trans (kgv_10 22 (by decide)) (hkg_j107 22 (by decide))) (Eq.trans (kgv_10 25 (by decide)) (hkg_j107 25 (by decide))) (Eq.trans (kgv_10 26 (by decide)) (hkg_j107 26 (by decide))) (Eq.trans (kgv_10 27 (by decide)) (hkg_j107 27 (by decide))) (Eq.trans (kgv_10 29 (by decide)) (hkg_j107 29 (by decide))) (Eq.trans (kgv_10 41 (by decide)) (hkg_j107 41 (by decide))) (Eq.trans (kgv_10 44 (by decide)) (hkg_j107 44 (by decide))) (Eq.trans (kgv_10 45 (by decide)) (hkg_j107 45 (by decide))) (Eq.trans (kgv_10 46 (by decide)) (hkg_j107 46 (by decide))) (Eq.trans (kgv_10 57 (by decide)) (hkg_j107 57 (by decide))) rfl rfl) (by rw [show sgv_10 12 = sg 12 from (Eq.trans (ksv_10 12 (by decide)) (hks_j107 12 (by decide)))]; exact hb12) fWK_r_7 (fun q9 => by { rw [show gmv_10 30 = gm 30 from (show gmv_10 30 = gm 30 from (Eq.trans (kgv_10 30 (by decide)) (hkg_j107 30 (by decide))))]; exact h107 q9 }) ((st9_ks (L := [37, 38, 39, 48, 49, 50, 51, 52, 53]) (KS_tr (L := [37, 38, 39, 48, 49, 50, 51, 52, 53]) (KS_tr (L := [37, 38, 39, 48, 49, 50, 51, 52, 53]) KS_rf hkg_j107 (by decide)) kgv_10 (by decide)) (by decide)).trans hSW) hR_r_7 (VA_e hv_r_7 (Nat.le_refl _) rfl) (fun q9 => Int.lt_of_lt_of_le (h107o q9) f14_r_7)) (cwV 3 htb (gd_V kw_921 kw_922 kw_56 kw_159 kw_1537) rfl rfl rfl (by decide +kernel) ⟨(show 14 + 1 ≤ 20 + 8 * (n9 + 1) from by omega), (show 8 + (13 + 11) + (400) ≤ 600 + 260 * (n9 + 1) from by omega)⟩) hsx0_107 (by decide) (by decide) rfl rfl hl.1 rfl (Nat.le_trans (cs_c (eV_cat _ _) (cs_c (eV_cat _ _) cs_n)) (by decide)) dX5_make_122 ⟨Nat.le_of_ble_eq_true rfl, Nat.le_of_ble_eq_true rfl⟩ hK hP hD hS hA hG (fun E ce q9 u_12 H locs hw hP hD hS hce hcv hcl => ?_) (fun v9 u_12 H locs hw hP hD hS => ?_)
    · obtain ⟨hE, hw⟩ := hw
      obtain ⟨sgv_13, gmv_13, lgv_13, rfl, hIv_13, ksv_13, kgv_13, klv_13, xX_v_13⟩ := hw
      obtain rfl := KS_nil klv_13
      have hP : va_P (dC, dI) vwCl (cW ad cid a2 lx sgv_13 gmv_13 lg) H := hP
      have hD : va_D A (cW ad cid a2 lx sgv_13 gmv_13 lg) := hD
      exact vx_out (fun x hx9 => (hxt x hx9).elim) hlocks hce hcv hcl (fun t ht hal => ⟨⟨(sgv_13, gmv_13, lg), ⟨hE, sgv_13, gmv_13, lg, rfl, hIv_13, (KS_tr (L := [13, 14, 15, 16, 17, 18]) (KS_tr (L := [13, 14, 15, 16, 17, 18]) (KS_tr (L := [13, 14, 15, 16, 17, 18]) KS_rf hks_j107 (by decide)) ksv_10 (by decide)) ksv_13 (by decide)), (KS_tr (L := [37, 38, 39, 48, 49, 50, 51, 52, 53]) (KS_tr (L := [37, 38, 39, 48, 49, 50, 51, 52, 53]) (KS_tr (L := [37, 38, 39, 48, 49, 50, 51, 52, 53]) KS_rf hkg_j107 (by decide)) kgv_10 (by decide)) kgv_13 (by decide)), KS_rf, ((MOK_e fMO_r_7 (show sgv_13 12 = sgv_10 12 from (ksv_13 12 (by decide))) (show gmv_13 35 = gmv_10 35 from (kgv_13 35 (by decide))) (show gmv_13 38 = gmv_10 38 from (kgv_13 38 (by decide))) (show gmv_13 39 = gmv_10 39 from (kgv_13 39 (by decide))) rfl)), ((FND9_e fFN_r_7 (show sgv_13 15 = sgv_10 15 from (ksv_13 15 (by decide))) (show gmv_13 51 = gmv_10 51 from (kgv_13 51 (by decide))))), (⟨S_r_7, (by rw [oMK_2 (RC_z0 hRC (lt_cl hvb (show iv 0 80 (sg 12) from CI_s hI 12) (by decide) (by decide) hb12) hb0d), hE107, r2_a hE_r_7, r3_x (oBr_n xX_v_13)]), (RC_ks (L := [17, 18]) (M := [53]) hR_r_7 (KS_tr (L := [17, 18]) KS_rf ksv_13 (by decide)) (KS_tr (L := [53]) KS_rf kgv_13 (by decide)) (by decide) (by decide))⟩)⟩, by rw [ht]; exact hP, va_K.moved hal hK, hD⟩, hS.F ht⟩) hS.2.2 (Nat.le_of_ble_eq_true rfl) (Nat.le_of_ble_eq_true rfl)
    obtain ⟨r_11, rfl, sgv_14, gmv_14, lgv_14, rfl, hIv_14, ksv_14, kgv_14, klv_14, hr_11, fS_r_11, fC_r_11, fX_r_11⟩ := hw
    obtain rfl := KS_nil klv_14
    have hP : va_P (dC, dI) vwCl (cW ad cid a2 lx sgv_14 gmv_14 lg) H := hP
    have hD : va_D A (cW ad cid a2 lx sgv_14 gmv_14 lg) := hD
    refine W.eq (g2 := F0 m 125 ls [eV (ad 8) r_11, eV (ad 10) b, eV (ad 6) x]) rfl ?_
    refine lv_iload_n hx hb dX5_make_125 rfl (lv_at hl 4 rfl) ?_
    refine cm_callV (t := 6) (C := RX5) (T := TX5) (N := 13) (rest := []) (as := [eV (ad 10) b, eV (ad 8) r_11, .int dp]) ⟨hx, hb, hml, hown, htb⟩ (d_bringToBe9 l dC dI ad cid a2 lx sgv_14 gmv_14 lg hl9 x b r_11 dp wg S_r_7 VS_r_7 y0_107.toInt hIv_14 hsx0_107 hsx1_107 hr_11 hsx2_107 (LDI_e hLD (Eq.trans (Eq.trans (kgv_14 41 (by decide)) (kgv_10 41 (by decide))) (hkg_j107 41 (by decide))) (Eq.trans (Eq.trans (kgv_14 42 (by decide)) (kgv_10 42 (by decide))) (hkg_j107 42 (by decide))) (Eq.trans (Eq.trans (kgv_14 57 (by decide)) (kgv_10 57 (by decide))) (hkg_j107 57 (by decide)))) (WRD_e hW (Eq.trans (Eq.trans (ksv_14 4 (by decide)) (ksv_10 4 (by decide))) (hks_j107 4 (by decide))) (Eq.trans (Eq.trans (ksv_14 12 (by decide)) (ksv_10 12 (by decide))) (hks_j107 12 (by decide))) (Eq.trans (Eq.trans (kgv_14 14 (by decide)) (kgv_10 14 (by decide))) (hkg_j107 14 (by decide))) (Eq.trans (Eq.trans (kgv_14 15 (by decide)) (kgv_10 15 (by decide))) (hkg_j107 15 (by decide))) (Eq.trans (Eq.trans (kgv_14 16 (by decide)) (kgv_10 16 (by decide))) (hkg_j107 16 (by decide))) (Eq.trans (Eq.trans (kgv_14 17 (by decide)) (kgv_10 17 (by decide))) (hkg_j107 17 (by decide))) (Eq.trans (Eq.trans (kgv_14 19 (by decide)) (kgv_10 19 (by decide))) (hkg_j107 19 (by decide))) (Eq.trans (Eq.trans (kgv_14 20 (by decide)) (kgv_10 20 (by decide))) (hkg_j107 20 (by decide))) (Eq.trans (Eq.trans (kgv_14 22 (by decide)) (kgv_10 22 (by decide))) (hkg_j107 22 (by decide))) (Eq.trans (Eq.trans (kgv_14 25 (by decide)) (kgv_10 25 (by decide))) (hkg_j107 25 (by decide))) (Eq.trans (Eq.trans (kgv_14 26 (by decide)) (kgv_10 26 (by decide))) (hkg_j107 26 (by decide))) (Eq.trans (Eq.trans (kgv_14 27 (by decide)) (kgv_10 27 (by decide))) (hkg_j107 27 (by decide))) (Eq.trans (Eq.trans (kgv_14 29 (by decide)) (kgv_10 29 (by decide))) (hkg_j107 29 (by decide))) (Eq.trans (Eq.trans (kgv_14 41 (by decide)) (kgv_10 41 (by decide))) (hkg_j107 41 (by decide))) (Eq.trans (Eq.trans (kgv_14 44 (by decide)) (kgv_10 44 (by decide))) (hkg_j107 44 (by decide))) (Eq.trans (Eq.trans (kgv_14 45 (by decide)) (kgv_10 45 (by decide))) (hkg_j107 45 (by decide))) (Eq.trans (Eq.trans (kgv_14 46 (by decide)) (kgv_10 46 (by decide))) (hkg_j107 46 (by decide))) (Eq.trans (Eq.trans (kgv_14 57 (by decide)) (kgv_10 57 (by decide))) (hkg_j107 57 (by decide))) rfl rfl) (by rw [show sgv_14 12 = sg 12 from (Eq.trans (Eq.trans (ksv_14 12 (by decide)) (ksv_10 12 (by decide))) (hks_j107 12 (by decide)))]; exact hb12) (by have q1 := fS_r_11.1; rw [(show gmv_10 41 = gm 41 from (Eq.trans (kgv_10 41 (by decide)) (hkg_j107 41 (by decide))))] at q1; rw [(show gmv_14 41 = gm 41 from (Eq.trans (kgv_14 41 (by decide)) (Eq.trans (kgv_10 41 (by decide)) (hkg_j107 41 (by decide)))))]; exact q1) (by have q1 := fS_r_11.2; rw [(show gmv_10 41 = gm 41 from (Eq.trans (kgv_10 41 (by decide)) (hkg_j107 41 (by decide))))] at q1; rw [(show gmv_14 41 = gm 41 from (Eq.trans (kgv_14 41 (by decide)) (Eq.trans (kgv_10 41 (by decide)) (hkg_j107 41 (by decide)))))]; exact q1) (by have q1 := fC_r_11; rw [(show gmv_10 7 = gm 7 from (Eq.trans (kgv_10 7 (by decide)) (hkg_j107 7 (by decide)))), (show gmv_10 41 = gm 41 from (Eq.trans (kgv_10 41 (by decide)) (hkg_j107 41 (by decide))))] at q1; rw [(show gmv_14 7 = gm 7 from (Eq.trans (kgv_14 7 (by decide)) (Eq.trans (kgv_10 7 (by decide)) (hkg_j107 7 (by decide))))), (show gmv_14 41 = gm 41 from (Eq.trans (kgv_14 41 (by decide)) (Eq.trans (kgv_10 41 (by decide)) (hkg_j107 41 (by decide)))))]; exact q1) ((st9_ks (L := [37, 38, 39, 48, 49, 50, 51, 52, 53]) (KS_tr (L := [37, 38, 39, 48, 49, 50, 51, 52, 53]) (KS_tr (L := [37, 38, 39, 48, 49, 50, 51, 52, 53]) (KS_tr (L := [37, 38, 39, 48, 49, 50, 51, 52, 53]) KS_rf hkg_j107 (by decide)) kgv_10 (by decide)) kgv_14 (by decide)) (by decide)).trans hSW) (RC_ks (L := [17, 18]) (M := [53]) hR_r_7 (KS_tr (L := [17, 18]) KS_rf ksv_14 (by decide)) (KS_tr (L := [53]) KS_rf kgv_14 (by decide)) (by decide) (by decide)) (VA_e hv_r_7 (Nat.le_refl _) (show gmv_14 52 = gmv_10 52 from (kgv_14 52 (by decide)))) fX_r_11) (cwV 3 htb (gd_V kw_950 kw_951 kw_63 kw_159 kw_1548) rfl rfl rfl (by decide +kernel) ⟨(show 7 + 1 ≤ 20 + 8 * (n9 + 1) from by omega), (show 8 + (7 + 11) + (141) ≤ 600 + 260 * (n9 + 1) from by omega)⟩) hsx0_107 (by decide) (by decide) rfl rfl hl.1 rfl (Nat.le_trans cs_n (by decide)) dX5_make_126 ⟨Nat.le_of_ble_eq_true rfl, Nat.le_of_ble_eq_true rfl⟩ hK hP hD hS hA hG (fun E ce q9 u_16 H locs hw hP hD hS hce hcv hcl => ?_) (fun v9 u_16 H locs hw hP hD hS => ?_)
    · obtain ⟨hE, hw⟩ := hw
      obtain ⟨sgv_17, gmv_17, lgv_17, rfl, hIv_17, ksv_17, kgv_17, klv_17, x39_v_17, xB_v_17, xR_v_17⟩ := hw
      obtain rfl := KS_nil klv_17
      have hP : va_P (dC, dI) vwCl (cW ad cid a2 lx sgv_17 gmv_17 lg) H := hP
      have hD : va_D A (cW ad cid a2 lx sgv_17 gmv_17 lg) := hD
      have hMOx := MOK_e (MOK_e fMO_r_7 (show sgv_14 12 = sgv_10 12 from (ksv_14 12 (by decide))) (show gmv_14 35 = gmv_10 35 from (kgv_14 35 (by decide))) (show gmv_14 38 = gmv_10 38 from (kgv_14 38 (by decide))) (show gmv_14 39 = gmv_10 39 from (kgv_14 39 (by decide))) rfl) (show sgv_17 12 = sgv_14 12 from (ksv_17 12 (by decide))) (show gmv_17 35 = gmv_14 35 from (kgv_17 35 (by decide))) (show gmv_17 38 = gmv_14 38 from (kgv_17 38 (by decide))) (x39_v_17.trans rfl) rfl
      exact vx_out (fun x hx9 => (hxt x hx9).elim) hlocks hce hcv hcl (fun t ht hal => ⟨⟨(sgv_17, gmv_17, lg), ⟨hE, sgv_17, gmv_17, lg, rfl, hIv_17, (KS_tr (L := [13, 14, 15, 16, 17, 18]) (KS_tr (L := [13, 14, 15, 16, 17, 18]) (KS_tr (L := [13, 14, 15, 16, 17, 18]) (KS_tr (L := [13, 14, 15, 16, 17, 18]) KS_rf hks_j107 (by decide)) ksv_10 (by decide)) ksv_14 (by decide)) ksv_17 (by decide)), (KS_tr (L := [37, 38, 39, 48, 49, 50, 51, 52, 53]) (KS_tr (L := [37, 38, 39, 48, 49, 50, 51, 52, 53]) (KS_tr (L := [37, 38, 39, 48, 49, 50, 51, 52, 53]) (KS_tr (L := [37, 38, 39, 48, 49, 50, 51, 52, 53]) KS_rf hkg_j107 (by decide)) kgv_10 (by decide)) kgv_14 (by decide)) kgv_17 (by decide)), KS_rf, (hMOx), ((FND9_e fFN_r_7 (show sgv_17 15 = sgv_10 15 from (Eq.trans (ksv_17 15 (by decide)) (ksv_14 15 (by decide)))) (show gmv_17 51 = gmv_10 51 from (Eq.trans (kgv_17 51 (by decide)) (kgv_14 51 (by decide)))))), (⟨S_r_7, (by rw [oMK_2 (RC_z0 hRC (lt_cl hvb (show iv 0 80 (sg 12) from CI_s hI 12) (by decide) (by decide) hb12) hb0d), hE107, r2_a hE_r_7, r3_x xB_v_17]), xR_v_17⟩)⟩, by rw [ht]; exact hP, va_K.moved hal hK, hD⟩, hS.F ht⟩) hS.2.2 (Nat.le_of_ble_eq_true rfl) (Nat.le_of_ble_eq_true rfl)
    obtain ⟨rfl, sgv_18, gmv_18, lgv_18, rfl, hIv_18, ksv_18, kgv_18, klv_18, f39_r_15, fB_r_15⟩ := hw
    obtain rfl := KS_nil klv_18
    have hP : va_P (dC, dI) vwCl (cW ad cid a2 lx sgv_18 gmv_18 lg) H := hP
    have hD : va_D A (cW ad cid a2 lx sgv_18 gmv_18 lg) := hD
    refine W.eq (g2 := F0 m 129 ls []) rfl ?_
    obtain ⟨nb9, h39e, h39p⟩ := f39_r_15
    have hMOb : MOK sgv_18 gmv_18 lg := MOK_u (MOK_e fMO_r_7 (show sgv_14 12 = sgv_10 12 from (ksv_14 12 (by decide))) (show gmv_14 35 = gmv_10 35 from (kgv_14 35 (by decide))) (show gmv_14 38 = gmv_10 38 from (kgv_14 38 (by decide))) (show gmv_14 39 = gmv_10 39 from (kgv_14 39 (by decide))) rfl) (show sgv_18 12 = sgv_14 12 from (ksv_18 12 (by decide))) (show gmv_18 35 = gmv_14 35 from (kgv_18 35 (by decide))) (show gmv_18 38 = gmv_14 38 from (kgv_18 38 (by decide))) h39e rfl (Or.inl h39p)
    have hBMt : BMb b.toNatClampNeg gm gmv_18 := BMb_u (v := 0) (BMb_u (v := 0) (w := 0) bb_r_7 (Or.inl (show gmv_14 37 = gmv_10 37 from (kgv_14 37 (by decide)))) (Or.inl (show gmv_14 39 = gmv_10 39 from (kgv_14 39 (by decide))))) (Or.inl (show gmv_18 37 = gmv_14 37 from (kgv_18 37 (by decide)))) (Or.inr h39e)
    have n39b : 0 ≤ (gmv_18 39 b.toNatClampNeg).toInt := by rw [h39e, upd_at]; exact h39p
    obtain ⟨o_r_15, S_r_15, hE_r_15, hR_r_15, h9_r_15, hl_r_15, f14_r_15⟩ := fB_r_15
    have m14_r_15 : (sg 14).toInt ≤ (sgv_18 14).toInt := Int.le_trans (by rw [(show sgv_14 14 = sgv_10 14 from (ksv_14 14 (by decide)))]; exact m14_r_7) f14_r_15
    refine ec_aload_n hx hb dX5_make_129 rfl (lv_at hl 2 rfl) ?_
    refine ec_aload_n hx hb dX5_make_130 rfl (lv_at hl 3 rfl) ?_
    refine lv_iload_n hx hb dX5_make_131 rfl (lv_at hl 4 rfl) ?_
    refine cm_callV (t := 6) (C := RX5) (T := TX5) (N := 13) (rest := []) (as := [eV (ad 10) b, .int dp]) ⟨hx, hb, hml, hown, htb⟩ (d_applySets9 l dC dI ad cid a2 lx sgv_18 gmv_18 lg hl9 n9 HO HM x b dp wg ws S_r_15 o_r_15 hIv_18 hsx0_107 hsx1_107 hsx2_107 (WRD_e hW (Eq.trans (Eq.trans (Eq.trans (ksv_18 4 (by decide)) (ksv_14 4 (by decide))) (ksv_10 4 (by decide))) (hks_j107 4 (by decide))) (Eq.trans (Eq.trans (Eq.trans (ksv_18 12 (by decide)) (ksv_14 12 (by decide))) (ksv_10 12 (by decide))) (hks_j107 12 (by decide))) (Eq.trans (Eq.trans (Eq.trans (kgv_18 14 (by decide)) (kgv_14 14 (by decide))) (kgv_10 14 (by decide))) (hkg_j107 14 (by decide))) (Eq.trans (Eq.trans (Eq.trans (kgv_18 15 (by decide)) (kgv_14 15 (by decide))) (kgv_10 15 (by decide))) (hkg_j107 15 (by decide))) (Eq.trans (Eq.trans (Eq.trans (kgv_18 16 (by decide)) (kgv_14 16 (by decide))) (kgv_10 16 (by decide))) (hkg_j107 16 (by decide))) (Eq.trans (Eq.trans (Eq.trans (kgv_18 17 (by decide)) (kgv_14 17 (by decide))) (kgv_10 17 (by decide))) (hkg_j107 17 (by decide))) (Eq.trans (Eq.trans (Eq.trans (kgv_18 19 (by decide)) (kgv_14 19 (by decide))) (kgv_10 19 (by decide))) (hkg_j107 19 (by decide))) (Eq.trans (Eq.trans (Eq.trans (kgv_18 20 (by decide)) (kgv_14 20 (by decide))) (kgv_10 20 (by decide))) (hkg_j107 20 (by decide))) (Eq.trans (Eq.trans (Eq.trans (kgv_18 22 (by decide)) (kgv_14 22 (by decide))) (kgv_10 22 (by decide))) (hkg_j107 22 (by decide))) (Eq.trans (Eq.trans (Eq.trans (kgv_18 25 (by decide)) (kgv_14 25 (by decide))) (kgv_10 25 (by decide))) (hkg_j107 25 (by decide))) (Eq.trans (Eq.trans (Eq.trans (kgv_18 26 (by decide)) (kgv_14 26 (by decide))) (kgv_10 26 (by decide))) (hkg_j107 26 (by decide))) (Eq.trans (Eq.trans (Eq.trans (kgv_18 27 (by decide)) (kgv_14 27 (by decide))) (kgv_10 27 (by decide))) (hkg_j107 27 (by decide))) (Eq.trans (Eq.trans (Eq.trans (kgv_18 29 (by decide)) (kgv_14 29 (by decide))) (kgv_10 29 (by decide))) (hkg_j107 29 (by decide))) (Eq.trans (Eq.trans (Eq.trans (kgv_18 41 (by decide)) (kgv_14 41 (by decide))) (kgv_10 41 (by decide))) (hkg_j107 41 (by decide))) (Eq.trans (Eq.trans (Eq.trans (kgv_18 44 (by decide)) (kgv_14 44 (by decide))) (kgv_10 44 (by decide))) (hkg_j107 44 (by decide))) (Eq.trans (Eq.trans (Eq.trans (kgv_18 45 (by decide)) (kgv_14 45 (by decide))) (kgv_10 45 (by decide))) (hkg_j107 45 (by decide))) (Eq.trans (Eq.trans (Eq.trans (kgv_18 46 (by decide)) (kgv_14 46 (by decide))) (kgv_10 46 (by decide))) (hkg_j107 46 (by decide))) (Eq.trans (Eq.trans (Eq.trans (kgv_18 57 (by decide)) (kgv_14 57 (by decide))) (kgv_10 57 (by decide))) (hkg_j107 57 (by decide))) rfl rfl) (LDI_e hLD (Eq.trans (Eq.trans (Eq.trans (kgv_18 41 (by decide)) (kgv_14 41 (by decide))) (kgv_10 41 (by decide))) (hkg_j107 41 (by decide))) (Eq.trans (Eq.trans (Eq.trans (kgv_18 42 (by decide)) (kgv_14 42 (by decide))) (kgv_10 42 (by decide))) (hkg_j107 42 (by decide))) (Eq.trans (Eq.trans (Eq.trans (kgv_18 57 (by decide)) (kgv_14 57 (by decide))) (kgv_10 57 (by decide))) (hkg_j107 57 (by decide)))) hMOb (FND9_e (FND9_e fFN_r_7 (show sgv_14 15 = sgv_10 15 from (ksv_14 15 (by decide))) (show gmv_14 51 = gmv_10 51 from (kgv_14 51 (by decide)))) (show sgv_18 15 = sgv_14 15 from (ksv_18 15 (by decide))) (show gmv_18 51 = gmv_14 51 from (kgv_18 51 (by decide)))) (by rw [show sgv_18 12 = sg 12 from (Eq.trans (Eq.trans (Eq.trans (ksv_18 12 (by decide)) (ksv_14 12 (by decide))) (ksv_10 12 (by decide))) (hks_j107 12 (by decide)))]; exact hb12) (by rw [(show gmv_18 37 = gmv_14 37 from (kgv_18 37 (by decide)))]; exact (by rw [(show gmv_14 37 = gmv_10 37 from (kgv_14 37 (by decide)))]; exact n37_r_7)) n39b (by have := i32_0; have := i32_1; have := i32_2; have := i32_m1; have := (hsx0_107).1; have := (hsx0_107).2; have := (hsx1_107).1; have := (hsx1_107).2; have := (hsx2_107).1; have := (hsx2_107).2; have := (hsx3_107).1; have := (hsx3_107).2; have := (hy0_107).1; have := (hy0_107).2; have := (hr_11).1; have := (hr_11).2; omega) ((st9_ks (L := [37, 38, 39, 48, 49, 50, 51, 52, 53]) (KS_tr (L := [37, 38, 39, 48, 49, 50, 51, 52, 53]) (KS_tr (L := [37, 38, 39, 48, 49, 50, 51, 52, 53]) (KS_tr (L := [37, 38, 39, 48, 49, 50, 51, 52, 53]) (KS_tr (L := [37, 38, 39, 48, 49, 50, 51, 52, 53]) KS_rf hkg_j107 (by decide)) kgv_10 (by decide)) kgv_14 (by decide)) kgv_18 (by decide)) (by decide)).trans hSW) ((ss9_ks (L := [13, 14, 15, 16, 17, 18]) (KS_tr (L := [13, 14, 15, 16, 17, 18]) (KS_tr (L := [13, 14, 15, 16, 17, 18]) (KS_tr (L := [13, 14, 15, 16, 17, 18]) (KS_tr (L := [13, 14, 15, 16, 17, 18]) KS_rf hks_j107 (by decide)) ksv_10 (by decide)) ksv_14 (by decide)) ksv_18 (by decide)) rfl rfl).trans hSS) hSV hR_r_15 h9_r_15 hl_r_15) (cwV 2 htb (gd_V kw_958 kw_959 kw_66 kw_159 kw_1552) rfl rfl rfl (by decide +kernel) ⟨(show 27 + 8 * n9 + 1 ≤ 20 + 8 * (n9 + 1) from by omega), (show 8 + (8 + 11) + (800 + 260 * n9) ≤ 600 + 260 * (n9 + 1) from by omega)⟩) hsx0_107 (by decide) (by decide) rfl rfl hl.1 rfl (Nat.le_trans cs_n (by decide)) dX5_make_132 ⟨Nat.le_of_ble_eq_true rfl, Nat.le_of_ble_eq_true rfl⟩ hK hP hD hS hA hG (fun E ce q9 u_20 H locs hw hP hD hS hce hcv hcl => ?_) (fun v9 u_20 H locs hw hP hD hS => ?_)
    · obtain ⟨hE, hw⟩ := hw
      obtain ⟨sgv_21, gmv_21, lgv_21, rfl, hIv_21, ksv_21, kgv_21, klv_21, xMO_v_21, xFN_v_21, xT_v_21⟩ := hw
      obtain rfl := KS_nil klv_21
      have hP : va_P (dC, dI) vwCl (cW ad cid a2 lx sgv_21 gmv_21 lg) H := hP
      have hD : va_D A (cW ad cid a2 lx sgv_21 gmv_21 lg) := hD
      exact vx_out (fun x hx9 => (hxt x hx9).elim) hlocks hce hcv hcl (fun t ht hal => ⟨⟨(sgv_21, gmv_21, lg), ⟨hE, sgv_21, gmv_21, lg, rfl, hIv_21, (KS_tr (L := [13, 14, 15, 16, 17, 18]) (KS_tr (L := [13, 14, 15, 16, 17, 18]) (KS_tr (L := [13, 14, 15, 16, 17, 18]) (KS_tr (L := [13, 14, 15, 16, 17, 18]) (KS_tr (L := [13, 14, 15, 16, 17, 18]) KS_rf hks_j107 (by decide)) ksv_10 (by decide)) ksv_14 (by decide)) ksv_18 (by decide)) ksv_21 (by decide)), (KS_tr (L := [37, 38, 39, 48, 49, 50, 51, 52, 53]) (KS_tr (L := [37, 38, 39, 48, 49, 50, 51, 52, 53]) (KS_tr (L := [37, 38, 39, 48, 49, 50, 51, 52, 53]) (KS_tr (L := [37, 38, 39, 48, 49, 50, 51, 52, 53]) (KS_tr (L := [37, 38, 39, 48, 49, 50, 51, 52, 53]) KS_rf hkg_j107 (by decide)) kgv_10 (by decide)) kgv_14 (by decide)) kgv_18 (by decide)) kgv_21 (by decide)), KS_rf, (xMO_v_21), (xFN_v_21), ((by obtain ⟨S2, h1, h2⟩ := xT_v_21; exact ⟨S2, (by rw [oMK_2 (RC_z0 hRC (lt_cl hvb (show iv 0 80 (sg 12) from CI_s hI 12) (by decide) (by decide) hb12) hb0d), hE107, r2_a hE_r_7, r3_b hE_r_15, r4_x h1]), h2⟩))⟩, by rw [ht]; exact hP, va_K.moved hal hK, hD⟩, hS.F ht⟩) hS.2.2 (Nat.le_of_ble_eq_true rfl) (Nat.le_of_ble_eq_true rfl)
    obtain ⟨rfl, sgv_22, gmv_22, lgv_22, rfl, hIv_22, ksv_22, kgv_22, klv_22, fMO_r_19, fFN_r_19, fBM_r_19, fWF_r_19, f14_r_19, fT_r_19⟩ := hw
    obtain rfl := KS_nil klv_22
    have hP : va_P (dC, dI) vwCl (cW ad cid a2 lx sgv_22 gmv_22 lg) H := hP
    have hD : va_D A (cW ad cid a2 lx sgv_22 gmv_22 lg) := hD
    refine W.eq (g2 := F0 m 135 ls []) rfl ?_
    have bb_r_19 := BMb_t hBMt fBM_r_19
    have wf_r_19 : WFR (24 * dp.toNatClampNeg) gm gmv_22 := WFR_t (WFR_t wf_r_7 (WFR_e (d := 24 * dp.toNatClampNeg) (show gmv_18 52 = gmv_10 52 from (Eq.trans (kgv_18 52 (by decide)) (kgv_14 52 (by decide))))) (Nat.le_refl _)) fWF_r_19 (Nat.le_refl _)
    have n37_r_19 := bm_n (by rw [(show gmv_18 37 = gmv_14 37 from (kgv_18 37 (by decide)))]; exact (by rw [(show gmv_14 37 = gmv_10 37 from (kgv_14 37 (by decide)))]; exact n37_r_7)) fBM_r_19
    have n39_r_19 := bm_9 (by rw [(show gmv_18 37 = gmv_14 37 from (kgv_18 37 (by decide)))]; exact (by rw [(show gmv_14 37 = gmv_10 37 from (kgv_14 37 (by decide)))]; exact n37_r_7)) fBM_r_19 n39b
    obtain ⟨S_r_19, hE_r_19, hR_r_19⟩ := fT_r_19
    have m14_r_19 : (sg 14).toInt ≤ (sgv_22 14).toInt := Int.le_trans m14_r_15 f14_r_19
    have h9_r_19 : (gmv_22 39 b.toNatClampNeg).toInt = o_r_15 := by rw [(fBM_r_19 _ (by rw [(show gmv_18 37 = gmv_14 37 from (kgv_18 37 (by decide)))]; exact (by rw [(show gmv_14 37 = gmv_10 37 from (kgv_14 37 (by decide)))]; exact n37_r_7))).2]; exact h9_r_15
    have hl_r_19 : o_r_15 < (sgv_22 14).toInt := Int.lt_of_lt_of_le hl_r_15 f14_r_19
    refine ec_aload_n hx hb dX5_make_135 rfl (lv_at hl 3 rfl) ?_
    refine cr_get (t := 10) (j := 11) (C := RX1) (T := TX1) (N := 19) (v := .int (gmv_22 32 b.toNatClampNeg)) hx hb htb inX1 hown hK hP hsx1_107 (by decide) (by decide) (by decide) rfl (by decide) (htb _ kw_372) rfl dX5_make_136 ?_
    obtain ⟨z_23, ez_23⟩ : ∃ z : Int32, z = (gmv_22 32 b.toNatClampNeg) := ⟨_, rfl⟩
    refine W.eq (g2 := F0 m 139 ls [.int z_23]) (by rw [ez_23]) ?_
    have hz_23 : iv (-1) 25 z_23 := iv_of ez_23 (CI_a hIv_22 32 hsx1_107 (by decide))
    have ez_23 := ez_23.trans (congrFun (Eq.trans (Eq.trans (Eq.trans (Eq.trans (kgv_22 32 (by decide)) (kgv_18 32 (by decide))) (kgv_14 32 (by decide))) (kgv_10 32 (by decide))) (hkg_j107 32 (by decide))) _)
    refine lv_iconst (v := (-1)) hx hb dX5_make_139 (by decide) ?_
    refine lv_icmp_eq (tgt := 160) hx hb dX5_make_140 (by decide) (fun c_24 => ?_) (fun c_24 => ?_)
    · have h_25 : iv (-1) (-1) z_23 := iv_eq c_24 hz_23 (iv_k (by decide) : iv (-1) (-1) (-1)) (by decide)
      exact hj160 sgv_22 gmv_22 y0_107 hy0_107 hsx3_107 hsx0_107 hsx1_107 hsx2_107 (KS_tr (L := [13, 14, 15, 16, 17, 18]) (KS_tr (L := [13, 14, 15, 16, 17, 18]) (KS_tr (L := [13, 14, 15, 16, 17, 18]) (KS_tr (L := [13, 14, 15, 16, 17, 18]) (KS_tr (L := [13, 14, 15, 16, 17, 18]) KS_rf hks_j107 (by decide)) ksv_10 (by decide)) ksv_14 (by decide)) ksv_18 (by decide)) ksv_22 (by decide)) (KS_tr (L := [37, 38, 39, 48, 49, 50, 51, 52, 53]) (KS_tr (L := [37, 38, 39, 48, 49, 50, 51, 52, 53]) (KS_tr (L := [37, 38, 39, 48, 49, 50, 51, 52, 53]) (KS_tr (L := [37, 38, 39, 48, 49, 50, 51, 52, 53]) (KS_tr (L := [37, 38, 39, 48, 49, 50, 51, 52, 53]) KS_rf hkg_j107 (by decide)) kgv_10 (by decide)) kgv_14 (by decide)) kgv_18 (by decide)) kgv_22 (by decide)) hIv_22 (fMO_r_19) (fFN_r_19) (bb_r_19) (wf_r_19) (hb0d) (n37_r_19) (n39_r_19) (m14_r_19) (⟨o_r_15, S_r_19, (by rw [show oMB ws wg lg (oMK ws wg lg n9) b.toNatClampNeg S = (some o_r_15, oFi wg lg b.toNatClampNeg o_r_15 S_r_19) from (by rw [hE107, r2_a hE_r_7, r3_b hE_r_15, r4_s hE_r_19])]; unfold oFi; rw [oF1_n (by rw [(swt9 hSW ez_23 rfl)]; have := i32_0; have := i32_1; have := i32_2; have := i32_m1; have := (hsx0_107).1; have := (hsx0_107).2; have := (hsx1_107).1; have := (hsx1_107).2; have := (hsx2_107).1; have := (hsx2_107).2; have := (hsx3_107).1; have := (hsx3_107).2; have := (hy0_107).1; have := (hy0_107).2; have := (hr_11).1; have := (hr_11).2; have := (h_25).1; have := (h_25).2; omega)]), hR_r_19, h9_r_19, hl_r_19⟩) _ _ _ hP hD hS (lv_sub hl [0, 1, 2, 3, 4] rfl)
    · have h_26 : iv 0 25 z_23 := iv_neL c_24 hz_23 (by decide)
      refine ec_aload_n hx hb dX5_make_143 rfl (lv_at hl 2 rfl) ?_
      refine cr_get (t := 6) (j := 2) (C := RX5) (T := TX5) (N := 13) (v := eV (ad 5) 0) hx hb htb inX5 hown hK hP hsx0_107 (by decide) (by decide) (by decide) rfl (by decide) (htb _ kw_406) (cV_c rfl (by decide) (by rw [show cMu 6 2 = 0 from rfl, Nat.zero_mul]; rfl)) dX5_make_144 ?_
      refine lv_iconst (v := 5) hx hb dX5_make_147 (by decide) ?_
      refine ec_aload_n hx hb dX5_make_148 rfl (lv_at hl 3 rfl) ?_
      refine cr_get (t := 10) (j := 18) (C := RX1) (T := TX1) (N := 19) (v := .int (gmv_22 39 b.toNatClampNeg)) hx hb htb inX1 hown hK hP hsx1_107 (by decide) (by decide) (by decide) rfl (by decide) (htb _ kw_386) rfl dX5_make_149 ?_
      obtain ⟨z_27, ez_27⟩ : ∃ z : Int32, z = (gmv_22 39 b.toNatClampNeg) := ⟨_, rfl⟩
      refine W.eq (g2 := F0 m 152 ls [.int z_27, .int 5, eV (ad 5) 0]) (by rw [ez_27]) ?_
      have hz_27 : iv (-1) 59 z_27 := iv_of ez_27 (CI_a hIv_22 39 hsx1_107 (by decide))
      refine ec_aload_n hx hb dX5_make_152 rfl (lv_at hl 3 rfl) ?_
      refine cr_get (t := 10) (j := 11) (C := RX1) (T := TX1) (N := 19) (v := .int (gmv_22 32 b.toNatClampNeg)) hx hb htb inX1 hown hK hP hsx1_107 (by decide) (by decide) (by decide) rfl (by decide) (htb _ kw_372) rfl dX5_make_153 ?_
      refine W.eq (g2 := F0 m 156 ls [.int z_23, .int z_27, .int 5, eV (ad 5) 0]) (by rw [show (gmv_22 32 b.toNatClampNeg) = z_23 from (Eq.trans (congrFun (Eq.trans (Eq.trans (Eq.trans (Eq.trans (kgv_22 32 (by decide)) (kgv_18 32 (by decide))) (kgv_14 32 (by decide))) (kgv_10 32 (by decide))) (hkg_j107 32 (by decide))) _) ez_23.symm)]) ?_
      refine lv_iconst (v := 0) hx hb dX5_make_156 (by decide) ?_
      refine cm_callV (t := 5) (C := RX4) (T := TX4) (N := 2) (rest := []) (as := [.int 5, .int z_27, .int z_23, .int 0]) ⟨hx, hb, hml, hown, htb⟩ (d_addEv9 l dC dI ad cid a2 lx sgv_22 gmv_22 lg 0 5 z_27 z_23 0 wg S_r_19 hIv_22 (iv_k (by decide) : iv 0 0 0) hR_r_19) (cwV 4 htb (gd_V kw_487 kw_488 kw_489 kw_158 kw_1404) rfl rfl rfl (by decide +kernel) ⟨(show 0 + 1 ≤ 20 + 8 * (n9 + 1) from by omega), (show 8 + (6 + 11) + (0) ≤ 600 + 260 * (n9 + 1) from by omega)⟩) (iv_k (by decide) : iv 0 0 0) (by decide) (by decide) rfl rfl hl.1 rfl (Nat.le_trans cs_n (by decide)) dX5_make_157 ⟨Nat.le_of_ble_eq_true rfl, Nat.le_of_ble_eq_true rfl⟩ hK hP hD hS hA hG (fun E ce q9 u_29 H locs hw hP hD hS hce hcv hcl => ?_) (fun v9 u_29 H locs hw hP hD hS => ?_)
      · exact hw.elim
      obtain ⟨rfl, sgv_30, gmv_30, lgv_30, rfl, hIv_30, ksv_30, kgv_30, klv_30, fR_r_28⟩ := hw
      obtain rfl := KS_nil klv_30
      have hP : va_P (dC, dI) vwCl (cW ad cid a2 lx sgv_30 gmv_30 lg) H := hP
      have hD : va_D A (cW ad cid a2 lx sgv_30 gmv_30 lg) := hD
      refine W.eq (g2 := F0 m 160 ls []) rfl ?_
      exact hj160 sgv_30 gmv_30 y0_107 hy0_107 hsx3_107 hsx0_107 hsx1_107 hsx2_107 (KS_tr (L := [13, 14, 15, 16, 17, 18]) (KS_tr (L := [13, 14, 15, 16, 17, 18]) (KS_tr (L := [13, 14, 15, 16, 17, 18]) (KS_tr (L := [13, 14, 15, 16, 17, 18]) (KS_tr (L := [13, 14, 15, 16, 17, 18]) (KS_tr (L := [13, 14, 15, 16, 17, 18]) KS_rf hks_j107 (by decide)) ksv_10 (by decide)) ksv_14 (by decide)) ksv_18 (by decide)) ksv_22 (by decide)) ksv_30 (by decide)) (KS_tr (L := [37, 38, 39, 48, 49, 50, 51, 52, 53]) (KS_tr (L := [37, 38, 39, 48, 49, 50, 51, 52, 53]) (KS_tr (L := [37, 38, 39, 48, 49, 50, 51, 52, 53]) (KS_tr (L := [37, 38, 39, 48, 49, 50, 51, 52, 53]) (KS_tr (L := [37, 38, 39, 48, 49, 50, 51, 52, 53]) (KS_tr (L := [37, 38, 39, 48, 49, 50, 51, 52, 53]) KS_rf hkg_j107 (by decide)) kgv_10 (by decide)) kgv_14 (by decide)) kgv_18 (by decide)) kgv_22 (by decide)) kgv_30 (by decide)) hIv_30 ((MOK_e fMO_r_19 (show sgv_30 12 = sgv_22 12 from (ksv_30 12 (by decide))) (show gmv_30 35 = gmv_22 35 from (kgv_30 35 (by decide))) (show gmv_30 38 = gmv_22 38 from (kgv_30 38 (by decide))) (show gmv_30 39 = gmv_22 39 from (kgv_30 39 (by decide))) rfl)) ((FND9_e fFN_r_19 (show sgv_30 15 = sgv_22 15 from (ksv_30 15 (by decide))) (show gmv_30 51 = gmv_22 51 from (kgv_30 51 (by decide))))) ((BMb_u (v := 0) (w := 0) bb_r_19 (Or.inl (show gmv_30 37 = gmv_22 37 from (kgv_30 37 (by decide)))) (Or.inl (show gmv_30 39 = gmv_22 39 from (kgv_30 39 (by decide)))))) ((WFR_t wf_r_19 (WFR_e (d := 24 * dp.toNatClampNeg) (show gmv_30 52 = gmv_22 52 from (kgv_30 52 (by decide)))) (Nat.le_refl _))) (hb0d) ((by rw [(show gmv_30 37 = gmv_22 37 from (kgv_30 37 (by decide)))]; exact n37_r_19)) ((by rw [(show gmv_30 39 = gmv_22 39 from (kgv_30 39 (by decide)))]; exact n39_r_19)) ((by rw [(show sgv_30 14 = sgv_22 14 from (ksv_30 14 (by decide)))]; exact m14_r_19)) ((by refine ⟨o_r_15, zAdd S_r_19 (5, o_r_15, (wg 32 b.toNatClampNeg).toInt, 0), ?_, ?_, ?_, ?_⟩; (rw [show oMB ws wg lg (oMK ws wg lg n9) b.toNatClampNeg S = (some o_r_15, oFi wg lg b.toNatClampNeg o_r_15 S_r_19) from (by rw [hE107, r2_a hE_r_7, r3_b hE_r_15, r4_s hE_r_19])]; unfold oFi; rw [oF1_y (by rw [(swt9 hSW ez_23 rfl)]; have := i32_0; have := i32_1; have := i32_2; have := i32_m1; have := (hsx0_107).1; have := (hsx0_107).2; have := (hsx1_107).1; have := (hsx1_107).2; have := (hsx2_107).1; have := (hsx2_107).2; have := (hsx3_107).1; have := (hsx3_107).2; have := (hy0_107).1; have := (hy0_107).2; have := (hr_11).1; have := (hr_11).2; have := (h_26).1; have := (h_26).2; have := (hz_27).1; have := (hz_27).2; omega)]); (have q9 := fR_r_28; rw [show z_27.toInt = o_r_15 from (congrArg Int32.toInt ez_27).trans h9_r_19, show z_23.toInt = (wg 32 b.toNatClampNeg).toInt from (congrArg Int32.toInt (swt9 hSW ez_23 rfl)).symm] at q9; exact q9); (rw [(show gmv_30 39 = gmv_22 39 from (kgv_30 39 (by decide)))]; exact h9_r_19); (rw [(show sgv_30 14 = sgv_22 14 from (ksv_30 14 (by decide)))]; exact hl_r_19))) _ _ _ hP hD hS (lv_sub hl [0, 1, 2, 3, 4] rfl)
  have hj60 : ∀ (sg_j60 : Nat → Int32) (gm_j60 : Nat → Nat → Int32) (_ : iv (-1) 79 (sg 16)) (_ : iv 0 0 x) (_ : iv 0 79 b) (_ : iv 0 39 dp) (_ : KS [13, 14, 15, 16, 17, 18] sg sg_j60) (_ : KS [37, 38, 39, 48, 49, 50, 51, 52, 53] gm gm_j60) (_ : CI sg_j60 gm_j60) (_ : MOK sg_j60 gm_j60 lg) (_ : FND9 sg_j60 gm_j60) (_ : BMb b.toNatClampNeg gm gm_j60) (_ : WFR (24 * dp.toNatClampNeg) gm gm_j60) (_ : gm 37 b.toNatClampNeg = 0) (_ : ¬ gm_j60 37 b.toNatClampNeg = 0) (_ : (sg 14).toInt ≤ (sg_j60 14).toInt) (_ : ∃ S2, oMB ws wg lg (oMK ws wg lg n9) b.toNatClampNeg S = r1 ws wg lg (oMK ws wg lg n9) b.toNatClampNeg S2 ∧ RC wg lg S2 sg_j60 gm_j60) (H : Heap) (locs : List Loc) (ls : Array Slot), va_P (dC, dI) vwCl (cW ad cid a2 lx sg_j60 gm_j60 lg) H → va_D A (cW ad cid a2 lx sg_j60 gm_j60 lg) → va_S A s.heap H locs → lv_has ls 5 [(3, eV (ad 10) (sg 16)), (0, eV (ad 6) x), (1, eV (ad 10) b), (2, .int dp)] → W p l e (headSpec wm_X5_make ({ frames := 20 + 8 * (n9 + 1), cells := 1, slots := 6, locals := 600 + 260 * (n9 + 1) })).room s m ([eV (ad 6) x, eV (ad 10) b, .int dp] : List Value).toArray below meth c H locs 0 0 (vx_MQ below (cQx dC dI ad cid a2 lx (fun v u => ∃ r : Int32, v = some (.int r) ∧ ∃ (sg2 : Nat → Int32) (gm2 : Nat → Nat → Int32) (lg2 : Nat → Nat → Int64), u = (sg2, gm2, lg2) ∧ CI sg2 gm2 ∧ KS [13, 14, 15, 16, 17, 18] sg sg2 ∧ KS [37, 38, 39, 48, 49, 50, 51, 52, 53] gm gm2 ∧ KS [] lg lg2 ∧ (iv 0 59 r) ∧ (MOK sg2 gm2 lg2) ∧ (FND9 sg2 gm2) ∧ (BMK gm gm2) ∧ (WFR (24 * dp.toNatClampNeg) gm gm2) ∧ ((sg 14).toInt ≤ (sg2 14).toInt) ∧ (r.toInt < (sg2 14).toInt) ∧ (∃ S2, oMK ws wg lg (n9 + 1) b.toNatClampNeg S = (some r.toInt, S2) ∧ RC wg lg S2 sg2 gm2)) A) (cX dC dI ad cid a2 lx (fun E u => (E = "java/lang/UnsupportedOperationException") ∧ ∃ (sg2 : Nat → Int32) (gm2 : Nat → Nat → Int32) (lg2 : Nat → Nat → Int64), u = (sg2, gm2, lg2) ∧ CI sg2 gm2 ∧ KS [13, 14, 15, 16, 17, 18] sg sg2 ∧ KS [37, 38, 39, 48, 49, 50, 51, 52, 53] gm gm2 ∧ KS [] lg lg2 ∧ (MOK sg2 gm2 lg2) ∧ (FND9 sg2 gm2) ∧ (∃ S2, oMK ws wg lg (n9 + 1) b.toNatClampNeg S = (none, S2) ∧ RC wg lg S2 sg2 gm2)) A) ([eV (ad 6) x, eV (ad 10) b, .int dp] : List Value).toArray s 1 6 A) (F0 m 60 ls []) := by
    intro sg_j60 gm_j60 hsx3_60 hsx0_60 hsx1_60 hsx2_60 hks_j60 hkg_j60 hI_j60 hMOc hFNc hBBc hWFc hb0c h37c h14c hX60 H locs ls hP hD hS hl
    obtain ⟨S60, hE60, hR60⟩ := hX60
    refine ec_aload_n hx hb dX5_make_60 rfl (lv_at hl 2 rfl) ?_
    refine cr_get (t := 10) (j := 9) (C := RX1) (T := TX1) (N := 19) (v := .int (gm_j60 30 b.toNatClampNeg)) hx hb htb inX1 hown hK hP hsx1_60 (by decide) (by decide) (by decide) rfl (by decide) (htb _ kw_368) rfl dX5_make_61 ?_
    obtain ⟨z_31, ez_31⟩ : ∃ z : Int32, z = (gm_j60 30 b.toNatClampNeg) := ⟨_, rfl⟩
    refine W.eq (g2 := F0 m 64 ls [.int z_31]) (by rw [ez_31]) ?_
    have hz_31 : iv (-1) 7 z_31 := iv_of ez_31 (CI_a hI_j60 30 hsx1_60 (by decide))
    have ez_31 := ez_31.trans (congrFun (hkg_j60 30 (by decide)) _)
    refine lv_iconst (v := (-1)) hx hb dX5_make_64 (by decide) ?_
    refine lv_icmp_ne (tgt := 83) hx hb dX5_make_65 (by decide) (fun c_32 => ?_) (fun c_32 => ?_)
    · have h_33 : iv 0 7 z_31 := iv_neL c_32 hz_31 (by decide)
      refine ec_aload_n hx hb dX5_make_83 rfl (lv_at hl 2 rfl) ?_
      refine cr_get (t := 10) (j := 8) (C := RX1) (T := TX1) (N := 19) (v := .long (lg 7 b.toNatClampNeg)) hx hb htb inX1 hown hK hP hsx1_60 (by decide) (by decide) (by decide) rfl (by decide) (htb _ kw_366) rfl dX5_make_84 ?_
      refine lv_topl (fun z_34 ez_34 => ?_)
      refine lv_lconst (v := 0) hx hb dX5_make_87 (by decide) ?_
      refine W.lcmp hx hb dX5_make_88 ?_
      refine lv_topi (fun z_35 ez_35 => ?_)
      have hz_35 : iv (-1) 1 z_35 := iv_of ez_35 (iv_cmp _ _)
      refine lv_if_ne (tgt := 96) hx hb dX5_make_89 (by decide) (fun c_36 => ?_) (fun c_36 => ?_)
      · have d_37 : ¬ (z_35 : Int32).toInt = 0 := lv_neT c_36 rfl
        refine ec_aload_n hx hb dX5_make_96 rfl (lv_at hl 1 rfl) ?_
        refine ec_aload_n hx hb dX5_make_97 rfl (lv_at hl 2 rfl) ?_
        refine cr_get (t := 10) (j := 8) (C := RX1) (T := TX1) (N := 19) (v := .long (lg 7 b.toNatClampNeg)) hx hb htb inX1 hown hK hP hsx1_60 (by decide) (by decide) (by decide) rfl (by decide) (htb _ kw_366) rfl dX5_make_98 ?_
        refine lv_topl (fun z_38 ez_38 => ?_)
        refine lv_iload_n hx hb dX5_make_101 rfl (lv_at hl 3 rfl) ?_
        refine lv_iconst (v := 1) hx hb dX5_make_102 (by decide) ?_
        refine lv_iadd hx hb dX5_make_103 ?_
        refine lv_topi (fun z_39 ez_39 => ?_)
        have hz_39 : iv 1 40 z_39 := iv_of ez_39 (iv_add hsx2_60 (iv_k (by decide) : iv 1 1 1) (by decide))
        have tz_39 : z_39.toInt = (dp : Int32).toInt + 1 := by rw [ez_39]; exact iv_addE hsx2_60 (iv_k (by decide) : iv 1 1 1) (by decide)
        refine cm_callV (t := 6) (C := RX5) (T := TX5) (N := 13) (rest := []) (as := [.long z_38, .int z_39]) ⟨hx, hb, hml, hown, htb⟩ (HO sg_j60 gm_j60 lg x z_38 z_39 wg ws S60 hI_j60 hsx0_60 (iv_w hz_39 (by decide)) (WRD_e hW (hks_j60 4 (by decide)) (hks_j60 12 (by decide)) (hkg_j60 14 (by decide)) (hkg_j60 15 (by decide)) (hkg_j60 16 (by decide)) (hkg_j60 17 (by decide)) (hkg_j60 19 (by decide)) (hkg_j60 20 (by decide)) (hkg_j60 22 (by decide)) (hkg_j60 25 (by decide)) (hkg_j60 26 (by decide)) (hkg_j60 27 (by decide)) (hkg_j60 29 (by decide)) (hkg_j60 41 (by decide)) (hkg_j60 44 (by decide)) (hkg_j60 45 (by decide)) (hkg_j60 46 (by decide)) (hkg_j60 57 (by decide)) rfl rfl) (LDI_e hLD (hkg_j60 41 (by decide)) (hkg_j60 42 (by decide)) (hkg_j60 57 (by decide))) hMOc hFNc (by have := i32_0; have := i32_1; have := i32_2; have := i32_m1; have := (hsx0_60).1; have := (hsx0_60).2; have := (hsx1_60).1; have := (hsx1_60).2; have := (hsx2_60).1; have := (hsx2_60).2; have := (hsx3_60).1; have := (hsx3_60).2; have := (h_33).1; have := (h_33).2; have := (hz_35).1; have := (hz_35).2; have := (hz_39).1; have := (hz_39).2; omega) ((st9_ks (L := [37, 38, 39, 48, 49, 50, 51, 52, 53]) (KS_tr (L := [37, 38, 39, 48, 49, 50, 51, 52, 53]) KS_rf hkg_j60 (by decide)) (by decide)).trans hSW) ((ss9_ks (L := [13, 14, 15, 16, 17, 18]) (KS_tr (L := [13, 14, 15, 16, 17, 18]) KS_rf hks_j60 (by decide)) rfl rfl).trans hSS) hSV hR60) (cwV 2 htb (gd_V kw_891 kw_892 kw_48 kw_159 kw_1527) rfl rfl rfl (by decide +kernel) ⟨(show 22 + 8 * n9 + 1 ≤ 20 + 8 * (n9 + 1) from by omega), (show 8 + (5 + 11) + (640 + 260 * n9) ≤ 600 + 260 * (n9 + 1) from by omega)⟩) hsx0_60 (by decide) (by decide) rfl rfl hl.1 rfl (Nat.le_trans cs_n (by decide)) dX5_make_104 ⟨Nat.le_of_ble_eq_true rfl, Nat.le_of_ble_eq_true rfl⟩ hK hP hD hS hA hG (fun E ce q9 u_41 H locs hw hP hD hS hce hcv hcl => ?_) (fun v9 u_41 H locs hw hP hD hS => ?_)
        · obtain ⟨hE, hw⟩ := hw
          obtain ⟨sgv_42, gmv_42, lgv_42, rfl, hIv_42, ksv_42, kgv_42, klv_42, xMO_v_42, xFN_v_42, xG_v_42⟩ := hw
          obtain rfl := KS_nil klv_42
          have hP : va_P (dC, dI) vwCl (cW ad cid a2 lx sgv_42 gmv_42 lg) H := hP
          have hD : va_D A (cW ad cid a2 lx sgv_42 gmv_42 lg) := hD
          exact vx_out (fun x hx9 => (hxt x hx9).elim) hlocks hce hcv hcl (fun t ht hal => ⟨⟨(sgv_42, gmv_42, lg), ⟨hE, sgv_42, gmv_42, lg, rfl, hIv_42, (KS_tr (L := [13, 14, 15, 16, 17, 18]) (KS_tr (L := [13, 14, 15, 16, 17, 18]) KS_rf hks_j60 (by decide)) ksv_42 (by decide)), (KS_tr (L := [37, 38, 39, 48, 49, 50, 51, 52, 53]) (KS_tr (L := [37, 38, 39, 48, 49, 50, 51, 52, 53]) KS_rf hkg_j60 (by decide)) kgv_42 (by decide)), KS_rf, (xMO_v_42), (xFN_v_42), ((by obtain ⟨S2, h1, h2⟩ := xG_v_42; exact ⟨S2, (by rw [oMK_2 (RC_z0 hRC (lt_cl hvb (show iv 0 80 (sg 12) from CI_s hI 12) (by decide) (by decide) hb12) hb0c), hE60]; exact r1_x (fun q9 => c_36 (by rw [ez_35]; exact (lg_cmp_eq _ _).mpr (ez_34.trans q9))) (by rw [← ez_38]; exact h1)), h2⟩))⟩, by rw [ht]; exact hP, va_K.moved hal hK, hD⟩, hS.F ht⟩) hS.2.2 (Nat.le_of_ble_eq_true rfl) (Nat.le_of_ble_eq_true rfl)
        obtain ⟨r_40, rfl, sgv_43, gmv_43, lgv_43, rfl, hIv_43, ksv_43, kgv_43, klv_43, hr_40, fMO_r_40, fFN_r_40, fBM_r_40, fWF_r_40, f14_r_40, fr_r_40, fG_r_40⟩ := hw
        obtain rfl := KS_nil klv_43
        have hP : va_P (dC, dI) vwCl (cW ad cid a2 lx sgv_43 gmv_43 lg) H := hP
        have hD : va_D A (cW ad cid a2 lx sgv_43 gmv_43 lg) := hD
        refine W.eq (g2 := F0 m 107 ls [.int r_40]) rfl ?_
        have bb_r_40 := BMb_t hBBc fBM_r_40
        have wf_r_40 : WFR (24 * dp.toNatClampNeg) gm gmv_43 := WFR_t hWFc fWF_r_40 (by have q1 : z_39.toNatClampNeg = z_39.toInt.toNat := rfl; have q2 : dp.toNatClampNeg = dp.toInt.toNat := rfl; have := i32_0; have := i32_1; have := i32_2; have := i32_m1; have := (hsx0_60).1; have := (hsx0_60).2; have := (hsx1_60).1; have := (hsx1_60).2; have := (hsx2_60).1; have := (hsx2_60).2; have := (hsx3_60).1; have := (hsx3_60).2; have := (h_33).1; have := (h_33).2; have := (hz_35).1; have := (hz_35).2; have := (hz_39).1; have := (hz_39).2; have := (hr_40).1; have := (hr_40).2; omega)
        have n37_r_40 := bm_n h37c fBM_r_40
        obtain ⟨S_r_40, hE_r_40, hR_r_40⟩ := fG_r_40
        have m14_r_40 : (sg 14).toInt ≤ (sgv_43 14).toInt := Int.le_trans h14c f14_r_40
        exact hj107 sgv_43 gmv_43 r_40 hsx3_60 hsx0_60 hsx1_60 hsx2_60 (iv_w hr_40 (by decide)) (KS_tr (L := [13, 14, 15, 16, 17, 18]) (KS_tr (L := [13, 14, 15, 16, 17, 18]) KS_rf hks_j60 (by decide)) ksv_43 (by decide)) (KS_tr (L := [37, 38, 39, 48, 49, 50, 51, 52, 53]) (KS_tr (L := [37, 38, 39, 48, 49, 50, 51, 52, 53]) KS_rf hkg_j60 (by decide)) kgv_43 (by decide)) hIv_43 (fMO_r_40) (fFN_r_40) (bb_r_40) (wf_r_40) (hb0c) (n37_r_40) (fun q9 => absurd q9 (by have := i32_0; have := i32_1; have := i32_2; have := i32_m1; have := (hsx0_60).1; have := (hsx0_60).2; have := (hsx1_60).1; have := (hsx1_60).2; have := (hsx2_60).1; have := (hsx2_60).2; have := (hsx3_60).1; have := (hsx3_60).2; have := (h_33).1; have := (h_33).2; have := (hz_35).1; have := (hz_35).2; have := (hz_39).1; have := (hz_39).2; have := (hr_40).1; have := (hr_40).2; have := (hr_40).1; omega)) (m14_r_40) (⟨S_r_40, (by rw [hE60]; exact r1_1 (fun q9 => c_36 (by rw [ez_35]; exact (lg_cmp_eq _ _).mpr (ez_34.trans q9))) (by rw [← ez_38]; exact hE_r_40)), hR_r_40⟩) ((fun _ => fr_r_40)) _ _ _ hP hD hS (lv_sub hl [0, 1, 2, 3] rfl)
      · have h_44 : iv 0 0 z_35 := iv_eq c_36 hz_35 (iv_k (by decide) : iv 0 0 0) (by decide)
        refine lv_iconst (v := (-1)) hx hb dX5_make_92 (by decide) ?_
        refine lv_goto (tgt := 107) hx hb dX5_make_93 (by decide) ?_
        exact hj107 sg_j60 gm_j60 (-1) hsx3_60 hsx0_60 hsx1_60 hsx2_60 (iv_w (iv_k (by decide) : iv (-1) (-1) (-1)) (by decide)) (KS_tr (L := [13, 14, 15, 16, 17, 18]) KS_rf hks_j60 (by decide)) (KS_tr (L := [37, 38, 39, 48, 49, 50, 51, 52, 53]) KS_rf hkg_j60 (by decide)) hI_j60 (hMOc) (hFNc) (hBBc) (hWFc) (hb0c) (h37c) (fun _ => by { rw [← ez_31]; have := i32_0; have := i32_1; have := i32_2; have := i32_m1; have := (hsx0_60).1; have := (hsx0_60).2; have := (hsx1_60).1; have := (hsx1_60).2; have := (hsx2_60).1; have := (hsx2_60).2; have := (hsx3_60).1; have := (hsx3_60).2; have := (h_33).1; have := (h_33).2; have := (h_44).1; have := (h_44).2; have := (h_33).1; omega }) (h14c) (⟨S60, (by have h30 := (show (-1 : Int32).toInt = -1 → 0 ≤ (gm 30 b.toNatClampNeg).toInt from fun _ => by { rw [← ez_31]; have := i32_0; have := i32_1; have := i32_2; have := i32_m1; have := (hsx0_60).1; have := (hsx0_60).2; have := (hsx1_60).1; have := (hsx1_60).2; have := (hsx2_60).1; have := (hsx2_60).2; have := (hsx3_60).1; have := (hsx3_60).2; have := (h_33).1; have := (h_33).2; have := (h_44).1; have := (h_44).2; have := (h_33).1; omega }) (by decide); rw [hE60, r1_0 (by rw [sw9 hSW 30 rfl]; omega) (ez_34.symm.trans ((lg_cmp_eq _ _).mp (by rw [← ez_35]; exact c_36)))]; rfl), hR60⟩) ((fun q9 => absurd q9 (by decide))) _ _ _ hP hD hS (lv_sub hl [0, 1, 2, 3] rfl)
    · have h_45 : iv (-1) (-1) z_31 := iv_eq c_32 hz_31 (iv_k (by decide) : iv (-1) (-1) (-1)) (by decide)
      refine ec_aload_n hx hb dX5_make_68 rfl (lv_at hl 2 rfl) ?_
      refine cr_get (t := 10) (j := 8) (C := RX1) (T := TX1) (N := 19) (v := .long (lg 7 b.toNatClampNeg)) hx hb htb inX1 hown hK hP hsx1_60 (by decide) (by decide) (by decide) rfl (by decide) (htb _ kw_366) rfl dX5_make_69 ?_
      refine lv_topl (fun z_46 ez_46 => ?_)
      refine lv_lconst (v := 0) hx hb dX5_make_72 (by decide) ?_
      refine W.lcmp hx hb dX5_make_73 ?_
      refine lv_topi (fun z_47 ez_47 => ?_)
      have hz_47 : iv (-1) 1 z_47 := iv_of ez_47 (iv_cmp _ _)
      refine lv_if_ne (tgt := 83) hx hb dX5_make_74 (by decide) (fun c_48 => ?_) (fun c_48 => ?_)
      · have d_49 : ¬ (z_47 : Int32).toInt = 0 := lv_neT c_48 rfl
        refine ec_aload_n hx hb dX5_make_83 rfl (lv_at hl 2 rfl) ?_
        refine cr_get (t := 10) (j := 8) (C := RX1) (T := TX1) (N := 19) (v := .long (lg 7 b.toNatClampNeg)) hx hb htb inX1 hown hK hP hsx1_60 (by decide) (by decide) (by decide) rfl (by decide) (htb _ kw_366) rfl dX5_make_84 ?_
        refine lv_topl (fun z_50 ez_50 => ?_)
        refine lv_lconst (v := 0) hx hb dX5_make_87 (by decide) ?_
        refine W.lcmp hx hb dX5_make_88 ?_
        refine lv_topi (fun z_51 ez_51 => ?_)
        have hz_51 : iv (-1) 1 z_51 := iv_of ez_51 (iv_cmp _ _)
        refine lv_if_ne (tgt := 96) hx hb dX5_make_89 (by decide) (fun c_52 => ?_) (fun c_52 => ?_)
        · have d_53 : ¬ (z_51 : Int32).toInt = 0 := lv_neT c_52 rfl
          refine ec_aload_n hx hb dX5_make_96 rfl (lv_at hl 1 rfl) ?_
          refine ec_aload_n hx hb dX5_make_97 rfl (lv_at hl 2 rfl) ?_
          refine cr_get (t := 10) (j := 8) (C := RX1) (T := TX1) (N := 19) (v := .long (lg 7 b.toNatClampNeg)) hx hb htb inX1 hown hK hP hsx1_60 (by decide) (by decide) (by decide) rfl (by decide) (htb _ kw_366) rfl dX5_make_98 ?_
          refine lv_topl (fun z_54 ez_54 => ?_)
          refine lv_iload_n hx hb dX5_make_101 rfl (lv_at hl 3 rfl) ?_
          refine lv_iconst (v := 1) hx hb dX5_make_102 (by decide) ?_
          refine lv_iadd hx hb dX5_make_103 ?_
          refine lv_topi (fun z_55 ez_55 => ?_)
          have hz_55 : iv 1 40 z_55 := iv_of ez_55 (iv_add hsx2_60 (iv_k (by decide) : iv 1 1 1) (by decide))
          have tz_55 : z_55.toInt = (dp : Int32).toInt + 1 := by rw [ez_55]; exact iv_addE hsx2_60 (iv_k (by decide) : iv 1 1 1) (by decide)
          refine cm_callV (t := 6) (C := RX5) (T := TX5) (N := 13) (rest := []) (as := [.long z_54, .int z_55]) ⟨hx, hb, hml, hown, htb⟩ (HO sg_j60 gm_j60 lg x z_54 z_55 wg ws S60 hI_j60 hsx0_60 (iv_w hz_55 (by decide)) (WRD_e hW (hks_j60 4 (by decide)) (hks_j60 12 (by decide)) (hkg_j60 14 (by decide)) (hkg_j60 15 (by decide)) (hkg_j60 16 (by decide)) (hkg_j60 17 (by decide)) (hkg_j60 19 (by decide)) (hkg_j60 20 (by decide)) (hkg_j60 22 (by decide)) (hkg_j60 25 (by decide)) (hkg_j60 26 (by decide)) (hkg_j60 27 (by decide)) (hkg_j60 29 (by decide)) (hkg_j60 41 (by decide)) (hkg_j60 44 (by decide)) (hkg_j60 45 (by decide)) (hkg_j60 46 (by decide)) (hkg_j60 57 (by decide)) rfl rfl) (LDI_e hLD (hkg_j60 41 (by decide)) (hkg_j60 42 (by decide)) (hkg_j60 57 (by decide))) hMOc hFNc (by have := i32_0; have := i32_1; have := i32_2; have := i32_m1; have := (hsx0_60).1; have := (hsx0_60).2; have := (hsx1_60).1; have := (hsx1_60).2; have := (hsx2_60).1; have := (hsx2_60).2; have := (hsx3_60).1; have := (hsx3_60).2; have := (h_45).1; have := (h_45).2; have := (hz_47).1; have := (hz_47).2; have := (hz_51).1; have := (hz_51).2; have := (hz_55).1; have := (hz_55).2; omega) ((st9_ks (L := [37, 38, 39, 48, 49, 50, 51, 52, 53]) (KS_tr (L := [37, 38, 39, 48, 49, 50, 51, 52, 53]) KS_rf hkg_j60 (by decide)) (by decide)).trans hSW) ((ss9_ks (L := [13, 14, 15, 16, 17, 18]) (KS_tr (L := [13, 14, 15, 16, 17, 18]) KS_rf hks_j60 (by decide)) rfl rfl).trans hSS) hSV hR60) (cwV 2 htb (gd_V kw_891 kw_892 kw_48 kw_159 kw_1527) rfl rfl rfl (by decide +kernel) ⟨(show 22 + 8 * n9 + 1 ≤ 20 + 8 * (n9 + 1) from by omega), (show 8 + (5 + 11) + (640 + 260 * n9) ≤ 600 + 260 * (n9 + 1) from by omega)⟩) hsx0_60 (by decide) (by decide) rfl rfl hl.1 rfl (Nat.le_trans cs_n (by decide)) dX5_make_104 ⟨Nat.le_of_ble_eq_true rfl, Nat.le_of_ble_eq_true rfl⟩ hK hP hD hS hA hG (fun E ce q9 u_57 H locs hw hP hD hS hce hcv hcl => ?_) (fun v9 u_57 H locs hw hP hD hS => ?_)
          · obtain ⟨hE, hw⟩ := hw
            obtain ⟨sgv_58, gmv_58, lgv_58, rfl, hIv_58, ksv_58, kgv_58, klv_58, xMO_v_58, xFN_v_58, xG_v_58⟩ := hw
            obtain rfl := KS_nil klv_58
            have hP : va_P (dC, dI) vwCl (cW ad cid a2 lx sgv_58 gmv_58 lg) H := hP
            have hD : va_D A (cW ad cid a2 lx sgv_58 gmv_58 lg) := hD
            exact vx_out (fun x hx9 => (hxt x hx9).elim) hlocks hce hcv hcl (fun t ht hal => ⟨⟨(sgv_58, gmv_58, lg), ⟨hE, sgv_58, gmv_58, lg, rfl, hIv_58, (KS_tr (L := [13, 14, 15, 16, 17, 18]) (KS_tr (L := [13, 14, 15, 16, 17, 18]) KS_rf hks_j60 (by decide)) ksv_58 (by decide)), (KS_tr (L := [37, 38, 39, 48, 49, 50, 51, 52, 53]) (KS_tr (L := [37, 38, 39, 48, 49, 50, 51, 52, 53]) KS_rf hkg_j60 (by decide)) kgv_58 (by decide)), KS_rf, (xMO_v_58), (xFN_v_58), ((by obtain ⟨S2, h1, h2⟩ := xG_v_58; exact ⟨S2, (by rw [oMK_2 (RC_z0 hRC (lt_cl hvb (show iv 0 80 (sg 12) from CI_s hI 12) (by decide) (by decide) hb12) hb0c), hE60]; exact r1_x (fun q9 => c_52 (by rw [ez_51]; exact (lg_cmp_eq _ _).mpr (ez_50.trans q9))) (by rw [← ez_54]; exact h1)), h2⟩))⟩, by rw [ht]; exact hP, va_K.moved hal hK, hD⟩, hS.F ht⟩) hS.2.2 (Nat.le_of_ble_eq_true rfl) (Nat.le_of_ble_eq_true rfl)
          obtain ⟨r_56, rfl, sgv_59, gmv_59, lgv_59, rfl, hIv_59, ksv_59, kgv_59, klv_59, hr_56, fMO_r_56, fFN_r_56, fBM_r_56, fWF_r_56, f14_r_56, fr_r_56, fG_r_56⟩ := hw
          obtain rfl := KS_nil klv_59
          have hP : va_P (dC, dI) vwCl (cW ad cid a2 lx sgv_59 gmv_59 lg) H := hP
          have hD : va_D A (cW ad cid a2 lx sgv_59 gmv_59 lg) := hD
          refine W.eq (g2 := F0 m 107 ls [.int r_56]) rfl ?_
          have bb_r_56 := BMb_t hBBc fBM_r_56
          have wf_r_56 : WFR (24 * dp.toNatClampNeg) gm gmv_59 := WFR_t hWFc fWF_r_56 (by have q1 : z_55.toNatClampNeg = z_55.toInt.toNat := rfl; have q2 : dp.toNatClampNeg = dp.toInt.toNat := rfl; have := i32_0; have := i32_1; have := i32_2; have := i32_m1; have := (hsx0_60).1; have := (hsx0_60).2; have := (hsx1_60).1; have := (hsx1_60).2; have := (hsx2_60).1; have := (hsx2_60).2; have := (hsx3_60).1; have := (hsx3_60).2; have := (h_45).1; have := (h_45).2; have := (hz_47).1; have := (hz_47).2; have := (hz_51).1; have := (hz_51).2; have := (hz_55).1; have := (hz_55).2; have := (hr_56).1; have := (hr_56).2; omega)
          have n37_r_56 := bm_n h37c fBM_r_56
          obtain ⟨S_r_56, hE_r_56, hR_r_56⟩ := fG_r_56
          have m14_r_56 : (sg 14).toInt ≤ (sgv_59 14).toInt := Int.le_trans h14c f14_r_56
          exact hj107 sgv_59 gmv_59 r_56 hsx3_60 hsx0_60 hsx1_60 hsx2_60 (iv_w hr_56 (by decide)) (KS_tr (L := [13, 14, 15, 16, 17, 18]) (KS_tr (L := [13, 14, 15, 16, 17, 18]) KS_rf hks_j60 (by decide)) ksv_59 (by decide)) (KS_tr (L := [37, 38, 39, 48, 49, 50, 51, 52, 53]) (KS_tr (L := [37, 38, 39, 48, 49, 50, 51, 52, 53]) KS_rf hkg_j60 (by decide)) kgv_59 (by decide)) hIv_59 (fMO_r_56) (fFN_r_56) (bb_r_56) (wf_r_56) (hb0c) (n37_r_56) (fun q9 => absurd q9 (by have := i32_0; have := i32_1; have := i32_2; have := i32_m1; have := (hsx0_60).1; have := (hsx0_60).2; have := (hsx1_60).1; have := (hsx1_60).2; have := (hsx2_60).1; have := (hsx2_60).2; have := (hsx3_60).1; have := (hsx3_60).2; have := (h_45).1; have := (h_45).2; have := (hz_47).1; have := (hz_47).2; have := (hz_51).1; have := (hz_51).2; have := (hz_55).1; have := (hz_55).2; have := (hr_56).1; have := (hr_56).2; have := (hr_56).1; omega)) (m14_r_56) (⟨S_r_56, (by rw [hE60]; exact r1_1 (fun q9 => c_52 (by rw [ez_51]; exact (lg_cmp_eq _ _).mpr (ez_50.trans q9))) (by rw [← ez_54]; exact hE_r_56)), hR_r_56⟩) ((fun _ => fr_r_56)) _ _ _ hP hD hS (lv_sub hl [0, 1, 2, 3] rfl)
        · have h_60 : iv 0 0 z_51 := iv_eq c_52 hz_51 (iv_k (by decide) : iv 0 0 0) (by decide)
          refine lv_iconst (v := (-1)) hx hb dX5_make_92 (by decide) ?_
          refine lv_goto (tgt := 107) hx hb dX5_make_93 (by decide) ?_
          exact hj107 sg_j60 gm_j60 (-1) hsx3_60 hsx0_60 hsx1_60 hsx2_60 (iv_w (iv_k (by decide) : iv (-1) (-1) (-1)) (by decide)) (KS_tr (L := [13, 14, 15, 16, 17, 18]) KS_rf hks_j60 (by decide)) (KS_tr (L := [37, 38, 39, 48, 49, 50, 51, 52, 53]) KS_rf hkg_j60 (by decide)) hI_j60 (hMOc) (hFNc) (hBBc) (hWFc) (hb0c) (h37c) (fun _ => absurd (show z_46 = z_50 from ez_46.trans ez_50.symm) (fun q9 => absurd c_48 (by rw [ez_47, q9]; have q8 := c_52; rw [ez_51] at q8; exact fun q7 => q7 q8))) (h14c) (⟨S60, (by have h30 := (show (-1 : Int32).toInt = -1 → 0 ≤ (gm 30 b.toNatClampNeg).toInt from fun _ => absurd (show z_46 = z_50 from ez_46.trans ez_50.symm) (fun q9 => absurd c_48 (by rw [ez_47, q9]; have q8 := c_52; rw [ez_51] at q8; exact fun q7 => q7 q8))) (by decide); rw [hE60, r1_0 (by rw [sw9 hSW 30 rfl]; omega) (ez_50.symm.trans ((lg_cmp_eq _ _).mp (by rw [← ez_51]; exact c_52)))]; rfl), hR60⟩) ((fun q9 => absurd q9 (by decide))) _ _ _ hP hD hS (lv_sub hl [0, 1, 2, 3] rfl)
      · have h_61 : iv 0 0 z_47 := iv_eq c_48 hz_47 (iv_k (by decide) : iv 0 0 0) (by decide)
        refine ec_aload_n hx hb dX5_make_77 rfl (lv_at hl 1 rfl) ?_
        refine lv_iconst (v := 4) hx hb dX5_make_78 (by decide) ?_
        refine cm_callV (t := 6) (C := RX5) (T := TX5) (N := 13) (rest := []) (as := [.int 4]) ⟨hx, hb, hml, hown, htb⟩ (d_failWith l dC dI ad cid a2 lx sg_j60 gm_j60 lg hl9 x 4 hI_j60 hsx0_60 (iv_w (iv_k (by decide) : iv 4 4 4) (by decide))) (cwV 1 htb (gd_V kw_899 kw_900 kw_50 kw_159 kw_1530) rfl rfl rfl (by decide +kernel) ⟨(show 6 + 1 ≤ 20 + 8 * (n9 + 1) from by omega), (show 8 + (2 + 11) + (120) ≤ 600 + 260 * (n9 + 1) from by omega)⟩) hsx0_60 (by decide) (by decide) rfl rfl hl.1 rfl (Nat.le_trans cs_n (by decide)) dX5_make_79 ⟨Nat.le_of_ble_eq_true rfl, Nat.le_of_ble_eq_true rfl⟩ hK hP hD hS hA hG (fun E ce q9 u_63 H locs hw hP hD hS hce hcv hcl => ?_) (fun v9 u_63 H locs hw hP hD hS => ?_)
        · obtain ⟨hE, hw⟩ := hw
          obtain ⟨sgv_64, gmv_64, lgv_64, rfl, hIv_64, ksv_64, kgv_64, klv_64⟩ := hw
          obtain rfl := KS_nil kgv_64
          obtain rfl := KS_nil klv_64
          have hP : va_P (dC, dI) vwCl (cW ad cid a2 lx sgv_64 gm_j60 lg) H := hP
          have hD : va_D A (cW ad cid a2 lx sgv_64 gm_j60 lg) := hD
          exact vx_out (fun x hx9 => (hxt x hx9).elim) hlocks hce hcv hcl (fun t ht hal => ⟨⟨(sgv_64, gm_j60, lg), ⟨hE, sgv_64, gm_j60, lg, rfl, hIv_64, (KS_tr (L := [13, 14, 15, 16, 17, 18]) (KS_tr (L := [13, 14, 15, 16, 17, 18]) KS_rf hks_j60 (by decide)) ksv_64 (by decide)), (KS_tr (L := [37, 38, 39, 48, 49, 50, 51, 52, 53]) KS_rf hkg_j60 (by decide)), KS_rf, ((MOK_e hMOc (show sgv_64 12 = sg_j60 12 from (ksv_64 12 (by decide))) rfl rfl rfl rfl)), ((FND9_e hFNc (show sgv_64 15 = sg_j60 15 from (ksv_64 15 (by decide))) rfl)), (⟨S60, (by rw [oMK_2 (RC_z0 hRC (lt_cl hvb (show iv 0 80 (sg 12) from CI_s hI 12) (by decide) (by decide) hb12) hb0c), hE60]; exact r1_4 ⟨by rw [(swt9 hSW ez_31 rfl)]; have := i32_0; have := i32_1; have := i32_2; have := i32_m1; have := (hsx0_60).1; have := (hsx0_60).2; have := (hsx1_60).1; have := (hsx1_60).2; have := (hsx2_60).1; have := (hsx2_60).2; have := (hsx3_60).1; have := (hsx3_60).2; have := (h_45).1; have := (h_45).2; have := (h_61).1; have := (h_61).2; omega, (ez_46.symm.trans ((lg_cmp_eq _ _).mp (by rw [← ez_47]; exact c_48)))⟩), (RC_ks (L := [17, 18]) (M := []) hR60 (KS_tr (L := [17, 18]) KS_rf ksv_64 (by decide)) KS_rf (by decide) (by decide))⟩)⟩, by rw [ht]; exact hP, va_K.moved hal hK, hD⟩, hS.F ht⟩) hS.2.2 (Nat.le_of_ble_eq_true rfl) (Nat.le_of_ble_eq_true rfl)
        obtain ⟨r_62, rfl, sgv_65, gmv_65, lgv_65, rfl, hIv_65, ksv_65, kgv_65, klv_65, fF_r_62⟩ := hw
        obtain rfl := KS_nil kgv_65
        obtain rfl := KS_nil klv_65
        have hP : va_P (dC, dI) vwCl (cW ad cid a2 lx sgv_65 gm_j60 lg) H := hP
        have hD : va_D A (cW ad cid a2 lx sgv_65 gm_j60 lg) := hD
        exact fF_r_62.elim
  refine ec_aload_n hx hb dX5_make_0 rfl (lv_at hl 1 rfl) ?_
  refine cr_get (t := 10) (j := 16) (C := RX1) (T := TX1) (N := 19) (v := .int (gm 37 b.toNatClampNeg)) hx hb htb inX1 hown hK hP hvb (by decide) (by decide) (by decide) rfl (by decide) (htb _ kw_382) rfl dX5_make_1 ?_
  obtain ⟨z_66, ez_66⟩ : ∃ z : Int32, z = (gm 37 b.toNatClampNeg) := ⟨_, rfl⟩
  refine W.eq (g2 := F0 m 4 ls [.int z_66]) (by rw [ez_66]) ?_
  have hz_66 : iv 0 1 z_66 := iv_of ez_66 (CI_a hI 37 hvb (by decide))
  refine lv_if_ne (tgt := 13) hx hb dX5_make_4 (by decide) (fun c_67 => ?_) (fun c_67 => ?_)
  · have h_68 : iv 1 1 z_66 := iv_neL c_67 hz_66 (by decide)
    refine ec_aload_n hx hb dX5_make_13 rfl (lv_at hl 0 rfl) ?_
    refine lv_iconst (v := 3) hx hb dX5_make_14 (by decide) ?_
    refine cm_callV (t := 6) (C := RX5) (T := TX5) (N := 13) (rest := []) (as := [.int 3]) ⟨hx, hb, hml, hown, htb⟩ (d_failWith l dC dI ad cid a2 lx sg gm lg hl9 x 3 hI hvx (iv_w (iv_k (by decide) : iv 3 3 3) (by decide))) (cwV 1 htb (gd_V kw_899 kw_900 kw_50 kw_159 kw_1530) rfl rfl rfl (by decide +kernel) ⟨(show 6 + 1 ≤ 20 + 8 * (n9 + 1) from by omega), (show 8 + (2 + 11) + (120) ≤ 600 + 260 * (n9 + 1) from by omega)⟩) hvx (by decide) (by decide) rfl rfl hl.1 rfl (Nat.le_trans cs_n (by decide)) dX5_make_15 ⟨Nat.le_of_ble_eq_true rfl, Nat.le_of_ble_eq_true rfl⟩ hK hP hD hS hA hG (fun E ce q9 u_70 H locs hw hP hD hS hce hcv hcl => ?_) (fun v9 u_70 H locs hw hP hD hS => ?_)
    · obtain ⟨hE, hw⟩ := hw
      obtain ⟨sgv_71, gmv_71, lgv_71, rfl, hIv_71, ksv_71, kgv_71, klv_71⟩ := hw
      obtain rfl := KS_nil kgv_71
      obtain rfl := KS_nil klv_71
      have hP : va_P (dC, dI) vwCl (cW ad cid a2 lx sgv_71 gm lg) H := hP
      have hD : va_D A (cW ad cid a2 lx sgv_71 gm lg) := hD
      exact vx_out (fun x hx9 => (hxt x hx9).elim) hlocks hce hcv hcl (fun t ht hal => ⟨⟨(sgv_71, gm, lg), ⟨hE, sgv_71, gm, lg, rfl, hIv_71, (KS_tr (L := [13, 14, 15, 16, 17, 18]) KS_rf ksv_71 (by decide)), KS_rf, KS_rf, ((MOK_e hMO (show sgv_71 12 = sg 12 from (ksv_71 12 (by decide))) rfl rfl rfl rfl)), ((FND9_e hFN (show sgv_71 15 = sg 15 from (ksv_71 15 (by decide))) rfl)), (⟨S, oMK_1 (RC_z1 hRC (lt_cl hvb (show iv 0 80 (sg 12) from CI_s hI 12) (by decide) (by decide) hb12) (fun q9 => absurd (congrArg Int32.toInt (ez_66.trans q9)) (by have := i32_0; have := i32_0; have := i32_1; have := i32_2; have := i32_m1; have := (hvx).1; have := (hvx).2; have := (hvb).1; have := (hvb).2; have := (hd39).1; have := (hd39).2; have := (h_68).1; have := (h_68).2; omega))), (RC_ks (L := [17, 18]) (M := []) hRC (KS_tr (L := [17, 18]) KS_rf ksv_71 (by decide)) KS_rf (by decide) (by decide))⟩)⟩, by rw [ht]; exact hP, va_K.moved hal hK, hD⟩, hS.F ht⟩) hS.2.2 (Nat.le_of_ble_eq_true rfl) (Nat.le_of_ble_eq_true rfl)
    obtain ⟨r_69, rfl, sgv_72, gmv_72, lgv_72, rfl, hIv_72, ksv_72, kgv_72, klv_72, fF_r_69⟩ := hw
    obtain rfl := KS_nil kgv_72
    obtain rfl := KS_nil klv_72
    have hP : va_P (dC, dI) vwCl (cW ad cid a2 lx sgv_72 gm lg) H := hP
    have hD : va_D A (cW ad cid a2 lx sgv_72 gm lg) := hD
    exact fF_r_69.elim
  · have h_73 : iv 0 0 z_66 := iv_eq c_67 hz_66 (iv_k (by decide) : iv 0 0 0) (by decide)
    refine lv_iload_n hx hb dX5_make_7 rfl (lv_at hl 2 rfl) ?_
    refine lv_bipush (v := 40) hx hb dX5_make_8 (by decide) ?_
    refine lv_icmp_lt (tgt := 19) hx hb dX5_make_10 (by decide) (fun c_74 => ?_) (fun c_74 => ?_)
    · have hb0 : gm 37 b.toNatClampNeg = 0 := by rw [← ez_66]; exact Int32.toInt_inj.mp (by have := i32_0; have := i32_0; have := i32_1; have := i32_2; have := i32_m1; have := (hvx).1; have := (hvx).2; have := (hvb).1; have := (hvb).2; have := (hd39).1; have := (hd39).2; have := (h_73).1; have := (h_73).2; omega)
      refine ec_aload_n hx hb dX5_make_19 rfl (lv_at hl 0 rfl) ?_
      refine cr_get (t := 6) (j := 10) (C := RX5) (T := TX5) (N := 13) (v := eV (ad 10) (sg 16)) hx hb htb inX5 hown hK hP hvx (by decide) (by decide) (by decide) rfl (by decide) (htb _ kw_414) rfl dX5_make_20 ?_
      refine ec_astore_n (i := 3) (lv' := [(3, eV (ad 10) (sg 16)), (0, eV (ad 6) x), (1, eV (ad 10) b), (2, .int dp)]) hx hb dX5_make_23 rfl hl (by decide) rfl (fun ls hl => ?_)
      refine ec_aload_n hx hb dX5_make_24 rfl (lv_at hl 1 rfl) ?_
      refine ec_aload_n hx hb dX5_make_25 rfl (lv_at hl 2 rfl) ?_
      refine cr_puts (t := 6) (j := 10) (C := RX5) (T := TX5) (N := 13) (ty0 := tyX5) (k := 16) (y := b) hx hb htb inX5 tyX5_ok nmX5 hown hK hP hD hS hvx (by decide) (by decide) (by decide) (by decide) rfl rfl rfl (by decide) (htb _ kw_414) rfl (by show eV (ad 10) b = eV (ad 10) (va_up sg 16 b 16); rw [va_up_self]) (ev_n _) (ev_f _) dX5_make_26 (fun sg_75 H locs esg_75 hP hD hS => ?_)
      have hI_sg_75 := CI_put hI esg_75 hvb (by decide)
      refine ec_aload_n hx hb dX5_make_29 rfl (lv_at hl 2 rfl) ?_
      refine lv_iconst (v := 1) hx hb dX5_make_30 (by decide) ?_
      refine cr_putg (t := 10) (j := 16) (C := RX1) (T := TX1) (N := 19) (ty0 := tyX1) (k := 37) (y := 1) hx hb htb inX1 tyX1_ok nmX1 hown hK hP hD hS hvb (by decide) (by decide) (by decide) (by decide) rfl rfl (by decide) (htb _ kw_382) rfl (by show Value.int 1 = Value.int (va_up gm 37 (upd (gm 37) b.toNatClampNeg 1) 37 b.toNatClampNeg); rw [va_up_self, upd_at]) (iv_nb (iv_w (iv_k (by decide) : iv 1 1 1) (by decide))) (iv_fb (iv_w (iv_k (by decide) : iv 1 1 1) (by decide))) dX5_make_31 (fun gm_76 H locs egm_76 hP hD hS => ?_)
      have hI_gm_76 := CI_st hI_sg_75 egm_76 (iv_k (by decide) : iv 1 1 1) (by decide)
      refine ec_aload_n hx hb dX5_make_34 rfl (lv_at hl 2 rfl) ?_
      refine lv_iconst (v := (-1)) hx hb dX5_make_35 (by decide) ?_
      refine cr_putg (t := 10) (j := 18) (C := RX1) (T := TX1) (N := 19) (ty0 := tyX1) (k := 39) (y := (-1)) hx hb htb inX1 tyX1_ok nmX1 hown hK hP hD hS hvb (by decide) (by decide) (by decide) (by decide) rfl rfl (by decide) (htb _ kw_386) rfl (by show Value.int (-1) = Value.int (va_up gm_76 39 (upd (gm_76 39) b.toNatClampNeg (-1)) 39 b.toNatClampNeg); rw [va_up_self, upd_at]) rfl rfl dX5_make_36 (fun gm_77 H locs egm_77 hP hD hS => ?_)
      have hI_gm_77 := CI_st hI_gm_76 egm_77 (iv_k (by decide) : iv (-1) (-1) (-1)) (by decide)
      have hMOa : MOK sg_75 gm_77 lg := MOK_u hMO (up_ne esg_75 (by decide)) (Eq.trans (up_ne egm_77 (by decide)) (up_ne egm_76 (by decide))) (Eq.trans (up_ne egm_77 (by decide)) (up_ne egm_76 (by decide))) (show gm_77 39 = upd (gm 39) (b : Int32).toNatClampNeg (-1) from ((up_at egm_77).trans (by rw [show gm_76 39 = gm 39 from ((up_ne egm_76 (by decide)).trans rfl)]))) rfl (Or.inr hnm)
      have h37a : ¬ gm_77 37 b.toNatClampNeg = 0 := by rw [(show gm_77 37 = upd (gm 37) (b : Int32).toNatClampNeg 1 from ((up_ne egm_77 (by decide)).trans ((up_at egm_76).trans (by rw [show gm 37 = gm 37 from rfl])))), upd_at]; decide
      have hBMa : BMb b.toNatClampNeg gm gm_77 := BMb_u BMb_rf (Or.inr (show gm_77 37 = upd (gm 37) (b : Int32).toNatClampNeg 1 from ((up_ne egm_77 (by decide)).trans ((up_at egm_76).trans (by rw [show gm 37 = gm 37 from rfl]))))) (Or.inr (show gm_77 39 = upd (gm 39) (b : Int32).toNatClampNeg (-1) from ((up_at egm_77).trans (by rw [show gm_76 39 = gm 39 from ((up_ne egm_76 (by decide)).trans rfl)]))))
      have hWFa : WFR (24 * dp.toNatClampNeg) gm gm_77 := WFR_e (Eq.trans (up_ne egm_77 (by decide)) (up_ne egm_76 (by decide)))
      have hRa : RC wg lg (oBe b.toNatClampNeg S) sg_75 gm_77 := RC_be hRC (lt_cl hvb (show iv 0 80 (sg 12) from CI_s hI 12) (by decide) (by decide) hb12) hb0 (fun q1 q2 => hnm q1 (by rw [← show wg 35 b.toNatClampNeg = gm 35 b.toNatClampNeg from sw9 hSW 35 rfl _]; exact q2)) (up_ne esg_75 (by decide)) (up_ne esg_75 (by decide)) (up_ne esg_75 (by decide)) (up_ne esg_75 (by decide)) (KS_up (KS_up KS_rf egm_76 (by decide)) egm_77 (by decide)) (show gm_77 37 = upd (gm 37) (b : Int32).toNatClampNeg 1 from ((up_ne egm_77 (by decide)).trans ((up_at egm_76).trans (by rw [show gm 37 = gm 37 from rfl])))) (by decide) (show gm_77 39 = upd (gm 39) (b : Int32).toNatClampNeg (-1) from ((up_at egm_77).trans (by rw [show gm_76 39 = gm 39 from ((up_ne egm_76 (by decide)).trans rfl)]))) (by decide)
      refine ec_aload_n hx hb dX5_make_39 rfl (lv_at hl 2 rfl) ?_
      refine cr_get (t := 10) (j := 7) (C := RX1) (T := TX1) (N := 19) (v := .long (lg 6 b.toNatClampNeg)) hx hb htb inX1 hown hK hP hvb (by decide) (by decide) (by decide) rfl (by decide) (htb _ kw_364) rfl dX5_make_40 ?_
      refine lv_topl (fun z_78 ez_78 => ?_)
      refine lv_lconst (v := 0) hx hb dX5_make_43 (by decide) ?_
      refine W.lcmp hx hb dX5_make_44 ?_
      refine lv_topi (fun z_79 ez_79 => ?_)
      have hz_79 : iv (-1) 1 z_79 := iv_of ez_79 (iv_cmp _ _)
      refine lv_if_eq (tgt := 60) hx hb dX5_make_45 (by decide) (fun c_80 => ?_) (fun c_80 => ?_)
      · have h_81 : iv 0 0 z_79 := iv_eq c_80 hz_79 (iv_k (by decide) : iv 0 0 0) (by decide)
        exact hj60 sg_75 gm_77 (show iv (-1) 79 (sg 16) from CI_s hI 16) hvx hvb hd39 (KS_up KS_rf esg_75 (by decide)) (KS_up (KS_up KS_rf egm_76 (by decide)) egm_77 (by decide)) hI_gm_77 (hMOa) ((FND9_e hFN (show sg_75 15 = sg 15 from (up_ne esg_75 (by decide))) (show gm_77 51 = gm 51 from (Eq.trans (up_ne egm_77 (by decide)) (up_ne egm_76 (by decide)))))) (hBMa) (hWFa) (hb0) (h37a) ((by rw [(show sg_75 14 = sg 14 from (up_ne esg_75 (by decide)))]; exact (Int.le_refl _))) (⟨_, oMB_0 (ez_78.symm.trans ((lg_cmp_eq _ _).mp (by rw [← ez_79]; exact c_80))), hRa⟩) _ _ _ hP hD hS (lv_sub hl [0, 1, 2, 3] rfl)
      · have d_82 : ¬ (z_79 : Int32).toInt = 0 := lv_neT c_80 rfl
        refine ec_aload_n hx hb dX5_make_48 rfl (lv_at hl 1 rfl) ?_
        refine ec_aload_n hx hb dX5_make_49 rfl (lv_at hl 2 rfl) ?_
        refine cr_get (t := 10) (j := 7) (C := RX1) (T := TX1) (N := 19) (v := .long (lg 6 b.toNatClampNeg)) hx hb htb inX1 hown hK hP hvb (by decide) (by decide) (by decide) rfl (by decide) (htb _ kw_364) rfl dX5_make_50 ?_
        refine lv_topl (fun z_83 ez_83 => ?_)
        refine lv_iload_n hx hb dX5_make_53 rfl (lv_at hl 3 rfl) ?_
        refine lv_iconst (v := 1) hx hb dX5_make_54 (by decide) ?_
        refine lv_iadd hx hb dX5_make_55 ?_
        refine lv_topi (fun z_84 ez_84 => ?_)
        have hz_84 : iv 1 40 z_84 := iv_of ez_84 (iv_add hd39 (iv_k (by decide) : iv 1 1 1) (by decide))
        have tz_84 : z_84.toInt = (dp : Int32).toInt + 1 := by rw [ez_84]; exact iv_addE hd39 (iv_k (by decide) : iv 1 1 1) (by decide)
        refine cm_callV (t := 6) (C := RX5) (T := TX5) (N := 13) (rest := []) (as := [.long z_83, .int z_84]) ⟨hx, hb, hml, hown, htb⟩ (HO sg_75 gm_77 lg x z_83 z_84 wg ws (oBe b.toNatClampNeg S) hI_gm_77 hvx (iv_w hz_84 (by decide)) (WRD_e hW (up_ne esg_75 (by decide)) (up_ne esg_75 (by decide)) (Eq.trans (up_ne egm_77 (by decide)) (up_ne egm_76 (by decide))) (Eq.trans (up_ne egm_77 (by decide)) (up_ne egm_76 (by decide))) (Eq.trans (up_ne egm_77 (by decide)) (up_ne egm_76 (by decide))) (Eq.trans (up_ne egm_77 (by decide)) (up_ne egm_76 (by decide))) (Eq.trans (up_ne egm_77 (by decide)) (up_ne egm_76 (by decide))) (Eq.trans (up_ne egm_77 (by decide)) (up_ne egm_76 (by decide))) (Eq.trans (up_ne egm_77 (by decide)) (up_ne egm_76 (by decide))) (Eq.trans (up_ne egm_77 (by decide)) (up_ne egm_76 (by decide))) (Eq.trans (up_ne egm_77 (by decide)) (up_ne egm_76 (by decide))) (Eq.trans (up_ne egm_77 (by decide)) (up_ne egm_76 (by decide))) (Eq.trans (up_ne egm_77 (by decide)) (up_ne egm_76 (by decide))) (Eq.trans (up_ne egm_77 (by decide)) (up_ne egm_76 (by decide))) (Eq.trans (up_ne egm_77 (by decide)) (up_ne egm_76 (by decide))) (Eq.trans (up_ne egm_77 (by decide)) (up_ne egm_76 (by decide))) (Eq.trans (up_ne egm_77 (by decide)) (up_ne egm_76 (by decide))) (Eq.trans (up_ne egm_77 (by decide)) (up_ne egm_76 (by decide))) rfl rfl) (LDI_e hLD (Eq.trans (up_ne egm_77 (by decide)) (up_ne egm_76 (by decide))) (Eq.trans (up_ne egm_77 (by decide)) (up_ne egm_76 (by decide))) (Eq.trans (up_ne egm_77 (by decide)) (up_ne egm_76 (by decide)))) hMOa (FND9_e hFN (show sg_75 15 = sg 15 from (up_ne esg_75 (by decide))) (show gm_77 51 = gm 51 from (Eq.trans (up_ne egm_77 (by decide)) (up_ne egm_76 (by decide))))) (by have := i32_0; have := i32_1; have := i32_2; have := i32_m1; have := (hvx).1; have := (hvx).2; have := (hvb).1; have := (hvb).2; have := (hd39).1; have := (hd39).2; have := (h_73).1; have := (h_73).2; have := ((show iv (-1) 79 (sg 16) from CI_s hI 16)).1; have := ((show iv (-1) 79 (sg 16) from CI_s hI 16)).2; have := (hz_79).1; have := (hz_79).2; have := (hz_84).1; have := (hz_84).2; omega) ((st9_ks (L := [37, 39]) (KS_up (KS_up KS_rf egm_76 (by decide)) egm_77 (by decide)) (by decide)).trans hSW) ((ss9_ks (L := [16]) (KS_up KS_rf esg_75 (by decide)) rfl rfl).trans hSS) hSV hRa) (cwV 2 htb (gd_V kw_891 kw_892 kw_48 kw_159 kw_1527) rfl rfl rfl (by decide +kernel) ⟨(show 22 + 8 * n9 + 1 ≤ 20 + 8 * (n9 + 1) from by omega), (show 8 + (5 + 11) + (640 + 260 * n9) ≤ 600 + 260 * (n9 + 1) from by omega)⟩) hvx (by decide) (by decide) rfl rfl hl.1 rfl (Nat.le_trans cs_n (by decide)) dX5_make_56 ⟨Nat.le_of_ble_eq_true rfl, Nat.le_of_ble_eq_true rfl⟩ hK hP hD hS hA hG (fun E ce q9 u_86 H locs hw hP hD hS hce hcv hcl => ?_) (fun v9 u_86 H locs hw hP hD hS => ?_)
        · obtain ⟨hE, hw⟩ := hw
          obtain ⟨sgv_87, gmv_87, lgv_87, rfl, hIv_87, ksv_87, kgv_87, klv_87, xMO_v_87, xFN_v_87, xG_v_87⟩ := hw
          obtain rfl := KS_nil klv_87
          have hP : va_P (dC, dI) vwCl (cW ad cid a2 lx sgv_87 gmv_87 lg) H := hP
          have hD : va_D A (cW ad cid a2 lx sgv_87 gmv_87 lg) := hD
          exact vx_out (fun x hx9 => (hxt x hx9).elim) hlocks hce hcv hcl (fun t ht hal => ⟨⟨(sgv_87, gmv_87, lg), ⟨hE, sgv_87, gmv_87, lg, rfl, hIv_87, (KS_tr (L := [13, 14, 15, 16, 17, 18]) (KS_up KS_rf esg_75 (by decide)) ksv_87 (by decide)), (KS_tr (L := [37, 38, 39, 48, 49, 50, 51, 52, 53]) (KS_up (KS_up KS_rf egm_76 (by decide)) egm_77 (by decide)) kgv_87 (by decide)), KS_rf, (xMO_v_87), (xFN_v_87), ((by obtain ⟨S2, h1, h2⟩ := xG_v_87; exact ⟨S2, (by rw [oMK_2 (RC_z0 hRC (lt_cl hvb (show iv 0 80 (sg 12) from CI_s hI 12) (by decide) (by decide) hb12) hb0)]; exact oMB_x (fun q9 => c_80 (by rw [ez_79]; exact (lg_cmp_eq _ _).mpr (ez_78.trans q9))) (by rw [← ez_83]; exact h1)), h2⟩))⟩, by rw [ht]; exact hP, va_K.moved hal hK, hD⟩, hS.F ht⟩) hS.2.2 (Nat.le_of_ble_eq_true rfl) (Nat.le_of_ble_eq_true rfl)
        obtain ⟨r_85, rfl, sgv_88, gmv_88, lgv_88, rfl, hIv_88, ksv_88, kgv_88, klv_88, hr_85, fMO_r_85, fFN_r_85, fBM_r_85, fWF_r_85, f14_r_85, fr_r_85, fG_r_85⟩ := hw
        obtain rfl := KS_nil klv_88
        have hP : va_P (dC, dI) vwCl (cW ad cid a2 lx sgv_88 gmv_88 lg) H := hP
        have hD : va_D A (cW ad cid a2 lx sgv_88 gmv_88 lg) := hD
        refine W.eq (g2 := F0 m 59 ls [.int r_85]) rfl ?_
        have bb_r_85 := BMb_t hBMa fBM_r_85
        have wf_r_85 : WFR (24 * dp.toNatClampNeg) gm gmv_88 := WFR_t hWFa fWF_r_85 (by have q1 : z_84.toNatClampNeg = z_84.toInt.toNat := rfl; have q2 : dp.toNatClampNeg = dp.toInt.toNat := rfl; have := i32_0; have := i32_1; have := i32_2; have := i32_m1; have := (hvx).1; have := (hvx).2; have := (hvb).1; have := (hvb).2; have := (hd39).1; have := (hd39).2; have := (h_73).1; have := (h_73).2; have := ((show iv (-1) 79 (sg 16) from CI_s hI 16)).1; have := ((show iv (-1) 79 (sg 16) from CI_s hI 16)).2; have := (hz_79).1; have := (hz_79).2; have := (hz_84).1; have := (hz_84).2; have := (hr_85).1; have := (hr_85).2; omega)
        have n37_r_85 := bm_n h37a fBM_r_85
        obtain ⟨S_r_85, hE_r_85, hR_r_85⟩ := fG_r_85
        have m14_r_85 : (sg 14).toInt ≤ (sgv_88 14).toInt := Int.le_trans (by rw [(show sg_75 14 = sg 14 from (up_ne esg_75 (by decide)))]; exact (Int.le_refl _)) f14_r_85
        refine lv_pop hx hb dX5_make_59 rfl ?_
        exact hj60 sgv_88 gmv_88 (show iv (-1) 79 (sg 16) from CI_s hI 16) hvx hvb hd39 (KS_tr (L := [13, 14, 15, 16, 17, 18]) (KS_up KS_rf esg_75 (by decide)) ksv_88 (by decide)) (KS_tr (L := [37, 38, 39, 48, 49, 50, 51, 52, 53]) (KS_up (KS_up KS_rf egm_76 (by decide)) egm_77 (by decide)) kgv_88 (by decide)) hIv_88 (fMO_r_85) (fFN_r_85) (bb_r_85) (wf_r_85) (hb0) (n37_r_85) (m14_r_85) (⟨S_r_85, oMB_1 (fun q9 => c_80 (by rw [ez_79]; exact (lg_cmp_eq _ _).mpr (ez_78.trans q9))) (by rw [← ez_83]; exact hE_r_85), hR_r_85⟩) _ _ _ hP hD hS (lv_sub hl [0, 1, 2, 3] rfl)
    · have h_89 : iv 40 39 dp := iv_leR (i32_ge c_74) (iv_k (by decide) : iv 40 40 40) hd39 (by decide)
      exact (iv_no h_89 (by decide)).elim
end
section
section OB9
variable {wg : Nat → Nat → Int32} {lg : Nat → Nat → Int64} {S : S9} {sg : Nat → Int32} {gm : Nat → Nat → Int32} {b : Nat}
theorem RC_g2 (h : RC wg lg S sg gm) (hb : b < (sg 12).toNatClampNeg) (hid : ¬ lg 4 b = 0) (h35 : wg 35 b = 0) (h38 : ¬ gm 38 b = 0) : zS S b = 2 ∧ zW S b = (gm 39 b).toInt ∧ zW S b < ((zO S).length : Int) := by
  have a := (h.2.2.1 b hb).2.1 hid h35
  have z := a.1.mpr h38
  have w := a.2 (by omega)
  exact ⟨z, w.1.symm, w.2⟩
theorem RC_g1 (h : RC wg lg S sg gm) (hb : b < (sg 12).toNatClampNeg) (hid : ¬ lg 4 b = 0) (h35 : wg 35 b = 0) (h37 : ¬ gm 37 b = 0) : zS S b = 1 ∧ zW S b = (gm 39 b).toInt ∧ zW S b < ((zO S).length : Int) := by
  have a := (h.2.2.1 b hb).2.1 hid h35
  have z := (h.2.2.1 b hb).1.mpr h37
  have w := a.2 (by omega)
  exact ⟨z, w.1.symm, w.2⟩
theorem RC_n2 (h : RC wg lg S sg gm) (hb : b < (sg 12).toNatClampNeg) (hid : ¬ lg 4 b = 0) (h35 : wg 35 b = 0) (h38 : gm 38 b = 0) : ¬ zS S b = 2 := fun q => ((h.2.2.1 b hb).2.1 hid h35).1.mp q h38
end OB9
end
section
set_option maxHeartbeats 4000000 in
set_option maxRecDepth 100000 in
theorem d_make09 (l : Launch) (dC : Nat → ClassId) (dI : Nat → Nat → Nat) (ad : Nat → Nat → Nat) (cid : Nat → ClassId) (a2 : Nat → Nat) (lx : List Nat) (sg : Nat → Int32) (gm : Nat → Nat → Int32) (lg : Nat → Nat → Int64) (hl9 : l.stackTraces = false) (n9 : Nat) (x : Int32) (b : Int32) (dp : Int32) (wg : Nat → Nat → Int32) (ws : Nat → Int32) (S : S9) (hI : CI sg gm) (hvx : iv 0 0 x) (hvb : iv 0 79 b) (hvdp : iv 0 40 dp) (hW : WRD sg gm lg) (hLD : LDI lx gm) (hMO : MOK sg gm lg) (hFN : FND9 sg gm) (hb12 : b.toInt < (sg 12).toInt) (hnm : ¬ lg 4 b.toNatClampNeg = 0 → gm 35 b.toNatClampNeg = 0 → gm 38 b.toNatClampNeg = 0) (hdp : dp.toInt = 40) (hSW : st9 gm = wg) (hSS : ss9 sg = ws) (hSV : SV ws wg lg) (hRC : RC wg lg S sg gm) : CMt dC dI ad cid a2 lx l yX5_make wm_X5_make ({ frames := 20 + 8 * n9, cells := 1, slots := 6, locals := 600 + 260 * n9 }) [eV (ad 6) x, eV (ad 10) b, .int dp] sg gm lg (fun v u => ∃ r : Int32, v = some (.int r) ∧ ∃ (sg2 : Nat → Int32) (gm2 : Nat → Nat → Int32) (lg2 : Nat → Nat → Int64), u = (sg2, gm2, lg2) ∧ CI sg2 gm2 ∧ KS [13, 14, 15, 16, 17, 18] sg sg2 ∧ KS [37, 38, 39, 48, 49, 50, 51, 52, 53] gm gm2 ∧ KS [] lg lg2 ∧ (iv 0 59 r) ∧ (MOK sg2 gm2 lg2) ∧ (FND9 sg2 gm2) ∧ (BMK gm gm2) ∧ (WFR (24 * dp.toNatClampNeg) gm gm2) ∧ ((sg 14).toInt ≤ (sg2 14).toInt) ∧ (r.toInt < (sg2 14).toInt) ∧ (∃ S2, oMK ws wg lg 0 b.toNatClampNeg S = (some r.toInt, S2) ∧ RC wg lg S2 sg2 gm2)) (fun E u => (E = "java/lang/UnsupportedOperationException") ∧ ∃ (sg2 : Nat → Int32) (gm2 : Nat → Nat → Int32) (lg2 : Nat → Nat → Int64), u = (sg2, gm2, lg2) ∧ CI sg2 gm2 ∧ KS [13, 14, 15, 16, 17, 18] sg sg2 ∧ KS [37, 38, 39, 48, 49, 50, 51, 52, 53] gm gm2 ∧ KS [] lg lg2 ∧ (MOK sg2 gm2 lg2) ∧ (FND9 sg2 gm2) ∧ (∃ S2, oMK ws wg lg 0 b.toNatClampNeg S = (none, S2) ∧ RC wg lg S2 sg2 gm2)) := by
  intro sz
  refine vx_ofW (cc := cX5_make) (maxL := 5) (ret := (some .int)) (by decide) rfl ?_
  intro p e s m args below meth c s₁ B hml hxt hv
  obtain ⟨rfl, hsz, hP, hK, hD0, hG⟩ := hv
  have hx := B.exec
  have hb := B.bytes
  have hr := B.returns
  have hts := atoms_spec (ws := wm_X5_make) B.pre
  have htb := fun (w : Cond) (h : w ∈ tb) => hts w (List.mem_cons_of_mem _ h)
  have hown : s.vm.findClass RX5 = some m.cls := findClass_of_methodNamed B.named
  have hlocks := B.notSynchronized
  subst hsz
  have hD := hD0.self (sz := s.heap.size)
  generalize hAe : va_A (cW ad cid a2 lx sg gm lg) s.heap.size = A at hD hG ⊢
  have hA : ∀ q : Nat, s.heap.size ≤ q → A q := fun q h => by rw [← hAe]; exact Or.inr h
  have hS : va_S A s.heap s.heap [] := va_S.rf
  have hl := lv_entry ([eV (ad 6) x, eV (ad 10) b, .int dp]) (n := 5) (by rw [show (lg_sl ([eV (ad 6) x, eV (ad 10) b, .int dp])).length = 3 from by simp [lg_sl, eV_cat, cat_i, cat_l]]; exact Nat.le_of_ble_eq_true rfl)
  rw [lg_entry_eq]
  generalize (lg_sl ([eV (ad 6) x, eV (ad 10) b, .int dp]) ++ List.replicate (5 - (lg_sl ([eV (ad 6) x, eV (ad 10) b, .int dp])).length) Slot.unset).toArray = ls at hl ⊢
  have hl : lv_has ls 5 [(0, eV (ad 6) x), (1, eV (ad 10) b), (2, .int dp)] := by simp [lv_args, eV_cat, cat_i, cat_l] at hl; exact hl
  refine ec_aload_n hx hb dX5_make_0 rfl (lv_at hl 1 rfl) ?_
  refine cr_get (t := 10) (j := 16) (C := RX1) (T := TX1) (N := 19) (v := .int (gm 37 b.toNatClampNeg)) hx hb htb inX1 hown hK hP hvb (by decide) (by decide) (by decide) rfl (by decide) (htb _ kw_382) rfl dX5_make_1 ?_
  obtain ⟨z_1, ez_1⟩ : ∃ z : Int32, z = (gm 37 b.toNatClampNeg) := ⟨_, rfl⟩
  refine W.eq (g2 := F0 m 4 ls [.int z_1]) (by rw [ez_1]) ?_
  have hz_1 : iv 0 1 z_1 := iv_of ez_1 (CI_a hI 37 hvb (by decide))
  refine lv_if_ne (tgt := 13) hx hb dX5_make_4 (by decide) (fun c_2 => ?_) (fun c_2 => ?_)
  · have h_3 : iv 1 1 z_1 := iv_neL c_2 hz_1 (by decide)
    refine ec_aload_n hx hb dX5_make_13 rfl (lv_at hl 0 rfl) ?_
    refine lv_iconst (v := 3) hx hb dX5_make_14 (by decide) ?_
    refine cm_callV (t := 6) (C := RX5) (T := TX5) (N := 13) (rest := []) (as := [.int 3]) ⟨hx, hb, hml, hown, htb⟩ (d_failWith l dC dI ad cid a2 lx sg gm lg hl9 x 3 hI hvx (iv_w (iv_k (by decide) : iv 3 3 3) (by decide))) (cwV 1 htb (gd_V kw_899 kw_900 kw_50 kw_159 kw_1530) rfl rfl rfl (by decide +kernel) ⟨(show 6 + 1 ≤ 20 + 8 * n9 from by omega), (show 8 + (2 + 11) + (120) ≤ 600 + 260 * n9 from by omega)⟩) hvx (by decide) (by decide) rfl rfl hl.1 rfl (Nat.le_trans cs_n (by decide)) dX5_make_15 ⟨Nat.le_of_ble_eq_true rfl, Nat.le_of_ble_eq_true rfl⟩ hK hP hD hS hA hG (fun E ce q9 u_5 H locs hw hP hD hS hce hcv hcl => ?_) (fun v9 u_5 H locs hw hP hD hS => ?_)
    · obtain ⟨hE, hw⟩ := hw
      obtain ⟨sgv_6, gmv_6, lgv_6, rfl, hIv_6, ksv_6, kgv_6, klv_6⟩ := hw
      obtain rfl := KS_nil kgv_6
      obtain rfl := KS_nil klv_6
      have hP : va_P (dC, dI) vwCl (cW ad cid a2 lx sgv_6 gm lg) H := hP
      have hD : va_D A (cW ad cid a2 lx sgv_6 gm lg) := hD
      exact vx_out (fun x hx9 => (hxt x hx9).elim) hlocks hce hcv hcl (fun t ht hal => ⟨⟨(sgv_6, gm, lg), ⟨hE, sgv_6, gm, lg, rfl, hIv_6, (KS_tr (L := [13, 14, 15, 16, 17, 18]) KS_rf ksv_6 (by decide)), KS_rf, KS_rf, ((MOK_e hMO (show sgv_6 12 = sg 12 from (ksv_6 12 (by decide))) rfl rfl rfl rfl)), ((FND9_e hFN (show sgv_6 15 = sg 15 from (ksv_6 15 (by decide))) rfl)), (⟨S, rfl, (RC_ks (L := [17, 18]) (M := []) hRC (KS_tr (L := [17, 18]) KS_rf ksv_6 (by decide)) KS_rf (by decide) (by decide))⟩)⟩, by rw [ht]; exact hP, va_K.moved hal hK, hD⟩, hS.F ht⟩) hS.2.2 (Nat.le_of_ble_eq_true rfl) (Nat.le_of_ble_eq_true rfl)
    obtain ⟨r_4, rfl, sgv_7, gmv_7, lgv_7, rfl, hIv_7, ksv_7, kgv_7, klv_7, fF_r_4⟩ := hw
    obtain rfl := KS_nil kgv_7
    obtain rfl := KS_nil klv_7
    have hP : va_P (dC, dI) vwCl (cW ad cid a2 lx sgv_7 gm lg) H := hP
    have hD : va_D A (cW ad cid a2 lx sgv_7 gm lg) := hD
    exact fF_r_4.elim
  · have h_8 : iv 0 0 z_1 := iv_eq c_2 hz_1 (iv_k (by decide) : iv 0 0 0) (by decide)
    refine lv_iload_n hx hb dX5_make_7 rfl (lv_at hl 2 rfl) ?_
    refine lv_bipush (v := 40) hx hb dX5_make_8 (by decide) ?_
    refine lv_icmp_lt (tgt := 19) hx hb dX5_make_10 (by decide) (fun c_9 => ?_) (fun c_9 => ?_)
    · have h_10 : iv 0 39 dp := iv_ltL c_9 hvdp (iv_k (by decide) : iv 40 40 40) (by decide)
      exact absurd hdp (by have := i32_0; have := i32_1; have := i32_2; have := i32_m1; have := (hvx).1; have := (hvx).2; have := (hvb).1; have := (hvb).2; have := (h_10).1; have := (h_10).2; have := (h_8).1; have := (h_8).2; omega)
    · have h_11 : iv 40 40 dp := iv_leR (i32_ge c_9) (iv_k (by decide) : iv 40 40 40) hvdp (by decide)
      refine ec_aload_n hx hb dX5_make_13 rfl (lv_at hl 0 rfl) ?_
      refine lv_iconst (v := 3) hx hb dX5_make_14 (by decide) ?_
      refine cm_callV (t := 6) (C := RX5) (T := TX5) (N := 13) (rest := []) (as := [.int 3]) ⟨hx, hb, hml, hown, htb⟩ (d_failWith l dC dI ad cid a2 lx sg gm lg hl9 x 3 hI hvx (iv_w (iv_k (by decide) : iv 3 3 3) (by decide))) (cwV 1 htb (gd_V kw_899 kw_900 kw_50 kw_159 kw_1530) rfl rfl rfl (by decide +kernel) ⟨(show 6 + 1 ≤ 20 + 8 * n9 from by omega), (show 8 + (2 + 11) + (120) ≤ 600 + 260 * n9 from by omega)⟩) hvx (by decide) (by decide) rfl rfl hl.1 rfl (Nat.le_trans cs_n (by decide)) dX5_make_15 ⟨Nat.le_of_ble_eq_true rfl, Nat.le_of_ble_eq_true rfl⟩ hK hP hD hS hA hG (fun E ce q9 u_13 H locs hw hP hD hS hce hcv hcl => ?_) (fun v9 u_13 H locs hw hP hD hS => ?_)
      · obtain ⟨hE, hw⟩ := hw
        obtain ⟨sgv_14, gmv_14, lgv_14, rfl, hIv_14, ksv_14, kgv_14, klv_14⟩ := hw
        obtain rfl := KS_nil kgv_14
        obtain rfl := KS_nil klv_14
        have hP : va_P (dC, dI) vwCl (cW ad cid a2 lx sgv_14 gm lg) H := hP
        have hD : va_D A (cW ad cid a2 lx sgv_14 gm lg) := hD
        exact vx_out (fun x hx9 => (hxt x hx9).elim) hlocks hce hcv hcl (fun t ht hal => ⟨⟨(sgv_14, gm, lg), ⟨hE, sgv_14, gm, lg, rfl, hIv_14, (KS_tr (L := [13, 14, 15, 16, 17, 18]) KS_rf ksv_14 (by decide)), KS_rf, KS_rf, ((MOK_e hMO (show sgv_14 12 = sg 12 from (ksv_14 12 (by decide))) rfl rfl rfl rfl)), ((FND9_e hFN (show sgv_14 15 = sg 15 from (ksv_14 15 (by decide))) rfl)), (⟨S, rfl, (RC_ks (L := [17, 18]) (M := []) hRC (KS_tr (L := [17, 18]) KS_rf ksv_14 (by decide)) KS_rf (by decide) (by decide))⟩)⟩, by rw [ht]; exact hP, va_K.moved hal hK, hD⟩, hS.F ht⟩) hS.2.2 (Nat.le_of_ble_eq_true rfl) (Nat.le_of_ble_eq_true rfl)
      obtain ⟨r_12, rfl, sgv_15, gmv_15, lgv_15, rfl, hIv_15, ksv_15, kgv_15, klv_15, fF_r_12⟩ := hw
      obtain rfl := KS_nil kgv_15
      obtain rfl := KS_nil klv_15
      have hP : va_P (dC, dI) vwCl (cW ad cid a2 lx sgv_15 gm lg) H := hP
      have hD : va_D A (cW ad cid a2 lx sgv_15 gm lg) := hD
      exact fF_r_12.elim

set_option maxHeartbeats 4000000 in
set_option maxRecDepth 100000 in
theorem d_obtain9 (l : Launch) (dC : Nat → ClassId) (dI : Nat → Nat → Nat) (ad : Nat → Nat → Nat) (cid : Nat → ClassId) (a2 : Nat → Nat) (lx : List Nat) (sg : Nat → Int32) (gm : Nat → Nat → Int32) (lg : Nat → Nat → Int64) (hl9 : l.stackTraces = false) (n9 : Nat) (HM : PM9 l dC dI ad cid a2 lx n9) (x : Int32) (nm : Int64) (dp : Int32) (wg : Nat → Nat → Int32) (ws : Nat → Int32) (S : S9) (hI : CI sg gm) (hvx : iv 0 0 x) (hvdp : iv 0 40 dp) (hW : WRD sg gm lg) (hLD : LDI lx gm) (hMO : MOK sg gm lg) (hFN : FND9 sg gm) (hdp : dp.toInt + ((n9 : Nat) : Int) = 40) (hSW : st9 gm = wg) (hSS : ss9 sg = ws) (hSV : SV ws wg lg) (hRC : RC wg lg S sg gm) : CMt dC dI ad cid a2 lx l yX5_obtain wm_X5_obtain ({ frames := 22 + 8 * n9, cells := 1, slots := 6, locals := 640 + 260 * n9 }) [eV (ad 6) x, .long nm, .int dp] sg gm lg (fun v u => ∃ r : Int32, v = some (.int r) ∧ ∃ (sg2 : Nat → Int32) (gm2 : Nat → Nat → Int32) (lg2 : Nat → Nat → Int64), u = (sg2, gm2, lg2) ∧ CI sg2 gm2 ∧ KS [13, 14, 15, 16, 17, 18] sg sg2 ∧ KS [37, 38, 39, 48, 49, 50, 51, 52, 53] gm gm2 ∧ KS [] lg lg2 ∧ (iv 0 59 r) ∧ (MOK sg2 gm2 lg2) ∧ (FND9 sg2 gm2) ∧ (BMK gm gm2) ∧ (WFR (24 * dp.toNatClampNeg) gm gm2) ∧ ((sg 14).toInt ≤ (sg2 14).toInt) ∧ (r.toInt < (sg2 14).toInt) ∧ (∃ S2, oGet wg (oMK ws wg lg n9) (caN ws wg lg nm) S = (some r.toInt, S2) ∧ RC wg lg S2 sg2 gm2)) (fun E u => (E = "java/lang/UnsupportedOperationException") ∧ ∃ (sg2 : Nat → Int32) (gm2 : Nat → Nat → Int32) (lg2 : Nat → Nat → Int64), u = (sg2, gm2, lg2) ∧ CI sg2 gm2 ∧ KS [13, 14, 15, 16, 17, 18] sg sg2 ∧ KS [37, 38, 39, 48, 49, 50, 51, 52, 53] gm gm2 ∧ KS [] lg lg2 ∧ (MOK sg2 gm2 lg2) ∧ (FND9 sg2 gm2) ∧ (∃ S2, oGet wg (oMK ws wg lg n9) (caN ws wg lg nm) S = (none, S2) ∧ RC wg lg S2 sg2 gm2)) := by
  intro sz
  refine vx_ofW (cc := cX5_obtain) (maxL := 5) (ret := (some .int)) (by decide) rfl ?_
  intro p e s m args below meth c s₁ B hml hxt hv
  obtain ⟨rfl, hsz, hP, hK, hD0, hG⟩ := hv
  have hx := B.exec
  have hb := B.bytes
  have hr := B.returns
  have hts := atoms_spec (ws := wm_X5_obtain) B.pre
  have htb := fun (w : Cond) (h : w ∈ tb) => hts w (List.mem_cons_of_mem _ h)
  have hown : s.vm.findClass RX5 = some m.cls := findClass_of_methodNamed B.named
  have hlocks := B.notSynchronized
  subst hsz
  have hD := hD0.self (sz := s.heap.size)
  generalize hAe : va_A (cW ad cid a2 lx sg gm lg) s.heap.size = A at hD hG ⊢
  have hA : ∀ q : Nat, s.heap.size ≤ q → A q := fun q h => by rw [← hAe]; exact Or.inr h
  have hS : va_S A s.heap s.heap [] := va_S.rf
  have hl := lv_entry ([eV (ad 6) x, .long nm, .int dp]) (n := 5) (by rw [show (lg_sl ([eV (ad 6) x, .long nm, .int dp])).length = 4 from by simp [lg_sl, eV_cat, cat_i, cat_l]]; exact Nat.le_of_ble_eq_true rfl)
  rw [lg_entry_eq]
  generalize (lg_sl ([eV (ad 6) x, .long nm, .int dp]) ++ List.replicate (5 - (lg_sl ([eV (ad 6) x, .long nm, .int dp])).length) Slot.unset).toArray = ls at hl ⊢
  have hl : lv_has ls 5 [(0, eV (ad 6) x), (1, .long nm), (3, .int dp)] := by simp [lv_args, eV_cat, cat_i, cat_l] at hl; exact hl
  have hj74 : ∀ (x4_74 : Int32) (_ : iv 0 79 x4_74) (_ : iv 0 0 x) (_ : iv 0 40 dp) (_ : ¬ lg 4 x4_74.toNatClampNeg = 0 → gm 35 x4_74.toNatClampNeg = 0 → gm 38 x4_74.toNatClampNeg = 0) (_ : x4_74.toInt < (sg 12).toInt) (_ : oGet wg (oMK ws wg lg n9) (caN ws wg lg nm) S = (oMK ws wg lg n9) x4_74.toNatClampNeg S) (H : Heap) (locs : List Loc) (ls : Array Slot), va_P (dC, dI) vwCl (cW ad cid a2 lx sg gm lg) H → va_D A (cW ad cid a2 lx sg gm lg) → va_S A s.heap H locs → lv_has ls 5 [(4, eV (ad 10) x4_74), (0, eV (ad 6) x), (1, .long nm), (3, .int dp)] → W p l e (headSpec wm_X5_obtain ({ frames := 22 + 8 * n9, cells := 1, slots := 6, locals := 640 + 260 * n9 })).room s m ([eV (ad 6) x, .long nm, .int dp] : List Value).toArray below meth c H locs 0 0 (vx_MQ below (cQx dC dI ad cid a2 lx (fun v u => ∃ r : Int32, v = some (.int r) ∧ ∃ (sg2 : Nat → Int32) (gm2 : Nat → Nat → Int32) (lg2 : Nat → Nat → Int64), u = (sg2, gm2, lg2) ∧ CI sg2 gm2 ∧ KS [13, 14, 15, 16, 17, 18] sg sg2 ∧ KS [37, 38, 39, 48, 49, 50, 51, 52, 53] gm gm2 ∧ KS [] lg lg2 ∧ (iv 0 59 r) ∧ (MOK sg2 gm2 lg2) ∧ (FND9 sg2 gm2) ∧ (BMK gm gm2) ∧ (WFR (24 * dp.toNatClampNeg) gm gm2) ∧ ((sg 14).toInt ≤ (sg2 14).toInt) ∧ (r.toInt < (sg2 14).toInt) ∧ (∃ S2, oGet wg (oMK ws wg lg n9) (caN ws wg lg nm) S = (some r.toInt, S2) ∧ RC wg lg S2 sg2 gm2)) A) (cX dC dI ad cid a2 lx (fun E u => (E = "java/lang/UnsupportedOperationException") ∧ ∃ (sg2 : Nat → Int32) (gm2 : Nat → Nat → Int32) (lg2 : Nat → Nat → Int64), u = (sg2, gm2, lg2) ∧ CI sg2 gm2 ∧ KS [13, 14, 15, 16, 17, 18] sg sg2 ∧ KS [37, 38, 39, 48, 49, 50, 51, 52, 53] gm gm2 ∧ KS [] lg lg2 ∧ (MOK sg2 gm2 lg2) ∧ (FND9 sg2 gm2) ∧ (∃ S2, oGet wg (oMK ws wg lg n9) (caN ws wg lg nm) S = (none, S2) ∧ RC wg lg S2 sg2 gm2)) A) ([eV (ad 6) x, .long nm, .int dp] : List Value).toArray s 1 6 A) (F0 m 74 ls []) := by
    intro x4_74 hx4_74 hsx0_74 hsx3_74 h74 h74b hG74 H locs ls hP hD hS hl
    refine ec_aload_n hx hb dX5_obtain_74 rfl (lv_at hl 1 rfl) ?_
    refine ec_aload hx hb dX5_obtain_75 (lv_at hl 0 rfl) ?_
    refine lv_iload_n hx hb dX5_obtain_77 rfl (lv_at hl 3 rfl) ?_
    refine cm_callV (t := 6) (C := RX5) (T := TX5) (N := 13) (rest := []) (as := [eV (ad 10) x4_74, .int dp]) ⟨hx, hb, hml, hown, htb⟩ (HM sg gm lg x x4_74 dp wg ws S hI hsx0_74 hx4_74 hsx3_74 hW hLD hMO hFN h74b h74 (by have := i32_0; have := i32_1; have := i32_2; have := i32_m1; have := (hsx0_74).1; have := (hsx0_74).2; have := (hsx3_74).1; have := (hsx3_74).2; have := (hx4_74).1; have := (hx4_74).2; omega) hSW hSS hSV hRC) (cwV 2 htb (gd_V kw_901 kw_902 kw_51 kw_159 kw_1531) rfl rfl rfl (by decide +kernel) ⟨(show 20 + 8 * n9 + 1 ≤ 22 + 8 * n9 from by omega), (show 8 + (5 + 11) + (600 + 260 * n9) ≤ 640 + 260 * n9 from by omega)⟩) hsx0_74 (by decide) (by decide) rfl rfl hl.1 rfl (Nat.le_trans cs_n (by decide)) dX5_obtain_78 ⟨Nat.le_of_ble_eq_true rfl, Nat.le_of_ble_eq_true rfl⟩ hK hP hD hS hA hG (fun E ce q9 u_2 H locs hw hP hD hS hce hcv hcl => ?_) (fun v9 u_2 H locs hw hP hD hS => ?_)
    · obtain ⟨hE, hw⟩ := hw
      obtain ⟨sgv_3, gmv_3, lgv_3, rfl, hIv_3, ksv_3, kgv_3, klv_3, xMO_v_3, xFN_v_3, xM_v_3⟩ := hw
      obtain rfl := KS_nil klv_3
      have hP : va_P (dC, dI) vwCl (cW ad cid a2 lx sgv_3 gmv_3 lg) H := hP
      have hD : va_D A (cW ad cid a2 lx sgv_3 gmv_3 lg) := hD
      exact vx_out (fun x hx9 => (hxt x hx9).elim) hlocks hce hcv hcl (fun t ht hal => ⟨⟨(sgv_3, gmv_3, lg), ⟨hE, sgv_3, gmv_3, lg, rfl, hIv_3, (KS_tr (L := [13, 14, 15, 16, 17, 18]) KS_rf ksv_3 (by decide)), (KS_tr (L := [37, 38, 39, 48, 49, 50, 51, 52, 53]) KS_rf kgv_3 (by decide)), KS_rf, (xMO_v_3), (xFN_v_3), ((by obtain ⟨S2, h1, h2⟩ := xM_v_3; exact ⟨S2, (by rw [hG74]; exact h1), h2⟩))⟩, by rw [ht]; exact hP, va_K.moved hal hK, hD⟩, hS.F ht⟩) hS.2.2 (Nat.le_of_ble_eq_true rfl) (Nat.le_of_ble_eq_true rfl)
    obtain ⟨r_1, rfl, sgv_4, gmv_4, lgv_4, rfl, hIv_4, ksv_4, kgv_4, klv_4, hr_1, fMO_r_1, fFN_r_1, fBM_r_1, fWF_r_1, f14_r_1, fr_r_1, fM_r_1⟩ := hw
    obtain rfl := KS_nil klv_4
    have hP : va_P (dC, dI) vwCl (cW ad cid a2 lx sgv_4 gmv_4 lg) H := hP
    have hD : va_D A (cW ad cid a2 lx sgv_4 gmv_4 lg) := hD
    refine W.eq (g2 := F0 m 81 ls [.int r_1]) rfl ?_
    have bm_r_1 := BMK_t BMK_rf fBM_r_1
    have wf_r_1 : WFR (24 * dp.toNatClampNeg) gm gmv_4 := WFR_t WFR_rf fWF_r_1 (Nat.le_refl _)
    have m14_r_1 : (sg 14).toInt ≤ (sgv_4 14).toInt := Int.le_trans (Int.le_refl _) f14_r_1
    exact W.nb (fun hN => W.widen (k := 1) (n := 6) (by decide) (by decide) (vx_ret (W.iret (v := r_1) hx hb hr (fun t ht hW => ⟨⟨some (.int r_1), (sgv_4, gmv_4, lg), rfl, ⟨r_1, rfl, sgv_4, gmv_4, lg, rfl, hIv_4, (KS_tr (L := [13, 14, 15, 16, 17, 18]) KS_rf ksv_4 (by decide)), (KS_tr (L := [37, 38, 39, 48, 49, 50, 51, 52, 53]) KS_rf kgv_4 (by decide)), KS_rf, hr_1, (fMO_r_1), (fFN_r_1), (bm_r_1), (wf_r_1), (m14_r_1), (fr_r_1), ((by obtain ⟨S2, h1, h2⟩ := fM_r_1; exact ⟨S2, (by rw [hG74]; exact h1), h2⟩))⟩, by rw [ht]; exact hP, va_K.moved hW.alike hK, hD⟩, hS.F ht, by rw [ht]; exact hN⟩) hS.2.2 dX5_obtain_81)))
  have hj68 : ∀ (x4_68 : Int32) (_ : iv 0 79 x4_68) (_ : iv 0 0 x) (_ : iv 0 40 dp) (_ : 0 ≤ (gm 39 x4_68.toNatClampNeg).toInt) (_ : oGet wg (oMK ws wg lg n9) (caN ws wg lg nm) S = (some (gm 39 x4_68.toNatClampNeg).toInt, S) ∧ (gm 39 x4_68.toNatClampNeg).toInt < (sg 14).toInt) (H : Heap) (locs : List Loc) (ls : Array Slot), va_P (dC, dI) vwCl (cW ad cid a2 lx sg gm lg) H → va_D A (cW ad cid a2 lx sg gm lg) → va_S A s.heap H locs → lv_has ls 5 [(4, eV (ad 10) x4_68), (0, eV (ad 6) x), (1, .long nm), (3, .int dp)] → W p l e (headSpec wm_X5_obtain ({ frames := 22 + 8 * n9, cells := 1, slots := 6, locals := 640 + 260 * n9 })).room s m ([eV (ad 6) x, .long nm, .int dp] : List Value).toArray below meth c H locs 0 0 (vx_MQ below (cQx dC dI ad cid a2 lx (fun v u => ∃ r : Int32, v = some (.int r) ∧ ∃ (sg2 : Nat → Int32) (gm2 : Nat → Nat → Int32) (lg2 : Nat → Nat → Int64), u = (sg2, gm2, lg2) ∧ CI sg2 gm2 ∧ KS [13, 14, 15, 16, 17, 18] sg sg2 ∧ KS [37, 38, 39, 48, 49, 50, 51, 52, 53] gm gm2 ∧ KS [] lg lg2 ∧ (iv 0 59 r) ∧ (MOK sg2 gm2 lg2) ∧ (FND9 sg2 gm2) ∧ (BMK gm gm2) ∧ (WFR (24 * dp.toNatClampNeg) gm gm2) ∧ ((sg 14).toInt ≤ (sg2 14).toInt) ∧ (r.toInt < (sg2 14).toInt) ∧ (∃ S2, oGet wg (oMK ws wg lg n9) (caN ws wg lg nm) S = (some r.toInt, S2) ∧ RC wg lg S2 sg2 gm2)) A) (cX dC dI ad cid a2 lx (fun E u => (E = "java/lang/UnsupportedOperationException") ∧ ∃ (sg2 : Nat → Int32) (gm2 : Nat → Nat → Int32) (lg2 : Nat → Nat → Int64), u = (sg2, gm2, lg2) ∧ CI sg2 gm2 ∧ KS [13, 14, 15, 16, 17, 18] sg sg2 ∧ KS [37, 38, 39, 48, 49, 50, 51, 52, 53] gm gm2 ∧ KS [] lg lg2 ∧ (MOK sg2 gm2 lg2) ∧ (FND9 sg2 gm2) ∧ (∃ S2, oGet wg (oMK ws wg lg n9) (caN ws wg lg nm) S = (none, S2) ∧ RC wg lg S2 sg2 gm2)) A) ([eV (ad 6) x, .long nm, .int dp] : List Value).toArray s 1 6 A) (F0 m 68 ls []) := by
    intro x4_68 hx4_68 hsx0_68 hsx3_68 h68 hG68 H locs ls hP hD hS hl
    refine ec_aload hx hb dX5_obtain_68 (lv_at hl 0 rfl) ?_
    refine cr_get (t := 10) (j := 18) (C := RX1) (T := TX1) (N := 19) (v := .int (gm 39 x4_68.toNatClampNeg)) hx hb htb inX1 hown hK hP hx4_68 (by decide) (by decide) (by decide) rfl (by decide) (htb _ kw_386) rfl dX5_obtain_70 ?_
    obtain ⟨z_5, ez_5⟩ : ∃ z : Int32, z = (gm 39 x4_68.toNatClampNeg) := ⟨_, rfl⟩
    refine W.eq (g2 := F0 m 73 ls [.int z_5]) (by rw [ez_5]) ?_
    have hz_5 : iv (-1) 59 z_5 := iv_of ez_5 (CI_a hI 39 hx4_68 (by decide))
    have h_6 : iv 0 59 z_5 := ⟨by rw [ez_5]; exact h68, (hz_5).2⟩
    exact W.nb (fun hN => W.widen (k := 1) (n := 6) (by decide) (by decide) (vx_ret (W.iret (v := z_5) hx hb hr (fun t ht hW => ⟨⟨some (.int z_5), (sg, gm, lg), rfl, ⟨z_5, rfl, sg, gm, lg, rfl, hI, KS_rf, KS_rf, KS_rf, h_6, (hMO), (hFN), (BMK_rf), (WFR_rf), ((Int.le_refl _)), ((by rw [show z_5.toInt = (gm 39 x4_68.toNatClampNeg).toInt from congrArg Int32.toInt ez_5]; exact hG68.2)), (⟨S, (by rw [show z_5.toInt = (gm 39 x4_68.toNatClampNeg).toInt from congrArg Int32.toInt ez_5]; exact hG68.1), hRC⟩)⟩, by rw [ht]; exact hP, va_K.moved hW.alike hK, hD⟩, hS.F ht, by rw [ht]; exact hN⟩) hS.2.2 dX5_obtain_73)))
  refine ec_aload_n hx hb dX5_obtain_0 rfl (lv_at hl 0 rfl) ?_
  refine cr_get (t := 6) (j := 0) (C := RX5) (T := TX5) (N := 13) (v := eV (ad 4) 0) hx hb htb inX5 hown hK hP hvx (by decide) (by decide) (by decide) rfl (by decide) (htb _ kw_404) (cV_c rfl (by decide) (by rw [show cMu 6 0 = 0 from rfl, Nat.zero_mul]; rfl)) dX5_obtain_1 ?_
  refine lv_lload_n hx hb dX5_obtain_4 rfl (lv_at hl 1 rfl) ?_
  refine cm_callV (t := 4) (C := RX10) (T := TX10) (N := 4) (rest := []) (as := [.long nm]) ⟨hx, hb, hml, hown, htb⟩ (d_called9 l dC dI ad cid a2 lx sg gm lg 0 nm wg ws hI (iv_k (by decide) : iv 0 0 0) hSW hSS) (cwV 1 htb (gd_V kw_893 kw_894 kw_895 kw_153 kw_1528) rfl rfl rfl (by decide +kernel) ⟨(show 2 + 1 ≤ 22 + 8 * n9 from by omega), (show 8 + (7 + 11) + (45) ≤ 640 + 260 * n9 from by omega)⟩) (iv_k (by decide) : iv 0 0 0) (by decide) (by decide) rfl rfl hl.1 rfl (Nat.le_trans cs_n (by decide)) dX5_obtain_5 ⟨Nat.le_of_ble_eq_true rfl, Nat.le_of_ble_eq_true rfl⟩ hK hP hD hS hA hG (fun E ce q9 u_8 H locs hw hP hD hS hce hcv hcl => ?_) (fun v9 u_8 H locs hw hP hD hS => ?_)
  · exact hw.elim
  obtain ⟨r_7, rfl, rfl, hr_7, fI_r_7, fC_r_7⟩ := hw
  have hP : va_P (dC, dI) vwCl (cW ad cid a2 lx sg gm lg) H := hP
  have hD : va_D A (cW ad cid a2 lx sg gm lg) := hD
  refine W.eq (g2 := F0 m 8 ls [eV (ad 10) r_7]) rfl ?_
  refine ec_astore (i := 4) (lv' := [(4, eV (ad 10) r_7), (0, eV (ad 6) x), (1, .long nm), (3, .int dp)]) hx hb dX5_obtain_8 hl (by decide) rfl (fun ls hl => ?_)
  refine ec_aload hx hb dX5_obtain_10 (lv_at hl 0 rfl) ?_
  refine ec_ifnonnull (tgt := 21) hx hb dX5_obtain_12 (by decide) (fun c_10 => ?_) (fun c_10 => ?_)
  · have h_11 : iv 0 79 r_7 := ⟨c_10, (hr_7).2⟩
    refine ec_aload hx hb dX5_obtain_21 (lv_at hl 0 rfl) ?_
    refine cr_get (t := 10) (j := 13) (C := RX1) (T := TX1) (N := 19) (v := .int (gm 34 r_7.toNatClampNeg)) hx hb htb inX1 hown hK hP h_11 (by decide) (by decide) (by decide) rfl (by decide) (htb _ kw_376) rfl dX5_obtain_23 ?_
    obtain ⟨z_12, ez_12⟩ : ∃ z : Int32, z = (gm 34 r_7.toNatClampNeg) := ⟨_, rfl⟩
    refine W.eq (g2 := F0 m 26 ls [.int z_12]) (by rw [ez_12]) ?_
    have hz_12 : iv 0 1 z_12 := iv_of ez_12 (CI_a hI 34 h_11 (by decide))
    refine lv_if_eq (tgt := 35) hx hb dX5_obtain_26 (by decide) (fun c_13 => ?_) (fun c_13 => ?_)
    · have h_14 : iv 0 0 z_12 := iv_eq c_13 hz_12 (iv_k (by decide) : iv 0 0 0) (by decide)
      refine ec_aload hx hb dX5_obtain_35 (lv_at hl 0 rfl) ?_
      refine cr_get (t := 10) (j := 14) (C := RX1) (T := TX1) (N := 19) (v := .int (gm 35 r_7.toNatClampNeg)) hx hb htb inX1 hown hK hP h_11 (by decide) (by decide) (by decide) rfl (by decide) (htb _ kw_378) rfl dX5_obtain_37 ?_
      obtain ⟨z_15, ez_15⟩ : ∃ z : Int32, z = (gm 35 r_7.toNatClampNeg) := ⟨_, rfl⟩
      refine W.eq (g2 := F0 m 40 ls [.int z_15]) (by rw [ez_15]) ?_
      have hz_15 : iv 0 1 z_15 := iv_of ez_15 (CI_a hI 35 h_11 (by decide))
      refine lv_if_ne (tgt := 74) hx hb dX5_obtain_40 (by decide) (fun c_16 => ?_) (fun c_16 => ?_)
      · have h_17 : iv 1 1 z_15 := iv_neL c_16 hz_15 (by decide)
        exact hj74 r_7 h_11 hvx hvdp (fun _ q9 => absurd q9 (fun q9 => absurd (congrArg Int32.toInt (show z_15 = 0 from ez_15.trans q9)) (by have := i32_0; have := i32_0; have := i32_1; have := i32_2; have := i32_m1; have := (hvx).1; have := (hvx).2; have := (hvdp).1; have := (hvdp).2; have := (h_11).1; have := (h_11).2; have := (h_14).1; have := (h_14).2; have := (h_17).1; have := (h_17).2; omega))) ((fI_r_7.resolve_left (by have := i32_0; have := i32_1; have := i32_2; have := i32_m1; have := (hvx).1; have := (hvx).2; have := (hvdp).1; have := (hvdp).2; have := (h_11).1; have := (h_11).2; have := (h_14).1; have := (h_14).2; have := (h_17).1; have := (h_17).2; have := (h_11).1; omega)).1) ((by rw [(show caN ws wg lg nm = r_7.toInt from fC_r_7.symm)]; exact oGet_m (h_11).1 (show wg 34 r_7.toNatClampNeg = 0 from (by rw [show wg 34 r_7.toNatClampNeg = gm 34 r_7.toNatClampNeg from sw9 hSW 34 rfl _]; exact (show gm 34 r_7.toNatClampNeg = 0 from ez_12.symm.trans (Int32.toInt_inj.mp (by have := i32_0; have := i32_0; have := i32_1; have := i32_2; have := i32_m1; have := (hvx).1; have := (hvx).2; have := (hvdp).1; have := (hvdp).2; have := (h_11).1; have := (h_11).2; have := (h_14).1; have := (h_14).2; have := (h_17).1; have := (h_17).2; omega))))) (fun q => absurd q.1 (show ¬ wg 35 r_7.toNatClampNeg = 0 from (by rw [show wg 35 r_7.toNatClampNeg = gm 35 r_7.toNatClampNeg from sw9 hSW 35 rfl _]; exact (fun q9 => absurd (congrArg Int32.toInt (show z_15 = 0 from ez_15.trans q9)) (by have := i32_0; have := i32_0; have := i32_1; have := i32_2; have := i32_m1; have := (hvx).1; have := (hvx).2; have := (hvdp).1; have := (hvdp).2; have := (h_11).1; have := (h_11).2; have := (h_14).1; have := (h_14).2; have := (h_17).1; have := (h_17).2; omega))))))) _ _ _ hP hD hS (lv_sub hl [0, 1, 2, 3] rfl)
      · have h_18 : iv 0 0 z_15 := iv_eq c_16 hz_15 (iv_k (by decide) : iv 0 0 0) (by decide)
        refine ec_aload hx hb dX5_obtain_43 (lv_at hl 0 rfl) ?_
        refine cr_get (t := 10) (j := 17) (C := RX1) (T := TX1) (N := 19) (v := .int (gm 38 r_7.toNatClampNeg)) hx hb htb inX1 hown hK hP h_11 (by decide) (by decide) (by decide) rfl (by decide) (htb _ kw_384) rfl dX5_obtain_45 ?_
        obtain ⟨z_19, ez_19⟩ : ∃ z : Int32, z = (gm 38 r_7.toNatClampNeg) := ⟨_, rfl⟩
        refine W.eq (g2 := F0 m 48 ls [.int z_19]) (by rw [ez_19]) ?_
        have hz_19 : iv 0 1 z_19 := iv_of ez_19 (CI_a hI 38 h_11 (by decide))
        refine lv_if_ne (tgt := 68) hx hb dX5_obtain_48 (by decide) (fun c_20 => ?_) (fun c_20 => ?_)
        · have h_21 : iv 1 1 z_19 := iv_neL c_20 hz_19 (by decide)
          exact hj68 r_7 h_11 hvx hvdp (hMO _ (lt_cl h_11 (show iv 0 80 (sg 12) from CI_s hI 12) (by decide) (by decide) (fI_r_7.resolve_left (by have := i32_0; have := i32_1; have := i32_2; have := i32_m1; have := (hvx).1; have := (hvx).2; have := (hvdp).1; have := (hvdp).2; have := (h_11).1; have := (h_11).2; have := (h_14).1; have := (h_14).2; have := (h_18).1; have := (h_18).2; have := (h_21).1; have := (h_21).2; have := (h_11).1; omega)).1) (fun q9 => absurd (congrArg Int32.toInt (show z_19 = 0 from ez_19.trans q9)) (by have := i32_0; have := i32_0; have := i32_1; have := i32_2; have := i32_m1; have := (hvx).1; have := (hvx).2; have := (hvdp).1; have := (hvdp).2; have := (h_11).1; have := (h_11).2; have := (h_14).1; have := (h_14).2; have := (h_18).1; have := (h_18).2; have := (h_21).1; have := (h_21).2; omega)) (fI_r_7.resolve_left (by have := i32_0; have := i32_1; have := i32_2; have := i32_m1; have := (hvx).1; have := (hvx).2; have := (hvdp).1; have := (hvdp).2; have := (h_11).1; have := (h_11).2; have := (h_14).1; have := (h_14).2; have := (h_18).1; have := (h_18).2; have := (h_21).1; have := (h_21).2; have := (h_11).1; omega)).2 (show gm 35 r_7.toNatClampNeg = 0 from ez_15.symm.trans (Int32.toInt_inj.mp (by have := i32_0; have := i32_0; have := i32_1; have := i32_2; have := i32_m1; have := (hvx).1; have := (hvx).2; have := (hvdp).1; have := (hvdp).2; have := (h_11).1; have := (h_11).2; have := (h_14).1; have := (h_14).2; have := (h_18).1; have := (h_18).2; have := (h_21).1; have := (h_21).2; omega)))) ((by have g := RC_g2 hRC (lt_cl h_11 (show iv 0 80 (sg 12) from CI_s hI 12) (by decide) (by decide) (fI_r_7.resolve_left (by have := i32_0; have := i32_1; have := i32_2; have := i32_m1; have := (hvx).1; have := (hvx).2; have := (hvdp).1; have := (hvdp).2; have := (h_11).1; have := (h_11).2; have := (h_14).1; have := (h_14).2; have := (h_18).1; have := (h_18).2; have := (h_21).1; have := (h_21).2; have := (h_11).1; omega)).1) (fI_r_7.resolve_left (by have := i32_0; have := i32_1; have := i32_2; have := i32_m1; have := (hvx).1; have := (hvx).2; have := (hvdp).1; have := (hvdp).2; have := (h_11).1; have := (h_11).2; have := (h_14).1; have := (h_14).2; have := (h_18).1; have := (h_18).2; have := (h_21).1; have := (h_21).2; have := (h_11).1; omega)).2 (show wg 35 r_7.toNatClampNeg = 0 from (by rw [show wg 35 r_7.toNatClampNeg = gm 35 r_7.toNatClampNeg from sw9 hSW 35 rfl _]; exact (show gm 35 r_7.toNatClampNeg = 0 from ez_15.symm.trans (Int32.toInt_inj.mp (by have := i32_0; have := i32_0; have := i32_1; have := i32_2; have := i32_m1; have := (hvx).1; have := (hvx).2; have := (hvdp).1; have := (hvdp).2; have := (h_11).1; have := (h_11).2; have := (h_14).1; have := (h_14).2; have := (h_18).1; have := (h_18).2; have := (h_21).1; have := (h_21).2; omega))))) (fun q9 => absurd (congrArg Int32.toInt (show z_19 = 0 from ez_19.trans q9)) (by have := i32_0; have := i32_0; have := i32_1; have := i32_2; have := i32_m1; have := (hvx).1; have := (hvx).2; have := (hvdp).1; have := (hvdp).2; have := (h_11).1; have := (h_11).2; have := (h_14).1; have := (h_14).2; have := (h_18).1; have := (h_18).2; have := (h_21).1; have := (h_21).2; omega)); have l14 := hRC.1.1; rw [(show caN ws wg lg nm = r_7.toInt from fC_r_7.symm)]; refine ⟨?_, by have := g.2.1; have := g.2.2; omega⟩; rw [← g.2.1]; exact oGet_h (h_11).1 (show wg 34 r_7.toNatClampNeg = 0 from (by rw [show wg 34 r_7.toNatClampNeg = gm 34 r_7.toNatClampNeg from sw9 hSW 34 rfl _]; exact (show gm 34 r_7.toNatClampNeg = 0 from ez_12.symm.trans (Int32.toInt_inj.mp (by have := i32_0; have := i32_0; have := i32_1; have := i32_2; have := i32_m1; have := (hvx).1; have := (hvx).2; have := (hvdp).1; have := (hvdp).2; have := (h_11).1; have := (h_11).2; have := (h_14).1; have := (h_14).2; have := (h_18).1; have := (h_18).2; have := (h_21).1; have := (h_21).2; omega))))) (show wg 35 r_7.toNatClampNeg = 0 from (by rw [show wg 35 r_7.toNatClampNeg = gm 35 r_7.toNatClampNeg from sw9 hSW 35 rfl _]; exact (show gm 35 r_7.toNatClampNeg = 0 from ez_15.symm.trans (Int32.toInt_inj.mp (by have := i32_0; have := i32_0; have := i32_1; have := i32_2; have := i32_m1; have := (hvx).1; have := (hvx).2; have := (hvdp).1; have := (hvdp).2; have := (h_11).1; have := (h_11).2; have := (h_14).1; have := (h_14).2; have := (h_18).1; have := (h_18).2; have := (h_21).1; have := (h_21).2; omega))))) (Or.inl g.1))) _ _ _ hP hD hS (lv_sub hl [0, 1, 2, 3] rfl)
        · have h_22 : iv 0 0 z_19 := iv_eq c_20 hz_19 (iv_k (by decide) : iv 0 0 0) (by decide)
          refine ec_aload hx hb dX5_obtain_51 (lv_at hl 0 rfl) ?_
          refine cr_get (t := 10) (j := 16) (C := RX1) (T := TX1) (N := 19) (v := .int (gm 37 r_7.toNatClampNeg)) hx hb htb inX1 hown hK hP h_11 (by decide) (by decide) (by decide) rfl (by decide) (htb _ kw_382) rfl dX5_obtain_53 ?_
          obtain ⟨z_23, ez_23⟩ : ∃ z : Int32, z = (gm 37 r_7.toNatClampNeg) := ⟨_, rfl⟩
          refine W.eq (g2 := F0 m 56 ls [.int z_23]) (by rw [ez_23]) ?_
          have hz_23 : iv 0 1 z_23 := iv_of ez_23 (CI_a hI 37 h_11 (by decide))
          refine lv_if_eq (tgt := 74) hx hb dX5_obtain_56 (by decide) (fun c_24 => ?_) (fun c_24 => ?_)
          · have h_25 : iv 0 0 z_23 := iv_eq c_24 hz_23 (iv_k (by decide) : iv 0 0 0) (by decide)
            exact hj74 r_7 h_11 hvx hvdp (fun _ _ => (show gm 38 r_7.toNatClampNeg = 0 from ez_19.symm.trans (Int32.toInt_inj.mp (by have := i32_0; have := i32_0; have := i32_1; have := i32_2; have := i32_m1; have := (hvx).1; have := (hvx).2; have := (hvdp).1; have := (hvdp).2; have := (h_11).1; have := (h_11).2; have := (h_14).1; have := (h_14).2; have := (h_18).1; have := (h_18).2; have := (h_22).1; have := (h_22).2; have := (h_25).1; have := (h_25).2; omega)))) ((fI_r_7.resolve_left (by have := i32_0; have := i32_1; have := i32_2; have := i32_m1; have := (hvx).1; have := (hvx).2; have := (hvdp).1; have := (hvdp).2; have := (h_11).1; have := (h_11).2; have := (h_14).1; have := (h_14).2; have := (h_18).1; have := (h_18).2; have := (h_22).1; have := (h_22).2; have := (h_25).1; have := (h_25).2; have := (h_11).1; omega)).1) ((by rw [(show caN ws wg lg nm = r_7.toInt from fC_r_7.symm)]; exact oGet_m (h_11).1 (show wg 34 r_7.toNatClampNeg = 0 from (by rw [show wg 34 r_7.toNatClampNeg = gm 34 r_7.toNatClampNeg from sw9 hSW 34 rfl _]; exact (show gm 34 r_7.toNatClampNeg = 0 from ez_12.symm.trans (Int32.toInt_inj.mp (by have := i32_0; have := i32_0; have := i32_1; have := i32_2; have := i32_m1; have := (hvx).1; have := (hvx).2; have := (hvdp).1; have := (hvdp).2; have := (h_11).1; have := (h_11).2; have := (h_14).1; have := (h_14).2; have := (h_18).1; have := (h_18).2; have := (h_22).1; have := (h_22).2; have := (h_25).1; have := (h_25).2; omega))))) (fun q => q.2.elim (RC_n2 hRC (lt_cl h_11 (show iv 0 80 (sg 12) from CI_s hI 12) (by decide) (by decide) (fI_r_7.resolve_left (by have := i32_0; have := i32_1; have := i32_2; have := i32_m1; have := (hvx).1; have := (hvx).2; have := (hvdp).1; have := (hvdp).2; have := (h_11).1; have := (h_11).2; have := (h_14).1; have := (h_14).2; have := (h_18).1; have := (h_18).2; have := (h_22).1; have := (h_22).2; have := (h_25).1; have := (h_25).2; have := (h_11).1; omega)).1) (fI_r_7.resolve_left (by have := i32_0; have := i32_1; have := i32_2; have := i32_m1; have := (hvx).1; have := (hvx).2; have := (hvdp).1; have := (hvdp).2; have := (h_11).1; have := (h_11).2; have := (h_14).1; have := (h_14).2; have := (h_18).1; have := (h_18).2; have := (h_22).1; have := (h_22).2; have := (h_25).1; have := (h_25).2; have := (h_11).1; omega)).2 q.1 (show gm 38 r_7.toNatClampNeg = 0 from ez_19.symm.trans (Int32.toInt_inj.mp (by have := i32_0; have := i32_0; have := i32_1; have := i32_2; have := i32_m1; have := (hvx).1; have := (hvx).2; have := (hvdp).1; have := (hvdp).2; have := (h_11).1; have := (h_11).2; have := (h_14).1; have := (h_14).2; have := (h_18).1; have := (h_18).2; have := (h_22).1; have := (h_22).2; have := (h_25).1; have := (h_25).2; omega)))) (fun q2 => RC_z0 hRC (lt_cl h_11 (show iv 0 80 (sg 12) from CI_s hI 12) (by decide) (by decide) (fI_r_7.resolve_left (by have := i32_0; have := i32_1; have := i32_2; have := i32_m1; have := (hvx).1; have := (hvx).2; have := (hvdp).1; have := (hvdp).2; have := (h_11).1; have := (h_11).2; have := (h_14).1; have := (h_14).2; have := (h_18).1; have := (h_18).2; have := (h_22).1; have := (h_22).2; have := (h_25).1; have := (h_25).2; have := (h_11).1; omega)).1) (show gm 37 r_7.toNatClampNeg = 0 from ez_23.symm.trans (Int32.toInt_inj.mp (by have := i32_0; have := i32_0; have := i32_1; have := i32_2; have := i32_m1; have := (hvx).1; have := (hvx).2; have := (hvdp).1; have := (hvdp).2; have := (h_11).1; have := (h_11).2; have := (h_14).1; have := (h_14).2; have := (h_18).1; have := (h_18).2; have := (h_22).1; have := (h_22).2; have := (h_25).1; have := (h_25).2; omega))) q2.1)))) _ _ _ hP hD hS (lv_sub hl [0, 1, 2, 3] rfl)
          · have h_26 : iv 1 1 z_23 := iv_neL c_24 hz_23 (by decide)
            refine ec_aload hx hb dX5_obtain_59 (lv_at hl 0 rfl) ?_
            refine cr_get (t := 10) (j := 18) (C := RX1) (T := TX1) (N := 19) (v := .int (gm 39 r_7.toNatClampNeg)) hx hb htb inX1 hown hK hP h_11 (by decide) (by decide) (by decide) rfl (by decide) (htb _ kw_386) rfl dX5_obtain_61 ?_
            obtain ⟨z_27, ez_27⟩ : ∃ z : Int32, z = (gm 39 r_7.toNatClampNeg) := ⟨_, rfl⟩
            refine W.eq (g2 := F0 m 64 ls [.int z_27]) (by rw [ez_27]) ?_
            have hz_27 : iv (-1) 59 z_27 := iv_of ez_27 (CI_a hI 39 h_11 (by decide))
            refine lv_iconst (v := (-1)) hx hb dX5_obtain_64 (by decide) ?_
            refine lv_icmp_eq (tgt := 74) hx hb dX5_obtain_65 (by decide) (fun c_28 => ?_) (fun c_28 => ?_)
            · have h_29 : iv (-1) (-1) z_27 := iv_eq c_28 hz_27 (iv_k (by decide) : iv (-1) (-1) (-1)) (by decide)
              exact hj74 r_7 h_11 hvx hvdp (fun _ _ => (show gm 38 r_7.toNatClampNeg = 0 from ez_19.symm.trans (Int32.toInt_inj.mp (by have := i32_0; have := i32_0; have := i32_1; have := i32_2; have := i32_m1; have := (hvx).1; have := (hvx).2; have := (hvdp).1; have := (hvdp).2; have := (h_11).1; have := (h_11).2; have := (h_14).1; have := (h_14).2; have := (h_18).1; have := (h_18).2; have := (h_22).1; have := (h_22).2; have := (h_26).1; have := (h_26).2; have := (h_29).1; have := (h_29).2; omega)))) ((fI_r_7.resolve_left (by have := i32_0; have := i32_1; have := i32_2; have := i32_m1; have := (hvx).1; have := (hvx).2; have := (hvdp).1; have := (hvdp).2; have := (h_11).1; have := (h_11).2; have := (h_14).1; have := (h_14).2; have := (h_18).1; have := (h_18).2; have := (h_22).1; have := (h_22).2; have := (h_26).1; have := (h_26).2; have := (h_29).1; have := (h_29).2; have := (h_11).1; omega)).1) ((by rw [(show caN ws wg lg nm = r_7.toInt from fC_r_7.symm)]; exact oGet_m (h_11).1 (show wg 34 r_7.toNatClampNeg = 0 from (by rw [show wg 34 r_7.toNatClampNeg = gm 34 r_7.toNatClampNeg from sw9 hSW 34 rfl _]; exact (show gm 34 r_7.toNatClampNeg = 0 from ez_12.symm.trans (Int32.toInt_inj.mp (by have := i32_0; have := i32_0; have := i32_1; have := i32_2; have := i32_m1; have := (hvx).1; have := (hvx).2; have := (hvdp).1; have := (hvdp).2; have := (h_11).1; have := (h_11).2; have := (h_14).1; have := (h_14).2; have := (h_18).1; have := (h_18).2; have := (h_22).1; have := (h_22).2; have := (h_26).1; have := (h_26).2; have := (h_29).1; have := (h_29).2; omega))))) (fun q => q.2.elim (RC_n2 hRC (lt_cl h_11 (show iv 0 80 (sg 12) from CI_s hI 12) (by decide) (by decide) (fI_r_7.resolve_left (by have := i32_0; have := i32_1; have := i32_2; have := i32_m1; have := (hvx).1; have := (hvx).2; have := (hvdp).1; have := (hvdp).2; have := (h_11).1; have := (h_11).2; have := (h_14).1; have := (h_14).2; have := (h_18).1; have := (h_18).2; have := (h_22).1; have := (h_22).2; have := (h_26).1; have := (h_26).2; have := (h_29).1; have := (h_29).2; have := (h_11).1; omega)).1) (fI_r_7.resolve_left (by have := i32_0; have := i32_1; have := i32_2; have := i32_m1; have := (hvx).1; have := (hvx).2; have := (hvdp).1; have := (hvdp).2; have := (h_11).1; have := (h_11).2; have := (h_14).1; have := (h_14).2; have := (h_18).1; have := (h_18).2; have := (h_22).1; have := (h_22).2; have := (h_26).1; have := (h_26).2; have := (h_29).1; have := (h_29).2; have := (h_11).1; omega)).2 q.1 (show gm 38 r_7.toNatClampNeg = 0 from ez_19.symm.trans (Int32.toInt_inj.mp (by have := i32_0; have := i32_0; have := i32_1; have := i32_2; have := i32_m1; have := (hvx).1; have := (hvx).2; have := (hvdp).1; have := (hvdp).2; have := (h_11).1; have := (h_11).2; have := (h_14).1; have := (h_14).2; have := (h_18).1; have := (h_18).2; have := (h_22).1; have := (h_22).2; have := (h_26).1; have := (h_26).2; have := (h_29).1; have := (h_29).2; omega)))) (fun q2 => q2.2 (by have g := RC_g1 hRC (lt_cl h_11 (show iv 0 80 (sg 12) from CI_s hI 12) (by decide) (by decide) (fI_r_7.resolve_left (by have := i32_0; have := i32_1; have := i32_2; have := i32_m1; have := (hvx).1; have := (hvx).2; have := (hvdp).1; have := (hvdp).2; have := (h_11).1; have := (h_11).2; have := (h_14).1; have := (h_14).2; have := (h_18).1; have := (h_18).2; have := (h_22).1; have := (h_22).2; have := (h_26).1; have := (h_26).2; have := (h_29).1; have := (h_29).2; have := (h_11).1; omega)).1) (fI_r_7.resolve_left (by have := i32_0; have := i32_1; have := i32_2; have := i32_m1; have := (hvx).1; have := (hvx).2; have := (hvdp).1; have := (hvdp).2; have := (h_11).1; have := (h_11).2; have := (h_14).1; have := (h_14).2; have := (h_18).1; have := (h_18).2; have := (h_22).1; have := (h_22).2; have := (h_26).1; have := (h_26).2; have := (h_29).1; have := (h_29).2; have := (h_11).1; omega)).2 q.1 (fun q9 => absurd (congrArg Int32.toInt (show z_23 = 0 from ez_23.trans q9)) (by have := i32_0; have := i32_0; have := i32_1; have := i32_2; have := i32_m1; have := (hvx).1; have := (hvx).2; have := (hvdp).1; have := (hvdp).2; have := (h_11).1; have := (h_11).2; have := (h_14).1; have := (h_14).2; have := (h_18).1; have := (h_18).2; have := (h_22).1; have := (h_22).2; have := (h_26).1; have := (h_26).2; have := (h_29).1; have := (h_29).2; omega)); show zW S r_7.toNatClampNeg = -1; rw [g.2.1, ← ez_27]; have := i32_0; have := i32_1; have := i32_2; have := i32_m1; have := (hvx).1; have := (hvx).2; have := (hvdp).1; have := (hvdp).2; have := (h_11).1; have := (h_11).2; have := (h_14).1; have := (h_14).2; have := (h_18).1; have := (h_18).2; have := (h_22).1; have := (h_22).2; have := (h_26).1; have := (h_26).2; have := (h_29).1; have := (h_29).2; omega))))) _ _ _ hP hD hS (lv_sub hl [0, 1, 2, 3] rfl)
            · have h_30 : iv 0 59 z_27 := iv_neL c_28 hz_27 (by decide)
              exact hj68 r_7 h_11 hvx hvdp ((by rw [← ez_27]; have := i32_0; have := i32_1; have := i32_2; have := i32_m1; have := (hvx).1; have := (hvx).2; have := (hvdp).1; have := (hvdp).2; have := (h_11).1; have := (h_11).2; have := (h_14).1; have := (h_14).2; have := (h_18).1; have := (h_18).2; have := (h_22).1; have := (h_22).2; have := (h_26).1; have := (h_26).2; have := (h_30).1; have := (h_30).2; have := (h_30).1; omega)) ((by have g := RC_g1 hRC (lt_cl h_11 (show iv 0 80 (sg 12) from CI_s hI 12) (by decide) (by decide) (fI_r_7.resolve_left (by have := i32_0; have := i32_1; have := i32_2; have := i32_m1; have := (hvx).1; have := (hvx).2; have := (hvdp).1; have := (hvdp).2; have := (h_11).1; have := (h_11).2; have := (h_14).1; have := (h_14).2; have := (h_18).1; have := (h_18).2; have := (h_22).1; have := (h_22).2; have := (h_26).1; have := (h_26).2; have := (h_30).1; have := (h_30).2; have := (h_11).1; omega)).1) (fI_r_7.resolve_left (by have := i32_0; have := i32_1; have := i32_2; have := i32_m1; have := (hvx).1; have := (hvx).2; have := (hvdp).1; have := (hvdp).2; have := (h_11).1; have := (h_11).2; have := (h_14).1; have := (h_14).2; have := (h_18).1; have := (h_18).2; have := (h_22).1; have := (h_22).2; have := (h_26).1; have := (h_26).2; have := (h_30).1; have := (h_30).2; have := (h_11).1; omega)).2 (show wg 35 r_7.toNatClampNeg = 0 from (by rw [show wg 35 r_7.toNatClampNeg = gm 35 r_7.toNatClampNeg from sw9 hSW 35 rfl _]; exact (show gm 35 r_7.toNatClampNeg = 0 from ez_15.symm.trans (Int32.toInt_inj.mp (by have := i32_0; have := i32_0; have := i32_1; have := i32_2; have := i32_m1; have := (hvx).1; have := (hvx).2; have := (hvdp).1; have := (hvdp).2; have := (h_11).1; have := (h_11).2; have := (h_14).1; have := (h_14).2; have := (h_18).1; have := (h_18).2; have := (h_22).1; have := (h_22).2; have := (h_26).1; have := (h_26).2; have := (h_30).1; have := (h_30).2; omega))))) (fun q9 => absurd (congrArg Int32.toInt (show z_23 = 0 from ez_23.trans q9)) (by have := i32_0; have := i32_0; have := i32_1; have := i32_2; have := i32_m1; have := (hvx).1; have := (hvx).2; have := (hvdp).1; have := (hvdp).2; have := (h_11).1; have := (h_11).2; have := (h_14).1; have := (h_14).2; have := (h_18).1; have := (h_18).2; have := (h_22).1; have := (h_22).2; have := (h_26).1; have := (h_26).2; have := (h_30).1; have := (h_30).2; omega)); have l14 := hRC.1.1; rw [(show caN ws wg lg nm = r_7.toInt from fC_r_7.symm)]; refine ⟨?_, by have := g.2.1; have := g.2.2; omega⟩; rw [← g.2.1]; exact oGet_h (h_11).1 (show wg 34 r_7.toNatClampNeg = 0 from (by rw [show wg 34 r_7.toNatClampNeg = gm 34 r_7.toNatClampNeg from sw9 hSW 34 rfl _]; exact (show gm 34 r_7.toNatClampNeg = 0 from ez_12.symm.trans (Int32.toInt_inj.mp (by have := i32_0; have := i32_0; have := i32_1; have := i32_2; have := i32_m1; have := (hvx).1; have := (hvx).2; have := (hvdp).1; have := (hvdp).2; have := (h_11).1; have := (h_11).2; have := (h_14).1; have := (h_14).2; have := (h_18).1; have := (h_18).2; have := (h_22).1; have := (h_22).2; have := (h_26).1; have := (h_26).2; have := (h_30).1; have := (h_30).2; omega))))) (show wg 35 r_7.toNatClampNeg = 0 from (by rw [show wg 35 r_7.toNatClampNeg = gm 35 r_7.toNatClampNeg from sw9 hSW 35 rfl _]; exact (show gm 35 r_7.toNatClampNeg = 0 from ez_15.symm.trans (Int32.toInt_inj.mp (by have := i32_0; have := i32_0; have := i32_1; have := i32_2; have := i32_m1; have := (hvx).1; have := (hvx).2; have := (hvdp).1; have := (hvdp).2; have := (h_11).1; have := (h_11).2; have := (h_14).1; have := (h_14).2; have := (h_18).1; have := (h_18).2; have := (h_22).1; have := (h_22).2; have := (h_26).1; have := (h_26).2; have := (h_30).1; have := (h_30).2; omega))))) (Or.inr ⟨g.1, (by show ¬ zW S r_7.toNatClampNeg = -1; rw [g.2.1, ← ez_27]; have := i32_0; have := i32_1; have := i32_2; have := i32_m1; have := (hvx).1; have := (hvx).2; have := (hvdp).1; have := (hvdp).2; have := (h_11).1; have := (h_11).2; have := (h_14).1; have := (h_14).2; have := (h_18).1; have := (h_18).2; have := (h_22).1; have := (h_22).2; have := (h_26).1; have := (h_26).2; have := (h_30).1; have := (h_30).2; omega)⟩))) _ _ _ hP hD hS (lv_sub hl [0, 1, 2, 3] rfl)
    · have h_31 : iv 1 1 z_12 := iv_neL c_13 hz_12 (by decide)
      refine ec_aload_n hx hb dX5_obtain_29 rfl (lv_at hl 1 rfl) ?_
      refine lv_iconst (v := 2) hx hb dX5_obtain_30 (by decide) ?_
      refine cm_callV (t := 6) (C := RX5) (T := TX5) (N := 13) (rest := []) (as := [.int 2]) ⟨hx, hb, hml, hown, htb⟩ (d_failWith l dC dI ad cid a2 lx sg gm lg hl9 x 2 hI hvx (iv_w (iv_k (by decide) : iv 2 2 2) (by decide))) (cwV 1 htb (gd_V kw_899 kw_900 kw_50 kw_159 kw_1530) rfl rfl rfl (by decide +kernel) ⟨(show 6 + 1 ≤ 22 + 8 * n9 from by omega), (show 8 + (2 + 11) + (120) ≤ 640 + 260 * n9 from by omega)⟩) hvx (by decide) (by decide) rfl rfl hl.1 rfl (Nat.le_trans cs_n (by decide)) dX5_obtain_31 ⟨Nat.le_of_ble_eq_true rfl, Nat.le_of_ble_eq_true rfl⟩ hK hP hD hS hA hG (fun E ce q9 u_33 H locs hw hP hD hS hce hcv hcl => ?_) (fun v9 u_33 H locs hw hP hD hS => ?_)
      · obtain ⟨hE, hw⟩ := hw
        obtain ⟨sgv_34, gmv_34, lgv_34, rfl, hIv_34, ksv_34, kgv_34, klv_34⟩ := hw
        obtain rfl := KS_nil kgv_34
        obtain rfl := KS_nil klv_34
        have hP : va_P (dC, dI) vwCl (cW ad cid a2 lx sgv_34 gm lg) H := hP
        have hD : va_D A (cW ad cid a2 lx sgv_34 gm lg) := hD
        exact vx_out (fun x hx9 => (hxt x hx9).elim) hlocks hce hcv hcl (fun t ht hal => ⟨⟨(sgv_34, gm, lg), ⟨hE, sgv_34, gm, lg, rfl, hIv_34, (KS_tr (L := [13, 14, 15, 16, 17, 18]) KS_rf ksv_34 (by decide)), KS_rf, KS_rf, ((MOK_e hMO (show sgv_34 12 = sg 12 from (ksv_34 12 (by decide))) rfl rfl rfl rfl)), ((FND9_e hFN (show sgv_34 15 = sg 15 from (ksv_34 15 (by decide))) rfl)), (⟨S, (by rw [(show caN ws wg lg nm = r_7.toInt from fC_r_7.symm)]; exact oGet_a (h_11).1 (show ¬ wg 34 r_7.toNatClampNeg = 0 from (by rw [show wg 34 r_7.toNatClampNeg = gm 34 r_7.toNatClampNeg from sw9 hSW 34 rfl _]; exact (fun q9 => absurd (congrArg Int32.toInt (show z_12 = 0 from ez_12.trans q9)) (by have := i32_0; have := i32_0; have := i32_1; have := i32_2; have := i32_m1; have := (hvx).1; have := (hvx).2; have := (hvdp).1; have := (hvdp).2; have := (h_11).1; have := (h_11).2; have := (h_31).1; have := (h_31).2; omega))))), (RC_ks (L := [17, 18]) (M := []) hRC (KS_tr (L := [17, 18]) KS_rf ksv_34 (by decide)) KS_rf (by decide) (by decide))⟩)⟩, by rw [ht]; exact hP, va_K.moved hal hK, hD⟩, hS.F ht⟩) hS.2.2 (Nat.le_of_ble_eq_true rfl) (Nat.le_of_ble_eq_true rfl)
      obtain ⟨r_32, rfl, sgv_35, gmv_35, lgv_35, rfl, hIv_35, ksv_35, kgv_35, klv_35, fF_r_32⟩ := hw
      obtain rfl := KS_nil kgv_35
      obtain rfl := KS_nil klv_35
      have hP : va_P (dC, dI) vwCl (cW ad cid a2 lx sgv_35 gm lg) H := hP
      have hD : va_D A (cW ad cid a2 lx sgv_35 gm lg) := hD
      exact fF_r_32.elim
  · have h_36 : iv (-1) (-1) r_7 := ⟨(hr_7).1, by omega⟩
    refine ec_aload_n hx hb dX5_obtain_15 rfl (lv_at hl 1 rfl) ?_
    refine lv_iconst (v := 1) hx hb dX5_obtain_16 (by decide) ?_
    refine cm_callV (t := 6) (C := RX5) (T := TX5) (N := 13) (rest := []) (as := [.int 1]) ⟨hx, hb, hml, hown, htb⟩ (d_failWith l dC dI ad cid a2 lx sg gm lg hl9 x 1 hI hvx (iv_w (iv_k (by decide) : iv 1 1 1) (by decide))) (cwV 1 htb (gd_V kw_899 kw_900 kw_50 kw_159 kw_1530) rfl rfl rfl (by decide +kernel) ⟨(show 6 + 1 ≤ 22 + 8 * n9 from by omega), (show 8 + (2 + 11) + (120) ≤ 640 + 260 * n9 from by omega)⟩) hvx (by decide) (by decide) rfl rfl hl.1 rfl (Nat.le_trans cs_n (by decide)) dX5_obtain_17 ⟨Nat.le_of_ble_eq_true rfl, Nat.le_of_ble_eq_true rfl⟩ hK hP hD hS hA hG (fun E ce q9 u_38 H locs hw hP hD hS hce hcv hcl => ?_) (fun v9 u_38 H locs hw hP hD hS => ?_)
    · obtain ⟨hE, hw⟩ := hw
      obtain ⟨sgv_39, gmv_39, lgv_39, rfl, hIv_39, ksv_39, kgv_39, klv_39⟩ := hw
      obtain rfl := KS_nil kgv_39
      obtain rfl := KS_nil klv_39
      have hP : va_P (dC, dI) vwCl (cW ad cid a2 lx sgv_39 gm lg) H := hP
      have hD : va_D A (cW ad cid a2 lx sgv_39 gm lg) := hD
      exact vx_out (fun x hx9 => (hxt x hx9).elim) hlocks hce hcv hcl (fun t ht hal => ⟨⟨(sgv_39, gm, lg), ⟨hE, sgv_39, gm, lg, rfl, hIv_39, (KS_tr (L := [13, 14, 15, 16, 17, 18]) KS_rf ksv_39 (by decide)), KS_rf, KS_rf, ((MOK_e hMO (show sgv_39 12 = sg 12 from (ksv_39 12 (by decide))) rfl rfl rfl rfl)), ((FND9_e hFN (show sgv_39 15 = sg 15 from (ksv_39 15 (by decide))) rfl)), (⟨S, oGet_n (by rw [(show caN ws wg lg nm = r_7.toInt from fC_r_7.symm)]; have := i32_0; have := i32_1; have := i32_2; have := i32_m1; have := (hvx).1; have := (hvx).2; have := (hvdp).1; have := (hvdp).2; have := (h_36).1; have := (h_36).2; have := (h_36).2; omega), (RC_ks (L := [17, 18]) (M := []) hRC (KS_tr (L := [17, 18]) KS_rf ksv_39 (by decide)) KS_rf (by decide) (by decide))⟩)⟩, by rw [ht]; exact hP, va_K.moved hal hK, hD⟩, hS.F ht⟩) hS.2.2 (Nat.le_of_ble_eq_true rfl) (Nat.le_of_ble_eq_true rfl)
    obtain ⟨r_37, rfl, sgv_40, gmv_40, lgv_40, rfl, hIv_40, ksv_40, kgv_40, klv_40, fF_r_37⟩ := hw
    obtain rfl := KS_nil kgv_40
    obtain rfl := KS_nil klv_40
    have hP : va_P (dC, dI) vwCl (cW ad cid a2 lx sgv_40 gm lg) H := hP
    have hD : va_D A (cW ad cid a2 lx sgv_40 gm lg) := hD
    exact fF_r_37.elim

theorem d_rec9 (l : Launch) (dC : Nat → ClassId) (dI : Nat → Nat → Nat) (ad : Nat → Nat → Nat) (cid : Nat → ClassId) (a2 : Nat → Nat) (lx : List Nat) (hl9 : l.stackTraces = false) : ∀ n9, PM9 l dC dI ad cid a2 lx n9 ∧ PO9 l dC dI ad cid a2 lx n9 := by
  intro n9
  induction n9 with
  | zero =>
    have hm : PM9 l dC dI ad cid a2 lx 0 := fun sg gm lg x b dp wg ws S hI hvx hvb hvdp hW hLD hMO hFN hb12 hnm hdp hSW hSS hSV hRC => d_make09 l dC dI ad cid a2 lx sg gm lg hl9 0 x b dp wg ws S hI hvx hvb hvdp hW hLD hMO hFN hb12 hnm (by omega) hSW hSS hSV hRC
    exact ⟨hm, fun sg gm lg x nm dp wg ws S hI hvx hvdp hW hLD hMO hFN hdp hSW hSS hSV hRC => d_obtain9 l dC dI ad cid a2 lx sg gm lg hl9 0 hm x nm dp wg ws S hI hvx hvdp hW hLD hMO hFN hdp hSW hSS hSV hRC⟩
  | succ n9 ih =>
    have hm : PM9 l dC dI ad cid a2 lx (n9 + 1) := fun sg gm lg x b dp wg ws S hI hvx hvb hvdp hW hLD hMO hFN hb12 hnm hdp hSW hSS hSV hRC => d_make9 l dC dI ad cid a2 lx sg gm lg hl9 n9 ih.2 ih.1 x b dp wg ws S hI hvx hvb hvdp hW hLD hMO hFN hb12 hnm hdp hSW hSS hSV hRC
    exact ⟨hm, fun sg gm lg x nm dp wg ws S hI hvx hvdp hW hLD hMO hFN hdp hSW hSS hSV hRC => d_obtain9 l dC dI ad cid a2 lx sg gm lg hl9 (n9 + 1) hm x nm dp wg ws S hI hvx hvdp hW hLD hMO hFN hdp hSW hSS hSV hRC⟩
end
section
section CL9
variable {wg : Nat → Nat → Int32} {lg : Nat → Nat → Int64} {S : S9} {sg sg2 : Nat → Int32} {gm gm2 : Nat → Nat → Int32}
theorem RC_fo (h : RC wg lg S sg gm) (hs : KS [15] sg sg2) (hg : KS [38] gm gm2) (hM : ∀ c, c < (sg 12).toNatClampNeg → gm2 38 c = 0) (h15 : (sg2 15).toInt = 0) : RC wg lg (zFo S) sg2 gm2 := by
  obtain ⟨ho, he, hb, hf⟩ := h
  have s12 := hs 12 (by decide); have s13 := hs 13 (by decide); have s14 := hs 14 (by decide)
  have g37 := hg 37 (by decide); have g39 := hg 39 (by decide); have g48 := hg 48 (by decide); have g49 := hg 49 (by decide); have g50 := hg 50 (by decide)
  refine ⟨?_, ?_, ?_, ?_⟩
  · unfold RCo; rw [s14, g49, g50]; exact ho
  · unfold RCe; rw [s13, g48]; exact he
  · unfold RCb; rw [s12, g37, g39]
    intro x hx
    show ((if zS S x = 2 then 0 else zS S x) = 1 ↔ _) ∧ (_ → _ → ((if zS S x = 2 then 0 else zS S x) = 2 ↔ _) ∧ (¬ (if zS S x = 2 then 0 else zS S x) = 0 → _ = zW S x ∧ zW S x < ((zO S).length : Int))) ∧ (if zS S x = 2 then 0 else zS S x) ≤ 2
    have hx1 := hb x hx
    by_cases e : zS S x = 2
    · rw [if_pos e]
      exact ⟨⟨fun q => absurd q (by decide), fun q => absurd (hx1.1.mpr q) (by omega)⟩, fun _ _ => ⟨⟨fun q => absurd q (by decide), fun q => absurd (hM x hx) q⟩, fun q => absurd rfl q⟩, by omega⟩
    · rw [if_neg e]
      exact ⟨hx1.1, fun q1 q2 => ⟨⟨fun q => absurd q e, fun q => absurd (hM x hx) q⟩, (hx1.2.1 q1 q2).2⟩, hx1.2.2⟩
  · exact ⟨h15, fun k b hk => (by cases hk), List.nodup_nil⟩
theorem RC_stp (h : RC wg lg S sg gm) (hs : KS [16] sg sg2) (hg : KS [37] gm gm2) (hM : ∀ c, c < (sg 12).toNatClampNeg → gm2 37 c = 0) : RC wg lg (zSt S) sg2 gm2 := by
  obtain ⟨ho, he, hb, hf⟩ := h
  have s12 := hs 12 (by decide); have s13 := hs 13 (by decide); have s14 := hs 14 (by decide); have s15 := hs 15 (by decide)
  have g38 := hg 38 (by decide); have g39 := hg 39 (by decide); have g48 := hg 48 (by decide); have g49 := hg 49 (by decide); have g50 := hg 50 (by decide); have g51 := hg 51 (by decide)
  refine ⟨?_, ?_, ?_, ?_⟩
  · unfold RCo; rw [s14, g49, g50]; exact ho
  · unfold RCe; rw [s13, g48]; exact he
  · unfold RCb; rw [s12, g38, g39]
    intro x hx
    show ((if zS S x = 1 then 0 else zS S x) = 1 ↔ _) ∧ (_ → _ → ((if zS S x = 1 then 0 else zS S x) = 2 ↔ _) ∧ (¬ (if zS S x = 1 then 0 else zS S x) = 0 → _ = zW S x ∧ zW S x < ((zO S).length : Int))) ∧ (if zS S x = 1 then 0 else zS S x) ≤ 2
    have hx1 := hb x hx
    by_cases e : zS S x = 1
    · rw [if_pos e]
      exact ⟨⟨fun q => absurd q (by decide), fun q => absurd (hM x hx) q⟩, fun q1 q2 => ⟨⟨fun q => absurd q (by decide), fun q => absurd ((hx1.2.1 q1 q2).1.mpr q) (by omega)⟩, fun q => absurd rfl q⟩, by omega⟩
    · rw [if_neg e]
      exact ⟨⟨fun q => absurd q e, fun q => absurd (hM x hx) q⟩, hx1.2.1, hx1.2.2⟩
  · refine ⟨by rw [s15]; exact hf.1, fun k b hk => ?_, hf.2.2⟩
    have := hf.2.1 k b hk
    rw [s12, g51]
    refine ⟨this.1, this.2.1, this.2.2.1, this.2.2.2.1, ?_⟩
    show (if zS S b = 1 then 0 else zS S b) = 2
    rw [if_neg (by have := this.2.2.2.2; omega)]; exact this.2.2.2.2
theorem RC_ce (h : RC wg lg S sg gm) (hs : KS [13] sg sg2) (hg : KS [] gm gm2) (h13 : (sg2 13).toInt = 0) : RC wg lg (zCe S) sg2 gm2 := by
  obtain ⟨ho, he, hb, hf⟩ := h
  have hg2 : ∀ k, gm2 k = gm k := fun k => hg k rfl
  have s12 := hs 12 (by decide); have s14 := hs 14 (by decide); have s15 := hs 15 (by decide)
  refine ⟨?_, ⟨h13, fun k e hk => by cases hk⟩, ?_, ?_⟩
  · unfold RCo; rw [s14, hg2, hg2]; exact ho
  · unfold RCb; rw [s12, hg2, hg2, hg2]; exact hb
  · unfold RCf; rw [s12, s15, hg2]; exact hf
/-- the last of the finished ones first -/
theorem rvt9 {l : List Nat} {k x : Nat} (h : l[k]? = some x) : (l.take (k + 1)).reverse = x :: (l.take k).reverse := by
  have hk : k < l.length := gl9 h
  rw [List.getElem?_eq_getElem hk] at h
  rw [List.take_succ_eq_append_getElem hk, List.reverse_append, Option.some.inj h]; rfl
def DSR (wg : Nat → Nat → Int32) (S : S9) (n : Nat) (S2 : S9) : Prop := zCl wg S = zFo (dsL wg ((zF S).take n).reverse S2) ∧ zF S2 = zF S ∧ zS S2 = zS S ∧ zW S2 = zW S
theorem DSR_0 {n : Nat} (h : (zF S).length ≤ n) : DSR wg S n S := ⟨by unfold zCl; rw [List.take_of_length_le h], rfl, rfl, rfl⟩
theorem DSR_n {S2 : S9} {k b : Nat} (h : DSR wg S (k + 1) S2) (hk : (zF S)[k]? = some b) (hd : (wg 33 b).toInt = -1) : DSR wg S k S2 := by
  refine ⟨?_, h.2⟩
  rw [h.1, rvt9 hk]
  show zFo (dsL wg (zF S |>.take k).reverse (if (wg 33 b).toInt = -1 then S2 else _)) = _
  rw [if_pos hd]
theorem DSR_y {S2 : S9} {k b : Nat} {w o d z : Int} (h : DSR wg S (k + 1) S2) (hk : (zF S)[k]? = some b) (hw : w = 7) (ho : zW S b = o) (hdd : (wg 33 b).toInt = d) (hd : ¬ d = -1) (hz : z = 0) : DSR wg S k (zAdd S2 (w, o, d, z)) := by
  subst hw; subst ho; subst hdd; subst hz
  refine ⟨?_, by rw [zAdd_F]; exact h.2.1, by rw [zAdd_S]; exact h.2.2.1, by rw [zAdd_W]; exact h.2.2.2⟩
  rw [h.1, rvt9 hk]
  show zFo (dsL wg (zF S |>.take k).reverse (if (wg 33 b).toInt = -1 then S2 else _)) = _
  rw [if_neg hd, h.2.2.2]
theorem DSR_e {S2 : S9} (h : DSR wg S 0 S2) : zCl wg S = zFo S2 := h.1
end CL9
end
