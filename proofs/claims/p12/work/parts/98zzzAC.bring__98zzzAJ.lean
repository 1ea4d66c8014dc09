section
set_option maxHeartbeats 4000000 in
set_option maxRecDepth 100000 in
theorem d_bringToBe9 (l : Launch) (dC : Nat → ClassId) (dI : Nat → Nat → Nat) (ad : Nat → Nat → Nat) (cid : Nat → ClassId) (a2 : Nat → Nat) (lx : List Nat) (sg : Nat → Int32) (gm : Nat → Nat → Int32) (lg : Nat → Nat → Int64) (hl9 : l.stackTraces = false) (x : Int32) (b : Int32) (si : Int32) (dp : Int32) (wg : Nat → Nat → Int32) (S : S9) (VS : List (List Int)) (fo : Int) (hI : CI sg gm) (hvx : iv 0 0 x) (hvb : iv 0 79 b) (hvsi : iv 0 63 si) (hvdp : iv 0 39 dp) (hLD : LDI lx gm) (hW : WRD sg gm lg) (hb12 : b.toInt < (sg 12).toInt) (hSPF : SPF (gm 53) (gm 41 (3 * b.toNatClampNeg + 0)).toNatClampNeg) (hN3 : (gm 41 (3 * b.toNatClampNeg + 0)).toNatClampNeg ≤ 3) (hcs : (gm 7 si.toNatClampNeg).toInt = (gm 41 (3 * b.toNatClampNeg + 0)).toInt) (hSW : st9 gm = wg) (hRC : RC wg lg S sg gm) (hVA : VA wg (zO S) gm b.toNatClampNeg dp.toNatClampNeg VS) (hch : chS wg lg b.toNatClampNeg fo (zO S) VS = some (si.toNatClampNeg, f53 gm)) : CMt dC dI ad cid a2 lx l yX5_bringToBe wm_X5_bringToBe ({ frames := 7, cells := 1, slots := 6, locals := 141 }) [eV (ad 6) x, eV (ad 10) b, eV (ad 8) si, .int dp] sg gm lg (fun v u => v = none ∧ ∃ (sg2 : Nat → Int32) (gm2 : Nat → Nat → Int32) (lg2 : Nat → Nat → Int64), u = (sg2, gm2, lg2) ∧ CI sg2 gm2 ∧ KS [13, 14, 17, 18] sg sg2 ∧ KS [39, 48, 49, 50] gm gm2 ∧ KS [] lg lg2 ∧ (∃ n9 : Int32, gm2 39 = upd (gm 39) b.toNatClampNeg n9 ∧ 0 ≤ n9.toInt) ∧ (∃ o9 S9_, (oBr wg lg b.toNatClampNeg fo VS S) = (some o9, S9_) ∧ RC wg lg S9_ sg2 gm2 ∧ (gm2 39 b.toNatClampNeg).toInt = o9 ∧ o9 < (sg2 14).toInt ∧ (sg 14).toInt ≤ (sg2 14).toInt)) (fun E u => (E = "java/lang/UnsupportedOperationException") ∧ ∃ (sg2 : Nat → Int32) (gm2 : Nat → Nat → Int32) (lg2 : Nat → Nat → Int64), u = (sg2, gm2, lg2) ∧ CI sg2 gm2 ∧ KS [13, 14, 17, 18] sg sg2 ∧ KS [39, 48, 49, 50] gm gm2 ∧ KS [] lg lg2 ∧ (gm2 39 = gm 39) ∧ ((oBr wg lg b.toNatClampNeg fo VS S) = (none, S)) ∧ (RC wg lg S sg2 gm2)) := by
  intro sz
  refine vx_ofW (cc := cX5_bringToBe) (maxL := 7) (ret := none) (by decide) rfl ?_
  intro p e s m args below meth c s₁ B hml hxt hv
  obtain ⟨rfl, hsz, hP, hK, hD0, hG⟩ := hv
  have hx := B.exec
  have hb := B.bytes
  have hr := B.returns
  have hts := atoms_spec (ws := wm_X5_bringToBe) B.pre
  have htb := fun (w : Cond) (h : w ∈ tb) => hts w (List.mem_cons_of_mem _ h)
  have hown : s.vm.findClass RX5 = some m.cls := findClass_of_methodNamed B.named
  have hlocks := B.notSynchronized
  subst hsz
  have hD := hD0.self (sz := s.heap.size)
  generalize hAe : va_A (cW ad cid a2 lx sg gm lg) s.heap.size = A at hD hG ⊢
  have hA : ∀ q : Nat, s.heap.size ≤ q → A q := fun q h => by rw [← hAe]; exact Or.inr h
  have hS : va_S A s.heap s.heap [] := va_S.rf
  have hl := lv_entry ([eV (ad 6) x, eV (ad 10) b, eV (ad 8) si, .int dp]) (n := 7) (by rw [show (lg_sl ([eV (ad 6) x, eV (ad 10) b, eV (ad 8) si, .int dp])).length = 4 from by simp [lg_sl, eV_cat, cat_i, cat_l]]; exact Nat.le_of_ble_eq_true rfl)
  rw [lg_entry_eq]
  generalize (lg_sl ([eV (ad 6) x, eV (ad 10) b, eV (ad 8) si, .int dp]) ++ List.replicate (7 - (lg_sl ([eV (ad 6) x, eV (ad 10) b, eV (ad 8) si, .int dp])).length) Slot.unset).toArray = ls at hl ⊢
  have hl : lv_has ls 7 [(0, eV (ad 6) x), (1, eV (ad 10) b), (2, eV (ad 8) si), (3, .int dp)] := by simp [lv_args, eV_cat, cat_i, cat_l] at hl; exact hl
  have hj118 : ∀ (n : Nat) (sg_j118 : Nat → Int32) (gm_j118 : Nat → Nat → Int32) (x5_118 : Int32) (_ : (3 - x5_118.toInt).toNat = n) (_ : iv 0 3 x5_118) (_ : iv 0 59 (sg 14)) (_ : iv 0 0 x) (_ : iv 0 79 b) (_ : iv 0 63 si) (_ : iv 0 39 dp) (_ : KS [13, 14] sg sg_j118) (_ : KS [39, 48, 49, 50] gm gm_j118) (_ : CI sg_j118 gm_j118) (_ : ∃ n9 : Int32, gm_j118 39 = upd (gm 39) b.toNatClampNeg n9 ∧ 0 ≤ n9.toInt ∧ n9 = sg 14) (_ : (sg 14).toInt < 60) (_ : ∃ S3, RC wg lg S3 sg_j118 gm_j118 ∧ (zO S3).length = (zO S).length + 1 ∧ tlA wg lg b.toNatClampNeg ((zO S).length : Int) VS (f53 gm) si.toNatClampNeg (wg 7 si.toNatClampNeg).toNatClampNeg 0 (oB2 wg b.toNatClampNeg si.toNatClampNeg S) = tlA wg lg b.toNatClampNeg ((zO S).length : Int) VS (f53 gm) si.toNatClampNeg ((wg 7 si.toNatClampNeg).toNatClampNeg - x5_118.toNatClampNeg) x5_118.toNatClampNeg S3) (H : Heap) (locs : List Loc) (ls : Array Slot), va_P (dC, dI) vwCl (cW ad cid a2 lx sg_j118 gm_j118 lg) H → va_D A (cW ad cid a2 lx sg_j118 gm_j118 lg) → va_S A s.heap H locs → lv_has ls 7 [(5, .int x5_118), (4, .int (sg 14)), (0, eV (ad 6) x), (1, eV (ad 10) b), (2, eV (ad 8) si), (3, .int dp)] → W p l e (headSpec wm_X5_bringToBe ({ frames := 7, cells := 1, slots := 6, locals := 141 })).room s m ([eV (ad 6) x, eV (ad 10) b, eV (ad 8) si, .int dp] : List Value).toArray below meth c H locs 0 0 (vx_MQ below (cQx dC dI ad cid a2 lx (fun v u => v = none ∧ ∃ (sg2 : Nat → Int32) (gm2 : Nat → Nat → Int32) (lg2 : Nat → Nat → Int64), u = (sg2, gm2, lg2) ∧ CI sg2 gm2 ∧ KS [13, 14, 17, 18] sg sg2 ∧ KS [39, 48, 49, 50] gm gm2 ∧ KS [] lg lg2 ∧ (∃ n9 : Int32, gm2 39 = upd (gm 39) b.toNatClampNeg n9 ∧ 0 ≤ n9.toInt) ∧ (∃ o9 S9_, (oBr wg lg b.toNatClampNeg fo VS S) = (some o9, S9_) ∧ RC wg lg S9_ sg2 gm2 ∧ (gm2 39 b.toNatClampNeg).toInt = o9 ∧ o9 < (sg2 14).toInt ∧ (sg 14).toInt ≤ (sg2 14).toInt)) A) (cX dC dI ad cid a2 lx (fun E u => (E = "java/lang/UnsupportedOperationException") ∧ ∃ (sg2 : Nat → Int32) (gm2 : Nat → Nat → Int32) (lg2 : Nat → Nat → Int64), u = (sg2, gm2, lg2) ∧ CI sg2 gm2 ∧ KS [13, 14, 17, 18] sg sg2 ∧ KS [39, 48, 49, 50] gm gm2 ∧ KS [] lg lg2 ∧ (gm2 39 = gm 39) ∧ ((oBr wg lg b.toNatClampNeg fo VS S) = (none, S)) ∧ (RC wg lg S sg2 gm2)) A) ([eV (ad 6) x, eV (ad 10) b, eV (ad 8) si, .int dp] : List Value).toArray s 1 6 A) (F0 m 118 ls []) := by
    intro n
    induction n using Nat.strongRecOn with
    | ind n ih118 =>
      intro sg_j118 gm_j118 x5_118 hn118 hx5_118 hsx4_118 hsx0_118 hsx1_118 hsx2_118 hsx3_118 hks_j118 hkg_j118 hI_j118 h39 h60 hTA H locs ls hP hD hS hl
      obtain ⟨S3, hR3, hO3, hT3⟩ := hTA
      refine lv_iload hx hb dX5_bringToBe_118 (lv_at hl 0 rfl) ?_
      refine ec_aload_n hx hb dX5_bringToBe_120 rfl (lv_at hl 4 rfl) ?_
      refine cr_get (t := 8) (j := 3) (C := RX8) (T := TX8) (N := 7) (v := .int (gm_j118 7 si.toNatClampNeg)) hx hb htb inX8 hown hK hP hsx2_118 (by decide) (by decide) (by decide) rfl (by decide) (htb _ kw_1110) rfl dX5_bringToBe_121 ?_
      obtain ⟨z_1, ez_1⟩ : ∃ z : Int32, z = (gm_j118 7 si.toNatClampNeg) := ⟨_, rfl⟩
      refine W.eq (g2 := F0 m 124 ls [.int z_1, .int x5_118]) (by rw [ez_1]) ?_
      have hz_1 : iv 0 3 z_1 := iv_of ez_1 (CI_a hI_j118 7 hsx2_118 (by decide))
      have ez_1 := ez_1.trans (congrFun (hkg_j118 7 (by decide)) _)
      refine lv_icmp_ge (tgt := 179) hx hb dX5_bringToBe_124 (by decide) (fun c_2 => ?_) (fun c_2 => ?_)
      · have d_3 : (z_1 : Int32).toInt ≤ (x5_118 : Int32).toInt := Int32.le_iff_toInt_le.mp c_2
        exact W.nb (fun hN => W.widen (k := 1) (n := 6) (by decide) (by decide) (vx_ret (W.vret hx hb hr (fun t ht hW => ⟨⟨none, (sg_j118, gm_j118, lg), rfl, ⟨rfl, sg_j118, gm_j118, lg, rfl, hI_j118, (KS_tr (L := [13, 14, 17, 18]) KS_rf hks_j118 (by decide)), (KS_tr (L := [39, 48, 49, 50]) KS_rf hkg_j118 (by decide)), KS_rf, ((by obtain ⟨n9, q1, q2, q3⟩ := h39; exact ⟨n9, q1, q2⟩)), ((by obtain ⟨n9, q1, q2, q3⟩ := h39; refine ⟨_, _, oBr_s hch (by have := hRC.1.1; have := h60; omega), ?_, ?_, ?_, ?_⟩; (rw [tlA_e hT3 (hx5_118).1 (by have q7 := congrArg Int32.toInt (swt9 hSW ez_1 rfl); have k7 : (wg 7 si.toNatClampNeg).toNatClampNeg = (wg 7 si.toNatClampNeg).toInt.toNat := rfl; have := i32_0; have := i32_1; have := i32_2; have := i32_m1; have := (hsx0_118).1; have := (hsx0_118).2; have := (hsx1_118).1; have := (hsx1_118).2; have := (hsx2_118).1; have := (hsx2_118).2; have := (hsx3_118).1; have := (hsx3_118).2; have := (hx5_118).1; have := (hx5_118).2; have := (hsx4_118).1; have := (hsx4_118).2; have := (hz_1).1; have := (hz_1).2; omega)]; exact hR3); (rw [q1, upd_at, q3]; exact hRC.1.1); (have a1 := hR3.1.1; rw [hO3] at a1; omega); (have a1 := hR3.1.1; have a2 := hRC.1.1; rw [hO3] at a1; omega)))⟩, by rw [ht]; exact hP, va_K.moved hW.alike hK, hD⟩, hS.F ht, by rw [ht]; exact hN⟩) hS.2.2 dX5_bringToBe_179)))
      · have d_4 : (x5_118 : Int32).toInt < (z_1 : Int32).toInt := Int32.lt_iff_toInt_lt.mp (i32_lt c_2)
        have h_5 : iv 0 2 x5_118 := iv_ltL (i32_lt c_2) hx5_118 hz_1 (by decide)
        have h_6 : iv 1 3 z_1 := iv_ltR (i32_lt c_2) hx5_118 hz_1 (by decide)
        refine ec_aload_n hx hb dX5_bringToBe_127 rfl (lv_at hl 2 rfl) ?_
        refine cr_get (t := 6) (j := 9) (C := RX5) (T := TX5) (N := 13) (v := eV (ad 26) 0) hx hb htb inX5 hown hK hP hsx0_118 (by decide) (by decide) (by decide) rfl (by decide) (htb _ kw_129) (cV_c rfl (by decide) (by rw [show cMu 6 9 = 0 from rfl, Nat.zero_mul]; rfl)) dX5_bringToBe_128 ?_
        refine lv_iload hx hb dX5_bringToBe_131 (lv_at hl 0 rfl) ?_
        refine cr_iald (t := 26) (z := (gm_j118 53 (x5_118 : Int32).toNatClampNeg)) hx hb hK hP (iv_k (by decide) : iv 0 0 0) (by decide) (by decide) (by decide) rfl rfl (show vp_in x5_118 (cLen 26) from (show vp_in x5_118 3 from (iv_in h_5 (by decide)))) rfl dX5_bringToBe_133 ?_
        obtain ⟨z_7, ez_7⟩ : ∃ z : Int32, z = (gm_j118 53 (x5_118 : Int32).toNatClampNeg) := ⟨_, rfl⟩
        refine W.eq (g2 := F0 m 134 ls [.int z_7]) (by rw [ez_7]) ?_
        have hz_7 : iv (-1) 2 z_7 := iv_of ez_7 (CI_a hI_j118 53 h_5 (by decide))
        have ez_7 := ez_7.trans (congrFun (hkg_j118 53 (by decide)) _)
        have h_8 : iv 0 2 z_7 := ⟨by rw [ez_7]; exact (hSPF x5_118.toNatClampNeg (by have q8 := hcs; rw [← ez_1] at q8; have kna : (gm 41 (3 * b.toNatClampNeg + 0)).toNatClampNeg = (gm 41 (3 * b.toNatClampNeg + 0)).toInt.toNat := rfl; have q1 : x5_118.toNatClampNeg = x5_118.toInt.toNat := rfl; have := i32_0; have := i32_1; have := i32_2; have := i32_m1; have := (hsx0_118).1; have := (hsx0_118).2; have := (hsx1_118).1; have := (hsx1_118).2; have := (hsx2_118).1; have := (hsx2_118).2; have := (hsx3_118).1; have := (hsx3_118).2; have := (h_5).1; have := (h_5).2; have := (hsx4_118).1; have := (hsx4_118).2; have := (h_6).1; have := (h_6).2; have := (hz_7).1; have := (hz_7).2; omega)).1, (hz_7).2⟩
        refine lv_istore (i := 6) (lv' := [(6, .int z_7), (5, .int x5_118), (4, .int (sg 14)), (0, eV (ad 6) x), (1, eV (ad 10) b), (2, eV (ad 8) si), (3, .int dp)]) hx hb dX5_bringToBe_134 hl (by decide) rfl (fun ls hl => ?_)
        refine ec_aload_n hx hb dX5_bringToBe_136 rfl (lv_at hl 3 rfl) ?_
        refine lv_iconst (v := 3) hx hb dX5_bringToBe_137 (by decide) ?_
        refine lv_iload hx hb dX5_bringToBe_138 (lv_at hl 2 rfl) ?_
        refine lv_iload hx hb dX5_bringToBe_140 (lv_at hl 1 rfl) ?_
        refine ec_aload_n hx hb dX5_bringToBe_142 rfl (lv_at hl 4 rfl) ?_
        obtain ⟨q_9, hq_9, nq_9, tq_9⟩ := ix_mk (3 * b.toNatClampNeg + 0) 239 (by have q1 := iv_cl hsx1_118 (by decide); have q2 := (hsx1_118).2; omega) (by decide)
        refine cr_get (t := 10) (j := 1) (C := RX1) (T := TX1) (N := 19) (v := eV (ad 11) q_9) hx hb htb inX1 hown hK hP hsx1_118 (by decide) (by decide) (by decide) rfl (by decide) (htb _ kw_1101) (cV_c rfl hq_9.1 nq_9) dX5_bringToBe_143 ?_
        refine lv_iload hx hb dX5_bringToBe_146 (lv_at hl 0 rfl) ?_
        refine cm_callV (t := 11) (C := RJx4a65c) (T := TJx4a65c) (N := 3) (rest := [.int x5_118, .int (sg 14), .int 3, eV (ad 6) x]) (as := [.int z_7]) ⟨hx, hb, hml, hown, htb⟩ (d_lget l dC dI ad cid a2 lx sg_j118 gm_j118 lg q_9 z_7 hI_j118 hq_9 (LDI_e hLD (hkg_j118 41 (by decide)) (hkg_j118 42 (by decide)) (hkg_j118 57 (by decide))) (by have := i32_0; have := i32_1; have := i32_2; have := i32_m1; have := (hsx0_118).1; have := (hsx0_118).2; have := (hsx1_118).1; have := (hsx1_118).2; have := (hsx2_118).1; have := (hsx2_118).2; have := (hsx3_118).1; have := (hsx3_118).2; have := (h_5).1; have := (h_5).2; have := (hsx4_118).1; have := (hsx4_118).2; have := (h_6).1; have := (h_6).2; have := (h_8).1; have := (h_8).2; have := (hq_9).1; have := (hq_9).2; omega) (by rw [(show gm_j118 41 = gm 41 from (hkg_j118 41 (by decide))), show q_9.toNatClampNeg = 3 * b.toNatClampNeg + 0 from nq_9]; have q1 := (hSPF x5_118.toNatClampNeg (by have q8 := hcs; rw [← ez_1] at q8; have kna : (gm 41 (3 * b.toNatClampNeg + 0)).toNatClampNeg = (gm 41 (3 * b.toNatClampNeg + 0)).toInt.toNat := rfl; have q1 : x5_118.toNatClampNeg = x5_118.toInt.toNat := rfl; have := i32_0; have := i32_1; have := i32_2; have := i32_m1; have := (hsx0_118).1; have := (hsx0_118).2; have := (hsx1_118).1; have := (hsx1_118).2; have := (hsx2_118).1; have := (hsx2_118).2; have := (hsx3_118).1; have := (hsx3_118).2; have := (h_5).1; have := (h_5).2; have := (hsx4_118).1; have := (hsx4_118).2; have := (h_6).1; have := (h_6).2; have := (h_8).1; have := (h_8).2; have := (hq_9).1; have := (hq_9).2; omega)).2; rw [← ez_7] at q1; have k9 : (gm 41 (3 * b.toNatClampNeg + 0)).toNatClampNeg = (gm 41 (3 * b.toNatClampNeg + 0)).toInt.toNat := rfl; have k8 := (show iv 0 80 (gm 41 (3 * b.toNatClampNeg + 0)) from CI_n hI 41 (show (3 * b.toNatClampNeg + 0) < crLen 41 from by have := (show b.toNatClampNeg < 80 from by have := iv_cl hvb (by decide); have := hvb.2; omega); show _ < 240; omega)).1; omega)) (cwV 1 htb (gd_V kw_1030 kw_794 kw_795 kw_98 kw_1512) rfl rfl rfl (by decide +kernel) ⟨Nat.le_of_ble_eq_true rfl, Nat.le_of_ble_eq_true rfl⟩) hq_9 (by decide) (by decide) rfl rfl hl.1 rfl (Nat.le_trans (cs_c (cat_i _) (cs_c (cat_i _) (cs_c (cat_i _) (cs_c (eV_cat _ _) cs_n)))) (by decide)) dX5_bringToBe_148 ⟨Nat.le_of_ble_eq_true rfl, Nat.le_of_ble_eq_true rfl⟩ hK hP hD hS hA hG (fun E ce q9 u_11 H locs hw hP hD hS hce hcv hcl => ?_) (fun v9 u_11 H locs hw hP hD hS => ?_)
        · exact hw.elim
        obtain ⟨r_10, rfl, rfl, hr_10, fr_r_10⟩ := hw
        have hP : va_P (dC, dI) vwCl (cW ad cid a2 lx sg_j118 gm_j118 lg) H := hP
        have hD : va_D A (cW ad cid a2 lx sg_j118 gm_j118 lg) := hD
        refine W.eq (g2 := F0 m 151 ls [eV (ad 9) r_10, .int x5_118, .int (sg 14), .int 3, eV (ad 6) x]) rfl ?_
        have fr_r_10 := fr_r_10.trans (congrFun (show gm_j118 57 = gm 57 from (hkg_j118 57 (by decide))) _)
        have fa_r_10 : r_10 = gm 57 (128 * (3 * b.toNatClampNeg + 0) + z_7.toNatClampNeg) := by rw [fr_r_10, show q_9.toNatClampNeg = 3 * b.toNatClampNeg + 0 from nq_9]
        have hai_r_10 : z_7.toNatClampNeg < (gm 41 (3 * b.toNatClampNeg + 0)).toNatClampNeg := (by have q1 := (hSPF x5_118.toNatClampNeg (by have q8 := hcs; rw [← ez_1] at q8; have kna : (gm 41 (3 * b.toNatClampNeg + 0)).toNatClampNeg = (gm 41 (3 * b.toNatClampNeg + 0)).toInt.toNat := rfl; have q1 : x5_118.toNatClampNeg = x5_118.toInt.toNat := rfl; have := i32_0; have := i32_1; have := i32_2; have := i32_m1; have := (hsx0_118).1; have := (hsx0_118).2; have := (hsx1_118).1; have := (hsx1_118).2; have := (hsx2_118).1; have := (hsx2_118).2; have := (hsx3_118).1; have := (hsx3_118).2; have := (h_5).1; have := (h_5).2; have := (hsx4_118).1; have := (hsx4_118).2; have := (h_6).1; have := (h_6).2; have := (h_8).1; have := (h_8).2; have := (hq_9).1; have := (hq_9).2; have := (hr_10).1; have := (hr_10).2; omega)).2; rw [← ez_7] at q1; have q1 : z_7.toNatClampNeg = z_7.toInt.toNat := rfl; have := i32_0; have := i32_1; have := i32_2; have := i32_m1; have := (hsx0_118).1; have := (hsx0_118).2; have := (hsx1_118).1; have := (hsx1_118).2; have := (hsx2_118).1; have := (hsx2_118).2; have := (hsx3_118).1; have := (hsx3_118).2; have := (h_5).1; have := (h_5).2; have := (hsx4_118).1; have := (hsx4_118).2; have := (h_6).1; have := (h_6).2; have := (h_8).1; have := (h_8).2; have := (hq_9).1; have := (hq_9).2; have := (hr_10).1; have := (hr_10).2; omega)
        have hct_r_10 := arg_in (k := 0) (w := 3) hI hW hLD (Or.inl ⟨rfl, rfl⟩) (lt_cl hvb (show iv 0 80 (sg 12) from CI_s hI 12) (by decide) (by decide) hb12) hai_r_10
        rw [← fa_r_10] at hct_r_10
        refine cl_cast hx hb hG hown (htb _ kw_1024) hK hP hr_10 (by decide) dX5_bringToBe_151 ?_
        refine cr_get (t := 9) (j := 19) (C := RX3) (T := TX3) (N := 21) (v := eV (ad 9) (gm_j118 26 r_10.toNatClampNeg)) hx hb htb inX3 hown hK hP hr_10 (by decide) (by decide) (by decide) rfl (by decide) (htb _ kw_1025) rfl dX5_bringToBe_154 ?_
        obtain ⟨z_13, ez_13⟩ : ∃ z : Int32, z = (gm_j118 26 r_10.toNatClampNeg) := ⟨_, rfl⟩
        refine W.eq (g2 := F0 m 157 ls [eV (ad 9) z_13, .int x5_118, .int (sg 14), .int 3, eV (ad 6) x]) (by rw [ez_13]) ?_
        have hz_13 : iv (-1) 79 z_13 := iv_of ez_13 (CI_a hI_j118 26 hr_10 (by decide))
        have ez_13 := ez_13.trans (congrFun (hkg_j118 26 (by decide)) _)
        have h_14 : iv 0 79 z_13 := ⟨by rw [ez_13]; exact hct_r_10.1.1, (hz_13).2⟩
        refine lv_iload_n hx hb dX5_bringToBe_157 rfl (lv_at hl 6 rfl) ?_
        refine lv_iload hx hb dX5_bringToBe_158 (lv_at hl 0 rfl) ?_
        refine cm_callS (rest := [eV (ad 9) z_13, .int x5_118, .int (sg 14), .int 3, eV (ad 6) x]) (as := [.int dp, .int z_7]) ⟨hx, hb, hml, hown, htb⟩ (d_slot l dC dI ad cid a2 lx sg_j118 gm_j118 lg dp z_7 hI_j118 hsx3_118 (iv_w h_8 (by decide))) (va_cwS 2 htb (gd_S kw_1027 kw_1028 kw_40 kw_1572) rfl rfl rfl (by decide +kernel) ⟨Nat.le_of_ble_eq_true rfl, Nat.le_of_ble_eq_true rfl⟩)  rfl hl.1 rfl (Nat.le_trans (cs_c (eV_cat _ _) (cs_c (cat_i _) (cs_c (cat_i _) (cs_c (cat_i _) (cs_c (eV_cat _ _) cs_n))))) (by decide)) dX5_bringToBe_160 ⟨Nat.le_of_ble_eq_true rfl, Nat.le_of_ble_eq_true rfl⟩ hK hP hD hS hA hG (fun E ce q9 u_16 H locs hw hP hD hS hce hcv hcl => ?_) (fun v9 u_16 H locs hw hP hD hS => ?_)
        · exact hw.elim
        obtain ⟨r_15, rfl, rfl, hr_15, fs_r_15⟩ := hw
        have hP : va_P (dC, dI) vwCl (cW ad cid a2 lx sg_j118 gm_j118 lg) H := hP
        have hD : va_D A (cW ad cid a2 lx sg_j118 gm_j118 lg) := hD
        refine W.eq (g2 := F0 m 163 ls [.int r_15, eV (ad 9) z_13, .int x5_118, .int (sg 14), .int 3, eV (ad 6) x]) rfl ?_
        refine ec_aload_n hx hb dX5_bringToBe_163 rfl (lv_at hl 5 rfl) ?_
        refine cr_get (t := 8) (j := 2) (C := RX8) (T := TX8) (N := 7) (v := eV (ad 27) si) hx hb htb inX8 hown hK hP hsx2_118 (by decide) (by decide) (by decide) rfl (by decide) (htb _ kw_1111) (cV_c rfl (hsx2_118).1 (by rw [show cMu 8 2 = 1 from rfl, Nat.one_mul]; rfl)) dX5_bringToBe_164 ?_
        refine lv_iload hx hb dX5_bringToBe_167 (lv_at hl 1 rfl) ?_
        refine cr_iald (t := 27) (z := (gm_j118 54 (3 * si.toNatClampNeg + (x5_118 : Int32).toNatClampNeg))) hx hb hK hP hsx2_118 (by decide) (by decide) (by decide) rfl rfl (show vp_in x5_118 (cLen 27) from (show vp_in x5_118 3 from (iv_in h_5 (by decide)))) (cAi_w rfl (by decide) rfl (vin_lt (show vp_in x5_118 (cLen 27) from (show vp_in x5_118 3 from (iv_in h_5 (by decide)))))) dX5_bringToBe_169 ?_
        obtain ⟨z_18, ez_18⟩ : ∃ z : Int32, z = (gm_j118 54 (3 * si.toNatClampNeg + (x5_118 : Int32).toNatClampNeg)) := ⟨_, rfl⟩
        refine W.eq (g2 := F0 m 170 ls [.int z_18, .int r_15, eV (ad 9) z_13, .int x5_118, .int (sg 14), .int 3, eV (ad 6) x]) (by rw [ez_18]) ?_
        have ez_18 := ez_18.trans (congrFun (hkg_j118 54 (by decide)) _)
        refine cm_callV (t := 6) (C := RX5) (T := TX5) (N := 13) (rest := []) (as := [.int 3, .int (sg 14), .int x5_118, eV (ad 9) z_13, .int r_15, .int z_18]) ⟨hx, hb, hml, hown, htb⟩ (d_tellValue9 l dC dI ad cid a2 lx sg_j118 gm_j118 lg x 3 (sg 14) x5_118 z_13 r_15 z_18 wg S3 ((VS[z_7.toNatClampNeg]?).getD []) hI_j118 hsx0_118 h_14 hr_15 ((st9_ks (L := [39, 48, 49, 50]) (KS_tr (L := [39, 48, 49, 50]) KS_rf hkg_j118 (by decide)) (by decide)).trans hSW) hR3 (by rw [(show gm_j118 25 = gm 25 from (hkg_j118 25 (by decide))), ez_13]; have := hct_r_10.1.2.2.1; omega) (VOK_m (by have q9 := (hVA z_7.toNatClampNeg (by rw [(show (wg 41 (3 * b.toNatClampNeg)).toNatClampNeg = (gm 41 (3 * b.toNatClampNeg + 0)).toNatClampNeg from congrArg Int32.toNatClampNeg (sw9 hSW 41 rfl _))]; exact hai_r_10)).1; rw [(show ctE wg (wg 57 (128 * (3 * b.toNatClampNeg) + z_7.toNatClampNeg)).toNatClampNeg = z_13.toNatClampNeg from (by rw [show wg 57 (128 * (3 * b.toNatClampNeg) + z_7.toNatClampNeg) = r_10 from (by rw [sw9 hSW 57 rfl]; exact fa_r_10.symm)]; unfold ctE; rw [(swt9 hSW ez_13 rfl)]))] at q9; exact q9) (by rw [hO3]; omega)) (WVL_e (by have q9 := (hVA z_7.toNatClampNeg (by rw [(show (wg 41 (3 * b.toNatClampNeg)).toNatClampNeg = (gm 41 (3 * b.toNatClampNeg + 0)).toNatClampNeg from congrArg Int32.toNatClampNeg (sw9 hSW 41 rfl _))]; exact hai_r_10)).2.1; rw [show r_15.toNatClampNeg = 24 * dp.toNatClampNeg + 6 * z_7.toNatClampNeg from (by have q2 := fs_r_15; have q3 : dp.toNatClampNeg = dp.toInt.toNat := rfl; have q1 : z_7.toNatClampNeg = z_7.toInt.toNat := rfl; have q1 : r_15.toNatClampNeg = r_15.toInt.toNat := rfl; have := i32_0; have := i32_1; have := i32_2; have := i32_m1; have := (hsx0_118).1; have := (hsx0_118).2; have := (hsx1_118).1; have := (hsx1_118).2; have := (hsx2_118).1; have := (hsx2_118).2; have := (hsx3_118).1; have := (hsx3_118).2; have := (h_5).1; have := (h_5).2; have := (hsx4_118).1; have := (hsx4_118).2; have := (h_6).1; have := (h_6).2; have := (h_8).1; have := (h_8).2; have := (hq_9).1; have := (hq_9).2; have := (hr_10).1; have := (hr_10).2; have := (h_14).1; have := (h_14).2; have := (hr_15).1; have := (hr_15).2; omega)]; exact q9) (hkg_j118 52 (by decide))) (by have q9 := (hVA z_7.toNatClampNeg (by rw [(show (wg 41 (3 * b.toNatClampNeg)).toNatClampNeg = (gm 41 (3 * b.toNatClampNeg + 0)).toNatClampNeg from congrArg Int32.toNatClampNeg (sw9 hSW 41 rfl _))]; exact hai_r_10)).2.2; rw [(show ctE wg (wg 57 (128 * (3 * b.toNatClampNeg) + z_7.toNatClampNeg)).toNatClampNeg = z_13.toNatClampNeg from (by rw [show wg 57 (128 * (3 * b.toNatClampNeg) + z_7.toNatClampNeg) = r_10 from (by rw [sw9 hSW 57 rfl]; exact fa_r_10.symm)]; unfold ctE; rw [(swt9 hSW ez_13 rfl)]))] at q9; exact q9)) (cwV 6 htb (gd_V kw_1055 kw_1056 kw_1057 kw_40 kw_1578) rfl rfl rfl (by decide +kernel) ⟨Nat.le_of_ble_eq_true rfl, Nat.le_of_ble_eq_true rfl⟩) hsx0_118 (by decide) (by decide) rfl rfl hl.1 rfl (Nat.le_trans cs_n (by decide)) dX5_bringToBe_170 ⟨Nat.le_of_ble_eq_true rfl, Nat.le_of_ble_eq_true rfl⟩ hK hP hD hS hA hG (fun E ce q9 u_20 H locs hw hP hD hS hce hcv hcl => ?_) (fun v9 u_20 H locs hw hP hD hS => ?_)
        · exact hw.elim
        obtain ⟨rfl, sgv_21, gmv_21, lgv_21, rfl, hIv_21, ksv_21, kgv_21, klv_21, fR_r_19⟩ := hw
        obtain rfl := KS_nil klv_21
        have hP : va_P (dC, dI) vwCl (cW ad cid a2 lx sgv_21 gmv_21 lg) H := hP
        have hD : va_D A (cW ad cid a2 lx sgv_21 gmv_21 lg) := hD
        refine W.eq (g2 := F0 m 173 ls []) rfl ?_
        obtain ⟨z_22, ez_22⟩ : ∃ z : Int32, z = x5_118 + 1 := ⟨_, rfl⟩
        have hz_22 : iv 1 3 z_22 := iv_of ez_22 (iv_add h_5 (iv_k (by decide) : iv 1 1 1) (by decide))
        have tz_22 : z_22.toInt = x5_118.toInt + 1 := by rw [ez_22]; exact iv_addE h_5 (iv_k (by decide) : iv 1 1 1) (by decide)
        refine lv_iinc (v := z_22) (lv' := [(5, .int z_22), (6, .int z_7), (4, .int (sg 14)), (0, eV (ad 6) x), (1, eV (ad 10) b), (2, eV (ad 8) si), (3, .int dp)]) hx hb dX5_bringToBe_173 hl (k := 1) rfl ez_22.symm (by decide) rfl (fun ls hl => ?_)
        refine lv_goto (tgt := 118) hx hb dX5_bringToBe_176 (by decide) ?_
        exact ih118 _ (by rw [← hn118]; exact (iv_meas tz_22 h_5 (by decide))) sgv_21 gmv_21 z_22 rfl (iv_w hz_22 (by decide)) hsx4_118 hsx0_118 hsx1_118 hsx2_118 hsx3_118 (KS_tr (L := [13, 14]) (KS_tr (L := [13, 14]) KS_rf hks_j118 (by decide)) ksv_21 (by decide)) (KS_tr (L := [39, 48, 49, 50]) (KS_tr (L := [39, 48, 49, 50]) KS_rf hkg_j118 (by decide)) kgv_21 (by decide)) hIv_21 ((by obtain ⟨n9, q1, q2, q3⟩ := h39; exact ⟨n9, ((show gmv_21 39 = gm_j118 39 from (kgv_21 39 (by decide)))).trans q1, q2, q3⟩)) (h60) (⟨_, fR_r_19, (by rw [tlV_O]; exact hO3), tlA_st hT3 (h_5).1 (by have q7 := congrArg Int32.toInt (swt9 hSW ez_1 rfl); have k7 : (wg 7 si.toNatClampNeg).toNatClampNeg = (wg 7 si.toNatClampNeg).toInt.toNat := rfl; have := i32_0; have := i32_1; have := i32_2; have := i32_m1; have := (hsx0_118).1; have := (hsx0_118).2; have := (hsx1_118).1; have := (hsx1_118).2; have := (hsx2_118).1; have := (hsx2_118).2; have := (hsx3_118).1; have := (hsx3_118).2; have := (h_5).1; have := (h_5).2; have := (hsx4_118).1; have := (hsx4_118).2; have := (h_6).1; have := (h_6).2; have := (h_8).1; have := (h_8).2; have := (hq_9).1; have := (hq_9).2; have := (hr_10).1; have := (hr_10).2; have := (h_14).1; have := (h_14).2; have := (hr_15).1; have := (hr_15).2; have := (hz_22).1; have := (hz_22).2; omega) tz_22 (by decide) hRC.1.1 (by rw [f53_at (by have q1 : x5_118.toNatClampNeg = x5_118.toInt.toNat := rfl; have := i32_0; have := i32_1; have := i32_2; have := i32_m1; have := (hsx0_118).1; have := (hsx0_118).2; have := (hsx1_118).1; have := (hsx1_118).2; have := (hsx2_118).1; have := (hsx2_118).2; have := (hsx3_118).1; have := (hsx3_118).2; have := (h_5).1; have := (h_5).2; have := (hsx4_118).1; have := (hsx4_118).2; have := (h_6).1; have := (h_6).2; have := (h_8).1; have := (h_8).2; have := (hq_9).1; have := (hq_9).2; have := (hr_10).1; have := (hr_10).2; have := (h_14).1; have := (h_14).2; have := (hr_15).1; have := (hr_15).2; have := (hz_22).1; have := (hz_22).2; omega), ← ez_7]; rfl) (liL_a (gm := gm) (z := r_10) (by rw [(show (wg 41 (3 * b.toNatClampNeg)).toNatClampNeg = (gm 41 (3 * b.toNatClampNeg + 0)).toNatClampNeg from congrArg Int32.toNatClampNeg (sw9 hSW 41 rfl _))]; exact hai_r_10) (by rw [sw9 hSW 57 rfl]; exact fa_r_10)) (show ctE wg r_10.toNatClampNeg = z_13.toNatClampNeg from (by unfold ctE; rw [(swt9 hSW ez_13 rfl)])) (congrArg Int32.toInt (show wg 54 (3 * si.toNatClampNeg + x5_118.toNatClampNeg) = z_18 from swt9 hSW ez_18 rfl))⟩) _ _ _ hP hD hS (lv_sub hl [0, 2, 3, 4, 5, 6] rfl)
  have hj115 : ∀ (sg_j115 : Nat → Int32) (gm_j115 : Nat → Nat → Int32) (_ : iv 0 59 (sg 14)) (_ : iv 0 0 x) (_ : iv 0 79 b) (_ : iv 0 63 si) (_ : iv 0 39 dp) (_ : KS [13, 14] sg sg_j115) (_ : KS [39, 48, 49, 50] gm gm_j115) (_ : CI sg_j115 gm_j115) (_ : ∃ n9 : Int32, gm_j115 39 = upd (gm 39) b.toNatClampNeg n9 ∧ 0 ≤ n9.toInt ∧ n9 = sg 14) (_ : (sg 14).toInt < 60) (_ : RC wg lg (oB2 wg b.toNatClampNeg si.toNatClampNeg S) sg_j115 gm_j115) (H : Heap) (locs : List Loc) (ls : Array Slot), va_P (dC, dI) vwCl (cW ad cid a2 lx sg_j115 gm_j115 lg) H → va_D A (cW ad cid a2 lx sg_j115 gm_j115 lg) → va_S A s.heap H locs → lv_has ls 7 [(4, .int (sg 14)), (0, eV (ad 6) x), (1, eV (ad 10) b), (2, eV (ad 8) si), (3, .int dp)] → W p l e (headSpec wm_X5_bringToBe ({ frames := 7, cells := 1, slots := 6, locals := 141 })).room s m ([eV (ad 6) x, eV (ad 10) b, eV (ad 8) si, .int dp] : List Value).toArray below meth c H locs 0 0 (vx_MQ below (cQx dC dI ad cid a2 lx (fun v u => v = none ∧ ∃ (sg2 : Nat → Int32) (gm2 : Nat → Nat → Int32) (lg2 : Nat → Nat → Int64), u = (sg2, gm2, lg2) ∧ CI sg2 gm2 ∧ KS [13, 14, 17, 18] sg sg2 ∧ KS [39, 48, 49, 50] gm gm2 ∧ KS [] lg lg2 ∧ (∃ n9 : Int32, gm2 39 = upd (gm 39) b.toNatClampNeg n9 ∧ 0 ≤ n9.toInt) ∧ (∃ o9 S9_, (oBr wg lg b.toNatClampNeg fo VS S) = (some o9, S9_) ∧ RC wg lg S9_ sg2 gm2 ∧ (gm2 39 b.toNatClampNeg).toInt = o9 ∧ o9 < (sg2 14).toInt ∧ (sg 14).toInt ≤ (sg2 14).toInt)) A) (cX dC dI ad cid a2 lx (fun E u => (E = "java/lang/UnsupportedOperationException") ∧ ∃ (sg2 : Nat → Int32) (gm2 : Nat → Nat → Int32) (lg2 : Nat → Nat → Int64), u = (sg2, gm2, lg2) ∧ CI sg2 gm2 ∧ KS [13, 14, 17, 18] sg sg2 ∧ KS [39, 48, 49, 50] gm gm2 ∧ KS [] lg lg2 ∧ (gm2 39 = gm 39) ∧ ((oBr wg lg b.toNatClampNeg fo VS S) = (none, S)) ∧ (RC wg lg S sg2 gm2)) A) ([eV (ad 6) x, eV (ad 10) b, eV (ad 8) si, .int dp] : List Value).toArray s 1 6 A) (F0 m 115 ls []) := by
    intro sg_j115 gm_j115 hsx4_115 hsx0_115 hsx1_115 hsx2_115 hsx3_115 hks_j115 hkg_j115 hI_j115 h39a h60a h115 H locs ls hP hD hS hl
    refine lv_iconst (v := 0) hx hb dX5_bringToBe_115 (by decide) ?_
    refine lv_istore (i := 5) (lv' := [(5, .int 0), (4, .int (sg 14)), (0, eV (ad 6) x), (1, eV (ad 10) b), (2, eV (ad 8) si), (3, .int dp)]) hx hb dX5_bringToBe_116 hl (by decide) rfl (fun ls hl => ?_)
    exact hj118 _ sg_j115 gm_j115 0 rfl (iv_w (iv_k (by decide) : iv 0 0 0) (by decide)) hsx4_115 hsx0_115 hsx1_115 hsx2_115 hsx3_115 (KS_tr (L := [13, 14]) KS_rf hks_j115 (by decide)) (KS_tr (L := [39, 48, 49, 50]) KS_rf hkg_j115 (by decide)) hI_j115 (h39a) (h60a) (⟨_, h115, oB2_O, rfl⟩) _ _ _ hP hD hS (lv_sub hl [0, 1, 2, 3, 4, 5] rfl)
  refine ec_aload_n hx hb dX5_bringToBe_0 rfl (lv_at hl 0 rfl) ?_
  refine cr_get (t := 6) (j := 5) (C := RX5) (T := TX5) (N := 13) (v := .int (sg 14)) hx hb htb inX5 hown hK hP hvx (by decide) (by decide) (by decide) rfl (by decide) (htb _ kw_316) rfl dX5_bringToBe_1 ?_
  refine lv_bipush (v := 60) hx hb dX5_bringToBe_4 (by decide) ?_
  refine lv_icmp_lt (tgt := 16) hx hb dX5_bringToBe_6 (by decide) (fun c_23 => ?_) (fun c_23 => ?_)
  · have h_24 : iv 0 59 (sg 14) := iv_ltL c_23 (show iv 0 60 (sg 14) from CI_s hI 14) (iv_k (by decide) : iv 60 60 60) (by decide)
    refine ec_aload_n hx hb dX5_bringToBe_16 rfl (lv_at hl 0 rfl) ?_
    refine cr_get (t := 6) (j := 5) (C := RX5) (T := TX5) (N := 13) (v := .int (sg 14)) hx hb htb inX5 hown hK hP hvx (by decide) (by decide) (by decide) rfl (by decide) (htb _ kw_316) rfl dX5_bringToBe_17 ?_
    refine lv_istore (i := 4) (lv' := [(4, .int (sg 14)), (0, eV (ad 6) x), (1, eV (ad 10) b), (2, eV (ad 8) si), (3, .int dp)]) hx hb dX5_bringToBe_20 hl (by decide) rfl (fun ls hl => ?_)
    refine ec_aload_n hx hb dX5_bringToBe_22 rfl (lv_at hl 1 rfl) ?_
    refine lv_dup hx hb dX5_bringToBe_23 (eV_cat _ _) ?_
    refine cr_get (t := 6) (j := 5) (C := RX5) (T := TX5) (N := 13) (v := .int (sg 14)) hx hb htb inX5 hown hK hP hvx (by decide) (by decide) (by decide) rfl (by decide) (htb _ kw_316) rfl dX5_bringToBe_24 ?_
    refine lv_iconst (v := 1) hx hb dX5_bringToBe_27 (by decide) ?_
    refine lv_iadd hx hb dX5_bringToBe_28 ?_
    refine lv_topi (fun z_25 ez_25 => ?_)
    have hz_25 : iv 1 60 z_25 := iv_of ez_25 (iv_add h_24 (iv_k (by decide) : iv 1 1 1) (by decide))
    have tz_25 : z_25.toInt = ((sg 14) : Int32).toInt + 1 := by rw [ez_25]; exact iv_addE h_24 (iv_k (by decide) : iv 1 1 1) (by decide)
    refine cr_puts (t := 6) (j := 5) (C := RX5) (T := TX5) (N := 13) (ty0 := tyX5) (k := 14) (y := z_25) hx hb htb inX5 tyX5_ok nmX5 hown hK hP hD hS hvx (by decide) (by decide) (by decide) (by decide) rfl rfl rfl (by decide) (htb _ kw_316) rfl (by show Value.int z_25 = Value.int (va_up sg 14 z_25 14); rw [va_up_self]) rfl rfl dX5_bringToBe_29 (fun sg_26 H locs esg_26 hP hD hS => ?_)
    have hI_sg_26 := CI_put hI esg_26 hz_25 (by decide)
    refine ec_aload_n hx hb dX5_bringToBe_32 rfl (lv_at hl 1 rfl) ?_
    refine cr_get (t := 6) (j := 3) (C := RX5) (T := TX5) (N := 13) (v := eV (ad 22) 0) hx hb htb inX5 hown hK hP hvx (by decide) (by decide) (by decide) rfl (by decide) (htb _ kw_124) (cV_c rfl (by decide) (by rw [show cMu 6 3 = 0 from rfl, Nat.zero_mul]; rfl)) dX5_bringToBe_33 ?_
    refine lv_iload hx hb dX5_bringToBe_36 (lv_at hl 0 rfl) ?_
    refine ec_aload_n hx hb dX5_bringToBe_38 rfl (lv_at hl 3 rfl) ?_
    refine cr_get (t := 8) (j := 6) (C := RX8) (T := TX8) (N := 7) (v := .int (gm 10 si.toNatClampNeg)) hx hb htb inX8 hown hK hP hvsi (by decide) (by decide) (by decide) rfl (by decide) (htb _ kw_1116) rfl dX5_bringToBe_39 ?_
    obtain ⟨z_27, ez_27⟩ : ∃ z : Int32, z = (gm 10 si.toNatClampNeg) := ⟨_, rfl⟩
    refine W.eq (g2 := F0 m 42 ls [.int z_27, .int (sg 14), eV (ad 22) 0]) (by rw [ez_27]) ?_
    have hz_27 : iv 0 7 z_27 := iv_of ez_27 (CI_a hI_sg_26 10 hvsi (by decide))
    refine cr_iast (t := 22) (k := 49) (n9 := ((sg 14) : Int32).toNatClampNeg) (z := z_27) hx hb hK hP hD hS (iv_k (by decide) : iv 0 0 0) (by decide) (by decide) (by decide) rfl rfl rfl (show vp_in (sg 14) (cLen 22) from (show vp_in (sg 14) 60 from (iv_in h_24 (by decide)))) (Or.inl rfl) (by rw [show cAw 22 = 0 from rfl, Nat.zero_mul, Nat.zero_add]) dX5_bringToBe_42 (fun gm_28 H locs egm_28 hP hD hS => ?_)
    have hI_gm_28 := CI_st hI_sg_26 egm_28 hz_27 (by decide)
    refine ec_aload_n hx hb dX5_bringToBe_43 rfl (lv_at hl 1 rfl) ?_
    refine cr_get (t := 6) (j := 4) (C := RX5) (T := TX5) (N := 13) (v := eV (ad 23) 0) hx hb htb inX5 hown hK hP hvx (by decide) (by decide) (by decide) rfl (by decide) (htb _ kw_125) (cV_c rfl (by decide) (by rw [show cMu 6 4 = 0 from rfl, Nat.zero_mul]; rfl)) dX5_bringToBe_44 ?_
    refine lv_iload hx hb dX5_bringToBe_47 (lv_at hl 0 rfl) ?_
    refine ec_aload_n hx hb dX5_bringToBe_49 rfl (lv_at hl 2 rfl) ?_
    refine cr_get (t := 10) (j := 0) (C := RX1) (T := TX1) (N := 19) (v := .int (gm_28 28 b.toNatClampNeg)) hx hb htb inX1 hown hK hP hvb (by decide) (by decide) (by decide) rfl (by decide) (htb _ kw_1019) rfl dX5_bringToBe_50 ?_
    obtain ⟨z_29, ez_29⟩ : ∃ z : Int32, z = (gm_28 28 b.toNatClampNeg) := ⟨_, rfl⟩
    refine W.eq (g2 := F0 m 53 ls [.int z_29, .int (sg 14), eV (ad 23) 0]) (by rw [ez_29]) ?_
    have hz_29 : iv 0 79 z_29 := iv_of ez_29 (CI_a hI_gm_28 28 hvb (by decide))
    have ez_29 := ez_29.trans (congrFun (up_ne egm_28 (by decide)) _)
    refine cr_iast (t := 23) (k := 50) (n9 := ((sg 14) : Int32).toNatClampNeg) (z := z_29) hx hb hK hP hD hS (iv_k (by decide) : iv 0 0 0) (by decide) (by decide) (by decide) rfl rfl rfl (show vp_in (sg 14) (cLen 23) from (show vp_in (sg 14) 60 from (iv_in h_24 (by decide)))) (Or.inl rfl) (by rw [show cAw 23 = 0 from rfl, Nat.zero_mul, Nat.zero_add]) dX5_bringToBe_53 (fun gm_30 H locs egm_30 hP hD hS => ?_)
    have hI_gm_30 := CI_st hI_gm_28 egm_30 hz_29 (by decide)
    refine ec_aload_n hx hb dX5_bringToBe_54 rfl (lv_at hl 2 rfl) ?_
    refine lv_iload hx hb dX5_bringToBe_55 (lv_at hl 0 rfl) ?_
    refine cr_putg (t := 10) (j := 18) (C := RX1) (T := TX1) (N := 19) (ty0 := tyX1) (k := 39) (y := (sg 14)) hx hb htb inX1 tyX1_ok nmX1 hown hK hP hD hS hvb (by decide) (by decide) (by decide) (by decide) rfl rfl (by decide) (htb _ kw_1007) rfl (by show Value.int (sg 14) = Value.int (va_up gm_30 39 (upd (gm_30 39) b.toNatClampNeg (sg 14)) 39 b.toNatClampNeg); rw [va_up_self, upd_at]) rfl rfl dX5_bringToBe_57 (fun gm_31 H locs egm_31 hP hD hS => ?_)
    have hI_gm_31 := CI_st hI_gm_30 egm_31 h_24 (by decide)
    have hR1 : RC wg lg (oB1 wg b.toNatClampNeg si.toNatClampNeg S) sg_26 gm_31 := RC_ob (k := (sg 14).toNatClampNeg) hRC (KS_up KS_rf esg_26 (by decide)) (KS_up (KS_up (KS_up KS_rf egm_28 (by decide)) egm_30 (by decide)) egm_31 (by decide)) (cln9 (show iv 0 60 (sg 14) from CI_s hI 14).1) (by have := i32_0; have := i32_1; have := i32_2; have := i32_m1; have := congrArg Int32.toInt (show sg_26 14 = z_25 from up_at esg_26); have := (hz_25).1; have := (hz_25).2; have := (hvx).1; have := (hvx).2; have := (hvb).1; have := (hvb).2; have := (hvsi).1; have := (hvsi).2; have := (hvdp).1; have := (hvdp).2; have := (h_24).1; have := (h_24).2; have := (hz_27).1; have := (hz_27).2; have := (hz_29).1; have := (hz_29).2; omega) (show gm_31 49 = upd (gm 49) ((sg 14) : Int32).toNatClampNeg z_27 from ((up_ne egm_31 (by decide)).trans ((up_ne egm_30 (by decide)).trans ((up_at egm_28).trans (by rw [show gm 49 = gm 49 from rfl]))))) rfl (show gm_31 50 = upd (gm 50) ((sg 14) : Int32).toNatClampNeg z_29 from ((up_ne egm_31 (by decide)).trans ((up_at egm_30).trans (by rw [show gm_28 50 = gm 50 from ((up_ne egm_28 (by decide)).trans rfl)])))) rfl (show gm_31 39 = upd (gm 39) (b : Int32).toNatClampNeg (sg 14) from ((up_at egm_31).trans (by rw [show gm_30 39 = gm 39 from ((up_ne egm_30 (by decide)).trans ((up_ne egm_28 (by decide)).trans rfl))]))) rfl (swt9 hSW ez_27 rfl).symm (swt9 hSW ez_29 rfl).symm
    refine ec_aload_n hx hb dX5_bringToBe_60 rfl (lv_at hl 3 rfl) ?_
    refine cr_get (t := 8) (j := 4) (C := RX8) (T := TX8) (N := 7) (v := .int (gm_31 8 si.toNatClampNeg)) hx hb htb inX8 hown hK hP hvsi (by decide) (by decide) (by decide) rfl (by decide) (htb _ kw_1117) rfl dX5_bringToBe_61 ?_
    obtain ⟨z_32, ez_32⟩ : ∃ z : Int32, z = (gm_31 8 si.toNatClampNeg) := ⟨_, rfl⟩
    refine W.eq (g2 := F0 m 64 ls [.int z_32]) (by rw [ez_32]) ?_
    have hz_32 : iv (-1) 25 z_32 := iv_of ez_32 (CI_a hI_gm_31 8 hvsi (by decide))
    have ez_32 := ez_32.trans (congrFun (Eq.trans (Eq.trans (up_ne egm_31 (by decide)) (up_ne egm_30 (by decide))) (up_ne egm_28 (by decide))) _)
    refine lv_iconst (v := (-1)) hx hb dX5_bringToBe_64 (by decide) ?_
    refine lv_icmp_ne (tgt := 89) hx hb dX5_bringToBe_65 (by decide) (fun c_33 => ?_) (fun c_33 => ?_)
    · have h_34 : iv 0 25 z_32 := iv_neL c_33 hz_32 (by decide)
      refine ec_aload_n hx hb dX5_bringToBe_89 rfl (lv_at hl 1 rfl) ?_
      refine cr_get (t := 6) (j := 2) (C := RX5) (T := TX5) (N := 13) (v := eV (ad 5) 0) hx hb htb inX5 hown hK hP hvx (by decide) (by decide) (by decide) rfl (by decide) (htb _ kw_123) (cV_c rfl (by decide) (by rw [show cMu 6 2 = 0 from rfl, Nat.zero_mul]; rfl)) dX5_bringToBe_90 ?_
      refine lv_iconst (v := 2) hx hb dX5_bringToBe_93 (by decide) ?_
      refine lv_iload hx hb dX5_bringToBe_94 (lv_at hl 0 rfl) ?_
      refine ec_aload_n hx hb dX5_bringToBe_96 rfl (lv_at hl 3 rfl) ?_
      refine cr_get (t := 8) (j := 6) (C := RX8) (T := TX8) (N := 7) (v := .int (gm_31 10 si.toNatClampNeg)) hx hb htb inX8 hown hK hP hvsi (by decide) (by decide) (by decide) rfl (by decide) (htb _ kw_1116) rfl dX5_bringToBe_97 ?_
      refine W.eq (g2 := F0 m 100 ls [.int z_27, .int (sg 14), .int 2, eV (ad 5) 0]) (by rw [show (gm_31 10 si.toNatClampNeg) = z_27 from (Eq.trans (congrFun (Eq.trans (Eq.trans (up_ne egm_31 (by decide)) (up_ne egm_30 (by decide))) (up_ne egm_28 (by decide))) _) ez_27.symm)]) ?_
      refine lv_bipush (v := 8) hx hb dX5_bringToBe_100 (by decide) ?_
      refine ec_aload_n hx hb dX5_bringToBe_102 rfl (lv_at hl 3 rfl) ?_
      refine cr_get (t := 8) (j := 0) (C := RX8) (T := TX8) (N := 7) (v := .int (gm_31 5 si.toNatClampNeg)) hx hb htb inX8 hown hK hP hvsi (by decide) (by decide) (by decide) rfl (by decide) (htb _ kw_1119) rfl dX5_bringToBe_103 ?_
      obtain ⟨z_35, ez_35⟩ : ∃ z : Int32, z = (gm_31 5 si.toNatClampNeg) := ⟨_, rfl⟩
      refine W.eq (g2 := F0 m 106 ls [.int z_35, .int 8, .int z_27, .int (sg 14), .int 2, eV (ad 5) 0]) (by rw [ez_35]) ?_
      have hz_35 : iv 0 7 z_35 := iv_of ez_35 (CI_a hI_gm_31 5 hvsi (by decide))
      have ez_35 := ez_35.trans (congrFun (Eq.trans (Eq.trans (up_ne egm_31 (by decide)) (up_ne egm_30 (by decide))) (up_ne egm_28 (by decide))) _)
      refine lv_imul hx hb dX5_bringToBe_106 ?_
      refine lv_topi (fun z_36 ez_36 => ?_)
      have hz_36 : iv 0 56 z_36 := iv_of ez_36 (iv_mul (iv_k (by decide) : iv 8 8 8) hz_35 (by decide))
      have tz_36 : z_36.toInt = 8 * (z_35 : Int32).toInt := by rw [ez_36]; exact iv_mulE (iv_k (by decide) : iv 8 8 8) hz_35 (by decide)
      refine ec_aload_n hx hb dX5_bringToBe_107 rfl (lv_at hl 3 rfl) ?_
      refine cr_get (t := 8) (j := 1) (C := RX8) (T := TX8) (N := 7) (v := .int (gm_31 6 si.toNatClampNeg)) hx hb htb inX8 hown hK hP hvsi (by decide) (by decide) (by decide) rfl (by decide) (htb _ kw_1118) rfl dX5_bringToBe_108 ?_
      obtain ⟨z_37, ez_37⟩ : ∃ z : Int32, z = (gm_31 6 si.toNatClampNeg) := ⟨_, rfl⟩
      refine W.eq (g2 := F0 m 111 ls [.int z_37, .int z_36, .int z_27, .int (sg 14), .int 2, eV (ad 5) 0]) (by rw [ez_37]) ?_
      have hz_37 : iv 0 3 z_37 := iv_of ez_37 (CI_a hI_gm_31 6 hvsi (by decide))
      have ez_37 := ez_37.trans (congrFun (Eq.trans (Eq.trans (up_ne egm_31 (by decide)) (up_ne egm_30 (by decide))) (up_ne egm_28 (by decide))) _)
      refine lv_iadd hx hb dX5_bringToBe_111 ?_
      refine lv_topi (fun z_38 ez_38 => ?_)
      have hz_38 : iv 0 59 z_38 := iv_of ez_38 (iv_add hz_36 hz_37 (by decide))
      have tz_38 : z_38.toInt = (z_36 : Int32).toInt + (z_37 : Int32).toInt := by rw [ez_38]; exact iv_addE hz_36 hz_37 (by decide)
      refine cm_callV (t := 5) (C := RX4) (T := TX4) (N := 2) (rest := []) (as := [.int 2, .int (sg 14), .int z_27, .int z_38]) ⟨hx, hb, hml, hown, htb⟩ (d_addEv9 l dC dI ad cid a2 lx sg_26 gm_31 lg 0 2 (sg 14) z_27 z_38 wg (oB1 wg b.toNatClampNeg si.toNatClampNeg S) hI_gm_31 (iv_k (by decide) : iv 0 0 0) hR1) (cwV 4 htb (gd_V kw_1066 kw_1067 kw_1068 kw_36 kw_1581) rfl rfl rfl (by decide +kernel) ⟨Nat.le_of_ble_eq_true rfl, Nat.le_of_ble_eq_true rfl⟩) (iv_k (by decide) : iv 0 0 0) (by decide) (by decide) rfl rfl hl.1 rfl (Nat.le_trans cs_n (by decide)) dX5_bringToBe_112 ⟨Nat.le_of_ble_eq_true rfl, Nat.le_of_ble_eq_true rfl⟩ hK hP hD hS hA hG (fun E ce q9 u_40 H locs hw hP hD hS hce hcv hcl => ?_) (fun v9 u_40 H locs hw hP hD hS => ?_)
      · exact hw.elim
      obtain ⟨rfl, sgv_41, gmv_41, lgv_41, rfl, hIv_41, ksv_41, kgv_41, klv_41, fR_r_39⟩ := hw
      obtain rfl := KS_nil klv_41
      have hP : va_P (dC, dI) vwCl (cW ad cid a2 lx sgv_41 gmv_41 lg) H := hP
      have hD : va_D A (cW ad cid a2 lx sgv_41 gmv_41 lg) := hD
      refine W.eq (g2 := F0 m 115 ls []) rfl ?_
      exact hj115 sgv_41 gmv_41 h_24 hvx hvb hvsi hvdp (KS_tr (L := [13, 14]) (KS_up KS_rf esg_26 (by decide)) ksv_41 (by decide)) (KS_tr (L := [39, 48, 49, 50]) (KS_up (KS_up (KS_up KS_rf egm_28 (by decide)) egm_30 (by decide)) egm_31 (by decide)) kgv_41 (by decide)) hIv_41 (⟨_, (show gmv_41 39 = upd (gm 39) (b : Int32).toNatClampNeg (sg 14) from ((kgv_41 39 (by decide)).trans ((up_at egm_31).trans (by rw [show gm_30 39 = gm 39 from ((up_ne egm_30 (by decide)).trans ((up_ne egm_28 (by decide)).trans rfl))])))), (show iv 0 60 (sg 14) from CI_s hI 14).1, rfl⟩) (by have := i32_0; have := i32_1; have := i32_2; have := i32_m1; have := congrArg Int32.toInt (show sgv_41 14 = sg_26 14 from ksv_41 14 (by decide)); have := congrArg Int32.toInt (show sg_26 14 = z_25 from up_at esg_26); have := (hz_25).1; have := (hz_25).2; have := (hvx).1; have := (hvx).2; have := (hvb).1; have := (hvb).2; have := (hvsi).1; have := (hvsi).2; have := (hvdp).1; have := (hvdp).2; have := (h_24).1; have := (h_24).2; have := (hz_27).1; have := (hz_27).2; have := (hz_29).1; have := (hz_29).2; have := (h_34).1; have := (h_34).2; have := (hz_35).1; have := (hz_35).2; have := (hz_36).1; have := (hz_36).2; have := (hz_37).1; have := (hz_37).2; have := (hz_38).1; have := (hz_38).2; omega) ((by unfold oB2; rw [if_neg (by rw [(swt9 hSW ez_32 rfl)]; have := i32_0; have := i32_1; have := i32_2; have := i32_m1; have := (hvx).1; have := (hvx).2; have := (hvb).1; have := (hvb).2; have := (hvsi).1; have := (hvsi).2; have := (hvdp).1; have := (hvdp).2; have := (h_24).1; have := (h_24).2; have := (hz_25).1; have := (hz_25).2; have := (hz_27).1; have := (hz_27).2; have := (hz_29).1; have := (hz_29).2; have := (h_34).1; have := (h_34).2; have := (hz_35).1; have := (hz_35).2; have := (hz_36).1; have := (hz_36).2; have := (hz_37).1; have := (hz_37).2; have := (hz_38).1; have := (hz_38).2; omega), (show ((zO S).length : Int) = (sg 14).toInt from hRC.1.1.symm), (swt9 hSW ez_27 rfl), (swt9 hSW ez_37 rfl), (swt9 hSW ez_35 rfl), ← tz_36, ← tz_38]; exact fR_r_39)) _ _ _ hP hD hS (lv_sub hl [0, 1, 2, 3, 4] rfl)
    · have h_42 : iv (-1) (-1) z_32 := iv_eq c_33 hz_32 (iv_k (by decide) : iv (-1) (-1) (-1)) (by decide)
      refine ec_aload_n hx hb dX5_bringToBe_68 rfl (lv_at hl 1 rfl) ?_
      refine cr_get (t := 6) (j := 2) (C := RX5) (T := TX5) (N := 13) (v := eV (ad 5) 0) hx hb htb inX5 hown hK hP hvx (by decide) (by decide) (by decide) rfl (by decide) (htb _ kw_123) (cV_c rfl (by decide) (by rw [show cMu 6 2 = 0 from rfl, Nat.zero_mul]; rfl)) dX5_bringToBe_69 ?_
      refine lv_iconst (v := 1) hx hb dX5_bringToBe_72 (by decide) ?_
      refine lv_iload hx hb dX5_bringToBe_73 (lv_at hl 0 rfl) ?_
      refine ec_aload_n hx hb dX5_bringToBe_75 rfl (lv_at hl 3 rfl) ?_
      refine cr_get (t := 8) (j := 6) (C := RX8) (T := TX8) (N := 7) (v := .int (gm_31 10 si.toNatClampNeg)) hx hb htb inX8 hown hK hP hvsi (by decide) (by decide) (by decide) rfl (by decide) (htb _ kw_1116) rfl dX5_bringToBe_76 ?_
      refine W.eq (g2 := F0 m 79 ls [.int z_27, .int (sg 14), .int 1, eV (ad 5) 0]) (by rw [show (gm_31 10 si.toNatClampNeg) = z_27 from (Eq.trans (congrFun (Eq.trans (Eq.trans (up_ne egm_31 (by decide)) (up_ne egm_30 (by decide))) (up_ne egm_28 (by decide))) _) ez_27.symm)]) ?_
      refine ec_aload_n hx hb dX5_bringToBe_79 rfl (lv_at hl 3 rfl) ?_
      refine cr_get (t := 8) (j := 1) (C := RX8) (T := TX8) (N := 7) (v := .int (gm_31 6 si.toNatClampNeg)) hx hb htb inX8 hown hK hP hvsi (by decide) (by decide) (by decide) rfl (by decide) (htb _ kw_1118) rfl dX5_bringToBe_80 ?_
      obtain ⟨z_43, ez_43⟩ : ∃ z : Int32, z = (gm_31 6 si.toNatClampNeg) := ⟨_, rfl⟩
      refine W.eq (g2 := F0 m 83 ls [.int z_43, .int z_27, .int (sg 14), .int 1, eV (ad 5) 0]) (by rw [ez_43]) ?_
      have hz_43 : iv 0 3 z_43 := iv_of ez_43 (CI_a hI_gm_31 6 hvsi (by decide))
      have ez_43 := ez_43.trans (congrFun (Eq.trans (Eq.trans (up_ne egm_31 (by decide)) (up_ne egm_30 (by decide))) (up_ne egm_28 (by decide))) _)
      refine cm_callV (t := 5) (C := RX4) (T := TX4) (N := 2) (rest := []) (as := [.int 1, .int (sg 14), .int z_27, .int z_43]) ⟨hx, hb, hml, hown, htb⟩ (d_addEv9 l dC dI ad cid a2 lx sg_26 gm_31 lg 0 1 (sg 14) z_27 z_43 wg (oB1 wg b.toNatClampNeg si.toNatClampNeg S) hI_gm_31 (iv_k (by decide) : iv 0 0 0) hR1) (cwV 4 htb (gd_V kw_1066 kw_1067 kw_1068 kw_36 kw_1581) rfl rfl rfl (by decide +kernel) ⟨Nat.le_of_ble_eq_true rfl, Nat.le_of_ble_eq_true rfl⟩) (iv_k (by decide) : iv 0 0 0) (by decide) (by decide) rfl rfl hl.1 rfl (Nat.le_trans cs_n (by decide)) dX5_bringToBe_83 ⟨Nat.le_of_ble_eq_true rfl, Nat.le_of_ble_eq_true rfl⟩ hK hP hD hS hA hG (fun E ce q9 u_45 H locs hw hP hD hS hce hcv hcl => ?_) (fun v9 u_45 H locs hw hP hD hS => ?_)
      · exact hw.elim
      obtain ⟨rfl, sgv_46, gmv_46, lgv_46, rfl, hIv_46, ksv_46, kgv_46, klv_46, fR_r_44⟩ := hw
      obtain rfl := KS_nil klv_46
      have hP : va_P (dC, dI) vwCl (cW ad cid a2 lx sgv_46 gmv_46 lg) H := hP
      have hD : va_D A (cW ad cid a2 lx sgv_46 gmv_46 lg) := hD
      refine W.eq (g2 := F0 m 86 ls []) rfl ?_
      refine lv_goto (tgt := 115) hx hb dX5_bringToBe_86 (by decide) ?_
      exact hj115 sgv_46 gmv_46 h_24 hvx hvb hvsi hvdp (KS_tr (L := [13, 14]) (KS_up KS_rf esg_26 (by decide)) ksv_46 (by decide)) (KS_tr (L := [39, 48, 49, 50]) (KS_up (KS_up (KS_up KS_rf egm_28 (by decide)) egm_30 (by decide)) egm_31 (by decide)) kgv_46 (by decide)) hIv_46 (⟨_, (show gmv_46 39 = upd (gm 39) (b : Int32).toNatClampNeg (sg 14) from ((kgv_46 39 (by decide)).trans ((up_at egm_31).trans (by rw [show gm_30 39 = gm 39 from ((up_ne egm_30 (by decide)).trans ((up_ne egm_28 (by decide)).trans rfl))])))), (show iv 0 60 (sg 14) from CI_s hI 14).1, rfl⟩) (by have := i32_0; have := i32_1; have := i32_2; have := i32_m1; have := congrArg Int32.toInt (show sgv_46 14 = sg_26 14 from ksv_46 14 (by decide)); have := congrArg Int32.toInt (show sg_26 14 = z_25 from up_at esg_26); have := (hz_25).1; have := (hz_25).2; have := (hvx).1; have := (hvx).2; have := (hvb).1; have := (hvb).2; have := (hvsi).1; have := (hvsi).2; have := (hvdp).1; have := (hvdp).2; have := (h_24).1; have := (h_24).2; have := (hz_27).1; have := (hz_27).2; have := (hz_29).1; have := (hz_29).2; have := (h_42).1; have := (h_42).2; have := (hz_43).1; have := (hz_43).2; omega) ((by unfold oB2; rw [if_pos (by rw [(swt9 hSW ez_32 rfl)]; have := i32_0; have := i32_1; have := i32_2; have := i32_m1; have := (hvx).1; have := (hvx).2; have := (hvb).1; have := (hvb).2; have := (hvsi).1; have := (hvsi).2; have := (hvdp).1; have := (hvdp).2; have := (h_24).1; have := (h_24).2; have := (hz_25).1; have := (hz_25).2; have := (hz_27).1; have := (hz_27).2; have := (hz_29).1; have := (hz_29).2; have := (h_42).1; have := (h_42).2; have := (hz_43).1; have := (hz_43).2; omega), (show ((zO S).length : Int) = (sg 14).toInt from hRC.1.1.symm), (swt9 hSW ez_27 rfl), (swt9 hSW ez_43 rfl)]; exact fR_r_44)) _ _ _ hP hD hS (lv_sub hl [0, 1, 2, 3, 4] rfl)
  · have h_47 : iv 60 60 (sg 14) := iv_leR (i32_ge c_23) (iv_k (by decide) : iv 60 60 60) (show iv 0 60 (sg 14) from CI_s hI 14) (by decide)
    refine ec_aload_n hx hb dX5_bringToBe_9 rfl (lv_at hl 0 rfl) ?_
    refine lv_bipush (v := 6) hx hb dX5_bringToBe_10 (by decide) ?_
    refine cm_callV (t := 6) (C := RX5) (T := TX5) (N := 13) (rest := []) (as := [.int 6]) ⟨hx, hb, hml, hown, htb⟩ (d_failWith l dC dI ad cid a2 lx sg gm lg hl9 x 6 hI hvx (iv_w (iv_k (by decide) : iv 6 6 6) (by decide))) (cwV 1 htb (gd_V kw_1015 kw_1016 kw_1017 kw_40 kw_1570) rfl rfl rfl (by decide +kernel) ⟨Nat.le_of_ble_eq_true rfl, Nat.le_of_ble_eq_true rfl⟩) hvx (by decide) (by decide) rfl rfl hl.1 rfl (Nat.le_trans cs_n (by decide)) dX5_bringToBe_12 ⟨Nat.le_of_ble_eq_true rfl, Nat.le_of_ble_eq_true rfl⟩ hK hP hD hS hA hG (fun E ce q9 u_49 H locs hw hP hD hS hce hcv hcl => ?_) (fun v9 u_49 H locs hw hP hD hS => ?_)
    · obtain ⟨hE, hw⟩ := hw
      obtain ⟨sgv_50, gmv_50, lgv_50, rfl, hIv_50, ksv_50, kgv_50, klv_50⟩ := hw
      obtain rfl := KS_nil kgv_50
      obtain rfl := KS_nil klv_50
      have hP : va_P (dC, dI) vwCl (cW ad cid a2 lx sgv_50 gm lg) H := hP
      have hD : va_D A (cW ad cid a2 lx sgv_50 gm lg) := hD
      exact vx_out (fun x hx9 => (hxt x hx9).elim) hlocks hce hcv hcl (fun t ht hal => ⟨⟨(sgv_50, gm, lg), ⟨hE, sgv_50, gm, lg, rfl, hIv_50, (KS_tr (L := [13, 14, 17, 18]) KS_rf ksv_50 (by decide)), KS_rf, KS_rf, (rfl), (oBr_6 hch (by have := hRC.1.1; have := i32_0; have := i32_1; have := i32_2; have := i32_m1; have := congrArg Int32.toInt (show sgv_50 14 = sg 14 from ksv_50 14 (by decide)); have := (show iv 0 60 (sg 14) from CI_s hI 14).1; have := (show iv 0 60 (sg 14) from CI_s hI 14).2; have := (hvx).1; have := (hvx).2; have := (hvb).1; have := (hvb).2; have := (hvsi).1; have := (hvsi).2; have := (hvdp).1; have := (hvdp).2; have := (h_47).1; have := (h_47).2; omega)), ((RC_ks (L := [17, 18]) (M := []) hRC (KS_tr (L := [17, 18]) KS_rf ksv_50 (by decide)) KS_rf (by decide) (by decide)))⟩, by rw [ht]; exact hP, va_K.moved hal hK, hD⟩, hS.F ht⟩) hS.2.2 (Nat.le_of_ble_eq_true rfl) (Nat.le_of_ble_eq_true rfl)
    obtain ⟨r_48, rfl, sgv_51, gmv_51, lgv_51, rfl, hIv_51, ksv_51, kgv_51, klv_51, fF_r_48⟩ := hw
    obtain rfl := KS_nil kgv_51
    obtain rfl := KS_nil klv_51
    have hP : va_P (dC, dI) vwCl (cW ad cid a2 lx sgv_51 gm lg) H := hP
    have hD : va_D A (cW ad cid a2 lx sgv_51 gm lg) := hD
    exact fF_r_48.elim
end
section
theorem ndl9 : ∀ (n : Nat) (l : List Nat), l.Nodup → (∀ x, x ∈ l → x < n) → l.length ≤ n := by
  intro n
  induction n with
  | zero =>
    intro l _ h
    cases l with
    | nil => exact Nat.le_refl _
    | cons a l => exact absurd (h a List.mem_cons_self) (Nat.not_lt_zero _)
  | succ n ih =>
    intro l hn h
    by_cases hm : n ∈ l
    · have h1 := ih (l.erase n) (hn.erase n) (fun x hx => by
        have := (hn.mem_erase_iff).mp hx
        have := h x this.2
        omega)
      have h2 := List.length_erase_of_mem hm
      omega
    · have h1 := ih l hn (fun x hx => by
        have h3 := h x hx
        have h4 : ¬ x = n := fun q => hm (q ▸ hx)
        omega)
      omega
theorem RC_nf {wg : Nat → Nat → Int32} {lg : Nat → Nat → Int64} {S : S9} {sg : Nat → Int32} {gm : Nat → Nat → Int32} {b : Nat} (h : RC wg lg S sg gm) (hb : b < (sg 12).toNatClampNeg) (h1 : zS S b = 1) : (zF S).length + 1 ≤ (sg 12).toNatClampNeg ∧ ¬ b ∈ zF S := by
  have hf := h.2.2.2
  have hm : ∀ x, x ∈ zF S → x < (sg 12).toNatClampNeg ∧ zS S x = 2 := fun x hx => by
    obtain ⟨k, hk, e⟩ := List.mem_iff_getElem.mp hx
    have := hf.2.1 k x (by rw [List.getElem?_eq_getElem hk, e])
    exact ⟨this.2.1, this.2.2.2.2⟩
  have hn : ¬ b ∈ zF S := fun q => by have := (hm b q).2; omega
  refine ⟨?_, hn⟩
  have := ndl9 (sg 12).toNatClampNeg (b :: zF S) (List.nodup_cons.mpr ⟨hn, hf.2.2⟩) (fun x hx => by
    rcases List.mem_cons.mp hx with rfl | hx
    · exact hb
    · exact (hm x hx).1)
  exact this
theorem RC_fn {wg : Nat → Nat → Int32} {lg : Nat → Nat → Int64} {S : S9} {sg sg2 : Nat → Int32} {gm gm2 : Nat → Nat → Int32} {b : Nat} {v1 v2 : Int32} (h : RC wg lg S sg gm) (hb : b < (sg 12).toNatClampNeg) (h1 : zS S b = 1) (hs : KS [15] sg sg2) (hg : KS [37, 38, 51] gm gm2) (h37 : gm2 37 = upd (gm 37) b v1) (hv1 : v1 = 0) (h38 : gm2 38 = upd (gm 38) b v2) (hv2 : ¬ v2 = 0) (h51 : (¬ lg 4 b = 0 ∧ wg 35 b = 0) → (sg2 15).toInt = (sg 15).toInt + 1 ∧ ∃ (i : Nat) (c : Int32), (i : Int) = (sg 15).toInt ∧ c.toInt = (b : Int) ∧ gm2 51 = upd (gm 51) i c) (h51n : ¬ (¬ lg 4 b = 0 ∧ wg 35 b = 0) → sg2 15 = sg 15 ∧ gm2 51 = gm 51) : RC wg lg (oF2 wg lg b S) sg2 gm2 := by
  have hnf := RC_nf h hb h1
  obtain ⟨ho, he, hbb, hf⟩ := h
  have s12 := hs 12 (by decide); have s13 := hs 13 (by decide); have s14 := hs 14 (by decide)
  have g39 := hg 39 (by decide); have g48 := hg 48 (by decide); have g49 := hg 49 (by decide); have g50 := hg 50 (by decide)
  subst hv1
  unfold oF2
  by_cases q : ¬ lg 4 b = 0 ∧ wg 35 b = 0
  · rw [if_pos q]
    obtain ⟨e15, i, c, hi, hc, h51⟩ := h51 q
    refine ⟨?_, ?_, ?_, ?_⟩
    · unfold RCo; rw [s14, g49, g50]; exact ho
    · unfold RCe; rw [s13, g48]; exact he
    · unfold RCb; rw [s12, g39, h37, h38]
      intro x hx
      show (fu9 (zS S) b 2 x = 1 ↔ _) ∧ (_ → _ → (fu9 (zS S) b 2 x = 2 ↔ _) ∧ (¬ fu9 (zS S) b 2 x = 0 → _ = zW S x ∧ zW S x < ((zO S).length : Int))) ∧ fu9 (zS S) b 2 x ≤ 2
      by_cases e : x = b
      · subst e; rw [fu9_at, upd_at, upd_at]
        exact ⟨⟨fun w => absurd w (by decide), fun w => absurd rfl w⟩, fun q1 q2 => ⟨⟨fun _ => hv2, fun _ => rfl⟩, fun _ => ((hbb x hx).2.1 q1 q2).2 (by omega)⟩, by omega⟩
      · rw [fu9_ne e, upd_ne e, upd_ne e]; exact hbb x hx
    · have h15 := hf.1
      refine ⟨?_, ?_, ?_⟩
      · show (sg2 15).toInt = ((zF S ++ [b]).length : Int)
        rw [e15, h15, List.length_append]; rfl
      · intro k x hk
        have hk : (zF S ++ [b])[k]? = some x := hk
        rw [s12, h51]
        show _ ∧ _ ∧ _ ∧ _ ∧ fu9 (zS S) b 2 x = 2
        rcases ga9 hk with ⟨hl, hk⟩ | ⟨hl, hk⟩
        · have := hf.2.1 k x hk
          rw [upd_ne (by omega)]
          refine ⟨this.1, this.2.1, this.2.2.1, this.2.2.2.1, ?_⟩
          by_cases e : x = b
          · subst e; exact fu9_at
          · rw [fu9_ne e]; exact this.2.2.2.2
        · subst hk
          have : k = i := by omega
          subst this
          rw [upd_at]
          exact ⟨hc, hb, q.1, q.2, fu9_at⟩
      · show (zF S ++ [b]).Nodup
        rw [List.nodup_append]
        exact ⟨hf.2.2, List.nodup_cons.mpr ⟨by simp, List.nodup_nil⟩, fun x hx y hy e => by
          have : y = b := by simpa using hy
          exact hnf.2 (this ▸ e ▸ hx)⟩
  · rw [if_neg q]
    obtain ⟨e15, e51⟩ := h51n q
    refine ⟨?_, ?_, ?_, ?_⟩
    · unfold RCo; rw [s14, g49, g50]; exact ho
    · unfold RCe; rw [s13, g48]; exact he
    · unfold RCb; rw [s12, g39, h37, h38]
      intro x hx
      show (fu9 (zS S) b 0 x = 1 ↔ _) ∧ (_ → _ → (fu9 (zS S) b 0 x = 2 ↔ _) ∧ (¬ fu9 (zS S) b 0 x = 0 → _ = zW S x ∧ zW S x < ((zO S).length : Int))) ∧ fu9 (zS S) b 0 x ≤ 2
      by_cases e : x = b
      · subst e; rw [fu9_at, upd_at, upd_at]
        exact ⟨⟨fun w => absurd w (by decide), fun w => absurd rfl w⟩, fun q1 q2 => absurd ⟨q1, q2⟩ q, by omega⟩
      · rw [fu9_ne e, upd_ne e, upd_ne e]; exact hbb x hx
    · refine ⟨by rw [e15]; exact hf.1, fun k x hk => ?_, hf.2.2⟩
      have := hf.2.1 k x hk
      rw [s12, e51]
      refine ⟨this.1, this.2.1, this.2.2.1, this.2.2.2.1, ?_⟩
      show fu9 (zS S) b 0 x = 2
      by_cases e : x = b
      · subst e; have := this.2.2.2.2; omega
      · rw [fu9_ne e]; exact this.2.2.2.2
/-- names -/
theorem caF_z {ws : Nat → Int32} {wg : Nat → Nat → Int32} {wl : Nat → Nat → Int64} {f : Nat} {v : Int64} (h : v = 0 ∨ f = 0) : caF ws wg wl f v = -1 := by
  cases f with
  | zero => rfl
  | succ f => show (if v = 0 then (-1 : Int32) else _) = -1; rw [if_pos (by rcases h with h | h; exact h; omega)]
theorem caF_y {ws : Nat → Int32} {wg : Nat → Nat → Int32} {wl : Nat → Nat → Int64} {f : Nat} {v : Int64} (hf : 0 < f) (h : ¬ v = 0) (hc : ¬ cWid ws wl v = -1) : caF ws wg wl f v = cWid ws wl v := by
  obtain ⟨g, rfl⟩ : ∃ g, f = g + 1 := ⟨f - 1, by omega⟩
  show (if v = 0 then (-1 : Int32) else if cWid ws wl v = -1 then _ else _) = _
  rw [if_neg h, if_neg hc]
theorem caF_s {ws : Nat → Int32} {wg : Nat → Nat → Int32} {wl : Nat → Nat → Int64} {f : Nat} {v : Int64} (h : ¬ v = 0) (hc : cWid ws wl v = -1) : caF ws wg wl (f + 1) v = caF ws wg wl f (alN ws wg wl v) := by
  show (if v = 0 then (-1 : Int32) else if cWid ws wl v = -1 then _ else _) = _
  rw [if_neg h, if_pos hc]
theorem alF_s {wg : Nat → Nat → Int32} {wl : Nat → Nat → Int64} {to : Int64} {f i : Nat} (h : ¬ ((wg 14 i).toInt = 1 ∧ wl 1 i = to)) : alF wg wl to (f + 1) i = alF wg wl to f (i + 1) := by
  show (if _ then _ else _) = _; rw [if_neg h]
theorem alF_h {wg : Nat → Nat → Int32} {wl : Nat → Nat → Int64} {to : Int64} {f i : Nat} (hf : 0 < f) (h : (wg 14 i).toInt = 1 ∧ wl 1 i = to) : alF wg wl to f i = wl 2 i := by
  obtain ⟨g, rfl⟩ : ∃ g, f = g + 1 := ⟨f - 1, by omega⟩
  show (if _ then _ else _) = _; rw [if_pos h]
theorem ss9_4 {sg ws : Nat → Int32} (h : ss9 sg = ws) : ws 4 = sg 4 := by rw [← h]; rfl
theorem ss9_12 {sg ws : Nat → Int32} (h : ss9 sg = ws) : ws 12 = sg 12 := by rw [← h]; rfl
theorem cWid_w {sg ws : Nat → Int32} {lg : Nat → Nat → Int64} (h : ss9 sg = ws) (v : Int64) : cWid ws lg v = cWid sg lg v := by unfold cWid; rw [ss9_12 h]
end
section
set_option maxHeartbeats 4000000 in
set_option maxRecDepth 100000 in
theorem d_finish9 (l : Launch) (dC : Nat → ClassId) (dI : Nat → Nat → Nat) (ad : Nat → Nat → Nat) (cid : Nat → ClassId) (a2 : Nat → Nat) (lx : List Nat) (sg : Nat → Int32) (gm : Nat → Nat → Int32) (lg : Nat → Nat → Int64) (x : Int32) (b : Int32) (wg : Nat → Nat → Int32) (S : S9) (hI : CI sg gm) (hvx : iv 0 0 x) (hvb : iv 0 79 b) (hFND9 : FND9 sg gm) (hSW : st9 gm = wg) (hRC : RC wg lg S sg gm) (hb12 : b.toInt < (sg 12).toInt) (hz1 : zS S b.toNatClampNeg = 1) : CMt dC dI ad cid a2 lx l yX5_finish wm_X5_finish ({ frames := 0, cells := 1, slots := 6, locals := 0 }) [eV (ad 6) x, eV (ad 10) b] sg gm lg (fun v u => v = none ∧ ∃ (sg2 : Nat → Int32) (gm2 : Nat → Nat → Int32) (lg2 : Nat → Nat → Int64), u = (sg2, gm2, lg2) ∧ CI sg2 gm2 ∧ KS [15] sg sg2 ∧ KS [37, 38, 51] gm gm2 ∧ KS [] lg lg2 ∧ (gm2 37 = upd (gm 37) b.toNatClampNeg 0) ∧ (gm2 38 = upd (gm 38) b.toNatClampNeg 1) ∧ (FND9 sg2 gm2) ∧ (RC wg lg (oF2 wg lg b.toNatClampNeg S) sg2 gm2)) (fun _ _ => False) := by
  intro sz
  refine vx_ofW (cc := cX5_finish) (maxL := 2) (ret := none) (by decide) rfl ?_
  intro p e s m args below meth c s₁ B hml hxt hv
  obtain ⟨rfl, hsz, hP, hK, hD0, hG⟩ := hv
  have hx := B.exec
  have hb := B.bytes
  have hr := B.returns
  have hts := atoms_spec (ws := wm_X5_finish) B.pre
  have htb := fun (w : Cond) (h : w ∈ tb) => hts w (List.mem_cons_of_mem _ h)
  have hown : s.vm.findClass RX5 = some m.cls := findClass_of_methodNamed B.named
  have hlocks := B.notSynchronized
  subst hsz
  have hD := hD0.self (sz := s.heap.size)
  generalize hAe : va_A (cW ad cid a2 lx sg gm lg) s.heap.size = A at hD hG ⊢
  have hA : ∀ q : Nat, s.heap.size ≤ q → A q := fun q h => by rw [← hAe]; exact Or.inr h
  have hS : va_S A s.heap s.heap [] := va_S.rf
  have hl := lv_entry ([eV (ad 6) x, eV (ad 10) b]) (n := 2) (by rw [show (lg_sl ([eV (ad 6) x, eV (ad 10) b])).length = 2 from by simp [lg_sl, eV_cat, cat_i, cat_l]]; exact Nat.le_of_ble_eq_true rfl)
  rw [lg_entry_eq]
  generalize (lg_sl ([eV (ad 6) x, eV (ad 10) b]) ++ List.replicate (2 - (lg_sl ([eV (ad 6) x, eV (ad 10) b])).length) Slot.unset).toArray = ls at hl ⊢
  have hl : lv_has ls 2 [(0, eV (ad 6) x), (1, eV (ad 10) b)] := by simp [lv_args, eV_cat, cat_i, cat_l] at hl; exact hl
  have hj58 : ∀ (sg_j58 : Nat → Int32) (gm_j58 : Nat → Nat → Int32) (_ : iv 0 0 x) (_ : iv 0 79 b) (_ : KS [15] sg sg_j58) (_ : KS [37, 38, 51] gm gm_j58) (_ : CI sg_j58 gm_j58) (_ : gm_j58 37 = upd (gm 37) b.toNatClampNeg 0) (_ : gm_j58 38 = upd (gm 38) b.toNatClampNeg 1) (_ : FND9 sg_j58 gm_j58) (_ : RC wg lg (oF2 wg lg b.toNatClampNeg S) sg_j58 gm_j58) (H : Heap) (locs : List Loc) (ls : Array Slot), va_P (dC, dI) vwCl (cW ad cid a2 lx sg_j58 gm_j58 lg) H → va_D A (cW ad cid a2 lx sg_j58 gm_j58 lg) → va_S A s.heap H locs → lv_has ls 2 [(0, eV (ad 6) x), (1, eV (ad 10) b)] → W p l e (headSpec wm_X5_finish ({ frames := 0, cells := 1, slots := 6, locals := 0 })).room s m ([eV (ad 6) x, eV (ad 10) b] : List Value).toArray below meth c H locs 0 0 (vx_MQ below (cQx dC dI ad cid a2 lx (fun v u => v = none ∧ ∃ (sg2 : Nat → Int32) (gm2 : Nat → Nat → Int32) (lg2 : Nat → Nat → Int64), u = (sg2, gm2, lg2) ∧ CI sg2 gm2 ∧ KS [15] sg sg2 ∧ KS [37, 38, 51] gm gm2 ∧ KS [] lg lg2 ∧ (gm2 37 = upd (gm 37) b.toNatClampNeg 0) ∧ (gm2 38 = upd (gm 38) b.toNatClampNeg 1) ∧ (FND9 sg2 gm2) ∧ (RC wg lg (oF2 wg lg b.toNatClampNeg S) sg2 gm2)) A) (cX dC dI ad cid a2 lx (fun _ _ => False) A) ([eV (ad 6) x, eV (ad 10) b] : List Value).toArray s 1 6 A) (F0 m 58 ls []) := by
    intro sg_j58 gm_j58 hsx0_58 hsx1_58 hks_j58 hkg_j58 hI_j58 h37 h38 hFND9b hR58 H locs ls hP hD hS hl
    exact W.nb (fun hN => W.widen (k := 1) (n := 6) (by decide) (by decide) (vx_ret (W.vret hx hb hr (fun t ht hW => ⟨⟨none, (sg_j58, gm_j58, lg), rfl, ⟨rfl, sg_j58, gm_j58, lg, rfl, hI_j58, (KS_tr (L := [15]) KS_rf hks_j58 (by decide)), (KS_tr (L := [37, 38, 51]) KS_rf hkg_j58 (by decide)), KS_rf, (h37), (h38), (hFND9b), (hR58)⟩, by rw [ht]; exact hP, va_K.moved hW.alike hK, hD⟩, hS.F ht, by rw [ht]; exact hN⟩) hS.2.2 dX5_finish_58)))
  refine ec_aload_n hx hb dX5_finish_0 rfl (lv_at hl 1 rfl) ?_
  refine lv_iconst (v := 0) hx hb dX5_finish_1 (by decide) ?_
  refine cr_putg (t := 10) (j := 16) (C := RX1) (T := TX1) (N := 19) (ty0 := tyX1) (k := 37) (y := 0) hx hb htb inX1 tyX1_ok nmX1 hown hK hP hD hS hvb (by decide) (by decide) (by decide) (by decide) rfl rfl (by decide) (htb _ kw_1006) rfl (by show Value.int 0 = Value.int (va_up gm 37 (upd (gm 37) b.toNatClampNeg 0) 37 b.toNatClampNeg); rw [va_up_self, upd_at]) (iv_nb (iv_w (iv_k (by decide) : iv 0 0 0) (by decide))) (iv_fb (iv_w (iv_k (by decide) : iv 0 0 0) (by decide))) dX5_finish_2 (fun gm_1 H locs egm_1 hP hD hS => ?_)
  have hI_gm_1 := CI_st hI egm_1 (iv_k (by decide) : iv 0 0 0) (by decide)
  refine ec_aload_n hx hb dX5_finish_5 rfl (lv_at hl 1 rfl) ?_
  refine lv_iconst (v := 1) hx hb dX5_finish_6 (by decide) ?_
  refine cr_putg (t := 10) (j := 17) (C := RX1) (T := TX1) (N := 19) (ty0 := tyX1) (k := 38) (y := 1) hx hb htb inX1 tyX1_ok nmX1 hown hK hP hD hS hvb (by decide) (by decide) (by decide) (by decide) rfl rfl (by decide) (htb _ kw_320) rfl (by show Value.int 1 = Value.int (va_up gm_1 38 (upd (gm_1 38) b.toNatClampNeg 1) 38 b.toNatClampNeg); rw [va_up_self, upd_at]) (iv_nb (iv_w (iv_k (by decide) : iv 1 1 1) (by decide))) (iv_fb (iv_w (iv_k (by decide) : iv 1 1 1) (by decide))) dX5_finish_7 (fun gm_2 H locs egm_2 hP hD hS => ?_)
  have hI_gm_2 := CI_st hI_gm_1 egm_2 (iv_k (by decide) : iv 1 1 1) (by decide)
  refine ec_aload_n hx hb dX5_finish_10 rfl (lv_at hl 1 rfl) ?_
  refine cr_get (t := 10) (j := 5) (C := RX1) (T := TX1) (N := 19) (v := .long (lg 4 b.toNatClampNeg)) hx hb htb inX1 hown hK hP hvb (by decide) (by decide) (by decide) rfl (by decide) (htb _ kw_999) rfl dX5_finish_11 ?_
  refine lv_topl (fun z_3 ez_3 => ?_)
  refine lv_lconst (v := 0) hx hb dX5_finish_14 (by decide) ?_
  refine W.lcmp hx hb dX5_finish_15 ?_
  refine lv_topi (fun z_4 ez_4 => ?_)
  have hz_4 : iv (-1) 1 z_4 := iv_of ez_4 (iv_cmp _ _)
  refine lv_if_eq (tgt := 58) hx hb dX5_finish_16 (by decide) (fun c_5 => ?_) (fun c_5 => ?_)
  · have h_6 : iv 0 0 z_4 := iv_eq c_5 hz_4 (iv_k (by decide) : iv 0 0 0) (by decide)
    exact hj58 sg gm_2 hvx hvb KS_rf (KS_up (KS_up KS_rf egm_1 (by decide)) egm_2 (by decide)) hI_gm_2 ((show gm_2 37 = upd (gm 37) (b : Int32).toNatClampNeg 0 from ((up_ne egm_2 (by decide)).trans ((up_at egm_1).trans (by rw [show gm 37 = gm 37 from rfl]))))) ((show gm_2 38 = upd (gm 38) (b : Int32).toNatClampNeg 1 from ((up_at egm_2).trans (by rw [show gm_1 38 = gm 38 from ((up_ne egm_1 (by decide)).trans rfl)])))) (FND9_e hFND9 rfl (Eq.trans (up_ne egm_2 (by decide)) (up_ne egm_1 (by decide)))) (RC_fn hRC (lt_cl hvb (show iv 0 80 (sg 12) from CI_s hI 12) (by decide) (by decide) hb12) hz1 KS_rf (KS_up (KS_up KS_rf egm_1 (by decide)) egm_2 (by decide)) (show gm_2 37 = upd (gm 37) (b : Int32).toNatClampNeg 0 from ((up_ne egm_2 (by decide)).trans ((up_at egm_1).trans (by rw [show gm 37 = gm 37 from rfl])))) rfl (show gm_2 38 = upd (gm 38) (b : Int32).toNatClampNeg 1 from ((up_at egm_2).trans (by rw [show gm_1 38 = gm 38 from ((up_ne egm_1 (by decide)).trans rfl)]))) (by decide) (fun q9 => absurd q9 (fun q8 => q8.1 (ez_3.symm.trans ((lg_cmp_eq _ _).mp (by rw [← ez_4]; exact c_5))))) (fun _ => ⟨rfl, (Eq.trans (up_ne egm_2 (by decide)) (up_ne egm_1 (by decide)))⟩)) _ _ _ hP hD hS (lv_sub hl [0, 1] rfl)
  · have d_7 : ¬ (z_4 : Int32).toInt = 0 := lv_neT c_5 rfl
    refine ec_aload_n hx hb dX5_finish_19 rfl (lv_at hl 1 rfl) ?_
    refine cr_get (t := 10) (j := 14) (C := RX1) (T := TX1) (N := 19) (v := .int (gm_2 35 b.toNatClampNeg)) hx hb htb inX1 hown hK hP hvb (by decide) (by decide) (by decide) rfl (by decide) (htb _ kw_1001) rfl dX5_finish_20 ?_
    obtain ⟨z_8, ez_8⟩ : ∃ z : Int32, z = (gm_2 35 b.toNatClampNeg) := ⟨_, rfl⟩
    refine W.eq (g2 := F0 m 23 ls [.int z_8]) (by rw [ez_8]) ?_
    have hz_8 : iv 0 1 z_8 := iv_of ez_8 (CI_a hI_gm_2 35 hvb (by decide))
    have ez_8 := ez_8.trans (congrFun (Eq.trans (up_ne egm_2 (by decide)) (up_ne egm_1 (by decide))) _)
    refine lv_if_ne (tgt := 58) hx hb dX5_finish_23 (by decide) (fun c_9 => ?_) (fun c_9 => ?_)
    · have h_10 : iv 1 1 z_8 := iv_neL c_9 hz_8 (by decide)
      exact hj58 sg gm_2 hvx hvb KS_rf (KS_up (KS_up KS_rf egm_1 (by decide)) egm_2 (by decide)) hI_gm_2 ((show gm_2 37 = upd (gm 37) (b : Int32).toNatClampNeg 0 from ((up_ne egm_2 (by decide)).trans ((up_at egm_1).trans (by rw [show gm 37 = gm 37 from rfl]))))) ((show gm_2 38 = upd (gm 38) (b : Int32).toNatClampNeg 1 from ((up_at egm_2).trans (by rw [show gm_1 38 = gm 38 from ((up_ne egm_1 (by decide)).trans rfl)])))) (FND9_e hFND9 rfl (Eq.trans (up_ne egm_2 (by decide)) (up_ne egm_1 (by decide)))) (RC_fn hRC (lt_cl hvb (show iv 0 80 (sg 12) from CI_s hI 12) (by decide) (by decide) hb12) hz1 KS_rf (KS_up (KS_up KS_rf egm_1 (by decide)) egm_2 (by decide)) (show gm_2 37 = upd (gm 37) (b : Int32).toNatClampNeg 0 from ((up_ne egm_2 (by decide)).trans ((up_at egm_1).trans (by rw [show gm 37 = gm 37 from rfl])))) rfl (show gm_2 38 = upd (gm 38) (b : Int32).toNatClampNeg 1 from ((up_at egm_2).trans (by rw [show gm_1 38 = gm 38 from ((up_ne egm_1 (by decide)).trans rfl)]))) (by decide) (fun q9 => absurd q9 (fun q8 => absurd (congrArg Int32.toInt ((swt9 hSW ez_8 rfl).symm.trans q8.2)) (by have := i32_0; have := i32_0; have := i32_1; have := i32_2; have := i32_m1; have := (hvx).1; have := (hvx).2; have := (hvb).1; have := (hvb).2; have := (hz_4).1; have := (hz_4).2; have := (h_10).1; have := (h_10).2; omega))) (fun _ => ⟨rfl, (Eq.trans (up_ne egm_2 (by decide)) (up_ne egm_1 (by decide)))⟩)) _ _ _ hP hD hS (lv_sub hl [0, 1] rfl)
    · have h_11 : iv 0 0 z_8 := iv_eq c_9 hz_8 (iv_k (by decide) : iv 0 0 0) (by decide)
      refine ec_aload_n hx hb dX5_finish_26 rfl (lv_at hl 0 rfl) ?_
      refine cr_get (t := 6) (j := 7) (C := RX5) (T := TX5) (N := 13) (v := .int (sg 15)) hx hb htb inX5 hown hK hP hvx (by decide) (by decide) (by decide) rfl (by decide) (htb _ kw_321) rfl dX5_finish_27 ?_
      refine ec_aload_n hx hb dX5_finish_30 rfl (lv_at hl 0 rfl) ?_
      refine cr_get (t := 6) (j := 6) (C := RX5) (T := TX5) (N := 13) (v := eV (ad 24) 0) hx hb htb inX5 hown hK hP hvx (by decide) (by decide) (by decide) rfl (by decide) (htb _ kw_127) (cV_c rfl (by decide) (by rw [show cMu 6 6 = 0 from rfl, Nat.zero_mul]; rfl)) dX5_finish_31 ?_
      refine cr_alen (t := 24) (z := 80) hx hb hK hP (iv_k (by decide) : iv 0 0 0) (by decide) (by decide) (by decide) rfl dX5_finish_34 ?_
      refine lv_icmp_ge (tgt := 58) hx hb dX5_finish_35 (by decide) (fun c_12 => ?_) (fun c_12 => ?_)
      · have h_13 : iv 80 80 (sg 15) := iv_leR c_12 (iv_k (by decide) : iv 80 80 80) (show iv 0 80 (sg 15) from CI_s hI 15) (by decide)
        exact hj58 sg gm_2 hvx hvb KS_rf (KS_up (KS_up KS_rf egm_1 (by decide)) egm_2 (by decide)) hI_gm_2 ((show gm_2 37 = upd (gm 37) (b : Int32).toNatClampNeg 0 from ((up_ne egm_2 (by decide)).trans ((up_at egm_1).trans (by rw [show gm 37 = gm 37 from rfl]))))) ((show gm_2 38 = upd (gm 38) (b : Int32).toNatClampNeg 1 from ((up_at egm_2).trans (by rw [show gm_1 38 = gm 38 from ((up_ne egm_1 (by decide)).trans rfl)])))) (FND9_e hFND9 rfl (Eq.trans (up_ne egm_2 (by decide)) (up_ne egm_1 (by decide)))) (RC_fn hRC (lt_cl hvb (show iv 0 80 (sg 12) from CI_s hI 12) (by decide) (by decide) hb12) hz1 KS_rf (KS_up (KS_up KS_rf egm_1 (by decide)) egm_2 (by decide)) (show gm_2 37 = upd (gm 37) (b : Int32).toNatClampNeg 0 from ((up_ne egm_2 (by decide)).trans ((up_at egm_1).trans (by rw [show gm 37 = gm 37 from rfl])))) rfl (show gm_2 38 = upd (gm 38) (b : Int32).toNatClampNeg 1 from ((up_at egm_2).trans (by rw [show gm_1 38 = gm 38 from ((up_ne egm_1 (by decide)).trans rfl)]))) (by decide) (fun q9 => absurd q9 (fun _ => absurd (RC_nf hRC (lt_cl hvb (show iv 0 80 (sg 12) from CI_s hI 12) (by decide) (by decide) hb12) hz1).1 (by have := hRC.2.2.2.1; have k1 : (sg 12).toNatClampNeg = (sg 12).toInt.toNat := rfl; have := i32_0; have := i32_1; have := i32_2; have := i32_m1; have := (show iv 0 80 (sg 12) from CI_s hI 12).1; have := (show iv 0 80 (sg 12) from CI_s hI 12).2; have := (show iv 0 80 (sg 15) from CI_s hI 15).1; have := (show iv 0 80 (sg 15) from CI_s hI 15).2; have := (hvx).1; have := (hvx).2; have := (hvb).1; have := (hvb).2; have := (hz_4).1; have := (hz_4).2; have := (h_11).1; have := (h_11).2; have := (h_13).1; have := (h_13).2; omega))) (fun _ => ⟨rfl, (Eq.trans (up_ne egm_2 (by decide)) (up_ne egm_1 (by decide)))⟩)) _ _ _ hP hD hS (lv_sub hl [0, 1] rfl)
      · have h_14 : iv 0 79 (sg 15) := iv_ltL (i32_lt c_12) (show iv 0 80 (sg 15) from CI_s hI 15) (iv_k (by decide) : iv 80 80 80) (by decide)
        refine ec_aload_n hx hb dX5_finish_38 rfl (lv_at hl 0 rfl) ?_
        refine cr_get (t := 6) (j := 6) (C := RX5) (T := TX5) (N := 13) (v := eV (ad 24) 0) hx hb htb inX5 hown hK hP hvx (by decide) (by decide) (by decide) rfl (by decide) (htb _ kw_127) (cV_c rfl (by decide) (by rw [show cMu 6 6 = 0 from rfl, Nat.zero_mul]; rfl)) dX5_finish_39 ?_
        refine ec_aload_n hx hb dX5_finish_42 rfl (lv_at hl 0 rfl) ?_
        refine cr_get (t := 6) (j := 7) (C := RX5) (T := TX5) (N := 13) (v := .int (sg 15)) hx hb htb inX5 hown hK hP hvx (by decide) (by decide) (by decide) rfl (by decide) (htb _ kw_321) rfl dX5_finish_43 ?_
        refine ec_aload_n hx hb dX5_finish_46 rfl (lv_at hl 1 rfl) ?_
        refine cr_aast (t := 24) (k := 51) hx hb hK hP hD hS (iv_k (by decide) : iv 0 0 0) (by decide) (by decide) (by decide) rfl rfl rfl rfl (show vp_in (sg 15) (cLen 24) from (show vp_in (sg 15) 80 from (iv_in h_14 (by decide)))) hvb (by decide) dX5_finish_47 (fun gm_15 H locs egm_15 hP hD hS => ?_)
        have hI_gm_15 := CI_st hI_gm_2 egm_15 hvb (by decide)
        refine ec_aload_n hx hb dX5_finish_48 rfl (lv_at hl 0 rfl) ?_
        refine lv_dup hx hb dX5_finish_49 (eV_cat _ _) ?_
        refine cr_get (t := 6) (j := 7) (C := RX5) (T := TX5) (N := 13) (v := .int (sg 15)) hx hb htb inX5 hown hK hP hvx (by decide) (by decide) (by decide) rfl (by decide) (htb _ kw_321) rfl dX5_finish_50 ?_
        refine lv_iconst (v := 1) hx hb dX5_finish_53 (by decide) ?_
        refine lv_iadd hx hb dX5_finish_54 ?_
        refine lv_topi (fun z_16 ez_16 => ?_)
        have hz_16 : iv 1 80 z_16 := iv_of ez_16 (iv_add h_14 (iv_k (by decide) : iv 1 1 1) (by decide))
        have tz_16 : z_16.toInt = ((sg 15) : Int32).toInt + 1 := by rw [ez_16]; exact iv_addE h_14 (iv_k (by decide) : iv 1 1 1) (by decide)
        refine cr_puts (t := 6) (j := 7) (C := RX5) (T := TX5) (N := 13) (ty0 := tyX5) (k := 15) (y := z_16) hx hb htb inX5 tyX5_ok nmX5 hown hK hP hD hS hvx (by decide) (by decide) (by decide) (by decide) rfl rfl rfl (by decide) (htb _ kw_321) rfl (by show Value.int z_16 = Value.int (va_up sg 15 z_16 15); rw [va_up_self]) rfl rfl dX5_finish_55 (fun sg_17 H locs esg_17 hP hD hS => ?_)
        have hI_sg_17 := CI_put hI_gm_15 esg_17 hz_16 (by decide)
        exact hj58 sg_17 gm_15 hvx hvb (KS_up KS_rf esg_17 (by decide)) (KS_up (KS_up (KS_up KS_rf egm_1 (by decide)) egm_2 (by decide)) egm_15 (by decide)) hI_sg_17 ((show gm_15 37 = upd (gm 37) (b : Int32).toNatClampNeg 0 from ((up_ne egm_15 (by decide)).trans ((up_ne egm_2 (by decide)).trans ((up_at egm_1).trans (by rw [show gm 37 = gm 37 from rfl])))))) ((show gm_15 38 = upd (gm 38) (b : Int32).toNatClampNeg 1 from ((up_ne egm_15 (by decide)).trans ((up_at egm_2).trans (by rw [show gm_1 38 = gm 38 from ((up_ne egm_1 (by decide)).trans rfl)]))))) (FND9_add hFND9 (show iv 0 80 (sg 15) from CI_s hI 15).1 hvb.1 (by have := i32_0; have := i32_1; have := i32_2; have := i32_m1; have := congrArg Int32.toInt (show sg_17 15 = z_16 from up_at esg_17); have := (hz_16).1; have := (hz_16).2; have := (hvx).1; have := (hvx).2; have := (hvb).1; have := (hvb).2; have := (hz_4).1; have := (hz_4).2; have := (h_11).1; have := (h_11).2; have := (h_14).1; have := (h_14).2; omega) (show gm_15 51 = upd (gm 51) ((sg 15) : Int32).toNatClampNeg b from ((up_at egm_15).trans (by rw [show gm_2 51 = gm 51 from ((up_ne egm_2 (by decide)).trans ((up_ne egm_1 (by decide)).trans rfl))])))) (RC_fn hRC (lt_cl hvb (show iv 0 80 (sg 12) from CI_s hI 12) (by decide) (by decide) hb12) hz1 (KS_up KS_rf esg_17 (by decide)) (KS_up (KS_up (KS_up KS_rf egm_1 (by decide)) egm_2 (by decide)) egm_15 (by decide)) (show gm_15 37 = upd (gm 37) (b : Int32).toNatClampNeg 0 from ((up_ne egm_15 (by decide)).trans ((up_ne egm_2 (by decide)).trans ((up_at egm_1).trans (by rw [show gm 37 = gm 37 from rfl]))))) rfl (show gm_15 38 = upd (gm 38) (b : Int32).toNatClampNeg 1 from ((up_ne egm_15 (by decide)).trans ((up_at egm_2).trans (by rw [show gm_1 38 = gm 38 from ((up_ne egm_1 (by decide)).trans rfl)])))) (by decide) (fun _ => ⟨by have := i32_0; have := i32_1; have := i32_2; have := i32_m1; have := congrArg Int32.toInt (show sg_17 15 = z_16 from up_at esg_17); have := (hz_16).1; have := (hz_16).2; have := (hvx).1; have := (hvx).2; have := (hvb).1; have := (hvb).2; have := (hz_4).1; have := (hz_4).2; have := (h_11).1; have := (h_11).2; have := (h_14).1; have := (h_14).2; omega, (sg 15).toNatClampNeg, b, cln9 (show iv 0 80 (sg 15) from CI_s hI 15).1, (cln9 hvb.1).symm, (show gm_15 51 = upd (gm 51) ((sg 15) : Int32).toNatClampNeg b from ((up_at egm_15).trans (by rw [show gm_2 51 = gm 51 from ((up_ne egm_2 (by decide)).trans ((up_ne egm_1 (by decide)).trans rfl))])))⟩) (fun q9 => absurd (show ¬ lg 4 b.toNatClampNeg = 0 ∧ wg 35 b.toNatClampNeg = 0 from ⟨(fun q8 => absurd (ez_3.trans q8) (fun q9 => c_5 (by rw [ez_4]; exact (lg_cmp_eq _ _).mpr q9))), (by rw [(swt9 hSW ez_8 rfl)]; exact Int32.toInt_inj.mp (by have := i32_0; have := i32_0; have := i32_1; have := i32_2; have := i32_m1; have := (hvx).1; have := (hvx).2; have := (hvb).1; have := (hvb).2; have := (hz_4).1; have := (hz_4).2; have := (h_11).1; have := (h_11).2; have := (h_14).1; have := (h_14).2; have := (hz_16).1; have := (hz_16).2; omega))⟩) q9)) _ _ _ hP hD hS (lv_sub hl [0, 1] rfl)

set_option maxHeartbeats 4000000 in
set_option maxRecDepth 100000 in
theorem d_nameBehindAlias9 (l : Launch) (dC : Nat → ClassId) (dI : Nat → Nat → Nat) (ad : Nat → Nat → Nat) (cid : Nat → ClassId) (a2 : Nat → Nat) (lx : List Nat) (sg : Nat → Int32) (gm : Nat → Nat → Int32) (lg : Nat → Nat → Int64) (x : Int32) (to : Int64) (wg : Nat → Nat → Int32) (ws : Nat → Int32) (hI : CI sg gm) (hvx : iv 0 0 x) (hSW : st9 gm = wg) (hSS : ss9 sg = ws) : CMt dC dI ad cid a2 lx l yX10_nameBehindAlias wm_X10_nameBehindAlias ({ frames := 1, cells := 1, slots := 6, locals := 21 }) [eV (ad 4) x, .long to] sg gm lg (fun v u => ∃ r : Int64, v = some (.long r) ∧ u = (sg, gm, lg) ∧ (r = alN ws wg lg to)) (fun _ _ => False) := by
  intro sz
  refine vx_ofW (cc := cX10_nameBehindAlias) (maxL := 5) (ret := (some .long)) (by decide) rfl ?_
  intro p e s m args below meth c s₁ B hml hxt hv
  obtain ⟨rfl, hsz, hP, hK, hD0, hG⟩ := hv
  have hx := B.exec
  have hb := B.bytes
  have hr := B.returns
  have hts := atoms_spec (ws := wm_X10_nameBehindAlias) B.pre
  have htb := fun (w : Cond) (h : w ∈ tb) => hts w (List.mem_cons_of_mem _ h)
  have hown : s.vm.findClass RX10 = some m.cls := findClass_of_methodNamed B.named
  have hlocks := B.notSynchronized
  subst hsz
  have hD := hD0.self (sz := s.heap.size)
  generalize hAe : va_A (cW ad cid a2 lx sg gm lg) s.heap.size = A at hD hG ⊢
  have hA : ∀ q : Nat, s.heap.size ≤ q → A q := fun q h => by rw [← hAe]; exact Or.inr h
  have hS : va_S A s.heap s.heap [] := va_S.rf
  have hl := lv_entry ([eV (ad 4) x, .long to]) (n := 5) (by rw [show (lg_sl ([eV (ad 4) x, .long to])).length = 3 from by simp [lg_sl, eV_cat, cat_i, cat_l]]; exact Nat.le_of_ble_eq_true rfl)
  rw [lg_entry_eq]
  generalize (lg_sl ([eV (ad 4) x, .long to]) ++ List.replicate (5 - (lg_sl ([eV (ad 4) x, .long to])).length) Slot.unset).toArray = ls at hl ⊢
  have hl : lv_has ls 5 [(0, eV (ad 4) x), (1, .long to)] := by simp [lv_args, eV_cat, cat_i, cat_l] at hl; exact hl
  have hj2 : ∀ (n : Nat) (x3_2 : Int32) (_ : (80 - x3_2.toInt).toNat = n) (_ : iv 0 80 x3_2) (_ : iv 0 0 x) (_ : alN ws wg lg to = alF wg lg to ((ws 4).toNatClampNeg - x3_2.toNatClampNeg) x3_2.toNatClampNeg) (H : Heap) (locs : List Loc) (ls : Array Slot), va_P (dC, dI) vwCl (cW ad cid a2 lx sg gm lg) H → va_D A (cW ad cid a2 lx sg gm lg) → va_S A s.heap H locs → lv_has ls 5 [(3, .int x3_2), (0, eV (ad 4) x), (1, .long to)] → W p l e (headSpec wm_X10_nameBehindAlias ({ frames := 1, cells := 1, slots := 6, locals := 21 })).room s m ([eV (ad 4) x, .long to] : List Value).toArray below meth c H locs 0 0 (vx_MQ below (cQx dC dI ad cid a2 lx (fun v u => ∃ r : Int64, v = some (.long r) ∧ u = (sg, gm, lg) ∧ (r = alN ws wg lg to)) A) (cX dC dI ad cid a2 lx (fun _ _ => False) A) ([eV (ad 4) x, .long to] : List Value).toArray s 1 6 A) (F0 m 2 ls []) := by
    intro n
    induction n using Nat.strongRecOn with
    | ind n ih2 =>
      intro x3_2 hn2 hx3_2 hsx0_2 hal H locs ls hP hD hS hl
      have hj50 : ∀ (x4_50 : Int32) (_ : iv 0 79 x4_50) (_ : iv 0 79 x3_2) (_ : iv 0 0 x) (_ : ¬ ((wg 14 x3_2.toNatClampNeg).toInt = 1 ∧ lg 1 x3_2.toNatClampNeg = to)) (_ : alN ws wg lg to = alF wg lg to ((ws 4).toNatClampNeg - x3_2.toNatClampNeg) x3_2.toNatClampNeg) (_ : x3_2.toInt < (ws 4).toInt) (H : Heap) (locs : List Loc) (ls : Array Slot), va_P (dC, dI) vwCl (cW ad cid a2 lx sg gm lg) H → va_D A (cW ad cid a2 lx sg gm lg) → va_S A s.heap H locs → lv_has ls 5 [(4, eV (ad 9) x4_50), (3, .int x3_2), (0, eV (ad 4) x), (1, .long to)] → W p l e (headSpec wm_X10_nameBehindAlias ({ frames := 1, cells := 1, slots := 6, locals := 21 })).room s m ([eV (ad 4) x, .long to] : List Value).toArray below meth c H locs 0 0 (vx_MQ below (cQx dC dI ad cid a2 lx (fun v u => ∃ r : Int64, v = some (.long r) ∧ u = (sg, gm, lg) ∧ (r = alN ws wg lg to)) A) (cX dC dI ad cid a2 lx (fun _ _ => False) A) ([eV (ad 4) x, .long to] : List Value).toArray s 1 6 A) (F0 m 50 ls []) := by
        intro x4_50 hx4_50 hsx3_50 hsx0_50 u50 hal50 h50 H locs ls hP hD hS hl
        obtain ⟨z_1, ez_1⟩ : ∃ z : Int32, z = x3_2 + 1 := ⟨_, rfl⟩
        have hz_1 : iv 1 80 z_1 := iv_of ez_1 (iv_add hsx3_50 (iv_k (by decide) : iv 1 1 1) (by decide))
        have tz_1 : z_1.toInt = x3_2.toInt + 1 := by rw [ez_1]; exact iv_addE hsx3_50 (iv_k (by decide) : iv 1 1 1) (by decide)
        refine lv_iinc (v := z_1) (lv' := [(3, .int z_1), (4, eV (ad 9) x4_50), (0, eV (ad 4) x), (1, .long to)]) hx hb dX10_nameBehindAlias_50 hl (k := 1) rfl ez_1.symm (by decide) rfl (fun ls hl => ?_)
        refine lv_goto (tgt := 2) hx hb dX10_nameBehindAlias_53 (by decide) ?_
        exact ih2 _ (by rw [← hn2]; exact (iv_meas tz_1 hsx3_50 (by decide))) z_1 rfl (iv_w hz_1 (by decide)) hsx0_50 ((by have q9 := hal50; rw [show (ws 4).toNatClampNeg - x3_2.toNatClampNeg = ((ws 4).toNatClampNeg - z_1.toNatClampNeg) + 1 from (by have q2 := h50; have k4 : (ws 4).toNatClampNeg = (ws 4).toInt.toNat := rfl; have q1 : z_1.toNatClampNeg = z_1.toInt.toNat := rfl; have q1 : x3_2.toNatClampNeg = x3_2.toInt.toNat := rfl; have := i32_0; have := i32_1; have := i32_2; have := i32_m1; have := (hsx0_50).1; have := (hsx0_50).2; have := (hsx3_50).1; have := (hsx3_50).2; have := (hx4_50).1; have := (hx4_50).2; have := (hz_1).1; have := (hz_1).2; omega), alF_s u50] at q9; rw [show z_1.toNatClampNeg = x3_2.toNatClampNeg + 1 from (by have q1 : z_1.toNatClampNeg = z_1.toInt.toNat := rfl; have q1 : x3_2.toNatClampNeg = x3_2.toInt.toNat := rfl; have := i32_0; have := i32_1; have := i32_2; have := i32_m1; have := (hsx0_50).1; have := (hsx0_50).2; have := (hsx3_50).1; have := (hsx3_50).2; have := (hx4_50).1; have := (hx4_50).2; have := (hz_1).1; have := (hz_1).2; omega)]; rw [show z_1.toNatClampNeg = x3_2.toNatClampNeg + 1 from (by have q1 : z_1.toNatClampNeg = z_1.toInt.toNat := rfl; have q1 : x3_2.toNatClampNeg = x3_2.toInt.toNat := rfl; have := i32_0; have := i32_1; have := i32_2; have := i32_m1; have := (hsx0_50).1; have := (hsx0_50).2; have := (hsx3_50).1; have := (hsx3_50).2; have := (hx4_50).1; have := (hx4_50).2; have := (hz_1).1; have := (hz_1).2; omega)] at q9; exact q9)) _ _ _ hP hD hS (lv_sub hl [0, 2, 3] rfl)
      refine lv_iload_n hx hb dX10_nameBehindAlias_2 rfl (lv_at hl 0 rfl) ?_
      refine ec_aload_n hx hb dX10_nameBehindAlias_3 rfl (lv_at hl 1 rfl) ?_
      refine cr_get (t := 4) (j := 0) (C := RX10) (T := TX10) (N := 4) (v := eV (ad 1) 0) hx hb htb inX10 hown hK hP hsx0_2 (by decide) (by decide) (by decide) rfl (by decide) (htb _ kw_86) (cV_c rfl (by decide) (by rw [show cMu 4 0 = 0 from rfl, Nat.zero_mul]; rfl)) dX10_nameBehindAlias_4 ?_
      refine cm_callV (t := 1) (C := RX6) (T := TX6) (N := 8) (rest := [.int x3_2]) (as := []) ⟨hx, hb, hml, hown, htb⟩ (d_countPa l dC dI ad cid a2 lx sg gm lg 0 hI (iv_k (by decide) : iv 0 0 0)) (cwV 0 htb (gd_V kw_625 kw_500 kw_501 kw_20 kw_1457) rfl rfl rfl (by decide +kernel) ⟨Nat.le_of_ble_eq_true rfl, Nat.le_of_ble_eq_true rfl⟩) (iv_k (by decide) : iv 0 0 0) (by decide) (by decide) rfl rfl hl.1 rfl (Nat.le_trans (cs_c (cat_i _) cs_n) (by decide)) dX10_nameBehindAlias_7 ⟨Nat.le_of_ble_eq_true rfl, Nat.le_of_ble_eq_true rfl⟩ hK hP hD hS hA hG (fun E ce q9 u_3 H locs hw hP hD hS hce hcv hcl => ?_) (fun v9 u_3 H locs hw hP hD hS => ?_)
      · exact hw.elim
      obtain ⟨r_2, rfl, rfl, hr_2, fr_r_2⟩ := hw
      have hP : va_P (dC, dI) vwCl (cW ad cid a2 lx sg gm lg) H := hP
      have hD : va_D A (cW ad cid a2 lx sg gm lg) := hD
      refine W.eq (g2 := F0 m 10 ls [.int r_2, .int x3_2]) rfl ?_
      refine lv_icmp_ge (tgt := 56) hx hb dX10_nameBehindAlias_10 (by decide) (fun c_5 => ?_) (fun c_5 => ?_)
      · have d_6 : (r_2 : Int32).toInt ≤ (x3_2 : Int32).toInt := Int32.le_iff_toInt_le.mp c_5
        refine lv_lconst (v := 0) hx hb dX10_nameBehindAlias_56 (by decide) ?_
        exact W.nb (fun hN => W.widen (k := 1) (n := 6) (by decide) (by decide) (vx_ret (W.lret (v := 0) hx hb hr (fun t ht hW => ⟨⟨some (.long 0), (sg, gm, lg), rfl, ⟨0, rfl, rfl, ((by have q9 := hal; rw [show (ws 4).toNatClampNeg - x3_2.toNatClampNeg = 0 from (by have q3 := congrArg Int32.toInt fr_r_2; have q2 := congrArg Int32.toInt (ss9_4 hSS); have k4 : (ws 4).toNatClampNeg = (ws 4).toInt.toNat := rfl; have q1 : x3_2.toNatClampNeg = x3_2.toInt.toNat := rfl; have := i32_0; have := i32_1; have := i32_2; have := i32_m1; have := (hsx0_2).1; have := (hsx0_2).2; have := (hx3_2).1; have := (hx3_2).2; have := (hr_2).1; have := (hr_2).2; omega)] at q9; exact q9.symm))⟩, by rw [ht]; exact hP, va_K.moved hW.alike hK, hD⟩, hS.F ht, by rw [ht]; exact hN⟩) hS.2.2 dX10_nameBehindAlias_57)))
      · have d_7 : (x3_2 : Int32).toInt < (r_2 : Int32).toInt := Int32.lt_iff_toInt_lt.mp (i32_lt c_5)
        have h_8 : iv 0 79 x3_2 := iv_ltL (i32_lt c_5) hx3_2 hr_2 (by decide)
        have h_9 : iv 1 80 r_2 := iv_ltR (i32_lt c_5) hx3_2 hr_2 (by decide)
        refine ec_aload_n hx hb dX10_nameBehindAlias_13 rfl (lv_at hl 1 rfl) ?_
        refine cr_get (t := 4) (j := 0) (C := RX10) (T := TX10) (N := 4) (v := eV (ad 1) 0) hx hb htb inX10 hown hK hP hsx0_2 (by decide) (by decide) (by decide) rfl (by decide) (htb _ kw_86) (cV_c rfl (by decide) (by rw [show cMu 4 0 = 0 from rfl, Nat.zero_mul]; rfl)) dX10_nameBehindAlias_14 ?_
        refine lv_iload_n hx hb dX10_nameBehindAlias_17 rfl (lv_at hl 0 rfl) ?_
        refine cm_callV (t := 1) (C := RX6) (T := TX6) (N := 8) (rest := []) (as := [.int x3_2]) ⟨hx, hb, hml, hown, htb⟩ (d_element l dC dI ad cid a2 lx sg gm lg 0 x3_2 hI (iv_k (by decide) : iv 0 0 0) h_8) (cwV 1 htb (gd_V kw_626 kw_503 kw_504 kw_20 kw_1458) rfl rfl rfl (by decide +kernel) ⟨Nat.le_of_ble_eq_true rfl, Nat.le_of_ble_eq_true rfl⟩) (iv_k (by decide) : iv 0 0 0) (by decide) (by decide) rfl rfl hl.1 rfl (Nat.le_trans cs_n (by decide)) dX10_nameBehindAlias_18 ⟨Nat.le_of_ble_eq_true rfl, Nat.le_of_ble_eq_true rfl⟩ hK hP hD hS hA hG (fun E ce q9 u_11 H locs hw hP hD hS hce hcv hcl => ?_) (fun v9 u_11 H locs hw hP hD hS => ?_)
        · exact hw.elim
        obtain ⟨r_10, rfl, rfl, hr_10, fr_r_10⟩ := hw
        have hP : va_P (dC, dI) vwCl (cW ad cid a2 lx sg gm lg) H := hP
        have hD : va_D A (cW ad cid a2 lx sg gm lg) := hD
        refine W.eq (g2 := F0 m 21 ls [eV (ad 9) r_10]) rfl ?_
        refine ec_astore (i := 4) (lv' := [(4, eV (ad 9) r_10), (3, .int x3_2), (0, eV (ad 4) x), (1, .long to)]) hx hb dX10_nameBehindAlias_21 hl (by decide) rfl (fun ls hl => ?_)
        refine ec_aload hx hb dX10_nameBehindAlias_23 (lv_at hl 0 rfl) ?_
        refine cr_get (t := 9) (j := 4) (C := RX3) (T := TX3) (N := 21) (v := eV (ad 33) (gm 14 r_10.toNatClampNeg)) hx hb htb inX3 hown hK hP hr_10 (by decide) (by decide) (by decide) rfl (by decide) (htb _ kw_630) rfl dX10_nameBehindAlias_25 ?_
        obtain ⟨z_13, ez_13⟩ : ∃ z : Int32, z = (gm 14 r_10.toNatClampNeg) := ⟨_, rfl⟩
        refine W.eq (g2 := F0 m 28 ls [eV (ad 33) z_13]) (by rw [ez_13]) ?_
        have hz_13 : iv (-1) 33 z_13 := iv_of ez_13 (CI_a hI 14 hr_10 (by decide))
        refine cw_word (k := 1) (kx := 1) hx hb hG hS (by decide) rfl ⟨by decide, by decide⟩ hown (htb _ kw_1014) dX10_nameBehindAlias_28 ?_
        refine ec_acmp_ne (tgt := 50) hx hb dX10_nameBehindAlias_31 (by decide) (fun c_14 => ?_) (fun c_14 => ?_)
        · have wc_14 : ¬ z_13.toInt = (1 : Int) := fun q9 => c_14 (congrArg (er (ad 33)) (Int32.toInt_inj.mp q9))
          exact hj50 r_10 hr_10 h_8 hsx0_2 ((fun q9 => wc_14 (by have q8 := q9.1; rw [show wg 14 x3_2.toNatClampNeg = z_13 from (by rw [← fr_r_10]; exact (swt9 hSW ez_13 rfl))] at q8; exact q8))) (hal) ((by have q3 := congrArg Int32.toInt fr_r_2; have q2 := congrArg Int32.toInt (ss9_4 hSS); have k4 : (ws 4).toNatClampNeg = (ws 4).toInt.toNat := rfl; have := i32_0; have := i32_1; have := i32_2; have := i32_m1; have := (hsx0_2).1; have := (hsx0_2).2; have := (h_8).1; have := (h_8).2; have := (h_9).1; have := (h_9).2; have := (hr_10).1; have := (hr_10).2; have := (hz_13).1; have := (hz_13).2; omega)) _ _ _ hP hD hS (lv_sub hl [0, 1, 2, 3] rfl)
        · have wc_14 : z_13.toInt = (1 : Int) := er_wd hG hz_13 (iv_w (iv_k (by decide) : iv 1 1 1) (by decide)) c_14
          refine ec_aload hx hb dX10_nameBehindAlias_34 (lv_at hl 0 rfl) ?_
          refine cr_get (t := 9) (j := 11) (C := RX3) (T := TX3) (N := 21) (v := .long (lg 1 r_10.toNatClampNeg)) hx hb htb inX3 hown hK hP hr_10 (by decide) (by decide) (by decide) rfl (by decide) (htb _ kw_634) rfl dX10_nameBehindAlias_36 ?_
          refine lv_topl (fun z_15 ez_15 => ?_)
          refine lv_lload_n hx hb dX10_nameBehindAlias_39 rfl (lv_at hl 3 rfl) ?_
          refine W.lcmp hx hb dX10_nameBehindAlias_40 ?_
          refine lv_topi (fun z_16 ez_16 => ?_)
          have hz_16 : iv (-1) 1 z_16 := iv_of ez_16 (iv_cmp _ _)
          refine lv_if_ne (tgt := 50) hx hb dX10_nameBehindAlias_41 (by decide) (fun c_17 => ?_) (fun c_17 => ?_)
          · have d_18 : ¬ (z_16 : Int32).toInt = 0 := lv_neT c_17 rfl
            exact hj50 r_10 hr_10 h_8 hsx0_2 ((fun q9 => c_17 (by rw [ez_16]; exact (lg_cmp_eq _ _).mpr (by rw [ez_15, fr_r_10]; exact q9.2)))) (hal) ((by have q3 := congrArg Int32.toInt fr_r_2; have q2 := congrArg Int32.toInt (ss9_4 hSS); have k4 : (ws 4).toNatClampNeg = (ws 4).toInt.toNat := rfl; have := i32_0; have := i32_1; have := i32_2; have := i32_m1; have := (hsx0_2).1; have := (hsx0_2).2; have := (h_8).1; have := (h_8).2; have := (h_9).1; have := (h_9).2; have := (hr_10).1; have := (hr_10).2; have := (hz_13).1; have := (hz_13).2; have := (hz_16).1; have := (hz_16).2; omega)) _ _ _ hP hD hS (lv_sub hl [0, 1, 2, 3] rfl)
          · have h_19 : iv 0 0 z_16 := iv_eq c_17 hz_16 (iv_k (by decide) : iv 0 0 0) (by decide)
            refine ec_aload hx hb dX10_nameBehindAlias_44 (lv_at hl 0 rfl) ?_
            refine cr_get (t := 9) (j := 12) (C := RX3) (T := TX3) (N := 21) (v := .long (lg 2 r_10.toNatClampNeg)) hx hb htb inX3 hown hK hP hr_10 (by decide) (by decide) (by decide) rfl (by decide) (htb _ kw_636) rfl dX10_nameBehindAlias_46 ?_
            refine lv_topl (fun z_20 ez_20 => ?_)
            exact W.nb (fun hN => W.widen (k := 1) (n := 6) (by decide) (by decide) (vx_ret (W.lret (v := z_20) hx hb hr (fun t ht hW => ⟨⟨some (.long z_20), (sg, gm, lg), rfl, ⟨z_20, rfl, rfl, ((by have q9 := hal; rw [alF_h (by have q3 := congrArg Int32.toInt fr_r_2; have q2 := congrArg Int32.toInt (ss9_4 hSS); have k4 : (ws 4).toNatClampNeg = (ws 4).toInt.toNat := rfl; have q1 : x3_2.toNatClampNeg = x3_2.toInt.toNat := rfl; have := i32_0; have := i32_1; have := i32_2; have := i32_m1; have := (hsx0_2).1; have := (hsx0_2).2; have := (h_8).1; have := (h_8).2; have := (h_9).1; have := (h_9).2; have := (hr_10).1; have := (hr_10).2; have := (hz_13).1; have := (hz_13).2; have := (h_19).1; have := (h_19).2; omega) ⟨(by rw [show wg 14 x3_2.toNatClampNeg = z_13 from (by rw [← fr_r_10]; exact (swt9 hSW ez_13 rfl))]; exact wc_14), (by have q8 := c_17; rw [ez_16] at q8; have q7 := (lg_cmp_eq _ _).mp q8; rw [ez_15, fr_r_10] at q7; exact q7)⟩] at q9; rw [q9, ez_20, fr_r_10]))⟩, by rw [ht]; exact hP, va_K.moved hW.alike hK, hD⟩, hS.F ht, by rw [ht]; exact hN⟩) hS.2.2 dX10_nameBehindAlias_49)))
  refine lv_iconst (v := 0) hx hb dX10_nameBehindAlias_0 (by decide) ?_
  refine lv_istore_n (i := 3) (lv' := [(3, .int 0), (0, eV (ad 4) x), (1, .long to)]) hx hb dX10_nameBehindAlias_1 rfl hl (by decide) rfl (fun ls hl => ?_)
  exact hj2 _ 0 rfl (iv_w (iv_k (by decide) : iv 0 0 0) (by decide)) hvx (rfl) _ _ _ hP hD hS (lv_sub hl [0, 1, 2] rfl)
end
section
set_option maxHeartbeats 4000000 in
set_option maxRecDepth 100000 in
theorem d_called9 (l : Launch) (dC : Nat → ClassId) (dI : Nat → Nat → Nat) (ad : Nat → Nat → Nat) (cid : Nat → ClassId) (a2 : Nat → Nat) (lx : List Nat) (sg : Nat → Int32) (gm : Nat → Nat → Int32) (lg : Nat → Nat → Int64) (x : Int32) (nm : Int64) (wg : Nat → Nat → Int32) (ws : Nat → Int32) (hI : CI sg gm) (hvx : iv 0 0 x) (hSW : st9 gm = wg) (hSS : ss9 sg = ws) : CMt dC dI ad cid a2 lx l yX10_called wm_X10_called ({ frames := 2, cells := 1, slots := 6, locals := 45 }) [eV (ad 4) x, .long nm] sg gm lg (fun v u => ∃ r : Int32, v = some (eV (ad 10) r) ∧ u = (sg, gm, lg) ∧ (iv (-1) 79 r) ∧ (r.toInt = -1 ∨ (r.toInt < (sg 12).toInt ∧ ¬ lg 4 r.toNatClampNeg = 0)) ∧ (r.toInt = caN ws wg lg nm)) (fun _ _ => False) := by
  intro sz
  refine vx_ofW (cc := cX10_called) (maxL := 7) (ret := (some (.object "WiredBeans$Bean"))) (by decide) rfl ?_
  intro p e s m args below meth c s₁ B hml hxt hv
  obtain ⟨rfl, hsz, hP, hK, hD0, hG⟩ := hv
  have hx := B.exec
  have hb := B.bytes
  have hr := B.returns
  have hts := atoms_spec (ws := wm_X10_called) B.pre
  have htb := fun (w : Cond) (h : w ∈ tb) => hts w (List.mem_cons_of_mem _ h)
  have hown : s.vm.findClass RX10 = some m.cls := findClass_of_methodNamed B.named
  have hlocks := B.notSynchronized
  subst hsz
  have hD := hD0.self (sz := s.heap.size)
  generalize hAe : va_A (cW ad cid a2 lx sg gm lg) s.heap.size = A at hD hG ⊢
  have hA : ∀ q : Nat, s.heap.size ≤ q → A q := fun q h => by rw [← hAe]; exact Or.inr h
  have hS : va_S A s.heap s.heap [] := va_S.rf
  have hl := lv_entry ([eV (ad 4) x, .long nm]) (n := 7) (by rw [show (lg_sl ([eV (ad 4) x, .long nm])).length = 3 from by simp [lg_sl, eV_cat, cat_i, cat_l]]; exact Nat.le_of_ble_eq_true rfl)
  rw [lg_entry_eq]
  generalize (lg_sl ([eV (ad 4) x, .long nm]) ++ List.replicate (7 - (lg_sl ([eV (ad 4) x, .long nm])).length) Slot.unset).toArray = ls at hl ⊢
  have hl : lv_has ls 7 [(0, eV (ad 4) x), (1, .long nm)] := by simp [lv_args, eV_cat, cat_i, cat_l] at hl; exact hl
  have hj45 : ∀ (x5_45 : Int32) (x3_45 : Int64) (_ : iv 0 21 x5_45) (_ : iv 0 0 x) (_ : caF ws wg lg 21 nm = -1) (H : Heap) (locs : List Loc) (ls : Array Slot), va_P (dC, dI) vwCl (cW ad cid a2 lx sg gm lg) H → va_D A (cW ad cid a2 lx sg gm lg) → va_S A s.heap H locs → lv_has ls 7 [(5, .int x5_45), (3, .long x3_45), (0, eV (ad 4) x), (1, .long nm)] → W p l e (headSpec wm_X10_called ({ frames := 2, cells := 1, slots := 6, locals := 45 })).room s m ([eV (ad 4) x, .long nm] : List Value).toArray below meth c H locs 0 0 (vx_MQ below (cQx dC dI ad cid a2 lx (fun v u => ∃ r : Int32, v = some (eV (ad 10) r) ∧ u = (sg, gm, lg) ∧ (iv (-1) 79 r) ∧ (r.toInt = -1 ∨ (r.toInt < (sg 12).toInt ∧ ¬ lg 4 r.toNatClampNeg = 0)) ∧ (r.toInt = caN ws wg lg nm)) A) (cX dC dI ad cid a2 lx (fun _ _ => False) A) ([eV (ad 4) x, .long nm] : List Value).toArray s 1 6 A) (F0 m 45 ls []) := by
    intro x5_45 x3_45 hx5_45 hsx0_45 u45 H locs ls hP hD hS hl
    refine ec_null (a := ad 10) hx hb dX10_called_45 ?_
    exact W.nb (fun hN => W.widen (k := 1) (n := 6) (by decide) (by decide) (vx_ret (W.aret (v := eV (ad 10) (-1)) hx hb hr (Or.inl ⟨_, rfl⟩) (eV_is _ _) (fun t ht hW => ⟨⟨some (eV (ad 10) (-1)), (sg, gm, lg), rfl, ⟨(-1), rfl, rfl, (iv_w (iv_k (by decide) : iv (-1) (-1) (-1)) (by decide)), (Or.inl rfl), ((by show _ = (caF ws wg lg 21 nm).toInt; rw [u45]))⟩, by rw [ht]; exact hP, va_K.moved hW.alike hK, hD⟩, hS.F ht, by rw [ht]; exact hN⟩) hS.2.2 dX10_called_46)))
  have hj5 : ∀ (n : Nat) (x5_5 : Int32) (x3_5 : Int64) (_ : (21 - x5_5.toInt).toNat = n) (_ : iv 0 21 x5_5) (_ : iv 0 0 x) (_ : caF ws wg lg 21 nm = caF ws wg lg (21 - x5_5.toNatClampNeg) x3_5) (H : Heap) (locs : List Loc) (ls : Array Slot), va_P (dC, dI) vwCl (cW ad cid a2 lx sg gm lg) H → va_D A (cW ad cid a2 lx sg gm lg) → va_S A s.heap H locs → lv_has ls 7 [(5, .int x5_5), (3, .long x3_5), (0, eV (ad 4) x), (1, .long nm)] → W p l e (headSpec wm_X10_called ({ frames := 2, cells := 1, slots := 6, locals := 45 })).room s m ([eV (ad 4) x, .long nm] : List Value).toArray below meth c H locs 0 0 (vx_MQ below (cQx dC dI ad cid a2 lx (fun v u => ∃ r : Int32, v = some (eV (ad 10) r) ∧ u = (sg, gm, lg) ∧ (iv (-1) 79 r) ∧ (r.toInt = -1 ∨ (r.toInt < (sg 12).toInt ∧ ¬ lg 4 r.toNatClampNeg = 0)) ∧ (r.toInt = caN ws wg lg nm)) A) (cX dC dI ad cid a2 lx (fun _ _ => False) A) ([eV (ad 4) x, .long nm] : List Value).toArray s 1 6 A) (F0 m 5 ls []) := by
    intro n
    induction n using Nat.strongRecOn with
    | ind n ih5 =>
      intro x5_5 x3_5 hn5 hx5_5 hsx0_5 hca H locs ls hP hD hS hl
      refine lv_iload hx hb dX10_called_5 (lv_at hl 0 rfl) ?_
      refine lv_bipush (v := 20) hx hb dX10_called_7 (by decide) ?_
      refine lv_icmp_gt (tgt := 45) hx hb dX10_called_9 (by decide) (fun c_1 => ?_) (fun c_1 => ?_)
      · have h_2 : iv 21 21 x5_5 := iv_ltR c_1 (iv_k (by decide) : iv 20 20 20) hx5_5 (by decide)
        exact hj45 x5_5 x3_5 (iv_w h_2 (by decide)) hsx0_5 ((by rw [hca]; exact caF_z (Or.inr (by have q1 : x5_5.toNatClampNeg = x5_5.toInt.toNat := rfl; have := i32_0; have := i32_1; have := i32_2; have := i32_m1; have := (hsx0_5).1; have := (hsx0_5).2; have := (h_2).1; have := (h_2).2; omega)))) _ _ _ hP hD hS (lv_sub hl [0, 1, 2, 3] rfl)
      · have h_3 : iv 0 20 x5_5 := iv_leL (i32_ge c_1) hx5_5 (iv_k (by decide) : iv 20 20 20) (by decide)
        refine lv_lload_n hx hb dX10_called_12 rfl (lv_at hl 1 rfl) ?_
        refine lv_lconst (v := 0) hx hb dX10_called_13 (by decide) ?_
        refine W.lcmp hx hb dX10_called_14 ?_
        refine lv_topi (fun z_4 ez_4 => ?_)
        have hz_4 : iv (-1) 1 z_4 := iv_of ez_4 (iv_cmp _ _)
        refine lv_if_eq (tgt := 45) hx hb dX10_called_15 (by decide) (fun c_5 => ?_) (fun c_5 => ?_)
        · have h_6 : iv 0 0 z_4 := iv_eq c_5 hz_4 (iv_k (by decide) : iv 0 0 0) (by decide)
          exact hj45 x5_5 x3_5 (iv_w h_3 (by decide)) hsx0_5 ((by rw [hca]; exact caF_z (Or.inl ((lg_cmp_eq _ _).mp (by rw [← ez_4]; exact c_5))))) _ _ _ hP hD hS (lv_sub hl [0, 1, 2, 3] rfl)
        · have d_7 : ¬ (z_4 : Int32).toInt = 0 := lv_neT c_5 rfl
          refine ec_aload_n hx hb dX10_called_18 rfl (lv_at hl 2 rfl) ?_
          refine lv_lload_n hx hb dX10_called_19 rfl (lv_at hl 1 rfl) ?_
          refine cm_callV (t := 4) (C := RX10) (T := TX10) (N := 4) (rest := []) (as := [.long x3_5]) ⟨hx, hb, hml, hown, htb⟩ (d_withId2 l dC dI ad cid a2 lx sg gm lg x x3_5 hI hsx0_5) (cwV 1 htb (gd_V kw_716 kw_717 kw_718 kw_32 kw_1495) rfl rfl rfl (by decide +kernel) ⟨Nat.le_of_ble_eq_true rfl, Nat.le_of_ble_eq_true rfl⟩) hsx0_5 (by decide) (by decide) rfl rfl hl.1 rfl (Nat.le_trans cs_n (by decide)) dX10_called_20 ⟨Nat.le_of_ble_eq_true rfl, Nat.le_of_ble_eq_true rfl⟩ hK hP hD hS hA hG (fun E ce q9 u_9 H locs hw hP hD hS hce hcv hcl => ?_) (fun v9 u_9 H locs hw hP hD hS => ?_)
          · exact hw.elim
          obtain ⟨r_8, rfl, rfl, hr_8, fI_r_8, fD_r_8⟩ := hw
          have hP : va_P (dC, dI) vwCl (cW ad cid a2 lx sg gm lg) H := hP
          have hD : va_D A (cW ad cid a2 lx sg gm lg) := hD
          refine W.eq (g2 := F0 m 23 ls [eV (ad 10) r_8]) rfl ?_
          refine ec_astore (i := 6) (lv' := [(6, eV (ad 10) r_8), (5, .int x5_5), (3, .long x3_5), (0, eV (ad 4) x), (1, .long nm)]) hx hb dX10_called_23 hl (by decide) rfl (fun ls hl => ?_)
          refine ec_aload hx hb dX10_called_25 (lv_at hl 0 rfl) ?_
          refine ec_ifnull (tgt := 33) hx hb dX10_called_27 (by decide) (fun c_11 => ?_) (fun c_11 => ?_)
          · have h_12 : iv (-1) (-1) r_8 := ⟨(hr_8).1, by omega⟩
            refine ec_aload_n hx hb dX10_called_33 rfl (lv_at hl 3 rfl) ?_
            refine lv_lload_n hx hb dX10_called_34 rfl (lv_at hl 2 rfl) ?_
            refine cm_callV (t := 4) (C := RX10) (T := TX10) (N := 4) (rest := []) (as := [.long x3_5]) ⟨hx, hb, hml, hown, htb⟩ (d_nameBehindAlias9 l dC dI ad cid a2 lx sg gm lg x x3_5 wg ws hI hsx0_5 hSW hSS) (cwV 1 htb (gd_V kw_1011 kw_1012 kw_1013 kw_32 kw_1569) rfl rfl rfl (by decide +kernel) ⟨Nat.le_of_ble_eq_true rfl, Nat.le_of_ble_eq_true rfl⟩) hsx0_5 (by decide) (by decide) rfl rfl hl.1 rfl (Nat.le_trans cs_n (by decide)) dX10_called_35 ⟨Nat.le_of_ble_eq_true rfl, Nat.le_of_ble_eq_true rfl⟩ hK hP hD hS hA hG (fun E ce q9 u_14 H locs hw hP hD hS hce hcv hcl => ?_) (fun v9 u_14 H locs hw hP hD hS => ?_)
            · exact hw.elim
            obtain ⟨r_13, rfl, rfl, fA_r_13⟩ := hw
            have hP : va_P (dC, dI) vwCl (cW ad cid a2 lx sg gm lg) H := hP
            have hD : va_D A (cW ad cid a2 lx sg gm lg) := hD
            refine W.eq (g2 := F0 m 38 ls [.long r_13]) rfl ?_
            refine lv_lstore_n (i := 3) (lv' := [(3, .long r_13), (6, eV (ad 10) r_8), (5, .int x5_5), (0, eV (ad 4) x), (1, .long nm)]) hx hb dX10_called_38 rfl hl (by decide) rfl (fun ls hl => ?_)
            obtain ⟨z_16, ez_16⟩ : ∃ z : Int32, z = x5_5 + 1 := ⟨_, rfl⟩
            have hz_16 : iv 1 21 z_16 := iv_of ez_16 (iv_add h_3 (iv_k (by decide) : iv 1 1 1) (by decide))
            have tz_16 : z_16.toInt = x5_5.toInt + 1 := by rw [ez_16]; exact iv_addE h_3 (iv_k (by decide) : iv 1 1 1) (by decide)
            refine lv_iinc (v := z_16) (lv' := [(5, .int z_16), (3, .long r_13), (6, eV (ad 10) r_8), (0, eV (ad 4) x), (1, .long nm)]) hx hb dX10_called_39 hl (k := 2) rfl ez_16.symm (by decide) rfl (fun ls hl => ?_)
            refine lv_goto (tgt := 5) hx hb dX10_called_42 (by decide) ?_
            exact ih5 _ (by rw [← hn5]; exact (iv_meas tz_16 h_3 (by decide))) z_16 r_13 rfl (iv_w hz_16 (by decide)) hsx0_5 ((by have q9 := hca; rw [show 21 - x5_5.toNatClampNeg = (21 - z_16.toNatClampNeg) + 1 from (by have q1 : z_16.toNatClampNeg = z_16.toInt.toNat := rfl; have q1 : x5_5.toNatClampNeg = x5_5.toInt.toNat := rfl; have := i32_0; have := i32_1; have := i32_2; have := i32_m1; have := (hsx0_5).1; have := (hsx0_5).2; have := (h_3).1; have := (h_3).2; have := (hz_4).1; have := (hz_4).2; have := (h_12).1; have := (h_12).2; have := (hz_16).1; have := (hz_16).2; omega), caF_s (f := 21 - z_16.toNatClampNeg) (v := x3_5) (fun q9 => c_5 (by rw [ez_4]; exact (lg_cmp_eq _ _).mpr q9)) (by rw [cWid_w hSS, ← fD_r_8]; exact Int32.toInt_inj.mp (by have := i32_m1; have := i32_0; have := i32_1; have := i32_2; have := i32_m1; have := (hsx0_5).1; have := (hsx0_5).2; have := (h_3).1; have := (h_3).2; have := (hz_4).1; have := (hz_4).2; have := (h_12).1; have := (h_12).2; have := (hz_16).1; have := (hz_16).2; have := (h_12).2; omega)), ← fA_r_13] at q9; exact q9)) _ _ _ hP hD hS (lv_sub hl [0, 1, 3, 4] rfl)
          · have h_17 : iv 0 79 r_8 := ⟨c_11, (hr_8).2⟩
            refine ec_aload hx hb dX10_called_30 (lv_at hl 0 rfl) ?_
            exact W.nb (fun hN => W.widen (k := 1) (n := 6) (by decide) (by decide) (vx_ret (W.aret (v := eV (ad 10) r_8) hx hb hr (Or.inl ⟨_, rfl⟩) (eV_is _ _) (fun t ht hW => ⟨⟨some (eV (ad 10) r_8), (sg, gm, lg), rfl, ⟨r_8, rfl, rfl, (iv_w h_17 (by decide)), (fI_r_8), ((by show _ = (caF ws wg lg 21 nm).toInt; rw [hca, caF_y (by have q1 : x5_5.toNatClampNeg = x5_5.toInt.toNat := rfl; have := i32_0; have := i32_1; have := i32_2; have := i32_m1; have := (hsx0_5).1; have := (hsx0_5).2; have := (h_3).1; have := (h_3).2; have := (hz_4).1; have := (hz_4).2; have := (h_17).1; have := (h_17).2; omega) (fun q9 => c_5 (by rw [ez_4]; exact (lg_cmp_eq _ _).mpr q9)) (by rw [cWid_w hSS, ← fD_r_8]; intro q8; have := congrArg Int32.toInt q8; have := i32_m1; have := i32_0; have := i32_1; have := i32_2; have := i32_m1; have := (hsx0_5).1; have := (hsx0_5).2; have := (h_3).1; have := (h_3).2; have := (hz_4).1; have := (hz_4).2; have := (h_17).1; have := (h_17).2; have := (h_17).1; omega), cWid_w hSS, ← fD_r_8]))⟩, by rw [ht]; exact hP, va_K.moved hW.alike hK, hD⟩, hS.F ht, by rw [ht]; exact hN⟩) hS.2.2 dX10_called_32)))
  refine lv_lload_n hx hb dX10_called_0 rfl (lv_at hl 1 rfl) ?_
  refine lv_lstore_n (i := 3) (lv' := [(3, .long nm), (0, eV (ad 4) x), (1, .long nm)]) hx hb dX10_called_1 rfl hl (by decide) rfl (fun ls hl => ?_)
  refine lv_iconst (v := 0) hx hb dX10_called_2 (by decide) ?_
  refine lv_istore (i := 5) (lv' := [(5, .int 0), (3, .long nm), (0, eV (ad 4) x), (1, .long nm)]) hx hb dX10_called_3 hl (by decide) rfl (fun ls hl => ?_)
  exact hj5 _ 0 nm rfl (iv_w (iv_k (by decide) : iv 0 0 0) (by decide)) hvx (rfl) _ _ _ hP hD hS (lv_sub hl [0, 1, 2, 3] rfl)
end
section
/-- what the document promises of the rows -/
def SV (ws : Nat → Int32) (wg : Nat → Nat → Int32) (wl : Nat → Nat → Int64) : Prop := (∀ c, c < (ws 4).toNatClampNeg → (wg 25 c).toInt = 6 → (wg 18 c).toInt = ((itC wg c).length : Int)) ∧ ∀ b, b < (ws 12).toNatClampNeg → (wg 41 (3 * b)).toInt ≤ 4 ∧ (¬ wl 4 b = 0 → caN ws wg wl (wl 4 b) = (b : Int))
theorem itL_le {wg : Nat → Nat → Int32} : ∀ f x, (itL wg f x).length ≤ f := by
  intro f
  induction f with
  | zero => intro x; exact Nat.le_refl _
  | succ f ih =>
    intro x
    show (if x < 0 then [] else x.toNat :: itL wg f (wg 17 x.toNat).toInt).length ≤ f + 1
    split
    · exact Nat.zero_le _
    · have := ih (wg 17 x.toNat).toInt
      show (itL wg f (wg 17 x.toNat).toInt).length + 1 ≤ f + 1
      omega
theorem itL_n {wg : Nat → Nat → Int32} {f : Nat} {x : Int} (h : x < 0 ∨ f = 0) : itL wg f x = [] := by
  cases f with
  | zero => rfl
  | succ f => show (if x < 0 then [] else _) = []; rw [if_pos (by rcases h with h | h; exact h; omega)]
theorem itL_c {wg : Nat → Nat → Int32} {f : Nat} {x : Int} (h : 0 ≤ x) : itL wg (f + 1) x = x.toNat :: itL wg f (wg 17 x.toNat).toInt := by
  show (if x < 0 then [] else _) = _; rw [if_neg (by omega)]
section RE9
variable {ws : Nat → Int32} {wg : Nat → Nat → Int32} {wl : Nat → Nat → Int64} {mk : Nat → S9 → Option Int × S9}
theorem oGet_n {t : Int} {S : S9} (h : t < 0) : oGet wg mk t S = (none, S) := by unfold oGet; rw [if_pos h]
theorem oGet_a {t : Int} {S : S9} (h : 0 ≤ t) (ha : ¬ wg 34 t.toNat = 0) : oGet wg mk t S = (none, S) := by unfold oGet; rw [if_neg (by omega), if_pos ha]
theorem oGet_h {t : Int} {S : S9} (h : 0 ≤ t) (ha : wg 34 t.toNat = 0) (h1 : wg 35 t.toNat = 0) (h2 : zS S t.toNat = 2 ∨ (zS S t.toNat = 1 ∧ ¬ zW S t.toNat = -1)) : oGet wg mk t S = (some (zW S t.toNat), S) := by
  unfold oGet; rw [if_neg (by omega), if_neg (fun q => q ha), if_pos ⟨h1, h2⟩]
theorem oGet_m {t : Int} {S : S9} (h : 0 ≤ t) (ha : wg 34 t.toNat = 0) (h1 : ¬ (wg 35 t.toNat = 0 ∧ (zS S t.toNat = 2 ∨ (zS S t.toNat = 1 ∧ ¬ zW S t.toNat = -1)))) : oGet wg mk t S = mk t.toNat S := by
  unfold oGet; rw [if_neg (by omega), if_neg (fun q => q ha), if_neg h1]
theorem oObj_n {e : Nat} {S : S9} (h : (wg 27 e).toInt < 0) : oObj ws wg wl mk e S = oGet wg mk (caN ws wg wl (wl 2 e)) S := by unfold oObj; rw [if_pos h]
theorem oObj_b {e : Nat} {S : S9} (h : 0 ≤ (wg 27 e).toInt) : oObj ws wg wl mk e S = mk (wg 27 e).toInt.toNat S := by unfold oObj; rw [if_neg (by omega)]
theorem oItm_7 {e : Nat} {S : S9} (h : (wg 25 e).toInt = 7) : oItm ws wg wl mk e S = (some (1000 + (wg 11 e).toInt), S) := by unfold oItm; rw [if_pos h]
theorem oItm_9 {e : Nat} {S : S9} (h : (wg 25 e).toInt = 9) : oItm ws wg wl mk e S = (some (-1), S) := by unfold oItm; rw [if_neg (by omega), if_pos h]
theorem oItm_o {e : Nat} {S S2 : S9} {o : Int} (h7 : ¬ (wg 25 e).toInt = 7) (h9 : ¬ (wg 25 e).toInt = 9) (ho : oObj ws wg wl mk e S = (some o, S2)) : oItm ws wg wl mk e S = (some (3000 + o), S2) := by unfold oItm; rw [if_neg h7, if_neg h9, ho]; rfl
theorem oItm_x {e : Nat} {S S2 : S9} (h7 : ¬ (wg 25 e).toInt = 7) (h9 : ¬ (wg 25 e).toInt = 9) (ho : oObj ws wg wl mk e S = (none, S2)) : oItm ws wg wl mk e S = (none, S2) := by unfold oItm; rw [if_neg h7, if_neg h9, ho]; rfl
theorem oCon_l {c : Nat} {S : S9} (h : (wg 25 c).toInt = 6) : oCon ws wg wl mk c S = oIts ws wg wl mk (itC wg c) [] S := by unfold oCon; rw [if_pos h]
theorem oCon_o {c : Nat} {S S2 : S9} {o : Int} (h : (wg 25 c).toInt = 8 ∨ (wg 25 c).toInt = 2) (ho : oObj ws wg wl mk c S = (some o, S2)) : oCon ws wg wl mk c S = (some [o], S2) := by unfold oCon; rw [if_neg (by omega), if_pos h, ho]; rfl
theorem oCon_x {c : Nat} {S S2 : S9} (h : (wg 25 c).toInt = 8 ∨ (wg 25 c).toInt = 2) (ho : oObj ws wg wl mk c S = (none, S2)) : oCon ws wg wl mk c S = (none, S2) := by unfold oCon; rw [if_neg (by omega), if_pos h, ho]; rfl
theorem oCon_t {c : Nat} {S : S9} (h6 : ¬ (wg 25 c).toInt = 6) (h : ¬ ((wg 25 c).toInt = 8 ∨ (wg 25 c).toInt = 2)) : oCon ws wg wl mk c S = (some [], S) := by unfold oCon; rw [if_neg h6, if_neg h]
theorem oIts_st {R : Option (List Int) × S9} {x y i i2 : Int32} {acc : List Int} {v : Int} {S1 S2 : S9} (hR : R = oIts ws wg wl mk (itL wg (6 - i.toNatClampNeg) x.toInt) acc S1) (hi : iv 0 5 i) (hx : 0 ≤ x.toInt) (hm : oItm ws wg wl mk x.toNatClampNeg S1 = (some v, S2)) (hy : y = wg 17 x.toNatClampNeg) (h2 : i2.toInt = i.toInt + 1) : R = oIts ws wg wl mk (itL wg (6 - i2.toNatClampNeg) y.toInt) (acc ++ [v]) S2 := by
  have a := cln9 hi.1
  have b := cln9 (u := i2) (by have := hi.1; omega)
  have c := hi.2
  rw [show 6 - i.toNatClampNeg = (6 - i2.toNatClampNeg) + 1 by omega, itL_c hx] at hR
  rw [hR, hy]
  show bd9 (oItm ws wg wl mk x.toNatClampNeg S1) _ = _
  rw [hm]; rfl
theorem oIts_x {R : Option (List Int) × S9} {x i : Int32} {acc : List Int} {S1 S2 : S9} (hR : R = oIts ws wg wl mk (itL wg (6 - i.toNatClampNeg) x.toInt) acc S1) (hi : iv 0 5 i) (hx : 0 ≤ x.toInt) (hm : oItm ws wg wl mk x.toNatClampNeg S1 = (none, S2)) : R = (none, S2) := by
  have a := cln9 hi.1
  have c := hi.2
  rw [show 6 - i.toNatClampNeg = (5 - i.toNatClampNeg) + 1 by omega, itL_c hx] at hR
  rw [hR]
  show bd9 (oItm ws wg wl mk x.toNatClampNeg S1) _ = _
  rw [hm]; rfl
theorem oIts_e {R : Option (List Int) × S9} {x i : Int32} {acc : List Int} {S1 : S9} (hR : R = oIts ws wg wl mk (itL wg (6 - i.toNatClampNeg) x.toInt) acc S1) (h : x.toInt < 0 ∨ 6 ≤ i.toInt) : R = (some acc, S1) := by
  rw [itL_n (by rcases h with h | h; exact Or.inl h; exact Or.inr (by have := cln9 (u := i) (by omega); omega))] at hR
  exact hR
theorem oIts_len : ∀ (l : List Nat) (acc V : List Int) (S S2 : S9), oIts ws wg wl mk l acc S = (some V, S2) → V.length = acc.length + l.length := by
  intro l
  induction l with
  | nil =>
    intro acc V S S2 h
    have h : ((some acc, S) : Option (List Int) × S9) = (some V, S2) := h
    injection h with h1 h2
    injection h1 with h1
    subst h1; rfl
  | cons e l ih =>
    intro acc V S S2 h
    have h : bd9 (oItm ws wg wl mk e S) (fun v S => oIts ws wg wl mk l (acc ++ [v]) S) = (some V, S2) := h
    cases hm : oItm ws wg wl mk e S with
    | mk o S1 =>
      rw [hm] at h
      cases o with
      | none => cases h
      | some v =>
        have := ih _ _ _ _ h
        rw [this, List.length_append, List.length_singleton, List.length_cons]; omega
theorem WVL_a {gm gm1 gm2 : Nat → Nat → Int32} {sl i d : Nat} {V : List Int} {v : Int32} (h : WVL gm sl V) (hw : WFR d gm gm1) (hd : sl + V.length < d) (hu : gm2 52 = upd (gm1 52) i v) (hi : i = sl + V.length) : WVL gm2 sl (V ++ [v.toInt]) := by
  intro j x hj
  subst hi
  rw [hu]
  rcases ga9 hj with ⟨hl, hj⟩ | ⟨hl, hj⟩
  · rw [upd_ne (by omega), hw (sl + j) (by omega)]; exact h j x hj
  · subst hj; subst hl; rw [upd_at]
theorem WVL_f {gm gm1 : Nat → Nat → Int32} {sl d : Nat} {V : List Int} (h : WVL gm sl V) (hw : WFR d gm gm1) (hd : sl + V.length ≤ d) : WVL gm1 sl V := fun j x hj => by
  have := gl9 hj
  rw [hw (sl + j) (by omega)]; exact h j x hj
theorem WVL_0 {gm : Nat → Nat → Int32} {sl : Nat} : WVL gm sl [] := fun j x hj => by cases hj
theorem WVL_1 {gm gm1 : Nat → Nat → Int32} {sl i : Nat} {v : Int32} (hu : gm1 52 = upd (gm 52) i v) (hi : i = sl) : WVL gm1 sl [v.toInt] := by
  have := WVL_a (gm := gm) (gm1 := gm) (gm2 := gm1) (sl := sl) (i := i) (d := sl + 1) (V := []) (v := v) WVL_0 WFR_rf (by show sl + 0 < _; omega) hu (by show i = sl + 0; omega)
  exact this
theorem oArs_st {R : Option (List (List Int)) × S9} {q : Nat} {i i2 : Int32} {a c : Nat} {acc : List (List Int)} {V : List Int} {S1 S2 : S9} (hR : R = oArs ws wg wl mk ((liL wg q).drop i.toNatClampNeg) acc S1) (ha : (liL wg q)[i.toNatClampNeg]? = some a) (hc : ctE wg a = c) (hm : oCon ws wg wl mk c S1 = (some V, S2)) (h0 : 0 ≤ i.toInt) (h2 : i2.toInt = i.toInt + 1) : R = oArs ws wg wl mk ((liL wg q).drop i2.toNatClampNeg) (acc ++ [V]) S2 := by
  have b1 := cln9 h0
  have b2 := cln9 (u := i2) (by omega)
  subst hc
  rw [dro9 ha] at hR
  rw [hR, show i2.toNatClampNeg = i.toNatClampNeg + 1 by omega]
  show bd9 (oCon ws wg wl mk (ctE wg a) S1) _ = _
  rw [hm]; rfl
theorem oArs_x {R : Option (List (List Int)) × S9} {q : Nat} {i : Int32} {a c : Nat} {acc : List (List Int)} {S1 S2 : S9} (hR : R = oArs ws wg wl mk ((liL wg q).drop i.toNatClampNeg) acc S1) (ha : (liL wg q)[i.toNatClampNeg]? = some a) (hc : ctE wg a = c) (hm : oCon ws wg wl mk c S1 = (none, S2)) : R = (none, S2) := by
  subst hc
  rw [dro9 ha] at hR
  rw [hR]
  show bd9 (oCon ws wg wl mk (ctE wg a) S1) _ = _
  rw [hm]; rfl
theorem oArs_e {R : Option (List (List Int)) × S9} {q : Nat} {i : Int32} {acc : List (List Int)} {S1 : S9} (hR : R = oArs ws wg wl mk ((liL wg q).drop i.toNatClampNeg) acc S1) (h : (wg 41 q).toNatClampNeg ≤ i.toNatClampNeg) : R = (some acc, S1) := by
  rw [List.drop_eq_nil_of_le (by rw [liL_l]; exact h)] at hR
  exact hR
theorem oSts_st {R : Option Int × S9} {o : Int} {q : Nat} {i i2 : Int32} {h c : Nat} {V : List Int} {u : Int} {S1 S2 S3 : S9} (hR : R = oSts ws wg wl mk o ((liL wg q).drop i.toNatClampNeg) S1) (ha : (liL wg q)[i.toNatClampNeg]? = some h) (hc : ctE wg h = c) (hm : oCon ws wg wl mk c S1 = (some V, S2)) (hs : oSe wg wl o h V S2 = (some u, S3)) (h0 : 0 ≤ i.toInt) (h2 : i2.toInt = i.toInt + 1) : R = oSts ws wg wl mk o ((liL wg q).drop i2.toNatClampNeg) S3 := by
  have b1 := cln9 h0
  have b2 := cln9 (u := i2) (by omega)
  subst hc
  rw [dro9 ha] at hR
  rw [hR, show i2.toNatClampNeg = i.toNatClampNeg + 1 by omega]
  show bd9 (oCon ws wg wl mk (ctE wg h) S1) _ = _
  rw [hm]
  show bd9 (oSe wg wl o h V S2) _ = _
  rw [hs]; rfl
theorem oSts_x {R : Option Int × S9} {o : Int} {q : Nat} {i : Int32} {h c : Nat} {S1 S2 : S9} (hR : R = oSts ws wg wl mk o ((liL wg q).drop i.toNatClampNeg) S1) (ha : (liL wg q)[i.toNatClampNeg]? = some h) (hc : ctE wg h = c) (hm : oCon ws wg wl mk c S1 = (none, S2)) : R = (none, S2) := by
  subst hc
  rw [dro9 ha] at hR
  rw [hR]
  show bd9 (oCon ws wg wl mk (ctE wg h) S1) _ = _
  rw [hm]; rfl
theorem oSts_y {R : Option Int × S9} {o : Int} {q : Nat} {i : Int32} {h c : Nat} {V : List Int} {S1 S2 S3 : S9} (hR : R = oSts ws wg wl mk o ((liL wg q).drop i.toNatClampNeg) S1) (ha : (liL wg q)[i.toNatClampNeg]? = some h) (hc : ctE wg h = c) (hm : oCon ws wg wl mk c S1 = (some V, S2)) (hs : oSe wg wl o h V S2 = (none, S3)) : R = (none, S3) := by
  subst hc
  rw [dro9 ha] at hR
  rw [hR]
  show bd9 (oCon ws wg wl mk (ctE wg h) S1) _ = _
  rw [hm]
  show bd9 (oSe wg wl o h V S2) _ = _
  rw [hs]; rfl
theorem oSts_e {R : Option Int × S9} {o : Int} {q : Nat} {i : Int32} {S1 : S9} (hR : R = oSts ws wg wl mk o ((liL wg q).drop i.toNatClampNeg) S1) (h : (wg 41 q).toNatClampNeg ≤ i.toNatClampNeg) : R = (some 0, S1) := by
  rw [List.drop_eq_nil_of_le (by rw [liL_l]; exact h)] at hR
  exact hR
theorem oSe_7 {o t : Int} {h : Nat} {V : List Int} {S : S9} (ht : sgF wg (wg 22 h).toNatClampNeg 8 (((zO S)[o.toNat]?).getD (0, 0)).1 = t) (h7 : t = -1) : oSe wg wl o h V S = (none, S) := by
  subst ht; unfold oSe; exact if_pos h7
theorem oSe_8 {o t w : Int} {h c : Nat} {V : List Int} {S : S9} (ht : sgF wg (wg 22 h).toNatClampNeg 8 (((zO S)[o.toNat]?).getD (0, 0)).1 = t) (h7 : ¬ t = -1) (hc : ctE wg h = c) (hw : wCo wg wl (zO S) c V t = w) (h8 : w = -1) : oSe wg wl o h V S = (none, S) := by
  subst ht; subst hc; subst hw; unfold oSe; show (if _ then _ else if _ then _ else _) = _; rw [if_neg h7, if_pos h8]
theorem oSe_s {o t w : Int} {h c : Nat} {V : List Int} {S : S9} (ht : sgF wg (wg 22 h).toNatClampNeg 8 (((zO S)[o.toNat]?).getD (0, 0)).1 = t) (h7 : ¬ t = -1) (hc : ctE wg h = c) (hw : wCo wg wl (zO S) c V t = w) (h8 : ¬ w = -1) : oSe wg wl o h V S = (some 0, tlV wg wl 4 o (wg 22 h).toInt c V t S) := by
  subst ht; subst hc; subst hw; unfold oSe; show (if _ then _ else if _ then _ else _) = _; rw [if_neg h7, if_neg h8]
end RE9
end
section
def PO9 (l : Launch) (dC : Nat → ClassId) (dI : Nat → Nat → Nat) (ad : Nat → Nat → Nat) (cid : Nat → ClassId) (a2 : Nat → Nat) (lx : List Nat) (n9 : Nat) : Prop := ∀ (sg : Nat → Int32) (gm : Nat → Nat → Int32) (lg : Nat → Nat → Int64) (x : Int32) (nm : Int64) (dp : Int32) (wg : Nat → Nat → Int32) (ws : Nat → Int32) (S : S9) (_ : CI sg gm) (_ : iv 0 0 x) (_ : iv 0 40 dp) (_ : WRD sg gm lg) (_ : LDI lx gm) (_ : MOK sg gm lg) (_ : FND9 sg gm) (_ : dp.toInt + ((n9 : Nat) : Int) = 40) (_ : st9 gm = wg) (_ : ss9 sg = ws) (_ : SV ws wg lg) (_ : RC wg lg S sg gm), CMt dC dI ad cid a2 lx l yX5_obtain wm_X5_obtain ({ frames := 22 + 8 * n9, cells := 1, slots := 6, locals := 640 + 260 * n9 }) [eV (ad 6) x, .long nm, .int dp] sg gm lg (fun v u => ∃ r : Int32, v = some (.int r) ∧ ∃ (sg2 : Nat → Int32) (gm2 : Nat → Nat → Int32) (lg2 : Nat → Nat → Int64), u = (sg2, gm2, lg2) ∧ CI sg2 gm2 ∧ KS [13, 14, 15, 16, 17, 18] sg sg2 ∧ KS [37, 38, 39, 48, 49, 50, 51, 52, 53] gm gm2 ∧ KS [] lg lg2 ∧ (iv 0 59 r) ∧ (MOK sg2 gm2 lg2) ∧ (FND9 sg2 gm2) ∧ (BMK gm gm2) ∧ (WFR (24 * dp.toNatClampNeg) gm gm2) ∧ ((sg 14).toInt ≤ (sg2 14).toInt) ∧ (r.toInt < (sg2 14).toInt) ∧ (∃ S2, oGet wg (oMK ws wg lg n9) (caN ws wg lg nm) S = (some r.toInt, S2) ∧ RC wg lg S2 sg2 gm2)) (fun E u => (E = "java/lang/UnsupportedOperationException") ∧ ∃ (sg2 : Nat → Int32) (gm2 : Nat → Nat → Int32) (lg2 : Nat → Nat → Int64), u = (sg2, gm2, lg2) ∧ CI sg2 gm2 ∧ KS [13, 14, 15, 16, 17, 18] sg sg2 ∧ KS [37, 38, 39, 48, 49, 50, 51, 52, 53] gm gm2 ∧ KS [] lg lg2 ∧ (MOK sg2 gm2 lg2) ∧ (FND9 sg2 gm2) ∧ (∃ S2, oGet wg (oMK ws wg lg n9) (caN ws wg lg nm) S = (none, S2) ∧ RC wg lg S2 sg2 gm2))

def PM9 (l : Launch) (dC : Nat → ClassId) (dI : Nat → Nat → Nat) (ad : Nat → Nat → Nat) (cid : Nat → ClassId) (a2 : Nat → Nat) (lx : List Nat) (n9 : Nat) : Prop := ∀ (sg : Nat → Int32) (gm : Nat → Nat → Int32) (lg : Nat → Nat → Int64) (x : Int32) (b : Int32) (dp : Int32) (wg : Nat → Nat → Int32) (ws : Nat → Int32) (S : S9) (_ : CI sg gm) (_ : iv 0 0 x) (_ : iv 0 79 b) (_ : iv 0 40 dp) (_ : WRD sg gm lg) (_ : LDI lx gm) (_ : MOK sg gm lg) (_ : FND9 sg gm) (_ : b.toInt < (sg 12).toInt) (_ : ¬ lg 4 b.toNatClampNeg = 0 → gm 35 b.toNatClampNeg = 0 → gm 38 b.toNatClampNeg = 0) (_ : dp.toInt + ((n9 : Nat) : Int) = 40) (_ : st9 gm = wg) (_ : ss9 sg = ws) (_ : SV ws wg lg) (_ : RC wg lg S sg gm), CMt dC dI ad cid a2 lx l yX5_make wm_X5_make ({ frames := 20 + 8 * n9, cells := 1, slots := 6, locals := 600 + 260 * n9 }) [eV (ad 6) x, eV (ad 10) b, .int dp] sg gm lg (fun v u => ∃ r : Int32, v = some (.int r) ∧ ∃ (sg2 : Nat → Int32) (gm2 : Nat → Nat → Int32) (lg2 : Nat → Nat → Int64), u = (sg2, gm2, lg2) ∧ CI sg2 gm2 ∧ KS [13, 14, 15, 16, 17, 18] sg sg2 ∧ KS [37, 38, 39, 48, 49, 50, 51, 52, 53] gm gm2 ∧ KS [] lg lg2 ∧ (iv 0 59 r) ∧ (MOK sg2 gm2 lg2) ∧ (FND9 sg2 gm2) ∧ (BMK gm gm2) ∧ (WFR (24 * dp.toNatClampNeg) gm gm2) ∧ ((sg 14).toInt ≤ (sg2 14).toInt) ∧ (r.toInt < (sg2 14).toInt) ∧ (∃ S2, oMK ws wg lg n9 b.toNatClampNeg S = (some r.toInt, S2) ∧ RC wg lg S2 sg2 gm2)) (fun E u => (E = "java/lang/UnsupportedOperationException") ∧ ∃ (sg2 : Nat → Int32) (gm2 : Nat → Nat → Int32) (lg2 : Nat → Nat → Int64), u = (sg2, gm2, lg2) ∧ CI sg2 gm2 ∧ KS [13, 14, 15, 16, 17, 18] sg sg2 ∧ KS [37, 38, 39, 48, 49, 50, 51, 52, 53] gm gm2 ∧ KS [] lg lg2 ∧ (MOK sg2 gm2 lg2) ∧ (FND9 sg2 gm2) ∧ (∃ S2, oMK ws wg lg n9 b.toNatClampNeg S = (none, S2) ∧ RC wg lg S2 sg2 gm2))

set_option maxHeartbeats 4000000 in
set_option maxRecDepth 100000 in
theorem d_objectOf9 (l : Launch) (dC : Nat → ClassId) (dI : Nat → Nat → Nat) (ad : Nat → Nat → Nat) (cid : Nat → ClassId) (a2 : Nat → Nat) (lx : List Nat) (sg : Nat → Int32) (gm : Nat → Nat → Int32) (lg : Nat → Nat → Int64) (hl9 : l.stackTraces = false) (n9 : Nat) (HO : PO9 l dC dI ad cid a2 lx n9) (HM : PM9 l dC dI ad cid a2 lx n9) (x : Int32) (o : Int32) (dp : Int32) (wg : Nat → Nat → Int32) (ws : Nat → Int32) (S : S9) (hI : CI sg gm) (hvx : iv 0 0 x) (hvo : iv 0 79 o) (hvdp : iv 0 39 dp) (hW : WRD sg gm lg) (hLD : LDI lx gm) (hMO : MOK sg gm lg) (hFN : FND9 sg gm) (ho4 : o.toInt < (sg 4).toInt) (hbo : BOK sg gm lg o.toNatClampNeg) (hdp : dp.toInt + ((n9 + 1 : Nat) : Int) = 40) (hSW : st9 gm = wg) (hSS : ss9 sg = ws) (hSV : SV ws wg lg) (hRC : RC wg lg S sg gm) : CMt dC dI ad cid a2 lx l yX5_objectOf wm_X5_objectOf ({ frames := 24 + 8 * n9, cells := 1, slots := 6, locals := 680 + 260 * n9 }) [eV (ad 6) x, eV (ad 9) o, .int dp] sg gm lg (fun v u => ∃ r : Int32, v = some (.int r) ∧ ∃ (sg2 : Nat → Int32) (gm2 : Nat → Nat → Int32) (lg2 : Nat → Nat → Int64), u = (sg2, gm2, lg2) ∧ CI sg2 gm2 ∧ KS [13, 14, 15, 16, 17, 18] sg sg2 ∧ KS [37, 38, 39, 48, 49, 50, 51, 52, 53] gm gm2 ∧ KS [] lg lg2 ∧ (iv 0 59 r) ∧ (MOK sg2 gm2 lg2) ∧ (FND9 sg2 gm2) ∧ (BMK gm gm2) ∧ (WFR (24 * dp.toNatClampNeg + 24) gm gm2) ∧ ((sg 14).toInt ≤ (sg2 14).toInt) ∧ (r.toInt < (sg2 14).toInt) ∧ (∃ S2, oObj ws wg lg (oMK ws wg lg n9) o.toNatClampNeg S = (some r.toInt, S2) ∧ RC wg lg S2 sg2 gm2)) (fun E u => (E = "java/lang/UnsupportedOperationException") ∧ ∃ (sg2 : Nat → Int32) (gm2 : Nat → Nat → Int32) (lg2 : Nat → Nat → Int64), u = (sg2, gm2, lg2) ∧ CI sg2 gm2 ∧ KS [13, 14, 15, 16, 17, 18] sg sg2 ∧ KS [37, 38, 39, 48, 49, 50, 51, 52, 53] gm gm2 ∧ KS [] lg lg2 ∧ (MOK sg2 gm2 lg2) ∧ (FND9 sg2 gm2) ∧ (∃ S2, oObj ws wg lg (oMK ws wg lg n9) o.toNatClampNeg S = (none, S2) ∧ RC wg lg S2 sg2 gm2)) := by
  intro sz
  refine vx_ofW (cc := cX5_objectOf) (maxL := 3) (ret := (some .int)) (by decide) rfl ?_
  intro p e s m args below meth c s₁ B hml hxt hv
  obtain ⟨rfl, hsz, hP, hK, hD0, hG⟩ := hv
  have hx := B.exec
  have hb := B.bytes
  have hr := B.returns
  have hts := atoms_spec (ws := wm_X5_objectOf) B.pre
  have htb := fun (w : Cond) (h : w ∈ tb) => hts w (List.mem_cons_of_mem _ h)
  have hown : s.vm.findClass RX5 = some m.cls := findClass_of_methodNamed B.named
  have hlocks := B.notSynchronized
  subst hsz
  have hD := hD0.self (sz := s.heap.size)
  generalize hAe : va_A (cW ad cid a2 lx sg gm lg) s.heap.size = A at hD hG ⊢
  have hA : ∀ q : Nat, s.heap.size ≤ q → A q := fun q h => by rw [← hAe]; exact Or.inr h
  have hS : va_S A s.heap s.heap [] := va_S.rf
  have hl := lv_entry ([eV (ad 6) x, eV (ad 9) o, .int dp]) (n := 3) (by rw [show (lg_sl ([eV (ad 6) x, eV (ad 9) o, .int dp])).length = 3 from by simp [lg_sl, eV_cat, cat_i, cat_l]]; exact Nat.le_of_ble_eq_true rfl)
  rw [lg_entry_eq]
  generalize (lg_sl ([eV (ad 6) x, eV (ad 9) o, .int dp]) ++ List.replicate (3 - (lg_sl ([eV (ad 6) x, eV (ad 9) o, .int dp])).length) Slot.unset).toArray = ls at hl ⊢
  have hl : lv_has ls 3 [(0, eV (ad 6) x), (1, eV (ad 9) o), (2, .int dp)] := by simp [lv_args, eV_cat, cat_i, cat_l] at hl; exact hl
  refine ec_aload_n hx hb dX5_objectOf_0 rfl (lv_at hl 1 rfl) ?_
  refine cr_get (t := 9) (j := 20) (C := RX3) (T := TX3) (N := 21) (v := eV (ad 10) (gm 27 o.toNatClampNeg)) hx hb htb inX3 hown hK hP hvo (by decide) (by decide) (by decide) rfl (by decide) (htb _ kw_1126) rfl dX5_objectOf_1 ?_
  obtain ⟨z_1, ez_1⟩ : ∃ z : Int32, z = (gm 27 o.toNatClampNeg) := ⟨_, rfl⟩
  refine W.eq (g2 := F0 m 4 ls [eV (ad 10) z_1]) (by rw [ez_1]) ?_
  have hz_1 : iv (-1) 79 z_1 := iv_of ez_1 (CI_a hI 27 hvo (by decide))
  refine ec_ifnonnull (tgt := 21) hx hb dX5_objectOf_4 (by decide) (fun c_2 => ?_) (fun c_2 => ?_)
  · have h_3 : iv 0 79 z_1 := ⟨c_2, (hz_1).2⟩
    refine ec_aload_n hx hb dX5_objectOf_21 rfl (lv_at hl 0 rfl) ?_
    refine ec_aload_n hx hb dX5_objectOf_22 rfl (lv_at hl 1 rfl) ?_
    refine cr_get (t := 9) (j := 20) (C := RX3) (T := TX3) (N := 21) (v := eV (ad 10) (gm 27 o.toNatClampNeg)) hx hb htb inX3 hown hK hP hvo (by decide) (by decide) (by decide) rfl (by decide) (htb _ kw_1126) rfl dX5_objectOf_23 ?_
    refine W.eq (g2 := F0 m 26 ls [eV (ad 10) z_1, eV (ad 6) x]) (by rw [show (gm 27 o.toNatClampNeg) = z_1 from ez_1.symm]) ?_
    refine lv_iload_n hx hb dX5_objectOf_26 rfl (lv_at hl 2 rfl) ?_
    refine lv_iconst (v := 1) hx hb dX5_objectOf_27 (by decide) ?_
    refine lv_iadd hx hb dX5_objectOf_28 ?_
    refine lv_topi (fun z_4 ez_4 => ?_)
    have hz_4 : iv 1 40 z_4 := iv_of ez_4 (iv_add hvdp (iv_k (by decide) : iv 1 1 1) (by decide))
    have tz_4 : z_4.toInt = (dp : Int32).toInt + 1 := by rw [ez_4]; exact iv_addE hvdp (iv_k (by decide) : iv 1 1 1) (by decide)
    refine cm_callV (t := 6) (C := RX5) (T := TX5) (N := 13) (rest := []) (as := [eV (ad 10) z_1, .int z_4]) ⟨hx, hb, hml, hown, htb⟩ (HM sg gm lg x z_1 z_4 wg ws S hI hvx h_3 (iv_w hz_4 (by decide)) hW hLD hMO hFN (by rw [show sg 12 = sg 12 from rfl]; rw [ez_1]; exact (hbo (by rw [← ez_1]; have := i32_0; have := i32_1; have := i32_2; have := i32_m1; have := (hvx).1; have := (hvx).2; have := (hvo).1; have := (hvo).2; have := (hvdp).1; have := (hvdp).2; have := (h_3).1; have := (h_3).2; have := (hz_4).1; have := (hz_4).2; have := (h_3).1; omega)).1) (fun q9 => absurd (by rw [ez_1]; exact (hbo (by rw [← ez_1]; have := i32_0; have := i32_1; have := i32_2; have := i32_m1; have := (hvx).1; have := (hvx).2; have := (hvo).1; have := (hvo).2; have := (hvdp).1; have := (hvdp).2; have := (h_3).1; have := (h_3).2; have := (hz_4).1; have := (hz_4).2; have := (h_3).1; omega)).2) q9) (by have := i32_0; have := i32_1; have := i32_2; have := i32_m1; have := (hvx).1; have := (hvx).2; have := (hvo).1; have := (hvo).2; have := (hvdp).1; have := (hvdp).2; have := (h_3).1; have := (h_3).2; have := (hz_4).1; have := (hz_4).2; omega) hSW hSS hSV hRC) (cwV 2 htb (gd_V kw_1020 kw_1021 kw_1022 kw_40 kw_1583) rfl rfl rfl (by decide +kernel) ⟨(show 20 + 8 * n9 + 1 ≤ 24 + 8 * n9 from by omega), (show 8 + (5 + 11) + (600 + 260 * n9) ≤ 680 + 260 * n9 from by omega)⟩) hvx (by decide) (by decide) rfl rfl hl.1 rfl (Nat.le_trans cs_n (by decide)) dX5_objectOf_29 ⟨Nat.le_of_ble_eq_true rfl, Nat.le_of_ble_eq_true rfl⟩ hK hP hD hS hA hG (fun E ce q9 u_6 H locs hw hP hD hS hce hcv hcl => ?_) (fun v9 u_6 H locs hw hP hD hS => ?_)
    · obtain ⟨hE, hw⟩ := hw
      obtain ⟨sgv_7, gmv_7, lgv_7, rfl, hIv_7, ksv_7, kgv_7, klv_7, xMO_v_7, xFN_v_7, xM_v_7⟩ := hw
      obtain rfl := KS_nil klv_7
      have hP : va_P (dC, dI) vwCl (cW ad cid a2 lx sgv_7 gmv_7 lg) H := hP
      have hD : va_D A (cW ad cid a2 lx sgv_7 gmv_7 lg) := hD
      exact vx_out (fun x hx9 => (hxt x hx9).elim) hlocks hce hcv hcl (fun t ht hal => ⟨⟨(sgv_7, gmv_7, lg), ⟨hE, sgv_7, gmv_7, lg, rfl, hIv_7, (KS_tr (L := [13, 14, 15, 16, 17, 18]) KS_rf ksv_7 (by decide)), (KS_tr (L := [37, 38, 39, 48, 49, 50, 51, 52, 53]) KS_rf kgv_7 (by decide)), KS_rf, (xMO_v_7), (xFN_v_7), ((by obtain ⟨S2, h1, h2⟩ := xM_v_7; exact ⟨S2, (by rw [oObj_b (by rw [(swt9 hSW ez_1 rfl)]; exact (h_3).1), (swt9 hSW ez_1 rfl)]; exact h1), h2⟩))⟩, by rw [ht]; exact hP, va_K.moved hal hK, hD⟩, hS.F ht⟩) hS.2.2 (Nat.le_of_ble_eq_true rfl) (Nat.le_of_ble_eq_true rfl)
    obtain ⟨r_5, rfl, sgv_8, gmv_8, lgv_8, rfl, hIv_8, ksv_8, kgv_8, klv_8, hr_5, fMO_r_5, fFN_r_5, fBM_r_5, fWF_r_5, f14_r_5, fr_r_5, fM_r_5⟩ := hw
    obtain rfl := KS_nil klv_8
    have hP : va_P (dC, dI) vwCl (cW ad cid a2 lx sgv_8 gmv_8 lg) H := hP
    have hD : va_D A (cW ad cid a2 lx sgv_8 gmv_8 lg) := hD
    refine W.eq (g2 := F0 m 32 ls [.int r_5]) rfl ?_
    have bm_r_5 := BMK_t BMK_rf fBM_r_5
    have wf_r_5 : WFR (24 * dp.toNatClampNeg + 24) gm gmv_8 := WFR_t WFR_rf fWF_r_5 (by have q1 : z_4.toNatClampNeg = z_4.toInt.toNat := rfl; have q2 : dp.toNatClampNeg = dp.toInt.toNat := rfl; have := i32_0; have := i32_1; have := i32_2; have := i32_m1; have := (hvx).1; have := (hvx).2; have := (hvo).1; have := (hvo).2; have := (hvdp).1; have := (hvdp).2; have := (h_3).1; have := (h_3).2; have := (hz_4).1; have := (hz_4).2; have := (hr_5).1; have := (hr_5).2; omega)
    have m14_r_5 : (sg 14).toInt ≤ (sgv_8 14).toInt := Int.le_trans (Int.le_refl _) f14_r_5
    exact W.nb (fun hN => W.widen (k := 1) (n := 6) (by decide) (by decide) (vx_ret (W.iret (v := r_5) hx hb hr (fun t ht hW => ⟨⟨some (.int r_5), (sgv_8, gmv_8, lg), rfl, ⟨r_5, rfl, sgv_8, gmv_8, lg, rfl, hIv_8, (KS_tr (L := [13, 14, 15, 16, 17, 18]) KS_rf ksv_8 (by decide)), (KS_tr (L := [37, 38, 39, 48, 49, 50, 51, 52, 53]) KS_rf kgv_8 (by decide)), KS_rf, hr_5, (fMO_r_5), (fFN_r_5), (bm_r_5), (wf_r_5), (m14_r_5), (fr_r_5), ((by obtain ⟨S2, h1, h2⟩ := fM_r_5; exact ⟨S2, (by rw [oObj_b (by rw [(swt9 hSW ez_1 rfl)]; exact (h_3).1), (swt9 hSW ez_1 rfl)]; exact h1), h2⟩))⟩, by rw [ht]; exact hP, va_K.moved hW.alike hK, hD⟩, hS.F ht, by rw [ht]; exact hN⟩) hS.2.2 dX5_objectOf_32)))
  · have h_9 : iv (-1) (-1) z_1 := ⟨(hz_1).1, by omega⟩
    refine ec_aload_n hx hb dX5_objectOf_7 rfl (lv_at hl 0 rfl) ?_
    refine ec_aload_n hx hb dX5_objectOf_8 rfl (lv_at hl 1 rfl) ?_
    refine cr_get (t := 9) (j := 12) (C := RX3) (T := TX3) (N := 21) (v := .long (lg 2 o.toNatClampNeg)) hx hb htb inX3 hown hK hP hvo (by decide) (by decide) (by decide) rfl (by decide) (htb _ kw_1127) rfl dX5_objectOf_9 ?_
    refine lv_topl (fun z_10 ez_10 => ?_)
    refine lv_iload_n hx hb dX5_objectOf_12 rfl (lv_at hl 2 rfl) ?_
    refine lv_iconst (v := 1) hx hb dX5_objectOf_13 (by decide) ?_
    refine lv_iadd hx hb dX5_objectOf_14 ?_
    refine lv_topi (fun z_11 ez_11 => ?_)
    have hz_11 : iv 1 40 z_11 := iv_of ez_11 (iv_add hvdp (iv_k (by decide) : iv 1 1 1) (by decide))
    have tz_11 : z_11.toInt = (dp : Int32).toInt + 1 := by rw [ez_11]; exact iv_addE hvdp (iv_k (by decide) : iv 1 1 1) (by decide)
    refine cm_callV (t := 6) (C := RX5) (T := TX5) (N := 13) (rest := []) (as := [.long z_10, .int z_11]) ⟨hx, hb, hml, hown, htb⟩ (HO sg gm lg x z_10 z_11 wg ws S hI hvx (iv_w hz_11 (by decide)) hW hLD hMO hFN (by have := i32_0; have := i32_1; have := i32_2; have := i32_m1; have := (hvx).1; have := (hvx).2; have := (hvo).1; have := (hvo).2; have := (hvdp).1; have := (hvdp).2; have := (h_9).1; have := (h_9).2; have := (hz_11).1; have := (hz_11).2; omega) hSW hSS hSV hRC) (cwV 2 htb (gd_V kw_1003 kw_1004 kw_1005 kw_40 kw_1567) rfl rfl rfl (by decide +kernel) ⟨(show 22 + 8 * n9 + 1 ≤ 24 + 8 * n9 from by omega), (show 8 + (5 + 11) + (640 + 260 * n9) ≤ 680 + 260 * n9 from by omega)⟩) hvx (by decide) (by decide) rfl rfl hl.1 rfl (Nat.le_trans cs_n (by decide)) dX5_objectOf_15 ⟨Nat.le_of_ble_eq_true rfl, Nat.le_of_ble_eq_true rfl⟩ hK hP hD hS hA hG (fun E ce q9 u_13 H locs hw hP hD hS hce hcv hcl => ?_) (fun v9 u_13 H locs hw hP hD hS => ?_)
    · obtain ⟨hE, hw⟩ := hw
      obtain ⟨sgv_14, gmv_14, lgv_14, rfl, hIv_14, ksv_14, kgv_14, klv_14, xMO_v_14, xFN_v_14, xG_v_14⟩ := hw
      obtain rfl := KS_nil klv_14
      have hP : va_P (dC, dI) vwCl (cW ad cid a2 lx sgv_14 gmv_14 lg) H := hP
      have hD : va_D A (cW ad cid a2 lx sgv_14 gmv_14 lg) := hD
      exact vx_out (fun x hx9 => (hxt x hx9).elim) hlocks hce hcv hcl (fun t ht hal => ⟨⟨(sgv_14, gmv_14, lg), ⟨hE, sgv_14, gmv_14, lg, rfl, hIv_14, (KS_tr (L := [13, 14, 15, 16, 17, 18]) KS_rf ksv_14 (by decide)), (KS_tr (L := [37, 38, 39, 48, 49, 50, 51, 52, 53]) KS_rf kgv_14 (by decide)), KS_rf, (xMO_v_14), (xFN_v_14), ((by obtain ⟨S2, h1, h2⟩ := xG_v_14; exact ⟨S2, (by rw [oObj_n (by rw [(swt9 hSW ez_1 rfl)]; have := i32_0; have := i32_1; have := i32_2; have := i32_m1; have := (hvx).1; have := (hvx).2; have := (hvo).1; have := (hvo).2; have := (hvdp).1; have := (hvdp).2; have := (h_9).1; have := (h_9).2; have := (hz_11).1; have := (hz_11).2; have := (h_9).2; omega), ← ez_10]; exact h1), h2⟩))⟩, by rw [ht]; exact hP, va_K.moved hal hK, hD⟩, hS.F ht⟩) hS.2.2 (Nat.le_of_ble_eq_true rfl) (Nat.le_of_ble_eq_true rfl)
    obtain ⟨r_12, rfl, sgv_15, gmv_15, lgv_15, rfl, hIv_15, ksv_15, kgv_15, klv_15, hr_12, fMO_r_12, fFN_r_12, fBM_r_12, fWF_r_12, f14_r_12, fr_r_12, fG_r_12⟩ := hw
    obtain rfl := KS_nil klv_15
    have hP : va_P (dC, dI) vwCl (cW ad cid a2 lx sgv_15 gmv_15 lg) H := hP
    have hD : va_D A (cW ad cid a2 lx sgv_15 gmv_15 lg) := hD
    refine W.eq (g2 := F0 m 18 ls [.int r_12]) rfl ?_
    have bm_r_12 := BMK_t BMK_rf fBM_r_12
    have wf_r_12 : WFR (24 * dp.toNatClampNeg + 24) gm gmv_15 := WFR_t WFR_rf fWF_r_12 (by have q1 : z_11.toNatClampNeg = z_11.toInt.toNat := rfl; have q2 : dp.toNatClampNeg = dp.toInt.toNat := rfl; have := i32_0; have := i32_1; have := i32_2; have := i32_m1; have := (hvx).1; have := (hvx).2; have := (hvo).1; have := (hvo).2; have := (hvdp).1; have := (hvdp).2; have := (h_9).1; have := (h_9).2; have := (hz_11).1; have := (hz_11).2; have := (hr_12).1; have := (hr_12).2; omega)
    have m14_r_12 : (sg 14).toInt ≤ (sgv_15 14).toInt := Int.le_trans (Int.le_refl _) f14_r_12
    refine lv_goto (tgt := 32) hx hb dX5_objectOf_18 (by decide) ?_
    exact W.nb (fun hN => W.widen (k := 1) (n := 6) (by decide) (by decide) (vx_ret (W.iret (v := r_12) hx hb hr (fun t ht hW => ⟨⟨some (.int r_12), (sgv_15, gmv_15, lg), rfl, ⟨r_12, rfl, sgv_15, gmv_15, lg, rfl, hIv_15, (KS_tr (L := [13, 14, 15, 16, 17, 18]) KS_rf ksv_15 (by decide)), (KS_tr (L := [37, 38, 39, 48, 49, 50, 51, 52, 53]) KS_rf kgv_15 (by decide)), KS_rf, hr_12, (fMO_r_12), (fFN_r_12), (bm_r_12), (wf_r_12), (m14_r_12), (fr_r_12), ((by obtain ⟨S2, h1, h2⟩ := fG_r_12; exact ⟨S2, (by rw [oObj_n (by rw [(swt9 hSW ez_1 rfl)]; have := i32_0; have := i32_1; have := i32_2; have := i32_m1; have := (hvx).1; have := (hvx).2; have := (hvo).1; have := (hvo).2; have := (hvdp).1; have := (hvdp).2; have := (h_9).1; have := (h_9).2; have := (hz_11).1; have := (hz_11).2; have := (hr_12).1; have := (hr_12).2; have := (h_9).2; omega), ← ez_10]; exact h1), h2⟩))⟩, by rw [ht]; exact hP, va_K.moved hW.alike hK, hD⟩, hS.F ht, by rw [ht]; exact hN⟩) hS.2.2 dX5_objectOf_32)))

set_option maxHeartbeats 4000000 in
set_option maxRecDepth 100000 in
theorem d_itemValue9 (l : Launch) (dC : Nat → ClassId) (dI : Nat → Nat → Nat) (ad : Nat → Nat → Nat) (cid : Nat → ClassId) (a2 : Nat → Nat) (lx : List Nat) (sg : Nat → Int32) (gm : Nat → Nat → Int32) (lg : Nat → Nat → Int64) (hl9 : l.stackTraces = false) (n9 : Nat) (HO : PO9 l dC dI ad cid a2 lx n9) (HM : PM9 l dC dI ad cid a2 lx n9) (x : Int32) (o : Int32) (dp : Int32) (wg : Nat → Nat → Int32) (ws : Nat → Int32) (S : S9) (hI : CI sg gm) (hvx : iv 0 0 x) (hvo : iv 0 79 o) (hvdp : iv 0 39 dp) (hW : WRD sg gm lg) (hLD : LDI lx gm) (hMO : MOK sg gm lg) (hFN : FND9 sg gm) (ho4 : o.toInt < (sg 4).toInt) (hbo : BOK sg gm lg o.toNatClampNeg) (hdp : dp.toInt + ((n9 + 1 : Nat) : Int) = 40) (hSW : st9 gm = wg) (hSS : ss9 sg = ws) (hSV : SV ws wg lg) (hRC : RC wg lg S sg gm) : CMt dC dI ad cid a2 lx l yX5_itemValue wm_X5_itemValue ({ frames := 25 + 8 * n9, cells := 1, slots := 6, locals := 720 + 260 * n9 }) [eV (ad 6) x, eV (ad 9) o, .int dp] sg gm lg (fun v u => ∃ r : Int32, v = some (.int r) ∧ ∃ (sg2 : Nat → Int32) (gm2 : Nat → Nat → Int32) (lg2 : Nat → Nat → Int64), u = (sg2, gm2, lg2) ∧ CI sg2 gm2 ∧ KS [13, 14, 15, 16, 17, 18] sg sg2 ∧ KS [37, 38, 39, 48, 49, 50, 51, 52, 53] gm gm2 ∧ KS [] lg lg2 ∧ (MOK sg2 gm2 lg2) ∧ (FND9 sg2 gm2) ∧ (BMK gm gm2) ∧ (WFR (24 * dp.toNatClampNeg + 24) gm gm2) ∧ ((sg 14).toInt ≤ (sg2 14).toInt) ∧ (∃ S2, oItm ws wg lg (oMK ws wg lg n9) o.toNatClampNeg S = (some r.toInt, S2) ∧ RC wg lg S2 sg2 gm2)) (fun E u => (E = "java/lang/UnsupportedOperationException") ∧ ∃ (sg2 : Nat → Int32) (gm2 : Nat → Nat → Int32) (lg2 : Nat → Nat → Int64), u = (sg2, gm2, lg2) ∧ CI sg2 gm2 ∧ KS [13, 14, 15, 16, 17, 18] sg sg2 ∧ KS [37, 38, 39, 48, 49, 50, 51, 52, 53] gm gm2 ∧ KS [] lg lg2 ∧ (MOK sg2 gm2 lg2) ∧ (FND9 sg2 gm2) ∧ (∃ S2, oItm ws wg lg (oMK ws wg lg n9) o.toNatClampNeg S = (none, S2) ∧ RC wg lg S2 sg2 gm2)) := by
  intro sz
  refine vx_ofW (cc := cX5_itemValue) (maxL := 3) (ret := (some .int)) (by decide) rfl ?_
  intro p e s m args below meth c s₁ B hml hxt hv
  obtain ⟨rfl, hsz, hP, hK, hD0, hG⟩ := hv
  have hx := B.exec
  have hb := B.bytes
  have hr := B.returns
  have hts := atoms_spec (ws := wm_X5_itemValue) B.pre
  have htb := fun (w : Cond) (h : w ∈ tb) => hts w (List.mem_cons_of_mem _ h)
  have hown : s.vm.findClass RX5 = some m.cls := findClass_of_methodNamed B.named
  have hlocks := B.notSynchronized
  subst hsz
  have hD := hD0.self (sz := s.heap.size)
  generalize hAe : va_A (cW ad cid a2 lx sg gm lg) s.heap.size = A at hD hG ⊢
  have hA : ∀ q : Nat, s.heap.size ≤ q → A q := fun q h => by rw [← hAe]; exact Or.inr h
  have hS : va_S A s.heap s.heap [] := va_S.rf
  have hl := lv_entry ([eV (ad 6) x, eV (ad 9) o, .int dp]) (n := 3) (by rw [show (lg_sl ([eV (ad 6) x, eV (ad 9) o, .int dp])).length = 3 from by simp [lg_sl, eV_cat, cat_i, cat_l]]; exact Nat.le_of_ble_eq_true rfl)
  rw [lg_entry_eq]
  generalize (lg_sl ([eV (ad 6) x, eV (ad 9) o, .int dp]) ++ List.replicate (3 - (lg_sl ([eV (ad 6) x, eV (ad 9) o, .int dp])).length) Slot.unset).toArray = ls at hl ⊢
  have hl : lv_has ls 3 [(0, eV (ad 6) x), (1, eV (ad 9) o), (2, .int dp)] := by simp [lv_args, eV_cat, cat_i, cat_l] at hl; exact hl
  refine ec_aload_n hx hb dX5_itemValue_0 rfl (lv_at hl 1 rfl) ?_
  refine cr_get (t := 9) (j := 18) (C := RX3) (T := TX3) (N := 21) (v := eV (ad 33) (gm 25 o.toNatClampNeg)) hx hb htb inX3 hown hK hP hvo (by decide) (by decide) (by decide) rfl (by decide) (htb _ kw_1041) rfl dX5_itemValue_1 ?_
  obtain ⟨z_1, ez_1⟩ : ∃ z : Int32, z = (gm 25 o.toNatClampNeg) := ⟨_, rfl⟩
  refine W.eq (g2 := F0 m 4 ls [eV (ad 33) z_1]) (by rw [ez_1]) ?_
  have hz_1 : iv (-1) 33 z_1 := iv_of ez_1 (CI_a hI 25 hvo (by decide))
  refine cw_word (k := 7) (kx := 7) hx hb hG hS (by decide) rfl ⟨by decide, by decide⟩ hown (htb _ kw_1069) dX5_itemValue_4 ?_
  refine ec_acmp_ne (tgt := 19) hx hb dX5_itemValue_7 (by decide) (fun c_2 => ?_) (fun c_2 => ?_)
  · have wc_2 : ¬ z_1.toInt = (7 : Int) := fun q9 => c_2 (congrArg (er (ad 33)) (Int32.toInt_inj.mp q9))
    refine ec_aload_n hx hb dX5_itemValue_19 rfl (lv_at hl 1 rfl) ?_
    refine cr_get (t := 9) (j := 18) (C := RX3) (T := TX3) (N := 21) (v := eV (ad 33) (gm 25 o.toNatClampNeg)) hx hb htb inX3 hown hK hP hvo (by decide) (by decide) (by decide) rfl (by decide) (htb _ kw_1041) rfl dX5_itemValue_20 ?_
    refine W.eq (g2 := F0 m 23 ls [eV (ad 33) z_1]) (by rw [show (gm 25 o.toNatClampNeg) = z_1 from ez_1.symm]) ?_
    refine cw_word (k := 9) (kx := 9) hx hb hG hS (by decide) rfl ⟨by decide, by decide⟩ hown (htb _ kw_1070) dX5_itemValue_23 ?_
    refine ec_acmp_ne (tgt := 33) hx hb dX5_itemValue_26 (by decide) (fun c_3 => ?_) (fun c_3 => ?_)
    · have wc_3 : ¬ z_1.toInt = (9 : Int) := fun q9 => c_3 (congrArg (er (ad 33)) (Int32.toInt_inj.mp q9))
      refine lv_sipush (v := 3000) hx hb dX5_itemValue_33 (by decide) ?_
      refine ec_aload_n hx hb dX5_itemValue_36 rfl (lv_at hl 0 rfl) ?_
      refine ec_aload_n hx hb dX5_itemValue_37 rfl (lv_at hl 1 rfl) ?_
      refine lv_iload_n hx hb dX5_itemValue_38 rfl (lv_at hl 2 rfl) ?_
      refine cm_callV (t := 6) (C := RX5) (T := TX5) (N := 13) (rest := [.int 3000]) (as := [eV (ad 9) o, .int dp]) ⟨hx, hb, hml, hown, htb⟩ (d_objectOf9 l dC dI ad cid a2 lx sg gm lg hl9 n9 HO HM x o dp wg ws S hI hvx hvo hvdp hW hLD hMO hFN ho4 hbo (by have := i32_0; have := i32_1; have := i32_2; have := i32_m1; have := (hvx).1; have := (hvx).2; have := (hvo).1; have := (hvo).2; have := (hvdp).1; have := (hvdp).2; have := (hz_1).1; have := (hz_1).2; omega) hSW hSS hSV hRC) (cwV 2 htb (gd_V kw_1071 kw_1072 kw_1073 kw_40 kw_1593) rfl rfl rfl (by decide +kernel) ⟨(show 24 + 8 * n9 + 1 ≤ 25 + 8 * n9 from by omega), (show 8 + (3 + 11) + (680 + 260 * n9) ≤ 720 + 260 * n9 from by omega)⟩) hvx (by decide) (by decide) rfl rfl hl.1 rfl (Nat.le_trans (cs_c (cat_i _) cs_n) (by decide)) dX5_itemValue_39 ⟨Nat.le_of_ble_eq_true rfl, Nat.le_of_ble_eq_true rfl⟩ hK hP hD hS hA hG (fun E ce q9 u_5 H locs hw hP hD hS hce hcv hcl => ?_) (fun v9 u_5 H locs hw hP hD hS => ?_)
      · obtain ⟨hE, hw⟩ := hw
        obtain ⟨sgv_6, gmv_6, lgv_6, rfl, hIv_6, ksv_6, kgv_6, klv_6, xMO_v_6, xFN_v_6, xO_v_6⟩ := hw
        obtain rfl := KS_nil klv_6
        have hP : va_P (dC, dI) vwCl (cW ad cid a2 lx sgv_6 gmv_6 lg) H := hP
        have hD : va_D A (cW ad cid a2 lx sgv_6 gmv_6 lg) := hD
        exact vx_out (fun x hx9 => (hxt x hx9).elim) hlocks hce hcv hcl (fun t ht hal => ⟨⟨(sgv_6, gmv_6, lg), ⟨hE, sgv_6, gmv_6, lg, rfl, hIv_6, (KS_tr (L := [13, 14, 15, 16, 17, 18]) KS_rf ksv_6 (by decide)), (KS_tr (L := [37, 38, 39, 48, 49, 50, 51, 52, 53]) KS_rf kgv_6 (by decide)), KS_rf, (xMO_v_6), (xFN_v_6), ((by obtain ⟨S2, h1, h2⟩ := xO_v_6; exact ⟨S2, oItm_x (by rw [(swt9 hSW ez_1 rfl)]; exact wc_2) (by rw [(swt9 hSW ez_1 rfl)]; exact wc_3) h1, h2⟩))⟩, by rw [ht]; exact hP, va_K.moved hal hK, hD⟩, hS.F ht⟩) hS.2.2 (Nat.le_of_ble_eq_true rfl) (Nat.le_of_ble_eq_true rfl)
      obtain ⟨r_4, rfl, sgv_7, gmv_7, lgv_7, rfl, hIv_7, ksv_7, kgv_7, klv_7, hr_4, fMO_r_4, fFN_r_4, fBM_r_4, fWF_r_4, f14_r_4, fr_r_4, fO_r_4⟩ := hw
      obtain rfl := KS_nil klv_7
      have hP : va_P (dC, dI) vwCl (cW ad cid a2 lx sgv_7 gmv_7 lg) H := hP
      have hD : va_D A (cW ad cid a2 lx sgv_7 gmv_7 lg) := hD
      refine W.eq (g2 := F0 m 42 ls [.int r_4, .int 3000]) rfl ?_
      have bm_r_4 := BMK_t BMK_rf fBM_r_4
      have wf_r_4 : WFR (24 * dp.toNatClampNeg + 24) gm gmv_7 := WFR_t WFR_rf fWF_r_4 (Nat.le_refl _)
      have m14_r_4 : (sg 14).toInt ≤ (sgv_7 14).toInt := Int.le_trans (Int.le_refl _) f14_r_4
      refine lv_iadd hx hb dX5_itemValue_42 ?_
      refine lv_topi (fun z_8 ez_8 => ?_)
      have hz_8 : iv 3000 3059 z_8 := iv_of ez_8 (iv_add (iv_k (by decide) : iv 3000 3000 3000) hr_4 (by decide))
      have tz_8 : z_8.toInt = 3000 + (r_4 : Int32).toInt := by rw [ez_8]; exact iv_addE (iv_k (by decide) : iv 3000 3000 3000) hr_4 (by decide)
      exact W.nb (fun hN => W.widen (k := 1) (n := 6) (by decide) (by decide) (vx_ret (W.iret (v := z_8) hx hb hr (fun t ht hW => ⟨⟨some (.int z_8), (sgv_7, gmv_7, lg), rfl, ⟨z_8, rfl, sgv_7, gmv_7, lg, rfl, hIv_7, (KS_tr (L := [13, 14, 15, 16, 17, 18]) KS_rf ksv_7 (by decide)), (KS_tr (L := [37, 38, 39, 48, 49, 50, 51, 52, 53]) KS_rf kgv_7 (by decide)), KS_rf, (fMO_r_4), (fFN_r_4), (bm_r_4), (wf_r_4), (m14_r_4), ((by obtain ⟨S2, h1, h2⟩ := fO_r_4; exact ⟨S2, (by rw [show z_8.toInt = 3000 + r_4.toInt from tz_8]; exact oItm_o (by rw [(swt9 hSW ez_1 rfl)]; exact wc_2) (by rw [(swt9 hSW ez_1 rfl)]; exact wc_3) h1), h2⟩))⟩, by rw [ht]; exact hP, va_K.moved hW.alike hK, hD⟩, hS.F ht, by rw [ht]; exact hN⟩) hS.2.2 dX5_itemValue_43)))
    · have wc_3 : z_1.toInt = (9 : Int) := er_wd hG hz_1 (iv_w (iv_k (by decide) : iv 9 9 9) (by decide)) c_3
      refine lv_iconst (v := (-1)) hx hb dX5_itemValue_29 (by decide) ?_
      refine lv_goto (tgt := 43) hx hb dX5_itemValue_30 (by decide) ?_
      exact W.nb (fun hN => W.widen (k := 1) (n := 6) (by decide) (by decide) (vx_ret (W.iret (v := (-1)) hx hb hr (fun t ht hW => ⟨⟨some (.int (-1)), (sg, gm, lg), rfl, ⟨(-1), rfl, sg, gm, lg, rfl, hI, KS_rf, KS_rf, KS_rf, (hMO), (hFN), (BMK_rf), (WFR_rf), ((Int.le_refl _)), (⟨S, (by rw [oItm_9 (by rw [(swt9 hSW ez_1 rfl)]; exact wc_3)]; rfl), hRC⟩)⟩, by rw [ht]; exact hP, va_K.moved hW.alike hK, hD⟩, hS.F ht, by rw [ht]; exact hN⟩) hS.2.2 dX5_itemValue_43)))
  · have wc_2 : z_1.toInt = (7 : Int) := er_wd hG hz_1 (iv_w (iv_k (by decide) : iv 7 7 7) (by decide)) c_2
    refine lv_sipush (v := 1000) hx hb dX5_itemValue_10 (by decide) ?_
    refine ec_aload_n hx hb dX5_itemValue_13 rfl (lv_at hl 1 rfl) ?_
    refine cr_get (t := 9) (j := 1) (C := RX3) (T := TX3) (N := 21) (v := .int (gm 11 o.toNatClampNeg)) hx hb htb inX3 hown hK hP hvo (by decide) (by decide) (by decide) rfl (by decide) (htb _ kw_1048) rfl dX5_itemValue_14 ?_
    obtain ⟨z_9, ez_9⟩ : ∃ z : Int32, z = (gm 11 o.toNatClampNeg) := ⟨_, rfl⟩
    refine W.eq (g2 := F0 m 17 ls [.int z_9, .int 1000]) (by rw [ez_9]) ?_
    have hz_9 : iv 0 24 z_9 := iv_of ez_9 (CI_a hI 11 hvo (by decide))
    refine lv_iadd hx hb dX5_itemValue_17 ?_
    refine lv_topi (fun z_10 ez_10 => ?_)
    have hz_10 : iv 1000 1024 z_10 := iv_of ez_10 (iv_add (iv_k (by decide) : iv 1000 1000 1000) hz_9 (by decide))
    have tz_10 : z_10.toInt = 1000 + (z_9 : Int32).toInt := by rw [ez_10]; exact iv_addE (iv_k (by decide) : iv 1000 1000 1000) hz_9 (by decide)
    exact W.nb (fun hN => W.widen (k := 1) (n := 6) (by decide) (by decide) (vx_ret (W.iret (v := z_10) hx hb hr (fun t ht hW => ⟨⟨some (.int z_10), (sg, gm, lg), rfl, ⟨z_10, rfl, sg, gm, lg, rfl, hI, KS_rf, KS_rf, KS_rf, (hMO), (hFN), (BMK_rf), (WFR_rf), ((Int.le_refl _)), (⟨S, (by rw [oItm_7 (by rw [(swt9 hSW ez_1 rfl)]; exact wc_2), (swt9 hSW ez_9 rfl), show z_10.toInt = 1000 + z_9.toInt from tz_10]), hRC⟩)⟩, by rw [ht]; exact hP, va_K.moved hW.alike hK, hD⟩, hS.F ht, by rw [ht]; exact hN⟩) hS.2.2 dX5_itemValue_18)))
end
section
set_option maxHeartbeats 4000000 in
set_option maxRecDepth 100000 in
theorem d_workOut9 (l : Launch) (dC : Nat → ClassId) (dI : Nat → Nat → Nat) (ad : Nat → Nat → Nat) (cid : Nat → ClassId) (a2 : Nat → Nat) (lx : List Nat) (sg : Nat → Int32) (gm : Nat → Nat → Int32) (lg : Nat → Nat → Int64) (hl9 : l.stackTraces = false) (n9 : Nat) (HO : PO9 l dC dI ad cid a2 lx n9) (HM : PM9 l dC dI ad cid a2 lx n9) (x : Int32) (o : Int32) (sl : Int32) (dp : Int32) (wg : Nat → Nat → Int32) (ws : Nat → Int32) (S : S9) (hI : CI sg gm) (hvx : iv 0 0 x) (hvo : iv 0 79 o) (hvsl : iv 0 954 sl) (hvdp : iv 0 39 dp) (hW : WRD sg gm lg) (hLD : LDI lx gm) (hMO : MOK sg gm lg) (hFN : FND9 sg gm) (hct : CTO sg gm lg o) (hsl : 24 * dp.toInt ≤ sl.toInt ∧ sl.toInt ≤ 24 * dp.toInt + 18) (hdp : dp.toInt + ((n9 + 1 : Nat) : Int) = 40) (hSW : st9 gm = wg) (hSS : ss9 sg = ws) (hSV : SV ws wg lg) (hRC : RC wg lg S sg gm) : CMt dC dI ad cid a2 lx l yX5_workOut wm_X5_workOut ({ frames := 26 + 8 * n9, cells := 1, slots := 6, locals := 760 + 260 * n9 }) [eV (ad 6) x, eV (ad 9) o, .int sl, .int dp] sg gm lg (fun v u => v = none ∧ ∃ (sg2 : Nat → Int32) (gm2 : Nat → Nat → Int32) (lg2 : Nat → Nat → Int64), u = (sg2, gm2, lg2) ∧ CI sg2 gm2 ∧ KS [13, 14, 15, 16, 17, 18] sg sg2 ∧ KS [37, 38, 39, 48, 49, 50, 51, 52, 53] gm gm2 ∧ KS [] lg lg2 ∧ (MOK sg2 gm2 lg2) ∧ (FND9 sg2 gm2) ∧ (BMK gm gm2) ∧ (WFR (sl.toNatClampNeg) gm gm2) ∧ ((gm 25 o.toNatClampNeg).toInt = 6 ∨ (gm 25 o.toNatClampNeg).toInt = 7 ∨ (gm 25 o.toNatClampNeg).toInt = 9 ∨ iv 0 59 (gm2 52 sl.toNatClampNeg)) ∧ ((sg 14).toInt ≤ (sg2 14).toInt) ∧ (∃ V S2, oCon ws wg lg (oMK ws wg lg n9) o.toNatClampNeg S = (some V, S2) ∧ RC wg lg S2 sg2 gm2 ∧ VOK wg (zO S2) o.toNatClampNeg V ∧ WVL gm2 sl.toNatClampNeg V ∧ ((wg 25 o.toNatClampNeg).toInt = 6 → (wg 18 o.toNatClampNeg).toInt ≤ 6 ∧ (V.length : Int) = (wg 18 o.toNatClampNeg).toInt) ∧ V.length ≤ 6)) (fun E u => (E = "java/lang/UnsupportedOperationException") ∧ ∃ (sg2 : Nat → Int32) (gm2 : Nat → Nat → Int32) (lg2 : Nat → Nat → Int64), u = (sg2, gm2, lg2) ∧ CI sg2 gm2 ∧ KS [13, 14, 15, 16, 17, 18] sg sg2 ∧ KS [37, 38, 39, 48, 49, 50, 51, 52, 53] gm gm2 ∧ KS [] lg lg2 ∧ (MOK sg2 gm2 lg2) ∧ (FND9 sg2 gm2) ∧ (∃ S2, oCon ws wg lg (oMK ws wg lg n9) o.toNatClampNeg S = (none, S2) ∧ RC wg lg S2 sg2 gm2)) := by
  intro sz
  refine vx_ofW (cc := cX5_workOut) (maxL := 6) (ret := none) (by decide) rfl ?_
  intro p e s m args below meth c s₁ B hml hxt hv
  obtain ⟨rfl, hsz, hP, hK, hD0, hG⟩ := hv
  have hx := B.exec
  have hb := B.bytes
  have hr := B.returns
  have hts := atoms_spec (ws := wm_X5_workOut) B.pre
  have htb := fun (w : Cond) (h : w ∈ tb) => hts w (List.mem_cons_of_mem _ h)
  have hown : s.vm.findClass RX5 = some m.cls := findClass_of_methodNamed B.named
  have hlocks := B.notSynchronized
  subst hsz
  have hD := hD0.self (sz := s.heap.size)
  generalize hAe : va_A (cW ad cid a2 lx sg gm lg) s.heap.size = A at hD hG ⊢
  have hA : ∀ q : Nat, s.heap.size ≤ q → A q := fun q h => by rw [← hAe]; exact Or.inr h
  have hS : va_S A s.heap s.heap [] := va_S.rf
  have hl := lv_entry ([eV (ad 6) x, eV (ad 9) o, .int sl, .int dp]) (n := 6) (by rw [show (lg_sl ([eV (ad 6) x, eV (ad 9) o, .int sl, .int dp])).length = 4 from by simp [lg_sl, eV_cat, cat_i, cat_l]]; exact Nat.le_of_ble_eq_true rfl)
  rw [lg_entry_eq]
  generalize (lg_sl ([eV (ad 6) x, eV (ad 9) o, .int sl, .int dp]) ++ List.replicate (6 - (lg_sl ([eV (ad 6) x, eV (ad 9) o, .int sl, .int dp])).length) Slot.unset).toArray = ls at hl ⊢
  have hl : lv_has ls 6 [(0, eV (ad 6) x), (1, eV (ad 9) o), (2, .int sl), (3, .int dp)] := by simp [lv_args, eV_cat, cat_i, cat_l] at hl; exact hl
  have hj19 : ∀ (n : Nat) (sg_j19 : Nat → Int32) (gm_j19 : Nat → Nat → Int32) (x5_19 : Int32) (x4_19 : Int32) (_ : (6 - x5_19.toInt).toNat = n) (_ : iv 0 6 x5_19) (_ : iv (-1) 79 x4_19) (_ : iv 0 0 x) (_ : iv 0 79 o) (_ : iv 0 954 sl) (_ : iv 0 39 dp) (_ : KS [13, 14, 15, 16, 17, 18] sg sg_j19) (_ : KS [37, 38, 39, 48, 49, 50, 51, 52, 53] gm gm_j19) (_ : CI sg_j19 gm_j19) (_ : MOK sg_j19 gm_j19 lg) (_ : FND9 sg_j19 gm_j19) (_ : BMK gm gm_j19) (_ : WFR (sl.toNatClampNeg) gm gm_j19) (_ : (gm 25 o.toNatClampNeg).toInt = 6) (_ : 0 ≤ x4_19.toInt → x4_19.toInt < (sg 4).toInt ∧ (gm 15 x4_19.toNatClampNeg).toInt = o.toInt) (_ : (sg 14).toInt ≤ (sg_j19 14).toInt) (_ : ∃ acc S2, RC wg lg S2 sg_j19 gm_j19 ∧ oIts ws wg lg (oMK ws wg lg n9) (itC wg o.toNatClampNeg) [] S = oIts ws wg lg (oMK ws wg lg n9) (itL wg (6 - x5_19.toNatClampNeg) x4_19.toInt) acc S2 ∧ acc.length = x5_19.toNatClampNeg ∧ WVL gm_j19 sl.toNatClampNeg acc) (H : Heap) (locs : List Loc) (ls : Array Slot), va_P (dC, dI) vwCl (cW ad cid a2 lx sg_j19 gm_j19 lg) H → va_D A (cW ad cid a2 lx sg_j19 gm_j19 lg) → va_S A s.heap H locs → lv_has ls 6 [(5, .int x5_19), (4, eV (ad 9) x4_19), (0, eV (ad 6) x), (1, eV (ad 9) o), (2, .int sl), (3, .int dp)] → W p l e (headSpec wm_X5_workOut ({ frames := 26 + 8 * n9, cells := 1, slots := 6, locals := 760 + 260 * n9 })).room s m ([eV (ad 6) x, eV (ad 9) o, .int sl, .int dp] : List Value).toArray below meth c H locs 0 0 (vx_MQ below (cQx dC dI ad cid a2 lx (fun v u => v = none ∧ ∃ (sg2 : Nat → Int32) (gm2 : Nat → Nat → Int32) (lg2 : Nat → Nat → Int64), u = (sg2, gm2, lg2) ∧ CI sg2 gm2 ∧ KS [13, 14, 15, 16, 17, 18] sg sg2 ∧ KS [37, 38, 39, 48, 49, 50, 51, 52, 53] gm gm2 ∧ KS [] lg lg2 ∧ (MOK sg2 gm2 lg2) ∧ (FND9 sg2 gm2) ∧ (BMK gm gm2) ∧ (WFR (sl.toNatClampNeg) gm gm2) ∧ ((gm 25 o.toNatClampNeg).toInt = 6 ∨ (gm 25 o.toNatClampNeg).toInt = 7 ∨ (gm 25 o.toNatClampNeg).toInt = 9 ∨ iv 0 59 (gm2 52 sl.toNatClampNeg)) ∧ ((sg 14).toInt ≤ (sg2 14).toInt) ∧ (∃ V S2, oCon ws wg lg (oMK ws wg lg n9) o.toNatClampNeg S = (some V, S2) ∧ RC wg lg S2 sg2 gm2 ∧ VOK wg (zO S2) o.toNatClampNeg V ∧ WVL gm2 sl.toNatClampNeg V ∧ ((wg 25 o.toNatClampNeg).toInt = 6 → (wg 18 o.toNatClampNeg).toInt ≤ 6 ∧ (V.length : Int) = (wg 18 o.toNatClampNeg).toInt) ∧ V.length ≤ 6)) A) (cX dC dI ad cid a2 lx (fun E u => (E = "java/lang/UnsupportedOperationException") ∧ ∃ (sg2 : Nat → Int32) (gm2 : Nat → Nat → Int32) (lg2 : Nat → Nat → Int64), u = (sg2, gm2, lg2) ∧ CI sg2 gm2 ∧ KS [13, 14, 15, 16, 17, 18] sg sg2 ∧ KS [37, 38, 39, 48, 49, 50, 51, 52, 53] gm gm2 ∧ KS [] lg lg2 ∧ (MOK sg2 gm2 lg2) ∧ (FND9 sg2 gm2) ∧ (∃ S2, oCon ws wg lg (oMK ws wg lg n9) o.toNatClampNeg S = (none, S2) ∧ RC wg lg S2 sg2 gm2)) A) ([eV (ad 6) x, eV (ad 9) o, .int sl, .int dp] : List Value).toArray s 1 6 A) (F0 m 19 ls []) := by
    intro n
    induction n using Nat.strongRecOn with
    | ind n ih19 =>
      intro sg_j19 gm_j19 x5_19 x4_19 hn19 hx5_19 hx4_19 hsx0_19 hsx1_19 hsx2_19 hsx3_19 hks_j19 hkg_j19 hI_j19 hMOj hFNj hBMj hWFj hk19 hit h14j hIT H locs ls hP hD hS hl
      obtain ⟨acc9, Sj, hRj, hIj, hLj, hVj⟩ := hIT
      refine lv_iload hx hb dX5_workOut_19 (lv_at hl 0 rfl) ?_
      refine lv_bipush (v := 6) hx hb dX5_workOut_21 (by decide) ?_
      refine lv_icmp_ge (tgt := 60) hx hb dX5_workOut_23 (by decide) (fun c_1 => ?_) (fun c_1 => ?_)
      · have h_2 : iv 6 6 x5_19 := iv_leR c_1 (iv_k (by decide) : iv 6 6 6) hx5_19 (by decide)
        refine lv_goto (tgt := 95) hx hb dX5_workOut_60 (by decide) ?_
        exact W.nb (fun hN => W.widen (k := 1) (n := 6) (by decide) (by decide) (vx_ret (W.vret hx hb hr (fun t ht hW => ⟨⟨none, (sg_j19, gm_j19, lg), rfl, ⟨rfl, sg_j19, gm_j19, lg, rfl, hI_j19, (KS_tr (L := [13, 14, 15, 16, 17, 18]) KS_rf hks_j19 (by decide)), (KS_tr (L := [37, 38, 39, 48, 49, 50, 51, 52, 53]) KS_rf hkg_j19 (by decide)), KS_rf, (hMOj), (hFNj), (hBMj), (hWFj), (Or.inl hk19), (h14j), ((by have hk : (wg 25 o.toNatClampNeg).toInt = 6 := (by rw [(show wg 25 o.toNatClampNeg = gm 25 o.toNatClampNeg from sw9 hSW 25 rfl _)]; exact hk19); have hD := oIts_e hIj (by have := i32_0; have := i32_1; have := i32_2; have := i32_m1; have := (hsx0_19).1; have := (hsx0_19).2; have := (hsx1_19).1; have := (hsx1_19).2; have := (hsx2_19).1; have := (hsx2_19).2; have := (hsx3_19).1; have := (hsx3_19).2; have := (h_2).1; have := (h_2).2; have := (hx4_19).1; have := (hx4_19).2; have := (hx4_19).2; omega); have hl9_ := oIts_len _ _ _ _ _ hD; have hsv := hSV.1 _ (by have q1 := congrArg Int32.toNatClampNeg (ss9_4 hSS); rw [q1]; exact lt_cl hvo (show iv 0 80 (sg 4) from CI_s hI 4) (by decide) (by decide) hct.2.1) hk; have hle : (itC wg o.toNatClampNeg).length ≤ 6 := itL_le _ _; exact ⟨acc9, Sj, (by rw [oCon_l hk]; exact hD), hRj, Or.inl hk, hVj, fun _ => ⟨by omega, by rw [hsv, hl9_]; show ((0 + _ : Nat) : Int) = _; omega⟩, by rw [hl9_]; show 0 + _ ≤ 6; omega⟩))⟩, by rw [ht]; exact hP, va_K.moved hW.alike hK, hD⟩, hS.F ht, by rw [ht]; exact hN⟩) hS.2.2 dX5_workOut_95)))
      · have h_3 : iv 0 5 x5_19 := iv_ltL (i32_lt c_1) hx5_19 (iv_k (by decide) : iv 6 6 6) (by decide)
        refine ec_aload hx hb dX5_workOut_26 (lv_at hl 1 rfl) ?_
        refine ec_ifnull (tgt := 60) hx hb dX5_workOut_28 (by decide) (fun c_4 => ?_) (fun c_4 => ?_)
        · have h_5 : iv (-1) (-1) x4_19 := ⟨(hx4_19).1, by omega⟩
          refine lv_goto (tgt := 95) hx hb dX5_workOut_60 (by decide) ?_
          exact W.nb (fun hN => W.widen (k := 1) (n := 6) (by decide) (by decide) (vx_ret (W.vret hx hb hr (fun t ht hW => ⟨⟨none, (sg_j19, gm_j19, lg), rfl, ⟨rfl, sg_j19, gm_j19, lg, rfl, hI_j19, (KS_tr (L := [13, 14, 15, 16, 17, 18]) KS_rf hks_j19 (by decide)), (KS_tr (L := [37, 38, 39, 48, 49, 50, 51, 52, 53]) KS_rf hkg_j19 (by decide)), KS_rf, (hMOj), (hFNj), (hBMj), (hWFj), (Or.inl hk19), (h14j), ((by have hk : (wg 25 o.toNatClampNeg).toInt = 6 := (by rw [(show wg 25 o.toNatClampNeg = gm 25 o.toNatClampNeg from sw9 hSW 25 rfl _)]; exact hk19); have hD := oIts_e hIj (by have := i32_0; have := i32_1; have := i32_2; have := i32_m1; have := (hsx0_19).1; have := (hsx0_19).2; have := (hsx1_19).1; have := (hsx1_19).2; have := (hsx2_19).1; have := (hsx2_19).2; have := (hsx3_19).1; have := (hsx3_19).2; have := (h_3).1; have := (h_3).2; have := (h_5).1; have := (h_5).2; have := (h_5).2; omega); have hl9_ := oIts_len _ _ _ _ _ hD; have hsv := hSV.1 _ (by have q1 := congrArg Int32.toNatClampNeg (ss9_4 hSS); rw [q1]; exact lt_cl hvo (show iv 0 80 (sg 4) from CI_s hI 4) (by decide) (by decide) hct.2.1) hk; have hle : (itC wg o.toNatClampNeg).length ≤ 6 := itL_le _ _; exact ⟨acc9, Sj, (by rw [oCon_l hk]; exact hD), hRj, Or.inl hk, hVj, fun _ => ⟨by omega, by rw [hsv, hl9_]; show ((0 + _ : Nat) : Int) = _; omega⟩, by rw [hl9_]; show 0 + _ ≤ 6; omega⟩))⟩, by rw [ht]; exact hP, va_K.moved hW.alike hK, hD⟩, hS.F ht, by rw [ht]; exact hN⟩) hS.2.2 dX5_workOut_95)))
        · have h_6 : iv 0 79 x4_19 := ⟨c_4, (hx4_19).2⟩
          refine ec_aload_n hx hb dX5_workOut_31 rfl (lv_at hl 2 rfl) ?_
          refine cr_get (t := 6) (j := 8) (C := RX5) (T := TX5) (N := 13) (v := eV (ad 25) 0) hx hb htb inX5 hown hK hP hsx0_19 (by decide) (by decide) (by decide) rfl (by decide) (htb _ kw_128) (cV_c rfl (by decide) (by rw [show cMu 6 8 = 0 from rfl, Nat.zero_mul]; rfl)) dX5_workOut_32 ?_
          refine lv_iload_n hx hb dX5_workOut_35 rfl (lv_at hl 4 rfl) ?_
          refine lv_iload hx hb dX5_workOut_36 (lv_at hl 0 rfl) ?_
          refine lv_iadd hx hb dX5_workOut_38 ?_
          refine lv_topi (fun z_7 ez_7 => ?_)
          have hz_7 : iv 0 959 z_7 := iv_of ez_7 (iv_add hsx2_19 h_3 (by decide))
          have tz_7 : z_7.toInt = (sl : Int32).toInt + (x5_19 : Int32).toInt := by rw [ez_7]; exact iv_addE hsx2_19 h_3 (by decide)
          refine ec_aload_n hx hb dX5_workOut_39 rfl (lv_at hl 2 rfl) ?_
          refine ec_aload hx hb dX5_workOut_40 (lv_at hl 1 rfl) ?_
          refine lv_iload_n hx hb dX5_workOut_42 rfl (lv_at hl 5 rfl) ?_
          refine cm_callV (t := 6) (C := RX5) (T := TX5) (N := 13) (rest := [.int z_7, eV (ad 25) 0]) (as := [eV (ad 9) x4_19, .int dp]) ⟨hx, hb, hml, hown, htb⟩ (d_itemValue9 l dC dI ad cid a2 lx sg_j19 gm_j19 lg hl9 n9 HO HM x x4_19 dp wg ws Sj hI_j19 hsx0_19 h_6 hsx3_19 (WRD_e hW (hks_j19 4 (by decide)) (hks_j19 12 (by decide)) (hkg_j19 14 (by decide)) (hkg_j19 15 (by decide)) (hkg_j19 16 (by decide)) (hkg_j19 17 (by decide)) (hkg_j19 19 (by decide)) (hkg_j19 20 (by decide)) (hkg_j19 22 (by decide)) (hkg_j19 25 (by decide)) (hkg_j19 26 (by decide)) (hkg_j19 27 (by decide)) (hkg_j19 29 (by decide)) (hkg_j19 41 (by decide)) (hkg_j19 44 (by decide)) (hkg_j19 45 (by decide)) (hkg_j19 46 (by decide)) (hkg_j19 57 (by decide)) rfl rfl) (LDI_e hLD (hkg_j19 41 (by decide)) (hkg_j19 42 (by decide)) (hkg_j19 57 (by decide))) hMOj hFNj (by rw [show sg_j19 4 = sg 4 from (hks_j19 4 (by decide))]; exact (hit (h_6).1).1) (BOK_e (BOK_it hI hW hct.1 (hct.2.2.2.1 hk19) (h_6).1 (hit (h_6).1).1 (hit (h_6).1).2) (hks_j19 12 (by decide)) (hkg_j19 27 (by decide)) rfl) (by have := i32_0; have := i32_1; have := i32_2; have := i32_m1; have := (hsx0_19).1; have := (hsx0_19).2; have := (hsx1_19).1; have := (hsx1_19).2; have := (hsx2_19).1; have := (hsx2_19).2; have := (hsx3_19).1; have := (hsx3_19).2; have := (h_3).1; have := (h_3).2; have := (h_6).1; have := (h_6).2; have := (hz_7).1; have := (hz_7).2; omega) ((st9_ks (L := [37, 38, 39, 48, 49, 50, 51, 52, 53]) (KS_tr (L := [37, 38, 39, 48, 49, 50, 51, 52, 53]) KS_rf hkg_j19 (by decide)) (by decide)).trans hSW) ((ss9_ks (L := [13, 14, 15, 16, 17, 18]) (KS_tr (L := [13, 14, 15, 16, 17, 18]) KS_rf hks_j19 (by decide)) rfl rfl).trans hSS) hSV hRj) (cwV 2 htb (gd_V kw_1132 kw_1133 kw_1134 kw_40 kw_1582) rfl rfl rfl (by decide +kernel) ⟨(show 25 + 8 * n9 + 1 ≤ 26 + 8 * n9 from by omega), (show 8 + (3 + 11) + (720 + 260 * n9) ≤ 760 + 260 * n9 from by omega)⟩) hsx0_19 (by decide) (by decide) rfl rfl hl.1 rfl (Nat.le_trans (cs_c (cat_i _) (cs_c (eV_cat _ _) cs_n)) (by decide)) dX5_workOut_43 ⟨Nat.le_of_ble_eq_true rfl, Nat.le_of_ble_eq_true rfl⟩ hK hP hD hS hA hG (fun E ce q9 u_9 H locs hw hP hD hS hce hcv hcl => ?_) (fun v9 u_9 H locs hw hP hD hS => ?_)
          · obtain ⟨hE, hw⟩ := hw
            obtain ⟨sgv_10, gmv_10, lgv_10, rfl, hIv_10, ksv_10, kgv_10, klv_10, xMO_v_10, xFN_v_10, xI_v_10⟩ := hw
            obtain rfl := KS_nil klv_10
            have hP : va_P (dC, dI) vwCl (cW ad cid a2 lx sgv_10 gmv_10 lg) H := hP
            have hD : va_D A (cW ad cid a2 lx sgv_10 gmv_10 lg) := hD
            exact vx_out (fun x hx9 => (hxt x hx9).elim) hlocks hce hcv hcl (fun t ht hal => ⟨⟨(sgv_10, gmv_10, lg), ⟨hE, sgv_10, gmv_10, lg, rfl, hIv_10, (KS_tr (L := [13, 14, 15, 16, 17, 18]) (KS_tr (L := [13, 14, 15, 16, 17, 18]) KS_rf hks_j19 (by decide)) ksv_10 (by decide)), (KS_tr (L := [37, 38, 39, 48, 49, 50, 51, 52, 53]) (KS_tr (L := [37, 38, 39, 48, 49, 50, 51, 52, 53]) KS_rf hkg_j19 (by decide)) kgv_10 (by decide)), KS_rf, (xMO_v_10), (xFN_v_10), ((by have hk : (wg 25 o.toNatClampNeg).toInt = 6 := (by rw [(show wg 25 o.toNatClampNeg = gm 25 o.toNatClampNeg from sw9 hSW 25 rfl _)]; exact hk19); obtain ⟨S2, h1, h2⟩ := xI_v_10; exact ⟨S2, (by rw [oCon_l hk]; exact oIts_x hIj (show iv 0 5 x5_19 from h_3) (h_6).1 h1), h2⟩))⟩, by rw [ht]; exact hP, va_K.moved hal hK, hD⟩, hS.F ht⟩) hS.2.2 (Nat.le_of_ble_eq_true rfl) (Nat.le_of_ble_eq_true rfl)
          obtain ⟨r_8, rfl, sgv_11, gmv_11, lgv_11, rfl, hIv_11, ksv_11, kgv_11, klv_11, fMO_r_8, fFN_r_8, fBM_r_8, fWF_r_8, f14_r_8, fI_r_8⟩ := hw
          obtain rfl := KS_nil klv_11
          have hP : va_P (dC, dI) vwCl (cW ad cid a2 lx sgv_11 gmv_11 lg) H := hP
          have hD : va_D A (cW ad cid a2 lx sgv_11 gmv_11 lg) := hD
          refine W.eq (g2 := F0 m 46 ls [.int r_8, .int z_7, eV (ad 25) 0]) rfl ?_
          have bm_r_8 := BMK_t hBMj fBM_r_8
          have wf_r_8 : WFR (sl.toNatClampNeg) gm gmv_11 := WFR_t hWFj fWF_r_8 (by have qs : sl.toNatClampNeg = sl.toInt.toNat := rfl; have qd : dp.toNatClampNeg = dp.toInt.toNat := rfl; have := i32_0; have := i32_1; have := i32_2; have := i32_m1; have := (hsx0_19).1; have := (hsx0_19).2; have := (hsx1_19).1; have := (hsx1_19).2; have := (hsx2_19).1; have := (hsx2_19).2; have := (hsx3_19).1; have := (hsx3_19).2; have := (h_3).1; have := (h_3).2; have := (h_6).1; have := (h_6).2; have := (hz_7).1; have := (hz_7).2; omega)
          obtain ⟨S_r_8, hE_r_8, hR_r_8⟩ := fI_r_8
          have m14_r_8 : (sg 14).toInt ≤ (sgv_11 14).toInt := Int.le_trans h14j f14_r_8
          refine cr_iast (t := 25) (k := 52) (n9 := (z_7 : Int32).toNatClampNeg) (z := r_8) hx hb hK hP hD hS (iv_k (by decide) : iv 0 0 0) (by decide) (by decide) (by decide) rfl rfl rfl (show vp_in z_7 (cLen 25) from (show vp_in z_7 960 from (iv_in hz_7 (by decide)))) (Or.inl rfl) (by rw [show cAw 25 = 0 from rfl, Nat.zero_mul, Nat.zero_add]) dX5_workOut_46 (fun gm_12 H locs egm_12 hP hD hS => ?_)
          have hI_gm_12 := CI_st hIv_11 egm_12 (iv_all r_8) (by decide)
          have wu_13 : WFR (sl.toNatClampNeg) gm gm_12 := WFR_u wf_r_8 (up_at egm_12) (by have q1 : z_7.toNatClampNeg = z_7.toInt.toNat := rfl; have qs : sl.toNatClampNeg = sl.toInt.toNat := rfl; have qd : dp.toNatClampNeg = dp.toInt.toNat := rfl; have := i32_0; have := i32_1; have := i32_2; have := i32_m1; have := (hsx0_19).1; have := (hsx0_19).2; have := (hsx1_19).1; have := (hsx1_19).2; have := (hsx2_19).1; have := (hsx2_19).2; have := (hsx3_19).1; have := (hsx3_19).2; have := (h_3).1; have := (h_3).2; have := (h_6).1; have := (h_6).2; have := (hz_7).1; have := (hz_7).2; omega)
          refine ec_aload hx hb dX5_workOut_47 (lv_at hl 1 rfl) ?_
          refine cr_get (t := 9) (j := 7) (C := RX3) (T := TX3) (N := 21) (v := eV (ad 9) (gm_12 17 x4_19.toNatClampNeg)) hx hb htb inX3 hown hK hP h_6 (by decide) (by decide) (by decide) rfl (by decide) (htb _ kw_1129) rfl dX5_workOut_49 ?_
          obtain ⟨z_14, ez_14⟩ : ∃ z : Int32, z = (gm_12 17 x4_19.toNatClampNeg) := ⟨_, rfl⟩
          refine W.eq (g2 := F0 m 52 ls [eV (ad 9) z_14]) (by rw [ez_14]) ?_
          have hz_14 : iv (-1) 79 z_14 := iv_of ez_14 (CI_a hI_gm_12 17 h_6 (by decide))
          have ez_14 := ez_14.trans (congrFun (Eq.trans (Eq.trans (up_ne egm_12 (by decide)) (kgv_11 17 (by decide))) (hkg_j19 17 (by decide))) _)
          refine ec_astore (i := 4) (lv' := [(4, eV (ad 9) z_14), (5, .int x5_19), (0, eV (ad 6) x), (1, eV (ad 9) o), (2, .int sl), (3, .int dp)]) hx hb dX5_workOut_52 hl (by decide) rfl (fun ls hl => ?_)
          obtain ⟨z_15, ez_15⟩ : ∃ z : Int32, z = x5_19 + 1 := ⟨_, rfl⟩
          have hz_15 : iv 1 6 z_15 := iv_of ez_15 (iv_add h_3 (iv_k (by decide) : iv 1 1 1) (by decide))
          have tz_15 : z_15.toInt = x5_19.toInt + 1 := by rw [ez_15]; exact iv_addE h_3 (iv_k (by decide) : iv 1 1 1) (by decide)
          refine lv_iinc (v := z_15) (lv' := [(5, .int z_15), (4, eV (ad 9) z_14), (0, eV (ad 6) x), (1, eV (ad 9) o), (2, .int sl), (3, .int dp)]) hx hb dX5_workOut_54 hl (k := 1) rfl ez_15.symm (by decide) (by simp [List.filter, eV_cat, cat_i, cat_l]) (fun ls hl => ?_)
          refine lv_goto (tgt := 19) hx hb dX5_workOut_57 (by decide) ?_
          exact ih19 _ (by rw [← hn19]; exact (iv_meas tz_15 h_3 (by decide))) sgv_11 gm_12 z_15 z_14 rfl (iv_w hz_15 (by decide)) hz_14 hsx0_19 hsx1_19 hsx2_19 hsx3_19 (KS_tr (L := [13, 14, 15, 16, 17, 18]) (KS_tr (L := [13, 14, 15, 16, 17, 18]) KS_rf hks_j19 (by decide)) ksv_11 (by decide)) (KS_up (KS_tr (L := [37, 38, 39, 48, 49, 50, 51, 52, 53]) (KS_tr (L := [37, 38, 39, 48, 49, 50, 51, 52, 53]) KS_rf hkg_j19 (by decide)) kgv_11 (by decide)) egm_12 (by decide)) hI_gm_12 ((MOK_e fMO_r_8 rfl (show gm_12 35 = gmv_11 35 from (up_ne egm_12 (by decide))) (show gm_12 38 = gmv_11 38 from (up_ne egm_12 (by decide))) (show gm_12 39 = gmv_11 39 from (up_ne egm_12 (by decide))) rfl)) ((FND9_e fFN_r_8 rfl (show gm_12 51 = gmv_11 51 from (up_ne egm_12 (by decide))))) ((BMK_t bm_r_8 (BMK_e (show gm_12 37 = gmv_11 37 from (up_ne egm_12 (by decide))) (show gm_12 39 = gmv_11 39 from (up_ne egm_12 (by decide)))))) (wu_13) (hk19) (fun q9 => by { have h9 := hit ((h_6).1); have h8 := hW.1 _ (lt_cl h_6 (show iv 0 80 (sg 4) from CI_s hI 4) (by decide) (by decide) h9.1); rw [ez_14] at q9 ⊢; exact ⟨h8.2.2.1, by rw [h8.2.2.2.2 q9]; exact h9.2⟩ }) (m14_r_8) (⟨acc9 ++ [r_8.toInt], S_r_8, (RC_ks (L := []) (M := [52]) hR_r_8 KS_rf (KS_up KS_rf egm_12 (by decide)) (by decide) (by decide)), oIts_st hIj (show iv 0 5 x5_19 from h_3) (h_6).1 hE_r_8 (swt9 hSW ez_14 rfl).symm tz_15, (by rw [List.length_append, List.length_singleton, hLj]; have c1 := cln9 (u := x5_19) (h_3).1; have c2 := cln9 hvsl.1; have c3 := cln9 hvdp.1; have c4 : (z_7 : Int32).toNatClampNeg = (z_7 : Int32).toInt.toNat := rfl; have c5 : z_15.toNatClampNeg = z_15.toInt.toNat := rfl; have := i32_0; have := i32_1; have := i32_2; have := i32_m1; have := (hsx0_19).1; have := (hsx0_19).2; have := (hsx1_19).1; have := (hsx1_19).2; have := (hsx2_19).1; have := (hsx2_19).2; have := (hsx3_19).1; have := (hsx3_19).2; have := (h_3).1; have := (h_3).2; have := (h_6).1; have := (h_6).2; have := (hz_7).1; have := (hz_7).2; have := (hz_14).1; have := (hz_14).2; have := (hz_15).1; have := (hz_15).2; omega), WVL_a hVj (show WFR (24 * dp.toNatClampNeg + 24) gm_j19 _ from fWF_r_8) (by rw [hLj]; have c1 := cln9 (u := x5_19) (h_3).1; have c2 := cln9 hvsl.1; have c3 := cln9 hvdp.1; have c4 : (z_7 : Int32).toNatClampNeg = (z_7 : Int32).toInt.toNat := rfl; have := i32_0; have := i32_1; have := i32_2; have := i32_m1; have := (hsx0_19).1; have := (hsx0_19).2; have := (hsx1_19).1; have := (hsx1_19).2; have := (hsx2_19).1; have := (hsx2_19).2; have := (hsx3_19).1; have := (hsx3_19).2; have := (h_3).1; have := (h_3).2; have := (h_6).1; have := (h_6).2; have := (hz_7).1; have := (hz_7).2; have := (hz_14).1; have := (hz_14).2; have := (hz_15).1; have := (hz_15).2; omega) (up_at egm_12) (by rw [hLj]; have c1 := cln9 (u := x5_19) (h_3).1; have c2 := cln9 hvsl.1; have c3 := cln9 hvdp.1; have c4 : (z_7 : Int32).toNatClampNeg = (z_7 : Int32).toInt.toNat := rfl; have := i32_0; have := i32_1; have := i32_2; have := i32_m1; have := (hsx0_19).1; have := (hsx0_19).2; have := (hsx1_19).1; have := (hsx1_19).2; have := (hsx2_19).1; have := (hsx2_19).2; have := (hsx3_19).1; have := (hsx3_19).2; have := (h_3).1; have := (h_3).2; have := (h_6).1; have := (h_6).2; have := (hz_7).1; have := (hz_7).2; have := (hz_14).1; have := (hz_14).2; have := (hz_15).1; have := (hz_15).2; omega)⟩) _ _ _ hP hD hS (lv_sub hl [0, 1, 2, 3, 4, 5] rfl)
  refine ec_aload_n hx hb dX5_workOut_0 rfl (lv_at hl 1 rfl) ?_
  refine cr_get (t := 9) (j := 18) (C := RX3) (T := TX3) (N := 21) (v := eV (ad 33) (gm 25 o.toNatClampNeg)) hx hb htb inX3 hown hK hP hvo (by decide) (by decide) (by decide) rfl (by decide) (htb _ kw_1041) rfl dX5_workOut_1 ?_
  obtain ⟨z_16, ez_16⟩ : ∃ z : Int32, z = (gm 25 o.toNatClampNeg) := ⟨_, rfl⟩
  refine W.eq (g2 := F0 m 4 ls [eV (ad 33) z_16]) (by rw [ez_16]) ?_
  have hz_16 : iv (-1) 33 z_16 := iv_of ez_16 (CI_a hI 25 hvo (by decide))
  refine cw_word (k := 6) (kx := 6) hx hb hG hS (by decide) rfl ⟨by decide, by decide⟩ hown (htb _ kw_1058) dX5_workOut_4 ?_
  refine ec_acmp_ne (tgt := 63) hx hb dX5_workOut_7 (by decide) (fun c_17 => ?_) (fun c_17 => ?_)
  · have wc_17 : ¬ z_16.toInt = (6 : Int) := fun q9 => c_17 (congrArg (er (ad 33)) (Int32.toInt_inj.mp q9))
    refine ec_aload_n hx hb dX5_workOut_63 rfl (lv_at hl 1 rfl) ?_
    refine cr_get (t := 9) (j := 18) (C := RX3) (T := TX3) (N := 21) (v := eV (ad 33) (gm 25 o.toNatClampNeg)) hx hb htb inX3 hown hK hP hvo (by decide) (by decide) (by decide) rfl (by decide) (htb _ kw_1041) rfl dX5_workOut_64 ?_
    refine W.eq (g2 := F0 m 67 ls [eV (ad 33) z_16]) (by rw [show (gm 25 o.toNatClampNeg) = z_16 from ez_16.symm]) ?_
    refine cw_word (k := 8) (kx := 8) hx hb hG hS (by decide) rfl ⟨by decide, by decide⟩ hown (htb _ kw_1130) dX5_workOut_67 ?_
    refine ec_acmp_eq (tgt := 83) hx hb dX5_workOut_70 (by decide) (fun c_18 => ?_) (fun c_18 => ?_)
    · have wc_18 : z_16.toInt = (8 : Int) := er_wd hG hz_16 (iv_w (iv_k (by decide) : iv 8 8 8) (by decide)) c_18
      refine ec_aload_n hx hb dX5_workOut_83 rfl (lv_at hl 0 rfl) ?_
      refine cr_get (t := 6) (j := 8) (C := RX5) (T := TX5) (N := 13) (v := eV (ad 25) 0) hx hb htb inX5 hown hK hP hvx (by decide) (by decide) (by decide) rfl (by decide) (htb _ kw_128) (cV_c rfl (by decide) (by rw [show cMu 6 8 = 0 from rfl, Nat.zero_mul]; rfl)) dX5_workOut_84 ?_
      refine lv_iload_n hx hb dX5_workOut_87 rfl (lv_at hl 2 rfl) ?_
      refine ec_aload_n hx hb dX5_workOut_88 rfl (lv_at hl 0 rfl) ?_
      refine ec_aload_n hx hb dX5_workOut_89 rfl (lv_at hl 1 rfl) ?_
      refine lv_iload_n hx hb dX5_workOut_90 rfl (lv_at hl 3 rfl) ?_
      refine cm_callV (t := 6) (C := RX5) (T := TX5) (N := 13) (rest := [.int sl, eV (ad 25) 0]) (as := [eV (ad 9) o, .int dp]) ⟨hx, hb, hml, hown, htb⟩ (d_objectOf9 l dC dI ad cid a2 lx sg gm lg hl9 n9 HO HM x o dp wg ws S hI hvx hvo hvdp hW hLD hMO hFN (by rw [show sg 4 = sg 4 from rfl]; exact hct.2.1) hct.2.2.2.2 (by have := i32_0; have := i32_1; have := i32_2; have := i32_m1; have := (hvx).1; have := (hvx).2; have := (hvo).1; have := (hvo).2; have := (hvsl).1; have := (hvsl).2; have := (hvdp).1; have := (hvdp).2; have := (hz_16).1; have := (hz_16).2; omega) hSW hSS hSV hRC) (cwV 2 htb (gd_V kw_1071 kw_1072 kw_1073 kw_40 kw_1593) rfl rfl rfl (by decide +kernel) ⟨(show 24 + 8 * n9 + 1 ≤ 26 + 8 * n9 from by omega), (show 8 + (3 + 11) + (680 + 260 * n9) ≤ 760 + 260 * n9 from by omega)⟩) hvx (by decide) (by decide) rfl rfl hl.1 rfl (Nat.le_trans (cs_c (cat_i _) (cs_c (eV_cat _ _) cs_n)) (by decide)) dX5_workOut_91 ⟨Nat.le_of_ble_eq_true rfl, Nat.le_of_ble_eq_true rfl⟩ hK hP hD hS hA hG (fun E ce q9 u_20 H locs hw hP hD hS hce hcv hcl => ?_) (fun v9 u_20 H locs hw hP hD hS => ?_)
      · obtain ⟨hE, hw⟩ := hw
        obtain ⟨sgv_21, gmv_21, lgv_21, rfl, hIv_21, ksv_21, kgv_21, klv_21, xMO_v_21, xFN_v_21, xO_v_21⟩ := hw
        obtain rfl := KS_nil klv_21
        have hP : va_P (dC, dI) vwCl (cW ad cid a2 lx sgv_21 gmv_21 lg) H := hP
        have hD : va_D A (cW ad cid a2 lx sgv_21 gmv_21 lg) := hD
        exact vx_out (fun x hx9 => (hxt x hx9).elim) hlocks hce hcv hcl (fun t ht hal => ⟨⟨(sgv_21, gmv_21, lg), ⟨hE, sgv_21, gmv_21, lg, rfl, hIv_21, (KS_tr (L := [13, 14, 15, 16, 17, 18]) KS_rf ksv_21 (by decide)), (KS_tr (L := [37, 38, 39, 48, 49, 50, 51, 52, 53]) KS_rf kgv_21 (by decide)), KS_rf, (xMO_v_21), (xFN_v_21), ((by have hk : (wg 25 o.toNatClampNeg).toInt = 8 ∨ (wg 25 o.toNatClampNeg).toInt = 2 := (by rw [(show wg 25 o.toNatClampNeg = gm 25 o.toNatClampNeg from sw9 hSW 25 rfl _)]; have q7 : ¬ ((gm 25 o.toNatClampNeg).toInt = 6) := (by rw [← ez_16]; exact wc_17); have q70 : ((gm 25 o.toNatClampNeg).toInt = 8) := (by rw [← ez_16]; exact wc_18); omega); obtain ⟨S2, h1, h2⟩ := xO_v_21; exact ⟨S2, oCon_x hk h1, h2⟩))⟩, by rw [ht]; exact hP, va_K.moved hal hK, hD⟩, hS.F ht⟩) hS.2.2 (Nat.le_of_ble_eq_true rfl) (Nat.le_of_ble_eq_true rfl)
      obtain ⟨r_19, rfl, sgv_22, gmv_22, lgv_22, rfl, hIv_22, ksv_22, kgv_22, klv_22, hr_19, fMO_r_19, fFN_r_19, fBM_r_19, fWF_r_19, f14_r_19, fr_r_19, fO_r_19⟩ := hw
      obtain rfl := KS_nil klv_22
      have hP : va_P (dC, dI) vwCl (cW ad cid a2 lx sgv_22 gmv_22 lg) H := hP
      have hD : va_D A (cW ad cid a2 lx sgv_22 gmv_22 lg) := hD
      refine W.eq (g2 := F0 m 94 ls [.int r_19, .int sl, eV (ad 25) 0]) rfl ?_
      have bm_r_19 := BMK_t BMK_rf fBM_r_19
      have wf_r_19 : WFR (sl.toNatClampNeg) gm gmv_22 := WFR_t WFR_rf fWF_r_19 (by have qs : sl.toNatClampNeg = sl.toInt.toNat := rfl; have qd : dp.toNatClampNeg = dp.toInt.toNat := rfl; have := i32_0; have := i32_1; have := i32_2; have := i32_m1; have := (hvx).1; have := (hvx).2; have := (hvo).1; have := (hvo).2; have := (hvsl).1; have := (hvsl).2; have := (hvdp).1; have := (hvdp).2; have := (hz_16).1; have := (hz_16).2; have := (hr_19).1; have := (hr_19).2; omega)
      obtain ⟨S_r_19, hE_r_19, hR_r_19⟩ := fO_r_19
      have m14_r_19 : (sg 14).toInt ≤ (sgv_22 14).toInt := Int.le_trans (Int.le_refl _) f14_r_19
      refine cr_iast (t := 25) (k := 52) (n9 := (sl : Int32).toNatClampNeg) (z := r_19) hx hb hK hP hD hS (iv_k (by decide) : iv 0 0 0) (by decide) (by decide) (by decide) rfl rfl rfl (show vp_in sl (cLen 25) from (show vp_in sl 960 from (iv_in hvsl (by decide)))) (Or.inl rfl) (by rw [show cAw 25 = 0 from rfl, Nat.zero_mul, Nat.zero_add]) dX5_workOut_94 (fun gm_23 H locs egm_23 hP hD hS => ?_)
      have hI_gm_23 := CI_st hIv_22 egm_23 hr_19 (by decide)
      have wu_24 : WFR (sl.toNatClampNeg) gm gm_23 := WFR_u wf_r_19 (up_at egm_23) (by have q1 : sl.toNatClampNeg = sl.toInt.toNat := rfl; have qs : sl.toNatClampNeg = sl.toInt.toNat := rfl; have qd : dp.toNatClampNeg = dp.toInt.toNat := rfl; have := i32_0; have := i32_1; have := i32_2; have := i32_m1; have := (hvx).1; have := (hvx).2; have := (hvo).1; have := (hvo).2; have := (hvsl).1; have := (hvsl).2; have := (hvdp).1; have := (hvdp).2; have := (hz_16).1; have := (hz_16).2; have := (hr_19).1; have := (hr_19).2; omega)
      exact W.nb (fun hN => W.widen (k := 1) (n := 6) (by decide) (by decide) (vx_ret (W.vret hx hb hr (fun t ht hW => ⟨⟨none, (sgv_22, gm_23, lg), rfl, ⟨rfl, sgv_22, gm_23, lg, rfl, hI_gm_23, (KS_tr (L := [13, 14, 15, 16, 17, 18]) KS_rf ksv_22 (by decide)), (KS_up (KS_tr (L := [37, 38, 39, 48, 49, 50, 51, 52, 53]) KS_rf kgv_22 (by decide)) egm_23 (by decide)), KS_rf, ((MOK_e fMO_r_19 rfl (show gm_23 35 = gmv_22 35 from (up_ne egm_23 (by decide))) (show gm_23 38 = gmv_22 38 from (up_ne egm_23 (by decide))) (show gm_23 39 = gmv_22 39 from (up_ne egm_23 (by decide))) rfl)), ((FND9_e fFN_r_19 rfl (show gm_23 51 = gmv_22 51 from (up_ne egm_23 (by decide))))), ((BMK_t bm_r_19 (BMK_e (show gm_23 37 = gmv_22 37 from (up_ne egm_23 (by decide))) (show gm_23 39 = gmv_22 39 from (up_ne egm_23 (by decide)))))), (wu_24), (Or.inr (Or.inr (Or.inr (by rw [show gm_23 52 = _ from up_at egm_23, upd_at]; exact hr_19)))), (m14_r_19), ((by have q1 := trivial; have hk : (wg 25 o.toNatClampNeg).toInt = 8 ∨ (wg 25 o.toNatClampNeg).toInt = 2 := (by rw [(show wg 25 o.toNatClampNeg = gm 25 o.toNatClampNeg from sw9 hSW 25 rfl _)]; have q7 : ¬ ((gm 25 o.toNatClampNeg).toInt = 6) := (by rw [← ez_16]; exact wc_17); have q70 : ((gm 25 o.toNatClampNeg).toInt = 8) := (by rw [← ez_16]; exact wc_18); omega); have r14 := hR_r_19.1.1; have r15 := fr_r_19; have r16 := (hr_19).1; exact ⟨[r_19.toInt], S_r_19, oCon_o hk hE_r_19, (RC_ks (L := []) (M := [52]) hR_r_19 KS_rf (KS_up KS_rf egm_23 (by decide)) (by decide) (by decide)), Or.inr (Or.inr (Or.inr ⟨_, rfl, r16, by omega⟩)), WVL_1 (up_at egm_23) rfl, fun q => absurd q (by omega), (by show 1 ≤ 6; omega)⟩))⟩, by rw [ht]; exact hP, va_K.moved hW.alike hK, hD⟩, hS.F ht, by rw [ht]; exact hN⟩) hS.2.2 dX5_workOut_95)))
    · have wc_18 : ¬ z_16.toInt = (8 : Int) := fun q9 => c_18 (congrArg (er (ad 33)) (Int32.toInt_inj.mp q9))
      refine ec_aload_n hx hb dX5_workOut_73 rfl (lv_at hl 1 rfl) ?_
      refine cr_get (t := 9) (j := 18) (C := RX3) (T := TX3) (N := 21) (v := eV (ad 33) (gm 25 o.toNatClampNeg)) hx hb htb inX3 hown hK hP hvo (by decide) (by decide) (by decide) rfl (by decide) (htb _ kw_1041) rfl dX5_workOut_74 ?_
      refine W.eq (g2 := F0 m 77 ls [eV (ad 33) z_16]) (by rw [show (gm 25 o.toNatClampNeg) = z_16 from ez_16.symm]) ?_
      refine cw_word (k := 2) (kx := 2) hx hb hG hS (by decide) rfl ⟨by decide, by decide⟩ hown (htb _ kw_1131) dX5_workOut_77 ?_
      refine ec_acmp_ne (tgt := 95) hx hb dX5_workOut_80 (by decide) (fun c_25 => ?_) (fun c_25 => ?_)
      · have wc_25 : ¬ z_16.toInt = (2 : Int) := fun q9 => c_25 (congrArg (er (ad 33)) (Int32.toInt_inj.mp q9))
        exact W.nb (fun hN => W.widen (k := 1) (n := 6) (by decide) (by decide) (vx_ret (W.vret hx hb hr (fun t ht hW => ⟨⟨none, (sg, gm, lg), rfl, ⟨rfl, sg, gm, lg, rfl, hI, KS_rf, KS_rf, KS_rf, (hMO), (hFN), (BMK_rf), (WFR_rf), ((by have q0 := hct.2.2.1; have q7 : ¬ ((gm 25 o.toNatClampNeg).toInt = 6) := (by rw [← ez_16]; exact wc_17); have q70 : ¬ ((gm 25 o.toNatClampNeg).toInt = 8) := (by rw [← ez_16]; exact wc_18); have q80 : ¬ ((gm 25 o.toNatClampNeg).toInt = 2) := (by rw [← ez_16]; exact wc_25); omega)), ((Int.le_refl _)), ((by have q0 := hct.2.2.1; have q7 : ¬ ((gm 25 o.toNatClampNeg).toInt = 6) := (by rw [← ez_16]; exact wc_17); have q70 : ¬ ((gm 25 o.toNatClampNeg).toInt = 8) := (by rw [← ez_16]; exact wc_18); have q80 : ¬ ((gm 25 o.toNatClampNeg).toInt = 2) := (by rw [← ez_16]; exact wc_25); have h6 : ¬ (wg 25 o.toNatClampNeg).toInt = 6 := (by rw [(show wg 25 o.toNatClampNeg = gm 25 o.toNatClampNeg from sw9 hSW 25 rfl _)]; omega); have h8 : ¬ ((wg 25 o.toNatClampNeg).toInt = 8 ∨ (wg 25 o.toNatClampNeg).toInt = 2) := (by rw [(show wg 25 o.toNatClampNeg = gm 25 o.toNatClampNeg from sw9 hSW 25 rfl _)]; omega); exact ⟨[], S, oCon_t h6 h8, hRC, (by have h79 : (wg 25 o.toNatClampNeg).toInt = 7 ∨ (wg 25 o.toNatClampNeg).toInt = 9 := (by rw [(show wg 25 o.toNatClampNeg = gm 25 o.toNatClampNeg from sw9 hSW 25 rfl _)]; omega); exact Or.inr (h79.elim Or.inl (fun q => Or.inr (Or.inl q)))), WVL_0, fun q => absurd q h6, Nat.zero_le _⟩))⟩, by rw [ht]; exact hP, va_K.moved hW.alike hK, hD⟩, hS.F ht, by rw [ht]; exact hN⟩) hS.2.2 dX5_workOut_95)))
      · have wc_25 : z_16.toInt = (2 : Int) := er_wd hG hz_16 (iv_w (iv_k (by decide) : iv 2 2 2) (by decide)) c_25
        refine ec_aload_n hx hb dX5_workOut_83 rfl (lv_at hl 0 rfl) ?_
        refine cr_get (t := 6) (j := 8) (C := RX5) (T := TX5) (N := 13) (v := eV (ad 25) 0) hx hb htb inX5 hown hK hP hvx (by decide) (by decide) (by decide) rfl (by decide) (htb _ kw_128) (cV_c rfl (by decide) (by rw [show cMu 6 8 = 0 from rfl, Nat.zero_mul]; rfl)) dX5_workOut_84 ?_
        refine lv_iload_n hx hb dX5_workOut_87 rfl (lv_at hl 2 rfl) ?_
        refine ec_aload_n hx hb dX5_workOut_88 rfl (lv_at hl 0 rfl) ?_
        refine ec_aload_n hx hb dX5_workOut_89 rfl (lv_at hl 1 rfl) ?_
        refine lv_iload_n hx hb dX5_workOut_90 rfl (lv_at hl 3 rfl) ?_
        refine cm_callV (t := 6) (C := RX5) (T := TX5) (N := 13) (rest := [.int sl, eV (ad 25) 0]) (as := [eV (ad 9) o, .int dp]) ⟨hx, hb, hml, hown, htb⟩ (d_objectOf9 l dC dI ad cid a2 lx sg gm lg hl9 n9 HO HM x o dp wg ws S hI hvx hvo hvdp hW hLD hMO hFN (by rw [show sg 4 = sg 4 from rfl]; exact hct.2.1) hct.2.2.2.2 (by have := i32_0; have := i32_1; have := i32_2; have := i32_m1; have := (hvx).1; have := (hvx).2; have := (hvo).1; have := (hvo).2; have := (hvsl).1; have := (hvsl).2; have := (hvdp).1; have := (hvdp).2; have := (hz_16).1; have := (hz_16).2; omega) hSW hSS hSV hRC) (cwV 2 htb (gd_V kw_1071 kw_1072 kw_1073 kw_40 kw_1593) rfl rfl rfl (by decide +kernel) ⟨(show 24 + 8 * n9 + 1 ≤ 26 + 8 * n9 from by omega), (show 8 + (3 + 11) + (680 + 260 * n9) ≤ 760 + 260 * n9 from by omega)⟩) hvx (by decide) (by decide) rfl rfl hl.1 rfl (Nat.le_trans (cs_c (cat_i _) (cs_c (eV_cat _ _) cs_n)) (by decide)) dX5_workOut_91 ⟨Nat.le_of_ble_eq_true rfl, Nat.le_of_ble_eq_true rfl⟩ hK hP hD hS hA hG (fun E ce q9 u_27 H locs hw hP hD hS hce hcv hcl => ?_) (fun v9 u_27 H locs hw hP hD hS => ?_)
        · obtain ⟨hE, hw⟩ := hw
          obtain ⟨sgv_28, gmv_28, lgv_28, rfl, hIv_28, ksv_28, kgv_28, klv_28, xMO_v_28, xFN_v_28, xO_v_28⟩ := hw
          obtain rfl := KS_nil klv_28
          have hP : va_P (dC, dI) vwCl (cW ad cid a2 lx sgv_28 gmv_28 lg) H := hP
          have hD : va_D A (cW ad cid a2 lx sgv_28 gmv_28 lg) := hD
          exact vx_out (fun x hx9 => (hxt x hx9).elim) hlocks hce hcv hcl (fun t ht hal => ⟨⟨(sgv_28, gmv_28, lg), ⟨hE, sgv_28, gmv_28, lg, rfl, hIv_28, (KS_tr (L := [13, 14, 15, 16, 17, 18]) KS_rf ksv_28 (by decide)), (KS_tr (L := [37, 38, 39, 48, 49, 50, 51, 52, 53]) KS_rf kgv_28 (by decide)), KS_rf, (xMO_v_28), (xFN_v_28), ((by have hk : (wg 25 o.toNatClampNeg).toInt = 8 ∨ (wg 25 o.toNatClampNeg).toInt = 2 := (by rw [(show wg 25 o.toNatClampNeg = gm 25 o.toNatClampNeg from sw9 hSW 25 rfl _)]; have q7 : ¬ ((gm 25 o.toNatClampNeg).toInt = 6) := (by rw [← ez_16]; exact wc_17); have q70 : ¬ ((gm 25 o.toNatClampNeg).toInt = 8) := (by rw [← ez_16]; exact wc_18); have q80 : ((gm 25 o.toNatClampNeg).toInt = 2) := (by rw [← ez_16]; exact wc_25); omega); obtain ⟨S2, h1, h2⟩ := xO_v_28; exact ⟨S2, oCon_x hk h1, h2⟩))⟩, by rw [ht]; exact hP, va_K.moved hal hK, hD⟩, hS.F ht⟩) hS.2.2 (Nat.le_of_ble_eq_true rfl) (Nat.le_of_ble_eq_true rfl)
        obtain ⟨r_26, rfl, sgv_29, gmv_29, lgv_29, rfl, hIv_29, ksv_29, kgv_29, klv_29, hr_26, fMO_r_26, fFN_r_26, fBM_r_26, fWF_r_26, f14_r_26, fr_r_26, fO_r_26⟩ := hw
        obtain rfl := KS_nil klv_29
        have hP : va_P (dC, dI) vwCl (cW ad cid a2 lx sgv_29 gmv_29 lg) H := hP
        have hD : va_D A (cW ad cid a2 lx sgv_29 gmv_29 lg) := hD
        refine W.eq (g2 := F0 m 94 ls [.int r_26, .int sl, eV (ad 25) 0]) rfl ?_
        have bm_r_26 := BMK_t BMK_rf fBM_r_26
        have wf_r_26 : WFR (sl.toNatClampNeg) gm gmv_29 := WFR_t WFR_rf fWF_r_26 (by have qs : sl.toNatClampNeg = sl.toInt.toNat := rfl; have qd : dp.toNatClampNeg = dp.toInt.toNat := rfl; have := i32_0; have := i32_1; have := i32_2; have := i32_m1; have := (hvx).1; have := (hvx).2; have := (hvo).1; have := (hvo).2; have := (hvsl).1; have := (hvsl).2; have := (hvdp).1; have := (hvdp).2; have := (hz_16).1; have := (hz_16).2; have := (hr_26).1; have := (hr_26).2; omega)
        obtain ⟨S_r_26, hE_r_26, hR_r_26⟩ := fO_r_26
        have m14_r_26 : (sg 14).toInt ≤ (sgv_29 14).toInt := Int.le_trans (Int.le_refl _) f14_r_26
        refine cr_iast (t := 25) (k := 52) (n9 := (sl : Int32).toNatClampNeg) (z := r_26) hx hb hK hP hD hS (iv_k (by decide) : iv 0 0 0) (by decide) (by decide) (by decide) rfl rfl rfl (show vp_in sl (cLen 25) from (show vp_in sl 960 from (iv_in hvsl (by decide)))) (Or.inl rfl) (by rw [show cAw 25 = 0 from rfl, Nat.zero_mul, Nat.zero_add]) dX5_workOut_94 (fun gm_30 H locs egm_30 hP hD hS => ?_)
        have hI_gm_30 := CI_st hIv_29 egm_30 hr_26 (by decide)
        have wu_31 : WFR (sl.toNatClampNeg) gm gm_30 := WFR_u wf_r_26 (up_at egm_30) (by have q1 : sl.toNatClampNeg = sl.toInt.toNat := rfl; have qs : sl.toNatClampNeg = sl.toInt.toNat := rfl; have qd : dp.toNatClampNeg = dp.toInt.toNat := rfl; have := i32_0; have := i32_1; have := i32_2; have := i32_m1; have := (hvx).1; have := (hvx).2; have := (hvo).1; have := (hvo).2; have := (hvsl).1; have := (hvsl).2; have := (hvdp).1; have := (hvdp).2; have := (hz_16).1; have := (hz_16).2; have := (hr_26).1; have := (hr_26).2; omega)
        exact W.nb (fun hN => W.widen (k := 1) (n := 6) (by decide) (by decide) (vx_ret (W.vret hx hb hr (fun t ht hW => ⟨⟨none, (sgv_29, gm_30, lg), rfl, ⟨rfl, sgv_29, gm_30, lg, rfl, hI_gm_30, (KS_tr (L := [13, 14, 15, 16, 17, 18]) KS_rf ksv_29 (by decide)), (KS_up (KS_tr (L := [37, 38, 39, 48, 49, 50, 51, 52, 53]) KS_rf kgv_29 (by decide)) egm_30 (by decide)), KS_rf, ((MOK_e fMO_r_26 rfl (show gm_30 35 = gmv_29 35 from (up_ne egm_30 (by decide))) (show gm_30 38 = gmv_29 38 from (up_ne egm_30 (by decide))) (show gm_30 39 = gmv_29 39 from (up_ne egm_30 (by decide))) rfl)), ((FND9_e fFN_r_26 rfl (show gm_30 51 = gmv_29 51 from (up_ne egm_30 (by decide))))), ((BMK_t bm_r_26 (BMK_e (show gm_30 37 = gmv_29 37 from (up_ne egm_30 (by decide))) (show gm_30 39 = gmv_29 39 from (up_ne egm_30 (by decide)))))), (wu_31), (Or.inr (Or.inr (Or.inr (by rw [show gm_30 52 = _ from up_at egm_30, upd_at]; exact hr_26)))), (m14_r_26), ((by have q1 := trivial; have hk : (wg 25 o.toNatClampNeg).toInt = 8 ∨ (wg 25 o.toNatClampNeg).toInt = 2 := (by rw [(show wg 25 o.toNatClampNeg = gm 25 o.toNatClampNeg from sw9 hSW 25 rfl _)]; have q7 : ¬ ((gm 25 o.toNatClampNeg).toInt = 6) := (by rw [← ez_16]; exact wc_17); have q70 : ¬ ((gm 25 o.toNatClampNeg).toInt = 8) := (by rw [← ez_16]; exact wc_18); have q80 : ((gm 25 o.toNatClampNeg).toInt = 2) := (by rw [← ez_16]; exact wc_25); omega); have r14 := hR_r_26.1.1; have r15 := fr_r_26; have r16 := (hr_26).1; exact ⟨[r_26.toInt], S_r_26, oCon_o hk hE_r_26, (RC_ks (L := []) (M := [52]) hR_r_26 KS_rf (KS_up KS_rf egm_30 (by decide)) (by decide) (by decide)), Or.inr (Or.inr (Or.inr ⟨_, rfl, r16, by omega⟩)), WVL_1 (up_at egm_30) rfl, fun q => absurd q (by omega), (by show 1 ≤ 6; omega)⟩))⟩, by rw [ht]; exact hP, va_K.moved hW.alike hK, hD⟩, hS.F ht, by rw [ht]; exact hN⟩) hS.2.2 dX5_workOut_95)))
  · have wc_17 : z_16.toInt = (6 : Int) := er_wd hG hz_16 (iv_w (iv_k (by decide) : iv 6 6 6) (by decide)) c_17
    refine ec_aload_n hx hb dX5_workOut_10 rfl (lv_at hl 1 rfl) ?_
    refine cr_get (t := 9) (j := 6) (C := RX3) (T := TX3) (N := 21) (v := eV (ad 9) (gm 16 o.toNatClampNeg)) hx hb htb inX3 hown hK hP hvo (by decide) (by decide) (by decide) rfl (by decide) (htb _ kw_1128) rfl dX5_workOut_11 ?_
    obtain ⟨z_32, ez_32⟩ : ∃ z : Int32, z = (gm 16 o.toNatClampNeg) := ⟨_, rfl⟩
    refine W.eq (g2 := F0 m 14 ls [eV (ad 9) z_32]) (by rw [ez_32]) ?_
    have hz_32 : iv (-1) 79 z_32 := iv_of ez_32 (CI_a hI 16 hvo (by decide))
    refine ec_astore (i := 4) (lv' := [(4, eV (ad 9) z_32), (0, eV (ad 6) x), (1, eV (ad 9) o), (2, .int sl), (3, .int dp)]) hx hb dX5_workOut_14 hl (by decide) rfl (fun ls hl => ?_)
    refine lv_iconst (v := 0) hx hb dX5_workOut_16 (by decide) ?_
    refine lv_istore (i := 5) (lv' := [(5, .int 0), (4, eV (ad 9) z_32), (0, eV (ad 6) x), (1, eV (ad 9) o), (2, .int sl), (3, .int dp)]) hx hb dX5_workOut_17 hl (by decide) (by simp [List.filter, eV_cat, cat_i, cat_l]) (fun ls hl => ?_)
    exact hj19 _ sg gm 0 z_32 rfl (iv_w (iv_k (by decide) : iv 0 0 0) (by decide)) hz_32 hvx hvo hvsl hvdp KS_rf KS_rf hI (hMO) (hFN) (BMK_rf) (WFR_rf) ((by rw [← ez_16]; exact wc_17)) (fun q9 => by { have h8 := hW.1 _ (lt_cl hvo (show iv 0 80 (sg 4) from CI_s hI 4) (by decide) (by decide) hct.2.1); rw [ez_32] at q9 ⊢; exact ⟨h8.2.1, by rw [h8.2.2.2.1 q9]; exact cl_0 hct.1⟩ }) ((Int.le_refl _)) (⟨[], S, hRC, (by unfold itC; rw [(swt9 hSW ez_32 rfl)]; rfl), rfl, WVL_0⟩) _ _ _ hP hD hS (lv_sub hl [0, 1, 2, 3, 4, 5] rfl)
end
section
def VAn (wg : Nat → Nat → Int32) (ob : List Ob9) (gm : Nat → Nat → Int32) (b dp : Nat) (vs : List (List Int)) (n : Nat) : Prop := vs.length = n ∧ ∀ i, i < n → VOK wg ob (ctE wg (wg 57 (128 * (3 * b) + i)).toNatClampNeg) ((vs[i]?).getD []) ∧ WVL gm (24 * dp + 6 * i) ((vs[i]?).getD []) ∧ ((wg 25 (ctE wg (wg 57 (128 * (3 * b) + i)).toNatClampNeg)).toInt = 6 → (wg 18 (ctE wg (wg 57 (128 * (3 * b) + i)).toNatClampNeg)).toInt ≤ 6 ∧ (((vs[i]?).getD []).length : Int) = (wg 18 (ctE wg (wg 57 (128 * (3 * b) + i)).toNatClampNeg)).toInt) ∧ ((vs[i]?).getD []).length ≤ 6
theorem VAn_0 {wg : Nat → Nat → Int32} {ob : List Ob9} {gm : Nat → Nat → Int32} {b dp : Nat} : VAn wg ob gm b dp [] 0 := ⟨rfl, fun i hi => absurd hi (Nat.not_lt_zero _)⟩
theorem VAn_s {wg : Nat → Nat → Int32} {ob1 ob2 : List Ob9} {gm1 gm2 : Nat → Nat → Int32} {b dp n d c : Nat} {vs : List (List Int)} {V : List Int} (h : VAn wg ob1 gm1 b dp vs n) (hl : ob1.length ≤ ob2.length) (hw : WFR d gm1 gm2) (hd : d = 24 * dp + 6 * n) (hc : ctE wg (wg 57 (128 * (3 * b) + n)).toNatClampNeg = c) (hv : VOK wg ob2 c V) (hwv : WVL gm2 d V) (h18 : (wg 25 c).toInt = 6 → (wg 18 c).toInt ≤ 6 ∧ (V.length : Int) = (wg 18 c).toInt) (h6 : V.length ≤ 6) : VAn wg ob2 gm2 b dp (vs ++ [V]) (n + 1) := by
  refine ⟨by rw [List.length_append, h.1]; rfl, fun i hi => ?_⟩
  by_cases e : i = n
  · subst e
    subst hd; subst hc
    have : ((vs ++ [V])[i]?).getD [] = V := by rw [List.getElem?_append_right (by rw [h.1]; exact Nat.le_refl _), h.1, Nat.sub_self]; rfl
    rw [this]
    exact ⟨hv, hwv, h18, h6⟩
  · have e1 : ((vs ++ [V])[i]?).getD [] = (vs[i]?).getD [] := by rw [List.getElem?_append_left (by rw [h.1]; omega)]
    rw [e1]
    obtain ⟨a1, a2, a3, a4⟩ := h.2 i (by omega)
    exact ⟨VOK_m a1 hl, WVL_f a2 hw (by omega), a3, a4⟩
theorem VAn_V {wg : Nat → Nat → Int32} {ob : List Ob9} {gm : Nat → Nat → Int32} {b dp n : Nat} {vs : List (List Int)} (h : VAn wg ob gm b dp vs n) (hn : (wg 41 (3 * b)).toNatClampNeg ≤ n) : VA wg ob gm b dp vs := fun i hi => by
  obtain ⟨a1, a2, a3, a4⟩ := h.2 i (by omega)
  exact ⟨a1, a2, a3⟩
theorem RC_le {wg : Nat → Nat → Int32} {lg lg2 : Nat → Nat → Int64} {S S2 : S9} {sg sg2 : Nat → Int32} {gm gm2 : Nat → Nat → Int32} (h : RC wg lg S sg gm) (h2 : RC wg lg2 S2 sg2 gm2) (hl : (sg 14).toInt ≤ (sg2 14).toInt) : (zO S).length ≤ (zO S2).length := by
  have a := h.1.1
  have b := h2.1.1
  omega
end
