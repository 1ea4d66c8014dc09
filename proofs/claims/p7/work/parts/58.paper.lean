theorem upd_or {f g : Nat → Int32} {i : Nat} {v : Int32} (h : f = upd g i v) (j : Nat) : f j = g j ∨ f j = v := by
  rw [h]
  by_cases q : j = i
  · right; rw [q, upd_at]
  · left; exact upd_ne q
theorem upd_or2 {f g : Nat → Int32} {i : Nat} {v : Int32} (h : f = upd g i v) (j : Nat) : f j = g j ∨ (f j = v ∧ j = i) := by
  rw [h]
  by_cases q : j = i
  · right; exact ⟨by rw [q, upd_at], q⟩
  · left; exact upd_ne q
/-- no element of the document has its bean yet -/
def BN (sg : Nat → Int32) (gm : Nat → Nat → Int32) : Prop := ∀ j, j < (sg 4).toNatClampNeg → gm 27 j = -1
theorem BN_new {sg sg2 : Nat → Int32} {gm gm2 : Nat → Nat → Int32} (h : BN sg gm) (h4 : (sg2 4).toInt = (sg 4).toInt + 1) (h0 : 0 ≤ (sg 4).toInt) (h27 : gm2 27 = upd (gm 27) (sg 4).toNatClampNeg (-1)) : BN sg2 gm2 := by
  have k1 := cl_0 h0
  have k2 := cl_0 (x := sg2 4) (by omega)
  intro j hj
  rw [h27]
  by_cases q : j = (sg 4).toNatClampNeg
  · rw [q, upd_at]
  · rw [upd_ne q]; exact h j (by omega)
theorem BN_e {sg sg2 : Nat → Int32} {gm gm2 : Nat → Nat → Int32} (h : BN sg gm) (h4 : sg2 4 = sg 4) (h27 : gm2 27 = gm 27) : BN sg2 gm2 := by
  unfold BN at *; rw [h4, h27]; exact h
theorem FA_new {sg sg2 : Nat → Int32} {gm gm2 : Nat → Nat → Int32} {fa : Int32} (h : FA sg gm) (h4 : (sg2 4).toInt = (sg 4).toInt + 1) (h0 : 0 ≤ (sg 4).toInt) (h5 : sg2 5 = sg 5) (h19 : gm2 19 = upd (gm 19) (sg 4).toNatClampNeg fa) (h20 : gm2 20 = upd (gm 20) (sg 4).toNatClampNeg 0) (hf : fa = sg 5) : FA sg2 gm2 := by
  have k1 := cl_0 h0
  have k2 := cl_0 (x := sg2 4) (by omega)
  intro j hj
  rw [h19, h20, h5]
  by_cases q : j = (sg 4).toNatClampNeg
  · rw [q, upd_at, upd_at, hf]; show _ + (0 : Int) ≤ _; omega
  · rw [upd_ne q, upd_ne q]; exact h j (by omega)
theorem LK_new {sg sg2 : Nat → Int32} {gm gm1 gm2 : Nat → Nat → Int32} {ar : Int32} (h : LK sg gm) (h4 : (sg2 4).toInt = (sg 4).toInt + 1) (h0 : 0 ≤ (sg 4).toInt) (ha : ar.toInt < (sg 4).toInt) (h15 : gm2 15 = upd (gm 15) (sg 4).toNatClampNeg ar) (h16 : gm1 16 = upd (gm 16) (sg 4).toNatClampNeg (-1)) (h17 : gm1 17 = upd (gm 17) (sg 4).toNatClampNeg (-1)) (g16 : ∀ j, gm2 16 j = gm1 16 j ∨ (gm2 16 j = sg 4 ∧ (j : Int) = ar.toInt)) (g17 : ∀ j, gm2 17 j = gm1 17 j ∨ (gm2 17 j = sg 4 ∧ gm2 15 j = ar)) : LK sg2 gm2 := by
  have k1 := cl_0 h0
  have k2 := cl_0 (x := sg2 4) (by omega)
  have i16 : ∀ j, j < (sg2 4).toNatClampNeg → (gm2 16 j).toInt < (sg2 4).toInt := fun j hj => by
    rcases g16 j with q | q
    · rw [q, h16]
      by_cases e9 : j = (sg 4).toNatClampNeg
      · rw [e9, upd_at]; show (-1 : Int) < _; omega
      · rw [upd_ne e9]; have := (h j (by omega)).2.1; omega
    · rw [q.1]; omega
  have i17 : ∀ j, j < (sg2 4).toNatClampNeg → (gm2 17 j).toInt < (sg2 4).toInt := fun j hj => by
    rcases g17 j with q | q
    · rw [q, h17]
      by_cases e9 : j = (sg 4).toNatClampNeg
      · rw [e9, upd_at]; show (-1 : Int) < _; omega
      · rw [upd_ne e9]; have := (h j (by omega)).2.2.1; omega
    · rw [q.1]; omega
  have i15 : ∀ j, j < (sg2 4).toNatClampNeg → 0 ≤ (gm2 16 j).toInt → (gm2 15 (gm2 16 j).toNatClampNeg).toInt = (j : Int) := fun j hj hp => by
    rcases g16 j with q | q
    · rw [q] at hp ⊢
      by_cases e9 : j = (sg 4).toNatClampNeg
      · rw [h16, e9, upd_at] at hp; exact absurd hp (by decide)
      · have q1 : gm1 16 j = gm 16 j := by rw [h16, upd_ne e9]
        rw [q1] at hp ⊢
        have q2 := h j (by omega)
        have q3 := cl_0 hp
        rw [h15, upd_ne (by have := q2.2.1; omega)]
        exact q2.2.2.2.1 hp
    · rw [q.1, h15, upd_at]; exact q.2.symm
  have j15 : ∀ j, j < (sg2 4).toNatClampNeg → 0 ≤ (gm2 17 j).toInt → gm2 15 (gm2 17 j).toNatClampNeg = gm2 15 j := fun j hj hp => by
    rcases g17 j with q | q
    · rw [q] at hp ⊢
      by_cases e9 : j = (sg 4).toNatClampNeg
      · rw [h17, e9, upd_at] at hp; exact absurd hp (by decide)
      · have q1 : gm1 17 j = gm 17 j := by rw [h17, upd_ne e9]
        rw [q1] at hp ⊢
        have q2 := h j (by omega)
        have q3 := cl_0 hp
        rw [h15, upd_ne (by have := q2.2.2.1; omega), upd_ne e9]
        exact q2.2.2.2.2 hp
    · rw [q.2, q.1, h15, upd_at]
  intro j hj
  refine ⟨?_, i16 j hj, i17 j hj, i15 j hj, j15 j hj⟩
  rw [h15]
  by_cases q : j = (sg 4).toNatClampNeg
  · rw [q, upd_at]; omega
  · rw [upd_ne q]; have := (h j (by omega)).1; omega
theorem FA_add {sg sg2 : Nat → Int32} {gm gm2 : Nat → Nat → Int32} {o v w : Int32} (h : FA sg gm) (ho : 0 ≤ o.toInt) (hl : o.toInt < (sg 4).toInt) (h4 : sg2 4 = sg 4) (h5 : (sg2 5).toInt = (sg 5).toInt + 1) (h19 : gm2 19 = gm 19) (h20 : gm2 20 = upd (gm 20) o.toNatClampNeg v) (hw : w = gm 20 o.toNatClampNeg) (hv : v.toInt = w.toInt + 1) : FA sg2 gm2 := by
  have k1 := cl_0 ho
  have k2 := cl_0 (x := sg 4) (by omega)
  intro j hj
  rw [h4] at hj
  rw [h19, h20]
  have := h j hj
  by_cases q : j = o.toNatClampNeg
  · rw [q, upd_at]; rw [q] at this; rw [hw] at hv; omega
  · rw [upd_ne q]; omega
theorem VS_add {sg sg2 : Nat → Int32} {gm gm2 : Nat → Nat → Int32} {v : Int32} (h : VS sg gm) (h0 : 0 ≤ (sg 5).toInt) (h5 : (sg2 5).toInt = (sg 5).toInt + 1) (h6 : sg2 6 = sg 6) (h44 : gm2 44 = upd (gm 44) (sg 5).toNatClampNeg v) (h45 : gm2 45 = upd (gm 45) (sg 5).toNatClampNeg 0) (hv : v = sg 6) : VS sg2 gm2 := by
  have k1 := cl_0 h0
  have k2 := cl_0 (x := sg2 5) (by omega)
  intro j hj
  rw [h44, h45, h6]
  by_cases q : j = (sg 5).toNatClampNeg
  · rw [q, upd_at, upd_at, hv]; show _ + (0 : Int) ≤ _; omega
  · rw [upd_ne q, upd_ne q]; exact h j (by omega)
theorem VS_take {sg sg2 : Nat → Int32} {gm gm2 : Nat → Nat → Int32} {a v w : Int32} (h : VS sg gm) (ha : 0 ≤ a.toInt) (hl : a.toInt < (sg 5).toInt) (h5 : sg2 5 = sg 5) (h6 : (sg2 6).toInt = (sg 6).toInt + 1) (h44 : gm2 44 = gm 44) (h45 : gm2 45 = upd (gm 45) a.toNatClampNeg v) (hw : w = gm 45 a.toNatClampNeg) (hv : v.toInt = w.toInt + 1) : VS sg2 gm2 := by
  have k1 := cl_0 ha
  have k2 := cl_0 (x := sg 5) (by omega)
  intro j hj
  rw [h5] at hj
  rw [h44, h45]
  have := h j hj
  by_cases q : j = a.toNatClampNeg
  · rw [q, upd_at]; rw [q] at this; rw [hw] at hv; omega
  · rw [upd_ne q]; omega
theorem VS_e {sg sg2 : Nat → Int32} {gm gm2 : Nat → Nat → Int32} (h : VS sg gm) (h5 : sg2 5 = sg 5) (h6 : sg2 6 = sg 6) (h44 : gm2 44 = gm 44) (h45 : gm2 45 = gm 45) : VS sg2 gm2 := by
  unfold VS at *; rw [h5, h6, h44, h45]; exact h
theorem FA_e {sg sg2 : Nat → Int32} {gm gm2 : Nat → Nat → Int32} (h : FA sg gm) (h4 : sg2 4 = sg 4) (h5 : sg2 5 = sg 5) (h19 : gm2 19 = gm 19) (h20 : gm2 20 = gm 20) : FA sg2 gm2 := by
  unfold FA at *; rw [h4, h5, h19, h20]; exact h
theorem LK_e {sg sg2 : Nat → Int32} {gm gm2 : Nat → Nat → Int32} (h : LK sg gm) (h4 : sg2 4 = sg 4) (h15 : gm2 15 = gm 15) (h16 : gm2 16 = gm 16) (h17 : gm2 17 = gm 17) : LK sg2 gm2 := by
  unfold LK at *; rw [h4, h15, h16, h17]; exact h
/-- the element has one small letter as the value of this attribute -/
def LVP (gm : Nat → Nat → Int32) (lg : Nat → Nat → Int64) (j : Nat) (k : Int64) : Prop := ∃ a, FND gm lg j k a ∧ 0 ≤ a.toInt ∧ (gm 45 a.toNatClampNeg).toInt = 1 ∧ 97 ≤ (gm 46 (gm 44 a.toNatClampNeg).toNatClampNeg).toInt ∧ (gm 46 (gm 44 a.toNatClampNeg).toNatClampNeg).toInt ≤ 122

set_option maxHeartbeats 4000000 in
set_option maxRecDepth 100000 in
theorem d_takesText (l : Launch) (dC : Nat → ClassId) (dI : Nat → Nat → Nat) (ad : Nat → Nat → Nat) (cid : Nat → ClassId) (a2 : Nat → Nat) (lx : List Nat) (sg : Nat → Int32) (gm : Nat → Nat → Int32) (lg : Nat → Nat → Int64) (x : Int32) (cc : Int32) (K9 : Nat) (hI : CI sg gm) (hvx : iv 0 79 x) (hvcc : iv 0 65535 cc) (hU12 : UB 12 K9 gm) (hU18 : UB 18 K9 gm) (hK9 : K9 ≤ 1999990) : CMt dC dI ad cid a2 lx l yX3_takesText wm_X3_takesText ({ frames := 1, cells := 1, slots := 6, locals := 21 }) [eV (ad 9) x, .int cc] sg gm lg (fun v u => ∃ r : Int32, v = some (.int r) ∧ ∃ (sg2 : Nat → Int32) (gm2 : Nat → Nat → Int32) (lg2 : Nat → Nat → Int64), u = (sg2, gm2, lg2) ∧ CI sg2 gm2 ∧ KS [] sg sg2 ∧ KS [11, 12, 56] gm gm2 ∧ KS [] lg lg2 ∧ (iv 0 1 r) ∧ (UB 12 (K9 + 1) gm2)) (fun _ _ => False) := by
  intro sz
  refine vx_ofW (cc := cX3_takesText) (maxL := 2) (ret := (some .boolean)) (by decide) rfl ?_
  intro p e s m args below meth c s₁ B hml hxt hv
  obtain ⟨rfl, hsz, hP, hK, hD0, hG⟩ := hv
  have hx := B.exec
  have hb := B.bytes
  have hr := B.returns
  have hts := atoms_spec (ws := wm_X3_takesText) B.pre
  have htb := fun (w : Cond) (h : w ∈ tb) => hts w (List.mem_cons_of_mem _ h)
  have hown : s.vm.findClass RX3 = some m.cls := findClass_of_methodNamed B.named
  have hlocks := B.notSynchronized
  subst hsz
  have hD := hD0.self (sz := s.heap.size)
  generalize hAe : va_A (cW ad cid a2 lx sg gm lg) s.heap.size = A at hD hG ⊢
  have hA : ∀ q : Nat, s.heap.size ≤ q → A q := fun q h => by rw [← hAe]; exact Or.inr h
  have hS : va_S A s.heap s.heap [] := va_S.rf
  have hl := lv_entry ([eV (ad 9) x, .int cc]) (n := 2) (by rw [show (lg_sl ([eV (ad 9) x, .int cc])).length = 2 from by simp [lg_sl, eV_cat, cat_i, cat_l]]; exact Nat.le_of_ble_eq_true rfl)
  rw [lg_entry_eq]
  generalize (lg_sl ([eV (ad 9) x, .int cc]) ++ List.replicate (2 - (lg_sl ([eV (ad 9) x, .int cc])).length) Slot.unset).toArray = ls at hl ⊢
  have hl : lv_has ls 2 [(0, eV (ad 9) x), (1, .int cc)] := by simp [lv_args, eV_cat, cat_i, cat_l] at hl; exact hl
  have hj12 : ∀ (_ : iv 0 79 x) (_ : iv 10 32 cc) (H : Heap) (locs : List Loc) (ls : Array Slot), va_P (dC, dI) vwCl (cW ad cid a2 lx sg gm lg) H → va_D A (cW ad cid a2 lx sg gm lg) → va_S A s.heap H locs → lv_has ls 2 [(0, eV (ad 9) x), (1, .int cc)] → W p l e (headSpec wm_X3_takesText ({ frames := 1, cells := 1, slots := 6, locals := 21 })).room s m ([eV (ad 9) x, .int cc] : List Value).toArray below meth c H locs 0 0 (vx_MQ below (cQx dC dI ad cid a2 lx (fun v u => ∃ r : Int32, v = some (.int r) ∧ ∃ (sg2 : Nat → Int32) (gm2 : Nat → Nat → Int32) (lg2 : Nat → Nat → Int64), u = (sg2, gm2, lg2) ∧ CI sg2 gm2 ∧ KS [] sg sg2 ∧ KS [11, 12, 56] gm gm2 ∧ KS [] lg lg2 ∧ (iv 0 1 r) ∧ (UB 12 (K9 + 1) gm2)) A) (cX dC dI ad cid a2 lx (fun _ _ => False) A) ([eV (ad 9) x, .int cc] : List Value).toArray s 1 6 A) (F0 m 12 ls []) := by
    intro  hsx0_12 hsx1_12 H locs ls hP hD hS hl
    refine ec_aload_n hx hb dX3_takesText_12 rfl (lv_at hl 0 rfl) ?_
    refine lv_iload_n hx hb dX3_takesText_13 rfl (lv_at hl 1 rfl) ?_
    refine cm_callV (t := 9) (C := RX3) (T := TX3) (N := 21) (rest := []) (as := [.int cc]) ⟨hx, hb, hml, hown, htb⟩ (d_takeWhite l dC dI ad cid a2 lx sg gm lg x cc K9 hI hsx0_12 (iv_w hsx1_12 (by decide)) hU12 hU18 hK9) (cwV 1 htb (gd_V kw_485 kw_486 kw_487 kw_66 kw_1453) rfl rfl rfl (by decide +kernel) ⟨Nat.le_of_ble_eq_true rfl, Nat.le_of_ble_eq_true rfl⟩) hsx0_12 (by decide) (by decide) rfl rfl hl.1 rfl (Nat.le_trans cs_n (by decide)) dX3_takesText_14 ⟨Nat.le_of_ble_eq_true rfl, Nat.le_of_ble_eq_true rfl⟩ hK hP hD hS hA hG (fun E ce q9 u_2 H locs hw hP hD hS hce hcv hcl => ?_) (fun v9 u_2 H locs hw hP hD hS => ?_)
    · exact hw.elim
    obtain ⟨rfl, sgv_3, gmv_3, lgv_3, rfl, hIv_3, ksv_3, kgv_3, klv_3, fU_r_1⟩ := hw
    obtain rfl := KS_nil ksv_3
    obtain rfl := KS_nil klv_3
    have hP : va_P (dC, dI) vwCl (cW ad cid a2 lx sg gmv_3 lg) H := hP
    have hD : va_D A (cW ad cid a2 lx sg gmv_3 lg) := hD
    refine W.eq (g2 := F0 m 17 ls []) rfl ?_
    refine lv_iconst (v := 1) hx hb dX3_takesText_17 (by decide) ?_
    exact W.nb (fun hN => W.widen (k := 1) (n := 6) (by decide) (by decide) (vx_ret (W.zret (v := 1) hx hb hr (iv_nb (iv_w (iv_k (by decide) : iv 1 1 1) (by decide))) (fun t ht hW => ⟨⟨some (.int 1), (sg, gmv_3, lg), rfl, ⟨1, rfl, sg, gmv_3, lg, rfl, hIv_3, KS_rf, (KS_tr (L := [11, 12, 56]) KS_rf kgv_3 (by decide)), KS_rf, (iv_w (iv_k (by decide) : iv 1 1 1) (by decide)), (fU_r_1)⟩, by rw [ht]; exact hP, va_K.moved hW.alike hK, hD⟩, hS.F ht, by rw [ht]; exact hN⟩) hS.2.2 dX3_takesText_18)))
  refine lv_iload_n hx hb dX3_takesText_0 rfl (lv_at hl 1 rfl) ?_
  refine lv_bipush (v := 10) hx hb dX3_takesText_1 (by decide) ?_
  refine lv_icmp_eq (tgt := 12) hx hb dX3_takesText_3 (by decide) (fun c_4 => ?_) (fun c_4 => ?_)
  · have h_5 : iv 10 10 cc := iv_eq c_4 hvcc (iv_k (by decide) : iv 10 10 10) (by decide)
    exact hj12 hvx (iv_w h_5 (by decide)) _ _ _ hP hD hS (lv_sub hl [0, 1] rfl)
  · have d_6 : ¬ (cc : Int32).toInt = 10 := lv_neT c_4 rfl
    refine lv_iload_n hx hb dX3_takesText_6 rfl (lv_at hl 1 rfl) ?_
    refine lv_bipush (v := 32) hx hb dX3_takesText_7 (by decide) ?_
    refine lv_icmp_ne (tgt := 19) hx hb dX3_takesText_9 (by decide) (fun c_7 => ?_) (fun c_7 => ?_)
    · have d_8 : ¬ (cc : Int32).toInt = 32 := lv_neT c_7 rfl
      refine ec_aload_n hx hb dX3_takesText_19 rfl (lv_at hl 0 rfl) ?_
      refine cr_get (t := 9) (j := 2) (C := RX3) (T := TX3) (N := 21) (v := .int (gm 12 x.toNatClampNeg)) hx hb htb inX3 hown hK hP hvx (by decide) (by decide) (by decide) rfl (by decide) (htb _ kw_382) rfl dX3_takesText_20 ?_
      obtain ⟨z_9, ez_9⟩ : ∃ z : Int32, z = (gm 12 x.toNatClampNeg) := ⟨_, rfl⟩
      refine W.eq (g2 := F0 m 23 ls [.int z_9]) (by rw [ez_9]) ?_
      have hz_9 : iv 0 2000000 z_9 := iv_of ez_9 (CI_a hI 12 hvx (by decide))
      refine lv_bipush (v := 24) hx hb dX3_takesText_23 (by decide) ?_
      refine lv_icmp_lt (tgt := 30) hx hb dX3_takesText_25 (by decide) (fun c_10 => ?_) (fun c_10 => ?_)
      · have h_11 : iv 0 23 z_9 := iv_ltL c_10 hz_9 (iv_k (by decide) : iv 24 24 24) (by decide)
        refine ec_aload_n hx hb dX3_takesText_30 rfl (lv_at hl 0 rfl) ?_
        refine cr_get (t := 9) (j := 0) (C := RX3) (T := TX3) (N := 21) (v := eV (ad 31) x) hx hb htb inX3 hown hK hP hvx (by decide) (by decide) (by decide) rfl (by decide) (htb _ kw_74) (cV_c rfl (hvx).1 (by rw [show cMu 9 0 = 1 from rfl, Nat.one_mul]; rfl)) dX3_takesText_31 ?_
        refine ec_aload_n hx hb dX3_takesText_34 rfl (lv_at hl 0 rfl) ?_
        refine cr_get (t := 9) (j := 2) (C := RX3) (T := TX3) (N := 21) (v := .int (gm 12 x.toNatClampNeg)) hx hb htb inX3 hown hK hP hvx (by decide) (by decide) (by decide) rfl (by decide) (htb _ kw_382) rfl dX3_takesText_35 ?_
        refine W.eq (g2 := F0 m 38 ls [.int z_9, eV (ad 31) x]) (by rw [show (gm 12 x.toNatClampNeg) = z_9 from ez_9.symm]) ?_
        refine lv_iload_n hx hb dX3_takesText_38 rfl (lv_at hl 1 rfl) ?_
        refine cr_cast (t := 31) (k := 56) (n9 := (24 * x.toNatClampNeg + (z_9 : Int32).toNatClampNeg)) (z := cc) hx hb hK hP hD hS hvx (by decide) (by decide) (by decide) rfl rfl rfl (show vp_in z_9 (cLen 31) from (show vp_in z_9 24 from (iv_in h_11 (by decide)))) (Or.inr (vin_lt (show vp_in z_9 (cLen 31) from (show vp_in z_9 24 from (iv_in h_11 (by decide)))))) rfl dX3_takesText_39 (fun gm_12 H locs egm_12 hP hD hS => ?_)
        rw [vnc hvcc] at egm_12
        have hI_gm_12 := CI_st hI egm_12 hvcc (by decide)
        refine ec_aload_n hx hb dX3_takesText_40 rfl (lv_at hl 0 rfl) ?_
        refine lv_dup hx hb dX3_takesText_41 (eV_cat _ _) ?_
        refine cr_get (t := 9) (j := 2) (C := RX3) (T := TX3) (N := 21) (v := .int (gm_12 12 x.toNatClampNeg)) hx hb htb inX3 hown hK hP hvx (by decide) (by decide) (by decide) rfl (by decide) (htb _ kw_382) rfl dX3_takesText_42 ?_
        refine W.eq (g2 := F0 m 45 ls [.int z_9, eV (ad 9) x]) (by rw [show (gm_12 12 x.toNatClampNeg) = z_9 from (Eq.trans (congrFun (up_ne egm_12 (by decide)) _) ez_9.symm)]) ?_
        refine lv_iconst (v := 1) hx hb dX3_takesText_45 (by decide) ?_
        refine lv_iadd hx hb dX3_takesText_46 ?_
        refine lv_topi (fun z_13 ez_13 => ?_)
        have hz_13 : iv 1 24 z_13 := iv_of ez_13 (iv_add h_11 (iv_k (by decide) : iv 1 1 1) (by decide))
        have tz_13 : z_13.toInt = (z_9 : Int32).toInt + 1 := by rw [ez_13]; exact iv_addE h_11 (iv_k (by decide) : iv 1 1 1) (by decide)
        refine cr_putg (t := 9) (j := 2) (C := RX3) (T := TX3) (N := 21) (ty0 := tyX3) (k := 12) (y := z_13) hx hb htb inX3 tyX3_ok nmX3 hown hK hP hD hS hvx (by decide) (by decide) (by decide) (by decide) rfl rfl (by decide) (htb _ kw_382) rfl (by show Value.int z_13 = Value.int (va_up gm_12 12 (upd (gm_12 12) x.toNatClampNeg z_13) 12 x.toNatClampNeg); rw [va_up_self, upd_at]) rfl rfl dX3_takesText_47 (fun gm_14 H locs egm_14 hP hD hS => ?_)
        have hI_gm_14 := CI_st hI_gm_12 egm_14 hz_13 (by decide)
        refine ec_aload_n hx hb dX3_takesText_50 rfl (lv_at hl 0 rfl) ?_
        refine ec_aload_n hx hb dX3_takesText_51 rfl (lv_at hl 0 rfl) ?_
        refine cr_get (t := 9) (j := 2) (C := RX3) (T := TX3) (N := 21) (v := .int (gm_14 12 x.toNatClampNeg)) hx hb htb inX3 hown hK hP hvx (by decide) (by decide) (by decide) rfl (by decide) (htb _ kw_382) rfl dX3_takesText_52 ?_
        refine W.eq (g2 := F0 m 55 ls [.int z_13, eV (ad 9) x]) (by rw [show (gm_14 12 x.toNatClampNeg) = z_13 from (Eq.trans (congrFun (up_at egm_14) _) upd_at)]) ?_
        refine cr_putg (t := 9) (j := 1) (C := RX3) (T := TX3) (N := 21) (ty0 := tyX3) (k := 11) (y := z_13) hx hb htb inX3 tyX3_ok nmX3 hown hK hP hD hS hvx (by decide) (by decide) (by decide) (by decide) rfl rfl (by decide) (htb _ kw_381) rfl (by show Value.int z_13 = Value.int (va_up gm_14 11 (upd (gm_14 11) x.toNatClampNeg z_13) 11 x.toNatClampNeg); rw [va_up_self, upd_at]) rfl rfl dX3_takesText_55 (fun gm_15 H locs egm_15 hP hD hS => ?_)
        have hI_gm_15 := CI_st hI_gm_14 egm_15 hz_13 (by decide)
        refine lv_iconst (v := 1) hx hb dX3_takesText_58 (by decide) ?_
        exact W.nb (fun hN => W.widen (k := 1) (n := 6) (by decide) (by decide) (vx_ret (W.zret (v := 1) hx hb hr (iv_nb (iv_w (iv_k (by decide) : iv 1 1 1) (by decide))) (fun t ht hW => ⟨⟨some (.int 1), (sg, gm_15, lg), rfl, ⟨1, rfl, sg, gm_15, lg, rfl, hI_gm_15, KS_rf, (KS_up (KS_up (KS_up KS_rf egm_12 (by decide)) egm_14 (by decide)) egm_15 (by decide)), KS_rf, (iv_w (iv_k (by decide) : iv 1 1 1) (by decide)), (UB_u hU12 (show gm_15 12 = upd (gm 12) (x : Int32).toNatClampNeg z_13 from ((up_ne egm_15 (by decide)).trans ((up_at egm_14).trans (by rw [show gm_12 12 = gm 12 from ((up_ne egm_12 (by decide)).trans rfl)])))) (by omega) (by have := tz_13; have q9 := hU12 x.toNatClampNeg (by have q1 := iv_cl hvx (by decide); have q2 := (hvx).2; omega); rw [← ez_9] at q9; omega))⟩, by rw [ht]; exact hP, va_K.moved hW.alike hK, hD⟩, hS.F ht, by rw [ht]; exact hN⟩) hS.2.2 dX3_takesText_59)))
      · have h_16 : iv 24 2000000 z_9 := iv_leR (i32_ge c_10) (iv_k (by decide) : iv 24 24 24) hz_9 (by decide)
        refine lv_iconst (v := 0) hx hb dX3_takesText_28 (by decide) ?_
        exact W.nb (fun hN => W.widen (k := 1) (n := 6) (by decide) (by decide) (vx_ret (W.zret (v := 0) hx hb hr (iv_nb (iv_w (iv_k (by decide) : iv 0 0 0) (by decide))) (fun t ht hW => ⟨⟨some (.int 0), (sg, gm, lg), rfl, ⟨0, rfl, sg, gm, lg, rfl, hI, KS_rf, KS_rf, KS_rf, (iv_w (iv_k (by decide) : iv 0 0 0) (by decide)), (UB_k hU12 rfl (by omega))⟩, by rw [ht]; exact hP, va_K.moved hW.alike hK, hD⟩, hS.F ht, by rw [ht]; exact hN⟩) hS.2.2 dX3_takesText_29)))
    · have h_17 : iv 32 32 cc := iv_eq c_7 hvcc (iv_k (by decide) : iv 32 32 32) (by decide)
      exact hj12 hvx (iv_w h_17 (by decide)) _ _ _ hP hD hS (lv_sub hl [0, 1] rfl)

set_option maxHeartbeats 4000000 in
set_option maxRecDepth 100000 in
theorem d_addInner (l : Launch) (dC : Nat → ClassId) (dI : Nat → Nat → Nat) (ad : Nat → Nat → Nat) (cid : Nat → ClassId) (a2 : Nat → Nat) (lx : List Nat) (sg : Nat → Int32) (gm : Nat → Nat → Int32) (lg : Nat → Nat → Int64) (x : Int32) (nn : Int32) (K9 : Nat) (hI : CI sg gm) (hvx : iv 0 79 x) (hvnn : iv 0 79 nn) (hU12 : UB 12 K9 gm) (hU18 : UB 18 K9 gm) (hK9 : K9 ≤ 1999990) (hLK : LK sg gm) (hxl : x.toInt < (sg 4).toInt) : CMt dC dI ad cid a2 lx l yX3_addInner wm_X3_addInner ({ frames := 0, cells := 1, slots := 6, locals := 0 }) [eV (ad 9) x, eV (ad 9) nn] sg gm lg (fun v u => v = none ∧ ∃ (sg2 : Nat → Int32) (gm2 : Nat → Nat → Int32) (lg2 : Nat → Nat → Int64), u = (sg2, gm2, lg2) ∧ CI sg2 gm2 ∧ KS [] sg sg2 ∧ KS [16, 17, 18] gm gm2 ∧ KS [] lg lg2 ∧ (UB 18 (K9 + 1) gm2) ∧ (∀ j, (gm2 16 j = gm 16 j ∨ (gm2 16 j = nn ∧ j = x.toNatClampNeg)) ∧ (gm2 17 j = gm 17 j ∨ (gm2 17 j = nn ∧ gm 15 j = x)))) (fun _ _ => False) := by
  intro sz
  refine vx_ofW (cc := cX3_addInner) (maxL := 4) (ret := none) (by decide) rfl ?_
  intro p e s m args below meth c s₁ B hml hxt hv
  obtain ⟨rfl, hsz, hP, hK, hD0, hG⟩ := hv
  have hx := B.exec
  have hb := B.bytes
  have hr := B.returns
  have hts := atoms_spec (ws := wm_X3_addInner) B.pre
  have htb := fun (w : Cond) (h : w ∈ tb) => hts w (List.mem_cons_of_mem _ h)
  have hown : s.vm.findClass RX3 = some m.cls := findClass_of_methodNamed B.named
  have hlocks := B.notSynchronized
  subst hsz
  have hD := hD0.self (sz := s.heap.size)
  generalize hAe : va_A (cW ad cid a2 lx sg gm lg) s.heap.size = A at hD hG ⊢
  have hA : ∀ q : Nat, s.heap.size ≤ q → A q := fun q h => by rw [← hAe]; exact Or.inr h
  have hS : va_S A s.heap s.heap [] := va_S.rf
  have hl := lv_entry ([eV (ad 9) x, eV (ad 9) nn]) (n := 4) (by rw [show (lg_sl ([eV (ad 9) x, eV (ad 9) nn])).length = 2 from by simp [lg_sl, eV_cat, cat_i, cat_l]]; exact Nat.le_of_ble_eq_true rfl)
  rw [lg_entry_eq]
  generalize (lg_sl ([eV (ad 9) x, eV (ad 9) nn]) ++ List.replicate (4 - (lg_sl ([eV (ad 9) x, eV (ad 9) nn])).length) Slot.unset).toArray = ls at hl ⊢
  have hl : lv_has ls 4 [(0, eV (ad 9) x), (1, eV (ad 9) nn)] := by simp [lv_args, eV_cat, cat_i, cat_l] at hl; exact hl
  have hj54 : ∀ (gm_j54 : Nat → Nat → Int32) (x3_54 : Int32) (x2_54 : Int32) (_ : iv 0 80 x3_54) (_ : iv 0 79 x2_54) (_ : iv 0 79 x) (_ : iv 0 79 nn) (_ : KS [18] gm gm_j54) (_ : CI sg gm_j54) (_ : UB 18 (K9 + 1) gm_j54) (_ : gm 15 x2_54.toNatClampNeg = x ∧ x2_54.toInt < (sg 4).toInt) (H : Heap) (locs : List Loc) (ls : Array Slot), va_P (dC, dI) vwCl (cW ad cid a2 lx sg gm_j54 lg) H → va_D A (cW ad cid a2 lx sg gm_j54 lg) → va_S A s.heap H locs → lv_has ls 4 [(3, .int x3_54), (2, eV (ad 9) x2_54), (0, eV (ad 9) x), (1, eV (ad 9) nn)] → W p l e (headSpec wm_X3_addInner ({ frames := 0, cells := 1, slots := 6, locals := 0 })).room s m ([eV (ad 9) x, eV (ad 9) nn] : List Value).toArray below meth c H locs 0 0 (vx_MQ below (cQx dC dI ad cid a2 lx (fun v u => v = none ∧ ∃ (sg2 : Nat → Int32) (gm2 : Nat → Nat → Int32) (lg2 : Nat → Nat → Int64), u = (sg2, gm2, lg2) ∧ CI sg2 gm2 ∧ KS [] sg sg2 ∧ KS [16, 17, 18] gm gm2 ∧ KS [] lg lg2 ∧ (UB 18 (K9 + 1) gm2) ∧ (∀ j, (gm2 16 j = gm 16 j ∨ (gm2 16 j = nn ∧ j = x.toNatClampNeg)) ∧ (gm2 17 j = gm 17 j ∨ (gm2 17 j = nn ∧ gm 15 j = x)))) A) (cX dC dI ad cid a2 lx (fun _ _ => False) A) ([eV (ad 9) x, eV (ad 9) nn] : List Value).toArray s 1 6 A) (F0 m 54 ls []) := by
    intro gm_j54 x3_54 x2_54 hx3_54 hx2_54 hsx0_54 hsx1_54 hkg_j54 hI_j54 hU18b hlo H locs ls hP hD hS hl
    refine ec_aload_n hx hb dX3_addInner_54 rfl (lv_at hl 1 rfl) ?_
    refine ec_aload_n hx hb dX3_addInner_55 rfl (lv_at hl 3 rfl) ?_
    refine cr_putg (t := 9) (j := 7) (C := RX3) (T := TX3) (N := 21) (ty0 := tyX3) (k := 17) (y := nn) hx hb htb inX3 tyX3_ok nmX3 hown hK hP hD hS hx2_54 (by decide) (by decide) (by decide) (by decide) rfl rfl (by decide) (htb _ kw_387) rfl (by show eV (ad 9) nn = eV (ad 9) (va_up gm_j54 17 (upd (gm_j54 17) x2_54.toNatClampNeg nn) 17 x2_54.toNatClampNeg); rw [va_up_self, upd_at]) (ev_n _) (ev_f _) dX3_addInner_56 (fun gm_1 H locs egm_1 hP hD hS => ?_)
    have hI_gm_1 := CI_st hI_j54 egm_1 hsx1_54 (by decide)
    exact W.nb (fun hN => W.widen (k := 1) (n := 6) (by decide) (by decide) (vx_ret (W.vret hx hb hr (fun t ht hW => ⟨⟨none, (sg, gm_1, lg), rfl, ⟨rfl, sg, gm_1, lg, rfl, hI_gm_1, KS_rf, (KS_up (KS_tr (L := [16, 17, 18]) KS_rf hkg_j54 (by decide)) egm_1 (by decide)), KS_rf, (UB_k hU18b (show gm_1 18 = gm_j54 18 from (up_ne egm_1 (by decide))) (by omega)), (fun j => ⟨Or.inl (by rw [(Eq.trans (up_ne egm_1 (by decide)) (hkg_j54 16 (by decide)))]), (upd_or2 (show gm_1 17 = upd (gm 17) (x2_54 : Int32).toNatClampNeg nn from ((up_at egm_1).trans (by rw [show gm_j54 17 = gm 17 from ((hkg_j54 17 (by decide)).trans rfl)]))) j).imp id (fun q9 => ⟨q9.1, by rw [q9.2]; exact hlo.1⟩)⟩)⟩, by rw [ht]; exact hP, va_K.moved hW.alike hK, hD⟩, hS.F ht, by rw [ht]; exact hN⟩) hS.2.2 dX3_addInner_59)))
  have hj30 : ∀ (n : Nat) (gm_j30 : Nat → Nat → Int32) (x3_30 : Int32) (x2_30 : Int32) (_ : (80 - x3_30.toInt).toNat = n) (_ : iv 0 80 x3_30) (_ : iv 0 79 x2_30) (_ : iv 0 79 x) (_ : iv 0 79 nn) (_ : KS [18] gm gm_j30) (_ : CI sg gm_j30) (_ : UB 18 (K9 + 1) gm_j30) (_ : gm 15 x2_30.toNatClampNeg = x ∧ x2_30.toInt < (sg 4).toInt) (H : Heap) (locs : List Loc) (ls : Array Slot), va_P (dC, dI) vwCl (cW ad cid a2 lx sg gm_j30 lg) H → va_D A (cW ad cid a2 lx sg gm_j30 lg) → va_S A s.heap H locs → lv_has ls 4 [(3, .int x3_30), (2, eV (ad 9) x2_30), (0, eV (ad 9) x), (1, eV (ad 9) nn)] → W p l e (headSpec wm_X3_addInner ({ frames := 0, cells := 1, slots := 6, locals := 0 })).room s m ([eV (ad 9) x, eV (ad 9) nn] : List Value).toArray below meth c H locs 0 0 (vx_MQ below (cQx dC dI ad cid a2 lx (fun v u => v = none ∧ ∃ (sg2 : Nat → Int32) (gm2 : Nat → Nat → Int32) (lg2 : Nat → Nat → Int64), u = (sg2, gm2, lg2) ∧ CI sg2 gm2 ∧ KS [] sg sg2 ∧ KS [16, 17, 18] gm gm2 ∧ KS [] lg lg2 ∧ (UB 18 (K9 + 1) gm2) ∧ (∀ j, (gm2 16 j = gm 16 j ∨ (gm2 16 j = nn ∧ j = x.toNatClampNeg)) ∧ (gm2 17 j = gm 17 j ∨ (gm2 17 j = nn ∧ gm 15 j = x)))) A) (cX dC dI ad cid a2 lx (fun _ _ => False) A) ([eV (ad 9) x, eV (ad 9) nn] : List Value).toArray s 1 6 A) (F0 m 30 ls []) := by
    intro n
    induction n using Nat.strongRecOn with
    | ind n ih30 =>
      intro gm_j30 x3_30 x2_30 hn30 hx3_30 hx2_30 hsx0_30 hsx1_30 hkg_j30 hI_j30 hU18b hlo H locs ls hP hD hS hl
      refine lv_iload_n hx hb dX3_addInner_30 rfl (lv_at hl 0 rfl) ?_
      refine lv_bipush (v := 80) hx hb dX3_addInner_31 (by decide) ?_
      refine lv_icmp_ge (tgt := 54) hx hb dX3_addInner_33 (by decide) (fun c_2 => ?_) (fun c_2 => ?_)
      · have h_3 : iv 80 80 x3_30 := iv_leR c_2 (iv_k (by decide) : iv 80 80 80) hx3_30 (by decide)
        exact hj54 gm_j30 x3_30 x2_30 (iv_w h_3 (by decide)) hx2_30 hsx0_30 hsx1_30 (KS_tr (L := [18]) KS_rf hkg_j30 (by decide)) hI_j30 (hU18b) (hlo) _ _ _ hP hD hS (lv_sub hl [0, 1, 2, 3] rfl)
      · have h_4 : iv 0 79 x3_30 := iv_ltL (i32_lt c_2) hx3_30 (iv_k (by decide) : iv 80 80 80) (by decide)
        refine ec_aload_n hx hb dX3_addInner_36 rfl (lv_at hl 1 rfl) ?_
        refine cr_get (t := 9) (j := 7) (C := RX3) (T := TX3) (N := 21) (v := eV (ad 9) (gm_j30 17 x2_30.toNatClampNeg)) hx hb htb inX3 hown hK hP hx2_30 (by decide) (by decide) (by decide) rfl (by decide) (htb _ kw_387) rfl dX3_addInner_37 ?_
        obtain ⟨z_5, ez_5⟩ : ∃ z : Int32, z = (gm_j30 17 x2_30.toNatClampNeg) := ⟨_, rfl⟩
        refine W.eq (g2 := F0 m 40 ls [eV (ad 9) z_5]) (by rw [ez_5]) ?_
        have hz_5 : iv (-1) 79 z_5 := iv_of ez_5 (CI_a hI_j30 17 hx2_30 (by decide))
        have ez_5 := ez_5.trans (congrFun (hkg_j30 17 (by decide)) _)
        refine ec_ifnull (tgt := 54) hx hb dX3_addInner_40 (by decide) (fun c_6 => ?_) (fun c_6 => ?_)
        · have h_7 : iv (-1) (-1) z_5 := ⟨(hz_5).1, by omega⟩
          exact hj54 gm_j30 x3_30 x2_30 (iv_w h_4 (by decide)) hx2_30 hsx0_30 hsx1_30 (KS_tr (L := [18]) KS_rf hkg_j30 (by decide)) hI_j30 (hU18b) (hlo) _ _ _ hP hD hS (lv_sub hl [0, 1, 2, 3] rfl)
        · have h_8 : iv 0 79 z_5 := ⟨c_6, (hz_5).2⟩
          refine ec_aload_n hx hb dX3_addInner_43 rfl (lv_at hl 1 rfl) ?_
          refine cr_get (t := 9) (j := 7) (C := RX3) (T := TX3) (N := 21) (v := eV (ad 9) (gm_j30 17 x2_30.toNatClampNeg)) hx hb htb inX3 hown hK hP hx2_30 (by decide) (by decide) (by decide) rfl (by decide) (htb _ kw_387) rfl dX3_addInner_44 ?_
          refine W.eq (g2 := F0 m 47 ls [eV (ad 9) z_5]) (by rw [show (gm_j30 17 x2_30.toNatClampNeg) = z_5 from (Eq.trans (congrFun (hkg_j30 17 (by decide)) _) ez_5.symm)]) ?_
          refine ec_astore_n (i := 2) (lv' := [(2, eV (ad 9) z_5), (3, .int x3_30), (0, eV (ad 9) x), (1, eV (ad 9) nn)]) hx hb dX3_addInner_47 rfl hl (by decide) (by simp [List.filter, eV_cat, cat_i, cat_l]) (fun ls hl => ?_)
          obtain ⟨z_9, ez_9⟩ : ∃ z : Int32, z = x3_30 + 1 := ⟨_, rfl⟩
          have hz_9 : iv 1 80 z_9 := iv_of ez_9 (iv_add h_4 (iv_k (by decide) : iv 1 1 1) (by decide))
          have tz_9 : z_9.toInt = x3_30.toInt + 1 := by rw [ez_9]; exact iv_addE h_4 (iv_k (by decide) : iv 1 1 1) (by decide)
          refine lv_iinc (v := z_9) (lv' := [(3, .int z_9), (2, eV (ad 9) z_5), (0, eV (ad 9) x), (1, eV (ad 9) nn)]) hx hb dX3_addInner_48 hl (k := 1) rfl ez_9.symm (by decide) (by simp [List.filter, eV_cat, cat_i, cat_l]) (fun ls hl => ?_)
          refine lv_goto (tgt := 30) hx hb dX3_addInner_51 (by decide) ?_
          exact ih30 _ (by rw [← hn30]; exact (iv_meas tz_9 h_4 (by decide))) gm_j30 z_9 z_5 rfl (iv_w hz_9 (by decide)) h_8 hsx0_30 hsx1_30 (KS_tr (L := [18]) KS_rf hkg_j30 (by decide)) hI_j30 (hU18b) (⟨by rw [ez_5, (hLK _ (lt_cl hx2_30 (show iv 0 80 (sg 4) from CI_s hI 4) (by decide) (by decide) hlo.2)).2.2.2.2 (by rw [← ez_5]; exact (h_8).1)]; exact hlo.1, by rw [ez_5]; exact (hLK _ (lt_cl hx2_30 (show iv 0 80 (sg 4) from CI_s hI 4) (by decide) (by decide) hlo.2)).2.2.1⟩) _ _ _ hP hD hS (lv_sub hl [0, 1, 2, 3] rfl)
  refine ec_aload_n hx hb dX3_addInner_0 rfl (lv_at hl 0 rfl) ?_
  refine lv_dup hx hb dX3_addInner_1 (eV_cat _ _) ?_
  refine cr_get (t := 9) (j := 8) (C := RX3) (T := TX3) (N := 21) (v := .int (gm 18 x.toNatClampNeg)) hx hb htb inX3 hown hK hP hvx (by decide) (by decide) (by decide) rfl (by decide) (htb _ kw_388) rfl dX3_addInner_2 ?_
  obtain ⟨z_10, ez_10⟩ : ∃ z : Int32, z = (gm 18 x.toNatClampNeg) := ⟨_, rfl⟩
  refine W.eq (g2 := F0 m 5 ls [.int z_10, eV (ad 9) x]) (by rw [ez_10]) ?_
  have hz_10 : iv 0 2000000 z_10 := iv_of ez_10 (CI_a hI 18 hvx (by decide))
  have h_11 : iv 0 1999990 z_10 := ⟨(hz_10).1, by have q9 := hU18 x.toNatClampNeg (by have q1 := iv_cl hvx (by decide); have q2 := (hvx).2; omega); rw [ez_10]; omega⟩
  refine lv_iconst (v := 1) hx hb dX3_addInner_5 (by decide) ?_
  refine lv_iadd hx hb dX3_addInner_6 ?_
  refine lv_topi (fun z_12 ez_12 => ?_)
  have hz_12 : iv 1 1999991 z_12 := iv_of ez_12 (iv_add h_11 (iv_k (by decide) : iv 1 1 1) (by decide))
  have tz_12 : z_12.toInt = (z_10 : Int32).toInt + 1 := by rw [ez_12]; exact iv_addE h_11 (iv_k (by decide) : iv 1 1 1) (by decide)
  refine cr_putg (t := 9) (j := 8) (C := RX3) (T := TX3) (N := 21) (ty0 := tyX3) (k := 18) (y := z_12) hx hb htb inX3 tyX3_ok nmX3 hown hK hP hD hS hvx (by decide) (by decide) (by decide) (by decide) rfl rfl (by decide) (htb _ kw_388) rfl (by show Value.int z_12 = Value.int (va_up gm 18 (upd (gm 18) x.toNatClampNeg z_12) 18 x.toNatClampNeg); rw [va_up_self, upd_at]) rfl rfl dX3_addInner_7 (fun gm_13 H locs egm_13 hP hD hS => ?_)
  have hI_gm_13 := CI_st hI egm_13 hz_12 (by decide)
  refine ec_aload_n hx hb dX3_addInner_10 rfl (lv_at hl 0 rfl) ?_
  refine cr_get (t := 9) (j := 6) (C := RX3) (T := TX3) (N := 21) (v := eV (ad 9) (gm_13 16 x.toNatClampNeg)) hx hb htb inX3 hown hK hP hvx (by decide) (by decide) (by decide) rfl (by decide) (htb _ kw_386) rfl dX3_addInner_11 ?_
  obtain ⟨z_14, ez_14⟩ : ∃ z : Int32, z = (gm_13 16 x.toNatClampNeg) := ⟨_, rfl⟩
  refine W.eq (g2 := F0 m 14 ls [eV (ad 9) z_14]) (by rw [ez_14]) ?_
  have hz_14 : iv (-1) 79 z_14 := iv_of ez_14 (CI_a hI_gm_13 16 hvx (by decide))
  have ez_14 := ez_14.trans (congrFun (up_ne egm_13 (by decide)) _)
  refine ec_ifnonnull (tgt := 23) hx hb dX3_addInner_14 (by decide) (fun c_15 => ?_) (fun c_15 => ?_)
  · have h_16 : iv 0 79 z_14 := ⟨c_15, (hz_14).2⟩
    refine ec_aload_n hx hb dX3_addInner_23 rfl (lv_at hl 0 rfl) ?_
    refine cr_get (t := 9) (j := 6) (C := RX3) (T := TX3) (N := 21) (v := eV (ad 9) (gm_13 16 x.toNatClampNeg)) hx hb htb inX3 hown hK hP hvx (by decide) (by decide) (by decide) rfl (by decide) (htb _ kw_386) rfl dX3_addInner_24 ?_
    refine W.eq (g2 := F0 m 27 ls [eV (ad 9) z_14]) (by rw [show (gm_13 16 x.toNatClampNeg) = z_14 from (Eq.trans (congrFun (up_ne egm_13 (by decide)) _) ez_14.symm)]) ?_
    refine ec_astore_n (i := 2) (lv' := [(2, eV (ad 9) z_14), (0, eV (ad 9) x), (1, eV (ad 9) nn)]) hx hb dX3_addInner_27 rfl hl (by decide) (by simp [List.filter, eV_cat, cat_i, cat_l]) (fun ls hl => ?_)
    refine lv_iconst (v := 0) hx hb dX3_addInner_28 (by decide) ?_
    refine lv_istore_n (i := 3) (lv' := [(3, .int 0), (2, eV (ad 9) z_14), (0, eV (ad 9) x), (1, eV (ad 9) nn)]) hx hb dX3_addInner_29 rfl hl (by decide) (by simp [List.filter, eV_cat, cat_i, cat_l]) (fun ls hl => ?_)
    exact hj30 _ gm_13 0 z_14 rfl (iv_w (iv_k (by decide) : iv 0 0 0) (by decide)) h_16 hvx hvnn (KS_up KS_rf egm_13 (by decide)) hI_gm_13 (UB_u hU18 (show gm_13 18 = upd (gm 18) (x : Int32).toNatClampNeg z_12 from ((up_at egm_13).trans (by rw [show gm 18 = gm 18 from rfl]))) (by omega) (by have := tz_12; have q9 := hU18 x.toNatClampNeg (by have q1 := iv_cl hvx (by decide); have q2 := (hvx).2; omega); rw [← ez_10] at q9; omega)) (⟨Int32.toInt_inj.mp (by rw [ez_14, (hLK _ (lt_cl hvx (show iv 0 80 (sg 4) from CI_s hI 4) (by decide) (by decide) hxl)).2.2.2.1 (by rw [← ez_14]; exact (h_16).1)]; exact cl_0 hvx.1), by rw [ez_14]; exact (hLK _ (lt_cl hvx (show iv 0 80 (sg 4) from CI_s hI 4) (by decide) (by decide) hxl)).2.1⟩) _ _ _ hP hD hS (lv_sub hl [0, 1, 2, 3] rfl)
  · have h_17 : iv (-1) (-1) z_14 := ⟨(hz_14).1, by omega⟩
    refine ec_aload_n hx hb dX3_addInner_17 rfl (lv_at hl 0 rfl) ?_
    refine ec_aload_n hx hb dX3_addInner_18 rfl (lv_at hl 1 rfl) ?_
    refine cr_putg (t := 9) (j := 6) (C := RX3) (T := TX3) (N := 21) (ty0 := tyX3) (k := 16) (y := nn) hx hb htb inX3 tyX3_ok nmX3 hown hK hP hD hS hvx (by decide) (by decide) (by decide) (by decide) rfl rfl (by decide) (htb _ kw_386) rfl (by show eV (ad 9) nn = eV (ad 9) (va_up gm_13 16 (upd (gm_13 16) x.toNatClampNeg nn) 16 x.toNatClampNeg); rw [va_up_self, upd_at]) (ev_n _) (ev_f _) dX3_addInner_19 (fun gm_18 H locs egm_18 hP hD hS => ?_)
    have hI_gm_18 := CI_st hI_gm_13 egm_18 hvnn (by decide)
    exact W.nb (fun hN => W.widen (k := 1) (n := 6) (by decide) (by decide) (vx_ret (W.vret hx hb hr (fun t ht hW => ⟨⟨none, (sg, gm_18, lg), rfl, ⟨rfl, sg, gm_18, lg, rfl, hI_gm_18, KS_rf, (KS_up (KS_up KS_rf egm_13 (by decide)) egm_18 (by decide)), KS_rf, (UB_u hU18 (show gm_18 18 = upd (gm 18) (x : Int32).toNatClampNeg z_12 from ((up_ne egm_18 (by decide)).trans ((up_at egm_13).trans (by rw [show gm 18 = gm 18 from rfl])))) (by omega) (by have := tz_12; have q9 := hU18 x.toNatClampNeg (by have q1 := iv_cl hvx (by decide); have q2 := (hvx).2; omega); rw [← ez_10] at q9; omega)), (fun j => ⟨upd_or2 (show gm_18 16 = upd (gm 16) (x : Int32).toNatClampNeg nn from ((up_at egm_18).trans (by rw [show gm_13 16 = gm 16 from ((up_ne egm_13 (by decide)).trans rfl)]))) j, Or.inl (by rw [(Eq.trans (up_ne egm_18 (by decide)) (up_ne egm_13 (by decide)))])⟩)⟩, by rw [ht]; exact hP, va_K.moved hW.alike hK, hD⟩, hS.F ht, by rw [ht]; exact hN⟩) hS.2.2 dX3_addInner_22)))

set_option maxHeartbeats 4000000 in
set_option maxRecDepth 100000 in
theorem d_clearPa (l : Launch) (dC : Nat → ClassId) (dI : Nat → Nat → Nat) (ad : Nat → Nat → Nat) (cid : Nat → ClassId) (a2 : Nat → Nat) (lx : List Nat) (sg : Nat → Int32) (gm : Nat → Nat → Int32) (lg : Nat → Nat → Int64) (x : Int32) (hI : CI sg gm) (hvx : iv 0 0 x) : CMt dC dI ad cid a2 lx l yX6_clear wm_X6_clear ({ frames := 0, cells := 1, slots := 6, locals := 0 }) [eV (ad 1) x] sg gm lg (fun v u => v = none ∧ ∃ (sg2 : Nat → Int32) (gm2 : Nat → Nat → Int32) (lg2 : Nat → Nat → Int64), u = (sg2, gm2, lg2) ∧ CI sg2 gm2 ∧ KS [4, 5, 6] sg sg2 ∧ KS [] gm gm2 ∧ KS [] lg lg2 ∧ ((sg2 4).toInt = 0 ∧ (sg2 5).toInt = 0 ∧ (sg2 6).toInt = 0)) (fun _ _ => False) := by
  intro sz
  refine vx_ofW (cc := cX6_clear) (maxL := 1) (ret := none) (by decide) rfl ?_
  intro p e s m args below meth c s₁ B hml hxt hv
  obtain ⟨rfl, hsz, hP, hK, hD0, hG⟩ := hv
  have hx := B.exec
  have hb := B.bytes
  have hr := B.returns
  have hts := atoms_spec (ws := wm_X6_clear) B.pre
  have htb := fun (w : Cond) (h : w ∈ tb) => hts w (List.mem_cons_of_mem _ h)
  have hown : s.vm.findClass RX6 = some m.cls := findClass_of_methodNamed B.named
  have hlocks := B.notSynchronized
  subst hsz
  have hD := hD0.self (sz := s.heap.size)
  generalize hAe : va_A (cW ad cid a2 lx sg gm lg) s.heap.size = A at hD hG ⊢
  have hA : ∀ q : Nat, s.heap.size ≤ q → A q := fun q h => by rw [← hAe]; exact Or.inr h
  have hS : va_S A s.heap s.heap [] := va_S.rf
  have hl := lv_entry ([eV (ad 1) x]) (n := 1) (by rw [show (lg_sl ([eV (ad 1) x])).length = 1 from by simp [lg_sl, eV_cat, cat_i, cat_l]]; exact Nat.le_of_ble_eq_true rfl)
  rw [lg_entry_eq]
  generalize (lg_sl ([eV (ad 1) x]) ++ List.replicate (1 - (lg_sl ([eV (ad 1) x])).length) Slot.unset).toArray = ls at hl ⊢
  have hl : lv_has ls 1 [(0, eV (ad 1) x)] := by simp [lv_args, eV_cat, cat_i, cat_l] at hl; exact hl
  refine ec_aload_n hx hb dX6_clear_0 rfl (lv_at hl 0 rfl) ?_
  refine lv_iconst (v := 0) hx hb dX6_clear_1 (by decide) ?_
  refine cr_puts (t := 1) (j := 5) (C := RX6) (T := TX6) (N := 8) (ty0 := tyX6) (k := 4) (y := 0) hx hb htb inX6 tyX6_ok nmX6 hown hK hP hD hS hvx (by decide) (by decide) (by decide) (by decide) rfl rfl rfl (by decide) (htb _ kw_345) rfl (by show Value.int 0 = Value.int (va_up sg 4 0 4); rw [va_up_self]) rfl rfl dX6_clear_2 (fun sg_1 H locs esg_1 hP hD hS => ?_)
  have hI_sg_1 := CI_put hI esg_1 (iv_k (by decide) : iv 0 0 0) (by decide)
  refine ec_aload_n hx hb dX6_clear_5 rfl (lv_at hl 0 rfl) ?_
  refine lv_iconst (v := 0) hx hb dX6_clear_6 (by decide) ?_
  refine cr_puts (t := 1) (j := 6) (C := RX6) (T := TX6) (N := 8) (ty0 := tyX6) (k := 5) (y := 0) hx hb htb inX6 tyX6_ok nmX6 hown hK hP hD hS hvx (by decide) (by decide) (by decide) (by decide) rfl rfl rfl (by decide) (htb _ kw_346) rfl (by show Value.int 0 = Value.int (va_up sg_1 5 0 5); rw [va_up_self]) rfl rfl dX6_clear_7 (fun sg_2 H locs esg_2 hP hD hS => ?_)
  have hI_sg_2 := CI_put hI_sg_1 esg_2 (iv_k (by decide) : iv 0 0 0) (by decide)
  refine ec_aload_n hx hb dX6_clear_10 rfl (lv_at hl 0 rfl) ?_
  refine lv_iconst (v := 0) hx hb dX6_clear_11 (by decide) ?_
  refine cr_puts (t := 1) (j := 7) (C := RX6) (T := TX6) (N := 8) (ty0 := tyX6) (k := 6) (y := 0) hx hb htb inX6 tyX6_ok nmX6 hown hK hP hD hS hvx (by decide) (by decide) (by decide) (by decide) rfl rfl rfl (by decide) (htb _ kw_347) rfl (by show Value.int 0 = Value.int (va_up sg_2 6 0 6); rw [va_up_self]) rfl rfl dX6_clear_12 (fun sg_3 H locs esg_3 hP hD hS => ?_)
  have hI_sg_3 := CI_put hI_sg_2 esg_3 (iv_k (by decide) : iv 0 0 0) (by decide)
  exact W.nb (fun hN => W.widen (k := 1) (n := 6) (by decide) (by decide) (vx_ret (W.vret hx hb hr (fun t ht hW => ⟨⟨none, (sg_3, gm, lg), rfl, ⟨rfl, sg_3, gm, lg, rfl, hI_sg_3, (KS_up (KS_up (KS_up KS_rf esg_1 (by decide)) esg_2 (by decide)) esg_3 (by decide)), KS_rf, KS_rf, (⟨by have := i32_0; have := i32_1; have := i32_2; have := i32_m1; have := congrArg Int32.toInt (show sg_3 4 = sg_2 4 from up_ne esg_3 (by decide)); have := congrArg Int32.toInt (show sg_2 4 = sg_1 4 from up_ne esg_2 (by decide)); have : (sg_1 4).toInt = 0 := (by rw [up_at esg_1]; rfl); have := (hvx).1; have := (hvx).2; omega, by have := i32_0; have := i32_1; have := i32_2; have := i32_m1; have := congrArg Int32.toInt (show sg_3 5 = sg_2 5 from up_ne esg_3 (by decide)); have : (sg_2 5).toInt = 0 := (by rw [up_at esg_2]; rfl); have := (hvx).1; have := (hvx).2; omega, by have := i32_0; have := i32_1; have := i32_2; have := i32_m1; have : (sg_3 6).toInt = 0 := (by rw [up_at esg_3]; rfl); have := (hvx).1; have := (hvx).2; omega⟩)⟩, by rw [ht]; exact hP, va_K.moved hW.alike hK, hD⟩, hS.F ht, by rw [ht]; exact hN⟩) hS.2.2 dX6_clear_15)))

set_option maxHeartbeats 4000000 in
set_option maxRecDepth 100000 in
theorem d_countPa (l : Launch) (dC : Nat → ClassId) (dI : Nat → Nat → Nat) (ad : Nat → Nat → Nat) (cid : Nat → ClassId) (a2 : Nat → Nat) (lx : List Nat) (sg : Nat → Int32) (gm : Nat → Nat → Int32) (lg : Nat → Nat → Int64) (x : Int32) (hI : CI sg gm) (hvx : iv 0 0 x) : CMt dC dI ad cid a2 lx l yX6_count wm_X6_count ({ frames := 0, cells := 1, slots := 6, locals := 0 }) [eV (ad 1) x] sg gm lg (fun v u => ∃ r : Int32, v = some (.int r) ∧ u = (sg, gm, lg) ∧ (iv 0 80 r) ∧ (r = sg 4)) (fun _ _ => False) := by
  intro sz
  refine vx_ofW (cc := cX6_count) (maxL := 1) (ret := (some .int)) (by decide) rfl ?_
  intro p e s m args below meth c s₁ B hml hxt hv
  obtain ⟨rfl, hsz, hP, hK, hD0, hG⟩ := hv
  have hx := B.exec
  have hb := B.bytes
  have hr := B.returns
  have hts := atoms_spec (ws := wm_X6_count) B.pre
  have htb := fun (w : Cond) (h : w ∈ tb) => hts w (List.mem_cons_of_mem _ h)
  have hown : s.vm.findClass RX6 = some m.cls := findClass_of_methodNamed B.named
  have hlocks := B.notSynchronized
  subst hsz
  have hD := hD0.self (sz := s.heap.size)
  generalize hAe : va_A (cW ad cid a2 lx sg gm lg) s.heap.size = A at hD hG ⊢
  have hA : ∀ q : Nat, s.heap.size ≤ q → A q := fun q h => by rw [← hAe]; exact Or.inr h
  have hS : va_S A s.heap s.heap [] := va_S.rf
  have hl := lv_entry ([eV (ad 1) x]) (n := 1) (by rw [show (lg_sl ([eV (ad 1) x])).length = 1 from by simp [lg_sl, eV_cat, cat_i, cat_l]]; exact Nat.le_of_ble_eq_true rfl)
  rw [lg_entry_eq]
  generalize (lg_sl ([eV (ad 1) x]) ++ List.replicate (1 - (lg_sl ([eV (ad 1) x])).length) Slot.unset).toArray = ls at hl ⊢
  have hl : lv_has ls 1 [(0, eV (ad 1) x)] := by simp [lv_args, eV_cat, cat_i, cat_l] at hl; exact hl
  refine ec_aload_n hx hb dX6_count_0 rfl (lv_at hl 0 rfl) ?_
  refine cr_get (t := 1) (j := 5) (C := RX6) (T := TX6) (N := 8) (v := .int (sg 4)) hx hb htb inX6 hown hK hP hvx (by decide) (by decide) (by decide) rfl (by decide) (htb _ kw_345) rfl dX6_count_1 ?_
  exact W.nb (fun hN => W.widen (k := 1) (n := 6) (by decide) (by decide) (vx_ret (W.iret (v := (sg 4)) hx hb hr (fun t ht hW => ⟨⟨some (.int (sg 4)), (sg, gm, lg), rfl, ⟨(sg 4), rfl, rfl, (show iv 0 80 (sg 4) from CI_s hI 4), (rfl)⟩, by rw [ht]; exact hP, va_K.moved hW.alike hK, hD⟩, hS.F ht, by rw [ht]; exact hN⟩) hS.2.2 dX6_count_4)))

set_option maxHeartbeats 4000000 in
set_option maxRecDepth 100000 in
theorem d_element (l : Launch) (dC : Nat → ClassId) (dI : Nat → Nat → Nat) (ad : Nat → Nat → Nat) (cid : Nat → ClassId) (a2 : Nat → Nat) (lx : List Nat) (sg : Nat → Int32) (gm : Nat → Nat → Int32) (lg : Nat → Nat → Int64) (x : Int32) (i : Int32) (hI : CI sg gm) (hvx : iv 0 0 x) (hvi : iv 0 79 i) : CMt dC dI ad cid a2 lx l yX6_element wm_X6_element ({ frames := 0, cells := 1, slots := 6, locals := 0 }) [eV (ad 1) x, .int i] sg gm lg (fun v u => ∃ r : Int32, v = some (eV (ad 9) r) ∧ u = (sg, gm, lg) ∧ (iv 0 79 r) ∧ (r = i)) (fun _ _ => False) := by
  intro sz
  refine vx_ofW (cc := cX6_element) (maxL := 2) (ret := (some (.object "WiredBeans$Element"))) (by decide) rfl ?_
  intro p e s m args below meth c s₁ B hml hxt hv
  obtain ⟨rfl, hsz, hP, hK, hD0, hG⟩ := hv
  have hx := B.exec
  have hb := B.bytes
  have hr := B.returns
  have hts := atoms_spec (ws := wm_X6_element) B.pre
  have htb := fun (w : Cond) (h : w ∈ tb) => hts w (List.mem_cons_of_mem _ h)
  have hown : s.vm.findClass RX6 = some m.cls := findClass_of_methodNamed B.named
  have hlocks := B.notSynchronized
  subst hsz
  have hD := hD0.self (sz := s.heap.size)
  generalize hAe : va_A (cW ad cid a2 lx sg gm lg) s.heap.size = A at hD hG ⊢
  have hA : ∀ q : Nat, s.heap.size ≤ q → A q := fun q h => by rw [← hAe]; exact Or.inr h
  have hS : va_S A s.heap s.heap [] := va_S.rf
  have hl := lv_entry ([eV (ad 1) x, .int i]) (n := 2) (by rw [show (lg_sl ([eV (ad 1) x, .int i])).length = 2 from by simp [lg_sl, eV_cat, cat_i, cat_l]]; exact Nat.le_of_ble_eq_true rfl)
  rw [lg_entry_eq]
  generalize (lg_sl ([eV (ad 1) x, .int i]) ++ List.replicate (2 - (lg_sl ([eV (ad 1) x, .int i])).length) Slot.unset).toArray = ls at hl ⊢
  have hl : lv_has ls 2 [(0, eV (ad 1) x), (1, .int i)] := by simp [lv_args, eV_cat, cat_i, cat_l] at hl; exact hl
  refine ec_aload_n hx hb dX6_element_0 rfl (lv_at hl 0 rfl) ?_
  refine cr_get (t := 1) (j := 0) (C := RX6) (T := TX6) (N := 8) (v := eV (ad 14) 0) hx hb htb inX6 hown hK hP hvx (by decide) (by decide) (by decide) rfl (by decide) (htb _ kw_64) (cV_c rfl (by decide) (by rw [show cMu 1 0 = 0 from rfl, Nat.zero_mul]; rfl)) dX6_element_1 ?_
  refine lv_iload_n hx hb dX6_element_4 rfl (lv_at hl 1 rfl) ?_
  refine cr_aald (t := 14) (C := RX3) (v := eV (ad 9) i) hx hb hK hP (iv_k (by decide) : iv 0 0 0) (by decide) (by decide) (by decide) (by decide) (by decide) rfl (show vp_in i (cLen 14) from (show vp_in i 80 from (iv_in hvi (by decide)))) (cAr_c (by decide) (hvi).1 (by rw [show cAm 14 = 0 from rfl, Nat.zero_mul, show cAo 14 = 0 from rfl]; omega)) dX6_element_5 ?_
  exact W.nb (fun hN => W.widen (k := 1) (n := 6) (by decide) (by decide) (vx_ret (W.aret (v := eV (ad 9) i) hx hb hr (Or.inl ⟨_, rfl⟩) (eV_is _ _) (fun t ht hW => ⟨⟨some (eV (ad 9) i), (sg, gm, lg), rfl, ⟨i, rfl, rfl, hvi, (rfl)⟩, by rw [ht]; exact hP, va_K.moved hW.alike hK, hD⟩, hS.F ht, by rw [ht]; exact hN⟩) hS.2.2 dX6_element_6)))

set_option maxHeartbeats 4000000 in
set_option maxRecDepth 100000 in
theorem d_addElement (l : Launch) (dC : Nat → ClassId) (dI : Nat → Nat → Nat) (ad : Nat → Nat → Nat) (cid : Nat → ClassId) (a2 : Nat → Nat) (lx : List Nat) (sg : Nat → Int32) (gm : Nat → Nat → Int32) (lg : Nat → Nat → Int64) (x : Int32) (pl : Int32) (ar : Int32) (K9 : Nat) (hI : CI sg gm) (hvx : iv 0 0 x) (hvpl : iv 0 1201 pl) (hvar : iv (-1) 79 ar) (hful : (sg 4).toInt ≤ 79) (hou : ar.toInt < (sg 4).toInt) (hFA : FA sg gm) (hLK : LK sg gm) (hBN : BN sg gm) (hU12 : UB 12 K9 gm) (hU18 : UB 18 K9 gm) (hK9 : K9 ≤ 1999990) : CMt dC dI ad cid a2 lx l yX6_addElement wm_X6_addElement ({ frames := 2, cells := 1, slots := 6, locals := 43 }) [eV (ad 1) x, .int pl, eV (ad 9) ar] sg gm lg (fun v u => ∃ r : Int32, v = some (eV (ad 9) r) ∧ ∃ (sg2 : Nat → Int32) (gm2 : Nat → Nat → Int32) (lg2 : Nat → Nat → Int64), u = (sg2, gm2, lg2) ∧ CI sg2 gm2 ∧ KS [4] sg sg2 ∧ KS [11, 12, 13, 14, 15, 16, 17, 18, 19, 20, 21, 22, 23, 24, 25, 26, 27] gm gm2 ∧ KS [1, 2, 3] lg lg2 ∧ (iv 0 79 r) ∧ (BN sg2 gm2) ∧ (r = sg 4) ∧ ((sg2 4).toInt = (sg 4).toInt + 1) ∧ (FA sg2 gm2) ∧ (LK sg2 gm2) ∧ (UB 12 (K9 + 1) gm2) ∧ (UB 18 (K9 + 1) gm2)) (fun _ _ => False) := by
  intro sz
  refine vx_ofW (cc := cX6_addElement) (maxL := 4) (ret := (some (.object "WiredBeans$Element"))) (by decide) rfl ?_
  intro p e s m args below meth c s₁ B hml hxt hv
  obtain ⟨rfl, hsz, hP, hK, hD0, hG⟩ := hv
  have hx := B.exec
  have hb := B.bytes
  have hr := B.returns
  have hts := atoms_spec (ws := wm_X6_addElement) B.pre
  have htb := fun (w : Cond) (h : w ∈ tb) => hts w (List.mem_cons_of_mem _ h)
  have hown : s.vm.findClass RX6 = some m.cls := findClass_of_methodNamed B.named
  have hlocks := B.notSynchronized
  subst hsz
  have hD := hD0.self (sz := s.heap.size)
  generalize hAe : va_A (cW ad cid a2 lx sg gm lg) s.heap.size = A at hD hG ⊢
  have hA : ∀ q : Nat, s.heap.size ≤ q → A q := fun q h => by rw [← hAe]; exact Or.inr h
  have hS : va_S A s.heap s.heap [] := va_S.rf
  have hl := lv_entry ([eV (ad 1) x, .int pl, eV (ad 9) ar]) (n := 4) (by rw [show (lg_sl ([eV (ad 1) x, .int pl, eV (ad 9) ar])).length = 3 from by simp [lg_sl, eV_cat, cat_i, cat_l]]; exact Nat.le_of_ble_eq_true rfl)
  rw [lg_entry_eq]
  generalize (lg_sl ([eV (ad 1) x, .int pl, eV (ad 9) ar]) ++ List.replicate (4 - (lg_sl ([eV (ad 1) x, .int pl, eV (ad 9) ar])).length) Slot.unset).toArray = ls at hl ⊢
  have hl : lv_has ls 4 [(0, eV (ad 1) x), (1, .int pl), (2, eV (ad 9) ar)] := by simp [lv_args, eV_cat, cat_i, cat_l] at hl; exact hl
  have h4 : iv 0 79 (sg 4) := ⟨(show iv 0 80 (sg 4) from CI_s hI 4).1, hful⟩
  have hj39 : ∀ (sg_j39 : Nat → Int32) (gm_j39 : Nat → Nat → Int32) (lg_j39 : Nat → Nat → Int64) (_ : iv 0 79 (sg 4)) (_ : iv 0 0 x) (_ : iv 0 1201 pl) (_ : iv (-1) 79 ar) (_ : KS [4] sg sg_j39) (_ : KS [11, 12, 13, 14, 15, 16, 17, 18, 19, 20, 21, 22, 23, 24, 25, 26, 27] gm gm_j39) (_ : KS [1, 2, 3] lg lg_j39) (_ : CI sg_j39 gm_j39) (_ : BN sg_j39 gm_j39) (_ : FA sg_j39 gm_j39) (_ : LK sg_j39 gm_j39) (_ : UB 12 (K9 + 1) gm_j39) (_ : UB 18 (K9 + 1) gm_j39) (_ : (sg_j39 4).toInt = (sg 4).toInt + 1) (H : Heap) (locs : List Loc) (ls : Array Slot), va_P (dC, dI) vwCl (cW ad cid a2 lx sg_j39 gm_j39 lg_j39) H → va_D A (cW ad cid a2 lx sg_j39 gm_j39 lg_j39) → va_S A s.heap H locs → lv_has ls 4 [(3, eV (ad 9) (sg 4)), (0, eV (ad 1) x), (1, .int pl), (2, eV (ad 9) ar)] → W p l e (headSpec wm_X6_addElement ({ frames := 2, cells := 1, slots := 6, locals := 43 })).room s m ([eV (ad 1) x, .int pl, eV (ad 9) ar] : List Value).toArray below meth c H locs 0 0 (vx_MQ below (cQx dC dI ad cid a2 lx (fun v u => ∃ r : Int32, v = some (eV (ad 9) r) ∧ ∃ (sg2 : Nat → Int32) (gm2 : Nat → Nat → Int32) (lg2 : Nat → Nat → Int64), u = (sg2, gm2, lg2) ∧ CI sg2 gm2 ∧ KS [4] sg sg2 ∧ KS [11, 12, 13, 14, 15, 16, 17, 18, 19, 20, 21, 22, 23, 24, 25, 26, 27] gm gm2 ∧ KS [1, 2, 3] lg lg2 ∧ (iv 0 79 r) ∧ (BN sg2 gm2) ∧ (r = sg 4) ∧ ((sg2 4).toInt = (sg 4).toInt + 1) ∧ (FA sg2 gm2) ∧ (LK sg2 gm2) ∧ (UB 12 (K9 + 1) gm2) ∧ (UB 18 (K9 + 1) gm2)) A) (cX dC dI ad cid a2 lx (fun _ _ => False) A) ([eV (ad 1) x, .int pl, eV (ad 9) ar] : List Value).toArray s 1 6 A) (F0 m 39 ls []) := by
    intro sg_j39 gm_j39 lg_j39 hsx3_39 hsx0_39 hsx1_39 hsx2_39 hks_j39 hkg_j39 hkl_j39 hI_j39 hBN2 hFA2 hLK2 hU12b hU18b h4b H locs ls hP hD hS hl
    refine ec_aload_n hx hb dX6_addElement_39 rfl (lv_at hl 0 rfl) ?_
    exact W.nb (fun hN => W.widen (k := 1) (n := 6) (by decide) (by decide) (vx_ret (W.aret (v := eV (ad 9) (sg 4)) hx hb hr (Or.inl ⟨_, rfl⟩) (eV_is _ _) (fun t ht hW => ⟨⟨some (eV (ad 9) (sg 4)), (sg_j39, gm_j39, lg_j39), rfl, ⟨(sg 4), rfl, sg_j39, gm_j39, lg_j39, rfl, hI_j39, (KS_tr (L := [4]) KS_rf hks_j39 (by decide)), (KS_tr (L := [11, 12, 13, 14, 15, 16, 17, 18, 19, 20, 21, 22, 23, 24, 25, 26, 27]) KS_rf hkg_j39 (by decide)), (KS_tr (L := [1, 2, 3]) KS_rf hkl_j39 (by decide)), hsx3_39, (hBN2), (rfl), (h4b), (hFA2), (hLK2), (hU12b), (hU18b)⟩, by rw [ht]; exact hP, va_K.moved hW.alike hK, hD⟩, hS.F ht, by rw [ht]; exact hN⟩) hS.2.2 dX6_addElement_40)))
  refine ec_aload_n hx hb dX6_addElement_0 rfl (lv_at hl 0 rfl) ?_
  refine cr_get (t := 1) (j := 0) (C := RX6) (T := TX6) (N := 8) (v := eV (ad 14) 0) hx hb htb inX6 hown hK hP hvx (by decide) (by decide) (by decide) rfl (by decide) (htb _ kw_64) (cV_c rfl (by decide) (by rw [show cMu 1 0 = 0 from rfl, Nat.zero_mul]; rfl)) dX6_addElement_1 ?_
  refine ec_aload_n hx hb dX6_addElement_4 rfl (lv_at hl 0 rfl) ?_
  refine cr_get (t := 1) (j := 5) (C := RX6) (T := TX6) (N := 8) (v := .int (sg 4)) hx hb htb inX6 hown hK hP hvx (by decide) (by decide) (by decide) rfl (by decide) (htb _ kw_345) rfl dX6_addElement_5 ?_
  refine cr_aald (t := 14) (C := RX3) (v := eV (ad 9) (sg 4)) hx hb hK hP (iv_k (by decide) : iv 0 0 0) (by decide) (by decide) (by decide) (by decide) (by decide) rfl (show vp_in (sg 4) (cLen 14) from (show vp_in (sg 4) 80 from (iv_in h4 (by decide)))) (cAr_c (by decide) (h4).1 (by rw [show cAm 14 = 0 from rfl, Nat.zero_mul, show cAo 14 = 0 from rfl]; omega)) dX6_addElement_8 ?_
  refine ec_astore_n (i := 3) (lv' := [(3, eV (ad 9) (sg 4)), (0, eV (ad 1) x), (1, .int pl), (2, eV (ad 9) ar)]) hx hb dX6_addElement_9 rfl hl (by decide) (by simp [List.filter, eV_cat, cat_i, cat_l]) (fun ls hl => ?_)
  refine ec_aload_n hx hb dX6_addElement_10 rfl (lv_at hl 1 rfl) ?_
  refine lv_dup hx hb dX6_addElement_11 (eV_cat _ _) ?_
  refine cr_get (t := 1) (j := 5) (C := RX6) (T := TX6) (N := 8) (v := .int (sg 4)) hx hb htb inX6 hown hK hP hvx (by decide) (by decide) (by decide) rfl (by decide) (htb _ kw_345) rfl dX6_addElement_12 ?_
  refine lv_iconst (v := 1) hx hb dX6_addElement_15 (by decide) ?_
  refine lv_iadd hx hb dX6_addElement_16 ?_
  refine lv_topi (fun z_1 ez_1 => ?_)
  have hz_1 : iv 1 80 z_1 := iv_of ez_1 (iv_add h4 (iv_k (by decide) : iv 1 1 1) (by decide))
  have tz_1 : z_1.toInt = ((sg 4) : Int32).toInt + 1 := by rw [ez_1]; exact iv_addE h4 (iv_k (by decide) : iv 1 1 1) (by decide)
  refine cr_puts (t := 1) (j := 5) (C := RX6) (T := TX6) (N := 8) (ty0 := tyX6) (k := 4) (y := z_1) hx hb htb inX6 tyX6_ok nmX6 hown hK hP hD hS hvx (by decide) (by decide) (by decide) (by decide) rfl rfl rfl (by decide) (htb _ kw_345) rfl (by show Value.int z_1 = Value.int (va_up sg 4 z_1 4); rw [va_up_self]) rfl rfl dX6_addElement_17 (fun sg_2 H locs esg_2 hP hD hS => ?_)
  have hI_sg_2 := CI_put hI esg_2 hz_1 (by decide)
  refine ec_aload_n hx hb dX6_addElement_20 rfl (lv_at hl 0 rfl) ?_
  refine lv_iload_n hx hb dX6_addElement_21 rfl (lv_at hl 2 rfl) ?_
  refine ec_aload_n hx hb dX6_addElement_22 rfl (lv_at hl 3 rfl) ?_
  refine ec_aload_n hx hb dX6_addElement_23 rfl (lv_at hl 1 rfl) ?_
  refine cr_get (t := 1) (j := 6) (C := RX6) (T := TX6) (N := 8) (v := .int (sg_2 5)) hx hb htb inX6 hown hK hP hvx (by decide) (by decide) (by decide) rfl (by decide) (htb _ kw_346) rfl dX6_addElement_24 ?_
  refine W.eq (g2 := F0 m 27 ls [.int (sg 5), eV (ad 9) ar, .int pl, eV (ad 9) (sg 4)]) (by rw [show sg_2 5 = sg 5 from (up_ne esg_2 (by decide))]) ?_
  refine cm_callV (t := 9) (C := RX3) (T := TX3) (N := 21) (rest := []) (as := [.int pl, eV (ad 9) ar, .int (sg 5)]) ⟨hx, hb, hml, hown, htb⟩ (d_beginEl l dC dI ad cid a2 lx sg_2 gm lg (sg 4) pl ar (sg 5) hI_sg_2 h4 hvpl hvar (show iv 0 240 (sg 5) from CI_s hI 5)) (cwV 3 htb (gd_V kw_378 kw_379 kw_380 kw_66 kw_1428) rfl rfl rfl (by decide +kernel) ⟨Nat.le_of_ble_eq_true rfl, Nat.le_of_ble_eq_true rfl⟩) h4 (by decide) (by decide) rfl rfl hl.1 rfl (Nat.le_trans cs_n (by decide)) dX6_addElement_27 ⟨Nat.le_of_ble_eq_true rfl, Nat.le_of_ble_eq_true rfl⟩ hK hP hD hS hA hG (fun E ce q9 u_4 H locs hw hP hD hS hce hcv hcl => ?_) (fun v9 u_4 H locs hw hP hD hS => ?_)
  · exact hw.elim
  obtain ⟨rfl, sgv_5, gmv_5, lgv_5, rfl, hIv_5, ksv_5, kgv_5, klv_5, f12_r_3, f18_r_3, f15_r_3, f16_r_3, f17_r_3, f19_r_3, f20_r_3, f14_r_3, f27_r_3⟩ := hw
  obtain rfl := KS_nil ksv_5
  have hP : va_P (dC, dI) vwCl (cW ad cid a2 lx sg_2 gmv_5 lgv_5) H := hP
  have hD : va_D A (cW ad cid a2 lx sg_2 gmv_5 lgv_5) := hD
  refine W.eq (g2 := F0 m 30 ls []) rfl ?_
  refine ec_aload_n hx hb dX6_addElement_30 rfl (lv_at hl 3 rfl) ?_
  refine ec_ifnull (tgt := 39) hx hb dX6_addElement_31 (by decide) (fun c_6 => ?_) (fun c_6 => ?_)
  · have h_7 : iv (-1) (-1) ar := ⟨(hvar).1, by omega⟩
    exact hj39 sg_2 gmv_5 lgv_5 h4 hvx hvpl (iv_w h_7 (by decide)) (KS_up KS_rf esg_2 (by decide)) (KS_tr (L := [11, 12, 13, 14, 15, 16, 17, 18, 19, 20, 21, 22, 23, 24, 25, 26, 27]) KS_rf kgv_5 (by decide)) (KS_tr (L := [1, 2, 3]) KS_rf klv_5 (by decide)) hIv_5 (BN_new hBN (by have := i32_0; have := i32_1; have := i32_2; have := i32_m1; have := congrArg Int32.toInt (show sg_2 4 = z_1 from up_at esg_2); have := (hz_1).1; have := (hz_1).2; have := (hvx).1; have := (hvx).2; have := (hvpl).1; have := (hvpl).2; have := (h_7).1; have := (h_7).2; have := (h4).1; have := (h4).2; have := ((show iv 0 240 (sg 5) from CI_s hI 5)).1; have := ((show iv 0 240 (sg 5) from CI_s hI 5)).2; omega) h4.1 (Eq.trans ((show KS [] gmv_5 gmv_5 from KS_rf) 27 (by decide)) f27_r_3)) (FA_new hFA (by have := i32_0; have := i32_1; have := i32_2; have := i32_m1; have := congrArg Int32.toInt (show sg_2 4 = z_1 from up_at esg_2); have := (hz_1).1; have := (hz_1).2; have := (hvx).1; have := (hvx).2; have := (hvpl).1; have := (hvpl).2; have := (h_7).1; have := (h_7).2; have := (h4).1; have := (h4).2; have := ((show iv 0 240 (sg 5) from CI_s hI 5)).1; have := ((show iv 0 240 (sg 5) from CI_s hI 5)).2; omega) h4.1 (up_ne esg_2 (by decide)) (Eq.trans ((show KS [] gmv_5 gmv_5 from KS_rf) 19 (by decide)) f19_r_3) (Eq.trans ((show KS [] gmv_5 gmv_5 from KS_rf) 20 (by decide)) f20_r_3) rfl) (LK_new hLK (by have := i32_0; have := i32_1; have := i32_2; have := i32_m1; have := congrArg Int32.toInt (show sg_2 4 = z_1 from up_at esg_2); have := (hz_1).1; have := (hz_1).2; have := (hvx).1; have := (hvx).2; have := (hvpl).1; have := (hvpl).2; have := (h_7).1; have := (h_7).2; have := (h4).1; have := (h4).2; have := ((show iv 0 240 (sg 5) from CI_s hI 5)).1; have := ((show iv 0 240 (sg 5) from CI_s hI 5)).2; omega) h4.1 hou (Eq.trans ((show KS [] gmv_5 gmv_5 from KS_rf) 15 (by decide)) f15_r_3) f16_r_3 f17_r_3 (fun _ => Or.inl rfl) (fun _ => Or.inl rfl)) (UB_u hU12 (Eq.trans ((show KS [] gmv_5 gmv_5 from KS_rf) 12 (by decide)) f12_r_3) (by omega) (by show (0 : Int) ≤ _; omega)) (UB_u hU18 (Eq.trans ((show KS [] gmv_5 gmv_5 from KS_rf) 18 (by decide)) f18_r_3) (by omega) (by show (0 : Int) ≤ _; omega)) (by have := i32_0; have := i32_1; have := i32_2; have := i32_m1; have := congrArg Int32.toInt (show sg_2 4 = z_1 from up_at esg_2); have := (hz_1).1; have := (hz_1).2; have := (hvx).1; have := (hvx).2; have := (hvpl).1; have := (hvpl).2; have := (h_7).1; have := (h_7).2; have := (h4).1; have := (h4).2; have := ((show iv 0 240 (sg 5) from CI_s hI 5)).1; have := ((show iv 0 240 (sg 5) from CI_s hI 5)).2; omega) _ _ _ hP hD hS (lv_sub hl [0, 1, 2, 3] rfl)
  · have h_8 : iv 0 79 ar := ⟨c_6, (hvar).2⟩
    refine ec_aload_n hx hb dX6_addElement_34 rfl (lv_at hl 3 rfl) ?_
    refine ec_aload_n hx hb dX6_addElement_35 rfl (lv_at hl 0 rfl) ?_
    refine cm_callV (t := 9) (C := RX3) (T := TX3) (N := 21) (rest := []) (as := [eV (ad 9) (sg 4)]) ⟨hx, hb, hml, hown, htb⟩ (d_addInner l dC dI ad cid a2 lx sg_2 gmv_5 lgv_5 ar (sg 4) K9 hIv_5 h_8 h4 (UB_u hU12 f12_r_3 (Nat.le_refl _) (by show (0 : Int) ≤ _; omega)) (UB_u hU18 f18_r_3 (Nat.le_refl _) (by show (0 : Int) ≤ _; omega)) hK9 (LK_new hLK (by have := i32_0; have := i32_1; have := i32_2; have := i32_m1; have := congrArg Int32.toInt (show sg_2 4 = z_1 from up_at esg_2); have := (hz_1).1; have := (hz_1).2; have := (hvx).1; have := (hvx).2; have := (hvpl).1; have := (hvpl).2; have := (h_8).1; have := (h_8).2; have := (h4).1; have := (h4).2; have := ((show iv 0 240 (sg 5) from CI_s hI 5)).1; have := ((show iv 0 240 (sg 5) from CI_s hI 5)).2; omega) h4.1 hou f15_r_3 f16_r_3 f17_r_3 (fun _ => Or.inl rfl) (fun _ => Or.inl rfl)) (by have := i32_0; have := i32_1; have := i32_2; have := i32_m1; have := congrArg Int32.toInt (show sg_2 4 = z_1 from up_at esg_2); have := (hz_1).1; have := (hz_1).2; have := (hvx).1; have := (hvx).2; have := (hvpl).1; have := (hvpl).2; have := (h_8).1; have := (h_8).2; have := (h4).1; have := (h4).2; have := ((show iv 0 240 (sg 5) from CI_s hI 5)).1; have := ((show iv 0 240 (sg 5) from CI_s hI 5)).2; omega)) (cwV 1 htb (gd_V kw_405 kw_406 kw_407 kw_66 kw_1430) rfl rfl rfl (by decide +kernel) ⟨Nat.le_of_ble_eq_true rfl, Nat.le_of_ble_eq_true rfl⟩) h_8 (by decide) (by decide) rfl rfl hl.1 rfl (Nat.le_trans cs_n (by decide)) dX6_addElement_36 ⟨Nat.le_of_ble_eq_true rfl, Nat.le_of_ble_eq_true rfl⟩ hK hP hD hS hA hG (fun E ce q9 u_10 H locs hw hP hD hS hce hcv hcl => ?_) (fun v9 u_10 H locs hw hP hD hS => ?_)
    · exact hw.elim
    obtain ⟨rfl, sgv_11, gmv_11, lgv_11, rfl, hIv_11, ksv_11, kgv_11, klv_11, fU_r_9, fL_r_9⟩ := hw
    obtain rfl := KS_nil ksv_11
    obtain rfl := KS_nil klv_11
    have hP : va_P (dC, dI) vwCl (cW ad cid a2 lx sg_2 gmv_11 lgv_5) H := hP
    have hD : va_D A (cW ad cid a2 lx sg_2 gmv_11 lgv_5) := hD
    refine W.eq (g2 := F0 m 39 ls []) rfl ?_
    exact hj39 sg_2 gmv_11 lgv_5 h4 hvx hvpl (iv_w h_8 (by decide)) (KS_up KS_rf esg_2 (by decide)) (KS_tr (L := [11, 12, 13, 14, 15, 16, 17, 18, 19, 20, 21, 22, 23, 24, 25, 26, 27]) (KS_tr (L := [11, 12, 13, 14, 15, 16, 17, 18, 19, 20, 21, 22, 23, 24, 25, 26, 27]) KS_rf kgv_5 (by decide)) kgv_11 (by decide)) (KS_tr (L := [1, 2, 3]) KS_rf klv_5 (by decide)) hIv_11 (BN_new hBN (by have := i32_0; have := i32_1; have := i32_2; have := i32_m1; have := congrArg Int32.toInt (show sg_2 4 = z_1 from up_at esg_2); have := (hz_1).1; have := (hz_1).2; have := (hvx).1; have := (hvx).2; have := (hvpl).1; have := (hvpl).2; have := (h_8).1; have := (h_8).2; have := (h4).1; have := (h4).2; have := ((show iv 0 240 (sg 5) from CI_s hI 5)).1; have := ((show iv 0 240 (sg 5) from CI_s hI 5)).2; omega) h4.1 (Eq.trans ((show KS [16, 17, 18] gmv_5 gmv_11 from (KS_tr (L := [16, 17, 18]) KS_rf kgv_11 (by decide))) 27 (by decide)) f27_r_3)) (FA_new hFA (by have := i32_0; have := i32_1; have := i32_2; have := i32_m1; have := congrArg Int32.toInt (show sg_2 4 = z_1 from up_at esg_2); have := (hz_1).1; have := (hz_1).2; have := (hvx).1; have := (hvx).2; have := (hvpl).1; have := (hvpl).2; have := (h_8).1; have := (h_8).2; have := (h4).1; have := (h4).2; have := ((show iv 0 240 (sg 5) from CI_s hI 5)).1; have := ((show iv 0 240 (sg 5) from CI_s hI 5)).2; omega) h4.1 (up_ne esg_2 (by decide)) (Eq.trans ((show KS [16, 17, 18] gmv_5 gmv_11 from (KS_tr (L := [16, 17, 18]) KS_rf kgv_11 (by decide))) 19 (by decide)) f19_r_3) (Eq.trans ((show KS [16, 17, 18] gmv_5 gmv_11 from (KS_tr (L := [16, 17, 18]) KS_rf kgv_11 (by decide))) 20 (by decide)) f20_r_3) rfl) (LK_new hLK (by have := i32_0; have := i32_1; have := i32_2; have := i32_m1; have := congrArg Int32.toInt (show sg_2 4 = z_1 from up_at esg_2); have := (hz_1).1; have := (hz_1).2; have := (hvx).1; have := (hvx).2; have := (hvpl).1; have := (hvpl).2; have := (h_8).1; have := (h_8).2; have := (h4).1; have := (h4).2; have := ((show iv 0 240 (sg 5) from CI_s hI 5)).1; have := ((show iv 0 240 (sg 5) from CI_s hI 5)).2; omega) h4.1 hou (Eq.trans ((show KS [16, 17, 18] gmv_5 gmv_11 from (KS_tr (L := [16, 17, 18]) KS_rf kgv_11 (by decide))) 15 (by decide)) f15_r_3) f16_r_3 f17_r_3 (fun j => (fL_r_9 j).1.imp id (fun q9 => ⟨q9.1, by rw [q9.2]; exact cl_0 (h_8).1⟩)) (fun j => (fL_r_9 j).2.imp id (fun q9 => ⟨q9.1, by rw [show gmv_11 15 = gmv_5 15 from (show KS [16, 17, 18] gmv_5 gmv_11 from (KS_tr (L := [16, 17, 18]) KS_rf kgv_11 (by decide))) 15 (by decide)]; exact q9.2⟩))) (UB_u hU12 (Eq.trans ((show KS [16, 17, 18] gmv_5 gmv_11 from (KS_tr (L := [16, 17, 18]) KS_rf kgv_11 (by decide))) 12 (by decide)) f12_r_3) (by omega) (by show (0 : Int) ≤ _; omega)) (fU_r_9) (by have := i32_0; have := i32_1; have := i32_2; have := i32_m1; have := congrArg Int32.toInt (show sg_2 4 = z_1 from up_at esg_2); have := (hz_1).1; have := (hz_1).2; have := (hvx).1; have := (hvx).2; have := (hvpl).1; have := (hvpl).2; have := (h_8).1; have := (h_8).2; have := (h4).1; have := (h4).2; have := ((show iv 0 240 (sg 5) from CI_s hI 5)).1; have := ((show iv 0 240 (sg 5) from CI_s hI 5)).2; omega) _ _ _ hP hD hS (lv_sub hl [0, 1, 2, 3] rfl)

set_option maxHeartbeats 4000000 in
set_option maxRecDepth 100000 in
theorem d_addAttribute (l : Launch) (dC : Nat → ClassId) (dI : Nat → Nat → Nat) (ad : Nat → Nat → Nat) (cid : Nat → ClassId) (a2 : Nat → Nat) (lx : List Nat) (sg : Nat → Int32) (gm : Nat → Nat → Int32) (lg : Nat → Nat → Int64) (x : Int32) (o : Int32) (k : Int64) (hI : CI sg gm) (hvx : iv 0 0 x) (hvo : iv 0 79 o) (hFA : FA sg gm) (how : o.toInt < (sg 4).toInt) (hVS : VS sg gm) (h59 : (sg 5).toInt ≤ 239) (h20 : (gm 20 o.toNatClampNeg).toInt ≤ 11) : CMt dC dI ad cid a2 lx l yX6_addAttribute wm_X6_addAttribute ({ frames := 0, cells := 1, slots := 6, locals := 0 }) [eV (ad 1) x, eV (ad 9) o, .long k] sg gm lg (fun v u => v = none ∧ ∃ (sg2 : Nat → Int32) (gm2 : Nat → Nat → Int32) (lg2 : Nat → Nat → Int64), u = (sg2, gm2, lg2) ∧ CI sg2 gm2 ∧ KS [5] sg sg2 ∧ KS [20, 44, 45] gm gm2 ∧ KS [0] lg lg2 ∧ (FA sg2 gm2) ∧ (VS sg2 gm2) ∧ ((sg2 5).toInt = (sg 5).toInt + 1)) (fun _ _ => False) := by
  intro sz
  refine vx_ofW (cc := cX6_addAttribute) (maxL := 4) (ret := none) (by decide) rfl ?_
  intro p e s m args below meth c s₁ B hml hxt hv
  obtain ⟨rfl, hsz, hP, hK, hD0, hG⟩ := hv
  have hx := B.exec
  have hb := B.bytes
  have hr := B.returns
  have hts := atoms_spec (ws := wm_X6_addAttribute) B.pre
  have htb := fun (w : Cond) (h : w ∈ tb) => hts w (List.mem_cons_of_mem _ h)
  have hown : s.vm.findClass RX6 = some m.cls := findClass_of_methodNamed B.named
  have hlocks := B.notSynchronized
  subst hsz
  have hD := hD0.self (sz := s.heap.size)
  generalize hAe : va_A (cW ad cid a2 lx sg gm lg) s.heap.size = A at hD hG ⊢
  have hA : ∀ q : Nat, s.heap.size ≤ q → A q := fun q h => by rw [← hAe]; exact Or.inr h
  have hS : va_S A s.heap s.heap [] := va_S.rf
  have hl := lv_entry ([eV (ad 1) x, eV (ad 9) o, .long k]) (n := 4) (by rw [show (lg_sl ([eV (ad 1) x, eV (ad 9) o, .long k])).length = 4 from by simp [lg_sl, eV_cat, cat_i, cat_l]]; exact Nat.le_of_ble_eq_true rfl)
  rw [lg_entry_eq]
  generalize (lg_sl ([eV (ad 1) x, eV (ad 9) o, .long k]) ++ List.replicate (4 - (lg_sl ([eV (ad 1) x, eV (ad 9) o, .long k])).length) Slot.unset).toArray = ls at hl ⊢
  have hl : lv_has ls 4 [(0, eV (ad 1) x), (1, eV (ad 9) o), (2, .long k)] := by simp [lv_args, eV_cat, cat_i, cat_l] at hl; exact hl
  have h5 : iv 0 239 (sg 5) := ⟨(show iv 0 240 (sg 5) from CI_s hI 5).1, h59⟩
  refine ec_aload_n hx hb dX6_addAttribute_0 rfl (lv_at hl 0 rfl) ?_
  refine cr_get (t := 1) (j := 1) (C := RX6) (T := TX6) (N := 8) (v := eV (ad 15) 0) hx hb htb inX6 hown hK hP hvx (by decide) (by decide) (by decide) rfl (by decide) (htb _ kw_67) (cV_c rfl (by decide) (by rw [show cMu 1 1 = 0 from rfl, Nat.zero_mul]; rfl)) dX6_addAttribute_1 ?_
  refine ec_aload_n hx hb dX6_addAttribute_4 rfl (lv_at hl 0 rfl) ?_
  refine cr_get (t := 1) (j := 6) (C := RX6) (T := TX6) (N := 8) (v := .int (sg 5)) hx hb htb inX6 hown hK hP hvx (by decide) (by decide) (by decide) rfl (by decide) (htb _ kw_346) rfl dX6_addAttribute_5 ?_
  refine lv_lload_n hx hb dX6_addAttribute_8 rfl (lv_at hl 2 rfl) ?_
  refine cr_last (z := k) hx hb hK hP hD hS (iv_k (by decide) : iv 0 0 0) (show vp_in (sg 5) 240 from (iv_in h5 (by decide))) dX6_addAttribute_9 (fun lg_1 H locs elg_1 hP hD hS => ?_)
  refine ec_aload_n hx hb dX6_addAttribute_10 rfl (lv_at hl 0 rfl) ?_
  refine cr_get (t := 1) (j := 2) (C := RX6) (T := TX6) (N := 8) (v := eV (ad 16) 0) hx hb htb inX6 hown hK hP hvx (by decide) (by decide) (by decide) rfl (by decide) (htb _ kw_68) (cV_c rfl (by decide) (by rw [show cMu 1 2 = 0 from rfl, Nat.zero_mul]; rfl)) dX6_addAttribute_11 ?_
  refine ec_aload_n hx hb dX6_addAttribute_14 rfl (lv_at hl 0 rfl) ?_
  refine cr_get (t := 1) (j := 6) (C := RX6) (T := TX6) (N := 8) (v := .int (sg 5)) hx hb htb inX6 hown hK hP hvx (by decide) (by decide) (by decide) rfl (by decide) (htb _ kw_346) rfl dX6_addAttribute_15 ?_
  refine ec_aload_n hx hb dX6_addAttribute_18 rfl (lv_at hl 0 rfl) ?_
  refine cr_get (t := 1) (j := 7) (C := RX6) (T := TX6) (N := 8) (v := .int (sg 6)) hx hb htb inX6 hown hK hP hvx (by decide) (by decide) (by decide) rfl (by decide) (htb _ kw_347) rfl dX6_addAttribute_19 ?_
  refine cr_iast (t := 16) (k := 44) (n9 := ((sg 5) : Int32).toNatClampNeg) (z := (sg 6)) hx hb hK hP hD hS (iv_k (by decide) : iv 0 0 0) (by decide) (by decide) (by decide) rfl rfl rfl (show vp_in (sg 5) (cLen 16) from (show vp_in (sg 5) 240 from (iv_in h5 (by decide)))) (Or.inl rfl) (by rw [show cAw 16 = 0 from rfl, Nat.zero_mul, Nat.zero_add]) dX6_addAttribute_22 (fun gm_2 H locs egm_2 hP hD hS => ?_)
  have hI_gm_2 := CI_st hI egm_2 (show iv 0 1200 (sg 6) from CI_s hI 6) (by decide)
  refine ec_aload_n hx hb dX6_addAttribute_23 rfl (lv_at hl 0 rfl) ?_
  refine cr_get (t := 1) (j := 3) (C := RX6) (T := TX6) (N := 8) (v := eV (ad 17) 0) hx hb htb inX6 hown hK hP hvx (by decide) (by decide) (by decide) rfl (by decide) (htb _ kw_69) (cV_c rfl (by decide) (by rw [show cMu 1 3 = 0 from rfl, Nat.zero_mul]; rfl)) dX6_addAttribute_24 ?_
  refine ec_aload_n hx hb dX6_addAttribute_27 rfl (lv_at hl 0 rfl) ?_
  refine cr_get (t := 1) (j := 6) (C := RX6) (T := TX6) (N := 8) (v := .int (sg 5)) hx hb htb inX6 hown hK hP hvx (by decide) (by decide) (by decide) rfl (by decide) (htb _ kw_346) rfl dX6_addAttribute_28 ?_
  refine lv_iconst (v := 0) hx hb dX6_addAttribute_31 (by decide) ?_
  refine cr_iast (t := 17) (k := 45) (n9 := ((sg 5) : Int32).toNatClampNeg) (z := 0) hx hb hK hP hD hS (iv_k (by decide) : iv 0 0 0) (by decide) (by decide) (by decide) rfl rfl rfl (show vp_in (sg 5) (cLen 17) from (show vp_in (sg 5) 240 from (iv_in h5 (by decide)))) (Or.inl rfl) (by rw [show cAw 17 = 0 from rfl, Nat.zero_mul, Nat.zero_add]) dX6_addAttribute_32 (fun gm_3 H locs egm_3 hP hD hS => ?_)
  have hI_gm_3 := CI_st hI_gm_2 egm_3 (iv_k (by decide) : iv 0 0 0) (by decide)
  refine ec_aload_n hx hb dX6_addAttribute_33 rfl (lv_at hl 0 rfl) ?_
  refine lv_dup hx hb dX6_addAttribute_34 (eV_cat _ _) ?_
  refine cr_get (t := 1) (j := 6) (C := RX6) (T := TX6) (N := 8) (v := .int (sg 5)) hx hb htb inX6 hown hK hP hvx (by decide) (by decide) (by decide) rfl (by decide) (htb _ kw_346) rfl dX6_addAttribute_35 ?_
  refine lv_iconst (v := 1) hx hb dX6_addAttribute_38 (by decide) ?_
  refine lv_iadd hx hb dX6_addAttribute_39 ?_
  refine lv_topi (fun z_4 ez_4 => ?_)
  have hz_4 : iv 1 240 z_4 := iv_of ez_4 (iv_add h5 (iv_k (by decide) : iv 1 1 1) (by decide))
  have tz_4 : z_4.toInt = ((sg 5) : Int32).toInt + 1 := by rw [ez_4]; exact iv_addE h5 (iv_k (by decide) : iv 1 1 1) (by decide)
  refine cr_puts (t := 1) (j := 6) (C := RX6) (T := TX6) (N := 8) (ty0 := tyX6) (k := 5) (y := z_4) hx hb htb inX6 tyX6_ok nmX6 hown hK hP hD hS hvx (by decide) (by decide) (by decide) (by decide) rfl rfl rfl (by decide) (htb _ kw_346) rfl (by show Value.int z_4 = Value.int (va_up sg 5 z_4 5); rw [va_up_self]) rfl rfl dX6_addAttribute_40 (fun sg_5 H locs esg_5 hP hD hS => ?_)
  have hI_sg_5 := CI_put hI_gm_3 esg_5 hz_4 (by decide)
  refine ec_aload_n hx hb dX6_addAttribute_43 rfl (lv_at hl 1 rfl) ?_
  refine lv_dup hx hb dX6_addAttribute_44 (eV_cat _ _) ?_
  refine cr_get (t := 9) (j := 10) (C := RX3) (T := TX3) (N := 21) (v := .int (gm_3 20 o.toNatClampNeg)) hx hb htb inX3 hown hK hP hvo (by decide) (by decide) (by decide) rfl (by decide) (htb _ kw_420) rfl dX6_addAttribute_45 ?_
  obtain ⟨z_6, ez_6⟩ : ∃ z : Int32, z = (gm_3 20 o.toNatClampNeg) := ⟨_, rfl⟩
  refine W.eq (g2 := F0 m 48 ls [.int z_6, eV (ad 9) o]) (by rw [ez_6]) ?_
  have hz_6 : iv 0 12 z_6 := iv_of ez_6 (CI_a hI_sg_5 20 hvo (by decide))
  have ez_6 := ez_6.trans (congrFun (Eq.trans (up_ne egm_3 (by decide)) (up_ne egm_2 (by decide))) _)
  have h_7 : iv 0 11 z_6 := ⟨(hz_6).1, by rw [ez_6]; exact h20⟩
  refine lv_iconst (v := 1) hx hb dX6_addAttribute_48 (by decide) ?_
  refine lv_iadd hx hb dX6_addAttribute_49 ?_
  refine lv_topi (fun z_8 ez_8 => ?_)
  have hz_8 : iv 1 12 z_8 := iv_of ez_8 (iv_add h_7 (iv_k (by decide) : iv 1 1 1) (by decide))
  have tz_8 : z_8.toInt = (z_6 : Int32).toInt + 1 := by rw [ez_8]; exact iv_addE h_7 (iv_k (by decide) : iv 1 1 1) (by decide)
  refine cr_putg (t := 9) (j := 10) (C := RX3) (T := TX3) (N := 21) (ty0 := tyX3) (k := 20) (y := z_8) hx hb htb inX3 tyX3_ok nmX3 hown hK hP hD hS hvo (by decide) (by decide) (by decide) (by decide) rfl rfl (by decide) (htb _ kw_420) rfl (by show Value.int z_8 = Value.int (va_up gm_3 20 (upd (gm_3 20) o.toNatClampNeg z_8) 20 o.toNatClampNeg); rw [va_up_self, upd_at]) rfl rfl dX6_addAttribute_50 (fun gm_9 H locs egm_9 hP hD hS => ?_)
  have hI_gm_9 := CI_st hI_sg_5 egm_9 hz_8 (by decide)
  exact W.nb (fun hN => W.widen (k := 1) (n := 6) (by decide) (by decide) (vx_ret (W.vret hx hb hr (fun t ht hW => ⟨⟨none, (sg_5, gm_9, lg_1), rfl, ⟨rfl, sg_5, gm_9, lg_1, rfl, hI_gm_9, (KS_up KS_rf esg_5 (by decide)), (KS_up (KS_up (KS_up KS_rf egm_2 (by decide)) egm_3 (by decide)) egm_9 (by decide)), (KS_up KS_rf elg_1 (by decide)), (FA_add hFA hvo.1 how (up_ne esg_5 (by decide)) (by have := i32_0; have := i32_1; have := i32_2; have := i32_m1; have := congrArg Int32.toInt (show sg_5 5 = z_4 from up_at esg_5); have := (hz_4).1; have := (hz_4).2; have := (hvx).1; have := (hvx).2; have := (hvo).1; have := (hvo).2; have := (h5).1; have := (h5).2; have := ((show iv 0 1200 (sg 6) from CI_s hI 6)).1; have := ((show iv 0 1200 (sg 6) from CI_s hI 6)).2; have := (h_7).1; have := (h_7).2; have := (hz_8).1; have := (hz_8).2; omega) (Eq.trans (Eq.trans (up_ne egm_9 (by decide)) (up_ne egm_3 (by decide))) (up_ne egm_2 (by decide))) (show gm_9 20 = upd (gm 20) (o : Int32).toNatClampNeg z_8 from ((up_at egm_9).trans (by rw [show gm_3 20 = gm 20 from ((up_ne egm_3 (by decide)).trans ((up_ne egm_2 (by decide)).trans rfl))]))) ez_6 tz_8), (VS_add hVS h5.1 (by have := i32_0; have := i32_1; have := i32_2; have := i32_m1; have := congrArg Int32.toInt (show sg_5 5 = z_4 from up_at esg_5); have := (hz_4).1; have := (hz_4).2; have := (hvx).1; have := (hvx).2; have := (hvo).1; have := (hvo).2; have := (h5).1; have := (h5).2; have := ((show iv 0 1200 (sg 6) from CI_s hI 6)).1; have := ((show iv 0 1200 (sg 6) from CI_s hI 6)).2; have := (h_7).1; have := (h_7).2; have := (hz_8).1; have := (hz_8).2; omega) (up_ne esg_5 (by decide)) (show gm_9 44 = upd (gm 44) ((sg 5) : Int32).toNatClampNeg (sg 6) from ((up_ne egm_9 (by decide)).trans ((up_ne egm_3 (by decide)).trans ((up_at egm_2).trans (by rw [show gm 44 = gm 44 from rfl]))))) (show gm_9 45 = upd (gm 45) ((sg 5) : Int32).toNatClampNeg 0 from ((up_ne egm_9 (by decide)).trans ((up_at egm_3).trans (by rw [show gm_2 45 = gm 45 from ((up_ne egm_2 (by decide)).trans rfl)])))) rfl), (by have := i32_0; have := i32_1; have := i32_2; have := i32_m1; have := congrArg Int32.toInt (show sg_5 5 = z_4 from up_at esg_5); have := (hz_4).1; have := (hz_4).2; have := (hvx).1; have := (hvx).2; have := (hvo).1; have := (hvo).2; have := (h5).1; have := (h5).2; have := ((show iv 0 1200 (sg 6) from CI_s hI 6)).1; have := ((show iv 0 1200 (sg 6) from CI_s hI 6)).2; have := (h_7).1; have := (h_7).2; have := (hz_8).1; have := (hz_8).2; omega)⟩, by rw [ht]; exact hP, va_K.moved hW.alike hK, hD⟩, hS.F ht, by rw [ht]; exact hN⟩) hS.2.2 dX6_addAttribute_53)))

set_option maxHeartbeats 4000000 in
set_option maxRecDepth 100000 in
theorem d_takesValue (l : Launch) (dC : Nat → ClassId) (dI : Nat → Nat → Nat) (ad : Nat → Nat → Nat) (cid : Nat → ClassId) (a2 : Nat → Nat) (lx : List Nat) (sg : Nat → Int32) (gm : Nat → Nat → Int32) (lg : Nat → Nat → Int64) (x : Int32) (cc : Int32) (hI : CI sg gm) (hvx : iv 0 0 x) (hvcc : iv 0 65535 cc) (hVS : VS sg gm) : CMt dC dI ad cid a2 lx l yX6_takesValue wm_X6_takesValue ({ frames := 0, cells := 1, slots := 6, locals := 0 }) [eV (ad 1) x, .int cc] sg gm lg (fun v u => ∃ r : Int32, v = some (.int r) ∧ ∃ (sg2 : Nat → Int32) (gm2 : Nat → Nat → Int32) (lg2 : Nat → Nat → Int64), u = (sg2, gm2, lg2) ∧ CI sg2 gm2 ∧ KS [6] sg sg2 ∧ KS [45, 46] gm gm2 ∧ KS [] lg lg2 ∧ (iv 0 1 r) ∧ (VS sg2 gm2)) (fun _ _ => False) := by
  intro sz
  refine vx_ofW (cc := cX6_takesValue) (maxL := 3) (ret := (some .boolean)) (by decide) rfl ?_
  intro p e s m args below meth c s₁ B hml hxt hv
  obtain ⟨rfl, hsz, hP, hK, hD0, hG⟩ := hv
  have hx := B.exec
  have hb := B.bytes
  have hr := B.returns
  have hts := atoms_spec (ws := wm_X6_takesValue) B.pre
  have htb := fun (w : Cond) (h : w ∈ tb) => hts w (List.mem_cons_of_mem _ h)
  have hown : s.vm.findClass RX6 = some m.cls := findClass_of_methodNamed B.named
  have hlocks := B.notSynchronized
  subst hsz
  have hD := hD0.self (sz := s.heap.size)
  generalize hAe : va_A (cW ad cid a2 lx sg gm lg) s.heap.size = A at hD hG ⊢
  have hA : ∀ q : Nat, s.heap.size ≤ q → A q := fun q h => by rw [← hAe]; exact Or.inr h
  have hS : va_S A s.heap s.heap [] := va_S.rf
  have hl := lv_entry ([eV (ad 1) x, .int cc]) (n := 3) (by rw [show (lg_sl ([eV (ad 1) x, .int cc])).length = 2 from by simp [lg_sl, eV_cat, cat_i, cat_l]]; exact Nat.le_of_ble_eq_true rfl)
  rw [lg_entry_eq]
  generalize (lg_sl ([eV (ad 1) x, .int cc]) ++ List.replicate (3 - (lg_sl ([eV (ad 1) x, .int cc])).length) Slot.unset).toArray = ls at hl ⊢
  have hl : lv_has ls 3 [(0, eV (ad 1) x), (1, .int cc)] := by simp [lv_args, eV_cat, cat_i, cat_l] at hl; exact hl
  have hj34 : ∀ (x2_34 : Int32) (_ : iv (-1) 239 x2_34) (_ : iv 0 0 x) (_ : iv 0 65535 cc) (H : Heap) (locs : List Loc) (ls : Array Slot), va_P (dC, dI) vwCl (cW ad cid a2 lx sg gm lg) H → va_D A (cW ad cid a2 lx sg gm lg) → va_S A s.heap H locs → lv_has ls 3 [(2, .int x2_34), (0, eV (ad 1) x), (1, .int cc)] → W p l e (headSpec wm_X6_takesValue ({ frames := 0, cells := 1, slots := 6, locals := 0 })).room s m ([eV (ad 1) x, .int cc] : List Value).toArray below meth c H locs 0 0 (vx_MQ below (cQx dC dI ad cid a2 lx (fun v u => ∃ r : Int32, v = some (.int r) ∧ ∃ (sg2 : Nat → Int32) (gm2 : Nat → Nat → Int32) (lg2 : Nat → Nat → Int64), u = (sg2, gm2, lg2) ∧ CI sg2 gm2 ∧ KS [6] sg sg2 ∧ KS [45, 46] gm gm2 ∧ KS [] lg lg2 ∧ (iv 0 1 r) ∧ (VS sg2 gm2)) A) (cX dC dI ad cid a2 lx (fun _ _ => False) A) ([eV (ad 1) x, .int cc] : List Value).toArray s 1 6 A) (F0 m 34 ls []) := by
    intro x2_34 hx2_34 hsx0_34 hsx1_34 H locs ls hP hD hS hl
    refine lv_iconst (v := 0) hx hb dX6_takesValue_34 (by decide) ?_
    exact W.nb (fun hN => W.widen (k := 1) (n := 6) (by decide) (by decide) (vx_ret (W.zret (v := 0) hx hb hr (iv_nb (iv_w (iv_k (by decide) : iv 0 0 0) (by decide))) (fun t ht hW => ⟨⟨some (.int 0), (sg, gm, lg), rfl, ⟨0, rfl, sg, gm, lg, rfl, hI, KS_rf, KS_rf, KS_rf, (iv_w (iv_k (by decide) : iv 0 0 0) (by decide)), (hVS)⟩, by rw [ht]; exact hP, va_K.moved hW.alike hK, hD⟩, hS.F ht, by rw [ht]; exact hN⟩) hS.2.2 dX6_takesValue_35)))
  refine ec_aload_n hx hb dX6_takesValue_0 rfl (lv_at hl 0 rfl) ?_
  refine cr_get (t := 1) (j := 6) (C := RX6) (T := TX6) (N := 8) (v := .int (sg 5)) hx hb htb inX6 hown hK hP hvx (by decide) (by decide) (by decide) rfl (by decide) (htb _ kw_346) rfl dX6_takesValue_1 ?_
  refine lv_iconst (v := 1) hx hb dX6_takesValue_4 (by decide) ?_
  refine lv_isub hx hb dX6_takesValue_5 ?_
  refine lv_topi (fun z_1 ez_1 => ?_)
  have hz_1 : iv (-1) 239 z_1 := iv_of ez_1 (iv_sub (show iv 0 240 (sg 5) from CI_s hI 5) (iv_k (by decide) : iv 1 1 1) (by decide))
  have tz_1 : z_1.toInt = ((sg 5) : Int32).toInt - 1 := by rw [ez_1]; exact iv_subE (show iv 0 240 (sg 5) from CI_s hI 5) (iv_k (by decide) : iv 1 1 1) (by decide)
  refine lv_istore_n (i := 2) (lv' := [(2, .int z_1), (0, eV (ad 1) x), (1, .int cc)]) hx hb dX6_takesValue_6 rfl hl (by decide) rfl (fun ls hl => ?_)
  refine lv_iload_n hx hb dX6_takesValue_7 rfl (lv_at hl 0 rfl) ?_
  refine lv_if_lt (tgt := 34) hx hb dX6_takesValue_8 (by decide) (fun c_2 => ?_) (fun c_2 => ?_)
  · have h_3 : iv (-1) (-1) z_1 := iv_ltL c_2 hz_1 (iv_k (by decide) : iv 0 0 0) (by decide)
    exact hj34 z_1 (iv_w h_3 (by decide)) hvx hvcc _ _ _ hP hD hS (lv_sub hl [0, 1, 2] rfl)
  · have h_4 : iv 0 239 z_1 := iv_leR (i32_ge c_2) (iv_k (by decide) : iv 0 0 0) hz_1 (by decide)
    refine ec_aload_n hx hb dX6_takesValue_11 rfl (lv_at hl 1 rfl) ?_
    refine cr_get (t := 1) (j := 3) (C := RX6) (T := TX6) (N := 8) (v := eV (ad 17) 0) hx hb htb inX6 hown hK hP hvx (by decide) (by decide) (by decide) rfl (by decide) (htb _ kw_69) (cV_c rfl (by decide) (by rw [show cMu 1 3 = 0 from rfl, Nat.zero_mul]; rfl)) dX6_takesValue_12 ?_
    refine lv_iload_n hx hb dX6_takesValue_15 rfl (lv_at hl 0 rfl) ?_
    refine cr_iald (t := 17) (z := (gm 45 (z_1 : Int32).toNatClampNeg)) hx hb hK hP (iv_k (by decide) : iv 0 0 0) (by decide) (by decide) (by decide) rfl rfl (show vp_in z_1 (cLen 17) from (show vp_in z_1 240 from (iv_in h_4 (by decide)))) rfl dX6_takesValue_16 ?_
    obtain ⟨z_5, ez_5⟩ : ∃ z : Int32, z = (gm 45 (z_1 : Int32).toNatClampNeg) := ⟨_, rfl⟩
    refine W.eq (g2 := F0 m 17 ls [.int z_5]) (by rw [ez_5]) ?_
    have hz_5 : iv 0 24 z_5 := iv_of ez_5 (CI_a hI 45 h_4 (by decide))
    refine lv_bipush (v := 24) hx hb dX6_takesValue_17 (by decide) ?_
    refine lv_icmp_ge (tgt := 34) hx hb dX6_takesValue_19 (by decide) (fun c_6 => ?_) (fun c_6 => ?_)
    · have h_7 : iv 24 24 z_5 := iv_leR c_6 (iv_k (by decide) : iv 24 24 24) hz_5 (by decide)
      exact hj34 z_1 (iv_w h_4 (by decide)) hvx hvcc _ _ _ hP hD hS (lv_sub hl [0, 1, 2] rfl)
    · have h_8 : iv 0 23 z_5 := iv_ltL (i32_lt c_6) hz_5 (iv_k (by decide) : iv 24 24 24) (by decide)
      refine ec_aload_n hx hb dX6_takesValue_22 rfl (lv_at hl 1 rfl) ?_
      refine cr_get (t := 1) (j := 7) (C := RX6) (T := TX6) (N := 8) (v := .int (sg 6)) hx hb htb inX6 hown hK hP hvx (by decide) (by decide) (by decide) rfl (by decide) (htb _ kw_347) rfl dX6_takesValue_23 ?_
      refine ec_aload_n hx hb dX6_takesValue_26 rfl (lv_at hl 1 rfl) ?_
      refine cr_get (t := 1) (j := 4) (C := RX6) (T := TX6) (N := 8) (v := eV (ad 18) 0) hx hb htb inX6 hown hK hP hvx (by decide) (by decide) (by decide) rfl (by decide) (htb _ kw_70) (cV_c rfl (by decide) (by rw [show cMu 1 4 = 0 from rfl, Nat.zero_mul]; rfl)) dX6_takesValue_27 ?_
      refine cr_alen (t := 18) (z := 1200) hx hb hK hP (iv_k (by decide) : iv 0 0 0) (by decide) (by decide) (by decide) rfl dX6_takesValue_30 ?_
      refine lv_icmp_lt (tgt := 36) hx hb dX6_takesValue_31 (by decide) (fun c_9 => ?_) (fun c_9 => ?_)
      · have h_10 : iv 0 1199 (sg 6) := iv_ltL c_9 (show iv 0 1200 (sg 6) from CI_s hI 6) (iv_k (by decide) : iv 1200 1200 1200) (by decide)
        refine ec_aload_n hx hb dX6_takesValue_36 rfl (lv_at hl 1 rfl) ?_
        refine cr_get (t := 1) (j := 4) (C := RX6) (T := TX6) (N := 8) (v := eV (ad 18) 0) hx hb htb inX6 hown hK hP hvx (by decide) (by decide) (by decide) rfl (by decide) (htb _ kw_70) (cV_c rfl (by decide) (by rw [show cMu 1 4 = 0 from rfl, Nat.zero_mul]; rfl)) dX6_takesValue_37 ?_
        refine ec_aload_n hx hb dX6_takesValue_40 rfl (lv_at hl 1 rfl) ?_
        refine cr_get (t := 1) (j := 7) (C := RX6) (T := TX6) (N := 8) (v := .int (sg 6)) hx hb htb inX6 hown hK hP hvx (by decide) (by decide) (by decide) rfl (by decide) (htb _ kw_347) rfl dX6_takesValue_41 ?_
        refine lv_iload_n hx hb dX6_takesValue_44 rfl (lv_at hl 2 rfl) ?_
        refine cr_cast (t := 18) (k := 46) (n9 := ((sg 6) : Int32).toNatClampNeg) (z := cc) hx hb hK hP hD hS (iv_k (by decide) : iv 0 0 0) (by decide) (by decide) (by decide) rfl rfl rfl (show vp_in (sg 6) (cLen 18) from (show vp_in (sg 6) 1200 from (iv_in h_10 (by decide)))) (Or.inl rfl) (by rw [show cAw 18 = 0 from rfl, Nat.zero_mul, Nat.zero_add]) dX6_takesValue_45 (fun gm_11 H locs egm_11 hP hD hS => ?_)
        rw [vnc hvcc] at egm_11
        have hI_gm_11 := CI_st hI egm_11 hvcc (by decide)
        refine ec_aload_n hx hb dX6_takesValue_46 rfl (lv_at hl 1 rfl) ?_
        refine lv_dup hx hb dX6_takesValue_47 (eV_cat _ _) ?_
        refine cr_get (t := 1) (j := 7) (C := RX6) (T := TX6) (N := 8) (v := .int (sg 6)) hx hb htb inX6 hown hK hP hvx (by decide) (by decide) (by decide) rfl (by decide) (htb _ kw_347) rfl dX6_takesValue_48 ?_
        refine lv_iconst (v := 1) hx hb dX6_takesValue_51 (by decide) ?_
        refine lv_iadd hx hb dX6_takesValue_52 ?_
        refine lv_topi (fun z_12 ez_12 => ?_)
        have hz_12 : iv 1 1200 z_12 := iv_of ez_12 (iv_add h_10 (iv_k (by decide) : iv 1 1 1) (by decide))
        have tz_12 : z_12.toInt = ((sg 6) : Int32).toInt + 1 := by rw [ez_12]; exact iv_addE h_10 (iv_k (by decide) : iv 1 1 1) (by decide)
        refine cr_puts (t := 1) (j := 7) (C := RX6) (T := TX6) (N := 8) (ty0 := tyX6) (k := 6) (y := z_12) hx hb htb inX6 tyX6_ok nmX6 hown hK hP hD hS hvx (by decide) (by decide) (by decide) (by decide) rfl rfl rfl (by decide) (htb _ kw_347) rfl (by show Value.int z_12 = Value.int (va_up sg 6 z_12 6); rw [va_up_self]) rfl rfl dX6_takesValue_53 (fun sg_13 H locs esg_13 hP hD hS => ?_)
        have hI_sg_13 := CI_put hI_gm_11 esg_13 hz_12 (by decide)
        refine ec_aload_n hx hb dX6_takesValue_56 rfl (lv_at hl 1 rfl) ?_
        refine cr_get (t := 1) (j := 3) (C := RX6) (T := TX6) (N := 8) (v := eV (ad 17) 0) hx hb htb inX6 hown hK hP hvx (by decide) (by decide) (by decide) rfl (by decide) (htb _ kw_69) (cV_c rfl (by decide) (by rw [show cMu 1 3 = 0 from rfl, Nat.zero_mul]; rfl)) dX6_takesValue_57 ?_
        refine lv_iload_n hx hb dX6_takesValue_60 rfl (lv_at hl 0 rfl) ?_
        refine lv_dup2_11 hx hb dX6_takesValue_61 rfl (eV_cat _ _) ?_
        refine cr_iald (t := 17) (z := (gm_11 45 (z_1 : Int32).toNatClampNeg)) hx hb hK hP (iv_k (by decide) : iv 0 0 0) (by decide) (by decide) (by decide) rfl rfl (show vp_in z_1 (cLen 17) from (show vp_in z_1 240 from (iv_in h_4 (by decide)))) rfl dX6_takesValue_62 ?_
        refine W.eq (g2 := F0 m 63 ls [.int z_5, .int z_1, eV (ad 17) 0]) (by rw [show (gm_11 45 (z_1 : Int32).toNatClampNeg) = z_5 from (Eq.trans (congrFun (up_ne egm_11 (by decide)) _) ez_5.symm)]) ?_
        refine lv_iconst (v := 1) hx hb dX6_takesValue_63 (by decide) ?_
        refine lv_iadd hx hb dX6_takesValue_64 ?_
        refine lv_topi (fun z_14 ez_14 => ?_)
        have hz_14 : iv 1 24 z_14 := iv_of ez_14 (iv_add h_8 (iv_k (by decide) : iv 1 1 1) (by decide))
        have tz_14 : z_14.toInt = (z_5 : Int32).toInt + 1 := by rw [ez_14]; exact iv_addE h_8 (iv_k (by decide) : iv 1 1 1) (by decide)
        refine cr_iast (t := 17) (k := 45) (n9 := (z_1 : Int32).toNatClampNeg) (z := z_14) hx hb hK hP hD hS (iv_k (by decide) : iv 0 0 0) (by decide) (by decide) (by decide) rfl rfl rfl (show vp_in z_1 (cLen 17) from (show vp_in z_1 240 from (iv_in h_4 (by decide)))) (Or.inl rfl) (by rw [show cAw 17 = 0 from rfl, Nat.zero_mul, Nat.zero_add]) dX6_takesValue_65 (fun gm_15 H locs egm_15 hP hD hS => ?_)
        have hI_gm_15 := CI_st hI_sg_13 egm_15 hz_14 (by decide)
        refine lv_iconst (v := 1) hx hb dX6_takesValue_66 (by decide) ?_
        exact W.nb (fun hN => W.widen (k := 1) (n := 6) (by decide) (by decide) (vx_ret (W.zret (v := 1) hx hb hr (iv_nb (iv_w (iv_k (by decide) : iv 1 1 1) (by decide))) (fun t ht hW => ⟨⟨some (.int 1), (sg_13, gm_15, lg), rfl, ⟨1, rfl, sg_13, gm_15, lg, rfl, hI_gm_15, (KS_up KS_rf esg_13 (by decide)), (KS_up (KS_up KS_rf egm_11 (by decide)) egm_15 (by decide)), KS_rf, (iv_w (iv_k (by decide) : iv 1 1 1) (by decide)), (VS_take hVS (h_4).1 (by have := i32_0; have := i32_1; have := i32_2; have := i32_m1; have := congrArg Int32.toInt (show sg_13 5 = sg 5 from up_ne esg_13 (by decide)); have := (show iv 0 240 (sg 5) from CI_s hI 5).1; have := (show iv 0 240 (sg 5) from CI_s hI 5).2; have := (hvx).1; have := (hvx).2; have := (hvcc).1; have := (hvcc).2; have := ((show iv 0 240 (sg 5) from CI_s hI 5)).1; have := ((show iv 0 240 (sg 5) from CI_s hI 5)).2; have := (h_4).1; have := (h_4).2; have := (h_8).1; have := (h_8).2; have := (h_10).1; have := (h_10).2; have := (hz_12).1; have := (hz_12).2; have := (hz_14).1; have := (hz_14).2; omega) (up_ne esg_13 (by decide)) (by have := i32_0; have := i32_1; have := i32_2; have := i32_m1; have := congrArg Int32.toInt (show sg_13 6 = z_12 from up_at esg_13); have := (hz_12).1; have := (hz_12).2; have := (hvx).1; have := (hvx).2; have := (hvcc).1; have := (hvcc).2; have := ((show iv 0 240 (sg 5) from CI_s hI 5)).1; have := ((show iv 0 240 (sg 5) from CI_s hI 5)).2; have := (h_4).1; have := (h_4).2; have := (h_8).1; have := (h_8).2; have := (h_10).1; have := (h_10).2; have := (hz_14).1; have := (hz_14).2; omega) (Eq.trans (up_ne egm_15 (by decide)) (up_ne egm_11 (by decide))) (show gm_15 45 = upd (gm 45) (z_1 : Int32).toNatClampNeg z_14 from ((up_at egm_15).trans (by rw [show gm_11 45 = gm 45 from ((up_ne egm_11 (by decide)).trans rfl)]))) ez_5 tz_14)⟩, by rw [ht]; exact hP, va_K.moved hW.alike hK, hD⟩, hS.F ht, by rw [ht]; exact hN⟩) hS.2.2 dX6_takesValue_67)))
      · have h_16 : iv 1200 1200 (sg 6) := iv_leR (i32_ge c_9) (iv_k (by decide) : iv 1200 1200 1200) (show iv 0 1200 (sg 6) from CI_s hI 6) (by decide)
        exact hj34 z_1 (iv_w h_4 (by decide)) hvx hvcc _ _ _ hP hD hS (lv_sub hl [0, 1, 2] rfl)

set_option maxHeartbeats 4000000 in
set_option maxRecDepth 100000 in
theorem d_withKey (l : Launch) (dC : Nat → ClassId) (dI : Nat → Nat → Nat) (ad : Nat → Nat → Nat) (cid : Nat → ClassId) (a2 : Nat → Nat) (lx : List Nat) (sg : Nat → Int32) (gm : Nat → Nat → Int32) (lg : Nat → Nat → Int64) (k : Int64) (hI : CI sg gm) : CMt dC dI ad cid a2 lx l yX11_withKey wm_X11_withKey ({ frames := 0, cells := 1, slots := 6, locals := 0 }) [.long k] sg gm lg (fun v u => ∃ r : Int32, v = some (eV (ad 33) r) ∧ u = (sg, gm, lg) ∧ (iv (-1) 33 r) ∧ (r.toInt = -1 ∨ wKy.getD r.toNatClampNeg 0 = k)) (fun _ _ => False) := by
  intro sz
  refine vx_ofW (cc := cX11_withKey) (maxL := 6) (ret := (some (.object "WiredBeans$Word"))) (by decide) rfl ?_
  intro p e s m args below meth c s₁ B hml hxt hv
  obtain ⟨rfl, hsz, hP, hK, hD0, hG⟩ := hv
  have hx := B.exec
  have hb := B.bytes
  have hr := B.returns
  have hts := atoms_spec (ws := wm_X11_withKey) B.pre
  have htb := fun (w : Cond) (h : w ∈ tb) => hts w (List.mem_cons_of_mem _ h)
  have hown : s.vm.findClass RX11 = some m.cls := findClass_of_methodNamed B.named
  have hlocks := B.notSynchronized
  subst hsz
  have hD := hD0.self (sz := s.heap.size)
  generalize hAe : va_A (cW ad cid a2 lx sg gm lg) s.heap.size = A at hD hG ⊢
  have hA : ∀ q : Nat, s.heap.size ≤ q → A q := fun q h => by rw [← hAe]; exact Or.inr h
  have hS : va_S A s.heap s.heap [] := va_S.rf
  have hl := lv_entry ([.long k]) (n := 6) (Nat.le_of_ble_eq_true rfl)
  rw [lg_entry_eq]
  generalize (lg_sl ([.long k]) ++ List.replicate (6 - (lg_sl ([.long k])).length) Slot.unset).toArray = ls at hl ⊢
  have hl : lv_has ls 6 [(0, .long k)] := hl
  have hj10 : ∀ (n : Nat) (x4_10 : Int32) (_ : (59 - x4_10.toInt).toNat = n) (_ : iv 0 59 x4_10) (H : Heap) (locs : List Loc) (ls : Array Slot), va_P (dC, dI) vwCl (cW ad cid a2 lx sg gm lg) H → va_D A (cW ad cid a2 lx sg gm lg) → va_S A s.heap H locs → lv_has ls 6 [(4, .int x4_10), (3, .int 34), (2, eV (ad 35) 0), (0, .long k)] → W p l e (headSpec wm_X11_withKey ({ frames := 0, cells := 1, slots := 6, locals := 0 })).room s m ([.long k] : List Value).toArray below meth c H locs 0 0 (vx_MQ below (cQx dC dI ad cid a2 lx (fun v u => ∃ r : Int32, v = some (eV (ad 33) r) ∧ u = (sg, gm, lg) ∧ (iv (-1) 33 r) ∧ (r.toInt = -1 ∨ wKy.getD r.toNatClampNeg 0 = k)) A) (cX dC dI ad cid a2 lx (fun _ _ => False) A) ([.long k] : List Value).toArray s 1 6 A) (F0 m 10 ls []) := by
    intro n
    induction n using Nat.strongRecOn with
    | ind n ih10 =>
      intro x4_10 hn10 hx4_10 H locs ls hP hD hS hl
      refine lv_iload hx hb dX11_withKey_10 (lv_at hl 0 rfl) ?_
      refine lv_iload_n hx hb dX11_withKey_12 rfl (lv_at hl 1 rfl) ?_
      refine lv_icmp_ge (tgt := 41) hx hb dX11_withKey_13 (by decide) (fun c_1 => ?_) (fun c_1 => ?_)
      · have h_2 : iv 34 59 x4_10 := iv_leR c_1 (iv_k (by decide) : iv 34 34 34) hx4_10 (by decide)
        refine ec_null (a := ad 33) hx hb dX11_withKey_41 ?_
        exact W.nb (fun hN => W.widen (k := 1) (n := 6) (by decide) (by decide) (vx_ret (W.aret (v := eV (ad 33) (-1)) hx hb hr (Or.inl ⟨_, rfl⟩) (eV_is _ _) (fun t ht hW => ⟨⟨some (eV (ad 33) (-1)), (sg, gm, lg), rfl, ⟨(-1), rfl, rfl, (iv_w (iv_k (by decide) : iv (-1) (-1) (-1)) (by decide)), (Or.inl rfl)⟩, by rw [ht]; exact hP, va_K.moved hW.alike hK, hD⟩, hS.F ht, by rw [ht]; exact hN⟩) hS.2.2 dX11_withKey_42)))
      · have h_3 : iv 0 33 x4_10 := iv_ltL (i32_lt c_1) hx4_10 (iv_k (by decide) : iv 34 34 34) (by decide)
        refine ec_aload_n hx hb dX11_withKey_16 rfl (lv_at hl 2 rfl) ?_
        refine lv_iload hx hb dX11_withKey_17 (lv_at hl 0 rfl) ?_
        refine cw_alld (iv_k (by decide) : iv 0 0 0) hx hb hG hS h_3 dX11_withKey_19 ?_
        refine ec_astore (i := 5) (lv' := [(5, eV (ad 33) x4_10), (4, .int x4_10), (3, .int 34), (2, eV (ad 35) 0), (0, .long k)]) hx hb dX11_withKey_20 hl (by decide) rfl (fun ls hl => ?_)
        refine ec_aload hx hb dX11_withKey_22 (lv_at hl 0 rfl) ?_
        refine cw_key hx hb hG hS h_3 hown (htb _ kw_412) dX11_withKey_24 ?_
        refine lv_topl (fun z_4 ez_4 => ?_)
        refine lv_lload_n hx hb dX11_withKey_27 rfl (lv_at hl 4 rfl) ?_
        refine W.lcmp hx hb dX11_withKey_28 ?_
        refine lv_topi (fun z_5 ez_5 => ?_)
        have hz_5 : iv (-1) 1 z_5 := iv_of ez_5 (iv_cmp _ _)
        refine lv_if_ne (tgt := 35) hx hb dX11_withKey_29 (by decide) (fun c_6 => ?_) (fun c_6 => ?_)
        · have d_7 : ¬ (z_5 : Int32).toInt = 0 := lv_neT c_6 rfl
          obtain ⟨z_8, ez_8⟩ : ∃ z : Int32, z = x4_10 + 1 := ⟨_, rfl⟩
          have hz_8 : iv 1 34 z_8 := iv_of ez_8 (iv_add h_3 (iv_k (by decide) : iv 1 1 1) (by decide))
          have tz_8 : z_8.toInt = x4_10.toInt + 1 := by rw [ez_8]; exact iv_addE h_3 (iv_k (by decide) : iv 1 1 1) (by decide)
          refine lv_iinc (v := z_8) (lv' := [(4, .int z_8), (5, eV (ad 33) x4_10), (3, .int 34), (2, eV (ad 35) 0), (0, .long k)]) hx hb dX11_withKey_35 hl (k := 1) rfl ez_8.symm (by decide) rfl (fun ls hl => ?_)
          refine lv_goto (tgt := 10) hx hb dX11_withKey_38 (by decide) ?_
          exact ih10 _ (by rw [← hn10]; exact (iv_meas tz_8 h_3 (by decide))) z_8 rfl (iv_w hz_8 (by decide)) _ _ _ hP hD hS (lv_sub hl [0, 2, 3, 4] rfl)
        · have h_9 : iv 0 0 z_5 := iv_eq c_6 hz_5 (iv_k (by decide) : iv 0 0 0) (by decide)
          refine ec_aload hx hb dX11_withKey_32 (lv_at hl 0 rfl) ?_
          exact W.nb (fun hN => W.widen (k := 1) (n := 6) (by decide) (by decide) (vx_ret (W.aret (v := eV (ad 33) x4_10) hx hb hr (Or.inl ⟨_, rfl⟩) (eV_is _ _) (fun t ht hW => ⟨⟨some (eV (ad 33) x4_10), (sg, gm, lg), rfl, ⟨x4_10, rfl, rfl, (iv_w h_3 (by decide)), (Or.inr (by have q9 := c_6; rw [ez_5] at q9; rw [← ez_4]; exact (lg_cmp_eq _ _).mp q9))⟩, by rw [ht]; exact hP, va_K.moved hW.alike hK, hD⟩, hS.F ht, by rw [ht]; exact hN⟩) hS.2.2 dX11_withKey_34)))
  refine cw_all hx hb hG hS hown (htb _ kw_411) dX11_withKey_0 ?_
  refine ec_astore_n (i := 2) (lv' := [(2, eV (ad 35) 0), (0, .long k)]) hx hb dX11_withKey_3 rfl hl (by decide) rfl (fun ls hl => ?_)
  refine ec_aload_n hx hb dX11_withKey_4 rfl (lv_at hl 0 rfl) ?_
  refine cw_alln (iv_k (by decide) : iv 0 0 0) hx hb hG hS dX11_withKey_5 ?_
  refine lv_istore_n (i := 3) (lv' := [(3, .int 34), (2, eV (ad 35) 0), (0, .long k)]) hx hb dX11_withKey_6 rfl hl (by decide) (by simp [List.filter, eV_cat, cat_i, cat_l]) (fun ls hl => ?_)
  refine lv_iconst (v := 0) hx hb dX11_withKey_7 (by decide) ?_
  refine lv_istore (i := 4) (lv' := [(4, .int 0), (3, .int 34), (2, eV (ad 35) 0), (0, .long k)]) hx hb dX11_withKey_8 hl (by decide) rfl (fun ls hl => ?_)
  exact hj10 _ 0 rfl (iv_w (iv_k (by decide) : iv 0 0 0) (by decide)) _ _ _ hP hD hS (lv_sub hl [0, 1, 2, 3] rfl)

set_option maxHeartbeats 4000000 in
set_option maxRecDepth 100000 in
theorem d_hasKey (l : Launch) (dC : Nat → ClassId) (dI : Nat → Nat → Nat) (ad : Nat → Nat → Nat) (cid : Nat → ClassId) (a2 : Nat → Nat) (lx : List Nat) (sg : Nat → Int32) (gm : Nat → Nat → Int32) (lg : Nat → Nat → Int64) (x : Int32) (o : Int32) (k : Int64) (hI : CI sg gm) (hvx : iv 0 0 x) (hvo : iv 0 79 o) (hFA : FA sg gm) (how : o.toInt < (sg 4).toInt) : CMt dC dI ad cid a2 lx l yX6_hasKey wm_X6_hasKey ({ frames := 0, cells := 1, slots := 6, locals := 0 }) [eV (ad 1) x, eV (ad 9) o, .long k] sg gm lg (fun v u => ∃ r : Int32, v = some (.int r) ∧ u = (sg, gm, lg) ∧ (iv 0 1 r) ∧ (r.toInt = 0 ∨ HSK gm lg o.toNatClampNeg k)) (fun _ _ => False) := by
  intro sz
  refine vx_ofW (cc := cX6_hasKey) (maxL := 5) (ret := (some .boolean)) (by decide) rfl ?_
  intro p e s m args below meth c s₁ B hml hxt hv
  obtain ⟨rfl, hsz, hP, hK, hD0, hG⟩ := hv
  have hx := B.exec
  have hb := B.bytes
  have hr := B.returns
  have hts := atoms_spec (ws := wm_X6_hasKey) B.pre
  have htb := fun (w : Cond) (h : w ∈ tb) => hts w (List.mem_cons_of_mem _ h)
  have hown : s.vm.findClass RX6 = some m.cls := findClass_of_methodNamed B.named
  have hlocks := B.notSynchronized
  subst hsz
  have hD := hD0.self (sz := s.heap.size)
  generalize hAe : va_A (cW ad cid a2 lx sg gm lg) s.heap.size = A at hD hG ⊢
  have hA : ∀ q : Nat, s.heap.size ≤ q → A q := fun q h => by rw [← hAe]; exact Or.inr h
  have hS : va_S A s.heap s.heap [] := va_S.rf
  have hl := lv_entry ([eV (ad 1) x, eV (ad 9) o, .long k]) (n := 5) (by rw [show (lg_sl ([eV (ad 1) x, eV (ad 9) o, .long k])).length = 4 from by simp [lg_sl, eV_cat, cat_i, cat_l]]; exact Nat.le_of_ble_eq_true rfl)
  rw [lg_entry_eq]
  generalize (lg_sl ([eV (ad 1) x, eV (ad 9) o, .long k]) ++ List.replicate (5 - (lg_sl ([eV (ad 1) x, eV (ad 9) o, .long k])).length) Slot.unset).toArray = ls at hl ⊢
  have hl : lv_has ls 5 [(0, eV (ad 1) x), (1, eV (ad 9) o), (2, .long k)] := by simp [lv_args, eV_cat, cat_i, cat_l] at hl; exact hl
  have hj3 : ∀ (n : Nat) (x4_3 : Int32) (_ : (12 - x4_3.toInt).toNat = n) (_ : iv 0 12 x4_3) (_ : iv 0 0 x) (_ : iv 0 79 o) (H : Heap) (locs : List Loc) (ls : Array Slot), va_P (dC, dI) vwCl (cW ad cid a2 lx sg gm lg) H → va_D A (cW ad cid a2 lx sg gm lg) → va_S A s.heap H locs → lv_has ls 5 [(4, .int x4_3), (0, eV (ad 1) x), (1, eV (ad 9) o), (2, .long k)] → W p l e (headSpec wm_X6_hasKey ({ frames := 0, cells := 1, slots := 6, locals := 0 })).room s m ([eV (ad 1) x, eV (ad 9) o, .long k] : List Value).toArray below meth c H locs 0 0 (vx_MQ below (cQx dC dI ad cid a2 lx (fun v u => ∃ r : Int32, v = some (.int r) ∧ u = (sg, gm, lg) ∧ (iv 0 1 r) ∧ (r.toInt = 0 ∨ HSK gm lg o.toNatClampNeg k)) A) (cX dC dI ad cid a2 lx (fun _ _ => False) A) ([eV (ad 1) x, eV (ad 9) o, .long k] : List Value).toArray s 1 6 A) (F0 m 3 ls []) := by
    intro n
    induction n using Nat.strongRecOn with
    | ind n ih3 =>
      intro x4_3 hn3 hx4_3 hsx0_3 hsx1_3 H locs ls hP hD hS hl
      refine lv_iload hx hb dX6_hasKey_3 (lv_at hl 0 rfl) ?_
      refine ec_aload_n hx hb dX6_hasKey_5 rfl (lv_at hl 2 rfl) ?_
      refine cr_get (t := 9) (j := 10) (C := RX3) (T := TX3) (N := 21) (v := .int (gm 20 o.toNatClampNeg)) hx hb htb inX3 hown hK hP hsx1_3 (by decide) (by decide) (by decide) rfl (by decide) (htb _ kw_420) rfl dX6_hasKey_6 ?_
      obtain ⟨z_1, ez_1⟩ : ∃ z : Int32, z = (gm 20 o.toNatClampNeg) := ⟨_, rfl⟩
      refine W.eq (g2 := F0 m 9 ls [.int z_1, .int x4_3]) (by rw [ez_1]) ?_
      have hz_1 : iv 0 12 z_1 := iv_of ez_1 (CI_a hI 20 hsx1_3 (by decide))
      refine lv_icmp_ge (tgt := 37) hx hb dX6_hasKey_9 (by decide) (fun c_2 => ?_) (fun c_2 => ?_)
      · have d_3 : (z_1 : Int32).toInt ≤ (x4_3 : Int32).toInt := Int32.le_iff_toInt_le.mp c_2
        refine lv_iconst (v := 0) hx hb dX6_hasKey_37 (by decide) ?_
        exact W.nb (fun hN => W.widen (k := 1) (n := 6) (by decide) (by decide) (vx_ret (W.zret (v := 0) hx hb hr (iv_nb (iv_w (iv_k (by decide) : iv 0 0 0) (by decide))) (fun t ht hW => ⟨⟨some (.int 0), (sg, gm, lg), rfl, ⟨0, rfl, rfl, (iv_w (iv_k (by decide) : iv 0 0 0) (by decide)), (Or.inl rfl)⟩, by rw [ht]; exact hP, va_K.moved hW.alike hK, hD⟩, hS.F ht, by rw [ht]; exact hN⟩) hS.2.2 dX6_hasKey_38)))
      · have d_4 : (x4_3 : Int32).toInt < (z_1 : Int32).toInt := Int32.lt_iff_toInt_lt.mp (i32_lt c_2)
        have h_5 : iv 0 11 x4_3 := iv_ltL (i32_lt c_2) hx4_3 hz_1 (by decide)
        have h_6 : iv 1 12 z_1 := iv_ltR (i32_lt c_2) hx4_3 hz_1 (by decide)
        refine ec_aload_n hx hb dX6_hasKey_12 rfl (lv_at hl 1 rfl) ?_
        refine cr_get (t := 1) (j := 1) (C := RX6) (T := TX6) (N := 8) (v := eV (ad 15) 0) hx hb htb inX6 hown hK hP hsx0_3 (by decide) (by decide) (by decide) rfl (by decide) (htb _ kw_67) (cV_c rfl (by decide) (by rw [show cMu 1 1 = 0 from rfl, Nat.zero_mul]; rfl)) dX6_hasKey_13 ?_
        refine ec_aload_n hx hb dX6_hasKey_16 rfl (lv_at hl 2 rfl) ?_
        refine cr_get (t := 9) (j := 9) (C := RX3) (T := TX3) (N := 21) (v := .int (gm 19 o.toNatClampNeg)) hx hb htb inX3 hown hK hP hsx1_3 (by decide) (by decide) (by decide) rfl (by decide) (htb _ kw_421) rfl dX6_hasKey_17 ?_
        obtain ⟨z_7, ez_7⟩ : ∃ z : Int32, z = (gm 19 o.toNatClampNeg) := ⟨_, rfl⟩
        refine W.eq (g2 := F0 m 20 ls [.int z_7, eV (ad 15) 0]) (by rw [ez_7]) ?_
        have hz_7 : iv 0 240 z_7 := iv_of ez_7 (CI_a hI 19 hsx1_3 (by decide))
        refine lv_iload hx hb dX6_hasKey_20 (lv_at hl 0 rfl) ?_
        have hfa9 : (z_7 : Int32).toInt + (z_1 : Int32).toInt ≤ (sg 5).toInt := by rw [ez_7, ez_1]; exact hFA _ (lt_cl hvo (show iv 0 80 (sg 4) from CI_s hI 4) (by decide) (by decide) how)
        refine lv_iadd hx hb dX6_hasKey_22 ?_
        refine lv_topi (fun z_8 ez_8 => ?_)
        have hz_8 : iv 0 251 z_8 := iv_of ez_8 (iv_add hz_7 h_5 (by decide))
        have tz_8 : z_8.toInt = (z_7 : Int32).toInt + (x4_3 : Int32).toInt := by rw [ez_8]; exact iv_addE hz_7 h_5 (by decide)
        refine cr_lald hx hb hK hP (iv_k (by decide) : iv 0 0 0) (show vp_in z_8 240 from (vp_in_iff.mpr ⟨by have := i32_0; have := i32_1; have := i32_2; have := i32_m1; have := (show iv 0 240 (sg 5) from CI_s hI 5).1; have := (show iv 0 240 (sg 5) from CI_s hI 5).2; have := (hsx0_3).1; have := (hsx0_3).2; have := (hsx1_3).1; have := (hsx1_3).2; have := (h_5).1; have := (h_5).2; have := (h_6).1; have := (h_6).2; have := (hz_7).1; have := (hz_7).2; have := (hz_8).1; have := (hz_8).2; omega, by have := i32_0; have := i32_1; have := i32_2; have := i32_m1; have := (show iv 0 240 (sg 5) from CI_s hI 5).1; have := (show iv 0 240 (sg 5) from CI_s hI 5).2; have := (hsx0_3).1; have := (hsx0_3).2; have := (hsx1_3).1; have := (hsx1_3).2; have := (h_5).1; have := (h_5).2; have := (h_6).1; have := (h_6).2; have := (hz_7).1; have := (hz_7).2; have := (hz_8).1; have := (hz_8).2; omega⟩)) dX6_hasKey_23 ?_
        refine lv_topl (fun z_9 ez_9 => ?_)
        refine lv_lload_n hx hb dX6_hasKey_24 rfl (lv_at hl 3 rfl) ?_
        refine W.lcmp hx hb dX6_hasKey_25 ?_
        refine lv_topi (fun z_10 ez_10 => ?_)
        have hz_10 : iv (-1) 1 z_10 := iv_of ez_10 (iv_cmp _ _)
        refine lv_if_ne (tgt := 31) hx hb dX6_hasKey_26 (by decide) (fun c_11 => ?_) (fun c_11 => ?_)
        · have d_12 : ¬ (z_10 : Int32).toInt = 0 := lv_neT c_11 rfl
          obtain ⟨z_13, ez_13⟩ : ∃ z : Int32, z = x4_3 + 1 := ⟨_, rfl⟩
          have hz_13 : iv 1 12 z_13 := iv_of ez_13 (iv_add h_5 (iv_k (by decide) : iv 1 1 1) (by decide))
          have tz_13 : z_13.toInt = x4_3.toInt + 1 := by rw [ez_13]; exact iv_addE h_5 (iv_k (by decide) : iv 1 1 1) (by decide)
          refine lv_iinc (v := z_13) (lv' := [(4, .int z_13), (0, eV (ad 1) x), (1, eV (ad 9) o), (2, .long k)]) hx hb dX6_hasKey_31 hl (k := 0) rfl ez_13.symm (by decide) rfl (fun ls hl => ?_)
          refine lv_goto (tgt := 3) hx hb dX6_hasKey_34 (by decide) ?_
          exact ih3 _ (by rw [← hn3]; exact (iv_meas tz_13 h_5 (by decide))) z_13 rfl (iv_w hz_13 (by decide)) hsx0_3 hsx1_3 _ _ _ hP hD hS (lv_sub hl [0, 1, 2, 3] rfl)
        · have h_14 : iv 0 0 z_10 := iv_eq c_11 hz_10 (iv_k (by decide) : iv 0 0 0) (by decide)
          refine lv_iconst (v := 1) hx hb dX6_hasKey_29 (by decide) ?_
          exact W.nb (fun hN => W.widen (k := 1) (n := 6) (by decide) (by decide) (vx_ret (W.zret (v := 1) hx hb hr (iv_nb (iv_w (iv_k (by decide) : iv 1 1 1) (by decide))) (fun t ht hW => ⟨⟨some (.int 1), (sg, gm, lg), rfl, ⟨1, rfl, rfl, (iv_w (iv_k (by decide) : iv 1 1 1) (by decide)), (Or.inr ⟨x4_3.toNatClampNeg, lt_cl h_5 (show iv 0 12 (gm 20 o.toNatClampNeg) from CI_a hI 20 hvo (by decide)) (by decide) (by decide) (by have := congrArg Int32.toInt ez_1; have := i32_0; have := i32_1; have := i32_2; have := i32_m1; have := (hsx0_3).1; have := (hsx0_3).2; have := (hsx1_3).1; have := (hsx1_3).2; have := (h_5).1; have := (h_5).2; have := (h_6).1; have := (h_6).2; have := (hz_7).1; have := (hz_7).2; have := (hz_8).1; have := (hz_8).2; have := (h_14).1; have := (h_14).2; omega), by have q9 := c_11; rw [ez_10, ez_9, cl_add hz_7 h_5 (by decide) (by decide) tz_8, ez_7] at q9; exact (lg_cmp_eq _ _).mp q9⟩)⟩, by rw [ht]; exact hP, va_K.moved hW.alike hK, hD⟩, hS.F ht, by rw [ht]; exact hN⟩) hS.2.2 dX6_hasKey_30)))
  refine lv_iconst (v := 0) hx hb dX6_hasKey_0 (by decide) ?_
  refine lv_istore (i := 4) (lv' := [(4, .int 0), (0, eV (ad 1) x), (1, eV (ad 9) o), (2, .long k)]) hx hb dX6_hasKey_1 hl (by decide) rfl (fun ls hl => ?_)
  exact hj3 _ 0 rfl (iv_w (iv_k (by decide) : iv 0 0 0) (by decide)) hvx hvo _ _ _ hP hD hS (lv_sub hl [0, 1, 2, 3] rfl)

set_option maxHeartbeats 4000000 in
set_option maxRecDepth 100000 in
theorem d_has (l : Launch) (dC : Nat → ClassId) (dI : Nat → Nat → Nat) (ad : Nat → Nat → Nat) (cid : Nat → ClassId) (a2 : Nat → Nat) (lx : List Nat) (sg : Nat → Int32) (gm : Nat → Nat → Int32) (lg : Nat → Nat → Int64) (x : Int32) (o : Int32) (w : Int32) (hI : CI sg gm) (hvx : iv 0 0 x) (hvo : iv 0 79 o) (hvw : iv 0 33 w) (hFA : FA sg gm) (how : o.toInt < (sg 4).toInt) : CMt dC dI ad cid a2 lx l yX6_has wm_X6_has ({ frames := 1, cells := 1, slots := 6, locals := 24 }) [eV (ad 1) x, eV (ad 9) o, eV (ad 33) w] sg gm lg (fun v u => ∃ r : Int32, v = some (.int r) ∧ u = (sg, gm, lg) ∧ (iv 0 1 r) ∧ (r.toInt = 0 ∨ HSK gm lg o.toNatClampNeg (wKy.getD w.toNatClampNeg 0))) (fun _ _ => False) := by
  intro sz
  refine vx_ofW (cc := cX6_has) (maxL := 3) (ret := (some .boolean)) (by decide) rfl ?_
  intro p e s m args below meth c s₁ B hml hxt hv
  obtain ⟨rfl, hsz, hP, hK, hD0, hG⟩ := hv
  have hx := B.exec
  have hb := B.bytes
  have hr := B.returns
  have hts := atoms_spec (ws := wm_X6_has) B.pre
  have htb := fun (w : Cond) (h : w ∈ tb) => hts w (List.mem_cons_of_mem _ h)
  have hown : s.vm.findClass RX6 = some m.cls := findClass_of_methodNamed B.named
  have hlocks := B.notSynchronized
  subst hsz
  have hD := hD0.self (sz := s.heap.size)
  generalize hAe : va_A (cW ad cid a2 lx sg gm lg) s.heap.size = A at hD hG ⊢
  have hA : ∀ q : Nat, s.heap.size ≤ q → A q := fun q h => by rw [← hAe]; exact Or.inr h
  have hS : va_S A s.heap s.heap [] := va_S.rf
  have hl := lv_entry ([eV (ad 1) x, eV (ad 9) o, eV (ad 33) w]) (n := 3) (by rw [show (lg_sl ([eV (ad 1) x, eV (ad 9) o, eV (ad 33) w])).length = 3 from by simp [lg_sl, eV_cat, cat_i, cat_l]]; exact Nat.le_of_ble_eq_true rfl)
  rw [lg_entry_eq]
  generalize (lg_sl ([eV (ad 1) x, eV (ad 9) o, eV (ad 33) w]) ++ List.replicate (3 - (lg_sl ([eV (ad 1) x, eV (ad 9) o, eV (ad 33) w])).length) Slot.unset).toArray = ls at hl ⊢
  have hl : lv_has ls 3 [(0, eV (ad 1) x), (1, eV (ad 9) o), (2, eV (ad 33) w)] := by simp [lv_args, eV_cat, cat_i, cat_l] at hl; exact hl
  refine ec_aload_n hx hb dX6_has_0 rfl (lv_at hl 0 rfl) ?_
  refine ec_aload_n hx hb dX6_has_1 rfl (lv_at hl 1 rfl) ?_
  refine ec_aload_n hx hb dX6_has_2 rfl (lv_at hl 2 rfl) ?_
  refine cw_key hx hb hG hS hvw hown (htb _ kw_548) dX6_has_3 ?_
  refine lv_topl (fun z_1 ez_1 => ?_)
  refine cm_callV (t := 1) (C := RX6) (T := TX6) (N := 8) (rest := []) (as := [eV (ad 9) o, .long z_1]) ⟨hx, hb, hml, hown, htb⟩ (d_hasKey l dC dI ad cid a2 lx sg gm lg x o z_1 hI hvx hvo hFA how) (cwV 2 htb (gd_V kw_607 kw_418 kw_419 kw_20 kw_1433) rfl rfl rfl (by decide +kernel) ⟨Nat.le_of_ble_eq_true rfl, Nat.le_of_ble_eq_true rfl⟩) hvx (by decide) (by decide) rfl rfl hl.1 rfl (Nat.le_trans cs_n (by decide)) dX6_has_6 ⟨Nat.le_of_ble_eq_true rfl, Nat.le_of_ble_eq_true rfl⟩ hK hP hD hS hA hG (fun E ce q9 u_3 H locs hw hP hD hS hce hcv hcl => ?_) (fun v9 u_3 H locs hw hP hD hS => ?_)
  · exact hw.elim
  obtain ⟨r_2, rfl, rfl, hr_2, fH_r_2⟩ := hw
  have hP : va_P (dC, dI) vwCl (cW ad cid a2 lx sg gm lg) H := hP
  have hD : va_D A (cW ad cid a2 lx sg gm lg) := hD
  refine W.eq (g2 := F0 m 9 ls [.int r_2]) rfl ?_
  exact W.nb (fun hN => W.widen (k := 1) (n := 6) (by decide) (by decide) (vx_ret (W.zret (v := r_2) hx hb hr (iv_nb hr_2) (fun t ht hW => ⟨⟨some (.int r_2), (sg, gm, lg), rfl, ⟨r_2, rfl, rfl, hr_2, (by rw [← ez_1]; exact fH_r_2)⟩, by rw [ht]; exact hP, va_K.moved hW.alike hK, hD⟩, hS.F ht, by rw [ht]; exact hN⟩) hS.2.2 dX6_has_9)))

set_option maxHeartbeats 4000000 in
set_option maxRecDepth 100000 in
theorem d_attributeWord (l : Launch) (dC : Nat → ClassId) (dI : Nat → Nat → Nat) (ad : Nat → Nat → Nat) (cid : Nat → ClassId) (a2 : Nat → Nat) (lx : List Nat) (sg : Nat → Int32) (gm : Nat → Nat → Int32) (lg : Nat → Nat → Int64) (x : Int32) (i : Int32) (hI : CI sg gm) (hvx : iv 0 0 x) (hvi : iv 0 239 i) : CMt dC dI ad cid a2 lx l yX6_attributeWord wm_X6_attributeWord ({ frames := 1, cells := 1, slots := 6, locals := 25 }) [eV (ad 1) x, .int i] sg gm lg (fun v u => ∃ r : Int32, v = some (eV (ad 33) r) ∧ u = (sg, gm, lg) ∧ (iv (-1) 33 r) ∧ (r.toInt = -1 ∨ wKy.getD r.toNatClampNeg 0 = lg 0 i.toNatClampNeg)) (fun _ _ => False) := by
  intro sz
  refine vx_ofW (cc := cX6_attributeWord) (maxL := 2) (ret := (some (.object "WiredBeans$Word"))) (by decide) rfl ?_
  intro p e s m args below meth c s₁ B hml hxt hv
  obtain ⟨rfl, hsz, hP, hK, hD0, hG⟩ := hv
  have hx := B.exec
  have hb := B.bytes
  have hr := B.returns
  have hts := atoms_spec (ws := wm_X6_attributeWord) B.pre
  have htb := fun (w : Cond) (h : w ∈ tb) => hts w (List.mem_cons_of_mem _ h)
  have hown : s.vm.findClass RX6 = some m.cls := findClass_of_methodNamed B.named
  have hlocks := B.notSynchronized
  subst hsz
  have hD := hD0.self (sz := s.heap.size)
  generalize hAe : va_A (cW ad cid a2 lx sg gm lg) s.heap.size = A at hD hG ⊢
  have hA : ∀ q : Nat, s.heap.size ≤ q → A q := fun q h => by rw [← hAe]; exact Or.inr h
  have hS : va_S A s.heap s.heap [] := va_S.rf
  have hl := lv_entry ([eV (ad 1) x, .int i]) (n := 2) (by rw [show (lg_sl ([eV (ad 1) x, .int i])).length = 2 from by simp [lg_sl, eV_cat, cat_i, cat_l]]; exact Nat.le_of_ble_eq_true rfl)
  rw [lg_entry_eq]
  generalize (lg_sl ([eV (ad 1) x, .int i]) ++ List.replicate (2 - (lg_sl ([eV (ad 1) x, .int i])).length) Slot.unset).toArray = ls at hl ⊢
  have hl : lv_has ls 2 [(0, eV (ad 1) x), (1, .int i)] := by simp [lv_args, eV_cat, cat_i, cat_l] at hl; exact hl
  refine ec_aload_n hx hb dX6_attributeWord_0 rfl (lv_at hl 0 rfl) ?_
  refine cr_get (t := 1) (j := 1) (C := RX6) (T := TX6) (N := 8) (v := eV (ad 15) 0) hx hb htb inX6 hown hK hP hvx (by decide) (by decide) (by decide) rfl (by decide) (htb _ kw_67) (cV_c rfl (by decide) (by rw [show cMu 1 1 = 0 from rfl, Nat.zero_mul]; rfl)) dX6_attributeWord_1 ?_
  refine lv_iload_n hx hb dX6_attributeWord_4 rfl (lv_at hl 1 rfl) ?_
  refine cr_lald hx hb hK hP (iv_k (by decide) : iv 0 0 0) (show vp_in i 240 from (iv_in hvi (by decide))) dX6_attributeWord_5 ?_
  refine lv_topl (fun z_1 ez_1 => ?_)
  refine cm_callS (rest := []) (as := [.long z_1]) ⟨hx, hb, hml, hown, htb⟩ (d_withKey l dC dI ad cid a2 lx sg gm lg z_1 hI) (va_cwS 1 htb (gd_S kw_563 kw_409 kw_410 kw_1431) rfl rfl rfl (by decide +kernel) ⟨Nat.le_of_ble_eq_true rfl, Nat.le_of_ble_eq_true rfl⟩)  rfl hl.1 rfl (Nat.le_trans cs_n (by decide)) dX6_attributeWord_6 ⟨Nat.le_of_ble_eq_true rfl, Nat.le_of_ble_eq_true rfl⟩ hK hP hD hS hA hG (fun E ce q9 u_3 H locs hw hP hD hS hce hcv hcl => ?_) (fun v9 u_3 H locs hw hP hD hS => ?_)
  · exact hw.elim
  obtain ⟨r_2, rfl, rfl, hr_2, fW_r_2⟩ := hw
  have hP : va_P (dC, dI) vwCl (cW ad cid a2 lx sg gm lg) H := hP
  have hD : va_D A (cW ad cid a2 lx sg gm lg) := hD
  refine W.eq (g2 := F0 m 9 ls [eV (ad 33) r_2]) rfl ?_
  exact W.nb (fun hN => W.widen (k := 1) (n := 6) (by decide) (by decide) (vx_ret (W.aret (v := eV (ad 33) r_2) hx hb hr (Or.inl ⟨_, rfl⟩) (eV_is _ _) (fun t ht hW => ⟨⟨some (eV (ad 33) r_2), (sg, gm, lg), rfl, ⟨r_2, rfl, rfl, hr_2, (by rw [← ez_1]; exact fW_r_2)⟩, by rw [ht]; exact hP, va_K.moved hW.alike hK, hD⟩, hS.F ht, by rw [ht]; exact hN⟩) hS.2.2 dX6_attributeWord_9)))

set_option maxHeartbeats 4000000 in
set_option maxRecDepth 100000 in
theorem d_find (l : Launch) (dC : Nat → ClassId) (dI : Nat → Nat → Nat) (ad : Nat → Nat → Nat) (cid : Nat → ClassId) (a2 : Nat → Nat) (lx : List Nat) (sg : Nat → Int32) (gm : Nat → Nat → Int32) (lg : Nat → Nat → Int64) (x : Int32) (o : Int32) (w : Int32) (hI : CI sg gm) (hvx : iv 0 0 x) (hvo : iv 0 79 o) (hvw : iv 0 33 w) (hFA : FA sg gm) (how : o.toInt < (sg 4).toInt) : CMt dC dI ad cid a2 lx l yX6_find wm_X6_find ({ frames := 0, cells := 1, slots := 6, locals := 0 }) [eV (ad 1) x, eV (ad 9) o, eV (ad 33) w] sg gm lg (fun v u => ∃ r : Int32, v = some (.int r) ∧ u = (sg, gm, lg) ∧ (iv (-1) 239 r) ∧ (FND gm lg o.toNatClampNeg (wKy.getD w.toNatClampNeg 0) r) ∧ (r.toInt < (sg 5).toInt)) (fun _ _ => False) := by
  intro sz
  refine vx_ofW (cc := cX6_find) (maxL := 4) (ret := (some .int)) (by decide) rfl ?_
  intro p e s m args below meth c s₁ B hml hxt hv
  obtain ⟨rfl, hsz, hP, hK, hD0, hG⟩ := hv
  have hx := B.exec
  have hb := B.bytes
  have hr := B.returns
  have hts := atoms_spec (ws := wm_X6_find) B.pre
  have htb := fun (w : Cond) (h : w ∈ tb) => hts w (List.mem_cons_of_mem _ h)
  have hown : s.vm.findClass RX6 = some m.cls := findClass_of_methodNamed B.named
  have hlocks := B.notSynchronized
  subst hsz
  have hD := hD0.self (sz := s.heap.size)
  generalize hAe : va_A (cW ad cid a2 lx sg gm lg) s.heap.size = A at hD hG ⊢
  have hA : ∀ q : Nat, s.heap.size ≤ q → A q := fun q h => by rw [← hAe]; exact Or.inr h
  have hS : va_S A s.heap s.heap [] := va_S.rf
  have hl := lv_entry ([eV (ad 1) x, eV (ad 9) o, eV (ad 33) w]) (n := 4) (by rw [show (lg_sl ([eV (ad 1) x, eV (ad 9) o, eV (ad 33) w])).length = 3 from by simp [lg_sl, eV_cat, cat_i, cat_l]]; exact Nat.le_of_ble_eq_true rfl)
  rw [lg_entry_eq]
  generalize (lg_sl ([eV (ad 1) x, eV (ad 9) o, eV (ad 33) w]) ++ List.replicate (4 - (lg_sl ([eV (ad 1) x, eV (ad 9) o, eV (ad 33) w])).length) Slot.unset).toArray = ls at hl ⊢
  have hl : lv_has ls 4 [(0, eV (ad 1) x), (1, eV (ad 9) o), (2, eV (ad 33) w)] := by simp [lv_args, eV_cat, cat_i, cat_l] at hl; exact hl
  have hj2 : ∀ (n : Nat) (x3_2 : Int32) (_ : (12 - x3_2.toInt).toNat = n) (_ : iv 0 12 x3_2) (_ : iv 0 0 x) (_ : iv 0 79 o) (_ : iv 0 33 w) (_ : ∀ i9, 0 ≤ i9 → i9 < x3_2.toNatClampNeg → ¬ lg 0 ((gm 19 o.toNatClampNeg).toNatClampNeg + i9) = (wKy.getD w.toNatClampNeg 0)) (H : Heap) (locs : List Loc) (ls : Array Slot), va_P (dC, dI) vwCl (cW ad cid a2 lx sg gm lg) H → va_D A (cW ad cid a2 lx sg gm lg) → va_S A s.heap H locs → lv_has ls 4 [(3, .int x3_2), (0, eV (ad 1) x), (1, eV (ad 9) o), (2, eV (ad 33) w)] → W p l e (headSpec wm_X6_find ({ frames := 0, cells := 1, slots := 6, locals := 0 })).room s m ([eV (ad 1) x, eV (ad 9) o, eV (ad 33) w] : List Value).toArray below meth c H locs 0 0 (vx_MQ below (cQx dC dI ad cid a2 lx (fun v u => ∃ r : Int32, v = some (.int r) ∧ u = (sg, gm, lg) ∧ (iv (-1) 239 r) ∧ (FND gm lg o.toNatClampNeg (wKy.getD w.toNatClampNeg 0) r) ∧ (r.toInt < (sg 5).toInt)) A) (cX dC dI ad cid a2 lx (fun _ _ => False) A) ([eV (ad 1) x, eV (ad 9) o, eV (ad 33) w] : List Value).toArray s 1 6 A) (F0 m 2 ls []) := by
    intro n
    induction n using Nat.strongRecOn with
    | ind n ih2 =>
      intro x3_2 hn2 hx3_2 hsx0_2 hsx1_2 hsx2_2 hnb H locs ls hP hD hS hl
      refine lv_iload_n hx hb dX6_find_2 rfl (lv_at hl 0 rfl) ?_
      refine ec_aload_n hx hb dX6_find_3 rfl (lv_at hl 2 rfl) ?_
      refine cr_get (t := 9) (j := 10) (C := RX3) (T := TX3) (N := 21) (v := .int (gm 20 o.toNatClampNeg)) hx hb htb inX3 hown hK hP hsx1_2 (by decide) (by decide) (by decide) rfl (by decide) (htb _ kw_420) rfl dX6_find_4 ?_
      obtain ⟨z_1, ez_1⟩ : ∃ z : Int32, z = (gm 20 o.toNatClampNeg) := ⟨_, rfl⟩
      refine W.eq (g2 := F0 m 7 ls [.int z_1, .int x3_2]) (by rw [ez_1]) ?_
      have hz_1 : iv 0 12 z_1 := iv_of ez_1 (CI_a hI 20 hsx1_2 (by decide))
      refine lv_icmp_ge (tgt := 42) hx hb dX6_find_7 (by decide) (fun c_2 => ?_) (fun c_2 => ?_)
      · have d_3 : (z_1 : Int32).toInt ≤ (x3_2 : Int32).toInt := Int32.le_iff_toInt_le.mp c_2
        refine lv_iconst (v := (-1)) hx hb dX6_find_42 (by decide) ?_
        exact W.nb (fun hN => W.widen (k := 1) (n := 6) (by decide) (by decide) (vx_ret (W.iret (v := (-1)) hx hb hr (fun t ht hW => ⟨⟨some (.int (-1)), (sg, gm, lg), rfl, ⟨(-1), rfl, rfl, (iv_w (iv_k (by decide) : iv (-1) (-1) (-1)) (by decide)), (Or.inl ⟨rfl, fun i9 q1 q2 => hnb i9 q1 (by rw [← ez_1] at q2; have := iv_cl hz_1 (by decide); have := iv_cl hx3_2 (by decide); have := i32_0; have := i32_1; have := i32_2; have := i32_m1; have := (hsx0_2).1; have := (hsx0_2).2; have := (hsx1_2).1; have := (hsx1_2).2; have := (hsx2_2).1; have := (hsx2_2).2; have := (hx3_2).1; have := (hx3_2).2; have := (hz_1).1; have := (hz_1).2; omega)⟩), (by have := i32_0; have := i32_1; have := i32_2; have := i32_m1; have := (show iv 0 240 (sg 5) from CI_s hI 5).1; have := (show iv 0 240 (sg 5) from CI_s hI 5).2; have := (hsx0_2).1; have := (hsx0_2).2; have := (hsx1_2).1; have := (hsx1_2).2; have := (hsx2_2).1; have := (hsx2_2).2; have := (hx3_2).1; have := (hx3_2).2; have := (hz_1).1; have := (hz_1).2; omega)⟩, by rw [ht]; exact hP, va_K.moved hW.alike hK, hD⟩, hS.F ht, by rw [ht]; exact hN⟩) hS.2.2 dX6_find_43)))
      · have d_4 : (x3_2 : Int32).toInt < (z_1 : Int32).toInt := Int32.lt_iff_toInt_lt.mp (i32_lt c_2)
        have h_5 : iv 0 11 x3_2 := iv_ltL (i32_lt c_2) hx3_2 hz_1 (by decide)
        have h_6 : iv 1 12 z_1 := iv_ltR (i32_lt c_2) hx3_2 hz_1 (by decide)
        refine ec_aload_n hx hb dX6_find_10 rfl (lv_at hl 1 rfl) ?_
        refine cr_get (t := 1) (j := 1) (C := RX6) (T := TX6) (N := 8) (v := eV (ad 15) 0) hx hb htb inX6 hown hK hP hsx0_2 (by decide) (by decide) (by decide) rfl (by decide) (htb _ kw_67) (cV_c rfl (by decide) (by rw [show cMu 1 1 = 0 from rfl, Nat.zero_mul]; rfl)) dX6_find_11 ?_
        refine ec_aload_n hx hb dX6_find_14 rfl (lv_at hl 2 rfl) ?_
        refine cr_get (t := 9) (j := 9) (C := RX3) (T := TX3) (N := 21) (v := .int (gm 19 o.toNatClampNeg)) hx hb htb inX3 hown hK hP hsx1_2 (by decide) (by decide) (by decide) rfl (by decide) (htb _ kw_421) rfl dX6_find_15 ?_
        obtain ⟨z_7, ez_7⟩ : ∃ z : Int32, z = (gm 19 o.toNatClampNeg) := ⟨_, rfl⟩
        refine W.eq (g2 := F0 m 18 ls [.int z_7, eV (ad 15) 0]) (by rw [ez_7]) ?_
        have hz_7 : iv 0 240 z_7 := iv_of ez_7 (CI_a hI 19 hsx1_2 (by decide))
        refine lv_iload_n hx hb dX6_find_18 rfl (lv_at hl 0 rfl) ?_
        have hfa9 : (z_7 : Int32).toInt + (z_1 : Int32).toInt ≤ (sg 5).toInt := by rw [ez_7, ez_1]; exact hFA _ (lt_cl hvo (show iv 0 80 (sg 4) from CI_s hI 4) (by decide) (by decide) how)
        refine lv_iadd hx hb dX6_find_19 ?_
        refine lv_topi (fun z_8 ez_8 => ?_)
        have hz_8 : iv 0 251 z_8 := iv_of ez_8 (iv_add hz_7 h_5 (by decide))
        have tz_8 : z_8.toInt = (z_7 : Int32).toInt + (x3_2 : Int32).toInt := by rw [ez_8]; exact iv_addE hz_7 h_5 (by decide)
        refine cr_lald hx hb hK hP (iv_k (by decide) : iv 0 0 0) (show vp_in z_8 240 from (vp_in_iff.mpr ⟨by have := i32_0; have := i32_1; have := i32_2; have := i32_m1; have := (show iv 0 240 (sg 5) from CI_s hI 5).1; have := (show iv 0 240 (sg 5) from CI_s hI 5).2; have := (hsx0_2).1; have := (hsx0_2).2; have := (hsx1_2).1; have := (hsx1_2).2; have := (hsx2_2).1; have := (hsx2_2).2; have := (h_5).1; have := (h_5).2; have := (h_6).1; have := (h_6).2; have := (hz_7).1; have := (hz_7).2; have := (hz_8).1; have := (hz_8).2; omega, by have := i32_0; have := i32_1; have := i32_2; have := i32_m1; have := (show iv 0 240 (sg 5) from CI_s hI 5).1; have := (show iv 0 240 (sg 5) from CI_s hI 5).2; have := (hsx0_2).1; have := (hsx0_2).2; have := (hsx1_2).1; have := (hsx1_2).2; have := (hsx2_2).1; have := (hsx2_2).2; have := (h_5).1; have := (h_5).2; have := (h_6).1; have := (h_6).2; have := (hz_7).1; have := (hz_7).2; have := (hz_8).1; have := (hz_8).2; omega⟩)) dX6_find_20 ?_
        refine lv_topl (fun z_9 ez_9 => ?_)
        refine ec_aload_n hx hb dX6_find_21 rfl (lv_at hl 3 rfl) ?_
        refine cw_key hx hb hG hS hsx2_2 hown (htb _ kw_548) dX6_find_22 ?_
        refine lv_topl (fun z_10 ez_10 => ?_)
        refine W.lcmp hx hb dX6_find_25 ?_
        refine lv_topi (fun z_11 ez_11 => ?_)
        have hz_11 : iv (-1) 1 z_11 := iv_of ez_11 (iv_cmp _ _)
        refine lv_if_ne (tgt := 36) hx hb dX6_find_26 (by decide) (fun c_12 => ?_) (fun c_12 => ?_)
        · have d_13 : ¬ (z_11 : Int32).toInt = 0 := lv_neT c_12 rfl
          obtain ⟨z_14, ez_14⟩ : ∃ z : Int32, z = x3_2 + 1 := ⟨_, rfl⟩
          have hz_14 : iv 1 12 z_14 := iv_of ez_14 (iv_add h_5 (iv_k (by decide) : iv 1 1 1) (by decide))
          have tz_14 : z_14.toInt = x3_2.toInt + 1 := by rw [ez_14]; exact iv_addE h_5 (iv_k (by decide) : iv 1 1 1) (by decide)
          refine lv_iinc (v := z_14) (lv' := [(3, .int z_14), (0, eV (ad 1) x), (1, eV (ad 9) o), (2, eV (ad 33) w)]) hx hb dX6_find_36 hl (k := 0) rfl ez_14.symm (by decide) (by simp [List.filter, eV_cat, cat_i, cat_l]) (fun ls hl => ?_)
          refine lv_goto (tgt := 2) hx hb dX6_find_39 (by decide) ?_
          exact ih2 _ (by rw [← hn2]; exact (iv_meas tz_14 h_5 (by decide))) z_14 rfl (iv_w hz_14 (by decide)) hsx0_2 hsx1_2 hsx2_2 (all_s h_5 (by decide) tz_14 hnb (fun q9 => c_12 (by rw [ez_11, ez_9, ez_10, cl_add hz_7 h_5 (by decide) (by decide) tz_8, ez_7]; exact (lg_cmp_eq _ _).mpr q9))) _ _ _ hP hD hS (lv_sub hl [0, 1, 2, 3] rfl)
        · have h_15 : iv 0 0 z_11 := iv_eq c_12 hz_11 (iv_k (by decide) : iv 0 0 0) (by decide)
          refine ec_aload_n hx hb dX6_find_29 rfl (lv_at hl 2 rfl) ?_
          refine cr_get (t := 9) (j := 9) (C := RX3) (T := TX3) (N := 21) (v := .int (gm 19 o.toNatClampNeg)) hx hb htb inX3 hown hK hP hsx1_2 (by decide) (by decide) (by decide) rfl (by decide) (htb _ kw_421) rfl dX6_find_30 ?_
          refine W.eq (g2 := F0 m 33 ls [.int z_7]) (by rw [show (gm 19 o.toNatClampNeg) = z_7 from ez_7.symm]) ?_
          refine lv_iload_n hx hb dX6_find_33 rfl (lv_at hl 0 rfl) ?_
          refine lv_iadd hx hb dX6_find_34 ?_
          refine lv_topi (fun z_16 ez_16 => ?_)
          obtain rfl : z_8 = z_16 := ez_8.trans ez_16.symm
          have h35 : iv 0 239 z_8 := ⟨by have := i32_0; have := i32_1; have := i32_2; have := i32_m1; have := (show iv 0 240 (sg 5) from CI_s hI 5).1; have := (show iv 0 240 (sg 5) from CI_s hI 5).2; have := (hsx0_2).1; have := (hsx0_2).2; have := (hsx1_2).1; have := (hsx1_2).2; have := (hsx2_2).1; have := (hsx2_2).2; have := (h_5).1; have := (h_5).2; have := (h_6).1; have := (h_6).2; have := (hz_7).1; have := (hz_7).2; have := (hz_8).1; have := (hz_8).2; have := (h_15).1; have := (h_15).2; omega, by have := i32_0; have := i32_1; have := i32_2; have := i32_m1; have := (show iv 0 240 (sg 5) from CI_s hI 5).1; have := (show iv 0 240 (sg 5) from CI_s hI 5).2; have := (hsx0_2).1; have := (hsx0_2).2; have := (hsx1_2).1; have := (hsx1_2).2; have := (hsx2_2).1; have := (hsx2_2).2; have := (h_5).1; have := (h_5).2; have := (h_6).1; have := (h_6).2; have := (hz_7).1; have := (hz_7).2; have := (hz_8).1; have := (hz_8).2; have := (h_15).1; have := (h_15).2; omega⟩
          exact W.nb (fun hN => W.widen (k := 1) (n := 6) (by decide) (by decide) (vx_ret (W.iret (v := z_8) hx hb hr (fun t ht hW => ⟨⟨some (.int z_8), (sg, gm, lg), rfl, ⟨z_8, rfl, rfl, (iv_w h35 (by decide)), (Or.inr ⟨x3_2.toNatClampNeg, lt_cl h_5 (show iv 0 12 (gm 20 o.toNatClampNeg) from CI_a hI 20 hvo (by decide)) (by decide) (by decide) (by have := congrArg Int32.toInt ez_1; have := i32_0; have := i32_1; have := i32_2; have := i32_m1; have := (hsx0_2).1; have := (hsx0_2).2; have := (hsx1_2).1; have := (hsx1_2).2; have := (hsx2_2).1; have := (hsx2_2).2; have := (h_5).1; have := (h_5).2; have := (h_6).1; have := (h_6).2; have := (hz_7).1; have := (hz_7).2; have := (h35).1; have := (h35).2; have := (h_15).1; have := (h_15).2; omega), by rw [cl_add hz_7 h_5 (by decide) (by decide) tz_8, ez_7], by have := i32_0; have := i32_1; have := i32_2; have := i32_m1; have := (hsx0_2).1; have := (hsx0_2).2; have := (hsx1_2).1; have := (hsx1_2).2; have := (hsx2_2).1; have := (hsx2_2).2; have := (h_5).1; have := (h_5).2; have := (h_6).1; have := (h_6).2; have := (hz_7).1; have := (hz_7).2; have := (h35).1; have := (h35).2; have := (h_15).1; have := (h_15).2; omega, hnb, by have q9 := c_12; rw [ez_11, ez_9, ez_10, cl_add hz_7 h_5 (by decide) (by decide) tz_8, ez_7] at q9; exact (lg_cmp_eq _ _).mp q9⟩), (by have := i32_0; have := i32_1; have := i32_2; have := i32_m1; have := (show iv 0 240 (sg 5) from CI_s hI 5).1; have := (show iv 0 240 (sg 5) from CI_s hI 5).2; have := (hsx0_2).1; have := (hsx0_2).2; have := (hsx1_2).1; have := (hsx1_2).2; have := (hsx2_2).1; have := (hsx2_2).2; have := (h_5).1; have := (h_5).2; have := (h_6).1; have := (h_6).2; have := (hz_7).1; have := (hz_7).2; have := (h35).1; have := (h35).2; have := (h_15).1; have := (h_15).2; omega)⟩, by rw [ht]; exact hP, va_K.moved hW.alike hK, hD⟩, hS.F ht, by rw [ht]; exact hN⟩) hS.2.2 dX6_find_35)))
  refine lv_iconst (v := 0) hx hb dX6_find_0 (by decide) ?_
  refine lv_istore_n (i := 3) (lv' := [(3, .int 0), (0, eV (ad 1) x), (1, eV (ad 9) o), (2, eV (ad 33) w)]) hx hb dX6_find_1 rfl hl (by decide) (by simp [List.filter, eV_cat, cat_i, cat_l]) (fun ls hl => ?_)
  exact hj2 _ 0 rfl (iv_w (iv_k (by decide) : iv 0 0 0) (by decide)) hvx hvo hvw (fun i9 _ h9 => absurd h9 (Nat.not_lt_zero _)) _ _ _ hP hD hS (lv_sub hl [0, 1, 2, 3] rfl)
