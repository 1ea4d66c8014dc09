def vok (kd v : Int32) : Prop := (kd.toInt = 1 → v.toInt ≤ 59) ∧ (kd.toInt = 0 → v.toInt ≤ 959 ∨ 1000 ≤ v.toInt) ∧ (kd.toInt = 3 → v.toInt ≤ 6)
/-- every value that is kept is one of its kind -/
def VAL (gm : Nat → Nat → Int32) : Prop := (∀ j, j < 405 → vok (gm 70 j) (gm 71 j)) ∧ ∀ j, j < 2430 → vok (gm 72 j) (gm 73 j)
theorem VAL_k {gm gm2 : Nat → Nat → Int32} (h70 : gm2 70 = gm 70) (h71 : gm2 71 = gm 71) (h72 : gm2 72 = gm 72) (h73 : gm2 73 = gm 73) (h : VAL gm) : VAL gm2 := by
  unfold VAL at *; rw [h70, h71, h72, h73]; exact h
theorem upd2 {f g f2 g2 : Nat → Int32} {n i i2 : Nat} {a b : Int32} {P : Int32 → Int32 → Prop} (h : ∀ j, j < n → P (f j) (g j)) (h1 : f2 = upd f i a) (h2 : g2 = upd g i2 b) (hi : i2 = i) (hp : P a b) : ∀ j, j < n → P (f2 j) (g2 j) := by
  subst hi
  intro j hj
  by_cases q : j = i2
  · subst q; rw [h1, h2, upd_at, upd_at]; exact hp
  · rw [h1, h2, upd_ne q, upd_ne q]; exact h j hj
theorem VAL_v {gm gm2 : Nat → Nat → Int32} {i i2 : Nat} {a b : Int32} (h : VAL gm) (h70 : gm2 70 = upd (gm 70) i a) (h71 : gm2 71 = upd (gm 71) i2 b) (h72 : gm2 72 = gm 72) (h73 : gm2 73 = gm 73) (hi : i2 = i) (hp : vok a b) : VAL gm2 := ⟨upd2 h.1 h70 h71 hi hp, by rw [h72, h73]; exact h.2⟩
theorem VAL_i {gm gm2 : Nat → Nat → Int32} {i i2 : Nat} {a b : Int32} (h : VAL gm) (h72 : gm2 72 = upd (gm 72) i a) (h73 : gm2 73 = upd (gm 73) i2 b) (h70 : gm2 70 = gm 70) (h71 : gm2 71 = gm 71) (hi : i2 = i) (hp : vok a b) : VAL gm2 := ⟨by rw [h70, h71]; exact h.1, upd2 h.2 h72 h73 hi hp⟩
theorem VAL_at {gm : Nat → Nat → Int32} {x z1 z2 : Int32} (h : VAL gm) (hx : iv 0 404 x) (e1 : z1 = gm 70 x.toNatClampNeg) (e2 : z2 = gm 71 x.toNatClampNeg) : vok z1 z2 := by
  have k1 := iv_cl hx (by decide)
  have k2 := hx.2
  rw [e1, e2]; exact h.1 _ (by omega)
theorem VAL_it {gm : Nat → Nat → Int32} {x z1 z2 : Int32} (h : VAL gm) (hx : iv 0 2429 x) (e1 : z1 = gm 72 x.toNatClampNeg) (e2 : z2 = gm 73 x.toNatClampNeg) : vok z1 z2 := by
  have k1 := iv_cl hx (by decide)
  have k2 := hx.2
  rw [e1, e2]; exact h.2 _ (by omega)
/-- a bean that is made anew whenever it is asked for -/
def mMny (gm : Nat → Nat → Int32) (lg : Nat → Nat → Int64) (b : Nat) : Prop := ¬ gm 28 (gm 42 b).toNatClampNeg = 0 ∨ mWord gm lg (gm 42 b).toNatClampNeg 495589486693 = lg 1 3

set_option maxHeartbeats 4000000 in
set_option maxRecDepth 100000 in
theorem f_keep (l : Launch) (dC : Nat → ClassId) (dI : Nat → Nat → Nat) (h0 : Nat) (ad : Nat → Nat) (cid : Nat → ClassId) (sg : Nat → Int32) (gm : Nat → Nat → Int32) (lg : Nat → Nat → Int64) (sl : Int32) (it : Int32) (kd : Int32) (vl : Int32) (hI : MI sg gm) (hvsl : iv 0 404 sl) (hvit : iv (-1) 5 it) (hvkd : iv 0 3 kd) (hvvl : iv 0 1079 vl) (hva : VAL gm) (hvo : vok kd vl) : MMv l dC dI yX13_keep wm_X13_keep ({ frames := 0, cells := 0, slots := 0, locals := 0 }) h0 ad cid [.int sl, .int it, .int kd, .int vl] sg gm lg (fun v => ∃ (sg2 : Nat → Int32) (gm2 : Nat → Nat → Int32) (lg2 : Nat → Nat → Int64), v = (sg2, gm2, lg2) ∧ MI sg2 gm2 ∧ KS [] sg sg2 ∧ KS [70, 71, 72, 73] gm gm2 ∧ KS [] lg lg2 ∧ (VAL gm2)) := by
  intro sz
  refine Met.ofW (cc := cX13_keep) (maxL := 5) (ret := none) (by decide) rfl ?_
  intro p e s m args below meth c s₁ B hml hv
  obtain ⟨rfl, hsz, hP, hK, hD0⟩ := hv
  have hx := B.exec
  have hb := B.bytes
  have hr := B.returns
  have hts := atoms_spec (ws := wm_X13_keep) B.pre
  have htb := fun (w : Cond) (h : w ∈ tb) => hts w (List.mem_cons_of_mem _ h)
  have hown : s.vm.findClass RX13 = some m.cls := findClass_of_methodNamed B.named
  have hlocks := B.notSynchronized
  subst hsz
  have hD := hD0.self (sz := s.heap.size)
  generalize hAe : va_A (mW h0 ad cid sg gm lg) s.heap.size = A at hD ⊢
  have hA : ∀ q : Nat, s.heap.size ≤ q → A q := fun q h => by rw [← hAe]; exact Or.inr h
  have hS : va_S A s.heap s.heap [] := va_S.rf
  have hl := lv_entry ([.ref h0, .int sl, .int it, .int kd, .int vl]) (n := 5) (Nat.le_of_ble_eq_true rfl)
  rw [lg_entry_eq]
  generalize (lg_sl ([.ref h0, .int sl, .int it, .int kd, .int vl]) ++ List.replicate (5 - (lg_sl ([.ref h0, .int sl, .int it, .int kd, .int vl])).length) Slot.unset).toArray = ls at hl ⊢
  have hl : lv_has ls 5 [(0, .ref h0), (1, .int sl), (2, .int it), (3, .int kd), (4, .int vl)] := hl
  have hj47 : ∀ (gm_j47 : Nat → Nat → Int32) (_ : iv 0 404 sl) (_ : iv (-1) 5 it) (_ : iv 0 3 kd) (_ : iv 0 1079 vl) (_ : KS [70, 71, 72, 73] gm gm_j47) (_ : MI sg gm_j47) (_ : VAL gm_j47) (H : Heap) (locs : List Loc) (ls : Array Slot), va_P (dC, dI) vwCl (mW h0 ad cid sg gm_j47 lg) H → va_D A (mW h0 ad cid sg gm_j47 lg) → va_S A s.heap H locs → lv_has ls 5 [(0, .ref h0), (1, .int sl), (2, .int it), (3, .int kd), (4, .int vl)] → W p l e (headSpec wm_X13_keep ({ frames := 0, cells := 0, slots := 0, locals := 0 })).room s m ([.ref h0, .int sl, .int it, .int kd, .int vl] : List Value).toArray below meth c H locs 0 0 (MQ below (va_Qv (fun v => ∃ (sg2 : Nat → Int32) (gm2 : Nat → Nat → Int32) (lg2 : Nat → Nat → Int64), v = (sg2, gm2, lg2) ∧ MI sg2 gm2 ∧ KS [] sg sg2 ∧ KS [70, 71, 72, 73] gm gm2 ∧ KS [] lg lg2 ∧ (VAL gm2)) (MB dC dI h0 ad cid A) A) ([.ref h0, .int sl, .int it, .int kd, .int vl] : List Value).toArray s 0 0 A) (F0 m 47 ls []) := by
    intro gm_j47 hsx1_47 hsx2_47 hsx3_47 hsx4_47 hkg_j47 hI_j47 hV2 H locs ls hP hD hS hl
    exact W.vret hx hb hr (fun t ht hW => ⟨⟨(sg, gm_j47, lg), rfl, ⟨sg, gm_j47, lg, rfl, hI_j47, KS_rf, (KS_tr (L := [70, 71, 72, 73]) KS_rf hkg_j47 (by decide)), KS_rf, (hV2)⟩, by rw [ht]; exact hP, va_K.moved hW.alike hK, hD⟩, hS.F ht⟩) hS.2.2 dX13_keep_47
  refine lv_iload_n hx hb dX13_keep_0 rfl (lv_at hl 2 rfl) ?_
  refine lv_if_ge (tgt := 22) hx hb dX13_keep_1 (by decide) (fun c_1 => ?_) (fun c_1 => ?_)
  · have h_2 : iv 0 5 it := iv_leR c_1 (iv_k (by decide) : iv 0 0 0) hvit (by decide)
    refine lv_aload_n hx hb dX13_keep_22 rfl (lv_at hl 0 rfl) ?_
    refine mr_get (v := .ref (ad 72)) hx hb htb inX13 hown hK hP 72 (by decide) (htb _ kw_221) rfl dX13_keep_23 ?_
    refine lv_bipush (v := 6) hx hb dX13_keep_26 (by decide) ?_
    refine lv_iload_n hx hb dX13_keep_28 rfl (lv_at hl 1 rfl) ?_
    refine lv_imul hx hb dX13_keep_29 ?_
    refine lv_topi (fun z_3 ez_3 => ?_)
    have hz_3 : iv 0 2424 z_3 := iv_of ez_3 (iv_mul (iv_k (by decide) : iv 6 6 6) hvsl (by decide))
    have tz_3 : z_3.toInt = 6 * (sl : Int32).toInt := by rw [ez_3]; exact iv_mulE (iv_k (by decide) : iv 6 6 6) hvsl (by decide)
    refine lv_iload_n hx hb dX13_keep_30 rfl (lv_at hl 2 rfl) ?_
    refine lv_iadd hx hb dX13_keep_31 ?_
    refine lv_topi (fun z_4 ez_4 => ?_)
    have hz_4 : iv 0 2429 z_4 := iv_of ez_4 (iv_add hz_3 h_2 (by decide))
    have tz_4 : z_4.toInt = (z_3 : Int32).toInt + (it : Int32).toInt := by rw [ez_4]; exact iv_addE hz_3 h_2 (by decide)
    refine lv_iload_n hx hb dX13_keep_32 rfl (lv_at hl 3 rfl) ?_
    refine ma_iast (x := kd) hx hb hK hP hD hS 57 (k := 72) rfl rfl rfl (show vp_in z_4 2430 from (iv_in hz_4 (by decide))) dX13_keep_33 (fun gm_5 H locs egm_5 hP hD hS => ?_)
    have hI_gm_5 := MI_st hI egm_5 hvkd (by decide)
    refine lv_aload_n hx hb dX13_keep_34 rfl (lv_at hl 0 rfl) ?_
    refine mr_get (v := .ref (ad 73)) hx hb htb inX13 hown hK hP 73 (by decide) (htb _ kw_222) rfl dX13_keep_35 ?_
    refine lv_bipush (v := 6) hx hb dX13_keep_38 (by decide) ?_
    refine lv_iload_n hx hb dX13_keep_40 rfl (lv_at hl 1 rfl) ?_
    refine lv_imul hx hb dX13_keep_41 ?_
    refine lv_topi (fun z_6 ez_6 => ?_)
    obtain rfl : z_3 = z_6 := ez_3.trans ez_6.symm
    refine lv_iload_n hx hb dX13_keep_42 rfl (lv_at hl 2 rfl) ?_
    refine lv_iadd hx hb dX13_keep_43 ?_
    refine lv_topi (fun z_7 ez_7 => ?_)
    obtain rfl : z_4 = z_7 := ez_4.trans ez_7.symm
    refine lv_iload hx hb dX13_keep_44 (lv_at hl 4 rfl) ?_
    refine ma_iast (x := vl) hx hb hK hP hD hS 58 (k := 73) rfl rfl rfl (show vp_in z_4 2430 from (iv_in hz_4 (by decide))) dX13_keep_46 (fun gm_8 H locs egm_8 hP hD hS => ?_)
    have hI_gm_8 := MI_st hI_gm_5 egm_8 hvvl (by decide)
    exact hj47 gm_8 hvsl (iv_w h_2 (by decide)) hvkd hvvl (KS_up (KS_up KS_rf egm_5 (by decide)) egm_8 (by decide)) hI_gm_8 (VAL_i hva (show gm_8 72 = upd (gm 72) (z_4 : Int32).toNatClampNeg kd from ((up_ne egm_8 (by decide)).trans ((up_at egm_5).trans (by rw [show gm 72 = gm 72 from rfl])))) (show gm_8 73 = upd (gm 73) (z_4 : Int32).toNatClampNeg vl from ((up_at egm_8).trans (by rw [show gm_5 73 = gm 73 from ((up_ne egm_5 (by decide)).trans rfl)]))) (Eq.trans (up_ne egm_8 (by decide)) (up_ne egm_5 (by decide))) (Eq.trans (up_ne egm_8 (by decide)) (up_ne egm_5 (by decide))) rfl hvo) _ _ _ hP hD hS (lv_sub hl [0, 1, 2, 3, 4] rfl)
  · have h_9 : iv (-1) (-1) it := iv_ltL (i32_lt c_1) hvit (iv_k (by decide) : iv 0 0 0) (by decide)
    refine lv_aload_n hx hb dX13_keep_4 rfl (lv_at hl 0 rfl) ?_
    refine mr_get (v := .ref (ad 70)) hx hb htb inX13 hown hK hP 70 (by decide) (htb _ kw_219) rfl dX13_keep_5 ?_
    refine lv_iload_n hx hb dX13_keep_8 rfl (lv_at hl 1 rfl) ?_
    refine lv_iload_n hx hb dX13_keep_9 rfl (lv_at hl 3 rfl) ?_
    refine ma_iast (x := kd) hx hb hK hP hD hS 55 (k := 70) rfl rfl rfl (show vp_in sl 405 from (iv_in hvsl (by decide))) dX13_keep_10 (fun gm_10 H locs egm_10 hP hD hS => ?_)
    have hI_gm_10 := MI_st hI egm_10 hvkd (by decide)
    refine lv_aload_n hx hb dX13_keep_11 rfl (lv_at hl 0 rfl) ?_
    refine mr_get (v := .ref (ad 71)) hx hb htb inX13 hown hK hP 71 (by decide) (htb _ kw_220) rfl dX13_keep_12 ?_
    refine lv_iload_n hx hb dX13_keep_15 rfl (lv_at hl 1 rfl) ?_
    refine lv_iload hx hb dX13_keep_16 (lv_at hl 4 rfl) ?_
    refine ma_iast (x := vl) hx hb hK hP hD hS 56 (k := 71) rfl rfl rfl (show vp_in sl 405 from (iv_in hvsl (by decide))) dX13_keep_18 (fun gm_11 H locs egm_11 hP hD hS => ?_)
    have hI_gm_11 := MI_st hI_gm_10 egm_11 hvvl (by decide)
    refine lv_goto (tgt := 47) hx hb dX13_keep_19 (by decide) ?_
    exact hj47 gm_11 hvsl (iv_w h_9 (by decide)) hvkd hvvl (KS_up (KS_up KS_rf egm_10 (by decide)) egm_11 (by decide)) hI_gm_11 (VAL_v hva (show gm_11 70 = upd (gm 70) (sl : Int32).toNatClampNeg kd from ((up_ne egm_11 (by decide)).trans ((up_at egm_10).trans (by rw [show gm 70 = gm 70 from rfl])))) (show gm_11 71 = upd (gm 71) (sl : Int32).toNatClampNeg vl from ((up_at egm_11).trans (by rw [show gm_10 71 = gm 71 from ((up_ne egm_10 (by decide)).trans rfl)]))) (Eq.trans (up_ne egm_11 (by decide)) (up_ne egm_10 (by decide))) (Eq.trans (up_ne egm_11 (by decide)) (up_ne egm_10 (by decide))) rfl hvo) _ _ _ hP hD hS (lv_sub hl [0, 1, 2, 3, 4] rfl)

set_option maxHeartbeats 4000000 in
set_option maxRecDepth 100000 in
theorem a_length (l : Launch) (dC : Nat → ClassId) (dI : Nat → Nat → Nat) (h0 : Nat) (ad : Nat → Nat) (cid : Nat → ClassId) (sg : Nat → Int32) (gm : Nat → Nat → Int32) (lg : Nat → Nat → Int64) (x : Int32) (hI : MI sg gm) (hvx : iv 0 1079 x) (hsv : x.toInt ≤ 959 ∨ 1000 ≤ x.toInt) : MMi l dC dI yX13_length wm_X13_length ({ frames := 0, cells := 0, slots := 0, locals := 0 }) h0 ad cid [.int x] sg gm lg (fun r v => (iv 0 24 r) ∧ v = (sg, gm, lg)) := by
  intro sz
  refine Met.ofW (cc := cX13_length) (maxL := 2) (ret := (some .int)) (by decide) rfl ?_
  intro p e s m args below meth c s₁ B hml hv
  obtain ⟨rfl, hsz, hP, hK, hD0⟩ := hv
  have hx := B.exec
  have hb := B.bytes
  have hr := B.returns
  have hts := atoms_spec (ws := wm_X13_length) B.pre
  have htb := fun (w : Cond) (h : w ∈ tb) => hts w (List.mem_cons_of_mem _ h)
  have hown : s.vm.findClass RX13 = some m.cls := findClass_of_methodNamed B.named
  have hlocks := B.notSynchronized
  subst hsz
  have hD := hD0.self (sz := s.heap.size)
  generalize hAe : va_A (mW h0 ad cid sg gm lg) s.heap.size = A at hD ⊢
  have hA : ∀ q : Nat, s.heap.size ≤ q → A q := fun q h => by rw [← hAe]; exact Or.inr h
  have hS : va_S A s.heap s.heap [] := va_S.rf
  have hl := lv_entry ([.ref h0, .int x]) (n := 2) (Nat.le_of_ble_eq_true rfl)
  rw [lg_entry_eq]
  generalize (lg_sl ([.ref h0, .int x]) ++ List.replicate (2 - (lg_sl ([.ref h0, .int x])).length) Slot.unset).toArray = ls at hl ⊢
  have hl : lv_has ls 2 [(0, .ref h0), (1, .int x)] := hl
  have hj26 : ∀ (y0_26 : Int32) (_ : iv 0 1079 x) (_ : iv 0 24 y0_26) (H : Heap) (locs : List Loc) (ls : Array Slot), va_P (dC, dI) vwCl (mW h0 ad cid sg gm lg) H → va_D A (mW h0 ad cid sg gm lg) → va_S A s.heap H locs → lv_has ls 2 [(0, .ref h0), (1, .int x)] → W p l e (headSpec wm_X13_length ({ frames := 0, cells := 0, slots := 0, locals := 0 })).room s m ([.ref h0, .int x] : List Value).toArray below meth c H locs 0 0 (MQ below (va_Qi (fun r v => (iv 0 24 r) ∧ v = (sg, gm, lg)) (MB dC dI h0 ad cid A) A) ([.ref h0, .int x] : List Value).toArray s 0 0 A) (F0 m 26 ls [.int y0_26]) := by
    intro y0_26 hsx1_26 hy0_26 H locs ls hP hD hS hl
    exact W.iret (v := y0_26) hx hb hr (fun t ht hW => ⟨⟨y0_26, (sg, gm, lg), rfl, ⟨hy0_26, rfl⟩, by rw [ht]; exact hP, va_K.moved hW.alike hK, hD⟩, hS.F ht⟩) hS.2.2 dX13_length_26
  refine lv_iload_n hx hb dX13_length_0 rfl (lv_at hl 1 rfl) ?_
  refine lv_sipush (v := 1000) hx hb dX13_length_1 (by decide) ?_
  refine lv_icmp_ge (tgt := 16) hx hb dX13_length_4 (by decide) (fun c_1 => ?_) (fun c_1 => ?_)
  · have h_2 : iv 1000 1079 x := iv_leR c_1 (iv_k (by decide) : iv 1000 1000 1000) hvx (by decide)
    refine lv_aload_n hx hb dX13_length_16 rfl (lv_at hl 0 rfl) ?_
    refine mr_get (v := .ref (ad 31)) hx hb htb inX13 hown hK hP 31 (by decide) (htb _ kw_187) rfl dX13_length_17 ?_
    refine lv_iload_n hx hb dX13_length_20 rfl (lv_at hl 1 rfl) ?_
    refine lv_sipush (v := 1000) hx hb dX13_length_21 (by decide) ?_
    refine lv_isub hx hb dX13_length_24 ?_
    refine lv_topi (fun z_3 ez_3 => ?_)
    have hz_3 : iv 0 79 z_3 := iv_of ez_3 (iv_sub h_2 (iv_k (by decide) : iv 1000 1000 1000) (by decide))
    have tz_3 : z_3.toInt = (x : Int32).toInt - 1000 := by rw [ez_3]; exact iv_subE h_2 (iv_k (by decide) : iv 1000 1000 1000) (by decide)
    refine mr_iald hx hb hK hP 24 (k := 31) rfl rfl rfl (show vp_in z_3 80 from (iv_in hz_3 (by decide))) dX13_length_25 ?_
    refine lv_topi (fun z_4 ez_4 => ?_)
    have hz_4 : iv 0 24 z_4 := iv_of ez_4 (MI_a hI 31 hz_3 (by decide))
    exact hj26 z_4 (iv_w h_2 (by decide)) hz_4 _ _ _ hP hD hS (lv_sub hl [0, 1] rfl)
  · have h_5 : iv 0 999 x := iv_ltL (i32_lt c_1) hvx (iv_k (by decide) : iv 1000 1000 1000) (by decide)
    have hs7 : iv 0 959 x := ⟨(h_5).1, by have := (h_5).2; omega⟩
    refine lv_aload_n hx hb dX13_length_7 rfl (lv_at hl 0 rfl) ?_
    refine mr_get (v := .ref (ad 37)) hx hb htb inX13 hown hK hP 37 (by decide) (htb _ kw_193) rfl dX13_length_8 ?_
    refine lv_iload_n hx hb dX13_length_11 rfl (lv_at hl 1 rfl) ?_
    refine mr_iald hx hb hK hP 30 (k := 37) rfl rfl rfl (show vp_in x 960 from (iv_in hs7 (by decide))) dX13_length_12 ?_
    refine lv_topi (fun z_6 ez_6 => ?_)
    have hz_6 : iv 0 24 z_6 := iv_of ez_6 (MI_a hI 37 hs7 (by decide))
    refine lv_goto (tgt := 26) hx hb dX13_length_13 (by decide) ?_
    exact hj26 z_6 (iv_w hs7 (by decide)) hz_6 _ _ _ hP hD hS (lv_sub hl [0, 1] rfl)

set_option maxHeartbeats 4000000 in
set_option maxRecDepth 100000 in
theorem a_sign (l : Launch) (dC : Nat → ClassId) (dI : Nat → Nat → Nat) (h0 : Nat) (ad : Nat → Nat) (cid : Nat → ClassId) (sg : Nat → Int32) (gm : Nat → Nat → Int32) (lg : Nat → Nat → Int64) (x : Int32) (y : Int32) (hI : MI sg gm) (hvx : iv 0 1079 x) (hvy : iv 0 23 y) (hsv : x.toInt ≤ 959 ∨ 1000 ≤ x.toInt) : MMi l dC dI yX13_sign wm_X13_sign ({ frames := 0, cells := 0, slots := 0, locals := 0 }) h0 ad cid [.int x, .int y] sg gm lg (fun r v => (iv (-128) 127 r) ∧ v = (sg, gm, lg)) := by
  intro sz
  refine Met.ofW (cc := cX13_sign) (maxL := 3) (ret := (some .int)) (by decide) rfl ?_
  intro p e s m args below meth c s₁ B hml hv
  obtain ⟨rfl, hsz, hP, hK, hD0⟩ := hv
  have hx := B.exec
  have hb := B.bytes
  have hr := B.returns
  have hts := atoms_spec (ws := wm_X13_sign) B.pre
  have htb := fun (w : Cond) (h : w ∈ tb) => hts w (List.mem_cons_of_mem _ h)
  have hown : s.vm.findClass RX13 = some m.cls := findClass_of_methodNamed B.named
  have hlocks := B.notSynchronized
  subst hsz
  have hD := hD0.self (sz := s.heap.size)
  generalize hAe : va_A (mW h0 ad cid sg gm lg) s.heap.size = A at hD ⊢
  have hA : ∀ q : Nat, s.heap.size ≤ q → A q := fun q h => by rw [← hAe]; exact Or.inr h
  have hS : va_S A s.heap s.heap [] := va_S.rf
  have hl := lv_entry ([.ref h0, .int x, .int y]) (n := 3) (Nat.le_of_ble_eq_true rfl)
  rw [lg_entry_eq]
  generalize (lg_sl ([.ref h0, .int x, .int y]) ++ List.replicate (3 - (lg_sl ([.ref h0, .int x, .int y])).length) Slot.unset).toArray = ls at hl ⊢
  have hl : lv_has ls 3 [(0, .ref h0), (1, .int x), (2, .int y)] := hl
  have hj38 : ∀ (y0_38 : Int32) (_ : iv 0 1079 x) (_ : iv 0 23 y) (_ : iv (-128) 127 y0_38) (H : Heap) (locs : List Loc) (ls : Array Slot), va_P (dC, dI) vwCl (mW h0 ad cid sg gm lg) H → va_D A (mW h0 ad cid sg gm lg) → va_S A s.heap H locs → lv_has ls 3 [(0, .ref h0), (1, .int x), (2, .int y)] → W p l e (headSpec wm_X13_sign ({ frames := 0, cells := 0, slots := 0, locals := 0 })).room s m ([.ref h0, .int x, .int y] : List Value).toArray below meth c H locs 0 0 (MQ below (va_Qi (fun r v => (iv (-128) 127 r) ∧ v = (sg, gm, lg)) (MB dC dI h0 ad cid A) A) ([.ref h0, .int x, .int y] : List Value).toArray s 0 0 A) (F0 m 38 ls [.int y0_38]) := by
    intro y0_38 hsx1_38 hsx2_38 hy0_38 H locs ls hP hD hS hl
    exact W.iret (v := y0_38) hx hb hr (fun t ht hW => ⟨⟨y0_38, (sg, gm, lg), rfl, ⟨hy0_38, rfl⟩, by rw [ht]; exact hP, va_K.moved hW.alike hK, hD⟩, hS.F ht⟩) hS.2.2 dX13_sign_38
  refine lv_iload_n hx hb dX13_sign_0 rfl (lv_at hl 1 rfl) ?_
  refine lv_sipush (v := 1000) hx hb dX13_sign_1 (by decide) ?_
  refine lv_icmp_ge (tgt := 23) hx hb dX13_sign_4 (by decide) (fun c_1 => ?_) (fun c_1 => ?_)
  · have h_2 : iv 1000 1079 x := iv_leR c_1 (iv_k (by decide) : iv 1000 1000 1000) hvx (by decide)
    refine lv_aload_n hx hb dX13_sign_23 rfl (lv_at hl 0 rfl) ?_
    refine mr_get (v := .ref (ad 39)) hx hb htb inX13 hown hK hP 39 (by decide) (htb _ kw_195) rfl dX13_sign_24 ?_
    refine lv_bipush (v := 24) hx hb dX13_sign_27 (by decide) ?_
    refine lv_iload_n hx hb dX13_sign_29 rfl (lv_at hl 1 rfl) ?_
    refine lv_sipush (v := 1000) hx hb dX13_sign_30 (by decide) ?_
    refine lv_isub hx hb dX13_sign_33 ?_
    refine lv_topi (fun z_3 ez_3 => ?_)
    have hz_3 : iv 0 79 z_3 := iv_of ez_3 (iv_sub h_2 (iv_k (by decide) : iv 1000 1000 1000) (by decide))
    have tz_3 : z_3.toInt = (x : Int32).toInt - 1000 := by rw [ez_3]; exact iv_subE h_2 (iv_k (by decide) : iv 1000 1000 1000) (by decide)
    refine lv_imul hx hb dX13_sign_34 ?_
    refine lv_topi (fun z_4 ez_4 => ?_)
    have hz_4 : iv 0 1896 z_4 := iv_of ez_4 (iv_mul (iv_k (by decide) : iv 24 24 24) hz_3 (by decide))
    have tz_4 : z_4.toInt = 24 * (z_3 : Int32).toInt := by rw [ez_4]; exact iv_mulE (iv_k (by decide) : iv 24 24 24) hz_3 (by decide)
    refine lv_iload_n hx hb dX13_sign_35 rfl (lv_at hl 2 rfl) ?_
    refine lv_iadd hx hb dX13_sign_36 ?_
    refine lv_topi (fun z_5 ez_5 => ?_)
    have hz_5 : iv 0 1919 z_5 := iv_of ez_5 (iv_add hz_4 hvy (by decide))
    have tz_5 : z_5.toInt = (z_4 : Int32).toInt + (y : Int32).toInt := by rw [ez_5]; exact iv_addE hz_4 hvy (by decide)
    refine mr_bald hx hb hK hP 32 (k := 39) rfl rfl rfl (show vp_in z_5 1920 from (iv_in hz_5 (by decide))) dX13_sign_37 ?_
    refine lv_topi (fun z_6 ez_6 => ?_)
    have hz_6 : iv (-128) 127 z_6 := iv_of ez_6 (MI_a hI 39 hz_5 (by decide))
    exact hj38 z_6 (iv_w h_2 (by decide)) hvy hz_6 _ _ _ hP hD hS (lv_sub hl [0, 1, 2] rfl)
  · have h_7 : iv 0 999 x := iv_ltL (i32_lt c_1) hvx (iv_k (by decide) : iv 1000 1000 1000) (by decide)
    have hs7 : iv 0 959 x := ⟨(h_7).1, by have := (h_7).2; omega⟩
    refine lv_aload_n hx hb dX13_sign_7 rfl (lv_at hl 0 rfl) ?_
    refine mr_get (v := .ref (ad 38)) hx hb htb inX13 hown hK hP 38 (by decide) (htb _ kw_194) rfl dX13_sign_8 ?_
    refine lv_aload_n hx hb dX13_sign_11 rfl (lv_at hl 0 rfl) ?_
    refine mr_get (v := .ref (ad 36)) hx hb htb inX13 hown hK hP 36 (by decide) (htb _ kw_192) rfl dX13_sign_12 ?_
    refine lv_iload_n hx hb dX13_sign_15 rfl (lv_at hl 1 rfl) ?_
    refine mr_iald hx hb hK hP 29 (k := 36) rfl rfl rfl (show vp_in x 960 from (iv_in hs7 (by decide))) dX13_sign_16 ?_
    refine lv_topi (fun z_8 ez_8 => ?_)
    have hz_8 : iv 0 1201 z_8 := iv_of ez_8 (MI_a hI 36 hs7 (by decide))
    refine lv_iload_n hx hb dX13_sign_17 rfl (lv_at hl 2 rfl) ?_
    refine lv_iadd hx hb dX13_sign_18 ?_
    refine lv_topi (fun z_9 ez_9 => ?_)
    have hz_9 : iv 0 1224 z_9 := iv_of ez_9 (iv_add hz_8 hvy (by decide))
    have tz_9 : z_9.toInt = (z_8 : Int32).toInt + (y : Int32).toInt := by rw [ez_9]; exact iv_addE hz_8 hvy (by decide)
    refine mr_bald hx hb hK hP 31 (k := 38) rfl rfl rfl (show vp_in z_9 2000 from (iv_in hz_9 (by decide))) dX13_sign_19 ?_
    refine lv_topi (fun z_10 ez_10 => ?_)
    have hz_10 : iv (-128) 127 z_10 := iv_of ez_10 (MI_a hI 38 hz_9 (by decide))
    refine lv_goto (tgt := 38) hx hb dX13_sign_20 (by decide) ?_
    exact hj38 z_10 (iv_w hs7 (by decide)) hvy hz_10 _ _ _ hP hD hS (lv_sub hl [0, 1, 2] rfl)

set_option maxHeartbeats 4000000 in
set_option maxRecDepth 100000 in
theorem a_numberIn (l : Launch) (dC : Nat → ClassId) (dI : Nat → Nat → Nat) (h0 : Nat) (ad : Nat → Nat) (cid : Nat → ClassId) (sg : Nat → Int32) (gm : Nat → Nat → Int32) (lg : Nat → Nat → Int64) (x : Int32) (hI : MI sg gm) (hvx : iv 0 1079 x) (hsv : x.toInt ≤ 959 ∨ 1000 ≤ x.toInt) : MMl l dC dI yX13_numberIn wm_X13_numberIn ({ frames := 1, cells := 0, slots := 0, locals := 22 }) h0 ad cid [.int x] sg gm lg (fun r v => v = (sg, gm, lg)) := by
  intro sz
  refine Met.ofW (cc := cX13_numberIn) (maxL := 8) (ret := (some .long)) (by decide) rfl ?_
  intro p e s m args below meth c s₁ B hml hv
  obtain ⟨rfl, hsz, hP, hK, hD0⟩ := hv
  have hx := B.exec
  have hb := B.bytes
  have hr := B.returns
  have hts := atoms_spec (ws := wm_X13_numberIn) B.pre
  have htb := fun (w : Cond) (h : w ∈ tb) => hts w (List.mem_cons_of_mem _ h)
  have hown : s.vm.findClass RX13 = some m.cls := findClass_of_methodNamed B.named
  have hlocks := B.notSynchronized
  subst hsz
  have hD := hD0.self (sz := s.heap.size)
  generalize hAe : va_A (mW h0 ad cid sg gm lg) s.heap.size = A at hD ⊢
  have hA : ∀ q : Nat, s.heap.size ≤ q → A q := fun q h => by rw [← hAe]; exact Or.inr h
  have hS : va_S A s.heap s.heap [] := va_S.rf
  have hl := lv_entry ([.ref h0, .int x]) (n := 8) (Nat.le_of_ble_eq_true rfl)
  rw [lg_entry_eq]
  generalize (lg_sl ([.ref h0, .int x]) ++ List.replicate (8 - (lg_sl ([.ref h0, .int x])).length) Slot.unset).toArray = ls at hl ⊢
  have hl : lv_has ls 8 [(0, .ref h0), (1, .int x)] := hl
  have hj169 : ∀ (x5_169 : Int64) (x7_169 : Int32) (x4_169 : Int32) (x3_169 : Int32) (x2_169 : Int32) (y0_169 : Int64) (_ : iv 0 24 x7_169) (_ : iv 0 1 x4_169) (_ : iv 0 1 x3_169) (_ : iv 0 24 x2_169) (_ : iv 0 1079 x) (H : Heap) (locs : List Loc) (ls : Array Slot), va_P (dC, dI) vwCl (mW h0 ad cid sg gm lg) H → va_D A (mW h0 ad cid sg gm lg) → va_S A s.heap H locs → lv_has ls 8 [(5, .long x5_169), (7, .int x7_169), (4, .int x4_169), (3, .int x3_169), (2, .int x2_169), (0, .ref h0), (1, .int x)] → W p l e (headSpec wm_X13_numberIn ({ frames := 1, cells := 0, slots := 0, locals := 22 })).room s m ([.ref h0, .int x] : List Value).toArray below meth c H locs 0 0 (MQ below (va_Ql (fun r v => v = (sg, gm, lg)) (MB dC dI h0 ad cid A) A) ([.ref h0, .int x] : List Value).toArray s 0 0 A) (F0 m 169 ls [.long y0_169]) := by
    intro x5_169 x7_169 x4_169 x3_169 x2_169 y0_169 hx7_169 hx4_169 hx3_169 hx2_169 hsx1_169 H locs ls hP hD hS hl
    exact W.lret (v := y0_169) hx hb hr (fun t ht hW => ⟨⟨y0_169, (sg, gm, lg), rfl, rfl, by rw [ht]; exact hP, va_K.moved hW.alike hK, hD⟩, hS.F ht⟩) hS.2.2 dX13_numberIn_169
  have hj166 : ∀ (x5_166 : Int64) (x7_166 : Int32) (x4_166 : Int32) (x3_166 : Int32) (x2_166 : Int32) (_ : iv 0 24 x7_166) (_ : iv 0 1 x4_166) (_ : iv 0 1 x3_166) (_ : iv 0 24 x2_166) (_ : iv 0 1079 x) (H : Heap) (locs : List Loc) (ls : Array Slot), va_P (dC, dI) vwCl (mW h0 ad cid sg gm lg) H → va_D A (mW h0 ad cid sg gm lg) → va_S A s.heap H locs → lv_has ls 8 [(5, .long x5_166), (7, .int x7_166), (4, .int x4_166), (3, .int x3_166), (2, .int x2_166), (0, .ref h0), (1, .int x)] → W p l e (headSpec wm_X13_numberIn ({ frames := 1, cells := 0, slots := 0, locals := 22 })).room s m ([.ref h0, .int x] : List Value).toArray below meth c H locs 0 0 (MQ below (va_Ql (fun r v => v = (sg, gm, lg)) (MB dC dI h0 ad cid A) A) ([.ref h0, .int x] : List Value).toArray s 0 0 A) (F0 m 166 ls []) := by
    intro x5_166 x7_166 x4_166 x3_166 x2_166 hx7_166 hx4_166 hx3_166 hx2_166 hsx1_166 H locs ls hP hD hS hl
    refine lv_ldc2 (own := RX13) (v := (-9000000000000000000)) hx hb hown (htb _ kw_1229) dX13_numberIn_166 ?_
    exact hj169 x5_166 x7_166 x4_166 x3_166 x2_166 (-9000000000000000000) hx7_166 hx4_166 hx3_166 hx2_166 hsx1_166 _ _ _ hP hD hS (lv_sub hl [0, 1, 2, 3, 4, 5, 6] rfl)
  have hj136 : ∀ (x7_136 : Int32) (x5_136 : Int64) (x4_136 : Int32) (x3_136 : Int32) (x2_136 : Int32) (y0_136 : Int64) (_ : iv 0 24 x7_136) (_ : iv 0 1 x4_136) (_ : iv 0 1 x3_136) (_ : iv 0 24 x2_136) (_ : iv 0 1079 x) (H : Heap) (locs : List Loc) (ls : Array Slot), va_P (dC, dI) vwCl (mW h0 ad cid sg gm lg) H → va_D A (mW h0 ad cid sg gm lg) → va_S A s.heap H locs → lv_has ls 8 [(7, .int x7_136), (5, .long x5_136), (4, .int x4_136), (3, .int x3_136), (2, .int x2_136), (0, .ref h0), (1, .int x)] → W p l e (headSpec wm_X13_numberIn ({ frames := 1, cells := 0, slots := 0, locals := 22 })).room s m ([.ref h0, .int x] : List Value).toArray below meth c H locs 0 0 (MQ below (va_Ql (fun r v => v = (sg, gm, lg)) (MB dC dI h0 ad cid A) A) ([.ref h0, .int x] : List Value).toArray s 0 0 A) (F0 m 136 ls [.long y0_136]) := by
    intro x7_136 x5_136 x4_136 x3_136 x2_136 y0_136 hx7_136 hx4_136 hx3_136 hx2_136 hsx1_136 H locs ls hP hD hS hl
    refine lv_lstore (lv' := [(5, .long y0_136), (7, .int x7_136), (4, .int x4_136), (3, .int x3_136), (2, .int x2_136), (0, .ref h0), (1, .int x)]) hx hb dX13_numberIn_136 hl (by decide) rfl (fun ls hl => ?_)
    refine lv_iload hx hb dX13_numberIn_138 (lv_at hl 2 rfl) ?_
    refine lv_if_eq (tgt := 166) hx hb dX13_numberIn_140 (by decide) (fun c_1 => ?_) (fun c_1 => ?_)
    · have h_2 : iv 0 0 x4_136 := iv_eq c_1 hx4_136 (iv_k (by decide) : iv 0 0 0) (by decide)
      exact hj166 y0_136 x7_136 x4_136 x3_136 x2_136 hx7_136 (iv_w h_2 (by decide)) hx3_136 hx2_136 hsx1_136 _ _ _ hP hD hS (lv_sub hl [0, 1, 2, 3, 4, 5, 6] rfl)
    · have h_3 : iv 1 1 x4_136 := iv_neL c_1 hx4_136 (by decide)
      refine lv_lload hx hb dX13_numberIn_143 (lv_at hl 0 rfl) ?_
      refine lv_ldc2 (own := RX13) (v := (-2147483648)) hx hb hown (htb _ kw_1234) dX13_numberIn_145 ?_
      refine W.lcmp hx hb dX13_numberIn_148 ?_
      refine lv_topi (fun z_4 ez_4 => ?_)
      have hz_4 : iv (-1) 1 z_4 := iv_of ez_4 (iv_cmp _ _)
      refine lv_if_lt (tgt := 166) hx hb dX13_numberIn_149 (by decide) (fun c_5 => ?_) (fun c_5 => ?_)
      · have h_6 : iv (-1) (-1) z_4 := iv_ltL c_5 hz_4 (iv_k (by decide) : iv 0 0 0) (by decide)
        exact hj166 y0_136 x7_136 x4_136 x3_136 x2_136 hx7_136 (iv_w h_3 (by decide)) hx3_136 hx2_136 hsx1_136 _ _ _ hP hD hS (lv_sub hl [0, 1, 2, 3, 4, 5, 6] rfl)
      · have h_7 : iv 0 1 z_4 := iv_leR (i32_ge c_5) (iv_k (by decide) : iv 0 0 0) hz_4 (by decide)
        refine lv_lload hx hb dX13_numberIn_152 (lv_at hl 0 rfl) ?_
        refine lv_ldc2 (own := RX13) (v := 2147483647) hx hb hown (htb _ kw_1235) dX13_numberIn_154 ?_
        refine W.lcmp hx hb dX13_numberIn_157 ?_
        refine lv_topi (fun z_8 ez_8 => ?_)
        have hz_8 : iv (-1) 1 z_8 := iv_of ez_8 (iv_cmp _ _)
        refine lv_if_gt (tgt := 166) hx hb dX13_numberIn_158 (by decide) (fun c_9 => ?_) (fun c_9 => ?_)
        · have h_10 : iv 1 1 z_8 := iv_ltR c_9 (iv_k (by decide) : iv 0 0 0) hz_8 (by decide)
          exact hj166 y0_136 x7_136 x4_136 x3_136 x2_136 hx7_136 (iv_w h_3 (by decide)) hx3_136 hx2_136 hsx1_136 _ _ _ hP hD hS (lv_sub hl [0, 1, 2, 3, 4, 5, 6] rfl)
        · have h_11 : iv (-1) 0 z_8 := iv_leL (i32_ge c_9) hz_8 (iv_k (by decide) : iv 0 0 0) (by decide)
          refine lv_lload hx hb dX13_numberIn_161 (lv_at hl 0 rfl) ?_
          refine lv_goto (tgt := 169) hx hb dX13_numberIn_163 (by decide) ?_
          exact hj169 y0_136 x7_136 x4_136 x3_136 x2_136 y0_136 hx7_136 (iv_w h_3 (by decide)) hx3_136 hx2_136 hsx1_136 _ _ _ hP hD hS (lv_sub hl [0, 1, 2, 3, 4, 5, 6] rfl)
  have hj123 : ∀ (x7_123 : Int32) (x5_123 : Int64) (x4_123 : Int32) (x3_123 : Int32) (x2_123 : Int32) (_ : iv 0 24 x7_123) (_ : iv 0 1 x4_123) (_ : iv 0 1 x3_123) (_ : iv 0 24 x2_123) (_ : iv 0 1079 x) (H : Heap) (locs : List Loc) (ls : Array Slot), va_P (dC, dI) vwCl (mW h0 ad cid sg gm lg) H → va_D A (mW h0 ad cid sg gm lg) → va_S A s.heap H locs → lv_has ls 8 [(7, .int x7_123), (5, .long x5_123), (4, .int x4_123), (3, .int x3_123), (2, .int x2_123), (0, .ref h0), (1, .int x)] → W p l e (headSpec wm_X13_numberIn ({ frames := 1, cells := 0, slots := 0, locals := 22 })).room s m ([.ref h0, .int x] : List Value).toArray below meth c H locs 0 0 (MQ below (va_Ql (fun r v => v = (sg, gm, lg)) (MB dC dI h0 ad cid A) A) ([.ref h0, .int x] : List Value).toArray s 0 0 A) (F0 m 123 ls []) := by
    intro x7_123 x5_123 x4_123 x3_123 x2_123 hx7_123 hx4_123 hx3_123 hx2_123 hsx1_123 H locs ls hP hD hS hl
    refine lv_iload_n hx hb dX13_numberIn_123 rfl (lv_at hl 3 rfl) ?_
    refine lv_iconst (v := 1) hx hb dX13_numberIn_124 (by decide) ?_
    refine lv_icmp_ne (tgt := 134) hx hb dX13_numberIn_125 (by decide) (fun c_12 => ?_) (fun c_12 => ?_)
    · have h_13 : iv 0 0 x3_123 := iv_neH c_12 hx3_123 (by decide)
      refine lv_lload hx hb dX13_numberIn_134 (lv_at hl 1 rfl) ?_
      exact hj136 x7_123 x5_123 x4_123 x3_123 x2_123 x5_123 hx7_123 hx4_123 (iv_w h_13 (by decide)) hx2_123 hsx1_123 _ _ _ hP hD hS (lv_sub hl [0, 1, 2, 3, 4, 5, 6] rfl)
    · have h_14 : iv 1 1 x3_123 := iv_eq c_12 hx3_123 (iv_k (by decide) : iv 1 1 1) (by decide)
      refine lv_lload hx hb dX13_numberIn_128 (lv_at hl 1 rfl) ?_
      refine lv_lneg hx hb dX13_numberIn_130 ?_
      refine lv_topl (fun z_15 ez_15 => ?_)
      refine lv_goto (tgt := 136) hx hb dX13_numberIn_131 (by decide) ?_
      exact hj136 x7_123 x5_123 x4_123 x3_123 x2_123 z_15 hx7_123 hx4_123 (iv_w h_14 (by decide)) hx2_123 hsx1_123 _ _ _ hP hD hS (lv_sub hl [0, 1, 2, 3, 4, 5, 6] rfl)
  have hj54 : ∀ (n : Nat) (x7_54 : Int32) (x5_54 : Int64) (x4_54 : Int32) (x3_54 : Int32) (x2_54 : Int32) (_ : (24 - x7_54.toInt).toNat = n) (_ : iv 0 24 x7_54) (_ : iv 0 1 x4_54) (_ : iv 0 1 x3_54) (_ : iv 0 24 x2_54) (_ : iv 0 1079 x) (H : Heap) (locs : List Loc) (ls : Array Slot), va_P (dC, dI) vwCl (mW h0 ad cid sg gm lg) H → va_D A (mW h0 ad cid sg gm lg) → va_S A s.heap H locs → lv_has ls 8 [(7, .int x7_54), (5, .long x5_54), (4, .int x4_54), (3, .int x3_54), (2, .int x2_54), (0, .ref h0), (1, .int x)] → W p l e (headSpec wm_X13_numberIn ({ frames := 1, cells := 0, slots := 0, locals := 22 })).room s m ([.ref h0, .int x] : List Value).toArray below meth c H locs 0 0 (MQ below (va_Ql (fun r v => v = (sg, gm, lg)) (MB dC dI h0 ad cid A) A) ([.ref h0, .int x] : List Value).toArray s 0 0 A) (F0 m 54 ls []) := by
    intro n
    induction n using Nat.strongRecOn with
    | ind n ih54 =>
      intro x7_54 x5_54 x4_54 x3_54 x2_54 hn54 hx7_54 hx4_54 hx3_54 hx2_54 hsx1_54 H locs ls hP hD hS hl
      have hj94 : ∀ (y0_94 : Int32) (_ : iv 0 23 x7_54) (_ : iv 1 1 x4_54) (_ : iv 0 1 x3_54) (_ : iv 1 24 x2_54) (_ : iv 0 1079 x) (_ : iv 0 1 y0_94) (H : Heap) (locs : List Loc) (ls : Array Slot), va_P (dC, dI) vwCl (mW h0 ad cid sg gm lg) H → va_D A (mW h0 ad cid sg gm lg) → va_S A s.heap H locs → lv_has ls 8 [(7, .int x7_54), (5, .long x5_54), (4, .int x4_54), (3, .int x3_54), (2, .int x2_54), (0, .ref h0), (1, .int x)] → W p l e (headSpec wm_X13_numberIn ({ frames := 1, cells := 0, slots := 0, locals := 22 })).room s m ([.ref h0, .int x] : List Value).toArray below meth c H locs 0 0 (MQ below (va_Ql (fun r v => v = (sg, gm, lg)) (MB dC dI h0 ad cid A) A) ([.ref h0, .int x] : List Value).toArray s 0 0 A) (F0 m 94 ls [.int y0_94]) := by
        intro y0_94 hsx7_94 hsx4_94 hsx3_94 hsx2_94 hsx1_94 hy0_94 H locs ls hP hD hS hl
        refine lv_istore (lv' := [(4, .int y0_94), (7, .int x7_54), (5, .long x5_54), (3, .int x3_54), (2, .int x2_54), (0, .ref h0), (1, .int x)]) hx hb dX13_numberIn_94 hl (by decide) rfl (fun ls hl => ?_)
        refine lv_ldc2 (own := RX13) (v := 10) hx hb hown (htb _ kw_1233) dX13_numberIn_96 ?_
        refine lv_lload hx hb dX13_numberIn_99 (lv_at hl 2 rfl) ?_
        refine lv_lmul hx hb dX13_numberIn_101 ?_
        refine lv_topl (fun z_16 ez_16 => ?_)
        refine lv_aload_n hx hb dX13_numberIn_102 rfl (lv_at hl 5 rfl) ?_
        refine lv_iload_n hx hb dX13_numberIn_103 rfl (lv_at hl 6 rfl) ?_
        refine lv_iload hx hb dX13_numberIn_104 (lv_at hl 1 rfl) ?_
        refine mr_calli (rest := [.long z_16]) ⟨hx, hb, hml, hown, htb⟩ (a_sign l dC dI h0 ad cid sg gm lg x x7_54 hI hsx1_94 hsx7_94 hsv) (cwV 2 htb (gd_V kw_1239 kw_1240 kw_1241 kw_5 kw_1628) rfl rfl rfl (by decide +kernel) ⟨Nat.le_of_ble_eq_true rfl, Nat.le_of_ble_eq_true rfl⟩) rfl hl.1 rfl (Nat.le_of_ble_eq_true rfl) dX13_numberIn_106 ⟨Nat.zero_le _, Nat.zero_le _⟩ hK hP hD hS hA (fun r_17 u_18 H locs hw hP hD hS => ?_)
        obtain ⟨hr_17, rfl⟩ := hw
        have hP : va_P (dC, dI) vwCl (mW h0 ad cid sg gm lg) H := hP
        have hD : va_D A (mW h0 ad cid sg gm lg) := hD
        refine lv_i2l (v := (r_17 : Int32).toInt64) hx hb dX13_numberIn_109 rfl ?_
        refine lv_topl (fun z_19 ez_19 => ?_)
        refine lv_ladd hx hb dX13_numberIn_110 ?_
        refine lv_topl (fun z_20 ez_20 => ?_)
        refine lv_ldc2 (own := RX13) (v := 48) hx hb hown (htb _ kw_890) dX13_numberIn_111 ?_
        refine lv_lsub hx hb dX13_numberIn_114 ?_
        refine lv_topl (fun z_21 ez_21 => ?_)
        refine lv_lstore (lv' := [(5, .long z_21), (4, .int y0_94), (7, .int x7_54), (3, .int x3_54), (2, .int x2_54), (0, .ref h0), (1, .int x)]) hx hb dX13_numberIn_115 hl (by decide) rfl (fun ls hl => ?_)
        obtain ⟨z_22, ez_22⟩ : ∃ z : Int32, z = x7_54 + 1 := ⟨_, rfl⟩
        have hz_22 : iv 1 24 z_22 := iv_of ez_22 (iv_add hsx7_94 (iv_k (by decide) : iv 1 1 1) (by decide))
        have tz_22 : z_22.toInt = x7_54.toInt + 1 := by rw [ez_22]; exact iv_addE hsx7_94 (iv_k (by decide) : iv 1 1 1) (by decide)
        refine lv_iinc (v := z_22) (lv' := [(7, .int z_22), (5, .long z_21), (4, .int y0_94), (3, .int x3_54), (2, .int x2_54), (0, .ref h0), (1, .int x)]) hx hb dX13_numberIn_117 hl (k := 2) rfl ez_22.symm (by decide) rfl (fun ls hl => ?_)
        refine lv_goto (tgt := 54) hx hb dX13_numberIn_120 (by decide) ?_
        exact ih54 _ (by rw [← hn54]; exact (iv_meas tz_22 hsx7_94 (by decide))) z_22 z_21 y0_94 x3_54 x2_54 rfl (iv_w hz_22 (by decide)) hy0_94 hsx3_94 (iv_w hsx2_94 (by decide)) hsx1_94 _ _ _ hP hD hS (lv_sub hl [0, 1, 2, 3, 4, 5, 6] rfl)
      have hj93 : ∀ (_ : iv 0 23 x7_54) (_ : iv 1 1 x4_54) (_ : iv 0 1 x3_54) (_ : iv 1 24 x2_54) (_ : iv 0 1079 x) (H : Heap) (locs : List Loc) (ls : Array Slot), va_P (dC, dI) vwCl (mW h0 ad cid sg gm lg) H → va_D A (mW h0 ad cid sg gm lg) → va_S A s.heap H locs → lv_has ls 8 [(7, .int x7_54), (5, .long x5_54), (4, .int x4_54), (3, .int x3_54), (2, .int x2_54), (0, .ref h0), (1, .int x)] → W p l e (headSpec wm_X13_numberIn ({ frames := 1, cells := 0, slots := 0, locals := 22 })).room s m ([.ref h0, .int x] : List Value).toArray below meth c H locs 0 0 (MQ below (va_Ql (fun r v => v = (sg, gm, lg)) (MB dC dI h0 ad cid A) A) ([.ref h0, .int x] : List Value).toArray s 0 0 A) (F0 m 93 ls []) := by
        intro  hsx7_93 hsx4_93 hsx3_93 hsx2_93 hsx1_93 H locs ls hP hD hS hl
        refine lv_iconst (v := 0) hx hb dX13_numberIn_93 (by decide) ?_
        exact hj94 0 hsx7_93 hsx4_93 hsx3_93 hsx2_93 hsx1_93 (iv_w (iv_k (by decide) : iv 0 0 0) (by decide)) _ _ _ hP hD hS (lv_sub hl [0, 1, 2, 3, 4, 5, 6] rfl)
      refine lv_iload hx hb dX13_numberIn_54 (lv_at hl 0 rfl) ?_
      refine lv_iload_n hx hb dX13_numberIn_56 rfl (lv_at hl 4 rfl) ?_
      refine lv_icmp_ge (tgt := 123) hx hb dX13_numberIn_57 (by decide) (fun c_23 => ?_) (fun c_23 => ?_)
      · have d_24 : (x2_54 : Int32).toInt ≤ (x7_54 : Int32).toInt := Int32.le_iff_toInt_le.mp c_23
        exact hj123 x7_54 x5_54 x4_54 x3_54 x2_54 hx7_54 hx4_54 hx3_54 hx2_54 hsx1_54 _ _ _ hP hD hS (lv_sub hl [0, 1, 2, 3, 4, 5, 6] rfl)
      · have d_25 : (x7_54 : Int32).toInt < (x2_54 : Int32).toInt := Int32.lt_iff_toInt_lt.mp (i32_lt c_23)
        have h_26 : iv 0 23 x7_54 := iv_ltL (i32_lt c_23) hx7_54 hx2_54 (by decide)
        have h_27 : iv 1 24 x2_54 := iv_ltR (i32_lt c_23) hx7_54 hx2_54 (by decide)
        refine lv_iload hx hb dX13_numberIn_60 (lv_at hl 2 rfl) ?_
        refine lv_if_eq (tgt := 123) hx hb dX13_numberIn_62 (by decide) (fun c_28 => ?_) (fun c_28 => ?_)
        · have h_29 : iv 0 0 x4_54 := iv_eq c_28 hx4_54 (iv_k (by decide) : iv 0 0 0) (by decide)
          exact hj123 x7_54 x5_54 x4_54 x3_54 x2_54 (iv_w h_26 (by decide)) (iv_w h_29 (by decide)) hx3_54 (iv_w h_27 (by decide)) hsx1_54 _ _ _ hP hD hS (lv_sub hl [0, 1, 2, 3, 4, 5, 6] rfl)
        · have h_30 : iv 1 1 x4_54 := iv_neL c_28 hx4_54 (by decide)
          refine lv_aload_n hx hb dX13_numberIn_65 rfl (lv_at hl 5 rfl) ?_
          refine lv_iload_n hx hb dX13_numberIn_66 rfl (lv_at hl 6 rfl) ?_
          refine lv_iload hx hb dX13_numberIn_67 (lv_at hl 0 rfl) ?_
          refine mr_calli (rest := []) ⟨hx, hb, hml, hown, htb⟩ (a_sign l dC dI h0 ad cid sg gm lg x x7_54 hI hsx1_54 h_26 hsv) (cwV 2 htb (gd_V kw_1239 kw_1240 kw_1241 kw_5 kw_1628) rfl rfl rfl (by decide +kernel) ⟨Nat.le_of_ble_eq_true rfl, Nat.le_of_ble_eq_true rfl⟩) rfl hl.1 rfl (Nat.le_of_ble_eq_true rfl) dX13_numberIn_69 ⟨Nat.zero_le _, Nat.zero_le _⟩ hK hP hD hS hA (fun r_31 u_32 H locs hw hP hD hS => ?_)
          obtain ⟨hr_31, rfl⟩ := hw
          have hP : va_P (dC, dI) vwCl (mW h0 ad cid sg gm lg) H := hP
          have hD : va_D A (mW h0 ad cid sg gm lg) := hD
          refine lv_bipush (v := 48) hx hb dX13_numberIn_72 (by decide) ?_
          refine lv_icmp_lt (tgt := 93) hx hb dX13_numberIn_74 (by decide) (fun c_33 => ?_) (fun c_33 => ?_)
          · have h_34 : iv (-128) 47 r_31 := iv_ltL c_33 hr_31 (iv_k (by decide) : iv 48 48 48) (by decide)
            exact hj93 h_26 h_30 hx3_54 h_27 hsx1_54 _ _ _ hP hD hS (lv_sub hl [0, 1, 2, 3, 4, 5, 6] rfl)
          · have h_35 : iv 48 127 r_31 := iv_leR (i32_ge c_33) (iv_k (by decide) : iv 48 48 48) hr_31 (by decide)
            refine lv_aload_n hx hb dX13_numberIn_77 rfl (lv_at hl 5 rfl) ?_
            refine lv_iload_n hx hb dX13_numberIn_78 rfl (lv_at hl 6 rfl) ?_
            refine lv_iload hx hb dX13_numberIn_79 (lv_at hl 0 rfl) ?_
            refine mr_calli (rest := []) ⟨hx, hb, hml, hown, htb⟩ (a_sign l dC dI h0 ad cid sg gm lg x x7_54 hI hsx1_54 h_26 hsv) (cwV 2 htb (gd_V kw_1239 kw_1240 kw_1241 kw_5 kw_1628) rfl rfl rfl (by decide +kernel) ⟨Nat.le_of_ble_eq_true rfl, Nat.le_of_ble_eq_true rfl⟩) rfl hl.1 rfl (Nat.le_of_ble_eq_true rfl) dX13_numberIn_81 ⟨Nat.zero_le _, Nat.zero_le _⟩ hK hP hD hS hA (fun r_36 u_37 H locs hw hP hD hS => ?_)
            obtain ⟨hr_36, rfl⟩ := hw
            have hP : va_P (dC, dI) vwCl (mW h0 ad cid sg gm lg) H := hP
            have hD : va_D A (mW h0 ad cid sg gm lg) := hD
            refine lv_bipush (v := 57) hx hb dX13_numberIn_84 (by decide) ?_
            refine lv_icmp_gt (tgt := 93) hx hb dX13_numberIn_86 (by decide) (fun c_38 => ?_) (fun c_38 => ?_)
            · have h_39 : iv 58 127 r_36 := iv_ltR c_38 (iv_k (by decide) : iv 57 57 57) hr_36 (by decide)
              exact hj93 h_26 h_30 hx3_54 h_27 hsx1_54 _ _ _ hP hD hS (lv_sub hl [0, 1, 2, 3, 4, 5, 6] rfl)
            · have h_40 : iv (-128) 57 r_36 := iv_leL (i32_ge c_38) hr_36 (iv_k (by decide) : iv 57 57 57) (by decide)
              refine lv_iconst (v := 1) hx hb dX13_numberIn_89 (by decide) ?_
              refine lv_goto (tgt := 94) hx hb dX13_numberIn_90 (by decide) ?_
              exact hj94 1 h_26 h_30 hx3_54 h_27 hsx1_54 (iv_w (iv_k (by decide) : iv 1 1 1) (by decide)) _ _ _ hP hD hS (lv_sub hl [0, 1, 2, 3, 4, 5, 6] rfl)
  have hj46 : ∀ (x3_46 : Int32) (x2_46 : Int32) (y0_46 : Int32) (_ : iv 0 1 x3_46) (_ : iv 0 24 x2_46) (_ : iv 0 1079 x) (_ : iv 0 1 y0_46) (H : Heap) (locs : List Loc) (ls : Array Slot), va_P (dC, dI) vwCl (mW h0 ad cid sg gm lg) H → va_D A (mW h0 ad cid sg gm lg) → va_S A s.heap H locs → lv_has ls 8 [(3, .int x3_46), (2, .int x2_46), (0, .ref h0), (1, .int x)] → W p l e (headSpec wm_X13_numberIn ({ frames := 1, cells := 0, slots := 0, locals := 22 })).room s m ([.ref h0, .int x] : List Value).toArray below meth c H locs 0 0 (MQ below (va_Ql (fun r v => v = (sg, gm, lg)) (MB dC dI h0 ad cid A) A) ([.ref h0, .int x] : List Value).toArray s 0 0 A) (F0 m 46 ls [.int y0_46]) := by
    intro x3_46 x2_46 y0_46 hx3_46 hx2_46 hsx1_46 hy0_46 H locs ls hP hD hS hl
    refine lv_istore (lv' := [(4, .int y0_46), (3, .int x3_46), (2, .int x2_46), (0, .ref h0), (1, .int x)]) hx hb dX13_numberIn_46 hl (by decide) rfl (fun ls hl => ?_)
    refine lv_lconst (v := 0) hx hb dX13_numberIn_48 (by decide) ?_
    refine lv_lstore (lv' := [(5, .long 0), (4, .int y0_46), (3, .int x3_46), (2, .int x2_46), (0, .ref h0), (1, .int x)]) hx hb dX13_numberIn_49 hl (by decide) rfl (fun ls hl => ?_)
    refine lv_iload_n hx hb dX13_numberIn_51 rfl (lv_at hl 2 rfl) ?_
    refine lv_istore (lv' := [(7, .int x3_46), (5, .long 0), (4, .int y0_46), (3, .int x3_46), (2, .int x2_46), (0, .ref h0), (1, .int x)]) hx hb dX13_numberIn_52 hl (by decide) rfl (fun ls hl => ?_)
    exact hj54 _ x3_46 0 y0_46 x3_46 x2_46 rfl (iv_w hx3_46 (by decide)) hy0_46 hx3_46 hx2_46 hsx1_46 _ _ _ hP hD hS (lv_sub hl [0, 1, 2, 3, 4, 5, 6] rfl)
  have hj45 : ∀ (x3_45 : Int32) (x2_45 : Int32) (_ : iv 0 1 x3_45) (_ : iv 0 24 x2_45) (_ : iv 0 1079 x) (H : Heap) (locs : List Loc) (ls : Array Slot), va_P (dC, dI) vwCl (mW h0 ad cid sg gm lg) H → va_D A (mW h0 ad cid sg gm lg) → va_S A s.heap H locs → lv_has ls 8 [(3, .int x3_45), (2, .int x2_45), (0, .ref h0), (1, .int x)] → W p l e (headSpec wm_X13_numberIn ({ frames := 1, cells := 0, slots := 0, locals := 22 })).room s m ([.ref h0, .int x] : List Value).toArray below meth c H locs 0 0 (MQ below (va_Ql (fun r v => v = (sg, gm, lg)) (MB dC dI h0 ad cid A) A) ([.ref h0, .int x] : List Value).toArray s 0 0 A) (F0 m 45 ls []) := by
    intro x3_45 x2_45 hx3_45 hx2_45 hsx1_45 H locs ls hP hD hS hl
    refine lv_iconst (v := 0) hx hb dX13_numberIn_45 (by decide) ?_
    exact hj46 x3_45 x2_45 0 hx3_45 hx2_45 hsx1_45 (iv_w (iv_k (by decide) : iv 0 0 0) (by decide)) _ _ _ hP hD hS (lv_sub hl [0, 1, 2, 3] rfl)
  have hj26 : ∀ (x2_26 : Int32) (y0_26 : Int32) (_ : iv 0 24 x2_26) (_ : iv 0 1079 x) (_ : iv 0 1 y0_26) (H : Heap) (locs : List Loc) (ls : Array Slot), va_P (dC, dI) vwCl (mW h0 ad cid sg gm lg) H → va_D A (mW h0 ad cid sg gm lg) → va_S A s.heap H locs → lv_has ls 8 [(2, .int x2_26), (0, .ref h0), (1, .int x)] → W p l e (headSpec wm_X13_numberIn ({ frames := 1, cells := 0, slots := 0, locals := 22 })).room s m ([.ref h0, .int x] : List Value).toArray below meth c H locs 0 0 (MQ below (va_Ql (fun r v => v = (sg, gm, lg)) (MB dC dI h0 ad cid A) A) ([.ref h0, .int x] : List Value).toArray s 0 0 A) (F0 m 26 ls [.int y0_26]) := by
    intro x2_26 y0_26 hx2_26 hsx1_26 hy0_26 H locs ls hP hD hS hl
    refine lv_istore_n (lv' := [(3, .int y0_26), (2, .int x2_26), (0, .ref h0), (1, .int x)]) hx hb dX13_numberIn_26 rfl hl (by decide) rfl (fun ls hl => ?_)
    refine lv_iload_n hx hb dX13_numberIn_27 rfl (lv_at hl 1 rfl) ?_
    refine lv_iload_n hx hb dX13_numberIn_28 rfl (lv_at hl 0 rfl) ?_
    refine lv_isub hx hb dX13_numberIn_29 ?_
    refine lv_topi (fun z_41 ez_41 => ?_)
    have hz_41 : iv (-1) 24 z_41 := iv_of ez_41 (iv_sub hx2_26 hy0_26 (by decide))
    have tz_41 : z_41.toInt = (x2_26 : Int32).toInt - (y0_26 : Int32).toInt := by rw [ez_41]; exact iv_subE hx2_26 hy0_26 (by decide)
    refine lv_if_le (tgt := 45) hx hb dX13_numberIn_30 (by decide) (fun c_42 => ?_) (fun c_42 => ?_)
    · have h_43 : iv (-1) 0 z_41 := iv_leL c_42 hz_41 (iv_k (by decide) : iv 0 0 0) (by decide)
      exact hj45 y0_26 x2_26 hy0_26 hx2_26 hsx1_26 _ _ _ hP hD hS (lv_sub hl [0, 1, 2, 3] rfl)
    · have h_44 : iv 1 24 z_41 := iv_ltR (i32_lt c_42) (iv_k (by decide) : iv 0 0 0) hz_41 (by decide)
      refine lv_iload_n hx hb dX13_numberIn_33 rfl (lv_at hl 1 rfl) ?_
      refine lv_iload_n hx hb dX13_numberIn_34 rfl (lv_at hl 0 rfl) ?_
      refine lv_isub hx hb dX13_numberIn_35 ?_
      refine lv_topi (fun z_45 ez_45 => ?_)
      obtain rfl : z_41 = z_45 := ez_41.trans ez_45.symm
      refine lv_bipush (v := 11) hx hb dX13_numberIn_36 (by decide) ?_
      refine lv_icmp_ge (tgt := 45) hx hb dX13_numberIn_38 (by decide) (fun c_46 => ?_) (fun c_46 => ?_)
      · have h_47 : iv 11 24 z_41 := iv_leR c_46 (iv_k (by decide) : iv 11 11 11) h_44 (by decide)
        exact hj45 y0_26 x2_26 hy0_26 hx2_26 hsx1_26 _ _ _ hP hD hS (lv_sub hl [0, 1, 2, 3] rfl)
      · have h_48 : iv 1 10 z_41 := iv_ltL (i32_lt c_46) h_44 (iv_k (by decide) : iv 11 11 11) (by decide)
        refine lv_iconst (v := 1) hx hb dX13_numberIn_41 (by decide) ?_
        refine lv_goto (tgt := 46) hx hb dX13_numberIn_42 (by decide) ?_
        exact hj46 y0_26 x2_26 1 hy0_26 hx2_26 hsx1_26 (iv_w (iv_k (by decide) : iv 1 1 1) (by decide)) _ _ _ hP hD hS (lv_sub hl [0, 1, 2, 3] rfl)
  have hj25 : ∀ (x2_25 : Int32) (_ : iv 0 24 x2_25) (_ : iv 0 1079 x) (H : Heap) (locs : List Loc) (ls : Array Slot), va_P (dC, dI) vwCl (mW h0 ad cid sg gm lg) H → va_D A (mW h0 ad cid sg gm lg) → va_S A s.heap H locs → lv_has ls 8 [(2, .int x2_25), (0, .ref h0), (1, .int x)] → W p l e (headSpec wm_X13_numberIn ({ frames := 1, cells := 0, slots := 0, locals := 22 })).room s m ([.ref h0, .int x] : List Value).toArray below meth c H locs 0 0 (MQ below (va_Ql (fun r v => v = (sg, gm, lg)) (MB dC dI h0 ad cid A) A) ([.ref h0, .int x] : List Value).toArray s 0 0 A) (F0 m 25 ls []) := by
    intro x2_25 hx2_25 hsx1_25 H locs ls hP hD hS hl
    refine lv_iconst (v := 0) hx hb dX13_numberIn_25 (by decide) ?_
    exact hj26 x2_25 0 hx2_25 hsx1_25 (iv_w (iv_k (by decide) : iv 0 0 0) (by decide)) _ _ _ hP hD hS (lv_sub hl [0, 1, 2] rfl)
  refine lv_aload_n hx hb dX13_numberIn_0 rfl (lv_at hl 0 rfl) ?_
  refine lv_iload_n hx hb dX13_numberIn_1 rfl (lv_at hl 1 rfl) ?_
  refine mr_calli (rest := []) ⟨hx, hb, hml, hown, htb⟩ (a_length l dC dI h0 ad cid sg gm lg x hI hvx hsv) (cwV 1 htb (gd_V kw_1236 kw_1237 kw_1238 kw_5 kw_1627) rfl rfl rfl (by decide +kernel) ⟨Nat.le_of_ble_eq_true rfl, Nat.le_of_ble_eq_true rfl⟩) rfl hl.1 rfl (Nat.le_of_ble_eq_true rfl) dX13_numberIn_2 ⟨Nat.zero_le _, Nat.zero_le _⟩ hK hP hD hS hA (fun r_49 u_50 H locs hw hP hD hS => ?_)
  obtain ⟨hr_49, rfl⟩ := hw
  have hP : va_P (dC, dI) vwCl (mW h0 ad cid sg gm lg) H := hP
  have hD : va_D A (mW h0 ad cid sg gm lg) := hD
  refine lv_istore_n (lv' := [(2, .int r_49), (0, .ref h0), (1, .int x)]) hx hb dX13_numberIn_5 rfl hl (by decide) rfl (fun ls hl => ?_)
  refine lv_iload_n hx hb dX13_numberIn_6 rfl (lv_at hl 0 rfl) ?_
  refine lv_if_le (tgt := 25) hx hb dX13_numberIn_7 (by decide) (fun c_51 => ?_) (fun c_51 => ?_)
  · have h_52 : iv 0 0 r_49 := iv_leL c_51 hr_49 (iv_k (by decide) : iv 0 0 0) (by decide)
    exact hj25 r_49 (iv_w h_52 (by decide)) hvx _ _ _ hP hD hS (lv_sub hl [0, 1, 2] rfl)
  · have h_53 : iv 1 24 r_49 := iv_ltR (i32_lt c_51) (iv_k (by decide) : iv 0 0 0) hr_49 (by decide)
    refine lv_aload_n hx hb dX13_numberIn_10 rfl (lv_at hl 1 rfl) ?_
    refine lv_iload_n hx hb dX13_numberIn_11 rfl (lv_at hl 2 rfl) ?_
    refine lv_iconst (v := 0) hx hb dX13_numberIn_12 (by decide) ?_
    refine mr_calli (rest := []) ⟨hx, hb, hml, hown, htb⟩ (a_sign l dC dI h0 ad cid sg gm lg x 0 hI hvx (iv_w (iv_k (by decide) : iv 0 0 0) (by decide)) hsv) (cwV 2 htb (gd_V kw_1239 kw_1240 kw_1241 kw_5 kw_1628) rfl rfl rfl (by decide +kernel) ⟨Nat.le_of_ble_eq_true rfl, Nat.le_of_ble_eq_true rfl⟩) rfl hl.1 rfl (Nat.le_of_ble_eq_true rfl) dX13_numberIn_13 ⟨Nat.zero_le _, Nat.zero_le _⟩ hK hP hD hS hA (fun r_54 u_55 H locs hw hP hD hS => ?_)
    obtain ⟨hr_54, rfl⟩ := hw
    have hP : va_P (dC, dI) vwCl (mW h0 ad cid sg gm lg) H := hP
    have hD : va_D A (mW h0 ad cid sg gm lg) := hD
    refine lv_bipush (v := 45) hx hb dX13_numberIn_16 (by decide) ?_
    refine lv_icmp_ne (tgt := 25) hx hb dX13_numberIn_18 (by decide) (fun c_56 => ?_) (fun c_56 => ?_)
    · have d_57 : ¬ (r_54 : Int32).toInt = 45 := lv_neT c_56 rfl
      exact hj25 r_49 (iv_w h_53 (by decide)) hvx _ _ _ hP hD hS (lv_sub hl [0, 1, 2] rfl)
    · have h_58 : iv 45 45 r_54 := iv_eq c_56 hr_54 (iv_k (by decide) : iv 45 45 45) (by decide)
      refine lv_iconst (v := 1) hx hb dX13_numberIn_21 (by decide) ?_
      refine lv_goto (tgt := 26) hx hb dX13_numberIn_22 (by decide) ?_
      exact hj26 r_49 1 (iv_w h_53 (by decide)) hvx (iv_w (iv_k (by decide) : iv 1 1 1) (by decide)) _ _ _ hP hD hS (lv_sub hl [0, 1, 2] rfl)

set_option maxHeartbeats 4000000 in
set_option maxRecDepth 100000 in
theorem a_is (l : Launch) (dC : Nat → ClassId) (dI : Nat → Nat → Nat) (h0 : Nat) (ad : Nat → Nat) (cid : Nat → ClassId) (sg : Nat → Int32) (gm : Nat → Nat → Int32) (lg : Nat → Nat → Int64) (x : Int32) (w : Int32) (hI : MI sg gm) (hvx : iv 0 1079 x) (hvw : iv 0 10 w) (hsv : x.toInt ≤ 959 ∨ 1000 ≤ x.toInt) : MMi l dC dI yX13_is wm_X13_is ({ frames := 1, cells := 0, slots := 0, locals := 22 }) h0 ad cid [.int x, .int w] sg gm lg (fun r v => (iv 0 1 r) ∧ v = (sg, gm, lg)) := by
  intro sz
  refine Met.ofW (cc := cX13_is) (maxL := 7) (ret := (some .boolean)) (by decide) rfl ?_
  intro p e s m args below meth c s₁ B hml hv
  obtain ⟨rfl, hsz, hP, hK, hD0⟩ := hv
  have hx := B.exec
  have hb := B.bytes
  have hr := B.returns
  have hts := atoms_spec (ws := wm_X13_is) B.pre
  have htb := fun (w : Cond) (h : w ∈ tb) => hts w (List.mem_cons_of_mem _ h)
  have hown : s.vm.findClass RX13 = some m.cls := findClass_of_methodNamed B.named
  have hlocks := B.notSynchronized
  subst hsz
  have hD := hD0.self (sz := s.heap.size)
  generalize hAe : va_A (mW h0 ad cid sg gm lg) s.heap.size = A at hD ⊢
  have hA : ∀ q : Nat, s.heap.size ≤ q → A q := fun q h => by rw [← hAe]; exact Or.inr h
  have hS : va_S A s.heap s.heap [] := va_S.rf
  have hl := lv_entry ([.ref h0, .int x, .int w]) (n := 7) (Nat.le_of_ble_eq_true rfl)
  rw [lg_entry_eq]
  generalize (lg_sl ([.ref h0, .int x, .int w]) ++ List.replicate (7 - (lg_sl ([.ref h0, .int x, .int w])).length) Slot.unset).toArray = ls at hl ⊢
  have hl : lv_has ls 7 [(0, .ref h0), (1, .int x), (2, .int w)] := hl
  have hj67 : ∀ (x6_67 : Int32) (x4_67 : Int64) (x3_67 : Int32) (y0_67 : Int32) (_ : iv 0 24 x6_67) (_ : iv 0 24 x3_67) (_ : iv 0 1079 x) (_ : iv 0 10 w) (_ : iv 0 1 y0_67) (H : Heap) (locs : List Loc) (ls : Array Slot), va_P (dC, dI) vwCl (mW h0 ad cid sg gm lg) H → va_D A (mW h0 ad cid sg gm lg) → va_S A s.heap H locs → lv_has ls 7 [(6, .int x6_67), (4, .long x4_67), (3, .int x3_67), (0, .ref h0), (1, .int x), (2, .int w)] → W p l e (headSpec wm_X13_is ({ frames := 1, cells := 0, slots := 0, locals := 22 })).room s m ([.ref h0, .int x, .int w] : List Value).toArray below meth c H locs 0 0 (MQ below (va_Qi (fun r v => (iv 0 1 r) ∧ v = (sg, gm, lg)) (MB dC dI h0 ad cid A) A) ([.ref h0, .int x, .int w] : List Value).toArray s 0 0 A) (F0 m 67 ls [.int y0_67]) := by
    intro x6_67 x4_67 x3_67 y0_67 hx6_67 hx3_67 hsx1_67 hsx2_67 hy0_67 H locs ls hP hD hS hl
    exact W.zret (v := y0_67) hx hb hr (iv_nb hy0_67) (fun t ht hW => ⟨⟨y0_67, (sg, gm, lg), rfl, ⟨hy0_67, rfl⟩, by rw [ht]; exact hP, va_K.moved hW.alike hK, hD⟩, hS.F ht⟩) hS.2.2 dX13_is_67
  have hj66 : ∀ (x6_66 : Int32) (x4_66 : Int64) (x3_66 : Int32) (_ : iv 0 24 x6_66) (_ : iv 0 24 x3_66) (_ : iv 0 1079 x) (_ : iv 0 10 w) (H : Heap) (locs : List Loc) (ls : Array Slot), va_P (dC, dI) vwCl (mW h0 ad cid sg gm lg) H → va_D A (mW h0 ad cid sg gm lg) → va_S A s.heap H locs → lv_has ls 7 [(6, .int x6_66), (4, .long x4_66), (3, .int x3_66), (0, .ref h0), (1, .int x), (2, .int w)] → W p l e (headSpec wm_X13_is ({ frames := 1, cells := 0, slots := 0, locals := 22 })).room s m ([.ref h0, .int x, .int w] : List Value).toArray below meth c H locs 0 0 (MQ below (va_Qi (fun r v => (iv 0 1 r) ∧ v = (sg, gm, lg)) (MB dC dI h0 ad cid A) A) ([.ref h0, .int x, .int w] : List Value).toArray s 0 0 A) (F0 m 66 ls []) := by
    intro x6_66 x4_66 x3_66 hx6_66 hx3_66 hsx1_66 hsx2_66 H locs ls hP hD hS hl
    refine lv_iconst (v := 0) hx hb dX13_is_66 (by decide) ?_
    exact hj67 x6_66 x4_66 x3_66 0 hx6_66 hx3_66 hsx1_66 hsx2_66 (iv_w (iv_k (by decide) : iv 0 0 0) (by decide)) _ _ _ hP hD hS (lv_sub hl [0, 1, 2, 3, 4, 5] rfl)
  have hj46 : ∀ (x6_46 : Int32) (x4_46 : Int64) (x3_46 : Int32) (_ : iv 0 24 x6_46) (_ : iv 0 24 x3_46) (_ : iv 0 1079 x) (_ : iv 0 10 w) (H : Heap) (locs : List Loc) (ls : Array Slot), va_P (dC, dI) vwCl (mW h0 ad cid sg gm lg) H → va_D A (mW h0 ad cid sg gm lg) → va_S A s.heap H locs → lv_has ls 7 [(6, .int x6_46), (4, .long x4_46), (3, .int x3_46), (0, .ref h0), (1, .int x), (2, .int w)] → W p l e (headSpec wm_X13_is ({ frames := 1, cells := 0, slots := 0, locals := 22 })).room s m ([.ref h0, .int x, .int w] : List Value).toArray below meth c H locs 0 0 (MQ below (va_Qi (fun r v => (iv 0 1 r) ∧ v = (sg, gm, lg)) (MB dC dI h0 ad cid A) A) ([.ref h0, .int x, .int w] : List Value).toArray s 0 0 A) (F0 m 46 ls []) := by
    intro x6_46 x4_46 x3_46 hx6_46 hx3_46 hsx1_46 hsx2_46 H locs ls hP hD hS hl
    refine lv_iload_n hx hb dX13_is_46 rfl (lv_at hl 2 rfl) ?_
    refine lv_if_le (tgt := 66) hx hb dX13_is_47 (by decide) (fun c_1 => ?_) (fun c_1 => ?_)
    · have h_2 : iv 0 0 x3_46 := iv_leL c_1 hx3_46 (iv_k (by decide) : iv 0 0 0) (by decide)
      exact hj66 x6_46 x4_46 x3_46 hx6_46 (iv_w h_2 (by decide)) hsx1_46 hsx2_46 _ _ _ hP hD hS (lv_sub hl [0, 1, 2, 3, 4, 5] rfl)
    · have h_3 : iv 1 24 x3_46 := iv_ltR (i32_lt c_1) (iv_k (by decide) : iv 0 0 0) hx3_46 (by decide)
      refine lv_lload hx hb dX13_is_50 (lv_at hl 1 rfl) ?_
      refine lv_aload_n hx hb dX13_is_52 rfl (lv_at hl 3 rfl) ?_
      refine mr_get (v := .ref (ad 1)) hx hb htb inX13 hown hK hP 1 (by decide) (htb _ kw_156) rfl dX13_is_53 ?_
      refine lv_iload_n hx hb dX13_is_56 rfl (lv_at hl 5 rfl) ?_
      refine mr_lald hx hb hK hP 1 (k := 1) rfl rfl rfl (show vp_in w 11 from (iv_in hsx2_46 (by decide))) dX13_is_57 ?_
      refine lv_topl (fun z_4 ez_4 => ?_)
      refine W.lcmp hx hb dX13_is_58 ?_
      refine lv_topi (fun z_5 ez_5 => ?_)
      have hz_5 : iv (-1) 1 z_5 := iv_of ez_5 (iv_cmp _ _)
      refine lv_if_ne (tgt := 66) hx hb dX13_is_59 (by decide) (fun c_6 => ?_) (fun c_6 => ?_)
      · have d_7 : ¬ (z_5 : Int32).toInt = 0 := lv_neT c_6 rfl
        exact hj66 x6_46 x4_46 x3_46 hx6_46 (iv_w h_3 (by decide)) hsx1_46 hsx2_46 _ _ _ hP hD hS (lv_sub hl [0, 1, 2, 3, 4, 5] rfl)
      · have h_8 : iv 0 0 z_5 := iv_eq c_6 hz_5 (iv_k (by decide) : iv 0 0 0) (by decide)
        refine lv_iconst (v := 1) hx hb dX13_is_62 (by decide) ?_
        refine lv_goto (tgt := 67) hx hb dX13_is_63 (by decide) ?_
        exact hj67 x6_46 x4_46 x3_46 1 hx6_46 (iv_w h_3 (by decide)) hsx1_46 hsx2_46 (iv_w (iv_k (by decide) : iv 1 1 1) (by decide)) _ _ _ hP hD hS (lv_sub hl [0, 1, 2, 3, 4, 5] rfl)
  have hj12 : ∀ (n : Nat) (x6_12 : Int32) (x4_12 : Int64) (x3_12 : Int32) (_ : (24 - x6_12.toInt).toNat = n) (_ : iv 0 24 x6_12) (_ : iv 0 24 x3_12) (_ : iv 0 1079 x) (_ : iv 0 10 w) (H : Heap) (locs : List Loc) (ls : Array Slot), va_P (dC, dI) vwCl (mW h0 ad cid sg gm lg) H → va_D A (mW h0 ad cid sg gm lg) → va_S A s.heap H locs → lv_has ls 7 [(6, .int x6_12), (4, .long x4_12), (3, .int x3_12), (0, .ref h0), (1, .int x), (2, .int w)] → W p l e (headSpec wm_X13_is ({ frames := 1, cells := 0, slots := 0, locals := 22 })).room s m ([.ref h0, .int x, .int w] : List Value).toArray below meth c H locs 0 0 (MQ below (va_Qi (fun r v => (iv 0 1 r) ∧ v = (sg, gm, lg)) (MB dC dI h0 ad cid A) A) ([.ref h0, .int x, .int w] : List Value).toArray s 0 0 A) (F0 m 12 ls []) := by
    intro n
    induction n using Nat.strongRecOn with
    | ind n ih12 =>
      intro x6_12 x4_12 x3_12 hn12 hx6_12 hx3_12 hsx1_12 hsx2_12 H locs ls hP hD hS hl
      refine lv_iload hx hb dX13_is_12 (lv_at hl 0 rfl) ?_
      refine lv_iload_n hx hb dX13_is_14 rfl (lv_at hl 2 rfl) ?_
      refine lv_icmp_ge (tgt := 46) hx hb dX13_is_15 (by decide) (fun c_9 => ?_) (fun c_9 => ?_)
      · have d_10 : (x3_12 : Int32).toInt ≤ (x6_12 : Int32).toInt := Int32.le_iff_toInt_le.mp c_9
        exact hj46 x6_12 x4_12 x3_12 hx6_12 hx3_12 hsx1_12 hsx2_12 _ _ _ hP hD hS (lv_sub hl [0, 1, 2, 3, 4, 5] rfl)
      · have d_11 : (x6_12 : Int32).toInt < (x3_12 : Int32).toInt := Int32.lt_iff_toInt_lt.mp (i32_lt c_9)
        have h_12 : iv 0 23 x6_12 := iv_ltL (i32_lt c_9) hx6_12 hx3_12 (by decide)
        have h_13 : iv 1 24 x3_12 := iv_ltR (i32_lt c_9) hx6_12 hx3_12 (by decide)
        refine lv_iload_n hx hb dX13_is_18 rfl (lv_at hl 2 rfl) ?_
        refine lv_bipush (v := 8) hx hb dX13_is_19 (by decide) ?_
        refine lv_icmp_ge (tgt := 46) hx hb dX13_is_21 (by decide) (fun c_14 => ?_) (fun c_14 => ?_)
        · have h_15 : iv 8 24 x3_12 := iv_leR c_14 (iv_k (by decide) : iv 8 8 8) h_13 (by decide)
          exact hj46 x6_12 x4_12 x3_12 (iv_w h_12 (by decide)) (iv_w h_15 (by decide)) hsx1_12 hsx2_12 _ _ _ hP hD hS (lv_sub hl [0, 1, 2, 3, 4, 5] rfl)
        · have h_16 : iv 1 7 x3_12 := iv_ltL (i32_lt c_14) h_13 (iv_k (by decide) : iv 8 8 8) (by decide)
          refine lv_lload hx hb dX13_is_24 (lv_at hl 1 rfl) ?_
          refine lv_bipush (v := 8) hx hb dX13_is_26 (by decide) ?_
          refine lv_lshl (v := x4_12 <<< ((8 : Int32).toInt64 &&& 63)) hx hb dX13_is_28 rfl ?_
          refine lv_topl (fun z_17 ez_17 => ?_)
          refine lv_aload_n hx hb dX13_is_29 rfl (lv_at hl 3 rfl) ?_
          refine lv_iload_n hx hb dX13_is_30 rfl (lv_at hl 4 rfl) ?_
          refine lv_iload hx hb dX13_is_31 (lv_at hl 0 rfl) ?_
          refine mr_calli (rest := [.long z_17]) ⟨hx, hb, hml, hown, htb⟩ (a_sign l dC dI h0 ad cid sg gm lg x x6_12 hI hsx1_12 h_12 hsv) (cwV 2 htb (gd_V kw_1239 kw_1240 kw_1241 kw_5 kw_1628) rfl rfl rfl (by decide +kernel) ⟨Nat.le_of_ble_eq_true rfl, Nat.le_of_ble_eq_true rfl⟩) rfl hl.1 rfl (Nat.le_of_ble_eq_true rfl) dX13_is_33 ⟨Nat.zero_le _, Nat.zero_le _⟩ hK hP hD hS hA (fun r_18 u_19 H locs hw hP hD hS => ?_)
          obtain ⟨hr_18, rfl⟩ := hw
          have hP : va_P (dC, dI) vwCl (mW h0 ad cid sg gm lg) H := hP
          have hD : va_D A (mW h0 ad cid sg gm lg) := hD
          refine lv_i2l (v := (r_18 : Int32).toInt64) hx hb dX13_is_36 rfl ?_
          refine lv_topl (fun z_20 ez_20 => ?_)
          refine lv_lor hx hb dX13_is_37 ?_
          refine lv_topl (fun z_21 ez_21 => ?_)
          refine lv_lstore (lv' := [(4, .long z_21), (6, .int x6_12), (3, .int x3_12), (0, .ref h0), (1, .int x), (2, .int w)]) hx hb dX13_is_38 hl (by decide) rfl (fun ls hl => ?_)
          obtain ⟨z_22, ez_22⟩ : ∃ z : Int32, z = x6_12 + 1 := ⟨_, rfl⟩
          have hz_22 : iv 1 24 z_22 := iv_of ez_22 (iv_add h_12 (iv_k (by decide) : iv 1 1 1) (by decide))
          have tz_22 : z_22.toInt = x6_12.toInt + 1 := by rw [ez_22]; exact iv_addE h_12 (iv_k (by decide) : iv 1 1 1) (by decide)
          refine lv_iinc (v := z_22) (lv' := [(6, .int z_22), (4, .long z_21), (3, .int x3_12), (0, .ref h0), (1, .int x), (2, .int w)]) hx hb dX13_is_40 hl (k := 1) rfl ez_22.symm (by decide) rfl (fun ls hl => ?_)
          refine lv_goto (tgt := 12) hx hb dX13_is_43 (by decide) ?_
          exact ih12 _ (by rw [← hn12]; exact (iv_meas tz_22 h_12 (by decide))) z_22 z_21 x3_12 rfl (iv_w hz_22 (by decide)) (iv_w h_16 (by decide)) hsx1_12 hsx2_12 _ _ _ hP hD hS (lv_sub hl [0, 1, 2, 3, 4, 5] rfl)
  refine lv_aload_n hx hb dX13_is_0 rfl (lv_at hl 0 rfl) ?_
  refine lv_iload_n hx hb dX13_is_1 rfl (lv_at hl 1 rfl) ?_
  refine mr_calli (rest := []) ⟨hx, hb, hml, hown, htb⟩ (a_length l dC dI h0 ad cid sg gm lg x hI hvx hsv) (cwV 1 htb (gd_V kw_1236 kw_1237 kw_1238 kw_5 kw_1627) rfl rfl rfl (by decide +kernel) ⟨Nat.le_of_ble_eq_true rfl, Nat.le_of_ble_eq_true rfl⟩) rfl hl.1 rfl (Nat.le_of_ble_eq_true rfl) dX13_is_2 ⟨Nat.zero_le _, Nat.zero_le _⟩ hK hP hD hS hA (fun r_23 u_24 H locs hw hP hD hS => ?_)
  obtain ⟨hr_23, rfl⟩ := hw
  have hP : va_P (dC, dI) vwCl (mW h0 ad cid sg gm lg) H := hP
  have hD : va_D A (mW h0 ad cid sg gm lg) := hD
  refine lv_istore_n (lv' := [(3, .int r_23), (0, .ref h0), (1, .int x), (2, .int w)]) hx hb dX13_is_5 rfl hl (by decide) rfl (fun ls hl => ?_)
  refine lv_lconst (v := 0) hx hb dX13_is_6 (by decide) ?_
  refine lv_lstore (lv' := [(4, .long 0), (3, .int r_23), (0, .ref h0), (1, .int x), (2, .int w)]) hx hb dX13_is_7 hl (by decide) rfl (fun ls hl => ?_)
  refine lv_iconst (v := 0) hx hb dX13_is_9 (by decide) ?_
  refine lv_istore (lv' := [(6, .int 0), (4, .long 0), (3, .int r_23), (0, .ref h0), (1, .int x), (2, .int w)]) hx hb dX13_is_10 hl (by decide) rfl (fun ls hl => ?_)
  exact hj12 _ 0 0 r_23 rfl (iv_w (iv_k (by decide) : iv 0 0 0) (by decide)) hr_23 hvx hvw _ _ _ hP hD hS (lv_sub hl [0, 1, 2, 3, 4, 5] rfl)

set_option maxHeartbeats 4000000 in
set_option maxRecDepth 100000 in
theorem a_weight (l : Launch) (dC : Nat → ClassId) (dI : Nat → Nat → Nat) (h0 : Nat) (ad : Nat → Nat) (cid : Nat → ClassId) (sg : Nat → Int32) (gm : Nat → Nat → Int32) (lg : Nat → Nat → Int64) (kd : Int32) (vl : Int32) (ty : Int32) (hI : MI sg gm) (hvkd : iv 0 3 kd) (hvvl : iv 0 1079 vl) (hvo : vok kd vl) (hPR : PR gm) : MMi l dC dI yX13_weight wm_X13_weight ({ frames := 2, cells := 0, slots := 0, locals := 49 }) h0 ad cid [.int kd, .int vl, .int ty] sg gm lg (fun r v => v = (sg, gm, lg)) := by
  intro sz
  refine Met.ofW (cc := cX13_weight) (maxL := 6) (ret := (some .int)) (by decide) rfl ?_
  intro p e s m args below meth c s₁ B hml hv
  obtain ⟨rfl, hsz, hP, hK, hD0⟩ := hv
  have hx := B.exec
  have hb := B.bytes
  have hr := B.returns
  have hts := atoms_spec (ws := wm_X13_weight) B.pre
  have htb := fun (w : Cond) (h : w ∈ tb) => hts w (List.mem_cons_of_mem _ h)
  have hown : s.vm.findClass RX13 = some m.cls := findClass_of_methodNamed B.named
  have hlocks := B.notSynchronized
  subst hsz
  have hD := hD0.self (sz := s.heap.size)
  generalize hAe : va_A (mW h0 ad cid sg gm lg) s.heap.size = A at hD ⊢
  have hA : ∀ q : Nat, s.heap.size ≤ q → A q := fun q h => by rw [← hAe]; exact Or.inr h
  have hS : va_S A s.heap s.heap [] := va_S.rf
  have hl := lv_entry ([.ref h0, .int kd, .int vl, .int ty]) (n := 6) (Nat.le_of_ble_eq_true rfl)
  rw [lg_entry_eq]
  generalize (lg_sl ([.ref h0, .int kd, .int vl, .int ty]) ++ List.replicate (6 - (lg_sl ([.ref h0, .int kd, .int vl, .int ty])).length) Slot.unset).toArray = ls at hl ⊢
  have hl : lv_has ls 6 [(0, .ref h0), (1, .int kd), (2, .int vl), (3, .int ty)] := hl
  have hj145 : ∀ (y0_145 : Int32) (_ : iv 0 2 kd) (_ : iv 0 1079 vl) (_ : iv 0 0 ty) (_ : iv (-1) 1 y0_145) (H : Heap) (locs : List Loc) (ls : Array Slot), va_P (dC, dI) vwCl (mW h0 ad cid sg gm lg) H → va_D A (mW h0 ad cid sg gm lg) → va_S A s.heap H locs → lv_has ls 6 [(0, .ref h0), (1, .int kd), (2, .int vl), (3, .int ty)] → W p l e (headSpec wm_X13_weight ({ frames := 2, cells := 0, slots := 0, locals := 49 })).room s m ([.ref h0, .int kd, .int vl, .int ty] : List Value).toArray below meth c H locs 0 0 (MQ below (va_Qi (fun r v => v = (sg, gm, lg)) (MB dC dI h0 ad cid A) A) ([.ref h0, .int kd, .int vl, .int ty] : List Value).toArray s 0 0 A) (F0 m 145 ls [.int y0_145]) := by
    intro y0_145 hsx1_145 hsx2_145 hsx3_145 hy0_145 H locs ls hP hD hS hl
    exact W.iret (v := y0_145) hx hb hr (fun t ht hW => ⟨⟨y0_145, (sg, gm, lg), rfl, rfl, by rw [ht]; exact hP, va_K.moved hW.alike hK, hD⟩, hS.F ht⟩) hS.2.2 dX13_weight_145
  have hj171 : ∀ (y0_171 : Int32) (_ : iv 0 2 kd) (_ : iv 0 1079 vl) (_ : iv 1 1 ty) (_ : iv (-1) 1 y0_171) (H : Heap) (locs : List Loc) (ls : Array Slot), va_P (dC, dI) vwCl (mW h0 ad cid sg gm lg) H → va_D A (mW h0 ad cid sg gm lg) → va_S A s.heap H locs → lv_has ls 6 [(0, .ref h0), (1, .int kd), (2, .int vl), (3, .int ty)] → W p l e (headSpec wm_X13_weight ({ frames := 2, cells := 0, slots := 0, locals := 49 })).room s m ([.ref h0, .int kd, .int vl, .int ty] : List Value).toArray below meth c H locs 0 0 (MQ below (va_Qi (fun r v => v = (sg, gm, lg)) (MB dC dI h0 ad cid A) A) ([.ref h0, .int kd, .int vl, .int ty] : List Value).toArray s 0 0 A) (F0 m 171 ls [.int y0_171]) := by
    intro y0_171 hsx1_171 hsx2_171 hsx3_171 hy0_171 H locs ls hP hD hS hl
    exact W.iret (v := y0_171) hx hb hr (fun t ht hW => ⟨⟨y0_171, (sg, gm, lg), rfl, rfl, by rw [ht]; exact hP, va_K.moved hW.alike hK, hD⟩, hS.F ht⟩) hS.2.2 dX13_weight_171
  have hj166 : ∀ (_ : iv 0 2 kd) (_ : iv 0 1079 vl) (_ : iv 1 1 ty) (H : Heap) (locs : List Loc) (ls : Array Slot), va_P (dC, dI) vwCl (mW h0 ad cid sg gm lg) H → va_D A (mW h0 ad cid sg gm lg) → va_S A s.heap H locs → lv_has ls 6 [(0, .ref h0), (1, .int kd), (2, .int vl), (3, .int ty)] → W p l e (headSpec wm_X13_weight ({ frames := 2, cells := 0, slots := 0, locals := 49 })).room s m ([.ref h0, .int kd, .int vl, .int ty] : List Value).toArray below meth c H locs 0 0 (MQ below (va_Qi (fun r v => v = (sg, gm, lg)) (MB dC dI h0 ad cid A) A) ([.ref h0, .int kd, .int vl, .int ty] : List Value).toArray s 0 0 A) (F0 m 166 ls []) := by
    intro  hsx1_166 hsx2_166 hsx3_166 H locs ls hP hD hS hl
    refine lv_iconst (v := 1) hx hb dX13_weight_166 (by decide) ?_
    refine lv_goto (tgt := 171) hx hb dX13_weight_167 (by decide) ?_
    exact hj171 1 hsx1_166 hsx2_166 hsx3_166 (iv_w (iv_k (by decide) : iv 1 1 1) (by decide)) _ _ _ hP hD hS (lv_sub hl [0, 1, 2, 3] rfl)
  have hj186 : ∀ (y0_186 : Int32) (_ : iv 0 2 kd) (_ : iv 0 1079 vl) (_ : iv 2 2 ty) (_ : iv (-1) 2 y0_186) (H : Heap) (locs : List Loc) (ls : Array Slot), va_P (dC, dI) vwCl (mW h0 ad cid sg gm lg) H → va_D A (mW h0 ad cid sg gm lg) → va_S A s.heap H locs → lv_has ls 6 [(0, .ref h0), (1, .int kd), (2, .int vl), (3, .int ty)] → W p l e (headSpec wm_X13_weight ({ frames := 2, cells := 0, slots := 0, locals := 49 })).room s m ([.ref h0, .int kd, .int vl, .int ty] : List Value).toArray below meth c H locs 0 0 (MQ below (va_Qi (fun r v => v = (sg, gm, lg)) (MB dC dI h0 ad cid A) A) ([.ref h0, .int kd, .int vl, .int ty] : List Value).toArray s 0 0 A) (F0 m 186 ls [.int y0_186]) := by
    intro y0_186 hsx1_186 hsx2_186 hsx3_186 hy0_186 H locs ls hP hD hS hl
    exact W.iret (v := y0_186) hx hb hr (fun t ht hW => ⟨⟨y0_186, (sg, gm, lg), rfl, rfl, by rw [ht]; exact hP, va_K.moved hW.alike hK, hD⟩, hS.F ht⟩) hS.2.2 dX13_weight_186
  have hj59 : ∀ (n : Nat) (x5_59 : Int32) (x4_59 : Int32) (_ : (x5_59.toInt + 1).toNat = n) (_ : iv (-1) 7 x5_59) (_ : iv 1 1 kd) (_ : iv 0 59 vl) (H : Heap) (locs : List Loc) (ls : Array Slot), va_P (dC, dI) vwCl (mW h0 ad cid sg gm lg) H → va_D A (mW h0 ad cid sg gm lg) → va_S A s.heap H locs → lv_has ls 6 [(5, .int x5_59), (4, .int x4_59), (0, .ref h0), (1, .int kd), (2, .int vl), (3, .int ty)] → W p l e (headSpec wm_X13_weight ({ frames := 2, cells := 0, slots := 0, locals := 49 })).room s m ([.ref h0, .int kd, .int vl, .int ty] : List Value).toArray below meth c H locs 0 0 (MQ below (va_Qi (fun r v => v = (sg, gm, lg)) (MB dC dI h0 ad cid A) A) ([.ref h0, .int kd, .int vl, .int ty] : List Value).toArray s 0 0 A) (F0 m 59 ls []) := by
    intro n
    induction n using Nat.strongRecOn with
    | ind n ih59 =>
      intro x5_59 x4_59 hn59 hx5_59 hsx1_59 hsx2_59 H locs ls hP hD hS hl
      refine lv_iload hx hb dX13_weight_59 (lv_at hl 0 rfl) ?_
      refine lv_iconst (v := (-1)) hx hb dX13_weight_61 (by decide) ?_
      refine lv_icmp_eq (tgt := 94) hx hb dX13_weight_62 (by decide) (fun c_1 => ?_) (fun c_1 => ?_)
      · have h_2 : iv (-1) (-1) x5_59 := iv_eq c_1 hx5_59 (iv_k (by decide) : iv (-1) (-1) (-1)) (by decide)
        refine lv_iconst (v := (-1)) hx hb dX13_weight_94 (by decide) ?_
        exact W.iret (v := (-1)) hx hb hr (fun t ht hW => ⟨⟨(-1), (sg, gm, lg), rfl, rfl, by rw [ht]; exact hP, va_K.moved hW.alike hK, hD⟩, hS.F ht⟩) hS.2.2 dX13_weight_95
      · have h_3 : iv 0 7 x5_59 := iv_neL c_1 hx5_59 (by decide)
        refine lv_iload_n hx hb dX13_weight_65 rfl (lv_at hl 5 rfl) ?_
        refine lv_bipush (v := 8) hx hb dX13_weight_66 (by decide) ?_
        refine lv_iload hx hb dX13_weight_68 (lv_at hl 0 rfl) ?_
        refine lv_iadd hx hb dX13_weight_70 ?_
        refine lv_topi (fun z_4 ez_4 => ?_)
        have hz_4 : iv 8 15 z_4 := iv_of ez_4 (iv_add (iv_k (by decide) : iv 8 8 8) h_3 (by decide))
        have tz_4 : z_4.toInt = 8 + (x5_59 : Int32).toInt := by rw [ez_4]; exact iv_addE (iv_k (by decide) : iv 8 8 8) h_3 (by decide)
        refine lv_icmp_ne (tgt := 79) hx hb dX13_weight_71 (by decide) (fun c_5 => ?_) (fun c_5 => ?_)
        · obtain ⟨z_6, ez_6⟩ : ∃ z : Int32, z = x4_59 + 1 := ⟨_, rfl⟩
          refine lv_iinc (v := z_6) (lv' := [(4, .int z_6), (5, .int x5_59), (0, .ref h0), (1, .int kd), (2, .int vl), (3, .int ty)]) hx hb dX13_weight_79 hl (k := 1) rfl ez_6.symm (by decide) rfl (fun ls hl => ?_)
          refine lv_aload_n hx hb dX13_weight_82 rfl (lv_at hl 2 rfl) ?_
          refine mr_get (v := .ref (ad 6)) hx hb htb inX13 hown hK hP 6 (by decide) (htb _ kw_165) rfl dX13_weight_83 ?_
          refine lv_iload hx hb dX13_weight_86 (lv_at hl 1 rfl) ?_
          refine mr_iald hx hb hK hP 5 (k := 6) rfl rfl rfl (show vp_in x5_59 8 from (iv_in h_3 (by decide))) dX13_weight_88 ?_
          refine lv_topi (fun z_7 ez_7 => ?_)
          have hz_7 : iv (-1) 7 z_7 := iv_of ez_7 (MI_a hI 6 h_3 (by decide))
          refine lv_istore (lv' := [(5, .int z_7), (4, .int z_6), (0, .ref h0), (1, .int kd), (2, .int vl), (3, .int ty)]) hx hb dX13_weight_89 hl (by decide) rfl (fun ls hl => ?_)
          refine lv_goto (tgt := 59) hx hb dX13_weight_91 (by decide) ?_
          exact ih59 _ (by rw [← hn59]; exact (PR_dec hPR h_3 ez_7)) z_7 z_6 rfl hz_7 hsx1_59 hsx2_59 _ _ _ hP hD hS (lv_sub hl [0, 1, 2, 3, 4, 5] rfl)
        · have d_8 : (ty : Int32).toInt = (z_4 : Int32).toInt := congrArg Int32.toInt c_5
          have h_9 : iv 8 15 ty := iv_eq c_5 (iv_all ty) hz_4 (by decide)
          refine lv_iconst (v := 2) hx hb dX13_weight_74 (by decide) ?_
          refine lv_iload hx hb dX13_weight_75 (lv_at hl 1 rfl) ?_
          refine lv_imul hx hb dX13_weight_77 ?_
          refine lv_topi (fun z_10 ez_10 => ?_)
          exact W.iret (v := z_10) hx hb hr (fun t ht hW => ⟨⟨z_10, (sg, gm, lg), rfl, rfl, by rw [ht]; exact hP, va_K.moved hW.alike hK, hD⟩, hS.F ht⟩) hS.2.2 dX13_weight_78
  have hj42 : ∀ (y0_42 : Int32) (_ : iv 3 3 kd) (_ : iv 0 1079 vl) (_ : iv (-1) 0 y0_42) (H : Heap) (locs : List Loc) (ls : Array Slot), va_P (dC, dI) vwCl (mW h0 ad cid sg gm lg) H → va_D A (mW h0 ad cid sg gm lg) → va_S A s.heap H locs → lv_has ls 6 [(0, .ref h0), (1, .int kd), (2, .int vl), (3, .int ty)] → W p l e (headSpec wm_X13_weight ({ frames := 2, cells := 0, slots := 0, locals := 49 })).room s m ([.ref h0, .int kd, .int vl, .int ty] : List Value).toArray below meth c H locs 0 0 (MQ below (va_Qi (fun r v => v = (sg, gm, lg)) (MB dC dI h0 ad cid A) A) ([.ref h0, .int kd, .int vl, .int ty] : List Value).toArray s 0 0 A) (F0 m 42 ls [.int y0_42]) := by
    intro y0_42 hsx1_42 hsx2_42 hy0_42 H locs ls hP hD hS hl
    exact W.iret (v := y0_42) hx hb hr (fun t ht hW => ⟨⟨y0_42, (sg, gm, lg), rfl, rfl, by rw [ht]; exact hP, va_K.moved hW.alike hK, hD⟩, hS.F ht⟩) hS.2.2 dX13_weight_42
  have hj26 : ∀ (y0_26 : Int32) (_ : iv 2 2 kd) (_ : iv 0 1079 vl) (_ : iv (-1) 0 y0_26) (H : Heap) (locs : List Loc) (ls : Array Slot), va_P (dC, dI) vwCl (mW h0 ad cid sg gm lg) H → va_D A (mW h0 ad cid sg gm lg) → va_S A s.heap H locs → lv_has ls 6 [(0, .ref h0), (1, .int kd), (2, .int vl), (3, .int ty)] → W p l e (headSpec wm_X13_weight ({ frames := 2, cells := 0, slots := 0, locals := 49 })).room s m ([.ref h0, .int kd, .int vl, .int ty] : List Value).toArray below meth c H locs 0 0 (MQ below (va_Qi (fun r v => v = (sg, gm, lg)) (MB dC dI h0 ad cid A) A) ([.ref h0, .int kd, .int vl, .int ty] : List Value).toArray s 0 0 A) (F0 m 26 ls [.int y0_26]) := by
    intro y0_26 hsx1_26 hsx2_26 hy0_26 H locs ls hP hD hS hl
    exact W.iret (v := y0_26) hx hb hr (fun t ht hW => ⟨⟨y0_26, (sg, gm, lg), rfl, rfl, by rw [ht]; exact hP, va_K.moved hW.alike hK, hD⟩, hS.F ht⟩) hS.2.2 dX13_weight_26
  have hj21 : ∀ (_ : iv 2 2 kd) (_ : iv 0 1079 vl) (_ : iv 3 2147483647 ty) (H : Heap) (locs : List Loc) (ls : Array Slot), va_P (dC, dI) vwCl (mW h0 ad cid sg gm lg) H → va_D A (mW h0 ad cid sg gm lg) → va_S A s.heap H locs → lv_has ls 6 [(0, .ref h0), (1, .int kd), (2, .int vl), (3, .int ty)] → W p l e (headSpec wm_X13_weight ({ frames := 2, cells := 0, slots := 0, locals := 49 })).room s m ([.ref h0, .int kd, .int vl, .int ty] : List Value).toArray below meth c H locs 0 0 (MQ below (va_Qi (fun r v => v = (sg, gm, lg)) (MB dC dI h0 ad cid A) A) ([.ref h0, .int kd, .int vl, .int ty] : List Value).toArray s 0 0 A) (F0 m 21 ls []) := by
    intro  hsx1_21 hsx2_21 hsx3_21 H locs ls hP hD hS hl
    refine lv_iconst (v := 0) hx hb dX13_weight_21 (by decide) ?_
    refine lv_goto (tgt := 26) hx hb dX13_weight_22 (by decide) ?_
    exact hj26 0 hsx1_21 hsx2_21 (iv_w (iv_k (by decide) : iv 0 0 0) (by decide)) _ _ _ hP hD hS (lv_sub hl [0, 1, 2, 3] rfl)
  refine lv_iload_n hx hb dX13_weight_0 rfl (lv_at hl 1 rfl) ?_
  refine lv_iconst (v := 2) hx hb dX13_weight_1 (by decide) ?_
  refine lv_icmp_ne (tgt := 27) hx hb dX13_weight_2 (by decide) (fun c_11 => ?_) (fun c_11 => ?_)
  · have d_12 : ¬ (kd : Int32).toInt = 2 := lv_neT c_11 rfl
    refine lv_iload_n hx hb dX13_weight_27 rfl (lv_at hl 1 rfl) ?_
    refine lv_iconst (v := 3) hx hb dX13_weight_28 (by decide) ?_
    refine lv_icmp_ne (tgt := 43) hx hb dX13_weight_29 (by decide) (fun c_13 => ?_) (fun c_13 => ?_)
    · have h_14 : iv 0 2 kd := iv_neH c_13 hvkd (by decide)
      refine lv_iload_n hx hb dX13_weight_43 rfl (lv_at hl 1 rfl) ?_
      refine lv_iconst (v := 1) hx hb dX13_weight_44 (by decide) ?_
      refine lv_icmp_ne (tgt := 96) hx hb dX13_weight_45 (by decide) (fun c_15 => ?_) (fun c_15 => ?_)
      · have d_16 : ¬ (kd : Int32).toInt = 1 := lv_neT c_15 rfl
        refine lv_iload_n hx hb dX13_weight_96 rfl (lv_at hl 3 rfl) ?_
        by_cases c_17 : (ty : Int32).toInt = 0
        · refine lv_tableIn (tgt := 128) hx hb dX13_weight_97 (by rw [c_17]; decide) (by rw [c_17]; decide) (by rw [c_17]; rfl) (by decide) ?_
          have h_18 : iv 0 0 ty := iv_at c_17
          refine lv_aload_n hx hb dX13_weight_128 rfl (lv_at hl 0 rfl) ?_
          refine lv_iload_n hx hb dX13_weight_129 rfl (lv_at hl 2 rfl) ?_
          refine mr_calll (rest := []) ⟨hx, hb, hml, hown, htb⟩ (a_numberIn l dC dI h0 ad cid sg gm lg vl hI hvvl (hvo.2.1 (by have := i32_0; have := i32_1; have := i32_2; have := i32_m1; have := (h_14).1; have := (h_14).2; have := (hvvl).1; have := (hvvl).2; have := (h_18).1; have := (h_18).2; omega))) (cwV 1 htb (gd_V kw_1230 kw_1231 kw_1232 kw_5 kw_1626) rfl rfl rfl (by decide +kernel) ⟨Nat.le_of_ble_eq_true rfl, Nat.le_of_ble_eq_true rfl⟩) rfl hl.1 rfl (Nat.le_of_ble_eq_true rfl) dX13_weight_130 ⟨Nat.zero_le _, Nat.zero_le _⟩ hK hP hD hS hA (fun r_19 u_20 H locs hw hP hD hS => ?_)
          obtain rfl := hw
          have hP : va_P (dC, dI) vwCl (mW h0 ad cid sg gm lg) H := hP
          have hD : va_D A (mW h0 ad cid sg gm lg) := hD
          refine lv_ldc2 (own := RX13) (v := (-9000000000000000000)) hx hb hown (htb _ kw_1229) dX13_weight_133 ?_
          refine W.lcmp hx hb dX13_weight_136 ?_
          refine lv_topi (fun z_21 ez_21 => ?_)
          have hz_21 : iv (-1) 1 z_21 := iv_of ez_21 (iv_cmp _ _)
          refine lv_if_ne (tgt := 144) hx hb dX13_weight_137 (by decide) (fun c_22 => ?_) (fun c_22 => ?_)
          · have d_23 : ¬ (z_21 : Int32).toInt = 0 := lv_neT c_22 rfl
            refine lv_iconst (v := 1) hx hb dX13_weight_144 (by decide) ?_
            exact hj145 1 h_14 hvvl h_18 (iv_w (iv_k (by decide) : iv 1 1 1) (by decide)) _ _ _ hP hD hS (lv_sub hl [0, 1, 2, 3] rfl)
          · have h_24 : iv 0 0 z_21 := iv_eq c_22 hz_21 (iv_k (by decide) : iv 0 0 0) (by decide)
            refine lv_iconst (v := (-1)) hx hb dX13_weight_140 (by decide) ?_
            refine lv_goto (tgt := 145) hx hb dX13_weight_141 (by decide) ?_
            exact hj145 (-1) h_14 hvvl h_18 (iv_w (iv_k (by decide) : iv (-1) (-1) (-1)) (by decide)) _ _ _ hP hD hS (lv_sub hl [0, 1, 2, 3] rfl)
        by_cases c_25 : (ty : Int32).toInt = 1
        · refine lv_tableIn (tgt := 146) hx hb dX13_weight_97 (by rw [c_25]; decide) (by rw [c_25]; decide) (by rw [c_25]; rfl) (by decide) ?_
          have h_26 : iv 1 1 ty := iv_at c_25
          refine lv_aload_n hx hb dX13_weight_146 rfl (lv_at hl 0 rfl) ?_
          refine lv_iload_n hx hb dX13_weight_147 rfl (lv_at hl 2 rfl) ?_
          refine lv_bipush (v := 9) hx hb dX13_weight_148 (by decide) ?_
          refine mr_calli (rest := []) ⟨hx, hb, hml, hown, htb⟩ (a_is l dC dI h0 ad cid sg gm lg vl 9 hI hvvl (iv_w (iv_k (by decide) : iv 9 9 9) (by decide)) (hvo.2.1 (by have := i32_0; have := i32_1; have := i32_2; have := i32_m1; have := (h_14).1; have := (h_14).2; have := (hvvl).1; have := (hvvl).2; have := (h_26).1; have := (h_26).2; omega))) (cwV 2 htb (gd_V kw_1242 kw_1243 kw_1244 kw_5 kw_1629) rfl rfl rfl (by decide +kernel) ⟨Nat.le_of_ble_eq_true rfl, Nat.le_of_ble_eq_true rfl⟩) rfl hl.1 rfl (Nat.le_of_ble_eq_true rfl) dX13_weight_150 ⟨Nat.zero_le _, Nat.zero_le _⟩ hK hP hD hS hA (fun r_27 u_28 H locs hw hP hD hS => ?_)
          obtain ⟨hr_27, rfl⟩ := hw
          have hP : va_P (dC, dI) vwCl (mW h0 ad cid sg gm lg) H := hP
          have hD : va_D A (mW h0 ad cid sg gm lg) := hD
          refine lv_if_ne (tgt := 166) hx hb dX13_weight_153 (by decide) (fun c_29 => ?_) (fun c_29 => ?_)
          · have h_30 : iv 1 1 r_27 := iv_neL c_29 hr_27 (by decide)
            exact hj166 h_14 hvvl h_26 _ _ _ hP hD hS (lv_sub hl [0, 1, 2, 3] rfl)
          · have h_31 : iv 0 0 r_27 := iv_eq c_29 hr_27 (iv_k (by decide) : iv 0 0 0) (by decide)
            refine lv_aload_n hx hb dX13_weight_156 rfl (lv_at hl 0 rfl) ?_
            refine lv_iload_n hx hb dX13_weight_157 rfl (lv_at hl 2 rfl) ?_
            refine lv_bipush (v := 10) hx hb dX13_weight_158 (by decide) ?_
            refine mr_calli (rest := []) ⟨hx, hb, hml, hown, htb⟩ (a_is l dC dI h0 ad cid sg gm lg vl 10 hI hvvl (iv_w (iv_k (by decide) : iv 10 10 10) (by decide)) (hvo.2.1 (by have := i32_0; have := i32_1; have := i32_2; have := i32_m1; have := (h_14).1; have := (h_14).2; have := (hvvl).1; have := (hvvl).2; have := (h_26).1; have := (h_26).2; have := (h_31).1; have := (h_31).2; omega))) (cwV 2 htb (gd_V kw_1242 kw_1243 kw_1244 kw_5 kw_1629) rfl rfl rfl (by decide +kernel) ⟨Nat.le_of_ble_eq_true rfl, Nat.le_of_ble_eq_true rfl⟩) rfl hl.1 rfl (Nat.le_of_ble_eq_true rfl) dX13_weight_160 ⟨Nat.zero_le _, Nat.zero_le _⟩ hK hP hD hS hA (fun r_32 u_33 H locs hw hP hD hS => ?_)
            obtain ⟨hr_32, rfl⟩ := hw
            have hP : va_P (dC, dI) vwCl (mW h0 ad cid sg gm lg) H := hP
            have hD : va_D A (mW h0 ad cid sg gm lg) := hD
            refine lv_if_eq (tgt := 170) hx hb dX13_weight_163 (by decide) (fun c_34 => ?_) (fun c_34 => ?_)
            · have h_35 : iv 0 0 r_32 := iv_eq c_34 hr_32 (iv_k (by decide) : iv 0 0 0) (by decide)
              refine lv_iconst (v := (-1)) hx hb dX13_weight_170 (by decide) ?_
              exact hj171 (-1) h_14 hvvl h_26 (iv_w (iv_k (by decide) : iv (-1) (-1) (-1)) (by decide)) _ _ _ hP hD hS (lv_sub hl [0, 1, 2, 3] rfl)
            · have h_36 : iv 1 1 r_32 := iv_neL c_34 hr_32 (by decide)
              exact hj166 h_14 hvvl h_26 _ _ _ hP hD hS (lv_sub hl [0, 1, 2, 3] rfl)
        by_cases c_37 : (ty : Int32).toInt = 2
        · refine lv_tableIn (tgt := 172) hx hb dX13_weight_97 (by rw [c_37]; decide) (by rw [c_37]; decide) (by rw [c_37]; rfl) (by decide) ?_
          have h_38 : iv 2 2 ty := iv_at c_37
          refine lv_aload_n hx hb dX13_weight_172 rfl (lv_at hl 0 rfl) ?_
          refine lv_iload_n hx hb dX13_weight_173 rfl (lv_at hl 2 rfl) ?_
          refine mr_calli (rest := []) ⟨hx, hb, hml, hown, htb⟩ (a_length l dC dI h0 ad cid sg gm lg vl hI hvvl (hvo.2.1 (by have := i32_0; have := i32_1; have := i32_2; have := i32_m1; have := (h_14).1; have := (h_14).2; have := (hvvl).1; have := (hvvl).2; have := (h_38).1; have := (h_38).2; omega))) (cwV 1 htb (gd_V kw_1236 kw_1237 kw_1238 kw_5 kw_1627) rfl rfl rfl (by decide +kernel) ⟨Nat.le_of_ble_eq_true rfl, Nat.le_of_ble_eq_true rfl⟩) rfl hl.1 rfl (Nat.le_of_ble_eq_true rfl) dX13_weight_174 ⟨Nat.zero_le _, Nat.zero_le _⟩ hK hP hD hS hA (fun r_39 u_40 H locs hw hP hD hS => ?_)
          obtain ⟨hr_39, rfl⟩ := hw
          have hP : va_P (dC, dI) vwCl (mW h0 ad cid sg gm lg) H := hP
          have hD : va_D A (mW h0 ad cid sg gm lg) := hD
          refine lv_iconst (v := 1) hx hb dX13_weight_177 (by decide) ?_
          refine lv_icmp_ne (tgt := 185) hx hb dX13_weight_178 (by decide) (fun c_41 => ?_) (fun c_41 => ?_)
          · have d_42 : ¬ (r_39 : Int32).toInt = 1 := lv_neT c_41 rfl
            refine lv_iconst (v := (-1)) hx hb dX13_weight_185 (by decide) ?_
            exact hj186 (-1) h_14 hvvl h_38 (iv_w (iv_k (by decide) : iv (-1) (-1) (-1)) (by decide)) _ _ _ hP hD hS (lv_sub hl [0, 1, 2, 3] rfl)
          · have h_43 : iv 1 1 r_39 := iv_eq c_41 hr_39 (iv_k (by decide) : iv 1 1 1) (by decide)
            refine lv_iconst (v := 2) hx hb dX13_weight_181 (by decide) ?_
            refine lv_goto (tgt := 186) hx hb dX13_weight_182 (by decide) ?_
            exact hj186 2 h_14 hvvl h_38 (iv_w (iv_k (by decide) : iv 2 2 2) (by decide)) _ _ _ hP hD hS (lv_sub hl [0, 1, 2, 3] rfl)
        by_cases c_44 : (ty : Int32).toInt = 3
        · refine lv_tableIn (tgt := 187) hx hb dX13_weight_97 (by rw [c_44]; decide) (by rw [c_44]; decide) (by rw [c_44]; rfl) (by decide) ?_
          have h_45 : iv 3 3 ty := iv_at c_44
          refine lv_iconst (v := 3) hx hb dX13_weight_187 (by decide) ?_
          exact W.iret (v := 3) hx hb hr (fun t ht hW => ⟨⟨3, (sg, gm, lg), rfl, rfl, by rw [ht]; exact hP, va_K.moved hW.alike hK, hD⟩, hS.F ht⟩) hS.2.2 dX13_weight_188
        refine lv_tableOut (tgt := 189) hx hb dX13_weight_97 (by have q1 := ((iv_all ty)).1; have q2 := ((iv_all ty)).2; omega) (by decide) ?_
        refine lv_iconst (v := (-1)) hx hb dX13_weight_189 (by decide) ?_
        exact W.iret (v := (-1)) hx hb hr (fun t ht hW => ⟨⟨(-1), (sg, gm, lg), rfl, rfl, by rw [ht]; exact hP, va_K.moved hW.alike hK, hD⟩, hS.F ht⟩) hS.2.2 dX13_weight_190
      · have h_46 : iv 1 1 kd := iv_eq c_15 h_14 (iv_k (by decide) : iv 1 1 1) (by decide)
        have hv51 : iv 0 59 vl := ⟨(hvvl).1, hvo.1 (by have := i32_0; have := i32_1; have := i32_2; have := i32_m1; have := (h_46).1; have := (h_46).2; have := (hvvl).1; have := (hvvl).2; omega)⟩
        refine lv_iconst (v := 0) hx hb dX13_weight_48 (by decide) ?_
        refine lv_istore (lv' := [(4, .int 0), (0, .ref h0), (1, .int kd), (2, .int vl), (3, .int ty)]) hx hb dX13_weight_49 hl (by decide) rfl (fun ls hl => ?_)
        refine lv_aload_n hx hb dX13_weight_51 rfl (lv_at hl 1 rfl) ?_
        refine mr_get (v := .ref (ad 53)) hx hb htb inX13 hown hK hP 53 (by decide) (htb _ kw_203) rfl dX13_weight_52 ?_
        refine lv_iload_n hx hb dX13_weight_55 rfl (lv_at hl 3 rfl) ?_
        refine mr_iald hx hb hK hP 39 (k := 53) rfl rfl rfl (show vp_in vl 60 from (iv_in hv51 (by decide))) dX13_weight_56 ?_
        refine lv_topi (fun z_47 ez_47 => ?_)
        have hz_47 : iv 0 7 z_47 := iv_of ez_47 (MI_a hI 53 hv51 (by decide))
        refine lv_istore (lv' := [(5, .int z_47), (4, .int 0), (0, .ref h0), (1, .int kd), (2, .int vl), (3, .int ty)]) hx hb dX13_weight_57 hl (by decide) rfl (fun ls hl => ?_)
        exact hj59 _ z_47 0 rfl (iv_w hz_47 (by decide)) h_46 hv51 _ _ _ hP hD hS (lv_sub hl [0, 1, 2, 3, 4, 5] rfl)
    · have h_48 : iv 3 3 kd := iv_eq c_13 hvkd (iv_k (by decide) : iv 3 3 3) (by decide)
      refine lv_iload_n hx hb dX13_weight_32 rfl (lv_at hl 3 rfl) ?_
      refine lv_iconst (v := 4) hx hb dX13_weight_33 (by decide) ?_
      refine lv_icmp_ne (tgt := 41) hx hb dX13_weight_34 (by decide) (fun c_49 => ?_) (fun c_49 => ?_)
      · have d_50 : ¬ (ty : Int32).toInt = 4 := lv_neT c_49 rfl
        refine lv_iconst (v := (-1)) hx hb dX13_weight_41 (by decide) ?_
        exact hj42 (-1) h_48 hvvl (iv_w (iv_k (by decide) : iv (-1) (-1) (-1)) (by decide)) _ _ _ hP hD hS (lv_sub hl [0, 1, 2, 3] rfl)
      · have h_51 : iv 4 4 ty := iv_eq c_49 (iv_all ty) (iv_k (by decide) : iv 4 4 4) (by decide)
        refine lv_iconst (v := 0) hx hb dX13_weight_37 (by decide) ?_
        refine lv_goto (tgt := 42) hx hb dX13_weight_38 (by decide) ?_
        exact hj42 0 h_48 hvvl (iv_w (iv_k (by decide) : iv 0 0 0) (by decide)) _ _ _ hP hD hS (lv_sub hl [0, 1, 2, 3] rfl)
  · have h_52 : iv 2 2 kd := iv_eq c_11 hvkd (iv_k (by decide) : iv 2 2 2) (by decide)
    refine lv_iload_n hx hb dX13_weight_5 rfl (lv_at hl 3 rfl) ?_
    refine lv_iconst (v := 3) hx hb dX13_weight_6 (by decide) ?_
    refine lv_icmp_eq (tgt := 21) hx hb dX13_weight_7 (by decide) (fun c_53 => ?_) (fun c_53 => ?_)
    · have h_54 : iv 3 3 ty := iv_eq c_53 (iv_all ty) (iv_k (by decide) : iv 3 3 3) (by decide)
      exact hj21 h_52 hvvl (iv_w h_54 (by decide)) _ _ _ hP hD hS (lv_sub hl [0, 1, 2, 3] rfl)
    · have d_55 : ¬ (ty : Int32).toInt = 3 := lv_neT c_53 rfl
      refine lv_iload_n hx hb dX13_weight_10 rfl (lv_at hl 3 rfl) ?_
      refine lv_iconst (v := 4) hx hb dX13_weight_11 (by decide) ?_
      refine lv_icmp_eq (tgt := 21) hx hb dX13_weight_12 (by decide) (fun c_56 => ?_) (fun c_56 => ?_)
      · have h_57 : iv 4 4 ty := iv_eq c_56 (iv_all ty) (iv_k (by decide) : iv 4 4 4) (by decide)
        exact hj21 h_52 hvvl (iv_w h_57 (by decide)) _ _ _ hP hD hS (lv_sub hl [0, 1, 2, 3] rfl)
      · have d_58 : ¬ (ty : Int32).toInt = 4 := lv_neT c_56 rfl
        refine lv_iload_n hx hb dX13_weight_15 rfl (lv_at hl 3 rfl) ?_
        refine lv_bipush (v := 7) hx hb dX13_weight_16 (by decide) ?_
        refine lv_icmp_le (tgt := 25) hx hb dX13_weight_18 (by decide) (fun c_59 => ?_) (fun c_59 => ?_)
        · have h_60 : iv (-2147483648) 7 ty := iv_leL c_59 (iv_all ty) (iv_k (by decide) : iv 7 7 7) (by decide)
          refine lv_iconst (v := (-1)) hx hb dX13_weight_25 (by decide) ?_
          exact hj26 (-1) h_52 hvvl (iv_w (iv_k (by decide) : iv (-1) (-1) (-1)) (by decide)) _ _ _ hP hD hS (lv_sub hl [0, 1, 2, 3] rfl)
        · have h_61 : iv 8 2147483647 ty := iv_ltR (i32_lt c_59) (iv_k (by decide) : iv 7 7 7) (iv_all ty) (by decide)
          exact hj21 h_52 hvvl (iv_w h_61 (by decide)) _ _ _ hP hD hS (lv_sub hl [0, 1, 2, 3] rfl)

set_option maxHeartbeats 4000000 in
set_option maxRecDepth 100000 in
theorem a_told (l : Launch) (dC : Nat → ClassId) (dI : Nat → Nat → Nat) (h0 : Nat) (ad : Nat → Nat) (cid : Nat → ClassId) (sg : Nat → Int32) (gm : Nat → Nat → Int32) (lg : Nat → Nat → Int64) (kd : Int32) (vl : Int32) (ty : Int32) (hI : MI sg gm) (hvkd : iv 0 3 kd) (hvvl : iv 0 1079 vl) (hvo : vok kd vl) : MMi l dC dI yX13_told wm_X13_told ({ frames := 2, cells := 0, slots := 0, locals := 49 }) h0 ad cid [.int kd, .int vl, .int ty] sg gm lg (fun r v => v = (sg, gm, lg)) := by
  intro sz
  refine Met.ofW (cc := cX13_told) (maxL := 4) (ret := (some .int)) (by decide) rfl ?_
  intro p e s m args below meth c s₁ B hml hv
  obtain ⟨rfl, hsz, hP, hK, hD0⟩ := hv
  have hx := B.exec
  have hb := B.bytes
  have hr := B.returns
  have hts := atoms_spec (ws := wm_X13_told) B.pre
  have htb := fun (w : Cond) (h : w ∈ tb) => hts w (List.mem_cons_of_mem _ h)
  have hown : s.vm.findClass RX13 = some m.cls := findClass_of_methodNamed B.named
  have hlocks := B.notSynchronized
  subst hsz
  have hD := hD0.self (sz := s.heap.size)
  generalize hAe : va_A (mW h0 ad cid sg gm lg) s.heap.size = A at hD ⊢
  have hA : ∀ q : Nat, s.heap.size ≤ q → A q := fun q h => by rw [← hAe]; exact Or.inr h
  have hS : va_S A s.heap s.heap [] := va_S.rf
  have hl := lv_entry ([.ref h0, .int kd, .int vl, .int ty]) (n := 4) (Nat.le_of_ble_eq_true rfl)
  rw [lg_entry_eq]
  generalize (lg_sl ([.ref h0, .int kd, .int vl, .int ty]) ++ List.replicate (4 - (lg_sl ([.ref h0, .int kd, .int vl, .int ty])).length) Slot.unset).toArray = ls at hl ⊢
  have hl : lv_has ls 4 [(0, .ref h0), (1, .int kd), (2, .int vl), (3, .int ty)] := hl
  have hj78 : ∀ (y0_78 : Int32) (_ : iv 0 2 kd) (_ : iv 0 1079 vl) (_ : iv 1 1 ty) (_ : iv 0 1 y0_78) (H : Heap) (locs : List Loc) (ls : Array Slot), va_P (dC, dI) vwCl (mW h0 ad cid sg gm lg) H → va_D A (mW h0 ad cid sg gm lg) → va_S A s.heap H locs → lv_has ls 4 [(0, .ref h0), (1, .int kd), (2, .int vl), (3, .int ty)] → W p l e (headSpec wm_X13_told ({ frames := 2, cells := 0, slots := 0, locals := 49 })).room s m ([.ref h0, .int kd, .int vl, .int ty] : List Value).toArray below meth c H locs 0 0 (MQ below (va_Qi (fun r v => v = (sg, gm, lg)) (MB dC dI h0 ad cid A) A) ([.ref h0, .int kd, .int vl, .int ty] : List Value).toArray s 0 0 A) (F0 m 78 ls [.int y0_78]) := by
    intro y0_78 hsx1_78 hsx2_78 hsx3_78 hy0_78 H locs ls hP hD hS hl
    exact W.iret (v := y0_78) hx hb hr (fun t ht hW => ⟨⟨y0_78, (sg, gm, lg), rfl, rfl, by rw [ht]; exact hP, va_K.moved hW.alike hK, hD⟩, hS.F ht⟩) hS.2.2 dX13_told_78
  refine lv_iload_n hx hb dX13_told_0 rfl (lv_at hl 1 rfl) ?_
  refine lv_iconst (v := 2) hx hb dX13_told_1 (by decide) ?_
  refine lv_icmp_ne (tgt := 7) hx hb dX13_told_2 (by decide) (fun c_1 => ?_) (fun c_1 => ?_)
  · have d_2 : ¬ (kd : Int32).toInt = 2 := lv_neT c_1 rfl
    refine lv_iload_n hx hb dX13_told_7 rfl (lv_at hl 1 rfl) ?_
    refine lv_iconst (v := 3) hx hb dX13_told_8 (by decide) ?_
    refine lv_icmp_ne (tgt := 18) hx hb dX13_told_9 (by decide) (fun c_3 => ?_) (fun c_3 => ?_)
    · have h_4 : iv 0 2 kd := iv_neH c_3 hvkd (by decide)
      refine lv_iload_n hx hb dX13_told_18 rfl (lv_at hl 1 rfl) ?_
      refine lv_iconst (v := 1) hx hb dX13_told_19 (by decide) ?_
      refine lv_icmp_ne (tgt := 29) hx hb dX13_told_20 (by decide) (fun c_5 => ?_) (fun c_5 => ?_)
      · have d_6 : ¬ (kd : Int32).toInt = 1 := lv_neT c_5 rfl
        refine lv_iload_n hx hb dX13_told_29 rfl (lv_at hl 3 rfl) ?_
        by_cases c_7 : (ty : Int32).toInt = 0
        · refine lv_tableIn (tgt := 56) hx hb dX13_told_30 (by rw [c_7]; decide) (by rw [c_7]; decide) (by rw [c_7]; rfl) (by decide) ?_
          have h_8 : iv 0 0 ty := iv_at c_7
          refine lv_aload_n hx hb dX13_told_56 rfl (lv_at hl 0 rfl) ?_
          refine lv_iload_n hx hb dX13_told_57 rfl (lv_at hl 2 rfl) ?_
          refine mr_calll (rest := []) ⟨hx, hb, hml, hown, htb⟩ (a_numberIn l dC dI h0 ad cid sg gm lg vl hI hvvl (hvo.2.1 (by have := i32_0; have := i32_1; have := i32_2; have := i32_m1; have := (h_4).1; have := (h_4).2; have := (hvvl).1; have := (hvvl).2; have := (h_8).1; have := (h_8).2; omega))) (cwV 1 htb (gd_V kw_1230 kw_1231 kw_1232 kw_5 kw_1626) rfl rfl rfl (by decide +kernel) ⟨Nat.le_of_ble_eq_true rfl, Nat.le_of_ble_eq_true rfl⟩) rfl hl.1 rfl (Nat.le_of_ble_eq_true rfl) dX13_told_58 ⟨Nat.zero_le _, Nat.zero_le _⟩ hK hP hD hS hA (fun r_9 u_10 H locs hw hP hD hS => ?_)
          obtain rfl := hw
          have hP : va_P (dC, dI) vwCl (mW h0 ad cid sg gm lg) H := hP
          have hD : va_D A (mW h0 ad cid sg gm lg) := hD
          refine lv_l2i (v := (r_9).toInt32) hx hb dX13_told_61 rfl ?_
          refine lv_topi (fun z_11 ez_11 => ?_)
          exact W.iret (v := z_11) hx hb hr (fun t ht hW => ⟨⟨z_11, (sg, gm, lg), rfl, rfl, by rw [ht]; exact hP, va_K.moved hW.alike hK, hD⟩, hS.F ht⟩) hS.2.2 dX13_told_62
        by_cases c_12 : (ty : Int32).toInt = 1
        · refine lv_tableIn (tgt := 63) hx hb dX13_told_30 (by rw [c_12]; decide) (by rw [c_12]; decide) (by rw [c_12]; rfl) (by decide) ?_
          have h_13 : iv 1 1 ty := iv_at c_12
          refine lv_aload_n hx hb dX13_told_63 rfl (lv_at hl 0 rfl) ?_
          refine lv_iload_n hx hb dX13_told_64 rfl (lv_at hl 2 rfl) ?_
          refine lv_bipush (v := 9) hx hb dX13_told_65 (by decide) ?_
          refine mr_calli (rest := []) ⟨hx, hb, hml, hown, htb⟩ (a_is l dC dI h0 ad cid sg gm lg vl 9 hI hvvl (iv_w (iv_k (by decide) : iv 9 9 9) (by decide)) (hvo.2.1 (by have := i32_0; have := i32_1; have := i32_2; have := i32_m1; have := (h_4).1; have := (h_4).2; have := (hvvl).1; have := (hvvl).2; have := (h_13).1; have := (h_13).2; omega))) (cwV 2 htb (gd_V kw_1242 kw_1243 kw_1244 kw_5 kw_1629) rfl rfl rfl (by decide +kernel) ⟨Nat.le_of_ble_eq_true rfl, Nat.le_of_ble_eq_true rfl⟩) rfl hl.1 rfl (Nat.le_of_ble_eq_true rfl) dX13_told_67 ⟨Nat.zero_le _, Nat.zero_le _⟩ hK hP hD hS hA (fun r_14 u_15 H locs hw hP hD hS => ?_)
          obtain ⟨hr_14, rfl⟩ := hw
          have hP : va_P (dC, dI) vwCl (mW h0 ad cid sg gm lg) H := hP
          have hD : va_D A (mW h0 ad cid sg gm lg) := hD
          refine lv_if_eq (tgt := 77) hx hb dX13_told_70 (by decide) (fun c_16 => ?_) (fun c_16 => ?_)
          · have h_17 : iv 0 0 r_14 := iv_eq c_16 hr_14 (iv_k (by decide) : iv 0 0 0) (by decide)
            refine lv_iconst (v := 0) hx hb dX13_told_77 (by decide) ?_
            exact hj78 0 h_4 hvvl h_13 (iv_w (iv_k (by decide) : iv 0 0 0) (by decide)) _ _ _ hP hD hS (lv_sub hl [0, 1, 2, 3] rfl)
          · have h_18 : iv 1 1 r_14 := iv_neL c_16 hr_14 (by decide)
            refine lv_iconst (v := 1) hx hb dX13_told_73 (by decide) ?_
            refine lv_goto (tgt := 78) hx hb dX13_told_74 (by decide) ?_
            exact hj78 1 h_4 hvvl h_13 (iv_w (iv_k (by decide) : iv 1 1 1) (by decide)) _ _ _ hP hD hS (lv_sub hl [0, 1, 2, 3] rfl)
        by_cases c_19 : (ty : Int32).toInt = 2
        · refine lv_tableIn (tgt := 79) hx hb dX13_told_30 (by rw [c_19]; decide) (by rw [c_19]; decide) (by rw [c_19]; rfl) (by decide) ?_
          have h_20 : iv 2 2 ty := iv_at c_19
          refine lv_aload_n hx hb dX13_told_79 rfl (lv_at hl 0 rfl) ?_
          refine lv_iload_n hx hb dX13_told_80 rfl (lv_at hl 2 rfl) ?_
          refine lv_iconst (v := 0) hx hb dX13_told_81 (by decide) ?_
          refine mr_calli (rest := []) ⟨hx, hb, hml, hown, htb⟩ (a_sign l dC dI h0 ad cid sg gm lg vl 0 hI hvvl (iv_w (iv_k (by decide) : iv 0 0 0) (by decide)) (hvo.2.1 (by have := i32_0; have := i32_1; have := i32_2; have := i32_m1; have := (h_4).1; have := (h_4).2; have := (hvvl).1; have := (hvvl).2; have := (h_20).1; have := (h_20).2; omega))) (cwV 2 htb (gd_V kw_1239 kw_1240 kw_1241 kw_5 kw_1628) rfl rfl rfl (by decide +kernel) ⟨Nat.le_of_ble_eq_true rfl, Nat.le_of_ble_eq_true rfl⟩) rfl hl.1 rfl (Nat.le_of_ble_eq_true rfl) dX13_told_82 ⟨Nat.zero_le _, Nat.zero_le _⟩ hK hP hD hS hA (fun r_21 u_22 H locs hw hP hD hS => ?_)
          obtain ⟨hr_21, rfl⟩ := hw
          have hP : va_P (dC, dI) vwCl (mW h0 ad cid sg gm lg) H := hP
          have hD : va_D A (mW h0 ad cid sg gm lg) := hD
          exact W.iret (v := r_21) hx hb hr (fun t ht hW => ⟨⟨r_21, (sg, gm, lg), rfl, rfl, by rw [ht]; exact hP, va_K.moved hW.alike hK, hD⟩, hS.F ht⟩) hS.2.2 dX13_told_85
        refine lv_tableOut (tgt := 86) hx hb dX13_told_30 (by have q1 := ((iv_all ty)).1; have q2 := ((iv_all ty)).2; omega) (by decide) ?_
        refine lv_sipush (v := 1000) hx hb dX13_told_86 (by decide) ?_
        refine lv_aload_n hx hb dX13_told_89 rfl (lv_at hl 0 rfl) ?_
        refine lv_iload_n hx hb dX13_told_90 rfl (lv_at hl 2 rfl) ?_
        refine mr_calli (rest := [.int 1000]) ⟨hx, hb, hml, hown, htb⟩ (a_length l dC dI h0 ad cid sg gm lg vl hI hvvl (hvo.2.1 (by have := i32_0; have := i32_1; have := i32_2; have := i32_m1; have := (h_4).1; have := (h_4).2; have := (hvvl).1; have := (hvvl).2; omega))) (cwV 1 htb (gd_V kw_1236 kw_1237 kw_1238 kw_5 kw_1627) rfl rfl rfl (by decide +kernel) ⟨Nat.le_of_ble_eq_true rfl, Nat.le_of_ble_eq_true rfl⟩) rfl hl.1 rfl (Nat.le_of_ble_eq_true rfl) dX13_told_91 ⟨Nat.zero_le _, Nat.zero_le _⟩ hK hP hD hS hA (fun r_23 u_24 H locs hw hP hD hS => ?_)
        obtain ⟨hr_23, rfl⟩ := hw
        have hP : va_P (dC, dI) vwCl (mW h0 ad cid sg gm lg) H := hP
        have hD : va_D A (mW h0 ad cid sg gm lg) := hD
        refine lv_iadd hx hb dX13_told_94 ?_
        refine lv_topi (fun z_25 ez_25 => ?_)
        have hz_25 : iv 1000 1024 z_25 := iv_of ez_25 (iv_add (iv_k (by decide) : iv 1000 1000 1000) hr_23 (by decide))
        have tz_25 : z_25.toInt = 1000 + (r_23 : Int32).toInt := by rw [ez_25]; exact iv_addE (iv_k (by decide) : iv 1000 1000 1000) hr_23 (by decide)
        exact W.iret (v := z_25) hx hb hr (fun t ht hW => ⟨⟨z_25, (sg, gm, lg), rfl, rfl, by rw [ht]; exact hP, va_K.moved hW.alike hK, hD⟩, hS.F ht⟩) hS.2.2 dX13_told_95
      · have h_26 : iv 1 1 kd := iv_eq c_5 h_4 (iv_k (by decide) : iv 1 1 1) (by decide)
        refine lv_sipush (v := 3000) hx hb dX13_told_23 (by decide) ?_
        refine lv_iload_n hx hb dX13_told_26 rfl (lv_at hl 2 rfl) ?_
        refine lv_iadd hx hb dX13_told_27 ?_
        refine lv_topi (fun z_27 ez_27 => ?_)
        have hz_27 : iv 3000 4079 z_27 := iv_of ez_27 (iv_add (iv_k (by decide) : iv 3000 3000 3000) hvvl (by decide))
        have tz_27 : z_27.toInt = 3000 + (vl : Int32).toInt := by rw [ez_27]; exact iv_addE (iv_k (by decide) : iv 3000 3000 3000) hvvl (by decide)
        exact W.iret (v := z_27) hx hb hr (fun t ht hW => ⟨⟨z_27, (sg, gm, lg), rfl, rfl, by rw [ht]; exact hP, va_K.moved hW.alike hK, hD⟩, hS.F ht⟩) hS.2.2 dX13_told_28
    · have h_28 : iv 3 3 kd := iv_eq c_3 hvkd (iv_k (by decide) : iv 3 3 3) (by decide)
      refine lv_sipush (v := 2000) hx hb dX13_told_12 (by decide) ?_
      refine lv_iload_n hx hb dX13_told_15 rfl (lv_at hl 2 rfl) ?_
      refine lv_iadd hx hb dX13_told_16 ?_
      refine lv_topi (fun z_29 ez_29 => ?_)
      have hz_29 : iv 2000 3079 z_29 := iv_of ez_29 (iv_add (iv_k (by decide) : iv 2000 2000 2000) hvvl (by decide))
      have tz_29 : z_29.toInt = 2000 + (vl : Int32).toInt := by rw [ez_29]; exact iv_addE (iv_k (by decide) : iv 2000 2000 2000) hvvl (by decide)
      exact W.iret (v := z_29) hx hb hr (fun t ht hW => ⟨⟨z_29, (sg, gm, lg), rfl, rfl, by rw [ht]; exact hP, va_K.moved hW.alike hK, hD⟩, hS.F ht⟩) hS.2.2 dX13_told_17
  · have h_30 : iv 2 2 kd := iv_eq c_1 hvkd (iv_k (by decide) : iv 2 2 2) (by decide)
    refine lv_iconst (v := (-1)) hx hb dX13_told_5 (by decide) ?_
    exact W.iret (v := (-1)) hx hb hr (fun t ht hW => ⟨⟨(-1), (sg, gm, lg), rfl, rfl, by rw [ht]; exact hP, va_K.moved hW.alike hK, hD⟩, hS.F ht⟩) hS.2.2 dX13_told_6

set_option maxHeartbeats 4000000 in
set_option maxRecDepth 100000 in
theorem f_tell (l : Launch) (dC : Nat → ClassId) (dI : Nat → Nat → Nat) (h0 : Nat) (ad : Nat → Nat) (cid : Nat → ClassId) (sg : Nat → Int32) (gm : Nat → Nat → Int32) (lg : Nat → Nat → Int64) (a : Int32) (o : Int32) (k2 : Int32) (sl : Int32) (ty : Int32) (hI : MI sg gm) (hvsl : iv 0 404 sl) (hva : VAL gm) : MMv l dC dI yX13_tell wm_X13_tell ({ frames := 3, cells := 0, slots := 0, locals := 72 }) h0 ad cid [.int a, .int o, .int k2, .int sl, .int ty] sg gm lg (fun v => ∃ (sg2 : Nat → Int32) (gm2 : Nat → Nat → Int32) (lg2 : Nat → Nat → Int64), v = (sg2, gm2, lg2) ∧ MI sg2 gm2 ∧ KS [49] sg sg2 ∧ KS [55, 56, 57, 58] gm gm2 ∧ KS [] lg lg2) := by
  intro sz
  refine Met.ofW (cc := cX13_tell) (maxL := 7) (ret := none) (by decide) rfl ?_
  intro p e s m args below meth c s₁ B hml hv
  obtain ⟨rfl, hsz, hP, hK, hD0⟩ := hv
  have hx := B.exec
  have hb := B.bytes
  have hr := B.returns
  have hts := atoms_spec (ws := wm_X13_tell) B.pre
  have htb := fun (w : Cond) (h : w ∈ tb) => hts w (List.mem_cons_of_mem _ h)
  have hown : s.vm.findClass RX13 = some m.cls := findClass_of_methodNamed B.named
  have hlocks := B.notSynchronized
  subst hsz
  have hD := hD0.self (sz := s.heap.size)
  generalize hAe : va_A (mW h0 ad cid sg gm lg) s.heap.size = A at hD ⊢
  have hA : ∀ q : Nat, s.heap.size ≤ q → A q := fun q h => by rw [← hAe]; exact Or.inr h
  have hS : va_S A s.heap s.heap [] := va_S.rf
  have hl := lv_entry ([.ref h0, .int a, .int o, .int k2, .int sl, .int ty]) (n := 7) (Nat.le_of_ble_eq_true rfl)
  rw [lg_entry_eq]
  generalize (lg_sl ([.ref h0, .int a, .int o, .int k2, .int sl, .int ty]) ++ List.replicate (7 - (lg_sl ([.ref h0, .int a, .int o, .int k2, .int sl, .int ty])).length) Slot.unset).toArray = ls at hl ⊢
  have hl : lv_has ls 7 [(0, .ref h0), (1, .int a), (2, .int o), (3, .int k2), (4, .int sl), (5, .int ty)] := hl
  have hj99 : ∀ (sg_j99 : Nat → Int32) (gm_j99 : Nat → Nat → Int32) (x6_99 : Int32) (_ : iv 0 6 x6_99) (_ : iv 0 404 sl) (_ : KS [49] sg sg_j99) (_ : KS [55, 56, 57, 58] gm gm_j99) (_ : MI sg_j99 gm_j99) (H : Heap) (locs : List Loc) (ls : Array Slot), va_P (dC, dI) vwCl (mW h0 ad cid sg_j99 gm_j99 lg) H → va_D A (mW h0 ad cid sg_j99 gm_j99 lg) → va_S A s.heap H locs → lv_has ls 7 [(6, .int x6_99), (0, .ref h0), (1, .int a), (2, .int o), (3, .int k2), (4, .int sl), (5, .int ty)] → W p l e (headSpec wm_X13_tell ({ frames := 3, cells := 0, slots := 0, locals := 72 })).room s m ([.ref h0, .int a, .int o, .int k2, .int sl, .int ty] : List Value).toArray below meth c H locs 0 0 (MQ below (va_Qv (fun v => ∃ (sg2 : Nat → Int32) (gm2 : Nat → Nat → Int32) (lg2 : Nat → Nat → Int64), v = (sg2, gm2, lg2) ∧ MI sg2 gm2 ∧ KS [49] sg sg2 ∧ KS [55, 56, 57, 58] gm gm2 ∧ KS [] lg lg2) (MB dC dI h0 ad cid A) A) ([.ref h0, .int a, .int o, .int k2, .int sl, .int ty] : List Value).toArray s 0 0 A) (F0 m 99 ls []) := by
    intro sg_j99 gm_j99 x6_99 hx6_99 hsx4_99 hks_j99 hkg_j99 hI_j99 H locs ls hP hD hS hl
    exact W.vret hx hb hr (fun t ht hW => ⟨⟨(sg_j99, gm_j99, lg), rfl, ⟨sg_j99, gm_j99, lg, rfl, hI_j99, (KS_tr (L := [49]) KS_rf hks_j99 (by decide)), (KS_tr (L := [55, 56, 57, 58]) KS_rf hkg_j99 (by decide)), KS_rf⟩, by rw [ht]; exact hP, va_K.moved hW.alike hK, hD⟩, hS.F ht⟩) hS.2.2 dX13_tell_99
  have hj30 : ∀ (n : Nat) (sg_j30 : Nat → Int32) (gm_j30 : Nat → Nat → Int32) (x6_30 : Int32) (_ : (6 - x6_30.toInt).toNat = n) (_ : iv 0 6 x6_30) (_ : iv 0 404 sl) (_ : KS [49] sg sg_j30) (_ : KS [55, 56, 57, 58] gm gm_j30) (_ : MI sg_j30 gm_j30) (H : Heap) (locs : List Loc) (ls : Array Slot), va_P (dC, dI) vwCl (mW h0 ad cid sg_j30 gm_j30 lg) H → va_D A (mW h0 ad cid sg_j30 gm_j30 lg) → va_S A s.heap H locs → lv_has ls 7 [(6, .int x6_30), (0, .ref h0), (1, .int a), (2, .int o), (3, .int k2), (4, .int sl), (5, .int ty)] → W p l e (headSpec wm_X13_tell ({ frames := 3, cells := 0, slots := 0, locals := 72 })).room s m ([.ref h0, .int a, .int o, .int k2, .int sl, .int ty] : List Value).toArray below meth c H locs 0 0 (MQ below (va_Qv (fun v => ∃ (sg2 : Nat → Int32) (gm2 : Nat → Nat → Int32) (lg2 : Nat → Nat → Int64), v = (sg2, gm2, lg2) ∧ MI sg2 gm2 ∧ KS [49] sg sg2 ∧ KS [55, 56, 57, 58] gm gm2 ∧ KS [] lg lg2) (MB dC dI h0 ad cid A) A) ([.ref h0, .int a, .int o, .int k2, .int sl, .int ty] : List Value).toArray s 0 0 A) (F0 m 30 ls []) := by
    intro n
    induction n using Nat.strongRecOn with
    | ind n ih30 =>
      intro sg_j30 gm_j30 x6_30 hn30 hx6_30 hsx4_30 hks_j30 hkg_j30 hI_j30 H locs ls hP hD hS hl
      refine lv_aload_n hx hb dX13_tell_30 rfl (lv_at hl 1 rfl) ?_
      refine mr_get (v := .ref (ad 70)) hx hb htb inX13 hown hK hP 70 (by decide) (htb _ kw_219) rfl dX13_tell_31 ?_
      refine lv_iload hx hb dX13_tell_34 (lv_at hl 5 rfl) ?_
      refine mr_iald hx hb hK hP 55 (k := 70) rfl rfl rfl (show vp_in sl 405 from (iv_in hsx4_30 (by decide))) dX13_tell_36 ?_
      refine lv_topi (fun z_1 ez_1 => ?_)
      have hz_1 : iv 0 3 z_1 := iv_of ez_1 (MI_a hI_j30 70 hsx4_30 (by decide))
      have ez_1 := ez_1.trans (congrFun (hkg_j30 70 (by decide)) _)
      refine lv_iconst (v := 3) hx hb dX13_tell_37 (by decide) ?_
      refine lv_icmp_ne (tgt := 99) hx hb dX13_tell_38 (by decide) (fun c_2 => ?_) (fun c_2 => ?_)
      · have h_3 : iv 0 2 z_1 := iv_neH c_2 hz_1 (by decide)
        exact hj99 sg_j30 gm_j30 x6_30 hx6_30 hsx4_30 (KS_tr (L := [49]) KS_rf hks_j30 (by decide)) (KS_tr (L := [55, 56, 57, 58]) KS_rf hkg_j30 (by decide)) hI_j30 _ _ _ hP hD hS (lv_sub hl [0, 1, 2, 3, 4, 5, 6] rfl)
      · have h_4 : iv 3 3 z_1 := iv_eq c_2 hz_1 (iv_k (by decide) : iv 3 3 3) (by decide)
        refine lv_iload hx hb dX13_tell_41 (lv_at hl 0 rfl) ?_
        refine lv_aload_n hx hb dX13_tell_43 rfl (lv_at hl 1 rfl) ?_
        refine mr_get (v := .ref (ad 71)) hx hb htb inX13 hown hK hP 71 (by decide) (htb _ kw_220) rfl dX13_tell_44 ?_
        refine lv_iload hx hb dX13_tell_47 (lv_at hl 5 rfl) ?_
        refine mr_iald hx hb hK hP 56 (k := 71) rfl rfl rfl (show vp_in sl 405 from (iv_in hsx4_30 (by decide))) dX13_tell_49 ?_
        refine lv_topi (fun z_5 ez_5 => ?_)
        have hz_5 : iv 0 1079 z_5 := iv_of ez_5 (MI_a hI_j30 71 hsx4_30 (by decide))
        have ez_5 := ez_5.trans (congrFun (hkg_j30 71 (by decide)) _)
        refine lv_icmp_ge (tgt := 99) hx hb dX13_tell_50 (by decide) (fun c_6 => ?_) (fun c_6 => ?_)
        · have d_7 : (z_5 : Int32).toInt ≤ (x6_30 : Int32).toInt := Int32.le_iff_toInt_le.mp c_6
          have h_8 : iv 0 6 z_5 := iv_leL c_6 hz_5 hx6_30 (by decide)
          exact hj99 sg_j30 gm_j30 x6_30 hx6_30 hsx4_30 (KS_tr (L := [49]) KS_rf hks_j30 (by decide)) (KS_tr (L := [55, 56, 57, 58]) KS_rf hkg_j30 (by decide)) hI_j30 _ _ _ hP hD hS (lv_sub hl [0, 1, 2, 3, 4, 5, 6] rfl)
        · have d_9 : (x6_30 : Int32).toInt < (z_5 : Int32).toInt := Int32.lt_iff_toInt_lt.mp (i32_lt c_6)
          have h_10 : iv 1 1079 z_5 := iv_ltR (i32_lt c_6) hx6_30 hz_5 (by decide)
          have h53 : iv 0 5 x6_30 := ⟨(hx6_30).1, by have q9 := (VAL_at hva hvsl ez_1 ez_5).2.2 (congrArg Int32.toInt c_2); have := i32_0; have := i32_1; have := i32_2; have := i32_m1; have := (hsx4_30).1; have := (hsx4_30).2; have := (hx6_30).1; have := (hx6_30).2; have := (h_4).1; have := (h_4).2; have := (h_10).1; have := (h_10).2; have := q9; omega⟩
          refine lv_aload_n hx hb dX13_tell_53 rfl (lv_at hl 1 rfl) ?_
          refine lv_bipush (v := 6) hx hb dX13_tell_54 (by decide) ?_
          refine lv_iconst (v := (-1)) hx hb dX13_tell_56 (by decide) ?_
          refine lv_iload hx hb dX13_tell_57 (lv_at hl 0 rfl) ?_
          refine lv_aload_n hx hb dX13_tell_59 rfl (lv_at hl 1 rfl) ?_
          refine lv_aload_n hx hb dX13_tell_60 rfl (lv_at hl 1 rfl) ?_
          refine mr_get (v := .ref (ad 72)) hx hb htb inX13 hown hK hP 72 (by decide) (htb _ kw_221) rfl dX13_tell_61 ?_
          refine lv_bipush (v := 6) hx hb dX13_tell_64 (by decide) ?_
          refine lv_iload hx hb dX13_tell_66 (lv_at hl 5 rfl) ?_
          refine lv_imul hx hb dX13_tell_68 ?_
          refine lv_topi (fun z_11 ez_11 => ?_)
          have hz_11 : iv 0 2424 z_11 := iv_of ez_11 (iv_mul (iv_k (by decide) : iv 6 6 6) hsx4_30 (by decide))
          have tz_11 : z_11.toInt = 6 * (sl : Int32).toInt := by rw [ez_11]; exact iv_mulE (iv_k (by decide) : iv 6 6 6) hsx4_30 (by decide)
          refine lv_iload hx hb dX13_tell_69 (lv_at hl 0 rfl) ?_
          refine lv_iadd hx hb dX13_tell_71 ?_
          refine lv_topi (fun z_12 ez_12 => ?_)
          have hz_12 : iv 0 2429 z_12 := iv_of ez_12 (iv_add hz_11 h53 (by decide))
          have tz_12 : z_12.toInt = (z_11 : Int32).toInt + (x6_30 : Int32).toInt := by rw [ez_12]; exact iv_addE hz_11 h53 (by decide)
          refine mr_iald hx hb hK hP 57 (k := 72) rfl rfl rfl (show vp_in z_12 2430 from (iv_in hz_12 (by decide))) dX13_tell_72 ?_
          refine lv_topi (fun z_13 ez_13 => ?_)
          have hz_13 : iv 0 3 z_13 := iv_of ez_13 (MI_a hI_j30 72 hz_12 (by decide))
          have ez_13 := ez_13.trans (congrFun (hkg_j30 72 (by decide)) _)
          refine lv_aload_n hx hb dX13_tell_73 rfl (lv_at hl 1 rfl) ?_
          refine mr_get (v := .ref (ad 73)) hx hb htb inX13 hown hK hP 73 (by decide) (htb _ kw_222) rfl dX13_tell_74 ?_
          refine lv_bipush (v := 6) hx hb dX13_tell_77 (by decide) ?_
          refine lv_iload hx hb dX13_tell_79 (lv_at hl 5 rfl) ?_
          refine lv_imul hx hb dX13_tell_81 ?_
          refine lv_topi (fun z_14 ez_14 => ?_)
          obtain rfl : z_11 = z_14 := ez_11.trans ez_14.symm
          refine lv_iload hx hb dX13_tell_82 (lv_at hl 0 rfl) ?_
          refine lv_iadd hx hb dX13_tell_84 ?_
          refine lv_topi (fun z_15 ez_15 => ?_)
          obtain rfl : z_12 = z_15 := ez_12.trans ez_15.symm
          refine mr_iald hx hb hK hP 58 (k := 73) rfl rfl rfl (show vp_in z_12 2430 from (iv_in hz_12 (by decide))) dX13_tell_85 ?_
          refine lv_topi (fun z_16 ez_16 => ?_)
          have hz_16 : iv 0 1079 z_16 := iv_of ez_16 (MI_a hI_j30 73 hz_12 (by decide))
          have ez_16 := ez_16.trans (congrFun (hkg_j30 73 (by decide)) _)
          refine lv_iconst (v := 3) hx hb dX13_tell_86 (by decide) ?_
          refine mr_calli (rest := [.int x6_30, .int (-1), .int 6, .ref h0]) ⟨hx, hb, hml, hown, htb⟩ (a_told l dC dI h0 ad cid sg_j30 gm_j30 lg z_13 z_16 3 hI_j30 hz_13 hz_16 (VAL_it hva hz_12 ez_13 ez_16)) (cwV 3 htb (gd_V kw_1251 kw_1252 kw_1253 kw_5 kw_1632) rfl rfl rfl (by decide +kernel) ⟨Nat.le_of_ble_eq_true rfl, Nat.le_of_ble_eq_true rfl⟩) rfl hl.1 rfl (Nat.le_of_ble_eq_true rfl) dX13_tell_87 ⟨Nat.zero_le _, Nat.zero_le _⟩ hK hP hD hS hA (fun r_17 u_18 H locs hw hP hD hS => ?_)
          obtain rfl := hw
          have hP : va_P (dC, dI) vwCl (mW h0 ad cid sg_j30 gm_j30 lg) H := hP
          have hD : va_D A (mW h0 ad cid sg_j30 gm_j30 lg) := hD
          refine mr_callv (rest := []) ⟨hx, hb, hml, hown, htb⟩ (a_happens l dC dI h0 ad cid sg_j30 gm_j30 lg 6 (-1) x6_30 r_17 hI_j30) (cwV 4 htb (gd_V kw_1245 kw_1246 kw_1247 kw_5 kw_1630) rfl rfl rfl (by decide +kernel) ⟨Nat.le_of_ble_eq_true rfl, Nat.le_of_ble_eq_true rfl⟩) rfl hl.1 rfl (Nat.le_of_ble_eq_true rfl) dX13_tell_90 ⟨Nat.zero_le _, Nat.zero_le _⟩ hK hP hD hS hA (fun u_20 H locs hw hP hD hS => ?_)
          obtain ⟨sgv_21, gmv_21, lgv_21, rfl, hIv_21, ksv_21, kgv_21, klv_21⟩ := hw
          obtain rfl := KS_nil klv_21
          have hP : va_P (dC, dI) vwCl (mW h0 ad cid sgv_21 gmv_21 lg) H := hP
          have hD : va_D A (mW h0 ad cid sgv_21 gmv_21 lg) := hD
          obtain ⟨z_22, ez_22⟩ : ∃ z : Int32, z = x6_30 + 1 := ⟨_, rfl⟩
          have hz_22 : iv 1 6 z_22 := iv_of ez_22 (iv_add h53 (iv_k (by decide) : iv 1 1 1) (by decide))
          have tz_22 : z_22.toInt = x6_30.toInt + 1 := by rw [ez_22]; exact iv_addE h53 (iv_k (by decide) : iv 1 1 1) (by decide)
          refine lv_iinc (v := z_22) (lv' := [(6, .int z_22), (0, .ref h0), (1, .int a), (2, .int o), (3, .int k2), (4, .int sl), (5, .int ty)]) hx hb dX13_tell_93 hl (k := 0) rfl ez_22.symm (by decide) rfl (fun ls hl => ?_)
          refine lv_goto (tgt := 30) hx hb dX13_tell_96 (by decide) ?_
          exact ih30 _ (by rw [← hn30]; exact (iv_meas tz_22 h53 (by decide))) sgv_21 gmv_21 z_22 rfl (iv_w hz_22 (by decide)) hsx4_30 (KS_tr (L := [49]) (KS_tr (L := [49]) KS_rf hks_j30 (by decide)) ksv_21 (by decide)) (KS_tr (L := [55, 56, 57, 58]) (KS_tr (L := [55, 56, 57, 58]) KS_rf hkg_j30 (by decide)) kgv_21 (by decide)) hIv_21 _ _ _ hP hD hS (lv_sub hl [0, 1, 2, 3, 4, 5, 6] rfl)
  refine lv_aload_n hx hb dX13_tell_0 rfl (lv_at hl 0 rfl) ?_
  refine lv_iload_n hx hb dX13_tell_1 rfl (lv_at hl 1 rfl) ?_
  refine lv_iload_n hx hb dX13_tell_2 rfl (lv_at hl 2 rfl) ?_
  refine lv_iload_n hx hb dX13_tell_3 rfl (lv_at hl 3 rfl) ?_
  refine lv_aload_n hx hb dX13_tell_4 rfl (lv_at hl 0 rfl) ?_
  refine lv_aload_n hx hb dX13_tell_5 rfl (lv_at hl 0 rfl) ?_
  refine mr_get (v := .ref (ad 70)) hx hb htb inX13 hown hK hP 70 (by decide) (htb _ kw_219) rfl dX13_tell_6 ?_
  refine lv_iload hx hb dX13_tell_9 (lv_at hl 4 rfl) ?_
  refine mr_iald hx hb hK hP 55 (k := 70) rfl rfl rfl (show vp_in sl 405 from (iv_in hvsl (by decide))) dX13_tell_11 ?_
  refine lv_topi (fun z_23 ez_23 => ?_)
  have hz_23 : iv 0 3 z_23 := iv_of ez_23 (MI_a hI 70 hvsl (by decide))
  refine lv_aload_n hx hb dX13_tell_12 rfl (lv_at hl 0 rfl) ?_
  refine mr_get (v := .ref (ad 71)) hx hb htb inX13 hown hK hP 71 (by decide) (htb _ kw_220) rfl dX13_tell_13 ?_
  refine lv_iload hx hb dX13_tell_16 (lv_at hl 4 rfl) ?_
  refine mr_iald hx hb hK hP 56 (k := 71) rfl rfl rfl (show vp_in sl 405 from (iv_in hvsl (by decide))) dX13_tell_18 ?_
  refine lv_topi (fun z_24 ez_24 => ?_)
  have hz_24 : iv 0 1079 z_24 := iv_of ez_24 (MI_a hI 71 hvsl (by decide))
  refine lv_iload hx hb dX13_tell_19 (lv_at hl 5 rfl) ?_
  refine mr_calli (rest := [.int k2, .int o, .int a, .ref h0]) ⟨hx, hb, hml, hown, htb⟩ (a_told l dC dI h0 ad cid sg gm lg z_23 z_24 ty hI hz_23 hz_24 (VAL_at hva hvsl ez_23 ez_24)) (cwV 3 htb (gd_V kw_1251 kw_1252 kw_1253 kw_5 kw_1632) rfl rfl rfl (by decide +kernel) ⟨Nat.le_of_ble_eq_true rfl, Nat.le_of_ble_eq_true rfl⟩) rfl hl.1 rfl (Nat.le_of_ble_eq_true rfl) dX13_tell_21 ⟨Nat.zero_le _, Nat.zero_le _⟩ hK hP hD hS hA (fun r_25 u_26 H locs hw hP hD hS => ?_)
  obtain rfl := hw
  have hP : va_P (dC, dI) vwCl (mW h0 ad cid sg gm lg) H := hP
  have hD : va_D A (mW h0 ad cid sg gm lg) := hD
  refine mr_callv (rest := []) ⟨hx, hb, hml, hown, htb⟩ (a_happens l dC dI h0 ad cid sg gm lg a o k2 r_25 hI) (cwV 4 htb (gd_V kw_1245 kw_1246 kw_1247 kw_5 kw_1630) rfl rfl rfl (by decide +kernel) ⟨Nat.le_of_ble_eq_true rfl, Nat.le_of_ble_eq_true rfl⟩) rfl hl.1 rfl (Nat.le_of_ble_eq_true rfl) dX13_tell_24 ⟨Nat.zero_le _, Nat.zero_le _⟩ hK hP hD hS hA (fun u_28 H locs hw hP hD hS => ?_)
  obtain ⟨sgv_29, gmv_29, lgv_29, rfl, hIv_29, ksv_29, kgv_29, klv_29⟩ := hw
  obtain rfl := KS_nil klv_29
  have hP : va_P (dC, dI) vwCl (mW h0 ad cid sgv_29 gmv_29 lg) H := hP
  have hD : va_D A (mW h0 ad cid sgv_29 gmv_29 lg) := hD
  refine lv_iconst (v := 0) hx hb dX13_tell_27 (by decide) ?_
  refine lv_istore (lv' := [(6, .int 0), (0, .ref h0), (1, .int a), (2, .int o), (3, .int k2), (4, .int sl), (5, .int ty)]) hx hb dX13_tell_28 hl (by decide) rfl (fun ls hl => ?_)
  exact hj30 _ sgv_29 gmv_29 0 rfl (iv_w (iv_k (by decide) : iv 0 0 0) (by decide)) hvsl (KS_tr (L := [49]) KS_rf ksv_29 (by decide)) (KS_tr (L := [55, 56, 57, 58]) KS_rf kgv_29 (by decide)) hIv_29 _ _ _ hP hD hS (lv_sub hl [0, 1, 2, 3, 4, 5, 6] rfl)

set_option maxHeartbeats 4000000 in
set_option maxRecDepth 100000 in
theorem f_fails (l : Launch) (dC : Nat → ClassId) (dI : Nat → Nat → Nat) (h0 : Nat) (ad : Nat → Nat) (cid : Nat → ClassId) (sg : Nat → Int32) (gm : Nat → Nat → Int32) (lg : Nat → Nat → Int64) (x : Int32) (hI : MI sg gm) (hvx : iv 1 8 x) : MMv l dC dI yX13_fails wm_X13_fails ({ frames := 0, cells := 0, slots := 0, locals := 0 }) h0 ad cid [.int x] sg gm lg (fun v => ∃ (sg2 : Nat → Int32) (gm2 : Nat → Nat → Int32) (lg2 : Nat → Nat → Int64), v = (sg2, gm2, lg2) ∧ MI sg2 gm2 ∧ KS [51, 52] sg sg2 ∧ KS [] gm gm2 ∧ KS [] lg lg2 ∧ (1 ≤ (sg2 51).toInt)) := by
  intro sz
  refine Met.ofW (cc := cX13_fails) (maxL := 2) (ret := none) (by decide) rfl ?_
  intro p e s m args below meth c s₁ B hml hv
  obtain ⟨rfl, hsz, hP, hK, hD0⟩ := hv
  have hx := B.exec
  have hb := B.bytes
  have hr := B.returns
  have hts := atoms_spec (ws := wm_X13_fails) B.pre
  have htb := fun (w : Cond) (h : w ∈ tb) => hts w (List.mem_cons_of_mem _ h)
  have hown : s.vm.findClass RX13 = some m.cls := findClass_of_methodNamed B.named
  have hlocks := B.notSynchronized
  subst hsz
  have hD := hD0.self (sz := s.heap.size)
  generalize hAe : va_A (mW h0 ad cid sg gm lg) s.heap.size = A at hD ⊢
  have hA : ∀ q : Nat, s.heap.size ≤ q → A q := fun q h => by rw [← hAe]; exact Or.inr h
  have hS : va_S A s.heap s.heap [] := va_S.rf
  have hl := lv_entry ([.ref h0, .int x]) (n := 2) (Nat.le_of_ble_eq_true rfl)
  rw [lg_entry_eq]
  generalize (lg_sl ([.ref h0, .int x]) ++ List.replicate (2 - (lg_sl ([.ref h0, .int x])).length) Slot.unset).toArray = ls at hl ⊢
  have hl : lv_has ls 2 [(0, .ref h0), (1, .int x)] := hl
  have hj36 : ∀ (sg_j36 : Nat → Int32) (y0_36 : Int32) (_ : iv 1 8 x) (_ : iv (-1) 79 y0_36) (_ : KS [51] sg sg_j36) (_ : MI sg_j36 gm) (_ : 1 ≤ (sg_j36 51).toInt) (H : Heap) (locs : List Loc) (ls : Array Slot), va_P (dC, dI) vwCl (mW h0 ad cid sg_j36 gm lg) H → va_D A (mW h0 ad cid sg_j36 gm lg) → va_S A s.heap H locs → lv_has ls 2 [(0, .ref h0), (1, .int x)] → W p l e (headSpec wm_X13_fails ({ frames := 0, cells := 0, slots := 0, locals := 0 })).room s m ([.ref h0, .int x] : List Value).toArray below meth c H locs 0 0 (MQ below (va_Qv (fun v => ∃ (sg2 : Nat → Int32) (gm2 : Nat → Nat → Int32) (lg2 : Nat → Nat → Int64), v = (sg2, gm2, lg2) ∧ MI sg2 gm2 ∧ KS [51, 52] sg sg2 ∧ KS [] gm gm2 ∧ KS [] lg lg2 ∧ (1 ≤ (sg2 51).toInt)) (MB dC dI h0 ad cid A) A) ([.ref h0, .int x] : List Value).toArray s 0 0 A) (F0 m 36 ls [.int y0_36, .ref h0]) := by
    intro sg_j36 y0_36 hsx1_36 hy0_36 hks_j36 hI_j36 h51 H locs ls hP hD hS hl
    refine ma_put (x := y0_36) hx hb htb inX13 hown hK hP hD hS 52 (by decide) (by decide) (htb _ kw_202) rfl rfl rfl dX13_fails_36 (fun sg_1 H locs esg_1 hP hD hS => ?_)
    have hI_sg_1 := MI_put hI_j36 esg_1 hy0_36 (by decide)
    exact W.vret hx hb hr (fun t ht hW => ⟨⟨(sg_1, gm, lg), rfl, ⟨sg_1, gm, lg, rfl, hI_sg_1, (KS_up (KS_tr (L := [51, 52]) KS_rf hks_j36 (by decide)) esg_1 (by decide)), KS_rf, KS_rf, (by have := i32_0; have := i32_1; have := i32_2; have := i32_m1; have := congrArg Int32.toInt (show sg_1 51 = sg_j36 51 from up_ne esg_1 (by decide)); have := (show iv 0 8 (sg_j36 51) from MI_s hI_j36 51).1; have := (show iv 0 8 (sg_j36 51) from MI_s hI_j36 51).2; have := (show iv 0 8 (sg 51) from MI_s hI 51).1; have := (show iv 0 8 (sg 51) from MI_s hI 51).2; have := (hsx1_36).1; have := (hsx1_36).2; have := (hy0_36).1; have := (hy0_36).2; omega)⟩, by rw [ht]; exact hP, va_K.moved hW.alike hK, hD⟩, hS.F ht⟩) hS.2.2 dX13_fails_39
  refine lv_aload_n hx hb dX13_fails_0 rfl (lv_at hl 0 rfl) ?_
  refine mr_get (v := .int (sg 51)) hx hb htb inX13 hown hK hP 51 (by decide) (htb _ kw_983) rfl dX13_fails_1 ?_
  refine lv_if_eq (tgt := 8) hx hb dX13_fails_4 (by decide) (fun c_2 => ?_) (fun c_2 => ?_)
  · have h_3 : iv 0 0 (sg 51) := iv_eq c_2 (show iv 0 8 (sg 51) from MI_s hI 51) (iv_k (by decide) : iv 0 0 0) (by decide)
    refine lv_aload_n hx hb dX13_fails_8 rfl (lv_at hl 0 rfl) ?_
    refine lv_iload_n hx hb dX13_fails_9 rfl (lv_at hl 1 rfl) ?_
    refine ma_put (x := x) hx hb htb inX13 hown hK hP hD hS 51 (by decide) (by decide) (htb _ kw_983) rfl rfl rfl dX13_fails_10 (fun sg_4 H locs esg_4 hP hD hS => ?_)
    have hI_sg_4 := MI_put hI esg_4 hvx (by decide)
    refine lv_aload_n hx hb dX13_fails_13 rfl (lv_at hl 0 rfl) ?_
    refine lv_aload_n hx hb dX13_fails_14 rfl (lv_at hl 0 rfl) ?_
    refine mr_get (v := .int (sg_4 63)) hx hb htb inX13 hown hK hP 63 (by decide) (htb _ kw_1160) rfl dX13_fails_15 ?_
    refine lv_topi (fun z_5 ez_5 => ?_)
    obtain rfl : (sg 63) = z_5 := (ez_5.trans (up_ne esg_4 (by decide))).symm
    refine lv_if_ne (tgt := 25) hx hb dX13_fails_18 (by decide) (fun c_6 => ?_) (fun c_6 => ?_)
    · have h_7 : iv 1 80 (sg 63) := iv_neL c_6 (show iv 0 80 (sg 63) from MI_s hI 63) (by decide)
      refine lv_aload_n hx hb dX13_fails_25 rfl (lv_at hl 0 rfl) ?_
      refine mr_get (v := .ref (ad 64)) hx hb htb inX13 hown hK hP 64 (by decide) (htb _ kw_213) rfl dX13_fails_26 ?_
      refine lv_aload_n hx hb dX13_fails_29 rfl (lv_at hl 0 rfl) ?_
      refine mr_get (v := .int (sg_4 63)) hx hb htb inX13 hown hK hP 63 (by decide) (htb _ kw_1160) rfl dX13_fails_30 ?_
      refine lv_topi (fun z_8 ez_8 => ?_)
      obtain rfl : (sg 63) = z_8 := (ez_8.trans (up_ne esg_4 (by decide))).symm
      refine lv_iconst (v := 1) hx hb dX13_fails_33 (by decide) ?_
      refine lv_isub hx hb dX13_fails_34 ?_
      refine lv_topi (fun z_9 ez_9 => ?_)
      have hz_9 : iv 0 79 z_9 := iv_of ez_9 (iv_sub h_7 (iv_k (by decide) : iv 1 1 1) (by decide))
      have tz_9 : z_9.toInt = ((sg 63) : Int32).toInt - 1 := by rw [ez_9]; exact iv_subE h_7 (iv_k (by decide) : iv 1 1 1) (by decide)
      refine mr_iald hx hb hK hP 49 (k := 64) rfl rfl rfl (show vp_in z_9 81 from (iv_in hz_9 (by decide))) dX13_fails_35 ?_
      refine lv_topi (fun z_10 ez_10 => ?_)
      have hz_10 : iv 0 79 z_10 := iv_of ez_10 (MI_a hI_sg_4 64 hz_9 (by decide))
      exact hj36 sg_4 z_10 hvx (iv_w hz_10 (by decide)) (KS_up KS_rf esg_4 (by decide)) hI_sg_4 (by have := i32_0; have := i32_1; have := i32_2; have := i32_m1; have := congrArg Int32.toInt (show sg_4 51 = x from up_at esg_4); have := (hvx).1; have := (hvx).2; have := (h_3).1; have := (h_3).2; have := (h_7).1; have := (h_7).2; have := (hz_9).1; have := (hz_9).2; have := (hz_10).1; have := (hz_10).2; omega) _ _ _ hP hD hS (lv_sub hl [0, 1] rfl)
    · have h_11 : iv 0 0 (sg 63) := iv_eq c_6 (show iv 0 80 (sg 63) from MI_s hI 63) (iv_k (by decide) : iv 0 0 0) (by decide)
      refine lv_iconst (v := (-1)) hx hb dX13_fails_21 (by decide) ?_
      refine lv_goto (tgt := 36) hx hb dX13_fails_22 (by decide) ?_
      exact hj36 sg_4 (-1) hvx (iv_w (iv_k (by decide) : iv (-1) (-1) (-1)) (by decide)) (KS_up KS_rf esg_4 (by decide)) hI_sg_4 (by have := i32_0; have := i32_1; have := i32_2; have := i32_m1; have := congrArg Int32.toInt (show sg_4 51 = x from up_at esg_4); have := (hvx).1; have := (hvx).2; have := (h_3).1; have := (h_3).2; have := (h_11).1; have := (h_11).2; omega) _ _ _ hP hD hS (lv_sub hl [0, 1] rfl)
  · have h_12 : iv 1 8 (sg 51) := iv_neL c_2 (show iv 0 8 (sg 51) from MI_s hI 51) (by decide)
    exact W.vret hx hb hr (fun t ht hW => ⟨⟨(sg, gm, lg), rfl, ⟨sg, gm, lg, rfl, hI, KS_rf, KS_rf, KS_rf, (by have := i32_0; have := i32_1; have := i32_2; have := i32_m1; have := (show iv 0 8 (sg 51) from MI_s hI 51).1; have := (show iv 0 8 (sg 51) from MI_s hI 51).2; have := (hvx).1; have := (hvx).2; have := (h_12).1; have := (h_12).2; omega)⟩, by rw [ht]; exact hP, va_K.moved hW.alike hK, hD⟩, hS.F ht⟩) hS.2.2 dX13_fails_7

set_option maxHeartbeats 4000000 in
set_option maxRecDepth 100000 in
theorem f_isMany (l : Launch) (dC : Nat → ClassId) (dI : Nat → Nat → Nat) (h0 : Nat) (ad : Nat → Nat) (cid : Nat → ClassId) (sg : Nat → Int32) (gm : Nat → Nat → Int32) (lg : Nat → Nat → Int64) (b : Int32) (hI : MI sg gm) (hvb : iv 0 79 b) : MMi l dC dI yX13_isMany wm_X13_isMany ({ frames := 2, cells := 0, slots := 0, locals := 51 }) h0 ad cid [.int b] sg gm lg (fun r v => (iv 0 1 r) ∧ ((r.toInt = 0 ∧ ¬ mMny gm lg b.toNatClampNeg) ∨ (r.toInt = 1 ∧ mMny gm lg b.toNatClampNeg)) ∧ v = (sg, gm, lg)) := by
  intro sz
  refine Met.ofW (cc := cX13_isMany) (maxL := 2) (ret := (some .boolean)) (by decide) rfl ?_
  intro p e s m args below meth c s₁ B hml hv
  obtain ⟨rfl, hsz, hP, hK, hD0⟩ := hv
  have hx := B.exec
  have hb := B.bytes
  have hr := B.returns
  have hts := atoms_spec (ws := wm_X13_isMany) B.pre
  have htb := fun (w : Cond) (h : w ∈ tb) => hts w (List.mem_cons_of_mem _ h)
  have hown : s.vm.findClass RX13 = some m.cls := findClass_of_methodNamed B.named
  have hlocks := B.notSynchronized
  subst hsz
  have hD := hD0.self (sz := s.heap.size)
  generalize hAe : va_A (mW h0 ad cid sg gm lg) s.heap.size = A at hD ⊢
  have hA : ∀ q : Nat, s.heap.size ≤ q → A q := fun q h => by rw [← hAe]; exact Or.inr h
  have hS : va_S A s.heap s.heap [] := va_S.rf
  have hl := lv_entry ([.ref h0, .int b]) (n := 2) (Nat.le_of_ble_eq_true rfl)
  rw [lg_entry_eq]
  generalize (lg_sl ([.ref h0, .int b]) ++ List.replicate (2 - (lg_sl ([.ref h0, .int b])).length) Slot.unset).toArray = ls at hl ⊢
  have hl : lv_has ls 2 [(0, .ref h0), (1, .int b)] := hl
  have hj42 : ∀ (y0_42 : Int32) (_ : iv 0 79 b) (_ : iv 0 1 y0_42) (_ : (y0_42.toInt = 0 ∧ ¬ mMny gm lg b.toNatClampNeg) ∨ (y0_42.toInt = 1 ∧ mMny gm lg b.toNatClampNeg)) (H : Heap) (locs : List Loc) (ls : Array Slot), va_P (dC, dI) vwCl (mW h0 ad cid sg gm lg) H → va_D A (mW h0 ad cid sg gm lg) → va_S A s.heap H locs → lv_has ls 2 [(0, .ref h0), (1, .int b)] → W p l e (headSpec wm_X13_isMany ({ frames := 2, cells := 0, slots := 0, locals := 51 })).room s m ([.ref h0, .int b] : List Value).toArray below meth c H locs 0 0 (MQ below (va_Qi (fun r v => (iv 0 1 r) ∧ ((r.toInt = 0 ∧ ¬ mMny gm lg b.toNatClampNeg) ∨ (r.toInt = 1 ∧ mMny gm lg b.toNatClampNeg)) ∧ v = (sg, gm, lg)) (MB dC dI h0 ad cid A) A) ([.ref h0, .int b] : List Value).toArray s 0 0 A) (F0 m 42 ls [.int y0_42]) := by
    intro y0_42 hsx1_42 hy0_42 hm2 H locs ls hP hD hS hl
    exact W.zret (v := y0_42) hx hb hr (iv_nb hy0_42) (fun t ht hW => ⟨⟨y0_42, (sg, gm, lg), rfl, ⟨hy0_42, (hm2), rfl⟩, by rw [ht]; exact hP, va_K.moved hW.alike hK, hD⟩, hS.F ht⟩) hS.2.2 dX13_isMany_42
  have hj37 : ∀ (_ : iv 0 79 b) (_ : mMny gm lg b.toNatClampNeg) (H : Heap) (locs : List Loc) (ls : Array Slot), va_P (dC, dI) vwCl (mW h0 ad cid sg gm lg) H → va_D A (mW h0 ad cid sg gm lg) → va_S A s.heap H locs → lv_has ls 2 [(0, .ref h0), (1, .int b)] → W p l e (headSpec wm_X13_isMany ({ frames := 2, cells := 0, slots := 0, locals := 51 })).room s m ([.ref h0, .int b] : List Value).toArray below meth c H locs 0 0 (MQ below (va_Qi (fun r v => (iv 0 1 r) ∧ ((r.toInt = 0 ∧ ¬ mMny gm lg b.toNatClampNeg) ∨ (r.toInt = 1 ∧ mMny gm lg b.toNatClampNeg)) ∧ v = (sg, gm, lg)) (MB dC dI h0 ad cid A) A) ([.ref h0, .int b] : List Value).toArray s 0 0 A) (F0 m 37 ls []) := by
    intro  hsx1_37 hmy H locs ls hP hD hS hl
    refine lv_iconst (v := 1) hx hb dX13_isMany_37 (by decide) ?_
    refine lv_goto (tgt := 42) hx hb dX13_isMany_38 (by decide) ?_
    exact hj42 1 hsx1_37 (iv_w (iv_k (by decide) : iv 1 1 1) (by decide)) (Or.inr ⟨rfl, hmy⟩) _ _ _ hP hD hS (lv_sub hl [0, 1] rfl)
  refine lv_aload_n hx hb dX13_isMany_0 rfl (lv_at hl 0 rfl) ?_
  refine mr_get (v := .ref (ad 28)) hx hb htb inX13 hown hK hP 28 (by decide) (htb _ kw_184) rfl dX13_isMany_1 ?_
  refine lv_aload_n hx hb dX13_isMany_4 rfl (lv_at hl 0 rfl) ?_
  refine mr_get (v := .ref (ad 42)) hx hb htb inX13 hown hK hP 42 (by decide) (htb _ kw_196) rfl dX13_isMany_5 ?_
  refine lv_iload_n hx hb dX13_isMany_8 rfl (lv_at hl 1 rfl) ?_
  refine mr_iald hx hb hK hP 33 (k := 42) rfl rfl rfl (show vp_in b 80 from (iv_in hvb (by decide))) dX13_isMany_9 ?_
  refine lv_topi (fun z_1 ez_1 => ?_)
  have hz_1 : iv 0 79 z_1 := iv_of ez_1 (MI_a hI 42 hvb (by decide))
  refine mr_iald hx hb hK hP 21 (k := 28) rfl rfl rfl (show vp_in z_1 80 from (iv_in hz_1 (by decide))) dX13_isMany_10 ?_
  refine lv_topi (fun z_2 ez_2 => ?_)
  have hz_2 : iv (-1) 79 z_2 := iv_of ez_2 (MI_a hI 28 hz_1 (by decide))
  refine lv_if_ne (tgt := 37) hx hb dX13_isMany_11 (by decide) (fun c_3 => ?_) (fun c_3 => ?_)
  · have d_4 : ¬ (z_2 : Int32).toInt = 0 := lv_neT c_3 rfl
    exact hj37 hvb (Or.inl (by rw [← ez_1, ← ez_2]; exact c_3)) _ _ _ hP hD hS (lv_sub hl [0, 1] rfl)
  · have h_5 : iv 0 0 z_2 := iv_eq c_3 hz_2 (iv_k (by decide) : iv 0 0 0) (by decide)
    refine lv_aload_n hx hb dX13_isMany_14 rfl (lv_at hl 0 rfl) ?_
    refine lv_aload_n hx hb dX13_isMany_15 rfl (lv_at hl 0 rfl) ?_
    refine mr_get (v := .ref (ad 42)) hx hb htb inX13 hown hK hP 42 (by decide) (htb _ kw_196) rfl dX13_isMany_16 ?_
    refine lv_iload_n hx hb dX13_isMany_19 rfl (lv_at hl 1 rfl) ?_
    refine mr_iald hx hb hK hP 33 (k := 42) rfl rfl rfl (show vp_in b 80 from (iv_in hvb (by decide))) dX13_isMany_20 ?_
    refine lv_topi (fun z_6 ez_6 => ?_)
    obtain rfl : z_1 = z_6 := ez_1.trans ez_6.symm
    refine lv_ldc2 (own := RX13) (v := 495589486693) hx hb hown (htb _ kw_903) dX13_isMany_21 ?_
    refine mr_calll (rest := []) ⟨hx, hb, hml, hown, htb⟩ (f_word l dC dI h0 ad cid sg gm lg z_1 495589486693 hI hz_1) (cwV 2 htb (gd_V kw_923 kw_924 kw_925 kw_5 kw_1545) rfl rfl rfl (by decide +kernel) ⟨Nat.le_of_ble_eq_true rfl, Nat.le_of_ble_eq_true rfl⟩) rfl hl.1 rfl (Nat.le_of_ble_eq_true rfl) dX13_isMany_24 ⟨Nat.zero_le _, Nat.zero_le _⟩ hK hP hD hS hA (fun r_7 u_8 H locs hw hP hD hS => ?_)
    obtain ⟨fW_r_7, rfl⟩ := hw
    have hP : va_P (dC, dI) vwCl (mW h0 ad cid sg gm lg) H := hP
    have hD : va_D A (mW h0 ad cid sg gm lg) := hD
    refine lv_aload_n hx hb dX13_isMany_27 rfl (lv_at hl 0 rfl) ?_
    refine mr_get (v := .ref (ad 1)) hx hb htb inX13 hown hK hP 1 (by decide) (htb _ kw_156) rfl dX13_isMany_28 ?_
    refine lv_iconst (v := 3) hx hb dX13_isMany_31 (by decide) ?_
    refine mr_lald hx hb hK hP 1 (k := 1) rfl rfl rfl (show vp_in 3 11 from (iv_in (iv_k (by decide) : iv 3 3 3) (by decide))) dX13_isMany_32 ?_
    refine lv_topl (fun z_9 ez_9 => ?_)
    refine W.lcmp hx hb dX13_isMany_33 ?_
    refine lv_topi (fun z_10 ez_10 => ?_)
    have hz_10 : iv (-1) 1 z_10 := iv_of ez_10 (iv_cmp _ _)
    refine lv_if_ne (tgt := 41) hx hb dX13_isMany_34 (by decide) (fun c_11 => ?_) (fun c_11 => ?_)
    · have d_12 : ¬ (z_10 : Int32).toInt = 0 := lv_neT c_11 rfl
      refine lv_iconst (v := 0) hx hb dX13_isMany_41 (by decide) ?_
      exact hj42 0 hvb (iv_w (iv_k (by decide) : iv 0 0 0) (by decide)) (Or.inl ⟨rfl, fun q9 => q9.elim (fun q8 => q8 (by rw [← ez_1, ← ez_2]; exact c_3)) (fun q8 => c_11 (ez_10.trans ((lg_cmp_eq _ _).mpr (by rw [fW_r_7, ez_1, ez_9]; exact q8))))⟩) _ _ _ hP hD hS (lv_sub hl [0, 1] rfl)
    · have h_13 : iv 0 0 z_10 := iv_eq c_11 hz_10 (iv_k (by decide) : iv 0 0 0) (by decide)
      exact hj37 hvb (Or.inr (by rw [← ez_1, ← fW_r_7]; exact ((lg_cmp_eq _ _).mp (ez_10.symm.trans c_11)).trans ez_9)) _ _ _ hP hD hS (lv_sub hl [0, 1] rfl)

set_option maxHeartbeats 4000000 in
set_option maxRecDepth 100000 in
theorem a_isAbstract (l : Launch) (dC : Nat → ClassId) (dI : Nat → Nat → Nat) (h0 : Nat) (ad : Nat → Nat) (cid : Nat → ClassId) (sg : Nat → Int32) (gm : Nat → Nat → Int32) (lg : Nat → Nat → Int64) (b : Int32) (hI : MI sg gm) (hvb : iv 0 79 b) : MMi l dC dI yX13_isAbstract wm_X13_isAbstract ({ frames := 2, cells := 0, slots := 0, locals := 51 }) h0 ad cid [.int b] sg gm lg (fun r v => (iv 0 1 r) ∧ v = (sg, gm, lg)) := by
  intro sz
  refine Met.ofW (cc := cX13_isAbstract) (maxL := 2) (ret := (some .boolean)) (by decide) rfl ?_
  intro p e s m args below meth c s₁ B hml hv
  obtain ⟨rfl, hsz, hP, hK, hD0⟩ := hv
  have hx := B.exec
  have hb := B.bytes
  have hr := B.returns
  have hts := atoms_spec (ws := wm_X13_isAbstract) B.pre
  have htb := fun (w : Cond) (h : w ∈ tb) => hts w (List.mem_cons_of_mem _ h)
  have hown : s.vm.findClass RX13 = some m.cls := findClass_of_methodNamed B.named
  have hlocks := B.notSynchronized
  subst hsz
  have hD := hD0.self (sz := s.heap.size)
  generalize hAe : va_A (mW h0 ad cid sg gm lg) s.heap.size = A at hD ⊢
  have hA : ∀ q : Nat, s.heap.size ≤ q → A q := fun q h => by rw [← hAe]; exact Or.inr h
  have hS : va_S A s.heap s.heap [] := va_S.rf
  have hl := lv_entry ([.ref h0, .int b]) (n := 2) (Nat.le_of_ble_eq_true rfl)
  rw [lg_entry_eq]
  generalize (lg_sl ([.ref h0, .int b]) ++ List.replicate (2 - (lg_sl ([.ref h0, .int b])).length) Slot.unset).toArray = ls at hl ⊢
  have hl : lv_has ls 2 [(0, .ref h0), (1, .int b)] := hl
  have hj28 : ∀ (y0_28 : Int32) (_ : iv 0 79 b) (_ : iv 0 1 y0_28) (H : Heap) (locs : List Loc) (ls : Array Slot), va_P (dC, dI) vwCl (mW h0 ad cid sg gm lg) H → va_D A (mW h0 ad cid sg gm lg) → va_S A s.heap H locs → lv_has ls 2 [(0, .ref h0), (1, .int b)] → W p l e (headSpec wm_X13_isAbstract ({ frames := 2, cells := 0, slots := 0, locals := 51 })).room s m ([.ref h0, .int b] : List Value).toArray below meth c H locs 0 0 (MQ below (va_Qi (fun r v => (iv 0 1 r) ∧ v = (sg, gm, lg)) (MB dC dI h0 ad cid A) A) ([.ref h0, .int b] : List Value).toArray s 0 0 A) (F0 m 28 ls [.int y0_28]) := by
    intro y0_28 hsx1_28 hy0_28 H locs ls hP hD hS hl
    exact W.zret (v := y0_28) hx hb hr (iv_nb hy0_28) (fun t ht hW => ⟨⟨y0_28, (sg, gm, lg), rfl, ⟨hy0_28, rfl⟩, by rw [ht]; exact hP, va_K.moved hW.alike hK, hD⟩, hS.F ht⟩) hS.2.2 dX13_isAbstract_28
  refine lv_aload_n hx hb dX13_isAbstract_0 rfl (lv_at hl 0 rfl) ?_
  refine lv_aload_n hx hb dX13_isAbstract_1 rfl (lv_at hl 0 rfl) ?_
  refine mr_get (v := .ref (ad 42)) hx hb htb inX13 hown hK hP 42 (by decide) (htb _ kw_196) rfl dX13_isAbstract_2 ?_
  refine lv_iload_n hx hb dX13_isAbstract_5 rfl (lv_at hl 1 rfl) ?_
  refine mr_iald hx hb hK hP 33 (k := 42) rfl rfl rfl (show vp_in b 80 from (iv_in hvb (by decide))) dX13_isAbstract_6 ?_
  refine lv_topi (fun z_1 ez_1 => ?_)
  have hz_1 : iv 0 79 z_1 := iv_of ez_1 (MI_a hI 42 hvb (by decide))
  refine lv_ldc2 (own := RX13) (v := 7017298113369039732) hx hb hown (htb _ kw_902) dX13_isAbstract_7 ?_
  refine mr_calll (rest := []) ⟨hx, hb, hml, hown, htb⟩ (f_word l dC dI h0 ad cid sg gm lg z_1 7017298113369039732 hI hz_1) (cwV 2 htb (gd_V kw_923 kw_924 kw_925 kw_5 kw_1545) rfl rfl rfl (by decide +kernel) ⟨Nat.le_of_ble_eq_true rfl, Nat.le_of_ble_eq_true rfl⟩) rfl hl.1 rfl (Nat.le_of_ble_eq_true rfl) dX13_isAbstract_10 ⟨Nat.zero_le _, Nat.zero_le _⟩ hK hP hD hS hA (fun r_2 u_3 H locs hw hP hD hS => ?_)
  obtain ⟨fW_r_2, rfl⟩ := hw
  have hP : va_P (dC, dI) vwCl (mW h0 ad cid sg gm lg) H := hP
  have hD : va_D A (mW h0 ad cid sg gm lg) := hD
  refine lv_aload_n hx hb dX13_isAbstract_13 rfl (lv_at hl 0 rfl) ?_
  refine mr_get (v := .ref (ad 1)) hx hb htb inX13 hown hK hP 1 (by decide) (htb _ kw_156) rfl dX13_isAbstract_14 ?_
  refine lv_iconst (v := 0) hx hb dX13_isAbstract_17 (by decide) ?_
  refine mr_lald hx hb hK hP 1 (k := 1) rfl rfl rfl (show vp_in 0 11 from (iv_in (iv_k (by decide) : iv 0 0 0) (by decide))) dX13_isAbstract_18 ?_
  refine lv_topl (fun z_4 ez_4 => ?_)
  refine W.lcmp hx hb dX13_isAbstract_19 ?_
  refine lv_topi (fun z_5 ez_5 => ?_)
  have hz_5 : iv (-1) 1 z_5 := iv_of ez_5 (iv_cmp _ _)
  refine lv_if_ne (tgt := 27) hx hb dX13_isAbstract_20 (by decide) (fun c_6 => ?_) (fun c_6 => ?_)
  · have d_7 : ¬ (z_5 : Int32).toInt = 0 := lv_neT c_6 rfl
    refine lv_iconst (v := 0) hx hb dX13_isAbstract_27 (by decide) ?_
    exact hj28 0 hvb (iv_w (iv_k (by decide) : iv 0 0 0) (by decide)) _ _ _ hP hD hS (lv_sub hl [0, 1] rfl)
  · have h_8 : iv 0 0 z_5 := iv_eq c_6 hz_5 (iv_k (by decide) : iv 0 0 0) (by decide)
    refine lv_iconst (v := 1) hx hb dX13_isAbstract_23 (by decide) ?_
    refine lv_goto (tgt := 28) hx hb dX13_isAbstract_24 (by decide) ?_
    exact hj28 1 hvb (iv_w (iv_k (by decide) : iv 1 1 1) (by decide)) _ _ _ hP hD hS (lv_sub hl [0, 1] rfl)

theorem wid_lt {sg : Nat → Int32} {gm : Nat → Nat → Int32} {lg : Nat → Nat → Int64} {w : Int64} {r : Int32} (hn : iv 0 80 (sg 41)) (hr : r = mWid sg gm lg w) : r.toInt < (sg 41).toInt := by
  rcases (mWid_iv (sg := sg) (gm := gm) (lg := lg) w hn).2 with q | q
  · rw [hr]; exact q
  · rw [hr, q]; have := hn.1; show (-1 : Int) < _; omega

set_option maxHeartbeats 4000000 in
set_option maxRecDepth 100000 in
theorem f_called (l : Launch) (dC : Nat → ClassId) (dI : Nat → Nat → Nat) (h0 : Nat) (ad : Nat → Nat) (cid : Nat → ClassId) (sg : Nat → Int32) (gm : Nat → Nat → Int32) (lg : Nat → Nat → Int64) (w : Int64) (hI : MI sg gm) : MMi l dC dI yX13_called wm_X13_called ({ frames := 3, cells := 0, slots := 0, locals := 74 }) h0 ad cid [.long w] sg gm lg (fun r v => (iv (-1) 79 r) ∧ (r.toInt < (sg 41).toInt) ∧ v = (sg, gm, lg)) := by
  intro sz
  refine Met.ofW (cc := cX13_called) (maxL := 10) (ret := (some .int)) (by decide) rfl ?_
  intro p e s m args below meth c s₁ B hml hv
  obtain ⟨rfl, hsz, hP, hK, hD0⟩ := hv
  have hx := B.exec
  have hb := B.bytes
  have hr := B.returns
  have hts := atoms_spec (ws := wm_X13_called) B.pre
  have htb := fun (w : Cond) (h : w ∈ tb) => hts w (List.mem_cons_of_mem _ h)
  have hown : s.vm.findClass RX13 = some m.cls := findClass_of_methodNamed B.named
  have hlocks := B.notSynchronized
  subst hsz
  have hD := hD0.self (sz := s.heap.size)
  generalize hAe : va_A (mW h0 ad cid sg gm lg) s.heap.size = A at hD ⊢
  have hA : ∀ q : Nat, s.heap.size ≤ q → A q := fun q h => by rw [← hAe]; exact Or.inr h
  have hS : va_S A s.heap s.heap [] := va_S.rf
  have hl := lv_entry ([.ref h0, .long w]) (n := 10) (Nat.le_of_ble_eq_true rfl)
  rw [lg_entry_eq]
  generalize (lg_sl ([.ref h0, .long w]) ++ List.replicate (10 - (lg_sl ([.ref h0, .long w])).length) Slot.unset).toArray = ls at hl ⊢
  have hl : lv_has ls 10 [(0, .ref h0), (1, .long w)] := hl
  have hj5 : ∀ (n : Nat) (x5_5 : Int32) (x3_5 : Int64) (_ : (23 - x5_5.toInt).toNat = n) (_ : iv 0 23 x5_5) (H : Heap) (locs : List Loc) (ls : Array Slot), va_P (dC, dI) vwCl (mW h0 ad cid sg gm lg) H → va_D A (mW h0 ad cid sg gm lg) → va_S A s.heap H locs → lv_has ls 10 [(5, .int x5_5), (3, .long x3_5), (0, .ref h0), (1, .long w)] → W p l e (headSpec wm_X13_called ({ frames := 3, cells := 0, slots := 0, locals := 74 })).room s m ([.ref h0, .long w] : List Value).toArray below meth c H locs 0 0 (MQ below (va_Qi (fun r v => (iv (-1) 79 r) ∧ (r.toInt < (sg 41).toInt) ∧ v = (sg, gm, lg)) (MB dC dI h0 ad cid A) A) ([.ref h0, .long w] : List Value).toArray s 0 0 A) (F0 m 5 ls []) := by
    intro n
    induction n using Nat.strongRecOn with
    | ind n ih5 =>
      intro x5_5 x3_5 hn5 hx5_5 H locs ls hP hD hS hl
      have hj36 : ∀ (n : Nat) (x9_36 : Int32) (x7_36 : Int64) (x6_36 : Int32) (_ : (80 - x9_36.toInt).toNat = n) (_ : iv 1 80 x9_36) (_ : iv (-1) (-1) x6_36) (_ : iv 0 20 x5_5) (H : Heap) (locs : List Loc) (ls : Array Slot), va_P (dC, dI) vwCl (mW h0 ad cid sg gm lg) H → va_D A (mW h0 ad cid sg gm lg) → va_S A s.heap H locs → lv_has ls 10 [(9, .int x9_36), (7, .long x7_36), (6, .int x6_36), (5, .int x5_5), (3, .long x3_5), (0, .ref h0), (1, .long w)] → W p l e (headSpec wm_X13_called ({ frames := 3, cells := 0, slots := 0, locals := 74 })).room s m ([.ref h0, .long w] : List Value).toArray below meth c H locs 0 0 (MQ below (va_Qi (fun r v => (iv (-1) 79 r) ∧ (r.toInt < (sg 41).toInt) ∧ v = (sg, gm, lg)) (MB dC dI h0 ad cid A) A) ([.ref h0, .long w] : List Value).toArray s 0 0 A) (F0 m 36 ls []) := by
        intro n
        induction n using Nat.strongRecOn with
        | ind n ih36 =>
          intro x9_36 x7_36 x6_36 hn36 hx9_36 hx6_36 hsx5_36 H locs ls hP hD hS hl
          have hj84 : ∀ (y0_84 : Int64) (_ : iv 1 79 x9_36) (_ : iv (-1) (-1) x6_36) (_ : iv 0 20 x5_5) (H : Heap) (locs : List Loc) (ls : Array Slot), va_P (dC, dI) vwCl (mW h0 ad cid sg gm lg) H → va_D A (mW h0 ad cid sg gm lg) → va_S A s.heap H locs → lv_has ls 10 [(9, .int x9_36), (7, .long x7_36), (6, .int x6_36), (5, .int x5_5), (3, .long x3_5), (0, .ref h0), (1, .long w)] → W p l e (headSpec wm_X13_called ({ frames := 3, cells := 0, slots := 0, locals := 74 })).room s m ([.ref h0, .long w] : List Value).toArray below meth c H locs 0 0 (MQ below (va_Qi (fun r v => (iv (-1) 79 r) ∧ (r.toInt < (sg 41).toInt) ∧ v = (sg, gm, lg)) (MB dC dI h0 ad cid A) A) ([.ref h0, .long w] : List Value).toArray s 0 0 A) (F0 m 84 ls [.long y0_84]) := by
            intro y0_84 hsx9_84 hsx6_84 hsx5_84 H locs ls hP hD hS hl
            refine lv_lstore (lv' := [(7, .long y0_84), (9, .int x9_36), (6, .int x6_36), (5, .int x5_5), (3, .long x3_5), (0, .ref h0), (1, .long w)]) hx hb dX13_called_84 hl (by decide) rfl (fun ls hl => ?_)
            obtain ⟨z_1, ez_1⟩ : ∃ z : Int32, z = x9_36 + 1 := ⟨_, rfl⟩
            have hz_1 : iv 2 80 z_1 := iv_of ez_1 (iv_add hsx9_84 (iv_k (by decide) : iv 1 1 1) (by decide))
            have tz_1 : z_1.toInt = x9_36.toInt + 1 := by rw [ez_1]; exact iv_addE hsx9_84 (iv_k (by decide) : iv 1 1 1) (by decide)
            refine lv_iinc (v := z_1) (lv' := [(9, .int z_1), (7, .long y0_84), (6, .int x6_36), (5, .int x5_5), (3, .long x3_5), (0, .ref h0), (1, .long w)]) hx hb dX13_called_86 hl (k := 1) rfl ez_1.symm (by decide) rfl (fun ls hl => ?_)
            refine lv_goto (tgt := 36) hx hb dX13_called_89 (by decide) ?_
            exact ih36 _ (by rw [← hn36]; exact (iv_meas tz_1 hsx9_84 (by decide))) z_1 y0_84 x6_36 rfl (iv_w hz_1 (by decide)) hsx6_84 hsx5_84 _ _ _ hP hD hS (lv_sub hl [0, 1, 2, 3, 4, 5, 6] rfl)
          have hj82 : ∀ (_ : iv 1 79 x9_36) (_ : iv (-1) (-1) x6_36) (_ : iv 0 20 x5_5) (H : Heap) (locs : List Loc) (ls : Array Slot), va_P (dC, dI) vwCl (mW h0 ad cid sg gm lg) H → va_D A (mW h0 ad cid sg gm lg) → va_S A s.heap H locs → lv_has ls 10 [(9, .int x9_36), (7, .long x7_36), (6, .int x6_36), (5, .int x5_5), (3, .long x3_5), (0, .ref h0), (1, .long w)] → W p l e (headSpec wm_X13_called ({ frames := 3, cells := 0, slots := 0, locals := 74 })).room s m ([.ref h0, .long w] : List Value).toArray below meth c H locs 0 0 (MQ below (va_Qi (fun r v => (iv (-1) 79 r) ∧ (r.toInt < (sg 41).toInt) ∧ v = (sg, gm, lg)) (MB dC dI h0 ad cid A) A) ([.ref h0, .long w] : List Value).toArray s 0 0 A) (F0 m 82 ls []) := by
            intro  hsx9_82 hsx6_82 hsx5_82 H locs ls hP hD hS hl
            refine lv_lload hx hb dX13_called_82 (lv_at hl 1 rfl) ?_
            exact hj84 x7_36 hsx9_82 hsx6_82 hsx5_82 _ _ _ hP hD hS (lv_sub hl [0, 1, 2, 3, 4, 5, 6] rfl)
          refine lv_iload hx hb dX13_called_36 (lv_at hl 0 rfl) ?_
          refine lv_aload_n hx hb dX13_called_38 rfl (lv_at hl 5 rfl) ?_
          refine mr_get (v := .int (sg 24)) hx hb htb inX13 hown hK hP 24 (by decide) (htb _ kw_815) rfl dX13_called_39 ?_
          refine lv_icmp_ge (tgt := 92) hx hb dX13_called_42 (by decide) (fun c_2 => ?_) (fun c_2 => ?_)
          · have d_3 : ((sg 24) : Int32).toInt ≤ (x9_36 : Int32).toInt := Int32.le_iff_toInt_le.mp c_2
            refine lv_lload hx hb dX13_called_92 (lv_at hl 1 rfl) ?_
            refine lv_lconst (v := 0) hx hb dX13_called_94 (by decide) ?_
            refine W.lcmp hx hb dX13_called_95 ?_
            refine lv_topi (fun z_4 ez_4 => ?_)
            have hz_4 : iv (-1) 1 z_4 := iv_of ez_4 (iv_cmp _ _)
            refine lv_if_ge (tgt := 101) hx hb dX13_called_96 (by decide) (fun c_5 => ?_) (fun c_5 => ?_)
            · have h_6 : iv 0 1 z_4 := iv_leR c_5 (iv_k (by decide) : iv 0 0 0) hz_4 (by decide)
              refine lv_lload hx hb dX13_called_101 (lv_at hl 1 rfl) ?_
              refine lv_lstore_n (lv' := [(3, .long x7_36), (9, .int x9_36), (7, .long x7_36), (6, .int x6_36), (5, .int x5_5), (0, .ref h0), (1, .long w)]) hx hb dX13_called_103 rfl hl (by decide) rfl (fun ls hl => ?_)
              obtain ⟨z_7, ez_7⟩ : ∃ z : Int32, z = x5_5 + 1 := ⟨_, rfl⟩
              have hz_7 : iv 1 21 z_7 := iv_of ez_7 (iv_add hsx5_36 (iv_k (by decide) : iv 1 1 1) (by decide))
              have tz_7 : z_7.toInt = x5_5.toInt + 1 := by rw [ez_7]; exact iv_addE hsx5_36 (iv_k (by decide) : iv 1 1 1) (by decide)
              refine lv_iinc (v := z_7) (lv' := [(5, .int z_7), (3, .long x7_36), (9, .int x9_36), (7, .long x7_36), (6, .int x6_36), (0, .ref h0), (1, .long w)]) hx hb dX13_called_104 hl (k := 4) rfl ez_7.symm (by decide) rfl (fun ls hl => ?_)
              refine lv_goto (tgt := 5) hx hb dX13_called_107 (by decide) ?_
              exact ih5 _ (by rw [← hn5]; exact (iv_meas tz_7 hsx5_36 (by decide))) z_7 x7_36 rfl (iv_w hz_7 (by decide)) _ _ _ hP hD hS (lv_sub hl [0, 1, 5, 6] rfl)
            · have h_8 : iv (-1) (-1) z_4 := iv_ltL (i32_lt c_5) hz_4 (iv_k (by decide) : iv 0 0 0) (by decide)
              refine lv_iconst (v := (-1)) hx hb dX13_called_99 (by decide) ?_
              exact W.iret (v := (-1)) hx hb hr (fun t ht hW => ⟨⟨(-1), (sg, gm, lg), rfl, ⟨(iv_w (iv_k (by decide) : iv (-1) (-1) (-1)) (by decide)), (by have := i32_0; have := i32_1; have := i32_2; have := i32_m1; have := (show iv 0 80 (sg 41) from MI_s hI 41).1; have := (show iv 0 80 (sg 41) from MI_s hI 41).2; have := (hsx5_36).1; have := (hsx5_36).2; have := (hx9_36).1; have := (hx9_36).2; have := (hx6_36).1; have := (hx6_36).2; have := ((show iv 0 80 (sg 24) from MI_s hI 24)).1; have := ((show iv 0 80 (sg 24) from MI_s hI 24)).2; have := (h_8).1; have := (h_8).2; omega), rfl⟩, by rw [ht]; exact hP, va_K.moved hW.alike hK, hD⟩, hS.F ht⟩) hS.2.2 dX13_called_100
          · have d_9 : (x9_36 : Int32).toInt < ((sg 24) : Int32).toInt := Int32.lt_iff_toInt_lt.mp (i32_lt c_2)
            have h_10 : iv 1 79 x9_36 := iv_ltL (i32_lt c_2) hx9_36 (show iv 0 80 (sg 24) from MI_s hI 24) (by decide)
            have h_11 : iv 2 80 (sg 24) := iv_ltR (i32_lt c_2) hx9_36 (show iv 0 80 (sg 24) from MI_s hI 24) (by decide)
            refine lv_aload_n hx hb dX13_called_45 rfl (lv_at hl 5 rfl) ?_
            refine mr_get (v := .ref (ad 26)) hx hb htb inX13 hown hK hP 26 (by decide) (htb _ kw_182) rfl dX13_called_46 ?_
            refine lv_iload hx hb dX13_called_49 (lv_at hl 0 rfl) ?_
            refine mr_iald hx hb hK hP 19 (k := 26) rfl rfl rfl (show vp_in x9_36 80 from (iv_in h_10 (by decide))) dX13_called_51 ?_
            refine lv_topi (fun z_12 ez_12 => ?_)
            have hz_12 : iv 0 10 z_12 := iv_of ez_12 (MI_a hI 26 h_10 (by decide))
            refine lv_iconst (v := 2) hx hb dX13_called_52 (by decide) ?_
            refine lv_icmp_ne (tgt := 82) hx hb dX13_called_53 (by decide) (fun c_13 => ?_) (fun c_13 => ?_)
            · have d_14 : ¬ (z_12 : Int32).toInt = 2 := lv_neT c_13 rfl
              exact hj82 h_10 hx6_36 hsx5_36 _ _ _ hP hD hS (lv_sub hl [0, 1, 2, 3, 4, 5, 6] rfl)
            · have h_15 : iv 2 2 z_12 := iv_eq c_13 hz_12 (iv_k (by decide) : iv 2 2 2) (by decide)
              refine lv_aload_n hx hb dX13_called_56 rfl (lv_at hl 5 rfl) ?_
              refine lv_iload hx hb dX13_called_57 (lv_at hl 0 rfl) ?_
              refine lv_ldc2 (own := RX13) (v := 29807) hx hb hown (htb _ kw_888) dX13_called_59 ?_
              refine mr_calll (rest := []) ⟨hx, hb, hml, hown, htb⟩ (f_word l dC dI h0 ad cid sg gm lg x9_36 29807 hI (iv_w h_10 (by decide))) (cwV 2 htb (gd_V kw_923 kw_924 kw_925 kw_5 kw_1545) rfl rfl rfl (by decide +kernel) ⟨Nat.le_of_ble_eq_true rfl, Nat.le_of_ble_eq_true rfl⟩) rfl hl.1 rfl (Nat.le_of_ble_eq_true rfl) dX13_called_62 ⟨Nat.zero_le _, Nat.zero_le _⟩ hK hP hD hS hA (fun r_16 u_17 H locs hw hP hD hS => ?_)
              obtain ⟨fW_r_16, rfl⟩ := hw
              have hP : va_P (dC, dI) vwCl (mW h0 ad cid sg gm lg) H := hP
              have hD : va_D A (mW h0 ad cid sg gm lg) := hD
              refine lv_lload_n hx hb dX13_called_65 rfl (lv_at hl 4 rfl) ?_
              refine W.lcmp hx hb dX13_called_66 ?_
              refine lv_topi (fun z_18 ez_18 => ?_)
              have hz_18 : iv (-1) 1 z_18 := iv_of ez_18 (iv_cmp _ _)
              refine lv_if_ne (tgt := 82) hx hb dX13_called_67 (by decide) (fun c_19 => ?_) (fun c_19 => ?_)
              · have d_20 : ¬ (z_18 : Int32).toInt = 0 := lv_neT c_19 rfl
                exact hj82 h_10 hx6_36 hsx5_36 _ _ _ hP hD hS (lv_sub hl [0, 1, 2, 3, 4, 5, 6] rfl)
              · have h_21 : iv 0 0 z_18 := iv_eq c_19 hz_18 (iv_k (by decide) : iv 0 0 0) (by decide)
                refine lv_aload_n hx hb dX13_called_70 rfl (lv_at hl 5 rfl) ?_
                refine lv_iload hx hb dX13_called_71 (lv_at hl 0 rfl) ?_
                refine lv_ldc2 (own := RX13) (v := 1851878757) hx hb hown (htb _ kw_887) dX13_called_73 ?_
                refine mr_calll (rest := []) ⟨hx, hb, hml, hown, htb⟩ (f_word l dC dI h0 ad cid sg gm lg x9_36 1851878757 hI (iv_w h_10 (by decide))) (cwV 2 htb (gd_V kw_923 kw_924 kw_925 kw_5 kw_1545) rfl rfl rfl (by decide +kernel) ⟨Nat.le_of_ble_eq_true rfl, Nat.le_of_ble_eq_true rfl⟩) rfl hl.1 rfl (Nat.le_of_ble_eq_true rfl) dX13_called_76 ⟨Nat.zero_le _, Nat.zero_le _⟩ hK hP hD hS hA (fun r_22 u_23 H locs hw hP hD hS => ?_)
                obtain ⟨fW_r_22, rfl⟩ := hw
                have hP : va_P (dC, dI) vwCl (mW h0 ad cid sg gm lg) H := hP
                have hD : va_D A (mW h0 ad cid sg gm lg) := hD
                refine lv_goto (tgt := 84) hx hb dX13_called_79 (by decide) ?_
                exact hj84 r_22 h_10 hx6_36 hsx5_36 _ _ _ hP hD hS (lv_sub hl [0, 1, 2, 3, 4, 5, 6] rfl)
      refine lv_iload hx hb dX13_called_5 (lv_at hl 0 rfl) ?_
      refine lv_bipush (v := 21) hx hb dX13_called_7 (by decide) ?_
      refine lv_icmp_ge (tgt := 110) hx hb dX13_called_9 (by decide) (fun c_24 => ?_) (fun c_24 => ?_)
      · have h_25 : iv 21 23 x5_5 := iv_leR c_24 (iv_k (by decide) : iv 21 21 21) hx5_5 (by decide)
        refine lv_iconst (v := (-1)) hx hb dX13_called_110 (by decide) ?_
        exact W.iret (v := (-1)) hx hb hr (fun t ht hW => ⟨⟨(-1), (sg, gm, lg), rfl, ⟨(iv_w (iv_k (by decide) : iv (-1) (-1) (-1)) (by decide)), (by have := i32_0; have := i32_1; have := i32_2; have := i32_m1; have := (show iv 0 80 (sg 41) from MI_s hI 41).1; have := (show iv 0 80 (sg 41) from MI_s hI 41).2; have := (h_25).1; have := (h_25).2; omega), rfl⟩, by rw [ht]; exact hP, va_K.moved hW.alike hK, hD⟩, hS.F ht⟩) hS.2.2 dX13_called_111
      · have h_26 : iv 0 20 x5_5 := iv_ltL (i32_lt c_24) hx5_5 (iv_k (by decide) : iv 21 21 21) (by decide)
        refine lv_aload_n hx hb dX13_called_12 rfl (lv_at hl 2 rfl) ?_
        refine lv_lload_n hx hb dX13_called_13 rfl (lv_at hl 1 rfl) ?_
        refine mr_calli (rest := []) ⟨hx, hb, hml, hown, htb⟩ (f_withId l dC dI h0 ad cid sg gm lg x3_5 hI) (cwV 1 htb (gd_V kw_952 kw_953 kw_954 kw_5 kw_1554) rfl rfl rfl (by decide +kernel) ⟨Nat.le_of_ble_eq_true rfl, Nat.le_of_ble_eq_true rfl⟩) rfl hl.1 rfl (Nat.le_of_ble_eq_true rfl) dX13_called_14 ⟨Nat.zero_le _, Nat.zero_le _⟩ hK hP hD hS hA (fun r_27 u_28 H locs hw hP hD hS => ?_)
        obtain ⟨hr_27, fD_r_27, rfl⟩ := hw
        have hP : va_P (dC, dI) vwCl (mW h0 ad cid sg gm lg) H := hP
        have hD : va_D A (mW h0 ad cid sg gm lg) := hD
        refine lv_istore (lv' := [(6, .int r_27), (5, .int x5_5), (3, .long x3_5), (0, .ref h0), (1, .long w)]) hx hb dX13_called_17 hl (by decide) rfl (fun ls hl => ?_)
        refine lv_iload hx hb dX13_called_19 (lv_at hl 0 rfl) ?_
        refine lv_iconst (v := (-1)) hx hb dX13_called_21 (by decide) ?_
        refine lv_icmp_eq (tgt := 28) hx hb dX13_called_22 (by decide) (fun c_29 => ?_) (fun c_29 => ?_)
        · have h_30 : iv (-1) (-1) r_27 := iv_eq c_29 hr_27 (iv_k (by decide) : iv (-1) (-1) (-1)) (by decide)
          refine lv_ldc2 (own := RX13) (v := (-1)) hx hb hown (htb _ kw_926) dX13_called_28 ?_
          refine lv_lstore (lv' := [(7, .long (-1)), (6, .int r_27), (5, .int x5_5), (3, .long x3_5), (0, .ref h0), (1, .long w)]) hx hb dX13_called_31 hl (by decide) rfl (fun ls hl => ?_)
          refine lv_iconst (v := 1) hx hb dX13_called_33 (by decide) ?_
          refine lv_istore (lv' := [(9, .int 1), (7, .long (-1)), (6, .int r_27), (5, .int x5_5), (3, .long x3_5), (0, .ref h0), (1, .long w)]) hx hb dX13_called_34 hl (by decide) rfl (fun ls hl => ?_)
          exact hj36 _ 1 (-1) r_27 rfl (iv_w (iv_k (by decide) : iv 1 1 1) (by decide)) h_30 h_26 _ _ _ hP hD hS (lv_sub hl [0, 1, 2, 3, 4, 5, 6] rfl)
        · have h_31 : iv 0 79 r_27 := iv_neL c_29 hr_27 (by decide)
          refine lv_iload hx hb dX13_called_25 (lv_at hl 0 rfl) ?_
          exact W.iret (v := r_27) hx hb hr (fun t ht hW => ⟨⟨r_27, (sg, gm, lg), rfl, ⟨(iv_w h_31 (by decide)), (wid_lt (show iv 0 80 (sg 41) from MI_s hI 41) fD_r_27), rfl⟩, by rw [ht]; exact hP, va_K.moved hW.alike hK, hD⟩, hS.F ht⟩) hS.2.2 dX13_called_27
  refine lv_lload_n hx hb dX13_called_0 rfl (lv_at hl 1 rfl) ?_
  refine lv_lstore_n (lv' := [(3, .long w), (0, .ref h0), (1, .long w)]) hx hb dX13_called_1 rfl hl (by decide) rfl (fun ls hl => ?_)
  refine lv_iconst (v := 0) hx hb dX13_called_2 (by decide) ?_
  refine lv_istore (lv' := [(5, .int 0), (3, .long w), (0, .ref h0), (1, .long w)]) hx hb dX13_called_3 hl (by decide) rfl (fun ls hl => ?_)
  exact hj5 _ 0 w rfl (iv_w (iv_k (by decide) : iv 0 0 0) (by decide)) _ _ _ hP hD hS (lv_sub hl [0, 1, 2, 3] rfl)
