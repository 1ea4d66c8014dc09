def BI (gm : Nat → Nat → Int32) (lg : Nat → Nat → Int64) (b : Nat) : Prop := ¬ gm 61 b = 0 → 0 ≤ (gm 60 b).toInt ∧ ¬ mMny gm lg b ∧ gm 62 b = 0
def cnt1 (f : Nat → Int32) : Nat → Nat
  | 0 => 0
  | k + 1 => cnt1 f k + (if f k = 0 then 0 else 1)
/-- what holds of the beans that are made, and of the values -/
def GI0 (sg : Nat → Int32) (gm : Nat → Nat → Int32) (lg : Nat → Nat → Int64) : Prop := VAL gm ∧ (∀ b, b < 80 → BI gm lg b) ∧ (sg 50).toInt ≤ (cnt1 (gm 61) 80 : Int)
theorem mMny_k {sg sg2 : Nat → Int32} {gm gm2 : Nat → Nat → Int32} {lg lg2 : Nat → Nat → Int64} (h : DK sg gm lg sg2 gm2 lg2) (h1 : lg2 1 = lg 1) (b : Nat) : mMny gm2 lg2 b = mMny gm lg b := by
  have f := mWord_k h.1
  obtain ⟨⟨h24, h26, h28, h29, h30, h36, h37, h38, h35⟩, h41, h42, h43⟩ := h
  unfold mMny; rw [h42, h28, f, h1]
theorem GI0_k {sg sg2 : Nat → Int32} {gm gm2 : Nat → Nat → Int32} {lg lg2 : Nat → Nat → Int64} (q : GI0 sg gm lg) (h : DK sg gm lg sg2 gm2 lg2) (h1 : lg2 1 = lg 1) (h60 : gm2 60 = gm 60) (h61 : gm2 61 = gm 61) (h62 : gm2 62 = gm 62) (hv : VAL gm2) (h50 : sg2 50 = sg 50) : GI0 sg2 gm2 lg2 := by
  refine ⟨hv, fun b hb => ?_, by rw [h50, h61]; exact q.2.2⟩
  have := q.2.1 b hb
  unfold BI at *
  rw [h60, h61, h62, mMny_k h h1]
  exact this
theorem GI0_of {sg sg2 : Nat → Int32} {gm gm2 : Nat → Nat → Int32} {lg lg2 : Nat → Nat → Int64} {Ls Lg Ll : List Nat} (q : GI0 sg gm lg) (h1 : KS Ls sg sg2) (h2 : KS Lg gm gm2) (h3 : KS Ll lg lg2) (q1 : (Ls.contains 24 || Ls.contains 41) = false) (q2 : ([26, 28, 29, 30, 36, 37, 38, 42, 43].all fun k => !Lg.contains k) = true) (q3 : Ll.contains 35 = false) (q4 : ([60, 61, 62, 70, 71, 72, 73].all fun k => !Lg.contains k) = true) (q5 : Ls.contains 50 = false) (q6 : Ll.contains 1 = false) : GI0 sg2 gm2 lg2 := by
  have g : ∀ k ∈ [60, 61, 62, 70, 71, 72, 73], gm2 k = gm k := fun k hk => h2 k (by have := List.all_eq_true.mp q4 k hk; simpa using this)
  exact GI0_k q (DK_of h1 h2 h3 q1 q2 q3) (h3 1 q6) (g 60 (by decide)) (g 61 (by decide)) (g 62 (by decide)) (VAL_k (g 70 (by decide)) (g 71 (by decide)) (g 72 (by decide)) (g 73 (by decide)) q.1) (h1 50 q5)
theorem GI0_push {sg sg2 : Nat → Int32} {gm gm2 : Nat → Nat → Int32} {lg lg2 : Nat → Nat → Int64} {b : Nat} {v : Int32} (q : GI0 sg gm lg) (h : DK sg gm lg sg2 gm2 lg2) (h1 : lg2 1 = lg 1) (h60 : gm2 60 = gm 60) (h61 : gm2 61 = gm 61) (h62 : gm2 62 = upd (gm 62) b v) (h70 : gm2 70 = gm 70) (h71 : gm2 71 = gm 71) (h72 : gm2 72 = gm 72) (h73 : gm2 73 = gm 73) (h50 : sg2 50 = sg 50) (hb : gm 61 b = 0) : GI0 sg2 gm2 lg2 := by
  refine ⟨VAL_k h70 h71 h72 h73 q.1, fun k hk => ?_, by rw [h50, h61]; exact q.2.2⟩
  have := q.2.1 k hk
  unfold BI at *
  rw [h60, h61, mMny_k h h1]
  intro h9
  have h8 := this h9
  refine ⟨h8.1, h8.2.1, ?_⟩
  rw [h62, upd_ne (fun e9 => h9 (by rw [e9]; exact hb))]
  exact h8.2.2
def PIL (sg : Nat → Int32) (gm : Nat → Nat → Int32) : Prop := ∀ j, j < (sg 63).toNatClampNeg → ¬ gm 62 (gm 64 j).toNatClampNeg = 0 ∧ iv 0 79 (gm 64 j) ∧ (gm 64 j).toInt < (sg 41).toInt ∧ ∀ i, i < j → ¬ gm 64 i = gm 64 j
theorem PIL_room {sg : Nat → Int32} {gm : Nat → Nat → Int32} {b : Int32} (h : PIL sg gm) (hh : iv 0 80 (sg 63)) (hb : iv 0 79 b) (hm : gm 62 b.toNatClampNeg = 0) : (sg 63).toInt ≤ 79 := by
  by_cases q : (sg 63).toInt ≤ 79
  · exact q
  exfalso
  have k1 := iv_cl hh (by decide)
  have k2 := hh.2
  have k3 := hb.1
  have k4 := hb.2
  obtain ⟨i, j, h1, h2, h3⟩ := pigeon 80 (fun k => if k < 80 then (gm 64 k).toInt.toNat else b.toInt.toNat) (fun k hk => by
    show (if k < 80 then _ else _) < 80
    by_cases q5 : k < 80
    · rw [if_pos q5]; have := (h k (by omega)).2.1.1; have := (h k (by omega)).2.1.2; omega
    · rw [if_neg q5]; omega)
  have h3 : (if i < 80 then (gm 64 i).toInt.toNat else b.toInt.toNat) = (if j < 80 then (gm 64 j).toInt.toNat else b.toInt.toNat) := h3
  rw [if_pos (show i < 80 by omega)] at h3
  have gi := h i (by omega)
  have gi1 := gi.2.1.1
  by_cases q5 : j < 80
  · rw [if_pos q5] at h3
    have gj := h j (by omega)
    have gj1 := gj.2.1.1
    exact gj.2.2.2 i h1 (Int32.toInt_inj.mp (by omega))
  · rw [if_neg q5] at h3
    have e9 : gm 64 i = b := Int32.toInt_inj.mp (by omega)
    have := gi.1
    rw [e9] at this
    exact this hm
/-- a bean is put on top of the pile -/
def PUSH (sg : Nat → Int32) (gm : Nat → Nat → Int32) (g67 : Nat → Int32) (sg2 : Nat → Int32) (gm2 : Nat → Nat → Int32) (b : Int32) : Prop :=
  (sg2 63).toInt = (sg 63).toInt + 1 ∧ (sg 63).toInt ≤ 79 ∧ gm2 64 = upd (gm 64) (sg 63).toNatClampNeg b ∧ gm2 65 = upd (gm 65) (sg 63).toNatClampNeg 0 ∧ gm2 66 = upd (gm 66) (sg 63).toNatClampNeg 0 ∧ gm2 67 = upd g67 (sg 63).toNatClampNeg 0 ∧ gm2 69 = upd (gm 69) (sg 63).toNatClampNeg (-1) ∧ gm2 62 = upd (gm 62) b.toNatClampNeg 1 ∧ gm 62 b.toNatClampNeg = 0 ∧ iv 0 79 b ∧ b.toInt < (sg 41).toInt ∧ sg2 51 = sg 51
def SAMEP (sg : Nat → Int32) (gm : Nat → Nat → Int32) (sg2 : Nat → Int32) (gm2 : Nat → Nat → Int32) : Prop := sg2 63 = sg 63 ∧ gm2 62 = gm 62 ∧ gm2 64 = gm 64 ∧ gm2 65 = gm 65 ∧ gm2 66 = gm 66 ∧ gm2 67 = gm 67 ∧ gm2 68 = gm 68 ∧ gm2 69 = gm 69 ∧ sg2 51 = sg 51
def GETS (sg : Nat → Int32) (gm : Nat → Nat → Int32) (sg2 : Nat → Int32) (gm2 : Nat → Nat → Int32) (r : Int32) : Prop := (r.toInt = 1 ∧ 0 ≤ (sg2 74).toInt ∧ SAMEP sg gm sg2 gm2) ∨ (r.toInt = 0 ∧ (1 ≤ (sg2 51).toInt ∨ ∃ b, PUSH sg gm (gm 67) sg2 gm2 b))
def WRK (sg : Nat → Int32) (gm : Nat → Nat → Int32) (sg2 : Nat → Int32) (gm2 : Nat → Nat → Int32) (r : Int32) : Prop := (r.toInt = 1 ∧ SAMEP sg gm sg2 gm2) ∨ (r.toInt = 0 ∧ (1 ≤ (sg2 51).toInt ∨ ∃ b, PUSH sg gm (gm 67) sg2 gm2 b))
theorem SAMEP_tr {sg sg1 sg2 : Nat → Int32} {gm gm1 gm2 : Nat → Nat → Int32} (h : SAMEP sg gm sg1 gm1) (h2 : SAMEP sg1 gm1 sg2 gm2) : SAMEP sg gm sg2 gm2 := by
  obtain ⟨a1, a2, a3, a4, a5, a6, a7, a8, a9⟩ := h
  obtain ⟨b1, b2, b3, b4, b5, b6, b7, b8, b9⟩ := h2
  exact ⟨b1.trans a1, b2.trans a2, b3.trans a3, b4.trans a4, b5.trans a5, b6.trans a6, b7.trans a7, b8.trans a8, b9.trans a9⟩
theorem vok_0 {v : Int32} (h : v.toInt ≤ 959 ∨ 1000 ≤ v.toInt) : vok 0 v := ⟨fun q => absurd q (by decide), fun _ => h, fun q => absurd q (by decide)⟩
theorem vok_1 {v : Int32} (h : v.toInt ≤ 59) : vok 1 v := ⟨fun _ => h, fun q => absurd q (by decide), fun q => absurd q (by decide)⟩
theorem vok_2 {v : Int32} : vok 2 v := ⟨fun q => absurd q (by decide), fun q => absurd q (by decide), fun q => absurd q (by decide)⟩
theorem vok_3 {v : Int32} (h : v.toInt ≤ 6) : vok 3 v := ⟨fun q => absurd q (by decide), fun q => absurd q (by decide), fun _ => h⟩
theorem has_find {gm : Nat → Nat → Int32} {lg : Nat → Nat → Int64} {e : Nat} {nn : Int64} (h : ¬ mHas gm lg e nn = 0) : ¬ mFind gm lg e nn = -1 := fun q => h (by unfold mHas; rw [if_pos q])

set_option maxHeartbeats 4000000 in
set_option maxRecDepth 100000 in
theorem f_gets (l : Launch) (dC : Nat → ClassId) (dI : Nat → Nat → Nat) (h0 : Nat) (ad : Nat → Nat) (cid : Nat → ClassId) (sg : Nat → Int32) (gm : Nat → Nat → Int32) (lg : Nat → Nat → Int64) (b : Int32) (hI : MI sg gm) (hvb : iv (-1) 79 b) (hbl : b.toInt < (sg 41).toInt) (hgi : GI0 sg gm lg) (hpi : PIL sg gm) : MMi l dC dI yX13_gets wm_X13_gets ({ frames := 3, cells := 0, slots := 0, locals := 72 }) h0 ad cid [.int b] sg gm lg (fun r v => ∃ (sg2 : Nat → Int32) (gm2 : Nat → Nat → Int32) (lg2 : Nat → Nat → Int64), v = (sg2, gm2, lg2) ∧ MI sg2 gm2 ∧ KS [51, 52, 63, 74] sg sg2 ∧ KS [62, 64, 65, 66, 67, 68, 69] gm gm2 ∧ KS [] lg lg2 ∧ (iv 0 1 r) ∧ (GI0 sg2 gm2 lg2) ∧ (GETS sg gm sg2 gm2 r)) := by
  intro sz
  refine Met.ofW (cc := cX13_gets) (maxL := 2) (ret := (some .boolean)) (by decide) rfl ?_
  intro p e s m args below meth c s₁ B hml hv
  obtain ⟨rfl, hsz, hP, hK, hD0⟩ := hv
  have hx := B.exec
  have hb := B.bytes
  have hr := B.returns
  have hts := atoms_spec (ws := wm_X13_gets) B.pre
  have htb := fun (w : Cond) (h : w ∈ tb) => hts w (List.mem_cons_of_mem _ h)
  have hown : s.vm.findClass RX13 = some m.cls := findClass_of_methodNamed B.named
  have hlocks := B.notSynchronized
  subst hsz
  have hD := hD0.self (sz := s.heap.size)
  generalize hAe : va_A (mW h0 ad cid sg gm lg) s.heap.size = A at hD ⊢
  have hA : ∀ q : Nat, s.heap.size ≤ q → A q := fun q h => by rw [← hAe]; exact Or.inr h
  have hS : va_S A s.heap s.heap [] := va_S.rf
  have hl := lv_entry ([.ref h0, .int b]) (n := 2) (Nat.le_of_ble_eq_true rfl)
  rw [lg_entry_eq]
  generalize (lg_sl ([.ref h0, .int b]) ++ List.replicate (2 - (lg_sl ([.ref h0, .int b])).length) Slot.unset).toArray = ls at hl ⊢
  have hl : lv_has ls 2 [(0, .ref h0), (1, .int b)] := hl
  have hj97 : ∀ (sg_j97 : Nat → Int32) (_ : iv 0 79 b) (_ : KS [51, 52] sg sg_j97) (_ : MI sg_j97 gm) (_ : gm 61 b.toNatClampNeg = 0) (_ : 1 ≤ (sg_j97 51).toInt ∨ gm 62 b.toNatClampNeg = 0) (_ : 1 ≤ (sg_j97 51).toInt ∨ sg_j97 51 = sg 51) (H : Heap) (locs : List Loc) (ls : Array Slot), va_P (dC, dI) vwCl (mW h0 ad cid sg_j97 gm lg) H → va_D A (mW h0 ad cid sg_j97 gm lg) → va_S A s.heap H locs → lv_has ls 2 [(0, .ref h0), (1, .int b)] → W p l e (headSpec wm_X13_gets ({ frames := 3, cells := 0, slots := 0, locals := 72 })).room s m ([.ref h0, .int b] : List Value).toArray below meth c H locs 0 0 (MQ below (va_Qi (fun r v => ∃ (sg2 : Nat → Int32) (gm2 : Nat → Nat → Int32) (lg2 : Nat → Nat → Int64), v = (sg2, gm2, lg2) ∧ MI sg2 gm2 ∧ KS [51, 52, 63, 74] sg sg2 ∧ KS [62, 64, 65, 66, 67, 68, 69] gm gm2 ∧ KS [] lg lg2 ∧ (iv 0 1 r) ∧ (GI0 sg2 gm2 lg2) ∧ (GETS sg gm sg2 gm2 r)) (MB dC dI h0 ad cid A) A) ([.ref h0, .int b] : List Value).toArray s 0 0 A) (F0 m 97 ls []) := by
    intro sg_j97 hsx1_97 hks_j97 hI_j97 hnm hmk h51 H locs ls hP hD hS hl
    refine lv_aload_n hx hb dX13_gets_97 rfl (lv_at hl 0 rfl) ?_
    refine mr_get (v := .int (sg_j97 51)) hx hb htb inX13 hown hK hP 51 (by decide) (htb _ kw_983) rfl dX13_gets_98 ?_
    refine lv_if_eq (tgt := 106) hx hb dX13_gets_101 (by decide) (fun c_1 => ?_) (fun c_1 => ?_)
    · have h_2 : iv 0 0 (sg_j97 51) := iv_eq c_1 (show iv 0 8 (sg_j97 51) from MI_s hI_j97 51) (iv_k (by decide) : iv 0 0 0) (by decide)
      have h97 : ¬ 1 ≤ (sg_j97 51).toInt := by have := i32_0; have := i32_1; have := i32_2; have := i32_m1; have := (show iv 0 8 (sg_j97 51) from MI_s hI_j97 51).1; have := (show iv 0 8 (sg_j97 51) from MI_s hI_j97 51).2; have := (show iv 0 8 (sg 51) from MI_s hI 51).1; have := (show iv 0 8 (sg 51) from MI_s hI 51).2; have := (hsx1_97).1; have := (hsx1_97).2; have := (h_2).1; have := (h_2).2; omega
      have hm0 : gm 62 b.toNatClampNeg = 0 := hmk.resolve_left h97
      have hr79 := PIL_room hpi (show iv 0 80 (sg 63) from MI_s hI 63) hsx1_97 hm0
      have h106 : iv 0 79 (sg 63) := ⟨(show iv 0 80 (sg 63) from MI_s hI 63).1, hr79⟩
      refine lv_aload_n hx hb dX13_gets_106 rfl (lv_at hl 0 rfl) ?_
      refine mr_get (v := .ref (ad 62)) hx hb htb inX13 hown hK hP 62 (by decide) (htb _ kw_212) rfl dX13_gets_107 ?_
      refine lv_iload_n hx hb dX13_gets_110 rfl (lv_at hl 1 rfl) ?_
      refine lv_iconst (v := 1) hx hb dX13_gets_111 (by decide) ?_
      refine ma_zast (x := 1) hx hb hK hP hD hS 48 (k := 62) rfl rfl rfl (show vp_in b 80 from (iv_in hsx1_97 (by decide))) dX13_gets_112 (fun gm_3 H locs egm_3 hP hD hS => ?_)
      have hI_gm_3 := MI_st hI_j97 egm_3 (iv_of (iv_vb (iv_w (iv_k (by decide) : iv 1 1 1) (by decide))) (iv_k (by decide) : iv 1 1 1)) (by decide)
      refine lv_aload_n hx hb dX13_gets_113 rfl (lv_at hl 0 rfl) ?_
      refine mr_get (v := .ref (ad 64)) hx hb htb inX13 hown hK hP 64 (by decide) (htb _ kw_213) rfl dX13_gets_114 ?_
      refine lv_aload_n hx hb dX13_gets_117 rfl (lv_at hl 0 rfl) ?_
      refine mr_get (v := .int (sg_j97 63)) hx hb htb inX13 hown hK hP 63 (by decide) (htb _ kw_1160) rfl dX13_gets_118 ?_
      refine lv_topi (fun z_4 ez_4 => ?_)
      obtain rfl : (sg 63) = z_4 := (ez_4.trans (hks_j97 63 (by decide))).symm
      refine lv_iload_n hx hb dX13_gets_121 rfl (lv_at hl 1 rfl) ?_
      refine ma_iast (x := b) hx hb hK hP hD hS 49 (k := 64) rfl rfl rfl (show vp_in (sg 63) 81 from (iv_in h106 (by decide))) dX13_gets_122 (fun gm_5 H locs egm_5 hP hD hS => ?_)
      have hI_gm_5 := MI_st hI_gm_3 egm_5 hsx1_97 (by decide)
      refine lv_aload_n hx hb dX13_gets_123 rfl (lv_at hl 0 rfl) ?_
      refine mr_get (v := .ref (ad 65)) hx hb htb inX13 hown hK hP 65 (by decide) (htb _ kw_214) rfl dX13_gets_124 ?_
      refine lv_aload_n hx hb dX13_gets_127 rfl (lv_at hl 0 rfl) ?_
      refine mr_get (v := .int (sg_j97 63)) hx hb htb inX13 hown hK hP 63 (by decide) (htb _ kw_1160) rfl dX13_gets_128 ?_
      refine lv_topi (fun z_6 ez_6 => ?_)
      obtain rfl : (sg 63) = z_6 := (ez_6.trans (hks_j97 63 (by decide))).symm
      refine lv_iconst (v := 0) hx hb dX13_gets_131 (by decide) ?_
      refine ma_iast (x := 0) hx hb hK hP hD hS 50 (k := 65) rfl rfl rfl (show vp_in (sg 63) 81 from (iv_in h106 (by decide))) dX13_gets_132 (fun gm_7 H locs egm_7 hP hD hS => ?_)
      have hI_gm_7 := MI_st hI_gm_5 egm_7 (iv_k (by decide) : iv 0 0 0) (by decide)
      refine lv_aload_n hx hb dX13_gets_133 rfl (lv_at hl 0 rfl) ?_
      refine mr_get (v := .ref (ad 66)) hx hb htb inX13 hown hK hP 66 (by decide) (htb _ kw_215) rfl dX13_gets_134 ?_
      refine lv_aload_n hx hb dX13_gets_137 rfl (lv_at hl 0 rfl) ?_
      refine mr_get (v := .int (sg_j97 63)) hx hb htb inX13 hown hK hP 63 (by decide) (htb _ kw_1160) rfl dX13_gets_138 ?_
      refine lv_topi (fun z_8 ez_8 => ?_)
      obtain rfl : (sg 63) = z_8 := (ez_8.trans (hks_j97 63 (by decide))).symm
      refine lv_iconst (v := 0) hx hb dX13_gets_141 (by decide) ?_
      refine ma_iast (x := 0) hx hb hK hP hD hS 51 (k := 66) rfl rfl rfl (show vp_in (sg 63) 81 from (iv_in h106 (by decide))) dX13_gets_142 (fun gm_9 H locs egm_9 hP hD hS => ?_)
      have hI_gm_9 := MI_st hI_gm_7 egm_9 (iv_k (by decide) : iv 0 0 0) (by decide)
      refine lv_aload_n hx hb dX13_gets_143 rfl (lv_at hl 0 rfl) ?_
      refine mr_get (v := .ref (ad 67)) hx hb htb inX13 hown hK hP 67 (by decide) (htb _ kw_216) rfl dX13_gets_144 ?_
      refine lv_aload_n hx hb dX13_gets_147 rfl (lv_at hl 0 rfl) ?_
      refine mr_get (v := .int (sg_j97 63)) hx hb htb inX13 hown hK hP 63 (by decide) (htb _ kw_1160) rfl dX13_gets_148 ?_
      refine lv_topi (fun z_10 ez_10 => ?_)
      obtain rfl : (sg 63) = z_10 := (ez_10.trans (hks_j97 63 (by decide))).symm
      refine lv_iconst (v := 0) hx hb dX13_gets_151 (by decide) ?_
      refine ma_iast (x := 0) hx hb hK hP hD hS 52 (k := 67) rfl rfl rfl (show vp_in (sg 63) 81 from (iv_in h106 (by decide))) dX13_gets_152 (fun gm_11 H locs egm_11 hP hD hS => ?_)
      have hI_gm_11 := MI_st hI_gm_9 egm_11 (iv_k (by decide) : iv 0 0 0) (by decide)
      refine lv_aload_n hx hb dX13_gets_153 rfl (lv_at hl 0 rfl) ?_
      refine mr_get (v := .ref (ad 68)) hx hb htb inX13 hown hK hP 68 (by decide) (htb _ kw_217) rfl dX13_gets_154 ?_
      refine lv_aload_n hx hb dX13_gets_157 rfl (lv_at hl 0 rfl) ?_
      refine mr_get (v := .int (sg_j97 63)) hx hb htb inX13 hown hK hP 63 (by decide) (htb _ kw_1160) rfl dX13_gets_158 ?_
      refine lv_topi (fun z_12 ez_12 => ?_)
      obtain rfl : (sg 63) = z_12 := (ez_12.trans (hks_j97 63 (by decide))).symm
      refine lv_iconst (v := (-1)) hx hb dX13_gets_161 (by decide) ?_
      refine ma_iast (x := (-1)) hx hb hK hP hD hS 53 (k := 68) rfl rfl rfl (show vp_in (sg 63) 81 from (iv_in h106 (by decide))) dX13_gets_162 (fun gm_13 H locs egm_13 hP hD hS => ?_)
      have hI_gm_13 := MI_st hI_gm_11 egm_13 (iv_k (by decide) : iv (-1) (-1) (-1)) (by decide)
      refine lv_aload_n hx hb dX13_gets_163 rfl (lv_at hl 0 rfl) ?_
      refine mr_get (v := .ref (ad 69)) hx hb htb inX13 hown hK hP 69 (by decide) (htb _ kw_218) rfl dX13_gets_164 ?_
      refine lv_aload_n hx hb dX13_gets_167 rfl (lv_at hl 0 rfl) ?_
      refine mr_get (v := .int (sg_j97 63)) hx hb htb inX13 hown hK hP 63 (by decide) (htb _ kw_1160) rfl dX13_gets_168 ?_
      refine lv_topi (fun z_14 ez_14 => ?_)
      obtain rfl : (sg 63) = z_14 := (ez_14.trans (hks_j97 63 (by decide))).symm
      refine lv_iconst (v := (-1)) hx hb dX13_gets_171 (by decide) ?_
      refine ma_iast (x := (-1)) hx hb hK hP hD hS 54 (k := 69) rfl rfl rfl (show vp_in (sg 63) 81 from (iv_in h106 (by decide))) dX13_gets_172 (fun gm_15 H locs egm_15 hP hD hS => ?_)
      have hI_gm_15 := MI_st hI_gm_13 egm_15 (iv_k (by decide) : iv (-1) (-1) (-1)) (by decide)
      refine lv_aload_n hx hb dX13_gets_173 rfl (lv_at hl 0 rfl) ?_
      refine lv_dup hx hb dX13_gets_174 rfl ?_
      refine mr_get (v := .int (sg_j97 63)) hx hb htb inX13 hown hK hP 63 (by decide) (htb _ kw_1160) rfl dX13_gets_175 ?_
      refine lv_topi (fun z_16 ez_16 => ?_)
      obtain rfl : (sg 63) = z_16 := (ez_16.trans (hks_j97 63 (by decide))).symm
      refine lv_iconst (v := 1) hx hb dX13_gets_178 (by decide) ?_
      refine lv_iadd hx hb dX13_gets_179 ?_
      refine lv_topi (fun z_17 ez_17 => ?_)
      have hz_17 : iv 1 80 z_17 := iv_of ez_17 (iv_add h106 (iv_k (by decide) : iv 1 1 1) (by decide))
      have tz_17 : z_17.toInt = ((sg 63) : Int32).toInt + 1 := by rw [ez_17]; exact iv_addE h106 (iv_k (by decide) : iv 1 1 1) (by decide)
      refine ma_put (x := z_17) hx hb htb inX13 hown hK hP hD hS 63 (by decide) (by decide) (htb _ kw_1160) rfl rfl rfl dX13_gets_180 (fun sg_18 H locs esg_18 hP hD hS => ?_)
      have hI_sg_18 := MI_put hI_gm_15 esg_18 hz_17 (by decide)
      refine lv_iconst (v := 0) hx hb dX13_gets_183 (by decide) ?_
      exact W.zret (v := 0) hx hb hr (iv_nb (iv_w (iv_k (by decide) : iv 0 0 0) (by decide))) (fun t ht hW => ⟨⟨0, (sg_18, gm_15, lg), rfl, ⟨sg_18, gm_15, lg, rfl, hI_sg_18, (KS_up (KS_tr (L := [51, 52, 63, 74]) KS_rf hks_j97 (by decide)) esg_18 (by decide)), (KS_up (KS_up (KS_up (KS_up (KS_up (KS_up (KS_up KS_rf egm_3 (by decide)) egm_5 (by decide)) egm_7 (by decide)) egm_9 (by decide)) egm_11 (by decide)) egm_13 (by decide)) egm_15 (by decide)), KS_rf, (iv_w (iv_k (by decide) : iv 0 0 0) (by decide)), (GI0_push hgi (DK_of (show KS [51, 52, 63] sg sg_18 from (KS_up (KS_tr (L := [51, 52, 63]) KS_rf hks_j97 (by decide)) esg_18 (by decide))) (show KS [62, 64, 65, 66, 67, 68, 69] gm gm_15 from (KS_up (KS_up (KS_up (KS_up (KS_up (KS_up (KS_up KS_rf egm_3 (by decide)) egm_5 (by decide)) egm_7 (by decide)) egm_9 (by decide)) egm_11 (by decide)) egm_13 (by decide)) egm_15 (by decide))) (show KS [] lg lg from KS_rf) (by decide) (by decide) (by decide)) rfl (Eq.trans (Eq.trans (Eq.trans (Eq.trans (Eq.trans (Eq.trans (up_ne egm_15 (by decide)) (up_ne egm_13 (by decide))) (up_ne egm_11 (by decide))) (up_ne egm_9 (by decide))) (up_ne egm_7 (by decide))) (up_ne egm_5 (by decide))) (up_ne egm_3 (by decide))) (Eq.trans (Eq.trans (Eq.trans (Eq.trans (Eq.trans (Eq.trans (up_ne egm_15 (by decide)) (up_ne egm_13 (by decide))) (up_ne egm_11 (by decide))) (up_ne egm_9 (by decide))) (up_ne egm_7 (by decide))) (up_ne egm_5 (by decide))) (up_ne egm_3 (by decide))) (show gm_15 62 = upd (gm 62) (b : Int32).toNatClampNeg (vp_nar .boolean 1) from ((up_ne egm_15 (by decide)).trans ((up_ne egm_13 (by decide)).trans ((up_ne egm_11 (by decide)).trans ((up_ne egm_9 (by decide)).trans ((up_ne egm_7 (by decide)).trans ((up_ne egm_5 (by decide)).trans ((up_at egm_3).trans (by rw [show gm 62 = gm 62 from rfl]))))))))) (Eq.trans (Eq.trans (Eq.trans (Eq.trans (Eq.trans (Eq.trans (up_ne egm_15 (by decide)) (up_ne egm_13 (by decide))) (up_ne egm_11 (by decide))) (up_ne egm_9 (by decide))) (up_ne egm_7 (by decide))) (up_ne egm_5 (by decide))) (up_ne egm_3 (by decide))) (Eq.trans (Eq.trans (Eq.trans (Eq.trans (Eq.trans (Eq.trans (up_ne egm_15 (by decide)) (up_ne egm_13 (by decide))) (up_ne egm_11 (by decide))) (up_ne egm_9 (by decide))) (up_ne egm_7 (by decide))) (up_ne egm_5 (by decide))) (up_ne egm_3 (by decide))) (Eq.trans (Eq.trans (Eq.trans (Eq.trans (Eq.trans (Eq.trans (up_ne egm_15 (by decide)) (up_ne egm_13 (by decide))) (up_ne egm_11 (by decide))) (up_ne egm_9 (by decide))) (up_ne egm_7 (by decide))) (up_ne egm_5 (by decide))) (up_ne egm_3 (by decide))) (Eq.trans (Eq.trans (Eq.trans (Eq.trans (Eq.trans (Eq.trans (up_ne egm_15 (by decide)) (up_ne egm_13 (by decide))) (up_ne egm_11 (by decide))) (up_ne egm_9 (by decide))) (up_ne egm_7 (by decide))) (up_ne egm_5 (by decide))) (up_ne egm_3 (by decide))) (Eq.trans (up_ne esg_18 (by decide)) (hks_j97 50 (by decide))) hnm), (Or.inr ⟨rfl, Or.inr ⟨b, by have := i32_0; have := i32_1; have := i32_2; have := i32_m1; have := congrArg Int32.toInt (show sg_18 63 = z_17 from up_at esg_18); have := (hz_17).1; have := (hz_17).2; have := (hsx1_97).1; have := (hsx1_97).2; have := (h_2).1; have := (h_2).2; have := (h106).1; have := (h106).2; omega, hr79, (show gm_15 64 = upd (gm 64) ((sg 63) : Int32).toNatClampNeg b from ((up_ne egm_15 (by decide)).trans ((up_ne egm_13 (by decide)).trans ((up_ne egm_11 (by decide)).trans ((up_ne egm_9 (by decide)).trans ((up_ne egm_7 (by decide)).trans ((up_at egm_5).trans (by rw [show gm_3 64 = gm 64 from ((up_ne egm_3 (by decide)).trans rfl)])))))))), (show gm_15 65 = upd (gm 65) ((sg 63) : Int32).toNatClampNeg 0 from ((up_ne egm_15 (by decide)).trans ((up_ne egm_13 (by decide)).trans ((up_ne egm_11 (by decide)).trans ((up_ne egm_9 (by decide)).trans ((up_at egm_7).trans (by rw [show gm_5 65 = gm 65 from ((up_ne egm_5 (by decide)).trans ((up_ne egm_3 (by decide)).trans rfl))]))))))), (show gm_15 66 = upd (gm 66) ((sg 63) : Int32).toNatClampNeg 0 from ((up_ne egm_15 (by decide)).trans ((up_ne egm_13 (by decide)).trans ((up_ne egm_11 (by decide)).trans ((up_at egm_9).trans (by rw [show gm_7 66 = gm 66 from ((up_ne egm_7 (by decide)).trans ((up_ne egm_5 (by decide)).trans ((up_ne egm_3 (by decide)).trans rfl)))])))))), (show gm_15 67 = upd (gm 67) ((sg 63) : Int32).toNatClampNeg 0 from ((up_ne egm_15 (by decide)).trans ((up_ne egm_13 (by decide)).trans ((up_at egm_11).trans (by rw [show gm_9 67 = gm 67 from ((up_ne egm_9 (by decide)).trans ((up_ne egm_7 (by decide)).trans ((up_ne egm_5 (by decide)).trans ((up_ne egm_3 (by decide)).trans rfl))))]))))), (show gm_15 69 = upd (gm 69) ((sg 63) : Int32).toNatClampNeg (-1) from ((up_at egm_15).trans (by rw [show gm_13 69 = gm 69 from ((up_ne egm_13 (by decide)).trans ((up_ne egm_11 (by decide)).trans ((up_ne egm_9 (by decide)).trans ((up_ne egm_7 (by decide)).trans ((up_ne egm_5 (by decide)).trans ((up_ne egm_3 (by decide)).trans rfl))))))]))), (show gm_15 62 = upd (gm 62) (b : Int32).toNatClampNeg (vp_nar .boolean 1) from ((up_ne egm_15 (by decide)).trans ((up_ne egm_13 (by decide)).trans ((up_ne egm_11 (by decide)).trans ((up_ne egm_9 (by decide)).trans ((up_ne egm_7 (by decide)).trans ((up_ne egm_5 (by decide)).trans ((up_at egm_3).trans (by rw [show gm 62 = gm 62 from rfl]))))))))), hm0, hsx1_97, hbl, Eq.trans (up_ne esg_18 (by decide)) (h51.resolve_left h97)⟩⟩)⟩, by rw [ht]; exact hP, va_K.moved hW.alike hK, hD⟩, hS.F ht⟩) hS.2.2 dX13_gets_184
    · have h_19 : iv 1 8 (sg_j97 51) := iv_neL c_1 (show iv 0 8 (sg_j97 51) from MI_s hI_j97 51) (by decide)
      refine lv_iconst (v := 0) hx hb dX13_gets_104 (by decide) ?_
      exact W.zret (v := 0) hx hb hr (iv_nb (iv_w (iv_k (by decide) : iv 0 0 0) (by decide))) (fun t ht hW => ⟨⟨0, (sg_j97, gm, lg), rfl, ⟨sg_j97, gm, lg, rfl, hI_j97, (KS_tr (L := [51, 52, 63, 74]) KS_rf hks_j97 (by decide)), KS_rf, KS_rf, (iv_w (iv_k (by decide) : iv 0 0 0) (by decide)), (GI0_of hgi (show KS [51, 52] sg sg_j97 from (KS_tr (L := [51, 52]) KS_rf hks_j97 (by decide))) (show KS [] gm gm from KS_rf) (show KS [] lg lg from KS_rf) (by decide) (by decide) (by decide) (by decide) (by decide) (by decide)), (Or.inr ⟨rfl, Or.inl (by have := i32_0; have := i32_1; have := i32_2; have := i32_m1; have := (show iv 0 8 (sg_j97 51) from MI_s hI_j97 51).1; have := (show iv 0 8 (sg_j97 51) from MI_s hI_j97 51).2; have := (show iv 0 8 (sg 51) from MI_s hI 51).1; have := (show iv 0 8 (sg 51) from MI_s hI 51).2; have := (hsx1_97).1; have := (hsx1_97).2; have := (h_19).1; have := (h_19).2; omega)⟩)⟩, by rw [ht]; exact hP, va_K.moved hW.alike hK, hD⟩, hS.F ht⟩) hS.2.2 dX13_gets_105
  have hj83 : ∀ (sg_j83 : Nat → Int32) (_ : iv 0 79 b) (_ : KS [51, 52] sg sg_j83) (_ : MI sg_j83 gm) (_ : gm 61 b.toNatClampNeg = 0) (_ : sg_j83 51 = sg 51) (H : Heap) (locs : List Loc) (ls : Array Slot), va_P (dC, dI) vwCl (mW h0 ad cid sg_j83 gm lg) H → va_D A (mW h0 ad cid sg_j83 gm lg) → va_S A s.heap H locs → lv_has ls 2 [(0, .ref h0), (1, .int b)] → W p l e (headSpec wm_X13_gets ({ frames := 3, cells := 0, slots := 0, locals := 72 })).room s m ([.ref h0, .int b] : List Value).toArray below meth c H locs 0 0 (MQ below (va_Qi (fun r v => ∃ (sg2 : Nat → Int32) (gm2 : Nat → Nat → Int32) (lg2 : Nat → Nat → Int64), v = (sg2, gm2, lg2) ∧ MI sg2 gm2 ∧ KS [51, 52, 63, 74] sg sg2 ∧ KS [62, 64, 65, 66, 67, 68, 69] gm gm2 ∧ KS [] lg lg2 ∧ (iv 0 1 r) ∧ (GI0 sg2 gm2 lg2) ∧ (GETS sg gm sg2 gm2 r)) (MB dC dI h0 ad cid A) A) ([.ref h0, .int b] : List Value).toArray s 0 0 A) (F0 m 83 ls []) := by
    intro sg_j83 hsx1_83 hks_j83 hI_j83 hnm h51 H locs ls hP hD hS hl
    refine lv_aload_n hx hb dX13_gets_83 rfl (lv_at hl 0 rfl) ?_
    refine mr_get (v := .ref (ad 62)) hx hb htb inX13 hown hK hP 62 (by decide) (htb _ kw_212) rfl dX13_gets_84 ?_
    refine lv_iload_n hx hb dX13_gets_87 rfl (lv_at hl 1 rfl) ?_
    refine mr_zald hx hb hK hP 48 (k := 62) rfl rfl rfl (show vp_in b 80 from (iv_in hsx1_83 (by decide))) dX13_gets_88 ?_
    refine lv_topi (fun z_20 ez_20 => ?_)
    have hz_20 : iv 0 1 z_20 := iv_of ez_20 (MI_a hI_j83 62 hsx1_83 (by decide))
    refine lv_if_eq (tgt := 97) hx hb dX13_gets_89 (by decide) (fun c_21 => ?_) (fun c_21 => ?_)
    · have h_22 : iv 0 0 z_20 := iv_eq c_21 hz_20 (iv_k (by decide) : iv 0 0 0) (by decide)
      exact hj97 sg_j83 hsx1_83 (KS_tr (L := [51, 52]) KS_rf hks_j83 (by decide)) hI_j83 (hnm) (Or.inr (by rw [← ez_20]; exact c_21)) (Or.inr h51) _ _ _ hP hD hS (lv_sub hl [0, 1] rfl)
    · have h_23 : iv 1 1 z_20 := iv_neL c_21 hz_20 (by decide)
      refine lv_aload_n hx hb dX13_gets_92 rfl (lv_at hl 0 rfl) ?_
      refine lv_iconst (v := 3) hx hb dX13_gets_93 (by decide) ?_
      refine mr_callv (rest := []) ⟨hx, hb, hml, hown, htb⟩ (f_fails l dC dI h0 ad cid sg_j83 gm lg 3 hI_j83 (iv_w (iv_k (by decide) : iv 3 3 3) (by decide))) (cwV 1 htb (gd_V kw_1165 kw_1166 kw_1167 kw_5 kw_1605) rfl rfl rfl (by decide +kernel) ⟨Nat.le_of_ble_eq_true rfl, Nat.le_of_ble_eq_true rfl⟩) rfl hl.1 rfl (Nat.le_of_ble_eq_true rfl) dX13_gets_94 ⟨Nat.zero_le _, Nat.zero_le _⟩ hK hP hD hS hA (fun u_25 H locs hw hP hD hS => ?_)
      obtain ⟨sgv_26, gmv_26, lgv_26, rfl, hIv_26, ksv_26, kgv_26, klv_26, fFl_r_24⟩ := hw
      obtain rfl := KS_nil kgv_26
      obtain rfl := KS_nil klv_26
      have hP : va_P (dC, dI) vwCl (mW h0 ad cid sgv_26 gm lg) H := hP
      have hD : va_D A (mW h0 ad cid sgv_26 gm lg) := hD
      exact hj97 sgv_26 hsx1_83 (KS_tr (L := [51, 52]) (KS_tr (L := [51, 52]) KS_rf hks_j83 (by decide)) ksv_26 (by decide)) hIv_26 (hnm) (Or.inl (by have := i32_0; have := i32_1; have := i32_2; have := i32_m1; have := (show iv 0 8 (sgv_26 51) from MI_s hIv_26 51).1; have := (show iv 0 8 (sgv_26 51) from MI_s hIv_26 51).2; have := (show iv 0 8 (sg_j83 51) from MI_s hI_j83 51).1; have := (show iv 0 8 (sg_j83 51) from MI_s hI_j83 51).2; have := (show iv 0 8 (sg 51) from MI_s hI 51).1; have := (show iv 0 8 (sg 51) from MI_s hI 51).2; have := (hsx1_83).1; have := (hsx1_83).2; have := (h_23).1; have := (h_23).2; omega)) (Or.inl (by have := i32_0; have := i32_1; have := i32_2; have := i32_m1; have := (show iv 0 8 (sgv_26 51) from MI_s hIv_26 51).1; have := (show iv 0 8 (sgv_26 51) from MI_s hIv_26 51).2; have := (show iv 0 8 (sg_j83 51) from MI_s hI_j83 51).1; have := (show iv 0 8 (sg_j83 51) from MI_s hI_j83 51).2; have := (show iv 0 8 (sg 51) from MI_s hI 51).1; have := (show iv 0 8 (sg 51) from MI_s hI 51).2; have := (hsx1_83).1; have := (hsx1_83).2; have := (h_23).1; have := (h_23).2; omega)) _ _ _ hP hD hS (lv_sub hl [0, 1] rfl)
  have hj71 : ∀ (sg_j71 : Nat → Int32) (_ : iv 0 79 b) (_ : KS [51, 52] sg sg_j71) (_ : MI sg_j71 gm) (_ : 0 ≤ (gm 60 b.toNatClampNeg).toInt) (_ : sg_j71 51 = sg 51) (H : Heap) (locs : List Loc) (ls : Array Slot), va_P (dC, dI) vwCl (mW h0 ad cid sg_j71 gm lg) H → va_D A (mW h0 ad cid sg_j71 gm lg) → va_S A s.heap H locs → lv_has ls 2 [(0, .ref h0), (1, .int b)] → W p l e (headSpec wm_X13_gets ({ frames := 3, cells := 0, slots := 0, locals := 72 })).room s m ([.ref h0, .int b] : List Value).toArray below meth c H locs 0 0 (MQ below (va_Qi (fun r v => ∃ (sg2 : Nat → Int32) (gm2 : Nat → Nat → Int32) (lg2 : Nat → Nat → Int64), v = (sg2, gm2, lg2) ∧ MI sg2 gm2 ∧ KS [51, 52, 63, 74] sg sg2 ∧ KS [62, 64, 65, 66, 67, 68, 69] gm gm2 ∧ KS [] lg lg2 ∧ (iv 0 1 r) ∧ (GI0 sg2 gm2 lg2) ∧ (GETS sg gm sg2 gm2 r)) (MB dC dI h0 ad cid A) A) ([.ref h0, .int b] : List Value).toArray s 0 0 A) (F0 m 71 ls []) := by
    intro sg_j71 hsx1_71 hks_j71 hI_j71 hown9 h51 H locs ls hP hD hS hl
    refine lv_aload_n hx hb dX13_gets_71 rfl (lv_at hl 0 rfl) ?_
    refine lv_aload_n hx hb dX13_gets_72 rfl (lv_at hl 0 rfl) ?_
    refine mr_get (v := .ref (ad 60)) hx hb htb inX13 hown hK hP 60 (by decide) (htb _ kw_210) rfl dX13_gets_73 ?_
    refine lv_iload_n hx hb dX13_gets_76 rfl (lv_at hl 1 rfl) ?_
    refine mr_iald hx hb hK hP 46 (k := 60) rfl rfl rfl (show vp_in b 80 from (iv_in hsx1_71 (by decide))) dX13_gets_77 ?_
    refine lv_topi (fun z_27 ez_27 => ?_)
    have hz_27 : iv (-1) 59 z_27 := iv_of ez_27 (MI_a hI_j71 60 hsx1_71 (by decide))
    have h_28 : iv 0 59 z_27 := ⟨by rw [ez_27]; exact hown9, (hz_27).2⟩
    refine ma_put (x := z_27) hx hb htb inX13 hown hK hP hD hS 74 (by decide) (by decide) (htb _ kw_1164) rfl rfl rfl dX13_gets_78 (fun sg_29 H locs esg_29 hP hD hS => ?_)
    have hI_sg_29 := MI_put hI_j71 esg_29 h_28 (by decide)
    refine lv_iconst (v := 1) hx hb dX13_gets_81 (by decide) ?_
    exact W.zret (v := 1) hx hb hr (iv_nb (iv_w (iv_k (by decide) : iv 1 1 1) (by decide))) (fun t ht hW => ⟨⟨1, (sg_29, gm, lg), rfl, ⟨sg_29, gm, lg, rfl, hI_sg_29, (KS_up (KS_tr (L := [51, 52, 63, 74]) KS_rf hks_j71 (by decide)) esg_29 (by decide)), KS_rf, KS_rf, (iv_w (iv_k (by decide) : iv 1 1 1) (by decide)), (GI0_of hgi (show KS [51, 52, 74] sg sg_29 from (KS_up (KS_tr (L := [51, 52, 74]) KS_rf hks_j71 (by decide)) esg_29 (by decide))) (show KS [] gm gm from KS_rf) (show KS [] lg lg from KS_rf) (by decide) (by decide) (by decide) (by decide) (by decide) (by decide)), (Or.inl ⟨rfl, by have := i32_0; have := i32_1; have := i32_2; have := i32_m1; have := congrArg Int32.toInt (show sg_29 74 = z_27 from up_at esg_29); have := (h_28).1; have := (h_28).2; have := (hsx1_71).1; have := (hsx1_71).2; omega, ⟨(Eq.trans (up_ne esg_29 (by decide)) (hks_j71 63 (by decide))), rfl, rfl, rfl, rfl, rfl, rfl, rfl, Eq.trans (up_ne esg_29 (by decide)) h51⟩⟩)⟩, by rw [ht]; exact hP, va_K.moved hW.alike hK, hD⟩, hS.F ht⟩) hS.2.2 dX13_gets_82
  have hj26 : ∀ (sg_j26 : Nat → Int32) (_ : iv (-1) 79 b) (_ : KS [51, 52] sg sg_j26) (_ : MI sg_j26 gm) (_ : 1 ≤ (sg_j26 51).toInt ∨ (0 ≤ b.toInt ∧ sg_j26 51 = sg 51)) (H : Heap) (locs : List Loc) (ls : Array Slot), va_P (dC, dI) vwCl (mW h0 ad cid sg_j26 gm lg) H → va_D A (mW h0 ad cid sg_j26 gm lg) → va_S A s.heap H locs → lv_has ls 2 [(0, .ref h0), (1, .int b)] → W p l e (headSpec wm_X13_gets ({ frames := 3, cells := 0, slots := 0, locals := 72 })).room s m ([.ref h0, .int b] : List Value).toArray below meth c H locs 0 0 (MQ below (va_Qi (fun r v => ∃ (sg2 : Nat → Int32) (gm2 : Nat → Nat → Int32) (lg2 : Nat → Nat → Int64), v = (sg2, gm2, lg2) ∧ MI sg2 gm2 ∧ KS [51, 52, 63, 74] sg sg2 ∧ KS [62, 64, 65, 66, 67, 68, 69] gm gm2 ∧ KS [] lg lg2 ∧ (iv 0 1 r) ∧ (GI0 sg2 gm2 lg2) ∧ (GETS sg gm sg2 gm2 r)) (MB dC dI h0 ad cid A) A) ([.ref h0, .int b] : List Value).toArray s 0 0 A) (F0 m 26 ls []) := by
    intro sg_j26 hsx1_26 hks_j26 hI_j26 hb0 H locs ls hP hD hS hl
    refine lv_aload_n hx hb dX13_gets_26 rfl (lv_at hl 0 rfl) ?_
    refine mr_get (v := .int (sg_j26 51)) hx hb htb inX13 hown hK hP 51 (by decide) (htb _ kw_983) rfl dX13_gets_27 ?_
    refine lv_if_eq (tgt := 35) hx hb dX13_gets_30 (by decide) (fun c_30 => ?_) (fun c_30 => ?_)
    · have h_31 : iv 0 0 (sg_j26 51) := iv_eq c_30 (show iv 0 8 (sg_j26 51) from MI_s hI_j26 51) (iv_k (by decide) : iv 0 0 0) (by decide)
      have hb35 : iv 0 79 b := ⟨by have := i32_0; have := i32_1; have := i32_2; have := i32_m1; have := (show iv 0 8 (sg_j26 51) from MI_s hI_j26 51).1; have := (show iv 0 8 (sg_j26 51) from MI_s hI_j26 51).2; have := (show iv 0 8 (sg 51) from MI_s hI 51).1; have := (show iv 0 8 (sg 51) from MI_s hI 51).2; have := (hsx1_26).1; have := (hsx1_26).2; have := (h_31).1; have := (h_31).2; omega, (hsx1_26).2⟩
      refine lv_aload_n hx hb dX13_gets_35 rfl (lv_at hl 0 rfl) ?_
      refine lv_iload_n hx hb dX13_gets_36 rfl (lv_at hl 1 rfl) ?_
      refine mr_calli (rest := []) ⟨hx, hb, hml, hown, htb⟩ (f_isMany l dC dI h0 ad cid sg_j26 gm lg b hI_j26 hb35) (cwV 1 htb (gd_V kw_1154 kw_1155 kw_1156 kw_5 kw_1602) rfl rfl rfl (by decide +kernel) ⟨Nat.le_of_ble_eq_true rfl, Nat.le_of_ble_eq_true rfl⟩) rfl hl.1 rfl (Nat.le_of_ble_eq_true rfl) dX13_gets_37 ⟨Nat.zero_le _, Nat.zero_le _⟩ hK hP hD hS hA (fun r_32 u_33 H locs hw hP hD hS => ?_)
      obtain ⟨hr_32, fY_r_32, rfl⟩ := hw
      have hP : va_P (dC, dI) vwCl (mW h0 ad cid sg_j26 gm lg) H := hP
      have hD : va_D A (mW h0 ad cid sg_j26 gm lg) := hD
      refine lv_if_ne (tgt := 83) hx hb dX13_gets_40 (by decide) (fun c_34 => ?_) (fun c_34 => ?_)
      · have h_35 : iv 1 1 r_32 := iv_neL c_34 hr_32 (by decide)
        exact hj83 sg_j26 hb35 (KS_tr (L := [51, 52]) KS_rf hks_j26 (by decide)) hI_j26 (Decidable.byContradiction (fun q9 => (hgi.2.1 _ (by have := iv_cl hb35 (by decide); have := (hb35).2; omega) q9).2.1 ((fY_r_32.resolve_left (fun q8 => c_34 (Int32.toInt_inj.mp q8.1))).2))) ((hb0.resolve_left (by have := i32_0; have := i32_1; have := i32_2; have := i32_m1; have := (show iv 0 8 (sg_j26 51) from MI_s hI_j26 51).1; have := (show iv 0 8 (sg_j26 51) from MI_s hI_j26 51).2; have := (show iv 0 8 (sg 51) from MI_s hI 51).1; have := (show iv 0 8 (sg 51) from MI_s hI 51).2; have := (hb35).1; have := (hb35).2; have := (h_31).1; have := (h_31).2; have := (h_35).1; have := (h_35).2; omega)).2) _ _ _ hP hD hS (lv_sub hl [0, 1] rfl)
      · have h_36 : iv 0 0 r_32 := iv_eq c_34 hr_32 (iv_k (by decide) : iv 0 0 0) (by decide)
        refine lv_aload_n hx hb dX13_gets_43 rfl (lv_at hl 0 rfl) ?_
        refine mr_get (v := .ref (ad 61)) hx hb htb inX13 hown hK hP 61 (by decide) (htb _ kw_211) rfl dX13_gets_44 ?_
        refine lv_iload_n hx hb dX13_gets_47 rfl (lv_at hl 1 rfl) ?_
        refine mr_zald hx hb hK hP 47 (k := 61) rfl rfl rfl (show vp_in b 80 from (iv_in hb35 (by decide))) dX13_gets_48 ?_
        refine lv_topi (fun z_37 ez_37 => ?_)
        have hz_37 : iv 0 1 z_37 := iv_of ez_37 (MI_a hI_j26 61 hb35 (by decide))
        refine lv_if_ne (tgt := 71) hx hb dX13_gets_49 (by decide) (fun c_38 => ?_) (fun c_38 => ?_)
        · have h_39 : iv 1 1 z_37 := iv_neL c_38 hz_37 (by decide)
          exact hj71 sg_j26 hb35 (KS_tr (L := [51, 52]) KS_rf hks_j26 (by decide)) hI_j26 ((hgi.2.1 _ (by have := iv_cl hb35 (by decide); have := (hb35).2; omega) (by rw [← ez_37]; exact c_38)).1) ((hb0.resolve_left (by have := i32_0; have := i32_1; have := i32_2; have := i32_m1; have := (show iv 0 8 (sg_j26 51) from MI_s hI_j26 51).1; have := (show iv 0 8 (sg_j26 51) from MI_s hI_j26 51).2; have := (show iv 0 8 (sg 51) from MI_s hI 51).1; have := (show iv 0 8 (sg 51) from MI_s hI 51).2; have := (hb35).1; have := (hb35).2; have := (h_31).1; have := (h_31).2; have := (h_36).1; have := (h_36).2; have := (h_39).1; have := (h_39).2; omega)).2) _ _ _ hP hD hS (lv_sub hl [0, 1] rfl)
        · have h_40 : iv 0 0 z_37 := iv_eq c_38 hz_37 (iv_k (by decide) : iv 0 0 0) (by decide)
          refine lv_aload_n hx hb dX13_gets_52 rfl (lv_at hl 0 rfl) ?_
          refine mr_get (v := .ref (ad 62)) hx hb htb inX13 hown hK hP 62 (by decide) (htb _ kw_212) rfl dX13_gets_53 ?_
          refine lv_iload_n hx hb dX13_gets_56 rfl (lv_at hl 1 rfl) ?_
          refine mr_zald hx hb hK hP 48 (k := 62) rfl rfl rfl (show vp_in b 80 from (iv_in hb35 (by decide))) dX13_gets_57 ?_
          refine lv_topi (fun z_41 ez_41 => ?_)
          have hz_41 : iv 0 1 z_41 := iv_of ez_41 (MI_a hI_j26 62 hb35 (by decide))
          refine lv_if_eq (tgt := 83) hx hb dX13_gets_58 (by decide) (fun c_42 => ?_) (fun c_42 => ?_)
          · have h_43 : iv 0 0 z_41 := iv_eq c_42 hz_41 (iv_k (by decide) : iv 0 0 0) (by decide)
            exact hj83 sg_j26 hb35 (KS_tr (L := [51, 52]) KS_rf hks_j26 (by decide)) hI_j26 (by rw [← ez_37]; exact c_38) ((hb0.resolve_left (by have := i32_0; have := i32_1; have := i32_2; have := i32_m1; have := (show iv 0 8 (sg_j26 51) from MI_s hI_j26 51).1; have := (show iv 0 8 (sg_j26 51) from MI_s hI_j26 51).2; have := (show iv 0 8 (sg 51) from MI_s hI 51).1; have := (show iv 0 8 (sg 51) from MI_s hI 51).2; have := (hb35).1; have := (hb35).2; have := (h_31).1; have := (h_31).2; have := (h_36).1; have := (h_36).2; have := (h_40).1; have := (h_40).2; have := (h_43).1; have := (h_43).2; omega)).2) _ _ _ hP hD hS (lv_sub hl [0, 1] rfl)
          · have h_44 : iv 1 1 z_41 := iv_neL c_42 hz_41 (by decide)
            refine lv_aload_n hx hb dX13_gets_61 rfl (lv_at hl 0 rfl) ?_
            refine mr_get (v := .ref (ad 60)) hx hb htb inX13 hown hK hP 60 (by decide) (htb _ kw_210) rfl dX13_gets_62 ?_
            refine lv_iload_n hx hb dX13_gets_65 rfl (lv_at hl 1 rfl) ?_
            refine mr_iald hx hb hK hP 46 (k := 60) rfl rfl rfl (show vp_in b 80 from (iv_in hb35 (by decide))) dX13_gets_66 ?_
            refine lv_topi (fun z_45 ez_45 => ?_)
            have hz_45 : iv (-1) 59 z_45 := iv_of ez_45 (MI_a hI_j26 60 hb35 (by decide))
            refine lv_iconst (v := (-1)) hx hb dX13_gets_67 (by decide) ?_
            refine lv_icmp_eq (tgt := 83) hx hb dX13_gets_68 (by decide) (fun c_46 => ?_) (fun c_46 => ?_)
            · have h_47 : iv (-1) (-1) z_45 := iv_eq c_46 hz_45 (iv_k (by decide) : iv (-1) (-1) (-1)) (by decide)
              exact hj83 sg_j26 hb35 (KS_tr (L := [51, 52]) KS_rf hks_j26 (by decide)) hI_j26 (by rw [← ez_37]; exact c_38) ((hb0.resolve_left (by have := i32_0; have := i32_1; have := i32_2; have := i32_m1; have := (show iv 0 8 (sg_j26 51) from MI_s hI_j26 51).1; have := (show iv 0 8 (sg_j26 51) from MI_s hI_j26 51).2; have := (show iv 0 8 (sg 51) from MI_s hI 51).1; have := (show iv 0 8 (sg 51) from MI_s hI 51).2; have := (hb35).1; have := (hb35).2; have := (h_31).1; have := (h_31).2; have := (h_36).1; have := (h_36).2; have := (h_40).1; have := (h_40).2; have := (h_44).1; have := (h_44).2; have := (h_47).1; have := (h_47).2; omega)).2) _ _ _ hP hD hS (lv_sub hl [0, 1] rfl)
            · have h_48 : iv 0 59 z_45 := iv_neL c_46 hz_45 (by decide)
              exact hj71 sg_j26 hb35 (KS_tr (L := [51, 52]) KS_rf hks_j26 (by decide)) hI_j26 (by rw [← ez_45]; exact (h_48).1) ((hb0.resolve_left (by have := i32_0; have := i32_1; have := i32_2; have := i32_m1; have := (show iv 0 8 (sg_j26 51) from MI_s hI_j26 51).1; have := (show iv 0 8 (sg_j26 51) from MI_s hI_j26 51).2; have := (show iv 0 8 (sg 51) from MI_s hI 51).1; have := (show iv 0 8 (sg 51) from MI_s hI 51).2; have := (hb35).1; have := (hb35).2; have := (h_31).1; have := (h_31).2; have := (h_36).1; have := (h_36).2; have := (h_40).1; have := (h_40).2; have := (h_44).1; have := (h_44).2; have := (h_48).1; have := (h_48).2; omega)).2) _ _ _ hP hD hS (lv_sub hl [0, 1] rfl)
    · have h_49 : iv 1 8 (sg_j26 51) := iv_neL c_30 (show iv 0 8 (sg_j26 51) from MI_s hI_j26 51) (by decide)
      refine lv_iconst (v := 0) hx hb dX13_gets_33 (by decide) ?_
      exact W.zret (v := 0) hx hb hr (iv_nb (iv_w (iv_k (by decide) : iv 0 0 0) (by decide))) (fun t ht hW => ⟨⟨0, (sg_j26, gm, lg), rfl, ⟨sg_j26, gm, lg, rfl, hI_j26, (KS_tr (L := [51, 52, 63, 74]) KS_rf hks_j26 (by decide)), KS_rf, KS_rf, (iv_w (iv_k (by decide) : iv 0 0 0) (by decide)), (GI0_of hgi (show KS [51, 52] sg sg_j26 from (KS_tr (L := [51, 52]) KS_rf hks_j26 (by decide))) (show KS [] gm gm from KS_rf) (show KS [] lg lg from KS_rf) (by decide) (by decide) (by decide) (by decide) (by decide) (by decide)), (Or.inr ⟨rfl, Or.inl (by have := i32_0; have := i32_1; have := i32_2; have := i32_m1; have := (show iv 0 8 (sg_j26 51) from MI_s hI_j26 51).1; have := (show iv 0 8 (sg_j26 51) from MI_s hI_j26 51).2; have := (show iv 0 8 (sg 51) from MI_s hI 51).1; have := (show iv 0 8 (sg 51) from MI_s hI 51).2; have := (hsx1_26).1; have := (hsx1_26).2; have := (h_49).1; have := (h_49).2; omega)⟩)⟩, by rw [ht]; exact hP, va_K.moved hW.alike hK, hD⟩, hS.F ht⟩) hS.2.2 dX13_gets_34
  refine lv_iload_n hx hb dX13_gets_0 rfl (lv_at hl 1 rfl) ?_
  refine lv_iconst (v := (-1)) hx hb dX13_gets_1 (by decide) ?_
  refine lv_icmp_ne (tgt := 13) hx hb dX13_gets_2 (by decide) (fun c_50 => ?_) (fun c_50 => ?_)
  · have h_51 : iv 0 79 b := iv_neL c_50 hvb (by decide)
    refine lv_aload_n hx hb dX13_gets_13 rfl (lv_at hl 0 rfl) ?_
    refine lv_iload_n hx hb dX13_gets_14 rfl (lv_at hl 1 rfl) ?_
    refine mr_calli (rest := []) ⟨hx, hb, hml, hown, htb⟩ (a_isAbstract l dC dI h0 ad cid sg gm lg b hI h_51) (cwV 1 htb (gd_V kw_1151 kw_1152 kw_1153 kw_5 kw_1601) rfl rfl rfl (by decide +kernel) ⟨Nat.le_of_ble_eq_true rfl, Nat.le_of_ble_eq_true rfl⟩) rfl hl.1 rfl (Nat.le_of_ble_eq_true rfl) dX13_gets_15 ⟨Nat.zero_le _, Nat.zero_le _⟩ hK hP hD hS hA (fun r_52 u_53 H locs hw hP hD hS => ?_)
    obtain ⟨hr_52, rfl⟩ := hw
    have hP : va_P (dC, dI) vwCl (mW h0 ad cid sg gm lg) H := hP
    have hD : va_D A (mW h0 ad cid sg gm lg) := hD
    refine lv_if_eq (tgt := 26) hx hb dX13_gets_18 (by decide) (fun c_54 => ?_) (fun c_54 => ?_)
    · have h_55 : iv 0 0 r_52 := iv_eq c_54 hr_52 (iv_k (by decide) : iv 0 0 0) (by decide)
      exact hj26 sg (iv_w h_51 (by decide)) KS_rf hI (Or.inr ⟨by have := i32_0; have := i32_1; have := i32_2; have := i32_m1; have := (show iv 0 8 (sg 51) from MI_s hI 51).1; have := (show iv 0 8 (sg 51) from MI_s hI 51).2; have := (h_51).1; have := (h_51).2; have := (h_55).1; have := (h_55).2; omega, rfl⟩) _ _ _ hP hD hS (lv_sub hl [0, 1] rfl)
    · have h_56 : iv 1 1 r_52 := iv_neL c_54 hr_52 (by decide)
      refine lv_aload_n hx hb dX13_gets_21 rfl (lv_at hl 0 rfl) ?_
      refine lv_iconst (v := 2) hx hb dX13_gets_22 (by decide) ?_
      refine mr_callv (rest := []) ⟨hx, hb, hml, hown, htb⟩ (f_fails l dC dI h0 ad cid sg gm lg 2 hI (iv_w (iv_k (by decide) : iv 2 2 2) (by decide))) (cwV 1 htb (gd_V kw_1165 kw_1166 kw_1167 kw_5 kw_1605) rfl rfl rfl (by decide +kernel) ⟨Nat.le_of_ble_eq_true rfl, Nat.le_of_ble_eq_true rfl⟩) rfl hl.1 rfl (Nat.le_of_ble_eq_true rfl) dX13_gets_23 ⟨Nat.zero_le _, Nat.zero_le _⟩ hK hP hD hS hA (fun u_58 H locs hw hP hD hS => ?_)
      obtain ⟨sgv_59, gmv_59, lgv_59, rfl, hIv_59, ksv_59, kgv_59, klv_59, fFl_r_57⟩ := hw
      obtain rfl := KS_nil kgv_59
      obtain rfl := KS_nil klv_59
      have hP : va_P (dC, dI) vwCl (mW h0 ad cid sgv_59 gm lg) H := hP
      have hD : va_D A (mW h0 ad cid sgv_59 gm lg) := hD
      exact hj26 sgv_59 (iv_w h_51 (by decide)) (KS_tr (L := [51, 52]) KS_rf ksv_59 (by decide)) hIv_59 (Or.inl (by have := i32_0; have := i32_1; have := i32_2; have := i32_m1; have := (show iv 0 8 (sgv_59 51) from MI_s hIv_59 51).1; have := (show iv 0 8 (sgv_59 51) from MI_s hIv_59 51).2; have := (show iv 0 8 (sg 51) from MI_s hI 51).1; have := (show iv 0 8 (sg 51) from MI_s hI 51).2; have := (h_51).1; have := (h_51).2; have := (h_56).1; have := (h_56).2; omega)) _ _ _ hP hD hS (lv_sub hl [0, 1] rfl)
  · have h_60 : iv (-1) (-1) b := iv_eq c_50 hvb (iv_k (by decide) : iv (-1) (-1) (-1)) (by decide)
    refine lv_aload_n hx hb dX13_gets_5 rfl (lv_at hl 0 rfl) ?_
    refine lv_iconst (v := 1) hx hb dX13_gets_6 (by decide) ?_
    refine mr_callv (rest := []) ⟨hx, hb, hml, hown, htb⟩ (f_fails l dC dI h0 ad cid sg gm lg 1 hI (iv_w (iv_k (by decide) : iv 1 1 1) (by decide))) (cwV 1 htb (gd_V kw_1165 kw_1166 kw_1167 kw_5 kw_1605) rfl rfl rfl (by decide +kernel) ⟨Nat.le_of_ble_eq_true rfl, Nat.le_of_ble_eq_true rfl⟩) rfl hl.1 rfl (Nat.le_of_ble_eq_true rfl) dX13_gets_7 ⟨Nat.zero_le _, Nat.zero_le _⟩ hK hP hD hS hA (fun u_62 H locs hw hP hD hS => ?_)
    obtain ⟨sgv_63, gmv_63, lgv_63, rfl, hIv_63, ksv_63, kgv_63, klv_63, fFl_r_61⟩ := hw
    obtain rfl := KS_nil kgv_63
    obtain rfl := KS_nil klv_63
    have hP : va_P (dC, dI) vwCl (mW h0 ad cid sgv_63 gm lg) H := hP
    have hD : va_D A (mW h0 ad cid sgv_63 gm lg) := hD
    refine lv_goto (tgt := 26) hx hb dX13_gets_10 (by decide) ?_
    exact hj26 sgv_63 (iv_w h_60 (by decide)) (KS_tr (L := [51, 52]) KS_rf ksv_63 (by decide)) hIv_63 (Or.inl (by have := i32_0; have := i32_1; have := i32_2; have := i32_m1; have := (show iv 0 8 (sgv_63 51) from MI_s hIv_63 51).1; have := (show iv 0 8 (sgv_63 51) from MI_s hIv_63 51).2; have := (show iv 0 8 (sg 51) from MI_s hI 51).1; have := (show iv 0 8 (sg 51) from MI_s hI 51).2; have := (h_60).1; have := (h_60).2; omega)) _ _ _ hP hD hS (lv_sub hl [0, 1] rfl)
