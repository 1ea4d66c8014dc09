def LM (sg : Nat → Int32) (gm : Nat → Nat → Int32) (lg : Nat → Nat → Int64) (b p9 ix : Int32) : Int := if p9.toInt = 3 then (if mArg sg gm lg b ix.toNatClampNeg = -1 then 0 else LIM sg gm (mArg sg gm lg b ix.toNatClampNeg)) else (if ix.toInt < (gm 44 b.toNatClampNeg).toInt then LIM sg gm (gm 45 (26 * b.toNatClampNeg + ix.toNatClampNeg)) else 0)
/-- what holds of a frame of the pile; w is 1 for one that waits -/
def FRv (sg : Nat → Int32) (gm : Nat → Nat → Int32) (lg : Nat → Nat → Int64) (b p9 ix it ob : Int32) (w : Int) : Prop := (p9.toInt = 3 ∨ p9.toInt = 4 → it.toInt + w ≤ LM sg gm lg b p9 ix) ∧ (p9.toInt ≤ 2 → ix.toInt = 0 ∧ it.toInt = 0) ∧ (p9.toInt = 3 → ARGN sg gm lg b ix.toNatClampNeg) ∧ (p9.toInt = 4 → ix.toInt ≤ (gm 44 b.toNatClampNeg).toInt ∧ 0 ≤ ob.toInt ∧ (¬ mMny gm lg b.toNatClampNeg → 0 ≤ (gm 60 b.toNatClampNeg).toInt))
def FR (sg : Nat → Int32) (gm : Nat → Nat → Int32) (lg : Nat → Nat → Int64) (j : Nat) (w : Int) : Prop := FRv sg gm lg (gm 64 j) (gm 65 j) (gm 66 j) (gm 67 j) (gm 69 j) w
theorem LIM_k {sg sg2 : Nat → Int32} {gm gm2 : Nat → Nat → Int32} {lg lg2 : Nat → Nat → Int64} (h : DK0 sg gm lg sg2 gm2 lg2) (x : Int32) : LIM sg2 gm2 x = LIM sg gm x := by
  unfold LIM; rw [mInn_k h, h.2.1, h.2.2.2.1]
theorem LM_k {sg sg2 : Nat → Int32} {gm gm2 : Nat → Nat → Int32} {lg lg2 : Nat → Nat → Int64} (h : DK sg gm lg sg2 gm2 lg2) (h44 : gm2 44 = gm 44) (h45 : gm2 45 = gm 45) (b p9 ix : Int32) : LM sg2 gm2 lg2 b p9 ix = LM sg gm lg b p9 ix := by
  unfold LM; rw [mArg_k h, LIM_k h.1, LIM_k h.1, h44, h45]
theorem FRv_k {sg sg2 : Nat → Int32} {gm gm2 : Nat → Nat → Int32} {lg lg2 : Nat → Nat → Int64} {b p9 ix it ob : Int32} {w : Int} (h : DK sg gm lg sg2 gm2 lg2) (h44 : gm2 44 = gm 44) (h45 : gm2 45 = gm 45) (h1 : lg2 1 = lg 1) (ho : ∀ k, 0 ≤ (gm 60 k).toInt → 0 ≤ (gm2 60 k).toInt) (q : FRv sg gm lg b p9 ix it ob w) : FRv sg2 gm2 lg2 b p9 ix it ob w := by
  obtain ⟨a1, a2, a3, a4⟩ := q
  refine ⟨fun z => by rw [LM_k h h44 h45]; exact a1 z, a2, fun z => ARGN_k h (a3 z), fun z => ?_⟩
  obtain ⟨c1, c2, c3⟩ := a4 z
  refine ⟨by rw [h44]; exact c1, c2, fun z2 => ho _ (c3 ?_)⟩
  rw [mMny_k h h1] at z2
  exact z2
/-- the one on top takes what it waited for -/
def DLV (sg : Nat → Int32) (gm gm2 : Nat → Nat → Int32) : Prop := ((gm 65 (TOPn sg)).toInt ≤ 2 ∧ gm2 67 = gm 67) ∨ (3 ≤ (gm 65 (TOPn sg)).toInt ∧ ∃ v, gm2 67 = upd (gm 67) (TOPn sg) v ∧ v.toInt = (gm 67 (TOPn sg)).toInt + 1)
/-- the element that a frame works at -/
def HEL (sg : Nat → Int32) (gm : Nat → Nat → Int32) (x : Int32) (it : Int) : Prop := iv 0 79 x ∧ x.toNatClampNeg < (sg 24).toNatClampNeg ∧ ((gm 26 x.toNatClampNeg).toInt = 4 ∨ (gm 26 x.toNatClampNeg).toInt = 5) ∧ it ≤ LIM sg gm x
theorem FR_3 {sg : Nat → Int32} {gm : Nat → Nat → Int32} {lg : Nat → Nat → Int64} {b p9 ix it ob r : Int32} (hn : iv 0 80 (sg 24)) (hs : STR sg gm lg) (h : FRv sg gm lg b p9 ix it ob 1) (hp : p9.toInt = 3) (hi : 0 ≤ it.toInt) (hr : r = mArg sg gm lg b ix.toNatClampNeg) : HEL sg gm r (it.toInt + 1) ∧ ix.toNatClampNeg ≤ 3 := by
  have h1 := h.1 (Or.inl hp)
  unfold LM at h1
  rw [if_pos hp] at h1
  by_cases q : mArg sg gm lg b ix.toNatClampNeg = -1
  · rw [if_pos q] at h1; omega
  · rw [if_neg q, ← hr] at h1
    obtain ⟨a1, a2, a3⟩ := arg_el hn hr q
    exact ⟨⟨a1, a2, Or.inl (by rw [a3]; rfl), h1⟩, arg_lt hn hs q⟩
theorem FR_4 {sg : Nat → Int32} {gm : Nat → Nat → Int32} {lg : Nat → Nat → Int64} {b p9 ix it ob : Int32} (h : FRv sg gm lg b p9 ix it ob 1) (hp : p9.toInt = 4) (hi : 0 ≤ it.toInt) : ix.toInt < (gm 44 b.toNatClampNeg).toInt ∧ it.toInt + 1 ≤ LIM sg gm (gm 45 (26 * b.toNatClampNeg + ix.toNatClampNeg)) := by
  have h1 := h.1 (Or.inr hp)
  unfold LM at h1
  rw [if_neg (by omega)] at h1
  by_cases q : ix.toInt < (gm 44 b.toNatClampNeg).toInt
  · rw [if_pos q] at h1; exact ⟨q, h1⟩
  · rw [if_neg q] at h1; omega
theorem HEL_5 {sg : Nat → Int32} {gm : Nat → Nat → Int32} {x : Int32} {it : Int} (h : SEK sg gm 5 x) (hi : it ≤ LIM sg gm x) : HEL sg gm x it := ⟨h.1, h.2.2, Or.inr (by rw [h.2.1]; rfl), hi⟩

set_option maxHeartbeats 4000000 in
set_option maxRecDepth 100000 in
theorem f_deliver (l : Launch) (dC : Nat → ClassId) (dI : Nat → Nat → Nat) (h0 : Nat) (ad : Nat → Nat) (cid : Nat → ClassId) (sg : Nat → Int32) (gm : Nat → Nat → Int32) (lg : Nat → Nat → Int64) (hI : MI sg gm) (hdoc : DOC sg gm lg) (hva : VAL gm) (hh1 : 1 ≤ (sg 63).toInt) (hgo : 0 ≤ (sg 74).toInt) (hfr : FR sg gm lg (TOPn sg) 1) (hph : 1 ≤ (gm 65 (TOPn sg)).toInt) (hpb : iv 0 79 (gm 64 (TOPn sg)) ∧ (gm 64 (TOPn sg)).toInt < (sg 41).toInt) (hit0 : 0 ≤ (gm 67 (TOPn sg)).toInt) : MMv l dC dI yX13_deliver wm_X13_deliver ({ frames := 6, cells := 0, slots := 0, locals := 142 }) h0 ad cid [] sg gm lg (fun v => ∃ (sg2 : Nat → Int32) (gm2 : Nat → Nat → Int32) (lg2 : Nat → Nat → Int64), v = (sg2, gm2, lg2) ∧ MI sg2 gm2 ∧ KS [] sg sg2 ∧ KS [67, 68, 70, 71, 72, 73] gm gm2 ∧ KS [] lg lg2 ∧ (VAL gm2) ∧ (DLV sg gm gm2)) := by
  intro sz
  refine Met.ofW (cc := cX13_deliver) (maxL := 5) (ret := none) (by decide) rfl ?_
  intro p e s m args below meth c s₁ B hml hv
  obtain ⟨rfl, hsz, hP, hK, hD0⟩ := hv
  have hx := B.exec
  have hb := B.bytes
  have hr := B.returns
  have hts := atoms_spec (ws := wm_X13_deliver) B.pre
  have htb := fun (w : Cond) (h : w ∈ tb) => hts w (List.mem_cons_of_mem _ h)
  have hown : s.vm.findClass RX13 = some m.cls := findClass_of_methodNamed B.named
  have hlocks := B.notSynchronized
  subst hsz
  have hD := hD0.self (sz := s.heap.size)
  generalize hAe : va_A (mW h0 ad cid sg gm lg) s.heap.size = A at hD ⊢
  have hA : ∀ q : Nat, s.heap.size ≤ q → A q := fun q h => by rw [← hAe]; exact Or.inr h
  have hS : va_S A s.heap s.heap [] := va_S.rf
  have hl := lv_entry ([.ref h0]) (n := 5) (Nat.le_of_ble_eq_true rfl)
  rw [lg_entry_eq]
  generalize (lg_sl ([.ref h0]) ++ List.replicate (5 - (lg_sl ([.ref h0])).length) Slot.unset).toArray = ls at hl ⊢
  have hl : lv_has ls 5 [(0, .ref h0)] := hl
  have h63 : iv 1 80 (sg 63) := ⟨hh1, (show iv 0 80 (sg 63) from MI_s hI 63).2⟩
  have h74 : iv 0 59 (sg 74) := ⟨hgo, (show iv (-1) 59 (sg 74) from MI_s hI 74).2⟩
  have hj200 : ∀ (gm_j200 : Nat → Nat → Int32) (x1_200 : Int32) (_ : iv 0 79 x1_200) (_ : KS [67, 68, 70, 71, 72, 73] gm gm_j200) (_ : MI sg gm_j200) (_ : DLV sg gm gm_j200) (_ : VAL gm_j200) (H : Heap) (locs : List Loc) (ls : Array Slot), va_P (dC, dI) vwCl (mW h0 ad cid sg gm_j200 lg) H → va_D A (mW h0 ad cid sg gm_j200 lg) → va_S A s.heap H locs → lv_has ls 5 [(1, .int x1_200), (0, .ref h0)] → W p l e (headSpec wm_X13_deliver ({ frames := 6, cells := 0, slots := 0, locals := 142 })).room s m ([.ref h0] : List Value).toArray below meth c H locs 0 0 (MQ below (va_Qv (fun v => ∃ (sg2 : Nat → Int32) (gm2 : Nat → Nat → Int32) (lg2 : Nat → Nat → Int64), v = (sg2, gm2, lg2) ∧ MI sg2 gm2 ∧ KS [] sg sg2 ∧ KS [67, 68, 70, 71, 72, 73] gm gm2 ∧ KS [] lg lg2 ∧ (VAL gm2) ∧ (DLV sg gm gm2)) (MB dC dI h0 ad cid A) A) ([.ref h0] : List Value).toArray s 0 0 A) (F0 m 200 ls []) := by
    intro gm_j200 x1_200 hx1_200 hkg_j200 hI_j200 hDl hVA H locs ls hP hD hS hl
    exact W.vret hx hb hr (fun t ht hW => ⟨⟨(sg, gm_j200, lg), rfl, ⟨sg, gm_j200, lg, rfl, hI_j200, KS_rf, (KS_tr (L := [67, 68, 70, 71, 72, 73]) KS_rf hkg_j200 (by decide)), KS_rf, (hVA), (hDl)⟩, by rw [ht]; exact hP, va_K.moved hW.alike hK, hD⟩, hS.F ht⟩) hS.2.2 dX13_deliver_200
  have hj182 : ∀ (x4_182 : Int32) (x3_182 : Int32) (x2_182 : Int32) (x1_182 : Int32) (y0_182 : Int32) (y1_182 : Int32) (_ : iv 0 1 x4_182) (_ : iv 0 399 x3_182) (_ : iv 0 79 x2_182) (_ : iv 0 79 x1_182) (_ : iv (-1) 5 y0_182) (_ : iv 0 399 y1_182) (_ : HEL sg gm x2_182 ((gm 67 (TOPn sg)).toInt + 1)) (_ : 3 ≤ (gm 65 (TOPn sg)).toInt) (_ : x1_182.toNatClampNeg = TOPn sg) (H : Heap) (locs : List Loc) (ls : Array Slot), va_P (dC, dI) vwCl (mW h0 ad cid sg gm lg) H → va_D A (mW h0 ad cid sg gm lg) → va_S A s.heap H locs → lv_has ls 5 [(4, .int x4_182), (3, .int x3_182), (2, .int x2_182), (1, .int x1_182), (0, .ref h0)] → W p l e (headSpec wm_X13_deliver ({ frames := 6, cells := 0, slots := 0, locals := 142 })).room s m ([.ref h0] : List Value).toArray below meth c H locs 0 0 (MQ below (va_Qv (fun v => ∃ (sg2 : Nat → Int32) (gm2 : Nat → Nat → Int32) (lg2 : Nat → Nat → Int64), v = (sg2, gm2, lg2) ∧ MI sg2 gm2 ∧ KS [] sg sg2 ∧ KS [67, 68, 70, 71, 72, 73] gm gm2 ∧ KS [] lg lg2 ∧ (VAL gm2) ∧ (DLV sg gm gm2)) (MB dC dI h0 ad cid A) A) ([.ref h0] : List Value).toArray s 0 0 A) (F0 m 182 ls [.int y0_182, .int y1_182, .ref h0]) := by
    intro x4_182 x3_182 x2_182 x1_182 y0_182 y1_182 hx4_182 hx3_182 hx2_182 hx1_182 hy0_182 hy1_182 hHE hp9 htop H locs ls hP hD hS hl
    refine lv_iconst (v := 1) hx hb dX13_deliver_182 (by decide) ?_
    refine lv_aload_n hx hb dX13_deliver_183 rfl (lv_at hl 4 rfl) ?_
    refine mr_get (v := .int (sg 74)) hx hb htb inX13 hown hK hP 74 (by decide) (htb _ kw_1164) rfl dX13_deliver_184 ?_
    refine mr_callv (rest := []) ⟨hx, hb, hml, hown, htb⟩ (f_keep l dC dI h0 ad cid sg gm lg y1_182 y0_182 1 (sg 74) hI (iv_w hy1_182 (by decide)) hy0_182 (iv_w (iv_k (by decide) : iv 1 1 1) (by decide)) (iv_w h74 (by decide)) hva (vok_1 h74.2)) (cwV 4 htb (gd_V kw_1183 kw_1184 kw_1185 kw_5 kw_1611) rfl rfl rfl (by decide +kernel) ⟨Nat.le_of_ble_eq_true rfl, Nat.le_of_ble_eq_true rfl⟩) rfl hl.1 rfl (Nat.le_of_ble_eq_true rfl) dX13_deliver_187 ⟨Nat.zero_le _, Nat.zero_le _⟩ hK hP hD hS hA (fun u_2 H locs hw hP hD hS => ?_)
    obtain ⟨sgv_3, gmv_3, lgv_3, rfl, hIv_3, ksv_3, kgv_3, klv_3, fV_r_1⟩ := hw
    obtain rfl := KS_nil ksv_3
    obtain rfl := KS_nil klv_3
    have hP : va_P (dC, dI) vwCl (mW h0 ad cid sg gmv_3 lg) H := hP
    have hD : va_D A (mW h0 ad cid sg gmv_3 lg) := hD
    refine lv_aload_n hx hb dX13_deliver_190 rfl (lv_at hl 4 rfl) ?_
    refine mr_get (v := .ref (ad 67)) hx hb htb inX13 hown hK hP 67 (by decide) (htb _ kw_216) rfl dX13_deliver_191 ?_
    refine lv_iload_n hx hb dX13_deliver_194 rfl (lv_at hl 3 rfl) ?_
    refine lv_dup2_11 hx hb dX13_deliver_195 rfl rfl ?_
    refine mr_iald hx hb hK hP 52 (k := 67) rfl rfl rfl (show vp_in x1_182 81 from (iv_in hx1_182 (by decide))) dX13_deliver_196 ?_
    refine lv_topi (fun z_4 ez_4 => ?_)
    have hz_4 : iv 0 6 z_4 := iv_of ez_4 (MI_a hIv_3 67 hx1_182 (by decide))
    have ez_4 := ez_4.trans (congrFun (kgv_3 67 (by decide)) _)
    have h_5 : iv 0 5 z_4 := ⟨(hz_4).1, by have q9 := ez_4; rw [htop] at q9; rw [q9]; have q8 := (LIM_iv hdoc.1.1 (show iv 0 80 (sg 24) from MI_s hI 24) hdoc.1.2.1 hHE.1 hHE.2.1).2; have := hHE.2.2.2; omega⟩
    refine lv_iconst (v := 1) hx hb dX13_deliver_197 (by decide) ?_
    refine lv_iadd hx hb dX13_deliver_198 ?_
    refine lv_topi (fun z_6 ez_6 => ?_)
    have hz_6 : iv 1 6 z_6 := iv_of ez_6 (iv_add h_5 (iv_k (by decide) : iv 1 1 1) (by decide))
    have tz_6 : z_6.toInt = (z_4 : Int32).toInt + 1 := by rw [ez_6]; exact iv_addE h_5 (iv_k (by decide) : iv 1 1 1) (by decide)
    refine ma_iast (x := z_6) hx hb hK hP hD hS 52 (k := 67) rfl rfl rfl (show vp_in x1_182 81 from (iv_in hx1_182 (by decide))) dX13_deliver_199 (fun gm_7 H locs egm_7 hP hD hS => ?_)
    have hI_gm_7 := MI_st hIv_3 egm_7 hz_6 (by decide)
    exact hj200 gm_7 x1_182 hx1_182 (KS_up (KS_tr (L := [67, 68, 70, 71, 72, 73]) KS_rf kgv_3 (by decide)) egm_7 (by decide)) hI_gm_7 (Or.inr ⟨hp9, z_6, by rw [← htop]; exact (show gm_7 67 = upd (gm 67) (x1_182 : Int32).toNatClampNeg z_6 from ((up_at egm_7).trans (by rw [show gmv_3 67 = gm 67 from ((kgv_3 67 (by decide)).trans rfl)]))), by have := tz_6; have := congrArg Int32.toInt (show z_4 = gm 67 (TOPn sg) from (by have q9 := ez_4; rw [htop] at q9; exact q9)); omega⟩) ((VAL_k ((show KS [67] gmv_3 gm_7 from (KS_up KS_rf egm_7 (by decide))) 70 (by decide)) ((show KS [67] gmv_3 gm_7 from (KS_up KS_rf egm_7 (by decide))) 71 (by decide)) ((show KS [67] gmv_3 gm_7 from (KS_up KS_rf egm_7 (by decide))) 72 (by decide)) ((show KS [67] gmv_3 gm_7 from (KS_up KS_rf egm_7 (by decide))) 73 (by decide)) fV_r_1)) _ _ _ hP hD hS (lv_sub hl [3, 4] rfl)
  have hj163 : ∀ (x3_163 : Int32) (x2_163 : Int32) (x1_163 : Int32) (y0_163 : Int32) (_ : iv 0 399 x3_163) (_ : iv 0 79 x2_163) (_ : iv 0 79 x1_163) (_ : iv 0 1 y0_163) (_ : HEL sg gm x2_163 ((gm 67 (TOPn sg)).toInt + 1)) (_ : 3 ≤ (gm 65 (TOPn sg)).toInt) (_ : x1_163.toNatClampNeg = TOPn sg) (H : Heap) (locs : List Loc) (ls : Array Slot), va_P (dC, dI) vwCl (mW h0 ad cid sg gm lg) H → va_D A (mW h0 ad cid sg gm lg) → va_S A s.heap H locs → lv_has ls 5 [(3, .int x3_163), (2, .int x2_163), (1, .int x1_163), (0, .ref h0)] → W p l e (headSpec wm_X13_deliver ({ frames := 6, cells := 0, slots := 0, locals := 142 })).room s m ([.ref h0] : List Value).toArray below meth c H locs 0 0 (MQ below (va_Qv (fun v => ∃ (sg2 : Nat → Int32) (gm2 : Nat → Nat → Int32) (lg2 : Nat → Nat → Int64), v = (sg2, gm2, lg2) ∧ MI sg2 gm2 ∧ KS [] sg sg2 ∧ KS [67, 68, 70, 71, 72, 73] gm gm2 ∧ KS [] lg lg2 ∧ (VAL gm2) ∧ (DLV sg gm gm2)) (MB dC dI h0 ad cid A) A) ([.ref h0] : List Value).toArray s 0 0 A) (F0 m 163 ls [.int y0_163]) := by
    intro x3_163 x2_163 x1_163 y0_163 hx3_163 hx2_163 hx1_163 hy0_163 hHE hp9 htop H locs ls hP hD hS hl
    refine lv_istore (lv' := [(4, .int y0_163), (3, .int x3_163), (2, .int x2_163), (1, .int x1_163), (0, .ref h0)]) hx hb dX13_deliver_163 hl (by decide) rfl (fun ls hl => ?_)
    refine lv_aload_n hx hb dX13_deliver_165 rfl (lv_at hl 4 rfl) ?_
    refine lv_iload_n hx hb dX13_deliver_166 rfl (lv_at hl 1 rfl) ?_
    refine lv_iload hx hb dX13_deliver_167 (lv_at hl 0 rfl) ?_
    refine lv_if_eq (tgt := 181) hx hb dX13_deliver_169 (by decide) (fun c_8 => ?_) (fun c_8 => ?_)
    · have h_9 : iv 0 0 y0_163 := iv_eq c_8 hy0_163 (iv_k (by decide) : iv 0 0 0) (by decide)
      refine lv_iconst (v := (-1)) hx hb dX13_deliver_181 (by decide) ?_
      exact hj182 y0_163 x3_163 x2_163 x1_163 (-1) x3_163 (iv_w h_9 (by decide)) hx3_163 hx2_163 hx1_163 (iv_w (iv_k (by decide) : iv (-1) (-1) (-1)) (by decide)) hx3_163 (hHE) (hp9) (htop) _ _ _ hP hD hS (lv_sub hl [0, 1, 2, 3, 4] rfl)
    · have h_10 : iv 1 1 y0_163 := iv_neL c_8 hy0_163 (by decide)
      refine lv_aload_n hx hb dX13_deliver_172 rfl (lv_at hl 4 rfl) ?_
      refine mr_get (v := .ref (ad 67)) hx hb htb inX13 hown hK hP 67 (by decide) (htb _ kw_216) rfl dX13_deliver_173 ?_
      refine lv_iload_n hx hb dX13_deliver_176 rfl (lv_at hl 3 rfl) ?_
      refine mr_iald hx hb hK hP 52 (k := 67) rfl rfl rfl (show vp_in x1_163 81 from (iv_in hx1_163 (by decide))) dX13_deliver_177 ?_
      refine lv_topi (fun z_11 ez_11 => ?_)
      have hz_11 : iv 0 6 z_11 := iv_of ez_11 (MI_a hI 67 hx1_163 (by decide))
      have h_12 : iv 0 5 z_11 := ⟨(hz_11).1, by have q9 := ez_11; rw [htop] at q9; rw [q9]; have q8 := (LIM_iv hdoc.1.1 (show iv 0 80 (sg 24) from MI_s hI 24) hdoc.1.2.1 hHE.1 hHE.2.1).2; have := hHE.2.2.2; omega⟩
      refine lv_goto (tgt := 182) hx hb dX13_deliver_178 (by decide) ?_
      exact hj182 y0_163 x3_163 x2_163 x1_163 z_11 x3_163 (iv_w h_10 (by decide)) hx3_163 hx2_163 hx1_163 (iv_w h_12 (by decide)) hx3_163 (hHE) (hp9) (htop) _ _ _ hP hD hS (lv_sub hl [0, 1, 2, 3, 4] rfl)
  have hj162 : ∀ (x3_162 : Int32) (x2_162 : Int32) (x1_162 : Int32) (_ : iv 0 399 x3_162) (_ : iv 0 79 x2_162) (_ : iv 0 79 x1_162) (_ : HEL sg gm x2_162 ((gm 67 (TOPn sg)).toInt + 1)) (_ : 3 ≤ (gm 65 (TOPn sg)).toInt) (_ : x1_162.toNatClampNeg = TOPn sg) (H : Heap) (locs : List Loc) (ls : Array Slot), va_P (dC, dI) vwCl (mW h0 ad cid sg gm lg) H → va_D A (mW h0 ad cid sg gm lg) → va_S A s.heap H locs → lv_has ls 5 [(3, .int x3_162), (2, .int x2_162), (1, .int x1_162), (0, .ref h0)] → W p l e (headSpec wm_X13_deliver ({ frames := 6, cells := 0, slots := 0, locals := 142 })).room s m ([.ref h0] : List Value).toArray below meth c H locs 0 0 (MQ below (va_Qv (fun v => ∃ (sg2 : Nat → Int32) (gm2 : Nat → Nat → Int32) (lg2 : Nat → Nat → Int64), v = (sg2, gm2, lg2) ∧ MI sg2 gm2 ∧ KS [] sg sg2 ∧ KS [67, 68, 70, 71, 72, 73] gm gm2 ∧ KS [] lg lg2 ∧ (VAL gm2) ∧ (DLV sg gm gm2)) (MB dC dI h0 ad cid A) A) ([.ref h0] : List Value).toArray s 0 0 A) (F0 m 162 ls []) := by
    intro x3_162 x2_162 x1_162 hx3_162 hx2_162 hx1_162 hHE hp9 htop H locs ls hP hD hS hl
    refine lv_iconst (v := 0) hx hb dX13_deliver_162 (by decide) ?_
    exact hj163 x3_162 x2_162 x1_162 0 hx3_162 hx2_162 hx1_162 (iv_w (iv_k (by decide) : iv 0 0 0) (by decide)) (hHE) (hp9) (htop) _ _ _ hP hD hS (lv_sub hl [0, 1, 2, 3] rfl)
  have hj130 : ∀ (x2_130 : Int32) (x1_130 : Int32) (y0_130 : Int32) (y1_130 : Int32) (_ : iv 0 79 x2_130) (_ : iv 0 79 x1_130) (_ : iv 0 4 y0_130) (_ : iv 0 395 y1_130) (_ : HEL sg gm x2_130 ((gm 67 (TOPn sg)).toInt + 1)) (_ : 3 ≤ (gm 65 (TOPn sg)).toInt) (_ : x1_130.toNatClampNeg = TOPn sg) (H : Heap) (locs : List Loc) (ls : Array Slot), va_P (dC, dI) vwCl (mW h0 ad cid sg gm lg) H → va_D A (mW h0 ad cid sg gm lg) → va_S A s.heap H locs → lv_has ls 5 [(2, .int x2_130), (1, .int x1_130), (0, .ref h0)] → W p l e (headSpec wm_X13_deliver ({ frames := 6, cells := 0, slots := 0, locals := 142 })).room s m ([.ref h0] : List Value).toArray below meth c H locs 0 0 (MQ below (va_Qv (fun v => ∃ (sg2 : Nat → Int32) (gm2 : Nat → Nat → Int32) (lg2 : Nat → Nat → Int64), v = (sg2, gm2, lg2) ∧ MI sg2 gm2 ∧ KS [] sg sg2 ∧ KS [67, 68, 70, 71, 72, 73] gm gm2 ∧ KS [] lg lg2 ∧ (VAL gm2) ∧ (DLV sg gm gm2)) (MB dC dI h0 ad cid A) A) ([.ref h0] : List Value).toArray s 0 0 A) (F0 m 130 ls [.int y0_130, .int y1_130]) := by
    intro x2_130 x1_130 y0_130 y1_130 hx2_130 hx1_130 hy0_130 hy1_130 hHE hp9 htop H locs ls hP hD hS hl
    refine lv_iadd hx hb dX13_deliver_130 ?_
    refine lv_topi (fun z_13 ez_13 => ?_)
    have hz_13 : iv 0 399 z_13 := iv_of ez_13 (iv_add hy1_130 hy0_130 (by decide))
    have tz_13 : z_13.toInt = (y1_130 : Int32).toInt + (y0_130 : Int32).toInt := by rw [ez_13]; exact iv_addE hy1_130 hy0_130 (by decide)
    refine lv_istore_n (lv' := [(3, .int z_13), (2, .int x2_130), (1, .int x1_130), (0, .ref h0)]) hx hb dX13_deliver_131 rfl hl (by decide) rfl (fun ls hl => ?_)
    refine lv_aload_n hx hb dX13_deliver_132 rfl (lv_at hl 3 rfl) ?_
    refine mr_get (v := .ref (ad 29)) hx hb htb inX13 hown hK hP 29 (by decide) (htb _ kw_185) rfl dX13_deliver_133 ?_
    refine lv_iload_n hx hb dX13_deliver_136 rfl (lv_at hl 1 rfl) ?_
    refine mr_iald hx hb hK hP 22 (k := 29) rfl rfl rfl (show vp_in x2_130 80 from (iv_in hx2_130 (by decide))) dX13_deliver_137 ?_
    refine lv_topi (fun z_14 ez_14 => ?_)
    have hz_14 : iv 0 80 z_14 := iv_of ez_14 (MI_a hI 29 hx2_130 (by decide))
    refine lv_if_le (tgt := 162) hx hb dX13_deliver_138 (by decide) (fun c_15 => ?_) (fun c_15 => ?_)
    · have h_16 : iv 0 0 z_14 := iv_leL c_15 hz_14 (iv_k (by decide) : iv 0 0 0) (by decide)
      exact hj162 z_13 x2_130 x1_130 hz_13 hx2_130 hx1_130 (hHE) (hp9) (htop) _ _ _ hP hD hS (lv_sub hl [0, 1, 2, 3] rfl)
    · have h_17 : iv 1 80 z_14 := iv_ltR (i32_lt c_15) (iv_k (by decide) : iv 0 0 0) hz_14 (by decide)
      refine lv_aload_n hx hb dX13_deliver_141 rfl (lv_at hl 3 rfl) ?_
      refine mr_get (v := .ref (ad 26)) hx hb htb inX13 hown hK hP 26 (by decide) (htb _ kw_182) rfl dX13_deliver_142 ?_
      refine lv_aload_n hx hb dX13_deliver_145 rfl (lv_at hl 3 rfl) ?_
      refine lv_iload_n hx hb dX13_deliver_146 rfl (lv_at hl 1 rfl) ?_
      refine lv_iconst (v := 0) hx hb dX13_deliver_147 (by decide) ?_
      refine lv_iload_n hx hb dX13_deliver_148 rfl (lv_at hl 1 rfl) ?_
      refine mr_calli (rest := [.ref (ad 26)]) ⟨hx, hb, hml, hown, htb⟩ (f_inner l dC dI h0 ad cid sg gm lg x2_130 0 x2_130 hI (iv_w hx2_130 (by decide)) (iv_w (iv_k (by decide) : iv 0 0 0) (by decide)) hx2_130) (cwV 3 htb (gd_V kw_961 kw_962 kw_963 kw_5 kw_1557) rfl rfl rfl (by decide +kernel) ⟨Nat.le_of_ble_eq_true rfl, Nat.le_of_ble_eq_true rfl⟩) rfl hl.1 rfl (Nat.le_of_ble_eq_true rfl) dX13_deliver_149 ⟨Nat.zero_le _, Nat.zero_le _⟩ hK hP hD hS hA (fun r_18 u_19 H locs hw hP hD hS => ?_)
      obtain ⟨hr_18, fN_r_18, rfl⟩ := hw
      have hP : va_P (dC, dI) vwCl (mW h0 ad cid sg gm lg) H := hP
      have hD : va_D A (mW h0 ad cid sg gm lg) := hD
      have h152 := (chF_in (n := 0) hdoc.1.1 (show iv 0 80 (sg 24) from MI_s hI 24) hHE.1 hHE.2.1 fN_r_18 (by rw [← ez_14]; have := (h_17).1; omega)).1
      refine mr_iald hx hb hK hP 19 (k := 26) rfl rfl rfl (show vp_in r_18 80 from (iv_in h152 (by decide))) dX13_deliver_152 ?_
      refine lv_topi (fun z_20 ez_20 => ?_)
      have hz_20 : iv 0 10 z_20 := iv_of ez_20 (MI_a hI 26 h152 (by decide))
      refine lv_bipush (v := 6) hx hb dX13_deliver_153 (by decide) ?_
      refine lv_icmp_ne (tgt := 162) hx hb dX13_deliver_155 (by decide) (fun c_21 => ?_) (fun c_21 => ?_)
      · have d_22 : ¬ (z_20 : Int32).toInt = 6 := lv_neT c_21 rfl
        exact hj162 z_13 x2_130 x1_130 hz_13 hx2_130 hx1_130 (hHE) (hp9) (htop) _ _ _ hP hD hS (lv_sub hl [0, 1, 2, 3] rfl)
      · have h_23 : iv 6 6 z_20 := iv_eq c_21 hz_20 (iv_k (by decide) : iv 6 6 6) (by decide)
        refine lv_iconst (v := 1) hx hb dX13_deliver_158 (by decide) ?_
        refine lv_goto (tgt := 163) hx hb dX13_deliver_159 (by decide) ?_
        exact hj163 z_13 x2_130 x1_130 1 hz_13 hx2_130 hx1_130 (iv_w (iv_k (by decide) : iv 1 1 1) (by decide)) (hHE) (hp9) (htop) _ _ _ hP hD hS (lv_sub hl [0, 1, 2, 3] rfl)
  have hj106 : ∀ (x1_106 : Int32) (y0_106 : Int32) (_ : iv 0 79 x1_106) (_ : iv 0 79 y0_106) (_ : HEL sg gm y0_106 ((gm 67 (TOPn sg)).toInt + 1)) (_ : (gm 65 (TOPn sg)).toInt = 3 → (gm 66 (TOPn sg)).toNatClampNeg ≤ 3) (_ : 3 ≤ (gm 65 (TOPn sg)).toInt) (_ : x1_106.toNatClampNeg = TOPn sg) (H : Heap) (locs : List Loc) (ls : Array Slot), va_P (dC, dI) vwCl (mW h0 ad cid sg gm lg) H → va_D A (mW h0 ad cid sg gm lg) → va_S A s.heap H locs → lv_has ls 5 [(1, .int x1_106), (0, .ref h0)] → W p l e (headSpec wm_X13_deliver ({ frames := 6, cells := 0, slots := 0, locals := 142 })).room s m ([.ref h0] : List Value).toArray below meth c H locs 0 0 (MQ below (va_Qv (fun v => ∃ (sg2 : Nat → Int32) (gm2 : Nat → Nat → Int32) (lg2 : Nat → Nat → Int64), v = (sg2, gm2, lg2) ∧ MI sg2 gm2 ∧ KS [] sg sg2 ∧ KS [67, 68, 70, 71, 72, 73] gm gm2 ∧ KS [] lg lg2 ∧ (VAL gm2) ∧ (DLV sg gm gm2)) (MB dC dI h0 ad cid A) A) ([.ref h0] : List Value).toArray s 0 0 A) (F0 m 106 ls [.int y0_106]) := by
    intro x1_106 y0_106 hx1_106 hy0_106 hHE h3i hp9 htop H locs ls hP hD hS hl
    refine lv_istore_n (lv' := [(2, .int y0_106), (1, .int x1_106), (0, .ref h0)]) hx hb dX13_deliver_106 rfl hl (by decide) rfl (fun ls hl => ?_)
    refine lv_iconst (v := 5) hx hb dX13_deliver_107 (by decide) ?_
    refine lv_iload_n hx hb dX13_deliver_108 rfl (lv_at hl 1 rfl) ?_
    refine lv_imul hx hb dX13_deliver_109 ?_
    refine lv_topi (fun z_24 ez_24 => ?_)
    have hz_24 : iv 0 395 z_24 := iv_of ez_24 (iv_mul (iv_k (by decide) : iv 5 5 5) hx1_106 (by decide))
    have tz_24 : z_24.toInt = 5 * (x1_106 : Int32).toInt := by rw [ez_24]; exact iv_mulE (iv_k (by decide) : iv 5 5 5) hx1_106 (by decide)
    refine lv_aload_n hx hb dX13_deliver_110 rfl (lv_at hl 2 rfl) ?_
    refine mr_get (v := .ref (ad 65)) hx hb htb inX13 hown hK hP 65 (by decide) (htb _ kw_214) rfl dX13_deliver_111 ?_
    refine lv_iload_n hx hb dX13_deliver_114 rfl (lv_at hl 1 rfl) ?_
    refine mr_iald hx hb hK hP 50 (k := 65) rfl rfl rfl (show vp_in x1_106 81 from (iv_in hx1_106 (by decide))) dX13_deliver_115 ?_
    refine lv_topi (fun z_25 ez_25 => ?_)
    have hz_25 : iv 0 4 z_25 := iv_of ez_25 (MI_a hI 65 hx1_106 (by decide))
    refine lv_iconst (v := 3) hx hb dX13_deliver_116 (by decide) ?_
    refine lv_icmp_ne (tgt := 129) hx hb dX13_deliver_117 (by decide) (fun c_26 => ?_) (fun c_26 => ?_)
    · have d_27 : ¬ (z_25 : Int32).toInt = 3 := lv_neT c_26 rfl
      refine lv_iconst (v := 4) hx hb dX13_deliver_129 (by decide) ?_
      exact hj130 y0_106 x1_106 4 z_24 hy0_106 hx1_106 (iv_w (iv_k (by decide) : iv 4 4 4) (by decide)) hz_24 (hHE) (hp9) (htop) _ _ _ hP hD hS (lv_sub hl [0, 1, 2] rfl)
    · have h_28 : iv 3 3 z_25 := iv_eq c_26 hz_25 (iv_k (by decide) : iv 3 3 3) (by decide)
      refine lv_aload_n hx hb dX13_deliver_120 rfl (lv_at hl 2 rfl) ?_
      refine mr_get (v := .ref (ad 66)) hx hb htb inX13 hown hK hP 66 (by decide) (htb _ kw_215) rfl dX13_deliver_121 ?_
      refine lv_iload_n hx hb dX13_deliver_124 rfl (lv_at hl 1 rfl) ?_
      refine mr_iald hx hb hK hP 51 (k := 66) rfl rfl rfl (show vp_in x1_106 81 from (iv_in hx1_106 (by decide))) dX13_deliver_125 ?_
      refine lv_topi (fun z_29 ez_29 => ?_)
      have hz_29 : iv 0 26 z_29 := iv_of ez_29 (MI_a hI 66 hx1_106 (by decide))
      have h_30 : iv 0 3 z_29 := ⟨(hz_29).1, by have q8 : z_29.toNatClampNeg ≤ 3 := (by rw [(show z_29 = gm 66 (TOPn sg) from (by have q9 := ez_29; rw [htop] at q9; exact q9))]; exact h3i (by rw [← (show z_25 = gm 65 (TOPn sg) from (by have q9 := ez_25; rw [htop] at q9; exact q9))]; exact congrArg Int32.toInt c_26)); have := iv_cl hz_29 (by decide); omega⟩
      refine lv_goto (tgt := 130) hx hb dX13_deliver_126 (by decide) ?_
      exact hj130 y0_106 x1_106 z_29 z_24 hy0_106 hx1_106 (iv_w h_30 (by decide)) hz_24 (hHE) (hp9) (htop) _ _ _ hP hD hS (lv_sub hl [0, 1, 2] rfl)
  refine lv_aload_n hx hb dX13_deliver_0 rfl (lv_at hl 0 rfl) ?_
  refine mr_get (v := .int (sg 63)) hx hb htb inX13 hown hK hP 63 (by decide) (htb _ kw_1160) rfl dX13_deliver_1 ?_
  refine lv_iconst (v := 1) hx hb dX13_deliver_4 (by decide) ?_
  refine lv_isub hx hb dX13_deliver_5 ?_
  refine lv_topi (fun z_31 ez_31 => ?_)
  have hz_31 : iv 0 79 z_31 := iv_of ez_31 (iv_sub h63 (iv_k (by decide) : iv 1 1 1) (by decide))
  have tz_31 : z_31.toInt = ((sg 63) : Int32).toInt - 1 := by rw [ez_31]; exact iv_subE h63 (iv_k (by decide) : iv 1 1 1) (by decide)
  refine lv_istore_n (lv' := [(1, .int z_31), (0, .ref h0)]) hx hb dX13_deliver_6 rfl hl (by decide) rfl (fun ls hl => ?_)
  have htop := top_n h63 tz_31
  refine lv_aload_n hx hb dX13_deliver_7 rfl (lv_at hl 1 rfl) ?_
  refine mr_get (v := .ref (ad 65)) hx hb htb inX13 hown hK hP 65 (by decide) (htb _ kw_214) rfl dX13_deliver_8 ?_
  refine lv_iload_n hx hb dX13_deliver_11 rfl (lv_at hl 0 rfl) ?_
  refine mr_iald hx hb hK hP 50 (k := 65) rfl rfl rfl (show vp_in z_31 81 from (iv_in hz_31 (by decide))) dX13_deliver_12 ?_
  refine lv_topi (fun z_32 ez_32 => ?_)
  have hz_32 : iv 0 4 z_32 := iv_of ez_32 (MI_a hI 65 hz_31 (by decide))
  by_cases c_33 : (z_32 : Int32).toInt = 1
  · refine lv_lookup (off := 27) (tgt := 40) hx hb dX13_deliver_13 (by decide) (by rw [c_33]; rfl) (by decide) ?_
    have h_34 : iv 1 1 z_32 := iv_at c_33
    refine lv_goto (tgt := 200) hx hb dX13_deliver_40 (by decide) ?_
    exact hj200 gm z_31 hz_31 KS_rf hI (Or.inl ⟨by rw [← (show z_32 = gm 65 (TOPn sg) from (by have q9 := ez_32; rw [htop] at q9; exact q9))]; have := (h_34).2; omega, rfl⟩) ((VAL_k rfl rfl rfl rfl hva)) _ _ _ hP hD hS (lv_sub hl [0, 1] rfl)
  by_cases c_35 : (z_32 : Int32).toInt = 2
  · refine lv_lookup (off := 30) (tgt := 43) hx hb dX13_deliver_13 (by decide) (by rw [c_35]; rfl) (by decide) ?_
    have h_36 : iv 2 2 z_32 := iv_at c_35
    refine lv_aload_n hx hb dX13_deliver_43 rfl (lv_at hl 1 rfl) ?_
    refine mr_get (v := .ref (ad 68)) hx hb htb inX13 hown hK hP 68 (by decide) (htb _ kw_217) rfl dX13_deliver_44 ?_
    refine lv_iload_n hx hb dX13_deliver_47 rfl (lv_at hl 0 rfl) ?_
    refine lv_aload_n hx hb dX13_deliver_48 rfl (lv_at hl 1 rfl) ?_
    refine mr_get (v := .int (sg 74)) hx hb htb inX13 hown hK hP 74 (by decide) (htb _ kw_1164) rfl dX13_deliver_49 ?_
    refine ma_iast (x := (sg 74)) hx hb hK hP hD hS 53 (k := 68) rfl rfl rfl (show vp_in z_31 81 from (iv_in hz_31 (by decide))) dX13_deliver_52 (fun gm_37 H locs egm_37 hP hD hS => ?_)
    have hI_gm_37 := MI_st hI egm_37 h74 (by decide)
    refine lv_goto (tgt := 200) hx hb dX13_deliver_53 (by decide) ?_
    exact hj200 gm_37 z_31 hz_31 (KS_up KS_rf egm_37 (by decide)) hI_gm_37 (Or.inl ⟨by rw [← (show z_32 = gm 65 (TOPn sg) from (by have q9 := ez_32; rw [htop] at q9; exact q9))]; have := (h_36).2; omega, (up_ne egm_37 (by decide))⟩) ((VAL_k (up_ne egm_37 (by decide)) (up_ne egm_37 (by decide)) (up_ne egm_37 (by decide)) (up_ne egm_37 (by decide)) hva)) _ _ _ hP hD hS (lv_sub hl [0, 1] rfl)
  refine lv_lookup (off := 43) (tgt := 56) hx hb dX13_deliver_13 (by decide) (by simp only [Op.lookupswitch.offset_cons, Op.lookupswitch.offset_nil, if_neg (Ne.symm c_33), if_neg (Ne.symm c_35)]) (by decide) ?_
  have h56 : iv 3 4 z_32 := ⟨by have := congrArg Int32.toInt (show z_32 = gm 65 (TOPn sg) from (by have q9 := ez_32; rw [htop] at q9; exact q9)); have := hph; have := (hz_32).1; omega, (hz_32).2⟩
  refine lv_aload_n hx hb dX13_deliver_56 rfl (lv_at hl 1 rfl) ?_
  refine mr_get (v := .ref (ad 65)) hx hb htb inX13 hown hK hP 65 (by decide) (htb _ kw_214) rfl dX13_deliver_57 ?_
  refine lv_iload_n hx hb dX13_deliver_60 rfl (lv_at hl 0 rfl) ?_
  refine mr_iald hx hb hK hP 50 (k := 65) rfl rfl rfl (show vp_in z_31 81 from (iv_in hz_31 (by decide))) dX13_deliver_61 ?_
  refine lv_topi (fun z_38 ez_38 => ?_)
  obtain rfl : z_32 = z_38 := ez_32.trans ez_38.symm
  refine lv_iconst (v := 3) hx hb dX13_deliver_62 (by decide) ?_
  refine lv_icmp_ne (tgt := 85) hx hb dX13_deliver_63 (by decide) (fun c_39 => ?_) (fun c_39 => ?_)
  · have h_40 : iv 4 4 z_32 := iv_neL c_39 h56 (by decide)
    have hp4 : (gm 65 (TOPn sg)).toInt = 4 := by rw [← (show z_32 = gm 65 (TOPn sg) from (by have q9 := ez_32; rw [htop] at q9; exact q9))]; have := (h_40).1; have := (h_40).2; omega
    obtain ⟨hi4, hl4⟩ := FR_4 hfr hp4 hit0
    refine lv_aload_n hx hb dX13_deliver_85 rfl (lv_at hl 1 rfl) ?_
    refine mr_get (v := .ref (ad 45)) hx hb htb inX13 hown hK hP 45 (by decide) (htb _ kw_199) rfl dX13_deliver_86 ?_
    refine lv_bipush (v := 26) hx hb dX13_deliver_89 (by decide) ?_
    refine lv_aload_n hx hb dX13_deliver_91 rfl (lv_at hl 1 rfl) ?_
    refine mr_get (v := .ref (ad 64)) hx hb htb inX13 hown hK hP 64 (by decide) (htb _ kw_213) rfl dX13_deliver_92 ?_
    refine lv_iload_n hx hb dX13_deliver_95 rfl (lv_at hl 0 rfl) ?_
    refine mr_iald hx hb hK hP 49 (k := 64) rfl rfl rfl (show vp_in z_31 81 from (iv_in hz_31 (by decide))) dX13_deliver_96 ?_
    refine lv_topi (fun z_41 ez_41 => ?_)
    have hz_41 : iv 0 79 z_41 := iv_of ez_41 (MI_a hI 64 hz_31 (by decide))
    refine lv_imul hx hb dX13_deliver_97 ?_
    refine lv_topi (fun z_42 ez_42 => ?_)
    have hz_42 : iv 0 2054 z_42 := iv_of ez_42 (iv_mul (iv_k (by decide) : iv 26 26 26) hz_41 (by decide))
    have tz_42 : z_42.toInt = 26 * (z_41 : Int32).toInt := by rw [ez_42]; exact iv_mulE (iv_k (by decide) : iv 26 26 26) hz_41 (by decide)
    refine lv_aload_n hx hb dX13_deliver_98 rfl (lv_at hl 1 rfl) ?_
    refine mr_get (v := .ref (ad 66)) hx hb htb inX13 hown hK hP 66 (by decide) (htb _ kw_215) rfl dX13_deliver_99 ?_
    refine lv_iload_n hx hb dX13_deliver_102 rfl (lv_at hl 0 rfl) ?_
    refine mr_iald hx hb hK hP 51 (k := 66) rfl rfl rfl (show vp_in z_31 81 from (iv_in hz_31 (by decide))) dX13_deliver_103 ?_
    refine lv_topi (fun z_43 ez_43 => ?_)
    have hz_43 : iv 0 26 z_43 := iv_of ez_43 (MI_a hI 66 hz_31 (by decide))
    have h_44 : iv 0 25 z_43 := ⟨(hz_43).1, by have q9 := ez_43; rw [htop] at q9; rw [q9]; have := (show iv 0 26 (gm 44 (gm 64 (TOPn sg)).toNatClampNeg) from hI.2 44 _ (show _ < 80 by have := iv_cl hpb.1 (by decide); have := hpb.1.2; omega)).2; omega⟩
    refine lv_iadd hx hb dX13_deliver_104 ?_
    refine lv_topi (fun z_45 ez_45 => ?_)
    have hz_45 : iv 0 2079 z_45 := iv_of ez_45 (iv_add hz_42 h_44 (by decide))
    have tz_45 : z_45.toInt = (z_42 : Int32).toInt + (z_43 : Int32).toInt := by rw [ez_45]; exact iv_addE hz_42 h_44 (by decide)
    refine mr_iald hx hb hK hP 36 (k := 45) rfl rfl rfl (show vp_in z_45 2080 from (iv_in hz_45 (by decide))) dX13_deliver_105 ?_
    refine lv_topi (fun z_46 ez_46 => ?_)
    have hz_46 : iv 0 79 z_46 := iv_of ez_46 (MI_a hI 45 hz_45 (by decide))
    exact hj106 z_31 z_46 hz_31 hz_46 (HEL_5 (by rw [ez_46, cl_add hz_42 h_44 (by decide) (by decide) tz_45, cl26 hz_41 tz_42, (show z_41 = gm 64 (TOPn sg) from (by have q9 := ez_41; rw [htop] at q9; exact q9)), (show z_43 = gm 66 (TOPn sg) from (by have q9 := ez_43; rw [htop] at q9; exact q9))]; exact hdoc.2 _ (by have := lt_cl hpb.1 (show iv 0 80 (sg 41) from MI_s hI 41) (by decide) (by decide) hpb.2; exact this) _ (lt_cl (show iv 0 26 (gm 66 (TOPn sg)) from by rw [← (show z_43 = gm 66 (TOPn sg) from (by have q9 := ez_43; rw [htop] at q9; exact q9))]; exact iv_w h_44 (by decide)) (show iv 0 26 _ from hI.2 44 _ (show _ < 80 by have := iv_cl hpb.1 (by decide); have := hpb.1.2; omega)) (by decide) (by decide) hi4)) (by rw [ez_46, cl_add hz_42 h_44 (by decide) (by decide) tz_45, cl26 hz_41 tz_42, (show z_41 = gm 64 (TOPn sg) from (by have q9 := ez_41; rw [htop] at q9; exact q9)), (show z_43 = gm 66 (TOPn sg) from (by have q9 := ez_43; rw [htop] at q9; exact q9))]; exact hl4)) (fun q9 => absurd q9 (by omega)) (by rw [← (show z_32 = gm 65 (TOPn sg) from (by have q9 := ez_32; rw [htop] at q9; exact q9))]; have := (h_40).1; omega) (htop) _ _ _ hP hD hS (lv_sub hl [0, 1] rfl)
  · have h_47 : iv 3 3 z_32 := iv_eq c_39 h56 (iv_k (by decide) : iv 3 3 3) (by decide)
    refine lv_aload_n hx hb dX13_deliver_66 rfl (lv_at hl 1 rfl) ?_
    refine lv_aload_n hx hb dX13_deliver_67 rfl (lv_at hl 1 rfl) ?_
    refine mr_get (v := .ref (ad 64)) hx hb htb inX13 hown hK hP 64 (by decide) (htb _ kw_213) rfl dX13_deliver_68 ?_
    refine lv_iload_n hx hb dX13_deliver_71 rfl (lv_at hl 0 rfl) ?_
    refine mr_iald hx hb hK hP 49 (k := 64) rfl rfl rfl (show vp_in z_31 81 from (iv_in hz_31 (by decide))) dX13_deliver_72 ?_
    refine lv_topi (fun z_48 ez_48 => ?_)
    have hz_48 : iv 0 79 z_48 := iv_of ez_48 (MI_a hI 64 hz_31 (by decide))
    refine lv_aload_n hx hb dX13_deliver_73 rfl (lv_at hl 1 rfl) ?_
    refine mr_get (v := .ref (ad 66)) hx hb htb inX13 hown hK hP 66 (by decide) (htb _ kw_215) rfl dX13_deliver_74 ?_
    refine lv_iload_n hx hb dX13_deliver_77 rfl (lv_at hl 0 rfl) ?_
    refine mr_iald hx hb hK hP 51 (k := 66) rfl rfl rfl (show vp_in z_31 81 from (iv_in hz_31 (by decide))) dX13_deliver_78 ?_
    refine lv_topi (fun z_49 ez_49 => ?_)
    have hz_49 : iv 0 26 z_49 := iv_of ez_49 (MI_a hI 66 hz_31 (by decide))
    refine mr_calli (rest := []) ⟨hx, hb, hml, hown, htb⟩ (f_arg l dC dI h0 ad cid sg gm lg z_48 z_49 hI hz_48 (iv_w hz_49 (by decide)) (by rw [(show z_48 = gm 64 (TOPn sg) from (by have q9 := ez_48; rw [htop] at q9; exact q9))]; exact hpb.2) hdoc.1.2.2.2) (cwV 2 htb (gd_V kw_1177 kw_1178 kw_1179 kw_5 kw_1609) rfl rfl rfl (by decide +kernel) ⟨Nat.le_of_ble_eq_true rfl, Nat.le_of_ble_eq_true rfl⟩) rfl hl.1 rfl (Nat.le_of_ble_eq_true rfl) dX13_deliver_79 ⟨Nat.zero_le _, Nat.zero_le _⟩ hK hP hD hS hA (fun r_50 u_51 H locs hw hP hD hS => ?_)
    obtain ⟨hr_50, fR_r_50, rfl⟩ := hw
    have hP : va_P (dC, dI) vwCl (mW h0 ad cid sg gm lg) H := hP
    have hD : va_D A (mW h0 ad cid sg gm lg) := hD
    have hp3 : (gm 65 (TOPn sg)).toInt = 3 := by rw [← (show z_32 = gm 65 (TOPn sg) from (by have q9 := ez_32; rw [htop] at q9; exact q9))]; exact congrArg Int32.toInt c_39
    obtain ⟨hHE, hi3⟩ := FR_3 (r := r_50) (show iv 0 80 (sg 24) from MI_s hI 24) hdoc.1.2.1 hfr hp3 hit0 (by rw [← (show z_48 = gm 64 (TOPn sg) from (by have q9 := ez_48; rw [htop] at q9; exact q9)), ← (show z_49 = gm 66 (TOPn sg) from (by have q9 := ez_49; rw [htop] at q9; exact q9))]; exact fR_r_50)
    refine lv_goto (tgt := 106) hx hb dX13_deliver_82 (by decide) ?_
    exact hj106 z_31 r_50 hz_31 hHE.1 (hHE) (fun _ => hi3) (by rw [← (show z_32 = gm 65 (TOPn sg) from (by have q9 := ez_32; rw [htop] at q9; exact q9))]; have := (h_47).1; omega) (htop) _ _ _ hP hD hS (lv_sub hl [0, 1] rfl)

set_option maxHeartbeats 4000000 in
set_option maxRecDepth 100000 in
theorem f_next (l : Launch) (dC : Nat → ClassId) (dI : Nat → Nat → Nat) (h0 : Nat) (ad : Nat → Nat) (cid : Nat → ClassId) (sg : Nat → Int32) (gm : Nat → Nat → Int32) (lg : Nat → Nat → Int64) (f : Int32) (tp : Int32) (hI : MI sg gm) (hvf : iv 0 1 f) (hvtp : iv 0 79 tp) (hn25 : (gm 66 tp.toNatClampNeg).toInt ≤ 25 ∨ f.toInt = 0) : MMv l dC dI yX13_next wm_X13_next ({ frames := 0, cells := 0, slots := 0, locals := 0 }) h0 ad cid [.int f, .int tp] sg gm lg (fun v => ∃ (sg2 : Nat → Int32) (gm2 : Nat → Nat → Int32) (lg2 : Nat → Nat → Int64), v = (sg2, gm2, lg2) ∧ MI sg2 gm2 ∧ KS [] sg sg2 ∧ KS [66, 67] gm gm2 ∧ KS [] lg lg2 ∧ ((f.toInt = 0 ∧ gm2 66 = gm 66 ∧ gm2 67 = gm 67) ∨ (f.toInt = 1 ∧ gm2 67 = upd (gm 67) tp.toNatClampNeg 0 ∧ ∃ v, gm2 66 = upd (gm 66) tp.toNatClampNeg v ∧ v.toInt = (gm 66 tp.toNatClampNeg).toInt + 1))) := by
  intro sz
  refine Met.ofW (cc := cX13_next) (maxL := 3) (ret := none) (by decide) rfl ?_
  intro p e s m args below meth c s₁ B hml hv
  obtain ⟨rfl, hsz, hP, hK, hD0⟩ := hv
  have hx := B.exec
  have hb := B.bytes
  have hr := B.returns
  have hts := atoms_spec (ws := wm_X13_next) B.pre
  have htb := fun (w : Cond) (h : w ∈ tb) => hts w (List.mem_cons_of_mem _ h)
  have hown : s.vm.findClass RX13 = some m.cls := findClass_of_methodNamed B.named
  have hlocks := B.notSynchronized
  subst hsz
  have hD := hD0.self (sz := s.heap.size)
  generalize hAe : va_A (mW h0 ad cid sg gm lg) s.heap.size = A at hD ⊢
  have hA : ∀ q : Nat, s.heap.size ≤ q → A q := fun q h => by rw [← hAe]; exact Or.inr h
  have hS : va_S A s.heap s.heap [] := va_S.rf
  have hl := lv_entry ([.ref h0, .int f, .int tp]) (n := 3) (Nat.le_of_ble_eq_true rfl)
  rw [lg_entry_eq]
  generalize (lg_sl ([.ref h0, .int f, .int tp]) ++ List.replicate (3 - (lg_sl ([.ref h0, .int f, .int tp])).length) Slot.unset).toArray = ls at hl ⊢
  have hl : lv_has ls 3 [(0, .ref h0), (1, .int f), (2, .int tp)] := hl
  refine lv_iload_n hx hb dX13_next_0 rfl (lv_at hl 1 rfl) ?_
  refine lv_if_ne (tgt := 5) hx hb dX13_next_1 (by decide) (fun c_1 => ?_) (fun c_1 => ?_)
  · have h_2 : iv 1 1 f := iv_neL c_1 hvf (by decide)
    refine lv_aload_n hx hb dX13_next_5 rfl (lv_at hl 0 rfl) ?_
    refine mr_get (v := .ref (ad 66)) hx hb htb inX13 hown hK hP 66 (by decide) (htb _ kw_215) rfl dX13_next_6 ?_
    refine lv_iload_n hx hb dX13_next_9 rfl (lv_at hl 2 rfl) ?_
    refine lv_dup2_11 hx hb dX13_next_10 rfl rfl ?_
    refine mr_iald hx hb hK hP 51 (k := 66) rfl rfl rfl (show vp_in tp 81 from (iv_in hvtp (by decide))) dX13_next_11 ?_
    refine lv_topi (fun z_3 ez_3 => ?_)
    have hz_3 : iv 0 26 z_3 := iv_of ez_3 (MI_a hI 66 hvtp (by decide))
    have h_4 : iv 0 25 z_3 := ⟨(hz_3).1, by rw [ez_3]; have := (h_2).1; omega⟩
    refine lv_iconst (v := 1) hx hb dX13_next_12 (by decide) ?_
    refine lv_iadd hx hb dX13_next_13 ?_
    refine lv_topi (fun z_5 ez_5 => ?_)
    have hz_5 : iv 1 26 z_5 := iv_of ez_5 (iv_add h_4 (iv_k (by decide) : iv 1 1 1) (by decide))
    have tz_5 : z_5.toInt = (z_3 : Int32).toInt + 1 := by rw [ez_5]; exact iv_addE h_4 (iv_k (by decide) : iv 1 1 1) (by decide)
    refine ma_iast (x := z_5) hx hb hK hP hD hS 51 (k := 66) rfl rfl rfl (show vp_in tp 81 from (iv_in hvtp (by decide))) dX13_next_14 (fun gm_6 H locs egm_6 hP hD hS => ?_)
    have hI_gm_6 := MI_st hI egm_6 hz_5 (by decide)
    refine lv_aload_n hx hb dX13_next_15 rfl (lv_at hl 0 rfl) ?_
    refine mr_get (v := .ref (ad 67)) hx hb htb inX13 hown hK hP 67 (by decide) (htb _ kw_216) rfl dX13_next_16 ?_
    refine lv_iload_n hx hb dX13_next_19 rfl (lv_at hl 2 rfl) ?_
    refine lv_iconst (v := 0) hx hb dX13_next_20 (by decide) ?_
    refine ma_iast (x := 0) hx hb hK hP hD hS 52 (k := 67) rfl rfl rfl (show vp_in tp 81 from (iv_in hvtp (by decide))) dX13_next_21 (fun gm_7 H locs egm_7 hP hD hS => ?_)
    have hI_gm_7 := MI_st hI_gm_6 egm_7 (iv_k (by decide) : iv 0 0 0) (by decide)
    exact W.vret hx hb hr (fun t ht hW => ⟨⟨(sg, gm_7, lg), rfl, ⟨sg, gm_7, lg, rfl, hI_gm_7, KS_rf, (KS_up (KS_up KS_rf egm_6 (by decide)) egm_7 (by decide)), KS_rf, (Or.inr ⟨by have := i32_0; have := i32_1; have := i32_2; have := i32_m1; have := (h_2).1; have := (h_2).2; have := (hvtp).1; have := (hvtp).2; have := (h_4).1; have := (h_4).2; have := (hz_5).1; have := (hz_5).2; omega, (show gm_7 67 = upd (gm 67) (tp : Int32).toNatClampNeg 0 from ((up_at egm_7).trans (by rw [show gm_6 67 = gm 67 from ((up_ne egm_6 (by decide)).trans rfl)]))), _, (show gm_7 66 = upd (gm 66) (tp : Int32).toNatClampNeg z_5 from ((up_ne egm_7 (by decide)).trans ((up_at egm_6).trans (by rw [show gm 66 = gm 66 from rfl])))), by have := tz_5; have := congrArg Int32.toInt ez_3; omega⟩)⟩, by rw [ht]; exact hP, va_K.moved hW.alike hK, hD⟩, hS.F ht⟩) hS.2.2 dX13_next_22
  · have h_8 : iv 0 0 f := iv_eq c_1 hvf (iv_k (by decide) : iv 0 0 0) (by decide)
    exact W.vret hx hb hr (fun t ht hW => ⟨⟨(sg, gm, lg), rfl, ⟨sg, gm, lg, rfl, hI, KS_rf, KS_rf, KS_rf, (Or.inl ⟨by have := i32_0; have := i32_1; have := i32_2; have := i32_m1; have := (h_8).1; have := (h_8).2; have := (hvtp).1; have := (hvtp).2; omega, rfl, rfl⟩)⟩, by rw [ht]; exact hP, va_K.moved hW.alike hK, hD⟩, hS.F ht⟩) hS.2.2 dX13_next_4
