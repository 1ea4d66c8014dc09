theorem sw4 {y z : Int32} (hy : iv 0 33 y) (e : z = wSw.getD y.toNatClampNeg 0) (h : ¬ z.toInt = 10) : ¬ y.toInt = 4 := fun q => by
  have q1 := iv_cl hy (by decide)
  rw [show y.toNatClampNeg = 4 by omega] at e
  rw [e] at h
  exact h (by decide)
/-- the first n attributes of an element, where one is its name, are right -/
def RAT (gm : Nat → Nat → Int32) (lg : Nat → Nat → Int64) (j n : Nat) : Prop := ∀ i, i < n → lg 0 ((gm 19 j).toNatClampNeg + i) = wKy.getD 21 0 → (gm 14 j).toInt = 1 ∨ LVP gm lg j (wKy.getD 21 0)
theorem RAT_s {gm : Nat → Nat → Int32} {lg : Nat → Nat → Int64} {j n n2 : Nat} {r : Int32} (h : RAT gm lg j n) (hr : iv 0 33 r) (hk : wKy.getD r.toNatClampNeg 0 = lg 0 ((gm 19 j).toNatClampNeg + n)) (hv : ¬ r.toInt = 21 ∨ (gm 14 j).toInt = 1 ∨ LVP gm lg j (wKy.getD r.toNatClampNeg 0)) (hn : n2 = n + 1) : RAT gm lg j n2 := by
  subst hn
  intro i hi hq
  by_cases q : i < n
  · exact h i q hq
  · have q2 : i = n := by omega
    subst q2
    rw [← hk] at hq
    have q3 := iv_cl hr (by decide); have q4 := hr.2
    have q5 := wky21 r.toNatClampNeg (by omega) hq
    rw [hq] at hv
    rcases hv with hv | hv
    · omega
    · exact hv
/-- only a bean of beans bears an id -/
def RBT (gm : Nat → Nat → Int32) (lg : Nat → Nat → Int64) (j n : Nat) : Prop := (gm 14 j).toInt = 2 → ¬ ISI gm j 0 → ∀ i, i < n → ¬ lg 0 ((gm 19 j).toNatClampNeg + i) = wKy.getD 10 0
theorem RBT_s {gm : Nat → Nat → Int32} {lg : Nat → Nat → Int64} {j n n2 : Nat} {r : Int32} (h : RBT gm lg j n) (hr : iv 0 33 r) (hk : wKy.getD r.toNatClampNeg 0 = lg 0 ((gm 19 j).toNatClampNeg + n)) (hv : ¬ (gm 14 j).toInt = 2 ∨ ¬ r.toInt = 10 ∨ ISI gm j 0) (hn : n2 = n + 1) : RBT gm lg j n2 := by
  subst hn
  intro h2 hb i hi
  by_cases q : i < n
  · exact h h2 hb i q
  · have q2 : i = n := by omega
    subst q2
    intro hq
    rw [← hk] at hq
    have q3 := iv_cl hr (by decide); have q4 := hr.2
    have q5 := wky10 r.toNatClampNeg (by omega) hq
    rcases hv with hv | hv | hv
    · exact hv h2
    · omega
    · exact hb hv
theorem SOK_mk {gm : Nat → Nat → Int32} {lg : Nat → Nat → Int64} {j : Nat} (h0 : 0 ≤ (gm 14 j).toInt) (hH : HOK gm j) (hR : RAT gm lg j (gm 20 j).toNatClampNeg) (hB : RBT gm lg j (gm 20 j).toNatClampNeg) (hN : ¬ (gm 14 j).toInt = 4 ∨ HSK gm lg j (wKy.getD 21 0)) : SOK gm lg j := by
  refine ⟨h0, hH, fun q => ?_, fun a b ⟨i, hi, hk⟩ => hB a b i hi hk⟩
  obtain ⟨i, hi, hk⟩ := hN.resolve_left (fun n => n q)
  exact (hR i hi hk).resolve_left (by omega)

set_option maxHeartbeats 4000000 in
set_option maxRecDepth 100000 in
theorem d_hasRightValue (l : Launch) (dC : Nat → ClassId) (dI : Nat → Nat → Nat) (ad : Nat → Nat → Nat) (cid : Nat → ClassId) (a2 : Nat → Nat) (lx : List Nat) (sg : Nat → Int32) (gm : Nat → Nat → Int32) (lg : Nat → Nat → Int64) (x : Int32) (o : Int32) (w : Int32) (hI : CI sg gm) (hvx : iv 0 0 x) (hvo : iv 0 79 o) (hvw : iv 0 33 w) (hFA : FA sg gm) (how : o.toInt < (sg 4).toInt) (hVS : VS sg gm) (hw0 : 0 ≤ (gm 14 o.toNatClampNeg).toInt) : CMt dC dI ad cid a2 lx l yX9_hasRightValue wm_X9_hasRightValue ({ frames := 3, cells := 1, slots := 6, locals := 75 }) [eV (ad 3) x, eV (ad 9) o, eV (ad 33) w] sg gm lg (fun v u => ∃ r : Int32, v = some (.int r) ∧ u = (sg, gm, lg) ∧ (iv 0 1 r) ∧ (r.toInt = 0 ∨ ¬ w.toInt = 21 ∨ (gm 14 o.toNatClampNeg).toInt = 1 ∨ LVP gm lg o.toNatClampNeg (wKy.getD w.toNatClampNeg 0))) (fun _ _ => False) := by
  intro sz
  refine vx_ofW (cc := cX9_hasRightValue) (maxL := 3) (ret := (some .boolean)) (by decide) rfl ?_
  intro p e s m args below meth c s₁ B hml hxt hv
  obtain ⟨rfl, hsz, hP, hK, hD0, hG⟩ := hv
  have hx := B.exec
  have hb := B.bytes
  have hr := B.returns
  have hts := atoms_spec (ws := wm_X9_hasRightValue) B.pre
  have htb := fun (w : Cond) (h : w ∈ tb) => hts w (List.mem_cons_of_mem _ h)
  have hown : s.vm.findClass RX9 = some m.cls := findClass_of_methodNamed B.named
  have hlocks := B.notSynchronized
  subst hsz
  have hD := hD0.self (sz := s.heap.size)
  generalize hAe : va_A (cW ad cid a2 lx sg gm lg) s.heap.size = A at hD hG ⊢
  have hA : ∀ q : Nat, s.heap.size ≤ q → A q := fun q h => by rw [← hAe]; exact Or.inr h
  have hS : va_S A s.heap s.heap [] := va_S.rf
  have hl := lv_entry ([eV (ad 3) x, eV (ad 9) o, eV (ad 33) w]) (n := 3) (by rw [show (lg_sl ([eV (ad 3) x, eV (ad 9) o, eV (ad 33) w])).length = 3 from by simp [lg_sl, eV_cat, cat_i, cat_l]]; exact Nat.le_of_ble_eq_true rfl)
  rw [lg_entry_eq]
  generalize (lg_sl ([eV (ad 3) x, eV (ad 9) o, eV (ad 33) w]) ++ List.replicate (3 - (lg_sl ([eV (ad 3) x, eV (ad 9) o, eV (ad 33) w])).length) Slot.unset).toArray = ls at hl ⊢
  have hl : lv_has ls 3 [(0, eV (ad 3) x), (1, eV (ad 9) o), (2, eV (ad 33) w)] := by simp [lv_args, eV_cat, cat_i, cat_l] at hl; exact hl
  have hj312 : ∀ (y0_312 : Int32) (_ : iv 0 0 x) (_ : iv 0 79 o) (_ : iv 0 33 w) (_ : iv 0 1 y0_312) (_ : ¬ w.toInt = 21) (H : Heap) (locs : List Loc) (ls : Array Slot), va_P (dC, dI) vwCl (cW ad cid a2 lx sg gm lg) H → va_D A (cW ad cid a2 lx sg gm lg) → va_S A s.heap H locs → lv_has ls 3 [(0, eV (ad 3) x), (1, eV (ad 9) o), (2, eV (ad 33) w)] → W p l e (headSpec wm_X9_hasRightValue ({ frames := 3, cells := 1, slots := 6, locals := 75 })).room s m ([eV (ad 3) x, eV (ad 9) o, eV (ad 33) w] : List Value).toArray below meth c H locs 0 0 (vx_MQ below (cQx dC dI ad cid a2 lx (fun v u => ∃ r : Int32, v = some (.int r) ∧ u = (sg, gm, lg) ∧ (iv 0 1 r) ∧ (r.toInt = 0 ∨ ¬ w.toInt = 21 ∨ (gm 14 o.toNatClampNeg).toInt = 1 ∨ LVP gm lg o.toNatClampNeg (wKy.getD w.toNatClampNeg 0))) A) (cX dC dI ad cid a2 lx (fun _ _ => False) A) ([eV (ad 3) x, eV (ad 9) o, eV (ad 33) w] : List Value).toArray s 1 6 A) (F0 m 312 ls [.int y0_312]) := by
    intro y0_312 hsx0_312 hsx1_312 hsx2_312 hy0_312 h21 H locs ls hP hD hS hl
    exact W.nb (fun hN => W.widen (k := 1) (n := 6) (by decide) (by decide) (vx_ret (W.zret (v := y0_312) hx hb hr (iv_nb hy0_312) (fun t ht hW => ⟨⟨some (.int y0_312), (sg, gm, lg), rfl, ⟨y0_312, rfl, rfl, hy0_312, (Or.inr (Or.inl (h21)))⟩, by rw [ht]; exact hP, va_K.moved hW.alike hK, hD⟩, hS.F ht, by rw [ht]; exact hN⟩) hS.2.2 dX9_hasRightValue_312)))
  have hj293 : ∀ (_ : iv 0 0 x) (_ : iv 0 79 o) (_ : iv 0 33 w) (_ : ¬ w.toInt = 21) (H : Heap) (locs : List Loc) (ls : Array Slot), va_P (dC, dI) vwCl (cW ad cid a2 lx sg gm lg) H → va_D A (cW ad cid a2 lx sg gm lg) → va_S A s.heap H locs → lv_has ls 3 [(0, eV (ad 3) x), (1, eV (ad 9) o), (2, eV (ad 33) w)] → W p l e (headSpec wm_X9_hasRightValue ({ frames := 3, cells := 1, slots := 6, locals := 75 })).room s m ([eV (ad 3) x, eV (ad 9) o, eV (ad 33) w] : List Value).toArray below meth c H locs 0 0 (vx_MQ below (cQx dC dI ad cid a2 lx (fun v u => ∃ r : Int32, v = some (.int r) ∧ u = (sg, gm, lg) ∧ (iv 0 1 r) ∧ (r.toInt = 0 ∨ ¬ w.toInt = 21 ∨ (gm 14 o.toNatClampNeg).toInt = 1 ∨ LVP gm lg o.toNatClampNeg (wKy.getD w.toNatClampNeg 0))) A) (cX dC dI ad cid a2 lx (fun _ _ => False) A) ([eV (ad 3) x, eV (ad 9) o, eV (ad 33) w] : List Value).toArray s 1 6 A) (F0 m 293 ls []) := by
    intro  hsx0_293 hsx1_293 hsx2_293 h21 H locs ls hP hD hS hl
    refine ec_aload_n hx hb dX9_hasRightValue_293 rfl (lv_at hl 0 rfl) ?_
    refine cr_get (t := 3) (j := 0) (C := RX9) (T := TX9) (N := 1) (v := eV (ad 1) 0) hx hb htb inX9 hown hK hP hsx0_293 (by decide) (by decide) (by decide) rfl (by decide) (htb _ kw_82) (cV_c rfl (by decide) (by rw [show cMu 3 0 = 0 from rfl, Nat.zero_mul]; rfl)) dX9_hasRightValue_294 ?_
    refine ec_aload_n hx hb dX9_hasRightValue_297 rfl (lv_at hl 1 rfl) ?_
    refine ec_aload_n hx hb dX9_hasRightValue_298 rfl (lv_at hl 2 rfl) ?_
    refine cm_callV (t := 1) (C := RX6) (T := TX6) (N := 8) (rest := []) (as := [eV (ad 9) o, eV (ad 33) w]) ⟨hx, hb, hml, hown, htb⟩ (d_nameValue l dC dI ad cid a2 lx sg gm lg 0 o w hI (iv_k (by decide) : iv 0 0 0) hsx1_293 hsx2_293 hFA how hVS) (cwV 2 htb (gd_V kw_582 kw_583 kw_584 kw_20 kw_1475) rfl rfl rfl (by decide +kernel) ⟨Nat.le_of_ble_eq_true rfl, Nat.le_of_ble_eq_true rfl⟩) (iv_k (by decide) : iv 0 0 0) (by decide) (by decide) rfl rfl hl.1 rfl (Nat.le_trans cs_n (by decide)) dX9_hasRightValue_299 ⟨Nat.le_of_ble_eq_true rfl, Nat.le_of_ble_eq_true rfl⟩ hK hP hD hS hA hG (fun E ce q9 u_2 H locs hw hP hD hS hce hcv hcl => ?_) (fun v9 u_2 H locs hw hP hD hS => ?_)
    · exact hw.elim
    obtain ⟨r_1, rfl, rfl⟩ := hw
    have hP : va_P (dC, dI) vwCl (cW ad cid a2 lx sg gm lg) H := hP
    have hD : va_D A (cW ad cid a2 lx sg gm lg) := hD
    refine W.eq (g2 := F0 m 302 ls [.long r_1]) rfl ?_
    refine lv_lconst (v := 0) hx hb dX9_hasRightValue_302 (by decide) ?_
    refine W.lcmp hx hb dX9_hasRightValue_303 ?_
    refine lv_topi (fun z_4 ez_4 => ?_)
    have hz_4 : iv (-1) 1 z_4 := iv_of ez_4 (iv_cmp _ _)
    refine lv_if_eq (tgt := 311) hx hb dX9_hasRightValue_304 (by decide) (fun c_5 => ?_) (fun c_5 => ?_)
    · have h_6 : iv 0 0 z_4 := iv_eq c_5 hz_4 (iv_k (by decide) : iv 0 0 0) (by decide)
      refine lv_iconst (v := 0) hx hb dX9_hasRightValue_311 (by decide) ?_
      exact hj312 0 hsx0_293 hsx1_293 hsx2_293 (iv_w (iv_k (by decide) : iv 0 0 0) (by decide)) (h21) _ _ _ hP hD hS (lv_sub hl [0, 1, 2] rfl)
    · have d_7 : ¬ (z_4 : Int32).toInt = 0 := lv_neT c_5 rfl
      refine lv_iconst (v := 1) hx hb dX9_hasRightValue_307 (by decide) ?_
      refine lv_goto (tgt := 312) hx hb dX9_hasRightValue_308 (by decide) ?_
      exact hj312 1 hsx0_293 hsx1_293 hsx2_293 (iv_w (iv_k (by decide) : iv 1 1 1) (by decide)) (h21) _ _ _ hP hD hS (lv_sub hl [0, 1, 2] rfl)
  have hj197 : ∀ (y0_197 : Int32) (_ : iv 0 0 x) (_ : iv 0 79 o) (_ : iv 0 33 w) (_ : iv 0 1 y0_197) (_ : ¬ w.toInt = 21) (H : Heap) (locs : List Loc) (ls : Array Slot), va_P (dC, dI) vwCl (cW ad cid a2 lx sg gm lg) H → va_D A (cW ad cid a2 lx sg gm lg) → va_S A s.heap H locs → lv_has ls 3 [(0, eV (ad 3) x), (1, eV (ad 9) o), (2, eV (ad 33) w)] → W p l e (headSpec wm_X9_hasRightValue ({ frames := 3, cells := 1, slots := 6, locals := 75 })).room s m ([eV (ad 3) x, eV (ad 9) o, eV (ad 33) w] : List Value).toArray below meth c H locs 0 0 (vx_MQ below (cQx dC dI ad cid a2 lx (fun v u => ∃ r : Int32, v = some (.int r) ∧ u = (sg, gm, lg) ∧ (iv 0 1 r) ∧ (r.toInt = 0 ∨ ¬ w.toInt = 21 ∨ (gm 14 o.toNatClampNeg).toInt = 1 ∨ LVP gm lg o.toNatClampNeg (wKy.getD w.toNatClampNeg 0))) A) (cX dC dI ad cid a2 lx (fun _ _ => False) A) ([eV (ad 3) x, eV (ad 9) o, eV (ad 33) w] : List Value).toArray s 1 6 A) (F0 m 197 ls [.int y0_197]) := by
    intro y0_197 hsx0_197 hsx1_197 hsx2_197 hy0_197 h21 H locs ls hP hD hS hl
    exact W.nb (fun hN => W.widen (k := 1) (n := 6) (by decide) (by decide) (vx_ret (W.zret (v := y0_197) hx hb hr (iv_nb hy0_197) (fun t ht hW => ⟨⟨some (.int y0_197), (sg, gm, lg), rfl, ⟨y0_197, rfl, rfl, hy0_197, (Or.inr (Or.inl (h21)))⟩, by rw [ht]; exact hP, va_K.moved hW.alike hK, hD⟩, hS.F ht, by rw [ht]; exact hN⟩) hS.2.2 dX9_hasRightValue_197)))
  have hj192 : ∀ (_ : iv 0 0 x) (_ : iv 0 79 o) (_ : iv 0 33 w) (_ : ¬ w.toInt = 21) (H : Heap) (locs : List Loc) (ls : Array Slot), va_P (dC, dI) vwCl (cW ad cid a2 lx sg gm lg) H → va_D A (cW ad cid a2 lx sg gm lg) → va_S A s.heap H locs → lv_has ls 3 [(0, eV (ad 3) x), (1, eV (ad 9) o), (2, eV (ad 33) w)] → W p l e (headSpec wm_X9_hasRightValue ({ frames := 3, cells := 1, slots := 6, locals := 75 })).room s m ([eV (ad 3) x, eV (ad 9) o, eV (ad 33) w] : List Value).toArray below meth c H locs 0 0 (vx_MQ below (cQx dC dI ad cid a2 lx (fun v u => ∃ r : Int32, v = some (.int r) ∧ u = (sg, gm, lg) ∧ (iv 0 1 r) ∧ (r.toInt = 0 ∨ ¬ w.toInt = 21 ∨ (gm 14 o.toNatClampNeg).toInt = 1 ∨ LVP gm lg o.toNatClampNeg (wKy.getD w.toNatClampNeg 0))) A) (cX dC dI ad cid a2 lx (fun _ _ => False) A) ([eV (ad 3) x, eV (ad 9) o, eV (ad 33) w] : List Value).toArray s 1 6 A) (F0 m 192 ls []) := by
    intro  hsx0_192 hsx1_192 hsx2_192 h21 H locs ls hP hD hS hl
    refine lv_iconst (v := 1) hx hb dX9_hasRightValue_192 (by decide) ?_
    refine lv_goto (tgt := 197) hx hb dX9_hasRightValue_193 (by decide) ?_
    exact hj197 1 hsx0_192 hsx1_192 hsx2_192 (iv_w (iv_k (by decide) : iv 1 1 1) (by decide)) (h21) _ _ _ hP hD hS (lv_sub hl [0, 1, 2] rfl)
  have hj162 : ∀ (_ : iv 0 0 x) (_ : iv 0 79 o) (_ : iv 0 33 w) (_ : ¬ w.toInt = 21) (H : Heap) (locs : List Loc) (ls : Array Slot), va_P (dC, dI) vwCl (cW ad cid a2 lx sg gm lg) H → va_D A (cW ad cid a2 lx sg gm lg) → va_S A s.heap H locs → lv_has ls 3 [(0, eV (ad 3) x), (1, eV (ad 9) o), (2, eV (ad 33) w)] → W p l e (headSpec wm_X9_hasRightValue ({ frames := 3, cells := 1, slots := 6, locals := 75 })).room s m ([eV (ad 3) x, eV (ad 9) o, eV (ad 33) w] : List Value).toArray below meth c H locs 0 0 (vx_MQ below (cQx dC dI ad cid a2 lx (fun v u => ∃ r : Int32, v = some (.int r) ∧ u = (sg, gm, lg) ∧ (iv 0 1 r) ∧ (r.toInt = 0 ∨ ¬ w.toInt = 21 ∨ (gm 14 o.toNatClampNeg).toInt = 1 ∨ LVP gm lg o.toNatClampNeg (wKy.getD w.toNatClampNeg 0))) A) (cX dC dI ad cid a2 lx (fun _ _ => False) A) ([eV (ad 3) x, eV (ad 9) o, eV (ad 33) w] : List Value).toArray s 1 6 A) (F0 m 162 ls []) := by
    intro  hsx0_162 hsx1_162 hsx2_162 h21 H locs ls hP hD hS hl
    refine ec_aload_n hx hb dX9_hasRightValue_162 rfl (lv_at hl 0 rfl) ?_
    refine cr_get (t := 3) (j := 0) (C := RX9) (T := TX9) (N := 1) (v := eV (ad 1) 0) hx hb htb inX9 hown hK hP hsx0_162 (by decide) (by decide) (by decide) rfl (by decide) (htb _ kw_82) (cV_c rfl (by decide) (by rw [show cMu 3 0 = 0 from rfl, Nat.zero_mul]; rfl)) dX9_hasRightValue_163 ?_
    refine ec_aload_n hx hb dX9_hasRightValue_166 rfl (lv_at hl 1 rfl) ?_
    refine ec_aload_n hx hb dX9_hasRightValue_167 rfl (lv_at hl 2 rfl) ?_
    refine cw_word (k := 25) (kx := 25) hx hb hG hS (by decide) rfl ⟨by decide, by decide⟩ hown (htb _ kw_578) dX9_hasRightValue_168 ?_
    refine cm_callV (t := 1) (C := RX6) (T := TX6) (N := 8) (rest := []) (as := [eV (ad 9) o, eV (ad 33) w, eV (ad 33) 25]) ⟨hx, hb, hml, hown, htb⟩ (d_valueIs l dC dI ad cid a2 lx sg gm lg 0 o w 25 hI (iv_k (by decide) : iv 0 0 0) hsx1_162 hsx2_162 (iv_w (iv_k (by decide) : iv 25 25 25) (by decide)) hFA how hVS) (cwV 3 htb (gd_V kw_588 kw_589 kw_590 kw_20 kw_1477) rfl rfl rfl (by decide +kernel) ⟨Nat.le_of_ble_eq_true rfl, Nat.le_of_ble_eq_true rfl⟩) (iv_k (by decide) : iv 0 0 0) (by decide) (by decide) rfl rfl hl.1 rfl (Nat.le_trans cs_n (by decide)) dX9_hasRightValue_171 ⟨Nat.le_of_ble_eq_true rfl, Nat.le_of_ble_eq_true rfl⟩ hK hP hD hS hA hG (fun E ce q9 u_9 H locs hw hP hD hS hce hcv hcl => ?_) (fun v9 u_9 H locs hw hP hD hS => ?_)
    · exact hw.elim
    obtain ⟨r_8, rfl, rfl, hr_8⟩ := hw
    have hP : va_P (dC, dI) vwCl (cW ad cid a2 lx sg gm lg) H := hP
    have hD : va_D A (cW ad cid a2 lx sg gm lg) := hD
    refine W.eq (g2 := F0 m 174 ls [.int r_8]) rfl ?_
    refine lv_if_ne (tgt := 192) hx hb dX9_hasRightValue_174 (by decide) (fun c_11 => ?_) (fun c_11 => ?_)
    · have h_12 : iv 1 1 r_8 := iv_neL c_11 hr_8 (by decide)
      exact hj192 hsx0_162 hsx1_162 hsx2_162 (h21) _ _ _ hP hD hS (lv_sub hl [0, 1, 2] rfl)
    · have h_13 : iv 0 0 r_8 := iv_eq c_11 hr_8 (iv_k (by decide) : iv 0 0 0) (by decide)
      refine ec_aload_n hx hb dX9_hasRightValue_177 rfl (lv_at hl 0 rfl) ?_
      refine cr_get (t := 3) (j := 0) (C := RX9) (T := TX9) (N := 1) (v := eV (ad 1) 0) hx hb htb inX9 hown hK hP hsx0_162 (by decide) (by decide) (by decide) rfl (by decide) (htb _ kw_82) (cV_c rfl (by decide) (by rw [show cMu 3 0 = 0 from rfl, Nat.zero_mul]; rfl)) dX9_hasRightValue_178 ?_
      refine ec_aload_n hx hb dX9_hasRightValue_181 rfl (lv_at hl 1 rfl) ?_
      refine ec_aload_n hx hb dX9_hasRightValue_182 rfl (lv_at hl 2 rfl) ?_
      refine cw_word (k := 26) (kx := 26) hx hb hG hS (by decide) rfl ⟨by decide, by decide⟩ hown (htb _ kw_579) dX9_hasRightValue_183 ?_
      refine cm_callV (t := 1) (C := RX6) (T := TX6) (N := 8) (rest := []) (as := [eV (ad 9) o, eV (ad 33) w, eV (ad 33) 26]) ⟨hx, hb, hml, hown, htb⟩ (d_valueIs l dC dI ad cid a2 lx sg gm lg 0 o w 26 hI (iv_k (by decide) : iv 0 0 0) hsx1_162 hsx2_162 (iv_w (iv_k (by decide) : iv 26 26 26) (by decide)) hFA how hVS) (cwV 3 htb (gd_V kw_588 kw_589 kw_590 kw_20 kw_1477) rfl rfl rfl (by decide +kernel) ⟨Nat.le_of_ble_eq_true rfl, Nat.le_of_ble_eq_true rfl⟩) (iv_k (by decide) : iv 0 0 0) (by decide) (by decide) rfl rfl hl.1 rfl (Nat.le_trans cs_n (by decide)) dX9_hasRightValue_186 ⟨Nat.le_of_ble_eq_true rfl, Nat.le_of_ble_eq_true rfl⟩ hK hP hD hS hA hG (fun E ce q9 u_15 H locs hw hP hD hS hce hcv hcl => ?_) (fun v9 u_15 H locs hw hP hD hS => ?_)
      · exact hw.elim
      obtain ⟨r_14, rfl, rfl, hr_14⟩ := hw
      have hP : va_P (dC, dI) vwCl (cW ad cid a2 lx sg gm lg) H := hP
      have hD : va_D A (cW ad cid a2 lx sg gm lg) := hD
      refine W.eq (g2 := F0 m 189 ls [.int r_14]) rfl ?_
      refine lv_if_eq (tgt := 196) hx hb dX9_hasRightValue_189 (by decide) (fun c_17 => ?_) (fun c_17 => ?_)
      · have h_18 : iv 0 0 r_14 := iv_eq c_17 hr_14 (iv_k (by decide) : iv 0 0 0) (by decide)
        refine lv_iconst (v := 0) hx hb dX9_hasRightValue_196 (by decide) ?_
        exact hj197 0 hsx0_162 hsx1_162 hsx2_162 (iv_w (iv_k (by decide) : iv 0 0 0) (by decide)) (h21) _ _ _ hP hD hS (lv_sub hl [0, 1, 2] rfl)
      · have h_19 : iv 1 1 r_14 := iv_neL c_17 hr_14 (by decide)
        exact hj192 hsx0_162 hsx1_162 hsx2_162 (h21) _ _ _ hP hD hS (lv_sub hl [0, 1, 2] rfl)
  have hj161 : ∀ (y0_161 : Int32) (_ : iv 0 0 x) (_ : iv 0 79 o) (_ : iv 0 33 w) (_ : iv 0 1 y0_161) (_ : ¬ w.toInt = 21) (H : Heap) (locs : List Loc) (ls : Array Slot), va_P (dC, dI) vwCl (cW ad cid a2 lx sg gm lg) H → va_D A (cW ad cid a2 lx sg gm lg) → va_S A s.heap H locs → lv_has ls 3 [(0, eV (ad 3) x), (1, eV (ad 9) o), (2, eV (ad 33) w)] → W p l e (headSpec wm_X9_hasRightValue ({ frames := 3, cells := 1, slots := 6, locals := 75 })).room s m ([eV (ad 3) x, eV (ad 9) o, eV (ad 33) w] : List Value).toArray below meth c H locs 0 0 (vx_MQ below (cQx dC dI ad cid a2 lx (fun v u => ∃ r : Int32, v = some (.int r) ∧ u = (sg, gm, lg) ∧ (iv 0 1 r) ∧ (r.toInt = 0 ∨ ¬ w.toInt = 21 ∨ (gm 14 o.toNatClampNeg).toInt = 1 ∨ LVP gm lg o.toNatClampNeg (wKy.getD w.toNatClampNeg 0))) A) (cX dC dI ad cid a2 lx (fun _ _ => False) A) ([eV (ad 3) x, eV (ad 9) o, eV (ad 33) w] : List Value).toArray s 1 6 A) (F0 m 161 ls [.int y0_161]) := by
    intro y0_161 hsx0_161 hsx1_161 hsx2_161 hy0_161 h21 H locs ls hP hD hS hl
    exact W.nb (fun hN => W.widen (k := 1) (n := 6) (by decide) (by decide) (vx_ret (W.zret (v := y0_161) hx hb hr (iv_nb hy0_161) (fun t ht hW => ⟨⟨some (.int y0_161), (sg, gm, lg), rfl, ⟨y0_161, rfl, rfl, hy0_161, (Or.inr (Or.inl (h21)))⟩, by rw [ht]; exact hP, va_K.moved hW.alike hK, hD⟩, hS.F ht, by rw [ht]; exact hN⟩) hS.2.2 dX9_hasRightValue_161)))
  have hj233 : ∀ (y0_233 : Int32) (_ : iv 0 0 x) (_ : iv 0 79 o) (_ : iv 0 33 w) (_ : iv 0 1 y0_233) (_ : ¬ w.toInt = 21) (H : Heap) (locs : List Loc) (ls : Array Slot), va_P (dC, dI) vwCl (cW ad cid a2 lx sg gm lg) H → va_D A (cW ad cid a2 lx sg gm lg) → va_S A s.heap H locs → lv_has ls 3 [(0, eV (ad 3) x), (1, eV (ad 9) o), (2, eV (ad 33) w)] → W p l e (headSpec wm_X9_hasRightValue ({ frames := 3, cells := 1, slots := 6, locals := 75 })).room s m ([eV (ad 3) x, eV (ad 9) o, eV (ad 33) w] : List Value).toArray below meth c H locs 0 0 (vx_MQ below (cQx dC dI ad cid a2 lx (fun v u => ∃ r : Int32, v = some (.int r) ∧ u = (sg, gm, lg) ∧ (iv 0 1 r) ∧ (r.toInt = 0 ∨ ¬ w.toInt = 21 ∨ (gm 14 o.toNatClampNeg).toInt = 1 ∨ LVP gm lg o.toNatClampNeg (wKy.getD w.toNatClampNeg 0))) A) (cX dC dI ad cid a2 lx (fun _ _ => False) A) ([eV (ad 3) x, eV (ad 9) o, eV (ad 33) w] : List Value).toArray s 1 6 A) (F0 m 233 ls [.int y0_233]) := by
    intro y0_233 hsx0_233 hsx1_233 hsx2_233 hy0_233 h21 H locs ls hP hD hS hl
    exact W.nb (fun hN => W.widen (k := 1) (n := 6) (by decide) (by decide) (vx_ret (W.zret (v := y0_233) hx hb hr (iv_nb hy0_233) (fun t ht hW => ⟨⟨some (.int y0_233), (sg, gm, lg), rfl, ⟨y0_233, rfl, rfl, hy0_233, (Or.inr (Or.inl (h21)))⟩, by rw [ht]; exact hP, va_K.moved hW.alike hK, hD⟩, hS.F ht, by rw [ht]; exact hN⟩) hS.2.2 dX9_hasRightValue_233)))
  have hj228 : ∀ (_ : iv 0 0 x) (_ : iv 0 79 o) (_ : iv 0 33 w) (_ : ¬ w.toInt = 21) (H : Heap) (locs : List Loc) (ls : Array Slot), va_P (dC, dI) vwCl (cW ad cid a2 lx sg gm lg) H → va_D A (cW ad cid a2 lx sg gm lg) → va_S A s.heap H locs → lv_has ls 3 [(0, eV (ad 3) x), (1, eV (ad 9) o), (2, eV (ad 33) w)] → W p l e (headSpec wm_X9_hasRightValue ({ frames := 3, cells := 1, slots := 6, locals := 75 })).room s m ([eV (ad 3) x, eV (ad 9) o, eV (ad 33) w] : List Value).toArray below meth c H locs 0 0 (vx_MQ below (cQx dC dI ad cid a2 lx (fun v u => ∃ r : Int32, v = some (.int r) ∧ u = (sg, gm, lg) ∧ (iv 0 1 r) ∧ (r.toInt = 0 ∨ ¬ w.toInt = 21 ∨ (gm 14 o.toNatClampNeg).toInt = 1 ∨ LVP gm lg o.toNatClampNeg (wKy.getD w.toNatClampNeg 0))) A) (cX dC dI ad cid a2 lx (fun _ _ => False) A) ([eV (ad 3) x, eV (ad 9) o, eV (ad 33) w] : List Value).toArray s 1 6 A) (F0 m 228 ls []) := by
    intro  hsx0_228 hsx1_228 hsx2_228 h21 H locs ls hP hD hS hl
    refine lv_iconst (v := 1) hx hb dX9_hasRightValue_228 (by decide) ?_
    refine lv_goto (tgt := 233) hx hb dX9_hasRightValue_229 (by decide) ?_
    exact hj233 1 hsx0_228 hsx1_228 hsx2_228 (iv_w (iv_k (by decide) : iv 1 1 1) (by decide)) (h21) _ _ _ hP hD hS (lv_sub hl [0, 1, 2] rfl)
  have hj252 : ∀ (y0_252 : Int32) (_ : iv 0 0 x) (_ : iv 0 79 o) (_ : iv 0 33 w) (_ : iv 0 1 y0_252) (_ : ¬ w.toInt = 21) (H : Heap) (locs : List Loc) (ls : Array Slot), va_P (dC, dI) vwCl (cW ad cid a2 lx sg gm lg) H → va_D A (cW ad cid a2 lx sg gm lg) → va_S A s.heap H locs → lv_has ls 3 [(0, eV (ad 3) x), (1, eV (ad 9) o), (2, eV (ad 33) w)] → W p l e (headSpec wm_X9_hasRightValue ({ frames := 3, cells := 1, slots := 6, locals := 75 })).room s m ([eV (ad 3) x, eV (ad 9) o, eV (ad 33) w] : List Value).toArray below meth c H locs 0 0 (vx_MQ below (cQx dC dI ad cid a2 lx (fun v u => ∃ r : Int32, v = some (.int r) ∧ u = (sg, gm, lg) ∧ (iv 0 1 r) ∧ (r.toInt = 0 ∨ ¬ w.toInt = 21 ∨ (gm 14 o.toNatClampNeg).toInt = 1 ∨ LVP gm lg o.toNatClampNeg (wKy.getD w.toNatClampNeg 0))) A) (cX dC dI ad cid a2 lx (fun _ _ => False) A) ([eV (ad 3) x, eV (ad 9) o, eV (ad 33) w] : List Value).toArray s 1 6 A) (F0 m 252 ls [.int y0_252]) := by
    intro y0_252 hsx0_252 hsx1_252 hsx2_252 hy0_252 h21 H locs ls hP hD hS hl
    exact W.nb (fun hN => W.widen (k := 1) (n := 6) (by decide) (by decide) (vx_ret (W.zret (v := y0_252) hx hb hr (iv_nb hy0_252) (fun t ht hW => ⟨⟨some (.int y0_252), (sg, gm, lg), rfl, ⟨y0_252, rfl, rfl, hy0_252, (Or.inr (Or.inl (h21)))⟩, by rw [ht]; exact hP, va_K.moved hW.alike hK, hD⟩, hS.F ht, by rw [ht]; exact hN⟩) hS.2.2 dX9_hasRightValue_252)))
  have hj234 : ∀ (_ : iv 0 0 x) (_ : iv 0 79 o) (_ : iv 0 33 w) (_ : ¬ w.toInt = 21) (H : Heap) (locs : List Loc) (ls : Array Slot), va_P (dC, dI) vwCl (cW ad cid a2 lx sg gm lg) H → va_D A (cW ad cid a2 lx sg gm lg) → va_S A s.heap H locs → lv_has ls 3 [(0, eV (ad 3) x), (1, eV (ad 9) o), (2, eV (ad 33) w)] → W p l e (headSpec wm_X9_hasRightValue ({ frames := 3, cells := 1, slots := 6, locals := 75 })).room s m ([eV (ad 3) x, eV (ad 9) o, eV (ad 33) w] : List Value).toArray below meth c H locs 0 0 (vx_MQ below (cQx dC dI ad cid a2 lx (fun v u => ∃ r : Int32, v = some (.int r) ∧ u = (sg, gm, lg) ∧ (iv 0 1 r) ∧ (r.toInt = 0 ∨ ¬ w.toInt = 21 ∨ (gm 14 o.toNatClampNeg).toInt = 1 ∨ LVP gm lg o.toNatClampNeg (wKy.getD w.toNatClampNeg 0))) A) (cX dC dI ad cid a2 lx (fun _ _ => False) A) ([eV (ad 3) x, eV (ad 9) o, eV (ad 33) w] : List Value).toArray s 1 6 A) (F0 m 234 ls []) := by
    intro  hsx0_234 hsx1_234 hsx2_234 h21 H locs ls hP hD hS hl
    refine ec_aload_n hx hb dX9_hasRightValue_234 rfl (lv_at hl 0 rfl) ?_
    refine cr_get (t := 3) (j := 0) (C := RX9) (T := TX9) (N := 1) (v := eV (ad 1) 0) hx hb htb inX9 hown hK hP hsx0_234 (by decide) (by decide) (by decide) rfl (by decide) (htb _ kw_82) (cV_c rfl (by decide) (by rw [show cMu 3 0 = 0 from rfl, Nat.zero_mul]; rfl)) dX9_hasRightValue_235 ?_
    refine ec_aload_n hx hb dX9_hasRightValue_238 rfl (lv_at hl 1 rfl) ?_
    refine ec_aload_n hx hb dX9_hasRightValue_239 rfl (lv_at hl 2 rfl) ?_
    refine cm_callV (t := 1) (C := RX6) (T := TX6) (N := 8) (rest := []) (as := [eV (ad 9) o, eV (ad 33) w]) ⟨hx, hb, hml, hown, htb⟩ (d_letterValue l dC dI ad cid a2 lx sg gm lg 0 o w hI (iv_k (by decide) : iv 0 0 0) hsx1_234 hsx2_234 hFA how hVS) (cwV 2 htb (gd_V kw_542 kw_543 kw_544 kw_20 kw_1466) rfl rfl rfl (by decide +kernel) ⟨Nat.le_of_ble_eq_true rfl, Nat.le_of_ble_eq_true rfl⟩) (iv_k (by decide) : iv 0 0 0) (by decide) (by decide) rfl rfl hl.1 rfl (Nat.le_trans cs_n (by decide)) dX9_hasRightValue_240 ⟨Nat.le_of_ble_eq_true rfl, Nat.le_of_ble_eq_true rfl⟩ hK hP hD hS hA hG (fun E ce q9 u_21 H locs hw hP hD hS hce hcv hcl => ?_) (fun v9 u_21 H locs hw hP hD hS => ?_)
    · exact hw.elim
    obtain ⟨r_20, rfl, rfl, hr_20, fP_r_20, fQ_r_20⟩ := hw
    have hP : va_P (dC, dI) vwCl (cW ad cid a2 lx sg gm lg) H := hP
    have hD : va_D A (cW ad cid a2 lx sg gm lg) := hD
    refine W.eq (g2 := F0 m 243 ls [.int r_20]) rfl ?_
    refine lv_iconst (v := (-1)) hx hb dX9_hasRightValue_243 (by decide) ?_
    refine lv_icmp_eq (tgt := 251) hx hb dX9_hasRightValue_244 (by decide) (fun c_23 => ?_) (fun c_23 => ?_)
    · have h_24 : iv (-1) (-1) r_20 := iv_eq c_23 hr_20 (iv_k (by decide) : iv (-1) (-1) (-1)) (by decide)
      refine lv_iconst (v := 0) hx hb dX9_hasRightValue_251 (by decide) ?_
      exact hj252 0 hsx0_234 hsx1_234 hsx2_234 (iv_w (iv_k (by decide) : iv 0 0 0) (by decide)) (h21) _ _ _ hP hD hS (lv_sub hl [0, 1, 2] rfl)
    · have h_25 : iv 0 25 r_20 := iv_neL c_23 hr_20 (by decide)
      refine lv_iconst (v := 1) hx hb dX9_hasRightValue_247 (by decide) ?_
      refine lv_goto (tgt := 252) hx hb dX9_hasRightValue_248 (by decide) ?_
      exact hj252 1 hsx0_234 hsx1_234 hsx2_234 (iv_w (iv_k (by decide) : iv 1 1 1) (by decide)) (h21) _ _ _ hP hD hS (lv_sub hl [0, 1, 2] rfl)
  have hj142 : ∀ (y0_142 : Int32) (_ : iv 0 0 x) (_ : iv 0 79 o) (_ : iv 0 33 w) (_ : iv 0 1 y0_142) (_ : y0_142.toInt = 0 ∨ ¬ w.toInt = 21 ∨ (gm 14 o.toNatClampNeg).toInt = 1 ∨ LVP gm lg o.toNatClampNeg (wKy.getD w.toNatClampNeg 0)) (H : Heap) (locs : List Loc) (ls : Array Slot), va_P (dC, dI) vwCl (cW ad cid a2 lx sg gm lg) H → va_D A (cW ad cid a2 lx sg gm lg) → va_S A s.heap H locs → lv_has ls 3 [(0, eV (ad 3) x), (1, eV (ad 9) o), (2, eV (ad 33) w)] → W p l e (headSpec wm_X9_hasRightValue ({ frames := 3, cells := 1, slots := 6, locals := 75 })).room s m ([eV (ad 3) x, eV (ad 9) o, eV (ad 33) w] : List Value).toArray below meth c H locs 0 0 (vx_MQ below (cQx dC dI ad cid a2 lx (fun v u => ∃ r : Int32, v = some (.int r) ∧ u = (sg, gm, lg) ∧ (iv 0 1 r) ∧ (r.toInt = 0 ∨ ¬ w.toInt = 21 ∨ (gm 14 o.toNatClampNeg).toInt = 1 ∨ LVP gm lg o.toNatClampNeg (wKy.getD w.toNatClampNeg 0))) A) (cX dC dI ad cid a2 lx (fun _ _ => False) A) ([eV (ad 3) x, eV (ad 9) o, eV (ad 33) w] : List Value).toArray s 1 6 A) (F0 m 142 ls [.int y0_142]) := by
    intro y0_142 hsx0_142 hsx1_142 hsx2_142 hy0_142 hR H locs ls hP hD hS hl
    exact W.nb (fun hN => W.widen (k := 1) (n := 6) (by decide) (by decide) (vx_ret (W.zret (v := y0_142) hx hb hr (iv_nb hy0_142) (fun t ht hW => ⟨⟨some (.int y0_142), (sg, gm, lg), rfl, ⟨y0_142, rfl, rfl, hy0_142, (hR)⟩, by rw [ht]; exact hP, va_K.moved hW.alike hK, hD⟩, hS.F ht, by rw [ht]; exact hN⟩) hS.2.2 dX9_hasRightValue_142)))
  have hj271 : ∀ (y0_271 : Int32) (_ : iv 0 0 x) (_ : iv 0 79 o) (_ : iv 0 33 w) (_ : iv 0 1 y0_271) (_ : ¬ w.toInt = 21) (H : Heap) (locs : List Loc) (ls : Array Slot), va_P (dC, dI) vwCl (cW ad cid a2 lx sg gm lg) H → va_D A (cW ad cid a2 lx sg gm lg) → va_S A s.heap H locs → lv_has ls 3 [(0, eV (ad 3) x), (1, eV (ad 9) o), (2, eV (ad 33) w)] → W p l e (headSpec wm_X9_hasRightValue ({ frames := 3, cells := 1, slots := 6, locals := 75 })).room s m ([eV (ad 3) x, eV (ad 9) o, eV (ad 33) w] : List Value).toArray below meth c H locs 0 0 (vx_MQ below (cQx dC dI ad cid a2 lx (fun v u => ∃ r : Int32, v = some (.int r) ∧ u = (sg, gm, lg) ∧ (iv 0 1 r) ∧ (r.toInt = 0 ∨ ¬ w.toInt = 21 ∨ (gm 14 o.toNatClampNeg).toInt = 1 ∨ LVP gm lg o.toNatClampNeg (wKy.getD w.toNatClampNeg 0))) A) (cX dC dI ad cid a2 lx (fun _ _ => False) A) ([eV (ad 3) x, eV (ad 9) o, eV (ad 33) w] : List Value).toArray s 1 6 A) (F0 m 271 ls [.int y0_271]) := by
    intro y0_271 hsx0_271 hsx1_271 hsx2_271 hy0_271 h21 H locs ls hP hD hS hl
    exact W.nb (fun hN => W.widen (k := 1) (n := 6) (by decide) (by decide) (vx_ret (W.zret (v := y0_271) hx hb hr (iv_nb hy0_271) (fun t ht hW => ⟨⟨some (.int y0_271), (sg, gm, lg), rfl, ⟨y0_271, rfl, rfl, hy0_271, (Or.inr (Or.inl (h21)))⟩, by rw [ht]; exact hP, va_K.moved hW.alike hK, hD⟩, hS.F ht, by rw [ht]; exact hN⟩) hS.2.2 dX9_hasRightValue_271)))
  have hj290 : ∀ (y0_290 : Int32) (_ : iv 0 0 x) (_ : iv 0 79 o) (_ : iv 0 33 w) (_ : iv 0 1 y0_290) (_ : ¬ w.toInt = 21) (H : Heap) (locs : List Loc) (ls : Array Slot), va_P (dC, dI) vwCl (cW ad cid a2 lx sg gm lg) H → va_D A (cW ad cid a2 lx sg gm lg) → va_S A s.heap H locs → lv_has ls 3 [(0, eV (ad 3) x), (1, eV (ad 9) o), (2, eV (ad 33) w)] → W p l e (headSpec wm_X9_hasRightValue ({ frames := 3, cells := 1, slots := 6, locals := 75 })).room s m ([eV (ad 3) x, eV (ad 9) o, eV (ad 33) w] : List Value).toArray below meth c H locs 0 0 (vx_MQ below (cQx dC dI ad cid a2 lx (fun v u => ∃ r : Int32, v = some (.int r) ∧ u = (sg, gm, lg) ∧ (iv 0 1 r) ∧ (r.toInt = 0 ∨ ¬ w.toInt = 21 ∨ (gm 14 o.toNatClampNeg).toInt = 1 ∨ LVP gm lg o.toNatClampNeg (wKy.getD w.toNatClampNeg 0))) A) (cX dC dI ad cid a2 lx (fun _ _ => False) A) ([eV (ad 3) x, eV (ad 9) o, eV (ad 33) w] : List Value).toArray s 1 6 A) (F0 m 290 ls [.int y0_290]) := by
    intro y0_290 hsx0_290 hsx1_290 hsx2_290 hy0_290 h21 H locs ls hP hD hS hl
    exact W.nb (fun hN => W.widen (k := 1) (n := 6) (by decide) (by decide) (vx_ret (W.zret (v := y0_290) hx hb hr (iv_nb hy0_290) (fun t ht hW => ⟨⟨some (.int y0_290), (sg, gm, lg), rfl, ⟨y0_290, rfl, rfl, hy0_290, (Or.inr (Or.inl (h21)))⟩, by rw [ht]; exact hP, va_K.moved hW.alike hK, hD⟩, hS.F ht, by rw [ht]; exact hN⟩) hS.2.2 dX9_hasRightValue_290)))
  refine cw_sw hx hb hG hS hown (htb _ kw_514) dX9_hasRightValue_0 ?_
  refine ec_aload_n hx hb dX9_hasRightValue_3 rfl (lv_at hl 2 rfl) ?_
  refine cw_ord ⟨hx, hb, hml, hown, htb⟩ kw_520 hvw hl.1 (Nat.le_trans (cs_c (eV_cat _ _) cs_n) (by decide)) dX9_hasRightValue_4 ⟨Nat.le_of_ble_eq_true rfl, Nat.le_of_ble_eq_true rfl⟩ ⟨Nat.le_of_ble_eq_true rfl, Nat.le_of_ble_eq_true rfl⟩ hP hD hS hA hG (fun H locs hP hS => ?_)
  refine cw_swld (iv_k (by decide) : iv 0 0 0) hx hb hG hS hvw dX9_hasRightValue_7 ?_
  refine lv_topi (fun z_26 ez_26 => ?_)
  have hz_26 : iv 0 29 z_26 := iv_of ez_26 (sw_iv w)
  by_cases c_27 : (z_26 : Int32).toInt = 13
  · refine lv_tableIn (tgt := 291) hx hb dX9_hasRightValue_8 (by rw [c_27]; decide) (by rw [c_27]; decide) (by rw [c_27]; rfl) (by decide) ?_
    have h_28 : iv 13 13 z_26 := iv_at c_27
    refine lv_iconst (v := 1) hx hb dX9_hasRightValue_291 (by decide) ?_
    exact W.nb (fun hN => W.widen (k := 1) (n := 6) (by decide) (by decide) (vx_ret (W.zret (v := 1) hx hb hr (iv_nb (iv_w (iv_k (by decide) : iv 1 1 1) (by decide))) (fun t ht hW => ⟨⟨some (.int 1), (sg, gm, lg), rfl, ⟨1, rfl, rfl, (iv_w (iv_k (by decide) : iv 1 1 1) (by decide)), (Or.inr (Or.inl (sw27 hvw ez_26 (by omega))))⟩, by rw [ht]; exact hP, va_K.moved hW.alike hK, hD⟩, hS.F ht, by rw [ht]; exact hN⟩) hS.2.2 dX9_hasRightValue_292)))
  by_cases c_29 : (z_26 : Int32).toInt = 14
  · refine lv_tableIn (tgt := 293) hx hb dX9_hasRightValue_8 (by rw [c_29]; decide) (by rw [c_29]; decide) (by rw [c_29]; rfl) (by decide) ?_
    have h_30 : iv 14 14 z_26 := iv_at c_29
    exact hj293 hvx hvo hvw (sw27 hvw ez_26 (by omega)) _ _ _ hP hD hS (lv_sub hl [0, 1, 2] rfl)
  by_cases c_31 : (z_26 : Int32).toInt = 15
  · refine lv_tableIn (tgt := 293) hx hb dX9_hasRightValue_8 (by rw [c_31]; decide) (by rw [c_31]; decide) (by rw [c_31]; rfl) (by decide) ?_
    have h_32 : iv 15 15 z_26 := iv_at c_31
    exact hj293 hvx hvo hvw (sw27 hvw ez_26 (by omega)) _ _ _ hP hD hS (lv_sub hl [0, 1, 2] rfl)
  by_cases c_33 : (z_26 : Int32).toInt = 16
  · refine lv_tableIn (tgt := 293) hx hb dX9_hasRightValue_8 (by rw [c_33]; decide) (by rw [c_33]; decide) (by rw [c_33]; rfl) (by decide) ?_
    have h_34 : iv 16 16 z_26 := iv_at c_33
    exact hj293 hvx hvo hvw (sw27 hvw ez_26 (by omega)) _ _ _ hP hD hS (lv_sub hl [0, 1, 2] rfl)
  by_cases c_35 : (z_26 : Int32).toInt = 17
  · refine lv_tableIn (tgt := 162) hx hb dX9_hasRightValue_8 (by rw [c_35]; decide) (by rw [c_35]; decide) (by rw [c_35]; rfl) (by decide) ?_
    have h_36 : iv 17 17 z_26 := iv_at c_35
    exact hj162 hvx hvo hvw (sw27 hvw ez_26 (by omega)) _ _ _ hP hD hS (lv_sub hl [0, 1, 2] rfl)
  by_cases c_37 : (z_26 : Int32).toInt = 18
  · refine lv_tableIn (tgt := 162) hx hb dX9_hasRightValue_8 (by rw [c_37]; decide) (by rw [c_37]; decide) (by rw [c_37]; rfl) (by decide) ?_
    have h_38 : iv 18 18 z_26 := iv_at c_37
    exact hj162 hvx hvo hvw (sw27 hvw ez_26 (by omega)) _ _ _ hP hD hS (lv_sub hl [0, 1, 2] rfl)
  by_cases c_39 : (z_26 : Int32).toInt = 19
  · refine lv_tableIn (tgt := 143) hx hb dX9_hasRightValue_8 (by rw [c_39]; decide) (by rw [c_39]; decide) (by rw [c_39]; rfl) (by decide) ?_
    have h_40 : iv 19 19 z_26 := iv_at c_39
    refine ec_aload_n hx hb dX9_hasRightValue_143 rfl (lv_at hl 0 rfl) ?_
    refine cr_get (t := 3) (j := 0) (C := RX9) (T := TX9) (N := 1) (v := eV (ad 1) 0) hx hb htb inX9 hown hK hP hvx (by decide) (by decide) (by decide) rfl (by decide) (htb _ kw_82) (cV_c rfl (by decide) (by rw [show cMu 3 0 = 0 from rfl, Nat.zero_mul]; rfl)) dX9_hasRightValue_144 ?_
    refine ec_aload_n hx hb dX9_hasRightValue_147 rfl (lv_at hl 1 rfl) ?_
    refine ec_aload_n hx hb dX9_hasRightValue_148 rfl (lv_at hl 2 rfl) ?_
    refine cm_callV (t := 1) (C := RX6) (T := TX6) (N := 8) (rest := []) (as := [eV (ad 9) o, eV (ad 33) w]) ⟨hx, hb, hml, hown, htb⟩ (d_classValue l dC dI ad cid a2 lx sg gm lg 0 o w hI (iv_k (by decide) : iv 0 0 0) hvo hvw hFA how hVS) (cwV 2 htb (gd_V kw_585 kw_586 kw_587 kw_20 kw_1476) rfl rfl rfl (by decide +kernel) ⟨Nat.le_of_ble_eq_true rfl, Nat.le_of_ble_eq_true rfl⟩) (iv_k (by decide) : iv 0 0 0) (by decide) (by decide) rfl rfl hl.1 rfl (Nat.le_trans cs_n (by decide)) dX9_hasRightValue_149 ⟨Nat.le_of_ble_eq_true rfl, Nat.le_of_ble_eq_true rfl⟩ hK hP hD hS hA hG (fun E ce q9 u_42 H locs hw hP hD hS hce hcv hcl => ?_) (fun v9 u_42 H locs hw hP hD hS => ?_)
    · exact hw.elim
    obtain ⟨r_41, rfl, rfl, hr_41⟩ := hw
    have hP : va_P (dC, dI) vwCl (cW ad cid a2 lx sg gm lg) H := hP
    have hD : va_D A (cW ad cid a2 lx sg gm lg) := hD
    refine W.eq (g2 := F0 m 152 ls [.int r_41]) rfl ?_
    refine lv_iconst (v := (-1)) hx hb dX9_hasRightValue_152 (by decide) ?_
    refine lv_icmp_eq (tgt := 160) hx hb dX9_hasRightValue_153 (by decide) (fun c_44 => ?_) (fun c_44 => ?_)
    · have h_45 : iv (-1) (-1) r_41 := iv_eq c_44 hr_41 (iv_k (by decide) : iv (-1) (-1) (-1)) (by decide)
      refine lv_iconst (v := 0) hx hb dX9_hasRightValue_160 (by decide) ?_
      exact hj161 0 hvx hvo hvw (iv_w (iv_k (by decide) : iv 0 0 0) (by decide)) (sw27 hvw ez_26 (by omega)) _ _ _ hP hD hS (lv_sub hl [0, 1, 2] rfl)
    · have h_46 : iv 0 7 r_41 := iv_neL c_44 hr_41 (by decide)
      refine lv_iconst (v := 1) hx hb dX9_hasRightValue_156 (by decide) ?_
      refine lv_goto (tgt := 161) hx hb dX9_hasRightValue_157 (by decide) ?_
      exact hj161 1 hvx hvo hvw (iv_w (iv_k (by decide) : iv 1 1 1) (by decide)) (sw27 hvw ez_26 (by omega)) _ _ _ hP hD hS (lv_sub hl [0, 1, 2] rfl)
  by_cases c_47 : (z_26 : Int32).toInt = 20
  · refine lv_tableIn (tgt := 293) hx hb dX9_hasRightValue_8 (by rw [c_47]; decide) (by rw [c_47]; decide) (by rw [c_47]; rfl) (by decide) ?_
    have h_48 : iv 20 20 z_26 := iv_at c_47
    exact hj293 hvx hvo hvw (sw27 hvw ez_26 (by omega)) _ _ _ hP hD hS (lv_sub hl [0, 1, 2] rfl)
  by_cases c_49 : (z_26 : Int32).toInt = 21
  · refine lv_tableIn (tgt := 198) hx hb dX9_hasRightValue_8 (by rw [c_49]; decide) (by rw [c_49]; decide) (by rw [c_49]; rfl) (by decide) ?_
    have h_50 : iv 21 21 z_26 := iv_at c_49
    refine ec_aload_n hx hb dX9_hasRightValue_198 rfl (lv_at hl 0 rfl) ?_
    refine cr_get (t := 3) (j := 0) (C := RX9) (T := TX9) (N := 1) (v := eV (ad 1) 0) hx hb htb inX9 hown hK hP hvx (by decide) (by decide) (by decide) rfl (by decide) (htb _ kw_82) (cV_c rfl (by decide) (by rw [show cMu 3 0 = 0 from rfl, Nat.zero_mul]; rfl)) dX9_hasRightValue_199 ?_
    refine ec_aload_n hx hb dX9_hasRightValue_202 rfl (lv_at hl 1 rfl) ?_
    refine ec_aload_n hx hb dX9_hasRightValue_203 rfl (lv_at hl 2 rfl) ?_
    refine cw_word (k := 27) (kx := 27) hx hb hG hS (by decide) rfl ⟨by decide, by decide⟩ hown (htb _ kw_580) dX9_hasRightValue_204 ?_
    refine cm_callV (t := 1) (C := RX6) (T := TX6) (N := 8) (rest := []) (as := [eV (ad 9) o, eV (ad 33) w, eV (ad 33) 27]) ⟨hx, hb, hml, hown, htb⟩ (d_valueIs l dC dI ad cid a2 lx sg gm lg 0 o w 27 hI (iv_k (by decide) : iv 0 0 0) hvo hvw (iv_w (iv_k (by decide) : iv 27 27 27) (by decide)) hFA how hVS) (cwV 3 htb (gd_V kw_588 kw_589 kw_590 kw_20 kw_1477) rfl rfl rfl (by decide +kernel) ⟨Nat.le_of_ble_eq_true rfl, Nat.le_of_ble_eq_true rfl⟩) (iv_k (by decide) : iv 0 0 0) (by decide) (by decide) rfl rfl hl.1 rfl (Nat.le_trans cs_n (by decide)) dX9_hasRightValue_207 ⟨Nat.le_of_ble_eq_true rfl, Nat.le_of_ble_eq_true rfl⟩ hK hP hD hS hA hG (fun E ce q9 u_52 H locs hw hP hD hS hce hcv hcl => ?_) (fun v9 u_52 H locs hw hP hD hS => ?_)
    · exact hw.elim
    obtain ⟨r_51, rfl, rfl, hr_51⟩ := hw
    have hP : va_P (dC, dI) vwCl (cW ad cid a2 lx sg gm lg) H := hP
    have hD : va_D A (cW ad cid a2 lx sg gm lg) := hD
    refine W.eq (g2 := F0 m 210 ls [.int r_51]) rfl ?_
    refine lv_if_ne (tgt := 228) hx hb dX9_hasRightValue_210 (by decide) (fun c_54 => ?_) (fun c_54 => ?_)
    · have h_55 : iv 1 1 r_51 := iv_neL c_54 hr_51 (by decide)
      exact hj228 hvx hvo hvw (sw27 hvw ez_26 (by omega)) _ _ _ hP hD hS (lv_sub hl [0, 1, 2] rfl)
    · have h_56 : iv 0 0 r_51 := iv_eq c_54 hr_51 (iv_k (by decide) : iv 0 0 0) (by decide)
      refine ec_aload_n hx hb dX9_hasRightValue_213 rfl (lv_at hl 0 rfl) ?_
      refine cr_get (t := 3) (j := 0) (C := RX9) (T := TX9) (N := 1) (v := eV (ad 1) 0) hx hb htb inX9 hown hK hP hvx (by decide) (by decide) (by decide) rfl (by decide) (htb _ kw_82) (cV_c rfl (by decide) (by rw [show cMu 3 0 = 0 from rfl, Nat.zero_mul]; rfl)) dX9_hasRightValue_214 ?_
      refine ec_aload_n hx hb dX9_hasRightValue_217 rfl (lv_at hl 1 rfl) ?_
      refine ec_aload_n hx hb dX9_hasRightValue_218 rfl (lv_at hl 2 rfl) ?_
      refine cw_word (k := 28) (kx := 28) hx hb hG hS (by decide) rfl ⟨by decide, by decide⟩ hown (htb _ kw_581) dX9_hasRightValue_219 ?_
      refine cm_callV (t := 1) (C := RX6) (T := TX6) (N := 8) (rest := []) (as := [eV (ad 9) o, eV (ad 33) w, eV (ad 33) 28]) ⟨hx, hb, hml, hown, htb⟩ (d_valueIs l dC dI ad cid a2 lx sg gm lg 0 o w 28 hI (iv_k (by decide) : iv 0 0 0) hvo hvw (iv_w (iv_k (by decide) : iv 28 28 28) (by decide)) hFA how hVS) (cwV 3 htb (gd_V kw_588 kw_589 kw_590 kw_20 kw_1477) rfl rfl rfl (by decide +kernel) ⟨Nat.le_of_ble_eq_true rfl, Nat.le_of_ble_eq_true rfl⟩) (iv_k (by decide) : iv 0 0 0) (by decide) (by decide) rfl rfl hl.1 rfl (Nat.le_trans cs_n (by decide)) dX9_hasRightValue_222 ⟨Nat.le_of_ble_eq_true rfl, Nat.le_of_ble_eq_true rfl⟩ hK hP hD hS hA hG (fun E ce q9 u_58 H locs hw hP hD hS hce hcv hcl => ?_) (fun v9 u_58 H locs hw hP hD hS => ?_)
      · exact hw.elim
      obtain ⟨r_57, rfl, rfl, hr_57⟩ := hw
      have hP : va_P (dC, dI) vwCl (cW ad cid a2 lx sg gm lg) H := hP
      have hD : va_D A (cW ad cid a2 lx sg gm lg) := hD
      refine W.eq (g2 := F0 m 225 ls [.int r_57]) rfl ?_
      refine lv_if_eq (tgt := 232) hx hb dX9_hasRightValue_225 (by decide) (fun c_60 => ?_) (fun c_60 => ?_)
      · have h_61 : iv 0 0 r_57 := iv_eq c_60 hr_57 (iv_k (by decide) : iv 0 0 0) (by decide)
        refine lv_iconst (v := 0) hx hb dX9_hasRightValue_232 (by decide) ?_
        exact hj233 0 hvx hvo hvw (iv_w (iv_k (by decide) : iv 0 0 0) (by decide)) (sw27 hvw ez_26 (by omega)) _ _ _ hP hD hS (lv_sub hl [0, 1, 2] rfl)
      · have h_62 : iv 1 1 r_57 := iv_neL c_60 hr_57 (by decide)
        exact hj228 hvx hvo hvw (sw27 hvw ez_26 (by omega)) _ _ _ hP hD hS (lv_sub hl [0, 1, 2] rfl)
  by_cases c_63 : (z_26 : Int32).toInt = 22
  · refine lv_tableIn (tgt := 293) hx hb dX9_hasRightValue_8 (by rw [c_63]; decide) (by rw [c_63]; decide) (by rw [c_63]; rfl) (by decide) ?_
    have h_64 : iv 22 22 z_26 := iv_at c_63
    exact hj293 hvx hvo hvw (sw27 hvw ez_26 (by omega)) _ _ _ hP hD hS (lv_sub hl [0, 1, 2] rfl)
  by_cases c_65 : (z_26 : Int32).toInt = 23
  · refine lv_tableIn (tgt := 234) hx hb dX9_hasRightValue_8 (by rw [c_65]; decide) (by rw [c_65]; decide) (by rw [c_65]; rfl) (by decide) ?_
    have h_66 : iv 23 23 z_26 := iv_at c_65
    exact hj234 hvx hvo hvw (sw27 hvw ez_26 (by omega)) _ _ _ hP hD hS (lv_sub hl [0, 1, 2] rfl)
  by_cases c_67 : (z_26 : Int32).toInt = 24
  · refine lv_tableIn (tgt := 234) hx hb dX9_hasRightValue_8 (by rw [c_67]; decide) (by rw [c_67]; decide) (by rw [c_67]; rfl) (by decide) ?_
    have h_68 : iv 24 24 z_26 := iv_at c_67
    exact hj234 hvx hvo hvw (sw27 hvw ez_26 (by omega)) _ _ _ hP hD hS (lv_sub hl [0, 1, 2] rfl)
  by_cases c_69 : (z_26 : Int32).toInt = 25
  · refine lv_tableIn (tgt := 234) hx hb dX9_hasRightValue_8 (by rw [c_69]; decide) (by rw [c_69]; decide) (by rw [c_69]; rfl) (by decide) ?_
    have h_70 : iv 25 25 z_26 := iv_at c_69
    exact hj234 hvx hvo hvw (sw27 hvw ez_26 (by omega)) _ _ _ hP hD hS (lv_sub hl [0, 1, 2] rfl)
  by_cases c_71 : (z_26 : Int32).toInt = 26
  · refine lv_tableIn (tgt := 293) hx hb dX9_hasRightValue_8 (by rw [c_71]; decide) (by rw [c_71]; decide) (by rw [c_71]; rfl) (by decide) ?_
    have h_72 : iv 26 26 z_26 := iv_at c_71
    exact hj293 hvx hvo hvw (sw27 hvw ez_26 (by omega)) _ _ _ hP hD hS (lv_sub hl [0, 1, 2] rfl)
  by_cases c_73 : (z_26 : Int32).toInt = 27
  · refine lv_tableIn (tgt := 92) hx hb dX9_hasRightValue_8 (by rw [c_73]; decide) (by rw [c_73]; decide) (by rw [c_73]; rfl) (by decide) ?_
    have h_74 : iv 27 27 z_26 := iv_at c_73
    refine ec_aload_n hx hb dX9_hasRightValue_92 rfl (lv_at hl 1 rfl) ?_
    refine cr_get (t := 9) (j := 4) (C := RX3) (T := TX3) (N := 21) (v := eV (ad 33) (gm 14 o.toNatClampNeg)) hx hb htb inX3 hown hK hP hvo (by decide) (by decide) (by decide) rfl (by decide) (htb _ kw_508) rfl dX9_hasRightValue_93 ?_
    obtain ⟨z_75, ez_75⟩ : ∃ z : Int32, z = (gm 14 o.toNatClampNeg) := ⟨_, rfl⟩
    refine W.eq (g2 := F0 m 96 ls [eV (ad 33) z_75]) (by rw [ez_75]) ?_
    have hz_75 : iv (-1) 33 z_75 := iv_of ez_75 (CI_a hI 14 hvo (by decide))
    refine cw_word (k := 1) (kx := 1) hx hb hG hS (by decide) rfl ⟨by decide, by decide⟩ hown (htb _ kw_577) dX9_hasRightValue_96 ?_
    refine ec_acmp_ne (tgt := 124) hx hb dX9_hasRightValue_99 (by decide) (fun c_76 => ?_) (fun c_76 => ?_)
    · have wc_76 : ¬ z_75.toInt = (1 : Int) := fun q9 => c_76 (congrArg (er (ad 33)) (Int32.toInt_inj.mp q9))
      refine ec_aload_n hx hb dX9_hasRightValue_124 rfl (lv_at hl 0 rfl) ?_
      refine cr_get (t := 3) (j := 0) (C := RX9) (T := TX9) (N := 1) (v := eV (ad 1) 0) hx hb htb inX9 hown hK hP hvx (by decide) (by decide) (by decide) rfl (by decide) (htb _ kw_82) (cV_c rfl (by decide) (by rw [show cMu 3 0 = 0 from rfl, Nat.zero_mul]; rfl)) dX9_hasRightValue_125 ?_
      refine ec_aload_n hx hb dX9_hasRightValue_128 rfl (lv_at hl 1 rfl) ?_
      refine ec_aload_n hx hb dX9_hasRightValue_129 rfl (lv_at hl 2 rfl) ?_
      refine cm_callV (t := 1) (C := RX6) (T := TX6) (N := 8) (rest := []) (as := [eV (ad 9) o, eV (ad 33) w]) ⟨hx, hb, hml, hown, htb⟩ (d_letterValue l dC dI ad cid a2 lx sg gm lg 0 o w hI (iv_k (by decide) : iv 0 0 0) hvo hvw hFA how hVS) (cwV 2 htb (gd_V kw_542 kw_543 kw_544 kw_20 kw_1466) rfl rfl rfl (by decide +kernel) ⟨Nat.le_of_ble_eq_true rfl, Nat.le_of_ble_eq_true rfl⟩) (iv_k (by decide) : iv 0 0 0) (by decide) (by decide) rfl rfl hl.1 rfl (Nat.le_trans cs_n (by decide)) dX9_hasRightValue_130 ⟨Nat.le_of_ble_eq_true rfl, Nat.le_of_ble_eq_true rfl⟩ hK hP hD hS hA hG (fun E ce q9 u_78 H locs hw hP hD hS hce hcv hcl => ?_) (fun v9 u_78 H locs hw hP hD hS => ?_)
      · exact hw.elim
      obtain ⟨r_77, rfl, rfl, hr_77, fP_r_77, fQ_r_77⟩ := hw
      have hP : va_P (dC, dI) vwCl (cW ad cid a2 lx sg gm lg) H := hP
      have hD : va_D A (cW ad cid a2 lx sg gm lg) := hD
      refine W.eq (g2 := F0 m 133 ls [.int r_77]) rfl ?_
      refine lv_iconst (v := (-1)) hx hb dX9_hasRightValue_133 (by decide) ?_
      refine lv_icmp_eq (tgt := 141) hx hb dX9_hasRightValue_134 (by decide) (fun c_80 => ?_) (fun c_80 => ?_)
      · have h_81 : iv (-1) (-1) r_77 := iv_eq c_80 hr_77 (iv_k (by decide) : iv (-1) (-1) (-1)) (by decide)
        refine lv_iconst (v := 0) hx hb dX9_hasRightValue_141 (by decide) ?_
        exact hj142 0 hvx hvo hvw (iv_w (iv_k (by decide) : iv 0 0 0) (by decide)) (Or.inl rfl) _ _ _ hP hD hS (lv_sub hl [0, 1, 2] rfl)
      · have h_82 : iv 0 25 r_77 := iv_neL c_80 hr_77 (by decide)
        refine lv_iconst (v := 1) hx hb dX9_hasRightValue_137 (by decide) ?_
        refine lv_goto (tgt := 142) hx hb dX9_hasRightValue_138 (by decide) ?_
        exact hj142 1 hvx hvo hvw (iv_w (iv_k (by decide) : iv 1 1 1) (by decide)) (Or.inr (Or.inr (Or.inr (fP_r_77.resolve_left (by have := i32_0; have := i32_1; have := i32_2; have := i32_m1; have := (hvx).1; have := (hvx).2; have := (hvo).1; have := (hvo).2; have := (hvw).1; have := (hvw).2; have := (h_74).1; have := (h_74).2; have := (hz_75).1; have := (hz_75).2; have := (h_82).1; have := (h_82).2; omega))))) _ _ _ hP hD hS (lv_sub hl [0, 1, 2] rfl)
    · have wc_76 : z_75.toInt = (1 : Int) := er_wd hG hz_75 (iv_w (iv_k (by decide) : iv 1 1 1) (by decide)) c_76
      refine ec_aload_n hx hb dX9_hasRightValue_102 rfl (lv_at hl 0 rfl) ?_
      refine cr_get (t := 3) (j := 0) (C := RX9) (T := TX9) (N := 1) (v := eV (ad 1) 0) hx hb htb inX9 hown hK hP hvx (by decide) (by decide) (by decide) rfl (by decide) (htb _ kw_82) (cV_c rfl (by decide) (by rw [show cMu 3 0 = 0 from rfl, Nat.zero_mul]; rfl)) dX9_hasRightValue_103 ?_
      refine ec_aload_n hx hb dX9_hasRightValue_106 rfl (lv_at hl 1 rfl) ?_
      refine ec_aload_n hx hb dX9_hasRightValue_107 rfl (lv_at hl 2 rfl) ?_
      refine cm_callV (t := 1) (C := RX6) (T := TX6) (N := 8) (rest := []) (as := [eV (ad 9) o, eV (ad 33) w]) ⟨hx, hb, hml, hown, htb⟩ (d_nameValue l dC dI ad cid a2 lx sg gm lg 0 o w hI (iv_k (by decide) : iv 0 0 0) hvo hvw hFA how hVS) (cwV 2 htb (gd_V kw_582 kw_583 kw_584 kw_20 kw_1475) rfl rfl rfl (by decide +kernel) ⟨Nat.le_of_ble_eq_true rfl, Nat.le_of_ble_eq_true rfl⟩) (iv_k (by decide) : iv 0 0 0) (by decide) (by decide) rfl rfl hl.1 rfl (Nat.le_trans cs_n (by decide)) dX9_hasRightValue_108 ⟨Nat.le_of_ble_eq_true rfl, Nat.le_of_ble_eq_true rfl⟩ hK hP hD hS hA hG (fun E ce q9 u_84 H locs hw hP hD hS hce hcv hcl => ?_) (fun v9 u_84 H locs hw hP hD hS => ?_)
      · exact hw.elim
      obtain ⟨r_83, rfl, rfl⟩ := hw
      have hP : va_P (dC, dI) vwCl (cW ad cid a2 lx sg gm lg) H := hP
      have hD : va_D A (cW ad cid a2 lx sg gm lg) := hD
      refine W.eq (g2 := F0 m 111 ls [.long r_83]) rfl ?_
      refine lv_lconst (v := 0) hx hb dX9_hasRightValue_111 (by decide) ?_
      refine W.lcmp hx hb dX9_hasRightValue_112 ?_
      refine lv_topi (fun z_86 ez_86 => ?_)
      have hz_86 : iv (-1) 1 z_86 := iv_of ez_86 (iv_cmp _ _)
      refine lv_if_eq (tgt := 120) hx hb dX9_hasRightValue_113 (by decide) (fun c_87 => ?_) (fun c_87 => ?_)
      · have h_88 : iv 0 0 z_86 := iv_eq c_87 hz_86 (iv_k (by decide) : iv 0 0 0) (by decide)
        refine lv_iconst (v := 0) hx hb dX9_hasRightValue_120 (by decide) ?_
        refine lv_goto (tgt := 142) hx hb dX9_hasRightValue_121 (by decide) ?_
        exact hj142 0 hvx hvo hvw (iv_w (iv_k (by decide) : iv 0 0 0) (by decide)) (Or.inl rfl) _ _ _ hP hD hS (lv_sub hl [0, 1, 2] rfl)
      · have d_89 : ¬ (z_86 : Int32).toInt = 0 := lv_neT c_87 rfl
        refine lv_iconst (v := 1) hx hb dX9_hasRightValue_116 (by decide) ?_
        refine lv_goto (tgt := 142) hx hb dX9_hasRightValue_117 (by decide) ?_
        exact hj142 1 hvx hvo hvw (iv_w (iv_k (by decide) : iv 1 1 1) (by decide)) (Or.inr (Or.inr (Or.inl (by rw [← ez_75]; exact wc_76)))) _ _ _ hP hD hS (lv_sub hl [0, 1, 2] rfl)
  by_cases c_90 : (z_26 : Int32).toInt = 28
  · refine lv_tableIn (tgt := 253) hx hb dX9_hasRightValue_8 (by rw [c_90]; decide) (by rw [c_90]; decide) (by rw [c_90]; rfl) (by decide) ?_
    have h_91 : iv 28 28 z_26 := iv_at c_90
    refine ec_aload_n hx hb dX9_hasRightValue_253 rfl (lv_at hl 0 rfl) ?_
    refine cr_get (t := 3) (j := 0) (C := RX9) (T := TX9) (N := 1) (v := eV (ad 1) 0) hx hb htb inX9 hown hK hP hvx (by decide) (by decide) (by decide) rfl (by decide) (htb _ kw_82) (cV_c rfl (by decide) (by rw [show cMu 3 0 = 0 from rfl, Nat.zero_mul]; rfl)) dX9_hasRightValue_254 ?_
    refine ec_aload_n hx hb dX9_hasRightValue_257 rfl (lv_at hl 1 rfl) ?_
    refine ec_aload_n hx hb dX9_hasRightValue_258 rfl (lv_at hl 2 rfl) ?_
    refine cm_callV (t := 1) (C := RX6) (T := TX6) (N := 8) (rest := []) (as := [eV (ad 9) o, eV (ad 33) w]) ⟨hx, hb, hml, hown, htb⟩ (d_placeValue l dC dI ad cid a2 lx sg gm lg 0 o w hI (iv_k (by decide) : iv 0 0 0) hvo hvw hFA how hVS) (cwV 2 htb (gd_V kw_592 kw_593 kw_594 kw_20 kw_1478) rfl rfl rfl (by decide +kernel) ⟨Nat.le_of_ble_eq_true rfl, Nat.le_of_ble_eq_true rfl⟩) (iv_k (by decide) : iv 0 0 0) (by decide) (by decide) rfl rfl hl.1 rfl (Nat.le_trans cs_n (by decide)) dX9_hasRightValue_259 ⟨Nat.le_of_ble_eq_true rfl, Nat.le_of_ble_eq_true rfl⟩ hK hP hD hS hA hG (fun E ce q9 u_93 H locs hw hP hD hS hce hcv hcl => ?_) (fun v9 u_93 H locs hw hP hD hS => ?_)
    · exact hw.elim
    obtain ⟨r_92, rfl, rfl, hr_92⟩ := hw
    have hP : va_P (dC, dI) vwCl (cW ad cid a2 lx sg gm lg) H := hP
    have hD : va_D A (cW ad cid a2 lx sg gm lg) := hD
    refine W.eq (g2 := F0 m 262 ls [.int r_92]) rfl ?_
    refine lv_iconst (v := (-1)) hx hb dX9_hasRightValue_262 (by decide) ?_
    refine lv_icmp_eq (tgt := 270) hx hb dX9_hasRightValue_263 (by decide) (fun c_95 => ?_) (fun c_95 => ?_)
    · have h_96 : iv (-1) (-1) r_92 := iv_eq c_95 hr_92 (iv_k (by decide) : iv (-1) (-1) (-1)) (by decide)
      refine lv_iconst (v := 0) hx hb dX9_hasRightValue_270 (by decide) ?_
      exact hj271 0 hvx hvo hvw (iv_w (iv_k (by decide) : iv 0 0 0) (by decide)) (sw27 hvw ez_26 (by omega)) _ _ _ hP hD hS (lv_sub hl [0, 1, 2] rfl)
    · have h_97 : iv 0 2 r_92 := iv_neL c_95 hr_92 (by decide)
      refine lv_iconst (v := 1) hx hb dX9_hasRightValue_266 (by decide) ?_
      refine lv_goto (tgt := 271) hx hb dX9_hasRightValue_267 (by decide) ?_
      exact hj271 1 hvx hvo hvw (iv_w (iv_k (by decide) : iv 1 1 1) (by decide)) (sw27 hvw ez_26 (by omega)) _ _ _ hP hD hS (lv_sub hl [0, 1, 2] rfl)
  by_cases c_98 : (z_26 : Int32).toInt = 29
  · refine lv_tableIn (tgt := 272) hx hb dX9_hasRightValue_8 (by rw [c_98]; decide) (by rw [c_98]; decide) (by rw [c_98]; rfl) (by decide) ?_
    have h_99 : iv 29 29 z_26 := iv_at c_98
    refine ec_aload_n hx hb dX9_hasRightValue_272 rfl (lv_at hl 0 rfl) ?_
    refine cr_get (t := 3) (j := 0) (C := RX9) (T := TX9) (N := 1) (v := eV (ad 1) 0) hx hb htb inX9 hown hK hP hvx (by decide) (by decide) (by decide) rfl (by decide) (htb _ kw_82) (cV_c rfl (by decide) (by rw [show cMu 3 0 = 0 from rfl, Nat.zero_mul]; rfl)) dX9_hasRightValue_273 ?_
    refine ec_aload_n hx hb dX9_hasRightValue_276 rfl (lv_at hl 1 rfl) ?_
    refine ec_aload_n hx hb dX9_hasRightValue_277 rfl (lv_at hl 2 rfl) ?_
    refine cm_callV (t := 1) (C := RX6) (T := TX6) (N := 8) (rest := []) (as := [eV (ad 9) o, eV (ad 33) w]) ⟨hx, hb, hml, hown, htb⟩ (d_typeValue l dC dI ad cid a2 lx sg gm lg 0 o w hI (iv_k (by decide) : iv 0 0 0) hvo hvw hFA how hVS) (cwV 2 htb (gd_V kw_595 kw_596 kw_597 kw_20 kw_1479) rfl rfl rfl (by decide +kernel) ⟨Nat.le_of_ble_eq_true rfl, Nat.le_of_ble_eq_true rfl⟩) (iv_k (by decide) : iv 0 0 0) (by decide) (by decide) rfl rfl hl.1 rfl (Nat.le_trans cs_n (by decide)) dX9_hasRightValue_278 ⟨Nat.le_of_ble_eq_true rfl, Nat.le_of_ble_eq_true rfl⟩ hK hP hD hS hA hG (fun E ce q9 u_101 H locs hw hP hD hS hce hcv hcl => ?_) (fun v9 u_101 H locs hw hP hD hS => ?_)
    · exact hw.elim
    obtain ⟨r_100, rfl, rfl, hr_100⟩ := hw
    have hP : va_P (dC, dI) vwCl (cW ad cid a2 lx sg gm lg) H := hP
    have hD : va_D A (cW ad cid a2 lx sg gm lg) := hD
    refine W.eq (g2 := F0 m 281 ls [.int r_100]) rfl ?_
    refine lv_iconst (v := (-1)) hx hb dX9_hasRightValue_281 (by decide) ?_
    refine lv_icmp_eq (tgt := 289) hx hb dX9_hasRightValue_282 (by decide) (fun c_103 => ?_) (fun c_103 => ?_)
    · have h_104 : iv (-1) (-1) r_100 := iv_eq c_103 hr_100 (iv_k (by decide) : iv (-1) (-1) (-1)) (by decide)
      refine lv_iconst (v := 0) hx hb dX9_hasRightValue_289 (by decide) ?_
      exact hj290 0 hvx hvo hvw (iv_w (iv_k (by decide) : iv 0 0 0) (by decide)) (sw27 hvw ez_26 (by omega)) _ _ _ hP hD hS (lv_sub hl [0, 1, 2] rfl)
    · have h_105 : iv 0 15 r_100 := iv_neL c_103 hr_100 (by decide)
      refine lv_iconst (v := 1) hx hb dX9_hasRightValue_285 (by decide) ?_
      refine lv_goto (tgt := 290) hx hb dX9_hasRightValue_286 (by decide) ?_
      exact hj290 1 hvx hvo hvw (iv_w (iv_k (by decide) : iv 1 1 1) (by decide)) (sw27 hvw ez_26 (by omega)) _ _ _ hP hD hS (lv_sub hl [0, 1, 2] rfl)
  refine lv_tableOut (tgt := 293) hx hb dX9_hasRightValue_8 (by have q1 := (hz_26).1; have q2 := (hz_26).2; omega) (by decide) ?_
  have h_106 : iv 0 12 z_26 := ⟨by have q1 := (hz_26).1; have q2 := (hz_26).2; omega, by have q1 := (hz_26).1; have q2 := (hz_26).2; omega⟩
  exact hj293 hvx hvo hvw (sw27 hvw ez_26 (by omega)) _ _ _ hP hD hS (lv_sub hl [0, 1, 2] rfl)

set_option maxHeartbeats 4000000 in
set_option maxRecDepth 100000 in
theorem d_hasRightAttributes (l : Launch) (dC : Nat → ClassId) (dI : Nat → Nat → Nat) (ad : Nat → Nat → Nat) (cid : Nat → ClassId) (a2 : Nat → Nat) (lx : List Nat) (sg : Nat → Int32) (gm : Nat → Nat → Int32) (lg : Nat → Nat → Int64) (x : Int32) (o : Int32) (hI : CI sg gm) (hvx : iv 0 0 x) (hvo : iv 0 79 o) (hFA : FA sg gm) (how : o.toInt < (sg 4).toInt) (hVS : VS sg gm) (hw0 : 0 ≤ (gm 14 o.toNatClampNeg).toInt) : CMt dC dI ad cid a2 lx l yX9_hasRightAttributes wm_X9_hasRightAttributes ({ frames := 4, cells := 1, slots := 6, locals := 97 }) [eV (ad 3) x, eV (ad 9) o] sg gm lg (fun v u => ∃ r : Int32, v = some (.int r) ∧ u = (sg, gm, lg) ∧ (iv 0 1 r) ∧ (r.toInt = 0 ∨ RAT gm lg o.toNatClampNeg (gm 20 o.toNatClampNeg).toNatClampNeg) ∧ (r.toInt = 0 ∨ RBT gm lg o.toNatClampNeg (gm 20 o.toNatClampNeg).toNatClampNeg)) (fun _ _ => False) := by
  intro sz
  refine vx_ofW (cc := cX9_hasRightAttributes) (maxL := 4) (ret := (some .boolean)) (by decide) rfl ?_
  intro p e s m args below meth c s₁ B hml hxt hv
  obtain ⟨rfl, hsz, hP, hK, hD0, hG⟩ := hv
  have hx := B.exec
  have hb := B.bytes
  have hr := B.returns
  have hts := atoms_spec (ws := wm_X9_hasRightAttributes) B.pre
  have htb := fun (w : Cond) (h : w ∈ tb) => hts w (List.mem_cons_of_mem _ h)
  have hown : s.vm.findClass RX9 = some m.cls := findClass_of_methodNamed B.named
  have hlocks := B.notSynchronized
  subst hsz
  have hD := hD0.self (sz := s.heap.size)
  generalize hAe : va_A (cW ad cid a2 lx sg gm lg) s.heap.size = A at hD hG ⊢
  have hA : ∀ q : Nat, s.heap.size ≤ q → A q := fun q h => by rw [← hAe]; exact Or.inr h
  have hS : va_S A s.heap s.heap [] := va_S.rf
  have hl := lv_entry ([eV (ad 3) x, eV (ad 9) o]) (n := 4) (by rw [show (lg_sl ([eV (ad 3) x, eV (ad 9) o])).length = 2 from by simp [lg_sl, eV_cat, cat_i, cat_l]]; exact Nat.le_of_ble_eq_true rfl)
  rw [lg_entry_eq]
  generalize (lg_sl ([eV (ad 3) x, eV (ad 9) o]) ++ List.replicate (4 - (lg_sl ([eV (ad 3) x, eV (ad 9) o])).length) Slot.unset).toArray = ls at hl ⊢
  have hl : lv_has ls 4 [(0, eV (ad 3) x), (1, eV (ad 9) o)] := by simp [lv_args, eV_cat, cat_i, cat_l] at hl; exact hl
  have hj46 : ∀ (x3_46 : Int32) (x2_46 : Int32) (_ : iv (-1) 33 x3_46) (_ : iv 0 11 x2_46) (_ : iv 0 0 x) (_ : iv 0 79 o) (H : Heap) (locs : List Loc) (ls : Array Slot), va_P (dC, dI) vwCl (cW ad cid a2 lx sg gm lg) H → va_D A (cW ad cid a2 lx sg gm lg) → va_S A s.heap H locs → lv_has ls 4 [(3, eV (ad 33) x3_46), (2, .int x2_46), (0, eV (ad 3) x), (1, eV (ad 9) o)] → W p l e (headSpec wm_X9_hasRightAttributes ({ frames := 4, cells := 1, slots := 6, locals := 97 })).room s m ([eV (ad 3) x, eV (ad 9) o] : List Value).toArray below meth c H locs 0 0 (vx_MQ below (cQx dC dI ad cid a2 lx (fun v u => ∃ r : Int32, v = some (.int r) ∧ u = (sg, gm, lg) ∧ (iv 0 1 r) ∧ (r.toInt = 0 ∨ RAT gm lg o.toNatClampNeg (gm 20 o.toNatClampNeg).toNatClampNeg) ∧ (r.toInt = 0 ∨ RBT gm lg o.toNatClampNeg (gm 20 o.toNatClampNeg).toNatClampNeg)) A) (cX dC dI ad cid a2 lx (fun _ _ => False) A) ([eV (ad 3) x, eV (ad 9) o] : List Value).toArray s 1 6 A) (F0 m 46 ls []) := by
    intro x3_46 x2_46 hx3_46 hx2_46 hsx0_46 hsx1_46 H locs ls hP hD hS hl
    refine lv_iconst (v := 0) hx hb dX9_hasRightAttributes_46 (by decide) ?_
    exact W.nb (fun hN => W.widen (k := 1) (n := 6) (by decide) (by decide) (vx_ret (W.zret (v := 0) hx hb hr (iv_nb (iv_w (iv_k (by decide) : iv 0 0 0) (by decide))) (fun t ht hW => ⟨⟨some (.int 0), (sg, gm, lg), rfl, ⟨0, rfl, rfl, (iv_w (iv_k (by decide) : iv 0 0 0) (by decide)), (Or.inl rfl), (Or.inl rfl)⟩, by rw [ht]; exact hP, va_K.moved hW.alike hK, hD⟩, hS.F ht, by rw [ht]; exact hN⟩) hS.2.2 dX9_hasRightAttributes_47)))
  have hj2 : ∀ (n : Nat) (x2_2 : Int32) (_ : (12 - x2_2.toInt).toNat = n) (_ : iv 0 12 x2_2) (_ : iv 0 0 x) (_ : iv 0 79 o) (_ : RAT gm lg o.toNatClampNeg x2_2.toNatClampNeg) (_ : RBT gm lg o.toNatClampNeg x2_2.toNatClampNeg) (H : Heap) (locs : List Loc) (ls : Array Slot), va_P (dC, dI) vwCl (cW ad cid a2 lx sg gm lg) H → va_D A (cW ad cid a2 lx sg gm lg) → va_S A s.heap H locs → lv_has ls 4 [(2, .int x2_2), (0, eV (ad 3) x), (1, eV (ad 9) o)] → W p l e (headSpec wm_X9_hasRightAttributes ({ frames := 4, cells := 1, slots := 6, locals := 97 })).room s m ([eV (ad 3) x, eV (ad 9) o] : List Value).toArray below meth c H locs 0 0 (vx_MQ below (cQx dC dI ad cid a2 lx (fun v u => ∃ r : Int32, v = some (.int r) ∧ u = (sg, gm, lg) ∧ (iv 0 1 r) ∧ (r.toInt = 0 ∨ RAT gm lg o.toNatClampNeg (gm 20 o.toNatClampNeg).toNatClampNeg) ∧ (r.toInt = 0 ∨ RBT gm lg o.toNatClampNeg (gm 20 o.toNatClampNeg).toNatClampNeg)) A) (cX dC dI ad cid a2 lx (fun _ _ => False) A) ([eV (ad 3) x, eV (ad 9) o] : List Value).toArray s 1 6 A) (F0 m 2 ls []) := by
    intro n
    induction n using Nat.strongRecOn with
    | ind n ih2 =>
      intro x2_2 hn2 hx2_2 hsx0_2 hsx1_2 hRA hRB H locs ls hP hD hS hl
      refine lv_iload_n hx hb dX9_hasRightAttributes_2 rfl (lv_at hl 0 rfl) ?_
      refine ec_aload_n hx hb dX9_hasRightAttributes_3 rfl (lv_at hl 2 rfl) ?_
      refine cr_get (t := 9) (j := 10) (C := RX3) (T := TX3) (N := 21) (v := .int (gm 20 o.toNatClampNeg)) hx hb htb inX3 hown hK hP hsx1_2 (by decide) (by decide) (by decide) rfl (by decide) (htb _ kw_558) rfl dX9_hasRightAttributes_4 ?_
      obtain ⟨z_1, ez_1⟩ : ∃ z : Int32, z = (gm 20 o.toNatClampNeg) := ⟨_, rfl⟩
      refine W.eq (g2 := F0 m 7 ls [.int z_1, .int x2_2]) (by rw [ez_1]) ?_
      have hz_1 : iv 0 12 z_1 := iv_of ez_1 (CI_a hI 20 hsx1_2 (by decide))
      refine lv_icmp_ge (tgt := 54) hx hb dX9_hasRightAttributes_7 (by decide) (fun c_2 => ?_) (fun c_2 => ?_)
      · have d_3 : (z_1 : Int32).toInt ≤ (x2_2 : Int32).toInt := Int32.le_iff_toInt_le.mp c_2
        refine lv_iconst (v := 1) hx hb dX9_hasRightAttributes_54 (by decide) ?_
        exact W.nb (fun hN => W.widen (k := 1) (n := 6) (by decide) (by decide) (vx_ret (W.zret (v := 1) hx hb hr (iv_nb (iv_w (iv_k (by decide) : iv 1 1 1) (by decide))) (fun t ht hW => ⟨⟨some (.int 1), (sg, gm, lg), rfl, ⟨1, rfl, rfl, (iv_w (iv_k (by decide) : iv 1 1 1) (by decide)), (Or.inr (fun i9 q9 => hRA i9 (by rw [← ez_1] at q9; have := iv_cl hz_1 (by decide); have := iv_cl hx2_2 (by decide); have := i32_0; have := i32_1; have := i32_2; have := i32_m1; have := (hsx0_2).1; have := (hsx0_2).2; have := (hsx1_2).1; have := (hsx1_2).2; have := (hx2_2).1; have := (hx2_2).2; have := (hz_1).1; have := (hz_1).2; omega))), (Or.inr (fun a9 b9 i9 q9 => hRB a9 b9 i9 (by rw [← ez_1] at q9; have := iv_cl hz_1 (by decide); have := iv_cl hx2_2 (by decide); have := i32_0; have := i32_1; have := i32_2; have := i32_m1; have := (hsx0_2).1; have := (hsx0_2).2; have := (hsx1_2).1; have := (hsx1_2).2; have := (hx2_2).1; have := (hx2_2).2; have := (hz_1).1; have := (hz_1).2; omega)))⟩, by rw [ht]; exact hP, va_K.moved hW.alike hK, hD⟩, hS.F ht, by rw [ht]; exact hN⟩) hS.2.2 dX9_hasRightAttributes_55)))
      · have d_4 : (x2_2 : Int32).toInt < (z_1 : Int32).toInt := Int32.lt_iff_toInt_lt.mp (i32_lt c_2)
        have h_5 : iv 0 11 x2_2 := iv_ltL (i32_lt c_2) hx2_2 hz_1 (by decide)
        have h_6 : iv 1 12 z_1 := iv_ltR (i32_lt c_2) hx2_2 hz_1 (by decide)
        refine ec_aload_n hx hb dX9_hasRightAttributes_10 rfl (lv_at hl 1 rfl) ?_
        refine cr_get (t := 3) (j := 0) (C := RX9) (T := TX9) (N := 1) (v := eV (ad 1) 0) hx hb htb inX9 hown hK hP hsx0_2 (by decide) (by decide) (by decide) rfl (by decide) (htb _ kw_82) (cV_c rfl (by decide) (by rw [show cMu 3 0 = 0 from rfl, Nat.zero_mul]; rfl)) dX9_hasRightAttributes_11 ?_
        refine ec_aload_n hx hb dX9_hasRightAttributes_14 rfl (lv_at hl 2 rfl) ?_
        refine cr_get (t := 9) (j := 9) (C := RX3) (T := TX3) (N := 21) (v := .int (gm 19 o.toNatClampNeg)) hx hb htb inX3 hown hK hP hsx1_2 (by decide) (by decide) (by decide) rfl (by decide) (htb _ kw_559) rfl dX9_hasRightAttributes_15 ?_
        obtain ⟨z_7, ez_7⟩ : ∃ z : Int32, z = (gm 19 o.toNatClampNeg) := ⟨_, rfl⟩
        refine W.eq (g2 := F0 m 18 ls [.int z_7, eV (ad 1) 0]) (by rw [ez_7]) ?_
        have hz_7 : iv 0 240 z_7 := iv_of ez_7 (CI_a hI 19 hsx1_2 (by decide))
        refine lv_iload_n hx hb dX9_hasRightAttributes_18 rfl (lv_at hl 0 rfl) ?_
        have hfa9 : (z_7 : Int32).toInt + (z_1 : Int32).toInt ≤ (sg 5).toInt := by rw [ez_7, ez_1]; exact hFA _ (lt_cl hvo (show iv 0 80 (sg 4) from CI_s hI 4) (by decide) (by decide) how)
        refine lv_iadd hx hb dX9_hasRightAttributes_19 ?_
        refine lv_topi (fun z_8 ez_8 => ?_)
        have hz_8 : iv 0 251 z_8 := iv_of ez_8 (iv_add hz_7 h_5 (by decide))
        have tz_8 : z_8.toInt = (z_7 : Int32).toInt + (x2_2 : Int32).toInt := by rw [ez_8]; exact iv_addE hz_7 h_5 (by decide)
        have h_9 : iv 0 239 z_8 := ⟨by have := i32_0; have := i32_1; have := i32_2; have := i32_m1; have := (show iv 0 240 (sg 5) from CI_s hI 5).1; have := (show iv 0 240 (sg 5) from CI_s hI 5).2; have := (hsx0_2).1; have := (hsx0_2).2; have := (hsx1_2).1; have := (hsx1_2).2; have := (h_5).1; have := (h_5).2; have := (h_6).1; have := (h_6).2; have := (hz_7).1; have := (hz_7).2; have := (hz_8).1; have := (hz_8).2; omega, by have := i32_0; have := i32_1; have := i32_2; have := i32_m1; have := (show iv 0 240 (sg 5) from CI_s hI 5).1; have := (show iv 0 240 (sg 5) from CI_s hI 5).2; have := (hsx0_2).1; have := (hsx0_2).2; have := (hsx1_2).1; have := (hsx1_2).2; have := (h_5).1; have := (h_5).2; have := (h_6).1; have := (h_6).2; have := (hz_7).1; have := (hz_7).2; have := (hz_8).1; have := (hz_8).2; omega⟩
        refine cm_callV (t := 1) (C := RX6) (T := TX6) (N := 8) (rest := []) (as := [.int z_8]) ⟨hx, hb, hml, hown, htb⟩ (d_attributeWord l dC dI ad cid a2 lx sg gm lg 0 z_8 hI (iv_k (by decide) : iv 0 0 0) h_9) (cwV 1 htb (gd_V kw_560 kw_561 kw_562 kw_20 kw_1471) rfl rfl rfl (by decide +kernel) ⟨Nat.le_of_ble_eq_true rfl, Nat.le_of_ble_eq_true rfl⟩) (iv_k (by decide) : iv 0 0 0) (by decide) (by decide) rfl rfl hl.1 rfl (Nat.le_trans cs_n (by decide)) dX9_hasRightAttributes_20 ⟨Nat.le_of_ble_eq_true rfl, Nat.le_of_ble_eq_true rfl⟩ hK hP hD hS hA hG (fun E ce q9 u_11 H locs hw hP hD hS hce hcv hcl => ?_) (fun v9 u_11 H locs hw hP hD hS => ?_)
        · exact hw.elim
        obtain ⟨r_10, rfl, rfl, hr_10, fA_r_10⟩ := hw
        have hP : va_P (dC, dI) vwCl (cW ad cid a2 lx sg gm lg) H := hP
        have hD : va_D A (cW ad cid a2 lx sg gm lg) := hD
        refine W.eq (g2 := F0 m 23 ls [eV (ad 33) r_10]) rfl ?_
        refine ec_astore_n (i := 3) (lv' := [(3, eV (ad 33) r_10), (2, .int x2_2), (0, eV (ad 3) x), (1, eV (ad 9) o)]) hx hb dX9_hasRightAttributes_23 rfl hl (by decide) rfl (fun ls hl => ?_)
        refine ec_aload_n hx hb dX9_hasRightAttributes_24 rfl (lv_at hl 0 rfl) ?_
        refine ec_ifnull (tgt := 46) hx hb dX9_hasRightAttributes_25 (by decide) (fun c_13 => ?_) (fun c_13 => ?_)
        · have h_14 : iv (-1) (-1) r_10 := ⟨(hr_10).1, by omega⟩
          exact hj46 r_10 x2_2 (iv_w h_14 (by decide)) h_5 hsx0_2 hsx1_2 _ _ _ hP hD hS (lv_sub hl [0, 1, 2, 3] rfl)
        · have h_15 : iv 0 33 r_10 := ⟨c_13, (hr_10).2⟩
          refine ec_aload_n hx hb dX9_hasRightAttributes_28 rfl (lv_at hl 2 rfl) ?_
          refine ec_aload_n hx hb dX9_hasRightAttributes_29 rfl (lv_at hl 3 rfl) ?_
          refine ec_aload_n hx hb dX9_hasRightAttributes_30 rfl (lv_at hl 0 rfl) ?_
          refine cm_callV (t := 3) (C := RX9) (T := TX9) (N := 1) (rest := []) (as := [eV (ad 9) o, eV (ad 33) r_10]) ⟨hx, hb, hml, hown, htb⟩ (d_mayHave l dC dI ad cid a2 lx sg gm lg x o r_10 hI hsx0_2 hsx1_2 h_15 (by first | assumption | decide)) (cwV 2 htb (gd_V kw_564 kw_565 kw_566 kw_28 kw_1472) rfl rfl rfl (by decide +kernel) ⟨Nat.le_of_ble_eq_true rfl, Nat.le_of_ble_eq_true rfl⟩) hsx0_2 (by decide) (by decide) rfl rfl hl.1 rfl (Nat.le_trans cs_n (by decide)) dX9_hasRightAttributes_31 ⟨Nat.le_of_ble_eq_true rfl, Nat.le_of_ble_eq_true rfl⟩ hK hP hD hS hA hG (fun E ce q9 u_17 H locs hw hP hD hS hce hcv hcl => ?_) (fun v9 u_17 H locs hw hP hD hS => ?_)
          · exact hw.elim
          obtain ⟨r_16, rfl, rfl, hr_16, fM_r_16⟩ := hw
          have hP : va_P (dC, dI) vwCl (cW ad cid a2 lx sg gm lg) H := hP
          have hD : va_D A (cW ad cid a2 lx sg gm lg) := hD
          refine W.eq (g2 := F0 m 34 ls [.int r_16]) rfl ?_
          refine lv_if_eq (tgt := 46) hx hb dX9_hasRightAttributes_34 (by decide) (fun c_19 => ?_) (fun c_19 => ?_)
          · have h_20 : iv 0 0 r_16 := iv_eq c_19 hr_16 (iv_k (by decide) : iv 0 0 0) (by decide)
            exact hj46 r_10 x2_2 (iv_w h_15 (by decide)) h_5 hsx0_2 hsx1_2 _ _ _ hP hD hS (lv_sub hl [0, 1, 2, 3] rfl)
          · have h_21 : iv 1 1 r_16 := iv_neL c_19 hr_16 (by decide)
            refine ec_aload_n hx hb dX9_hasRightAttributes_37 rfl (lv_at hl 2 rfl) ?_
            refine ec_aload_n hx hb dX9_hasRightAttributes_38 rfl (lv_at hl 3 rfl) ?_
            refine ec_aload_n hx hb dX9_hasRightAttributes_39 rfl (lv_at hl 0 rfl) ?_
            refine cm_callV (t := 3) (C := RX9) (T := TX9) (N := 1) (rest := []) (as := [eV (ad 9) o, eV (ad 33) r_10]) ⟨hx, hb, hml, hown, htb⟩ (d_hasRightValue l dC dI ad cid a2 lx sg gm lg x o r_10 hI hsx0_2 hsx1_2 h_15 hFA how hVS (by first | assumption | decide)) (cwV 2 htb (gd_V kw_574 kw_575 kw_576 kw_28 kw_1474) rfl rfl rfl (by decide +kernel) ⟨Nat.le_of_ble_eq_true rfl, Nat.le_of_ble_eq_true rfl⟩) hsx0_2 (by decide) (by decide) rfl rfl hl.1 rfl (Nat.le_trans cs_n (by decide)) dX9_hasRightAttributes_40 ⟨Nat.le_of_ble_eq_true rfl, Nat.le_of_ble_eq_true rfl⟩ hK hP hD hS hA hG (fun E ce q9 u_23 H locs hw hP hD hS hce hcv hcl => ?_) (fun v9 u_23 H locs hw hP hD hS => ?_)
            · exact hw.elim
            obtain ⟨r_22, rfl, rfl, hr_22, fV_r_22⟩ := hw
            have hP : va_P (dC, dI) vwCl (cW ad cid a2 lx sg gm lg) H := hP
            have hD : va_D A (cW ad cid a2 lx sg gm lg) := hD
            refine W.eq (g2 := F0 m 43 ls [.int r_22]) rfl ?_
            refine lv_if_ne (tgt := 48) hx hb dX9_hasRightAttributes_43 (by decide) (fun c_25 => ?_) (fun c_25 => ?_)
            · have h_26 : iv 1 1 r_22 := iv_neL c_25 hr_22 (by decide)
              obtain ⟨z_27, ez_27⟩ : ∃ z : Int32, z = x2_2 + 1 := ⟨_, rfl⟩
              have hz_27 : iv 1 12 z_27 := iv_of ez_27 (iv_add h_5 (iv_k (by decide) : iv 1 1 1) (by decide))
              have tz_27 : z_27.toInt = x2_2.toInt + 1 := by rw [ez_27]; exact iv_addE h_5 (iv_k (by decide) : iv 1 1 1) (by decide)
              refine lv_iinc (v := z_27) (lv' := [(2, .int z_27), (3, eV (ad 33) r_10), (0, eV (ad 3) x), (1, eV (ad 9) o)]) hx hb dX9_hasRightAttributes_48 hl (k := 1) rfl ez_27.symm (by decide) (by simp [List.filter, eV_cat, cat_i, cat_l]) (fun ls hl => ?_)
              refine lv_goto (tgt := 2) hx hb dX9_hasRightAttributes_51 (by decide) ?_
              exact ih2 _ (by rw [← hn2]; exact (iv_meas tz_27 h_5 (by decide))) z_27 rfl (iv_w hz_27 (by decide)) hsx0_2 hsx1_2 (RAT_s hRA (h_15) (by rw [fA_r_10.resolve_left (by have := i32_0; have := i32_1; have := i32_2; have := i32_m1; have := (hsx0_2).1; have := (hsx0_2).2; have := (hsx1_2).1; have := (hsx1_2).2; have := (h_5).1; have := (h_5).2; have := (h_6).1; have := (h_6).2; have := (hz_7).1; have := (hz_7).2; have := (h_9).1; have := (h_9).2; have := (h_15).1; have := (h_15).2; have := (h_21).1; have := (h_21).2; have := (h_26).1; have := (h_26).2; have := (hz_27).1; have := (hz_27).2; omega), cl_add hz_7 h_5 (by decide) (by decide) tz_8, ez_7]) (fV_r_22.resolve_left (by have := i32_0; have := i32_1; have := i32_2; have := i32_m1; have := (hsx0_2).1; have := (hsx0_2).2; have := (hsx1_2).1; have := (hsx1_2).2; have := (h_5).1; have := (h_5).2; have := (h_6).1; have := (h_6).2; have := (hz_7).1; have := (hz_7).2; have := (h_9).1; have := (h_9).2; have := (h_15).1; have := (h_15).2; have := (h_21).1; have := (h_21).2; have := (h_26).1; have := (h_26).2; have := (hz_27).1; have := (hz_27).2; omega)) (by have q1 : z_27.toNatClampNeg = z_27.toInt.toNat := rfl; have q2 : x2_2.toNatClampNeg = x2_2.toInt.toNat := rfl; have := i32_0; have := i32_1; have := i32_2; have := i32_m1; have := (hsx0_2).1; have := (hsx0_2).2; have := (hsx1_2).1; have := (hsx1_2).2; have := (h_5).1; have := (h_5).2; have := (h_6).1; have := (h_6).2; have := (hz_7).1; have := (hz_7).2; have := (h_9).1; have := (h_9).2; have := (h_15).1; have := (h_15).2; have := (h_21).1; have := (h_21).2; have := (h_26).1; have := (h_26).2; have := (hz_27).1; have := (hz_27).2; omega)) (RBT_s hRB (h_15) (by rw [fA_r_10.resolve_left (by have := i32_0; have := i32_1; have := i32_2; have := i32_m1; have := (hsx0_2).1; have := (hsx0_2).2; have := (hsx1_2).1; have := (hsx1_2).2; have := (h_5).1; have := (h_5).2; have := (h_6).1; have := (h_6).2; have := (hz_7).1; have := (hz_7).2; have := (h_9).1; have := (h_9).2; have := (h_15).1; have := (h_15).2; have := (h_21).1; have := (h_21).2; have := (h_26).1; have := (h_26).2; have := (hz_27).1; have := (hz_27).2; omega), cl_add hz_7 h_5 (by decide) (by decide) tz_8, ez_7]) (fM_r_16.resolve_left (by have := i32_0; have := i32_1; have := i32_2; have := i32_m1; have := (hsx0_2).1; have := (hsx0_2).2; have := (hsx1_2).1; have := (hsx1_2).2; have := (h_5).1; have := (h_5).2; have := (h_6).1; have := (h_6).2; have := (hz_7).1; have := (hz_7).2; have := (h_9).1; have := (h_9).2; have := (h_15).1; have := (h_15).2; have := (h_21).1; have := (h_21).2; have := (h_26).1; have := (h_26).2; have := (hz_27).1; have := (hz_27).2; omega)) (by have q1 : z_27.toNatClampNeg = z_27.toInt.toNat := rfl; have q2 : x2_2.toNatClampNeg = x2_2.toInt.toNat := rfl; have := i32_0; have := i32_1; have := i32_2; have := i32_m1; have := (hsx0_2).1; have := (hsx0_2).2; have := (hsx1_2).1; have := (hsx1_2).2; have := (h_5).1; have := (h_5).2; have := (h_6).1; have := (h_6).2; have := (hz_7).1; have := (hz_7).2; have := (h_9).1; have := (h_9).2; have := (h_15).1; have := (h_15).2; have := (h_21).1; have := (h_21).2; have := (h_26).1; have := (h_26).2; have := (hz_27).1; have := (hz_27).2; omega)) _ _ _ hP hD hS (lv_sub hl [0, 2, 3] rfl)
            · have h_28 : iv 0 0 r_22 := iv_eq c_25 hr_22 (iv_k (by decide) : iv 0 0 0) (by decide)
              exact hj46 r_10 x2_2 (iv_w h_15 (by decide)) h_5 hsx0_2 hsx1_2 _ _ _ hP hD hS (lv_sub hl [0, 1, 2, 3] rfl)
  refine lv_iconst (v := 0) hx hb dX9_hasRightAttributes_0 (by decide) ?_
  refine lv_istore_n (i := 2) (lv' := [(2, .int 0), (0, eV (ad 3) x), (1, eV (ad 9) o)]) hx hb dX9_hasRightAttributes_1 rfl hl (by decide) (by simp [List.filter, eV_cat, cat_i, cat_l]) (fun ls hl => ?_)
  exact hj2 _ 0 rfl (iv_w (iv_k (by decide) : iv 0 0 0) (by decide)) hvx hvo (fun _ q9 => absurd q9 (Nat.not_lt_zero _)) (fun _ _ _ q9 => absurd q9 (Nat.not_lt_zero _)) _ _ _ hP hD hS (lv_sub hl [0, 1, 2] rfl)

set_option maxHeartbeats 4000000 in
set_option maxRecDepth 100000 in
theorem d_beanHasWhatItNeeds (l : Launch) (dC : Nat → ClassId) (dI : Nat → Nat → Nat) (ad : Nat → Nat → Nat) (cid : Nat → ClassId) (a2 : Nat → Nat) (lx : List Nat) (sg : Nat → Int32) (gm : Nat → Nat → Int32) (lg : Nat → Nat → Int64) (x : Int32) (o : Int32) (hI : CI sg gm) (hvx : iv 0 0 x) (hvo : iv 0 79 o) (hFA : FA sg gm) (how : o.toInt < (sg 4).toInt) (hVS : VS sg gm) : CMt dC dI ad cid a2 lx l yX9_beanHasWhatItNeeds wm_X9_beanHasWhatItNeeds ({ frames := 3, cells := 1, slots := 6, locals := 74 }) [eV (ad 3) x, eV (ad 9) o] sg gm lg (fun v u => ∃ r : Int32, v = some (.int r) ∧ u = (sg, gm, lg) ∧ (iv 0 1 r)) (fun _ _ => False) := by
  intro sz
  refine vx_ofW (cc := cX9_beanHasWhatItNeeds) (maxL := 2) (ret := (some .boolean)) (by decide) rfl ?_
  intro p e s m args below meth c s₁ B hml hxt hv
  obtain ⟨rfl, hsz, hP, hK, hD0, hG⟩ := hv
  have hx := B.exec
  have hb := B.bytes
  have hr := B.returns
  have hts := atoms_spec (ws := wm_X9_beanHasWhatItNeeds) B.pre
  have htb := fun (w : Cond) (h : w ∈ tb) => hts w (List.mem_cons_of_mem _ h)
  have hown : s.vm.findClass RX9 = some m.cls := findClass_of_methodNamed B.named
  have hlocks := B.notSynchronized
  subst hsz
  have hD := hD0.self (sz := s.heap.size)
  generalize hAe : va_A (cW ad cid a2 lx sg gm lg) s.heap.size = A at hD hG ⊢
  have hA : ∀ q : Nat, s.heap.size ≤ q → A q := fun q h => by rw [← hAe]; exact Or.inr h
  have hS : va_S A s.heap s.heap [] := va_S.rf
  have hl := lv_entry ([eV (ad 3) x, eV (ad 9) o]) (n := 2) (by rw [show (lg_sl ([eV (ad 3) x, eV (ad 9) o])).length = 2 from by simp [lg_sl, eV_cat, cat_i, cat_l]]; exact Nat.le_of_ble_eq_true rfl)
  rw [lg_entry_eq]
  generalize (lg_sl ([eV (ad 3) x, eV (ad 9) o]) ++ List.replicate (2 - (lg_sl ([eV (ad 3) x, eV (ad 9) o])).length) Slot.unset).toArray = ls at hl ⊢
  have hl : lv_has ls 2 [(0, eV (ad 3) x), (1, eV (ad 9) o)] := by simp [lv_args, eV_cat, cat_i, cat_l] at hl; exact hl
  have hj120 : ∀ (y0_120 : Int32) (_ : iv 0 0 x) (_ : iv 0 79 o) (_ : iv 0 1 y0_120) (H : Heap) (locs : List Loc) (ls : Array Slot), va_P (dC, dI) vwCl (cW ad cid a2 lx sg gm lg) H → va_D A (cW ad cid a2 lx sg gm lg) → va_S A s.heap H locs → lv_has ls 2 [(0, eV (ad 3) x), (1, eV (ad 9) o)] → W p l e (headSpec wm_X9_beanHasWhatItNeeds ({ frames := 3, cells := 1, slots := 6, locals := 74 })).room s m ([eV (ad 3) x, eV (ad 9) o] : List Value).toArray below meth c H locs 0 0 (vx_MQ below (cQx dC dI ad cid a2 lx (fun v u => ∃ r : Int32, v = some (.int r) ∧ u = (sg, gm, lg) ∧ (iv 0 1 r)) A) (cX dC dI ad cid a2 lx (fun _ _ => False) A) ([eV (ad 3) x, eV (ad 9) o] : List Value).toArray s 1 6 A) (F0 m 120 ls [.int y0_120]) := by
    intro y0_120 hsx0_120 hsx1_120 hy0_120 H locs ls hP hD hS hl
    exact W.nb (fun hN => W.widen (k := 1) (n := 6) (by decide) (by decide) (vx_ret (W.zret (v := y0_120) hx hb hr (iv_nb hy0_120) (fun t ht hW => ⟨⟨some (.int y0_120), (sg, gm, lg), rfl, ⟨y0_120, rfl, rfl, hy0_120⟩, by rw [ht]; exact hP, va_K.moved hW.alike hK, hD⟩, hS.F ht, by rw [ht]; exact hN⟩) hS.2.2 dX9_beanHasWhatItNeeds_120)))
  have hj115 : ∀ (_ : iv 0 0 x) (_ : iv 0 79 o) (H : Heap) (locs : List Loc) (ls : Array Slot), va_P (dC, dI) vwCl (cW ad cid a2 lx sg gm lg) H → va_D A (cW ad cid a2 lx sg gm lg) → va_S A s.heap H locs → lv_has ls 2 [(0, eV (ad 3) x), (1, eV (ad 9) o)] → W p l e (headSpec wm_X9_beanHasWhatItNeeds ({ frames := 3, cells := 1, slots := 6, locals := 74 })).room s m ([eV (ad 3) x, eV (ad 9) o] : List Value).toArray below meth c H locs 0 0 (vx_MQ below (cQx dC dI ad cid a2 lx (fun v u => ∃ r : Int32, v = some (.int r) ∧ u = (sg, gm, lg) ∧ (iv 0 1 r)) A) (cX dC dI ad cid a2 lx (fun _ _ => False) A) ([eV (ad 3) x, eV (ad 9) o] : List Value).toArray s 1 6 A) (F0 m 115 ls []) := by
    intro  hsx0_115 hsx1_115 H locs ls hP hD hS hl
    refine lv_iconst (v := 1) hx hb dX9_beanHasWhatItNeeds_115 (by decide) ?_
    refine lv_goto (tgt := 120) hx hb dX9_beanHasWhatItNeeds_116 (by decide) ?_
    exact hj120 1 hsx0_115 hsx1_115 (iv_w (iv_k (by decide) : iv 1 1 1) (by decide)) _ _ _ hP hD hS (lv_sub hl [0, 1] rfl)
  have hj56 : ∀ (_ : iv 0 0 x) (_ : iv 0 79 o) (H : Heap) (locs : List Loc) (ls : Array Slot), va_P (dC, dI) vwCl (cW ad cid a2 lx sg gm lg) H → va_D A (cW ad cid a2 lx sg gm lg) → va_S A s.heap H locs → lv_has ls 2 [(0, eV (ad 3) x), (1, eV (ad 9) o)] → W p l e (headSpec wm_X9_beanHasWhatItNeeds ({ frames := 3, cells := 1, slots := 6, locals := 74 })).room s m ([eV (ad 3) x, eV (ad 9) o] : List Value).toArray below meth c H locs 0 0 (vx_MQ below (cQx dC dI ad cid a2 lx (fun v u => ∃ r : Int32, v = some (.int r) ∧ u = (sg, gm, lg) ∧ (iv 0 1 r)) A) (cX dC dI ad cid a2 lx (fun _ _ => False) A) ([eV (ad 3) x, eV (ad 9) o] : List Value).toArray s 1 6 A) (F0 m 56 ls []) := by
    intro  hsx0_56 hsx1_56 H locs ls hP hD hS hl
    refine ec_aload_n hx hb dX9_beanHasWhatItNeeds_56 rfl (lv_at hl 0 rfl) ?_
    refine cr_get (t := 3) (j := 0) (C := RX9) (T := TX9) (N := 1) (v := eV (ad 1) 0) hx hb htb inX9 hown hK hP hsx0_56 (by decide) (by decide) (by decide) rfl (by decide) (htb _ kw_82) (cV_c rfl (by decide) (by rw [show cMu 3 0 = 0 from rfl, Nat.zero_mul]; rfl)) dX9_beanHasWhatItNeeds_57 ?_
    refine ec_aload_n hx hb dX9_beanHasWhatItNeeds_60 rfl (lv_at hl 1 rfl) ?_
    refine cw_word (k := 13) (kx := 13) hx hb hG hS (by decide) rfl ⟨by decide, by decide⟩ hown (htb _ kw_614) dX9_beanHasWhatItNeeds_61 ?_
    refine cw_word (k := 25) (kx := 25) hx hb hG hS (by decide) rfl ⟨by decide, by decide⟩ hown (htb _ kw_578) dX9_beanHasWhatItNeeds_64 ?_
    refine cm_callV (t := 1) (C := RX6) (T := TX6) (N := 8) (rest := []) (as := [eV (ad 9) o, eV (ad 33) 13, eV (ad 33) 25]) ⟨hx, hb, hml, hown, htb⟩ (d_valueIs l dC dI ad cid a2 lx sg gm lg 0 o 13 25 hI (iv_k (by decide) : iv 0 0 0) hsx1_56 (iv_w (iv_k (by decide) : iv 13 13 13) (by decide)) (iv_w (iv_k (by decide) : iv 25 25 25) (by decide)) hFA how hVS) (cwV 3 htb (gd_V kw_588 kw_589 kw_590 kw_20 kw_1477) rfl rfl rfl (by decide +kernel) ⟨Nat.le_of_ble_eq_true rfl, Nat.le_of_ble_eq_true rfl⟩) (iv_k (by decide) : iv 0 0 0) (by decide) (by decide) rfl rfl hl.1 rfl (Nat.le_trans cs_n (by decide)) dX9_beanHasWhatItNeeds_67 ⟨Nat.le_of_ble_eq_true rfl, Nat.le_of_ble_eq_true rfl⟩ hK hP hD hS hA hG (fun E ce q9 u_2 H locs hw hP hD hS hce hcv hcl => ?_) (fun v9 u_2 H locs hw hP hD hS => ?_)
    · exact hw.elim
    obtain ⟨r_1, rfl, rfl, hr_1⟩ := hw
    have hP : va_P (dC, dI) vwCl (cW ad cid a2 lx sg gm lg) H := hP
    have hD : va_D A (cW ad cid a2 lx sg gm lg) := hD
    refine W.eq (g2 := F0 m 70 ls [.int r_1]) rfl ?_
    refine lv_if_ne (tgt := 115) hx hb dX9_beanHasWhatItNeeds_70 (by decide) (fun c_4 => ?_) (fun c_4 => ?_)
    · have h_5 : iv 1 1 r_1 := iv_neL c_4 hr_1 (by decide)
      exact hj115 hsx0_56 hsx1_56 _ _ _ hP hD hS (lv_sub hl [0, 1] rfl)
    · have h_6 : iv 0 0 r_1 := iv_eq c_4 hr_1 (iv_k (by decide) : iv 0 0 0) (by decide)
      refine ec_aload_n hx hb dX9_beanHasWhatItNeeds_73 rfl (lv_at hl 0 rfl) ?_
      refine cr_get (t := 3) (j := 0) (C := RX9) (T := TX9) (N := 1) (v := eV (ad 1) 0) hx hb htb inX9 hown hK hP hsx0_56 (by decide) (by decide) (by decide) rfl (by decide) (htb _ kw_82) (cV_c rfl (by decide) (by rw [show cMu 3 0 = 0 from rfl, Nat.zero_mul]; rfl)) dX9_beanHasWhatItNeeds_74 ?_
      refine ec_aload_n hx hb dX9_beanHasWhatItNeeds_77 rfl (lv_at hl 1 rfl) ?_
      refine cw_word (k := 11) (kx := 11) hx hb hG hS (by decide) rfl ⟨by decide, by decide⟩ hown (htb _ kw_615) dX9_beanHasWhatItNeeds_78 ?_
      refine cm_callV (t := 1) (C := RX6) (T := TX6) (N := 8) (rest := []) (as := [eV (ad 9) o, eV (ad 33) 11]) ⟨hx, hb, hml, hown, htb⟩ (d_has l dC dI ad cid a2 lx sg gm lg 0 o 11 hI (iv_k (by decide) : iv 0 0 0) hsx1_56 (iv_w (iv_k (by decide) : iv 11 11 11) (by decide)) hFA how) (cwV 2 htb (gd_V kw_604 kw_605 kw_606 kw_20 kw_1481) rfl rfl rfl (by decide +kernel) ⟨Nat.le_of_ble_eq_true rfl, Nat.le_of_ble_eq_true rfl⟩) (iv_k (by decide) : iv 0 0 0) (by decide) (by decide) rfl rfl hl.1 rfl (Nat.le_trans cs_n (by decide)) dX9_beanHasWhatItNeeds_81 ⟨Nat.le_of_ble_eq_true rfl, Nat.le_of_ble_eq_true rfl⟩ hK hP hD hS hA hG (fun E ce q9 u_8 H locs hw hP hD hS hce hcv hcl => ?_) (fun v9 u_8 H locs hw hP hD hS => ?_)
      · exact hw.elim
      obtain ⟨r_7, rfl, rfl, hr_7, fH_r_7⟩ := hw
      have hP : va_P (dC, dI) vwCl (cW ad cid a2 lx sg gm lg) H := hP
      have hD : va_D A (cW ad cid a2 lx sg gm lg) := hD
      refine W.eq (g2 := F0 m 84 ls [.int r_7]) rfl ?_
      refine lv_if_ne (tgt := 115) hx hb dX9_beanHasWhatItNeeds_84 (by decide) (fun c_10 => ?_) (fun c_10 => ?_)
      · have h_11 : iv 1 1 r_7 := iv_neL c_10 hr_7 (by decide)
        exact hj115 hsx0_56 hsx1_56 _ _ _ hP hD hS (lv_sub hl [0, 1] rfl)
      · have h_12 : iv 0 0 r_7 := iv_eq c_10 hr_7 (iv_k (by decide) : iv 0 0 0) (by decide)
        refine ec_aload_n hx hb dX9_beanHasWhatItNeeds_87 rfl (lv_at hl 0 rfl) ?_
        refine cr_get (t := 3) (j := 0) (C := RX9) (T := TX9) (N := 1) (v := eV (ad 1) 0) hx hb htb inX9 hown hK hP hsx0_56 (by decide) (by decide) (by decide) rfl (by decide) (htb _ kw_82) (cV_c rfl (by decide) (by rw [show cMu 3 0 = 0 from rfl, Nat.zero_mul]; rfl)) dX9_beanHasWhatItNeeds_88 ?_
        refine ec_aload_n hx hb dX9_beanHasWhatItNeeds_91 rfl (lv_at hl 1 rfl) ?_
        refine cw_word (k := 12) (kx := 12) hx hb hG hS (by decide) rfl ⟨by decide, by decide⟩ hown (htb _ kw_616) dX9_beanHasWhatItNeeds_92 ?_
        refine cm_callV (t := 1) (C := RX6) (T := TX6) (N := 8) (rest := []) (as := [eV (ad 9) o, eV (ad 33) 12]) ⟨hx, hb, hml, hown, htb⟩ (d_has l dC dI ad cid a2 lx sg gm lg 0 o 12 hI (iv_k (by decide) : iv 0 0 0) hsx1_56 (iv_w (iv_k (by decide) : iv 12 12 12) (by decide)) hFA how) (cwV 2 htb (gd_V kw_604 kw_605 kw_606 kw_20 kw_1481) rfl rfl rfl (by decide +kernel) ⟨Nat.le_of_ble_eq_true rfl, Nat.le_of_ble_eq_true rfl⟩) (iv_k (by decide) : iv 0 0 0) (by decide) (by decide) rfl rfl hl.1 rfl (Nat.le_trans cs_n (by decide)) dX9_beanHasWhatItNeeds_95 ⟨Nat.le_of_ble_eq_true rfl, Nat.le_of_ble_eq_true rfl⟩ hK hP hD hS hA hG (fun E ce q9 u_14 H locs hw hP hD hS hce hcv hcl => ?_) (fun v9 u_14 H locs hw hP hD hS => ?_)
        · exact hw.elim
        obtain ⟨r_13, rfl, rfl, hr_13, fH_r_13⟩ := hw
        have hP : va_P (dC, dI) vwCl (cW ad cid a2 lx sg gm lg) H := hP
        have hD : va_D A (cW ad cid a2 lx sg gm lg) := hD
        refine W.eq (g2 := F0 m 98 ls [.int r_13]) rfl ?_
        refine lv_if_ne (tgt := 115) hx hb dX9_beanHasWhatItNeeds_98 (by decide) (fun c_16 => ?_) (fun c_16 => ?_)
        · have h_17 : iv 1 1 r_13 := iv_neL c_16 hr_13 (by decide)
          exact hj115 hsx0_56 hsx1_56 _ _ _ hP hD hS (lv_sub hl [0, 1] rfl)
        · have h_18 : iv 0 0 r_13 := iv_eq c_16 hr_13 (iv_k (by decide) : iv 0 0 0) (by decide)
          refine ec_aload_n hx hb dX9_beanHasWhatItNeeds_101 rfl (lv_at hl 0 rfl) ?_
          refine cr_get (t := 3) (j := 0) (C := RX9) (T := TX9) (N := 1) (v := eV (ad 1) 0) hx hb htb inX9 hown hK hP hsx0_56 (by decide) (by decide) (by decide) rfl (by decide) (htb _ kw_82) (cV_c rfl (by decide) (by rw [show cMu 3 0 = 0 from rfl, Nat.zero_mul]; rfl)) dX9_beanHasWhatItNeeds_102 ?_
          refine ec_aload_n hx hb dX9_beanHasWhatItNeeds_105 rfl (lv_at hl 1 rfl) ?_
          refine cw_word (k := 16) (kx := 16) hx hb hG hS (by decide) rfl ⟨by decide, by decide⟩ hown (htb _ kw_612) dX9_beanHasWhatItNeeds_106 ?_
          refine cm_callV (t := 1) (C := RX6) (T := TX6) (N := 8) (rest := []) (as := [eV (ad 9) o, eV (ad 33) 16]) ⟨hx, hb, hml, hown, htb⟩ (d_has l dC dI ad cid a2 lx sg gm lg 0 o 16 hI (iv_k (by decide) : iv 0 0 0) hsx1_56 (iv_w (iv_k (by decide) : iv 16 16 16) (by decide)) hFA how) (cwV 2 htb (gd_V kw_604 kw_605 kw_606 kw_20 kw_1481) rfl rfl rfl (by decide +kernel) ⟨Nat.le_of_ble_eq_true rfl, Nat.le_of_ble_eq_true rfl⟩) (iv_k (by decide) : iv 0 0 0) (by decide) (by decide) rfl rfl hl.1 rfl (Nat.le_trans cs_n (by decide)) dX9_beanHasWhatItNeeds_109 ⟨Nat.le_of_ble_eq_true rfl, Nat.le_of_ble_eq_true rfl⟩ hK hP hD hS hA hG (fun E ce q9 u_20 H locs hw hP hD hS hce hcv hcl => ?_) (fun v9 u_20 H locs hw hP hD hS => ?_)
          · exact hw.elim
          obtain ⟨r_19, rfl, rfl, hr_19, fH_r_19⟩ := hw
          have hP : va_P (dC, dI) vwCl (cW ad cid a2 lx sg gm lg) H := hP
          have hD : va_D A (cW ad cid a2 lx sg gm lg) := hD
          refine W.eq (g2 := F0 m 112 ls [.int r_19]) rfl ?_
          refine lv_if_eq (tgt := 119) hx hb dX9_beanHasWhatItNeeds_112 (by decide) (fun c_22 => ?_) (fun c_22 => ?_)
          · have h_23 : iv 0 0 r_19 := iv_eq c_22 hr_19 (iv_k (by decide) : iv 0 0 0) (by decide)
            refine lv_iconst (v := 0) hx hb dX9_beanHasWhatItNeeds_119 (by decide) ?_
            exact hj120 0 hsx0_56 hsx1_56 (iv_w (iv_k (by decide) : iv 0 0 0) (by decide)) _ _ _ hP hD hS (lv_sub hl [0, 1] rfl)
          · have h_24 : iv 1 1 r_19 := iv_neL c_22 hr_19 (by decide)
            exact hj115 hsx0_56 hsx1_56 _ _ _ hP hD hS (lv_sub hl [0, 1] rfl)
  have hj26 : ∀ (_ : iv 0 0 x) (_ : iv 0 79 o) (H : Heap) (locs : List Loc) (ls : Array Slot), va_P (dC, dI) vwCl (cW ad cid a2 lx sg gm lg) H → va_D A (cW ad cid a2 lx sg gm lg) → va_S A s.heap H locs → lv_has ls 2 [(0, eV (ad 3) x), (1, eV (ad 9) o)] → W p l e (headSpec wm_X9_beanHasWhatItNeeds ({ frames := 3, cells := 1, slots := 6, locals := 74 })).room s m ([eV (ad 3) x, eV (ad 9) o] : List Value).toArray below meth c H locs 0 0 (vx_MQ below (cQx dC dI ad cid a2 lx (fun v u => ∃ r : Int32, v = some (.int r) ∧ u = (sg, gm, lg) ∧ (iv 0 1 r)) A) (cX dC dI ad cid a2 lx (fun _ _ => False) A) ([eV (ad 3) x, eV (ad 9) o] : List Value).toArray s 1 6 A) (F0 m 26 ls []) := by
    intro  hsx0_26 hsx1_26 H locs ls hP hD hS hl
    refine ec_aload_n hx hb dX9_beanHasWhatItNeeds_26 rfl (lv_at hl 0 rfl) ?_
    refine cr_get (t := 3) (j := 0) (C := RX9) (T := TX9) (N := 1) (v := eV (ad 1) 0) hx hb htb inX9 hown hK hP hsx0_26 (by decide) (by decide) (by decide) rfl (by decide) (htb _ kw_82) (cV_c rfl (by decide) (by rw [show cMu 3 0 = 0 from rfl, Nat.zero_mul]; rfl)) dX9_beanHasWhatItNeeds_27 ?_
    refine ec_aload_n hx hb dX9_beanHasWhatItNeeds_30 rfl (lv_at hl 1 rfl) ?_
    refine cw_word (k := 16) (kx := 16) hx hb hG hS (by decide) rfl ⟨by decide, by decide⟩ hown (htb _ kw_612) dX9_beanHasWhatItNeeds_31 ?_
    refine cm_callV (t := 1) (C := RX6) (T := TX6) (N := 8) (rest := []) (as := [eV (ad 9) o, eV (ad 33) 16]) ⟨hx, hb, hml, hown, htb⟩ (d_has l dC dI ad cid a2 lx sg gm lg 0 o 16 hI (iv_k (by decide) : iv 0 0 0) hsx1_26 (iv_w (iv_k (by decide) : iv 16 16 16) (by decide)) hFA how) (cwV 2 htb (gd_V kw_604 kw_605 kw_606 kw_20 kw_1481) rfl rfl rfl (by decide +kernel) ⟨Nat.le_of_ble_eq_true rfl, Nat.le_of_ble_eq_true rfl⟩) (iv_k (by decide) : iv 0 0 0) (by decide) (by decide) rfl rfl hl.1 rfl (Nat.le_trans cs_n (by decide)) dX9_beanHasWhatItNeeds_34 ⟨Nat.le_of_ble_eq_true rfl, Nat.le_of_ble_eq_true rfl⟩ hK hP hD hS hA hG (fun E ce q9 u_26 H locs hw hP hD hS hce hcv hcl => ?_) (fun v9 u_26 H locs hw hP hD hS => ?_)
    · exact hw.elim
    obtain ⟨r_25, rfl, rfl, hr_25, fH_r_25⟩ := hw
    have hP : va_P (dC, dI) vwCl (cW ad cid a2 lx sg gm lg) H := hP
    have hD : va_D A (cW ad cid a2 lx sg gm lg) := hD
    refine W.eq (g2 := F0 m 37 ls [.int r_25]) rfl ?_
    refine lv_if_eq (tgt := 56) hx hb dX9_beanHasWhatItNeeds_37 (by decide) (fun c_28 => ?_) (fun c_28 => ?_)
    · have h_29 : iv 0 0 r_25 := iv_eq c_28 hr_25 (iv_k (by decide) : iv 0 0 0) (by decide)
      exact hj56 hsx0_26 hsx1_26 _ _ _ hP hD hS (lv_sub hl [0, 1] rfl)
    · have h_30 : iv 1 1 r_25 := iv_neL c_28 hr_25 (by decide)
      refine ec_aload_n hx hb dX9_beanHasWhatItNeeds_40 rfl (lv_at hl 0 rfl) ?_
      refine cr_get (t := 3) (j := 0) (C := RX9) (T := TX9) (N := 1) (v := eV (ad 1) 0) hx hb htb inX9 hown hK hP hsx0_26 (by decide) (by decide) (by decide) rfl (by decide) (htb _ kw_82) (cV_c rfl (by decide) (by rw [show cMu 3 0 = 0 from rfl, Nat.zero_mul]; rfl)) dX9_beanHasWhatItNeeds_41 ?_
      refine ec_aload_n hx hb dX9_beanHasWhatItNeeds_44 rfl (lv_at hl 1 rfl) ?_
      refine cw_word (k := 17) (kx := 17) hx hb hG hS (by decide) rfl ⟨by decide, by decide⟩ hown (htb _ kw_613) dX9_beanHasWhatItNeeds_45 ?_
      refine cm_callV (t := 1) (C := RX6) (T := TX6) (N := 8) (rest := []) (as := [eV (ad 9) o, eV (ad 33) 17]) ⟨hx, hb, hml, hown, htb⟩ (d_has l dC dI ad cid a2 lx sg gm lg 0 o 17 hI (iv_k (by decide) : iv 0 0 0) hsx1_26 (iv_w (iv_k (by decide) : iv 17 17 17) (by decide)) hFA how) (cwV 2 htb (gd_V kw_604 kw_605 kw_606 kw_20 kw_1481) rfl rfl rfl (by decide +kernel) ⟨Nat.le_of_ble_eq_true rfl, Nat.le_of_ble_eq_true rfl⟩) (iv_k (by decide) : iv 0 0 0) (by decide) (by decide) rfl rfl hl.1 rfl (Nat.le_trans cs_n (by decide)) dX9_beanHasWhatItNeeds_48 ⟨Nat.le_of_ble_eq_true rfl, Nat.le_of_ble_eq_true rfl⟩ hK hP hD hS hA hG (fun E ce q9 u_32 H locs hw hP hD hS hce hcv hcl => ?_) (fun v9 u_32 H locs hw hP hD hS => ?_)
      · exact hw.elim
      obtain ⟨r_31, rfl, rfl, hr_31, fH_r_31⟩ := hw
      have hP : va_P (dC, dI) vwCl (cW ad cid a2 lx sg gm lg) H := hP
      have hD : va_D A (cW ad cid a2 lx sg gm lg) := hD
      refine W.eq (g2 := F0 m 51 ls [.int r_31]) rfl ?_
      refine lv_if_ne (tgt := 56) hx hb dX9_beanHasWhatItNeeds_51 (by decide) (fun c_34 => ?_) (fun c_34 => ?_)
      · have h_35 : iv 1 1 r_31 := iv_neL c_34 hr_31 (by decide)
        exact hj56 hsx0_26 hsx1_26 _ _ _ hP hD hS (lv_sub hl [0, 1] rfl)
      · have h_36 : iv 0 0 r_31 := iv_eq c_34 hr_31 (iv_k (by decide) : iv 0 0 0) (by decide)
        refine lv_iconst (v := 0) hx hb dX9_beanHasWhatItNeeds_54 (by decide) ?_
        exact W.nb (fun hN => W.widen (k := 1) (n := 6) (by decide) (by decide) (vx_ret (W.zret (v := 0) hx hb hr (iv_nb (iv_w (iv_k (by decide) : iv 0 0 0) (by decide))) (fun t ht hW => ⟨⟨some (.int 0), (sg, gm, lg), rfl, ⟨0, rfl, rfl, (iv_w (iv_k (by decide) : iv 0 0 0) (by decide))⟩, by rw [ht]; exact hP, va_K.moved hW.alike hK, hD⟩, hS.F ht, by rw [ht]; exact hN⟩) hS.2.2 dX9_beanHasWhatItNeeds_55)))
  refine ec_aload_n hx hb dX9_beanHasWhatItNeeds_0 rfl (lv_at hl 1 rfl) ?_
  refine cw_word (k := 0) (kx := 0) hx hb hG hS (by decide) rfl ⟨by decide, by decide⟩ hown (htb _ kw_516) dX9_beanHasWhatItNeeds_1 ?_
  refine cm_callV (t := 9) (C := RX3) (T := TX3) (N := 21) (rest := []) (as := [eV (ad 33) 0]) ⟨hx, hb, hml, hown, htb⟩ (d_isIn l dC dI ad cid a2 lx sg gm lg o 0 hI hvo (iv_w (iv_k (by decide) : iv 0 0 0) (by decide))) (cwV 1 htb (gd_V kw_526 kw_527 kw_528 kw_66 kw_1462) rfl rfl rfl (by decide +kernel) ⟨Nat.le_of_ble_eq_true rfl, Nat.le_of_ble_eq_true rfl⟩) hvo (by decide) (by decide) rfl rfl hl.1 rfl (Nat.le_trans cs_n (by decide)) dX9_beanHasWhatItNeeds_4 ⟨Nat.le_of_ble_eq_true rfl, Nat.le_of_ble_eq_true rfl⟩ hK hP hD hS hA hG (fun E ce q9 u_38 H locs hw hP hD hS hce hcv hcl => ?_) (fun v9 u_38 H locs hw hP hD hS => ?_)
  · exact hw.elim
  obtain ⟨r_37, rfl, rfl, hr_37, fI_r_37⟩ := hw
  have hP : va_P (dC, dI) vwCl (cW ad cid a2 lx sg gm lg) H := hP
  have hD : va_D A (cW ad cid a2 lx sg gm lg) := hD
  refine W.eq (g2 := F0 m 7 ls [.int r_37]) rfl ?_
  refine lv_if_eq (tgt := 26) hx hb dX9_beanHasWhatItNeeds_7 (by decide) (fun c_40 => ?_) (fun c_40 => ?_)
  · have h_41 : iv 0 0 r_37 := iv_eq c_40 hr_37 (iv_k (by decide) : iv 0 0 0) (by decide)
    exact hj26 hvx hvo _ _ _ hP hD hS (lv_sub hl [0, 1] rfl)
  · have h_42 : iv 1 1 r_37 := iv_neL c_40 hr_37 (by decide)
    refine ec_aload_n hx hb dX9_beanHasWhatItNeeds_10 rfl (lv_at hl 0 rfl) ?_
    refine cr_get (t := 3) (j := 0) (C := RX9) (T := TX9) (N := 1) (v := eV (ad 1) 0) hx hb htb inX9 hown hK hP hvx (by decide) (by decide) (by decide) rfl (by decide) (htb _ kw_82) (cV_c rfl (by decide) (by rw [show cMu 3 0 = 0 from rfl, Nat.zero_mul]; rfl)) dX9_beanHasWhatItNeeds_11 ?_
    refine ec_aload_n hx hb dX9_beanHasWhatItNeeds_14 rfl (lv_at hl 1 rfl) ?_
    refine cw_word (k := 10) (kx := 10) hx hb hG hS (by decide) rfl ⟨by decide, by decide⟩ hown (htb _ kw_611) dX9_beanHasWhatItNeeds_15 ?_
    refine cm_callV (t := 1) (C := RX6) (T := TX6) (N := 8) (rest := []) (as := [eV (ad 9) o, eV (ad 33) 10]) ⟨hx, hb, hml, hown, htb⟩ (d_has l dC dI ad cid a2 lx sg gm lg 0 o 10 hI (iv_k (by decide) : iv 0 0 0) hvo (iv_w (iv_k (by decide) : iv 10 10 10) (by decide)) hFA how) (cwV 2 htb (gd_V kw_604 kw_605 kw_606 kw_20 kw_1481) rfl rfl rfl (by decide +kernel) ⟨Nat.le_of_ble_eq_true rfl, Nat.le_of_ble_eq_true rfl⟩) (iv_k (by decide) : iv 0 0 0) (by decide) (by decide) rfl rfl hl.1 rfl (Nat.le_trans cs_n (by decide)) dX9_beanHasWhatItNeeds_18 ⟨Nat.le_of_ble_eq_true rfl, Nat.le_of_ble_eq_true rfl⟩ hK hP hD hS hA hG (fun E ce q9 u_44 H locs hw hP hD hS hce hcv hcl => ?_) (fun v9 u_44 H locs hw hP hD hS => ?_)
    · exact hw.elim
    obtain ⟨r_43, rfl, rfl, hr_43, fH_r_43⟩ := hw
    have hP : va_P (dC, dI) vwCl (cW ad cid a2 lx sg gm lg) H := hP
    have hD : va_D A (cW ad cid a2 lx sg gm lg) := hD
    refine W.eq (g2 := F0 m 21 ls [.int r_43]) rfl ?_
    refine lv_if_ne (tgt := 26) hx hb dX9_beanHasWhatItNeeds_21 (by decide) (fun c_46 => ?_) (fun c_46 => ?_)
    · have h_47 : iv 1 1 r_43 := iv_neL c_46 hr_43 (by decide)
      exact hj26 hvx hvo _ _ _ hP hD hS (lv_sub hl [0, 1] rfl)
    · have h_48 : iv 0 0 r_43 := iv_eq c_46 hr_43 (iv_k (by decide) : iv 0 0 0) (by decide)
      refine lv_iconst (v := 0) hx hb dX9_beanHasWhatItNeeds_24 (by decide) ?_
      exact W.nb (fun hN => W.widen (k := 1) (n := 6) (by decide) (by decide) (vx_ret (W.zret (v := 0) hx hb hr (iv_nb (iv_w (iv_k (by decide) : iv 0 0 0) (by decide))) (fun t ht hW => ⟨⟨some (.int 0), (sg, gm, lg), rfl, ⟨0, rfl, rfl, (iv_w (iv_k (by decide) : iv 0 0 0) (by decide))⟩, by rw [ht]; exact hP, va_K.moved hW.alike hK, hD⟩, hS.F ht, by rw [ht]; exact hN⟩) hS.2.2 dX9_beanHasWhatItNeeds_25)))

set_option maxHeartbeats 4000000 in
set_option maxRecDepth 100000 in
theorem d_hasWhatItNeeds (l : Launch) (dC : Nat → ClassId) (dI : Nat → Nat → Nat) (ad : Nat → Nat → Nat) (cid : Nat → ClassId) (a2 : Nat → Nat) (lx : List Nat) (sg : Nat → Int32) (gm : Nat → Nat → Int32) (lg : Nat → Nat → Int64) (x : Int32) (o : Int32) (hI : CI sg gm) (hvx : iv 0 0 x) (hvo : iv 0 79 o) (hFA : FA sg gm) (how : o.toInt < (sg 4).toInt) (hVS : VS sg gm) (hw0 : 0 ≤ (gm 14 o.toNatClampNeg).toInt) : CMt dC dI ad cid a2 lx l yX9_hasWhatItNeeds wm_X9_hasWhatItNeeds ({ frames := 4, cells := 1, slots := 6, locals := 95 }) [eV (ad 3) x, eV (ad 9) o] sg gm lg (fun v u => ∃ r : Int32, v = some (.int r) ∧ u = (sg, gm, lg) ∧ (iv 0 1 r) ∧ (r.toInt = 0 ∨ ¬ (gm 14 o.toNatClampNeg).toInt = 4 ∨ HSK gm lg o.toNatClampNeg (wKy.getD 21 0))) (fun _ _ => False) := by
  intro sz
  refine vx_ofW (cc := cX9_hasWhatItNeeds) (maxL := 2) (ret := (some .boolean)) (by decide) rfl ?_
  intro p e s m args below meth c s₁ B hml hxt hv
  obtain ⟨rfl, hsz, hP, hK, hD0, hG⟩ := hv
  have hx := B.exec
  have hb := B.bytes
  have hr := B.returns
  have hts := atoms_spec (ws := wm_X9_hasWhatItNeeds) B.pre
  have htb := fun (w : Cond) (h : w ∈ tb) => hts w (List.mem_cons_of_mem _ h)
  have hown : s.vm.findClass RX9 = some m.cls := findClass_of_methodNamed B.named
  have hlocks := B.notSynchronized
  subst hsz
  have hD := hD0.self (sz := s.heap.size)
  generalize hAe : va_A (cW ad cid a2 lx sg gm lg) s.heap.size = A at hD hG ⊢
  have hA : ∀ q : Nat, s.heap.size ≤ q → A q := fun q h => by rw [← hAe]; exact Or.inr h
  have hS : va_S A s.heap s.heap [] := va_S.rf
  have hl := lv_entry ([eV (ad 3) x, eV (ad 9) o]) (n := 2) (by rw [show (lg_sl ([eV (ad 3) x, eV (ad 9) o])).length = 2 from by simp [lg_sl, eV_cat, cat_i, cat_l]]; exact Nat.le_of_ble_eq_true rfl)
  rw [lg_entry_eq]
  generalize (lg_sl ([eV (ad 3) x, eV (ad 9) o]) ++ List.replicate (2 - (lg_sl ([eV (ad 3) x, eV (ad 9) o])).length) Slot.unset).toArray = ls at hl ⊢
  have hl : lv_has ls 2 [(0, eV (ad 3) x), (1, eV (ad 9) o)] := by simp [lv_args, eV_cat, cat_i, cat_l] at hl; exact hl
  have hj89 : ∀ (y0_89 : Int32) (_ : iv 0 0 x) (_ : iv 0 79 o) (_ : iv 0 1 y0_89) (_ : ¬ (gm 14 o.toNatClampNeg).toInt = 4) (H : Heap) (locs : List Loc) (ls : Array Slot), va_P (dC, dI) vwCl (cW ad cid a2 lx sg gm lg) H → va_D A (cW ad cid a2 lx sg gm lg) → va_S A s.heap H locs → lv_has ls 2 [(0, eV (ad 3) x), (1, eV (ad 9) o)] → W p l e (headSpec wm_X9_hasWhatItNeeds ({ frames := 4, cells := 1, slots := 6, locals := 95 })).room s m ([eV (ad 3) x, eV (ad 9) o] : List Value).toArray below meth c H locs 0 0 (vx_MQ below (cQx dC dI ad cid a2 lx (fun v u => ∃ r : Int32, v = some (.int r) ∧ u = (sg, gm, lg) ∧ (iv 0 1 r) ∧ (r.toInt = 0 ∨ ¬ (gm 14 o.toNatClampNeg).toInt = 4 ∨ HSK gm lg o.toNatClampNeg (wKy.getD 21 0))) A) (cX dC dI ad cid a2 lx (fun _ _ => False) A) ([eV (ad 3) x, eV (ad 9) o] : List Value).toArray s 1 6 A) (F0 m 89 ls [.int y0_89]) := by
    intro y0_89 hsx0_89 hsx1_89 hy0_89 h4 H locs ls hP hD hS hl
    exact W.nb (fun hN => W.widen (k := 1) (n := 6) (by decide) (by decide) (vx_ret (W.zret (v := y0_89) hx hb hr (iv_nb hy0_89) (fun t ht hW => ⟨⟨some (.int y0_89), (sg, gm, lg), rfl, ⟨y0_89, rfl, rfl, hy0_89, (Or.inr (Or.inl (h4)))⟩, by rw [ht]; exact hP, va_K.moved hW.alike hK, hD⟩, hS.F ht, by rw [ht]; exact hN⟩) hS.2.2 dX9_hasWhatItNeeds_89)))
  have hj88 : ∀ (_ : iv 0 0 x) (_ : iv 0 79 o) (_ : ¬ (gm 14 o.toNatClampNeg).toInt = 4) (H : Heap) (locs : List Loc) (ls : Array Slot), va_P (dC, dI) vwCl (cW ad cid a2 lx sg gm lg) H → va_D A (cW ad cid a2 lx sg gm lg) → va_S A s.heap H locs → lv_has ls 2 [(0, eV (ad 3) x), (1, eV (ad 9) o)] → W p l e (headSpec wm_X9_hasWhatItNeeds ({ frames := 4, cells := 1, slots := 6, locals := 95 })).room s m ([eV (ad 3) x, eV (ad 9) o] : List Value).toArray below meth c H locs 0 0 (vx_MQ below (cQx dC dI ad cid a2 lx (fun v u => ∃ r : Int32, v = some (.int r) ∧ u = (sg, gm, lg) ∧ (iv 0 1 r) ∧ (r.toInt = 0 ∨ ¬ (gm 14 o.toNatClampNeg).toInt = 4 ∨ HSK gm lg o.toNatClampNeg (wKy.getD 21 0))) A) (cX dC dI ad cid a2 lx (fun _ _ => False) A) ([eV (ad 3) x, eV (ad 9) o] : List Value).toArray s 1 6 A) (F0 m 88 ls []) := by
    intro  hsx0_88 hsx1_88 h4 H locs ls hP hD hS hl
    refine lv_iconst (v := 0) hx hb dX9_hasWhatItNeeds_88 (by decide) ?_
    exact hj89 0 hsx0_88 hsx1_88 (iv_w (iv_k (by decide) : iv 0 0 0) (by decide)) (h4) _ _ _ hP hD hS (lv_sub hl [0, 1] rfl)
  have hj154 : ∀ (_ : iv 0 0 x) (_ : iv 0 79 o) (_ : ¬ (gm 14 o.toNatClampNeg).toInt = 4) (H : Heap) (locs : List Loc) (ls : Array Slot), va_P (dC, dI) vwCl (cW ad cid a2 lx sg gm lg) H → va_D A (cW ad cid a2 lx sg gm lg) → va_S A s.heap H locs → lv_has ls 2 [(0, eV (ad 3) x), (1, eV (ad 9) o)] → W p l e (headSpec wm_X9_hasWhatItNeeds ({ frames := 4, cells := 1, slots := 6, locals := 95 })).room s m ([eV (ad 3) x, eV (ad 9) o] : List Value).toArray below meth c H locs 0 0 (vx_MQ below (cQx dC dI ad cid a2 lx (fun v u => ∃ r : Int32, v = some (.int r) ∧ u = (sg, gm, lg) ∧ (iv 0 1 r) ∧ (r.toInt = 0 ∨ ¬ (gm 14 o.toNatClampNeg).toInt = 4 ∨ HSK gm lg o.toNatClampNeg (wKy.getD 21 0))) A) (cX dC dI ad cid a2 lx (fun _ _ => False) A) ([eV (ad 3) x, eV (ad 9) o] : List Value).toArray s 1 6 A) (F0 m 154 ls []) := by
    intro  hsx0_154 hsx1_154 h4 H locs ls hP hD hS hl
    refine lv_iconst (v := 1) hx hb dX9_hasWhatItNeeds_154 (by decide) ?_
    exact W.nb (fun hN => W.widen (k := 1) (n := 6) (by decide) (by decide) (vx_ret (W.zret (v := 1) hx hb hr (iv_nb (iv_w (iv_k (by decide) : iv 1 1 1) (by decide))) (fun t ht hW => ⟨⟨some (.int 1), (sg, gm, lg), rfl, ⟨1, rfl, rfl, (iv_w (iv_k (by decide) : iv 1 1 1) (by decide)), (Or.inr (Or.inl (h4)))⟩, by rw [ht]; exact hP, va_K.moved hW.alike hK, hD⟩, hS.F ht, by rw [ht]; exact hN⟩) hS.2.2 dX9_hasWhatItNeeds_155)))
  have hj153 : ∀ (y0_153 : Int32) (_ : iv 0 0 x) (_ : iv 0 79 o) (_ : iv 0 1 y0_153) (_ : ¬ (gm 14 o.toNatClampNeg).toInt = 4) (H : Heap) (locs : List Loc) (ls : Array Slot), va_P (dC, dI) vwCl (cW ad cid a2 lx sg gm lg) H → va_D A (cW ad cid a2 lx sg gm lg) → va_S A s.heap H locs → lv_has ls 2 [(0, eV (ad 3) x), (1, eV (ad 9) o)] → W p l e (headSpec wm_X9_hasWhatItNeeds ({ frames := 4, cells := 1, slots := 6, locals := 95 })).room s m ([eV (ad 3) x, eV (ad 9) o] : List Value).toArray below meth c H locs 0 0 (vx_MQ below (cQx dC dI ad cid a2 lx (fun v u => ∃ r : Int32, v = some (.int r) ∧ u = (sg, gm, lg) ∧ (iv 0 1 r) ∧ (r.toInt = 0 ∨ ¬ (gm 14 o.toNatClampNeg).toInt = 4 ∨ HSK gm lg o.toNatClampNeg (wKy.getD 21 0))) A) (cX dC dI ad cid a2 lx (fun _ _ => False) A) ([eV (ad 3) x, eV (ad 9) o] : List Value).toArray s 1 6 A) (F0 m 153 ls [.int y0_153]) := by
    intro y0_153 hsx0_153 hsx1_153 hy0_153 h4 H locs ls hP hD hS hl
    exact W.nb (fun hN => W.widen (k := 1) (n := 6) (by decide) (by decide) (vx_ret (W.zret (v := y0_153) hx hb hr (iv_nb hy0_153) (fun t ht hW => ⟨⟨some (.int y0_153), (sg, gm, lg), rfl, ⟨y0_153, rfl, rfl, hy0_153, (Or.inr (Or.inl (h4)))⟩, by rw [ht]; exact hP, va_K.moved hW.alike hK, hD⟩, hS.F ht, by rw [ht]; exact hN⟩) hS.2.2 dX9_hasWhatItNeeds_153)))
  have hj152 : ∀ (_ : iv 0 0 x) (_ : iv 0 79 o) (_ : ¬ (gm 14 o.toNatClampNeg).toInt = 4) (H : Heap) (locs : List Loc) (ls : Array Slot), va_P (dC, dI) vwCl (cW ad cid a2 lx sg gm lg) H → va_D A (cW ad cid a2 lx sg gm lg) → va_S A s.heap H locs → lv_has ls 2 [(0, eV (ad 3) x), (1, eV (ad 9) o)] → W p l e (headSpec wm_X9_hasWhatItNeeds ({ frames := 4, cells := 1, slots := 6, locals := 95 })).room s m ([eV (ad 3) x, eV (ad 9) o] : List Value).toArray below meth c H locs 0 0 (vx_MQ below (cQx dC dI ad cid a2 lx (fun v u => ∃ r : Int32, v = some (.int r) ∧ u = (sg, gm, lg) ∧ (iv 0 1 r) ∧ (r.toInt = 0 ∨ ¬ (gm 14 o.toNatClampNeg).toInt = 4 ∨ HSK gm lg o.toNatClampNeg (wKy.getD 21 0))) A) (cX dC dI ad cid a2 lx (fun _ _ => False) A) ([eV (ad 3) x, eV (ad 9) o] : List Value).toArray s 1 6 A) (F0 m 152 ls []) := by
    intro  hsx0_152 hsx1_152 h4 H locs ls hP hD hS hl
    refine lv_iconst (v := 0) hx hb dX9_hasWhatItNeeds_152 (by decide) ?_
    exact hj153 0 hsx0_152 hsx1_152 (iv_w (iv_k (by decide) : iv 0 0 0) (by decide)) (h4) _ _ _ hP hD hS (lv_sub hl [0, 1] rfl)
  refine cw_sw hx hb hG hS hown (htb _ kw_514) dX9_hasWhatItNeeds_0 ?_
  refine ec_aload_n hx hb dX9_hasWhatItNeeds_3 rfl (lv_at hl 1 rfl) ?_
  refine cr_get (t := 9) (j := 4) (C := RX3) (T := TX3) (N := 21) (v := eV (ad 33) (gm 14 o.toNatClampNeg)) hx hb htb inX3 hown hK hP hvo (by decide) (by decide) (by decide) rfl (by decide) (htb _ kw_508) rfl dX9_hasWhatItNeeds_4 ?_
  obtain ⟨z_1, ez_1⟩ : ∃ z : Int32, z = (gm 14 o.toNatClampNeg) := ⟨_, rfl⟩
  refine W.eq (g2 := F0 m 7 ls [eV (ad 33) z_1, eV (ad 36) 0]) (by rw [ez_1]) ?_
  have hz_1 : iv (-1) 33 z_1 := iv_of ez_1 (CI_a hI 14 hvo (by decide))
  have h_2 : iv 0 33 z_1 := ⟨by rw [ez_1]; exact hw0, (hz_1).2⟩
  refine cw_ord ⟨hx, hb, hml, hown, htb⟩ kw_520 h_2 hl.1 (Nat.le_trans (cs_c (eV_cat _ _) cs_n) (by decide)) dX9_hasWhatItNeeds_7 ⟨Nat.le_of_ble_eq_true rfl, Nat.le_of_ble_eq_true rfl⟩ ⟨Nat.le_of_ble_eq_true rfl, Nat.le_of_ble_eq_true rfl⟩ hP hD hS hA hG (fun H locs hP hS => ?_)
  refine cw_swld (iv_k (by decide) : iv 0 0 0) hx hb hG hS h_2 dX9_hasWhatItNeeds_10 ?_
  refine lv_topi (fun z_3 ez_3 => ?_)
  have hz_3 : iv 0 29 z_3 := iv_of ez_3 (sw_iv z_1)
  by_cases c_4 : (z_3 : Int32).toInt = 7
  · refine lv_tableIn (tgt := 56) hx hb dX9_hasWhatItNeeds_11 (by rw [c_4]; decide) (by rw [c_4]; decide) (by rw [c_4]; rfl) (by decide) ?_
    have h_5 : iv 7 7 z_3 := iv_at c_4
    refine ec_aload_n hx hb dX9_hasWhatItNeeds_56 rfl (lv_at hl 0 rfl) ?_
    refine cr_get (t := 3) (j := 0) (C := RX9) (T := TX9) (N := 1) (v := eV (ad 1) 0) hx hb htb inX9 hown hK hP hvx (by decide) (by decide) (by decide) rfl (by decide) (htb _ kw_82) (cV_c rfl (by decide) (by rw [show cMu 3 0 = 0 from rfl, Nat.zero_mul]; rfl)) dX9_hasWhatItNeeds_57 ?_
    refine ec_aload_n hx hb dX9_hasWhatItNeeds_60 rfl (lv_at hl 1 rfl) ?_
    refine cw_word (k := 21) (kx := 21) hx hb hG hS (by decide) rfl ⟨by decide, by decide⟩ hown (htb _ kw_541) dX9_hasWhatItNeeds_61 ?_
    refine cm_callV (t := 1) (C := RX6) (T := TX6) (N := 8) (rest := []) (as := [eV (ad 9) o, eV (ad 33) 21]) ⟨hx, hb, hml, hown, htb⟩ (d_has l dC dI ad cid a2 lx sg gm lg 0 o 21 hI (iv_k (by decide) : iv 0 0 0) hvo (iv_w (iv_k (by decide) : iv 21 21 21) (by decide)) hFA how) (cwV 2 htb (gd_V kw_604 kw_605 kw_606 kw_20 kw_1481) rfl rfl rfl (by decide +kernel) ⟨Nat.le_of_ble_eq_true rfl, Nat.le_of_ble_eq_true rfl⟩) (iv_k (by decide) : iv 0 0 0) (by decide) (by decide) rfl rfl hl.1 rfl (Nat.le_trans cs_n (by decide)) dX9_hasWhatItNeeds_64 ⟨Nat.le_of_ble_eq_true rfl, Nat.le_of_ble_eq_true rfl⟩ hK hP hD hS hA hG (fun E ce q9 u_7 H locs hw hP hD hS hce hcv hcl => ?_) (fun v9 u_7 H locs hw hP hD hS => ?_)
    · exact hw.elim
    obtain ⟨r_6, rfl, rfl, hr_6, fH_r_6⟩ := hw
    have hP : va_P (dC, dI) vwCl (cW ad cid a2 lx sg gm lg) H := hP
    have hD : va_D A (cW ad cid a2 lx sg gm lg) := hD
    refine W.eq (g2 := F0 m 67 ls [.int r_6]) rfl ?_
    refine lv_if_eq (tgt := 88) hx hb dX9_hasWhatItNeeds_67 (by decide) (fun c_9 => ?_) (fun c_9 => ?_)
    · have h_10 : iv 0 0 r_6 := iv_eq c_9 hr_6 (iv_k (by decide) : iv 0 0 0) (by decide)
      exact hj88 hvx hvo (by rw [← ez_1]; exact sw4 (h_2) ez_3 (by omega)) _ _ _ hP hD hS (lv_sub hl [0, 1] rfl)
    · have h_11 : iv 1 1 r_6 := iv_neL c_9 hr_6 (by decide)
      refine ec_aload_n hx hb dX9_hasWhatItNeeds_70 rfl (lv_at hl 0 rfl) ?_
      refine cr_get (t := 3) (j := 0) (C := RX9) (T := TX9) (N := 1) (v := eV (ad 1) 0) hx hb htb inX9 hown hK hP hvx (by decide) (by decide) (by decide) rfl (by decide) (htb _ kw_82) (cV_c rfl (by decide) (by rw [show cMu 3 0 = 0 from rfl, Nat.zero_mul]; rfl)) dX9_hasWhatItNeeds_71 ?_
      refine ec_aload_n hx hb dX9_hasWhatItNeeds_74 rfl (lv_at hl 1 rfl) ?_
      refine cw_word (k := 22) (kx := 22) hx hb hG hS (by decide) rfl ⟨by decide, by decide⟩ hown (htb _ kw_567) dX9_hasWhatItNeeds_75 ?_
      refine cm_callV (t := 1) (C := RX6) (T := TX6) (N := 8) (rest := []) (as := [eV (ad 9) o, eV (ad 33) 22]) ⟨hx, hb, hml, hown, htb⟩ (d_has l dC dI ad cid a2 lx sg gm lg 0 o 22 hI (iv_k (by decide) : iv 0 0 0) hvo (iv_w (iv_k (by decide) : iv 22 22 22) (by decide)) hFA how) (cwV 2 htb (gd_V kw_604 kw_605 kw_606 kw_20 kw_1481) rfl rfl rfl (by decide +kernel) ⟨Nat.le_of_ble_eq_true rfl, Nat.le_of_ble_eq_true rfl⟩) (iv_k (by decide) : iv 0 0 0) (by decide) (by decide) rfl rfl hl.1 rfl (Nat.le_trans cs_n (by decide)) dX9_hasWhatItNeeds_78 ⟨Nat.le_of_ble_eq_true rfl, Nat.le_of_ble_eq_true rfl⟩ hK hP hD hS hA hG (fun E ce q9 u_13 H locs hw hP hD hS hce hcv hcl => ?_) (fun v9 u_13 H locs hw hP hD hS => ?_)
      · exact hw.elim
      obtain ⟨r_12, rfl, rfl, hr_12, fH_r_12⟩ := hw
      have hP : va_P (dC, dI) vwCl (cW ad cid a2 lx sg gm lg) H := hP
      have hD : va_D A (cW ad cid a2 lx sg gm lg) := hD
      refine W.eq (g2 := F0 m 81 ls [.int r_12]) rfl ?_
      refine lv_if_eq (tgt := 88) hx hb dX9_hasWhatItNeeds_81 (by decide) (fun c_15 => ?_) (fun c_15 => ?_)
      · have h_16 : iv 0 0 r_12 := iv_eq c_15 hr_12 (iv_k (by decide) : iv 0 0 0) (by decide)
        exact hj88 hvx hvo (by rw [← ez_1]; exact sw4 (h_2) ez_3 (by omega)) _ _ _ hP hD hS (lv_sub hl [0, 1] rfl)
      · have h_17 : iv 1 1 r_12 := iv_neL c_15 hr_12 (by decide)
        refine lv_iconst (v := 1) hx hb dX9_hasWhatItNeeds_84 (by decide) ?_
        refine lv_goto (tgt := 89) hx hb dX9_hasWhatItNeeds_85 (by decide) ?_
        exact hj89 1 hvx hvo (iv_w (iv_k (by decide) : iv 1 1 1) (by decide)) (by rw [← ez_1]; exact sw4 (h_2) ez_3 (by omega)) _ _ _ hP hD hS (lv_sub hl [0, 1] rfl)
  by_cases c_18 : (z_3 : Int32).toInt = 8
  · refine lv_tableIn (tgt := 90) hx hb dX9_hasWhatItNeeds_11 (by rw [c_18]; decide) (by rw [c_18]; decide) (by rw [c_18]; rfl) (by decide) ?_
    have h_19 : iv 8 8 z_3 := iv_at c_18
    refine ec_aload_n hx hb dX9_hasWhatItNeeds_90 rfl (lv_at hl 0 rfl) ?_
    refine ec_aload_n hx hb dX9_hasWhatItNeeds_91 rfl (lv_at hl 1 rfl) ?_
    refine cm_callV (t := 3) (C := RX9) (T := TX9) (N := 1) (rest := []) (as := [eV (ad 9) o]) ⟨hx, hb, hml, hown, htb⟩ (d_beanHasWhatItNeeds l dC dI ad cid a2 lx sg gm lg x o hI hvx hvo hFA how hVS) (cwV 1 htb (gd_V kw_608 kw_609 kw_610 kw_28 kw_1482) rfl rfl rfl (by decide +kernel) ⟨Nat.le_of_ble_eq_true rfl, Nat.le_of_ble_eq_true rfl⟩) hvx (by decide) (by decide) rfl rfl hl.1 rfl (Nat.le_trans cs_n (by decide)) dX9_hasWhatItNeeds_92 ⟨Nat.le_of_ble_eq_true rfl, Nat.le_of_ble_eq_true rfl⟩ hK hP hD hS hA hG (fun E ce q9 u_21 H locs hw hP hD hS hce hcv hcl => ?_) (fun v9 u_21 H locs hw hP hD hS => ?_)
    · exact hw.elim
    obtain ⟨r_20, rfl, rfl, hr_20⟩ := hw
    have hP : va_P (dC, dI) vwCl (cW ad cid a2 lx sg gm lg) H := hP
    have hD : va_D A (cW ad cid a2 lx sg gm lg) := hD
    refine W.eq (g2 := F0 m 95 ls [.int r_20]) rfl ?_
    exact W.nb (fun hN => W.widen (k := 1) (n := 6) (by decide) (by decide) (vx_ret (W.zret (v := r_20) hx hb hr (iv_nb hr_20) (fun t ht hW => ⟨⟨some (.int r_20), (sg, gm, lg), rfl, ⟨r_20, rfl, rfl, hr_20, (Or.inr (Or.inl (by rw [← ez_1]; exact sw4 (h_2) ez_3 (by omega))))⟩, by rw [ht]; exact hP, va_K.moved hW.alike hK, hD⟩, hS.F ht, by rw [ht]; exact hN⟩) hS.2.2 dX9_hasWhatItNeeds_95)))
  by_cases c_23 : (z_3 : Int32).toInt = 9
  · refine lv_tableIn (tgt := 154) hx hb dX9_hasWhatItNeeds_11 (by rw [c_23]; decide) (by rw [c_23]; decide) (by rw [c_23]; rfl) (by decide) ?_
    have h_24 : iv 9 9 z_3 := iv_at c_23
    exact hj154 hvx hvo (by rw [← ez_1]; exact sw4 (h_2) ez_3 (by omega)) _ _ _ hP hD hS (lv_sub hl [0, 1] rfl)
  by_cases c_25 : (z_3 : Int32).toInt = 10
  · refine lv_tableIn (tgt := 96) hx hb dX9_hasWhatItNeeds_11 (by rw [c_25]; decide) (by rw [c_25]; decide) (by rw [c_25]; rfl) (by decide) ?_
    have h_26 : iv 10 10 z_3 := iv_at c_25
    refine ec_aload_n hx hb dX9_hasWhatItNeeds_96 rfl (lv_at hl 0 rfl) ?_
    refine cr_get (t := 3) (j := 0) (C := RX9) (T := TX9) (N := 1) (v := eV (ad 1) 0) hx hb htb inX9 hown hK hP hvx (by decide) (by decide) (by decide) rfl (by decide) (htb _ kw_82) (cV_c rfl (by decide) (by rw [show cMu 3 0 = 0 from rfl, Nat.zero_mul]; rfl)) dX9_hasWhatItNeeds_97 ?_
    refine ec_aload_n hx hb dX9_hasWhatItNeeds_100 rfl (lv_at hl 1 rfl) ?_
    refine cw_word (k := 21) (kx := 21) hx hb hG hS (by decide) rfl ⟨by decide, by decide⟩ hown (htb _ kw_541) dX9_hasWhatItNeeds_101 ?_
    refine cm_callV (t := 1) (C := RX6) (T := TX6) (N := 8) (rest := []) (as := [eV (ad 9) o, eV (ad 33) 21]) ⟨hx, hb, hml, hown, htb⟩ (d_has l dC dI ad cid a2 lx sg gm lg 0 o 21 hI (iv_k (by decide) : iv 0 0 0) hvo (iv_w (iv_k (by decide) : iv 21 21 21) (by decide)) hFA how) (cwV 2 htb (gd_V kw_604 kw_605 kw_606 kw_20 kw_1481) rfl rfl rfl (by decide +kernel) ⟨Nat.le_of_ble_eq_true rfl, Nat.le_of_ble_eq_true rfl⟩) (iv_k (by decide) : iv 0 0 0) (by decide) (by decide) rfl rfl hl.1 rfl (Nat.le_trans cs_n (by decide)) dX9_hasWhatItNeeds_104 ⟨Nat.le_of_ble_eq_true rfl, Nat.le_of_ble_eq_true rfl⟩ hK hP hD hS hA hG (fun E ce q9 u_28 H locs hw hP hD hS hce hcv hcl => ?_) (fun v9 u_28 H locs hw hP hD hS => ?_)
    · exact hw.elim
    obtain ⟨r_27, rfl, rfl, hr_27, fH_r_27⟩ := hw
    have hP : va_P (dC, dI) vwCl (cW ad cid a2 lx sg gm lg) H := hP
    have hD : va_D A (cW ad cid a2 lx sg gm lg) := hD
    refine W.eq (g2 := F0 m 107 ls [.int r_27]) rfl ?_
    exact W.nb (fun hN => W.widen (k := 1) (n := 6) (by decide) (by decide) (vx_ret (W.zret (v := r_27) hx hb hr (iv_nb hr_27) (fun t ht hW => ⟨⟨some (.int r_27), (sg, gm, lg), rfl, ⟨r_27, rfl, rfl, hr_27, (fH_r_27.imp id Or.inr)⟩, by rw [ht]; exact hP, va_K.moved hW.alike hK, hD⟩, hS.F ht, by rw [ht]; exact hN⟩) hS.2.2 dX9_hasWhatItNeeds_107)))
  by_cases c_30 : (z_3 : Int32).toInt = 11
  · refine lv_tableIn (tgt := 120) hx hb dX9_hasWhatItNeeds_11 (by rw [c_30]; decide) (by rw [c_30]; decide) (by rw [c_30]; rfl) (by decide) ?_
    have h_31 : iv 11 11 z_3 := iv_at c_30
    refine ec_aload_n hx hb dX9_hasWhatItNeeds_120 rfl (lv_at hl 0 rfl) ?_
    refine cr_get (t := 3) (j := 0) (C := RX9) (T := TX9) (N := 1) (v := eV (ad 1) 0) hx hb htb inX9 hown hK hP hvx (by decide) (by decide) (by decide) rfl (by decide) (htb _ kw_82) (cV_c rfl (by decide) (by rw [show cMu 3 0 = 0 from rfl, Nat.zero_mul]; rfl)) dX9_hasWhatItNeeds_121 ?_
    refine ec_aload_n hx hb dX9_hasWhatItNeeds_124 rfl (lv_at hl 1 rfl) ?_
    refine cw_word (k := 21) (kx := 21) hx hb hG hS (by decide) rfl ⟨by decide, by decide⟩ hown (htb _ kw_541) dX9_hasWhatItNeeds_125 ?_
    refine cm_callV (t := 1) (C := RX6) (T := TX6) (N := 8) (rest := []) (as := [eV (ad 9) o, eV (ad 33) 21]) ⟨hx, hb, hml, hown, htb⟩ (d_has l dC dI ad cid a2 lx sg gm lg 0 o 21 hI (iv_k (by decide) : iv 0 0 0) hvo (iv_w (iv_k (by decide) : iv 21 21 21) (by decide)) hFA how) (cwV 2 htb (gd_V kw_604 kw_605 kw_606 kw_20 kw_1481) rfl rfl rfl (by decide +kernel) ⟨Nat.le_of_ble_eq_true rfl, Nat.le_of_ble_eq_true rfl⟩) (iv_k (by decide) : iv 0 0 0) (by decide) (by decide) rfl rfl hl.1 rfl (Nat.le_trans cs_n (by decide)) dX9_hasWhatItNeeds_128 ⟨Nat.le_of_ble_eq_true rfl, Nat.le_of_ble_eq_true rfl⟩ hK hP hD hS hA hG (fun E ce q9 u_33 H locs hw hP hD hS hce hcv hcl => ?_) (fun v9 u_33 H locs hw hP hD hS => ?_)
    · exact hw.elim
    obtain ⟨r_32, rfl, rfl, hr_32, fH_r_32⟩ := hw
    have hP : va_P (dC, dI) vwCl (cW ad cid a2 lx sg gm lg) H := hP
    have hD : va_D A (cW ad cid a2 lx sg gm lg) := hD
    refine W.eq (g2 := F0 m 131 ls [.int r_32]) rfl ?_
    refine lv_if_eq (tgt := 152) hx hb dX9_hasWhatItNeeds_131 (by decide) (fun c_35 => ?_) (fun c_35 => ?_)
    · have h_36 : iv 0 0 r_32 := iv_eq c_35 hr_32 (iv_k (by decide) : iv 0 0 0) (by decide)
      exact hj152 hvx hvo (by rw [← ez_1]; exact sw4 (h_2) ez_3 (by omega)) _ _ _ hP hD hS (lv_sub hl [0, 1] rfl)
    · have h_37 : iv 1 1 r_32 := iv_neL c_35 hr_32 (by decide)
      refine ec_aload_n hx hb dX9_hasWhatItNeeds_134 rfl (lv_at hl 0 rfl) ?_
      refine cr_get (t := 3) (j := 0) (C := RX9) (T := TX9) (N := 1) (v := eV (ad 1) 0) hx hb htb inX9 hown hK hP hvx (by decide) (by decide) (by decide) rfl (by decide) (htb _ kw_82) (cV_c rfl (by decide) (by rw [show cMu 3 0 = 0 from rfl, Nat.zero_mul]; rfl)) dX9_hasWhatItNeeds_135 ?_
      refine ec_aload_n hx hb dX9_hasWhatItNeeds_138 rfl (lv_at hl 1 rfl) ?_
      refine cw_word (k := 2) (kx := 2) hx hb hG hS (by decide) rfl ⟨by decide, by decide⟩ hown (htb _ kw_517) dX9_hasWhatItNeeds_139 ?_
      refine cm_callV (t := 1) (C := RX6) (T := TX6) (N := 8) (rest := []) (as := [eV (ad 9) o, eV (ad 33) 2]) ⟨hx, hb, hml, hown, htb⟩ (d_has l dC dI ad cid a2 lx sg gm lg 0 o 2 hI (iv_k (by decide) : iv 0 0 0) hvo (iv_w (iv_k (by decide) : iv 2 2 2) (by decide)) hFA how) (cwV 2 htb (gd_V kw_604 kw_605 kw_606 kw_20 kw_1481) rfl rfl rfl (by decide +kernel) ⟨Nat.le_of_ble_eq_true rfl, Nat.le_of_ble_eq_true rfl⟩) (iv_k (by decide) : iv 0 0 0) (by decide) (by decide) rfl rfl hl.1 rfl (Nat.le_trans cs_n (by decide)) dX9_hasWhatItNeeds_142 ⟨Nat.le_of_ble_eq_true rfl, Nat.le_of_ble_eq_true rfl⟩ hK hP hD hS hA hG (fun E ce q9 u_39 H locs hw hP hD hS hce hcv hcl => ?_) (fun v9 u_39 H locs hw hP hD hS => ?_)
      · exact hw.elim
      obtain ⟨r_38, rfl, rfl, hr_38, fH_r_38⟩ := hw
      have hP : va_P (dC, dI) vwCl (cW ad cid a2 lx sg gm lg) H := hP
      have hD : va_D A (cW ad cid a2 lx sg gm lg) := hD
      refine W.eq (g2 := F0 m 145 ls [.int r_38]) rfl ?_
      refine lv_if_eq (tgt := 152) hx hb dX9_hasWhatItNeeds_145 (by decide) (fun c_41 => ?_) (fun c_41 => ?_)
      · have h_42 : iv 0 0 r_38 := iv_eq c_41 hr_38 (iv_k (by decide) : iv 0 0 0) (by decide)
        exact hj152 hvx hvo (by rw [← ez_1]; exact sw4 (h_2) ez_3 (by omega)) _ _ _ hP hD hS (lv_sub hl [0, 1] rfl)
      · have h_43 : iv 1 1 r_38 := iv_neL c_41 hr_38 (by decide)
        refine lv_iconst (v := 1) hx hb dX9_hasWhatItNeeds_148 (by decide) ?_
        refine lv_goto (tgt := 153) hx hb dX9_hasWhatItNeeds_149 (by decide) ?_
        exact hj153 1 hvx hvo (iv_w (iv_k (by decide) : iv 1 1 1) (by decide)) (by rw [← ez_1]; exact sw4 (h_2) ez_3 (by omega)) _ _ _ hP hD hS (lv_sub hl [0, 1] rfl)
  by_cases c_44 : (z_3 : Int32).toInt = 12
  · refine lv_tableIn (tgt := 154) hx hb dX9_hasWhatItNeeds_11 (by rw [c_44]; decide) (by rw [c_44]; decide) (by rw [c_44]; rfl) (by decide) ?_
    have h_45 : iv 12 12 z_3 := iv_at c_44
    exact hj154 hvx hvo (by rw [← ez_1]; exact sw4 (h_2) ez_3 (by omega)) _ _ _ hP hD hS (lv_sub hl [0, 1] rfl)
  by_cases c_46 : (z_3 : Int32).toInt = 13
  · refine lv_tableIn (tgt := 154) hx hb dX9_hasWhatItNeeds_11 (by rw [c_46]; decide) (by rw [c_46]; decide) (by rw [c_46]; rfl) (by decide) ?_
    have h_47 : iv 13 13 z_3 := iv_at c_46
    exact hj154 hvx hvo (by rw [← ez_1]; exact sw4 (h_2) ez_3 (by omega)) _ _ _ hP hD hS (lv_sub hl [0, 1] rfl)
  by_cases c_48 : (z_3 : Int32).toInt = 14
  · refine lv_tableIn (tgt := 108) hx hb dX9_hasWhatItNeeds_11 (by rw [c_48]; decide) (by rw [c_48]; decide) (by rw [c_48]; rfl) (by decide) ?_
    have h_49 : iv 14 14 z_3 := iv_at c_48
    refine ec_aload_n hx hb dX9_hasWhatItNeeds_108 rfl (lv_at hl 0 rfl) ?_
    refine cr_get (t := 3) (j := 0) (C := RX9) (T := TX9) (N := 1) (v := eV (ad 1) 0) hx hb htb inX9 hown hK hP hvx (by decide) (by decide) (by decide) rfl (by decide) (htb _ kw_82) (cV_c rfl (by decide) (by rw [show cMu 3 0 = 0 from rfl, Nat.zero_mul]; rfl)) dX9_hasWhatItNeeds_109 ?_
    refine ec_aload_n hx hb dX9_hasWhatItNeeds_112 rfl (lv_at hl 1 rfl) ?_
    refine cw_word (k := 2) (kx := 2) hx hb hG hS (by decide) rfl ⟨by decide, by decide⟩ hown (htb _ kw_517) dX9_hasWhatItNeeds_113 ?_
    refine cm_callV (t := 1) (C := RX6) (T := TX6) (N := 8) (rest := []) (as := [eV (ad 9) o, eV (ad 33) 2]) ⟨hx, hb, hml, hown, htb⟩ (d_has l dC dI ad cid a2 lx sg gm lg 0 o 2 hI (iv_k (by decide) : iv 0 0 0) hvo (iv_w (iv_k (by decide) : iv 2 2 2) (by decide)) hFA how) (cwV 2 htb (gd_V kw_604 kw_605 kw_606 kw_20 kw_1481) rfl rfl rfl (by decide +kernel) ⟨Nat.le_of_ble_eq_true rfl, Nat.le_of_ble_eq_true rfl⟩) (iv_k (by decide) : iv 0 0 0) (by decide) (by decide) rfl rfl hl.1 rfl (Nat.le_trans cs_n (by decide)) dX9_hasWhatItNeeds_116 ⟨Nat.le_of_ble_eq_true rfl, Nat.le_of_ble_eq_true rfl⟩ hK hP hD hS hA hG (fun E ce q9 u_51 H locs hw hP hD hS hce hcv hcl => ?_) (fun v9 u_51 H locs hw hP hD hS => ?_)
    · exact hw.elim
    obtain ⟨r_50, rfl, rfl, hr_50, fH_r_50⟩ := hw
    have hP : va_P (dC, dI) vwCl (cW ad cid a2 lx sg gm lg) H := hP
    have hD : va_D A (cW ad cid a2 lx sg gm lg) := hD
    refine W.eq (g2 := F0 m 119 ls [.int r_50]) rfl ?_
    exact W.nb (fun hN => W.widen (k := 1) (n := 6) (by decide) (by decide) (vx_ret (W.zret (v := r_50) hx hb hr (iv_nb hr_50) (fun t ht hW => ⟨⟨some (.int r_50), (sg, gm, lg), rfl, ⟨r_50, rfl, rfl, hr_50, (Or.inr (Or.inl (by rw [← ez_1]; exact sw4 (h_2) ez_3 (by omega))))⟩, by rw [ht]; exact hP, va_K.moved hW.alike hK, hD⟩, hS.F ht, by rw [ht]; exact hN⟩) hS.2.2 dX9_hasWhatItNeeds_119)))
  refine lv_tableOut (tgt := 154) hx hb dX9_hasWhatItNeeds_11 (by have q1 := (hz_3).1; have q2 := (hz_3).2; omega) (by decide) ?_
  exact hj154 hvx hvo (by rw [← ez_1]; exact sw4 (h_2) ez_3 (by omega)) _ _ _ hP hD hS (lv_sub hl [0, 1] rfl)

set_option maxHeartbeats 4000000 in
set_option maxRecDepth 100000 in
theorem d_hasRightCount (l : Launch) (dC : Nat → ClassId) (dI : Nat → Nat → Nat) (ad : Nat → Nat → Nat) (cid : Nat → ClassId) (a2 : Nat → Nat) (lx : List Nat) (sg : Nat → Int32) (gm : Nat → Nat → Int32) (lg : Nat → Nat → Int64) (x : Int32) (o : Int32) (hI : CI sg gm) (hvx : iv 0 0 x) (hvo : iv 0 79 o) (hFA : FA sg gm) (how : o.toInt < (sg 4).toInt) (hVS : VS sg gm) (hw0 : 0 ≤ (gm 14 o.toNatClampNeg).toInt) : CMt dC dI ad cid a2 lx l yX9_hasRightCount wm_X9_hasRightCount ({ frames := 2, cells := 1, slots := 6, locals := 46 }) [eV (ad 3) x, eV (ad 9) o] sg gm lg (fun v u => ∃ r : Int32, v = some (.int r) ∧ u = (sg, gm, lg) ∧ (iv 0 1 r)) (fun _ _ => False) := by
  intro sz
  refine vx_ofW (cc := cX9_hasRightCount) (maxL := 2) (ret := (some .boolean)) (by decide) rfl ?_
  intro p e s m args below meth c s₁ B hml hxt hv
  obtain ⟨rfl, hsz, hP, hK, hD0, hG⟩ := hv
  have hx := B.exec
  have hb := B.bytes
  have hr := B.returns
  have hts := atoms_spec (ws := wm_X9_hasRightCount) B.pre
  have htb := fun (w : Cond) (h : w ∈ tb) => hts w (List.mem_cons_of_mem _ h)
  have hown : s.vm.findClass RX9 = some m.cls := findClass_of_methodNamed B.named
  have hlocks := B.notSynchronized
  subst hsz
  have hD := hD0.self (sz := s.heap.size)
  generalize hAe : va_A (cW ad cid a2 lx sg gm lg) s.heap.size = A at hD hG ⊢
  have hA : ∀ q : Nat, s.heap.size ≤ q → A q := fun q h => by rw [← hAe]; exact Or.inr h
  have hS : va_S A s.heap s.heap [] := va_S.rf
  have hl := lv_entry ([eV (ad 3) x, eV (ad 9) o]) (n := 2) (by rw [show (lg_sl ([eV (ad 3) x, eV (ad 9) o])).length = 2 from by simp [lg_sl, eV_cat, cat_i, cat_l]]; exact Nat.le_of_ble_eq_true rfl)
  rw [lg_entry_eq]
  generalize (lg_sl ([eV (ad 3) x, eV (ad 9) o]) ++ List.replicate (2 - (lg_sl ([eV (ad 3) x, eV (ad 9) o])).length) Slot.unset).toArray = ls at hl ⊢
  have hl : lv_has ls 2 [(0, eV (ad 3) x), (1, eV (ad 9) o)] := by simp [lv_args, eV_cat, cat_i, cat_l] at hl; exact hl
  have hj52 : ∀ (_ : iv 0 0 x) (_ : iv 0 79 o) (H : Heap) (locs : List Loc) (ls : Array Slot), va_P (dC, dI) vwCl (cW ad cid a2 lx sg gm lg) H → va_D A (cW ad cid a2 lx sg gm lg) → va_S A s.heap H locs → lv_has ls 2 [(0, eV (ad 3) x), (1, eV (ad 9) o)] → W p l e (headSpec wm_X9_hasRightCount ({ frames := 2, cells := 1, slots := 6, locals := 46 })).room s m ([eV (ad 3) x, eV (ad 9) o] : List Value).toArray below meth c H locs 0 0 (vx_MQ below (cQx dC dI ad cid a2 lx (fun v u => ∃ r : Int32, v = some (.int r) ∧ u = (sg, gm, lg) ∧ (iv 0 1 r)) A) (cX dC dI ad cid a2 lx (fun _ _ => False) A) ([eV (ad 3) x, eV (ad 9) o] : List Value).toArray s 1 6 A) (F0 m 52 ls []) := by
    intro  hsx0_52 hsx1_52 H locs ls hP hD hS hl
    refine lv_iconst (v := 1) hx hb dX9_hasRightCount_52 (by decide) ?_
    exact W.nb (fun hN => W.widen (k := 1) (n := 6) (by decide) (by decide) (vx_ret (W.zret (v := 1) hx hb hr (iv_nb (iv_w (iv_k (by decide) : iv 1 1 1) (by decide))) (fun t ht hW => ⟨⟨some (.int 1), (sg, gm, lg), rfl, ⟨1, rfl, rfl, (iv_w (iv_k (by decide) : iv 1 1 1) (by decide))⟩, by rw [ht]; exact hP, va_K.moved hW.alike hK, hD⟩, hS.F ht, by rw [ht]; exact hN⟩) hS.2.2 dX9_hasRightCount_53)))
  have hj135 : ∀ (y0_135 : Int32) (_ : iv 0 0 x) (_ : iv 0 79 o) (_ : iv 0 1 y0_135) (H : Heap) (locs : List Loc) (ls : Array Slot), va_P (dC, dI) vwCl (cW ad cid a2 lx sg gm lg) H → va_D A (cW ad cid a2 lx sg gm lg) → va_S A s.heap H locs → lv_has ls 2 [(0, eV (ad 3) x), (1, eV (ad 9) o)] → W p l e (headSpec wm_X9_hasRightCount ({ frames := 2, cells := 1, slots := 6, locals := 46 })).room s m ([eV (ad 3) x, eV (ad 9) o] : List Value).toArray below meth c H locs 0 0 (vx_MQ below (cQx dC dI ad cid a2 lx (fun v u => ∃ r : Int32, v = some (.int r) ∧ u = (sg, gm, lg) ∧ (iv 0 1 r)) A) (cX dC dI ad cid a2 lx (fun _ _ => False) A) ([eV (ad 3) x, eV (ad 9) o] : List Value).toArray s 1 6 A) (F0 m 135 ls [.int y0_135]) := by
    intro y0_135 hsx0_135 hsx1_135 hy0_135 H locs ls hP hD hS hl
    exact W.nb (fun hN => W.widen (k := 1) (n := 6) (by decide) (by decide) (vx_ret (W.zret (v := y0_135) hx hb hr (iv_nb hy0_135) (fun t ht hW => ⟨⟨some (.int y0_135), (sg, gm, lg), rfl, ⟨y0_135, rfl, rfl, hy0_135⟩, by rw [ht]; exact hP, va_K.moved hW.alike hK, hD⟩, hS.F ht, by rw [ht]; exact hN⟩) hS.2.2 dX9_hasRightCount_135)))
  have hj123 : ∀ (_ : iv 0 0 x) (_ : iv 0 79 o) (H : Heap) (locs : List Loc) (ls : Array Slot), va_P (dC, dI) vwCl (cW ad cid a2 lx sg gm lg) H → va_D A (cW ad cid a2 lx sg gm lg) → va_S A s.heap H locs → lv_has ls 2 [(0, eV (ad 3) x), (1, eV (ad 9) o)] → W p l e (headSpec wm_X9_hasRightCount ({ frames := 2, cells := 1, slots := 6, locals := 46 })).room s m ([eV (ad 3) x, eV (ad 9) o] : List Value).toArray below meth c H locs 0 0 (vx_MQ below (cQx dC dI ad cid a2 lx (fun v u => ∃ r : Int32, v = some (.int r) ∧ u = (sg, gm, lg) ∧ (iv 0 1 r)) A) (cX dC dI ad cid a2 lx (fun _ _ => False) A) ([eV (ad 3) x, eV (ad 9) o] : List Value).toArray s 1 6 A) (F0 m 123 ls []) := by
    intro  hsx0_123 hsx1_123 H locs ls hP hD hS hl
    refine ec_aload_n hx hb dX9_hasRightCount_123 rfl (lv_at hl 1 rfl) ?_
    refine cr_get (t := 9) (j := 8) (C := RX3) (T := TX3) (N := 21) (v := .int (gm 18 o.toNatClampNeg)) hx hb htb inX3 hown hK hP hsx1_123 (by decide) (by decide) (by decide) rfl (by decide) (htb _ kw_620) rfl dX9_hasRightCount_124 ?_
    obtain ⟨z_1, ez_1⟩ : ∃ z : Int32, z = (gm 18 o.toNatClampNeg) := ⟨_, rfl⟩
    refine W.eq (g2 := F0 m 127 ls [.int z_1]) (by rw [ez_1]) ?_
    have hz_1 : iv 0 2000000 z_1 := iv_of ez_1 (CI_a hI 18 hsx1_123 (by decide))
    refine lv_if_ne (tgt := 134) hx hb dX9_hasRightCount_127 (by decide) (fun c_2 => ?_) (fun c_2 => ?_)
    · have h_3 : iv 1 2000000 z_1 := iv_neL c_2 hz_1 (by decide)
      refine lv_iconst (v := 0) hx hb dX9_hasRightCount_134 (by decide) ?_
      exact hj135 0 hsx0_123 hsx1_123 (iv_w (iv_k (by decide) : iv 0 0 0) (by decide)) _ _ _ hP hD hS (lv_sub hl [0, 1] rfl)
    · have h_4 : iv 0 0 z_1 := iv_eq c_2 hz_1 (iv_k (by decide) : iv 0 0 0) (by decide)
      refine lv_iconst (v := 1) hx hb dX9_hasRightCount_130 (by decide) ?_
      refine lv_goto (tgt := 135) hx hb dX9_hasRightCount_131 (by decide) ?_
      exact hj135 1 hsx0_123 hsx1_123 (iv_w (iv_k (by decide) : iv 1 1 1) (by decide)) _ _ _ hP hD hS (lv_sub hl [0, 1] rfl)
  have hj107 : ∀ (y0_107 : Int32) (_ : iv 0 0 x) (_ : iv 0 79 o) (_ : iv 0 1 y0_107) (H : Heap) (locs : List Loc) (ls : Array Slot), va_P (dC, dI) vwCl (cW ad cid a2 lx sg gm lg) H → va_D A (cW ad cid a2 lx sg gm lg) → va_S A s.heap H locs → lv_has ls 2 [(0, eV (ad 3) x), (1, eV (ad 9) o)] → W p l e (headSpec wm_X9_hasRightCount ({ frames := 2, cells := 1, slots := 6, locals := 46 })).room s m ([eV (ad 3) x, eV (ad 9) o] : List Value).toArray below meth c H locs 0 0 (vx_MQ below (cQx dC dI ad cid a2 lx (fun v u => ∃ r : Int32, v = some (.int r) ∧ u = (sg, gm, lg) ∧ (iv 0 1 r)) A) (cX dC dI ad cid a2 lx (fun _ _ => False) A) ([eV (ad 3) x, eV (ad 9) o] : List Value).toArray s 1 6 A) (F0 m 107 ls [.int y0_107]) := by
    intro y0_107 hsx0_107 hsx1_107 hy0_107 H locs ls hP hD hS hl
    exact W.nb (fun hN => W.widen (k := 1) (n := 6) (by decide) (by decide) (vx_ret (W.zret (v := y0_107) hx hb hr (iv_nb hy0_107) (fun t ht hW => ⟨⟨some (.int y0_107), (sg, gm, lg), rfl, ⟨y0_107, rfl, rfl, hy0_107⟩, by rw [ht]; exact hP, va_K.moved hW.alike hK, hD⟩, hS.F ht, by rw [ht]; exact hN⟩) hS.2.2 dX9_hasRightCount_107)))
  have hj92 : ∀ (y0_92 : Int32) (y1_92 : Int32) (_ : iv 0 0 x) (_ : iv 0 79 o) (_ : iv 0 1 y0_92) (_ : iv 0 1 y1_92) (H : Heap) (locs : List Loc) (ls : Array Slot), va_P (dC, dI) vwCl (cW ad cid a2 lx sg gm lg) H → va_D A (cW ad cid a2 lx sg gm lg) → va_S A s.heap H locs → lv_has ls 2 [(0, eV (ad 3) x), (1, eV (ad 9) o)] → W p l e (headSpec wm_X9_hasRightCount ({ frames := 2, cells := 1, slots := 6, locals := 46 })).room s m ([eV (ad 3) x, eV (ad 9) o] : List Value).toArray below meth c H locs 0 0 (vx_MQ below (cQx dC dI ad cid a2 lx (fun v u => ∃ r : Int32, v = some (.int r) ∧ u = (sg, gm, lg) ∧ (iv 0 1 r)) A) (cX dC dI ad cid a2 lx (fun _ _ => False) A) ([eV (ad 3) x, eV (ad 9) o] : List Value).toArray s 1 6 A) (F0 m 92 ls [.int y0_92, .int y1_92]) := by
    intro y0_92 y1_92 hsx0_92 hsx1_92 hy0_92 hy1_92 H locs ls hP hD hS hl
    refine lv_iadd hx hb dX9_hasRightCount_92 ?_
    refine lv_topi (fun z_5 ez_5 => ?_)
    have hz_5 : iv 0 2 z_5 := iv_of ez_5 (iv_add hy1_92 hy0_92 (by decide))
    have tz_5 : z_5.toInt = (y1_92 : Int32).toInt + (y0_92 : Int32).toInt := by rw [ez_5]; exact iv_addE hy1_92 hy0_92 (by decide)
    refine ec_aload_n hx hb dX9_hasRightCount_93 rfl (lv_at hl 1 rfl) ?_
    refine cr_get (t := 9) (j := 8) (C := RX3) (T := TX3) (N := 21) (v := .int (gm 18 o.toNatClampNeg)) hx hb htb inX3 hown hK hP hsx1_92 (by decide) (by decide) (by decide) rfl (by decide) (htb _ kw_620) rfl dX9_hasRightCount_94 ?_
    obtain ⟨z_6, ez_6⟩ : ∃ z : Int32, z = (gm 18 o.toNatClampNeg) := ⟨_, rfl⟩
    refine W.eq (g2 := F0 m 97 ls [.int z_6, .int z_5]) (by rw [ez_6]) ?_
    have hz_6 : iv 0 2000000 z_6 := iv_of ez_6 (CI_a hI 18 hsx1_92 (by decide))
    refine lv_iadd hx hb dX9_hasRightCount_97 ?_
    refine lv_topi (fun z_7 ez_7 => ?_)
    have hz_7 : iv 0 2000002 z_7 := iv_of ez_7 (iv_add hz_5 hz_6 (by decide))
    have tz_7 : z_7.toInt = (z_5 : Int32).toInt + (z_6 : Int32).toInt := by rw [ez_7]; exact iv_addE hz_5 hz_6 (by decide)
    refine lv_iconst (v := 1) hx hb dX9_hasRightCount_98 (by decide) ?_
    refine lv_icmp_ne (tgt := 106) hx hb dX9_hasRightCount_99 (by decide) (fun c_8 => ?_) (fun c_8 => ?_)
    · have d_9 : ¬ (z_7 : Int32).toInt = 1 := lv_neT c_8 rfl
      refine lv_iconst (v := 0) hx hb dX9_hasRightCount_106 (by decide) ?_
      exact hj107 0 hsx0_92 hsx1_92 (iv_w (iv_k (by decide) : iv 0 0 0) (by decide)) _ _ _ hP hD hS (lv_sub hl [0, 1] rfl)
    · have h_10 : iv 1 1 z_7 := iv_eq c_8 hz_7 (iv_k (by decide) : iv 1 1 1) (by decide)
      refine lv_iconst (v := 1) hx hb dX9_hasRightCount_102 (by decide) ?_
      refine lv_goto (tgt := 107) hx hb dX9_hasRightCount_103 (by decide) ?_
      exact hj107 1 hsx0_92 hsx1_92 (iv_w (iv_k (by decide) : iv 1 1 1) (by decide)) _ _ _ hP hD hS (lv_sub hl [0, 1] rfl)
  have hj73 : ∀ (y0_73 : Int32) (_ : iv 0 0 x) (_ : iv 0 79 o) (_ : iv 0 1 y0_73) (H : Heap) (locs : List Loc) (ls : Array Slot), va_P (dC, dI) vwCl (cW ad cid a2 lx sg gm lg) H → va_D A (cW ad cid a2 lx sg gm lg) → va_S A s.heap H locs → lv_has ls 2 [(0, eV (ad 3) x), (1, eV (ad 9) o)] → W p l e (headSpec wm_X9_hasRightCount ({ frames := 2, cells := 1, slots := 6, locals := 46 })).room s m ([eV (ad 3) x, eV (ad 9) o] : List Value).toArray below meth c H locs 0 0 (vx_MQ below (cQx dC dI ad cid a2 lx (fun v u => ∃ r : Int32, v = some (.int r) ∧ u = (sg, gm, lg) ∧ (iv 0 1 r)) A) (cX dC dI ad cid a2 lx (fun _ _ => False) A) ([eV (ad 3) x, eV (ad 9) o] : List Value).toArray s 1 6 A) (F0 m 73 ls [.int y0_73]) := by
    intro y0_73 hsx0_73 hsx1_73 hy0_73 H locs ls hP hD hS hl
    refine ec_aload_n hx hb dX9_hasRightCount_73 rfl (lv_at hl 0 rfl) ?_
    refine cr_get (t := 3) (j := 0) (C := RX9) (T := TX9) (N := 1) (v := eV (ad 1) 0) hx hb htb inX9 hown hK hP hsx0_73 (by decide) (by decide) (by decide) rfl (by decide) (htb _ kw_82) (cV_c rfl (by decide) (by rw [show cMu 3 0 = 0 from rfl, Nat.zero_mul]; rfl)) dX9_hasRightCount_74 ?_
    refine ec_aload_n hx hb dX9_hasRightCount_77 rfl (lv_at hl 1 rfl) ?_
    refine cw_word (k := 8) (kx := 8) hx hb hG hS (by decide) rfl ⟨by decide, by decide⟩ hown (htb _ kw_570) dX9_hasRightCount_78 ?_
    refine cm_callV (t := 1) (C := RX6) (T := TX6) (N := 8) (rest := [.int y0_73]) (as := [eV (ad 9) o, eV (ad 33) 8]) ⟨hx, hb, hml, hown, htb⟩ (d_has l dC dI ad cid a2 lx sg gm lg 0 o 8 hI (iv_k (by decide) : iv 0 0 0) hsx1_73 (iv_w (iv_k (by decide) : iv 8 8 8) (by decide)) hFA how) (cwV 2 htb (gd_V kw_604 kw_605 kw_606 kw_20 kw_1481) rfl rfl rfl (by decide +kernel) ⟨Nat.le_of_ble_eq_true rfl, Nat.le_of_ble_eq_true rfl⟩) (iv_k (by decide) : iv 0 0 0) (by decide) (by decide) rfl rfl hl.1 rfl (Nat.le_trans (cs_c (cat_i _) cs_n) (by decide)) dX9_hasRightCount_81 ⟨Nat.le_of_ble_eq_true rfl, Nat.le_of_ble_eq_true rfl⟩ hK hP hD hS hA hG (fun E ce q9 u_12 H locs hw hP hD hS hce hcv hcl => ?_) (fun v9 u_12 H locs hw hP hD hS => ?_)
    · exact hw.elim
    obtain ⟨r_11, rfl, rfl, hr_11, fH_r_11⟩ := hw
    have hP : va_P (dC, dI) vwCl (cW ad cid a2 lx sg gm lg) H := hP
    have hD : va_D A (cW ad cid a2 lx sg gm lg) := hD
    refine W.eq (g2 := F0 m 84 ls [.int r_11, .int y0_73]) rfl ?_
    refine lv_if_eq (tgt := 91) hx hb dX9_hasRightCount_84 (by decide) (fun c_14 => ?_) (fun c_14 => ?_)
    · have h_15 : iv 0 0 r_11 := iv_eq c_14 hr_11 (iv_k (by decide) : iv 0 0 0) (by decide)
      refine lv_iconst (v := 0) hx hb dX9_hasRightCount_91 (by decide) ?_
      exact hj92 0 y0_73 hsx0_73 hsx1_73 (iv_w (iv_k (by decide) : iv 0 0 0) (by decide)) hy0_73 _ _ _ hP hD hS (lv_sub hl [0, 1] rfl)
    · have h_16 : iv 1 1 r_11 := iv_neL c_14 hr_11 (by decide)
      refine lv_iconst (v := 1) hx hb dX9_hasRightCount_87 (by decide) ?_
      refine lv_goto (tgt := 92) hx hb dX9_hasRightCount_88 (by decide) ?_
      exact hj92 1 y0_73 hsx0_73 hsx1_73 (iv_w (iv_k (by decide) : iv 1 1 1) (by decide)) hy0_73 _ _ _ hP hD hS (lv_sub hl [0, 1] rfl)
  have hj54 : ∀ (_ : iv 0 0 x) (_ : iv 0 79 o) (H : Heap) (locs : List Loc) (ls : Array Slot), va_P (dC, dI) vwCl (cW ad cid a2 lx sg gm lg) H → va_D A (cW ad cid a2 lx sg gm lg) → va_S A s.heap H locs → lv_has ls 2 [(0, eV (ad 3) x), (1, eV (ad 9) o)] → W p l e (headSpec wm_X9_hasRightCount ({ frames := 2, cells := 1, slots := 6, locals := 46 })).room s m ([eV (ad 3) x, eV (ad 9) o] : List Value).toArray below meth c H locs 0 0 (vx_MQ below (cQx dC dI ad cid a2 lx (fun v u => ∃ r : Int32, v = some (.int r) ∧ u = (sg, gm, lg) ∧ (iv 0 1 r)) A) (cX dC dI ad cid a2 lx (fun _ _ => False) A) ([eV (ad 3) x, eV (ad 9) o] : List Value).toArray s 1 6 A) (F0 m 54 ls []) := by
    intro  hsx0_54 hsx1_54 H locs ls hP hD hS hl
    refine ec_aload_n hx hb dX9_hasRightCount_54 rfl (lv_at hl 0 rfl) ?_
    refine cr_get (t := 3) (j := 0) (C := RX9) (T := TX9) (N := 1) (v := eV (ad 1) 0) hx hb htb inX9 hown hK hP hsx0_54 (by decide) (by decide) (by decide) rfl (by decide) (htb _ kw_82) (cV_c rfl (by decide) (by rw [show cMu 3 0 = 0 from rfl, Nat.zero_mul]; rfl)) dX9_hasRightCount_55 ?_
    refine ec_aload_n hx hb dX9_hasRightCount_58 rfl (lv_at hl 1 rfl) ?_
    refine cw_word (k := 7) (kx := 7) hx hb hG hS (by decide) rfl ⟨by decide, by decide⟩ hown (htb _ kw_510) dX9_hasRightCount_59 ?_
    refine cm_callV (t := 1) (C := RX6) (T := TX6) (N := 8) (rest := []) (as := [eV (ad 9) o, eV (ad 33) 7]) ⟨hx, hb, hml, hown, htb⟩ (d_has l dC dI ad cid a2 lx sg gm lg 0 o 7 hI (iv_k (by decide) : iv 0 0 0) hsx1_54 (iv_w (iv_k (by decide) : iv 7 7 7) (by decide)) hFA how) (cwV 2 htb (gd_V kw_604 kw_605 kw_606 kw_20 kw_1481) rfl rfl rfl (by decide +kernel) ⟨Nat.le_of_ble_eq_true rfl, Nat.le_of_ble_eq_true rfl⟩) (iv_k (by decide) : iv 0 0 0) (by decide) (by decide) rfl rfl hl.1 rfl (Nat.le_trans cs_n (by decide)) dX9_hasRightCount_62 ⟨Nat.le_of_ble_eq_true rfl, Nat.le_of_ble_eq_true rfl⟩ hK hP hD hS hA hG (fun E ce q9 u_18 H locs hw hP hD hS hce hcv hcl => ?_) (fun v9 u_18 H locs hw hP hD hS => ?_)
    · exact hw.elim
    obtain ⟨r_17, rfl, rfl, hr_17, fH_r_17⟩ := hw
    have hP : va_P (dC, dI) vwCl (cW ad cid a2 lx sg gm lg) H := hP
    have hD : va_D A (cW ad cid a2 lx sg gm lg) := hD
    refine W.eq (g2 := F0 m 65 ls [.int r_17]) rfl ?_
    refine lv_if_eq (tgt := 72) hx hb dX9_hasRightCount_65 (by decide) (fun c_20 => ?_) (fun c_20 => ?_)
    · have h_21 : iv 0 0 r_17 := iv_eq c_20 hr_17 (iv_k (by decide) : iv 0 0 0) (by decide)
      refine lv_iconst (v := 0) hx hb dX9_hasRightCount_72 (by decide) ?_
      exact hj73 0 hsx0_54 hsx1_54 (iv_w (iv_k (by decide) : iv 0 0 0) (by decide)) _ _ _ hP hD hS (lv_sub hl [0, 1] rfl)
    · have h_22 : iv 1 1 r_17 := iv_neL c_20 hr_17 (by decide)
      refine lv_iconst (v := 1) hx hb dX9_hasRightCount_68 (by decide) ?_
      refine lv_goto (tgt := 73) hx hb dX9_hasRightCount_69 (by decide) ?_
      exact hj73 1 hsx0_54 hsx1_54 (iv_w (iv_k (by decide) : iv 1 1 1) (by decide)) _ _ _ hP hD hS (lv_sub hl [0, 1] rfl)
  have hj122 : ∀ (y0_122 : Int32) (_ : iv 0 0 x) (_ : iv 0 79 o) (_ : iv 0 1 y0_122) (H : Heap) (locs : List Loc) (ls : Array Slot), va_P (dC, dI) vwCl (cW ad cid a2 lx sg gm lg) H → va_D A (cW ad cid a2 lx sg gm lg) → va_S A s.heap H locs → lv_has ls 2 [(0, eV (ad 3) x), (1, eV (ad 9) o)] → W p l e (headSpec wm_X9_hasRightCount ({ frames := 2, cells := 1, slots := 6, locals := 46 })).room s m ([eV (ad 3) x, eV (ad 9) o] : List Value).toArray below meth c H locs 0 0 (vx_MQ below (cQx dC dI ad cid a2 lx (fun v u => ∃ r : Int32, v = some (.int r) ∧ u = (sg, gm, lg) ∧ (iv 0 1 r)) A) (cX dC dI ad cid a2 lx (fun _ _ => False) A) ([eV (ad 3) x, eV (ad 9) o] : List Value).toArray s 1 6 A) (F0 m 122 ls [.int y0_122]) := by
    intro y0_122 hsx0_122 hsx1_122 hy0_122 H locs ls hP hD hS hl
    exact W.nb (fun hN => W.widen (k := 1) (n := 6) (by decide) (by decide) (vx_ret (W.zret (v := y0_122) hx hb hr (iv_nb hy0_122) (fun t ht hW => ⟨⟨some (.int y0_122), (sg, gm, lg), rfl, ⟨y0_122, rfl, rfl, hy0_122⟩, by rw [ht]; exact hP, va_K.moved hW.alike hK, hD⟩, hS.F ht, by rw [ht]; exact hN⟩) hS.2.2 dX9_hasRightCount_122)))
  refine cw_sw hx hb hG hS hown (htb _ kw_514) dX9_hasRightCount_0 ?_
  refine ec_aload_n hx hb dX9_hasRightCount_3 rfl (lv_at hl 1 rfl) ?_
  refine cr_get (t := 9) (j := 4) (C := RX3) (T := TX3) (N := 21) (v := eV (ad 33) (gm 14 o.toNatClampNeg)) hx hb htb inX3 hown hK hP hvo (by decide) (by decide) (by decide) rfl (by decide) (htb _ kw_508) rfl dX9_hasRightCount_4 ?_
  obtain ⟨z_23, ez_23⟩ : ∃ z : Int32, z = (gm 14 o.toNatClampNeg) := ⟨_, rfl⟩
  refine W.eq (g2 := F0 m 7 ls [eV (ad 33) z_23, eV (ad 36) 0]) (by rw [ez_23]) ?_
  have hz_23 : iv (-1) 33 z_23 := iv_of ez_23 (CI_a hI 14 hvo (by decide))
  have h_24 : iv 0 33 z_23 := ⟨by rw [ez_23]; exact hw0, (hz_23).2⟩
  refine cw_ord ⟨hx, hb, hml, hown, htb⟩ kw_520 h_24 hl.1 (Nat.le_trans (cs_c (eV_cat _ _) cs_n) (by decide)) dX9_hasRightCount_7 ⟨Nat.le_of_ble_eq_true rfl, Nat.le_of_ble_eq_true rfl⟩ ⟨Nat.le_of_ble_eq_true rfl, Nat.le_of_ble_eq_true rfl⟩ hP hD hS hA hG (fun H locs hP hS => ?_)
  refine cw_swld (iv_k (by decide) : iv 0 0 0) hx hb hG hS h_24 dX9_hasRightCount_10 ?_
  refine lv_topi (fun z_25 ez_25 => ?_)
  have hz_25 : iv 0 29 z_25 := iv_of ez_25 (sw_iv z_23)
  by_cases c_26 : (z_25 : Int32).toInt = 6
  · refine lv_tableIn (tgt := 52) hx hb dX9_hasRightCount_11 (by rw [c_26]; decide) (by rw [c_26]; decide) (by rw [c_26]; rfl) (by decide) ?_
    have h_27 : iv 6 6 z_25 := iv_at c_26
    exact hj52 hvx hvo _ _ _ hP hD hS (lv_sub hl [0, 1] rfl)
  by_cases c_28 : (z_25 : Int32).toInt = 7
  · refine lv_tableIn (tgt := 123) hx hb dX9_hasRightCount_11 (by rw [c_28]; decide) (by rw [c_28]; decide) (by rw [c_28]; rfl) (by decide) ?_
    have h_29 : iv 7 7 z_25 := iv_at c_28
    exact hj123 hvx hvo _ _ _ hP hD hS (lv_sub hl [0, 1] rfl)
  by_cases c_30 : (z_25 : Int32).toInt = 8
  · refine lv_tableIn (tgt := 52) hx hb dX9_hasRightCount_11 (by rw [c_30]; decide) (by rw [c_30]; decide) (by rw [c_30]; rfl) (by decide) ?_
    have h_31 : iv 8 8 z_25 := iv_at c_30
    exact hj52 hvx hvo _ _ _ hP hD hS (lv_sub hl [0, 1] rfl)
  by_cases c_32 : (z_25 : Int32).toInt = 9
  · refine lv_tableIn (tgt := 54) hx hb dX9_hasRightCount_11 (by rw [c_32]; decide) (by rw [c_32]; decide) (by rw [c_32]; rfl) (by decide) ?_
    have h_33 : iv 9 9 z_25 := iv_at c_32
    exact hj54 hvx hvo _ _ _ hP hD hS (lv_sub hl [0, 1] rfl)
  by_cases c_34 : (z_25 : Int32).toInt = 10
  · refine lv_tableIn (tgt := 54) hx hb dX9_hasRightCount_11 (by rw [c_34]; decide) (by rw [c_34]; decide) (by rw [c_34]; rfl) (by decide) ?_
    have h_35 : iv 10 10 z_25 := iv_at c_34
    exact hj54 hvx hvo _ _ _ hP hD hS (lv_sub hl [0, 1] rfl)
  by_cases c_36 : (z_25 : Int32).toInt = 11
  · refine lv_tableIn (tgt := 123) hx hb dX9_hasRightCount_11 (by rw [c_36]; decide) (by rw [c_36]; decide) (by rw [c_36]; rfl) (by decide) ?_
    have h_37 : iv 11 11 z_25 := iv_at c_36
    exact hj123 hvx hvo _ _ _ hP hD hS (lv_sub hl [0, 1] rfl)
  by_cases c_38 : (z_25 : Int32).toInt = 12
  · refine lv_tableIn (tgt := 108) hx hb dX9_hasRightCount_11 (by rw [c_38]; decide) (by rw [c_38]; decide) (by rw [c_38]; rfl) (by decide) ?_
    have h_39 : iv 12 12 z_25 := iv_at c_38
    refine ec_aload_n hx hb dX9_hasRightCount_108 rfl (lv_at hl 1 rfl) ?_
    refine cr_get (t := 9) (j := 8) (C := RX3) (T := TX3) (N := 21) (v := .int (gm 18 o.toNatClampNeg)) hx hb htb inX3 hown hK hP hvo (by decide) (by decide) (by decide) rfl (by decide) (htb _ kw_620) rfl dX9_hasRightCount_109 ?_
    obtain ⟨z_40, ez_40⟩ : ∃ z : Int32, z = (gm 18 o.toNatClampNeg) := ⟨_, rfl⟩
    refine W.eq (g2 := F0 m 112 ls [.int z_40]) (by rw [ez_40]) ?_
    have hz_40 : iv 0 2000000 z_40 := iv_of ez_40 (CI_a hI 18 hvo (by decide))
    refine lv_bipush (v := 6) hx hb dX9_hasRightCount_112 (by decide) ?_
    refine lv_icmp_gt (tgt := 121) hx hb dX9_hasRightCount_114 (by decide) (fun c_41 => ?_) (fun c_41 => ?_)
    · have h_42 : iv 7 2000000 z_40 := iv_ltR c_41 (iv_k (by decide) : iv 6 6 6) hz_40 (by decide)
      refine lv_iconst (v := 0) hx hb dX9_hasRightCount_121 (by decide) ?_
      exact hj122 0 hvx hvo (iv_w (iv_k (by decide) : iv 0 0 0) (by decide)) _ _ _ hP hD hS (lv_sub hl [0, 1] rfl)
    · have h_43 : iv 0 6 z_40 := iv_leL (i32_ge c_41) hz_40 (iv_k (by decide) : iv 6 6 6) (by decide)
      refine lv_iconst (v := 1) hx hb dX9_hasRightCount_117 (by decide) ?_
      refine lv_goto (tgt := 122) hx hb dX9_hasRightCount_118 (by decide) ?_
      exact hj122 1 hvx hvo (iv_w (iv_k (by decide) : iv 1 1 1) (by decide)) _ _ _ hP hD hS (lv_sub hl [0, 1] rfl)
  refine lv_tableOut (tgt := 123) hx hb dX9_hasRightCount_11 (by have q1 := (hz_25).1; have q2 := (hz_25).2; omega) (by decide) ?_
  exact hj123 hvx hvo _ _ _ hP hD hS (lv_sub hl [0, 1] rfl)

set_option maxHeartbeats 4000000 in
set_option maxRecDepth 100000 in
theorem d_isRightS (l : Launch) (dC : Nat → ClassId) (dI : Nat → Nat → Nat) (ad : Nat → Nat → Nat) (cid : Nat → ClassId) (a2 : Nat → Nat) (lx : List Nat) (sg : Nat → Int32) (gm : Nat → Nat → Int32) (lg : Nat → Nat → Int64) (x : Int32) (o : Int32) (hI : CI sg gm) (hvx : iv 0 0 x) (hvo : iv 0 79 o) (hFA : FA sg gm) (how : o.toInt < (sg 4).toInt) (hVS : VS sg gm) (hLK : LK sg gm) : CMt dC dI ad cid a2 lx l yX9_isRight wm_X9_isRight ({ frames := 5, cells := 1, slots := 6, locals := 120 }) [eV (ad 3) x, eV (ad 9) o] sg gm lg (fun v u => ∃ r : Int32, v = some (.int r) ∧ u = (sg, gm, lg) ∧ (iv 0 1 r) ∧ (r.toInt = 0 ∨ SOK gm lg o.toNatClampNeg)) (fun _ _ => False) := by
  intro sz
  refine vx_ofW (cc := cX9_isRight) (maxL := 2) (ret := (some .boolean)) (by decide) rfl ?_
  intro p e s m args below meth c s₁ B hml hxt hv
  obtain ⟨rfl, hsz, hP, hK, hD0, hG⟩ := hv
  have hx := B.exec
  have hb := B.bytes
  have hr := B.returns
  have hts := atoms_spec (ws := wm_X9_isRight) B.pre
  have htb := fun (w : Cond) (h : w ∈ tb) => hts w (List.mem_cons_of_mem _ h)
  have hown : s.vm.findClass RX9 = some m.cls := findClass_of_methodNamed B.named
  have hlocks := B.notSynchronized
  subst hsz
  have hD := hD0.self (sz := s.heap.size)
  generalize hAe : va_A (cW ad cid a2 lx sg gm lg) s.heap.size = A at hD hG ⊢
  have hA : ∀ q : Nat, s.heap.size ≤ q → A q := fun q h => by rw [← hAe]; exact Or.inr h
  have hS : va_S A s.heap s.heap [] := va_S.rf
  have hl := lv_entry ([eV (ad 3) x, eV (ad 9) o]) (n := 2) (by rw [show (lg_sl ([eV (ad 3) x, eV (ad 9) o])).length = 2 from by simp [lg_sl, eV_cat, cat_i, cat_l]]; exact Nat.le_of_ble_eq_true rfl)
  rw [lg_entry_eq]
  generalize (lg_sl ([eV (ad 3) x, eV (ad 9) o]) ++ List.replicate (2 - (lg_sl ([eV (ad 3) x, eV (ad 9) o])).length) Slot.unset).toArray = ls at hl ⊢
  have hl : lv_has ls 2 [(0, eV (ad 3) x), (1, eV (ad 9) o)] := by simp [lv_args, eV_cat, cat_i, cat_l] at hl; exact hl
  have hj61 : ∀ (y0_61 : Int32) (_ : iv 0 0 x) (_ : iv 0 79 o) (_ : iv 0 1 y0_61) (_ : y0_61.toInt = 0 ∨ SOK gm lg o.toNatClampNeg) (H : Heap) (locs : List Loc) (ls : Array Slot), va_P (dC, dI) vwCl (cW ad cid a2 lx sg gm lg) H → va_D A (cW ad cid a2 lx sg gm lg) → va_S A s.heap H locs → lv_has ls 2 [(0, eV (ad 3) x), (1, eV (ad 9) o)] → W p l e (headSpec wm_X9_isRight ({ frames := 5, cells := 1, slots := 6, locals := 120 })).room s m ([eV (ad 3) x, eV (ad 9) o] : List Value).toArray below meth c H locs 0 0 (vx_MQ below (cQx dC dI ad cid a2 lx (fun v u => ∃ r : Int32, v = some (.int r) ∧ u = (sg, gm, lg) ∧ (iv 0 1 r) ∧ (r.toInt = 0 ∨ SOK gm lg o.toNatClampNeg)) A) (cX dC dI ad cid a2 lx (fun _ _ => False) A) ([eV (ad 3) x, eV (ad 9) o] : List Value).toArray s 1 6 A) (F0 m 61 ls [.int y0_61]) := by
    intro y0_61 hsx0_61 hsx1_61 hy0_61 hSR H locs ls hP hD hS hl
    exact W.nb (fun hN => W.widen (k := 1) (n := 6) (by decide) (by decide) (vx_ret (W.zret (v := y0_61) hx hb hr (iv_nb hy0_61) (fun t ht hW => ⟨⟨some (.int y0_61), (sg, gm, lg), rfl, ⟨y0_61, rfl, rfl, hy0_61, (hSR)⟩, by rw [ht]; exact hP, va_K.moved hW.alike hK, hD⟩, hS.F ht, by rw [ht]; exact hN⟩) hS.2.2 dX9_isRight_61)))
  have hj60 : ∀ (_ : iv 0 0 x) (_ : iv 0 79 o) (H : Heap) (locs : List Loc) (ls : Array Slot), va_P (dC, dI) vwCl (cW ad cid a2 lx sg gm lg) H → va_D A (cW ad cid a2 lx sg gm lg) → va_S A s.heap H locs → lv_has ls 2 [(0, eV (ad 3) x), (1, eV (ad 9) o)] → W p l e (headSpec wm_X9_isRight ({ frames := 5, cells := 1, slots := 6, locals := 120 })).room s m ([eV (ad 3) x, eV (ad 9) o] : List Value).toArray below meth c H locs 0 0 (vx_MQ below (cQx dC dI ad cid a2 lx (fun v u => ∃ r : Int32, v = some (.int r) ∧ u = (sg, gm, lg) ∧ (iv 0 1 r) ∧ (r.toInt = 0 ∨ SOK gm lg o.toNatClampNeg)) A) (cX dC dI ad cid a2 lx (fun _ _ => False) A) ([eV (ad 3) x, eV (ad 9) o] : List Value).toArray s 1 6 A) (F0 m 60 ls []) := by
    intro  hsx0_60 hsx1_60 H locs ls hP hD hS hl
    refine lv_iconst (v := 0) hx hb dX9_isRight_60 (by decide) ?_
    exact hj61 0 hsx0_60 hsx1_60 (iv_w (iv_k (by decide) : iv 0 0 0) (by decide)) (Or.inl rfl) _ _ _ hP hD hS (lv_sub hl [0, 1] rfl)
  have hj48 : ∀ (_ : iv 0 0 x) (_ : iv 0 79 o) (_ : SOK gm lg o.toNatClampNeg) (H : Heap) (locs : List Loc) (ls : Array Slot), va_P (dC, dI) vwCl (cW ad cid a2 lx sg gm lg) H → va_D A (cW ad cid a2 lx sg gm lg) → va_S A s.heap H locs → lv_has ls 2 [(0, eV (ad 3) x), (1, eV (ad 9) o)] → W p l e (headSpec wm_X9_isRight ({ frames := 5, cells := 1, slots := 6, locals := 120 })).room s m ([eV (ad 3) x, eV (ad 9) o] : List Value).toArray below meth c H locs 0 0 (vx_MQ below (cQx dC dI ad cid a2 lx (fun v u => ∃ r : Int32, v = some (.int r) ∧ u = (sg, gm, lg) ∧ (iv 0 1 r) ∧ (r.toInt = 0 ∨ SOK gm lg o.toNatClampNeg)) A) (cX dC dI ad cid a2 lx (fun _ _ => False) A) ([eV (ad 3) x, eV (ad 9) o] : List Value).toArray s 1 6 A) (F0 m 48 ls []) := by
    intro  hsx0_48 hsx1_48 hSO H locs ls hP hD hS hl
    refine ec_aload_n hx hb dX9_isRight_48 rfl (lv_at hl 0 rfl) ?_
    refine ec_aload_n hx hb dX9_isRight_49 rfl (lv_at hl 1 rfl) ?_
    refine cm_callV (t := 3) (C := RX9) (T := TX9) (N := 1) (rest := []) (as := [eV (ad 9) o]) ⟨hx, hb, hml, hown, htb⟩ (d_hasRightCount l dC dI ad cid a2 lx sg gm lg x o hI hsx0_48 hsx1_48 hFA how hVS hSO.1) (cwV 1 htb (gd_V kw_617 kw_618 kw_619 kw_28 kw_1483) rfl rfl rfl (by decide +kernel) ⟨Nat.le_of_ble_eq_true rfl, Nat.le_of_ble_eq_true rfl⟩) hsx0_48 (by decide) (by decide) rfl rfl hl.1 rfl (Nat.le_trans cs_n (by decide)) dX9_isRight_50 ⟨Nat.le_of_ble_eq_true rfl, Nat.le_of_ble_eq_true rfl⟩ hK hP hD hS hA hG (fun E ce q9 u_2 H locs hw hP hD hS hce hcv hcl => ?_) (fun v9 u_2 H locs hw hP hD hS => ?_)
    · exact hw.elim
    obtain ⟨r_1, rfl, rfl, hr_1⟩ := hw
    have hP : va_P (dC, dI) vwCl (cW ad cid a2 lx sg gm lg) H := hP
    have hD : va_D A (cW ad cid a2 lx sg gm lg) := hD
    refine W.eq (g2 := F0 m 53 ls [.int r_1]) rfl ?_
    refine lv_if_eq (tgt := 60) hx hb dX9_isRight_53 (by decide) (fun c_4 => ?_) (fun c_4 => ?_)
    · have h_5 : iv 0 0 r_1 := iv_eq c_4 hr_1 (iv_k (by decide) : iv 0 0 0) (by decide)
      exact hj60 hsx0_48 hsx1_48 _ _ _ hP hD hS (lv_sub hl [0, 1] rfl)
    · have h_6 : iv 1 1 r_1 := iv_neL c_4 hr_1 (by decide)
      refine lv_iconst (v := 1) hx hb dX9_isRight_56 (by decide) ?_
      refine lv_goto (tgt := 61) hx hb dX9_isRight_57 (by decide) ?_
      exact hj61 1 hsx0_48 hsx1_48 (iv_w (iv_k (by decide) : iv 1 1 1) (by decide)) (Or.inr hSO) _ _ _ hP hD hS (lv_sub hl [0, 1] rfl)
  refine ec_aload_n hx hb dX9_isRight_0 rfl (lv_at hl 1 rfl) ?_
  refine cr_get (t := 9) (j := 4) (C := RX3) (T := TX3) (N := 21) (v := eV (ad 33) (gm 14 o.toNatClampNeg)) hx hb htb inX3 hown hK hP hvo (by decide) (by decide) (by decide) rfl (by decide) (htb _ kw_508) rfl dX9_isRight_1 ?_
  obtain ⟨z_7, ez_7⟩ : ∃ z : Int32, z = (gm 14 o.toNatClampNeg) := ⟨_, rfl⟩
  refine W.eq (g2 := F0 m 4 ls [eV (ad 33) z_7]) (by rw [ez_7]) ?_
  have hz_7 : iv (-1) 33 z_7 := iv_of ez_7 (CI_a hI 14 hvo (by decide))
  refine ec_ifnull (tgt := 60) hx hb dX9_isRight_4 (by decide) (fun c_8 => ?_) (fun c_8 => ?_)
  · have h_9 : iv (-1) (-1) z_7 := ⟨(hz_7).1, by omega⟩
    exact hj60 hvx hvo _ _ _ hP hD hS (lv_sub hl [0, 1] rfl)
  · have h_10 : iv 0 33 z_7 := ⟨c_8, (hz_7).2⟩
    have hw0 : 0 ≤ (gm 14 o.toNatClampNeg).toInt := by rw [← ez_7]; exact (h_10).1
    refine ec_aload_n hx hb dX9_isRight_7 rfl (lv_at hl 0 rfl) ?_
    refine ec_aload_n hx hb dX9_isRight_8 rfl (lv_at hl 1 rfl) ?_
    refine cm_callV (t := 3) (C := RX9) (T := TX9) (N := 1) (rest := []) (as := [eV (ad 9) o]) ⟨hx, hb, hml, hown, htb⟩ (d_standsRight l dC dI ad cid a2 lx sg gm lg x o hI hvx hvo hFA how hVS hLK hw0) (cwV 1 htb (gd_V kw_511 kw_512 kw_513 kw_28 kw_1460) rfl rfl rfl (by decide +kernel) ⟨Nat.le_of_ble_eq_true rfl, Nat.le_of_ble_eq_true rfl⟩) hvx (by decide) (by decide) rfl rfl hl.1 rfl (Nat.le_trans cs_n (by decide)) dX9_isRight_9 ⟨Nat.le_of_ble_eq_true rfl, Nat.le_of_ble_eq_true rfl⟩ hK hP hD hS hA hG (fun E ce q9 u_12 H locs hw hP hD hS hce hcv hcl => ?_) (fun v9 u_12 H locs hw hP hD hS => ?_)
    · exact hw.elim
    obtain ⟨r_11, rfl, rfl, hr_11, fS_r_11⟩ := hw
    have hP : va_P (dC, dI) vwCl (cW ad cid a2 lx sg gm lg) H := hP
    have hD : va_D A (cW ad cid a2 lx sg gm lg) := hD
    refine W.eq (g2 := F0 m 12 ls [.int r_11]) rfl ?_
    refine lv_if_eq (tgt := 60) hx hb dX9_isRight_12 (by decide) (fun c_14 => ?_) (fun c_14 => ?_)
    · have h_15 : iv 0 0 r_11 := iv_eq c_14 hr_11 (iv_k (by decide) : iv 0 0 0) (by decide)
      exact hj60 hvx hvo _ _ _ hP hD hS (lv_sub hl [0, 1] rfl)
    · have h_16 : iv 1 1 r_11 := iv_neL c_14 hr_11 (by decide)
      refine ec_aload_n hx hb dX9_isRight_15 rfl (lv_at hl 0 rfl) ?_
      refine ec_aload_n hx hb dX9_isRight_16 rfl (lv_at hl 1 rfl) ?_
      refine cm_callV (t := 3) (C := RX9) (T := TX9) (N := 1) (rest := []) (as := [eV (ad 9) o]) ⟨hx, hb, hml, hown, htb⟩ (d_hasRightAttributes l dC dI ad cid a2 lx sg gm lg x o hI hvx hvo hFA how hVS hw0) (cwV 1 htb (gd_V kw_555 kw_556 kw_557 kw_28 kw_1470) rfl rfl rfl (by decide +kernel) ⟨Nat.le_of_ble_eq_true rfl, Nat.le_of_ble_eq_true rfl⟩) hvx (by decide) (by decide) rfl rfl hl.1 rfl (Nat.le_trans cs_n (by decide)) dX9_isRight_17 ⟨Nat.le_of_ble_eq_true rfl, Nat.le_of_ble_eq_true rfl⟩ hK hP hD hS hA hG (fun E ce q9 u_18 H locs hw hP hD hS hce hcv hcl => ?_) (fun v9 u_18 H locs hw hP hD hS => ?_)
      · exact hw.elim
      obtain ⟨r_17, rfl, rfl, hr_17, fR_r_17, fRb_r_17⟩ := hw
      have hP : va_P (dC, dI) vwCl (cW ad cid a2 lx sg gm lg) H := hP
      have hD : va_D A (cW ad cid a2 lx sg gm lg) := hD
      refine W.eq (g2 := F0 m 20 ls [.int r_17]) rfl ?_
      refine lv_if_eq (tgt := 60) hx hb dX9_isRight_20 (by decide) (fun c_20 => ?_) (fun c_20 => ?_)
      · have h_21 : iv 0 0 r_17 := iv_eq c_20 hr_17 (iv_k (by decide) : iv 0 0 0) (by decide)
        exact hj60 hvx hvo _ _ _ hP hD hS (lv_sub hl [0, 1] rfl)
      · have h_22 : iv 1 1 r_17 := iv_neL c_20 hr_17 (by decide)
        refine ec_aload_n hx hb dX9_isRight_23 rfl (lv_at hl 0 rfl) ?_
        refine ec_aload_n hx hb dX9_isRight_24 rfl (lv_at hl 1 rfl) ?_
        refine cm_callV (t := 3) (C := RX9) (T := TX9) (N := 1) (rest := []) (as := [eV (ad 9) o]) ⟨hx, hb, hml, hown, htb⟩ (d_hasWhatItNeeds l dC dI ad cid a2 lx sg gm lg x o hI hvx hvo hFA how hVS hw0) (cwV 1 htb (gd_V kw_601 kw_602 kw_603 kw_28 kw_1480) rfl rfl rfl (by decide +kernel) ⟨Nat.le_of_ble_eq_true rfl, Nat.le_of_ble_eq_true rfl⟩) hvx (by decide) (by decide) rfl rfl hl.1 rfl (Nat.le_trans cs_n (by decide)) dX9_isRight_25 ⟨Nat.le_of_ble_eq_true rfl, Nat.le_of_ble_eq_true rfl⟩ hK hP hD hS hA hG (fun E ce q9 u_24 H locs hw hP hD hS hce hcv hcl => ?_) (fun v9 u_24 H locs hw hP hD hS => ?_)
        · exact hw.elim
        obtain ⟨r_23, rfl, rfl, hr_23, fN_r_23⟩ := hw
        have hP : va_P (dC, dI) vwCl (cW ad cid a2 lx sg gm lg) H := hP
        have hD : va_D A (cW ad cid a2 lx sg gm lg) := hD
        refine W.eq (g2 := F0 m 28 ls [.int r_23]) rfl ?_
        refine lv_if_eq (tgt := 60) hx hb dX9_isRight_28 (by decide) (fun c_26 => ?_) (fun c_26 => ?_)
        · have h_27 : iv 0 0 r_23 := iv_eq c_26 hr_23 (iv_k (by decide) : iv 0 0 0) (by decide)
          exact hj60 hvx hvo _ _ _ hP hD hS (lv_sub hl [0, 1] rfl)
        · have h_28 : iv 1 1 r_23 := iv_neL c_26 hr_23 (by decide)
          refine ec_aload_n hx hb dX9_isRight_31 rfl (lv_at hl 1 rfl) ?_
          refine cr_get (t := 9) (j := 1) (C := RX3) (T := TX3) (N := 21) (v := .int (gm 11 o.toNatClampNeg)) hx hb htb inX3 hown hK hP hvo (by decide) (by decide) (by decide) rfl (by decide) (htb _ kw_509) rfl dX9_isRight_32 ?_
          obtain ⟨z_29, ez_29⟩ : ∃ z : Int32, z = (gm 11 o.toNatClampNeg) := ⟨_, rfl⟩
          refine W.eq (g2 := F0 m 35 ls [.int z_29]) (by rw [ez_29]) ?_
          have hz_29 : iv 0 24 z_29 := iv_of ez_29 (CI_a hI 11 hvo (by decide))
          refine lv_if_eq (tgt := 48) hx hb dX9_isRight_35 (by decide) (fun c_30 => ?_) (fun c_30 => ?_)
          · have h_31 : iv 0 0 z_29 := iv_eq c_30 hz_29 (iv_k (by decide) : iv 0 0 0) (by decide)
            exact hj48 hvx hvo (SOK_mk hw0 (fS_r_11.resolve_left (by have := i32_0; have := i32_1; have := i32_2; have := i32_m1; have := (hvx).1; have := (hvx).2; have := (hvo).1; have := (hvo).2; have := (h_10).1; have := (h_10).2; have := (h_16).1; have := (h_16).2; have := (h_22).1; have := (h_22).2; have := (h_28).1; have := (h_28).2; have := (h_31).1; have := (h_31).2; omega)) (fR_r_17.resolve_left (by have := i32_0; have := i32_1; have := i32_2; have := i32_m1; have := (hvx).1; have := (hvx).2; have := (hvo).1; have := (hvo).2; have := (h_10).1; have := (h_10).2; have := (h_16).1; have := (h_16).2; have := (h_22).1; have := (h_22).2; have := (h_28).1; have := (h_28).2; have := (h_31).1; have := (h_31).2; omega)) (fRb_r_17.resolve_left (by have := i32_0; have := i32_1; have := i32_2; have := i32_m1; have := (hvx).1; have := (hvx).2; have := (hvo).1; have := (hvo).2; have := (h_10).1; have := (h_10).2; have := (h_16).1; have := (h_16).2; have := (h_22).1; have := (h_22).2; have := (h_28).1; have := (h_28).2; have := (h_31).1; have := (h_31).2; omega)) (fN_r_23.resolve_left (by have := i32_0; have := i32_1; have := i32_2; have := i32_m1; have := (hvx).1; have := (hvx).2; have := (hvo).1; have := (hvo).2; have := (h_10).1; have := (h_10).2; have := (h_16).1; have := (h_16).2; have := (h_22).1; have := (h_22).2; have := (h_28).1; have := (h_28).2; have := (h_31).1; have := (h_31).2; omega))) _ _ _ hP hD hS (lv_sub hl [0, 1] rfl)
          · have h_32 : iv 1 24 z_29 := iv_neL c_30 hz_29 (by decide)
            refine ec_aload_n hx hb dX9_isRight_38 rfl (lv_at hl 1 rfl) ?_
            refine cr_get (t := 9) (j := 4) (C := RX3) (T := TX3) (N := 21) (v := eV (ad 33) (gm 14 o.toNatClampNeg)) hx hb htb inX3 hown hK hP hvo (by decide) (by decide) (by decide) rfl (by decide) (htb _ kw_508) rfl dX9_isRight_39 ?_
            refine W.eq (g2 := F0 m 42 ls [eV (ad 33) z_7]) (by rw [show (gm 14 o.toNatClampNeg) = z_7 from ez_7.symm]) ?_
            refine cw_word (k := 7) (kx := 7) hx hb hG hS (by decide) rfl ⟨by decide, by decide⟩ hown (htb _ kw_510) dX9_isRight_42 ?_
            refine ec_acmp_ne (tgt := 60) hx hb dX9_isRight_45 (by decide) (fun c_33 => ?_) (fun c_33 => ?_)
            · have wc_33 : ¬ z_7.toInt = (7 : Int) := fun q9 => c_33 (congrArg (er (ad 33)) (Int32.toInt_inj.mp q9))
              exact hj60 hvx hvo _ _ _ hP hD hS (lv_sub hl [0, 1] rfl)
            · have wc_33 : z_7.toInt = (7 : Int) := er_wd hG (iv_w h_10 (by decide)) (iv_w (iv_k (by decide) : iv 7 7 7) (by decide)) c_33
              exact hj48 hvx hvo (SOK_mk hw0 (fS_r_11.resolve_left (by have := i32_0; have := i32_1; have := i32_2; have := i32_m1; have := (hvx).1; have := (hvx).2; have := (hvo).1; have := (hvo).2; have := (h_10).1; have := (h_10).2; have := (h_16).1; have := (h_16).2; have := (h_22).1; have := (h_22).2; have := (h_28).1; have := (h_28).2; have := (h_32).1; have := (h_32).2; omega)) (fR_r_17.resolve_left (by have := i32_0; have := i32_1; have := i32_2; have := i32_m1; have := (hvx).1; have := (hvx).2; have := (hvo).1; have := (hvo).2; have := (h_10).1; have := (h_10).2; have := (h_16).1; have := (h_16).2; have := (h_22).1; have := (h_22).2; have := (h_28).1; have := (h_28).2; have := (h_32).1; have := (h_32).2; omega)) (fRb_r_17.resolve_left (by have := i32_0; have := i32_1; have := i32_2; have := i32_m1; have := (hvx).1; have := (hvx).2; have := (hvo).1; have := (hvo).2; have := (h_10).1; have := (h_10).2; have := (h_16).1; have := (h_16).2; have := (h_22).1; have := (h_22).2; have := (h_28).1; have := (h_28).2; have := (h_32).1; have := (h_32).2; omega)) (fN_r_23.resolve_left (by have := i32_0; have := i32_1; have := i32_2; have := i32_m1; have := (hvx).1; have := (hvx).2; have := (hvo).1; have := (hvo).2; have := (h_10).1; have := (h_10).2; have := (h_16).1; have := (h_16).2; have := (h_22).1; have := (h_22).2; have := (h_28).1; have := (h_28).2; have := (h_32).1; have := (h_32).2; omega))) _ _ _ hP hD hS (lv_sub hl [0, 1] rfl)

set_option maxHeartbeats 4000000 in
set_option maxRecDepth 100000 in
theorem d_firstWrongS (l : Launch) (dC : Nat → ClassId) (dI : Nat → Nat → Nat) (ad : Nat → Nat → Nat) (cid : Nat → ClassId) (a2 : Nat → Nat) (lx : List Nat) (sg : Nat → Int32) (gm : Nat → Nat → Int32) (lg : Nat → Nat → Int64) (x : Int32) (hI : CI sg gm) (hvx : iv 0 0 x) (hFA : FA sg gm) (hVS : VS sg gm) (hLK : LK sg gm) : CMt dC dI ad cid a2 lx l yX9_firstWrongPlace wm_X9_firstWrongPlace ({ frames := 6, cells := 1, slots := 6, locals := 141 }) [eV (ad 3) x] sg gm lg (fun v u => ∃ r : Int32, v = some (.int r) ∧ u = (sg, gm, lg) ∧ (iv (-1) 1201 r) ∧ (r.toInt = -1 → ∀ j9, j9 < (sg 4).toNatClampNeg → SOK gm lg j9)) (fun _ _ => False) := by
  intro sz
  refine vx_ofW (cc := cX9_firstWrongPlace) (maxL := 2) (ret := (some .int)) (by decide) rfl ?_
  intro p e s m args below meth c s₁ B hml hxt hv
  obtain ⟨rfl, hsz, hP, hK, hD0, hG⟩ := hv
  have hx := B.exec
  have hb := B.bytes
  have hr := B.returns
  have hts := atoms_spec (ws := wm_X9_firstWrongPlace) B.pre
  have htb := fun (w : Cond) (h : w ∈ tb) => hts w (List.mem_cons_of_mem _ h)
  have hown : s.vm.findClass RX9 = some m.cls := findClass_of_methodNamed B.named
  have hlocks := B.notSynchronized
  subst hsz
  have hD := hD0.self (sz := s.heap.size)
  generalize hAe : va_A (cW ad cid a2 lx sg gm lg) s.heap.size = A at hD hG ⊢
  have hA : ∀ q : Nat, s.heap.size ≤ q → A q := fun q h => by rw [← hAe]; exact Or.inr h
  have hS : va_S A s.heap s.heap [] := va_S.rf
  have hl := lv_entry ([eV (ad 3) x]) (n := 2) (by rw [show (lg_sl ([eV (ad 3) x])).length = 1 from by simp [lg_sl, eV_cat, cat_i, cat_l]]; exact Nat.le_of_ble_eq_true rfl)
  rw [lg_entry_eq]
  generalize (lg_sl ([eV (ad 3) x]) ++ List.replicate (2 - (lg_sl ([eV (ad 3) x])).length) Slot.unset).toArray = ls at hl ⊢
  have hl : lv_has ls 2 [(0, eV (ad 3) x)] := by simp [lv_args, eV_cat, cat_i, cat_l] at hl; exact hl
  have hj2 : ∀ (n : Nat) (x1_2 : Int32) (_ : (80 - x1_2.toInt).toNat = n) (_ : iv 0 80 x1_2) (_ : iv 0 0 x) (_ : ∀ j9, j9 < x1_2.toNatClampNeg → SOK gm lg j9) (H : Heap) (locs : List Loc) (ls : Array Slot), va_P (dC, dI) vwCl (cW ad cid a2 lx sg gm lg) H → va_D A (cW ad cid a2 lx sg gm lg) → va_S A s.heap H locs → lv_has ls 2 [(1, .int x1_2), (0, eV (ad 3) x)] → W p l e (headSpec wm_X9_firstWrongPlace ({ frames := 6, cells := 1, slots := 6, locals := 141 })).room s m ([eV (ad 3) x] : List Value).toArray below meth c H locs 0 0 (vx_MQ below (cQx dC dI ad cid a2 lx (fun v u => ∃ r : Int32, v = some (.int r) ∧ u = (sg, gm, lg) ∧ (iv (-1) 1201 r) ∧ (r.toInt = -1 → ∀ j9, j9 < (sg 4).toNatClampNeg → SOK gm lg j9)) A) (cX dC dI ad cid a2 lx (fun _ _ => False) A) ([eV (ad 3) x] : List Value).toArray s 1 6 A) (F0 m 2 ls []) := by
    intro n
    induction n using Nat.strongRecOn with
    | ind n ih2 =>
      intro x1_2 hn2 hx1_2 hsx0_2 hall H locs ls hP hD hS hl
      refine lv_iload_n hx hb dX9_firstWrongPlace_2 rfl (lv_at hl 0 rfl) ?_
      refine ec_aload_n hx hb dX9_firstWrongPlace_3 rfl (lv_at hl 1 rfl) ?_
      refine cr_get (t := 3) (j := 0) (C := RX9) (T := TX9) (N := 1) (v := eV (ad 1) 0) hx hb htb inX9 hown hK hP hsx0_2 (by decide) (by decide) (by decide) rfl (by decide) (htb _ kw_82) (cV_c rfl (by decide) (by rw [show cMu 3 0 = 0 from rfl, Nat.zero_mul]; rfl)) dX9_firstWrongPlace_4 ?_
      refine cm_callV (t := 1) (C := RX6) (T := TX6) (N := 8) (rest := [.int x1_2]) (as := []) ⟨hx, hb, hml, hown, htb⟩ (d_countPa l dC dI ad cid a2 lx sg gm lg 0 hI (iv_k (by decide) : iv 0 0 0)) (cwV 0 htb (gd_V kw_499 kw_500 kw_501 kw_20 kw_1457) rfl rfl rfl (by decide +kernel) ⟨Nat.le_of_ble_eq_true rfl, Nat.le_of_ble_eq_true rfl⟩) (iv_k (by decide) : iv 0 0 0) (by decide) (by decide) rfl rfl hl.1 rfl (Nat.le_trans (cs_c (cat_i _) cs_n) (by decide)) dX9_firstWrongPlace_7 ⟨Nat.le_of_ble_eq_true rfl, Nat.le_of_ble_eq_true rfl⟩ hK hP hD hS hA hG (fun E ce q9 u_2 H locs hw hP hD hS hce hcv hcl => ?_) (fun v9 u_2 H locs hw hP hD hS => ?_)
      · exact hw.elim
      obtain ⟨r_1, rfl, rfl, hr_1, fr_r_1⟩ := hw
      have hP : va_P (dC, dI) vwCl (cW ad cid a2 lx sg gm lg) H := hP
      have hD : va_D A (cW ad cid a2 lx sg gm lg) := hD
      refine W.eq (g2 := F0 m 10 ls [.int r_1, .int x1_2]) rfl ?_
      refine lv_icmp_ge (tgt := 46) hx hb dX9_firstWrongPlace_10 (by decide) (fun c_4 => ?_) (fun c_4 => ?_)
      · have d_5 : (r_1 : Int32).toInt ≤ (x1_2 : Int32).toInt := Int32.le_iff_toInt_le.mp c_4
        refine lv_iconst (v := (-1)) hx hb dX9_firstWrongPlace_46 (by decide) ?_
        exact W.nb (fun hN => W.widen (k := 1) (n := 6) (by decide) (by decide) (vx_ret (W.iret (v := (-1)) hx hb hr (fun t ht hW => ⟨⟨some (.int (-1)), (sg, gm, lg), rfl, ⟨(-1), rfl, rfl, (iv_w (iv_k (by decide) : iv (-1) (-1) (-1)) (by decide)), (fun _ j9 q9 => hall j9 (by have q1 : (sg 4).toNatClampNeg = (sg 4).toInt.toNat := rfl; have q2 : x1_2.toNatClampNeg = x1_2.toInt.toNat := rfl; have q3 := congrArg Int32.toInt fr_r_1; have := i32_0; have := i32_1; have := i32_2; have := i32_m1; have := (show iv 0 80 (sg 4) from CI_s hI 4).1; have := (show iv 0 80 (sg 4) from CI_s hI 4).2; have := (hsx0_2).1; have := (hsx0_2).2; have := (hx1_2).1; have := (hx1_2).2; have := (hr_1).1; have := (hr_1).2; omega))⟩, by rw [ht]; exact hP, va_K.moved hW.alike hK, hD⟩, hS.F ht, by rw [ht]; exact hN⟩) hS.2.2 dX9_firstWrongPlace_47)))
      · have d_6 : (x1_2 : Int32).toInt < (r_1 : Int32).toInt := Int32.lt_iff_toInt_lt.mp (i32_lt c_4)
        have h_7 : iv 0 79 x1_2 := iv_ltL (i32_lt c_4) hx1_2 hr_1 (by decide)
        have h_8 : iv 1 80 r_1 := iv_ltR (i32_lt c_4) hx1_2 hr_1 (by decide)
        refine ec_aload_n hx hb dX9_firstWrongPlace_13 rfl (lv_at hl 1 rfl) ?_
        refine ec_aload_n hx hb dX9_firstWrongPlace_14 rfl (lv_at hl 1 rfl) ?_
        refine cr_get (t := 3) (j := 0) (C := RX9) (T := TX9) (N := 1) (v := eV (ad 1) 0) hx hb htb inX9 hown hK hP hsx0_2 (by decide) (by decide) (by decide) rfl (by decide) (htb _ kw_82) (cV_c rfl (by decide) (by rw [show cMu 3 0 = 0 from rfl, Nat.zero_mul]; rfl)) dX9_firstWrongPlace_15 ?_
        refine lv_iload_n hx hb dX9_firstWrongPlace_18 rfl (lv_at hl 0 rfl) ?_
        refine cm_callV (t := 1) (C := RX6) (T := TX6) (N := 8) (rest := [eV (ad 3) x]) (as := [.int x1_2]) ⟨hx, hb, hml, hown, htb⟩ (d_element l dC dI ad cid a2 lx sg gm lg 0 x1_2 hI (iv_k (by decide) : iv 0 0 0) h_7) (cwV 1 htb (gd_V kw_502 kw_503 kw_504 kw_20 kw_1458) rfl rfl rfl (by decide +kernel) ⟨Nat.le_of_ble_eq_true rfl, Nat.le_of_ble_eq_true rfl⟩) (iv_k (by decide) : iv 0 0 0) (by decide) (by decide) rfl rfl hl.1 rfl (Nat.le_trans (cs_c (eV_cat _ _) cs_n) (by decide)) dX9_firstWrongPlace_19 ⟨Nat.le_of_ble_eq_true rfl, Nat.le_of_ble_eq_true rfl⟩ hK hP hD hS hA hG (fun E ce q9 u_10 H locs hw hP hD hS hce hcv hcl => ?_) (fun v9 u_10 H locs hw hP hD hS => ?_)
        · exact hw.elim
        obtain ⟨r_9, rfl, rfl, hr_9, fr_r_9⟩ := hw
        have hP : va_P (dC, dI) vwCl (cW ad cid a2 lx sg gm lg) H := hP
        have hD : va_D A (cW ad cid a2 lx sg gm lg) := hD
        refine W.eq (g2 := F0 m 22 ls [eV (ad 9) r_9, eV (ad 3) x]) rfl ?_
        refine cm_callV (t := 3) (C := RX9) (T := TX9) (N := 1) (rest := []) (as := [eV (ad 9) r_9]) ⟨hx, hb, hml, hown, htb⟩ (d_isRightS l dC dI ad cid a2 lx sg gm lg x r_9 hI hsx0_2 hr_9 hFA (by have q3 := congrArg Int32.toInt fr_r_1; have q4 := congrArg Int32.toInt fr_r_9; have := i32_0; have := i32_1; have := i32_2; have := i32_m1; have := (show iv 0 80 (sg 4) from CI_s hI 4).1; have := (show iv 0 80 (sg 4) from CI_s hI 4).2; have := (hsx0_2).1; have := (hsx0_2).2; have := (h_7).1; have := (h_7).2; have := (h_8).1; have := (h_8).2; have := (hr_9).1; have := (hr_9).2; omega) hVS hLK) (cwV 1 htb (gd_V kw_505 kw_506 kw_507 kw_28 kw_1459) rfl rfl rfl (by decide +kernel) ⟨Nat.le_of_ble_eq_true rfl, Nat.le_of_ble_eq_true rfl⟩) hsx0_2 (by decide) (by decide) rfl rfl hl.1 rfl (Nat.le_trans cs_n (by decide)) dX9_firstWrongPlace_22 ⟨Nat.le_of_ble_eq_true rfl, Nat.le_of_ble_eq_true rfl⟩ hK hP hD hS hA hG (fun E ce q9 u_13 H locs hw hP hD hS hce hcv hcl => ?_) (fun v9 u_13 H locs hw hP hD hS => ?_)
        · exact hw.elim
        obtain ⟨r_12, rfl, rfl, hr_12, fO_r_12⟩ := hw
        have hP : va_P (dC, dI) vwCl (cW ad cid a2 lx sg gm lg) H := hP
        have hD : va_D A (cW ad cid a2 lx sg gm lg) := hD
        refine W.eq (g2 := F0 m 25 ls [.int r_12]) rfl ?_
        refine lv_if_ne (tgt := 40) hx hb dX9_firstWrongPlace_25 (by decide) (fun c_15 => ?_) (fun c_15 => ?_)
        · have h_16 : iv 1 1 r_12 := iv_neL c_15 hr_12 (by decide)
          obtain ⟨z_17, ez_17⟩ : ∃ z : Int32, z = x1_2 + 1 := ⟨_, rfl⟩
          have hz_17 : iv 1 80 z_17 := iv_of ez_17 (iv_add h_7 (iv_k (by decide) : iv 1 1 1) (by decide))
          have tz_17 : z_17.toInt = x1_2.toInt + 1 := by rw [ez_17]; exact iv_addE h_7 (iv_k (by decide) : iv 1 1 1) (by decide)
          refine lv_iinc (v := z_17) (lv' := [(1, .int z_17), (0, eV (ad 3) x)]) hx hb dX9_firstWrongPlace_40 hl (k := 0) rfl ez_17.symm (by decide) (by simp [List.filter, eV_cat, cat_i, cat_l]) (fun ls hl => ?_)
          refine lv_goto (tgt := 2) hx hb dX9_firstWrongPlace_43 (by decide) ?_
          exact ih2 _ (by rw [← hn2]; exact (iv_meas tz_17 h_7 (by decide))) z_17 rfl (iv_w hz_17 (by decide)) hsx0_2 (fun j9 q9 => by { by_cases q8 : j9 < x1_2.toNatClampNeg; { exact hall j9 q8 }; { have q1 : z_17.toNatClampNeg = z_17.toInt.toNat := rfl; have q2 : x1_2.toNatClampNeg = x1_2.toInt.toNat := rfl; have q3 : j9 = x1_2.toNatClampNeg := (by have := i32_0; have := i32_1; have := i32_2; have := i32_m1; have := (hsx0_2).1; have := (hsx0_2).2; have := (h_7).1; have := (h_7).2; have := (h_8).1; have := (h_8).2; have := (hr_9).1; have := (hr_9).2; have := (h_16).1; have := (h_16).2; have := (hz_17).1; have := (hz_17).2; omega); rw [q3, ← fr_r_9]; exact fO_r_12.resolve_left (by have := i32_0; have := i32_1; have := i32_2; have := i32_m1; have := (hsx0_2).1; have := (hsx0_2).2; have := (h_7).1; have := (h_7).2; have := (h_8).1; have := (h_8).2; have := (hr_9).1; have := (hr_9).2; have := (h_16).1; have := (h_16).2; have := (hz_17).1; have := (hz_17).2; omega) } }) _ _ _ hP hD hS (lv_sub hl [0, 1] rfl)
        · have h_18 : iv 0 0 r_12 := iv_eq c_15 hr_12 (iv_k (by decide) : iv 0 0 0) (by decide)
          refine ec_aload_n hx hb dX9_firstWrongPlace_28 rfl (lv_at hl 1 rfl) ?_
          refine cr_get (t := 3) (j := 0) (C := RX9) (T := TX9) (N := 1) (v := eV (ad 1) 0) hx hb htb inX9 hown hK hP hsx0_2 (by decide) (by decide) (by decide) rfl (by decide) (htb _ kw_82) (cV_c rfl (by decide) (by rw [show cMu 3 0 = 0 from rfl, Nat.zero_mul]; rfl)) dX9_firstWrongPlace_29 ?_
          refine lv_iload_n hx hb dX9_firstWrongPlace_32 rfl (lv_at hl 0 rfl) ?_
          refine cm_callV (t := 1) (C := RX6) (T := TX6) (N := 8) (rest := []) (as := [.int x1_2]) ⟨hx, hb, hml, hown, htb⟩ (d_element l dC dI ad cid a2 lx sg gm lg 0 x1_2 hI (iv_k (by decide) : iv 0 0 0) h_7) (cwV 1 htb (gd_V kw_502 kw_503 kw_504 kw_20 kw_1458) rfl rfl rfl (by decide +kernel) ⟨Nat.le_of_ble_eq_true rfl, Nat.le_of_ble_eq_true rfl⟩) (iv_k (by decide) : iv 0 0 0) (by decide) (by decide) rfl rfl hl.1 rfl (Nat.le_trans cs_n (by decide)) dX9_firstWrongPlace_33 ⟨Nat.le_of_ble_eq_true rfl, Nat.le_of_ble_eq_true rfl⟩ hK hP hD hS hA hG (fun E ce q9 u_20 H locs hw hP hD hS hce hcv hcl => ?_) (fun v9 u_20 H locs hw hP hD hS => ?_)
          · exact hw.elim
          obtain ⟨r_19, rfl, rfl, hr_19, fr_r_19⟩ := hw
          have hP : va_P (dC, dI) vwCl (cW ad cid a2 lx sg gm lg) H := hP
          have hD : va_D A (cW ad cid a2 lx sg gm lg) := hD
          refine W.eq (g2 := F0 m 36 ls [eV (ad 9) r_19]) rfl ?_
          refine cr_get (t := 9) (j := 3) (C := RX3) (T := TX3) (N := 21) (v := .int (gm 13 r_19.toNatClampNeg)) hx hb htb inX3 hown hK hP hr_19 (by decide) (by decide) (by decide) rfl (by decide) (htb _ kw_498) rfl dX9_firstWrongPlace_36 ?_
          obtain ⟨z_22, ez_22⟩ : ∃ z : Int32, z = (gm 13 r_19.toNatClampNeg) := ⟨_, rfl⟩
          refine W.eq (g2 := F0 m 39 ls [.int z_22]) (by rw [ez_22]) ?_
          have hz_22 : iv 0 1201 z_22 := iv_of ez_22 (CI_a hI 13 hr_19 (by decide))
          exact W.nb (fun hN => W.widen (k := 1) (n := 6) (by decide) (by decide) (vx_ret (W.iret (v := z_22) hx hb hr (fun t ht hW => ⟨⟨some (.int z_22), (sg, gm, lg), rfl, ⟨z_22, rfl, rfl, (iv_w hz_22 (by decide)), (fun q9 => absurd q9 (by have := i32_0; have := i32_1; have := i32_2; have := i32_m1; have := (hsx0_2).1; have := (hsx0_2).2; have := (h_7).1; have := (h_7).2; have := (h_8).1; have := (h_8).2; have := (hr_9).1; have := (hr_9).2; have := (h_18).1; have := (h_18).2; have := (hr_19).1; have := (hr_19).2; have := (hz_22).1; have := (hz_22).2; omega))⟩, by rw [ht]; exact hP, va_K.moved hW.alike hK, hD⟩, hS.F ht, by rw [ht]; exact hN⟩) hS.2.2 dX9_firstWrongPlace_39)))
  refine lv_iconst (v := 0) hx hb dX9_firstWrongPlace_0 (by decide) ?_
  refine lv_istore_n (i := 1) (lv' := [(1, .int 0), (0, eV (ad 3) x)]) hx hb dX9_firstWrongPlace_1 rfl hl (by decide) (by simp [List.filter, eV_cat, cat_i, cat_l]) (fun ls hl => ?_)
  exact hj2 _ 0 rfl (iv_w (iv_k (by decide) : iv 0 0 0) (by decide)) hvx (fun _ q9 => absurd q9 (Nat.not_lt_zero _)) _ _ _ hP hD hS (lv_sub hl [0, 1] rfl)
