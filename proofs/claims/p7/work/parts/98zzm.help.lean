theorem cat_r (a : Nat) : (Value.ref a).category = 1 := rfl
def oE (cO : ClassId) (f : Nat → Int64) : va_E := .inl (cO, 1, .inr (.inl f))
/-- what is not a what, for the catches -/
def NE (U : State) : Prop := va_Nc "java/lang/UnsupportedOperationException" "java/lang/IllegalStateException" U ∧ va_Nc "java/lang/UnsupportedOperationException" "java/lang/IndexOutOfBoundsException" U ∧ va_Nc "java/lang/IndexOutOfBoundsException" "java/lang/IllegalStateException" U
theorem NE.moved {u U : State} (hvm : u.vm.Alike U.vm) (h : NE u) : NE U := ⟨va_Nc.moved hvm h.1, va_Nc.moved hvm h.2.1, va_Nc.moved hvm h.2.2⟩
section HM
variable (dC : Nat → ClassId) (dI : Nat → Nat → Nat) (ad : Nat → Nat → Nat) (cid : Nat → ClassId) (cO : ClassId) (qo : Nat)
def HPre (a2 : Nat → Nat) (lx : List Nat) (sg : Nat → Int32) (gm : Nat → Nat → Int32) (lg : Nat → Nat → Int64) (f : Nat → Int64) (sz : Nat) (U : State) : Prop := U.heap.size = sz ∧ va_P (dC, dI) vwCl (cW ad cid a2 lx sg gm lg ++ [(qo, oE cO f)]) U.heap ∧ va_K (dC, dI) vwCl (cT cid ++ [(cO, .long)]) U ∧ va_D (fun _ => True) (cW ad cid a2 lx sg gm lg ++ [(qo, oE cO f)]) ∧ CE ad (va_A (cW ad cid a2 lx sg gm lg ++ [(qo, oE cO f)]) sz) U ∧ NE U
def cQh (post : Int32 → CSg → (Nat → Int64) → Prop) (k : Nat) (gm : Nat → Nat → Int32) (A : Nat → Prop) : Array Value → State → Outcome → State → Prop := fun _ st oc t => (∃ (r : Int32) (u : CSg) (f2 : Nat → Int64), oc = .returned (some (.int r)) ∧ post r u f2 ∧ (va_P (dC, dI) vwCl (CSg.w ad cid u ++ [(qo, oE cO f2)]) t.heap ∧ va_K (dC, dI) vwCl (cT cid ++ [(cO, .long)]) t ∧ va_D A (CSg.w ad cid u ++ [(qo, oE cO f2)])) ∧ PHs gm ≤ PHs u.2.2.2.1 ∧ NBw st.heap t.heap (gc gm u.2.2.2.1 k) (gs gm u.2.2.2.1 k)) ∧ va_F A st t
def HM (l : Launch) (y : MethodName) (ws : List Cond) (rm : Room) (as : List Value) (a2 : Nat → Nat) (lx : List Nat) (sg : Nat → Int32) (gm : Nat → Nat → Int32) (lg : Nat → Nat → Int64) (f : Nat → Int64) (k mc ms : Nat) (post : Int32 → CSg → (Nat → Int64) → Prop) : Prop :=
  ∀ sz, vx_Met l y ws rm (va_Pc as (HPre dC dI ad cid cO qo a2 lx sg gm lg f sz)) (cQh dC dI ad cid cO qo post k gm (va_A (cW ad cid a2 lx sg gm lg ++ [(qo, oE cO f)]) sz)) (fun _ _ _ => False) mc ms (va_A (cW ad cid a2 lx sg gm lg ++ [(qo, oE cO f)]) sz)
end HM
theorem cTo {cid : Nat → ClassId} {cO : ClassId} : (cT cid ++ [(cO, FieldType.long)])[33]? = some (cO, .long) := by rw [List.getElem?_append_right (by rw [cT_len]; decide), cT_len]; rfl
theorem wOo {w : va_W} {x : Nat × va_E} : (w ++ [x])[w.length]? = some x := by rw [List.getElem?_append_right (Nat.le_refl _), Nat.sub_self]; rfl

theorem dL_read_0 : decode cL_read 0 = .ok (.aload_n 1, 1) := by decide +kernel
theorem dL_read_1 : decode cL_read 1 = .ok (.iconst 0, 1) := by decide +kernel
theorem dL_read_2 : decode cL_read 2 = .ok (.aload_n 0, 1) := by decide +kernel
theorem dL_read_3 : decode cL_read 3 = .ok (.invokevirtual 7, 3) := by decide +kernel
theorem dL_read_6 : decode cL_read 6 = .ok (.i2l, 1) := by decide +kernel
theorem dL_read_7 : decode cL_read 7 = .ok (.lastore, 1) := by decide +kernel
theorem dL_read_8 : decode cL_read 8 = .ok (.goto 6, 3) := by decide +kernel
theorem dL_read_11 : decode cL_read 11 = .ok (.astore_n 2, 1) := by decide +kernel
theorem dL_read_12 : decode cL_read 12 = .ok (.iconst 1, 1) := by decide +kernel
theorem dL_read_13 : decode cL_read 13 = .ok (.ireturn, 1) := by decide +kernel
theorem dL_read_14 : decode cL_read 14 = .ok (.iconst 0, 1) := by decide +kernel
theorem dL_read_15 : decode cL_read 15 = .ok (.ireturn, 1) := by decide +kernel
theorem dL_refresh_0 : decode cL_refresh 0 = .ok (.aload_n 1, 1) := by decide +kernel
theorem dL_refresh_1 : decode cL_refresh 1 = .ok (.iconst 0, 1) := by decide +kernel
theorem dL_refresh_2 : decode cL_refresh 2 = .ok (.aload_n 0, 1) := by decide +kernel
theorem dL_refresh_3 : decode cL_refresh 3 = .ok (.invokevirtual 15, 3) := by decide +kernel
theorem dL_refresh_6 : decode cL_refresh 6 = .ok (.i2l, 1) := by decide +kernel
theorem dL_refresh_7 : decode cL_refresh 7 = .ok (.lastore, 1) := by decide +kernel
theorem dL_refresh_8 : decode cL_refresh 8 = .ok (.goto 9, 3) := by decide +kernel
theorem dL_refresh_11 : decode cL_refresh 11 = .ok (.astore_n 2, 1) := by decide +kernel
theorem dL_refresh_12 : decode cL_refresh 12 = .ok (.iconst 1, 1) := by decide +kernel
theorem dL_refresh_13 : decode cL_refresh 13 = .ok (.ireturn, 1) := by decide +kernel
theorem dL_refresh_14 : decode cL_refresh 14 = .ok (.astore_n 2, 1) := by decide +kernel
theorem dL_refresh_15 : decode cL_refresh 15 = .ok (.iconst 2, 1) := by decide +kernel
theorem dL_refresh_16 : decode cL_refresh 16 = .ok (.ireturn, 1) := by decide +kernel
theorem dL_refresh_17 : decode cL_refresh 17 = .ok (.iconst 0, 1) := by decide +kernel
theorem dL_refresh_18 : decode cL_refresh 18 = .ok (.ireturn, 1) := by decide +kernel
theorem dL_get_0 : decode cL_get 0 = .ok (.aload_n 3, 1) := by decide +kernel
theorem dL_get_1 : decode cL_get 1 = .ok (.iconst 0, 1) := by decide +kernel
theorem dL_get_2 : decode cL_get 2 = .ok (.aload_n 0, 1) := by decide +kernel
theorem dL_get_3 : decode cL_get 3 = .ok (.lload_n 1, 1) := by decide +kernel
theorem dL_get_4 : decode cL_get 4 = .ok (.invokevirtual 22, 3) := by decide +kernel
theorem dL_get_7 : decode cL_get 7 = .ok (.i2l, 1) := by decide +kernel
theorem dL_get_8 : decode cL_get 8 = .ok (.lastore, 1) := by decide +kernel
theorem dL_get_9 : decode cL_get 9 = .ok (.goto 11, 3) := by decide +kernel
theorem dL_get_12 : decode cL_get 12 = .ok (.astore 4, 2) := by decide +kernel
theorem dL_get_14 : decode cL_get 14 = .ok (.iconst 1, 1) := by decide +kernel
theorem dL_get_15 : decode cL_get 15 = .ok (.ireturn, 1) := by decide +kernel
theorem dL_get_16 : decode cL_get 16 = .ok (.astore 4, 2) := by decide +kernel
theorem dL_get_18 : decode cL_get 18 = .ok (.iconst 2, 1) := by decide +kernel
theorem dL_get_19 : decode cL_get 19 = .ok (.ireturn, 1) := by decide +kernel
theorem dL_get_20 : decode cL_get 20 = .ok (.iconst 0, 1) := by decide +kernel
theorem dL_get_21 : decode cL_get 21 = .ok (.ireturn, 1) := by decide +kernel
theorem dL_call_0 : decode cL_call 0 = .ok (.aload_n 3, 1) := by decide +kernel
theorem dL_call_1 : decode cL_call 1 = .ok (.iconst 0, 1) := by decide +kernel
theorem dL_call_2 : decode cL_call 2 = .ok (.aload_n 0, 1) := by decide +kernel
theorem dL_call_3 : decode cL_call 3 = .ok (.iload_n 1, 1) := by decide +kernel
theorem dL_call_4 : decode cL_call 4 = .ok (.iload_n 2, 1) := by decide +kernel
theorem dL_call_5 : decode cL_call 5 = .ok (.invokevirtual 26, 3) := by decide +kernel
theorem dL_call_8 : decode cL_call 8 = .ok (.i2l, 1) := by decide +kernel
theorem dL_call_9 : decode cL_call 9 = .ok (.lastore, 1) := by decide +kernel
theorem dL_call_10 : decode cL_call 10 = .ok (.goto 15, 3) := by decide +kernel
theorem dL_call_13 : decode cL_call 13 = .ok (.astore 4, 2) := by decide +kernel
theorem dL_call_15 : decode cL_call 15 = .ok (.iconst 1, 1) := by decide +kernel
theorem dL_call_16 : decode cL_call 16 = .ok (.ireturn, 1) := by decide +kernel
theorem dL_call_17 : decode cL_call 17 = .ok (.astore 4, 2) := by decide +kernel
theorem dL_call_19 : decode cL_call 19 = .ok (.iconst 2, 1) := by decide +kernel
theorem dL_call_20 : decode cL_call 20 = .ok (.ireturn, 1) := by decide +kernel
theorem dL_call_21 : decode cL_call 21 = .ok (.astore 4, 2) := by decide +kernel
theorem dL_call_23 : decode cL_call 23 = .ok (.iconst 3, 1) := by decide +kernel
theorem dL_call_24 : decode cL_call 24 = .ok (.ireturn, 1) := by decide +kernel
theorem dL_call_25 : decode cL_call 25 = .ok (.iconst 0, 1) := by decide +kernel
theorem dL_call_26 : decode cL_call 26 = .ok (.ireturn, 1) := by decide +kernel

set_option maxHeartbeats 4000000 in
set_option maxRecDepth 100000 in
theorem d_hread (l : Launch) (hl9 : l.stackTraces = false) (dC : Nat → ClassId) (dI : Nat → Nat → Nat) (ad : Nat → Nat → Nat) (cid : Nat → ClassId) (cO : ClassId) (qo : Nat) (a2 : Nat → Nat) (lx : List Nat) (sg : Nat → Int32) (gm : Nat → Nat → Int32) (lg : Nat → Nat → Int64) (f : Nat → Int64) (it : Nat) (hKI : KI it lx sg gm lg) (hit : it ≤ 600) (ch : Nat → Int) (N9 : Nat) (hch0 : CHR ch N9 (sg 0) (gm 43)) (hpc : PC7 ch) : HM dC dI ad cid cO qo l yL_read wm_L_read ({ frames := 18, cells := 304803, slots := 1219339, locals := 442 }) [eV (ad 0) 0, .ref qo] a2 lx sg gm lg f 2 304803 1219339 (fun r u f2 => KI (it + 1) u.2.1 u.2.2.1 u.2.2.2.1 u.2.2.2.2 ∧ (u.2.2.1 0).toInt = 0 ∧ ((r.toInt = 1 ∧ ¬ ACQ ch N9) ∨ (r.toInt = 0 ∧ ACQ ch N9 ∧ ∃ x9 : Int32, f2 0 = x9.toInt64 ∧ x9.toInt = (nbD (dD ch N9) : Int)))) := by
  intro sz
  refine vx_ofWH (cc := cL_read) (maxL := 3) (ret := (some .int)) (by decide) rfl ?_
  intro p e s m args below meth c s₁ B hml hv
  obtain ⟨rfl, hsz, hP, hK, hD0, hG, hN9⟩ := hv
  have hx := B.exec
  have hb := B.bytes
  have hr := B.returns
  have hts := atoms_spec (ws := wm_L_read) B.pre
  have htb := fun (w : Cond) (h : w ∈ tb) => hts w (List.mem_cons_of_mem _ h)
  have hown : s.vm.findClass RL = some m.cls := findClass_of_methodNamed B.named
  have hlocks := B.notSynchronized
  have hxt := vx_table (x := yL_read) B (hts _ List.mem_cons_self)
  subst hsz
  have hD := hD0.self (sz := s.heap.size)
  generalize hAe : va_A (cW ad cid a2 lx sg gm lg ++ [(qo, oE cO f)]) s.heap.size = A at hD hG ⊢
  have hA : ∀ q : Nat, s.heap.size ≤ q → A q := fun q h => by rw [← hAe]; exact Or.inr h
  have hS : va_S A s.heap s.heap [] := va_S.rf
  have hl := lv_entry ([eV (ad 0) 0, .ref qo]) (n := 3) (by rw [show (lg_sl ([eV (ad 0) 0, .ref qo])).length = 2 from by simp [lg_sl, eV_cat, cat_i, cat_l, cat_r]]; exact Nat.le_of_ble_eq_true rfl)
  rw [lg_entry_eq]
  generalize (lg_sl ([eV (ad 0) 0, .ref qo]) ++ List.replicate (3 - (lg_sl ([eV (ad 0) 0, .ref qo])).length) Slot.unset).toArray = ls at hl ⊢
  have hl : lv_has ls 3 [(0, eV (ad 0) 0), (1, .ref qo)] := by simp [lv_args, eV_cat, cat_i, cat_l, cat_r] at hl; exact hl
  obtain ⟨kI, kLD, kFN, kBE, kU12, kU18, kDC⟩ := id hKI
  refine lv_aload_n hx hb dL_read_0 rfl (lv_at hl 1 rfl) ?_
  refine lv_iconst (v := 0) hx hb dL_read_1 (by decide) ?_
  refine ec_aload_n hx hb dL_read_2 rfl (lv_at hl 0 rfl) ?_
  refine lw_callG (r := [(qo, oE cO f)]) (tr := [(cO, .long)]) (rest := [.int 0, .ref qo]) (as := []) ⟨hx, hb, hml, hown, htb⟩ (d_read3 l dC dI ad cid a2 lx sg gm lg hl9 0 ch N9 (1203 * it) kI (iv_k (by decide) : iv 0 0 0) (show UB 12 (1203 * it) gm from kU12) kU18 (by omega) kLD hch0 hpc) (cwV 0 htb (gd_V kw_306 kw_307 kw_308 kw_2 kw_1410) rfl rfl rfl (by decide +kernel) ⟨Nat.le_of_ble_eq_true rfl, Nat.le_of_ble_eq_true rfl⟩) (iv_k (by decide) : iv 0 0 0) rfl hl.1 rfl (Nat.le_trans (cs_c (cat_i _) (cs_c (cat_r _) cs_n)) (by decide)) dL_read_3 ⟨Nat.le_of_ble_eq_true rfl, Nat.le_of_ble_eq_true rfl⟩ hK hP hD hS hA hG (fun E ce q9 u H locs hw hmu hP hD hS hce hcv hcl => ?_) (fun v9 u H locs hw hmu hP hD hS => ?_)
  · obtain ⟨hE, a29, lx9, sg9, gm9, lg9, rfl, hI9, k1, k2, k3, xU12, xU18, xLD, x15, x12, x1, x0, xA⟩ := hw
    have hKx : KI (it + 1) lx9 sg9 gm9 lg9 := KI_rx hI9 xU12 xU18 xLD x15 x12 x1
    subst hE
    refine mc_catch (own := RL) (name := "java/lang/IllegalArgumentException") hown ⟨0, 8, 11, 13⟩ [] hxt (by decide) (by decide) (htb _ kw_305) (va_Nw.use rfl hG.1.2.1.1) hce hcv hcl ?_
    refine lv_astore_n (lv' := [(2, .ref q9), (0, eV (ad 0) 0), (1, .ref qo)]) hx hb dL_read_11 rfl hl (by decide) (by simp [List.filter, eV_cat, cat_i, cat_l, cat_r]) (fun ls hl => ?_)
    refine lv_iconst (v := 1) hx hb dL_read_12 (by decide) ?_
    exact W.nb (fun hN => W.widen (k := 304803) (n := 1219339) (Nat.le_trans (Nat.add_le_add_left (gc_l0 (gm := gm) hI9) 0) (Nat.le_of_ble_eq_true rfl)) (Nat.le_trans (Nat.add_le_add_left (gs_l0 (gm := gm) hI9) 0) (Nat.le_of_ble_eq_true rfl)) (vx_ret (W.iret (v := 1) hx hb hr (fun t ht hW => ⟨⟨1, (a29, lx9, sg9, gm9, lg9), _, rfl, ⟨hKx, x0, Or.inl ⟨rfl, xA⟩⟩, ⟨by rw [ht]; exact hP, va_K.moved hW.alike hK, hD⟩, hmu, by rw [ht]; exact NBw_w hN (by rw [Nat.zero_add]; exact gc_e rfl (by decide)) (by rw [Nat.zero_add]; exact gs_e rfl (by decide))⟩, hS.F ht⟩) hS.2.2 dL_read_13)))
  · obtain ⟨r9, rfl, a29, lx9, sg9, gm9, lg9, rfl, hI9, k1, k2, k3, hr9, fU12, fU18, fLD, f15, fW, f0, fA⟩ := hw
    have hKr : KI (it + 1) lx9 sg9 gm9 lg9 := KI_rd hI9 fU12 fU18 fLD f15 fW
    have hP : va_P (dC, dI) vwCl (cW ad cid a29 lx9 sg9 gm9 lg9 ++ [(qo, oE cO f)]) H := hP
    have hD : va_D A (cW ad cid a29 lx9 sg9 gm9 lg9 ++ [(qo, oE cO f)]) := hD
    refine W.eq (g2 := F0 m 6 ls [.int r9, .int 0, .ref qo]) rfl ?_
    refine lv_i2l (v := r9.toInt64) hx hb dL_read_6 rfl ?_
    refine va_last (D := (dC, dI)) (f := f) hx hb hK hP hD hS _ 33 wOo cTo (vp_in_iff.mpr ⟨by decide, by decide⟩) dL_read_7 (fun H locs hP hD hS => ?_)
    rw [set_last] at hP hD
    refine lv_goto (tgt := 14) hx hb dL_read_8 (by decide) ?_
    refine lv_iconst (v := 0) hx hb dL_read_14 (by decide) ?_
    exact W.nb (fun hN => W.widen (k := 304803) (n := 1219339) (Nat.le_trans (Nat.add_le_add_left (gc_l0 (gm := gm) hI9) 0) (Nat.le_of_ble_eq_true rfl)) (Nat.le_trans (Nat.add_le_add_left (gs_l0 (gm := gm) hI9) 0) (Nat.le_of_ble_eq_true rfl)) (vx_ret (W.iret (v := 0) hx hb hr (fun t ht hW => ⟨⟨0, (a29, lx9, sg9, gm9, lg9), _, rfl, ⟨hKr, f0, Or.inr ⟨rfl, fA.1, r9, vp_uL, fA.2⟩⟩, ⟨by rw [ht]; exact hP, va_K.moved hW.alike hK, hD⟩, hmu, by rw [ht]; exact NBw_w hN (by rw [Nat.zero_add]; exact gc_e rfl (by decide)) (by rw [Nat.zero_add]; exact gs_e rfl (by decide))⟩, hS.F ht⟩) hS.2.2 dL_read_15)))

set_option maxHeartbeats 4000000 in
set_option maxRecDepth 100000 in
theorem d_hrefresh (l : Launch) (hl9 : l.stackTraces = false) (dC : Nat → ClassId) (dI : Nat → Nat → Nat) (ad : Nat → Nat → Nat) (cid : Nat → ClassId) (cO : ClassId) (qo : Nat) (a2 : Nat → Nat) (lx : List Nat) (sg : Nat → Int32) (gm : Nat → Nat → Int32) (lg : Nat → Nat → Int64) (f : Nat → Int64) (it : Nat) (hKI : KI it lx sg gm lg) (hit : it ≤ 600) : HM dC dI ad cid cO qo l yL_refresh wm_L_refresh ({ frames := 346, cells := 60963, slots := 243858, locals := 11147 }) [eV (ad 0) 0, .ref qo] a2 lx sg gm lg f 2 60963 243858 (fun r u f2 => KI (it + 1) u.2.1 u.2.2.1 u.2.2.2.1 u.2.2.2.2 ∧ u.2.2.1 0 = sg 0 ∧ u.2.2.2.1 43 = gm 43) := by
  intro sz
  refine vx_ofWH (cc := cL_refresh) (maxL := 3) (ret := (some .int)) (by decide) rfl ?_
  intro p e s m args below meth c s₁ B hml hv
  obtain ⟨rfl, hsz, hP, hK, hD0, hG, hN9⟩ := hv
  have hx := B.exec
  have hb := B.bytes
  have hr := B.returns
  have hts := atoms_spec (ws := wm_L_refresh) B.pre
  have htb := fun (w : Cond) (h : w ∈ tb) => hts w (List.mem_cons_of_mem _ h)
  have hown : s.vm.findClass RL = some m.cls := findClass_of_methodNamed B.named
  have hlocks := B.notSynchronized
  have hxt := vx_table (x := yL_refresh) B (hts _ List.mem_cons_self)
  subst hsz
  have hD := hD0.self (sz := s.heap.size)
  generalize hAe : va_A (cW ad cid a2 lx sg gm lg ++ [(qo, oE cO f)]) s.heap.size = A at hD hG ⊢
  have hA : ∀ q : Nat, s.heap.size ≤ q → A q := fun q h => by rw [← hAe]; exact Or.inr h
  have hS : va_S A s.heap s.heap [] := va_S.rf
  have hl := lv_entry ([eV (ad 0) 0, .ref qo]) (n := 3) (by rw [show (lg_sl ([eV (ad 0) 0, .ref qo])).length = 2 from by simp [lg_sl, eV_cat, cat_i, cat_l, cat_r]]; exact Nat.le_of_ble_eq_true rfl)
  rw [lg_entry_eq]
  generalize (lg_sl ([eV (ad 0) 0, .ref qo]) ++ List.replicate (3 - (lg_sl ([eV (ad 0) 0, .ref qo])).length) Slot.unset).toArray = ls at hl ⊢
  have hl : lv_has ls 3 [(0, eV (ad 0) 0), (1, .ref qo)] := by simp [lv_args, eV_cat, cat_i, cat_l, cat_r] at hl; exact hl
  obtain ⟨kI, kLD, kFN, kBE, kU12, kU18, kDC⟩ := id hKI
  refine lv_aload_n hx hb dL_refresh_0 rfl (lv_at hl 1 rfl) ?_
  refine lv_iconst (v := 0) hx hb dL_refresh_1 (by decide) ?_
  refine ec_aload_n hx hb dL_refresh_2 rfl (lv_at hl 0 rfl) ?_
  refine lw_callG (r := [(qo, oE cO f)]) (tr := [(cO, .long)]) (rest := [.int 0, .ref qo]) (as := []) ⟨hx, hb, hml, hown, htb⟩ (d_refresh l dC dI ad cid a2 lx sg gm lg hl9 0  kI (iv_k (by decide) : iv 0 0 0) kDC kLD kFN) (cwV 0 htb (gd_V kw_988 kw_989 kw_990 kw_2 kw_1565) rfl rfl rfl (by decide +kernel) ⟨Nat.le_of_ble_eq_true rfl, Nat.le_of_ble_eq_true rfl⟩) (iv_k (by decide) : iv 0 0 0) rfl hl.1 rfl (Nat.le_trans (cs_c (cat_i _) (cs_c (cat_r _) cs_n)) (by decide)) dL_refresh_3 ⟨Nat.le_of_ble_eq_true rfl, Nat.le_of_ble_eq_true rfl⟩ hK hP hD hS hA hG (fun E ce q9 u H locs hw hmu hP hD hS hce hcv hcl => ?_) (fun v9 u H locs hw hmu hP hD hS => ?_)
  · obtain ⟨hE, sg9, gm9, lg9, rfl, hI9, k1, k2, k3, xMO, xFN⟩ := hw
    have hKx : KI (it + 1) lx sg9 gm9 lg9 := KI_mk hKI hI9 k1 k2 k3 xMO xFN (by decide) (by decide) (by decide)
    rcases hE with hE | hE
    · subst hE
      refine mc_catch (own := RL) (name := "java/lang/IllegalStateException") hown ⟨0, 8, 11, 18⟩ [⟨0, 8, 14, 20⟩] hxt (by decide) (by decide) (htb _ kw_986) (va_Nw.use rfl hG.1.2.1.2.1) hce hcv hcl ?_
      refine lv_astore_n (lv' := [(2, .ref q9), (0, eV (ad 0) 0), (1, .ref qo)]) hx hb dL_refresh_11 rfl hl (by decide) (by simp [List.filter, eV_cat, cat_i, cat_l, cat_r]) (fun ls hl => ?_)
      refine lv_iconst (v := 1) hx hb dL_refresh_12 (by decide) ?_
      exact W.nb (fun hN => W.widen (k := 60963) (n := 243858) (Nat.le_trans (Nat.add_le_add_left (gc_l0 (gm := gm) hI9) 0) (Nat.le_of_ble_eq_true rfl)) (Nat.le_trans (Nat.add_le_add_left (gs_l0 (gm := gm) hI9) 0) (Nat.le_of_ble_eq_true rfl)) (vx_ret (W.iret (v := 1) hx hb hr (fun t ht hW => ⟨⟨1, (a2, lx, sg9, gm9, lg9), _, rfl, ⟨hKx, k1 0 (by decide), k2 43 (by decide)⟩, ⟨by rw [ht]; exact hP, va_K.moved hW.alike hK, hD⟩, hmu, by rw [ht]; exact NBw_w hN (by rw [Nat.zero_add]; exact gc_e rfl (by decide)) (by rw [Nat.zero_add]; exact gs_e rfl (by decide))⟩, hS.F ht⟩) hS.2.2 dL_refresh_13)))
    · subst hE
      refine mc_catch2 (own := RL) (n1 := "java/lang/IllegalStateException") (name := "java/lang/UnsupportedOperationException") hown ⟨0, 8, 11, 18⟩ ⟨0, 8, 14, 20⟩ [] hxt (by decide) (by decide) (by decide) (by decide) (htb _ kw_986) (htb _ kw_987) hN9.1 (va_Nw.use rfl hG.2.1.1) hce hcv hcl ?_
      refine lv_astore_n (lv' := [(2, .ref q9), (0, eV (ad 0) 0), (1, .ref qo)]) hx hb dL_refresh_14 rfl hl (by decide) (by simp [List.filter, eV_cat, cat_i, cat_l, cat_r]) (fun ls hl => ?_)
      refine lv_iconst (v := 2) hx hb dL_refresh_15 (by decide) ?_
      exact W.nb (fun hN => W.widen (k := 60963) (n := 243858) (Nat.le_trans (Nat.add_le_add_left (gc_l0 (gm := gm) hI9) 0) (Nat.le_of_ble_eq_true rfl)) (Nat.le_trans (Nat.add_le_add_left (gs_l0 (gm := gm) hI9) 0) (Nat.le_of_ble_eq_true rfl)) (vx_ret (W.iret (v := 2) hx hb hr (fun t ht hW => ⟨⟨2, (a2, lx, sg9, gm9, lg9), _, rfl, ⟨hKx, k1 0 (by decide), k2 43 (by decide)⟩, ⟨by rw [ht]; exact hP, va_K.moved hW.alike hK, hD⟩, hmu, by rw [ht]; exact NBw_w hN (by rw [Nat.zero_add]; exact gc_e rfl (by decide)) (by rw [Nat.zero_add]; exact gs_e rfl (by decide))⟩, hS.F ht⟩) hS.2.2 dL_refresh_16)))
  · obtain ⟨r9, rfl, sg9, gm9, lg9, rfl, hI9, k1, k2, k3, hr9, fMO, fFN⟩ := hw
    have hKr : KI (it + 1) lx sg9 gm9 lg9 := KI_mk hKI hI9 k1 k2 k3 fMO fFN (by decide) (by decide) (by decide)
    have hP : va_P (dC, dI) vwCl (cW ad cid a2 lx sg9 gm9 lg9 ++ [(qo, oE cO f)]) H := hP
    have hD : va_D A (cW ad cid a2 lx sg9 gm9 lg9 ++ [(qo, oE cO f)]) := hD
    refine W.eq (g2 := F0 m 6 ls [.int r9, .int 0, .ref qo]) rfl ?_
    refine lv_i2l (v := r9.toInt64) hx hb dL_refresh_6 rfl ?_
    refine va_last (D := (dC, dI)) (f := f) hx hb hK hP hD hS _ 33 wOo cTo (vp_in_iff.mpr ⟨by decide, by decide⟩) dL_refresh_7 (fun H locs hP hD hS => ?_)
    rw [set_last] at hP hD
    refine lv_goto (tgt := 17) hx hb dL_refresh_8 (by decide) ?_
    refine lv_iconst (v := 0) hx hb dL_refresh_17 (by decide) ?_
    exact W.nb (fun hN => W.widen (k := 60963) (n := 243858) (Nat.le_trans (Nat.add_le_add_left (gc_l0 (gm := gm) hI9) 0) (Nat.le_of_ble_eq_true rfl)) (Nat.le_trans (Nat.add_le_add_left (gs_l0 (gm := gm) hI9) 0) (Nat.le_of_ble_eq_true rfl)) (vx_ret (W.iret (v := 0) hx hb hr (fun t ht hW => ⟨⟨0, (a2, lx, sg9, gm9, lg9), _, rfl, ⟨hKr, k1 0 (by decide), k2 43 (by decide)⟩, ⟨by rw [ht]; exact hP, va_K.moved hW.alike hK, hD⟩, hmu, by rw [ht]; exact NBw_w hN (by rw [Nat.zero_add]; exact gc_e rfl (by decide)) (by rw [Nat.zero_add]; exact gs_e rfl (by decide))⟩, hS.F ht⟩) hS.2.2 dL_refresh_18)))

set_option maxHeartbeats 4000000 in
set_option maxRecDepth 100000 in
theorem d_hget (l : Launch) (hl9 : l.stackTraces = false) (dC : Nat → ClassId) (dI : Nat → Nat → Nat) (ad : Nat → Nat → Nat) (cid : Nat → ClassId) (cO : ClassId) (qo : Nat) (a2 : Nat → Nat) (lx : List Nat) (sg : Nat → Int32) (gm : Nat → Nat → Int32) (lg : Nat → Nat → Int64) (f : Nat → Int64) (it : Nat) (nm : Int64) (hKI : KI it lx sg gm lg) (hit : it ≤ 600) : HM dC dI ad cid cO qo l yL_get wm_L_get ({ frames := 346, cells := 60963, slots := 243858, locals := 11151 }) [eV (ad 0) 0, .long nm, .ref qo] a2 lx sg gm lg f 2 60963 243858 (fun r u f2 => KI (it + 1) u.2.1 u.2.2.1 u.2.2.2.1 u.2.2.2.2 ∧ u.2.2.1 0 = sg 0 ∧ u.2.2.2.1 43 = gm 43) := by
  intro sz
  refine vx_ofWH (cc := cL_get) (maxL := 5) (ret := (some .int)) (by decide) rfl ?_
  intro p e s m args below meth c s₁ B hml hv
  obtain ⟨rfl, hsz, hP, hK, hD0, hG, hN9⟩ := hv
  have hx := B.exec
  have hb := B.bytes
  have hr := B.returns
  have hts := atoms_spec (ws := wm_L_get) B.pre
  have htb := fun (w : Cond) (h : w ∈ tb) => hts w (List.mem_cons_of_mem _ h)
  have hown : s.vm.findClass RL = some m.cls := findClass_of_methodNamed B.named
  have hlocks := B.notSynchronized
  have hxt := vx_table (x := yL_get) B (hts _ List.mem_cons_self)
  subst hsz
  have hD := hD0.self (sz := s.heap.size)
  generalize hAe : va_A (cW ad cid a2 lx sg gm lg ++ [(qo, oE cO f)]) s.heap.size = A at hD hG ⊢
  have hA : ∀ q : Nat, s.heap.size ≤ q → A q := fun q h => by rw [← hAe]; exact Or.inr h
  have hS : va_S A s.heap s.heap [] := va_S.rf
  have hl := lv_entry ([eV (ad 0) 0, .long nm, .ref qo]) (n := 5) (by rw [show (lg_sl ([eV (ad 0) 0, .long nm, .ref qo])).length = 4 from by simp [lg_sl, eV_cat, cat_i, cat_l, cat_r]]; exact Nat.le_of_ble_eq_true rfl)
  rw [lg_entry_eq]
  generalize (lg_sl ([eV (ad 0) 0, .long nm, .ref qo]) ++ List.replicate (5 - (lg_sl ([eV (ad 0) 0, .long nm, .ref qo])).length) Slot.unset).toArray = ls at hl ⊢
  have hl : lv_has ls 5 [(0, eV (ad 0) 0), (1, .long nm), (3, .ref qo)] := by simp [lv_args, eV_cat, cat_i, cat_l, cat_r] at hl; exact hl
  obtain ⟨kI, kLD, kFN, kBE, kU12, kU18, kDC⟩ := id hKI
  refine lv_aload_n hx hb dL_get_0 rfl (lv_at hl 2 rfl) ?_
  refine lv_iconst (v := 0) hx hb dL_get_1 (by decide) ?_
  refine ec_aload_n hx hb dL_get_2 rfl (lv_at hl 0 rfl) ?_
  refine lv_lload_n hx hb dL_get_3 rfl (lv_at hl 1 rfl) ?_
  refine lw_callG (r := [(qo, oE cO f)]) (tr := [(cO, .long)]) (rest := [.int 0, .ref qo]) (as := [.long nm]) ⟨hx, hb, hml, hown, htb⟩ (d_get l dC dI ad cid a2 lx sg gm lg hl9 0 nm  kI (iv_k (by decide) : iv 0 0 0) kDC kLD kFN) (cwV 1 htb (gd_V kw_1268 kw_1269 kw_1270 kw_2 kw_1638) rfl rfl rfl (by decide +kernel) ⟨Nat.le_of_ble_eq_true rfl, Nat.le_of_ble_eq_true rfl⟩) (iv_k (by decide) : iv 0 0 0) rfl hl.1 rfl (Nat.le_trans (cs_c (cat_i _) (cs_c (cat_r _) cs_n)) (by decide)) dL_get_4 ⟨Nat.le_of_ble_eq_true rfl, Nat.le_of_ble_eq_true rfl⟩ hK hP hD hS hA hG (fun E ce q9 u H locs hw hmu hP hD hS hce hcv hcl => ?_) (fun v9 u H locs hw hmu hP hD hS => ?_)
  · obtain ⟨hE, sg9, gm9, lg9, rfl, hI9, k1, k2, k3, xMO, xFN⟩ := hw
    have hKx : KI (it + 1) lx sg9 gm9 lg9 := KI_mk hKI hI9 k1 k2 k3 xMO xFN (by decide) (by decide) (by decide)
    rcases hE with hE | hE
    · subst hE
      refine mc_catch (own := RL) (name := "java/lang/IllegalStateException") hown ⟨0, 9, 12, 18⟩ [⟨0, 9, 16, 20⟩] hxt (by decide) (by decide) (htb _ kw_986) (va_Nw.use rfl hG.1.2.1.2.1) hce hcv hcl ?_
      refine lv_astore (lv' := [(4, .ref q9), (0, eV (ad 0) 0), (1, .long nm), (3, .ref qo)]) hx hb dL_get_12 hl (by decide) (by simp [List.filter, eV_cat, cat_i, cat_l, cat_r]) (fun ls hl => ?_)
      refine lv_iconst (v := 1) hx hb dL_get_14 (by decide) ?_
      exact W.nb (fun hN => W.widen (k := 60963) (n := 243858) (Nat.le_trans (Nat.add_le_add_left (gc_l0 (gm := gm) hI9) 0) (Nat.le_of_ble_eq_true rfl)) (Nat.le_trans (Nat.add_le_add_left (gs_l0 (gm := gm) hI9) 0) (Nat.le_of_ble_eq_true rfl)) (vx_ret (W.iret (v := 1) hx hb hr (fun t ht hW => ⟨⟨1, (a2, lx, sg9, gm9, lg9), _, rfl, ⟨hKx, k1 0 (by decide), k2 43 (by decide)⟩, ⟨by rw [ht]; exact hP, va_K.moved hW.alike hK, hD⟩, hmu, by rw [ht]; exact NBw_w hN (by rw [Nat.zero_add]; exact gc_e rfl (by decide)) (by rw [Nat.zero_add]; exact gs_e rfl (by decide))⟩, hS.F ht⟩) hS.2.2 dL_get_15)))
    · subst hE
      refine mc_catch2 (own := RL) (n1 := "java/lang/IllegalStateException") (name := "java/lang/UnsupportedOperationException") hown ⟨0, 9, 12, 18⟩ ⟨0, 9, 16, 20⟩ [] hxt (by decide) (by decide) (by decide) (by decide) (htb _ kw_986) (htb _ kw_987) hN9.1 (va_Nw.use rfl hG.2.1.1) hce hcv hcl ?_
      refine lv_astore (lv' := [(4, .ref q9), (0, eV (ad 0) 0), (1, .long nm), (3, .ref qo)]) hx hb dL_get_16 hl (by decide) (by simp [List.filter, eV_cat, cat_i, cat_l, cat_r]) (fun ls hl => ?_)
      refine lv_iconst (v := 2) hx hb dL_get_18 (by decide) ?_
      exact W.nb (fun hN => W.widen (k := 60963) (n := 243858) (Nat.le_trans (Nat.add_le_add_left (gc_l0 (gm := gm) hI9) 0) (Nat.le_of_ble_eq_true rfl)) (Nat.le_trans (Nat.add_le_add_left (gs_l0 (gm := gm) hI9) 0) (Nat.le_of_ble_eq_true rfl)) (vx_ret (W.iret (v := 2) hx hb hr (fun t ht hW => ⟨⟨2, (a2, lx, sg9, gm9, lg9), _, rfl, ⟨hKx, k1 0 (by decide), k2 43 (by decide)⟩, ⟨by rw [ht]; exact hP, va_K.moved hW.alike hK, hD⟩, hmu, by rw [ht]; exact NBw_w hN (by rw [Nat.zero_add]; exact gc_e rfl (by decide)) (by rw [Nat.zero_add]; exact gs_e rfl (by decide))⟩, hS.F ht⟩) hS.2.2 dL_get_19)))
  · obtain ⟨r9, rfl, sg9, gm9, lg9, rfl, hI9, k1, k2, k3, hr9, fMO, fFN⟩ := hw
    have hKr : KI (it + 1) lx sg9 gm9 lg9 := KI_mk hKI hI9 k1 k2 k3 fMO fFN (by decide) (by decide) (by decide)
    have hP : va_P (dC, dI) vwCl (cW ad cid a2 lx sg9 gm9 lg9 ++ [(qo, oE cO f)]) H := hP
    have hD : va_D A (cW ad cid a2 lx sg9 gm9 lg9 ++ [(qo, oE cO f)]) := hD
    refine W.eq (g2 := F0 m 7 ls [.int r9, .int 0, .ref qo]) rfl ?_
    refine lv_i2l (v := r9.toInt64) hx hb dL_get_7 rfl ?_
    refine va_last (D := (dC, dI)) (f := f) hx hb hK hP hD hS _ 33 wOo cTo (vp_in_iff.mpr ⟨by decide, by decide⟩) dL_get_8 (fun H locs hP hD hS => ?_)
    rw [set_last] at hP hD
    refine lv_goto (tgt := 20) hx hb dL_get_9 (by decide) ?_
    refine lv_iconst (v := 0) hx hb dL_get_20 (by decide) ?_
    exact W.nb (fun hN => W.widen (k := 60963) (n := 243858) (Nat.le_trans (Nat.add_le_add_left (gc_l0 (gm := gm) hI9) 0) (Nat.le_of_ble_eq_true rfl)) (Nat.le_trans (Nat.add_le_add_left (gs_l0 (gm := gm) hI9) 0) (Nat.le_of_ble_eq_true rfl)) (vx_ret (W.iret (v := 0) hx hb hr (fun t ht hW => ⟨⟨0, (a2, lx, sg9, gm9, lg9), _, rfl, ⟨hKr, k1 0 (by decide), k2 43 (by decide)⟩, ⟨by rw [ht]; exact hP, va_K.moved hW.alike hK, hD⟩, hmu, by rw [ht]; exact NBw_w hN (by rw [Nat.zero_add]; exact gc_e rfl (by decide)) (by rw [Nat.zero_add]; exact gs_e rfl (by decide))⟩, hS.F ht⟩) hS.2.2 dL_get_21)))

set_option maxHeartbeats 4000000 in
set_option maxRecDepth 100000 in
theorem d_hcall (l : Launch) (hl9 : l.stackTraces = false) (dC : Nat → ClassId) (dI : Nat → Nat → Nat) (ad : Nat → Nat → Nat) (cid : Nat → ClassId) (cO : ClassId) (qo : Nat) (a2 : Nat → Nat) (lx : List Nat) (sg : Nat → Int32) (gm : Nat → Nat → Int32) (lg : Nat → Nat → Int64) (f : Nat → Int64) (it : Nat) (k9 : Int32) (w9 : Int32) (hKI : KI it lx sg gm lg) (hit : it ≤ 600) : HM dC dI ad cid cO qo l yL_call wm_L_call ({ frames := 346, cells := 60963, slots := 243858, locals := 11152 }) [eV (ad 0) 0, .int k9, .int w9, .ref qo] a2 lx sg gm lg f 2 60963 243858 (fun r u f2 => KI (it + 1) u.2.1 u.2.2.1 u.2.2.2.1 u.2.2.2.2 ∧ u.2.2.1 0 = sg 0 ∧ u.2.2.2.1 43 = gm 43) := by
  intro sz
  refine vx_ofWH (cc := cL_call) (maxL := 5) (ret := (some .int)) (by decide) rfl ?_
  intro p e s m args below meth c s₁ B hml hv
  obtain ⟨rfl, hsz, hP, hK, hD0, hG, hN9⟩ := hv
  have hx := B.exec
  have hb := B.bytes
  have hr := B.returns
  have hts := atoms_spec (ws := wm_L_call) B.pre
  have htb := fun (w : Cond) (h : w ∈ tb) => hts w (List.mem_cons_of_mem _ h)
  have hown : s.vm.findClass RL = some m.cls := findClass_of_methodNamed B.named
  have hlocks := B.notSynchronized
  have hxt := vx_table (x := yL_call) B (hts _ List.mem_cons_self)
  subst hsz
  have hD := hD0.self (sz := s.heap.size)
  generalize hAe : va_A (cW ad cid a2 lx sg gm lg ++ [(qo, oE cO f)]) s.heap.size = A at hD hG ⊢
  have hA : ∀ q : Nat, s.heap.size ≤ q → A q := fun q h => by rw [← hAe]; exact Or.inr h
  have hS : va_S A s.heap s.heap [] := va_S.rf
  have hl := lv_entry ([eV (ad 0) 0, .int k9, .int w9, .ref qo]) (n := 5) (by rw [show (lg_sl ([eV (ad 0) 0, .int k9, .int w9, .ref qo])).length = 4 from by simp [lg_sl, eV_cat, cat_i, cat_l, cat_r]]; exact Nat.le_of_ble_eq_true rfl)
  rw [lg_entry_eq]
  generalize (lg_sl ([eV (ad 0) 0, .int k9, .int w9, .ref qo]) ++ List.replicate (5 - (lg_sl ([eV (ad 0) 0, .int k9, .int w9, .ref qo])).length) Slot.unset).toArray = ls at hl ⊢
  have hl : lv_has ls 5 [(0, eV (ad 0) 0), (1, .int k9), (2, .int w9), (3, .ref qo)] := by simp [lv_args, eV_cat, cat_i, cat_l, cat_r] at hl; exact hl
  obtain ⟨kI, kLD, kFN, kBE, kU12, kU18, kDC⟩ := id hKI
  refine lv_aload_n hx hb dL_call_0 rfl (lv_at hl 3 rfl) ?_
  refine lv_iconst (v := 0) hx hb dL_call_1 (by decide) ?_
  refine ec_aload_n hx hb dL_call_2 rfl (lv_at hl 0 rfl) ?_
  refine lv_iload_n hx hb dL_call_3 rfl (lv_at hl 1 rfl) ?_
  refine lv_iload_n hx hb dL_call_4 rfl (lv_at hl 2 rfl) ?_
  refine lw_callG (r := [(qo, oE cO f)]) (tr := [(cO, .long)]) (rest := [.int 0, .ref qo]) (as := [.int k9, .int w9]) ⟨hx, hb, hml, hown, htb⟩ (d_call l dC dI ad cid a2 lx sg gm lg hl9 0 k9 w9  kI (iv_k (by decide) : iv 0 0 0) kDC kLD kFN) (cwV 2 htb (gd_V kw_1285 kw_1286 kw_1287 kw_2 kw_1644) rfl rfl rfl (by decide +kernel) ⟨Nat.le_of_ble_eq_true rfl, Nat.le_of_ble_eq_true rfl⟩) (iv_k (by decide) : iv 0 0 0) rfl hl.1 rfl (Nat.le_trans (cs_c (cat_i _) (cs_c (cat_r _) cs_n)) (by decide)) dL_call_5 ⟨Nat.le_of_ble_eq_true rfl, Nat.le_of_ble_eq_true rfl⟩ hK hP hD hS hA hG (fun E ce q9 u H locs hw hmu hP hD hS hce hcv hcl => ?_) (fun v9 u H locs hw hmu hP hD hS => ?_)
  · obtain ⟨hE, sg9, gm9, lg9, rfl, hI9, k1, k2, k3, xMO, xFN⟩ := hw
    have hKx : KI (it + 1) lx sg9 gm9 lg9 := KI_mk hKI hI9 k1 k2 k3 xMO xFN (by decide) (by decide) (by decide)
    rcases hE with hE | hE | hE
    · subst hE
      refine mc_catch (own := RL) (name := "java/lang/IllegalStateException") hown ⟨0, 10, 13, 18⟩ [⟨0, 10, 17, 30⟩, ⟨0, 10, 21, 20⟩] hxt (by decide) (by decide) (htb _ kw_986) (va_Nw.use rfl hG.1.2.1.2.1) hce hcv hcl ?_
      refine lv_astore (lv' := [(4, .ref q9), (0, eV (ad 0) 0), (1, .int k9), (2, .int w9), (3, .ref qo)]) hx hb dL_call_13 hl (by decide) (by simp [List.filter, eV_cat, cat_i, cat_l, cat_r]) (fun ls hl => ?_)
      refine lv_iconst (v := 1) hx hb dL_call_15 (by decide) ?_
      exact W.nb (fun hN => W.widen (k := 60963) (n := 243858) (Nat.le_trans (Nat.add_le_add_left (gc_l0 (gm := gm) hI9) 0) (Nat.le_of_ble_eq_true rfl)) (Nat.le_trans (Nat.add_le_add_left (gs_l0 (gm := gm) hI9) 0) (Nat.le_of_ble_eq_true rfl)) (vx_ret (W.iret (v := 1) hx hb hr (fun t ht hW => ⟨⟨1, (a2, lx, sg9, gm9, lg9), _, rfl, ⟨hKx, k1 0 (by decide), k2 43 (by decide)⟩, ⟨by rw [ht]; exact hP, va_K.moved hW.alike hK, hD⟩, hmu, by rw [ht]; exact NBw_w hN (by rw [Nat.zero_add]; exact gc_e rfl (by decide)) (by rw [Nat.zero_add]; exact gs_e rfl (by decide))⟩, hS.F ht⟩) hS.2.2 dL_call_16)))
    · subst hE
      refine mc_catch2 (own := RL) (n1 := "java/lang/IllegalStateException") (name := "java/lang/IndexOutOfBoundsException") hown ⟨0, 10, 13, 18⟩ ⟨0, 10, 17, 30⟩ [⟨0, 10, 21, 20⟩] hxt (by decide) (by decide) (by decide) (by decide) (htb _ kw_986) (htb _ kw_1284) hN9.2.2 (va_Nw.use rfl hG.2.1.2.1) hce hcv hcl ?_
      refine lv_astore (lv' := [(4, .ref q9), (0, eV (ad 0) 0), (1, .int k9), (2, .int w9), (3, .ref qo)]) hx hb dL_call_17 hl (by decide) (by simp [List.filter, eV_cat, cat_i, cat_l, cat_r]) (fun ls hl => ?_)
      refine lv_iconst (v := 2) hx hb dL_call_19 (by decide) ?_
      exact W.nb (fun hN => W.widen (k := 60963) (n := 243858) (Nat.le_trans (Nat.add_le_add_left (gc_l0 (gm := gm) hI9) 0) (Nat.le_of_ble_eq_true rfl)) (Nat.le_trans (Nat.add_le_add_left (gs_l0 (gm := gm) hI9) 0) (Nat.le_of_ble_eq_true rfl)) (vx_ret (W.iret (v := 2) hx hb hr (fun t ht hW => ⟨⟨2, (a2, lx, sg9, gm9, lg9), _, rfl, ⟨hKx, k1 0 (by decide), k2 43 (by decide)⟩, ⟨by rw [ht]; exact hP, va_K.moved hW.alike hK, hD⟩, hmu, by rw [ht]; exact NBw_w hN (by rw [Nat.zero_add]; exact gc_e rfl (by decide)) (by rw [Nat.zero_add]; exact gs_e rfl (by decide))⟩, hS.F ht⟩) hS.2.2 dL_call_20)))
    · subst hE
      refine mc_catch3 (own := RL) (n1 := "java/lang/IllegalStateException") (n2 := "java/lang/IndexOutOfBoundsException") (name := "java/lang/UnsupportedOperationException") hown ⟨0, 10, 13, 18⟩ ⟨0, 10, 17, 30⟩ ⟨0, 10, 21, 20⟩ [] hxt (by decide) (by decide) (by decide) (by decide) (by decide) (by decide) (htb _ kw_986) (htb _ kw_1284) (htb _ kw_987) hN9.1 hN9.2.1 (va_Nw.use rfl hG.2.1.1) hce hcv hcl ?_
      refine lv_astore (lv' := [(4, .ref q9), (0, eV (ad 0) 0), (1, .int k9), (2, .int w9), (3, .ref qo)]) hx hb dL_call_21 hl (by decide) (by simp [List.filter, eV_cat, cat_i, cat_l, cat_r]) (fun ls hl => ?_)
      refine lv_iconst (v := 3) hx hb dL_call_23 (by decide) ?_
      exact W.nb (fun hN => W.widen (k := 60963) (n := 243858) (Nat.le_trans (Nat.add_le_add_left (gc_l0 (gm := gm) hI9) 0) (Nat.le_of_ble_eq_true rfl)) (Nat.le_trans (Nat.add_le_add_left (gs_l0 (gm := gm) hI9) 0) (Nat.le_of_ble_eq_true rfl)) (vx_ret (W.iret (v := 3) hx hb hr (fun t ht hW => ⟨⟨3, (a2, lx, sg9, gm9, lg9), _, rfl, ⟨hKx, k1 0 (by decide), k2 43 (by decide)⟩, ⟨by rw [ht]; exact hP, va_K.moved hW.alike hK, hD⟩, hmu, by rw [ht]; exact NBw_w hN (by rw [Nat.zero_add]; exact gc_e rfl (by decide)) (by rw [Nat.zero_add]; exact gs_e rfl (by decide))⟩, hS.F ht⟩) hS.2.2 dL_call_24)))
  · obtain ⟨r9, rfl, sg9, gm9, lg9, rfl, hI9, k1, k2, k3, hr9, fMO, fFN⟩ := hw
    have hKr : KI (it + 1) lx sg9 gm9 lg9 := KI_mk hKI hI9 k1 k2 k3 fMO fFN (by decide) (by decide) (by decide)
    have hP : va_P (dC, dI) vwCl (cW ad cid a2 lx sg9 gm9 lg9 ++ [(qo, oE cO f)]) H := hP
    have hD : va_D A (cW ad cid a2 lx sg9 gm9 lg9 ++ [(qo, oE cO f)]) := hD
    refine W.eq (g2 := F0 m 8 ls [.int r9, .int 0, .ref qo]) rfl ?_
    refine lv_i2l (v := r9.toInt64) hx hb dL_call_8 rfl ?_
    refine va_last (D := (dC, dI)) (f := f) hx hb hK hP hD hS _ 33 wOo cTo (vp_in_iff.mpr ⟨by decide, by decide⟩) dL_call_9 (fun H locs hP hD hS => ?_)
    rw [set_last] at hP hD
    refine lv_goto (tgt := 25) hx hb dL_call_10 (by decide) ?_
    refine lv_iconst (v := 0) hx hb dL_call_25 (by decide) ?_
    exact W.nb (fun hN => W.widen (k := 60963) (n := 243858) (Nat.le_trans (Nat.add_le_add_left (gc_l0 (gm := gm) hI9) 0) (Nat.le_of_ble_eq_true rfl)) (Nat.le_trans (Nat.add_le_add_left (gs_l0 (gm := gm) hI9) 0) (Nat.le_of_ble_eq_true rfl)) (vx_ret (W.iret (v := 0) hx hb hr (fun t ht hW => ⟨⟨0, (a2, lx, sg9, gm9, lg9), _, rfl, ⟨hKr, k1 0 (by decide), k2 43 (by decide)⟩, ⟨by rw [ht]; exact hP, va_K.moved hW.alike hK, hD⟩, hmu, by rw [ht]; exact NBw_w hN (by rw [Nat.zero_add]; exact gc_e rfl (by decide)) (by rw [Nat.zero_add]; exact gs_e rfl (by decide))⟩, hS.F ht⟩) hS.2.2 dL_call_26)))
