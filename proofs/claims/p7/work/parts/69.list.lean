/-- the place of a list's cells -/
def dV (ad : Nat → Nat → Nat) (a2 : Nat → Nat) (gm : Nat → Nat → Int32) (q : Nat) : Value := .ref (if (gm 42 q).toInt = 0 then ad 34 0 else a2 q)
theorem dV_cat (ad : Nat → Nat → Nat) (a2 : Nat → Nat) (gm : Nat → Nat → Int32) (q : Nat) : (dV ad a2 gm q).category = 1 := rfl
theorem dV_n {ad : Nat → Nat → Nat} {a2 : Nat → Nat} {gm : Nat → Nat → Int32} {q : Nat} (h : ¬ (gm 42 q).toInt = 0) : dV ad a2 gm q = .ref (a2 q) := by unfold dV; rw [if_neg h]
/-- what the lists bear: as many elements as they say, all there -/
def LDI (lx : List Nat) (gm : Nat → Nat → Int32) : Prop := ∀ q, q < 240 → (gm 41 q).toInt ≤ (gm 42 q).toInt ∧ (¬ (gm 42 q).toInt = 0 → q ∈ lx) ∧ ∀ j, j < (gm 41 q).toNatClampNeg → 0 ≤ (gm 57 (128 * q + j)).toInt
section LST
variable {p : Program} {l : Launch} {e : Env} {R : Room} {s : State} {m : MethodId} {args : Array Value} {below : List Frame} {meth : Method} {c : Code} {H : Heap} {locs : List Loc} {cells slots : Nat} {Q : State → Prop} {cc : ByteArray} {pc : Nat} {ls : Array Slot} {rest : List Value} {A : Nat → Prop} {H0 : Heap}
variable {dC : Nat → ClassId} {dI : Nat → Nat → Nat} {ad : Nat → Nat → Nat} {cid : Nat → ClassId} {a2 : Nat → Nat} {lx : List Nat} {sg : Nat → Int32} {gm : Nat → Nat → Int32} {lg : Nat → Nat → Int64} {own : String} {index : Nat}
theorem cW_ld {q : Nat} (h : q ∈ lx) : ∃ p9 : Nat, (cW ad cid a2 lx sg gm lg)[p9]? = some (a2 q, cD ad cid gm q) := by
  obtain ⟨i, hi⟩ := List.getElem?_of_mem h
  refine ⟨(cFx ad cid a2 sg gm lg).length + i, ?_⟩
  unfold cW
  rw [List.getElem?_append_right (Nat.le_add_right _ _), Nat.add_sub_cancel_left, List.getElem?_map, hi]
  rfl
theorem cl_aald {q : Nat} {y : Int32} (hexec : p.tables.exec = Jvm.exec) (hb : c.code = cc) (hK : va_K (dC, dI) vwCl (cT cid) s) (hP : va_P (dC, dI) vwCl (cW ad cid a2 lx sg gm lg) H) (hl : q ∈ lx) (hc : ¬ (gm 42 q).toInt = 0) (hin : vp_in y (gm 42 q).toNatClampNeg) (h8 : y.toNatClampNeg < 128) (hdg : decode cc pc = .ok (.aaload, 1))
    (kk : W p l e R s m args below meth c H locs cells slots Q (F0 m (pc + 1) ls (eV (ad 9) (gm 57 (128 * q + y.toNatClampNeg)) :: rest))) : W p l e R s m args below meth c H locs cells slots Q (F0 m pc ls (.int y :: dV ad a2 gm q :: rest)) := by
  rw [dV_n hc]
  obtain ⟨p9, hp⟩ := cW_ld (ad := ad) (cid := cid) (a2 := a2) (sg := sg) (gm := gm) (lg := lg) hl
  refine va_aldq (D := (dC, dI)) (C := "java/lang/Object") (f := cDr ad gm q) hexec hb hK hP p9 32 hp (by rw [cT_at (by decide)]; rfl) hin hdg ?_
  rw [show va_rf (cDr ad gm q y.toNatClampNeg) = eV (ad 9) (gm 57 (128 * q + y.toNatClampNeg)) from by unfold cDr; rw [if_pos h8]; rfl]
  exact kk
theorem cl_cast {h : Int} {z : Int32} (hexec : p.tables.exec = Jvm.exec) (hb : c.code = cc) (hG : CE ad A s) (hown : s.vm.findClass own = some m.cls) (hlink : (Cond.classLink own index "WiredBeans$Element").before args s = true) (hK : va_K (dC, dI) vwCl (cT cid) s) (hP : va_P (dC, dI) vwCl (cW ad cid a2 lx sg gm lg) H) (hz : iv 0 h z) (hn : h < (cNum 9 : Int)) (hdg : decode cc pc = .ok (.checkcast index, 3))
    (kk : W p l e R s m args below meth c H locs cells slots Q (F0 m (pc + 3) ls (eV (ad 9) z :: rest))) : W p l e R s m args below meth c H locs cells slots Q (F0 m pc ls (eV (ad 9) z :: rest)) := by
  rw [eV_ref hz.1] at kk ⊢
  exact va_castY hexec hb hown hlink hG.2.1.2.2.1.2 (cm_recv (C := RX3) (T := TX3) (N := 21) hK hP hz hn (by decide) rfl) hdg kk
end LST

theorem dJ15_checkIndex_7cf53_0 : decode cJ15_checkIndex_7cf53 0 = .ok (.iload_n 0, 1) := by decide +kernel
theorem dJ15_checkIndex_7cf53_1 : decode cJ15_checkIndex_7cf53 1 = .ok (.iload_n 1, 1) := by decide +kernel
theorem dJ15_checkIndex_7cf53_2 : decode cJ15_checkIndex_7cf53 2 = .ok (.aconst_null, 1) := by decide +kernel
theorem dJ15_checkIndex_7cf53_3 : decode cJ15_checkIndex_7cf53 3 = .ok (.invokestatic 105, 3) := by decide +kernel
theorem dJ15_checkIndex_7cf53_6 : decode cJ15_checkIndex_7cf53 6 = .ok (.ireturn, 1) := by decide +kernel
theorem dJx4a65c_elementData_915e3_0 : decode cJx4a65c_elementData_915e3 0 = .ok (.aload_n 0, 1) := by decide +kernel
theorem dJx4a65c_elementData_915e3_1 : decode cJx4a65c_elementData_915e3 1 = .ok (.getfield 9, 3) := by decide +kernel
theorem dJx4a65c_elementData_915e3_4 : decode cJx4a65c_elementData_915e3 4 = .ok (.iload_n 1, 1) := by decide +kernel
theorem dJx4a65c_elementData_915e3_5 : decode cJx4a65c_elementData_915e3 5 = .ok (.aaload, 1) := by decide +kernel
theorem dJx4a65c_elementData_915e3_6 : decode cJx4a65c_elementData_915e3 6 = .ok (.areturn, 1) := by decide +kernel
theorem dJx4a65c_get_915e3_0 : decode cJx4a65c_get_915e3 0 = .ok (.iload_n 1, 1) := by decide +kernel
theorem dJx4a65c_get_915e3_1 : decode cJx4a65c_get_915e3 1 = .ok (.aload_n 0, 1) := by decide +kernel
theorem dJx4a65c_get_915e3_2 : decode cJx4a65c_get_915e3 2 = .ok (.getfield 48, 3) := by decide +kernel
theorem dJx4a65c_get_915e3_5 : decode cJx4a65c_get_915e3 5 = .ok (.invokestatic 118, 3) := by decide +kernel
theorem dJx4a65c_get_915e3_8 : decode cJx4a65c_get_915e3 8 = .ok (.pop, 1) := by decide +kernel
theorem dJx4a65c_get_915e3_9 : decode cJx4a65c_get_915e3 9 = .ok (.aload_n 0, 1) := by decide +kernel
theorem dJx4a65c_get_915e3_10 : decode cJx4a65c_get_915e3 10 = .ok (.iload_n 1, 1) := by decide +kernel
theorem dJx4a65c_get_915e3_11 : decode cJx4a65c_get_915e3 11 = .ok (.invokevirtual 123, 3) := by decide +kernel
theorem dJx4a65c_get_915e3_14 : decode cJx4a65c_get_915e3 14 = .ok (.areturn, 1) := by decide +kernel

set_option maxHeartbeats 4000000 in
set_option maxRecDepth 100000 in
theorem d_pchk (l : Launch) (dC : Nat → ClassId) (dI : Nat → Nat → Nat) (ad : Nat → Nat → Nat) (cid : Nat → ClassId) (a2 : Nat → Nat) (lx : List Nat) (sg : Nat → Int32) (gm : Nat → Nat → Int32) (lg : Nat → Nat → Int64) (i : Int32) (j : Int32) (fn : Int32) (hI : CI sg gm) (hvfn : iv (-1) (-1) fn) (hi0 : 0 ≤ i.toInt) (hij : i.toInt < j.toInt) : CMt dC dI ad cid a2 lx l yJ3_checkIndex_8e157 wm_J3_checkIndex_8e157 ({ frames := 0, cells := 1, slots := 6, locals := 0 }) [.int i, .int j, eV (ad 36) fn] sg gm lg (fun v u => ∃ r : Int32, v = some (.int r) ∧ u = (sg, gm, lg) ∧ (r = i)) (fun _ _ => False) := by
  intro sz
  refine vx_ofW (cc := cJ3_checkIndex_8e157) (maxL := 3) (ret := (some .int)) (by decide) rfl ?_
  intro p e s m args below meth c s₁ B hml hxt hv
  obtain ⟨rfl, hsz, hP, hK, hD0, hG⟩ := hv
  have hx := B.exec
  have hb := B.bytes
  have hr := B.returns
  have hts := atoms_spec (ws := wm_J3_checkIndex_8e157) B.pre
  have htb := fun (w : Cond) (h : w ∈ tb) => hts w (List.mem_cons_of_mem _ h)
  have hown : s.vm.findClass RJ3 = some m.cls := findClass_of_methodNamed B.named
  have hlocks := B.notSynchronized
  subst hsz
  have hD := hD0.self (sz := s.heap.size)
  generalize hAe : va_A (cW ad cid a2 lx sg gm lg) s.heap.size = A at hD hG ⊢
  have hA : ∀ q : Nat, s.heap.size ≤ q → A q := fun q h => by rw [← hAe]; exact Or.inr h
  have hS : va_S A s.heap s.heap [] := va_S.rf
  have hl := lv_entry ([.int i, .int j, eV (ad 36) fn]) (n := 3) (by rw [show (lg_sl ([.int i, .int j, eV (ad 36) fn])).length = 3 from by simp [lg_sl, eV_cat, cat_i, cat_l]]; exact Nat.le_of_ble_eq_true rfl)
  rw [lg_entry_eq]
  generalize (lg_sl ([.int i, .int j, eV (ad 36) fn]) ++ List.replicate (3 - (lg_sl ([.int i, .int j, eV (ad 36) fn])).length) Slot.unset).toArray = ls at hl ⊢
  have hl : lv_has ls 3 [(0, .int i), (1, .int j), (2, eV (ad 36) fn)] := by simp [lv_args, eV_cat, cat_i, cat_l] at hl; exact hl
  have hj9 : ∀ (_ : iv (-1) (-1) fn) (_ : False) (H : Heap) (locs : List Loc) (ls : Array Slot), va_P (dC, dI) vwCl (cW ad cid a2 lx sg gm lg) H → va_D A (cW ad cid a2 lx sg gm lg) → va_S A s.heap H locs → lv_has ls 3 [(0, .int i), (1, .int j), (2, eV (ad 36) fn)] → W p l e (headSpec wm_J3_checkIndex_8e157 ({ frames := 0, cells := 1, slots := 6, locals := 0 })).room s m ([.int i, .int j, eV (ad 36) fn] : List Value).toArray below meth c H locs 0 0 (vx_MQ below (cQx dC dI ad cid a2 lx (fun v u => ∃ r : Int32, v = some (.int r) ∧ u = (sg, gm, lg) ∧ (r = i)) A) (cX dC dI ad cid a2 lx (fun _ _ => False) A) ([.int i, .int j, eV (ad 36) fn] : List Value).toArray s 1 6 A) (F0 m 9 ls []) := by
    intro  hsx2_9 hbad H locs ls hP hD hS hl
    exact hbad.elim
  refine lv_iload_n hx hb dJ3_checkIndex_8e157_0 rfl (lv_at hl 0 rfl) ?_
  refine lv_if_lt (tgt := 9) hx hb dJ3_checkIndex_8e157_1 (by decide) (fun c_1 => ?_) (fun c_1 => ?_)
  · have h_2 : iv (-2147483648) (-1) i := iv_ltL c_1 (iv_all i) (iv_k (by decide) : iv 0 0 0) (by decide)
    exact hj9 hvfn (by have := i32_0; have := i32_1; have := i32_2; have := i32_m1; have := (hvfn).1; have := (hvfn).2; have := (h_2).1; have := (h_2).2; omega) _ _ _ hP hD hS (lv_sub hl [0, 1, 2] rfl)
  · have h_3 : iv 0 2147483647 i := iv_leR (i32_ge c_1) (iv_k (by decide) : iv 0 0 0) (iv_all i) (by decide)
    refine lv_iload_n hx hb dJ3_checkIndex_8e157_4 rfl (lv_at hl 0 rfl) ?_
    refine lv_iload_n hx hb dJ3_checkIndex_8e157_5 rfl (lv_at hl 1 rfl) ?_
    refine lv_icmp_lt (tgt := 16) hx hb dJ3_checkIndex_8e157_6 (by decide) (fun c_4 => ?_) (fun c_4 => ?_)
    · have d_5 : (i : Int32).toInt < (j : Int32).toInt := Int32.lt_iff_toInt_lt.mp c_4
      have h_6 : iv 0 2147483646 i := iv_ltL c_4 h_3 (iv_all j) (by decide)
      have h_7 : iv 1 2147483647 j := iv_ltR c_4 h_3 (iv_all j) (by decide)
      refine lv_iload_n hx hb dJ3_checkIndex_8e157_16 rfl (lv_at hl 0 rfl) ?_
      exact W.nb (fun hN => W.widen (k := 1) (n := 6) (by decide) (by decide) (vx_ret (W.iret (v := i) hx hb hr (fun t ht hW => ⟨⟨some (.int i), (sg, gm, lg), rfl, ⟨i, rfl, rfl, (rfl)⟩, by rw [ht]; exact hP, va_K.moved hW.alike hK, hD⟩, hS.F ht, by rw [ht]; exact hN⟩) hS.2.2 dJ3_checkIndex_8e157_17)))
    · have d_8 : (j : Int32).toInt ≤ (i : Int32).toInt := Int32.le_iff_toInt_le.mp (i32_ge c_4)
      exact hj9 hvfn (by have := i32_0; have := i32_1; have := i32_2; have := i32_m1; have := (hvfn).1; have := (hvfn).2; have := (h_3).1; have := (h_3).2; omega) _ _ _ hP hD hS (lv_sub hl [0, 1, 2] rfl)

set_option maxHeartbeats 4000000 in
set_option maxRecDepth 100000 in
theorem d_chk (l : Launch) (dC : Nat → ClassId) (dI : Nat → Nat → Nat) (ad : Nat → Nat → Nat) (cid : Nat → ClassId) (a2 : Nat → Nat) (lx : List Nat) (sg : Nat → Int32) (gm : Nat → Nat → Int32) (lg : Nat → Nat → Int64) (i : Int32) (j : Int32) (hI : CI sg gm) (hi0 : 0 ≤ i.toInt) (hij : i.toInt < j.toInt) : CMt dC dI ad cid a2 lx l yJ15_checkIndex_7cf53 wm_J15_checkIndex_7cf53 ({ frames := 1, cells := 1, slots := 6, locals := 22 }) [.int i, .int j] sg gm lg (fun v u => ∃ r : Int32, v = some (.int r) ∧ u = (sg, gm, lg) ∧ (r = i)) (fun _ _ => False) := by
  intro sz
  refine vx_ofW (cc := cJ15_checkIndex_7cf53) (maxL := 2) (ret := (some .int)) (by decide) rfl ?_
  intro p e s m args below meth c s₁ B hml hxt hv
  obtain ⟨rfl, hsz, hP, hK, hD0, hG⟩ := hv
  have hx := B.exec
  have hb := B.bytes
  have hr := B.returns
  have hts := atoms_spec (ws := wm_J15_checkIndex_7cf53) B.pre
  have htb := fun (w : Cond) (h : w ∈ tb) => hts w (List.mem_cons_of_mem _ h)
  have hown : s.vm.findClass RJ15 = some m.cls := findClass_of_methodNamed B.named
  have hlocks := B.notSynchronized
  subst hsz
  have hD := hD0.self (sz := s.heap.size)
  generalize hAe : va_A (cW ad cid a2 lx sg gm lg) s.heap.size = A at hD hG ⊢
  have hA : ∀ q : Nat, s.heap.size ≤ q → A q := fun q h => by rw [← hAe]; exact Or.inr h
  have hS : va_S A s.heap s.heap [] := va_S.rf
  have hl := lv_entry ([.int i, .int j]) (n := 2) (Nat.le_of_ble_eq_true rfl)
  rw [lg_entry_eq]
  generalize (lg_sl ([.int i, .int j]) ++ List.replicate (2 - (lg_sl ([.int i, .int j])).length) Slot.unset).toArray = ls at hl ⊢
  have hl : lv_has ls 2 [(0, .int i), (1, .int j)] := hl
  refine lv_iload_n hx hb dJ15_checkIndex_7cf53_0 rfl (lv_at hl 0 rfl) ?_
  refine lv_iload_n hx hb dJ15_checkIndex_7cf53_1 rfl (lv_at hl 1 rfl) ?_
  refine ec_null (a := ad 36) hx hb dJ15_checkIndex_7cf53_2 ?_
  refine cm_callS (rest := []) (as := [.int i, .int j, eV (ad 36) (-1)]) ⟨hx, hb, hml, hown, htb⟩ (d_pchk l dC dI ad cid a2 lx sg gm lg i j (-1) hI (iv_k (by decide) : iv (-1) (-1) (-1)) hi0 hij) (va_cwS 3 htb (gd_S kw_799 kw_454 kw_455 kw_1443) rfl rfl rfl (by decide +kernel) ⟨Nat.le_of_ble_eq_true rfl, Nat.le_of_ble_eq_true rfl⟩)  rfl hl.1 rfl (Nat.le_trans cs_n (by decide)) dJ15_checkIndex_7cf53_3 ⟨Nat.le_of_ble_eq_true rfl, Nat.le_of_ble_eq_true rfl⟩ hK hP hD hS hA hG (fun E ce q9 u_2 H locs hw hP hD hS hce hcv hcl => ?_) (fun v9 u_2 H locs hw hP hD hS => ?_)
  · exact hw.elim
  obtain ⟨r_1, rfl, rfl, fr_r_1⟩ := hw
  have hP : va_P (dC, dI) vwCl (cW ad cid a2 lx sg gm lg) H := hP
  have hD : va_D A (cW ad cid a2 lx sg gm lg) := hD
  refine W.eq (g2 := F0 m 6 ls [.int r_1]) rfl ?_
  exact W.nb (fun hN => W.widen (k := 1) (n := 6) (by decide) (by decide) (vx_ret (W.iret (v := r_1) hx hb hr (fun t ht hW => ⟨⟨some (.int r_1), (sg, gm, lg), rfl, ⟨r_1, rfl, rfl, (fr_r_1)⟩, by rw [ht]; exact hP, va_K.moved hW.alike hK, hD⟩, hS.F ht, by rw [ht]; exact hN⟩) hS.2.2 dJ15_checkIndex_7cf53_6)))

set_option maxHeartbeats 4000000 in
set_option maxRecDepth 100000 in
theorem d_elementData (l : Launch) (dC : Nat → ClassId) (dI : Nat → Nat → Nat) (ad : Nat → Nat → Nat) (cid : Nat → ClassId) (a2 : Nat → Nat) (lx : List Nat) (sg : Nat → Int32) (gm : Nat → Nat → Int32) (lg : Nat → Nat → Int64) (x : Int32) (i : Int32) (hI : CI sg gm) (hvx : iv 0 239 x) (hLD : LDI lx gm) (hi0 : 0 ≤ i.toInt) (hil : i.toInt < (gm 41 x.toNatClampNeg).toInt) : CMt dC dI ad cid a2 lx l yJx4a65c_elementData_915e3 wm_Jx4a65c_elementData_915e3 ({ frames := 0, cells := 1, slots := 6, locals := 0 }) [eV (ad 11) x, .int i] sg gm lg (fun v u => ∃ r : Int32, v = some (eV (ad 9) r) ∧ u = (sg, gm, lg) ∧ (iv 0 79 r) ∧ (r = gm 57 (128 * x.toNatClampNeg + i.toNatClampNeg))) (fun _ _ => False) := by
  intro sz
  refine vx_ofW (cc := cJx4a65c_elementData_915e3) (maxL := 2) (ret := (some (.object "java/lang/Object"))) (by decide) rfl ?_
  intro p e s m args below meth c s₁ B hml hxt hv
  obtain ⟨rfl, hsz, hP, hK, hD0, hG⟩ := hv
  have hx := B.exec
  have hb := B.bytes
  have hr := B.returns
  have hts := atoms_spec (ws := wm_Jx4a65c_elementData_915e3) B.pre
  have htb := fun (w : Cond) (h : w ∈ tb) => hts w (List.mem_cons_of_mem _ h)
  have hown : s.vm.findClass RJx4a65c = some m.cls := findClass_of_methodNamed B.named
  have hlocks := B.notSynchronized
  subst hsz
  have hD := hD0.self (sz := s.heap.size)
  generalize hAe : va_A (cW ad cid a2 lx sg gm lg) s.heap.size = A at hD hG ⊢
  have hA : ∀ q : Nat, s.heap.size ≤ q → A q := fun q h => by rw [← hAe]; exact Or.inr h
  have hS : va_S A s.heap s.heap [] := va_S.rf
  have hl := lv_entry ([eV (ad 11) x, .int i]) (n := 2) (by rw [show (lg_sl ([eV (ad 11) x, .int i])).length = 2 from by simp [lg_sl, eV_cat, cat_i, cat_l]]; exact Nat.le_of_ble_eq_true rfl)
  rw [lg_entry_eq]
  generalize (lg_sl ([eV (ad 11) x, .int i]) ++ List.replicate (2 - (lg_sl ([eV (ad 11) x, .int i])).length) Slot.unset).toArray = ls at hl ⊢
  have hl : lv_has ls 2 [(0, eV (ad 11) x), (1, .int i)] := by simp [lv_args, eV_cat, cat_i, cat_l] at hl; exact hl
  refine ec_aload_n hx hb dJx4a65c_elementData_915e3_0 rfl (lv_at hl 0 rfl) ?_
  refine cr_get (t := 11) (j := 1) (C := RJx4a65c) (T := TJx4a65c) (N := 3) (v := dV ad a2 gm x.toNatClampNeg) hx hb htb inJx4a65c hown hK hP hvx (by decide) (by decide) (by decide) rfl (by decide) (htb _ kw_105) rfl dJx4a65c_elementData_915e3_1 ?_
  refine lv_iload_n hx hb dJx4a65c_elementData_915e3_4 rfl (lv_at hl 1 rfl) ?_
  have hq := hLD x.toNatClampNeg (by have := iv_cl hvx (by decide); have := hvx.2; omega)
  have h42 := (show iv 0 127 (gm 42 x.toNatClampNeg) from CI_a hI 42 hvx (by decide))
  have h41 := (show iv 0 80 (gm 41 x.toNatClampNeg) from CI_a hI 41 hvx (by decide))
  have hc9 : ¬ (gm 42 x.toNatClampNeg).toInt = 0 := by have := hq.1; omega
  have k1 := cl_0 hi0
  have k2 := iv_cl h42 (by decide)
  have k3 := iv_cl h41 (by decide)
  refine cl_aald hx hb hK hP (hq.2.1 hc9) hc9 (vp_in_iff.mpr ⟨hi0, by have := hq.1; omega⟩) (by have := hq.1; have := h42.2; omega) dJx4a65c_elementData_915e3_5 ?_
  obtain ⟨z_1, ez_1⟩ : ∃ z : Int32, z = gm 57 (128 * x.toNatClampNeg + i.toNatClampNeg) := ⟨_, rfl⟩
  refine W.eq (g2 := F0 m 6 ls [eV (ad 9) z_1]) (by rw [ez_1]) ?_
  have hz_1 : iv 0 79 z_1 := ⟨by rw [ez_1]; exact hq.2.2 _ (by omega), by rw [ez_1]; exact (show iv (-1) 79 _ from CI_n hI 57 (show 128 * x.toNatClampNeg + i.toNatClampNeg < crLen 57 from by have := iv_cl hvx (by decide); have := hvx.2; have := hq.1; have := h42.2; show _ < 30720; omega)).2⟩
  exact W.nb (fun hN => W.widen (k := 1) (n := 6) (by decide) (by decide) (vx_ret (W.aret (v := eV (ad 9) z_1) hx hb hr (Or.inl ⟨_, rfl⟩) (eV_is _ _) (fun t ht hW => ⟨⟨some (eV (ad 9) z_1), (sg, gm, lg), rfl, ⟨z_1, rfl, rfl, hz_1, (ez_1)⟩, by rw [ht]; exact hP, va_K.moved hW.alike hK, hD⟩, hS.F ht, by rw [ht]; exact hN⟩) hS.2.2 dJx4a65c_elementData_915e3_6)))

set_option maxHeartbeats 4000000 in
set_option maxRecDepth 100000 in
theorem d_lget (l : Launch) (dC : Nat → ClassId) (dI : Nat → Nat → Nat) (ad : Nat → Nat → Nat) (cid : Nat → ClassId) (a2 : Nat → Nat) (lx : List Nat) (sg : Nat → Int32) (gm : Nat → Nat → Int32) (lg : Nat → Nat → Int64) (x : Int32) (i : Int32) (hI : CI sg gm) (hvx : iv 0 239 x) (hLD : LDI lx gm) (hi0 : 0 ≤ i.toInt) (hil : i.toInt < (gm 41 x.toNatClampNeg).toInt) : CMt dC dI ad cid a2 lx l yJx4a65c_get_915e3 wm_Jx4a65c_get_915e3 ({ frames := 2, cells := 1, slots := 6, locals := 43 }) [eV (ad 11) x, .int i] sg gm lg (fun v u => ∃ r : Int32, v = some (eV (ad 9) r) ∧ u = (sg, gm, lg) ∧ (iv 0 79 r) ∧ (r = gm 57 (128 * x.toNatClampNeg + i.toNatClampNeg))) (fun _ _ => False) := by
  intro sz
  refine vx_ofW (cc := cJx4a65c_get_915e3) (maxL := 2) (ret := (some (.object "java/lang/Object"))) (by decide) rfl ?_
  intro p e s m args below meth c s₁ B hml hxt hv
  obtain ⟨rfl, hsz, hP, hK, hD0, hG⟩ := hv
  have hx := B.exec
  have hb := B.bytes
  have hr := B.returns
  have hts := atoms_spec (ws := wm_Jx4a65c_get_915e3) B.pre
  have htb := fun (w : Cond) (h : w ∈ tb) => hts w (List.mem_cons_of_mem _ h)
  have hown : s.vm.findClass RJx4a65c = some m.cls := findClass_of_methodNamed B.named
  have hlocks := B.notSynchronized
  subst hsz
  have hD := hD0.self (sz := s.heap.size)
  generalize hAe : va_A (cW ad cid a2 lx sg gm lg) s.heap.size = A at hD hG ⊢
  have hA : ∀ q : Nat, s.heap.size ≤ q → A q := fun q h => by rw [← hAe]; exact Or.inr h
  have hS : va_S A s.heap s.heap [] := va_S.rf
  have hl := lv_entry ([eV (ad 11) x, .int i]) (n := 2) (by rw [show (lg_sl ([eV (ad 11) x, .int i])).length = 2 from by simp [lg_sl, eV_cat, cat_i, cat_l]]; exact Nat.le_of_ble_eq_true rfl)
  rw [lg_entry_eq]
  generalize (lg_sl ([eV (ad 11) x, .int i]) ++ List.replicate (2 - (lg_sl ([eV (ad 11) x, .int i])).length) Slot.unset).toArray = ls at hl ⊢
  have hl : lv_has ls 2 [(0, eV (ad 11) x), (1, .int i)] := by simp [lv_args, eV_cat, cat_i, cat_l] at hl; exact hl
  refine lv_iload_n hx hb dJx4a65c_get_915e3_0 rfl (lv_at hl 1 rfl) ?_
  refine ec_aload_n hx hb dJx4a65c_get_915e3_1 rfl (lv_at hl 0 rfl) ?_
  refine cr_get (t := 11) (j := 2) (C := RJx4a65c) (T := TJx4a65c) (N := 3) (v := .int (gm 41 x.toNatClampNeg)) hx hb htb inJx4a65c hown hK hP hvx (by decide) (by decide) (by decide) rfl (by decide) (htb _ kw_678) rfl dJx4a65c_get_915e3_2 ?_
  obtain ⟨z_1, ez_1⟩ : ∃ z : Int32, z = (gm 41 x.toNatClampNeg) := ⟨_, rfl⟩
  refine W.eq (g2 := F0 m 5 ls [.int z_1, .int i]) (by rw [ez_1]) ?_
  have hz_1 : iv 0 80 z_1 := iv_of ez_1 (CI_a hI 41 hvx (by decide))
  refine cm_callS (rest := []) (as := [.int i, .int z_1]) ⟨hx, hb, hml, hown, htb⟩ (d_chk l dC dI ad cid a2 lx sg gm lg i z_1 hI hi0 (by rw [ez_1]; exact hil)) (va_cwS 2 htb (gd_S kw_796 kw_797 kw_798 kw_1513) rfl rfl rfl (by decide +kernel) ⟨Nat.le_of_ble_eq_true rfl, Nat.le_of_ble_eq_true rfl⟩)  rfl hl.1 rfl (Nat.le_trans cs_n (by decide)) dJx4a65c_get_915e3_5 ⟨Nat.le_of_ble_eq_true rfl, Nat.le_of_ble_eq_true rfl⟩ hK hP hD hS hA hG (fun E ce q9 u_3 H locs hw hP hD hS hce hcv hcl => ?_) (fun v9 u_3 H locs hw hP hD hS => ?_)
  · exact hw.elim
  obtain ⟨r_2, rfl, rfl, fr_r_2⟩ := hw
  have hP : va_P (dC, dI) vwCl (cW ad cid a2 lx sg gm lg) H := hP
  have hD : va_D A (cW ad cid a2 lx sg gm lg) := hD
  refine W.eq (g2 := F0 m 8 ls [.int r_2]) rfl ?_
  refine lv_pop hx hb dJx4a65c_get_915e3_8 rfl ?_
  refine ec_aload_n hx hb dJx4a65c_get_915e3_9 rfl (lv_at hl 0 rfl) ?_
  refine lv_iload_n hx hb dJx4a65c_get_915e3_10 rfl (lv_at hl 1 rfl) ?_
  refine cm_callV (t := 11) (C := RJx4a65c) (T := TJx4a65c) (N := 3) (rest := []) (as := [.int i]) ⟨hx, hb, hml, hown, htb⟩ (d_elementData l dC dI ad cid a2 lx sg gm lg x i hI hvx hLD hi0 hil) (cwV 1 htb (gd_V kw_800 kw_801 kw_802 kw_98 kw_1514) rfl rfl rfl (by decide +kernel) ⟨Nat.le_of_ble_eq_true rfl, Nat.le_of_ble_eq_true rfl⟩) hvx (by decide) (by decide) rfl rfl hl.1 rfl (Nat.le_trans cs_n (by decide)) dJx4a65c_get_915e3_11 ⟨Nat.le_of_ble_eq_true rfl, Nat.le_of_ble_eq_true rfl⟩ hK hP hD hS hA hG (fun E ce q9 u_6 H locs hw hP hD hS hce hcv hcl => ?_) (fun v9 u_6 H locs hw hP hD hS => ?_)
  · exact hw.elim
  obtain ⟨r_5, rfl, rfl, hr_5, fr_r_5⟩ := hw
  have hP : va_P (dC, dI) vwCl (cW ad cid a2 lx sg gm lg) H := hP
  have hD : va_D A (cW ad cid a2 lx sg gm lg) := hD
  refine W.eq (g2 := F0 m 14 ls [eV (ad 9) r_5]) rfl ?_
  exact W.nb (fun hN => W.widen (k := 1) (n := 6) (by decide) (by decide) (vx_ret (W.aret (v := eV (ad 9) r_5) hx hb hr (Or.inl ⟨_, rfl⟩) (eV_is _ _) (fun t ht hW => ⟨⟨some (eV (ad 9) r_5), (sg, gm, lg), rfl, ⟨r_5, rfl, rfl, hr_5, (fr_r_5)⟩, by rw [ht]; exact hP, va_K.moved hW.alike hK, hD⟩, hS.F ht, by rw [ht]; exact hN⟩) hS.2.2 dJx4a65c_get_915e3_14)))
