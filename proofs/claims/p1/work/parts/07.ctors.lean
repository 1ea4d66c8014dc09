theorem fill_s {f : Nat → Int32} {x : Int32} {i : Nat} (hi : i < 2 ^ 31) (h : ∀ j, j < i → f j = x) : ∀ j, j < i + 1 → upd f (nI i).toNatClampNeg x j = x := by
  intro j hj
  rw [nI_clamp hi]
  by_cases e : j = i
  · subst e; exact pk_us
  · rw [pk_un e]; exact h j (by omega)

set_option maxHeartbeats 4000000 in
set_option maxRecDepth 100000 in
/-- ArrayList() -/
theorem c_AL_init (l : Launch) (dC : Nat → ClassId) (dI : Nat → Nat → Nat) (sz : Nat) (h0 : Nat) : Met l yJx4a65c_init_da8c8 wm_Jx4a65c_init_da8c8 ({ frames := 3, cells := 0, slots := 0, locals := 60 }) (va_Pc [.ref h0] (fun U => U.heap.size = sz ∧ va_P (dC, dI) vwCl [(h0, .inr (0, [.int 0, .null, .int 0]))] U.heap ∧ va_K (dC, dI) vwCl [] U ∧ va_D (fun _ => True) [(h0, .inr (0, [.int 0, .null, .int 0]))] ∧ GE (va_A [(h0, .inr (0, [.int 0, .null, .int 0]))] sz) U)) (va_Qv (fun _ : Unit => True) (fun _ t => va_P (dC, dI) vwCl [] t.heap ∧ va_K (dC, dI) vwCl [] t ∧ va_D (va_A [(h0, .inr (0, [.int 0, .null, .int 0]))] sz) []) (va_A [(h0, .inr (0, [.int 0, .null, .int 0]))] sz)) 0 0 (va_A [(h0, .inr (0, [.int 0, .null, .int 0]))] sz) := by
  refine Met.ofW (cc := cJx4a65c_init_da8c8) (maxL := 1) (ret := none) (by decide) rfl ?_
  intro p e s m args below meth c s₁ B hml hv
  obtain ⟨rfl, hsz, hP, hK, hD0, hG⟩ := hv
  have hx := B.exec
  have hb := B.bytes
  have hr := B.returns
  have hts := atoms_spec (ws := wm_Jx4a65c_init_da8c8) B.pre
  have htb := fun (w : Cond) (h : w ∈ tb) => hts w (List.mem_cons_of_mem _ h)
  have hown : s.vm.findClass RJx4a65c = some m.cls := findClass_of_methodNamed B.named
  have hlocks := B.notSynchronized
  have hin : meth.name = "<init>" := (name_of_methodNamed B.named B.method).1
  subst hsz
  have hD := hD0.self (sz := s.heap.size)
  generalize hAe : va_A [(h0, .inr (0, [.int 0, .null, .int 0]))] s.heap.size = A at hD hG ⊢
  have hA : ∀ q : Nat, s.heap.size ≤ q → A q := fun q h => by rw [← hAe]; exact Or.inr h
  have hS : va_S A s.heap s.heap [] := va_S.rf
  have hP : va_P (dC, dI) vwCl [(h0, .inr (0, [.int 0, .null, .int 0]))] s.heap := hP
  have hl := lv_entry ([.ref h0]) (n := 1) (Nat.le_of_ble_eq_true rfl)
  rw [lg_entry_eq]
  generalize (lg_sl ([.ref h0]) ++ List.replicate (1 - (lg_sl ([.ref h0])).length) Slot.unset).toArray = ls at hl ⊢
  have hl : lv_has ls 1 [(0, .ref h0)] := hl
  refine lv_aload_n hx hb dJx4a65c_init_da8c8_0 rfl (lv_at hl 0 rfl) ?_
  have hPc := hP.sub (ws' := [(h0, .inr (0, [.int 0, .null, .int 0]))]) [0] rfl
  have hDc := hD.sub (ws' := [(h0, .inr (0, [.int 0, .null, .int 0]))]) [0] (by decide) rfl
  have hKc := hK.sub (tys' := []) [] rfl
  have hFc := va_free (wc := [(h0, .inr (0, [.int 0, .null, .int 0]))]) hD hS hA [0] rfl
  refine va_callv (va_runI (As := []) (rest := []) ⟨hx, hb, hml, hown, htb⟩ (c_Jc_init l dC dI s.heap.size h0 (.int 0 : Value) (.null : Value) (.int 0 : Value)) (cwI 0 htb (gd_c kw_571) rfl rfl rfl (htb _ kw_243) (htb _ kw_241) (htb _ kw_242) rfl (by decide +kernel) ⟨Nat.le_of_ble_eq_true rfl, Nat.le_of_ble_eq_true rfl⟩) ⟨fun a U g mk q => by obtain ⟨q0, q1, qP, qK, qD⟩ := q; exact ⟨q0, q1, qP, va_K.moved (u := U) (U := U.calling g mk a) (Vm.Alike.refl U.vm) qK, qD⟩, fun U hU hW => ⟨rfl, by rw [hU], by rw [hU]; exact hPc, va_K.moved hW.alike hKc, hDc.weaken (fun _ _ _ _ => trivial)⟩⟩ rfl rfl hl.1 rfl (lv_room (Nat.le_of_ble_eq_true rfl)) dJx4a65c_init_da8c8_1 ⟨(Nat.le_of_ble_eq_true rfl), (Nat.le_of_ble_eq_true rfl)⟩) hS (fun q _ h => hFc q h) hFc (fun u t H1 locs ht hvm hw hB hz1 hk1 hS => ?_)
  obtain ⟨hP1, hK1, hD1⟩ := hB
  rw [ht] at hP1
  have hK1 := va_K.moved hvm.symm hK1
  obtain ⟨hP, hD⟩ := va_join (wr := []) (w1 := [(h0, .inr (0, [.int 0, .null, .int 0]))]) hP hD [0] [] rfl rfl (by decide) (by decide) hk1 hFc hP1 hD1
  have hK := hK.app hK1
  generalize H1 = H at hP hS ⊢
  have hP : va_P (dC, dI) vwCl [(h0, .inr (0, [.int 0, .null, .int 0]))] H := hP
  have hD : va_D A [(h0, .inr (0, [.int 0, .null, .int 0]))] := hD
  have hK : va_K (dC, dI) vwCl [] s := hK
  refine W.widen (k := 0) (n := 0) (Nat.le_of_ble_eq_true rfl) (Nat.le_of_ble_eq_true rfl) ?_
  refine lv_aload_n hx hb dJx4a65c_init_da8c8_4 rfl (lv_at hl 0 rfl) ?_
  rcases hG.2.2.1 with hZ | ⟨zt_1, hZ⟩
  · refine va_gets (A := A) hx hb hZ hS hown (htb _ kw_244) (fun _ h9 => h9) dJx4a65c_init_da8c8_5 ?_
    refine va_put (D := (dC, dI)) (ci := 0) (v := .null) (ty := .array (.object "java/lang/Object")) (C := RJx4a65c) (T := TJx4a65c) (N := 3) hx hb htb inJx4a65c tyJx4a65c tyJx4a65c_ok nmJx4a65c hown hK hP hD hS 0 rfl rfl 1 (by decide) (htb _ kw_245) (fun _ h9 => h9) rfl (tyJx4a65c_ok 1 (by decide)) rfl rfl (Nat.le_of_ble_eq_true rfl) dJx4a65c_init_da8c8_8 (fun H locs hP hD hS => ?_)
    have hP : va_P (dC, dI) vwCl [(h0, .inr (0, [.int 0, .null, .int 0]))] H := hP
    have hD : va_D A [(h0, .inr (0, [.int 0, .null, .int 0]))] := hD
    have hP9 := hP.sub (ws' := []) [] rfl
    have hD9 := hD.sub (ws' := []) [] (by decide) rfl
    have hK9 := hK.sub (tys' := []) [] rfl
    refine W.widen (k := 0) (n := 0) (Nat.le_of_ble_eq_true rfl) (Nat.le_of_ble_eq_true rfl) ?_
    exact W.vret hx hb hr (fun t ht hW => ⟨⟨(), rfl, trivial, by rw [ht]; exact hP9, va_K.moved hW.alike hK9, hD9⟩, hS.F ht⟩) hS.2.2 dJx4a65c_init_da8c8_11
  · refine va_gets (A := A) hx hb hZ hS hown (htb _ kw_244) (fun _ h9 => h9) dJx4a65c_init_da8c8_5 ?_
    refine va_put (D := (dC, dI)) (ci := 0) (v := .ref zt_1) (ty := .array (.object "java/lang/Object")) (C := RJx4a65c) (T := TJx4a65c) (N := 3) hx hb htb inJx4a65c tyJx4a65c tyJx4a65c_ok nmJx4a65c hown hK hP hD hS 0 rfl rfl 1 (by decide) (htb _ kw_245) (fun _ h9 => h9) rfl (tyJx4a65c_ok 1 (by decide)) rfl rfl (Nat.le_of_ble_eq_true rfl) dJx4a65c_init_da8c8_8 (fun H locs hP hD hS => ?_)
    have hP : va_P (dC, dI) vwCl [(h0, .inr (0, [.int 0, .ref zt_1, .int 0]))] H := hP
    have hD : va_D A [(h0, .inr (0, [.int 0, .ref zt_1, .int 0]))] := hD
    have hP9 := hP.sub (ws' := []) [] rfl
    have hD9 := hD.sub (ws' := []) [] (by decide) rfl
    have hK9 := hK.sub (tys' := []) [] rfl
    refine W.widen (k := 0) (n := 0) (Nat.le_of_ble_eq_true rfl) (Nat.le_of_ble_eq_true rfl) ?_
    exact W.vret hx hb hr (fun t ht hW => ⟨⟨(), rfl, trivial, by rw [ht]; exact hP9, va_K.moved hW.alike hK9, hD9⟩, hS.F ht⟩) hS.2.2 dJx4a65c_init_da8c8_11

set_option maxHeartbeats 4000000 in
set_option maxRecDepth 100000 in
/-- Bean(number) -/
theorem c_X1_init (l : Launch) (dC : Nat → ClassId) (dI : Nat → Nat → Nat) (sz : Nat) (h0 : Nat) (p0 : Int32) : Met l yX1_init wm_X1_init ({ frames := 4, cells := 3, slots := 9, locals := 80 }) (va_Pc [.ref h0, .int p0] (fun U => U.heap.size = sz ∧ va_P (dC, dI) vwCl [(h0, .inr (1, [.int 0, .null, .null, .null, .null, .long 0, .long 0, .long 0, .long 0, .int 0, .int 0, .int 0, .int 0, .int 0, .int 0, .int 0, .int 0, .int 0, .int 0]))] U.heap ∧ va_K (dC, dI) vwCl [] U ∧ va_D (fun _ => True) [(h0, .inr (1, [.int 0, .null, .null, .null, .null, .long 0, .long 0, .long 0, .long 0, .int 0, .int 0, .int 0, .int 0, .int 0, .int 0, .int 0, .int 0, .int 0, .int 0]))] ∧ GE (va_A [(h0, .inr (1, [.int 0, .null, .null, .null, .null, .long 0, .long 0, .long 0, .long 0, .int 0, .int 0, .int 0, .int 0, .int 0, .int 0, .int 0, .int 0, .int 0, .int 0]))] sz) U)) (va_Qv (fun _ : Unit => True) (fun _ t => ∃ (q1 : Nat), ∃ (q2 : Nat), ∃ (q3 : Nat), va_P (dC, dI) vwCl [(h0, .inr (1, [.int p0, .ref q1, .ref q2, .ref q3, .null, .long 0, .long 0, .long 0, .long 0, .int 0, .int 0, .int 0, .int 0, .int 0, .int 0, .int 0, .int 0, .int 0, .int 0]))] t.heap ∧ va_K (dC, dI) vwCl [] t ∧ va_D (va_A [(h0, .inr (1, [.int 0, .null, .null, .null, .null, .long 0, .long 0, .long 0, .long 0, .int 0, .int 0, .int 0, .int 0, .int 0, .int 0, .int 0, .int 0, .int 0, .int 0]))] sz) [(h0, .inr (1, [.int p0, .ref q1, .ref q2, .ref q3, .null, .long 0, .long 0, .long 0, .long 0, .int 0, .int 0, .int 0, .int 0, .int 0, .int 0, .int 0, .int 0, .int 0, .int 0]))]) (va_A [(h0, .inr (1, [.int 0, .null, .null, .null, .null, .long 0, .long 0, .long 0, .long 0, .int 0, .int 0, .int 0, .int 0, .int 0, .int 0, .int 0, .int 0, .int 0, .int 0]))] sz)) 3 9 (va_A [(h0, .inr (1, [.int 0, .null, .null, .null, .null, .long 0, .long 0, .long 0, .long 0, .int 0, .int 0, .int 0, .int 0, .int 0, .int 0, .int 0, .int 0, .int 0, .int 0]))] sz) := by
  refine Met.ofW (cc := cX1_init) (maxL := 2) (ret := none) (by decide) rfl ?_
  intro p e s m args below meth c s₁ B hml hv
  obtain ⟨rfl, hsz, hP, hK, hD0, hG⟩ := hv
  have hx := B.exec
  have hb := B.bytes
  have hr := B.returns
  have hts := atoms_spec (ws := wm_X1_init) B.pre
  have htb := fun (w : Cond) (h : w ∈ tb) => hts w (List.mem_cons_of_mem _ h)
  have hown : s.vm.findClass RX1 = some m.cls := findClass_of_methodNamed B.named
  have hlocks := B.notSynchronized
  have hin : meth.name = "<init>" := (name_of_methodNamed B.named B.method).1
  subst hsz
  have hD := hD0.self (sz := s.heap.size)
  generalize hAe : va_A [(h0, .inr (1, [.int 0, .null, .null, .null, .null, .long 0, .long 0, .long 0, .long 0, .int 0, .int 0, .int 0, .int 0, .int 0, .int 0, .int 0, .int 0, .int 0, .int 0]))] s.heap.size = A at hD hG ⊢
  have hA : ∀ q : Nat, s.heap.size ≤ q → A q := fun q h => by rw [← hAe]; exact Or.inr h
  have hS : va_S A s.heap s.heap [] := va_S.rf
  have hP : va_P (dC, dI) vwCl [(h0, .inr (1, [.int 0, .null, .null, .null, .null, .long 0, .long 0, .long 0, .long 0, .int 0, .int 0, .int 0, .int 0, .int 0, .int 0, .int 0, .int 0, .int 0, .int 0]))] s.heap := hP
  have hl := lv_entry ([.ref h0, .int p0]) (n := 2) (Nat.le_of_ble_eq_true rfl)
  rw [lg_entry_eq]
  generalize (lg_sl ([.ref h0, .int p0]) ++ List.replicate (2 - (lg_sl ([.ref h0, .int p0])).length) Slot.unset).toArray = ls at hl ⊢
  have hl : lv_has ls 2 [(0, .ref h0), (1, .int p0)] := hl
  refine lv_aload_n hx hb dX1_init_0 rfl (lv_at hl 0 rfl) ?_
  refine W.objInit hx hb hown (htb _ kw_191) (htb _ kw_1) (htb _ kw_528) rfl (by rw [hml]; exact hl.1) rfl dX1_init_1 (Nat.le_of_ble_eq_true rfl) (Nat.le_of_ble_eq_true rfl) ?_
  refine W.eq (g2 := F0 m 4 ls []) rfl ?_
  refine lv_aload_n hx hb dX1_init_4 rfl (lv_at hl 0 rfl) ?_
  refine lv_iload_n hx hb dX1_init_5 rfl (lv_at hl 1 rfl) ?_
  refine va_putF (D := (dC, dI)) (ci := 1) (v := .int p0) (ty := .int) (C := RX1) (T := TX1) (N := 19) hx hb htb inX1 tyX1 tyX1_ok nmX1 hown hK hP hD hS 0 rfl rfl 0 (by decide) (htb _ kw_192) (fun _ h9 => h9) rfl hin rfl (tyX1_ok 0 (by decide)) rfl rfl (Nat.le_of_ble_eq_true rfl) dX1_init_6 (fun H locs hP hD hS => ?_)
  have hP : va_P (dC, dI) vwCl [(h0, .inr (1, [.int p0, .null, .null, .null, .null, .long 0, .long 0, .long 0, .long 0, .int 0, .int 0, .int 0, .int 0, .int 0, .int 0, .int 0, .int 0, .int 0, .int 0]))] H := hP
  have hD : va_D A [(h0, .inr (1, [.int p0, .null, .null, .null, .null, .long 0, .long 0, .long 0, .long 0, .int 0, .int 0, .int 0, .int 0, .int 0, .int 0, .int 0, .int 0, .int 0, .int 0]))] := hD
  refine lv_aload_n hx hb dX1_init_9 rfl (lv_at hl 0 rfl) ?_
  refine va_new (ci := 0) (fs := nvJx4a65c) (C := RJx4a65c) (T := TJx4a65c) (N := 3) hx hb htb inJx4a65c tyJx4a65c tyJx4a65c_ok hown (htb _ kw_193) (htb _ kw_195) (htb _ kw_194) hK hP hD hS hA rfl nwJx4a65c (Nat.le_of_ble_eq_true rfl) (Nat.le_of_ble_eq_true rfl) dX1_init_10 (fun q_1 H hP hD hS => ?_)
  have hP : va_P (dC, dI) vwCl [(h0, .inr (1, [.int p0, .null, .null, .null, .null, .long 0, .long 0, .long 0, .long 0, .int 0, .int 0, .int 0, .int 0, .int 0, .int 0, .int 0, .int 0, .int 0, .int 0])), (q_1, .inr (0, [.int 0, .null, .int 0]))] H := hP
  have hD : va_D A [(h0, .inr (1, [.int p0, .null, .null, .null, .null, .long 0, .long 0, .long 0, .long 0, .int 0, .int 0, .int 0, .int 0, .int 0, .int 0, .int 0, .int 0, .int 0, .int 0])), (q_1, .inr (0, [.int 0, .null, .int 0]))] := hD
  refine W.widen (k := 1) (n := 3) (Nat.le_of_ble_eq_true rfl) (Nat.le_of_ble_eq_true rfl) ?_
  refine lv_dup hx hb dX1_init_13 rfl ?_
  have hPc := hP.sub (ws' := [(q_1, .inr (0, [.int 0, .null, .int 0]))]) [1] rfl
  have hDc := hD.sub (ws' := [(q_1, .inr (0, [.int 0, .null, .int 0]))]) [1] (by decide) rfl
  have hKc := hK.sub (tys' := []) [] rfl
  have hFc := va_free (wc := [(q_1, .inr (0, [.int 0, .null, .int 0]))]) hD hS hA [1] rfl
  refine va_callv (va_runI (As := []) (rest := [.ref q_1, .ref h0]) ⟨hx, hb, hml, hown, htb⟩ (c_AL_init l dC dI H.size q_1) (cwI 0 htb (gd_c kw_566) rfl rfl rfl (htb _ kw_194) (htb _ kw_196) (htb _ kw_197) rfl (by decide +kernel) ⟨Nat.le_of_ble_eq_true rfl, Nat.le_of_ble_eq_true rfl⟩) ⟨fun a U g mk q => by obtain ⟨q0, q1, qP, qK, qD, qG⟩ := q; exact ⟨q0, q1, qP, va_K.moved (u := U) (U := U.calling g mk a) (Vm.Alike.refl U.vm) qK, qD, GE.call g mk a qG⟩, fun U hU hW => ⟨rfl, by rw [hU], by rw [hU]; exact hPc, va_K.moved hW.alike hKc, hDc.weaken (fun _ _ _ _ => trivial), hG.go hS hFc hU hW⟩⟩ rfl rfl hl.1 rfl (lv_room (Nat.le_of_ble_eq_true rfl)) dX1_init_14 ⟨(Nat.le_of_ble_eq_true rfl), (Nat.le_of_ble_eq_true rfl)⟩) hS (fun q _ h => hFc q h) hFc (fun u t H1 locs ht hvm hw hB hz1 hk1 hS => ?_)
  obtain ⟨hP1, hK1, hD1⟩ := hB
  rw [ht] at hP1
  have hK1 := va_K.moved hvm.symm hK1
  obtain ⟨hP, hD⟩ := va_join (wr := [(h0, .inr (1, [.int p0, .null, .null, .null, .null, .long 0, .long 0, .long 0, .long 0, .int 0, .int 0, .int 0, .int 0, .int 0, .int 0, .int 0, .int 0, .int 0, .int 0]))]) (w1 := []) hP hD [1] [0] rfl rfl (by decide) (by decide) hk1 hFc hP1 hD1
  have hK := hK.app hK1
  generalize H1 = H at hP hS ⊢
  have hP : va_P (dC, dI) vwCl [(h0, .inr (1, [.int p0, .null, .null, .null, .null, .long 0, .long 0, .long 0, .long 0, .int 0, .int 0, .int 0, .int 0, .int 0, .int 0, .int 0, .int 0, .int 0, .int 0]))] H := hP
  have hD : va_D A [(h0, .inr (1, [.int p0, .null, .null, .null, .null, .long 0, .long 0, .long 0, .long 0, .int 0, .int 0, .int 0, .int 0, .int 0, .int 0, .int 0, .int 0, .int 0, .int 0]))] := hD
  have hK : va_K (dC, dI) vwCl [] s := hK
  refine W.widen (k := 1) (n := 3) (Nat.le_of_ble_eq_true rfl) (Nat.le_of_ble_eq_true rfl) ?_
  refine va_putF (D := (dC, dI)) (ci := 1) (v := .ref q_1) (ty := .object "java/util/ArrayList") (C := RX1) (T := TX1) (N := 19) hx hb htb inX1 tyX1 tyX1_ok nmX1 hown hK hP hD hS 0 rfl rfl 1 (by decide) (htb _ kw_198) (fun _ h9 => h9) rfl hin rfl (tyX1_ok 1 (by decide)) rfl rfl (Nat.le_of_ble_eq_true rfl) dX1_init_17 (fun H locs hP hD hS => ?_)
  have hP : va_P (dC, dI) vwCl [(h0, .inr (1, [.int p0, .ref q_1, .null, .null, .null, .long 0, .long 0, .long 0, .long 0, .int 0, .int 0, .int 0, .int 0, .int 0, .int 0, .int 0, .int 0, .int 0, .int 0]))] H := hP
  have hD : va_D A [(h0, .inr (1, [.int p0, .ref q_1, .null, .null, .null, .long 0, .long 0, .long 0, .long 0, .int 0, .int 0, .int 0, .int 0, .int 0, .int 0, .int 0, .int 0, .int 0, .int 0]))] := hD
  refine lv_aload_n hx hb dX1_init_20 rfl (lv_at hl 0 rfl) ?_
  refine va_new (ci := 0) (fs := nvJx4a65c) (C := RJx4a65c) (T := TJx4a65c) (N := 3) hx hb htb inJx4a65c tyJx4a65c tyJx4a65c_ok hown (htb _ kw_193) (htb _ kw_195) (htb _ kw_194) hK hP hD hS hA rfl nwJx4a65c (Nat.le_of_ble_eq_true rfl) (Nat.le_of_ble_eq_true rfl) dX1_init_21 (fun q_2 H hP hD hS => ?_)
  have hP : va_P (dC, dI) vwCl [(h0, .inr (1, [.int p0, .ref q_1, .null, .null, .null, .long 0, .long 0, .long 0, .long 0, .int 0, .int 0, .int 0, .int 0, .int 0, .int 0, .int 0, .int 0, .int 0, .int 0])), (q_2, .inr (0, [.int 0, .null, .int 0]))] H := hP
  have hD : va_D A [(h0, .inr (1, [.int p0, .ref q_1, .null, .null, .null, .long 0, .long 0, .long 0, .long 0, .int 0, .int 0, .int 0, .int 0, .int 0, .int 0, .int 0, .int 0, .int 0, .int 0])), (q_2, .inr (0, [.int 0, .null, .int 0]))] := hD
  refine W.widen (k := 2) (n := 6) (Nat.le_of_ble_eq_true rfl) (Nat.le_of_ble_eq_true rfl) ?_
  refine lv_dup hx hb dX1_init_24 rfl ?_
  have hPc := hP.sub (ws' := [(q_2, .inr (0, [.int 0, .null, .int 0]))]) [1] rfl
  have hDc := hD.sub (ws' := [(q_2, .inr (0, [.int 0, .null, .int 0]))]) [1] (by decide) rfl
  have hKc := hK.sub (tys' := []) [] rfl
  have hFc := va_free (wc := [(q_2, .inr (0, [.int 0, .null, .int 0]))]) hD hS hA [1] rfl
  refine va_callv (va_runI (As := []) (rest := [.ref q_2, .ref h0]) ⟨hx, hb, hml, hown, htb⟩ (c_AL_init l dC dI H.size q_2) (cwI 0 htb (gd_c kw_566) rfl rfl rfl (htb _ kw_194) (htb _ kw_196) (htb _ kw_197) rfl (by decide +kernel) ⟨Nat.le_of_ble_eq_true rfl, Nat.le_of_ble_eq_true rfl⟩) ⟨fun a U g mk q => by obtain ⟨q0, q1, qP, qK, qD, qG⟩ := q; exact ⟨q0, q1, qP, va_K.moved (u := U) (U := U.calling g mk a) (Vm.Alike.refl U.vm) qK, qD, GE.call g mk a qG⟩, fun U hU hW => ⟨rfl, by rw [hU], by rw [hU]; exact hPc, va_K.moved hW.alike hKc, hDc.weaken (fun _ _ _ _ => trivial), hG.go hS hFc hU hW⟩⟩ rfl rfl hl.1 rfl (lv_room (Nat.le_of_ble_eq_true rfl)) dX1_init_25 ⟨(Nat.le_of_ble_eq_true rfl), (Nat.le_of_ble_eq_true rfl)⟩) hS (fun q _ h => hFc q h) hFc (fun u t H1 locs ht hvm hw hB hz1 hk1 hS => ?_)
  obtain ⟨hP1, hK1, hD1⟩ := hB
  rw [ht] at hP1
  have hK1 := va_K.moved hvm.symm hK1
  obtain ⟨hP, hD⟩ := va_join (wr := [(h0, .inr (1, [.int p0, .ref q_1, .null, .null, .null, .long 0, .long 0, .long 0, .long 0, .int 0, .int 0, .int 0, .int 0, .int 0, .int 0, .int 0, .int 0, .int 0, .int 0]))]) (w1 := []) hP hD [1] [0] rfl rfl (by decide) (by decide) hk1 hFc hP1 hD1
  have hK := hK.app hK1
  generalize H1 = H at hP hS ⊢
  have hP : va_P (dC, dI) vwCl [(h0, .inr (1, [.int p0, .ref q_1, .null, .null, .null, .long 0, .long 0, .long 0, .long 0, .int 0, .int 0, .int 0, .int 0, .int 0, .int 0, .int 0, .int 0, .int 0, .int 0]))] H := hP
  have hD : va_D A [(h0, .inr (1, [.int p0, .ref q_1, .null, .null, .null, .long 0, .long 0, .long 0, .long 0, .int 0, .int 0, .int 0, .int 0, .int 0, .int 0, .int 0, .int 0, .int 0, .int 0]))] := hD
  have hK : va_K (dC, dI) vwCl [] s := hK
  refine W.widen (k := 2) (n := 6) (Nat.le_of_ble_eq_true rfl) (Nat.le_of_ble_eq_true rfl) ?_
  refine va_putF (D := (dC, dI)) (ci := 1) (v := .ref q_2) (ty := .object "java/util/ArrayList") (C := RX1) (T := TX1) (N := 19) hx hb htb inX1 tyX1 tyX1_ok nmX1 hown hK hP hD hS 0 rfl rfl 2 (by decide) (htb _ kw_199) (fun _ h9 => h9) rfl hin rfl (tyX1_ok 2 (by decide)) rfl rfl (Nat.le_of_ble_eq_true rfl) dX1_init_28 (fun H locs hP hD hS => ?_)
  have hP : va_P (dC, dI) vwCl [(h0, .inr (1, [.int p0, .ref q_1, .ref q_2, .null, .null, .long 0, .long 0, .long 0, .long 0, .int 0, .int 0, .int 0, .int 0, .int 0, .int 0, .int 0, .int 0, .int 0, .int 0]))] H := hP
  have hD : va_D A [(h0, .inr (1, [.int p0, .ref q_1, .ref q_2, .null, .null, .long 0, .long 0, .long 0, .long 0, .int 0, .int 0, .int 0, .int 0, .int 0, .int 0, .int 0, .int 0, .int 0, .int 0]))] := hD
  refine lv_aload_n hx hb dX1_init_31 rfl (lv_at hl 0 rfl) ?_
  refine va_new (ci := 0) (fs := nvJx4a65c) (C := RJx4a65c) (T := TJx4a65c) (N := 3) hx hb htb inJx4a65c tyJx4a65c tyJx4a65c_ok hown (htb _ kw_193) (htb _ kw_195) (htb _ kw_194) hK hP hD hS hA rfl nwJx4a65c (Nat.le_of_ble_eq_true rfl) (Nat.le_of_ble_eq_true rfl) dX1_init_32 (fun q_3 H hP hD hS => ?_)
  have hP : va_P (dC, dI) vwCl [(h0, .inr (1, [.int p0, .ref q_1, .ref q_2, .null, .null, .long 0, .long 0, .long 0, .long 0, .int 0, .int 0, .int 0, .int 0, .int 0, .int 0, .int 0, .int 0, .int 0, .int 0])), (q_3, .inr (0, [.int 0, .null, .int 0]))] H := hP
  have hD : va_D A [(h0, .inr (1, [.int p0, .ref q_1, .ref q_2, .null, .null, .long 0, .long 0, .long 0, .long 0, .int 0, .int 0, .int 0, .int 0, .int 0, .int 0, .int 0, .int 0, .int 0, .int 0])), (q_3, .inr (0, [.int 0, .null, .int 0]))] := hD
  refine W.widen (k := 3) (n := 9) (Nat.le_of_ble_eq_true rfl) (Nat.le_of_ble_eq_true rfl) ?_
  refine lv_dup hx hb dX1_init_35 rfl ?_
  have hPc := hP.sub (ws' := [(q_3, .inr (0, [.int 0, .null, .int 0]))]) [1] rfl
  have hDc := hD.sub (ws' := [(q_3, .inr (0, [.int 0, .null, .int 0]))]) [1] (by decide) rfl
  have hKc := hK.sub (tys' := []) [] rfl
  have hFc := va_free (wc := [(q_3, .inr (0, [.int 0, .null, .int 0]))]) hD hS hA [1] rfl
  refine va_callv (va_runI (As := []) (rest := [.ref q_3, .ref h0]) ⟨hx, hb, hml, hown, htb⟩ (c_AL_init l dC dI H.size q_3) (cwI 0 htb (gd_c kw_566) rfl rfl rfl (htb _ kw_194) (htb _ kw_196) (htb _ kw_197) rfl (by decide +kernel) ⟨Nat.le_of_ble_eq_true rfl, Nat.le_of_ble_eq_true rfl⟩) ⟨fun a U g mk q => by obtain ⟨q0, q1, qP, qK, qD, qG⟩ := q; exact ⟨q0, q1, qP, va_K.moved (u := U) (U := U.calling g mk a) (Vm.Alike.refl U.vm) qK, qD, GE.call g mk a qG⟩, fun U hU hW => ⟨rfl, by rw [hU], by rw [hU]; exact hPc, va_K.moved hW.alike hKc, hDc.weaken (fun _ _ _ _ => trivial), hG.go hS hFc hU hW⟩⟩ rfl rfl hl.1 rfl (lv_room (Nat.le_of_ble_eq_true rfl)) dX1_init_36 ⟨(Nat.le_of_ble_eq_true rfl), (Nat.le_of_ble_eq_true rfl)⟩) hS (fun q _ h => hFc q h) hFc (fun u t H1 locs ht hvm hw hB hz1 hk1 hS => ?_)
  obtain ⟨hP1, hK1, hD1⟩ := hB
  rw [ht] at hP1
  have hK1 := va_K.moved hvm.symm hK1
  obtain ⟨hP, hD⟩ := va_join (wr := [(h0, .inr (1, [.int p0, .ref q_1, .ref q_2, .null, .null, .long 0, .long 0, .long 0, .long 0, .int 0, .int 0, .int 0, .int 0, .int 0, .int 0, .int 0, .int 0, .int 0, .int 0]))]) (w1 := []) hP hD [1] [0] rfl rfl (by decide) (by decide) hk1 hFc hP1 hD1
  have hK := hK.app hK1
  generalize H1 = H at hP hS ⊢
  have hP : va_P (dC, dI) vwCl [(h0, .inr (1, [.int p0, .ref q_1, .ref q_2, .null, .null, .long 0, .long 0, .long 0, .long 0, .int 0, .int 0, .int 0, .int 0, .int 0, .int 0, .int 0, .int 0, .int 0, .int 0]))] H := hP
  have hD : va_D A [(h0, .inr (1, [.int p0, .ref q_1, .ref q_2, .null, .null, .long 0, .long 0, .long 0, .long 0, .int 0, .int 0, .int 0, .int 0, .int 0, .int 0, .int 0, .int 0, .int 0, .int 0]))] := hD
  have hK : va_K (dC, dI) vwCl [] s := hK
  refine W.widen (k := 3) (n := 9) (Nat.le_of_ble_eq_true rfl) (Nat.le_of_ble_eq_true rfl) ?_
  refine va_putF (D := (dC, dI)) (ci := 1) (v := .ref q_3) (ty := .object "java/util/ArrayList") (C := RX1) (T := TX1) (N := 19) hx hb htb inX1 tyX1 tyX1_ok nmX1 hown hK hP hD hS 0 rfl rfl 3 (by decide) (htb _ kw_200) (fun _ h9 => h9) rfl hin rfl (tyX1_ok 3 (by decide)) rfl rfl (Nat.le_of_ble_eq_true rfl) dX1_init_39 (fun H locs hP hD hS => ?_)
  have hP : va_P (dC, dI) vwCl [(h0, .inr (1, [.int p0, .ref q_1, .ref q_2, .ref q_3, .null, .long 0, .long 0, .long 0, .long 0, .int 0, .int 0, .int 0, .int 0, .int 0, .int 0, .int 0, .int 0, .int 0, .int 0]))] H := hP
  have hD : va_D A [(h0, .inr (1, [.int p0, .ref q_1, .ref q_2, .ref q_3, .null, .long 0, .long 0, .long 0, .long 0, .int 0, .int 0, .int 0, .int 0, .int 0, .int 0, .int 0, .int 0, .int 0, .int 0]))] := hD
  have hP9 := hP.sub (ws' := [(h0, .inr (1, [.int p0, .ref q_1, .ref q_2, .ref q_3, .null, .long 0, .long 0, .long 0, .long 0, .int 0, .int 0, .int 0, .int 0, .int 0, .int 0, .int 0, .int 0, .int 0, .int 0]))]) [0] rfl
  have hD9 := hD.sub (ws' := [(h0, .inr (1, [.int p0, .ref q_1, .ref q_2, .ref q_3, .null, .long 0, .long 0, .long 0, .long 0, .int 0, .int 0, .int 0, .int 0, .int 0, .int 0, .int 0, .int 0, .int 0, .int 0]))]) [0] (by decide) rfl
  have hK9 := hK.sub (tys' := []) [] rfl
  refine W.widen (k := 3) (n := 9) (Nat.le_of_ble_eq_true rfl) (Nat.le_of_ble_eq_true rfl) ?_
  exact W.vret hx hb hr (fun t ht hW => ⟨⟨(), rfl, trivial, q_1, q_2, q_3, by rw [ht]; exact hP9, va_K.moved hW.alike hK9, hD9⟩, hS.F ht⟩) hS.2.2 dX1_init_42

set_option maxHeartbeats 4000000 in
set_option maxRecDepth 100000 in
/-- Paper(1200) -/
theorem c_X6_init (l : Launch) (dC : Nat → ClassId) (dI : Nat → Nat → Nat) (sz : Nat) (h0 : Nat) : Met l yX6_init wm_X6_init ({ frames := 2, cells := 165, slots := 5600, locals := 40 }) (va_Pc [.ref h0, .int 1200] (fun U => U.heap.size = sz ∧ va_P (dC, dI) vwCl [(h0, .inr (6, [.null, .null, .null, .null, .null, .int 0, .int 0, .int 0]))] U.heap ∧ va_K (dC, dI) vwCl [] U ∧ va_D (fun _ => True) [(h0, .inr (6, [.null, .null, .null, .null, .null, .int 0, .int 0, .int 0]))] ∧ GE (va_A [(h0, .inr (6, [.null, .null, .null, .null, .null, .int 0, .int 0, .int 0]))] sz) U)) (va_Qv (fun _ : Unit => True) (fun _ t => ∃ (q1 : Nat), ∃ (q2 : Nat), ∃ (q3 : Nat), ∃ (q4 : Nat), ∃ (q5 : Nat), va_P (dC, dI) vwCl [(h0, .inr (6, [.ref q1, .ref q2, .ref q3, .ref q4, .ref q5, .int 0, .int 0, .int 0]))] t.heap ∧ va_K (dC, dI) vwCl [] t ∧ va_D (va_A [(h0, .inr (6, [.null, .null, .null, .null, .null, .int 0, .int 0, .int 0]))] sz) [(h0, .inr (6, [.ref q1, .ref q2, .ref q3, .ref q4, .ref q5, .int 0, .int 0, .int 0]))]) (va_A [(h0, .inr (6, [.null, .null, .null, .null, .null, .int 0, .int 0, .int 0]))] sz)) 165 5600 (va_A [(h0, .inr (6, [.null, .null, .null, .null, .null, .int 0, .int 0, .int 0]))] sz) := by
  refine Met.ofW (cc := cX6_init) (maxL := 3) (ret := none) (by decide) rfl ?_
  intro p e s m args below meth c s₁ B hml hv
  obtain ⟨rfl, hsz, hP, hK, hD0, hG⟩ := hv
  have hx := B.exec
  have hb := B.bytes
  have hr := B.returns
  have hts := atoms_spec (ws := wm_X6_init) B.pre
  have htb := fun (w : Cond) (h : w ∈ tb) => hts w (List.mem_cons_of_mem _ h)
  have hown : s.vm.findClass RX6 = some m.cls := findClass_of_methodNamed B.named
  have hlocks := B.notSynchronized
  have hin : meth.name = "<init>" := (name_of_methodNamed B.named B.method).1
  subst hsz
  have hD := hD0.self (sz := s.heap.size)
  generalize hAe : va_A [(h0, .inr (6, [.null, .null, .null, .null, .null, .int 0, .int 0, .int 0]))] s.heap.size = A at hD hG ⊢
  have hA : ∀ q : Nat, s.heap.size ≤ q → A q := fun q h => by rw [← hAe]; exact Or.inr h
  have hS : va_S A s.heap s.heap [] := va_S.rf
  have hP : va_P (dC, dI) vwCl [(h0, .inr (6, [.null, .null, .null, .null, .null, .int 0, .int 0, .int 0]))] s.heap := hP
  have hl := lv_entry ([.ref h0, .int 1200]) (n := 3) (Nat.le_of_ble_eq_true rfl)
  rw [lg_entry_eq]
  generalize (lg_sl ([.ref h0, .int 1200]) ++ List.replicate (3 - (lg_sl ([.ref h0, .int 1200])).length) Slot.unset).toArray = ls at hl ⊢
  have hl : lv_has ls 3 [(0, .ref h0), (1, .int 1200)] := hl
  refine lv_aload_n hx hb dX6_init_0 rfl (lv_at hl 0 rfl) ?_
  refine W.objInit hx hb hown (htb _ kw_150) (htb _ kw_1) (htb _ kw_528) rfl (by rw [hml]; exact hl.1) rfl dX6_init_1 (Nat.le_of_ble_eq_true rfl) (Nat.le_of_ble_eq_true rfl) ?_
  refine W.eq (g2 := F0 m 4 ls []) rfl ?_
  refine lv_aload_n hx hb dX6_init_4 rfl (lv_at hl 0 rfl) ?_
  refine lv_bipush (v := 80) hx hb dX6_init_5 (by decide) ?_
  refine va_newq (D := (dC, dI)) (N' := 80) (C := RX3) hx hb hown (htb _ kw_151) hG.1.2.2.1 hK hP hD hS hA (by decide) (by decide) (by decide) (Nat.le_of_ble_eq_true rfl) (Nat.le_of_ble_eq_true rfl) dX6_init_7 (fun q_1 cA_2 H hK hP hD hS => ?_)
  have hP : va_P (dC, dI) vwCl [(h0, .inr (6, [.null, .null, .null, .null, .null, .int 0, .int 0, .int 0])), (q_1, .inl (cA_2, 80, .inr (.inr (.inr (.inr (fun _ => none))))))] H := hP
  have hD : va_D A [(h0, .inr (6, [.null, .null, .null, .null, .null, .int 0, .int 0, .int 0])), (q_1, .inl (cA_2, 80, .inr (.inr (.inr (.inr (fun _ => none))))))] := hD
  have hK : va_K (dC, dI) vwCl [(cA_2, .object RX3)] s := hK
  refine W.widen (k := 1) (n := 80) (Nat.le_of_ble_eq_true rfl) (Nat.le_of_ble_eq_true rfl) ?_
  refine va_putF (D := (dC, dI)) (ci := 6) (v := .ref q_1) (ty := .array (.object "WiredBeans$Element")) (C := RX6) (T := TX6) (N := 8) hx hb htb inX6 tyX6 tyX6_ok nmX6 hown hK hP hD hS 0 rfl rfl 0 (by decide) (htb _ kw_152) (fun _ h9 => h9) rfl hin rfl (tyX6_ok 0 (by decide)) rfl rfl (Nat.le_of_ble_eq_true rfl) dX6_init_10 (fun H locs hP hD hS => ?_)
  have hP : va_P (dC, dI) vwCl [(h0, .inr (6, [.ref q_1, .null, .null, .null, .null, .int 0, .int 0, .int 0])), (q_1, .inl (cA_2, 80, .inr (.inr (.inr (.inr (fun _ => none))))))] H := hP
  have hD : va_D A [(h0, .inr (6, [.ref q_1, .null, .null, .null, .null, .int 0, .int 0, .int 0])), (q_1, .inl (cA_2, 80, .inr (.inr (.inr (.inr (fun _ => none))))))] := hD
  refine lv_iconst (v := 0) hx hb dX6_init_13 (by decide) ?_
  refine lv_istore_n (lv' := [(2, .int 0), (0, .ref h0), (1, .int 1200)]) hx hb dX6_init_14 rfl hl (by decide) rfl (fun ls hl => ?_)
  have hloop : ∀ (n i : Nat) (fE : Nat → Option Nat) (H : Heap) (locs : List Loc) (ls : Array Slot), i + n = 80 → va_P (dC, dI) vwCl [(h0, .inr (6, [.ref q_1, .null, .null, .null, .null, .int 0, .int 0, .int 0])), (q_1, .inl (cA_2, 80, .inr (.inr (.inr (.inr fE)))))] H → va_D A [(h0, .inr (6, [.ref q_1, .null, .null, .null, .null, .int 0, .int 0, .int 0])), (q_1, .inl (cA_2, 80, .inr (.inr (.inr (.inr fE)))))] → va_S A s.heap H locs → lv_has ls 3 [(2, .int (nI i)), (0, .ref h0), (1, .int 1200)] → W p l e (headSpec wm_X6_init ({ frames := 2, cells := 165, slots := 5600, locals := 40 })).room s m ([.ref h0, .int 1200] : List Value).toArray below meth c H locs (i * 2 + 1) (i * 45 + 80) (MQ below (va_Qv (fun _ : Unit => True) (fun _ t => ∃ (q1 : Nat), ∃ (q2 : Nat), ∃ (q3 : Nat), ∃ (q4 : Nat), ∃ (q5 : Nat), va_P (dC, dI) vwCl [(h0, .inr (6, [.ref q1, .ref q2, .ref q3, .ref q4, .ref q5, .int 0, .int 0, .int 0]))] t.heap ∧ va_K (dC, dI) vwCl [] t ∧ va_D A [(h0, .inr (6, [.ref q1, .ref q2, .ref q3, .ref q4, .ref q5, .int 0, .int 0, .int 0]))]) A) ([.ref h0, .int 1200] : List Value).toArray s 165 5600 A) (F0 m 15 ls []) := by
    intro n
    induction n with
    | zero =>
      intro i fE H locs ls hi9  hP hD hS hl
      obtain rfl : i = 80 := by omega
      have hl : lv_has ls 3 [(2, .int 80), (0, .ref h0), (1, .int 1200)] := hl
      refine W.widen (k := 161) (n := 3680) (Nat.le_of_ble_eq_true rfl) (Nat.le_of_ble_eq_true rfl) ?_
      refine lv_iload_n hx hb dX6_init_15 rfl (lv_at hl 0 rfl) ?_
      refine lv_bipush (v := 80) hx hb dX6_init_16 (by decide) ?_
      refine lv_icmp_ge (tgt := 40) hx hb dX6_init_18 (by decide) (fun _ => ?_) (fun c_3 => absurd (by decide) c_3)
      refine lv_aload_n hx hb dX6_init_40 rfl (lv_at hl 1 rfl) ?_
      refine lv_iload_n hx hb dX6_init_41 rfl (lv_at hl 2 rfl) ?_
      refine lv_iconst (v := 5) hx hb dX6_init_42 (by decide) ?_
      refine lv_idiv hx hb dX6_init_43 (by decide) ?_
      refine lv_topi (fun z_4 ez_4 => ?_)
      obtain rfl : z_4 = 240 := ez_4.trans (by decide)
      refine va_newa (D := (dC, dI)) (atype := .long) (ty := .long) (N' := 240) (a0 := (240, .inr (.inl (fun _ => 0)))) hx hb (htb _ kw_157) rfl hK hP hD hS hA (fun _ => rfl) (by decide) (by decide) (by decide) (Nat.le_of_ble_eq_true rfl) (Nat.le_of_ble_eq_true rfl) dX6_init_44 (fun q_5 cA_6 H hK hP hD hS => ?_)
      have hP : va_P (dC, dI) vwCl [(h0, .inr (6, [.ref q_1, .null, .null, .null, .null, .int 0, .int 0, .int 0])), (q_1, .inl (cA_2, 80, .inr (.inr (.inr (.inr fE))))), (q_5, .inl (cA_6, 240, .inr (.inl (fun _ => 0))))] H := hP
      have hD : va_D A [(h0, .inr (6, [.ref q_1, .null, .null, .null, .null, .int 0, .int 0, .int 0])), (q_1, .inl (cA_2, 80, .inr (.inr (.inr (.inr fE))))), (q_5, .inl (cA_6, 240, .inr (.inl (fun _ => 0))))] := hD
      have hK : va_K (dC, dI) vwCl [(cA_2, .object RX3), (cA_6, .long)] s := hK
      refine W.widen (k := 162) (n := 3920) (Nat.le_of_ble_eq_true rfl) (Nat.le_of_ble_eq_true rfl) ?_
      refine va_putF (D := (dC, dI)) (ci := 6) (v := .ref q_5) (ty := .array .long) (C := RX6) (T := TX6) (N := 8) hx hb htb inX6 tyX6 tyX6_ok nmX6 hown hK hP hD hS 0 rfl rfl 1 (by decide) (htb _ kw_158) (fun _ h9 => h9) rfl hin rfl (tyX6_ok 1 (by decide)) rfl rfl (Nat.le_of_ble_eq_true rfl) dX6_init_46 (fun H locs hP hD hS => ?_)
      have hP : va_P (dC, dI) vwCl [(h0, .inr (6, [.ref q_1, .ref q_5, .null, .null, .null, .int 0, .int 0, .int 0])), (q_1, .inl (cA_2, 80, .inr (.inr (.inr (.inr fE))))), (q_5, .inl (cA_6, 240, .inr (.inl (fun _ => 0))))] H := hP
      have hD : va_D A [(h0, .inr (6, [.ref q_1, .ref q_5, .null, .null, .null, .int 0, .int 0, .int 0])), (q_1, .inl (cA_2, 80, .inr (.inr (.inr (.inr fE))))), (q_5, .inl (cA_6, 240, .inr (.inl (fun _ => 0))))] := hD
      refine lv_aload_n hx hb dX6_init_49 rfl (lv_at hl 1 rfl) ?_
      refine lv_iload_n hx hb dX6_init_50 rfl (lv_at hl 2 rfl) ?_
      refine lv_iconst (v := 5) hx hb dX6_init_51 (by decide) ?_
      refine lv_idiv hx hb dX6_init_52 (by decide) ?_
      refine lv_topi (fun z_7 ez_7 => ?_)
      obtain rfl : z_7 = 240 := ez_7.trans (by decide)
      refine va_newa (D := (dC, dI)) (atype := .int) (ty := .int) (N' := 240) (a0 := (240, .inl (fun _ => 0))) hx hb (htb _ kw_122) rfl hK hP hD hS hA (fun _ => rfl) (by decide) (by decide) (by decide) (Nat.le_of_ble_eq_true rfl) (Nat.le_of_ble_eq_true rfl) dX6_init_53 (fun q_8 cA_9 H hK hP hD hS => ?_)
      have hP : va_P (dC, dI) vwCl [(h0, .inr (6, [.ref q_1, .ref q_5, .null, .null, .null, .int 0, .int 0, .int 0])), (q_1, .inl (cA_2, 80, .inr (.inr (.inr (.inr fE))))), (q_5, .inl (cA_6, 240, .inr (.inl (fun _ => 0)))), (q_8, .inl (cA_9, 240, .inl (fun _ => 0)))] H := hP
      have hD : va_D A [(h0, .inr (6, [.ref q_1, .ref q_5, .null, .null, .null, .int 0, .int 0, .int 0])), (q_1, .inl (cA_2, 80, .inr (.inr (.inr (.inr fE))))), (q_5, .inl (cA_6, 240, .inr (.inl (fun _ => 0)))), (q_8, .inl (cA_9, 240, .inl (fun _ => 0)))] := hD
      have hK : va_K (dC, dI) vwCl [(cA_2, .object RX3), (cA_6, .long), (cA_9, .int)] s := hK
      refine W.widen (k := 163) (n := 4160) (Nat.le_of_ble_eq_true rfl) (Nat.le_of_ble_eq_true rfl) ?_
      refine va_putF (D := (dC, dI)) (ci := 6) (v := .ref q_8) (ty := .array .int) (C := RX6) (T := TX6) (N := 8) hx hb htb inX6 tyX6 tyX6_ok nmX6 hown hK hP hD hS 0 rfl rfl 2 (by decide) (htb _ kw_159) (fun _ h9 => h9) rfl hin rfl (tyX6_ok 2 (by decide)) rfl rfl (Nat.le_of_ble_eq_true rfl) dX6_init_55 (fun H locs hP hD hS => ?_)
      have hP : va_P (dC, dI) vwCl [(h0, .inr (6, [.ref q_1, .ref q_5, .ref q_8, .null, .null, .int 0, .int 0, .int 0])), (q_1, .inl (cA_2, 80, .inr (.inr (.inr (.inr fE))))), (q_5, .inl (cA_6, 240, .inr (.inl (fun _ => 0)))), (q_8, .inl (cA_9, 240, .inl (fun _ => 0)))] H := hP
      have hD : va_D A [(h0, .inr (6, [.ref q_1, .ref q_5, .ref q_8, .null, .null, .int 0, .int 0, .int 0])), (q_1, .inl (cA_2, 80, .inr (.inr (.inr (.inr fE))))), (q_5, .inl (cA_6, 240, .inr (.inl (fun _ => 0)))), (q_8, .inl (cA_9, 240, .inl (fun _ => 0)))] := hD
      refine lv_aload_n hx hb dX6_init_58 rfl (lv_at hl 1 rfl) ?_
      refine lv_iload_n hx hb dX6_init_59 rfl (lv_at hl 2 rfl) ?_
      refine lv_iconst (v := 5) hx hb dX6_init_60 (by decide) ?_
      refine lv_idiv hx hb dX6_init_61 (by decide) ?_
      refine lv_topi (fun z_10 ez_10 => ?_)
      obtain rfl : z_10 = 240 := ez_10.trans (by decide)
      refine va_newa (D := (dC, dI)) (atype := .int) (ty := .int) (N' := 240) (a0 := (240, .inl (fun _ => 0))) hx hb (htb _ kw_122) rfl hK hP hD hS hA (fun _ => rfl) (by decide) (by decide) (by decide) (Nat.le_of_ble_eq_true rfl) (Nat.le_of_ble_eq_true rfl) dX6_init_62 (fun q_11 cA_12 H hK hP hD hS => ?_)
      have hP : va_P (dC, dI) vwCl [(h0, .inr (6, [.ref q_1, .ref q_5, .ref q_8, .null, .null, .int 0, .int 0, .int 0])), (q_1, .inl (cA_2, 80, .inr (.inr (.inr (.inr fE))))), (q_5, .inl (cA_6, 240, .inr (.inl (fun _ => 0)))), (q_8, .inl (cA_9, 240, .inl (fun _ => 0))), (q_11, .inl (cA_12, 240, .inl (fun _ => 0)))] H := hP
      have hD : va_D A [(h0, .inr (6, [.ref q_1, .ref q_5, .ref q_8, .null, .null, .int 0, .int 0, .int 0])), (q_1, .inl (cA_2, 80, .inr (.inr (.inr (.inr fE))))), (q_5, .inl (cA_6, 240, .inr (.inl (fun _ => 0)))), (q_8, .inl (cA_9, 240, .inl (fun _ => 0))), (q_11, .inl (cA_12, 240, .inl (fun _ => 0)))] := hD
      have hK : va_K (dC, dI) vwCl [(cA_2, .object RX3), (cA_6, .long), (cA_9, .int), (cA_12, .int)] s := hK
      refine W.widen (k := 164) (n := 4400) (Nat.le_of_ble_eq_true rfl) (Nat.le_of_ble_eq_true rfl) ?_
      refine va_putF (D := (dC, dI)) (ci := 6) (v := .ref q_11) (ty := .array .int) (C := RX6) (T := TX6) (N := 8) hx hb htb inX6 tyX6 tyX6_ok nmX6 hown hK hP hD hS 0 rfl rfl 3 (by decide) (htb _ kw_160) (fun _ h9 => h9) rfl hin rfl (tyX6_ok 3 (by decide)) rfl rfl (Nat.le_of_ble_eq_true rfl) dX6_init_64 (fun H locs hP hD hS => ?_)
      have hP : va_P (dC, dI) vwCl [(h0, .inr (6, [.ref q_1, .ref q_5, .ref q_8, .ref q_11, .null, .int 0, .int 0, .int 0])), (q_1, .inl (cA_2, 80, .inr (.inr (.inr (.inr fE))))), (q_5, .inl (cA_6, 240, .inr (.inl (fun _ => 0)))), (q_8, .inl (cA_9, 240, .inl (fun _ => 0))), (q_11, .inl (cA_12, 240, .inl (fun _ => 0)))] H := hP
      have hD : va_D A [(h0, .inr (6, [.ref q_1, .ref q_5, .ref q_8, .ref q_11, .null, .int 0, .int 0, .int 0])), (q_1, .inl (cA_2, 80, .inr (.inr (.inr (.inr fE))))), (q_5, .inl (cA_6, 240, .inr (.inl (fun _ => 0)))), (q_8, .inl (cA_9, 240, .inl (fun _ => 0))), (q_11, .inl (cA_12, 240, .inl (fun _ => 0)))] := hD
      refine lv_aload_n hx hb dX6_init_67 rfl (lv_at hl 1 rfl) ?_
      refine lv_iload_n hx hb dX6_init_68 rfl (lv_at hl 2 rfl) ?_
      refine va_newa (D := (dC, dI)) (atype := .char) (ty := .char) (N' := 1200) (a0 := (1200, .inl (fun _ => 0))) hx hb (htb _ kw_8) rfl hK hP hD hS hA (fun _ => rfl) (by decide) (by decide) (by decide) (Nat.le_of_ble_eq_true rfl) (Nat.le_of_ble_eq_true rfl) dX6_init_69 (fun q_13 cA_14 H hK hP hD hS => ?_)
      have hP : va_P (dC, dI) vwCl [(h0, .inr (6, [.ref q_1, .ref q_5, .ref q_8, .ref q_11, .null, .int 0, .int 0, .int 0])), (q_1, .inl (cA_2, 80, .inr (.inr (.inr (.inr fE))))), (q_5, .inl (cA_6, 240, .inr (.inl (fun _ => 0)))), (q_8, .inl (cA_9, 240, .inl (fun _ => 0))), (q_11, .inl (cA_12, 240, .inl (fun _ => 0))), (q_13, .inl (cA_14, 1200, .inl (fun _ => 0)))] H := hP
      have hD : va_D A [(h0, .inr (6, [.ref q_1, .ref q_5, .ref q_8, .ref q_11, .null, .int 0, .int 0, .int 0])), (q_1, .inl (cA_2, 80, .inr (.inr (.inr (.inr fE))))), (q_5, .inl (cA_6, 240, .inr (.inl (fun _ => 0)))), (q_8, .inl (cA_9, 240, .inl (fun _ => 0))), (q_11, .inl (cA_12, 240, .inl (fun _ => 0))), (q_13, .inl (cA_14, 1200, .inl (fun _ => 0)))] := hD
      have hK : va_K (dC, dI) vwCl [(cA_2, .object RX3), (cA_6, .long), (cA_9, .int), (cA_12, .int), (cA_14, .char)] s := hK
      refine W.widen (k := 165) (n := 5600) (Nat.le_of_ble_eq_true rfl) (Nat.le_of_ble_eq_true rfl) ?_
      refine va_putF (D := (dC, dI)) (ci := 6) (v := .ref q_13) (ty := .array .char) (C := RX6) (T := TX6) (N := 8) hx hb htb inX6 tyX6 tyX6_ok nmX6 hown hK hP hD hS 0 rfl rfl 4 (by decide) (htb _ kw_161) (fun _ h9 => h9) rfl hin rfl (tyX6_ok 4 (by decide)) rfl rfl (Nat.le_of_ble_eq_true rfl) dX6_init_71 (fun H locs hP hD hS => ?_)
      have hP : va_P (dC, dI) vwCl [(h0, .inr (6, [.ref q_1, .ref q_5, .ref q_8, .ref q_11, .ref q_13, .int 0, .int 0, .int 0])), (q_1, .inl (cA_2, 80, .inr (.inr (.inr (.inr fE))))), (q_5, .inl (cA_6, 240, .inr (.inl (fun _ => 0)))), (q_8, .inl (cA_9, 240, .inl (fun _ => 0))), (q_11, .inl (cA_12, 240, .inl (fun _ => 0))), (q_13, .inl (cA_14, 1200, .inl (fun _ => 0)))] H := hP
      have hD : va_D A [(h0, .inr (6, [.ref q_1, .ref q_5, .ref q_8, .ref q_11, .ref q_13, .int 0, .int 0, .int 0])), (q_1, .inl (cA_2, 80, .inr (.inr (.inr (.inr fE))))), (q_5, .inl (cA_6, 240, .inr (.inl (fun _ => 0)))), (q_8, .inl (cA_9, 240, .inl (fun _ => 0))), (q_11, .inl (cA_12, 240, .inl (fun _ => 0))), (q_13, .inl (cA_14, 1200, .inl (fun _ => 0)))] := hD
      have hP9 := hP.sub (ws' := [(h0, .inr (6, [.ref q_1, .ref q_5, .ref q_8, .ref q_11, .ref q_13, .int 0, .int 0, .int 0]))]) [0] rfl
      have hD9 := hD.sub (ws' := [(h0, .inr (6, [.ref q_1, .ref q_5, .ref q_8, .ref q_11, .ref q_13, .int 0, .int 0, .int 0]))]) [0] (by decide) rfl
      have hK9 := hK.sub (tys' := []) [] rfl
      refine W.widen (k := 165) (n := 5600) (Nat.le_of_ble_eq_true rfl) (Nat.le_of_ble_eq_true rfl) ?_
      exact W.vret hx hb hr (fun t ht hW => ⟨⟨(), rfl, trivial, q_1, q_5, q_8, q_11, q_13, by rw [ht]; exact hP9, va_K.moved hW.alike hK9, hD9⟩, hS.F ht⟩) hS.2.2 dX6_init_74
    | succ n ih =>
      intro i fE H locs ls hi9  hP hD hS hl
      have hlt : i < 80 := by omega
      refine lv_iload_n hx hb dX6_init_15 rfl (lv_at hl 0 rfl) ?_
      refine lv_bipush (v := 80) hx hb dX6_init_16 (by decide) ?_
      refine lv_icmp_ge (tgt := 40) hx hb dX6_init_18 (by decide) (fun c_15 => absurd c_15 (nI_ge hlt (by decide))) (fun _ => ?_)
      refine lv_aload_n hx hb dX6_init_21 rfl (lv_at hl 1 rfl) ?_
      refine va_get (D := (dC, dI)) (ci := 6) (v := .ref q_1) (C := RX6) (T := TX6) (N := 8) hx hb htb inX6 hown hK hP 0 rfl rfl 0 (by decide) (htb _ kw_152) (fun _ h9 => h9) rfl dX6_init_22 ?_
      refine lv_iload_n hx hb dX6_init_25 rfl (lv_at hl 0 rfl) ?_
      refine va_new (ci := 3) (fs := nvX3) (C := RX3) (T := TX3) (N := 21) hx hb htb inX3 tyX3 tyX3_ok hown (htb _ kw_151) (htb _ kw_154) (htb _ kw_153) hK hP hD hS hA rfl nwX3 (by show (i * 2 + 1) + 1 ≤ 165; omega) (by show (i * 45 + 80) + 21 ≤ 5600; omega) dX6_init_26 (fun q_16 H hP hD hS => ?_)
      have hP : va_P (dC, dI) vwCl [(h0, .inr (6, [.ref q_1, .null, .null, .null, .null, .int 0, .int 0, .int 0])), (q_1, .inl (cA_2, 80, .inr (.inr (.inr (.inr fE))))), (q_16, .inr (3, [.null, .int 0, .int 0, .int 0, .null, .null, .null, .null, .int 0, .int 0, .int 0, .long 0, .long 0, .long 0, .int 0, .int 0, .int 0, .int 0, .null, .null, .null]))] H := hP
      have hD : va_D A [(h0, .inr (6, [.ref q_1, .null, .null, .null, .null, .int 0, .int 0, .int 0])), (q_1, .inl (cA_2, 80, .inr (.inr (.inr (.inr fE))))), (q_16, .inr (3, [.null, .int 0, .int 0, .int 0, .null, .null, .null, .null, .int 0, .int 0, .int 0, .long 0, .long 0, .long 0, .int 0, .int 0, .int 0, .int 0, .null, .null, .null]))] := hD
      refine W.widen (k := i * 2 + 2) (n := i * 45 + 101) (by omega) (by omega) ?_
      refine lv_dup hx hb dX6_init_29 rfl ?_
      have hPc := hP.sub (ws' := [(q_16, .inr (3, [.null, .int 0, .int 0, .int 0, .null, .null, .null, .null, .int 0, .int 0, .int 0, .long 0, .long 0, .long 0, .int 0, .int 0, .int 0, .int 0, .null, .null, .null]))]) [2] rfl
      have hDc := hD.sub (ws' := [(q_16, .inr (3, [.null, .int 0, .int 0, .int 0, .null, .null, .null, .null, .int 0, .int 0, .int 0, .long 0, .long 0, .long 0, .int 0, .int 0, .int 0, .int 0, .null, .null, .null]))]) [2] (by decide) rfl
      have hKc := hK.sub (tys' := []) [] rfl
      have hFc := va_free (wc := [(q_16, .inr (3, [.null, .int 0, .int 0, .int 0, .null, .null, .null, .null, .int 0, .int 0, .int 0, .long 0, .long 0, .long 0, .int 0, .int 0, .int 0, .int 0, .null, .null, .null]))]) hD hS hA [2] rfl
      refine va_callv (va_runI (As := []) (rest := [.ref q_16, .int (nI i), .ref q_1]) ⟨hx, hb, hml, hown, htb⟩ (c_X3_init l dC dI H.size q_16) (cwI 0 htb (gd_c kw_560) rfl rfl rfl (htb _ kw_153) (htb _ kw_155) (htb _ kw_156) rfl (by decide +kernel) ⟨Nat.le_of_ble_eq_true rfl, Nat.le_of_ble_eq_true rfl⟩) ⟨fun a U g mk q => by obtain ⟨q0, q1, qP, qK, qD⟩ := q; exact ⟨q0, q1, qP, va_K.moved (u := U) (U := U.calling g mk a) (Vm.Alike.refl U.vm) qK, qD⟩, fun U hU hW => ⟨rfl, by rw [hU], by rw [hU]; exact hPc, va_K.moved hW.alike hKc, hDc.weaken (fun _ _ _ _ => trivial)⟩⟩ rfl rfl hl.1 rfl (lv_room (Nat.le_of_ble_eq_true rfl)) dX6_init_30 ⟨(by show (i * 2 + 2) + 1 ≤ 165; omega), (by show (i * 45 + 101) + 24 ≤ 5600; omega)⟩) hS (fun q _ h => hFc q h) hFc (fun u t H1 locs ht hvm hw hB hz1 hk1 hS => ?_)
      obtain ⟨q1_17, hP1, hK1, hD1⟩ := hB
      rw [ht] at hP1
      have hK1 := va_K.moved hvm.symm hK1
      obtain ⟨hP, hD⟩ := va_join (wr := [(h0, .inr (6, [.ref q_1, .null, .null, .null, .null, .int 0, .int 0, .int 0])), (q_1, .inl (cA_2, 80, .inr (.inr (.inr (.inr fE)))))]) (w1 := [(q_16, .inr (3, [.ref q1_17, .int 0, .int 0, .int 0, .null, .null, .null, .null, .int 0, .int 0, .int 0, .long 0, .long 0, .long 0, .int 0, .int 0, .int 0, .int 0, .null, .null, .null]))]) hP hD [2] [0, 1] rfl rfl (by decide) (by decide) hk1 hFc hP1 hD1
      have hK := hK.app hK1
      generalize H1 = H at hP hS ⊢
      have hP : va_P (dC, dI) vwCl [(h0, .inr (6, [.ref q_1, .null, .null, .null, .null, .int 0, .int 0, .int 0])), (q_1, .inl (cA_2, 80, .inr (.inr (.inr (.inr fE))))), (q_16, .inr (3, [.ref q1_17, .int 0, .int 0, .int 0, .null, .null, .null, .null, .int 0, .int 0, .int 0, .long 0, .long 0, .long 0, .int 0, .int 0, .int 0, .int 0, .null, .null, .null]))] H := hP
      have hD : va_D A [(h0, .inr (6, [.ref q_1, .null, .null, .null, .null, .int 0, .int 0, .int 0])), (q_1, .inl (cA_2, 80, .inr (.inr (.inr (.inr fE))))), (q_16, .inr (3, [.ref q1_17, .int 0, .int 0, .int 0, .null, .null, .null, .null, .int 0, .int 0, .int 0, .long 0, .long 0, .long 0, .int 0, .int 0, .int 0, .int 0, .null, .null, .null]))] := hD
      have hK : va_K (dC, dI) vwCl [(cA_2, .object RX3)] s := hK
      refine W.widen (k := i * 2 + 3) (n := i * 45 + 125) (by omega) (by omega) ?_
      refine va_astq (D := (dC, dI)) (r := (RX3, TX3, 21)) hx hb hK hP hD hS 1 0 2 3 rfl rfl rfl rfl (vp_in_nI hlt (by decide)) dX6_init_33 (fun H locs hP hD hS => ?_)
      have hP : va_P (dC, dI) vwCl [(h0, .inr (6, [.ref q_1, .null, .null, .null, .null, .int 0, .int 0, .int 0])), (q_1, .inl (cA_2, 80, .inr (.inr (.inr (.inr (va_up fE (nI i : Int32).toNatClampNeg (some q_16))))))), (q_16, .inr (3, [.ref q1_17, .int 0, .int 0, .int 0, .null, .null, .null, .null, .int 0, .int 0, .int 0, .long 0, .long 0, .long 0, .int 0, .int 0, .int 0, .int 0, .null, .null, .null]))] H := hP
      have hD : va_D A [(h0, .inr (6, [.ref q_1, .null, .null, .null, .null, .int 0, .int 0, .int 0])), (q_1, .inl (cA_2, 80, .inr (.inr (.inr (.inr (va_up fE (nI i : Int32).toNatClampNeg (some q_16))))))), (q_16, .inr (3, [.ref q1_17, .int 0, .int 0, .int 0, .null, .null, .null, .null, .int 0, .int 0, .int 0, .long 0, .long 0, .long 0, .int 0, .int 0, .int 0, .int 0, .null, .null, .null]))] := hD
      refine lv_iinc (v := nI (i + 1)) (lv' := [(2, .int (nI (i + 1))), (0, .ref h0), (1, .int 1200)]) hx hb dX6_init_34 hl (k := 0) rfl (nI_1 i) (by decide) rfl (fun ls hl => ?_)
      refine lv_goto (tgt := 15) hx hb dX6_init_37 (by decide) ?_
      refine W.widen (k := (i + 1) * 2 + 1) (n := (i + 1) * 45 + 80) (by omega) (by omega) ?_
      exact ih (i + 1) (va_up fE (nI i : Int32).toNatClampNeg (some q_16)) _ _ _ (by omega) (hP.sub [0, 1] rfl) (hD.sub [0, 1] (by decide) rfl) hS (lv_sub hl [0, 1, 2] rfl)
  exact hloop 80 0 (fun _ => none) _ _ _ rfl hP hD hS hl

set_option maxHeartbeats 4000000 in
set_option maxRecDepth 100000 in
/-- Wiring(paper) -/
theorem c_X10_init (l : Launch) (dC : Nat → ClassId) (dI : Nat → Nat → Nat) (sz : Nat) (h0 : Nat) (h1 : Nat) : Met l yX10_init wm_X10_init ({ frames := 5, cells := 322, slots := 2400, locals := 101 }) (va_Pc [.ref h0, .ref h1] (fun U => U.heap.size = sz ∧ va_P (dC, dI) vwCl [(h0, .inr (10, [.null, .null, .null, .int 0]))] U.heap ∧ va_K (dC, dI) vwCl [] U ∧ va_D (fun _ => True) [(h0, .inr (10, [.null, .null, .null, .int 0]))] ∧ GE (va_A [(h0, .inr (10, [.null, .null, .null, .int 0]))] sz) U)) (va_Qv (fun _ : Unit => True) (fun _ t => ∃ (q1 : Nat), ∃ (q2 : Nat), va_P (dC, dI) vwCl [(h0, .inr (10, [.ref h1, .ref q1, .ref q2, .int 0]))] t.heap ∧ va_K (dC, dI) vwCl [] t ∧ va_D (va_A [(h0, .inr (10, [.null, .null, .null, .int 0]))] sz) [(h0, .inr (10, [.ref h1, .ref q1, .ref q2, .int 0]))]) (va_A [(h0, .inr (10, [.null, .null, .null, .int 0]))] sz)) 322 2400 (va_A [(h0, .inr (10, [.null, .null, .null, .int 0]))] sz) := by
  refine Met.ofW (cc := cX10_init) (maxL := 3) (ret := none) (by decide) rfl ?_
  intro p e s m args below meth c s₁ B hml hv
  obtain ⟨rfl, hsz, hP, hK, hD0, hG⟩ := hv
  have hx := B.exec
  have hb := B.bytes
  have hr := B.returns
  have hts := atoms_spec (ws := wm_X10_init) B.pre
  have htb := fun (w : Cond) (h : w ∈ tb) => hts w (List.mem_cons_of_mem _ h)
  have hown : s.vm.findClass RX10 = some m.cls := findClass_of_methodNamed B.named
  have hlocks := B.notSynchronized
  have hin : meth.name = "<init>" := (name_of_methodNamed B.named B.method).1
  subst hsz
  have hD := hD0.self (sz := s.heap.size)
  generalize hAe : va_A [(h0, .inr (10, [.null, .null, .null, .int 0]))] s.heap.size = A at hD hG ⊢
  have hA : ∀ q : Nat, s.heap.size ≤ q → A q := fun q h => by rw [← hAe]; exact Or.inr h
  have hS : va_S A s.heap s.heap [] := va_S.rf
  have hP : va_P (dC, dI) vwCl [(h0, .inr (10, [.null, .null, .null, .int 0]))] s.heap := hP
  have hl := lv_entry ([.ref h0, .ref h1]) (n := 3) (Nat.le_of_ble_eq_true rfl)
  rw [lg_entry_eq]
  generalize (lg_sl ([.ref h0, .ref h1]) ++ List.replicate (3 - (lg_sl ([.ref h0, .ref h1])).length) Slot.unset).toArray = ls at hl ⊢
  have hl : lv_has ls 3 [(0, .ref h0), (1, .ref h1)] := hl
  refine lv_aload_n hx hb dX10_init_0 rfl (lv_at hl 0 rfl) ?_
  refine W.objInit hx hb hown (htb _ kw_201) (htb _ kw_1) (htb _ kw_528) rfl (by rw [hml]; exact hl.1) rfl dX10_init_1 (Nat.le_of_ble_eq_true rfl) (Nat.le_of_ble_eq_true rfl) ?_
  refine W.eq (g2 := F0 m 4 ls []) rfl ?_
  refine lv_aload_n hx hb dX10_init_4 rfl (lv_at hl 0 rfl) ?_
  refine lv_aload_n hx hb dX10_init_5 rfl (lv_at hl 1 rfl) ?_
  refine va_putF (D := (dC, dI)) (ci := 10) (v := .ref h1) (ty := .object "WiredBeans$Paper") (C := RX10) (T := TX10) (N := 4) hx hb htb inX10 tyX10 tyX10_ok nmX10 hown hK hP hD hS 0 rfl rfl 0 (by decide) (htb _ kw_202) (fun _ h9 => h9) rfl hin rfl (tyX10_ok 0 (by decide)) rfl rfl (Nat.le_of_ble_eq_true rfl) dX10_init_6 (fun H locs hP hD hS => ?_)
  have hP : va_P (dC, dI) vwCl [(h0, .inr (10, [.ref h1, .null, .null, .int 0]))] H := hP
  have hD : va_D A [(h0, .inr (10, [.ref h1, .null, .null, .int 0]))] := hD
  refine lv_aload_n hx hb dX10_init_9 rfl (lv_at hl 0 rfl) ?_
  refine lv_bipush (v := 80) hx hb dX10_init_10 (by decide) ?_
  refine va_newq (D := (dC, dI)) (N' := 80) (C := RX1) hx hb hown (htb _ kw_203) hG.1.2.2.2 hK hP hD hS hA (by decide) (by decide) (by decide) (Nat.le_of_ble_eq_true rfl) (Nat.le_of_ble_eq_true rfl) dX10_init_12 (fun q_1 cA_2 H hK hP hD hS => ?_)
  have hP : va_P (dC, dI) vwCl [(h0, .inr (10, [.ref h1, .null, .null, .int 0])), (q_1, .inl (cA_2, 80, .inr (.inr (.inr (.inr (fun _ => none))))))] H := hP
  have hD : va_D A [(h0, .inr (10, [.ref h1, .null, .null, .int 0])), (q_1, .inl (cA_2, 80, .inr (.inr (.inr (.inr (fun _ => none))))))] := hD
  have hK : va_K (dC, dI) vwCl [(cA_2, .object RX1)] s := hK
  refine W.widen (k := 1) (n := 80) (Nat.le_of_ble_eq_true rfl) (Nat.le_of_ble_eq_true rfl) ?_
  refine va_putF (D := (dC, dI)) (ci := 10) (v := .ref q_1) (ty := .array (.object "WiredBeans$Bean")) (C := RX10) (T := TX10) (N := 4) hx hb htb inX10 tyX10 tyX10_ok nmX10 hown hK hP hD hS 0 rfl rfl 1 (by decide) (htb _ kw_204) (fun _ h9 => h9) rfl hin rfl (tyX10_ok 1 (by decide)) rfl rfl (Nat.le_of_ble_eq_true rfl) dX10_init_15 (fun H locs hP hD hS => ?_)
  have hP : va_P (dC, dI) vwCl [(h0, .inr (10, [.ref h1, .ref q_1, .null, .int 0])), (q_1, .inl (cA_2, 80, .inr (.inr (.inr (.inr (fun _ => none))))))] H := hP
  have hD : va_D A [(h0, .inr (10, [.ref h1, .ref q_1, .null, .int 0])), (q_1, .inl (cA_2, 80, .inr (.inr (.inr (.inr (fun _ => none))))))] := hD
  refine lv_iconst (v := 0) hx hb dX10_init_18 (by decide) ?_
  refine lv_istore_n (lv' := [(2, .int 0), (0, .ref h0), (1, .ref h1)]) hx hb dX10_init_19 rfl hl (by decide) rfl (fun ls hl => ?_)
  have hloop : ∀ (n i : Nat) (fB : Nat → Option Nat) (H : Heap) (locs : List Loc) (ls : Array Slot), i + n = 80 → va_P (dC, dI) vwCl [(h0, .inr (10, [.ref h1, .ref q_1, .null, .int 0])), (q_1, .inl (cA_2, 80, .inr (.inr (.inr (.inr fB)))))] H → va_D A [(h0, .inr (10, [.ref h1, .ref q_1, .null, .int 0])), (q_1, .inl (cA_2, 80, .inr (.inr (.inr (.inr fB)))))] → va_S A s.heap H locs → lv_has ls 3 [(2, .int (nI i)), (0, .ref h0), (1, .ref h1)] → W p l e (headSpec wm_X10_init ({ frames := 5, cells := 322, slots := 2400, locals := 101 })).room s m ([.ref h0, .ref h1] : List Value).toArray below meth c H locs (i * 4 + 1) (i * 28 + 80) (MQ below (va_Qv (fun _ : Unit => True) (fun _ t => ∃ (q1 : Nat), ∃ (q2 : Nat), va_P (dC, dI) vwCl [(h0, .inr (10, [.ref h1, .ref q1, .ref q2, .int 0]))] t.heap ∧ va_K (dC, dI) vwCl [] t ∧ va_D A [(h0, .inr (10, [.ref h1, .ref q1, .ref q2, .int 0]))]) A) ([.ref h0, .ref h1] : List Value).toArray s 322 2400 A) (F0 m 20 ls []) := by
    intro n
    induction n with
    | zero =>
      intro i fB H locs ls hi9  hP hD hS hl
      obtain rfl : i = 80 := by omega
      have hl : lv_has ls 3 [(2, .int 80), (0, .ref h0), (1, .ref h1)] := hl
      refine W.widen (k := 321) (n := 2320) (Nat.le_of_ble_eq_true rfl) (Nat.le_of_ble_eq_true rfl) ?_
      refine lv_iload_n hx hb dX10_init_20 rfl (lv_at hl 0 rfl) ?_
      refine lv_aload_n hx hb dX10_init_21 rfl (lv_at hl 1 rfl) ?_
      refine va_get (D := (dC, dI)) (ci := 10) (v := .ref q_1) (C := RX10) (T := TX10) (N := 4) hx hb htb inX10 hown hK hP 0 rfl rfl 1 (by decide) (htb _ kw_204) (fun _ h9 => h9) rfl dX10_init_22 ?_
      refine va_alen (D := (dC, dI)) (v := 80) hx hb hK hP 1 0 rfl rfl rfl dX10_init_25 ?_
      refine lv_icmp_ge (tgt := 49) hx hb dX10_init_26 (by decide) (fun _ => ?_) (fun c_3 => absurd (by decide) c_3)
      refine lv_aload_n hx hb dX10_init_49 rfl (lv_at hl 1 rfl) ?_
      refine lv_bipush (v := 80) hx hb dX10_init_50 (by decide) ?_
      refine va_newq (D := (dC, dI)) (N' := 80) (C := RX1) hx hb hown (htb _ kw_203) hG.1.2.2.2 hK hP hD hS hA (by decide) (by decide) (by decide) (Nat.le_of_ble_eq_true rfl) (Nat.le_of_ble_eq_true rfl) dX10_init_52 (fun q_4 cA_5 H hK hP hD hS => ?_)
      have hP : va_P (dC, dI) vwCl [(h0, .inr (10, [.ref h1, .ref q_1, .null, .int 0])), (q_1, .inl (cA_2, 80, .inr (.inr (.inr (.inr fB))))), (q_4, .inl (cA_5, 80, .inr (.inr (.inr (.inr (fun _ => none))))))] H := hP
      have hD : va_D A [(h0, .inr (10, [.ref h1, .ref q_1, .null, .int 0])), (q_1, .inl (cA_2, 80, .inr (.inr (.inr (.inr fB))))), (q_4, .inl (cA_5, 80, .inr (.inr (.inr (.inr (fun _ => none))))))] := hD
      have hK : va_K (dC, dI) vwCl [(cA_2, .object RX1), (cA_5, .object RX1)] s := hK
      refine W.widen (k := 322) (n := 2400) (Nat.le_of_ble_eq_true rfl) (Nat.le_of_ble_eq_true rfl) ?_
      refine va_putF (D := (dC, dI)) (ci := 10) (v := .ref q_4) (ty := .array (.object "WiredBeans$Bean")) (C := RX10) (T := TX10) (N := 4) hx hb htb inX10 tyX10 tyX10_ok nmX10 hown hK hP hD hS 0 rfl rfl 2 (by decide) (htb _ kw_209) (fun _ h9 => h9) rfl hin rfl (tyX10_ok 2 (by decide)) rfl rfl (Nat.le_of_ble_eq_true rfl) dX10_init_55 (fun H locs hP hD hS => ?_)
      have hP : va_P (dC, dI) vwCl [(h0, .inr (10, [.ref h1, .ref q_1, .ref q_4, .int 0])), (q_1, .inl (cA_2, 80, .inr (.inr (.inr (.inr fB))))), (q_4, .inl (cA_5, 80, .inr (.inr (.inr (.inr (fun _ => none))))))] H := hP
      have hD : va_D A [(h0, .inr (10, [.ref h1, .ref q_1, .ref q_4, .int 0])), (q_1, .inl (cA_2, 80, .inr (.inr (.inr (.inr fB))))), (q_4, .inl (cA_5, 80, .inr (.inr (.inr (.inr (fun _ => none))))))] := hD
      have hP9 := hP.sub (ws' := [(h0, .inr (10, [.ref h1, .ref q_1, .ref q_4, .int 0]))]) [0] rfl
      have hD9 := hD.sub (ws' := [(h0, .inr (10, [.ref h1, .ref q_1, .ref q_4, .int 0]))]) [0] (by decide) rfl
      have hK9 := hK.sub (tys' := []) [] rfl
      refine W.widen (k := 322) (n := 2400) (Nat.le_of_ble_eq_true rfl) (Nat.le_of_ble_eq_true rfl) ?_
      exact W.vret hx hb hr (fun t ht hW => ⟨⟨(), rfl, trivial, q_1, q_4, by rw [ht]; exact hP9, va_K.moved hW.alike hK9, hD9⟩, hS.F ht⟩) hS.2.2 dX10_init_58
    | succ n ih =>
      intro i fB H locs ls hi9  hP hD hS hl
      have hlt : i < 80 := by omega
      refine lv_iload_n hx hb dX10_init_20 rfl (lv_at hl 0 rfl) ?_
      refine lv_aload_n hx hb dX10_init_21 rfl (lv_at hl 1 rfl) ?_
      refine va_get (D := (dC, dI)) (ci := 10) (v := .ref q_1) (C := RX10) (T := TX10) (N := 4) hx hb htb inX10 hown hK hP 0 rfl rfl 1 (by decide) (htb _ kw_204) (fun _ h9 => h9) rfl dX10_init_22 ?_
      refine va_alen (D := (dC, dI)) (v := 80) hx hb hK hP 1 0 rfl rfl rfl dX10_init_25 ?_
      refine lv_icmp_ge (tgt := 49) hx hb dX10_init_26 (by decide) (fun c_6 => absurd c_6 (nI_ge hlt (by decide))) (fun _ => ?_)
      refine lv_aload_n hx hb dX10_init_29 rfl (lv_at hl 1 rfl) ?_
      refine va_get (D := (dC, dI)) (ci := 10) (v := .ref q_1) (C := RX10) (T := TX10) (N := 4) hx hb htb inX10 hown hK hP 0 rfl rfl 1 (by decide) (htb _ kw_204) (fun _ h9 => h9) rfl dX10_init_30 ?_
      refine lv_iload_n hx hb dX10_init_33 rfl (lv_at hl 0 rfl) ?_
      refine va_new (ci := 1) (fs := nvX1) (C := RX1) (T := TX1) (N := 19) hx hb htb inX1 tyX1 tyX1_ok hown (htb _ kw_203) (htb _ kw_206) (htb _ kw_205) hK hP hD hS hA rfl nwX1 (by show (i * 4 + 1) + 1 ≤ 322; omega) (by show (i * 28 + 80) + 19 ≤ 2400; omega) dX10_init_34 (fun q_7 H hP hD hS => ?_)
      have hP : va_P (dC, dI) vwCl [(h0, .inr (10, [.ref h1, .ref q_1, .null, .int 0])), (q_1, .inl (cA_2, 80, .inr (.inr (.inr (.inr fB))))), (q_7, .inr (1, [.int 0, .null, .null, .null, .null, .long 0, .long 0, .long 0, .long 0, .int 0, .int 0, .int 0, .int 0, .int 0, .int 0, .int 0, .int 0, .int 0, .int 0]))] H := hP
      have hD : va_D A [(h0, .inr (10, [.ref h1, .ref q_1, .null, .int 0])), (q_1, .inl (cA_2, 80, .inr (.inr (.inr (.inr fB))))), (q_7, .inr (1, [.int 0, .null, .null, .null, .null, .long 0, .long 0, .long 0, .long 0, .int 0, .int 0, .int 0, .int 0, .int 0, .int 0, .int 0, .int 0, .int 0, .int 0]))] := hD
      refine W.widen (k := i * 4 + 2) (n := i * 28 + 99) (by omega) (by omega) ?_
      refine lv_dup hx hb dX10_init_37 rfl ?_
      refine lv_iload_n hx hb dX10_init_38 rfl (lv_at hl 0 rfl) ?_
      have hPc := hP.sub (ws' := [(q_7, .inr (1, [.int 0, .null, .null, .null, .null, .long 0, .long 0, .long 0, .long 0, .int 0, .int 0, .int 0, .int 0, .int 0, .int 0, .int 0, .int 0, .int 0, .int 0]))]) [2] rfl
      have hDc := hD.sub (ws' := [(q_7, .inr (1, [.int 0, .null, .null, .null, .null, .long 0, .long 0, .long 0, .long 0, .int 0, .int 0, .int 0, .int 0, .int 0, .int 0, .int 0, .int 0, .int 0, .int 0]))]) [2] (by decide) rfl
      have hKc := hK.sub (tys' := []) [] rfl
      have hFc := va_free (wc := [(q_7, .inr (1, [.int 0, .null, .null, .null, .null, .long 0, .long 0, .long 0, .long 0, .int 0, .int 0, .int 0, .int 0, .int 0, .int 0, .int 0, .int 0, .int 0, .int 0]))]) hD hS hA [2] rfl
      refine va_callv (va_runI (As := [.int (nI i)]) (rest := [.ref q_7, .int (nI i), .ref q_1]) ⟨hx, hb, hml, hown, htb⟩ (c_X1_init l dC dI H.size q_7 (nI i)) (cwI 1 htb (gd_c kw_567) rfl rfl rfl (htb _ kw_205) (htb _ kw_207) (htb _ kw_208) rfl (by decide +kernel) ⟨Nat.le_of_ble_eq_true rfl, Nat.le_of_ble_eq_true rfl⟩) ⟨fun a U g mk q => by obtain ⟨q0, q1, qP, qK, qD, qG⟩ := q; exact ⟨q0, q1, qP, va_K.moved (u := U) (U := U.calling g mk a) (Vm.Alike.refl U.vm) qK, qD, GE.call g mk a qG⟩, fun U hU hW => ⟨rfl, by rw [hU], by rw [hU]; exact hPc, va_K.moved hW.alike hKc, hDc.weaken (fun _ _ _ _ => trivial), hG.go hS hFc hU hW⟩⟩ rfl rfl hl.1 rfl (lv_room (Nat.le_of_ble_eq_true rfl)) dX10_init_39 ⟨(by show (i * 4 + 2) + 3 ≤ 322; omega), (by show (i * 28 + 99) + 9 ≤ 2400; omega)⟩) hS (fun q _ h => hFc q h) hFc (fun u t H1 locs ht hvm hw hB hz1 hk1 hS => ?_)
      obtain ⟨q1_8, q2_9, q3_10, hP1, hK1, hD1⟩ := hB
      rw [ht] at hP1
      have hK1 := va_K.moved hvm.symm hK1
      obtain ⟨hP, hD⟩ := va_join (wr := [(h0, .inr (10, [.ref h1, .ref q_1, .null, .int 0])), (q_1, .inl (cA_2, 80, .inr (.inr (.inr (.inr fB)))))]) (w1 := [(q_7, .inr (1, [.int (nI i), .ref q1_8, .ref q2_9, .ref q3_10, .null, .long 0, .long 0, .long 0, .long 0, .int 0, .int 0, .int 0, .int 0, .int 0, .int 0, .int 0, .int 0, .int 0, .int 0]))]) hP hD [2] [0, 1] rfl rfl (by decide) (by decide) hk1 hFc hP1 hD1
      have hK := hK.app hK1
      generalize H1 = H at hP hS ⊢
      have hP : va_P (dC, dI) vwCl [(h0, .inr (10, [.ref h1, .ref q_1, .null, .int 0])), (q_1, .inl (cA_2, 80, .inr (.inr (.inr (.inr fB))))), (q_7, .inr (1, [.int (nI i), .ref q1_8, .ref q2_9, .ref q3_10, .null, .long 0, .long 0, .long 0, .long 0, .int 0, .int 0, .int 0, .int 0, .int 0, .int 0, .int 0, .int 0, .int 0, .int 0]))] H := hP
      have hD : va_D A [(h0, .inr (10, [.ref h1, .ref q_1, .null, .int 0])), (q_1, .inl (cA_2, 80, .inr (.inr (.inr (.inr fB))))), (q_7, .inr (1, [.int (nI i), .ref q1_8, .ref q2_9, .ref q3_10, .null, .long 0, .long 0, .long 0, .long 0, .int 0, .int 0, .int 0, .int 0, .int 0, .int 0, .int 0, .int 0, .int 0, .int 0]))] := hD
      have hK : va_K (dC, dI) vwCl [(cA_2, .object RX1)] s := hK
      refine W.widen (k := i * 4 + 5) (n := i * 28 + 108) (by omega) (by omega) ?_
      refine va_astq (D := (dC, dI)) (r := (RX1, TX1, 19)) hx hb hK hP hD hS 1 0 2 1 rfl rfl rfl rfl (vp_in_nI hlt (by decide)) dX10_init_42 (fun H locs hP hD hS => ?_)
      have hP : va_P (dC, dI) vwCl [(h0, .inr (10, [.ref h1, .ref q_1, .null, .int 0])), (q_1, .inl (cA_2, 80, .inr (.inr (.inr (.inr (va_up fB (nI i : Int32).toNatClampNeg (some q_7))))))), (q_7, .inr (1, [.int (nI i), .ref q1_8, .ref q2_9, .ref q3_10, .null, .long 0, .long 0, .long 0, .long 0, .int 0, .int 0, .int 0, .int 0, .int 0, .int 0, .int 0, .int 0, .int 0, .int 0]))] H := hP
      have hD : va_D A [(h0, .inr (10, [.ref h1, .ref q_1, .null, .int 0])), (q_1, .inl (cA_2, 80, .inr (.inr (.inr (.inr (va_up fB (nI i : Int32).toNatClampNeg (some q_7))))))), (q_7, .inr (1, [.int (nI i), .ref q1_8, .ref q2_9, .ref q3_10, .null, .long 0, .long 0, .long 0, .long 0, .int 0, .int 0, .int 0, .int 0, .int 0, .int 0, .int 0, .int 0, .int 0, .int 0]))] := hD
      refine lv_iinc (v := nI (i + 1)) (lv' := [(2, .int (nI (i + 1))), (0, .ref h0), (1, .ref h1)]) hx hb dX10_init_43 hl (k := 0) rfl (nI_1 i) (by decide) rfl (fun ls hl => ?_)
      refine lv_goto (tgt := 20) hx hb dX10_init_46 (by decide) ?_
      refine W.widen (k := (i + 1) * 4 + 1) (n := (i + 1) * 28 + 80) (by omega) (by omega) ?_
      exact ih (i + 1) (va_up fB (nI i : Int32).toNatClampNeg (some q_7)) _ _ _ (by omega) (hP.sub [0, 1] rfl) (hD.sub [0, 1] (by decide) rfl) hS (lv_sub hl [0, 1, 2] rfl)
  exact hloop 80 0 (fun _ => none) _ _ _ rfl hP hD hS hl

set_option maxHeartbeats 4000000 in
set_option maxRecDepth 100000 in
/-- Maker(wiring, classes, row) -/
theorem c_X5_init (l : Launch) (dC : Nat → ClassId) (dI : Nat → Nat → Nat) (sz : Nat) (h0 : Nat) (h1 : Nat) (h2 : Nat) (h3 : Nat) : Met l yX5_init wm_X5_init ({ frames := 1, cells := 5, slots := 1163, locals := 20 }) (va_Pc [.ref h0, .ref h1, .ref h2, .ref h3] (fun U => U.heap.size = sz ∧ va_P (dC, dI) vwCl [(h0, .inr (5, [.null, .null, .null, .null, .null, .int 0, .null, .int 0, .null, .null, .null, .int 0, .int 0]))] U.heap ∧ va_K (dC, dI) vwCl [] U ∧ va_D (fun _ => True) [(h0, .inr (5, [.null, .null, .null, .null, .null, .int 0, .null, .int 0, .null, .null, .null, .int 0, .int 0]))] ∧ GE (va_A [(h0, .inr (5, [.null, .null, .null, .null, .null, .int 0, .null, .int 0, .null, .null, .null, .int 0, .int 0]))] sz) U)) (va_Qv (fun _ : Unit => True) (fun _ t => ∃ (q1 : Nat), ∃ (q2 : Nat), ∃ (q3 : Nat), ∃ (q4 : Nat), ∃ (q5 : Nat), va_P (dC, dI) vwCl [(h0, .inr (5, [.ref h1, .ref h2, .ref h3, .ref q1, .ref q2, .int 0, .ref q3, .int 0, .ref q4, .ref q5, .null, .int 0, .int (-1)]))] t.heap ∧ va_K (dC, dI) vwCl [] t ∧ va_D (va_A [(h0, .inr (5, [.null, .null, .null, .null, .null, .int 0, .null, .int 0, .null, .null, .null, .int 0, .int 0]))] sz) [(h0, .inr (5, [.ref h1, .ref h2, .ref h3, .ref q1, .ref q2, .int 0, .ref q3, .int 0, .ref q4, .ref q5, .null, .int 0, .int (-1)]))]) (va_A [(h0, .inr (5, [.null, .null, .null, .null, .null, .int 0, .null, .int 0, .null, .null, .null, .int 0, .int 0]))] sz)) 5 1163 (va_A [(h0, .inr (5, [.null, .null, .null, .null, .null, .int 0, .null, .int 0, .null, .null, .null, .int 0, .int 0]))] sz) := by
  refine Met.ofW (cc := cX5_init) (maxL := 4) (ret := none) (by decide) rfl ?_
  intro p e s m args below meth c s₁ B hml hv
  obtain ⟨rfl, hsz, hP, hK, hD0, hG⟩ := hv
  have hx := B.exec
  have hb := B.bytes
  have hr := B.returns
  have hts := atoms_spec (ws := wm_X5_init) B.pre
  have htb := fun (w : Cond) (h : w ∈ tb) => hts w (List.mem_cons_of_mem _ h)
  have hown : s.vm.findClass RX5 = some m.cls := findClass_of_methodNamed B.named
  have hlocks := B.notSynchronized
  have hin : meth.name = "<init>" := (name_of_methodNamed B.named B.method).1
  subst hsz
  have hD := hD0.self (sz := s.heap.size)
  generalize hAe : va_A [(h0, .inr (5, [.null, .null, .null, .null, .null, .int 0, .null, .int 0, .null, .null, .null, .int 0, .int 0]))] s.heap.size = A at hD hG ⊢
  have hA : ∀ q : Nat, s.heap.size ≤ q → A q := fun q h => by rw [← hAe]; exact Or.inr h
  have hS : va_S A s.heap s.heap [] := va_S.rf
  have hP : va_P (dC, dI) vwCl [(h0, .inr (5, [.null, .null, .null, .null, .null, .int 0, .null, .int 0, .null, .null, .null, .int 0, .int 0]))] s.heap := hP
  have hl := lv_entry ([.ref h0, .ref h1, .ref h2, .ref h3]) (n := 4) (Nat.le_of_ble_eq_true rfl)
  rw [lg_entry_eq]
  generalize (lg_sl ([.ref h0, .ref h1, .ref h2, .ref h3]) ++ List.replicate (4 - (lg_sl ([.ref h0, .ref h1, .ref h2, .ref h3])).length) Slot.unset).toArray = ls at hl ⊢
  have hl : lv_has ls 4 [(0, .ref h0), (1, .ref h1), (2, .ref h2), (3, .ref h3)] := hl
  refine lv_aload_n hx hb dX5_init_0 rfl (lv_at hl 0 rfl) ?_
  refine W.objInit hx hb hown (htb _ kw_214) (htb _ kw_1) (htb _ kw_528) rfl (by rw [hml]; exact hl.1) rfl dX5_init_1 (Nat.le_of_ble_eq_true rfl) (Nat.le_of_ble_eq_true rfl) ?_
  refine W.eq (g2 := F0 m 4 ls []) rfl ?_
  refine lv_aload_n hx hb dX5_init_4 rfl (lv_at hl 0 rfl) ?_
  refine lv_aload_n hx hb dX5_init_5 rfl (lv_at hl 1 rfl) ?_
  refine va_putF (D := (dC, dI)) (ci := 5) (v := .ref h1) (ty := .object "WiredBeans$Wiring") (C := RX5) (T := TX5) (N := 13) hx hb htb inX5 tyX5 tyX5_ok nmX5 hown hK hP hD hS 0 rfl rfl 0 (by decide) (htb _ kw_215) (fun _ h9 => h9) rfl hin rfl (tyX5_ok 0 (by decide)) rfl rfl (Nat.le_of_ble_eq_true rfl) dX5_init_6 (fun H locs hP hD hS => ?_)
  have hP : va_P (dC, dI) vwCl [(h0, .inr (5, [.ref h1, .null, .null, .null, .null, .int 0, .null, .int 0, .null, .null, .null, .int 0, .int 0]))] H := hP
  have hD : va_D A [(h0, .inr (5, [.ref h1, .null, .null, .null, .null, .int 0, .null, .int 0, .null, .null, .null, .int 0, .int 0]))] := hD
  refine lv_aload_n hx hb dX5_init_9 rfl (lv_at hl 0 rfl) ?_
  refine lv_aload_n hx hb dX5_init_10 rfl (lv_at hl 2 rfl) ?_
  refine va_putF (D := (dC, dI)) (ci := 5) (v := .ref h2) (ty := .array (.object "WiredBeans$DeclaredClass")) (C := RX5) (T := TX5) (N := 13) hx hb htb inX5 tyX5 tyX5_ok nmX5 hown hK hP hD hS 0 rfl rfl 1 (by decide) (htb _ kw_216) (fun _ h9 => h9) rfl hin rfl (tyX5_ok 1 (by decide)) rfl rfl (Nat.le_of_ble_eq_true rfl) dX5_init_11 (fun H locs hP hD hS => ?_)
  have hP : va_P (dC, dI) vwCl [(h0, .inr (5, [.ref h1, .ref h2, .null, .null, .null, .int 0, .null, .int 0, .null, .null, .null, .int 0, .int 0]))] H := hP
  have hD : va_D A [(h0, .inr (5, [.ref h1, .ref h2, .null, .null, .null, .int 0, .null, .int 0, .null, .null, .null, .int 0, .int 0]))] := hD
  refine lv_aload_n hx hb dX5_init_14 rfl (lv_at hl 0 rfl) ?_
  refine lv_aload_n hx hb dX5_init_15 rfl (lv_at hl 3 rfl) ?_
  refine va_putF (D := (dC, dI)) (ci := 5) (v := .ref h3) (ty := .object "WiredBeans$EventRow") (C := RX5) (T := TX5) (N := 13) hx hb htb inX5 tyX5 tyX5_ok nmX5 hown hK hP hD hS 0 rfl rfl 2 (by decide) (htb _ kw_217) (fun _ h9 => h9) rfl hin rfl (tyX5_ok 2 (by decide)) rfl rfl (Nat.le_of_ble_eq_true rfl) dX5_init_16 (fun H locs hP hD hS => ?_)
  have hP : va_P (dC, dI) vwCl [(h0, .inr (5, [.ref h1, .ref h2, .ref h3, .null, .null, .int 0, .null, .int 0, .null, .null, .null, .int 0, .int 0]))] H := hP
  have hD : va_D A [(h0, .inr (5, [.ref h1, .ref h2, .ref h3, .null, .null, .int 0, .null, .int 0, .null, .null, .null, .int 0, .int 0]))] := hD
  refine lv_aload_n hx hb dX5_init_19 rfl (lv_at hl 0 rfl) ?_
  refine lv_bipush (v := 60) hx hb dX5_init_20 (by decide) ?_
  refine va_newa (D := (dC, dI)) (atype := .int) (ty := .int) (N' := 60) (a0 := (60, .inl (fun _ => 0))) hx hb (htb _ kw_122) rfl hK hP hD hS hA (fun _ => rfl) (by decide) (by decide) (by decide) (Nat.le_of_ble_eq_true rfl) (Nat.le_of_ble_eq_true rfl) dX5_init_22 (fun q_1 cA_2 H hK hP hD hS => ?_)
  have hP : va_P (dC, dI) vwCl [(h0, .inr (5, [.ref h1, .ref h2, .ref h3, .null, .null, .int 0, .null, .int 0, .null, .null, .null, .int 0, .int 0])), (q_1, .inl (cA_2, 60, .inl (fun _ => 0)))] H := hP
  have hD : va_D A [(h0, .inr (5, [.ref h1, .ref h2, .ref h3, .null, .null, .int 0, .null, .int 0, .null, .null, .null, .int 0, .int 0])), (q_1, .inl (cA_2, 60, .inl (fun _ => 0)))] := hD
  have hK : va_K (dC, dI) vwCl [(cA_2, .int)] s := hK
  refine W.widen (k := 1) (n := 60) (Nat.le_of_ble_eq_true rfl) (Nat.le_of_ble_eq_true rfl) ?_
  refine va_putF (D := (dC, dI)) (ci := 5) (v := .ref q_1) (ty := .array .int) (C := RX5) (T := TX5) (N := 13) hx hb htb inX5 tyX5 tyX5_ok nmX5 hown hK hP hD hS 0 rfl rfl 3 (by decide) (htb _ kw_218) (fun _ h9 => h9) rfl hin rfl (tyX5_ok 3 (by decide)) rfl rfl (Nat.le_of_ble_eq_true rfl) dX5_init_24 (fun H locs hP hD hS => ?_)
  have hP : va_P (dC, dI) vwCl [(h0, .inr (5, [.ref h1, .ref h2, .ref h3, .ref q_1, .null, .int 0, .null, .int 0, .null, .null, .null, .int 0, .int 0])), (q_1, .inl (cA_2, 60, .inl (fun _ => 0)))] H := hP
  have hD : va_D A [(h0, .inr (5, [.ref h1, .ref h2, .ref h3, .ref q_1, .null, .int 0, .null, .int 0, .null, .null, .null, .int 0, .int 0])), (q_1, .inl (cA_2, 60, .inl (fun _ => 0)))] := hD
  refine lv_aload_n hx hb dX5_init_27 rfl (lv_at hl 0 rfl) ?_
  refine lv_bipush (v := 60) hx hb dX5_init_28 (by decide) ?_
  refine va_newa (D := (dC, dI)) (atype := .int) (ty := .int) (N' := 60) (a0 := (60, .inl (fun _ => 0))) hx hb (htb _ kw_122) rfl hK hP hD hS hA (fun _ => rfl) (by decide) (by decide) (by decide) (Nat.le_of_ble_eq_true rfl) (Nat.le_of_ble_eq_true rfl) dX5_init_30 (fun q_3 cA_4 H hK hP hD hS => ?_)
  have hP : va_P (dC, dI) vwCl [(h0, .inr (5, [.ref h1, .ref h2, .ref h3, .ref q_1, .null, .int 0, .null, .int 0, .null, .null, .null, .int 0, .int 0])), (q_1, .inl (cA_2, 60, .inl (fun _ => 0))), (q_3, .inl (cA_4, 60, .inl (fun _ => 0)))] H := hP
  have hD : va_D A [(h0, .inr (5, [.ref h1, .ref h2, .ref h3, .ref q_1, .null, .int 0, .null, .int 0, .null, .null, .null, .int 0, .int 0])), (q_1, .inl (cA_2, 60, .inl (fun _ => 0))), (q_3, .inl (cA_4, 60, .inl (fun _ => 0)))] := hD
  have hK : va_K (dC, dI) vwCl [(cA_2, .int), (cA_4, .int)] s := hK
  refine W.widen (k := 2) (n := 120) (Nat.le_of_ble_eq_true rfl) (Nat.le_of_ble_eq_true rfl) ?_
  refine va_putF (D := (dC, dI)) (ci := 5) (v := .ref q_3) (ty := .array .int) (C := RX5) (T := TX5) (N := 13) hx hb htb inX5 tyX5 tyX5_ok nmX5 hown hK hP hD hS 0 rfl rfl 4 (by decide) (htb _ kw_219) (fun _ h9 => h9) rfl hin rfl (tyX5_ok 4 (by decide)) rfl rfl (Nat.le_of_ble_eq_true rfl) dX5_init_32 (fun H locs hP hD hS => ?_)
  have hP : va_P (dC, dI) vwCl [(h0, .inr (5, [.ref h1, .ref h2, .ref h3, .ref q_1, .ref q_3, .int 0, .null, .int 0, .null, .null, .null, .int 0, .int 0])), (q_1, .inl (cA_2, 60, .inl (fun _ => 0))), (q_3, .inl (cA_4, 60, .inl (fun _ => 0)))] H := hP
  have hD : va_D A [(h0, .inr (5, [.ref h1, .ref h2, .ref h3, .ref q_1, .ref q_3, .int 0, .null, .int 0, .null, .null, .null, .int 0, .int 0])), (q_1, .inl (cA_2, 60, .inl (fun _ => 0))), (q_3, .inl (cA_4, 60, .inl (fun _ => 0)))] := hD
  refine lv_aload_n hx hb dX5_init_35 rfl (lv_at hl 0 rfl) ?_
  refine lv_bipush (v := 80) hx hb dX5_init_36 (by decide) ?_
  refine va_newq (D := (dC, dI)) (N' := 80) (C := RX1) hx hb hown (htb _ kw_220) hG.1.2.2.2 hK hP hD hS hA (by decide) (by decide) (by decide) (Nat.le_of_ble_eq_true rfl) (Nat.le_of_ble_eq_true rfl) dX5_init_38 (fun q_5 cA_6 H hK hP hD hS => ?_)
  have hP : va_P (dC, dI) vwCl [(h0, .inr (5, [.ref h1, .ref h2, .ref h3, .ref q_1, .ref q_3, .int 0, .null, .int 0, .null, .null, .null, .int 0, .int 0])), (q_1, .inl (cA_2, 60, .inl (fun _ => 0))), (q_3, .inl (cA_4, 60, .inl (fun _ => 0))), (q_5, .inl (cA_6, 80, .inr (.inr (.inr (.inr (fun _ => none))))))] H := hP
  have hD : va_D A [(h0, .inr (5, [.ref h1, .ref h2, .ref h3, .ref q_1, .ref q_3, .int 0, .null, .int 0, .null, .null, .null, .int 0, .int 0])), (q_1, .inl (cA_2, 60, .inl (fun _ => 0))), (q_3, .inl (cA_4, 60, .inl (fun _ => 0))), (q_5, .inl (cA_6, 80, .inr (.inr (.inr (.inr (fun _ => none))))))] := hD
  have hK : va_K (dC, dI) vwCl [(cA_2, .int), (cA_4, .int), (cA_6, .object RX1)] s := hK
  refine W.widen (k := 3) (n := 200) (Nat.le_of_ble_eq_true rfl) (Nat.le_of_ble_eq_true rfl) ?_
  refine va_putF (D := (dC, dI)) (ci := 5) (v := .ref q_5) (ty := .array (.object "WiredBeans$Bean")) (C := RX5) (T := TX5) (N := 13) hx hb htb inX5 tyX5 tyX5_ok nmX5 hown hK hP hD hS 0 rfl rfl 6 (by decide) (htb _ kw_221) (fun _ h9 => h9) rfl hin rfl (tyX5_ok 6 (by decide)) rfl rfl (Nat.le_of_ble_eq_true rfl) dX5_init_41 (fun H locs hP hD hS => ?_)
  have hP : va_P (dC, dI) vwCl [(h0, .inr (5, [.ref h1, .ref h2, .ref h3, .ref q_1, .ref q_3, .int 0, .ref q_5, .int 0, .null, .null, .null, .int 0, .int 0])), (q_1, .inl (cA_2, 60, .inl (fun _ => 0))), (q_3, .inl (cA_4, 60, .inl (fun _ => 0))), (q_5, .inl (cA_6, 80, .inr (.inr (.inr (.inr (fun _ => none))))))] H := hP
  have hD : va_D A [(h0, .inr (5, [.ref h1, .ref h2, .ref h3, .ref q_1, .ref q_3, .int 0, .ref q_5, .int 0, .null, .null, .null, .int 0, .int 0])), (q_1, .inl (cA_2, 60, .inl (fun _ => 0))), (q_3, .inl (cA_4, 60, .inl (fun _ => 0))), (q_5, .inl (cA_6, 80, .inr (.inr (.inr (.inr (fun _ => none))))))] := hD
  refine lv_aload_n hx hb dX5_init_44 rfl (lv_at hl 0 rfl) ?_
  refine lv_sipush (v := 960) hx hb dX5_init_45 (by decide) ?_
  refine va_newa (D := (dC, dI)) (atype := .int) (ty := .int) (N' := 960) (a0 := (960, .inl (fun _ => 0))) hx hb (htb _ kw_122) rfl hK hP hD hS hA (fun _ => rfl) (by decide) (by decide) (by decide) (Nat.le_of_ble_eq_true rfl) (Nat.le_of_ble_eq_true rfl) dX5_init_48 (fun q_7 cA_8 H hK hP hD hS => ?_)
  have hP : va_P (dC, dI) vwCl [(h0, .inr (5, [.ref h1, .ref h2, .ref h3, .ref q_1, .ref q_3, .int 0, .ref q_5, .int 0, .null, .null, .null, .int 0, .int 0])), (q_1, .inl (cA_2, 60, .inl (fun _ => 0))), (q_3, .inl (cA_4, 60, .inl (fun _ => 0))), (q_5, .inl (cA_6, 80, .inr (.inr (.inr (.inr (fun _ => none)))))), (q_7, .inl (cA_8, 960, .inl (fun _ => 0)))] H := hP
  have hD : va_D A [(h0, .inr (5, [.ref h1, .ref h2, .ref h3, .ref q_1, .ref q_3, .int 0, .ref q_5, .int 0, .null, .null, .null, .int 0, .int 0])), (q_1, .inl (cA_2, 60, .inl (fun _ => 0))), (q_3, .inl (cA_4, 60, .inl (fun _ => 0))), (q_5, .inl (cA_6, 80, .inr (.inr (.inr (.inr (fun _ => none)))))), (q_7, .inl (cA_8, 960, .inl (fun _ => 0)))] := hD
  have hK : va_K (dC, dI) vwCl [(cA_2, .int), (cA_4, .int), (cA_6, .object RX1), (cA_8, .int)] s := hK
  refine W.widen (k := 4) (n := 1160) (Nat.le_of_ble_eq_true rfl) (Nat.le_of_ble_eq_true rfl) ?_
  refine va_putF (D := (dC, dI)) (ci := 5) (v := .ref q_7) (ty := .array .int) (C := RX5) (T := TX5) (N := 13) hx hb htb inX5 tyX5 tyX5_ok nmX5 hown hK hP hD hS 0 rfl rfl 8 (by decide) (htb _ kw_222) (fun _ h9 => h9) rfl hin rfl (tyX5_ok 8 (by decide)) rfl rfl (Nat.le_of_ble_eq_true rfl) dX5_init_50 (fun H locs hP hD hS => ?_)
  have hP : va_P (dC, dI) vwCl [(h0, .inr (5, [.ref h1, .ref h2, .ref h3, .ref q_1, .ref q_3, .int 0, .ref q_5, .int 0, .ref q_7, .null, .null, .int 0, .int 0])), (q_1, .inl (cA_2, 60, .inl (fun _ => 0))), (q_3, .inl (cA_4, 60, .inl (fun _ => 0))), (q_5, .inl (cA_6, 80, .inr (.inr (.inr (.inr (fun _ => none)))))), (q_7, .inl (cA_8, 960, .inl (fun _ => 0)))] H := hP
  have hD : va_D A [(h0, .inr (5, [.ref h1, .ref h2, .ref h3, .ref q_1, .ref q_3, .int 0, .ref q_5, .int 0, .ref q_7, .null, .null, .int 0, .int 0])), (q_1, .inl (cA_2, 60, .inl (fun _ => 0))), (q_3, .inl (cA_4, 60, .inl (fun _ => 0))), (q_5, .inl (cA_6, 80, .inr (.inr (.inr (.inr (fun _ => none)))))), (q_7, .inl (cA_8, 960, .inl (fun _ => 0)))] := hD
  refine lv_aload_n hx hb dX5_init_53 rfl (lv_at hl 0 rfl) ?_
  refine lv_iconst (v := 3) hx hb dX5_init_54 (by decide) ?_
  refine va_newa (D := (dC, dI)) (atype := .int) (ty := .int) (N' := 3) (a0 := (3, .inl (fun _ => 0))) hx hb (htb _ kw_122) rfl hK hP hD hS hA (fun _ => rfl) (by decide) (by decide) (by decide) (Nat.le_of_ble_eq_true rfl) (Nat.le_of_ble_eq_true rfl) dX5_init_55 (fun q_9 cA_10 H hK hP hD hS => ?_)
  have hP : va_P (dC, dI) vwCl [(h0, .inr (5, [.ref h1, .ref h2, .ref h3, .ref q_1, .ref q_3, .int 0, .ref q_5, .int 0, .ref q_7, .null, .null, .int 0, .int 0])), (q_1, .inl (cA_2, 60, .inl (fun _ => 0))), (q_3, .inl (cA_4, 60, .inl (fun _ => 0))), (q_5, .inl (cA_6, 80, .inr (.inr (.inr (.inr (fun _ => none)))))), (q_7, .inl (cA_8, 960, .inl (fun _ => 0))), (q_9, .inl (cA_10, 3, .inl (fun _ => 0)))] H := hP
  have hD : va_D A [(h0, .inr (5, [.ref h1, .ref h2, .ref h3, .ref q_1, .ref q_3, .int 0, .ref q_5, .int 0, .ref q_7, .null, .null, .int 0, .int 0])), (q_1, .inl (cA_2, 60, .inl (fun _ => 0))), (q_3, .inl (cA_4, 60, .inl (fun _ => 0))), (q_5, .inl (cA_6, 80, .inr (.inr (.inr (.inr (fun _ => none)))))), (q_7, .inl (cA_8, 960, .inl (fun _ => 0))), (q_9, .inl (cA_10, 3, .inl (fun _ => 0)))] := hD
  have hK : va_K (dC, dI) vwCl [(cA_2, .int), (cA_4, .int), (cA_6, .object RX1), (cA_8, .int), (cA_10, .int)] s := hK
  refine W.widen (k := 5) (n := 1163) (Nat.le_of_ble_eq_true rfl) (Nat.le_of_ble_eq_true rfl) ?_
  refine va_putF (D := (dC, dI)) (ci := 5) (v := .ref q_9) (ty := .array .int) (C := RX5) (T := TX5) (N := 13) hx hb htb inX5 tyX5 tyX5_ok nmX5 hown hK hP hD hS 0 rfl rfl 9 (by decide) (htb _ kw_223) (fun _ h9 => h9) rfl hin rfl (tyX5_ok 9 (by decide)) rfl rfl (Nat.le_of_ble_eq_true rfl) dX5_init_57 (fun H locs hP hD hS => ?_)
  have hP : va_P (dC, dI) vwCl [(h0, .inr (5, [.ref h1, .ref h2, .ref h3, .ref q_1, .ref q_3, .int 0, .ref q_5, .int 0, .ref q_7, .ref q_9, .null, .int 0, .int 0])), (q_1, .inl (cA_2, 60, .inl (fun _ => 0))), (q_3, .inl (cA_4, 60, .inl (fun _ => 0))), (q_5, .inl (cA_6, 80, .inr (.inr (.inr (.inr (fun _ => none)))))), (q_7, .inl (cA_8, 960, .inl (fun _ => 0))), (q_9, .inl (cA_10, 3, .inl (fun _ => 0)))] H := hP
  have hD : va_D A [(h0, .inr (5, [.ref h1, .ref h2, .ref h3, .ref q_1, .ref q_3, .int 0, .ref q_5, .int 0, .ref q_7, .ref q_9, .null, .int 0, .int 0])), (q_1, .inl (cA_2, 60, .inl (fun _ => 0))), (q_3, .inl (cA_4, 60, .inl (fun _ => 0))), (q_5, .inl (cA_6, 80, .inr (.inr (.inr (.inr (fun _ => none)))))), (q_7, .inl (cA_8, 960, .inl (fun _ => 0))), (q_9, .inl (cA_10, 3, .inl (fun _ => 0)))] := hD
  refine lv_aload_n hx hb dX5_init_60 rfl (lv_at hl 0 rfl) ?_
  refine lv_iconst (v := (-1)) hx hb dX5_init_61 (by decide) ?_
  refine va_put (D := (dC, dI)) (ci := 5) (v := .int (-1)) (ty := .int) (C := RX5) (T := TX5) (N := 13) hx hb htb inX5 tyX5 tyX5_ok nmX5 hown hK hP hD hS 0 rfl rfl 12 (by decide) (htb _ kw_224) (fun _ h9 => h9) rfl (tyX5_ok 12 (by decide)) rfl rfl (Nat.le_of_ble_eq_true rfl) dX5_init_62 (fun H locs hP hD hS => ?_)
  have hP : va_P (dC, dI) vwCl [(h0, .inr (5, [.ref h1, .ref h2, .ref h3, .ref q_1, .ref q_3, .int 0, .ref q_5, .int 0, .ref q_7, .ref q_9, .null, .int 0, .int (-1)])), (q_1, .inl (cA_2, 60, .inl (fun _ => 0))), (q_3, .inl (cA_4, 60, .inl (fun _ => 0))), (q_5, .inl (cA_6, 80, .inr (.inr (.inr (.inr (fun _ => none)))))), (q_7, .inl (cA_8, 960, .inl (fun _ => 0))), (q_9, .inl (cA_10, 3, .inl (fun _ => 0)))] H := hP
  have hD : va_D A [(h0, .inr (5, [.ref h1, .ref h2, .ref h3, .ref q_1, .ref q_3, .int 0, .ref q_5, .int 0, .ref q_7, .ref q_9, .null, .int 0, .int (-1)])), (q_1, .inl (cA_2, 60, .inl (fun _ => 0))), (q_3, .inl (cA_4, 60, .inl (fun _ => 0))), (q_5, .inl (cA_6, 80, .inr (.inr (.inr (.inr (fun _ => none)))))), (q_7, .inl (cA_8, 960, .inl (fun _ => 0))), (q_9, .inl (cA_10, 3, .inl (fun _ => 0)))] := hD
  have hP9 := hP.sub (ws' := [(h0, .inr (5, [.ref h1, .ref h2, .ref h3, .ref q_1, .ref q_3, .int 0, .ref q_5, .int 0, .ref q_7, .ref q_9, .null, .int 0, .int (-1)]))]) [0] rfl
  have hD9 := hD.sub (ws' := [(h0, .inr (5, [.ref h1, .ref h2, .ref h3, .ref q_1, .ref q_3, .int 0, .ref q_5, .int 0, .ref q_7, .ref q_9, .null, .int 0, .int (-1)]))]) [0] (by decide) rfl
  have hK9 := hK.sub (tys' := []) [] rfl
  refine W.widen (k := 5) (n := 1163) (Nat.le_of_ble_eq_true rfl) (Nat.le_of_ble_eq_true rfl) ?_
  exact W.vret hx hb hr (fun t ht hW => ⟨⟨(), rfl, trivial, q_1, q_3, q_5, q_7, q_9, by rw [ht]; exact hP9, va_K.moved hW.alike hK9, hD9⟩, hS.F ht⟩) hS.2.2 dX5_init_65

set_option maxHeartbeats 4000000 in
set_option maxRecDepth 100000 in
/-- DeclaredClass(number) -/
theorem c_X2_init (l : Launch) (dC : Nat → ClassId) (dI : Nat → Nat → Nat) (sz : Nat) (h0 : Nat) (p0 : Int32) : Met l yX2_init wm_X2_init ({ frames := 2, cells := 19, slots := 114, locals := 42 }) (va_Pc [.ref h0, .int p0] (fun U => U.heap.size = sz ∧ va_P (dC, dI) vwCl [(h0, .inr (2, [.null, .null, .int 0, .int 0, .int 0, .null, .int 0, .null]))] U.heap ∧ va_K (dC, dI) vwCl [] U ∧ va_D (fun _ => True) [(h0, .inr (2, [.null, .null, .int 0, .int 0, .int 0, .null, .int 0, .null]))] ∧ GE (va_A [(h0, .inr (2, [.null, .null, .int 0, .int 0, .int 0, .null, .int 0, .null]))] sz) U)) (va_Qv (fun _ : Unit => True) (fun _ t => ∃ (q1 : Nat), ∃ (q2 : Nat), ∃ (q3 : Nat), ∃ (q4 : Nat), ∃ (q5 : Nat), ∃ (q6 : Nat), ∃ (q7 : Nat), ∃ (cB1 : ClassId), ∃ (cB2 : ClassId), ∃ (cB3 : ClassId), ∃ (cB5 : ClassId), ∃ (cB7 : ClassId), ∃ (g1 : Nat → Option Nat), ∃ (g2 : Nat → Option Nat), ∃ (g3 : Nat → Int32), g1 0 = some q4 ∧ g2 0 = some q6 ∧ (∀ j, j < 26 → g3 j = -1) ∧ va_P (dC, dI) vwCl [(h0, .inr (2, [.ref q1, .ref q2, .int 0, .int 0, .int p0, .ref q3, .int 0, .null])), (q1, .inl (cB1, 4, .inr (.inr (.inr (.inr g1))))), (q2, .inl (cB2, 4, .inr (.inr (.inr (.inr g2))))), (q3, .inl (cB3, 26, .inl g3)), (q4, .inr (8, [.int p0, .int 0, .ref q5, .int 0, .int 0, .int 0, .int 0])), (q5, .inl (cB5, 3, .inl (fun _ => 0))), (q6, .inr (8, [.int p0, .int 0, .ref q7, .int 0, .int 0, .int 0, .int 0])), (q7, .inl (cB7, 3, .inl (fun _ => 0)))] t.heap ∧ va_K (dC, dI) vwCl [(cB1, .object RX8), (cB2, .object RX8), (cB3, .int), (cB5, .int), (cB7, .int)] t ∧ va_D (va_A [(h0, .inr (2, [.null, .null, .int 0, .int 0, .int 0, .null, .int 0, .null]))] sz) [(h0, .inr (2, [.ref q1, .ref q2, .int 0, .int 0, .int p0, .ref q3, .int 0, .null])), (q1, .inl (cB1, 4, .inr (.inr (.inr (.inr g1))))), (q2, .inl (cB2, 4, .inr (.inr (.inr (.inr g2))))), (q3, .inl (cB3, 26, .inl g3)), (q4, .inr (8, [.int p0, .int 0, .ref q5, .int 0, .int 0, .int 0, .int 0])), (q5, .inl (cB5, 3, .inl (fun _ => 0))), (q6, .inr (8, [.int p0, .int 0, .ref q7, .int 0, .int 0, .int 0, .int 0])), (q7, .inl (cB7, 3, .inl (fun _ => 0)))]) (va_A [(h0, .inr (2, [.null, .null, .int 0, .int 0, .int 0, .null, .int 0, .null]))] sz)) 19 114 (va_A [(h0, .inr (2, [.null, .null, .int 0, .int 0, .int 0, .null, .int 0, .null]))] sz) := by
  refine Met.ofW (cc := cX2_init) (maxL := 3) (ret := none) (by decide) rfl ?_
  intro p e s m args below meth c s₁ B hml hv
  obtain ⟨rfl, hsz, hP, hK, hD0, hG⟩ := hv
  have hx := B.exec
  have hb := B.bytes
  have hr := B.returns
  have hts := atoms_spec (ws := wm_X2_init) B.pre
  have htb := fun (w : Cond) (h : w ∈ tb) => hts w (List.mem_cons_of_mem _ h)
  have hown : s.vm.findClass RX2 = some m.cls := findClass_of_methodNamed B.named
  have hlocks := B.notSynchronized
  have hin : meth.name = "<init>" := (name_of_methodNamed B.named B.method).1
  subst hsz
  have hD := hD0.self (sz := s.heap.size)
  generalize hAe : va_A [(h0, .inr (2, [.null, .null, .int 0, .int 0, .int 0, .null, .int 0, .null]))] s.heap.size = A at hD hG ⊢
  have hA : ∀ q : Nat, s.heap.size ≤ q → A q := fun q h => by rw [← hAe]; exact Or.inr h
  have hS : va_S A s.heap s.heap [] := va_S.rf
  have hP : va_P (dC, dI) vwCl [(h0, .inr (2, [.null, .null, .int 0, .int 0, .int 0, .null, .int 0, .null]))] s.heap := hP
  have hl := lv_entry ([.ref h0, .int p0]) (n := 3) (Nat.le_of_ble_eq_true rfl)
  rw [lg_entry_eq]
  generalize (lg_sl ([.ref h0, .int p0]) ++ List.replicate (3 - (lg_sl ([.ref h0, .int p0])).length) Slot.unset).toArray = ls at hl ⊢
  have hl : lv_has ls 3 [(0, .ref h0), (1, .int p0)] := hl
  refine lv_aload_n hx hb dX2_init_0 rfl (lv_at hl 0 rfl) ?_
  refine W.objInit hx hb hown (htb _ kw_128) (htb _ kw_1) (htb _ kw_528) rfl (by rw [hml]; exact hl.1) rfl dX2_init_1 (Nat.le_of_ble_eq_true rfl) (Nat.le_of_ble_eq_true rfl) ?_
  refine W.eq (g2 := F0 m 4 ls []) rfl ?_
  refine lv_aload_n hx hb dX2_init_4 rfl (lv_at hl 0 rfl) ?_
  refine lv_iload_n hx hb dX2_init_5 rfl (lv_at hl 1 rfl) ?_
  refine va_putF (D := (dC, dI)) (ci := 2) (v := .int p0) (ty := .int) (C := RX2) (T := TX2) (N := 8) hx hb htb inX2 tyX2 tyX2_ok nmX2 hown hK hP hD hS 0 rfl rfl 4 (by decide) (htb _ kw_129) (fun _ h9 => h9) rfl hin rfl (tyX2_ok 4 (by decide)) rfl rfl (Nat.le_of_ble_eq_true rfl) dX2_init_6 (fun H locs hP hD hS => ?_)
  have hP : va_P (dC, dI) vwCl [(h0, .inr (2, [.null, .null, .int 0, .int 0, .int p0, .null, .int 0, .null]))] H := hP
  have hD : va_D A [(h0, .inr (2, [.null, .null, .int 0, .int 0, .int p0, .null, .int 0, .null]))] := hD
  refine lv_aload_n hx hb dX2_init_9 rfl (lv_at hl 0 rfl) ?_
  refine lv_iconst (v := 4) hx hb dX2_init_10 (by decide) ?_
  refine va_newq (D := (dC, dI)) (N' := 4) (C := RX8) hx hb hown (htb _ kw_130) hG.1.2.1 hK hP hD hS hA (by decide) (by decide) (by decide) (Nat.le_of_ble_eq_true rfl) (Nat.le_of_ble_eq_true rfl) dX2_init_11 (fun q_1 cA_2 H hK hP hD hS => ?_)
  have hP : va_P (dC, dI) vwCl [(h0, .inr (2, [.null, .null, .int 0, .int 0, .int p0, .null, .int 0, .null])), (q_1, .inl (cA_2, 4, .inr (.inr (.inr (.inr (fun _ => none))))))] H := hP
  have hD : va_D A [(h0, .inr (2, [.null, .null, .int 0, .int 0, .int p0, .null, .int 0, .null])), (q_1, .inl (cA_2, 4, .inr (.inr (.inr (.inr (fun _ => none))))))] := hD
  have hK : va_K (dC, dI) vwCl [(cA_2, .object RX8)] s := hK
  refine W.widen (k := 1) (n := 4) (Nat.le_of_ble_eq_true rfl) (Nat.le_of_ble_eq_true rfl) ?_
  refine va_putF (D := (dC, dI)) (ci := 2) (v := .ref q_1) (ty := .array (.object "WiredBeans$Signature")) (C := RX2) (T := TX2) (N := 8) hx hb htb inX2 tyX2 tyX2_ok nmX2 hown hK hP hD hS 0 rfl rfl 0 (by decide) (htb _ kw_131) (fun _ h9 => h9) rfl hin rfl (tyX2_ok 0 (by decide)) rfl rfl (Nat.le_of_ble_eq_true rfl) dX2_init_14 (fun H locs hP hD hS => ?_)
  have hP : va_P (dC, dI) vwCl [(h0, .inr (2, [.ref q_1, .null, .int 0, .int 0, .int p0, .null, .int 0, .null])), (q_1, .inl (cA_2, 4, .inr (.inr (.inr (.inr (fun _ => none))))))] H := hP
  have hD : va_D A [(h0, .inr (2, [.ref q_1, .null, .int 0, .int 0, .int p0, .null, .int 0, .null])), (q_1, .inl (cA_2, 4, .inr (.inr (.inr (.inr (fun _ => none))))))] := hD
  refine lv_aload_n hx hb dX2_init_17 rfl (lv_at hl 0 rfl) ?_
  refine lv_iconst (v := 4) hx hb dX2_init_18 (by decide) ?_
  refine va_newq (D := (dC, dI)) (N' := 4) (C := RX8) hx hb hown (htb _ kw_130) hG.1.2.1 hK hP hD hS hA (by decide) (by decide) (by decide) (Nat.le_of_ble_eq_true rfl) (Nat.le_of_ble_eq_true rfl) dX2_init_19 (fun q_3 cA_4 H hK hP hD hS => ?_)
  have hP : va_P (dC, dI) vwCl [(h0, .inr (2, [.ref q_1, .null, .int 0, .int 0, .int p0, .null, .int 0, .null])), (q_1, .inl (cA_2, 4, .inr (.inr (.inr (.inr (fun _ => none)))))), (q_3, .inl (cA_4, 4, .inr (.inr (.inr (.inr (fun _ => none))))))] H := hP
  have hD : va_D A [(h0, .inr (2, [.ref q_1, .null, .int 0, .int 0, .int p0, .null, .int 0, .null])), (q_1, .inl (cA_2, 4, .inr (.inr (.inr (.inr (fun _ => none)))))), (q_3, .inl (cA_4, 4, .inr (.inr (.inr (.inr (fun _ => none))))))] := hD
  have hK : va_K (dC, dI) vwCl [(cA_2, .object RX8), (cA_4, .object RX8)] s := hK
  refine W.widen (k := 2) (n := 8) (Nat.le_of_ble_eq_true rfl) (Nat.le_of_ble_eq_true rfl) ?_
  refine va_putF (D := (dC, dI)) (ci := 2) (v := .ref q_3) (ty := .array (.object "WiredBeans$Signature")) (C := RX2) (T := TX2) (N := 8) hx hb htb inX2 tyX2 tyX2_ok nmX2 hown hK hP hD hS 0 rfl rfl 1 (by decide) (htb _ kw_132) (fun _ h9 => h9) rfl hin rfl (tyX2_ok 1 (by decide)) rfl rfl (Nat.le_of_ble_eq_true rfl) dX2_init_22 (fun H locs hP hD hS => ?_)
  have hP : va_P (dC, dI) vwCl [(h0, .inr (2, [.ref q_1, .ref q_3, .int 0, .int 0, .int p0, .null, .int 0, .null])), (q_1, .inl (cA_2, 4, .inr (.inr (.inr (.inr (fun _ => none)))))), (q_3, .inl (cA_4, 4, .inr (.inr (.inr (.inr (fun _ => none))))))] H := hP
  have hD : va_D A [(h0, .inr (2, [.ref q_1, .ref q_3, .int 0, .int 0, .int p0, .null, .int 0, .null])), (q_1, .inl (cA_2, 4, .inr (.inr (.inr (.inr (fun _ => none)))))), (q_3, .inl (cA_4, 4, .inr (.inr (.inr (.inr (fun _ => none))))))] := hD
  refine lv_iconst (v := 0) hx hb dX2_init_25 (by decide) ?_
  refine lv_istore_n (lv' := [(2, .int 0), (0, .ref h0), (1, .int p0)]) hx hb dX2_init_26 rfl hl (by decide) rfl (fun ls hl => ?_)
  refine lv_iload_n hx hb dX2_init_27 rfl (lv_at hl 0 rfl) ?_
  refine lv_iconst (v := 4) hx hb dX2_init_28 (by decide) ?_
  refine lv_icmp_ge (tgt := 68) hx hb dX2_init_29 (by decide) (fun c_5 => absurd c_5 (by decide)) (fun _ => ?_)
  refine lv_aload_n hx hb dX2_init_32 rfl (lv_at hl 1 rfl) ?_
  refine va_get (D := (dC, dI)) (ci := 2) (v := .ref q_1) (C := RX2) (T := TX2) (N := 8) hx hb htb inX2 hown hK hP 0 rfl rfl 0 (by decide) (htb _ kw_131) (fun _ h9 => h9) rfl dX2_init_33 ?_
  refine lv_iload_n hx hb dX2_init_36 rfl (lv_at hl 0 rfl) ?_
  refine va_new (ci := 8) (fs := nvX8) (C := RX8) (T := TX8) (N := 7) hx hb htb inX8 tyX8 tyX8_ok hown (htb _ kw_130) (htb _ kw_134) (htb _ kw_133) hK hP hD hS hA rfl nwX8 (Nat.le_of_ble_eq_true rfl) (Nat.le_of_ble_eq_true rfl) dX2_init_37 (fun q_6 H hP hD hS => ?_)
  have hP : va_P (dC, dI) vwCl [(h0, .inr (2, [.ref q_1, .ref q_3, .int 0, .int 0, .int p0, .null, .int 0, .null])), (q_1, .inl (cA_2, 4, .inr (.inr (.inr (.inr (fun _ => none)))))), (q_3, .inl (cA_4, 4, .inr (.inr (.inr (.inr (fun _ => none)))))), (q_6, .inr (8, [.int 0, .int 0, .null, .int 0, .int 0, .int 0, .int 0]))] H := hP
  have hD : va_D A [(h0, .inr (2, [.ref q_1, .ref q_3, .int 0, .int 0, .int p0, .null, .int 0, .null])), (q_1, .inl (cA_2, 4, .inr (.inr (.inr (.inr (fun _ => none)))))), (q_3, .inl (cA_4, 4, .inr (.inr (.inr (.inr (fun _ => none)))))), (q_6, .inr (8, [.int 0, .int 0, .null, .int 0, .int 0, .int 0, .int 0]))] := hD
  refine W.widen (k := 3) (n := 15) (Nat.le_of_ble_eq_true rfl) (Nat.le_of_ble_eq_true rfl) ?_
  refine lv_dup hx hb dX2_init_40 rfl ?_
  refine lv_iload_n hx hb dX2_init_41 rfl (lv_at hl 2 rfl) ?_
  refine lv_iload_n hx hb dX2_init_42 rfl (lv_at hl 0 rfl) ?_
  have hPc := hP.sub (ws' := [(q_6, .inr (8, [.int 0, .int 0, .null, .int 0, .int 0, .int 0, .int 0]))]) [3] rfl
  have hDc := hD.sub (ws' := [(q_6, .inr (8, [.int 0, .int 0, .null, .int 0, .int 0, .int 0, .int 0]))]) [3] (by decide) rfl
  have hKc := hK.sub (tys' := []) [] rfl
  have hFc := va_free (wc := [(q_6, .inr (8, [.int 0, .int 0, .null, .int 0, .int 0, .int 0, .int 0]))]) hD hS hA [3] rfl
  refine va_callv (va_runI (As := [.int p0, .int 0]) (rest := [.ref q_6, .int 0, .ref q_1]) ⟨hx, hb, hml, hown, htb⟩ (c_X8_init l dC dI H.size q_6 p0 0) (cwI 2 htb (gd_c kw_557) rfl rfl rfl (htb _ kw_133) (htb _ kw_135) (htb _ kw_136) rfl (by decide +kernel) ⟨Nat.le_of_ble_eq_true rfl, Nat.le_of_ble_eq_true rfl⟩) ⟨fun a U g mk q => by obtain ⟨q0, q1, qP, qK, qD⟩ := q; exact ⟨q0, q1, qP, va_K.moved (u := U) (U := U.calling g mk a) (Vm.Alike.refl U.vm) qK, qD⟩, fun U hU hW => ⟨rfl, by rw [hU], by rw [hU]; exact hPc, va_K.moved hW.alike hKc, hDc.weaken (fun _ _ _ _ => trivial)⟩⟩ rfl rfl hl.1 rfl (lv_room (Nat.le_of_ble_eq_true rfl)) dX2_init_43 ⟨(Nat.le_of_ble_eq_true rfl), (Nat.le_of_ble_eq_true rfl)⟩) hS (fun q _ h => hFc q h) hFc (fun u t H1 locs ht hvm hw hB hz1 hk1 hS => ?_)
  obtain ⟨q1_7, cA1_8, hP1, hK1, hD1⟩ := hB
  rw [ht] at hP1
  have hK1 := va_K.moved hvm.symm hK1
  obtain ⟨hP, hD⟩ := va_join (wr := [(h0, .inr (2, [.ref q_1, .ref q_3, .int 0, .int 0, .int p0, .null, .int 0, .null])), (q_1, .inl (cA_2, 4, .inr (.inr (.inr (.inr (fun _ => none)))))), (q_3, .inl (cA_4, 4, .inr (.inr (.inr (.inr (fun _ => none))))))]) (w1 := [(q_6, .inr (8, [.int p0, .int 0, .ref q1_7, .int 0, .int 0, .int 0, .int 0])), (q1_7, .inl (cA1_8, 3, .inl (fun _ => 0)))]) hP hD [3] [0, 1, 2] rfl rfl (by decide) (by decide) hk1 hFc hP1 hD1
  have hK := hK.app hK1
  generalize H1 = H at hP hS ⊢
  have hP : va_P (dC, dI) vwCl [(h0, .inr (2, [.ref q_1, .ref q_3, .int 0, .int 0, .int p0, .null, .int 0, .null])), (q_1, .inl (cA_2, 4, .inr (.inr (.inr (.inr (fun _ => none)))))), (q_3, .inl (cA_4, 4, .inr (.inr (.inr (.inr (fun _ => none)))))), (q_6, .inr (8, [.int p0, .int 0, .ref q1_7, .int 0, .int 0, .int 0, .int 0])), (q1_7, .inl (cA1_8, 3, .inl (fun _ => 0)))] H := hP
  have hD : va_D A [(h0, .inr (2, [.ref q_1, .ref q_3, .int 0, .int 0, .int p0, .null, .int 0, .null])), (q_1, .inl (cA_2, 4, .inr (.inr (.inr (.inr (fun _ => none)))))), (q_3, .inl (cA_4, 4, .inr (.inr (.inr (.inr (fun _ => none)))))), (q_6, .inr (8, [.int p0, .int 0, .ref q1_7, .int 0, .int 0, .int 0, .int 0])), (q1_7, .inl (cA1_8, 3, .inl (fun _ => 0)))] := hD
  have hK : va_K (dC, dI) vwCl [(cA_2, .object RX8), (cA_4, .object RX8), (cA1_8, .int)] s := hK
  refine W.widen (k := 4) (n := 18) (Nat.le_of_ble_eq_true rfl) (Nat.le_of_ble_eq_true rfl) ?_
  refine va_astq (D := (dC, dI)) (r := (RX8, TX8, 7)) hx hb hK hP hD hS 1 0 3 8 rfl rfl rfl rfl (by unfold vp_in; decide) dX2_init_46 (fun H locs hP hD hS => ?_)
  have hP : va_P (dC, dI) vwCl [(h0, .inr (2, [.ref q_1, .ref q_3, .int 0, .int 0, .int p0, .null, .int 0, .null])), (q_1, .inl (cA_2, 4, .inr (.inr (.inr (.inr (va_up (fun _ => none) (0 : Int32).toNatClampNeg (some q_6))))))), (q_3, .inl (cA_4, 4, .inr (.inr (.inr (.inr (fun _ => none)))))), (q_6, .inr (8, [.int p0, .int 0, .ref q1_7, .int 0, .int 0, .int 0, .int 0])), (q1_7, .inl (cA1_8, 3, .inl (fun _ => 0)))] H := hP
  have hD : va_D A [(h0, .inr (2, [.ref q_1, .ref q_3, .int 0, .int 0, .int p0, .null, .int 0, .null])), (q_1, .inl (cA_2, 4, .inr (.inr (.inr (.inr (va_up (fun _ => none) (0 : Int32).toNatClampNeg (some q_6))))))), (q_3, .inl (cA_4, 4, .inr (.inr (.inr (.inr (fun _ => none)))))), (q_6, .inr (8, [.int p0, .int 0, .ref q1_7, .int 0, .int 0, .int 0, .int 0])), (q1_7, .inl (cA1_8, 3, .inl (fun _ => 0)))] := hD
  refine lv_aload_n hx hb dX2_init_47 rfl (lv_at hl 1 rfl) ?_
  refine va_get (D := (dC, dI)) (ci := 2) (v := .ref q_3) (C := RX2) (T := TX2) (N := 8) hx hb htb inX2 hown hK hP 0 rfl rfl 1 (by decide) (htb _ kw_132) (fun _ h9 => h9) rfl dX2_init_48 ?_
  refine lv_iload_n hx hb dX2_init_51 rfl (lv_at hl 0 rfl) ?_
  refine va_new (ci := 8) (fs := nvX8) (C := RX8) (T := TX8) (N := 7) hx hb htb inX8 tyX8 tyX8_ok hown (htb _ kw_130) (htb _ kw_134) (htb _ kw_133) hK hP hD hS hA rfl nwX8 (Nat.le_of_ble_eq_true rfl) (Nat.le_of_ble_eq_true rfl) dX2_init_52 (fun q_9 H hP hD hS => ?_)
  have hP : va_P (dC, dI) vwCl [(h0, .inr (2, [.ref q_1, .ref q_3, .int 0, .int 0, .int p0, .null, .int 0, .null])), (q_1, .inl (cA_2, 4, .inr (.inr (.inr (.inr (va_up (fun _ => none) (0 : Int32).toNatClampNeg (some q_6))))))), (q_3, .inl (cA_4, 4, .inr (.inr (.inr (.inr (fun _ => none)))))), (q_6, .inr (8, [.int p0, .int 0, .ref q1_7, .int 0, .int 0, .int 0, .int 0])), (q1_7, .inl (cA1_8, 3, .inl (fun _ => 0))), (q_9, .inr (8, [.int 0, .int 0, .null, .int 0, .int 0, .int 0, .int 0]))] H := hP
  have hD : va_D A [(h0, .inr (2, [.ref q_1, .ref q_3, .int 0, .int 0, .int p0, .null, .int 0, .null])), (q_1, .inl (cA_2, 4, .inr (.inr (.inr (.inr (va_up (fun _ => none) (0 : Int32).toNatClampNeg (some q_6))))))), (q_3, .inl (cA_4, 4, .inr (.inr (.inr (.inr (fun _ => none)))))), (q_6, .inr (8, [.int p0, .int 0, .ref q1_7, .int 0, .int 0, .int 0, .int 0])), (q1_7, .inl (cA1_8, 3, .inl (fun _ => 0))), (q_9, .inr (8, [.int 0, .int 0, .null, .int 0, .int 0, .int 0, .int 0]))] := hD
  refine W.widen (k := 5) (n := 25) (Nat.le_of_ble_eq_true rfl) (Nat.le_of_ble_eq_true rfl) ?_
  refine lv_dup hx hb dX2_init_55 rfl ?_
  refine lv_iload_n hx hb dX2_init_56 rfl (lv_at hl 2 rfl) ?_
  refine lv_iload_n hx hb dX2_init_57 rfl (lv_at hl 0 rfl) ?_
  have hPc := hP.sub (ws' := [(q_9, .inr (8, [.int 0, .int 0, .null, .int 0, .int 0, .int 0, .int 0]))]) [5] rfl
  have hDc := hD.sub (ws' := [(q_9, .inr (8, [.int 0, .int 0, .null, .int 0, .int 0, .int 0, .int 0]))]) [5] (by decide) rfl
  have hKc := hK.sub (tys' := []) [] rfl
  have hFc := va_free (wc := [(q_9, .inr (8, [.int 0, .int 0, .null, .int 0, .int 0, .int 0, .int 0]))]) hD hS hA [5] rfl
  refine va_callv (va_runI (As := [.int p0, .int 0]) (rest := [.ref q_9, .int 0, .ref q_3]) ⟨hx, hb, hml, hown, htb⟩ (c_X8_init l dC dI H.size q_9 p0 0) (cwI 2 htb (gd_c kw_557) rfl rfl rfl (htb _ kw_133) (htb _ kw_135) (htb _ kw_136) rfl (by decide +kernel) ⟨Nat.le_of_ble_eq_true rfl, Nat.le_of_ble_eq_true rfl⟩) ⟨fun a U g mk q => by obtain ⟨q0, q1, qP, qK, qD⟩ := q; exact ⟨q0, q1, qP, va_K.moved (u := U) (U := U.calling g mk a) (Vm.Alike.refl U.vm) qK, qD⟩, fun U hU hW => ⟨rfl, by rw [hU], by rw [hU]; exact hPc, va_K.moved hW.alike hKc, hDc.weaken (fun _ _ _ _ => trivial)⟩⟩ rfl rfl hl.1 rfl (lv_room (Nat.le_of_ble_eq_true rfl)) dX2_init_58 ⟨(Nat.le_of_ble_eq_true rfl), (Nat.le_of_ble_eq_true rfl)⟩) hS (fun q _ h => hFc q h) hFc (fun u t H1 locs ht hvm hw hB hz1 hk1 hS => ?_)
  obtain ⟨q1_10, cA1_11, hP1, hK1, hD1⟩ := hB
  rw [ht] at hP1
  have hK1 := va_K.moved hvm.symm hK1
  obtain ⟨hP, hD⟩ := va_join (wr := [(h0, .inr (2, [.ref q_1, .ref q_3, .int 0, .int 0, .int p0, .null, .int 0, .null])), (q_1, .inl (cA_2, 4, .inr (.inr (.inr (.inr (va_up (fun _ => none) (0 : Int32).toNatClampNeg (some q_6))))))), (q_3, .inl (cA_4, 4, .inr (.inr (.inr (.inr (fun _ => none)))))), (q_6, .inr (8, [.int p0, .int 0, .ref q1_7, .int 0, .int 0, .int 0, .int 0])), (q1_7, .inl (cA1_8, 3, .inl (fun _ => 0)))]) (w1 := [(q_9, .inr (8, [.int p0, .int 0, .ref q1_10, .int 0, .int 0, .int 0, .int 0])), (q1_10, .inl (cA1_11, 3, .inl (fun _ => 0)))]) hP hD [5] [0, 1, 2, 3, 4] rfl rfl (by decide) (by decide) hk1 hFc hP1 hD1
  have hK := hK.app hK1
  generalize H1 = H at hP hS ⊢
  have hP : va_P (dC, dI) vwCl [(h0, .inr (2, [.ref q_1, .ref q_3, .int 0, .int 0, .int p0, .null, .int 0, .null])), (q_1, .inl (cA_2, 4, .inr (.inr (.inr (.inr (va_up (fun _ => none) (0 : Int32).toNatClampNeg (some q_6))))))), (q_3, .inl (cA_4, 4, .inr (.inr (.inr (.inr (fun _ => none)))))), (q_6, .inr (8, [.int p0, .int 0, .ref q1_7, .int 0, .int 0, .int 0, .int 0])), (q1_7, .inl (cA1_8, 3, .inl (fun _ => 0))), (q_9, .inr (8, [.int p0, .int 0, .ref q1_10, .int 0, .int 0, .int 0, .int 0])), (q1_10, .inl (cA1_11, 3, .inl (fun _ => 0)))] H := hP
  have hD : va_D A [(h0, .inr (2, [.ref q_1, .ref q_3, .int 0, .int 0, .int p0, .null, .int 0, .null])), (q_1, .inl (cA_2, 4, .inr (.inr (.inr (.inr (va_up (fun _ => none) (0 : Int32).toNatClampNeg (some q_6))))))), (q_3, .inl (cA_4, 4, .inr (.inr (.inr (.inr (fun _ => none)))))), (q_6, .inr (8, [.int p0, .int 0, .ref q1_7, .int 0, .int 0, .int 0, .int 0])), (q1_7, .inl (cA1_8, 3, .inl (fun _ => 0))), (q_9, .inr (8, [.int p0, .int 0, .ref q1_10, .int 0, .int 0, .int 0, .int 0])), (q1_10, .inl (cA1_11, 3, .inl (fun _ => 0)))] := hD
  have hK : va_K (dC, dI) vwCl [(cA_2, .object RX8), (cA_4, .object RX8), (cA1_8, .int), (cA1_11, .int)] s := hK
  refine W.widen (k := 6) (n := 28) (Nat.le_of_ble_eq_true rfl) (Nat.le_of_ble_eq_true rfl) ?_
  refine va_astq (D := (dC, dI)) (r := (RX8, TX8, 7)) hx hb hK hP hD hS 2 1 5 8 rfl rfl rfl rfl (by unfold vp_in; decide) dX2_init_61 (fun H locs hP hD hS => ?_)
  have hP : va_P (dC, dI) vwCl [(h0, .inr (2, [.ref q_1, .ref q_3, .int 0, .int 0, .int p0, .null, .int 0, .null])), (q_1, .inl (cA_2, 4, .inr (.inr (.inr (.inr (va_up (fun _ => none) (0 : Int32).toNatClampNeg (some q_6))))))), (q_3, .inl (cA_4, 4, .inr (.inr (.inr (.inr (va_up (fun _ => none) (0 : Int32).toNatClampNeg (some q_9))))))), (q_6, .inr (8, [.int p0, .int 0, .ref q1_7, .int 0, .int 0, .int 0, .int 0])), (q1_7, .inl (cA1_8, 3, .inl (fun _ => 0))), (q_9, .inr (8, [.int p0, .int 0, .ref q1_10, .int 0, .int 0, .int 0, .int 0])), (q1_10, .inl (cA1_11, 3, .inl (fun _ => 0)))] H := hP
  have hD : va_D A [(h0, .inr (2, [.ref q_1, .ref q_3, .int 0, .int 0, .int p0, .null, .int 0, .null])), (q_1, .inl (cA_2, 4, .inr (.inr (.inr (.inr (va_up (fun _ => none) (0 : Int32).toNatClampNeg (some q_6))))))), (q_3, .inl (cA_4, 4, .inr (.inr (.inr (.inr (va_up (fun _ => none) (0 : Int32).toNatClampNeg (some q_9))))))), (q_6, .inr (8, [.int p0, .int 0, .ref q1_7, .int 0, .int 0, .int 0, .int 0])), (q1_7, .inl (cA1_8, 3, .inl (fun _ => 0))), (q_9, .inr (8, [.int p0, .int 0, .ref q1_10, .int 0, .int 0, .int 0, .int 0])), (q1_10, .inl (cA1_11, 3, .inl (fun _ => 0)))] := hD
  refine lv_iinc (v := 1) (lv' := [(2, .int 1), (0, .ref h0), (1, .int p0)]) hx hb dX2_init_62 hl (k := 0) rfl (by decide) (by decide) rfl (fun ls hl => ?_)
  refine lv_goto (tgt := 27) hx hb dX2_init_65 (by decide) ?_
  refine lv_iload_n hx hb dX2_init_27 rfl (lv_at hl 0 rfl) ?_
  refine lv_iconst (v := 4) hx hb dX2_init_28 (by decide) ?_
  refine lv_icmp_ge (tgt := 68) hx hb dX2_init_29 (by decide) (fun c_12 => absurd c_12 (by decide)) (fun _ => ?_)
  refine lv_aload_n hx hb dX2_init_32 rfl (lv_at hl 1 rfl) ?_
  refine va_get (D := (dC, dI)) (ci := 2) (v := .ref q_1) (C := RX2) (T := TX2) (N := 8) hx hb htb inX2 hown hK hP 0 rfl rfl 0 (by decide) (htb _ kw_131) (fun _ h9 => h9) rfl dX2_init_33 ?_
  refine lv_iload_n hx hb dX2_init_36 rfl (lv_at hl 0 rfl) ?_
  refine va_new (ci := 8) (fs := nvX8) (C := RX8) (T := TX8) (N := 7) hx hb htb inX8 tyX8 tyX8_ok hown (htb _ kw_130) (htb _ kw_134) (htb _ kw_133) hK hP hD hS hA rfl nwX8 (Nat.le_of_ble_eq_true rfl) (Nat.le_of_ble_eq_true rfl) dX2_init_37 (fun q_13 H hP hD hS => ?_)
  have hP : va_P (dC, dI) vwCl [(h0, .inr (2, [.ref q_1, .ref q_3, .int 0, .int 0, .int p0, .null, .int 0, .null])), (q_1, .inl (cA_2, 4, .inr (.inr (.inr (.inr (va_up (fun _ => none) (0 : Int32).toNatClampNeg (some q_6))))))), (q_3, .inl (cA_4, 4, .inr (.inr (.inr (.inr (va_up (fun _ => none) (0 : Int32).toNatClampNeg (some q_9))))))), (q_6, .inr (8, [.int p0, .int 0, .ref q1_7, .int 0, .int 0, .int 0, .int 0])), (q1_7, .inl (cA1_8, 3, .inl (fun _ => 0))), (q_9, .inr (8, [.int p0, .int 0, .ref q1_10, .int 0, .int 0, .int 0, .int 0])), (q1_10, .inl (cA1_11, 3, .inl (fun _ => 0))), (q_13, .inr (8, [.int 0, .int 0, .null, .int 0, .int 0, .int 0, .int 0]))] H := hP
  have hD : va_D A [(h0, .inr (2, [.ref q_1, .ref q_3, .int 0, .int 0, .int p0, .null, .int 0, .null])), (q_1, .inl (cA_2, 4, .inr (.inr (.inr (.inr (va_up (fun _ => none) (0 : Int32).toNatClampNeg (some q_6))))))), (q_3, .inl (cA_4, 4, .inr (.inr (.inr (.inr (va_up (fun _ => none) (0 : Int32).toNatClampNeg (some q_9))))))), (q_6, .inr (8, [.int p0, .int 0, .ref q1_7, .int 0, .int 0, .int 0, .int 0])), (q1_7, .inl (cA1_8, 3, .inl (fun _ => 0))), (q_9, .inr (8, [.int p0, .int 0, .ref q1_10, .int 0, .int 0, .int 0, .int 0])), (q1_10, .inl (cA1_11, 3, .inl (fun _ => 0))), (q_13, .inr (8, [.int 0, .int 0, .null, .int 0, .int 0, .int 0, .int 0]))] := hD
  refine W.widen (k := 7) (n := 35) (Nat.le_of_ble_eq_true rfl) (Nat.le_of_ble_eq_true rfl) ?_
  refine lv_dup hx hb dX2_init_40 rfl ?_
  refine lv_iload_n hx hb dX2_init_41 rfl (lv_at hl 2 rfl) ?_
  refine lv_iload_n hx hb dX2_init_42 rfl (lv_at hl 0 rfl) ?_
  have hPc := hP.sub (ws' := [(q_13, .inr (8, [.int 0, .int 0, .null, .int 0, .int 0, .int 0, .int 0]))]) [7] rfl
  have hDc := hD.sub (ws' := [(q_13, .inr (8, [.int 0, .int 0, .null, .int 0, .int 0, .int 0, .int 0]))]) [7] (by decide) rfl
  have hKc := hK.sub (tys' := []) [] rfl
  have hFc := va_free (wc := [(q_13, .inr (8, [.int 0, .int 0, .null, .int 0, .int 0, .int 0, .int 0]))]) hD hS hA [7] rfl
  refine va_callv (va_runI (As := [.int p0, .int 1]) (rest := [.ref q_13, .int 1, .ref q_1]) ⟨hx, hb, hml, hown, htb⟩ (c_X8_init l dC dI H.size q_13 p0 1) (cwI 2 htb (gd_c kw_557) rfl rfl rfl (htb _ kw_133) (htb _ kw_135) (htb _ kw_136) rfl (by decide +kernel) ⟨Nat.le_of_ble_eq_true rfl, Nat.le_of_ble_eq_true rfl⟩) ⟨fun a U g mk q => by obtain ⟨q0, q1, qP, qK, qD⟩ := q; exact ⟨q0, q1, qP, va_K.moved (u := U) (U := U.calling g mk a) (Vm.Alike.refl U.vm) qK, qD⟩, fun U hU hW => ⟨rfl, by rw [hU], by rw [hU]; exact hPc, va_K.moved hW.alike hKc, hDc.weaken (fun _ _ _ _ => trivial)⟩⟩ rfl rfl hl.1 rfl (lv_room (Nat.le_of_ble_eq_true rfl)) dX2_init_43 ⟨(Nat.le_of_ble_eq_true rfl), (Nat.le_of_ble_eq_true rfl)⟩) hS (fun q _ h => hFc q h) hFc (fun u t H1 locs ht hvm hw hB hz1 hk1 hS => ?_)
  obtain ⟨q1_14, cA1_15, hP1, hK1, hD1⟩ := hB
  rw [ht] at hP1
  have hK1 := va_K.moved hvm.symm hK1
  obtain ⟨hP, hD⟩ := va_join (wr := [(h0, .inr (2, [.ref q_1, .ref q_3, .int 0, .int 0, .int p0, .null, .int 0, .null])), (q_1, .inl (cA_2, 4, .inr (.inr (.inr (.inr (va_up (fun _ => none) (0 : Int32).toNatClampNeg (some q_6))))))), (q_3, .inl (cA_4, 4, .inr (.inr (.inr (.inr (va_up (fun _ => none) (0 : Int32).toNatClampNeg (some q_9))))))), (q_6, .inr (8, [.int p0, .int 0, .ref q1_7, .int 0, .int 0, .int 0, .int 0])), (q1_7, .inl (cA1_8, 3, .inl (fun _ => 0))), (q_9, .inr (8, [.int p0, .int 0, .ref q1_10, .int 0, .int 0, .int 0, .int 0])), (q1_10, .inl (cA1_11, 3, .inl (fun _ => 0)))]) (w1 := [(q_13, .inr (8, [.int p0, .int 1, .ref q1_14, .int 0, .int 0, .int 0, .int 0])), (q1_14, .inl (cA1_15, 3, .inl (fun _ => 0)))]) hP hD [7] [0, 1, 2, 3, 4, 5, 6] rfl rfl (by decide) (by decide) hk1 hFc hP1 hD1
  have hK := hK.app hK1
  generalize H1 = H at hP hS ⊢
  have hP : va_P (dC, dI) vwCl [(h0, .inr (2, [.ref q_1, .ref q_3, .int 0, .int 0, .int p0, .null, .int 0, .null])), (q_1, .inl (cA_2, 4, .inr (.inr (.inr (.inr (va_up (fun _ => none) (0 : Int32).toNatClampNeg (some q_6))))))), (q_3, .inl (cA_4, 4, .inr (.inr (.inr (.inr (va_up (fun _ => none) (0 : Int32).toNatClampNeg (some q_9))))))), (q_6, .inr (8, [.int p0, .int 0, .ref q1_7, .int 0, .int 0, .int 0, .int 0])), (q1_7, .inl (cA1_8, 3, .inl (fun _ => 0))), (q_9, .inr (8, [.int p0, .int 0, .ref q1_10, .int 0, .int 0, .int 0, .int 0])), (q1_10, .inl (cA1_11, 3, .inl (fun _ => 0))), (q_13, .inr (8, [.int p0, .int 1, .ref q1_14, .int 0, .int 0, .int 0, .int 0])), (q1_14, .inl (cA1_15, 3, .inl (fun _ => 0)))] H := hP
  have hD : va_D A [(h0, .inr (2, [.ref q_1, .ref q_3, .int 0, .int 0, .int p0, .null, .int 0, .null])), (q_1, .inl (cA_2, 4, .inr (.inr (.inr (.inr (va_up (fun _ => none) (0 : Int32).toNatClampNeg (some q_6))))))), (q_3, .inl (cA_4, 4, .inr (.inr (.inr (.inr (va_up (fun _ => none) (0 : Int32).toNatClampNeg (some q_9))))))), (q_6, .inr (8, [.int p0, .int 0, .ref q1_7, .int 0, .int 0, .int 0, .int 0])), (q1_7, .inl (cA1_8, 3, .inl (fun _ => 0))), (q_9, .inr (8, [.int p0, .int 0, .ref q1_10, .int 0, .int 0, .int 0, .int 0])), (q1_10, .inl (cA1_11, 3, .inl (fun _ => 0))), (q_13, .inr (8, [.int p0, .int 1, .ref q1_14, .int 0, .int 0, .int 0, .int 0])), (q1_14, .inl (cA1_15, 3, .inl (fun _ => 0)))] := hD
  have hK : va_K (dC, dI) vwCl [(cA_2, .object RX8), (cA_4, .object RX8), (cA1_8, .int), (cA1_11, .int), (cA1_15, .int)] s := hK
  refine W.widen (k := 8) (n := 38) (Nat.le_of_ble_eq_true rfl) (Nat.le_of_ble_eq_true rfl) ?_
  refine va_astq (D := (dC, dI)) (r := (RX8, TX8, 7)) hx hb hK hP hD hS 1 0 7 8 rfl rfl rfl rfl (by unfold vp_in; decide) dX2_init_46 (fun H locs hP hD hS => ?_)
  have hP : va_P (dC, dI) vwCl [(h0, .inr (2, [.ref q_1, .ref q_3, .int 0, .int 0, .int p0, .null, .int 0, .null])), (q_1, .inl (cA_2, 4, .inr (.inr (.inr (.inr (va_up (va_up (fun _ => none) (0 : Int32).toNatClampNeg (some q_6)) (1 : Int32).toNatClampNeg (some q_13))))))), (q_3, .inl (cA_4, 4, .inr (.inr (.inr (.inr (va_up (fun _ => none) (0 : Int32).toNatClampNeg (some q_9))))))), (q_6, .inr (8, [.int p0, .int 0, .ref q1_7, .int 0, .int 0, .int 0, .int 0])), (q1_7, .inl (cA1_8, 3, .inl (fun _ => 0))), (q_9, .inr (8, [.int p0, .int 0, .ref q1_10, .int 0, .int 0, .int 0, .int 0])), (q1_10, .inl (cA1_11, 3, .inl (fun _ => 0))), (q_13, .inr (8, [.int p0, .int 1, .ref q1_14, .int 0, .int 0, .int 0, .int 0])), (q1_14, .inl (cA1_15, 3, .inl (fun _ => 0)))] H := hP
  have hD : va_D A [(h0, .inr (2, [.ref q_1, .ref q_3, .int 0, .int 0, .int p0, .null, .int 0, .null])), (q_1, .inl (cA_2, 4, .inr (.inr (.inr (.inr (va_up (va_up (fun _ => none) (0 : Int32).toNatClampNeg (some q_6)) (1 : Int32).toNatClampNeg (some q_13))))))), (q_3, .inl (cA_4, 4, .inr (.inr (.inr (.inr (va_up (fun _ => none) (0 : Int32).toNatClampNeg (some q_9))))))), (q_6, .inr (8, [.int p0, .int 0, .ref q1_7, .int 0, .int 0, .int 0, .int 0])), (q1_7, .inl (cA1_8, 3, .inl (fun _ => 0))), (q_9, .inr (8, [.int p0, .int 0, .ref q1_10, .int 0, .int 0, .int 0, .int 0])), (q1_10, .inl (cA1_11, 3, .inl (fun _ => 0))), (q_13, .inr (8, [.int p0, .int 1, .ref q1_14, .int 0, .int 0, .int 0, .int 0])), (q1_14, .inl (cA1_15, 3, .inl (fun _ => 0)))] := hD
  refine lv_aload_n hx hb dX2_init_47 rfl (lv_at hl 1 rfl) ?_
  refine va_get (D := (dC, dI)) (ci := 2) (v := .ref q_3) (C := RX2) (T := TX2) (N := 8) hx hb htb inX2 hown hK hP 0 rfl rfl 1 (by decide) (htb _ kw_132) (fun _ h9 => h9) rfl dX2_init_48 ?_
  refine lv_iload_n hx hb dX2_init_51 rfl (lv_at hl 0 rfl) ?_
  refine va_new (ci := 8) (fs := nvX8) (C := RX8) (T := TX8) (N := 7) hx hb htb inX8 tyX8 tyX8_ok hown (htb _ kw_130) (htb _ kw_134) (htb _ kw_133) hK hP hD hS hA rfl nwX8 (Nat.le_of_ble_eq_true rfl) (Nat.le_of_ble_eq_true rfl) dX2_init_52 (fun q_16 H hP hD hS => ?_)
  have hP : va_P (dC, dI) vwCl [(h0, .inr (2, [.ref q_1, .ref q_3, .int 0, .int 0, .int p0, .null, .int 0, .null])), (q_1, .inl (cA_2, 4, .inr (.inr (.inr (.inr (va_up (va_up (fun _ => none) (0 : Int32).toNatClampNeg (some q_6)) (1 : Int32).toNatClampNeg (some q_13))))))), (q_3, .inl (cA_4, 4, .inr (.inr (.inr (.inr (va_up (fun _ => none) (0 : Int32).toNatClampNeg (some q_9))))))), (q_6, .inr (8, [.int p0, .int 0, .ref q1_7, .int 0, .int 0, .int 0, .int 0])), (q1_7, .inl (cA1_8, 3, .inl (fun _ => 0))), (q_9, .inr (8, [.int p0, .int 0, .ref q1_10, .int 0, .int 0, .int 0, .int 0])), (q1_10, .inl (cA1_11, 3, .inl (fun _ => 0))), (q_13, .inr (8, [.int p0, .int 1, .ref q1_14, .int 0, .int 0, .int 0, .int 0])), (q1_14, .inl (cA1_15, 3, .inl (fun _ => 0))), (q_16, .inr (8, [.int 0, .int 0, .null, .int 0, .int 0, .int 0, .int 0]))] H := hP
  have hD : va_D A [(h0, .inr (2, [.ref q_1, .ref q_3, .int 0, .int 0, .int p0, .null, .int 0, .null])), (q_1, .inl (cA_2, 4, .inr (.inr (.inr (.inr (va_up (va_up (fun _ => none) (0 : Int32).toNatClampNeg (some q_6)) (1 : Int32).toNatClampNeg (some q_13))))))), (q_3, .inl (cA_4, 4, .inr (.inr (.inr (.inr (va_up (fun _ => none) (0 : Int32).toNatClampNeg (some q_9))))))), (q_6, .inr (8, [.int p0, .int 0, .ref q1_7, .int 0, .int 0, .int 0, .int 0])), (q1_7, .inl (cA1_8, 3, .inl (fun _ => 0))), (q_9, .inr (8, [.int p0, .int 0, .ref q1_10, .int 0, .int 0, .int 0, .int 0])), (q1_10, .inl (cA1_11, 3, .inl (fun _ => 0))), (q_13, .inr (8, [.int p0, .int 1, .ref q1_14, .int 0, .int 0, .int 0, .int 0])), (q1_14, .inl (cA1_15, 3, .inl (fun _ => 0))), (q_16, .inr (8, [.int 0, .int 0, .null, .int 0, .int 0, .int 0, .int 0]))] := hD
  refine W.widen (k := 9) (n := 45) (Nat.le_of_ble_eq_true rfl) (Nat.le_of_ble_eq_true rfl) ?_
  refine lv_dup hx hb dX2_init_55 rfl ?_
  refine lv_iload_n hx hb dX2_init_56 rfl (lv_at hl 2 rfl) ?_
  refine lv_iload_n hx hb dX2_init_57 rfl (lv_at hl 0 rfl) ?_
  have hPc := hP.sub (ws' := [(q_16, .inr (8, [.int 0, .int 0, .null, .int 0, .int 0, .int 0, .int 0]))]) [9] rfl
  have hDc := hD.sub (ws' := [(q_16, .inr (8, [.int 0, .int 0, .null, .int 0, .int 0, .int 0, .int 0]))]) [9] (by decide) rfl
  have hKc := hK.sub (tys' := []) [] rfl
  have hFc := va_free (wc := [(q_16, .inr (8, [.int 0, .int 0, .null, .int 0, .int 0, .int 0, .int 0]))]) hD hS hA [9] rfl
  refine va_callv (va_runI (As := [.int p0, .int 1]) (rest := [.ref q_16, .int 1, .ref q_3]) ⟨hx, hb, hml, hown, htb⟩ (c_X8_init l dC dI H.size q_16 p0 1) (cwI 2 htb (gd_c kw_557) rfl rfl rfl (htb _ kw_133) (htb _ kw_135) (htb _ kw_136) rfl (by decide +kernel) ⟨Nat.le_of_ble_eq_true rfl, Nat.le_of_ble_eq_true rfl⟩) ⟨fun a U g mk q => by obtain ⟨q0, q1, qP, qK, qD⟩ := q; exact ⟨q0, q1, qP, va_K.moved (u := U) (U := U.calling g mk a) (Vm.Alike.refl U.vm) qK, qD⟩, fun U hU hW => ⟨rfl, by rw [hU], by rw [hU]; exact hPc, va_K.moved hW.alike hKc, hDc.weaken (fun _ _ _ _ => trivial)⟩⟩ rfl rfl hl.1 rfl (lv_room (Nat.le_of_ble_eq_true rfl)) dX2_init_58 ⟨(Nat.le_of_ble_eq_true rfl), (Nat.le_of_ble_eq_true rfl)⟩) hS (fun q _ h => hFc q h) hFc (fun u t H1 locs ht hvm hw hB hz1 hk1 hS => ?_)
  obtain ⟨q1_17, cA1_18, hP1, hK1, hD1⟩ := hB
  rw [ht] at hP1
  have hK1 := va_K.moved hvm.symm hK1
  obtain ⟨hP, hD⟩ := va_join (wr := [(h0, .inr (2, [.ref q_1, .ref q_3, .int 0, .int 0, .int p0, .null, .int 0, .null])), (q_1, .inl (cA_2, 4, .inr (.inr (.inr (.inr (va_up (va_up (fun _ => none) (0 : Int32).toNatClampNeg (some q_6)) (1 : Int32).toNatClampNeg (some q_13))))))), (q_3, .inl (cA_4, 4, .inr (.inr (.inr (.inr (va_up (fun _ => none) (0 : Int32).toNatClampNeg (some q_9))))))), (q_6, .inr (8, [.int p0, .int 0, .ref q1_7, .int 0, .int 0, .int 0, .int 0])), (q1_7, .inl (cA1_8, 3, .inl (fun _ => 0))), (q_9, .inr (8, [.int p0, .int 0, .ref q1_10, .int 0, .int 0, .int 0, .int 0])), (q1_10, .inl (cA1_11, 3, .inl (fun _ => 0))), (q_13, .inr (8, [.int p0, .int 1, .ref q1_14, .int 0, .int 0, .int 0, .int 0])), (q1_14, .inl (cA1_15, 3, .inl (fun _ => 0)))]) (w1 := [(q_16, .inr (8, [.int p0, .int 1, .ref q1_17, .int 0, .int 0, .int 0, .int 0])), (q1_17, .inl (cA1_18, 3, .inl (fun _ => 0)))]) hP hD [9] [0, 1, 2, 3, 4, 5, 6, 7, 8] rfl rfl (by decide) (by decide) hk1 hFc hP1 hD1
  have hK := hK.app hK1
  generalize H1 = H at hP hS ⊢
  have hP : va_P (dC, dI) vwCl [(h0, .inr (2, [.ref q_1, .ref q_3, .int 0, .int 0, .int p0, .null, .int 0, .null])), (q_1, .inl (cA_2, 4, .inr (.inr (.inr (.inr (va_up (va_up (fun _ => none) (0 : Int32).toNatClampNeg (some q_6)) (1 : Int32).toNatClampNeg (some q_13))))))), (q_3, .inl (cA_4, 4, .inr (.inr (.inr (.inr (va_up (fun _ => none) (0 : Int32).toNatClampNeg (some q_9))))))), (q_6, .inr (8, [.int p0, .int 0, .ref q1_7, .int 0, .int 0, .int 0, .int 0])), (q1_7, .inl (cA1_8, 3, .inl (fun _ => 0))), (q_9, .inr (8, [.int p0, .int 0, .ref q1_10, .int 0, .int 0, .int 0, .int 0])), (q1_10, .inl (cA1_11, 3, .inl (fun _ => 0))), (q_13, .inr (8, [.int p0, .int 1, .ref q1_14, .int 0, .int 0, .int 0, .int 0])), (q1_14, .inl (cA1_15, 3, .inl (fun _ => 0))), (q_16, .inr (8, [.int p0, .int 1, .ref q1_17, .int 0, .int 0, .int 0, .int 0])), (q1_17, .inl (cA1_18, 3, .inl (fun _ => 0)))] H := hP
  have hD : va_D A [(h0, .inr (2, [.ref q_1, .ref q_3, .int 0, .int 0, .int p0, .null, .int 0, .null])), (q_1, .inl (cA_2, 4, .inr (.inr (.inr (.inr (va_up (va_up (fun _ => none) (0 : Int32).toNatClampNeg (some q_6)) (1 : Int32).toNatClampNeg (some q_13))))))), (q_3, .inl (cA_4, 4, .inr (.inr (.inr (.inr (va_up (fun _ => none) (0 : Int32).toNatClampNeg (some q_9))))))), (q_6, .inr (8, [.int p0, .int 0, .ref q1_7, .int 0, .int 0, .int 0, .int 0])), (q1_7, .inl (cA1_8, 3, .inl (fun _ => 0))), (q_9, .inr (8, [.int p0, .int 0, .ref q1_10, .int 0, .int 0, .int 0, .int 0])), (q1_10, .inl (cA1_11, 3, .inl (fun _ => 0))), (q_13, .inr (8, [.int p0, .int 1, .ref q1_14, .int 0, .int 0, .int 0, .int 0])), (q1_14, .inl (cA1_15, 3, .inl (fun _ => 0))), (q_16, .inr (8, [.int p0, .int 1, .ref q1_17, .int 0, .int 0, .int 0, .int 0])), (q1_17, .inl (cA1_18, 3, .inl (fun _ => 0)))] := hD
  have hK : va_K (dC, dI) vwCl [(cA_2, .object RX8), (cA_4, .object RX8), (cA1_8, .int), (cA1_11, .int), (cA1_15, .int), (cA1_18, .int)] s := hK
  refine W.widen (k := 10) (n := 48) (Nat.le_of_ble_eq_true rfl) (Nat.le_of_ble_eq_true rfl) ?_
  refine va_astq (D := (dC, dI)) (r := (RX8, TX8, 7)) hx hb hK hP hD hS 2 1 9 8 rfl rfl rfl rfl (by unfold vp_in; decide) dX2_init_61 (fun H locs hP hD hS => ?_)
  have hP : va_P (dC, dI) vwCl [(h0, .inr (2, [.ref q_1, .ref q_3, .int 0, .int 0, .int p0, .null, .int 0, .null])), (q_1, .inl (cA_2, 4, .inr (.inr (.inr (.inr (va_up (va_up (fun _ => none) (0 : Int32).toNatClampNeg (some q_6)) (1 : Int32).toNatClampNeg (some q_13))))))), (q_3, .inl (cA_4, 4, .inr (.inr (.inr (.inr (va_up (va_up (fun _ => none) (0 : Int32).toNatClampNeg (some q_9)) (1 : Int32).toNatClampNeg (some q_16))))))), (q_6, .inr (8, [.int p0, .int 0, .ref q1_7, .int 0, .int 0, .int 0, .int 0])), (q1_7, .inl (cA1_8, 3, .inl (fun _ => 0))), (q_9, .inr (8, [.int p0, .int 0, .ref q1_10, .int 0, .int 0, .int 0, .int 0])), (q1_10, .inl (cA1_11, 3, .inl (fun _ => 0))), (q_13, .inr (8, [.int p0, .int 1, .ref q1_14, .int 0, .int 0, .int 0, .int 0])), (q1_14, .inl (cA1_15, 3, .inl (fun _ => 0))), (q_16, .inr (8, [.int p0, .int 1, .ref q1_17, .int 0, .int 0, .int 0, .int 0])), (q1_17, .inl (cA1_18, 3, .inl (fun _ => 0)))] H := hP
  have hD : va_D A [(h0, .inr (2, [.ref q_1, .ref q_3, .int 0, .int 0, .int p0, .null, .int 0, .null])), (q_1, .inl (cA_2, 4, .inr (.inr (.inr (.inr (va_up (va_up (fun _ => none) (0 : Int32).toNatClampNeg (some q_6)) (1 : Int32).toNatClampNeg (some q_13))))))), (q_3, .inl (cA_4, 4, .inr (.inr (.inr (.inr (va_up (va_up (fun _ => none) (0 : Int32).toNatClampNeg (some q_9)) (1 : Int32).toNatClampNeg (some q_16))))))), (q_6, .inr (8, [.int p0, .int 0, .ref q1_7, .int 0, .int 0, .int 0, .int 0])), (q1_7, .inl (cA1_8, 3, .inl (fun _ => 0))), (q_9, .inr (8, [.int p0, .int 0, .ref q1_10, .int 0, .int 0, .int 0, .int 0])), (q1_10, .inl (cA1_11, 3, .inl (fun _ => 0))), (q_13, .inr (8, [.int p0, .int 1, .ref q1_14, .int 0, .int 0, .int 0, .int 0])), (q1_14, .inl (cA1_15, 3, .inl (fun _ => 0))), (q_16, .inr (8, [.int p0, .int 1, .ref q1_17, .int 0, .int 0, .int 0, .int 0])), (q1_17, .inl (cA1_18, 3, .inl (fun _ => 0)))] := hD
  refine lv_iinc (v := 2) (lv' := [(2, .int 2), (0, .ref h0), (1, .int p0)]) hx hb dX2_init_62 hl (k := 0) rfl (by decide) (by decide) rfl (fun ls hl => ?_)
  refine lv_goto (tgt := 27) hx hb dX2_init_65 (by decide) ?_
  have hP := hP.sub (ws' := [(h0, .inr (2, [.ref q_1, .ref q_3, .int 0, .int 0, .int p0, .null, .int 0, .null])), (q_1, .inl (cA_2, 4, .inr (.inr (.inr (.inr (va_up (va_up (fun _ => none) (0 : Int32).toNatClampNeg (some q_6)) (1 : Int32).toNatClampNeg (some q_13))))))), (q_3, .inl (cA_4, 4, .inr (.inr (.inr (.inr (va_up (va_up (fun _ => none) (0 : Int32).toNatClampNeg (some q_9)) (1 : Int32).toNatClampNeg (some q_16))))))), (q_6, .inr (8, [.int p0, .int 0, .ref q1_7, .int 0, .int 0, .int 0, .int 0])), (q1_7, .inl (cA1_8, 3, .inl (fun _ => 0))), (q_9, .inr (8, [.int p0, .int 0, .ref q1_10, .int 0, .int 0, .int 0, .int 0])), (q1_10, .inl (cA1_11, 3, .inl (fun _ => 0)))]) [0, 1, 2, 3, 4, 5, 6] rfl
  have hD := hD.sub (ws' := [(h0, .inr (2, [.ref q_1, .ref q_3, .int 0, .int 0, .int p0, .null, .int 0, .null])), (q_1, .inl (cA_2, 4, .inr (.inr (.inr (.inr (va_up (va_up (fun _ => none) (0 : Int32).toNatClampNeg (some q_6)) (1 : Int32).toNatClampNeg (some q_13))))))), (q_3, .inl (cA_4, 4, .inr (.inr (.inr (.inr (va_up (va_up (fun _ => none) (0 : Int32).toNatClampNeg (some q_9)) (1 : Int32).toNatClampNeg (some q_16))))))), (q_6, .inr (8, [.int p0, .int 0, .ref q1_7, .int 0, .int 0, .int 0, .int 0])), (q1_7, .inl (cA1_8, 3, .inl (fun _ => 0))), (q_9, .inr (8, [.int p0, .int 0, .ref q1_10, .int 0, .int 0, .int 0, .int 0])), (q1_10, .inl (cA1_11, 3, .inl (fun _ => 0)))]) [0, 1, 2, 3, 4, 5, 6] (by decide) rfl
  have hK := hK.sub (tys' := [(cA_2, .object RX8), (cA_4, .object RX8), (cA1_8, .int), (cA1_11, .int)]) [0, 1, 2, 3] rfl
  refine lv_iload_n hx hb dX2_init_27 rfl (lv_at hl 0 rfl) ?_
  refine lv_iconst (v := 4) hx hb dX2_init_28 (by decide) ?_
  refine lv_icmp_ge (tgt := 68) hx hb dX2_init_29 (by decide) (fun c_19 => absurd c_19 (by decide)) (fun _ => ?_)
  refine lv_aload_n hx hb dX2_init_32 rfl (lv_at hl 1 rfl) ?_
  refine va_get (D := (dC, dI)) (ci := 2) (v := .ref q_1) (C := RX2) (T := TX2) (N := 8) hx hb htb inX2 hown hK hP 0 rfl rfl 0 (by decide) (htb _ kw_131) (fun _ h9 => h9) rfl dX2_init_33 ?_
  refine lv_iload_n hx hb dX2_init_36 rfl (lv_at hl 0 rfl) ?_
  refine va_new (ci := 8) (fs := nvX8) (C := RX8) (T := TX8) (N := 7) hx hb htb inX8 tyX8 tyX8_ok hown (htb _ kw_130) (htb _ kw_134) (htb _ kw_133) hK hP hD hS hA rfl nwX8 (Nat.le_of_ble_eq_true rfl) (Nat.le_of_ble_eq_true rfl) dX2_init_37 (fun q_20 H hP hD hS => ?_)
  have hP : va_P (dC, dI) vwCl [(h0, .inr (2, [.ref q_1, .ref q_3, .int 0, .int 0, .int p0, .null, .int 0, .null])), (q_1, .inl (cA_2, 4, .inr (.inr (.inr (.inr (va_up (va_up (fun _ => none) (0 : Int32).toNatClampNeg (some q_6)) (1 : Int32).toNatClampNeg (some q_13))))))), (q_3, .inl (cA_4, 4, .inr (.inr (.inr (.inr (va_up (va_up (fun _ => none) (0 : Int32).toNatClampNeg (some q_9)) (1 : Int32).toNatClampNeg (some q_16))))))), (q_6, .inr (8, [.int p0, .int 0, .ref q1_7, .int 0, .int 0, .int 0, .int 0])), (q1_7, .inl (cA1_8, 3, .inl (fun _ => 0))), (q_9, .inr (8, [.int p0, .int 0, .ref q1_10, .int 0, .int 0, .int 0, .int 0])), (q1_10, .inl (cA1_11, 3, .inl (fun _ => 0))), (q_20, .inr (8, [.int 0, .int 0, .null, .int 0, .int 0, .int 0, .int 0]))] H := hP
  have hD : va_D A [(h0, .inr (2, [.ref q_1, .ref q_3, .int 0, .int 0, .int p0, .null, .int 0, .null])), (q_1, .inl (cA_2, 4, .inr (.inr (.inr (.inr (va_up (va_up (fun _ => none) (0 : Int32).toNatClampNeg (some q_6)) (1 : Int32).toNatClampNeg (some q_13))))))), (q_3, .inl (cA_4, 4, .inr (.inr (.inr (.inr (va_up (va_up (fun _ => none) (0 : Int32).toNatClampNeg (some q_9)) (1 : Int32).toNatClampNeg (some q_16))))))), (q_6, .inr (8, [.int p0, .int 0, .ref q1_7, .int 0, .int 0, .int 0, .int 0])), (q1_7, .inl (cA1_8, 3, .inl (fun _ => 0))), (q_9, .inr (8, [.int p0, .int 0, .ref q1_10, .int 0, .int 0, .int 0, .int 0])), (q1_10, .inl (cA1_11, 3, .inl (fun _ => 0))), (q_20, .inr (8, [.int 0, .int 0, .null, .int 0, .int 0, .int 0, .int 0]))] := hD
  refine W.widen (k := 11) (n := 55) (Nat.le_of_ble_eq_true rfl) (Nat.le_of_ble_eq_true rfl) ?_
  refine lv_dup hx hb dX2_init_40 rfl ?_
  refine lv_iload_n hx hb dX2_init_41 rfl (lv_at hl 2 rfl) ?_
  refine lv_iload_n hx hb dX2_init_42 rfl (lv_at hl 0 rfl) ?_
  have hPc := hP.sub (ws' := [(q_20, .inr (8, [.int 0, .int 0, .null, .int 0, .int 0, .int 0, .int 0]))]) [7] rfl
  have hDc := hD.sub (ws' := [(q_20, .inr (8, [.int 0, .int 0, .null, .int 0, .int 0, .int 0, .int 0]))]) [7] (by decide) rfl
  have hKc := hK.sub (tys' := []) [] rfl
  have hFc := va_free (wc := [(q_20, .inr (8, [.int 0, .int 0, .null, .int 0, .int 0, .int 0, .int 0]))]) hD hS hA [7] rfl
  refine va_callv (va_runI (As := [.int p0, .int 2]) (rest := [.ref q_20, .int 2, .ref q_1]) ⟨hx, hb, hml, hown, htb⟩ (c_X8_init l dC dI H.size q_20 p0 2) (cwI 2 htb (gd_c kw_557) rfl rfl rfl (htb _ kw_133) (htb _ kw_135) (htb _ kw_136) rfl (by decide +kernel) ⟨Nat.le_of_ble_eq_true rfl, Nat.le_of_ble_eq_true rfl⟩) ⟨fun a U g mk q => by obtain ⟨q0, q1, qP, qK, qD⟩ := q; exact ⟨q0, q1, qP, va_K.moved (u := U) (U := U.calling g mk a) (Vm.Alike.refl U.vm) qK, qD⟩, fun U hU hW => ⟨rfl, by rw [hU], by rw [hU]; exact hPc, va_K.moved hW.alike hKc, hDc.weaken (fun _ _ _ _ => trivial)⟩⟩ rfl rfl hl.1 rfl (lv_room (Nat.le_of_ble_eq_true rfl)) dX2_init_43 ⟨(Nat.le_of_ble_eq_true rfl), (Nat.le_of_ble_eq_true rfl)⟩) hS (fun q _ h => hFc q h) hFc (fun u t H1 locs ht hvm hw hB hz1 hk1 hS => ?_)
  obtain ⟨q1_21, cA1_22, hP1, hK1, hD1⟩ := hB
  rw [ht] at hP1
  have hK1 := va_K.moved hvm.symm hK1
  obtain ⟨hP, hD⟩ := va_join (wr := [(h0, .inr (2, [.ref q_1, .ref q_3, .int 0, .int 0, .int p0, .null, .int 0, .null])), (q_1, .inl (cA_2, 4, .inr (.inr (.inr (.inr (va_up (va_up (fun _ => none) (0 : Int32).toNatClampNeg (some q_6)) (1 : Int32).toNatClampNeg (some q_13))))))), (q_3, .inl (cA_4, 4, .inr (.inr (.inr (.inr (va_up (va_up (fun _ => none) (0 : Int32).toNatClampNeg (some q_9)) (1 : Int32).toNatClampNeg (some q_16))))))), (q_6, .inr (8, [.int p0, .int 0, .ref q1_7, .int 0, .int 0, .int 0, .int 0])), (q1_7, .inl (cA1_8, 3, .inl (fun _ => 0))), (q_9, .inr (8, [.int p0, .int 0, .ref q1_10, .int 0, .int 0, .int 0, .int 0])), (q1_10, .inl (cA1_11, 3, .inl (fun _ => 0)))]) (w1 := [(q_20, .inr (8, [.int p0, .int 2, .ref q1_21, .int 0, .int 0, .int 0, .int 0])), (q1_21, .inl (cA1_22, 3, .inl (fun _ => 0)))]) hP hD [7] [0, 1, 2, 3, 4, 5, 6] rfl rfl (by decide) (by decide) hk1 hFc hP1 hD1
  have hK := hK.app hK1
  generalize H1 = H at hP hS ⊢
  have hP : va_P (dC, dI) vwCl [(h0, .inr (2, [.ref q_1, .ref q_3, .int 0, .int 0, .int p0, .null, .int 0, .null])), (q_1, .inl (cA_2, 4, .inr (.inr (.inr (.inr (va_up (va_up (fun _ => none) (0 : Int32).toNatClampNeg (some q_6)) (1 : Int32).toNatClampNeg (some q_13))))))), (q_3, .inl (cA_4, 4, .inr (.inr (.inr (.inr (va_up (va_up (fun _ => none) (0 : Int32).toNatClampNeg (some q_9)) (1 : Int32).toNatClampNeg (some q_16))))))), (q_6, .inr (8, [.int p0, .int 0, .ref q1_7, .int 0, .int 0, .int 0, .int 0])), (q1_7, .inl (cA1_8, 3, .inl (fun _ => 0))), (q_9, .inr (8, [.int p0, .int 0, .ref q1_10, .int 0, .int 0, .int 0, .int 0])), (q1_10, .inl (cA1_11, 3, .inl (fun _ => 0))), (q_20, .inr (8, [.int p0, .int 2, .ref q1_21, .int 0, .int 0, .int 0, .int 0])), (q1_21, .inl (cA1_22, 3, .inl (fun _ => 0)))] H := hP
  have hD : va_D A [(h0, .inr (2, [.ref q_1, .ref q_3, .int 0, .int 0, .int p0, .null, .int 0, .null])), (q_1, .inl (cA_2, 4, .inr (.inr (.inr (.inr (va_up (va_up (fun _ => none) (0 : Int32).toNatClampNeg (some q_6)) (1 : Int32).toNatClampNeg (some q_13))))))), (q_3, .inl (cA_4, 4, .inr (.inr (.inr (.inr (va_up (va_up (fun _ => none) (0 : Int32).toNatClampNeg (some q_9)) (1 : Int32).toNatClampNeg (some q_16))))))), (q_6, .inr (8, [.int p0, .int 0, .ref q1_7, .int 0, .int 0, .int 0, .int 0])), (q1_7, .inl (cA1_8, 3, .inl (fun _ => 0))), (q_9, .inr (8, [.int p0, .int 0, .ref q1_10, .int 0, .int 0, .int 0, .int 0])), (q1_10, .inl (cA1_11, 3, .inl (fun _ => 0))), (q_20, .inr (8, [.int p0, .int 2, .ref q1_21, .int 0, .int 0, .int 0, .int 0])), (q1_21, .inl (cA1_22, 3, .inl (fun _ => 0)))] := hD
  have hK : va_K (dC, dI) vwCl [(cA_2, .object RX8), (cA_4, .object RX8), (cA1_8, .int), (cA1_11, .int), (cA1_22, .int)] s := hK
  refine W.widen (k := 12) (n := 58) (Nat.le_of_ble_eq_true rfl) (Nat.le_of_ble_eq_true rfl) ?_
  refine va_astq (D := (dC, dI)) (r := (RX8, TX8, 7)) hx hb hK hP hD hS 1 0 7 8 rfl rfl rfl rfl (by unfold vp_in; decide) dX2_init_46 (fun H locs hP hD hS => ?_)
  have hP : va_P (dC, dI) vwCl [(h0, .inr (2, [.ref q_1, .ref q_3, .int 0, .int 0, .int p0, .null, .int 0, .null])), (q_1, .inl (cA_2, 4, .inr (.inr (.inr (.inr (va_up (va_up (va_up (fun _ => none) (0 : Int32).toNatClampNeg (some q_6)) (1 : Int32).toNatClampNeg (some q_13)) (2 : Int32).toNatClampNeg (some q_20))))))), (q_3, .inl (cA_4, 4, .inr (.inr (.inr (.inr (va_up (va_up (fun _ => none) (0 : Int32).toNatClampNeg (some q_9)) (1 : Int32).toNatClampNeg (some q_16))))))), (q_6, .inr (8, [.int p0, .int 0, .ref q1_7, .int 0, .int 0, .int 0, .int 0])), (q1_7, .inl (cA1_8, 3, .inl (fun _ => 0))), (q_9, .inr (8, [.int p0, .int 0, .ref q1_10, .int 0, .int 0, .int 0, .int 0])), (q1_10, .inl (cA1_11, 3, .inl (fun _ => 0))), (q_20, .inr (8, [.int p0, .int 2, .ref q1_21, .int 0, .int 0, .int 0, .int 0])), (q1_21, .inl (cA1_22, 3, .inl (fun _ => 0)))] H := hP
  have hD : va_D A [(h0, .inr (2, [.ref q_1, .ref q_3, .int 0, .int 0, .int p0, .null, .int 0, .null])), (q_1, .inl (cA_2, 4, .inr (.inr (.inr (.inr (va_up (va_up (va_up (fun _ => none) (0 : Int32).toNatClampNeg (some q_6)) (1 : Int32).toNatClampNeg (some q_13)) (2 : Int32).toNatClampNeg (some q_20))))))), (q_3, .inl (cA_4, 4, .inr (.inr (.inr (.inr (va_up (va_up (fun _ => none) (0 : Int32).toNatClampNeg (some q_9)) (1 : Int32).toNatClampNeg (some q_16))))))), (q_6, .inr (8, [.int p0, .int 0, .ref q1_7, .int 0, .int 0, .int 0, .int 0])), (q1_7, .inl (cA1_8, 3, .inl (fun _ => 0))), (q_9, .inr (8, [.int p0, .int 0, .ref q1_10, .int 0, .int 0, .int 0, .int 0])), (q1_10, .inl (cA1_11, 3, .inl (fun _ => 0))), (q_20, .inr (8, [.int p0, .int 2, .ref q1_21, .int 0, .int 0, .int 0, .int 0])), (q1_21, .inl (cA1_22, 3, .inl (fun _ => 0)))] := hD
  refine lv_aload_n hx hb dX2_init_47 rfl (lv_at hl 1 rfl) ?_
  refine va_get (D := (dC, dI)) (ci := 2) (v := .ref q_3) (C := RX2) (T := TX2) (N := 8) hx hb htb inX2 hown hK hP 0 rfl rfl 1 (by decide) (htb _ kw_132) (fun _ h9 => h9) rfl dX2_init_48 ?_
  refine lv_iload_n hx hb dX2_init_51 rfl (lv_at hl 0 rfl) ?_
  refine va_new (ci := 8) (fs := nvX8) (C := RX8) (T := TX8) (N := 7) hx hb htb inX8 tyX8 tyX8_ok hown (htb _ kw_130) (htb _ kw_134) (htb _ kw_133) hK hP hD hS hA rfl nwX8 (Nat.le_of_ble_eq_true rfl) (Nat.le_of_ble_eq_true rfl) dX2_init_52 (fun q_23 H hP hD hS => ?_)
  have hP : va_P (dC, dI) vwCl [(h0, .inr (2, [.ref q_1, .ref q_3, .int 0, .int 0, .int p0, .null, .int 0, .null])), (q_1, .inl (cA_2, 4, .inr (.inr (.inr (.inr (va_up (va_up (va_up (fun _ => none) (0 : Int32).toNatClampNeg (some q_6)) (1 : Int32).toNatClampNeg (some q_13)) (2 : Int32).toNatClampNeg (some q_20))))))), (q_3, .inl (cA_4, 4, .inr (.inr (.inr (.inr (va_up (va_up (fun _ => none) (0 : Int32).toNatClampNeg (some q_9)) (1 : Int32).toNatClampNeg (some q_16))))))), (q_6, .inr (8, [.int p0, .int 0, .ref q1_7, .int 0, .int 0, .int 0, .int 0])), (q1_7, .inl (cA1_8, 3, .inl (fun _ => 0))), (q_9, .inr (8, [.int p0, .int 0, .ref q1_10, .int 0, .int 0, .int 0, .int 0])), (q1_10, .inl (cA1_11, 3, .inl (fun _ => 0))), (q_20, .inr (8, [.int p0, .int 2, .ref q1_21, .int 0, .int 0, .int 0, .int 0])), (q1_21, .inl (cA1_22, 3, .inl (fun _ => 0))), (q_23, .inr (8, [.int 0, .int 0, .null, .int 0, .int 0, .int 0, .int 0]))] H := hP
  have hD : va_D A [(h0, .inr (2, [.ref q_1, .ref q_3, .int 0, .int 0, .int p0, .null, .int 0, .null])), (q_1, .inl (cA_2, 4, .inr (.inr (.inr (.inr (va_up (va_up (va_up (fun _ => none) (0 : Int32).toNatClampNeg (some q_6)) (1 : Int32).toNatClampNeg (some q_13)) (2 : Int32).toNatClampNeg (some q_20))))))), (q_3, .inl (cA_4, 4, .inr (.inr (.inr (.inr (va_up (va_up (fun _ => none) (0 : Int32).toNatClampNeg (some q_9)) (1 : Int32).toNatClampNeg (some q_16))))))), (q_6, .inr (8, [.int p0, .int 0, .ref q1_7, .int 0, .int 0, .int 0, .int 0])), (q1_7, .inl (cA1_8, 3, .inl (fun _ => 0))), (q_9, .inr (8, [.int p0, .int 0, .ref q1_10, .int 0, .int 0, .int 0, .int 0])), (q1_10, .inl (cA1_11, 3, .inl (fun _ => 0))), (q_20, .inr (8, [.int p0, .int 2, .ref q1_21, .int 0, .int 0, .int 0, .int 0])), (q1_21, .inl (cA1_22, 3, .inl (fun _ => 0))), (q_23, .inr (8, [.int 0, .int 0, .null, .int 0, .int 0, .int 0, .int 0]))] := hD
  refine W.widen (k := 13) (n := 65) (Nat.le_of_ble_eq_true rfl) (Nat.le_of_ble_eq_true rfl) ?_
  refine lv_dup hx hb dX2_init_55 rfl ?_
  refine lv_iload_n hx hb dX2_init_56 rfl (lv_at hl 2 rfl) ?_
  refine lv_iload_n hx hb dX2_init_57 rfl (lv_at hl 0 rfl) ?_
  have hPc := hP.sub (ws' := [(q_23, .inr (8, [.int 0, .int 0, .null, .int 0, .int 0, .int 0, .int 0]))]) [9] rfl
  have hDc := hD.sub (ws' := [(q_23, .inr (8, [.int 0, .int 0, .null, .int 0, .int 0, .int 0, .int 0]))]) [9] (by decide) rfl
  have hKc := hK.sub (tys' := []) [] rfl
  have hFc := va_free (wc := [(q_23, .inr (8, [.int 0, .int 0, .null, .int 0, .int 0, .int 0, .int 0]))]) hD hS hA [9] rfl
  refine va_callv (va_runI (As := [.int p0, .int 2]) (rest := [.ref q_23, .int 2, .ref q_3]) ⟨hx, hb, hml, hown, htb⟩ (c_X8_init l dC dI H.size q_23 p0 2) (cwI 2 htb (gd_c kw_557) rfl rfl rfl (htb _ kw_133) (htb _ kw_135) (htb _ kw_136) rfl (by decide +kernel) ⟨Nat.le_of_ble_eq_true rfl, Nat.le_of_ble_eq_true rfl⟩) ⟨fun a U g mk q => by obtain ⟨q0, q1, qP, qK, qD⟩ := q; exact ⟨q0, q1, qP, va_K.moved (u := U) (U := U.calling g mk a) (Vm.Alike.refl U.vm) qK, qD⟩, fun U hU hW => ⟨rfl, by rw [hU], by rw [hU]; exact hPc, va_K.moved hW.alike hKc, hDc.weaken (fun _ _ _ _ => trivial)⟩⟩ rfl rfl hl.1 rfl (lv_room (Nat.le_of_ble_eq_true rfl)) dX2_init_58 ⟨(Nat.le_of_ble_eq_true rfl), (Nat.le_of_ble_eq_true rfl)⟩) hS (fun q _ h => hFc q h) hFc (fun u t H1 locs ht hvm hw hB hz1 hk1 hS => ?_)
  obtain ⟨q1_24, cA1_25, hP1, hK1, hD1⟩ := hB
  rw [ht] at hP1
  have hK1 := va_K.moved hvm.symm hK1
  obtain ⟨hP, hD⟩ := va_join (wr := [(h0, .inr (2, [.ref q_1, .ref q_3, .int 0, .int 0, .int p0, .null, .int 0, .null])), (q_1, .inl (cA_2, 4, .inr (.inr (.inr (.inr (va_up (va_up (va_up (fun _ => none) (0 : Int32).toNatClampNeg (some q_6)) (1 : Int32).toNatClampNeg (some q_13)) (2 : Int32).toNatClampNeg (some q_20))))))), (q_3, .inl (cA_4, 4, .inr (.inr (.inr (.inr (va_up (va_up (fun _ => none) (0 : Int32).toNatClampNeg (some q_9)) (1 : Int32).toNatClampNeg (some q_16))))))), (q_6, .inr (8, [.int p0, .int 0, .ref q1_7, .int 0, .int 0, .int 0, .int 0])), (q1_7, .inl (cA1_8, 3, .inl (fun _ => 0))), (q_9, .inr (8, [.int p0, .int 0, .ref q1_10, .int 0, .int 0, .int 0, .int 0])), (q1_10, .inl (cA1_11, 3, .inl (fun _ => 0))), (q_20, .inr (8, [.int p0, .int 2, .ref q1_21, .int 0, .int 0, .int 0, .int 0])), (q1_21, .inl (cA1_22, 3, .inl (fun _ => 0)))]) (w1 := [(q_23, .inr (8, [.int p0, .int 2, .ref q1_24, .int 0, .int 0, .int 0, .int 0])), (q1_24, .inl (cA1_25, 3, .inl (fun _ => 0)))]) hP hD [9] [0, 1, 2, 3, 4, 5, 6, 7, 8] rfl rfl (by decide) (by decide) hk1 hFc hP1 hD1
  have hK := hK.app hK1
  generalize H1 = H at hP hS ⊢
  have hP : va_P (dC, dI) vwCl [(h0, .inr (2, [.ref q_1, .ref q_3, .int 0, .int 0, .int p0, .null, .int 0, .null])), (q_1, .inl (cA_2, 4, .inr (.inr (.inr (.inr (va_up (va_up (va_up (fun _ => none) (0 : Int32).toNatClampNeg (some q_6)) (1 : Int32).toNatClampNeg (some q_13)) (2 : Int32).toNatClampNeg (some q_20))))))), (q_3, .inl (cA_4, 4, .inr (.inr (.inr (.inr (va_up (va_up (fun _ => none) (0 : Int32).toNatClampNeg (some q_9)) (1 : Int32).toNatClampNeg (some q_16))))))), (q_6, .inr (8, [.int p0, .int 0, .ref q1_7, .int 0, .int 0, .int 0, .int 0])), (q1_7, .inl (cA1_8, 3, .inl (fun _ => 0))), (q_9, .inr (8, [.int p0, .int 0, .ref q1_10, .int 0, .int 0, .int 0, .int 0])), (q1_10, .inl (cA1_11, 3, .inl (fun _ => 0))), (q_20, .inr (8, [.int p0, .int 2, .ref q1_21, .int 0, .int 0, .int 0, .int 0])), (q1_21, .inl (cA1_22, 3, .inl (fun _ => 0))), (q_23, .inr (8, [.int p0, .int 2, .ref q1_24, .int 0, .int 0, .int 0, .int 0])), (q1_24, .inl (cA1_25, 3, .inl (fun _ => 0)))] H := hP
  have hD : va_D A [(h0, .inr (2, [.ref q_1, .ref q_3, .int 0, .int 0, .int p0, .null, .int 0, .null])), (q_1, .inl (cA_2, 4, .inr (.inr (.inr (.inr (va_up (va_up (va_up (fun _ => none) (0 : Int32).toNatClampNeg (some q_6)) (1 : Int32).toNatClampNeg (some q_13)) (2 : Int32).toNatClampNeg (some q_20))))))), (q_3, .inl (cA_4, 4, .inr (.inr (.inr (.inr (va_up (va_up (fun _ => none) (0 : Int32).toNatClampNeg (some q_9)) (1 : Int32).toNatClampNeg (some q_16))))))), (q_6, .inr (8, [.int p0, .int 0, .ref q1_7, .int 0, .int 0, .int 0, .int 0])), (q1_7, .inl (cA1_8, 3, .inl (fun _ => 0))), (q_9, .inr (8, [.int p0, .int 0, .ref q1_10, .int 0, .int 0, .int 0, .int 0])), (q1_10, .inl (cA1_11, 3, .inl (fun _ => 0))), (q_20, .inr (8, [.int p0, .int 2, .ref q1_21, .int 0, .int 0, .int 0, .int 0])), (q1_21, .inl (cA1_22, 3, .inl (fun _ => 0))), (q_23, .inr (8, [.int p0, .int 2, .ref q1_24, .int 0, .int 0, .int 0, .int 0])), (q1_24, .inl (cA1_25, 3, .inl (fun _ => 0)))] := hD
  have hK : va_K (dC, dI) vwCl [(cA_2, .object RX8), (cA_4, .object RX8), (cA1_8, .int), (cA1_11, .int), (cA1_22, .int), (cA1_25, .int)] s := hK
  refine W.widen (k := 14) (n := 68) (Nat.le_of_ble_eq_true rfl) (Nat.le_of_ble_eq_true rfl) ?_
  refine va_astq (D := (dC, dI)) (r := (RX8, TX8, 7)) hx hb hK hP hD hS 2 1 9 8 rfl rfl rfl rfl (by unfold vp_in; decide) dX2_init_61 (fun H locs hP hD hS => ?_)
  have hP : va_P (dC, dI) vwCl [(h0, .inr (2, [.ref q_1, .ref q_3, .int 0, .int 0, .int p0, .null, .int 0, .null])), (q_1, .inl (cA_2, 4, .inr (.inr (.inr (.inr (va_up (va_up (va_up (fun _ => none) (0 : Int32).toNatClampNeg (some q_6)) (1 : Int32).toNatClampNeg (some q_13)) (2 : Int32).toNatClampNeg (some q_20))))))), (q_3, .inl (cA_4, 4, .inr (.inr (.inr (.inr (va_up (va_up (va_up (fun _ => none) (0 : Int32).toNatClampNeg (some q_9)) (1 : Int32).toNatClampNeg (some q_16)) (2 : Int32).toNatClampNeg (some q_23))))))), (q_6, .inr (8, [.int p0, .int 0, .ref q1_7, .int 0, .int 0, .int 0, .int 0])), (q1_7, .inl (cA1_8, 3, .inl (fun _ => 0))), (q_9, .inr (8, [.int p0, .int 0, .ref q1_10, .int 0, .int 0, .int 0, .int 0])), (q1_10, .inl (cA1_11, 3, .inl (fun _ => 0))), (q_20, .inr (8, [.int p0, .int 2, .ref q1_21, .int 0, .int 0, .int 0, .int 0])), (q1_21, .inl (cA1_22, 3, .inl (fun _ => 0))), (q_23, .inr (8, [.int p0, .int 2, .ref q1_24, .int 0, .int 0, .int 0, .int 0])), (q1_24, .inl (cA1_25, 3, .inl (fun _ => 0)))] H := hP
  have hD : va_D A [(h0, .inr (2, [.ref q_1, .ref q_3, .int 0, .int 0, .int p0, .null, .int 0, .null])), (q_1, .inl (cA_2, 4, .inr (.inr (.inr (.inr (va_up (va_up (va_up (fun _ => none) (0 : Int32).toNatClampNeg (some q_6)) (1 : Int32).toNatClampNeg (some q_13)) (2 : Int32).toNatClampNeg (some q_20))))))), (q_3, .inl (cA_4, 4, .inr (.inr (.inr (.inr (va_up (va_up (va_up (fun _ => none) (0 : Int32).toNatClampNeg (some q_9)) (1 : Int32).toNatClampNeg (some q_16)) (2 : Int32).toNatClampNeg (some q_23))))))), (q_6, .inr (8, [.int p0, .int 0, .ref q1_7, .int 0, .int 0, .int 0, .int 0])), (q1_7, .inl (cA1_8, 3, .inl (fun _ => 0))), (q_9, .inr (8, [.int p0, .int 0, .ref q1_10, .int 0, .int 0, .int 0, .int 0])), (q1_10, .inl (cA1_11, 3, .inl (fun _ => 0))), (q_20, .inr (8, [.int p0, .int 2, .ref q1_21, .int 0, .int 0, .int 0, .int 0])), (q1_21, .inl (cA1_22, 3, .inl (fun _ => 0))), (q_23, .inr (8, [.int p0, .int 2, .ref q1_24, .int 0, .int 0, .int 0, .int 0])), (q1_24, .inl (cA1_25, 3, .inl (fun _ => 0)))] := hD
  refine lv_iinc (v := 3) (lv' := [(2, .int 3), (0, .ref h0), (1, .int p0)]) hx hb dX2_init_62 hl (k := 0) rfl (by decide) (by decide) rfl (fun ls hl => ?_)
  refine lv_goto (tgt := 27) hx hb dX2_init_65 (by decide) ?_
  have hP := hP.sub (ws' := [(h0, .inr (2, [.ref q_1, .ref q_3, .int 0, .int 0, .int p0, .null, .int 0, .null])), (q_1, .inl (cA_2, 4, .inr (.inr (.inr (.inr (va_up (va_up (va_up (fun _ => none) (0 : Int32).toNatClampNeg (some q_6)) (1 : Int32).toNatClampNeg (some q_13)) (2 : Int32).toNatClampNeg (some q_20))))))), (q_3, .inl (cA_4, 4, .inr (.inr (.inr (.inr (va_up (va_up (va_up (fun _ => none) (0 : Int32).toNatClampNeg (some q_9)) (1 : Int32).toNatClampNeg (some q_16)) (2 : Int32).toNatClampNeg (some q_23))))))), (q_6, .inr (8, [.int p0, .int 0, .ref q1_7, .int 0, .int 0, .int 0, .int 0])), (q1_7, .inl (cA1_8, 3, .inl (fun _ => 0))), (q_9, .inr (8, [.int p0, .int 0, .ref q1_10, .int 0, .int 0, .int 0, .int 0])), (q1_10, .inl (cA1_11, 3, .inl (fun _ => 0)))]) [0, 1, 2, 3, 4, 5, 6] rfl
  have hD := hD.sub (ws' := [(h0, .inr (2, [.ref q_1, .ref q_3, .int 0, .int 0, .int p0, .null, .int 0, .null])), (q_1, .inl (cA_2, 4, .inr (.inr (.inr (.inr (va_up (va_up (va_up (fun _ => none) (0 : Int32).toNatClampNeg (some q_6)) (1 : Int32).toNatClampNeg (some q_13)) (2 : Int32).toNatClampNeg (some q_20))))))), (q_3, .inl (cA_4, 4, .inr (.inr (.inr (.inr (va_up (va_up (va_up (fun _ => none) (0 : Int32).toNatClampNeg (some q_9)) (1 : Int32).toNatClampNeg (some q_16)) (2 : Int32).toNatClampNeg (some q_23))))))), (q_6, .inr (8, [.int p0, .int 0, .ref q1_7, .int 0, .int 0, .int 0, .int 0])), (q1_7, .inl (cA1_8, 3, .inl (fun _ => 0))), (q_9, .inr (8, [.int p0, .int 0, .ref q1_10, .int 0, .int 0, .int 0, .int 0])), (q1_10, .inl (cA1_11, 3, .inl (fun _ => 0)))]) [0, 1, 2, 3, 4, 5, 6] (by decide) rfl
  have hK := hK.sub (tys' := [(cA_2, .object RX8), (cA_4, .object RX8), (cA1_8, .int), (cA1_11, .int)]) [0, 1, 2, 3] rfl
  refine lv_iload_n hx hb dX2_init_27 rfl (lv_at hl 0 rfl) ?_
  refine lv_iconst (v := 4) hx hb dX2_init_28 (by decide) ?_
  refine lv_icmp_ge (tgt := 68) hx hb dX2_init_29 (by decide) (fun c_26 => absurd c_26 (by decide)) (fun _ => ?_)
  refine lv_aload_n hx hb dX2_init_32 rfl (lv_at hl 1 rfl) ?_
  refine va_get (D := (dC, dI)) (ci := 2) (v := .ref q_1) (C := RX2) (T := TX2) (N := 8) hx hb htb inX2 hown hK hP 0 rfl rfl 0 (by decide) (htb _ kw_131) (fun _ h9 => h9) rfl dX2_init_33 ?_
  refine lv_iload_n hx hb dX2_init_36 rfl (lv_at hl 0 rfl) ?_
  refine va_new (ci := 8) (fs := nvX8) (C := RX8) (T := TX8) (N := 7) hx hb htb inX8 tyX8 tyX8_ok hown (htb _ kw_130) (htb _ kw_134) (htb _ kw_133) hK hP hD hS hA rfl nwX8 (Nat.le_of_ble_eq_true rfl) (Nat.le_of_ble_eq_true rfl) dX2_init_37 (fun q_27 H hP hD hS => ?_)
  have hP : va_P (dC, dI) vwCl [(h0, .inr (2, [.ref q_1, .ref q_3, .int 0, .int 0, .int p0, .null, .int 0, .null])), (q_1, .inl (cA_2, 4, .inr (.inr (.inr (.inr (va_up (va_up (va_up (fun _ => none) (0 : Int32).toNatClampNeg (some q_6)) (1 : Int32).toNatClampNeg (some q_13)) (2 : Int32).toNatClampNeg (some q_20))))))), (q_3, .inl (cA_4, 4, .inr (.inr (.inr (.inr (va_up (va_up (va_up (fun _ => none) (0 : Int32).toNatClampNeg (some q_9)) (1 : Int32).toNatClampNeg (some q_16)) (2 : Int32).toNatClampNeg (some q_23))))))), (q_6, .inr (8, [.int p0, .int 0, .ref q1_7, .int 0, .int 0, .int 0, .int 0])), (q1_7, .inl (cA1_8, 3, .inl (fun _ => 0))), (q_9, .inr (8, [.int p0, .int 0, .ref q1_10, .int 0, .int 0, .int 0, .int 0])), (q1_10, .inl (cA1_11, 3, .inl (fun _ => 0))), (q_27, .inr (8, [.int 0, .int 0, .null, .int 0, .int 0, .int 0, .int 0]))] H := hP
  have hD : va_D A [(h0, .inr (2, [.ref q_1, .ref q_3, .int 0, .int 0, .int p0, .null, .int 0, .null])), (q_1, .inl (cA_2, 4, .inr (.inr (.inr (.inr (va_up (va_up (va_up (fun _ => none) (0 : Int32).toNatClampNeg (some q_6)) (1 : Int32).toNatClampNeg (some q_13)) (2 : Int32).toNatClampNeg (some q_20))))))), (q_3, .inl (cA_4, 4, .inr (.inr (.inr (.inr (va_up (va_up (va_up (fun _ => none) (0 : Int32).toNatClampNeg (some q_9)) (1 : Int32).toNatClampNeg (some q_16)) (2 : Int32).toNatClampNeg (some q_23))))))), (q_6, .inr (8, [.int p0, .int 0, .ref q1_7, .int 0, .int 0, .int 0, .int 0])), (q1_7, .inl (cA1_8, 3, .inl (fun _ => 0))), (q_9, .inr (8, [.int p0, .int 0, .ref q1_10, .int 0, .int 0, .int 0, .int 0])), (q1_10, .inl (cA1_11, 3, .inl (fun _ => 0))), (q_27, .inr (8, [.int 0, .int 0, .null, .int 0, .int 0, .int 0, .int 0]))] := hD
  refine W.widen (k := 15) (n := 75) (Nat.le_of_ble_eq_true rfl) (Nat.le_of_ble_eq_true rfl) ?_
  refine lv_dup hx hb dX2_init_40 rfl ?_
  refine lv_iload_n hx hb dX2_init_41 rfl (lv_at hl 2 rfl) ?_
  refine lv_iload_n hx hb dX2_init_42 rfl (lv_at hl 0 rfl) ?_
  have hPc := hP.sub (ws' := [(q_27, .inr (8, [.int 0, .int 0, .null, .int 0, .int 0, .int 0, .int 0]))]) [7] rfl
  have hDc := hD.sub (ws' := [(q_27, .inr (8, [.int 0, .int 0, .null, .int 0, .int 0, .int 0, .int 0]))]) [7] (by decide) rfl
  have hKc := hK.sub (tys' := []) [] rfl
  have hFc := va_free (wc := [(q_27, .inr (8, [.int 0, .int 0, .null, .int 0, .int 0, .int 0, .int 0]))]) hD hS hA [7] rfl
  refine va_callv (va_runI (As := [.int p0, .int 3]) (rest := [.ref q_27, .int 3, .ref q_1]) ⟨hx, hb, hml, hown, htb⟩ (c_X8_init l dC dI H.size q_27 p0 3) (cwI 2 htb (gd_c kw_557) rfl rfl rfl (htb _ kw_133) (htb _ kw_135) (htb _ kw_136) rfl (by decide +kernel) ⟨Nat.le_of_ble_eq_true rfl, Nat.le_of_ble_eq_true rfl⟩) ⟨fun a U g mk q => by obtain ⟨q0, q1, qP, qK, qD⟩ := q; exact ⟨q0, q1, qP, va_K.moved (u := U) (U := U.calling g mk a) (Vm.Alike.refl U.vm) qK, qD⟩, fun U hU hW => ⟨rfl, by rw [hU], by rw [hU]; exact hPc, va_K.moved hW.alike hKc, hDc.weaken (fun _ _ _ _ => trivial)⟩⟩ rfl rfl hl.1 rfl (lv_room (Nat.le_of_ble_eq_true rfl)) dX2_init_43 ⟨(Nat.le_of_ble_eq_true rfl), (Nat.le_of_ble_eq_true rfl)⟩) hS (fun q _ h => hFc q h) hFc (fun u t H1 locs ht hvm hw hB hz1 hk1 hS => ?_)
  obtain ⟨q1_28, cA1_29, hP1, hK1, hD1⟩ := hB
  rw [ht] at hP1
  have hK1 := va_K.moved hvm.symm hK1
  obtain ⟨hP, hD⟩ := va_join (wr := [(h0, .inr (2, [.ref q_1, .ref q_3, .int 0, .int 0, .int p0, .null, .int 0, .null])), (q_1, .inl (cA_2, 4, .inr (.inr (.inr (.inr (va_up (va_up (va_up (fun _ => none) (0 : Int32).toNatClampNeg (some q_6)) (1 : Int32).toNatClampNeg (some q_13)) (2 : Int32).toNatClampNeg (some q_20))))))), (q_3, .inl (cA_4, 4, .inr (.inr (.inr (.inr (va_up (va_up (va_up (fun _ => none) (0 : Int32).toNatClampNeg (some q_9)) (1 : Int32).toNatClampNeg (some q_16)) (2 : Int32).toNatClampNeg (some q_23))))))), (q_6, .inr (8, [.int p0, .int 0, .ref q1_7, .int 0, .int 0, .int 0, .int 0])), (q1_7, .inl (cA1_8, 3, .inl (fun _ => 0))), (q_9, .inr (8, [.int p0, .int 0, .ref q1_10, .int 0, .int 0, .int 0, .int 0])), (q1_10, .inl (cA1_11, 3, .inl (fun _ => 0)))]) (w1 := [(q_27, .inr (8, [.int p0, .int 3, .ref q1_28, .int 0, .int 0, .int 0, .int 0])), (q1_28, .inl (cA1_29, 3, .inl (fun _ => 0)))]) hP hD [7] [0, 1, 2, 3, 4, 5, 6] rfl rfl (by decide) (by decide) hk1 hFc hP1 hD1
  have hK := hK.app hK1
  generalize H1 = H at hP hS ⊢
  have hP : va_P (dC, dI) vwCl [(h0, .inr (2, [.ref q_1, .ref q_3, .int 0, .int 0, .int p0, .null, .int 0, .null])), (q_1, .inl (cA_2, 4, .inr (.inr (.inr (.inr (va_up (va_up (va_up (fun _ => none) (0 : Int32).toNatClampNeg (some q_6)) (1 : Int32).toNatClampNeg (some q_13)) (2 : Int32).toNatClampNeg (some q_20))))))), (q_3, .inl (cA_4, 4, .inr (.inr (.inr (.inr (va_up (va_up (va_up (fun _ => none) (0 : Int32).toNatClampNeg (some q_9)) (1 : Int32).toNatClampNeg (some q_16)) (2 : Int32).toNatClampNeg (some q_23))))))), (q_6, .inr (8, [.int p0, .int 0, .ref q1_7, .int 0, .int 0, .int 0, .int 0])), (q1_7, .inl (cA1_8, 3, .inl (fun _ => 0))), (q_9, .inr (8, [.int p0, .int 0, .ref q1_10, .int 0, .int 0, .int 0, .int 0])), (q1_10, .inl (cA1_11, 3, .inl (fun _ => 0))), (q_27, .inr (8, [.int p0, .int 3, .ref q1_28, .int 0, .int 0, .int 0, .int 0])), (q1_28, .inl (cA1_29, 3, .inl (fun _ => 0)))] H := hP
  have hD : va_D A [(h0, .inr (2, [.ref q_1, .ref q_3, .int 0, .int 0, .int p0, .null, .int 0, .null])), (q_1, .inl (cA_2, 4, .inr (.inr (.inr (.inr (va_up (va_up (va_up (fun _ => none) (0 : Int32).toNatClampNeg (some q_6)) (1 : Int32).toNatClampNeg (some q_13)) (2 : Int32).toNatClampNeg (some q_20))))))), (q_3, .inl (cA_4, 4, .inr (.inr (.inr (.inr (va_up (va_up (va_up (fun _ => none) (0 : Int32).toNatClampNeg (some q_9)) (1 : Int32).toNatClampNeg (some q_16)) (2 : Int32).toNatClampNeg (some q_23))))))), (q_6, .inr (8, [.int p0, .int 0, .ref q1_7, .int 0, .int 0, .int 0, .int 0])), (q1_7, .inl (cA1_8, 3, .inl (fun _ => 0))), (q_9, .inr (8, [.int p0, .int 0, .ref q1_10, .int 0, .int 0, .int 0, .int 0])), (q1_10, .inl (cA1_11, 3, .inl (fun _ => 0))), (q_27, .inr (8, [.int p0, .int 3, .ref q1_28, .int 0, .int 0, .int 0, .int 0])), (q1_28, .inl (cA1_29, 3, .inl (fun _ => 0)))] := hD
  have hK : va_K (dC, dI) vwCl [(cA_2, .object RX8), (cA_4, .object RX8), (cA1_8, .int), (cA1_11, .int), (cA1_29, .int)] s := hK
  refine W.widen (k := 16) (n := 78) (Nat.le_of_ble_eq_true rfl) (Nat.le_of_ble_eq_true rfl) ?_
  refine va_astq (D := (dC, dI)) (r := (RX8, TX8, 7)) hx hb hK hP hD hS 1 0 7 8 rfl rfl rfl rfl (by unfold vp_in; decide) dX2_init_46 (fun H locs hP hD hS => ?_)
  have hP : va_P (dC, dI) vwCl [(h0, .inr (2, [.ref q_1, .ref q_3, .int 0, .int 0, .int p0, .null, .int 0, .null])), (q_1, .inl (cA_2, 4, .inr (.inr (.inr (.inr (va_up (va_up (va_up (va_up (fun _ => none) (0 : Int32).toNatClampNeg (some q_6)) (1 : Int32).toNatClampNeg (some q_13)) (2 : Int32).toNatClampNeg (some q_20)) (3 : Int32).toNatClampNeg (some q_27))))))), (q_3, .inl (cA_4, 4, .inr (.inr (.inr (.inr (va_up (va_up (va_up (fun _ => none) (0 : Int32).toNatClampNeg (some q_9)) (1 : Int32).toNatClampNeg (some q_16)) (2 : Int32).toNatClampNeg (some q_23))))))), (q_6, .inr (8, [.int p0, .int 0, .ref q1_7, .int 0, .int 0, .int 0, .int 0])), (q1_7, .inl (cA1_8, 3, .inl (fun _ => 0))), (q_9, .inr (8, [.int p0, .int 0, .ref q1_10, .int 0, .int 0, .int 0, .int 0])), (q1_10, .inl (cA1_11, 3, .inl (fun _ => 0))), (q_27, .inr (8, [.int p0, .int 3, .ref q1_28, .int 0, .int 0, .int 0, .int 0])), (q1_28, .inl (cA1_29, 3, .inl (fun _ => 0)))] H := hP
  have hD : va_D A [(h0, .inr (2, [.ref q_1, .ref q_3, .int 0, .int 0, .int p0, .null, .int 0, .null])), (q_1, .inl (cA_2, 4, .inr (.inr (.inr (.inr (va_up (va_up (va_up (va_up (fun _ => none) (0 : Int32).toNatClampNeg (some q_6)) (1 : Int32).toNatClampNeg (some q_13)) (2 : Int32).toNatClampNeg (some q_20)) (3 : Int32).toNatClampNeg (some q_27))))))), (q_3, .inl (cA_4, 4, .inr (.inr (.inr (.inr (va_up (va_up (va_up (fun _ => none) (0 : Int32).toNatClampNeg (some q_9)) (1 : Int32).toNatClampNeg (some q_16)) (2 : Int32).toNatClampNeg (some q_23))))))), (q_6, .inr (8, [.int p0, .int 0, .ref q1_7, .int 0, .int 0, .int 0, .int 0])), (q1_7, .inl (cA1_8, 3, .inl (fun _ => 0))), (q_9, .inr (8, [.int p0, .int 0, .ref q1_10, .int 0, .int 0, .int 0, .int 0])), (q1_10, .inl (cA1_11, 3, .inl (fun _ => 0))), (q_27, .inr (8, [.int p0, .int 3, .ref q1_28, .int 0, .int 0, .int 0, .int 0])), (q1_28, .inl (cA1_29, 3, .inl (fun _ => 0)))] := hD
  refine lv_aload_n hx hb dX2_init_47 rfl (lv_at hl 1 rfl) ?_
  refine va_get (D := (dC, dI)) (ci := 2) (v := .ref q_3) (C := RX2) (T := TX2) (N := 8) hx hb htb inX2 hown hK hP 0 rfl rfl 1 (by decide) (htb _ kw_132) (fun _ h9 => h9) rfl dX2_init_48 ?_
  refine lv_iload_n hx hb dX2_init_51 rfl (lv_at hl 0 rfl) ?_
  refine va_new (ci := 8) (fs := nvX8) (C := RX8) (T := TX8) (N := 7) hx hb htb inX8 tyX8 tyX8_ok hown (htb _ kw_130) (htb _ kw_134) (htb _ kw_133) hK hP hD hS hA rfl nwX8 (Nat.le_of_ble_eq_true rfl) (Nat.le_of_ble_eq_true rfl) dX2_init_52 (fun q_30 H hP hD hS => ?_)
  have hP : va_P (dC, dI) vwCl [(h0, .inr (2, [.ref q_1, .ref q_3, .int 0, .int 0, .int p0, .null, .int 0, .null])), (q_1, .inl (cA_2, 4, .inr (.inr (.inr (.inr (va_up (va_up (va_up (va_up (fun _ => none) (0 : Int32).toNatClampNeg (some q_6)) (1 : Int32).toNatClampNeg (some q_13)) (2 : Int32).toNatClampNeg (some q_20)) (3 : Int32).toNatClampNeg (some q_27))))))), (q_3, .inl (cA_4, 4, .inr (.inr (.inr (.inr (va_up (va_up (va_up (fun _ => none) (0 : Int32).toNatClampNeg (some q_9)) (1 : Int32).toNatClampNeg (some q_16)) (2 : Int32).toNatClampNeg (some q_23))))))), (q_6, .inr (8, [.int p0, .int 0, .ref q1_7, .int 0, .int 0, .int 0, .int 0])), (q1_7, .inl (cA1_8, 3, .inl (fun _ => 0))), (q_9, .inr (8, [.int p0, .int 0, .ref q1_10, .int 0, .int 0, .int 0, .int 0])), (q1_10, .inl (cA1_11, 3, .inl (fun _ => 0))), (q_27, .inr (8, [.int p0, .int 3, .ref q1_28, .int 0, .int 0, .int 0, .int 0])), (q1_28, .inl (cA1_29, 3, .inl (fun _ => 0))), (q_30, .inr (8, [.int 0, .int 0, .null, .int 0, .int 0, .int 0, .int 0]))] H := hP
  have hD : va_D A [(h0, .inr (2, [.ref q_1, .ref q_3, .int 0, .int 0, .int p0, .null, .int 0, .null])), (q_1, .inl (cA_2, 4, .inr (.inr (.inr (.inr (va_up (va_up (va_up (va_up (fun _ => none) (0 : Int32).toNatClampNeg (some q_6)) (1 : Int32).toNatClampNeg (some q_13)) (2 : Int32).toNatClampNeg (some q_20)) (3 : Int32).toNatClampNeg (some q_27))))))), (q_3, .inl (cA_4, 4, .inr (.inr (.inr (.inr (va_up (va_up (va_up (fun _ => none) (0 : Int32).toNatClampNeg (some q_9)) (1 : Int32).toNatClampNeg (some q_16)) (2 : Int32).toNatClampNeg (some q_23))))))), (q_6, .inr (8, [.int p0, .int 0, .ref q1_7, .int 0, .int 0, .int 0, .int 0])), (q1_7, .inl (cA1_8, 3, .inl (fun _ => 0))), (q_9, .inr (8, [.int p0, .int 0, .ref q1_10, .int 0, .int 0, .int 0, .int 0])), (q1_10, .inl (cA1_11, 3, .inl (fun _ => 0))), (q_27, .inr (8, [.int p0, .int 3, .ref q1_28, .int 0, .int 0, .int 0, .int 0])), (q1_28, .inl (cA1_29, 3, .inl (fun _ => 0))), (q_30, .inr (8, [.int 0, .int 0, .null, .int 0, .int 0, .int 0, .int 0]))] := hD
  refine W.widen (k := 17) (n := 85) (Nat.le_of_ble_eq_true rfl) (Nat.le_of_ble_eq_true rfl) ?_
  refine lv_dup hx hb dX2_init_55 rfl ?_
  refine lv_iload_n hx hb dX2_init_56 rfl (lv_at hl 2 rfl) ?_
  refine lv_iload_n hx hb dX2_init_57 rfl (lv_at hl 0 rfl) ?_
  have hPc := hP.sub (ws' := [(q_30, .inr (8, [.int 0, .int 0, .null, .int 0, .int 0, .int 0, .int 0]))]) [9] rfl
  have hDc := hD.sub (ws' := [(q_30, .inr (8, [.int 0, .int 0, .null, .int 0, .int 0, .int 0, .int 0]))]) [9] (by decide) rfl
  have hKc := hK.sub (tys' := []) [] rfl
  have hFc := va_free (wc := [(q_30, .inr (8, [.int 0, .int 0, .null, .int 0, .int 0, .int 0, .int 0]))]) hD hS hA [9] rfl
  refine va_callv (va_runI (As := [.int p0, .int 3]) (rest := [.ref q_30, .int 3, .ref q_3]) ⟨hx, hb, hml, hown, htb⟩ (c_X8_init l dC dI H.size q_30 p0 3) (cwI 2 htb (gd_c kw_557) rfl rfl rfl (htb _ kw_133) (htb _ kw_135) (htb _ kw_136) rfl (by decide +kernel) ⟨Nat.le_of_ble_eq_true rfl, Nat.le_of_ble_eq_true rfl⟩) ⟨fun a U g mk q => by obtain ⟨q0, q1, qP, qK, qD⟩ := q; exact ⟨q0, q1, qP, va_K.moved (u := U) (U := U.calling g mk a) (Vm.Alike.refl U.vm) qK, qD⟩, fun U hU hW => ⟨rfl, by rw [hU], by rw [hU]; exact hPc, va_K.moved hW.alike hKc, hDc.weaken (fun _ _ _ _ => trivial)⟩⟩ rfl rfl hl.1 rfl (lv_room (Nat.le_of_ble_eq_true rfl)) dX2_init_58 ⟨(Nat.le_of_ble_eq_true rfl), (Nat.le_of_ble_eq_true rfl)⟩) hS (fun q _ h => hFc q h) hFc (fun u t H1 locs ht hvm hw hB hz1 hk1 hS => ?_)
  obtain ⟨q1_31, cA1_32, hP1, hK1, hD1⟩ := hB
  rw [ht] at hP1
  have hK1 := va_K.moved hvm.symm hK1
  obtain ⟨hP, hD⟩ := va_join (wr := [(h0, .inr (2, [.ref q_1, .ref q_3, .int 0, .int 0, .int p0, .null, .int 0, .null])), (q_1, .inl (cA_2, 4, .inr (.inr (.inr (.inr (va_up (va_up (va_up (va_up (fun _ => none) (0 : Int32).toNatClampNeg (some q_6)) (1 : Int32).toNatClampNeg (some q_13)) (2 : Int32).toNatClampNeg (some q_20)) (3 : Int32).toNatClampNeg (some q_27))))))), (q_3, .inl (cA_4, 4, .inr (.inr (.inr (.inr (va_up (va_up (va_up (fun _ => none) (0 : Int32).toNatClampNeg (some q_9)) (1 : Int32).toNatClampNeg (some q_16)) (2 : Int32).toNatClampNeg (some q_23))))))), (q_6, .inr (8, [.int p0, .int 0, .ref q1_7, .int 0, .int 0, .int 0, .int 0])), (q1_7, .inl (cA1_8, 3, .inl (fun _ => 0))), (q_9, .inr (8, [.int p0, .int 0, .ref q1_10, .int 0, .int 0, .int 0, .int 0])), (q1_10, .inl (cA1_11, 3, .inl (fun _ => 0))), (q_27, .inr (8, [.int p0, .int 3, .ref q1_28, .int 0, .int 0, .int 0, .int 0])), (q1_28, .inl (cA1_29, 3, .inl (fun _ => 0)))]) (w1 := [(q_30, .inr (8, [.int p0, .int 3, .ref q1_31, .int 0, .int 0, .int 0, .int 0])), (q1_31, .inl (cA1_32, 3, .inl (fun _ => 0)))]) hP hD [9] [0, 1, 2, 3, 4, 5, 6, 7, 8] rfl rfl (by decide) (by decide) hk1 hFc hP1 hD1
  have hK := hK.app hK1
  generalize H1 = H at hP hS ⊢
  have hP : va_P (dC, dI) vwCl [(h0, .inr (2, [.ref q_1, .ref q_3, .int 0, .int 0, .int p0, .null, .int 0, .null])), (q_1, .inl (cA_2, 4, .inr (.inr (.inr (.inr (va_up (va_up (va_up (va_up (fun _ => none) (0 : Int32).toNatClampNeg (some q_6)) (1 : Int32).toNatClampNeg (some q_13)) (2 : Int32).toNatClampNeg (some q_20)) (3 : Int32).toNatClampNeg (some q_27))))))), (q_3, .inl (cA_4, 4, .inr (.inr (.inr (.inr (va_up (va_up (va_up (fun _ => none) (0 : Int32).toNatClampNeg (some q_9)) (1 : Int32).toNatClampNeg (some q_16)) (2 : Int32).toNatClampNeg (some q_23))))))), (q_6, .inr (8, [.int p0, .int 0, .ref q1_7, .int 0, .int 0, .int 0, .int 0])), (q1_7, .inl (cA1_8, 3, .inl (fun _ => 0))), (q_9, .inr (8, [.int p0, .int 0, .ref q1_10, .int 0, .int 0, .int 0, .int 0])), (q1_10, .inl (cA1_11, 3, .inl (fun _ => 0))), (q_27, .inr (8, [.int p0, .int 3, .ref q1_28, .int 0, .int 0, .int 0, .int 0])), (q1_28, .inl (cA1_29, 3, .inl (fun _ => 0))), (q_30, .inr (8, [.int p0, .int 3, .ref q1_31, .int 0, .int 0, .int 0, .int 0])), (q1_31, .inl (cA1_32, 3, .inl (fun _ => 0)))] H := hP
  have hD : va_D A [(h0, .inr (2, [.ref q_1, .ref q_3, .int 0, .int 0, .int p0, .null, .int 0, .null])), (q_1, .inl (cA_2, 4, .inr (.inr (.inr (.inr (va_up (va_up (va_up (va_up (fun _ => none) (0 : Int32).toNatClampNeg (some q_6)) (1 : Int32).toNatClampNeg (some q_13)) (2 : Int32).toNatClampNeg (some q_20)) (3 : Int32).toNatClampNeg (some q_27))))))), (q_3, .inl (cA_4, 4, .inr (.inr (.inr (.inr (va_up (va_up (va_up (fun _ => none) (0 : Int32).toNatClampNeg (some q_9)) (1 : Int32).toNatClampNeg (some q_16)) (2 : Int32).toNatClampNeg (some q_23))))))), (q_6, .inr (8, [.int p0, .int 0, .ref q1_7, .int 0, .int 0, .int 0, .int 0])), (q1_7, .inl (cA1_8, 3, .inl (fun _ => 0))), (q_9, .inr (8, [.int p0, .int 0, .ref q1_10, .int 0, .int 0, .int 0, .int 0])), (q1_10, .inl (cA1_11, 3, .inl (fun _ => 0))), (q_27, .inr (8, [.int p0, .int 3, .ref q1_28, .int 0, .int 0, .int 0, .int 0])), (q1_28, .inl (cA1_29, 3, .inl (fun _ => 0))), (q_30, .inr (8, [.int p0, .int 3, .ref q1_31, .int 0, .int 0, .int 0, .int 0])), (q1_31, .inl (cA1_32, 3, .inl (fun _ => 0)))] := hD
  have hK : va_K (dC, dI) vwCl [(cA_2, .object RX8), (cA_4, .object RX8), (cA1_8, .int), (cA1_11, .int), (cA1_29, .int), (cA1_32, .int)] s := hK
  refine W.widen (k := 18) (n := 88) (Nat.le_of_ble_eq_true rfl) (Nat.le_of_ble_eq_true rfl) ?_
  refine va_astq (D := (dC, dI)) (r := (RX8, TX8, 7)) hx hb hK hP hD hS 2 1 9 8 rfl rfl rfl rfl (by unfold vp_in; decide) dX2_init_61 (fun H locs hP hD hS => ?_)
  have hP : va_P (dC, dI) vwCl [(h0, .inr (2, [.ref q_1, .ref q_3, .int 0, .int 0, .int p0, .null, .int 0, .null])), (q_1, .inl (cA_2, 4, .inr (.inr (.inr (.inr (va_up (va_up (va_up (va_up (fun _ => none) (0 : Int32).toNatClampNeg (some q_6)) (1 : Int32).toNatClampNeg (some q_13)) (2 : Int32).toNatClampNeg (some q_20)) (3 : Int32).toNatClampNeg (some q_27))))))), (q_3, .inl (cA_4, 4, .inr (.inr (.inr (.inr (va_up (va_up (va_up (va_up (fun _ => none) (0 : Int32).toNatClampNeg (some q_9)) (1 : Int32).toNatClampNeg (some q_16)) (2 : Int32).toNatClampNeg (some q_23)) (3 : Int32).toNatClampNeg (some q_30))))))), (q_6, .inr (8, [.int p0, .int 0, .ref q1_7, .int 0, .int 0, .int 0, .int 0])), (q1_7, .inl (cA1_8, 3, .inl (fun _ => 0))), (q_9, .inr (8, [.int p0, .int 0, .ref q1_10, .int 0, .int 0, .int 0, .int 0])), (q1_10, .inl (cA1_11, 3, .inl (fun _ => 0))), (q_27, .inr (8, [.int p0, .int 3, .ref q1_28, .int 0, .int 0, .int 0, .int 0])), (q1_28, .inl (cA1_29, 3, .inl (fun _ => 0))), (q_30, .inr (8, [.int p0, .int 3, .ref q1_31, .int 0, .int 0, .int 0, .int 0])), (q1_31, .inl (cA1_32, 3, .inl (fun _ => 0)))] H := hP
  have hD : va_D A [(h0, .inr (2, [.ref q_1, .ref q_3, .int 0, .int 0, .int p0, .null, .int 0, .null])), (q_1, .inl (cA_2, 4, .inr (.inr (.inr (.inr (va_up (va_up (va_up (va_up (fun _ => none) (0 : Int32).toNatClampNeg (some q_6)) (1 : Int32).toNatClampNeg (some q_13)) (2 : Int32).toNatClampNeg (some q_20)) (3 : Int32).toNatClampNeg (some q_27))))))), (q_3, .inl (cA_4, 4, .inr (.inr (.inr (.inr (va_up (va_up (va_up (va_up (fun _ => none) (0 : Int32).toNatClampNeg (some q_9)) (1 : Int32).toNatClampNeg (some q_16)) (2 : Int32).toNatClampNeg (some q_23)) (3 : Int32).toNatClampNeg (some q_30))))))), (q_6, .inr (8, [.int p0, .int 0, .ref q1_7, .int 0, .int 0, .int 0, .int 0])), (q1_7, .inl (cA1_8, 3, .inl (fun _ => 0))), (q_9, .inr (8, [.int p0, .int 0, .ref q1_10, .int 0, .int 0, .int 0, .int 0])), (q1_10, .inl (cA1_11, 3, .inl (fun _ => 0))), (q_27, .inr (8, [.int p0, .int 3, .ref q1_28, .int 0, .int 0, .int 0, .int 0])), (q1_28, .inl (cA1_29, 3, .inl (fun _ => 0))), (q_30, .inr (8, [.int p0, .int 3, .ref q1_31, .int 0, .int 0, .int 0, .int 0])), (q1_31, .inl (cA1_32, 3, .inl (fun _ => 0)))] := hD
  refine lv_iinc (v := 4) (lv' := [(2, .int 4), (0, .ref h0), (1, .int p0)]) hx hb dX2_init_62 hl (k := 0) rfl (by decide) (by decide) rfl (fun ls hl => ?_)
  refine lv_goto (tgt := 27) hx hb dX2_init_65 (by decide) ?_
  have hP := hP.sub (ws' := [(h0, .inr (2, [.ref q_1, .ref q_3, .int 0, .int 0, .int p0, .null, .int 0, .null])), (q_1, .inl (cA_2, 4, .inr (.inr (.inr (.inr (va_up (va_up (va_up (va_up (fun _ => none) (0 : Int32).toNatClampNeg (some q_6)) (1 : Int32).toNatClampNeg (some q_13)) (2 : Int32).toNatClampNeg (some q_20)) (3 : Int32).toNatClampNeg (some q_27))))))), (q_3, .inl (cA_4, 4, .inr (.inr (.inr (.inr (va_up (va_up (va_up (va_up (fun _ => none) (0 : Int32).toNatClampNeg (some q_9)) (1 : Int32).toNatClampNeg (some q_16)) (2 : Int32).toNatClampNeg (some q_23)) (3 : Int32).toNatClampNeg (some q_30))))))), (q_6, .inr (8, [.int p0, .int 0, .ref q1_7, .int 0, .int 0, .int 0, .int 0])), (q1_7, .inl (cA1_8, 3, .inl (fun _ => 0))), (q_9, .inr (8, [.int p0, .int 0, .ref q1_10, .int 0, .int 0, .int 0, .int 0])), (q1_10, .inl (cA1_11, 3, .inl (fun _ => 0)))]) [0, 1, 2, 3, 4, 5, 6] rfl
  have hD := hD.sub (ws' := [(h0, .inr (2, [.ref q_1, .ref q_3, .int 0, .int 0, .int p0, .null, .int 0, .null])), (q_1, .inl (cA_2, 4, .inr (.inr (.inr (.inr (va_up (va_up (va_up (va_up (fun _ => none) (0 : Int32).toNatClampNeg (some q_6)) (1 : Int32).toNatClampNeg (some q_13)) (2 : Int32).toNatClampNeg (some q_20)) (3 : Int32).toNatClampNeg (some q_27))))))), (q_3, .inl (cA_4, 4, .inr (.inr (.inr (.inr (va_up (va_up (va_up (va_up (fun _ => none) (0 : Int32).toNatClampNeg (some q_9)) (1 : Int32).toNatClampNeg (some q_16)) (2 : Int32).toNatClampNeg (some q_23)) (3 : Int32).toNatClampNeg (some q_30))))))), (q_6, .inr (8, [.int p0, .int 0, .ref q1_7, .int 0, .int 0, .int 0, .int 0])), (q1_7, .inl (cA1_8, 3, .inl (fun _ => 0))), (q_9, .inr (8, [.int p0, .int 0, .ref q1_10, .int 0, .int 0, .int 0, .int 0])), (q1_10, .inl (cA1_11, 3, .inl (fun _ => 0)))]) [0, 1, 2, 3, 4, 5, 6] (by decide) rfl
  have hK := hK.sub (tys' := [(cA_2, .object RX8), (cA_4, .object RX8), (cA1_8, .int), (cA1_11, .int)]) [0, 1, 2, 3] rfl
  refine lv_iload_n hx hb dX2_init_27 rfl (lv_at hl 0 rfl) ?_
  refine lv_iconst (v := 4) hx hb dX2_init_28 (by decide) ?_
  refine lv_icmp_ge (tgt := 68) hx hb dX2_init_29 (by decide) (fun _ => ?_) (fun c_33 => absurd (by decide) c_33)
  refine lv_aload_n hx hb dX2_init_68 rfl (lv_at hl 1 rfl) ?_
  refine lv_bipush (v := 26) hx hb dX2_init_69 (by decide) ?_
  refine va_newa (D := (dC, dI)) (atype := .int) (ty := .int) (N' := 26) (a0 := (26, .inl (fun _ => 0))) hx hb (htb _ kw_122) rfl hK hP hD hS hA (fun _ => rfl) (by decide) (by decide) (by decide) (Nat.le_of_ble_eq_true rfl) (Nat.le_of_ble_eq_true rfl) dX2_init_71 (fun q_34 cA_35 H hK hP hD hS => ?_)
  have hP : va_P (dC, dI) vwCl [(h0, .inr (2, [.ref q_1, .ref q_3, .int 0, .int 0, .int p0, .null, .int 0, .null])), (q_1, .inl (cA_2, 4, .inr (.inr (.inr (.inr (va_up (va_up (va_up (va_up (fun _ => none) (0 : Int32).toNatClampNeg (some q_6)) (1 : Int32).toNatClampNeg (some q_13)) (2 : Int32).toNatClampNeg (some q_20)) (3 : Int32).toNatClampNeg (some q_27))))))), (q_3, .inl (cA_4, 4, .inr (.inr (.inr (.inr (va_up (va_up (va_up (va_up (fun _ => none) (0 : Int32).toNatClampNeg (some q_9)) (1 : Int32).toNatClampNeg (some q_16)) (2 : Int32).toNatClampNeg (some q_23)) (3 : Int32).toNatClampNeg (some q_30))))))), (q_6, .inr (8, [.int p0, .int 0, .ref q1_7, .int 0, .int 0, .int 0, .int 0])), (q1_7, .inl (cA1_8, 3, .inl (fun _ => 0))), (q_9, .inr (8, [.int p0, .int 0, .ref q1_10, .int 0, .int 0, .int 0, .int 0])), (q1_10, .inl (cA1_11, 3, .inl (fun _ => 0))), (q_34, .inl (cA_35, 26, .inl (fun _ => 0)))] H := hP
  have hD : va_D A [(h0, .inr (2, [.ref q_1, .ref q_3, .int 0, .int 0, .int p0, .null, .int 0, .null])), (q_1, .inl (cA_2, 4, .inr (.inr (.inr (.inr (va_up (va_up (va_up (va_up (fun _ => none) (0 : Int32).toNatClampNeg (some q_6)) (1 : Int32).toNatClampNeg (some q_13)) (2 : Int32).toNatClampNeg (some q_20)) (3 : Int32).toNatClampNeg (some q_27))))))), (q_3, .inl (cA_4, 4, .inr (.inr (.inr (.inr (va_up (va_up (va_up (va_up (fun _ => none) (0 : Int32).toNatClampNeg (some q_9)) (1 : Int32).toNatClampNeg (some q_16)) (2 : Int32).toNatClampNeg (some q_23)) (3 : Int32).toNatClampNeg (some q_30))))))), (q_6, .inr (8, [.int p0, .int 0, .ref q1_7, .int 0, .int 0, .int 0, .int 0])), (q1_7, .inl (cA1_8, 3, .inl (fun _ => 0))), (q_9, .inr (8, [.int p0, .int 0, .ref q1_10, .int 0, .int 0, .int 0, .int 0])), (q1_10, .inl (cA1_11, 3, .inl (fun _ => 0))), (q_34, .inl (cA_35, 26, .inl (fun _ => 0)))] := hD
  have hK : va_K (dC, dI) vwCl [(cA_2, .object RX8), (cA_4, .object RX8), (cA1_8, .int), (cA1_11, .int), (cA_35, .int)] s := hK
  refine W.widen (k := 19) (n := 114) (Nat.le_of_ble_eq_true rfl) (Nat.le_of_ble_eq_true rfl) ?_
  refine va_putF (D := (dC, dI)) (ci := 2) (v := .ref q_34) (ty := .array .int) (C := RX2) (T := TX2) (N := 8) hx hb htb inX2 tyX2 tyX2_ok nmX2 hown hK hP hD hS 0 rfl rfl 5 (by decide) (htb _ kw_137) (fun _ h9 => h9) rfl hin rfl (tyX2_ok 5 (by decide)) rfl rfl (Nat.le_of_ble_eq_true rfl) dX2_init_73 (fun H locs hP hD hS => ?_)
  have hP : va_P (dC, dI) vwCl [(h0, .inr (2, [.ref q_1, .ref q_3, .int 0, .int 0, .int p0, .ref q_34, .int 0, .null])), (q_1, .inl (cA_2, 4, .inr (.inr (.inr (.inr (va_up (va_up (va_up (va_up (fun _ => none) (0 : Int32).toNatClampNeg (some q_6)) (1 : Int32).toNatClampNeg (some q_13)) (2 : Int32).toNatClampNeg (some q_20)) (3 : Int32).toNatClampNeg (some q_27))))))), (q_3, .inl (cA_4, 4, .inr (.inr (.inr (.inr (va_up (va_up (va_up (va_up (fun _ => none) (0 : Int32).toNatClampNeg (some q_9)) (1 : Int32).toNatClampNeg (some q_16)) (2 : Int32).toNatClampNeg (some q_23)) (3 : Int32).toNatClampNeg (some q_30))))))), (q_6, .inr (8, [.int p0, .int 0, .ref q1_7, .int 0, .int 0, .int 0, .int 0])), (q1_7, .inl (cA1_8, 3, .inl (fun _ => 0))), (q_9, .inr (8, [.int p0, .int 0, .ref q1_10, .int 0, .int 0, .int 0, .int 0])), (q1_10, .inl (cA1_11, 3, .inl (fun _ => 0))), (q_34, .inl (cA_35, 26, .inl (fun _ => 0)))] H := hP
  have hD : va_D A [(h0, .inr (2, [.ref q_1, .ref q_3, .int 0, .int 0, .int p0, .ref q_34, .int 0, .null])), (q_1, .inl (cA_2, 4, .inr (.inr (.inr (.inr (va_up (va_up (va_up (va_up (fun _ => none) (0 : Int32).toNatClampNeg (some q_6)) (1 : Int32).toNatClampNeg (some q_13)) (2 : Int32).toNatClampNeg (some q_20)) (3 : Int32).toNatClampNeg (some q_27))))))), (q_3, .inl (cA_4, 4, .inr (.inr (.inr (.inr (va_up (va_up (va_up (va_up (fun _ => none) (0 : Int32).toNatClampNeg (some q_9)) (1 : Int32).toNatClampNeg (some q_16)) (2 : Int32).toNatClampNeg (some q_23)) (3 : Int32).toNatClampNeg (some q_30))))))), (q_6, .inr (8, [.int p0, .int 0, .ref q1_7, .int 0, .int 0, .int 0, .int 0])), (q1_7, .inl (cA1_8, 3, .inl (fun _ => 0))), (q_9, .inr (8, [.int p0, .int 0, .ref q1_10, .int 0, .int 0, .int 0, .int 0])), (q1_10, .inl (cA1_11, 3, .inl (fun _ => 0))), (q_34, .inl (cA_35, 26, .inl (fun _ => 0)))] := hD
  refine lv_iconst (v := 0) hx hb dX2_init_76 (by decide) ?_
  refine lv_istore_n (lv' := [(2, .int 0), (0, .ref h0), (1, .int p0)]) hx hb dX2_init_77 rfl hl (by decide) rfl (fun ls hl => ?_)
  have hloop : ∀ (n i : Nat) (g3 : Nat → Int32) (H : Heap) (locs : List Loc) (ls : Array Slot), i + n = 26 → (∀ j, j < i → g3 j = -1) → va_P (dC, dI) vwCl [(h0, .inr (2, [.ref q_1, .ref q_3, .int 0, .int 0, .int p0, .ref q_34, .int 0, .null])), (q_1, .inl (cA_2, 4, .inr (.inr (.inr (.inr (va_up (va_up (va_up (va_up (fun _ => none) (0 : Int32).toNatClampNeg (some q_6)) (1 : Int32).toNatClampNeg (some q_13)) (2 : Int32).toNatClampNeg (some q_20)) (3 : Int32).toNatClampNeg (some q_27))))))), (q_3, .inl (cA_4, 4, .inr (.inr (.inr (.inr (va_up (va_up (va_up (va_up (fun _ => none) (0 : Int32).toNatClampNeg (some q_9)) (1 : Int32).toNatClampNeg (some q_16)) (2 : Int32).toNatClampNeg (some q_23)) (3 : Int32).toNatClampNeg (some q_30))))))), (q_6, .inr (8, [.int p0, .int 0, .ref q1_7, .int 0, .int 0, .int 0, .int 0])), (q1_7, .inl (cA1_8, 3, .inl (fun _ => 0))), (q_9, .inr (8, [.int p0, .int 0, .ref q1_10, .int 0, .int 0, .int 0, .int 0])), (q1_10, .inl (cA1_11, 3, .inl (fun _ => 0))), (q_34, .inl (cA_35, 26, .inl g3))] H → va_D A [(h0, .inr (2, [.ref q_1, .ref q_3, .int 0, .int 0, .int p0, .ref q_34, .int 0, .null])), (q_1, .inl (cA_2, 4, .inr (.inr (.inr (.inr (va_up (va_up (va_up (va_up (fun _ => none) (0 : Int32).toNatClampNeg (some q_6)) (1 : Int32).toNatClampNeg (some q_13)) (2 : Int32).toNatClampNeg (some q_20)) (3 : Int32).toNatClampNeg (some q_27))))))), (q_3, .inl (cA_4, 4, .inr (.inr (.inr (.inr (va_up (va_up (va_up (va_up (fun _ => none) (0 : Int32).toNatClampNeg (some q_9)) (1 : Int32).toNatClampNeg (some q_16)) (2 : Int32).toNatClampNeg (some q_23)) (3 : Int32).toNatClampNeg (some q_30))))))), (q_6, .inr (8, [.int p0, .int 0, .ref q1_7, .int 0, .int 0, .int 0, .int 0])), (q1_7, .inl (cA1_8, 3, .inl (fun _ => 0))), (q_9, .inr (8, [.int p0, .int 0, .ref q1_10, .int 0, .int 0, .int 0, .int 0])), (q1_10, .inl (cA1_11, 3, .inl (fun _ => 0))), (q_34, .inl (cA_35, 26, .inl g3))] → va_S A s.heap H locs → lv_has ls 3 [(2, .int (nI i)), (0, .ref h0), (1, .int p0)] → W p l e (headSpec wm_X2_init ({ frames := 2, cells := 19, slots := 114, locals := 42 })).room s m ([.ref h0, .int p0] : List Value).toArray below meth c H locs (19) (114) (MQ below (va_Qv (fun _ : Unit => True) (fun _ t => ∃ (q1 : Nat), ∃ (q2 : Nat), ∃ (q3 : Nat), ∃ (q4 : Nat), ∃ (q5 : Nat), ∃ (q6 : Nat), ∃ (q7 : Nat), ∃ (cB1 : ClassId), ∃ (cB2 : ClassId), ∃ (cB3 : ClassId), ∃ (cB5 : ClassId), ∃ (cB7 : ClassId), ∃ (g1 : Nat → Option Nat), ∃ (g2 : Nat → Option Nat), ∃ (g3 : Nat → Int32), g1 0 = some q4 ∧ g2 0 = some q6 ∧ (∀ j, j < 26 → g3 j = -1) ∧ va_P (dC, dI) vwCl [(h0, .inr (2, [.ref q1, .ref q2, .int 0, .int 0, .int p0, .ref q3, .int 0, .null])), (q1, .inl (cB1, 4, .inr (.inr (.inr (.inr g1))))), (q2, .inl (cB2, 4, .inr (.inr (.inr (.inr g2))))), (q3, .inl (cB3, 26, .inl g3)), (q4, .inr (8, [.int p0, .int 0, .ref q5, .int 0, .int 0, .int 0, .int 0])), (q5, .inl (cB5, 3, .inl (fun _ => 0))), (q6, .inr (8, [.int p0, .int 0, .ref q7, .int 0, .int 0, .int 0, .int 0])), (q7, .inl (cB7, 3, .inl (fun _ => 0)))] t.heap ∧ va_K (dC, dI) vwCl [(cB1, .object RX8), (cB2, .object RX8), (cB3, .int), (cB5, .int), (cB7, .int)] t ∧ va_D A [(h0, .inr (2, [.ref q1, .ref q2, .int 0, .int 0, .int p0, .ref q3, .int 0, .null])), (q1, .inl (cB1, 4, .inr (.inr (.inr (.inr g1))))), (q2, .inl (cB2, 4, .inr (.inr (.inr (.inr g2))))), (q3, .inl (cB3, 26, .inl g3)), (q4, .inr (8, [.int p0, .int 0, .ref q5, .int 0, .int 0, .int 0, .int 0])), (q5, .inl (cB5, 3, .inl (fun _ => 0))), (q6, .inr (8, [.int p0, .int 0, .ref q7, .int 0, .int 0, .int 0, .int 0])), (q7, .inl (cB7, 3, .inl (fun _ => 0)))]) A) ([.ref h0, .int p0] : List Value).toArray s 19 114 A) (F0 m 78 ls []) := by
    intro n
    induction n with
    | zero =>
      intro i g3 H locs ls hi9 hg3 hP hD hS hl
      obtain rfl : i = 26 := by omega
      have hl : lv_has ls 3 [(2, .int 26), (0, .ref h0), (1, .int p0)] := hl
      refine lv_iload_n hx hb dX2_init_78 rfl (lv_at hl 0 rfl) ?_
      refine lv_bipush (v := 26) hx hb dX2_init_79 (by decide) ?_
      refine lv_icmp_ge (tgt := 97) hx hb dX2_init_81 (by decide) (fun _ => ?_) (fun c_36 => absurd (by decide) c_36)
      have hP9 := hP.sub (ws' := [(h0, .inr (2, [.ref q_1, .ref q_3, .int 0, .int 0, .int p0, .ref q_34, .int 0, .null])), (q_1, .inl (cA_2, 4, .inr (.inr (.inr (.inr (va_up (va_up (va_up (va_up (fun _ => none) (0 : Int32).toNatClampNeg (some q_6)) (1 : Int32).toNatClampNeg (some q_13)) (2 : Int32).toNatClampNeg (some q_20)) (3 : Int32).toNatClampNeg (some q_27))))))), (q_3, .inl (cA_4, 4, .inr (.inr (.inr (.inr (va_up (va_up (va_up (va_up (fun _ => none) (0 : Int32).toNatClampNeg (some q_9)) (1 : Int32).toNatClampNeg (some q_16)) (2 : Int32).toNatClampNeg (some q_23)) (3 : Int32).toNatClampNeg (some q_30))))))), (q_34, .inl (cA_35, 26, .inl g3)), (q_6, .inr (8, [.int p0, .int 0, .ref q1_7, .int 0, .int 0, .int 0, .int 0])), (q1_7, .inl (cA1_8, 3, .inl (fun _ => 0))), (q_9, .inr (8, [.int p0, .int 0, .ref q1_10, .int 0, .int 0, .int 0, .int 0])), (q1_10, .inl (cA1_11, 3, .inl (fun _ => 0)))]) [0, 1, 2, 7, 3, 4, 5, 6] rfl
      have hD9 := hD.sub (ws' := [(h0, .inr (2, [.ref q_1, .ref q_3, .int 0, .int 0, .int p0, .ref q_34, .int 0, .null])), (q_1, .inl (cA_2, 4, .inr (.inr (.inr (.inr (va_up (va_up (va_up (va_up (fun _ => none) (0 : Int32).toNatClampNeg (some q_6)) (1 : Int32).toNatClampNeg (some q_13)) (2 : Int32).toNatClampNeg (some q_20)) (3 : Int32).toNatClampNeg (some q_27))))))), (q_3, .inl (cA_4, 4, .inr (.inr (.inr (.inr (va_up (va_up (va_up (va_up (fun _ => none) (0 : Int32).toNatClampNeg (some q_9)) (1 : Int32).toNatClampNeg (some q_16)) (2 : Int32).toNatClampNeg (some q_23)) (3 : Int32).toNatClampNeg (some q_30))))))), (q_34, .inl (cA_35, 26, .inl g3)), (q_6, .inr (8, [.int p0, .int 0, .ref q1_7, .int 0, .int 0, .int 0, .int 0])), (q1_7, .inl (cA1_8, 3, .inl (fun _ => 0))), (q_9, .inr (8, [.int p0, .int 0, .ref q1_10, .int 0, .int 0, .int 0, .int 0])), (q1_10, .inl (cA1_11, 3, .inl (fun _ => 0)))]) [0, 1, 2, 7, 3, 4, 5, 6] (by decide) rfl
      have hK9 := hK.sub (tys' := [(cA_2, .object RX8), (cA_4, .object RX8), (cA_35, .int), (cA1_8, .int), (cA1_11, .int)]) [0, 1, 4, 2, 3] rfl
      refine W.widen (k := 19) (n := 114) (Nat.le_of_ble_eq_true rfl) (Nat.le_of_ble_eq_true rfl) ?_
      exact W.vret hx hb hr (fun t ht hW => ⟨⟨(), rfl, trivial, q_1, q_3, q_34, q_6, q1_7, q_9, q1_10, cA_2, cA_4, cA_35, cA1_8, cA1_11, (va_up (va_up (va_up (va_up (fun _ => none) (0 : Int32).toNatClampNeg (some q_6)) (1 : Int32).toNatClampNeg (some q_13)) (2 : Int32).toNatClampNeg (some q_20)) (3 : Int32).toNatClampNeg (some q_27)), (va_up (va_up (va_up (va_up (fun _ => none) (0 : Int32).toNatClampNeg (some q_9)) (1 : Int32).toNatClampNeg (some q_16)) (2 : Int32).toNatClampNeg (some q_23)) (3 : Int32).toNatClampNeg (some q_30)), g3, (by first | rfl | simp [va_up]), (by first | rfl | simp [va_up]), (hg3), by rw [ht]; exact hP9, va_K.moved hW.alike hK9, hD9⟩, hS.F ht⟩) hS.2.2 dX2_init_97
    | succ n ih =>
      intro i g3 H locs ls hi9 hg3 hP hD hS hl
      have hlt : i < 26 := by omega
      refine lv_iload_n hx hb dX2_init_78 rfl (lv_at hl 0 rfl) ?_
      refine lv_bipush (v := 26) hx hb dX2_init_79 (by decide) ?_
      refine lv_icmp_ge (tgt := 97) hx hb dX2_init_81 (by decide) (fun c_37 => absurd c_37 (nI_ge hlt (by decide))) (fun _ => ?_)
      refine lv_aload_n hx hb dX2_init_84 rfl (lv_at hl 1 rfl) ?_
      refine va_get (D := (dC, dI)) (ci := 2) (v := .ref q_34) (C := RX2) (T := TX2) (N := 8) hx hb htb inX2 hown hK hP 0 rfl rfl 5 (by decide) (htb _ kw_137) (fun _ h9 => h9) rfl dX2_init_85 ?_
      refine lv_iload_n hx hb dX2_init_88 rfl (lv_at hl 0 rfl) ?_
      refine lv_iconst (v := (-1)) hx hb dX2_init_89 (by decide) ?_
      refine va_iast (D := (dC, dI)) hx hb hK hP hD hS 7 4 rfl rfl (vp_in_nI hlt (by decide)) dX2_init_90 (fun H locs hP hD hS => ?_)
      have hP : va_P (dC, dI) vwCl [(h0, .inr (2, [.ref q_1, .ref q_3, .int 0, .int 0, .int p0, .ref q_34, .int 0, .null])), (q_1, .inl (cA_2, 4, .inr (.inr (.inr (.inr (va_up (va_up (va_up (va_up (fun _ => none) (0 : Int32).toNatClampNeg (some q_6)) (1 : Int32).toNatClampNeg (some q_13)) (2 : Int32).toNatClampNeg (some q_20)) (3 : Int32).toNatClampNeg (some q_27))))))), (q_3, .inl (cA_4, 4, .inr (.inr (.inr (.inr (va_up (va_up (va_up (va_up (fun _ => none) (0 : Int32).toNatClampNeg (some q_9)) (1 : Int32).toNatClampNeg (some q_16)) (2 : Int32).toNatClampNeg (some q_23)) (3 : Int32).toNatClampNeg (some q_30))))))), (q_6, .inr (8, [.int p0, .int 0, .ref q1_7, .int 0, .int 0, .int 0, .int 0])), (q1_7, .inl (cA1_8, 3, .inl (fun _ => 0))), (q_9, .inr (8, [.int p0, .int 0, .ref q1_10, .int 0, .int 0, .int 0, .int 0])), (q1_10, .inl (cA1_11, 3, .inl (fun _ => 0))), (q_34, .inl (cA_35, 26, .inl (upd g3 (nI i : Int32).toNatClampNeg (-1))))] H := hP
      have hD : va_D A [(h0, .inr (2, [.ref q_1, .ref q_3, .int 0, .int 0, .int p0, .ref q_34, .int 0, .null])), (q_1, .inl (cA_2, 4, .inr (.inr (.inr (.inr (va_up (va_up (va_up (va_up (fun _ => none) (0 : Int32).toNatClampNeg (some q_6)) (1 : Int32).toNatClampNeg (some q_13)) (2 : Int32).toNatClampNeg (some q_20)) (3 : Int32).toNatClampNeg (some q_27))))))), (q_3, .inl (cA_4, 4, .inr (.inr (.inr (.inr (va_up (va_up (va_up (va_up (fun _ => none) (0 : Int32).toNatClampNeg (some q_9)) (1 : Int32).toNatClampNeg (some q_16)) (2 : Int32).toNatClampNeg (some q_23)) (3 : Int32).toNatClampNeg (some q_30))))))), (q_6, .inr (8, [.int p0, .int 0, .ref q1_7, .int 0, .int 0, .int 0, .int 0])), (q1_7, .inl (cA1_8, 3, .inl (fun _ => 0))), (q_9, .inr (8, [.int p0, .int 0, .ref q1_10, .int 0, .int 0, .int 0, .int 0])), (q1_10, .inl (cA1_11, 3, .inl (fun _ => 0))), (q_34, .inl (cA_35, 26, .inl (upd g3 (nI i : Int32).toNatClampNeg (-1))))] := hD
      refine lv_iinc (v := nI (i + 1)) (lv' := [(2, .int (nI (i + 1))), (0, .ref h0), (1, .int p0)]) hx hb dX2_init_91 hl (k := 0) rfl (nI_1 i) (by decide) rfl (fun ls hl => ?_)
      refine lv_goto (tgt := 78) hx hb dX2_init_94 (by decide) ?_
      exact ih (i + 1) (upd g3 (nI i : Int32).toNatClampNeg (-1)) _ _ _ (by omega) (fill_s (by omega) hg3) (hP.sub [0, 1, 2, 3, 4, 5, 6, 7] rfl) (hD.sub [0, 1, 2, 3, 4, 5, 6, 7] (by decide) rfl) hS (lv_sub hl [0, 1, 2] rfl)
  exact hloop 26 0 (fun _ => 0) _ _ _ rfl (fun _ h => absurd h (Nat.not_lt_zero _)) hP hD hS hl
