set_option maxHeartbeats 4000000 in
set_option maxRecDepth 100000 in
theorem c_X12_fault (l : Launch) (dC : Nat → ClassId) (dI : Nat → Nat → Nat) (sz : Nat) (h0 : Nat) (p0 : Int32) (a1 : Nat) (a2 : Nat) (a3 : Nat) (a4 : Nat) (a5 : Nat) (a6 : Nat) (a7 : Nat) (a8 : Nat) (mk1 : Nat) (mk2 : Nat) (mk3 : Nat) (mk4 : Nat) (mk5 : Nat) : Met l yX12_fault wm_X12_fault ({ frames := 1, cells := 0, slots := 0, locals := 20 }) (va_Pc [.ref h0, .int p0] (fun U => U.heap.size = sz ∧ va_P (dC, dI) vwCl [(h0, .inr (11, [.ref a1, .ref a2, .ref a3, .ref a4, .ref a5, .ref a6, .ref a7, .ref a8, .int 0, .int 0, .int 0, .int (-1)])), (a8, .inr (5, [.ref a6, .ref a1, .ref a7, .ref mk1, .ref mk2, .int 0, .ref mk3, .int 0, .ref mk4, .ref mk5, .null, .int 0, .int (-1)]))] U.heap ∧ va_K (dC, dI) vwCl [] U ∧ va_D (fun _ => True) [(h0, .inr (11, [.ref a1, .ref a2, .ref a3, .ref a4, .ref a5, .ref a6, .ref a7, .ref a8, .int 0, .int 0, .int 0, .int (-1)])), (a8, .inr (5, [.ref a6, .ref a1, .ref a7, .ref mk1, .ref mk2, .int 0, .ref mk3, .int 0, .ref mk4, .ref mk5, .null, .int 0, .int (-1)]))])) (va_Qi (fun (r : Int32) (_ : Unit) => r = zFau p0) (fun _ t => va_P (dC, dI) vwCl [] t.heap ∧ va_K (dC, dI) vwCl [] t ∧ va_D (va_A [(h0, .inr (11, [.ref a1, .ref a2, .ref a3, .ref a4, .ref a5, .ref a6, .ref a7, .ref a8, .int 0, .int 0, .int 0, .int (-1)])), (a8, .inr (5, [.ref a6, .ref a1, .ref a7, .ref mk1, .ref mk2, .int 0, .ref mk3, .int 0, .ref mk4, .ref mk5, .null, .int 0, .int (-1)]))] sz) []) (va_A [(h0, .inr (11, [.ref a1, .ref a2, .ref a3, .ref a4, .ref a5, .ref a6, .ref a7, .ref a8, .int 0, .int 0, .int 0, .int (-1)])), (a8, .inr (5, [.ref a6, .ref a1, .ref a7, .ref mk1, .ref mk2, .int 0, .ref mk3, .int 0, .ref mk4, .ref mk5, .null, .int 0, .int (-1)]))] sz)) 0 0 (va_A [(h0, .inr (11, [.ref a1, .ref a2, .ref a3, .ref a4, .ref a5, .ref a6, .ref a7, .ref a8, .int 0, .int 0, .int 0, .int (-1)])), (a8, .inr (5, [.ref a6, .ref a1, .ref a7, .ref mk1, .ref mk2, .int 0, .ref mk3, .int 0, .ref mk4, .ref mk5, .null, .int 0, .int (-1)]))] sz) := by
  refine Met.ofW (cc := cX12_fault) (maxL := 2) (ret := (some .int)) (by decide) rfl ?_
  intro p e s m args below meth c s₁ B hml hv
  obtain ⟨rfl, hsz, hP, hK, hD0⟩ := hv
  have hx := B.exec
  have hb := B.bytes
  have hr := B.returns
  have hts := atoms_spec (ws := wm_X12_fault) B.pre
  have htb := fun (w : Cond) (h : w ∈ tb) => hts w (List.mem_cons_of_mem _ h)
  have hown : s.vm.findClass RX12 = some m.cls := findClass_of_methodNamed B.named
  have hlocks := B.notSynchronized
  subst hsz
  have hD := hD0.self (sz := s.heap.size)
  generalize hAe : va_A [(h0, .inr (11, [.ref a1, .ref a2, .ref a3, .ref a4, .ref a5, .ref a6, .ref a7, .ref a8, .int 0, .int 0, .int 0, .int (-1)])), (a8, .inr (5, [.ref a6, .ref a1, .ref a7, .ref mk1, .ref mk2, .int 0, .ref mk3, .int 0, .ref mk4, .ref mk5, .null, .int 0, .int (-1)]))] s.heap.size = A at hD ⊢
  have hA : ∀ q : Nat, s.heap.size ≤ q → A q := fun q h => by rw [← hAe]; exact Or.inr h
  have hS : va_S A s.heap s.heap [] := va_S.rf
  have hP : va_P (dC, dI) vwCl [(h0, .inr (11, [.ref a1, .ref a2, .ref a3, .ref a4, .ref a5, .ref a6, .ref a7, .ref a8, .int 0, .int 0, .int 0, .int (-1)])), (a8, .inr (5, [.ref a6, .ref a1, .ref a7, .ref mk1, .ref mk2, .int 0, .ref mk3, .int 0, .ref mk4, .ref mk5, .null, .int 0, .int (-1)]))] s.heap := hP
  have hl := lv_entry ([.ref h0, .int p0]) (n := 2) (Nat.le_of_ble_eq_true rfl)
  rw [lg_entry_eq]
  generalize (lg_sl ([.ref h0, .int p0]) ++ List.replicate (2 - (lg_sl ([.ref h0, .int p0])).length) Slot.unset).toArray = ls at hl ⊢
  have hl : lv_has ls 2 [(0, .ref h0), (1, .int p0)] := hl
  refine lv_iload_n hx hb dX12_fault_0 rfl (lv_at hl 1 rfl) ?_
  rcases tsw_4 p0 with c_1 | c_1 | c_1 | c_1 | c_1
  · refine lv_tableIn (tgt := 32) hx hb dX12_fault_1 (by rw [c_1]; decide) (by rw [c_1]; decide) (by rw [c_1]; rfl) (by decide) ?_
    refine lv_aload_n hx hb dX12_fault_32 rfl (lv_at hl 0 rfl) ?_
    refine va_get (D := (dC, dI)) (ci := 11) (v := .int 0) (C := RX12) (T := TX12) (N := 12) hx hb htb inX12 hown hK hP 0 rfl rfl 10 (by decide) (htb _ kw_75) (fun _ h9 => h9) rfl dX12_fault_33 ?_
    have hP9 := hP.sub (ws' := []) [] rfl
    have hD9 := hD.sub (ws' := []) [] (by decide) rfl
    have hK9 := hK.sub (tys' := []) [] rfl
    refine W.widen (k := 0) (n := 0) (Nat.le_of_ble_eq_true rfl) (Nat.le_of_ble_eq_true rfl) ?_
    exact W.iret (v := 0) hx hb hr (fun t ht hW => ⟨⟨0, (), rfl, (by rw [c_1]; decide), by rw [ht]; exact hP9, va_K.moved hW.alike hK9, hD9⟩, hS.F ht⟩) hS.2.2 dX12_fault_36
  · refine lv_tableIn (tgt := 37) hx hb dX12_fault_1 (by rw [c_1]; decide) (by rw [c_1]; decide) (by rw [c_1]; rfl) (by decide) ?_
    refine lv_aload_n hx hb dX12_fault_37 rfl (lv_at hl 0 rfl) ?_
    refine va_get (D := (dC, dI)) (ci := 11) (v := .int (-1)) (C := RX12) (T := TX12) (N := 12) hx hb htb inX12 hown hK hP 0 rfl rfl 11 (by decide) (htb _ kw_46) (fun _ h9 => h9) rfl dX12_fault_38 ?_
    have hP9 := hP.sub (ws' := []) [] rfl
    have hD9 := hD.sub (ws' := []) [] (by decide) rfl
    have hK9 := hK.sub (tys' := []) [] rfl
    refine W.widen (k := 0) (n := 0) (Nat.le_of_ble_eq_true rfl) (Nat.le_of_ble_eq_true rfl) ?_
    exact W.iret (v := (-1)) hx hb hr (fun t ht hW => ⟨⟨(-1), (), rfl, (by rw [c_1]; decide), by rw [ht]; exact hP9, va_K.moved hW.alike hK9, hD9⟩, hS.F ht⟩) hS.2.2 dX12_fault_41
  · refine lv_tableIn (tgt := 42) hx hb dX12_fault_1 (by rw [c_1]; decide) (by rw [c_1]; decide) (by rw [c_1]; rfl) (by decide) ?_
    refine lv_aload_n hx hb dX12_fault_42 rfl (lv_at hl 0 rfl) ?_
    refine va_get (D := (dC, dI)) (ci := 11) (v := .ref a8) (C := RX12) (T := TX12) (N := 12) hx hb htb inX12 hown hK hP 0 rfl rfl 7 (by decide) (htb _ kw_45) (fun _ h9 => h9) rfl dX12_fault_43 ?_
    have hPc := hP.sub (ws' := [(a8, .inr (5, [.ref a6, .ref a1, .ref a7, .ref mk1, .ref mk2, .int 0, .ref mk3, .int 0, .ref mk4, .ref mk5, .null, .int 0, .int (-1)]))]) [1] rfl
    have hDc := hD.sub (ws' := [(a8, .inr (5, [.ref a6, .ref a1, .ref a7, .ref mk1, .ref mk2, .int 0, .ref mk3, .int 0, .ref mk4, .ref mk5, .null, .int 0, .int (-1)]))]) [1] (by decide) rfl
    have hKc := hK.sub (tys' := []) [] rfl
    have hFc := va_free (wc := [(a8, .inr (5, [.ref a6, .ref a1, .ref a7, .ref mk1, .ref mk2, .int 0, .ref mk3, .int 0, .ref mk4, .ref mk5, .null, .int 0, .int (-1)]))]) hD hS hA [1] rfl
    refine va_calli (va_runV (As := []) (rest := []) ⟨hx, hb, hml, hown, htb⟩ (c_X5_failure l dC dI s.heap.size a8 a6 a1 a7 mk1 mk2 mk3 mk4 mk5) (cwV 0 htb (gd_V kw_88 kw_89 kw_90 kw_41 kw_549) rfl rfl rfl (by decide +kernel) ⟨Nat.le_of_ble_eq_true rfl, Nat.le_of_ble_eq_true rfl⟩) ⟨fun a U g mk q => by obtain ⟨q0, q1, qP, qK, qD⟩ := q; exact ⟨q0, q1, qP, va_K.moved (u := U) (U := U.calling g mk a) (Vm.Alike.refl U.vm) qK, qD⟩, va_recv hKc hPc (ci := 5) (q0 := 0) rfl rfl, fun U hU hW => ⟨rfl, by rw [hU], by rw [hU]; exact hPc, va_K.moved hW.alike hKc, hDc.weaken (fun _ _ _ _ => trivial)⟩⟩ rfl rfl hl.1 rfl (lv_room (Nat.le_of_ble_eq_true rfl)) dX12_fault_46 ⟨(Nat.le_of_ble_eq_true rfl), (Nat.le_of_ble_eq_true rfl)⟩) hS (fun q _ h => hFc q h) hFc (fun r u t H1 locs ht hvm hw hB hz1 hk1 hS => ?_)
    subst hw
    obtain ⟨hP1, hK1, hD1⟩ := hB
    rw [ht] at hP1
    have hK1 := va_K.moved hvm.symm hK1
    obtain ⟨hP, hD⟩ := va_join (wr := [(h0, .inr (11, [.ref a1, .ref a2, .ref a3, .ref a4, .ref a5, .ref a6, .ref a7, .ref a8, .int 0, .int 0, .int 0, .int (-1)]))]) (w1 := []) hP hD [1] [0] rfl rfl (by decide) (by decide) hk1 hFc hP1 hD1
    have hK := hK.app hK1
    generalize H1 = H at hP hS ⊢
    have hP : va_P (dC, dI) vwCl [(h0, .inr (11, [.ref a1, .ref a2, .ref a3, .ref a4, .ref a5, .ref a6, .ref a7, .ref a8, .int 0, .int 0, .int 0, .int (-1)]))] H := hP
    have hD : va_D A [(h0, .inr (11, [.ref a1, .ref a2, .ref a3, .ref a4, .ref a5, .ref a6, .ref a7, .ref a8, .int 0, .int 0, .int 0, .int (-1)]))] := hD
    have hK : va_K (dC, dI) vwCl [] s := hK
    refine W.widen (k := 0) (n := 0) (Nat.le_of_ble_eq_true rfl) (Nat.le_of_ble_eq_true rfl) ?_
    have hP9 := hP.sub (ws' := []) [] rfl
    have hD9 := hD.sub (ws' := []) [] (by decide) rfl
    have hK9 := hK.sub (tys' := []) [] rfl
    refine W.widen (k := 0) (n := 0) (Nat.le_of_ble_eq_true rfl) (Nat.le_of_ble_eq_true rfl) ?_
    exact W.iret (v := 0) hx hb hr (fun t ht hW => ⟨⟨0, (), rfl, (by rw [c_1]; decide), by rw [ht]; exact hP9, va_K.moved hW.alike hK9, hD9⟩, hS.F ht⟩) hS.2.2 dX12_fault_49
  · refine lv_tableIn (tgt := 50) hx hb dX12_fault_1 (by rw [c_1]; decide) (by rw [c_1]; decide) (by rw [c_1]; rfl) (by decide) ?_
    refine lv_aload_n hx hb dX12_fault_50 rfl (lv_at hl 0 rfl) ?_
    refine va_get (D := (dC, dI)) (ci := 11) (v := .ref a8) (C := RX12) (T := TX12) (N := 12) hx hb htb inX12 hown hK hP 0 rfl rfl 7 (by decide) (htb _ kw_45) (fun _ h9 => h9) rfl dX12_fault_51 ?_
    have hPc := hP.sub (ws' := [(a8, .inr (5, [.ref a6, .ref a1, .ref a7, .ref mk1, .ref mk2, .int 0, .ref mk3, .int 0, .ref mk4, .ref mk5, .null, .int 0, .int (-1)]))]) [1] rfl
    have hDc := hD.sub (ws' := [(a8, .inr (5, [.ref a6, .ref a1, .ref a7, .ref mk1, .ref mk2, .int 0, .ref mk3, .int 0, .ref mk4, .ref mk5, .null, .int 0, .int (-1)]))]) [1] (by decide) rfl
    have hKc := hK.sub (tys' := []) [] rfl
    have hFc := va_free (wc := [(a8, .inr (5, [.ref a6, .ref a1, .ref a7, .ref mk1, .ref mk2, .int 0, .ref mk3, .int 0, .ref mk4, .ref mk5, .null, .int 0, .int (-1)]))]) hD hS hA [1] rfl
    refine va_calli (va_runV (As := []) (rest := []) ⟨hx, hb, hml, hown, htb⟩ (c_X5_failureBean l dC dI s.heap.size a8 a6 a1 a7 mk1 mk2 mk3 mk4 mk5) (cwV 0 htb (gd_V kw_91 kw_92 kw_93 kw_41 kw_550) rfl rfl rfl (by decide +kernel) ⟨Nat.le_of_ble_eq_true rfl, Nat.le_of_ble_eq_true rfl⟩) ⟨fun a U g mk q => by obtain ⟨q0, q1, qP, qK, qD⟩ := q; exact ⟨q0, q1, qP, va_K.moved (u := U) (U := U.calling g mk a) (Vm.Alike.refl U.vm) qK, qD⟩, va_recv hKc hPc (ci := 5) (q0 := 0) rfl rfl, fun U hU hW => ⟨rfl, by rw [hU], by rw [hU]; exact hPc, va_K.moved hW.alike hKc, hDc.weaken (fun _ _ _ _ => trivial)⟩⟩ rfl rfl hl.1 rfl (lv_room (Nat.le_of_ble_eq_true rfl)) dX12_fault_54 ⟨(Nat.le_of_ble_eq_true rfl), (Nat.le_of_ble_eq_true rfl)⟩) hS (fun q _ h => hFc q h) hFc (fun r u t H1 locs ht hvm hw hB hz1 hk1 hS => ?_)
    subst hw
    obtain ⟨hP1, hK1, hD1⟩ := hB
    rw [ht] at hP1
    have hK1 := va_K.moved hvm.symm hK1
    obtain ⟨hP, hD⟩ := va_join (wr := [(h0, .inr (11, [.ref a1, .ref a2, .ref a3, .ref a4, .ref a5, .ref a6, .ref a7, .ref a8, .int 0, .int 0, .int 0, .int (-1)]))]) (w1 := []) hP hD [1] [0] rfl rfl (by decide) (by decide) hk1 hFc hP1 hD1
    have hK := hK.app hK1
    generalize H1 = H at hP hS ⊢
    have hP : va_P (dC, dI) vwCl [(h0, .inr (11, [.ref a1, .ref a2, .ref a3, .ref a4, .ref a5, .ref a6, .ref a7, .ref a8, .int 0, .int 0, .int 0, .int (-1)]))] H := hP
    have hD : va_D A [(h0, .inr (11, [.ref a1, .ref a2, .ref a3, .ref a4, .ref a5, .ref a6, .ref a7, .ref a8, .int 0, .int 0, .int 0, .int (-1)]))] := hD
    have hK : va_K (dC, dI) vwCl [] s := hK
    refine W.widen (k := 0) (n := 0) (Nat.le_of_ble_eq_true rfl) (Nat.le_of_ble_eq_true rfl) ?_
    have hP9 := hP.sub (ws' := []) [] rfl
    have hD9 := hD.sub (ws' := []) [] (by decide) rfl
    have hK9 := hK.sub (tys' := []) [] rfl
    refine W.widen (k := 0) (n := 0) (Nat.le_of_ble_eq_true rfl) (Nat.le_of_ble_eq_true rfl) ?_
    exact W.iret (v := (-1)) hx hb hr (fun t ht hW => ⟨⟨(-1), (), rfl, (by rw [c_1]; decide), by rw [ht]; exact hP9, va_K.moved hW.alike hK9, hD9⟩, hS.F ht⟩) hS.2.2 dX12_fault_57
  · refine lv_tableOut (tgt := 58) hx hb dX12_fault_1 c_1 (by decide) ?_
    refine lv_iconst (v := (-1)) hx hb dX12_fault_58 (by decide) ?_
    have hP9 := hP.sub (ws' := []) [] rfl
    have hD9 := hD.sub (ws' := []) [] (by decide) rfl
    have hK9 := hK.sub (tys' := []) [] rfl
    refine W.widen (k := 0) (n := 0) (Nat.le_of_ble_eq_true rfl) (Nat.le_of_ble_eq_true rfl) ?_
    exact W.iret (v := (-1)) hx hb hr (fun t ht hW => ⟨⟨(-1), (), rfl, (zFau_out c_1), by rw [ht]; exact hP9, va_K.moved hW.alike hK9, hD9⟩, hS.F ht⟩) hS.2.2 dX12_fault_59

set_option maxHeartbeats 4000000 in
set_option maxRecDepth 100000 in
theorem c_X12_read (l : Launch) (dC : Nat → ClassId) (dI : Nat → Nat → Nat) (sz : Nat) (h0 : Nat) (a1 : Nat) (a2 : Nat) (a3 : Nat) (a4 : Nat) (a5 : Nat) (a6 : Nat) (a7 : Nat) (a8 : Nat) (mk1 : Nat) (mk2 : Nat) (mk3 : Nat) (mk4 : Nat) (mk5 : Nat) (wb : Nat) (wc : Nat) (rn : Nat) (pe1 : Nat) (pe2 : Nat) (pe3 : Nat) (pe4 : Nat) (pe5 : Nat) (hl9 : l.stackTraces = false) : vx_Met l yX12_read wm_X12_read ({ frames := 9, cells := 2, slots := 12, locals := 168 }) (va_Pc [.ref h0] (fun U => U.heap.size = sz ∧ va_P (dC, dI) vwCl [(h0, .inr (11, [.ref a1, .ref a2, .ref a3, .ref a4, .ref a5, .ref a6, .ref a7, .ref a8, .int 0, .int 0, .int 0, .int (-1)])), (a8, .inr (5, [.ref a6, .ref a1, .ref a7, .ref mk1, .ref mk2, .int 0, .ref mk3, .int 0, .ref mk4, .ref mk5, .null, .int 0, .int (-1)])), (a6, .inr (10, [.ref a3, .ref wb, .ref wc, .int 0])), (a7, .inr (4, [.ref rn, .int 0])), (a4, .inr (7, [.ref a3, .null, .int 0, .int 0, .int 0, .null])), (a3, .inr (6, [.ref pe1, .ref pe2, .ref pe3, .ref pe4, .ref pe5, .int 0, .int 0, .int 0]))] U.heap ∧ va_K (dC, dI) vwCl [] U ∧ va_D (fun _ => True) [(h0, .inr (11, [.ref a1, .ref a2, .ref a3, .ref a4, .ref a5, .ref a6, .ref a7, .ref a8, .int 0, .int 0, .int 0, .int (-1)])), (a8, .inr (5, [.ref a6, .ref a1, .ref a7, .ref mk1, .ref mk2, .int 0, .ref mk3, .int 0, .ref mk4, .ref mk5, .null, .int 0, .int (-1)])), (a6, .inr (10, [.ref a3, .ref wb, .ref wc, .int 0])), (a7, .inr (4, [.ref rn, .int 0])), (a4, .inr (7, [.ref a3, .null, .int 0, .int 0, .int 0, .null])), (a3, .inr (6, [.ref pe1, .ref pe2, .ref pe3, .ref pe4, .ref pe5, .int 0, .int 0, .int 0]))] ∧ GE (va_A [(h0, .inr (11, [.ref a1, .ref a2, .ref a3, .ref a4, .ref a5, .ref a6, .ref a7, .ref a8, .int 0, .int 0, .int 0, .int (-1)])), (a8, .inr (5, [.ref a6, .ref a1, .ref a7, .ref mk1, .ref mk2, .int 0, .ref mk3, .int 0, .ref mk4, .ref mk5, .null, .int 0, .int (-1)])), (a6, .inr (10, [.ref a3, .ref wb, .ref wc, .int 0])), (a7, .inr (4, [.ref rn, .int 0])), (a4, .inr (7, [.ref a3, .null, .int 0, .int 0, .int 0, .null])), (a3, .inr (6, [.ref pe1, .ref pe2, .ref pe3, .ref pe4, .ref pe5, .int 0, .int 0, .int 0]))] sz) U)) (va_Qi (fun (_ : Int32) (_ : Unit) => False) (fun _ _ => True) (va_A [(h0, .inr (11, [.ref a1, .ref a2, .ref a3, .ref a4, .ref a5, .ref a6, .ref a7, .ref a8, .int 0, .int 0, .int 0, .int (-1)])), (a8, .inr (5, [.ref a6, .ref a1, .ref a7, .ref mk1, .ref mk2, .int 0, .ref mk3, .int 0, .ref mk4, .ref mk5, .null, .int 0, .int (-1)])), (a6, .inr (10, [.ref a3, .ref wb, .ref wc, .int 0])), (a7, .inr (4, [.ref rn, .int 0])), (a4, .inr (7, [.ref a3, .null, .int 0, .int 0, .int 0, .null])), (a3, .inr (6, [.ref pe1, .ref pe2, .ref pe3, .ref pe4, .ref pe5, .int 0, .int 0, .int 0]))] sz)) (vx_X (fun _ : Unit => True) (fun E _ t => E = "java/lang/IllegalArgumentException" ∧ va_P (dC, dI) vwCl [] t.heap ∧ va_K (dC, dI) vwCl [] t ∧ va_D (va_A [(h0, .inr (11, [.ref a1, .ref a2, .ref a3, .ref a4, .ref a5, .ref a6, .ref a7, .ref a8, .int 0, .int 0, .int 0, .int (-1)])), (a8, .inr (5, [.ref a6, .ref a1, .ref a7, .ref mk1, .ref mk2, .int 0, .ref mk3, .int 0, .ref mk4, .ref mk5, .null, .int 0, .int (-1)])), (a6, .inr (10, [.ref a3, .ref wb, .ref wc, .int 0])), (a7, .inr (4, [.ref rn, .int 0])), (a4, .inr (7, [.ref a3, .null, .int 0, .int 0, .int 0, .null])), (a3, .inr (6, [.ref pe1, .ref pe2, .ref pe3, .ref pe4, .ref pe5, .int 0, .int 0, .int 0]))] sz) []) (va_A [(h0, .inr (11, [.ref a1, .ref a2, .ref a3, .ref a4, .ref a5, .ref a6, .ref a7, .ref a8, .int 0, .int 0, .int 0, .int (-1)])), (a8, .inr (5, [.ref a6, .ref a1, .ref a7, .ref mk1, .ref mk2, .int 0, .ref mk3, .int 0, .ref mk4, .ref mk5, .null, .int 0, .int (-1)])), (a6, .inr (10, [.ref a3, .ref wb, .ref wc, .int 0])), (a7, .inr (4, [.ref rn, .int 0])), (a4, .inr (7, [.ref a3, .null, .int 0, .int 0, .int 0, .null])), (a3, .inr (6, [.ref pe1, .ref pe2, .ref pe3, .ref pe4, .ref pe5, .int 0, .int 0, .int 0]))] sz)) 2 12 (va_A [(h0, .inr (11, [.ref a1, .ref a2, .ref a3, .ref a4, .ref a5, .ref a6, .ref a7, .ref a8, .int 0, .int 0, .int 0, .int (-1)])), (a8, .inr (5, [.ref a6, .ref a1, .ref a7, .ref mk1, .ref mk2, .int 0, .ref mk3, .int 0, .ref mk4, .ref mk5, .null, .int 0, .int (-1)])), (a6, .inr (10, [.ref a3, .ref wb, .ref wc, .int 0])), (a7, .inr (4, [.ref rn, .int 0])), (a4, .inr (7, [.ref a3, .null, .int 0, .int 0, .int 0, .null])), (a3, .inr (6, [.ref pe1, .ref pe2, .ref pe3, .ref pe4, .ref pe5, .int 0, .int 0, .int 0]))] sz) := by
  refine vx_ofW (cc := cX12_read) (maxL := 1) (ret := (some .int)) (by decide) rfl ?_
  intro p e s m args below meth c s₁ B hml hxt hv
  obtain ⟨rfl, hsz, hP, hK, hD0, hG⟩ := hv
  have hx := B.exec
  have hb := B.bytes
  have hr := B.returns
  have hts := atoms_spec (ws := wm_X12_read) B.pre
  have htb := fun (w : Cond) (h : w ∈ tb) => hts w (List.mem_cons_of_mem _ h)
  have hown : s.vm.findClass RX12 = some m.cls := findClass_of_methodNamed B.named
  have hlocks := B.notSynchronized
  subst hsz
  have hD := hD0.self (sz := s.heap.size)
  generalize hAe : va_A [(h0, .inr (11, [.ref a1, .ref a2, .ref a3, .ref a4, .ref a5, .ref a6, .ref a7, .ref a8, .int 0, .int 0, .int 0, .int (-1)])), (a8, .inr (5, [.ref a6, .ref a1, .ref a7, .ref mk1, .ref mk2, .int 0, .ref mk3, .int 0, .ref mk4, .ref mk5, .null, .int 0, .int (-1)])), (a6, .inr (10, [.ref a3, .ref wb, .ref wc, .int 0])), (a7, .inr (4, [.ref rn, .int 0])), (a4, .inr (7, [.ref a3, .null, .int 0, .int 0, .int 0, .null])), (a3, .inr (6, [.ref pe1, .ref pe2, .ref pe3, .ref pe4, .ref pe5, .int 0, .int 0, .int 0]))] s.heap.size = A at hD hG ⊢
  have hA : ∀ q : Nat, s.heap.size ≤ q → A q := fun q h => by rw [← hAe]; exact Or.inr h
  have hS : va_S A s.heap s.heap [] := va_S.rf
  have hP : va_P (dC, dI) vwCl [(h0, .inr (11, [.ref a1, .ref a2, .ref a3, .ref a4, .ref a5, .ref a6, .ref a7, .ref a8, .int 0, .int 0, .int 0, .int (-1)])), (a8, .inr (5, [.ref a6, .ref a1, .ref a7, .ref mk1, .ref mk2, .int 0, .ref mk3, .int 0, .ref mk4, .ref mk5, .null, .int 0, .int (-1)])), (a6, .inr (10, [.ref a3, .ref wb, .ref wc, .int 0])), (a7, .inr (4, [.ref rn, .int 0])), (a4, .inr (7, [.ref a3, .null, .int 0, .int 0, .int 0, .null])), (a3, .inr (6, [.ref pe1, .ref pe2, .ref pe3, .ref pe4, .ref pe5, .int 0, .int 0, .int 0]))] s.heap := hP
  have hl := lv_entry ([.ref h0]) (n := 1) (Nat.le_of_ble_eq_true rfl)
  rw [lg_entry_eq]
  generalize (lg_sl ([.ref h0]) ++ List.replicate (1 - (lg_sl ([.ref h0])).length) Slot.unset).toArray = ls at hl ⊢
  have hl : lv_has ls 1 [(0, .ref h0)] := hl
  refine lv_aload_n hx hb dX12_read_0 rfl (lv_at hl 0 rfl) ?_
  refine va_get (D := (dC, dI)) (ci := 11) (v := .ref a8) (C := RX12) (T := TX12) (N := 12) hx hb htb inX12 hown hK hP 0 rfl rfl 7 (by decide) (htb _ kw_45) (fun _ h9 => h9) rfl dX12_read_1 ?_
  have hPc := hP.sub (ws' := [(a8, .inr (5, [.ref a6, .ref a1, .ref a7, .ref mk1, .ref mk2, .int 0, .ref mk3, .int 0, .ref mk4, .ref mk5, .null, .int 0, .int (-1)])), (a6, .inr (10, [.ref a3, .ref wb, .ref wc, .int 0])), (a7, .inr (4, [.ref rn, .int 0]))]) [1, 2, 3] rfl
  have hDc := hD.sub (ws' := [(a8, .inr (5, [.ref a6, .ref a1, .ref a7, .ref mk1, .ref mk2, .int 0, .ref mk3, .int 0, .ref mk4, .ref mk5, .null, .int 0, .int (-1)])), (a6, .inr (10, [.ref a3, .ref wb, .ref wc, .int 0])), (a7, .inr (4, [.ref rn, .int 0]))]) [1, 2, 3] (by decide) rfl
  have hKc := hK.sub (tys' := []) [] rfl
  have hFc := va_free (wc := [(a8, .inr (5, [.ref a6, .ref a1, .ref a7, .ref mk1, .ref mk2, .int 0, .ref mk3, .int 0, .ref mk4, .ref mk5, .null, .int 0, .int (-1)])), (a6, .inr (10, [.ref a3, .ref wb, .ref wc, .int 0])), (a7, .inr (4, [.ref rn, .int 0]))]) hD hS hA [1, 2, 3] rfl
  refine va_callv (va_runV (As := []) (rest := []) ⟨hx, hb, hml, hown, htb⟩ (c_X5_startAfresh l dC dI s.heap.size a8 a6 a1 a7 mk1 mk2 mk3 mk4 mk5 a3 wb wc rn) (cwV 0 htb (gd_V kw_72 kw_73 kw_74 kw_41 kw_545) rfl rfl rfl (by decide +kernel) ⟨Nat.le_of_ble_eq_true rfl, Nat.le_of_ble_eq_true rfl⟩) ⟨fun a U g mk q => by obtain ⟨q0, q1, qP, qK, qD⟩ := q; exact ⟨q0, q1, qP, va_K.moved (u := U) (U := U.calling g mk a) (Vm.Alike.refl U.vm) qK, qD⟩, va_recv hKc hPc (ci := 5) (q0 := 0) rfl rfl, fun U hU hW => ⟨rfl, by rw [hU], by rw [hU]; exact hPc, va_K.moved hW.alike hKc, hDc.weaken (fun _ _ _ _ => trivial)⟩⟩ rfl rfl hl.1 rfl (lv_room (Nat.le_of_ble_eq_true rfl)) dX12_read_4 ⟨(Nat.le_of_ble_eq_true rfl), (Nat.le_of_ble_eq_true rfl)⟩) hS (fun q _ h => hFc q h) hFc (fun u t H1 locs ht hvm hw hB hz1 hk1 hS => ?_)
  obtain ⟨hP1, hK1, hD1⟩ := hB
  rw [ht] at hP1
  have hK1 := va_K.moved hvm.symm hK1
  obtain ⟨hP, hD⟩ := va_join (wr := [(h0, .inr (11, [.ref a1, .ref a2, .ref a3, .ref a4, .ref a5, .ref a6, .ref a7, .ref a8, .int 0, .int 0, .int 0, .int (-1)])), (a4, .inr (7, [.ref a3, .null, .int 0, .int 0, .int 0, .null])), (a3, .inr (6, [.ref pe1, .ref pe2, .ref pe3, .ref pe4, .ref pe5, .int 0, .int 0, .int 0]))]) (w1 := [(a6, .inr (10, [.ref a3, .ref wb, .ref wc, .int 0]))]) hP hD [1, 2, 3] [0, 4, 5] rfl rfl (by decide) (by decide) hk1 hFc hP1 hD1
  have hK := hK.app hK1
  generalize H1 = H at hP hS ⊢
  have hP : va_P (dC, dI) vwCl [(h0, .inr (11, [.ref a1, .ref a2, .ref a3, .ref a4, .ref a5, .ref a6, .ref a7, .ref a8, .int 0, .int 0, .int 0, .int (-1)])), (a4, .inr (7, [.ref a3, .null, .int 0, .int 0, .int 0, .null])), (a3, .inr (6, [.ref pe1, .ref pe2, .ref pe3, .ref pe4, .ref pe5, .int 0, .int 0, .int 0])), (a6, .inr (10, [.ref a3, .ref wb, .ref wc, .int 0]))] H := hP
  have hD : va_D A [(h0, .inr (11, [.ref a1, .ref a2, .ref a3, .ref a4, .ref a5, .ref a6, .ref a7, .ref a8, .int 0, .int 0, .int 0, .int (-1)])), (a4, .inr (7, [.ref a3, .null, .int 0, .int 0, .int 0, .null])), (a3, .inr (6, [.ref pe1, .ref pe2, .ref pe3, .ref pe4, .ref pe5, .int 0, .int 0, .int 0])), (a6, .inr (10, [.ref a3, .ref wb, .ref wc, .int 0]))] := hD
  have hK : va_K (dC, dI) vwCl [] s := hK
  refine W.widen (k := 0) (n := 0) (Nat.le_of_ble_eq_true rfl) (Nat.le_of_ble_eq_true rfl) ?_
  refine lv_aload_n hx hb dX12_read_7 rfl (lv_at hl 0 rfl) ?_
  refine lv_iconst (v := 1) hx hb dX12_read_8 (by decide) ?_
  refine va_put (D := (dC, dI)) (ci := 11) (v := .int 1) (ty := .int) (C := RX12) (T := TX12) (N := 12) hx hb htb inX12 tyX12 tyX12_ok nmX12 hown hK hP hD hS 0 rfl rfl 10 (by decide) (htb _ kw_75) (fun _ h9 => h9) rfl (tyX12_ok 10 (by decide)) rfl rfl (Nat.le_of_ble_eq_true rfl) dX12_read_9 (fun H locs hP hD hS => ?_)
  have hP : va_P (dC, dI) vwCl [(h0, .inr (11, [.ref a1, .ref a2, .ref a3, .ref a4, .ref a5, .ref a6, .ref a7, .ref a8, .int 0, .int 0, .int 1, .int (-1)])), (a4, .inr (7, [.ref a3, .null, .int 0, .int 0, .int 0, .null])), (a3, .inr (6, [.ref pe1, .ref pe2, .ref pe3, .ref pe4, .ref pe5, .int 0, .int 0, .int 0])), (a6, .inr (10, [.ref a3, .ref wb, .ref wc, .int 0]))] H := hP
  have hD : va_D A [(h0, .inr (11, [.ref a1, .ref a2, .ref a3, .ref a4, .ref a5, .ref a6, .ref a7, .ref a8, .int 0, .int 0, .int 1, .int (-1)])), (a4, .inr (7, [.ref a3, .null, .int 0, .int 0, .int 0, .null])), (a3, .inr (6, [.ref pe1, .ref pe2, .ref pe3, .ref pe4, .ref pe5, .int 0, .int 0, .int 0])), (a6, .inr (10, [.ref a3, .ref wb, .ref wc, .int 0]))] := hD
  refine lv_aload_n hx hb dX12_read_12 rfl (lv_at hl 0 rfl) ?_
  refine lv_aload_n hx hb dX12_read_13 rfl (lv_at hl 0 rfl) ?_
  refine va_get (D := (dC, dI)) (ci := 11) (v := .ref a4) (C := RX12) (T := TX12) (N := 12) hx hb htb inX12 hown hK hP 0 rfl rfl 3 (by decide) (htb _ kw_21) (fun _ h9 => h9) rfl dX12_read_14 ?_
  refine lv_aload_n hx hb dX12_read_17 rfl (lv_at hl 0 rfl) ?_
  refine va_get (D := (dC, dI)) (ci := 11) (v := .ref a2) (C := RX12) (T := TX12) (N := 12) hx hb htb inX12 hown hK hP 0 rfl rfl 1 (by decide) (htb _ kw_9) (fun _ h9 => h9) rfl dX12_read_18 ?_
  refine lv_aload_n hx hb dX12_read_21 rfl (lv_at hl 0 rfl) ?_
  refine va_get (D := (dC, dI)) (ci := 11) (v := .int 0) (C := RX12) (T := TX12) (N := 12) hx hb htb inX12 hown hK hP 0 rfl rfl 8 (by decide) (htb _ kw_68) (fun _ h9 => h9) rfl dX12_read_22 ?_
  have hPc := hP.sub (ws' := [(a4, .inr (7, [.ref a3, .null, .int 0, .int 0, .int 0, .null])), (a3, .inr (6, [.ref pe1, .ref pe2, .ref pe3, .ref pe4, .ref pe5, .int 0, .int 0, .int 0]))]) [1, 2] rfl
  have hDc := hD.sub (ws' := [(a4, .inr (7, [.ref a3, .null, .int 0, .int 0, .int 0, .null])), (a3, .inr (6, [.ref pe1, .ref pe2, .ref pe3, .ref pe4, .ref pe5, .int 0, .int 0, .int 0]))]) [1, 2] (by decide) rfl
  have hKc := hK.sub (tys' := []) [] rfl
  have hFc := va_free (wc := [(a4, .inr (7, [.ref a3, .null, .int 0, .int 0, .int 0, .null])), (a3, .inr (6, [.ref pe1, .ref pe2, .ref pe3, .ref pe4, .ref pe5, .int 0, .int 0, .int 0]))]) hD hS hA [1, 2] rfl
  refine vx_calli (vx_runVX (As := [.ref a2, .int 0]) (rest := [.ref h0]) ⟨hx, hb, hml, hown, htb⟩ (c_X7_firstWrongPlace l dC dI H.size a4 a2 a3 pe1 pe2 pe3 pe4 pe5 hl9) (vx_cwVW 2 htb (gd_V kw_76 kw_77 kw_78 kw_17 kw_546) rfl rfl rfl (by decide +kernel) ⟨Nat.le_of_ble_eq_true rfl, Nat.le_of_ble_eq_true rfl⟩) ⟨fun a U g mk q => by obtain ⟨q0, q1, qP, qK, qD, qG⟩ := q; exact ⟨q0, q1, qP, va_K.moved (u := U) (U := U.calling g mk a) (Vm.Alike.refl U.vm) qK, qD, GE.call g mk a qG⟩, va_recv hKc hPc (ci := 7) (q0 := 0) rfl rfl, fun U hU hW => ⟨rfl, by rw [hU], by rw [hU]; exact hPc, va_K.moved hW.alike hKc, hDc.weaken (fun _ _ _ _ => trivial), hG.go hS hFc hU hW⟩⟩ rfl rfl hl.1 rfl (lv_room (Nat.le_of_ble_eq_true rfl)) dX12_read_25 ⟨(Nat.le_of_ble_eq_true rfl), (Nat.le_of_ble_eq_true rfl)⟩) hS (fun q _ h => hFc q h) hFc (fun q _ h => hFc q h) (fun E ce q9 u t H1 locs ht hvm hw hB hz1 hk1 hS hce hcv hcl => ?_) (fun r u t H1 locs ht hvm hw hB hz1 hk1 hS => ?_)
  · exact hw.elim
  subst hw
  obtain ⟨hP1, hK1, hD1⟩ := hB
  rw [ht] at hP1
  have hK1 := va_K.moved hvm.symm hK1
  obtain ⟨hP, hD⟩ := va_join (wr := [(h0, .inr (11, [.ref a1, .ref a2, .ref a3, .ref a4, .ref a5, .ref a6, .ref a7, .ref a8, .int 0, .int 0, .int 1, .int (-1)])), (a6, .inr (10, [.ref a3, .ref wb, .ref wc, .int 0]))]) (w1 := []) hP hD [1, 2] [0, 3] rfl rfl (by decide) (by decide) hk1 hFc hP1 hD1
  have hK := hK.app hK1
  generalize H1 = H at hP hS ⊢
  have hP : va_P (dC, dI) vwCl [(h0, .inr (11, [.ref a1, .ref a2, .ref a3, .ref a4, .ref a5, .ref a6, .ref a7, .ref a8, .int 0, .int 0, .int 1, .int (-1)])), (a6, .inr (10, [.ref a3, .ref wb, .ref wc, .int 0]))] H := hP
  have hD : va_D A [(h0, .inr (11, [.ref a1, .ref a2, .ref a3, .ref a4, .ref a5, .ref a6, .ref a7, .ref a8, .int 0, .int 0, .int 1, .int (-1)])), (a6, .inr (10, [.ref a3, .ref wb, .ref wc, .int 0]))] := hD
  have hK : va_K (dC, dI) vwCl [] s := hK
  refine W.widen (k := 1) (n := 6) (Nat.le_of_ble_eq_true rfl) (Nat.le_of_ble_eq_true rfl) ?_
  refine va_put (D := (dC, dI)) (ci := 11) (v := .int 0) (ty := .int) (C := RX12) (T := TX12) (N := 12) hx hb htb inX12 tyX12 tyX12_ok nmX12 hown hK hP hD hS 0 rfl rfl 11 (by decide) (htb _ kw_46) (fun _ h9 => h9) rfl (tyX12_ok 11 (by decide)) rfl rfl (Nat.le_of_ble_eq_true rfl) dX12_read_28 (fun H locs hP hD hS => ?_)
  have hP : va_P (dC, dI) vwCl [(h0, .inr (11, [.ref a1, .ref a2, .ref a3, .ref a4, .ref a5, .ref a6, .ref a7, .ref a8, .int 0, .int 0, .int 1, .int 0])), (a6, .inr (10, [.ref a3, .ref wb, .ref wc, .int 0]))] H := hP
  have hD : va_D A [(h0, .inr (11, [.ref a1, .ref a2, .ref a3, .ref a4, .ref a5, .ref a6, .ref a7, .ref a8, .int 0, .int 0, .int 1, .int 0])), (a6, .inr (10, [.ref a3, .ref wb, .ref wc, .int 0]))] := hD
  refine lv_aload_n hx hb dX12_read_31 rfl (lv_at hl 0 rfl) ?_
  refine lv_iconst (v := 0) hx hb dX12_read_32 (by decide) ?_
  refine va_put (D := (dC, dI)) (ci := 11) (v := .int 0) (ty := .int) (C := RX12) (T := TX12) (N := 12) hx hb htb inX12 tyX12 tyX12_ok nmX12 hown hK hP hD hS 0 rfl rfl 8 (by decide) (htb _ kw_68) (fun _ h9 => h9) rfl (tyX12_ok 8 (by decide)) rfl rfl (Nat.le_of_ble_eq_true rfl) dX12_read_33 (fun H locs hP hD hS => ?_)
  have hP : va_P (dC, dI) vwCl [(h0, .inr (11, [.ref a1, .ref a2, .ref a3, .ref a4, .ref a5, .ref a6, .ref a7, .ref a8, .int 0, .int 0, .int 1, .int 0])), (a6, .inr (10, [.ref a3, .ref wb, .ref wc, .int 0]))] H := hP
  have hD : va_D A [(h0, .inr (11, [.ref a1, .ref a2, .ref a3, .ref a4, .ref a5, .ref a6, .ref a7, .ref a8, .int 0, .int 0, .int 1, .int 0])), (a6, .inr (10, [.ref a3, .ref wb, .ref wc, .int 0]))] := hD
  refine lv_aload_n hx hb dX12_read_36 rfl (lv_at hl 0 rfl) ?_
  refine va_get (D := (dC, dI)) (ci := 11) (v := .int 0) (C := RX12) (T := TX12) (N := 12) hx hb htb inX12 hown hK hP 0 rfl rfl 11 (by decide) (htb _ kw_46) (fun _ h9 => h9) rfl dX12_read_37 ?_
  refine lv_iconst (v := (-1)) hx hb dX12_read_40 (by decide) ?_
  refine lv_icmp_ne (tgt := 60) hx hb dX12_read_41 (by decide) (fun _ => ?_) (fun c_1 => absurd c_1 (by decide))
  refine lv_aload_n hx hb dX12_read_60 rfl (lv_at hl 0 rfl) ?_
  refine va_get (D := (dC, dI)) (ci := 11) (v := .int 0) (C := RX12) (T := TX12) (N := 12) hx hb htb inX12 hown hK hP 0 rfl rfl 11 (by decide) (htb _ kw_46) (fun _ h9 => h9) rfl dX12_read_61 ?_
  refine lv_iconst (v := (-1)) hx hb dX12_read_64 (by decide) ?_
  refine lv_icmp_ne (tgt := 84) hx hb dX12_read_65 (by decide) (fun _ => ?_) (fun c_2 => absurd c_2 (by decide))
  refine lv_aload_n hx hb dX12_read_84 rfl (lv_at hl 0 rfl) ?_
  refine lv_aload_n hx hb dX12_read_85 rfl (lv_at hl 0 rfl) ?_
  refine va_get (D := (dC, dI)) (ci := 11) (v := .int 0) (C := RX12) (T := TX12) (N := 12) hx hb htb inX12 hown hK hP 0 rfl rfl 11 (by decide) (htb _ kw_46) (fun _ h9 => h9) rfl dX12_read_86 ?_
  refine lv_iconst (v := (-1)) hx hb dX12_read_89 (by decide) ?_
  refine lv_icmp_ne (tgt := 97) hx hb dX12_read_90 (by decide) (fun _ => ?_) (fun c_3 => absurd c_3 (by decide))
  refine lv_iconst (v := 0) hx hb dX12_read_97 (by decide) ?_
  refine va_put (D := (dC, dI)) (ci := 11) (v := .int 0) (ty := .boolean) (C := RX12) (T := TX12) (N := 12) hx hb htb inX12 tyX12 tyX12_ok nmX12 hown hK hP hD hS 0 rfl rfl 9 (by decide) (htb _ kw_79) (fun _ h9 => h9) rfl (tyX12_ok 9 (by decide)) rfl rfl (Nat.le_of_ble_eq_true rfl) dX12_read_98 (fun H locs hP hD hS => ?_)
  have hP : va_P (dC, dI) vwCl [(h0, .inr (11, [.ref a1, .ref a2, .ref a3, .ref a4, .ref a5, .ref a6, .ref a7, .ref a8, .int 0, .int 0, .int 1, .int 0])), (a6, .inr (10, [.ref a3, .ref wb, .ref wc, .int 0]))] H := hP
  have hD : va_D A [(h0, .inr (11, [.ref a1, .ref a2, .ref a3, .ref a4, .ref a5, .ref a6, .ref a7, .ref a8, .int 0, .int 0, .int 1, .int 0])), (a6, .inr (10, [.ref a3, .ref wb, .ref wc, .int 0]))] := hD
  refine lv_aload_n hx hb dX12_read_101 rfl (lv_at hl 0 rfl) ?_
  refine va_get (D := (dC, dI)) (ci := 11) (v := .int 0) (C := RX12) (T := TX12) (N := 12) hx hb htb inX12 hown hK hP 0 rfl rfl 9 (by decide) (htb _ kw_79) (fun _ h9 => h9) rfl dX12_read_102 ?_
  refine lv_if_ne (tgt := 123) hx hb dX12_read_105 (by decide) (fun c_4 => absurd (by decide) c_4) (fun _ => ?_)
  refine lv_aload_n hx hb dX12_read_108 rfl (lv_at hl 0 rfl) ?_
  refine va_get (D := (dC, dI)) (ci := 11) (v := .ref a6) (C := RX12) (T := TX12) (N := 12) hx hb htb inX12 hown hK hP 0 rfl rfl 5 (by decide) (htb _ kw_33) (fun _ h9 => h9) rfl dX12_read_109 ?_
  have hPc := hP.sub (ws' := [(a6, .inr (10, [.ref a3, .ref wb, .ref wc, .int 0]))]) [1] rfl
  have hDc := hD.sub (ws' := [(a6, .inr (10, [.ref a3, .ref wb, .ref wc, .int 0]))]) [1] (by decide) rfl
  have hKc := hK.sub (tys' := []) [] rfl
  have hFc := va_free (wc := [(a6, .inr (10, [.ref a3, .ref wb, .ref wc, .int 0]))]) hD hS hA [1] rfl
  refine va_callv (va_runV (As := []) (rest := []) ⟨hx, hb, hml, hown, htb⟩ (c_X10_forgetBeans l dC dI H.size a6 a3 wb wc) (cwV 0 htb (gd_V kw_80 kw_81 kw_82 kw_29 kw_547) rfl rfl rfl (by decide +kernel) ⟨Nat.le_of_ble_eq_true rfl, Nat.le_of_ble_eq_true rfl⟩) ⟨fun a U g mk q => by obtain ⟨q0, q1, qP, qK, qD⟩ := q; exact ⟨q0, q1, qP, va_K.moved (u := U) (U := U.calling g mk a) (Vm.Alike.refl U.vm) qK, qD⟩, va_recv hKc hPc (ci := 10) (q0 := 0) rfl rfl, fun U hU hW => ⟨rfl, by rw [hU], by rw [hU]; exact hPc, va_K.moved hW.alike hKc, hDc.weaken (fun _ _ _ _ => trivial)⟩⟩ rfl rfl hl.1 rfl (lv_room (Nat.le_of_ble_eq_true rfl)) dX12_read_112 ⟨(Nat.le_of_ble_eq_true rfl), (Nat.le_of_ble_eq_true rfl)⟩) hS (fun q _ h => hFc q h) hFc (fun u t H1 locs ht hvm hw hB hz1 hk1 hS => ?_)
  obtain ⟨hP1, hK1, hD1⟩ := hB
  rw [ht] at hP1
  have hK1 := va_K.moved hvm.symm hK1
  obtain ⟨hP, hD⟩ := va_join (wr := [(h0, .inr (11, [.ref a1, .ref a2, .ref a3, .ref a4, .ref a5, .ref a6, .ref a7, .ref a8, .int 0, .int 0, .int 1, .int 0]))]) (w1 := []) hP hD [1] [0] rfl rfl (by decide) (by decide) hk1 hFc hP1 hD1
  have hK := hK.app hK1
  generalize H1 = H at hP hS ⊢
  have hP : va_P (dC, dI) vwCl [(h0, .inr (11, [.ref a1, .ref a2, .ref a3, .ref a4, .ref a5, .ref a6, .ref a7, .ref a8, .int 0, .int 0, .int 1, .int 0]))] H := hP
  have hD : va_D A [(h0, .inr (11, [.ref a1, .ref a2, .ref a3, .ref a4, .ref a5, .ref a6, .ref a7, .ref a8, .int 0, .int 0, .int 1, .int 0]))] := hD
  have hK : va_K (dC, dI) vwCl [] s := hK
  refine W.widen (k := 1) (n := 6) (Nat.le_of_ble_eq_true rfl) (Nat.le_of_ble_eq_true rfl) ?_
  have hP9 := hP.sub (ws' := []) [] rfl
  have hD9 := hD.sub (ws' := []) [] (by decide) rfl
  have hK9 := hK.sub (tys' := []) [] rfl
  refine vx_throw0 (own := RX12) (cls := "java/lang/IllegalArgumentException") (names := ["java/lang/RuntimeException", "java/lang/Exception"]) (ik := 129) (ic := 131) (A := A) hx hb hl9 hown (by decide +kernel) (by decide +kernel) (htb _ kw_83) (htb _ kw_84) (vx_hat (fun w h => htb w (inT_0 w h)) inU_0 (vx_c (va_Nw.use rfl hG.2.1.1) (vx_c (va_Nw.use rfl hG.2.1.2.2.1) (vx_c (va_Nw.use rfl hG.2.1.2.2.2.1) (vx_c (va_Nw.use rfl hG.2.1.2.2.2.2) vx_n))))) (fun w hw => ?_) hG.2.2.2.1 hG.2.2.2.2 hS (by rw [hml]; exact hl.1) dX12_read_115 dX12_read_118 dX12_read_119 dX12_read_122 (fun x hx9 => (hxt x hx9).elim) (Nat.le_of_ble_eq_true rfl) (Nat.le_of_ble_eq_true rfl) (Nat.le_of_ble_eq_true rfl) (Nat.le_of_ble_eq_true rfl) hlocks (fun t ht1 hz2 hk2 => ⟨(), trivial, ⟨rfl, hP9.kept (fun k q hq => hk2 _ (vx_lt hP9 hq)), va_K.moved ht1 hK9, hD9⟩, ⟨Nat.le_trans hS.1 hz2, fun q h1 h2 => (hk2 q (Nat.lt_of_lt_of_le h1 hS.1)).trans (hS.2.1 q h1 h2)⟩⟩) hS.2.2 (Nat.le_of_ble_eq_true rfl) (Nat.le_of_ble_eq_true rfl)
  rcases List.mem_cons.mp hw with rfl | hw
  · rfl
  rcases List.mem_cons.mp hw with rfl | hw
  · rfl
  exact inV_0 w hw

set_option maxHeartbeats 4000000 in
set_option maxRecDepth 100000 in
theorem c_X12_refresh (l : Launch) (dC : Nat → ClassId) (dI : Nat → Nat → Nat) (sz : Nat) (h0 : Nat) (a1 : Nat) (a2 : Nat) (a3 : Nat) (a4 : Nat) (a5 : Nat) (a6 : Nat) (a7 : Nat) (a8 : Nat) (mk1 : Nat) (mk2 : Nat) (mk3 : Nat) (mk4 : Nat) (mk5 : Nat) (hl9 : l.stackTraces = false) : vx_Met l yX12_refresh wm_X12_refresh ({ frames := 6, cells := 1, slots := 6, locals := 100 }) (va_Pc [.ref h0] (fun U => U.heap.size = sz ∧ va_P (dC, dI) vwCl [(h0, .inr (11, [.ref a1, .ref a2, .ref a3, .ref a4, .ref a5, .ref a6, .ref a7, .ref a8, .int 0, .int 0, .int 0, .int (-1)])), (a8, .inr (5, [.ref a6, .ref a1, .ref a7, .ref mk1, .ref mk2, .int 0, .ref mk3, .int 0, .ref mk4, .ref mk5, .null, .int 0, .int (-1)]))] U.heap ∧ va_K (dC, dI) vwCl [] U ∧ va_D (fun _ => True) [(h0, .inr (11, [.ref a1, .ref a2, .ref a3, .ref a4, .ref a5, .ref a6, .ref a7, .ref a8, .int 0, .int 0, .int 0, .int (-1)])), (a8, .inr (5, [.ref a6, .ref a1, .ref a7, .ref mk1, .ref mk2, .int 0, .ref mk3, .int 0, .ref mk4, .ref mk5, .null, .int 0, .int (-1)]))] ∧ GE (va_A [(h0, .inr (11, [.ref a1, .ref a2, .ref a3, .ref a4, .ref a5, .ref a6, .ref a7, .ref a8, .int 0, .int 0, .int 0, .int (-1)])), (a8, .inr (5, [.ref a6, .ref a1, .ref a7, .ref mk1, .ref mk2, .int 0, .ref mk3, .int 0, .ref mk4, .ref mk5, .null, .int 0, .int (-1)]))] sz) U)) (va_Qi (fun (_ : Int32) (_ : Unit) => False) (fun _ _ => True) (va_A [(h0, .inr (11, [.ref a1, .ref a2, .ref a3, .ref a4, .ref a5, .ref a6, .ref a7, .ref a8, .int 0, .int 0, .int 0, .int (-1)])), (a8, .inr (5, [.ref a6, .ref a1, .ref a7, .ref mk1, .ref mk2, .int 0, .ref mk3, .int 0, .ref mk4, .ref mk5, .null, .int 0, .int (-1)]))] sz)) (vx_X (fun _ : Unit => True) (fun E _ t => E = "java/lang/IllegalStateException" ∧ va_P (dC, dI) vwCl [] t.heap ∧ va_K (dC, dI) vwCl [] t ∧ va_D (va_A [(h0, .inr (11, [.ref a1, .ref a2, .ref a3, .ref a4, .ref a5, .ref a6, .ref a7, .ref a8, .int 0, .int 0, .int 0, .int (-1)])), (a8, .inr (5, [.ref a6, .ref a1, .ref a7, .ref mk1, .ref mk2, .int 0, .ref mk3, .int 0, .ref mk4, .ref mk5, .null, .int 0, .int (-1)]))] sz) []) (va_A [(h0, .inr (11, [.ref a1, .ref a2, .ref a3, .ref a4, .ref a5, .ref a6, .ref a7, .ref a8, .int 0, .int 0, .int 0, .int (-1)])), (a8, .inr (5, [.ref a6, .ref a1, .ref a7, .ref mk1, .ref mk2, .int 0, .ref mk3, .int 0, .ref mk4, .ref mk5, .null, .int 0, .int (-1)]))] sz)) 1 6 (va_A [(h0, .inr (11, [.ref a1, .ref a2, .ref a3, .ref a4, .ref a5, .ref a6, .ref a7, .ref a8, .int 0, .int 0, .int 0, .int (-1)])), (a8, .inr (5, [.ref a6, .ref a1, .ref a7, .ref mk1, .ref mk2, .int 0, .ref mk3, .int 0, .ref mk4, .ref mk5, .null, .int 0, .int (-1)]))] sz) := by
  refine vx_ofW (cc := cX12_refresh) (maxL := 1) (ret := (some .int)) (by decide) rfl ?_
  intro p e s m args below meth c s₁ B hml hxt hv
  obtain ⟨rfl, hsz, hP, hK, hD0, hG⟩ := hv
  have hx := B.exec
  have hb := B.bytes
  have hr := B.returns
  have hts := atoms_spec (ws := wm_X12_refresh) B.pre
  have htb := fun (w : Cond) (h : w ∈ tb) => hts w (List.mem_cons_of_mem _ h)
  have hown : s.vm.findClass RX12 = some m.cls := findClass_of_methodNamed B.named
  have hlocks := B.notSynchronized
  subst hsz
  have hD := hD0.self (sz := s.heap.size)
  generalize hAe : va_A [(h0, .inr (11, [.ref a1, .ref a2, .ref a3, .ref a4, .ref a5, .ref a6, .ref a7, .ref a8, .int 0, .int 0, .int 0, .int (-1)])), (a8, .inr (5, [.ref a6, .ref a1, .ref a7, .ref mk1, .ref mk2, .int 0, .ref mk3, .int 0, .ref mk4, .ref mk5, .null, .int 0, .int (-1)]))] s.heap.size = A at hD hG ⊢
  have hA : ∀ q : Nat, s.heap.size ≤ q → A q := fun q h => by rw [← hAe]; exact Or.inr h
  have hS : va_S A s.heap s.heap [] := va_S.rf
  have hP : va_P (dC, dI) vwCl [(h0, .inr (11, [.ref a1, .ref a2, .ref a3, .ref a4, .ref a5, .ref a6, .ref a7, .ref a8, .int 0, .int 0, .int 0, .int (-1)])), (a8, .inr (5, [.ref a6, .ref a1, .ref a7, .ref mk1, .ref mk2, .int 0, .ref mk3, .int 0, .ref mk4, .ref mk5, .null, .int 0, .int (-1)]))] s.heap := hP
  have hl := lv_entry ([.ref h0]) (n := 1) (Nat.le_of_ble_eq_true rfl)
  rw [lg_entry_eq]
  generalize (lg_sl ([.ref h0]) ++ List.replicate (1 - (lg_sl ([.ref h0])).length) Slot.unset).toArray = ls at hl ⊢
  have hl : lv_has ls 1 [(0, .ref h0)] := hl
  refine lv_aload_n hx hb dX12_refresh_0 rfl (lv_at hl 0 rfl) ?_
  refine va_get (D := (dC, dI)) (ci := 11) (v := .ref a8) (C := RX12) (T := TX12) (N := 12) hx hb htb inX12 hown hK hP 0 rfl rfl 7 (by decide) (htb _ kw_45) (fun _ h9 => h9) rfl dX12_refresh_1 ?_
  have hPc := hP.sub (ws' := [(a8, .inr (5, [.ref a6, .ref a1, .ref a7, .ref mk1, .ref mk2, .int 0, .ref mk3, .int 0, .ref mk4, .ref mk5, .null, .int 0, .int (-1)]))]) [1] rfl
  have hDc := hD.sub (ws' := [(a8, .inr (5, [.ref a6, .ref a1, .ref a7, .ref mk1, .ref mk2, .int 0, .ref mk3, .int 0, .ref mk4, .ref mk5, .null, .int 0, .int (-1)]))]) [1] (by decide) rfl
  have hKc := hK.sub (tys' := []) [] rfl
  have hFc := va_free (wc := [(a8, .inr (5, [.ref a6, .ref a1, .ref a7, .ref mk1, .ref mk2, .int 0, .ref mk3, .int 0, .ref mk4, .ref mk5, .null, .int 0, .int (-1)]))]) hD hS hA [1] rfl
  refine va_callv (va_runV (As := []) (rest := []) ⟨hx, hb, hml, hown, htb⟩ (c_X5_forgetFailure l dC dI s.heap.size a8 a6 a1 a7 mk1 mk2 mk3 mk4 mk5) (cwV 0 htb (gd_V kw_94 kw_95 kw_96 kw_41 kw_551) rfl rfl rfl (by decide +kernel) ⟨Nat.le_of_ble_eq_true rfl, Nat.le_of_ble_eq_true rfl⟩) ⟨fun a U g mk q => by obtain ⟨q0, q1, qP, qK, qD⟩ := q; exact ⟨q0, q1, qP, va_K.moved (u := U) (U := U.calling g mk a) (Vm.Alike.refl U.vm) qK, qD⟩, va_recv hKc hPc (ci := 5) (q0 := 0) rfl rfl, fun U hU hW => ⟨rfl, by rw [hU], by rw [hU]; exact hPc, va_K.moved hW.alike hKc, hDc.weaken (fun _ _ _ _ => trivial)⟩⟩ rfl rfl hl.1 rfl (lv_room (Nat.le_of_ble_eq_true rfl)) dX12_refresh_4 ⟨(Nat.le_of_ble_eq_true rfl), (Nat.le_of_ble_eq_true rfl)⟩) hS (fun q _ h => hFc q h) hFc (fun u t H1 locs ht hvm hw hB hz1 hk1 hS => ?_)
  obtain ⟨hP1, hK1, hD1⟩ := hB
  rw [ht] at hP1
  have hK1 := va_K.moved hvm.symm hK1
  obtain ⟨hP, hD⟩ := va_join (wr := [(h0, .inr (11, [.ref a1, .ref a2, .ref a3, .ref a4, .ref a5, .ref a6, .ref a7, .ref a8, .int 0, .int 0, .int 0, .int (-1)]))]) (w1 := []) hP hD [1] [0] rfl rfl (by decide) (by decide) hk1 hFc hP1 hD1
  have hK := hK.app hK1
  generalize H1 = H at hP hS ⊢
  have hP : va_P (dC, dI) vwCl [(h0, .inr (11, [.ref a1, .ref a2, .ref a3, .ref a4, .ref a5, .ref a6, .ref a7, .ref a8, .int 0, .int 0, .int 0, .int (-1)]))] H := hP
  have hD : va_D A [(h0, .inr (11, [.ref a1, .ref a2, .ref a3, .ref a4, .ref a5, .ref a6, .ref a7, .ref a8, .int 0, .int 0, .int 0, .int (-1)]))] := hD
  have hK : va_K (dC, dI) vwCl [] s := hK
  refine W.widen (k := 0) (n := 0) (Nat.le_of_ble_eq_true rfl) (Nat.le_of_ble_eq_true rfl) ?_
  refine lv_aload_n hx hb dX12_refresh_7 rfl (lv_at hl 0 rfl) ?_
  refine va_get (D := (dC, dI)) (ci := 11) (v := .int 0) (C := RX12) (T := TX12) (N := 12) hx hb htb inX12 hown hK hP 0 rfl rfl 9 (by decide) (htb _ kw_79) (fun _ h9 => h9) rfl dX12_refresh_8 ?_
  refine lv_if_ne (tgt := 22) hx hb dX12_refresh_11 (by decide) (fun c_1 => absurd (by decide) c_1) (fun _ => ?_)
  have hP9 := hP.sub (ws' := []) [] rfl
  have hD9 := hD.sub (ws' := []) [] (by decide) rfl
  have hK9 := hK.sub (tys' := []) [] rfl
  refine vx_throw0 (own := RX12) (cls := "java/lang/IllegalStateException") (names := ["java/lang/RuntimeException", "java/lang/Exception"]) (ik := 144) (ic := 146) (A := A) hx hb hl9 hown (by decide +kernel) (by decide +kernel) (htb _ kw_97) (htb _ kw_98) (vx_hat (fun w h => htb w (inT_1 w h)) inU_1 (vx_c (va_Nw.use rfl hG.2.1.2.1) (vx_c (va_Nw.use rfl hG.2.1.2.2.1) (vx_c (va_Nw.use rfl hG.2.1.2.2.2.1) (vx_c (va_Nw.use rfl hG.2.1.2.2.2.2) vx_n))))) (fun w hw => ?_) hG.2.2.2.1 hG.2.2.2.2 hS (by rw [hml]; exact hl.1) dX12_refresh_14 dX12_refresh_17 dX12_refresh_18 dX12_refresh_21 (fun x hx9 => (hxt x hx9).elim) (Nat.le_of_ble_eq_true rfl) (Nat.le_of_ble_eq_true rfl) (Nat.le_of_ble_eq_true rfl) (Nat.le_of_ble_eq_true rfl) hlocks (fun t ht1 hz2 hk2 => ⟨(), trivial, ⟨rfl, hP9.kept (fun k q hq => hk2 _ (vx_lt hP9 hq)), va_K.moved ht1 hK9, hD9⟩, ⟨Nat.le_trans hS.1 hz2, fun q h1 h2 => (hk2 q (Nat.lt_of_lt_of_le h1 hS.1)).trans (hS.2.1 q h1 h2)⟩⟩) hS.2.2 (Nat.le_of_ble_eq_true rfl) (Nat.le_of_ble_eq_true rfl)
  rcases List.mem_cons.mp hw with rfl | hw
  · rfl
  rcases List.mem_cons.mp hw with rfl | hw
  · rfl
  exact inV_1 w hw

set_option maxHeartbeats 4000000 in
set_option maxRecDepth 100000 in
theorem c_X12_get (l : Launch) (dC : Nat → ClassId) (dI : Nat → Nat → Nat) (sz : Nat) (h0 : Nat) (l0 : Int64) (a1 : Nat) (a2 : Nat) (a3 : Nat) (a4 : Nat) (a5 : Nat) (a6 : Nat) (a7 : Nat) (a8 : Nat) (mk1 : Nat) (mk2 : Nat) (mk3 : Nat) (mk4 : Nat) (mk5 : Nat) (hl9 : l.stackTraces = false) : vx_Met l yX12_get wm_X12_get ({ frames := 6, cells := 1, slots := 6, locals := 100 }) (va_Pc [.ref h0, .long l0] (fun U => U.heap.size = sz ∧ va_P (dC, dI) vwCl [(h0, .inr (11, [.ref a1, .ref a2, .ref a3, .ref a4, .ref a5, .ref a6, .ref a7, .ref a8, .int 0, .int 0, .int 0, .int (-1)])), (a8, .inr (5, [.ref a6, .ref a1, .ref a7, .ref mk1, .ref mk2, .int 0, .ref mk3, .int 0, .ref mk4, .ref mk5, .null, .int 0, .int (-1)]))] U.heap ∧ va_K (dC, dI) vwCl [] U ∧ va_D (fun _ => True) [(h0, .inr (11, [.ref a1, .ref a2, .ref a3, .ref a4, .ref a5, .ref a6, .ref a7, .ref a8, .int 0, .int 0, .int 0, .int (-1)])), (a8, .inr (5, [.ref a6, .ref a1, .ref a7, .ref mk1, .ref mk2, .int 0, .ref mk3, .int 0, .ref mk4, .ref mk5, .null, .int 0, .int (-1)]))] ∧ GE (va_A [(h0, .inr (11, [.ref a1, .ref a2, .ref a3, .ref a4, .ref a5, .ref a6, .ref a7, .ref a8, .int 0, .int 0, .int 0, .int (-1)])), (a8, .inr (5, [.ref a6, .ref a1, .ref a7, .ref mk1, .ref mk2, .int 0, .ref mk3, .int 0, .ref mk4, .ref mk5, .null, .int 0, .int (-1)]))] sz) U)) (va_Qi (fun (_ : Int32) (_ : Unit) => False) (fun _ _ => True) (va_A [(h0, .inr (11, [.ref a1, .ref a2, .ref a3, .ref a4, .ref a5, .ref a6, .ref a7, .ref a8, .int 0, .int 0, .int 0, .int (-1)])), (a8, .inr (5, [.ref a6, .ref a1, .ref a7, .ref mk1, .ref mk2, .int 0, .ref mk3, .int 0, .ref mk4, .ref mk5, .null, .int 0, .int (-1)]))] sz)) (vx_X (fun _ : Unit => True) (fun E _ t => E = "java/lang/IllegalStateException" ∧ va_P (dC, dI) vwCl [] t.heap ∧ va_K (dC, dI) vwCl [] t ∧ va_D (va_A [(h0, .inr (11, [.ref a1, .ref a2, .ref a3, .ref a4, .ref a5, .ref a6, .ref a7, .ref a8, .int 0, .int 0, .int 0, .int (-1)])), (a8, .inr (5, [.ref a6, .ref a1, .ref a7, .ref mk1, .ref mk2, .int 0, .ref mk3, .int 0, .ref mk4, .ref mk5, .null, .int 0, .int (-1)]))] sz) []) (va_A [(h0, .inr (11, [.ref a1, .ref a2, .ref a3, .ref a4, .ref a5, .ref a6, .ref a7, .ref a8, .int 0, .int 0, .int 0, .int (-1)])), (a8, .inr (5, [.ref a6, .ref a1, .ref a7, .ref mk1, .ref mk2, .int 0, .ref mk3, .int 0, .ref mk4, .ref mk5, .null, .int 0, .int (-1)]))] sz)) 1 6 (va_A [(h0, .inr (11, [.ref a1, .ref a2, .ref a3, .ref a4, .ref a5, .ref a6, .ref a7, .ref a8, .int 0, .int 0, .int 0, .int (-1)])), (a8, .inr (5, [.ref a6, .ref a1, .ref a7, .ref mk1, .ref mk2, .int 0, .ref mk3, .int 0, .ref mk4, .ref mk5, .null, .int 0, .int (-1)]))] sz) := by
  refine vx_ofW (cc := cX12_get) (maxL := 4) (ret := (some .int)) (by decide) rfl ?_
  intro p e s m args below meth c s₁ B hml hxt hv
  obtain ⟨rfl, hsz, hP, hK, hD0, hG⟩ := hv
  have hx := B.exec
  have hb := B.bytes
  have hr := B.returns
  have hts := atoms_spec (ws := wm_X12_get) B.pre
  have htb := fun (w : Cond) (h : w ∈ tb) => hts w (List.mem_cons_of_mem _ h)
  have hown : s.vm.findClass RX12 = some m.cls := findClass_of_methodNamed B.named
  have hlocks := B.notSynchronized
  subst hsz
  have hD := hD0.self (sz := s.heap.size)
  generalize hAe : va_A [(h0, .inr (11, [.ref a1, .ref a2, .ref a3, .ref a4, .ref a5, .ref a6, .ref a7, .ref a8, .int 0, .int 0, .int 0, .int (-1)])), (a8, .inr (5, [.ref a6, .ref a1, .ref a7, .ref mk1, .ref mk2, .int 0, .ref mk3, .int 0, .ref mk4, .ref mk5, .null, .int 0, .int (-1)]))] s.heap.size = A at hD hG ⊢
  have hA : ∀ q : Nat, s.heap.size ≤ q → A q := fun q h => by rw [← hAe]; exact Or.inr h
  have hS : va_S A s.heap s.heap [] := va_S.rf
  have hP : va_P (dC, dI) vwCl [(h0, .inr (11, [.ref a1, .ref a2, .ref a3, .ref a4, .ref a5, .ref a6, .ref a7, .ref a8, .int 0, .int 0, .int 0, .int (-1)])), (a8, .inr (5, [.ref a6, .ref a1, .ref a7, .ref mk1, .ref mk2, .int 0, .ref mk3, .int 0, .ref mk4, .ref mk5, .null, .int 0, .int (-1)]))] s.heap := hP
  have hl := lv_entry ([.ref h0, .long l0]) (n := 4) (Nat.le_of_ble_eq_true rfl)
  rw [lg_entry_eq]
  generalize (lg_sl ([.ref h0, .long l0]) ++ List.replicate (4 - (lg_sl ([.ref h0, .long l0])).length) Slot.unset).toArray = ls at hl ⊢
  have hl : lv_has ls 4 [(0, .ref h0), (1, .long l0)] := hl
  refine lv_aload_n hx hb dX12_get_0 rfl (lv_at hl 0 rfl) ?_
  refine va_get (D := (dC, dI)) (ci := 11) (v := .ref a8) (C := RX12) (T := TX12) (N := 12) hx hb htb inX12 hown hK hP 0 rfl rfl 7 (by decide) (htb _ kw_45) (fun _ h9 => h9) rfl dX12_get_1 ?_
  have hPc := hP.sub (ws' := [(a8, .inr (5, [.ref a6, .ref a1, .ref a7, .ref mk1, .ref mk2, .int 0, .ref mk3, .int 0, .ref mk4, .ref mk5, .null, .int 0, .int (-1)]))]) [1] rfl
  have hDc := hD.sub (ws' := [(a8, .inr (5, [.ref a6, .ref a1, .ref a7, .ref mk1, .ref mk2, .int 0, .ref mk3, .int 0, .ref mk4, .ref mk5, .null, .int 0, .int (-1)]))]) [1] (by decide) rfl
  have hKc := hK.sub (tys' := []) [] rfl
  have hFc := va_free (wc := [(a8, .inr (5, [.ref a6, .ref a1, .ref a7, .ref mk1, .ref mk2, .int 0, .ref mk3, .int 0, .ref mk4, .ref mk5, .null, .int 0, .int (-1)]))]) hD hS hA [1] rfl
  refine va_callv (va_runV (As := []) (rest := []) ⟨hx, hb, hml, hown, htb⟩ (c_X5_forgetFailure l dC dI s.heap.size a8 a6 a1 a7 mk1 mk2 mk3 mk4 mk5) (cwV 0 htb (gd_V kw_94 kw_95 kw_96 kw_41 kw_551) rfl rfl rfl (by decide +kernel) ⟨Nat.le_of_ble_eq_true rfl, Nat.le_of_ble_eq_true rfl⟩) ⟨fun a U g mk q => by obtain ⟨q0, q1, qP, qK, qD⟩ := q; exact ⟨q0, q1, qP, va_K.moved (u := U) (U := U.calling g mk a) (Vm.Alike.refl U.vm) qK, qD⟩, va_recv hKc hPc (ci := 5) (q0 := 0) rfl rfl, fun U hU hW => ⟨rfl, by rw [hU], by rw [hU]; exact hPc, va_K.moved hW.alike hKc, hDc.weaken (fun _ _ _ _ => trivial)⟩⟩ rfl rfl hl.1 rfl (lv_room (Nat.le_of_ble_eq_true rfl)) dX12_get_4 ⟨(Nat.le_of_ble_eq_true rfl), (Nat.le_of_ble_eq_true rfl)⟩) hS (fun q _ h => hFc q h) hFc (fun u t H1 locs ht hvm hw hB hz1 hk1 hS => ?_)
  obtain ⟨hP1, hK1, hD1⟩ := hB
  rw [ht] at hP1
  have hK1 := va_K.moved hvm.symm hK1
  obtain ⟨hP, hD⟩ := va_join (wr := [(h0, .inr (11, [.ref a1, .ref a2, .ref a3, .ref a4, .ref a5, .ref a6, .ref a7, .ref a8, .int 0, .int 0, .int 0, .int (-1)]))]) (w1 := []) hP hD [1] [0] rfl rfl (by decide) (by decide) hk1 hFc hP1 hD1
  have hK := hK.app hK1
  generalize H1 = H at hP hS ⊢
  have hP : va_P (dC, dI) vwCl [(h0, .inr (11, [.ref a1, .ref a2, .ref a3, .ref a4, .ref a5, .ref a6, .ref a7, .ref a8, .int 0, .int 0, .int 0, .int (-1)]))] H := hP
  have hD : va_D A [(h0, .inr (11, [.ref a1, .ref a2, .ref a3, .ref a4, .ref a5, .ref a6, .ref a7, .ref a8, .int 0, .int 0, .int 0, .int (-1)]))] := hD
  have hK : va_K (dC, dI) vwCl [] s := hK
  refine W.widen (k := 0) (n := 0) (Nat.le_of_ble_eq_true rfl) (Nat.le_of_ble_eq_true rfl) ?_
  refine lv_aload_n hx hb dX12_get_7 rfl (lv_at hl 0 rfl) ?_
  refine va_get (D := (dC, dI)) (ci := 11) (v := .int 0) (C := RX12) (T := TX12) (N := 12) hx hb htb inX12 hown hK hP 0 rfl rfl 9 (by decide) (htb _ kw_79) (fun _ h9 => h9) rfl dX12_get_8 ?_
  refine lv_if_ne (tgt := 22) hx hb dX12_get_11 (by decide) (fun c_1 => absurd (by decide) c_1) (fun _ => ?_)
  have hP9 := hP.sub (ws' := []) [] rfl
  have hD9 := hD.sub (ws' := []) [] (by decide) rfl
  have hK9 := hK.sub (tys' := []) [] rfl
  refine vx_throw0 (own := RX12) (cls := "java/lang/IllegalStateException") (names := ["java/lang/RuntimeException", "java/lang/Exception"]) (ik := 144) (ic := 146) (A := A) hx hb hl9 hown (by decide +kernel) (by decide +kernel) (htb _ kw_97) (htb _ kw_98) (vx_hat (fun w h => htb w (inT_1 w h)) inU_1 (vx_c (va_Nw.use rfl hG.2.1.2.1) (vx_c (va_Nw.use rfl hG.2.1.2.2.1) (vx_c (va_Nw.use rfl hG.2.1.2.2.2.1) (vx_c (va_Nw.use rfl hG.2.1.2.2.2.2) vx_n))))) (fun w hw => ?_) hG.2.2.2.1 hG.2.2.2.2 hS (by rw [hml]; exact hl.1) dX12_get_14 dX12_get_17 dX12_get_18 dX12_get_21 (fun x hx9 => (hxt x hx9).elim) (Nat.le_of_ble_eq_true rfl) (Nat.le_of_ble_eq_true rfl) (Nat.le_of_ble_eq_true rfl) (Nat.le_of_ble_eq_true rfl) hlocks (fun t ht1 hz2 hk2 => ⟨(), trivial, ⟨rfl, hP9.kept (fun k q hq => hk2 _ (vx_lt hP9 hq)), va_K.moved ht1 hK9, hD9⟩, ⟨Nat.le_trans hS.1 hz2, fun q h1 h2 => (hk2 q (Nat.lt_of_lt_of_le h1 hS.1)).trans (hS.2.1 q h1 h2)⟩⟩) hS.2.2 (Nat.le_of_ble_eq_true rfl) (Nat.le_of_ble_eq_true rfl)
  rcases List.mem_cons.mp hw with rfl | hw
  · rfl
  rcases List.mem_cons.mp hw with rfl | hw
  · rfl
  exact inV_1 w hw

set_option maxHeartbeats 4000000 in
set_option maxRecDepth 100000 in
theorem c_X12_call (l : Launch) (dC : Nat → ClassId) (dI : Nat → Nat → Nat) (sz : Nat) (h0 : Nat) (p0 : Int32) (p1 : Int32) (a1 : Nat) (a2 : Nat) (a3 : Nat) (a4 : Nat) (a5 : Nat) (a6 : Nat) (a7 : Nat) (a8 : Nat) (mk1 : Nat) (mk2 : Nat) (mk3 : Nat) (mk4 : Nat) (mk5 : Nat) (hl9 : l.stackTraces = false) : vx_Met l yX12_call wm_X12_call ({ frames := 6, cells := 1, slots := 6, locals := 100 }) (va_Pc [.ref h0, .int p0, .int p1] (fun U => U.heap.size = sz ∧ va_P (dC, dI) vwCl [(h0, .inr (11, [.ref a1, .ref a2, .ref a3, .ref a4, .ref a5, .ref a6, .ref a7, .ref a8, .int 0, .int 0, .int 0, .int (-1)])), (a8, .inr (5, [.ref a6, .ref a1, .ref a7, .ref mk1, .ref mk2, .int 0, .ref mk3, .int 0, .ref mk4, .ref mk5, .null, .int 0, .int (-1)]))] U.heap ∧ va_K (dC, dI) vwCl [] U ∧ va_D (fun _ => True) [(h0, .inr (11, [.ref a1, .ref a2, .ref a3, .ref a4, .ref a5, .ref a6, .ref a7, .ref a8, .int 0, .int 0, .int 0, .int (-1)])), (a8, .inr (5, [.ref a6, .ref a1, .ref a7, .ref mk1, .ref mk2, .int 0, .ref mk3, .int 0, .ref mk4, .ref mk5, .null, .int 0, .int (-1)]))] ∧ GE (va_A [(h0, .inr (11, [.ref a1, .ref a2, .ref a3, .ref a4, .ref a5, .ref a6, .ref a7, .ref a8, .int 0, .int 0, .int 0, .int (-1)])), (a8, .inr (5, [.ref a6, .ref a1, .ref a7, .ref mk1, .ref mk2, .int 0, .ref mk3, .int 0, .ref mk4, .ref mk5, .null, .int 0, .int (-1)]))] sz) U)) (va_Qi (fun (_ : Int32) (_ : Unit) => False) (fun _ _ => True) (va_A [(h0, .inr (11, [.ref a1, .ref a2, .ref a3, .ref a4, .ref a5, .ref a6, .ref a7, .ref a8, .int 0, .int 0, .int 0, .int (-1)])), (a8, .inr (5, [.ref a6, .ref a1, .ref a7, .ref mk1, .ref mk2, .int 0, .ref mk3, .int 0, .ref mk4, .ref mk5, .null, .int 0, .int (-1)]))] sz)) (vx_X (fun _ : Unit => True) (fun E _ t => E = "java/lang/IllegalStateException" ∧ va_P (dC, dI) vwCl [] t.heap ∧ va_K (dC, dI) vwCl [] t ∧ va_D (va_A [(h0, .inr (11, [.ref a1, .ref a2, .ref a3, .ref a4, .ref a5, .ref a6, .ref a7, .ref a8, .int 0, .int 0, .int 0, .int (-1)])), (a8, .inr (5, [.ref a6, .ref a1, .ref a7, .ref mk1, .ref mk2, .int 0, .ref mk3, .int 0, .ref mk4, .ref mk5, .null, .int 0, .int (-1)]))] sz) []) (va_A [(h0, .inr (11, [.ref a1, .ref a2, .ref a3, .ref a4, .ref a5, .ref a6, .ref a7, .ref a8, .int 0, .int 0, .int 0, .int (-1)])), (a8, .inr (5, [.ref a6, .ref a1, .ref a7, .ref mk1, .ref mk2, .int 0, .ref mk3, .int 0, .ref mk4, .ref mk5, .null, .int 0, .int (-1)]))] sz)) 1 6 (va_A [(h0, .inr (11, [.ref a1, .ref a2, .ref a3, .ref a4, .ref a5, .ref a6, .ref a7, .ref a8, .int 0, .int 0, .int 0, .int (-1)])), (a8, .inr (5, [.ref a6, .ref a1, .ref a7, .ref mk1, .ref mk2, .int 0, .ref mk3, .int 0, .ref mk4, .ref mk5, .null, .int 0, .int (-1)]))] sz) := by
  refine vx_ofW (cc := cX12_call) (maxL := 5) (ret := (some .int)) (by decide) rfl ?_
  intro p e s m args below meth c s₁ B hml hxt hv
  obtain ⟨rfl, hsz, hP, hK, hD0, hG⟩ := hv
  have hx := B.exec
  have hb := B.bytes
  have hr := B.returns
  have hts := atoms_spec (ws := wm_X12_call) B.pre
  have htb := fun (w : Cond) (h : w ∈ tb) => hts w (List.mem_cons_of_mem _ h)
  have hown : s.vm.findClass RX12 = some m.cls := findClass_of_methodNamed B.named
  have hlocks := B.notSynchronized
  subst hsz
  have hD := hD0.self (sz := s.heap.size)
  generalize hAe : va_A [(h0, .inr (11, [.ref a1, .ref a2, .ref a3, .ref a4, .ref a5, .ref a6, .ref a7, .ref a8, .int 0, .int 0, .int 0, .int (-1)])), (a8, .inr (5, [.ref a6, .ref a1, .ref a7, .ref mk1, .ref mk2, .int 0, .ref mk3, .int 0, .ref mk4, .ref mk5, .null, .int 0, .int (-1)]))] s.heap.size = A at hD hG ⊢
  have hA : ∀ q : Nat, s.heap.size ≤ q → A q := fun q h => by rw [← hAe]; exact Or.inr h
  have hS : va_S A s.heap s.heap [] := va_S.rf
  have hP : va_P (dC, dI) vwCl [(h0, .inr (11, [.ref a1, .ref a2, .ref a3, .ref a4, .ref a5, .ref a6, .ref a7, .ref a8, .int 0, .int 0, .int 0, .int (-1)])), (a8, .inr (5, [.ref a6, .ref a1, .ref a7, .ref mk1, .ref mk2, .int 0, .ref mk3, .int 0, .ref mk4, .ref mk5, .null, .int 0, .int (-1)]))] s.heap := hP
  have hl := lv_entry ([.ref h0, .int p0, .int p1]) (n := 5) (Nat.le_of_ble_eq_true rfl)
  rw [lg_entry_eq]
  generalize (lg_sl ([.ref h0, .int p0, .int p1]) ++ List.replicate (5 - (lg_sl ([.ref h0, .int p0, .int p1])).length) Slot.unset).toArray = ls at hl ⊢
  have hl : lv_has ls 5 [(0, .ref h0), (1, .int p0), (2, .int p1)] := hl
  refine lv_aload_n hx hb dX12_call_0 rfl (lv_at hl 0 rfl) ?_
  refine va_get (D := (dC, dI)) (ci := 11) (v := .ref a8) (C := RX12) (T := TX12) (N := 12) hx hb htb inX12 hown hK hP 0 rfl rfl 7 (by decide) (htb _ kw_45) (fun _ h9 => h9) rfl dX12_call_1 ?_
  have hPc := hP.sub (ws' := [(a8, .inr (5, [.ref a6, .ref a1, .ref a7, .ref mk1, .ref mk2, .int 0, .ref mk3, .int 0, .ref mk4, .ref mk5, .null, .int 0, .int (-1)]))]) [1] rfl
  have hDc := hD.sub (ws' := [(a8, .inr (5, [.ref a6, .ref a1, .ref a7, .ref mk1, .ref mk2, .int 0, .ref mk3, .int 0, .ref mk4, .ref mk5, .null, .int 0, .int (-1)]))]) [1] (by decide) rfl
  have hKc := hK.sub (tys' := []) [] rfl
  have hFc := va_free (wc := [(a8, .inr (5, [.ref a6, .ref a1, .ref a7, .ref mk1, .ref mk2, .int 0, .ref mk3, .int 0, .ref mk4, .ref mk5, .null, .int 0, .int (-1)]))]) hD hS hA [1] rfl
  refine va_callv (va_runV (As := []) (rest := []) ⟨hx, hb, hml, hown, htb⟩ (c_X5_forgetFailure l dC dI s.heap.size a8 a6 a1 a7 mk1 mk2 mk3 mk4 mk5) (cwV 0 htb (gd_V kw_94 kw_95 kw_96 kw_41 kw_551) rfl rfl rfl (by decide +kernel) ⟨Nat.le_of_ble_eq_true rfl, Nat.le_of_ble_eq_true rfl⟩) ⟨fun a U g mk q => by obtain ⟨q0, q1, qP, qK, qD⟩ := q; exact ⟨q0, q1, qP, va_K.moved (u := U) (U := U.calling g mk a) (Vm.Alike.refl U.vm) qK, qD⟩, va_recv hKc hPc (ci := 5) (q0 := 0) rfl rfl, fun U hU hW => ⟨rfl, by rw [hU], by rw [hU]; exact hPc, va_K.moved hW.alike hKc, hDc.weaken (fun _ _ _ _ => trivial)⟩⟩ rfl rfl hl.1 rfl (lv_room (Nat.le_of_ble_eq_true rfl)) dX12_call_4 ⟨(Nat.le_of_ble_eq_true rfl), (Nat.le_of_ble_eq_true rfl)⟩) hS (fun q _ h => hFc q h) hFc (fun u t H1 locs ht hvm hw hB hz1 hk1 hS => ?_)
  obtain ⟨hP1, hK1, hD1⟩ := hB
  rw [ht] at hP1
  have hK1 := va_K.moved hvm.symm hK1
  obtain ⟨hP, hD⟩ := va_join (wr := [(h0, .inr (11, [.ref a1, .ref a2, .ref a3, .ref a4, .ref a5, .ref a6, .ref a7, .ref a8, .int 0, .int 0, .int 0, .int (-1)]))]) (w1 := []) hP hD [1] [0] rfl rfl (by decide) (by decide) hk1 hFc hP1 hD1
  have hK := hK.app hK1
  generalize H1 = H at hP hS ⊢
  have hP : va_P (dC, dI) vwCl [(h0, .inr (11, [.ref a1, .ref a2, .ref a3, .ref a4, .ref a5, .ref a6, .ref a7, .ref a8, .int 0, .int 0, .int 0, .int (-1)]))] H := hP
  have hD : va_D A [(h0, .inr (11, [.ref a1, .ref a2, .ref a3, .ref a4, .ref a5, .ref a6, .ref a7, .ref a8, .int 0, .int 0, .int 0, .int (-1)]))] := hD
  have hK : va_K (dC, dI) vwCl [] s := hK
  refine W.widen (k := 0) (n := 0) (Nat.le_of_ble_eq_true rfl) (Nat.le_of_ble_eq_true rfl) ?_
  refine lv_aload_n hx hb dX12_call_7 rfl (lv_at hl 0 rfl) ?_
  refine va_get (D := (dC, dI)) (ci := 11) (v := .int 0) (C := RX12) (T := TX12) (N := 12) hx hb htb inX12 hown hK hP 0 rfl rfl 9 (by decide) (htb _ kw_79) (fun _ h9 => h9) rfl dX12_call_8 ?_
  refine lv_if_ne (tgt := 22) hx hb dX12_call_11 (by decide) (fun c_1 => absurd (by decide) c_1) (fun _ => ?_)
  have hP9 := hP.sub (ws' := []) [] rfl
  have hD9 := hD.sub (ws' := []) [] (by decide) rfl
  have hK9 := hK.sub (tys' := []) [] rfl
  refine vx_throw0 (own := RX12) (cls := "java/lang/IllegalStateException") (names := ["java/lang/RuntimeException", "java/lang/Exception"]) (ik := 144) (ic := 146) (A := A) hx hb hl9 hown (by decide +kernel) (by decide +kernel) (htb _ kw_97) (htb _ kw_98) (vx_hat (fun w h => htb w (inT_1 w h)) inU_1 (vx_c (va_Nw.use rfl hG.2.1.2.1) (vx_c (va_Nw.use rfl hG.2.1.2.2.1) (vx_c (va_Nw.use rfl hG.2.1.2.2.2.1) (vx_c (va_Nw.use rfl hG.2.1.2.2.2.2) vx_n))))) (fun w hw => ?_) hG.2.2.2.1 hG.2.2.2.2 hS (by rw [hml]; exact hl.1) dX12_call_14 dX12_call_17 dX12_call_18 dX12_call_21 (fun x hx9 => (hxt x hx9).elim) (Nat.le_of_ble_eq_true rfl) (Nat.le_of_ble_eq_true rfl) (Nat.le_of_ble_eq_true rfl) (Nat.le_of_ble_eq_true rfl) hlocks (fun t ht1 hz2 hk2 => ⟨(), trivial, ⟨rfl, hP9.kept (fun k q hq => hk2 _ (vx_lt hP9 hq)), va_K.moved ht1 hK9, hD9⟩, ⟨Nat.le_trans hS.1 hz2, fun q h1 h2 => (hk2 q (Nat.lt_of_lt_of_le h1 hS.1)).trans (hS.2.1 q h1 h2)⟩⟩) hS.2.2 (Nat.le_of_ble_eq_true rfl) (Nat.le_of_ble_eq_true rfl)
  rcases List.mem_cons.mp hw with rfl | hw
  · rfl
  rcases List.mem_cons.mp hw with rfl | hw
  · rfl
  exact inV_1 w hw

set_option maxHeartbeats 4000000 in
set_option maxRecDepth 100000 in
theorem c_X12_close (l : Launch) (dC : Nat → ClassId) (dI : Nat → Nat → Nat) (sz : Nat) (h0 : Nat) (a1 : Nat) (a2 : Nat) (a3 : Nat) (a4 : Nat) (a5 : Nat) (a6 : Nat) (a7 : Nat) (a8 : Nat) (mk1 : Nat) (mk2 : Nat) (mk3 : Nat) (mk4 : Nat) (mk5 : Nat) (wb : Nat) (wc : Nat) (rn : Nat) : Met l yX12_close wm_X12_close ({ frames := 3, cells := 0, slots := 0, locals := 62 }) (va_Pc [.ref h0] (fun U => U.heap.size = sz ∧ va_P (dC, dI) vwCl [(h0, .inr (11, [.ref a1, .ref a2, .ref a3, .ref a4, .ref a5, .ref a6, .ref a7, .ref a8, .int 0, .int 0, .int 0, .int (-1)])), (a8, .inr (5, [.ref a6, .ref a1, .ref a7, .ref mk1, .ref mk2, .int 0, .ref mk3, .int 0, .ref mk4, .ref mk5, .null, .int 0, .int (-1)])), (a6, .inr (10, [.ref a3, .ref wb, .ref wc, .int 0])), (a7, .inr (4, [.ref rn, .int 0]))] U.heap ∧ va_K (dC, dI) vwCl [] U ∧ va_D (fun _ => True) [(h0, .inr (11, [.ref a1, .ref a2, .ref a3, .ref a4, .ref a5, .ref a6, .ref a7, .ref a8, .int 0, .int 0, .int 0, .int (-1)])), (a8, .inr (5, [.ref a6, .ref a1, .ref a7, .ref mk1, .ref mk2, .int 0, .ref mk3, .int 0, .ref mk4, .ref mk5, .null, .int 0, .int (-1)])), (a6, .inr (10, [.ref a3, .ref wb, .ref wc, .int 0])), (a7, .inr (4, [.ref rn, .int 0]))])) (va_Qi (fun (r : Int32) (_ : Unit) => r = 0) (fun _ t => va_P (dC, dI) vwCl [] t.heap ∧ va_K (dC, dI) vwCl [] t ∧ va_D (va_A [(h0, .inr (11, [.ref a1, .ref a2, .ref a3, .ref a4, .ref a5, .ref a6, .ref a7, .ref a8, .int 0, .int 0, .int 0, .int (-1)])), (a8, .inr (5, [.ref a6, .ref a1, .ref a7, .ref mk1, .ref mk2, .int 0, .ref mk3, .int 0, .ref mk4, .ref mk5, .null, .int 0, .int (-1)])), (a6, .inr (10, [.ref a3, .ref wb, .ref wc, .int 0])), (a7, .inr (4, [.ref rn, .int 0]))] sz) []) (va_A [(h0, .inr (11, [.ref a1, .ref a2, .ref a3, .ref a4, .ref a5, .ref a6, .ref a7, .ref a8, .int 0, .int 0, .int 0, .int (-1)])), (a8, .inr (5, [.ref a6, .ref a1, .ref a7, .ref mk1, .ref mk2, .int 0, .ref mk3, .int 0, .ref mk4, .ref mk5, .null, .int 0, .int (-1)])), (a6, .inr (10, [.ref a3, .ref wb, .ref wc, .int 0])), (a7, .inr (4, [.ref rn, .int 0]))] sz)) 0 0 (va_A [(h0, .inr (11, [.ref a1, .ref a2, .ref a3, .ref a4, .ref a5, .ref a6, .ref a7, .ref a8, .int 0, .int 0, .int 0, .int (-1)])), (a8, .inr (5, [.ref a6, .ref a1, .ref a7, .ref mk1, .ref mk2, .int 0, .ref mk3, .int 0, .ref mk4, .ref mk5, .null, .int 0, .int (-1)])), (a6, .inr (10, [.ref a3, .ref wb, .ref wc, .int 0])), (a7, .inr (4, [.ref rn, .int 0]))] sz) := by
  refine Met.ofW (cc := cX12_close) (maxL := 1) (ret := (some .int)) (by decide) rfl ?_
  intro p e s m args below meth c s₁ B hml hv
  obtain ⟨rfl, hsz, hP, hK, hD0⟩ := hv
  have hx := B.exec
  have hb := B.bytes
  have hr := B.returns
  have hts := atoms_spec (ws := wm_X12_close) B.pre
  have htb := fun (w : Cond) (h : w ∈ tb) => hts w (List.mem_cons_of_mem _ h)
  have hown : s.vm.findClass RX12 = some m.cls := findClass_of_methodNamed B.named
  have hlocks := B.notSynchronized
  subst hsz
  have hD := hD0.self (sz := s.heap.size)
  generalize hAe : va_A [(h0, .inr (11, [.ref a1, .ref a2, .ref a3, .ref a4, .ref a5, .ref a6, .ref a7, .ref a8, .int 0, .int 0, .int 0, .int (-1)])), (a8, .inr (5, [.ref a6, .ref a1, .ref a7, .ref mk1, .ref mk2, .int 0, .ref mk3, .int 0, .ref mk4, .ref mk5, .null, .int 0, .int (-1)])), (a6, .inr (10, [.ref a3, .ref wb, .ref wc, .int 0])), (a7, .inr (4, [.ref rn, .int 0]))] s.heap.size = A at hD ⊢
  have hA : ∀ q : Nat, s.heap.size ≤ q → A q := fun q h => by rw [← hAe]; exact Or.inr h
  have hS : va_S A s.heap s.heap [] := va_S.rf
  have hP : va_P (dC, dI) vwCl [(h0, .inr (11, [.ref a1, .ref a2, .ref a3, .ref a4, .ref a5, .ref a6, .ref a7, .ref a8, .int 0, .int 0, .int 0, .int (-1)])), (a8, .inr (5, [.ref a6, .ref a1, .ref a7, .ref mk1, .ref mk2, .int 0, .ref mk3, .int 0, .ref mk4, .ref mk5, .null, .int 0, .int (-1)])), (a6, .inr (10, [.ref a3, .ref wb, .ref wc, .int 0])), (a7, .inr (4, [.ref rn, .int 0]))] s.heap := hP
  have hl := lv_entry ([.ref h0]) (n := 1) (Nat.le_of_ble_eq_true rfl)
  rw [lg_entry_eq]
  generalize (lg_sl ([.ref h0]) ++ List.replicate (1 - (lg_sl ([.ref h0])).length) Slot.unset).toArray = ls at hl ⊢
  have hl : lv_has ls 1 [(0, .ref h0)] := hl
  refine lv_aload_n hx hb dX12_close_0 rfl (lv_at hl 0 rfl) ?_
  refine va_get (D := (dC, dI)) (ci := 11) (v := .ref a8) (C := RX12) (T := TX12) (N := 12) hx hb htb inX12 hown hK hP 0 rfl rfl 7 (by decide) (htb _ kw_45) (fun _ h9 => h9) rfl dX12_close_1 ?_
  have hPc := hP.sub (ws' := [(a8, .inr (5, [.ref a6, .ref a1, .ref a7, .ref mk1, .ref mk2, .int 0, .ref mk3, .int 0, .ref mk4, .ref mk5, .null, .int 0, .int (-1)])), (a6, .inr (10, [.ref a3, .ref wb, .ref wc, .int 0]))]) [1, 2] rfl
  have hDc := hD.sub (ws' := [(a8, .inr (5, [.ref a6, .ref a1, .ref a7, .ref mk1, .ref mk2, .int 0, .ref mk3, .int 0, .ref mk4, .ref mk5, .null, .int 0, .int (-1)])), (a6, .inr (10, [.ref a3, .ref wb, .ref wc, .int 0]))]) [1, 2] (by decide) rfl
  have hKc := hK.sub (tys' := []) [] rfl
  have hFc := va_free (wc := [(a8, .inr (5, [.ref a6, .ref a1, .ref a7, .ref mk1, .ref mk2, .int 0, .ref mk3, .int 0, .ref mk4, .ref mk5, .null, .int 0, .int (-1)])), (a6, .inr (10, [.ref a3, .ref wb, .ref wc, .int 0]))]) hD hS hA [1, 2] rfl
  refine va_callv (va_runV (As := []) (rest := []) ⟨hx, hb, hml, hown, htb⟩ (c_X5_destroyAll l dC dI s.heap.size a8 a6 a1 a7 mk1 mk2 mk3 mk4 mk5 a3 wb wc) (cwV 0 htb (gd_V kw_104 kw_105 kw_106 kw_41 kw_552) rfl rfl rfl (by decide +kernel) ⟨Nat.le_of_ble_eq_true rfl, Nat.le_of_ble_eq_true rfl⟩) ⟨fun a U g mk q => by obtain ⟨q0, q1, qP, qK, qD⟩ := q; exact ⟨q0, q1, qP, va_K.moved (u := U) (U := U.calling g mk a) (Vm.Alike.refl U.vm) qK, qD⟩, va_recv hKc hPc (ci := 5) (q0 := 0) rfl rfl, fun U hU hW => ⟨rfl, by rw [hU], by rw [hU]; exact hPc, va_K.moved hW.alike hKc, hDc.weaken (fun _ _ _ _ => trivial)⟩⟩ rfl rfl hl.1 rfl (lv_room (Nat.le_of_ble_eq_true rfl)) dX12_close_4 ⟨(Nat.le_of_ble_eq_true rfl), (Nat.le_of_ble_eq_true rfl)⟩) hS (fun q _ h => hFc q h) hFc (fun u t H1 locs ht hvm hw hB hz1 hk1 hS => ?_)
  obtain ⟨hP1, hK1, hD1⟩ := hB
  rw [ht] at hP1
  have hK1 := va_K.moved hvm.symm hK1
  obtain ⟨hP, hD⟩ := va_join (wr := [(h0, .inr (11, [.ref a1, .ref a2, .ref a3, .ref a4, .ref a5, .ref a6, .ref a7, .ref a8, .int 0, .int 0, .int 0, .int (-1)])), (a7, .inr (4, [.ref rn, .int 0]))]) (w1 := []) hP hD [1, 2] [0, 3] rfl rfl (by decide) (by decide) hk1 hFc hP1 hD1
  have hK := hK.app hK1
  generalize H1 = H at hP hS ⊢
  have hP : va_P (dC, dI) vwCl [(h0, .inr (11, [.ref a1, .ref a2, .ref a3, .ref a4, .ref a5, .ref a6, .ref a7, .ref a8, .int 0, .int 0, .int 0, .int (-1)])), (a7, .inr (4, [.ref rn, .int 0]))] H := hP
  have hD : va_D A [(h0, .inr (11, [.ref a1, .ref a2, .ref a3, .ref a4, .ref a5, .ref a6, .ref a7, .ref a8, .int 0, .int 0, .int 0, .int (-1)])), (a7, .inr (4, [.ref rn, .int 0]))] := hD
  have hK : va_K (dC, dI) vwCl [] s := hK
  refine W.widen (k := 0) (n := 0) (Nat.le_of_ble_eq_true rfl) (Nat.le_of_ble_eq_true rfl) ?_
  refine lv_aload_n hx hb dX12_close_7 rfl (lv_at hl 0 rfl) ?_
  refine va_get (D := (dC, dI)) (ci := 11) (v := .ref a7) (C := RX12) (T := TX12) (N := 12) hx hb htb inX12 hown hK hP 0 rfl rfl 6 (by decide) (htb _ kw_39) (fun _ h9 => h9) rfl dX12_close_8 ?_
  have hPc := hP.sub (ws' := [(a7, .inr (4, [.ref rn, .int 0]))]) [1] rfl
  have hDc := hD.sub (ws' := [(a7, .inr (4, [.ref rn, .int 0]))]) [1] (by decide) rfl
  have hKc := hK.sub (tys' := []) [] rfl
  have hFc := va_free (wc := [(a7, .inr (4, [.ref rn, .int 0]))]) hD hS hA [1] rfl
  refine va_calli (va_runV (As := []) (rest := []) ⟨hx, hb, hml, hown, htb⟩ (c_X4_count l dC dI H.size a7 rn) (cwV 0 htb (gd_V kw_107 kw_108 kw_109 kw_35 kw_553) rfl rfl rfl (by decide +kernel) ⟨Nat.le_of_ble_eq_true rfl, Nat.le_of_ble_eq_true rfl⟩) ⟨fun a U g mk q => by obtain ⟨q0, q1, qP, qK, qD⟩ := q; exact ⟨q0, q1, qP, va_K.moved (u := U) (U := U.calling g mk a) (Vm.Alike.refl U.vm) qK, qD⟩, va_recv hKc hPc (ci := 4) (q0 := 0) rfl rfl, fun U hU hW => ⟨rfl, by rw [hU], by rw [hU]; exact hPc, va_K.moved hW.alike hKc, hDc.weaken (fun _ _ _ _ => trivial)⟩⟩ rfl rfl hl.1 rfl (lv_room (Nat.le_of_ble_eq_true rfl)) dX12_close_11 ⟨(Nat.le_of_ble_eq_true rfl), (Nat.le_of_ble_eq_true rfl)⟩) hS (fun q _ h => hFc q h) hFc (fun r u t H1 locs ht hvm hw hB hz1 hk1 hS => ?_)
  subst hw
  obtain ⟨hP1, hK1, hD1⟩ := hB
  rw [ht] at hP1
  have hK1 := va_K.moved hvm.symm hK1
  obtain ⟨hP, hD⟩ := va_join (wr := [(h0, .inr (11, [.ref a1, .ref a2, .ref a3, .ref a4, .ref a5, .ref a6, .ref a7, .ref a8, .int 0, .int 0, .int 0, .int (-1)]))]) (w1 := [(a7, .inr (4, [.ref rn, .int 0]))]) hP hD [1] [0] rfl rfl (by decide) (by decide) hk1 hFc hP1 hD1
  have hK := hK.app hK1
  generalize H1 = H at hP hS ⊢
  have hP : va_P (dC, dI) vwCl [(h0, .inr (11, [.ref a1, .ref a2, .ref a3, .ref a4, .ref a5, .ref a6, .ref a7, .ref a8, .int 0, .int 0, .int 0, .int (-1)])), (a7, .inr (4, [.ref rn, .int 0]))] H := hP
  have hD : va_D A [(h0, .inr (11, [.ref a1, .ref a2, .ref a3, .ref a4, .ref a5, .ref a6, .ref a7, .ref a8, .int 0, .int 0, .int 0, .int (-1)])), (a7, .inr (4, [.ref rn, .int 0]))] := hD
  have hK : va_K (dC, dI) vwCl [] s := hK
  refine W.widen (k := 0) (n := 0) (Nat.le_of_ble_eq_true rfl) (Nat.le_of_ble_eq_true rfl) ?_
  have hP9 := hP.sub (ws' := []) [] rfl
  have hD9 := hD.sub (ws' := []) [] (by decide) rfl
  have hK9 := hK.sub (tys' := []) [] rfl
  refine W.widen (k := 0) (n := 0) (Nat.le_of_ble_eq_true rfl) (Nat.le_of_ble_eq_true rfl) ?_
  exact W.iret (v := 0) hx hb hr (fun t ht hW => ⟨⟨0, (), rfl, (rfl), by rw [ht]; exact hP9, va_K.moved hW.alike hK9, hD9⟩, hS.F ht⟩) hS.2.2 dX12_close_14

set_option maxHeartbeats 4000000 in
set_option maxRecDepth 100000 in
theorem c_X12_events (l : Launch) (dC : Nat → ClassId) (dI : Nat → Nat → Nat) (sz : Nat) (h0 : Nat) (a1 : Nat) (a2 : Nat) (a3 : Nat) (a4 : Nat) (a5 : Nat) (a6 : Nat) (a7 : Nat) (a8 : Nat) (rn : Nat) : Met l yX12_events wm_X12_events ({ frames := 1, cells := 0, slots := 0, locals := 20 }) (va_Pc [.ref h0] (fun U => U.heap.size = sz ∧ va_P (dC, dI) vwCl [(h0, .inr (11, [.ref a1, .ref a2, .ref a3, .ref a4, .ref a5, .ref a6, .ref a7, .ref a8, .int 0, .int 0, .int 0, .int (-1)])), (a7, .inr (4, [.ref rn, .int 0]))] U.heap ∧ va_K (dC, dI) vwCl [] U ∧ va_D (fun _ => True) [(h0, .inr (11, [.ref a1, .ref a2, .ref a3, .ref a4, .ref a5, .ref a6, .ref a7, .ref a8, .int 0, .int 0, .int 0, .int (-1)])), (a7, .inr (4, [.ref rn, .int 0]))])) (va_Qi (fun (r : Int32) (_ : Unit) => r = 0) (fun _ t => va_P (dC, dI) vwCl [] t.heap ∧ va_K (dC, dI) vwCl [] t ∧ va_D (va_A [(h0, .inr (11, [.ref a1, .ref a2, .ref a3, .ref a4, .ref a5, .ref a6, .ref a7, .ref a8, .int 0, .int 0, .int 0, .int (-1)])), (a7, .inr (4, [.ref rn, .int 0]))] sz) []) (va_A [(h0, .inr (11, [.ref a1, .ref a2, .ref a3, .ref a4, .ref a5, .ref a6, .ref a7, .ref a8, .int 0, .int 0, .int 0, .int (-1)])), (a7, .inr (4, [.ref rn, .int 0]))] sz)) 0 0 (va_A [(h0, .inr (11, [.ref a1, .ref a2, .ref a3, .ref a4, .ref a5, .ref a6, .ref a7, .ref a8, .int 0, .int 0, .int 0, .int (-1)])), (a7, .inr (4, [.ref rn, .int 0]))] sz) := by
  refine Met.ofW (cc := cX12_events) (maxL := 1) (ret := (some .int)) (by decide) rfl ?_
  intro p e s m args below meth c s₁ B hml hv
  obtain ⟨rfl, hsz, hP, hK, hD0⟩ := hv
  have hx := B.exec
  have hb := B.bytes
  have hr := B.returns
  have hts := atoms_spec (ws := wm_X12_events) B.pre
  have htb := fun (w : Cond) (h : w ∈ tb) => hts w (List.mem_cons_of_mem _ h)
  have hown : s.vm.findClass RX12 = some m.cls := findClass_of_methodNamed B.named
  have hlocks := B.notSynchronized
  subst hsz
  have hD := hD0.self (sz := s.heap.size)
  generalize hAe : va_A [(h0, .inr (11, [.ref a1, .ref a2, .ref a3, .ref a4, .ref a5, .ref a6, .ref a7, .ref a8, .int 0, .int 0, .int 0, .int (-1)])), (a7, .inr (4, [.ref rn, .int 0]))] s.heap.size = A at hD ⊢
  have hA : ∀ q : Nat, s.heap.size ≤ q → A q := fun q h => by rw [← hAe]; exact Or.inr h
  have hS : va_S A s.heap s.heap [] := va_S.rf
  have hP : va_P (dC, dI) vwCl [(h0, .inr (11, [.ref a1, .ref a2, .ref a3, .ref a4, .ref a5, .ref a6, .ref a7, .ref a8, .int 0, .int 0, .int 0, .int (-1)])), (a7, .inr (4, [.ref rn, .int 0]))] s.heap := hP
  have hl := lv_entry ([.ref h0]) (n := 1) (Nat.le_of_ble_eq_true rfl)
  rw [lg_entry_eq]
  generalize (lg_sl ([.ref h0]) ++ List.replicate (1 - (lg_sl ([.ref h0])).length) Slot.unset).toArray = ls at hl ⊢
  have hl : lv_has ls 1 [(0, .ref h0)] := hl
  refine lv_aload_n hx hb dX12_events_0 rfl (lv_at hl 0 rfl) ?_
  refine va_get (D := (dC, dI)) (ci := 11) (v := .ref a7) (C := RX12) (T := TX12) (N := 12) hx hb htb inX12 hown hK hP 0 rfl rfl 6 (by decide) (htb _ kw_39) (fun _ h9 => h9) rfl dX12_events_1 ?_
  have hPc := hP.sub (ws' := [(a7, .inr (4, [.ref rn, .int 0]))]) [1] rfl
  have hDc := hD.sub (ws' := [(a7, .inr (4, [.ref rn, .int 0]))]) [1] (by decide) rfl
  have hKc := hK.sub (tys' := []) [] rfl
  have hFc := va_free (wc := [(a7, .inr (4, [.ref rn, .int 0]))]) hD hS hA [1] rfl
  refine va_calli (va_runV (As := []) (rest := []) ⟨hx, hb, hml, hown, htb⟩ (c_X4_count l dC dI s.heap.size a7 rn) (cwV 0 htb (gd_V kw_107 kw_108 kw_109 kw_35 kw_553) rfl rfl rfl (by decide +kernel) ⟨Nat.le_of_ble_eq_true rfl, Nat.le_of_ble_eq_true rfl⟩) ⟨fun a U g mk q => by obtain ⟨q0, q1, qP, qK, qD⟩ := q; exact ⟨q0, q1, qP, va_K.moved (u := U) (U := U.calling g mk a) (Vm.Alike.refl U.vm) qK, qD⟩, va_recv hKc hPc (ci := 4) (q0 := 0) rfl rfl, fun U hU hW => ⟨rfl, by rw [hU], by rw [hU]; exact hPc, va_K.moved hW.alike hKc, hDc.weaken (fun _ _ _ _ => trivial)⟩⟩ rfl rfl hl.1 rfl (lv_room (Nat.le_of_ble_eq_true rfl)) dX12_events_4 ⟨(Nat.le_of_ble_eq_true rfl), (Nat.le_of_ble_eq_true rfl)⟩) hS (fun q _ h => hFc q h) hFc (fun r u t H1 locs ht hvm hw hB hz1 hk1 hS => ?_)
  subst hw
  obtain ⟨hP1, hK1, hD1⟩ := hB
  rw [ht] at hP1
  have hK1 := va_K.moved hvm.symm hK1
  obtain ⟨hP, hD⟩ := va_join (wr := [(h0, .inr (11, [.ref a1, .ref a2, .ref a3, .ref a4, .ref a5, .ref a6, .ref a7, .ref a8, .int 0, .int 0, .int 0, .int (-1)]))]) (w1 := [(a7, .inr (4, [.ref rn, .int 0]))]) hP hD [1] [0] rfl rfl (by decide) (by decide) hk1 hFc hP1 hD1
  have hK := hK.app hK1
  generalize H1 = H at hP hS ⊢
  have hP : va_P (dC, dI) vwCl [(h0, .inr (11, [.ref a1, .ref a2, .ref a3, .ref a4, .ref a5, .ref a6, .ref a7, .ref a8, .int 0, .int 0, .int 0, .int (-1)])), (a7, .inr (4, [.ref rn, .int 0]))] H := hP
  have hD : va_D A [(h0, .inr (11, [.ref a1, .ref a2, .ref a3, .ref a4, .ref a5, .ref a6, .ref a7, .ref a8, .int 0, .int 0, .int 0, .int (-1)])), (a7, .inr (4, [.ref rn, .int 0]))] := hD
  have hK : va_K (dC, dI) vwCl [] s := hK
  refine W.widen (k := 0) (n := 0) (Nat.le_of_ble_eq_true rfl) (Nat.le_of_ble_eq_true rfl) ?_
  have hP9 := hP.sub (ws' := []) [] rfl
  have hD9 := hD.sub (ws' := []) [] (by decide) rfl
  have hK9 := hK.sub (tys' := []) [] rfl
  refine W.widen (k := 0) (n := 0) (Nat.le_of_ble_eq_true rfl) (Nat.le_of_ble_eq_true rfl) ?_
  exact W.iret (v := 0) hx hb hr (fun t ht hW => ⟨⟨0, (), rfl, (rfl), by rw [ht]; exact hP9, va_K.moved hW.alike hK9, hD9⟩, hS.F ht⟩) hS.2.2 dX12_events_7

set_option maxHeartbeats 4000000 in
set_option maxRecDepth 100000 in
theorem c_X12_event (l : Launch) (dC : Nat → ClassId) (dI : Nat → Nat → Nat) (sz : Nat) (h0 : Nat) (p0 : Int32) (p1 : Int32) (a1 : Nat) (a2 : Nat) (a3 : Nat) (a4 : Nat) (a5 : Nat) (a6 : Nat) (a7 : Nat) (a8 : Nat) (rn : Nat) : Met l yX12_event wm_X12_event ({ frames := 1, cells := 0, slots := 0, locals := 22 }) (va_Pc [.ref h0, .int p0, .int p1] (fun U => U.heap.size = sz ∧ va_P (dC, dI) vwCl [(h0, .inr (11, [.ref a1, .ref a2, .ref a3, .ref a4, .ref a5, .ref a6, .ref a7, .ref a8, .int 0, .int 0, .int 0, .int (-1)])), (a7, .inr (4, [.ref rn, .int 0]))] U.heap ∧ va_K (dC, dI) vwCl [] U ∧ va_D (fun _ => True) [(h0, .inr (11, [.ref a1, .ref a2, .ref a3, .ref a4, .ref a5, .ref a6, .ref a7, .ref a8, .int 0, .int 0, .int 0, .int (-1)])), (a7, .inr (4, [.ref rn, .int 0]))])) (va_Qi (fun (r : Int32) (_ : Unit) => r = (-1)) (fun _ t => va_P (dC, dI) vwCl [] t.heap ∧ va_K (dC, dI) vwCl [] t ∧ va_D (va_A [(h0, .inr (11, [.ref a1, .ref a2, .ref a3, .ref a4, .ref a5, .ref a6, .ref a7, .ref a8, .int 0, .int 0, .int 0, .int (-1)])), (a7, .inr (4, [.ref rn, .int 0]))] sz) []) (va_A [(h0, .inr (11, [.ref a1, .ref a2, .ref a3, .ref a4, .ref a5, .ref a6, .ref a7, .ref a8, .int 0, .int 0, .int 0, .int (-1)])), (a7, .inr (4, [.ref rn, .int 0]))] sz)) 0 0 (va_A [(h0, .inr (11, [.ref a1, .ref a2, .ref a3, .ref a4, .ref a5, .ref a6, .ref a7, .ref a8, .int 0, .int 0, .int 0, .int (-1)])), (a7, .inr (4, [.ref rn, .int 0]))] sz) := by
  refine Met.ofW (cc := cX12_event) (maxL := 3) (ret := (some .int)) (by decide) rfl ?_
  intro p e s m args below meth c s₁ B hml hv
  obtain ⟨rfl, hsz, hP, hK, hD0⟩ := hv
  have hx := B.exec
  have hb := B.bytes
  have hr := B.returns
  have hts := atoms_spec (ws := wm_X12_event) B.pre
  have htb := fun (w : Cond) (h : w ∈ tb) => hts w (List.mem_cons_of_mem _ h)
  have hown : s.vm.findClass RX12 = some m.cls := findClass_of_methodNamed B.named
  have hlocks := B.notSynchronized
  subst hsz
  have hD := hD0.self (sz := s.heap.size)
  generalize hAe : va_A [(h0, .inr (11, [.ref a1, .ref a2, .ref a3, .ref a4, .ref a5, .ref a6, .ref a7, .ref a8, .int 0, .int 0, .int 0, .int (-1)])), (a7, .inr (4, [.ref rn, .int 0]))] s.heap.size = A at hD ⊢
  have hA : ∀ q : Nat, s.heap.size ≤ q → A q := fun q h => by rw [← hAe]; exact Or.inr h
  have hS : va_S A s.heap s.heap [] := va_S.rf
  have hP : va_P (dC, dI) vwCl [(h0, .inr (11, [.ref a1, .ref a2, .ref a3, .ref a4, .ref a5, .ref a6, .ref a7, .ref a8, .int 0, .int 0, .int 0, .int (-1)])), (a7, .inr (4, [.ref rn, .int 0]))] s.heap := hP
  have hl := lv_entry ([.ref h0, .int p0, .int p1]) (n := 3) (Nat.le_of_ble_eq_true rfl)
  rw [lg_entry_eq]
  generalize (lg_sl ([.ref h0, .int p0, .int p1]) ++ List.replicate (3 - (lg_sl ([.ref h0, .int p0, .int p1])).length) Slot.unset).toArray = ls at hl ⊢
  have hl : lv_has ls 3 [(0, .ref h0), (1, .int p0), (2, .int p1)] := hl
  refine lv_aload_n hx hb dX12_event_0 rfl (lv_at hl 0 rfl) ?_
  refine va_get (D := (dC, dI)) (ci := 11) (v := .ref a7) (C := RX12) (T := TX12) (N := 12) hx hb htb inX12 hown hK hP 0 rfl rfl 6 (by decide) (htb _ kw_39) (fun _ h9 => h9) rfl dX12_event_1 ?_
  refine lv_iload_n hx hb dX12_event_4 rfl (lv_at hl 1 rfl) ?_
  refine lv_iload_n hx hb dX12_event_5 rfl (lv_at hl 2 rfl) ?_
  have hPc := hP.sub (ws' := [(a7, .inr (4, [.ref rn, .int 0]))]) [1] rfl
  have hDc := hD.sub (ws' := [(a7, .inr (4, [.ref rn, .int 0]))]) [1] (by decide) rfl
  have hKc := hK.sub (tys' := []) [] rfl
  have hFc := va_free (wc := [(a7, .inr (4, [.ref rn, .int 0]))]) hD hS hA [1] rfl
  refine va_calli (va_runV (As := [.int p0, .int p1]) (rest := []) ⟨hx, hb, hml, hown, htb⟩ (c_X4_number l dC dI s.heap.size a7 p0 p1 rn) (cwV 2 htb (gd_V kw_110 kw_111 kw_112 kw_35 kw_554) rfl rfl rfl (by decide +kernel) ⟨Nat.le_of_ble_eq_true rfl, Nat.le_of_ble_eq_true rfl⟩) ⟨fun a U g mk q => by obtain ⟨q0, q1, qP, qK, qD⟩ := q; exact ⟨q0, q1, qP, va_K.moved (u := U) (U := U.calling g mk a) (Vm.Alike.refl U.vm) qK, qD⟩, va_recv hKc hPc (ci := 4) (q0 := 0) rfl rfl, fun U hU hW => ⟨rfl, by rw [hU], by rw [hU]; exact hPc, va_K.moved hW.alike hKc, hDc.weaken (fun _ _ _ _ => trivial)⟩⟩ rfl rfl hl.1 rfl (lv_room (Nat.le_of_ble_eq_true rfl)) dX12_event_6 ⟨(Nat.le_of_ble_eq_true rfl), (Nat.le_of_ble_eq_true rfl)⟩) hS (fun q _ h => hFc q h) hFc (fun r u t H1 locs ht hvm hw hB hz1 hk1 hS => ?_)
  subst hw
  obtain ⟨hP1, hK1, hD1⟩ := hB
  rw [ht] at hP1
  have hK1 := va_K.moved hvm.symm hK1
  obtain ⟨hP, hD⟩ := va_join (wr := [(h0, .inr (11, [.ref a1, .ref a2, .ref a3, .ref a4, .ref a5, .ref a6, .ref a7, .ref a8, .int 0, .int 0, .int 0, .int (-1)]))]) (w1 := []) hP hD [1] [0] rfl rfl (by decide) (by decide) hk1 hFc hP1 hD1
  have hK := hK.app hK1
  generalize H1 = H at hP hS ⊢
  have hP : va_P (dC, dI) vwCl [(h0, .inr (11, [.ref a1, .ref a2, .ref a3, .ref a4, .ref a5, .ref a6, .ref a7, .ref a8, .int 0, .int 0, .int 0, .int (-1)]))] H := hP
  have hD : va_D A [(h0, .inr (11, [.ref a1, .ref a2, .ref a3, .ref a4, .ref a5, .ref a6, .ref a7, .ref a8, .int 0, .int 0, .int 0, .int (-1)]))] := hD
  have hK : va_K (dC, dI) vwCl [] s := hK
  refine W.widen (k := 0) (n := 0) (Nat.le_of_ble_eq_true rfl) (Nat.le_of_ble_eq_true rfl) ?_
  have hP9 := hP.sub (ws' := []) [] rfl
  have hD9 := hD.sub (ws' := []) [] (by decide) rfl
  have hK9 := hK.sub (tys' := []) [] rfl
  refine W.widen (k := 0) (n := 0) (Nat.le_of_ble_eq_true rfl) (Nat.le_of_ble_eq_true rfl) ?_
  exact W.iret (v := (-1)) hx hb hr (fun t ht hW => ⟨⟨(-1), (), rfl, (rfl), by rw [ht]; exact hP9, va_K.moved hW.alike hK9, hD9⟩, hS.F ht⟩) hS.2.2 dX12_event_9

set_option maxHeartbeats 4000000 in
set_option maxRecDepth 100000 in
theorem c_X12_object (l : Launch) (dC : Nat → ClassId) (dI : Nat → Nat → Nat) (sz : Nat) (h0 : Nat) (p0 : Int32) (p1 : Int32) (a1 : Nat) (a2 : Nat) (a3 : Nat) (a4 : Nat) (a5 : Nat) (a6 : Nat) (a7 : Nat) (a8 : Nat) (mk1 : Nat) (mk2 : Nat) (mk3 : Nat) (mk4 : Nat) (mk5 : Nat) : Met l yX12_object wm_X12_object ({ frames := 2, cells := 0, slots := 0, locals := 42 }) (va_Pc [.ref h0, .int p0, .int p1] (fun U => U.heap.size = sz ∧ va_P (dC, dI) vwCl [(h0, .inr (11, [.ref a1, .ref a2, .ref a3, .ref a4, .ref a5, .ref a6, .ref a7, .ref a8, .int 0, .int 0, .int 0, .int (-1)])), (a8, .inr (5, [.ref a6, .ref a1, .ref a7, .ref mk1, .ref mk2, .int 0, .ref mk3, .int 0, .ref mk4, .ref mk5, .null, .int 0, .int (-1)]))] U.heap ∧ va_K (dC, dI) vwCl [] U ∧ va_D (fun _ => True) [(h0, .inr (11, [.ref a1, .ref a2, .ref a3, .ref a4, .ref a5, .ref a6, .ref a7, .ref a8, .int 0, .int 0, .int 0, .int (-1)])), (a8, .inr (5, [.ref a6, .ref a1, .ref a7, .ref mk1, .ref mk2, .int 0, .ref mk3, .int 0, .ref mk4, .ref mk5, .null, .int 0, .int (-1)]))])) (va_Qi (fun (r : Int32) (_ : Unit) => r = (-1)) (fun _ t => va_P (dC, dI) vwCl [] t.heap ∧ va_K (dC, dI) vwCl [] t ∧ va_D (va_A [(h0, .inr (11, [.ref a1, .ref a2, .ref a3, .ref a4, .ref a5, .ref a6, .ref a7, .ref a8, .int 0, .int 0, .int 0, .int (-1)])), (a8, .inr (5, [.ref a6, .ref a1, .ref a7, .ref mk1, .ref mk2, .int 0, .ref mk3, .int 0, .ref mk4, .ref mk5, .null, .int 0, .int (-1)]))] sz) []) (va_A [(h0, .inr (11, [.ref a1, .ref a2, .ref a3, .ref a4, .ref a5, .ref a6, .ref a7, .ref a8, .int 0, .int 0, .int 0, .int (-1)])), (a8, .inr (5, [.ref a6, .ref a1, .ref a7, .ref mk1, .ref mk2, .int 0, .ref mk3, .int 0, .ref mk4, .ref mk5, .null, .int 0, .int (-1)]))] sz)) 0 0 (va_A [(h0, .inr (11, [.ref a1, .ref a2, .ref a3, .ref a4, .ref a5, .ref a6, .ref a7, .ref a8, .int 0, .int 0, .int 0, .int (-1)])), (a8, .inr (5, [.ref a6, .ref a1, .ref a7, .ref mk1, .ref mk2, .int 0, .ref mk3, .int 0, .ref mk4, .ref mk5, .null, .int 0, .int (-1)]))] sz) := by
  refine Met.ofW (cc := cX12_object) (maxL := 3) (ret := (some .int)) (by decide) rfl ?_
  intro p e s m args below meth c s₁ B hml hv
  obtain ⟨rfl, hsz, hP, hK, hD0⟩ := hv
  have hx := B.exec
  have hb := B.bytes
  have hr := B.returns
  have hts := atoms_spec (ws := wm_X12_object) B.pre
  have htb := fun (w : Cond) (h : w ∈ tb) => hts w (List.mem_cons_of_mem _ h)
  have hown : s.vm.findClass RX12 = some m.cls := findClass_of_methodNamed B.named
  have hlocks := B.notSynchronized
  subst hsz
  have hD := hD0.self (sz := s.heap.size)
  generalize hAe : va_A [(h0, .inr (11, [.ref a1, .ref a2, .ref a3, .ref a4, .ref a5, .ref a6, .ref a7, .ref a8, .int 0, .int 0, .int 0, .int (-1)])), (a8, .inr (5, [.ref a6, .ref a1, .ref a7, .ref mk1, .ref mk2, .int 0, .ref mk3, .int 0, .ref mk4, .ref mk5, .null, .int 0, .int (-1)]))] s.heap.size = A at hD ⊢
  have hA : ∀ q : Nat, s.heap.size ≤ q → A q := fun q h => by rw [← hAe]; exact Or.inr h
  have hS : va_S A s.heap s.heap [] := va_S.rf
  have hP : va_P (dC, dI) vwCl [(h0, .inr (11, [.ref a1, .ref a2, .ref a3, .ref a4, .ref a5, .ref a6, .ref a7, .ref a8, .int 0, .int 0, .int 0, .int (-1)])), (a8, .inr (5, [.ref a6, .ref a1, .ref a7, .ref mk1, .ref mk2, .int 0, .ref mk3, .int 0, .ref mk4, .ref mk5, .null, .int 0, .int (-1)]))] s.heap := hP
  have hl := lv_entry ([.ref h0, .int p0, .int p1]) (n := 3) (Nat.le_of_ble_eq_true rfl)
  rw [lg_entry_eq]
  generalize (lg_sl ([.ref h0, .int p0, .int p1]) ++ List.replicate (3 - (lg_sl ([.ref h0, .int p0, .int p1])).length) Slot.unset).toArray = ls at hl ⊢
  have hl : lv_has ls 3 [(0, .ref h0), (1, .int p0), (2, .int p1)] := hl
  refine lv_iload_n hx hb dX12_object_0 rfl (lv_at hl 2 rfl) ?_
  refine lv_if_ne (tgt := 13) hx hb dX12_object_1 (by decide) (fun c_1 => ?_) (fun c_1 => ?_)
  · refine lv_iload_n hx hb dX12_object_13 rfl (lv_at hl 2 rfl) ?_
    refine lv_iconst (v := 1) hx hb dX12_object_14 (by decide) ?_
    refine lv_icmp_ne (tgt := 29) hx hb dX12_object_15 (by decide) (fun c_2 => ?_) (fun c_2 => ?_)
    · refine lv_iconst (v := (-1)) hx hb dX12_object_29 (by decide) ?_
      have hP9 := hP.sub (ws' := []) [] rfl
      have hD9 := hD.sub (ws' := []) [] (by decide) rfl
      have hK9 := hK.sub (tys' := []) [] rfl
      refine W.widen (k := 0) (n := 0) (Nat.le_of_ble_eq_true rfl) (Nat.le_of_ble_eq_true rfl) ?_
      exact W.iret (v := (-1)) hx hb hr (fun t ht hW => ⟨⟨(-1), (), rfl, (rfl), by rw [ht]; exact hP9, va_K.moved hW.alike hK9, hD9⟩, hS.F ht⟩) hS.2.2 dX12_object_30
    · refine lv_aload_n hx hb dX12_object_18 rfl (lv_at hl 0 rfl) ?_
      refine va_get (D := (dC, dI)) (ci := 11) (v := .ref a8) (C := RX12) (T := TX12) (N := 12) hx hb htb inX12 hown hK hP 0 rfl rfl 7 (by decide) (htb _ kw_45) (fun _ h9 => h9) rfl dX12_object_19 ?_
      refine lv_iload_n hx hb dX12_object_22 rfl (lv_at hl 1 rfl) ?_
      have hPc := hP.sub (ws' := [(a8, .inr (5, [.ref a6, .ref a1, .ref a7, .ref mk1, .ref mk2, .int 0, .ref mk3, .int 0, .ref mk4, .ref mk5, .null, .int 0, .int (-1)]))]) [1] rfl
      have hDc := hD.sub (ws' := [(a8, .inr (5, [.ref a6, .ref a1, .ref a7, .ref mk1, .ref mk2, .int 0, .ref mk3, .int 0, .ref mk4, .ref mk5, .null, .int 0, .int (-1)]))]) [1] (by decide) rfl
      have hKc := hK.sub (tys' := []) [] rfl
      have hFc := va_free (wc := [(a8, .inr (5, [.ref a6, .ref a1, .ref a7, .ref mk1, .ref mk2, .int 0, .ref mk3, .int 0, .ref mk4, .ref mk5, .null, .int 0, .int (-1)]))]) hD hS hA [1] rfl
      refine va_calli (va_runV (As := [.int p0]) (rest := []) ⟨hx, hb, hml, hown, htb⟩ (c_X5_beanOfObject l dC dI s.heap.size a8 p0 a6 a1 a7 mk1 mk2 mk3 mk4 mk5) (cwV 1 htb (gd_V kw_116 kw_117 kw_118 kw_41 kw_556) rfl rfl rfl (by decide +kernel) ⟨Nat.le_of_ble_eq_true rfl, Nat.le_of_ble_eq_true rfl⟩) ⟨fun a U g mk q => by obtain ⟨q0, q1, qP, qK, qD⟩ := q; exact ⟨q0, q1, qP, va_K.moved (u := U) (U := U.calling g mk a) (Vm.Alike.refl U.vm) qK, qD⟩, va_recv hKc hPc (ci := 5) (q0 := 0) rfl rfl, fun U hU hW => ⟨rfl, by rw [hU], by rw [hU]; exact hPc, va_K.moved hW.alike hKc, hDc.weaken (fun _ _ _ _ => trivial)⟩⟩ rfl rfl hl.1 rfl (lv_room (Nat.le_of_ble_eq_true rfl)) dX12_object_23 ⟨(Nat.le_of_ble_eq_true rfl), (Nat.le_of_ble_eq_true rfl)⟩) hS (fun q _ h => hFc q h) hFc (fun r u t H1 locs ht hvm hw hB hz1 hk1 hS => ?_)
      subst hw
      obtain ⟨hP1, hK1, hD1⟩ := hB
      rw [ht] at hP1
      have hK1 := va_K.moved hvm.symm hK1
      obtain ⟨hP, hD⟩ := va_join (wr := [(h0, .inr (11, [.ref a1, .ref a2, .ref a3, .ref a4, .ref a5, .ref a6, .ref a7, .ref a8, .int 0, .int 0, .int 0, .int (-1)]))]) (w1 := []) hP hD [1] [0] rfl rfl (by decide) (by decide) hk1 hFc hP1 hD1
      have hK := hK.app hK1
      generalize H1 = H at hP hS ⊢
      have hP : va_P (dC, dI) vwCl [(h0, .inr (11, [.ref a1, .ref a2, .ref a3, .ref a4, .ref a5, .ref a6, .ref a7, .ref a8, .int 0, .int 0, .int 0, .int (-1)]))] H := hP
      have hD : va_D A [(h0, .inr (11, [.ref a1, .ref a2, .ref a3, .ref a4, .ref a5, .ref a6, .ref a7, .ref a8, .int 0, .int 0, .int 0, .int (-1)]))] := hD
      have hK : va_K (dC, dI) vwCl [] s := hK
      refine W.widen (k := 0) (n := 0) (Nat.le_of_ble_eq_true rfl) (Nat.le_of_ble_eq_true rfl) ?_
      refine lv_goto (tgt := 30) hx hb dX12_object_26 (by decide) ?_
      have hP9 := hP.sub (ws' := []) [] rfl
      have hD9 := hD.sub (ws' := []) [] (by decide) rfl
      have hK9 := hK.sub (tys' := []) [] rfl
      refine W.widen (k := 0) (n := 0) (Nat.le_of_ble_eq_true rfl) (Nat.le_of_ble_eq_true rfl) ?_
      exact W.iret (v := (-1)) hx hb hr (fun t ht hW => ⟨⟨(-1), (), rfl, (rfl), by rw [ht]; exact hP9, va_K.moved hW.alike hK9, hD9⟩, hS.F ht⟩) hS.2.2 dX12_object_30
  · refine lv_aload_n hx hb dX12_object_4 rfl (lv_at hl 0 rfl) ?_
    refine va_get (D := (dC, dI)) (ci := 11) (v := .ref a8) (C := RX12) (T := TX12) (N := 12) hx hb htb inX12 hown hK hP 0 rfl rfl 7 (by decide) (htb _ kw_45) (fun _ h9 => h9) rfl dX12_object_5 ?_
    refine lv_iload_n hx hb dX12_object_8 rfl (lv_at hl 1 rfl) ?_
    have hPc := hP.sub (ws' := [(a8, .inr (5, [.ref a6, .ref a1, .ref a7, .ref mk1, .ref mk2, .int 0, .ref mk3, .int 0, .ref mk4, .ref mk5, .null, .int 0, .int (-1)]))]) [1] rfl
    have hDc := hD.sub (ws' := [(a8, .inr (5, [.ref a6, .ref a1, .ref a7, .ref mk1, .ref mk2, .int 0, .ref mk3, .int 0, .ref mk4, .ref mk5, .null, .int 0, .int (-1)]))]) [1] (by decide) rfl
    have hKc := hK.sub (tys' := []) [] rfl
    have hFc := va_free (wc := [(a8, .inr (5, [.ref a6, .ref a1, .ref a7, .ref mk1, .ref mk2, .int 0, .ref mk3, .int 0, .ref mk4, .ref mk5, .null, .int 0, .int (-1)]))]) hD hS hA [1] rfl
    refine va_calli (va_runV (As := [.int p0]) (rest := []) ⟨hx, hb, hml, hown, htb⟩ (c_X5_classOfObject l dC dI s.heap.size a8 p0 a6 a1 a7 mk1 mk2 mk3 mk4 mk5) (cwV 1 htb (gd_V kw_113 kw_114 kw_115 kw_41 kw_555) rfl rfl rfl (by decide +kernel) ⟨Nat.le_of_ble_eq_true rfl, Nat.le_of_ble_eq_true rfl⟩) ⟨fun a U g mk q => by obtain ⟨q0, q1, qP, qK, qD⟩ := q; exact ⟨q0, q1, qP, va_K.moved (u := U) (U := U.calling g mk a) (Vm.Alike.refl U.vm) qK, qD⟩, va_recv hKc hPc (ci := 5) (q0 := 0) rfl rfl, fun U hU hW => ⟨rfl, by rw [hU], by rw [hU]; exact hPc, va_K.moved hW.alike hKc, hDc.weaken (fun _ _ _ _ => trivial)⟩⟩ rfl rfl hl.1 rfl (lv_room (Nat.le_of_ble_eq_true rfl)) dX12_object_9 ⟨(Nat.le_of_ble_eq_true rfl), (Nat.le_of_ble_eq_true rfl)⟩) hS (fun q _ h => hFc q h) hFc (fun r u t H1 locs ht hvm hw hB hz1 hk1 hS => ?_)
    subst hw
    obtain ⟨hP1, hK1, hD1⟩ := hB
    rw [ht] at hP1
    have hK1 := va_K.moved hvm.symm hK1
    obtain ⟨hP, hD⟩ := va_join (wr := [(h0, .inr (11, [.ref a1, .ref a2, .ref a3, .ref a4, .ref a5, .ref a6, .ref a7, .ref a8, .int 0, .int 0, .int 0, .int (-1)]))]) (w1 := []) hP hD [1] [0] rfl rfl (by decide) (by decide) hk1 hFc hP1 hD1
    have hK := hK.app hK1
    generalize H1 = H at hP hS ⊢
    have hP : va_P (dC, dI) vwCl [(h0, .inr (11, [.ref a1, .ref a2, .ref a3, .ref a4, .ref a5, .ref a6, .ref a7, .ref a8, .int 0, .int 0, .int 0, .int (-1)]))] H := hP
    have hD : va_D A [(h0, .inr (11, [.ref a1, .ref a2, .ref a3, .ref a4, .ref a5, .ref a6, .ref a7, .ref a8, .int 0, .int 0, .int 0, .int (-1)]))] := hD
    have hK : va_K (dC, dI) vwCl [] s := hK
    refine W.widen (k := 0) (n := 0) (Nat.le_of_ble_eq_true rfl) (Nat.le_of_ble_eq_true rfl) ?_
    have hP9 := hP.sub (ws' := []) [] rfl
    have hD9 := hD.sub (ws' := []) [] (by decide) rfl
    have hK9 := hK.sub (tys' := []) [] rfl
    refine W.widen (k := 0) (n := 0) (Nat.le_of_ble_eq_true rfl) (Nat.le_of_ble_eq_true rfl) ?_
    exact W.iret (v := (-1)) hx hb hr (fun t ht hW => ⟨⟨(-1), (), rfl, (rfl), by rw [ht]; exact hP9, va_K.moved hW.alike hK9, hD9⟩, hS.F ht⟩) hS.2.2 dX12_object_12

set_option maxHeartbeats 4000000 in
set_option maxRecDepth 100000 in
theorem c_X12_bean (l : Launch) (dC : Nat → ClassId) (dI : Nat → Nat → Nat) (sz : Nat) (h0 : Nat) (p0 : Int32) (p1 : Int32) (a1 : Nat) (a2 : Nat) (a3 : Nat) (a4 : Nat) (a5 : Nat) (a6 : Nat) (a7 : Nat) (a8 : Nat) (wb : Nat) (wc : Nat) : Met l yX12_bean wm_X12_bean ({ frames := 1, cells := 0, slots := 0, locals := 20 }) (va_Pc [.ref h0, .int p0, .int p1] (fun U => U.heap.size = sz ∧ va_P (dC, dI) vwCl [(h0, .inr (11, [.ref a1, .ref a2, .ref a3, .ref a4, .ref a5, .ref a6, .ref a7, .ref a8, .int 0, .int 0, .int 0, .int (-1)])), (a6, .inr (10, [.ref a3, .ref wb, .ref wc, .int 0]))] U.heap ∧ va_K (dC, dI) vwCl [] U ∧ va_D (fun _ => True) [(h0, .inr (11, [.ref a1, .ref a2, .ref a3, .ref a4, .ref a5, .ref a6, .ref a7, .ref a8, .int 0, .int 0, .int 0, .int (-1)])), (a6, .inr (10, [.ref a3, .ref wb, .ref wc, .int 0]))])) (va_Qi (fun (r : Int32) (_ : Unit) => r = (-1)) (fun _ t => va_P (dC, dI) vwCl [] t.heap ∧ va_K (dC, dI) vwCl [] t ∧ va_D (va_A [(h0, .inr (11, [.ref a1, .ref a2, .ref a3, .ref a4, .ref a5, .ref a6, .ref a7, .ref a8, .int 0, .int 0, .int 0, .int (-1)])), (a6, .inr (10, [.ref a3, .ref wb, .ref wc, .int 0]))] sz) []) (va_A [(h0, .inr (11, [.ref a1, .ref a2, .ref a3, .ref a4, .ref a5, .ref a6, .ref a7, .ref a8, .int 0, .int 0, .int 0, .int (-1)])), (a6, .inr (10, [.ref a3, .ref wb, .ref wc, .int 0]))] sz)) 0 0 (va_A [(h0, .inr (11, [.ref a1, .ref a2, .ref a3, .ref a4, .ref a5, .ref a6, .ref a7, .ref a8, .int 0, .int 0, .int 0, .int (-1)])), (a6, .inr (10, [.ref a3, .ref wb, .ref wc, .int 0]))] sz) := by
  refine Met.ofW (cc := cX12_bean) (maxL := 3) (ret := (some .int)) (by decide) rfl ?_
  intro p e s m args below meth c s₁ B hml hv
  obtain ⟨rfl, hsz, hP, hK, hD0⟩ := hv
  have hx := B.exec
  have hb := B.bytes
  have hr := B.returns
  have hts := atoms_spec (ws := wm_X12_bean) B.pre
  have htb := fun (w : Cond) (h : w ∈ tb) => hts w (List.mem_cons_of_mem _ h)
  have hown : s.vm.findClass RX12 = some m.cls := findClass_of_methodNamed B.named
  have hlocks := B.notSynchronized
  subst hsz
  have hD := hD0.self (sz := s.heap.size)
  generalize hAe : va_A [(h0, .inr (11, [.ref a1, .ref a2, .ref a3, .ref a4, .ref a5, .ref a6, .ref a7, .ref a8, .int 0, .int 0, .int 0, .int (-1)])), (a6, .inr (10, [.ref a3, .ref wb, .ref wc, .int 0]))] s.heap.size = A at hD ⊢
  have hA : ∀ q : Nat, s.heap.size ≤ q → A q := fun q h => by rw [← hAe]; exact Or.inr h
  have hS : va_S A s.heap s.heap [] := va_S.rf
  have hP : va_P (dC, dI) vwCl [(h0, .inr (11, [.ref a1, .ref a2, .ref a3, .ref a4, .ref a5, .ref a6, .ref a7, .ref a8, .int 0, .int 0, .int 0, .int (-1)])), (a6, .inr (10, [.ref a3, .ref wb, .ref wc, .int 0]))] s.heap := hP
  have hl := lv_entry ([.ref h0, .int p0, .int p1]) (n := 3) (Nat.le_of_ble_eq_true rfl)
  rw [lg_entry_eq]
  generalize (lg_sl ([.ref h0, .int p0, .int p1]) ++ List.replicate (3 - (lg_sl ([.ref h0, .int p0, .int p1])).length) Slot.unset).toArray = ls at hl ⊢
  have hl : lv_has ls 3 [(0, .ref h0), (1, .int p0), (2, .int p1)] := hl
  refine lv_iload_n hx hb dX12_bean_0 rfl (lv_at hl 1 rfl) ?_
  refine lv_if_lt (tgt := 30) hx hb dX12_bean_1 (by decide) (fun c_1 => ?_) (fun c_1 => ?_)
  · refine lv_iconst (v := (-1)) hx hb dX12_bean_30 (by decide) ?_
    have hP9 := hP.sub (ws' := []) [] rfl
    have hD9 := hD.sub (ws' := []) [] (by decide) rfl
    have hK9 := hK.sub (tys' := []) [] rfl
    refine W.widen (k := 0) (n := 0) (Nat.le_of_ble_eq_true rfl) (Nat.le_of_ble_eq_true rfl) ?_
    exact W.iret (v := (-1)) hx hb hr (fun t ht hW => ⟨⟨(-1), (), rfl, (rfl), by rw [ht]; exact hP9, va_K.moved hW.alike hK9, hD9⟩, hS.F ht⟩) hS.2.2 dX12_bean_31
  · refine lv_iload_n hx hb dX12_bean_4 rfl (lv_at hl 1 rfl) ?_
    refine lv_aload_n hx hb dX12_bean_5 rfl (lv_at hl 0 rfl) ?_
    refine va_get (D := (dC, dI)) (ci := 11) (v := .ref a6) (C := RX12) (T := TX12) (N := 12) hx hb htb inX12 hown hK hP 0 rfl rfl 5 (by decide) (htb _ kw_33) (fun _ h9 => h9) rfl dX12_bean_6 ?_
    have hPc := hP.sub (ws' := [(a6, .inr (10, [.ref a3, .ref wb, .ref wc, .int 0]))]) [1] rfl
    have hDc := hD.sub (ws' := [(a6, .inr (10, [.ref a3, .ref wb, .ref wc, .int 0]))]) [1] (by decide) rfl
    have hKc := hK.sub (tys' := []) [] rfl
    have hFc := va_free (wc := [(a6, .inr (10, [.ref a3, .ref wb, .ref wc, .int 0]))]) hD hS hA [1] rfl
    refine va_calli (va_runV (As := []) (rest := [.int p0]) ⟨hx, hb, hml, hown, htb⟩ (c_X10_count l dC dI s.heap.size a6 a3 wb wc) (cwV 0 htb (gd_V kw_85 kw_86 kw_87 kw_29 kw_548) rfl rfl rfl (by decide +kernel) ⟨Nat.le_of_ble_eq_true rfl, Nat.le_of_ble_eq_true rfl⟩) ⟨fun a U g mk q => by obtain ⟨q0, q1, qP, qK, qD⟩ := q; exact ⟨q0, q1, qP, va_K.moved (u := U) (U := U.calling g mk a) (Vm.Alike.refl U.vm) qK, qD⟩, va_recv hKc hPc (ci := 10) (q0 := 0) rfl rfl, fun U hU hW => ⟨rfl, by rw [hU], by rw [hU]; exact hPc, va_K.moved hW.alike hKc, hDc.weaken (fun _ _ _ _ => trivial)⟩⟩ rfl rfl hl.1 rfl (lv_room (Nat.le_of_ble_eq_true rfl)) dX12_bean_9 ⟨(Nat.le_of_ble_eq_true rfl), (Nat.le_of_ble_eq_true rfl)⟩) hS (fun q _ h => hFc q h) hFc (fun r u t H1 locs ht hvm hw hB hz1 hk1 hS => ?_)
    subst hw
    obtain ⟨hP1, hK1, hD1⟩ := hB
    rw [ht] at hP1
    have hK1 := va_K.moved hvm.symm hK1
    obtain ⟨hP, hD⟩ := va_join (wr := [(h0, .inr (11, [.ref a1, .ref a2, .ref a3, .ref a4, .ref a5, .ref a6, .ref a7, .ref a8, .int 0, .int 0, .int 0, .int (-1)]))]) (w1 := [(a6, .inr (10, [.ref a3, .ref wb, .ref wc, .int 0]))]) hP hD [1] [0] rfl rfl (by decide) (by decide) hk1 hFc hP1 hD1
    have hK := hK.app hK1
    generalize H1 = H at hP hS ⊢
    have hP : va_P (dC, dI) vwCl [(h0, .inr (11, [.ref a1, .ref a2, .ref a3, .ref a4, .ref a5, .ref a6, .ref a7, .ref a8, .int 0, .int 0, .int 0, .int (-1)])), (a6, .inr (10, [.ref a3, .ref wb, .ref wc, .int 0]))] H := hP
    have hD : va_D A [(h0, .inr (11, [.ref a1, .ref a2, .ref a3, .ref a4, .ref a5, .ref a6, .ref a7, .ref a8, .int 0, .int 0, .int 0, .int (-1)])), (a6, .inr (10, [.ref a3, .ref wb, .ref wc, .int 0]))] := hD
    have hK : va_K (dC, dI) vwCl [] s := hK
    refine W.widen (k := 0) (n := 0) (Nat.le_of_ble_eq_true rfl) (Nat.le_of_ble_eq_true rfl) ?_
    refine lv_icmp_ge (tgt := 30) hx hb dX12_bean_12 (by decide) (fun _ => ?_) (fun c_2 => absurd (ge0 c_1) c_2)
    refine lv_iconst (v := (-1)) hx hb dX12_bean_30 (by decide) ?_
    have hP9 := hP.sub (ws' := []) [] rfl
    have hD9 := hD.sub (ws' := []) [] (by decide) rfl
    have hK9 := hK.sub (tys' := []) [] rfl
    refine W.widen (k := 0) (n := 0) (Nat.le_of_ble_eq_true rfl) (Nat.le_of_ble_eq_true rfl) ?_
    exact W.iret (v := (-1)) hx hb hr (fun t ht hW => ⟨⟨(-1), (), rfl, (rfl), by rw [ht]; exact hP9, va_K.moved hW.alike hK9, hD9⟩, hS.F ht⟩) hS.2.2 dX12_bean_31

set_option maxHeartbeats 4000000 in
set_option maxRecDepth 100000 in
theorem c_L_read (l : Launch) (dC : Nat → ClassId) (dI : Nat → Nat → Nat) (sz : Nat) (h0 : Nat) (h9 : Nat) (a1 : Nat) (a2 : Nat) (a3 : Nat) (a4 : Nat) (a5 : Nat) (a6 : Nat) (a7 : Nat) (a8 : Nat) (mk1 : Nat) (mk2 : Nat) (mk3 : Nat) (mk4 : Nat) (mk5 : Nat) (wb : Nat) (wc : Nat) (rn : Nat) (pe1 : Nat) (pe2 : Nat) (pe3 : Nat) (pe4 : Nat) (pe5 : Nat) (hl9 : l.stackTraces = false) : vx_Met l yL_read wm_L_read ({ frames := 10, cells := 2, slots := 12, locals := 188 }) (va_Pc [.ref h0, .ref h9] (fun U => U.heap.size = sz ∧ va_P (dC, dI) vwCl [(h0, .inr (11, [.ref a1, .ref a2, .ref a3, .ref a4, .ref a5, .ref a6, .ref a7, .ref a8, .int 0, .int 0, .int 0, .int (-1)])), (a8, .inr (5, [.ref a6, .ref a1, .ref a7, .ref mk1, .ref mk2, .int 0, .ref mk3, .int 0, .ref mk4, .ref mk5, .null, .int 0, .int (-1)])), (a6, .inr (10, [.ref a3, .ref wb, .ref wc, .int 0])), (a7, .inr (4, [.ref rn, .int 0])), (a4, .inr (7, [.ref a3, .null, .int 0, .int 0, .int 0, .null])), (a3, .inr (6, [.ref pe1, .ref pe2, .ref pe3, .ref pe4, .ref pe5, .int 0, .int 0, .int 0]))] U.heap ∧ va_K (dC, dI) vwCl [] U ∧ va_D (fun _ => True) [(h0, .inr (11, [.ref a1, .ref a2, .ref a3, .ref a4, .ref a5, .ref a6, .ref a7, .ref a8, .int 0, .int 0, .int 0, .int (-1)])), (a8, .inr (5, [.ref a6, .ref a1, .ref a7, .ref mk1, .ref mk2, .int 0, .ref mk3, .int 0, .ref mk4, .ref mk5, .null, .int 0, .int (-1)])), (a6, .inr (10, [.ref a3, .ref wb, .ref wc, .int 0])), (a7, .inr (4, [.ref rn, .int 0])), (a4, .inr (7, [.ref a3, .null, .int 0, .int 0, .int 0, .null])), (a3, .inr (6, [.ref pe1, .ref pe2, .ref pe3, .ref pe4, .ref pe5, .int 0, .int 0, .int 0]))] ∧ GE (va_A [(h0, .inr (11, [.ref a1, .ref a2, .ref a3, .ref a4, .ref a5, .ref a6, .ref a7, .ref a8, .int 0, .int 0, .int 0, .int (-1)])), (a8, .inr (5, [.ref a6, .ref a1, .ref a7, .ref mk1, .ref mk2, .int 0, .ref mk3, .int 0, .ref mk4, .ref mk5, .null, .int 0, .int (-1)])), (a6, .inr (10, [.ref a3, .ref wb, .ref wc, .int 0])), (a7, .inr (4, [.ref rn, .int 0])), (a4, .inr (7, [.ref a3, .null, .int 0, .int 0, .int 0, .null])), (a3, .inr (6, [.ref pe1, .ref pe2, .ref pe3, .ref pe4, .ref pe5, .int 0, .int 0, .int 0]))] sz) U)) (va_Qi (fun (r : Int32) (_ : Unit) => r = 1) (fun _ t => va_P (dC, dI) vwCl [] t.heap ∧ va_K (dC, dI) vwCl [] t ∧ va_D (va_A [(h0, .inr (11, [.ref a1, .ref a2, .ref a3, .ref a4, .ref a5, .ref a6, .ref a7, .ref a8, .int 0, .int 0, .int 0, .int (-1)])), (a8, .inr (5, [.ref a6, .ref a1, .ref a7, .ref mk1, .ref mk2, .int 0, .ref mk3, .int 0, .ref mk4, .ref mk5, .null, .int 0, .int (-1)])), (a6, .inr (10, [.ref a3, .ref wb, .ref wc, .int 0])), (a7, .inr (4, [.ref rn, .int 0])), (a4, .inr (7, [.ref a3, .null, .int 0, .int 0, .int 0, .null])), (a3, .inr (6, [.ref pe1, .ref pe2, .ref pe3, .ref pe4, .ref pe5, .int 0, .int 0, .int 0]))] sz) []) (va_A [(h0, .inr (11, [.ref a1, .ref a2, .ref a3, .ref a4, .ref a5, .ref a6, .ref a7, .ref a8, .int 0, .int 0, .int 0, .int (-1)])), (a8, .inr (5, [.ref a6, .ref a1, .ref a7, .ref mk1, .ref mk2, .int 0, .ref mk3, .int 0, .ref mk4, .ref mk5, .null, .int 0, .int (-1)])), (a6, .inr (10, [.ref a3, .ref wb, .ref wc, .int 0])), (a7, .inr (4, [.ref rn, .int 0])), (a4, .inr (7, [.ref a3, .null, .int 0, .int 0, .int 0, .null])), (a3, .inr (6, [.ref pe1, .ref pe2, .ref pe3, .ref pe4, .ref pe5, .int 0, .int 0, .int 0]))] sz)) (vx_X (fun _ : Unit => False) (fun _ _ _ => True) (va_A [(h0, .inr (11, [.ref a1, .ref a2, .ref a3, .ref a4, .ref a5, .ref a6, .ref a7, .ref a8, .int 0, .int 0, .int 0, .int (-1)])), (a8, .inr (5, [.ref a6, .ref a1, .ref a7, .ref mk1, .ref mk2, .int 0, .ref mk3, .int 0, .ref mk4, .ref mk5, .null, .int 0, .int (-1)])), (a6, .inr (10, [.ref a3, .ref wb, .ref wc, .int 0])), (a7, .inr (4, [.ref rn, .int 0])), (a4, .inr (7, [.ref a3, .null, .int 0, .int 0, .int 0, .null])), (a3, .inr (6, [.ref pe1, .ref pe2, .ref pe3, .ref pe4, .ref pe5, .int 0, .int 0, .int 0]))] sz)) 2 12 (va_A [(h0, .inr (11, [.ref a1, .ref a2, .ref a3, .ref a4, .ref a5, .ref a6, .ref a7, .ref a8, .int 0, .int 0, .int 0, .int (-1)])), (a8, .inr (5, [.ref a6, .ref a1, .ref a7, .ref mk1, .ref mk2, .int 0, .ref mk3, .int 0, .ref mk4, .ref mk5, .null, .int 0, .int (-1)])), (a6, .inr (10, [.ref a3, .ref wb, .ref wc, .int 0])), (a7, .inr (4, [.ref rn, .int 0])), (a4, .inr (7, [.ref a3, .null, .int 0, .int 0, .int 0, .null])), (a3, .inr (6, [.ref pe1, .ref pe2, .ref pe3, .ref pe4, .ref pe5, .int 0, .int 0, .int 0]))] sz) := by
  refine vx_ofWH (cc := cL_read) (maxL := 3) (ret := (some .int)) (by decide) rfl ?_
  intro p e s m args below meth c s₁ B hml hv
  obtain ⟨rfl, hsz, hP, hK, hD0, hG⟩ := hv
  have hx := B.exec
  have hb := B.bytes
  have hr := B.returns
  have hts := atoms_spec (ws := wm_L_read) B.pre
  have htb := fun (w : Cond) (h : w ∈ tb) => hts w (List.mem_cons_of_mem _ h)
  have hown : s.vm.findClass RL = some m.cls := findClass_of_methodNamed B.named
  have hlocks := B.notSynchronized
  have hxt := vx_table (x := yL_read) B (hts _ List.mem_cons_self)
  subst hsz
  have hD := hD0.self (sz := s.heap.size)
  generalize hAe : va_A [(h0, .inr (11, [.ref a1, .ref a2, .ref a3, .ref a4, .ref a5, .ref a6, .ref a7, .ref a8, .int 0, .int 0, .int 0, .int (-1)])), (a8, .inr (5, [.ref a6, .ref a1, .ref a7, .ref mk1, .ref mk2, .int 0, .ref mk3, .int 0, .ref mk4, .ref mk5, .null, .int 0, .int (-1)])), (a6, .inr (10, [.ref a3, .ref wb, .ref wc, .int 0])), (a7, .inr (4, [.ref rn, .int 0])), (a4, .inr (7, [.ref a3, .null, .int 0, .int 0, .int 0, .null])), (a3, .inr (6, [.ref pe1, .ref pe2, .ref pe3, .ref pe4, .ref pe5, .int 0, .int 0, .int 0]))] s.heap.size = A at hD hG ⊢
  have hA : ∀ q : Nat, s.heap.size ≤ q → A q := fun q h => by rw [← hAe]; exact Or.inr h
  have hS : va_S A s.heap s.heap [] := va_S.rf
  have hP : va_P (dC, dI) vwCl [(h0, .inr (11, [.ref a1, .ref a2, .ref a3, .ref a4, .ref a5, .ref a6, .ref a7, .ref a8, .int 0, .int 0, .int 0, .int (-1)])), (a8, .inr (5, [.ref a6, .ref a1, .ref a7, .ref mk1, .ref mk2, .int 0, .ref mk3, .int 0, .ref mk4, .ref mk5, .null, .int 0, .int (-1)])), (a6, .inr (10, [.ref a3, .ref wb, .ref wc, .int 0])), (a7, .inr (4, [.ref rn, .int 0])), (a4, .inr (7, [.ref a3, .null, .int 0, .int 0, .int 0, .null])), (a3, .inr (6, [.ref pe1, .ref pe2, .ref pe3, .ref pe4, .ref pe5, .int 0, .int 0, .int 0]))] s.heap := hP
  have hl := lv_entry ([.ref h0, .ref h9]) (n := 3) (Nat.le_of_ble_eq_true rfl)
  rw [lg_entry_eq]
  generalize (lg_sl ([.ref h0, .ref h9]) ++ List.replicate (3 - (lg_sl ([.ref h0, .ref h9])).length) Slot.unset).toArray = ls at hl ⊢
  have hl : lv_has ls 3 [(0, .ref h0), (1, .ref h9)] := hl
  refine lv_aload_n hx hb dL_read_0 rfl (lv_at hl 1 rfl) ?_
  refine lv_iconst (v := 0) hx hb dL_read_1 (by decide) ?_
  refine lv_aload_n hx hb dL_read_2 rfl (lv_at hl 0 rfl) ?_
  have hPc := hP.sub (ws' := [(h0, .inr (11, [.ref a1, .ref a2, .ref a3, .ref a4, .ref a5, .ref a6, .ref a7, .ref a8, .int 0, .int 0, .int 0, .int (-1)])), (a8, .inr (5, [.ref a6, .ref a1, .ref a7, .ref mk1, .ref mk2, .int 0, .ref mk3, .int 0, .ref mk4, .ref mk5, .null, .int 0, .int (-1)])), (a6, .inr (10, [.ref a3, .ref wb, .ref wc, .int 0])), (a7, .inr (4, [.ref rn, .int 0])), (a4, .inr (7, [.ref a3, .null, .int 0, .int 0, .int 0, .null])), (a3, .inr (6, [.ref pe1, .ref pe2, .ref pe3, .ref pe4, .ref pe5, .int 0, .int 0, .int 0]))]) [0, 1, 2, 3, 4, 5] rfl
  have hDc := hD.sub (ws' := [(h0, .inr (11, [.ref a1, .ref a2, .ref a3, .ref a4, .ref a5, .ref a6, .ref a7, .ref a8, .int 0, .int 0, .int 0, .int (-1)])), (a8, .inr (5, [.ref a6, .ref a1, .ref a7, .ref mk1, .ref mk2, .int 0, .ref mk3, .int 0, .ref mk4, .ref mk5, .null, .int 0, .int (-1)])), (a6, .inr (10, [.ref a3, .ref wb, .ref wc, .int 0])), (a7, .inr (4, [.ref rn, .int 0])), (a4, .inr (7, [.ref a3, .null, .int 0, .int 0, .int 0, .null])), (a3, .inr (6, [.ref pe1, .ref pe2, .ref pe3, .ref pe4, .ref pe5, .int 0, .int 0, .int 0]))]) [0, 1, 2, 3, 4, 5] (by decide) rfl
  have hKc := hK.sub (tys' := []) [] rfl
  have hFc := va_free (wc := [(h0, .inr (11, [.ref a1, .ref a2, .ref a3, .ref a4, .ref a5, .ref a6, .ref a7, .ref a8, .int 0, .int 0, .int 0, .int (-1)])), (a8, .inr (5, [.ref a6, .ref a1, .ref a7, .ref mk1, .ref mk2, .int 0, .ref mk3, .int 0, .ref mk4, .ref mk5, .null, .int 0, .int (-1)])), (a6, .inr (10, [.ref a3, .ref wb, .ref wc, .int 0])), (a7, .inr (4, [.ref rn, .int 0])), (a4, .inr (7, [.ref a3, .null, .int 0, .int 0, .int 0, .null])), (a3, .inr (6, [.ref pe1, .ref pe2, .ref pe3, .ref pe4, .ref pe5, .int 0, .int 0, .int 0]))]) hD hS hA [0, 1, 2, 3, 4, 5] rfl
  refine vx_calli (vx_runV (As := []) (rest := [.int 0, .ref h9]) ⟨hx, hb, hml, hown, htb⟩ (c_X12_read l dC dI s.heap.size h0 a1 a2 a3 a4 a5 a6 a7 a8 mk1 mk2 mk3 mk4 mk5 wb wc rn pe1 pe2 pe3 pe4 pe5 hl9) (cwV 0 htb (gd_V kw_494 kw_495 kw_496 kw_49 kw_618) rfl rfl rfl (by decide +kernel) ⟨Nat.le_of_ble_eq_true rfl, Nat.le_of_ble_eq_true rfl⟩) ⟨fun a U g mk q => by obtain ⟨q0, q1, qP, qK, qD, qG⟩ := q; exact ⟨q0, q1, qP, va_K.moved (u := U) (U := U.calling g mk a) (Vm.Alike.refl U.vm) qK, qD, GE.call g mk a qG⟩, va_recv hKc hPc (ci := 11) (q0 := 0) rfl rfl, fun U hU hW => ⟨rfl, by rw [hU], by rw [hU]; exact hPc, va_K.moved hW.alike hKc, hDc.weaken (fun _ _ _ _ => trivial), hG.go hS hFc hU hW⟩⟩ rfl rfl hl.1 rfl (lv_room (Nat.le_of_ble_eq_true rfl)) dL_read_3 ⟨(Nat.le_of_ble_eq_true rfl), (Nat.le_of_ble_eq_true rfl)⟩) hS (fun q _ h => hFc q h) hFc (fun q _ h => hFc q h) (fun E ce q9 u t H1 locs ht hvm hw hB hz1 hk1 hS hce hcv hcl => ?_) (fun r u t H1 locs ht hvm hw hB hz1 hk1 hS => ?_)
  · obtain ⟨hE, hB⟩ := hB
    obtain ⟨hP1, hK1, hD1⟩ := hB
    rw [ht] at hP1
    have hK1 := va_K.moved hvm.symm hK1
    obtain ⟨hP, hD⟩ := va_join (wr := []) (w1 := []) hP hD [0, 1, 2, 3, 4, 5] [] rfl rfl (by decide) (by decide) hk1 hFc hP1 hD1
    have hK := hK.app hK1
    generalize H1 = H at hP hS hce ⊢
    have hP : va_P (dC, dI) vwCl [] H := hP
    have hD : va_D A [] := hD
    have hK : va_K (dC, dI) vwCl [] s := hK
    refine vx_widen (k := 2) (n := 12) (Nat.le_of_ble_eq_true rfl) (Nat.le_of_ble_eq_true rfl) ?_
    subst hE
    refine mc_catch (own := RL) (name := "java/lang/IllegalArgumentException") hown ⟨0, 8, 11, 13⟩ [] hxt (by decide) (by decide) (htb _ kw_497) (va_Nw.use rfl hG.2.1.1) hce hcv hcl ?_
    refine lv_astore_n (lv' := [(2, .ref q9), (0, .ref h0), (1, .ref h9)]) hx hb dL_read_11 rfl hl (by decide) rfl (fun ls hl => ?_)
    refine lv_iconst (v := 1) hx hb dL_read_12 (by decide) ?_
    have hP9 := hP.sub (ws' := []) [] rfl
    have hD9 := hD.sub (ws' := []) [] (by decide) rfl
    have hK9 := hK.sub (tys' := []) [] rfl
    refine W.widen (k := 2) (n := 12) (Nat.le_of_ble_eq_true rfl) (Nat.le_of_ble_eq_true rfl) ?_
    exact vx_ret (W.iret (v := 1) hx hb hr (fun t ht hW => ⟨⟨1, (), rfl, (rfl), by rw [ht]; exact hP9, va_K.moved hW.alike hK9, hD9⟩, hS.F ht⟩) hS.2.2 dL_read_13)
  exact hw.elim

set_option maxHeartbeats 4000000 in
set_option maxRecDepth 100000 in
theorem c_L_refresh (l : Launch) (dC : Nat → ClassId) (dI : Nat → Nat → Nat) (sz : Nat) (h0 : Nat) (h9 : Nat) (a1 : Nat) (a2 : Nat) (a3 : Nat) (a4 : Nat) (a5 : Nat) (a6 : Nat) (a7 : Nat) (a8 : Nat) (mk1 : Nat) (mk2 : Nat) (mk3 : Nat) (mk4 : Nat) (mk5 : Nat) (hl9 : l.stackTraces = false) : vx_Met l yL_refresh wm_L_refresh ({ frames := 7, cells := 1, slots := 6, locals := 120 }) (va_Pc [.ref h0, .ref h9] (fun U => U.heap.size = sz ∧ va_P (dC, dI) vwCl [(h0, .inr (11, [.ref a1, .ref a2, .ref a3, .ref a4, .ref a5, .ref a6, .ref a7, .ref a8, .int 0, .int 0, .int 0, .int (-1)])), (a8, .inr (5, [.ref a6, .ref a1, .ref a7, .ref mk1, .ref mk2, .int 0, .ref mk3, .int 0, .ref mk4, .ref mk5, .null, .int 0, .int (-1)]))] U.heap ∧ va_K (dC, dI) vwCl [] U ∧ va_D (fun _ => True) [(h0, .inr (11, [.ref a1, .ref a2, .ref a3, .ref a4, .ref a5, .ref a6, .ref a7, .ref a8, .int 0, .int 0, .int 0, .int (-1)])), (a8, .inr (5, [.ref a6, .ref a1, .ref a7, .ref mk1, .ref mk2, .int 0, .ref mk3, .int 0, .ref mk4, .ref mk5, .null, .int 0, .int (-1)]))] ∧ GE (va_A [(h0, .inr (11, [.ref a1, .ref a2, .ref a3, .ref a4, .ref a5, .ref a6, .ref a7, .ref a8, .int 0, .int 0, .int 0, .int (-1)])), (a8, .inr (5, [.ref a6, .ref a1, .ref a7, .ref mk1, .ref mk2, .int 0, .ref mk3, .int 0, .ref mk4, .ref mk5, .null, .int 0, .int (-1)]))] sz) U)) (va_Qi (fun (r : Int32) (_ : Unit) => r = 1) (fun _ t => va_P (dC, dI) vwCl [] t.heap ∧ va_K (dC, dI) vwCl [] t ∧ va_D (va_A [(h0, .inr (11, [.ref a1, .ref a2, .ref a3, .ref a4, .ref a5, .ref a6, .ref a7, .ref a8, .int 0, .int 0, .int 0, .int (-1)])), (a8, .inr (5, [.ref a6, .ref a1, .ref a7, .ref mk1, .ref mk2, .int 0, .ref mk3, .int 0, .ref mk4, .ref mk5, .null, .int 0, .int (-1)]))] sz) []) (va_A [(h0, .inr (11, [.ref a1, .ref a2, .ref a3, .ref a4, .ref a5, .ref a6, .ref a7, .ref a8, .int 0, .int 0, .int 0, .int (-1)])), (a8, .inr (5, [.ref a6, .ref a1, .ref a7, .ref mk1, .ref mk2, .int 0, .ref mk3, .int 0, .ref mk4, .ref mk5, .null, .int 0, .int (-1)]))] sz)) (vx_X (fun _ : Unit => False) (fun _ _ _ => True) (va_A [(h0, .inr (11, [.ref a1, .ref a2, .ref a3, .ref a4, .ref a5, .ref a6, .ref a7, .ref a8, .int 0, .int 0, .int 0, .int (-1)])), (a8, .inr (5, [.ref a6, .ref a1, .ref a7, .ref mk1, .ref mk2, .int 0, .ref mk3, .int 0, .ref mk4, .ref mk5, .null, .int 0, .int (-1)]))] sz)) 1 6 (va_A [(h0, .inr (11, [.ref a1, .ref a2, .ref a3, .ref a4, .ref a5, .ref a6, .ref a7, .ref a8, .int 0, .int 0, .int 0, .int (-1)])), (a8, .inr (5, [.ref a6, .ref a1, .ref a7, .ref mk1, .ref mk2, .int 0, .ref mk3, .int 0, .ref mk4, .ref mk5, .null, .int 0, .int (-1)]))] sz) := by
  refine vx_ofWH (cc := cL_refresh) (maxL := 3) (ret := (some .int)) (by decide) rfl ?_
  intro p e s m args below meth c s₁ B hml hv
  obtain ⟨rfl, hsz, hP, hK, hD0, hG⟩ := hv
  have hx := B.exec
  have hb := B.bytes
  have hr := B.returns
  have hts := atoms_spec (ws := wm_L_refresh) B.pre
  have htb := fun (w : Cond) (h : w ∈ tb) => hts w (List.mem_cons_of_mem _ h)
  have hown : s.vm.findClass RL = some m.cls := findClass_of_methodNamed B.named
  have hlocks := B.notSynchronized
  have hxt := vx_table (x := yL_refresh) B (hts _ List.mem_cons_self)
  subst hsz
  have hD := hD0.self (sz := s.heap.size)
  generalize hAe : va_A [(h0, .inr (11, [.ref a1, .ref a2, .ref a3, .ref a4, .ref a5, .ref a6, .ref a7, .ref a8, .int 0, .int 0, .int 0, .int (-1)])), (a8, .inr (5, [.ref a6, .ref a1, .ref a7, .ref mk1, .ref mk2, .int 0, .ref mk3, .int 0, .ref mk4, .ref mk5, .null, .int 0, .int (-1)]))] s.heap.size = A at hD hG ⊢
  have hA : ∀ q : Nat, s.heap.size ≤ q → A q := fun q h => by rw [← hAe]; exact Or.inr h
  have hS : va_S A s.heap s.heap [] := va_S.rf
  have hP : va_P (dC, dI) vwCl [(h0, .inr (11, [.ref a1, .ref a2, .ref a3, .ref a4, .ref a5, .ref a6, .ref a7, .ref a8, .int 0, .int 0, .int 0, .int (-1)])), (a8, .inr (5, [.ref a6, .ref a1, .ref a7, .ref mk1, .ref mk2, .int 0, .ref mk3, .int 0, .ref mk4, .ref mk5, .null, .int 0, .int (-1)]))] s.heap := hP
  have hl := lv_entry ([.ref h0, .ref h9]) (n := 3) (Nat.le_of_ble_eq_true rfl)
  rw [lg_entry_eq]
  generalize (lg_sl ([.ref h0, .ref h9]) ++ List.replicate (3 - (lg_sl ([.ref h0, .ref h9])).length) Slot.unset).toArray = ls at hl ⊢
  have hl : lv_has ls 3 [(0, .ref h0), (1, .ref h9)] := hl
  refine lv_aload_n hx hb dL_refresh_0 rfl (lv_at hl 1 rfl) ?_
  refine lv_iconst (v := 0) hx hb dL_refresh_1 (by decide) ?_
  refine lv_aload_n hx hb dL_refresh_2 rfl (lv_at hl 0 rfl) ?_
  have hPc := hP.sub (ws' := [(h0, .inr (11, [.ref a1, .ref a2, .ref a3, .ref a4, .ref a5, .ref a6, .ref a7, .ref a8, .int 0, .int 0, .int 0, .int (-1)])), (a8, .inr (5, [.ref a6, .ref a1, .ref a7, .ref mk1, .ref mk2, .int 0, .ref mk3, .int 0, .ref mk4, .ref mk5, .null, .int 0, .int (-1)]))]) [0, 1] rfl
  have hDc := hD.sub (ws' := [(h0, .inr (11, [.ref a1, .ref a2, .ref a3, .ref a4, .ref a5, .ref a6, .ref a7, .ref a8, .int 0, .int 0, .int 0, .int (-1)])), (a8, .inr (5, [.ref a6, .ref a1, .ref a7, .ref mk1, .ref mk2, .int 0, .ref mk3, .int 0, .ref mk4, .ref mk5, .null, .int 0, .int (-1)]))]) [0, 1] (by decide) rfl
  have hKc := hK.sub (tys' := []) [] rfl
  have hFc := va_free (wc := [(h0, .inr (11, [.ref a1, .ref a2, .ref a3, .ref a4, .ref a5, .ref a6, .ref a7, .ref a8, .int 0, .int 0, .int 0, .int (-1)])), (a8, .inr (5, [.ref a6, .ref a1, .ref a7, .ref mk1, .ref mk2, .int 0, .ref mk3, .int 0, .ref mk4, .ref mk5, .null, .int 0, .int (-1)]))]) hD hS hA [0, 1] rfl
  refine vx_calli (vx_runV (As := []) (rest := [.int 0, .ref h9]) ⟨hx, hb, hml, hown, htb⟩ (c_X12_refresh l dC dI s.heap.size h0 a1 a2 a3 a4 a5 a6 a7 a8 mk1 mk2 mk3 mk4 mk5 hl9) (cwV 0 htb (gd_V kw_498 kw_499 kw_500 kw_49 kw_619) rfl rfl rfl (by decide +kernel) ⟨Nat.le_of_ble_eq_true rfl, Nat.le_of_ble_eq_true rfl⟩) ⟨fun a U g mk q => by obtain ⟨q0, q1, qP, qK, qD, qG⟩ := q; exact ⟨q0, q1, qP, va_K.moved (u := U) (U := U.calling g mk a) (Vm.Alike.refl U.vm) qK, qD, GE.call g mk a qG⟩, va_recv hKc hPc (ci := 11) (q0 := 0) rfl rfl, fun U hU hW => ⟨rfl, by rw [hU], by rw [hU]; exact hPc, va_K.moved hW.alike hKc, hDc.weaken (fun _ _ _ _ => trivial), hG.go hS hFc hU hW⟩⟩ rfl rfl hl.1 rfl (lv_room (Nat.le_of_ble_eq_true rfl)) dL_refresh_3 ⟨(Nat.le_of_ble_eq_true rfl), (Nat.le_of_ble_eq_true rfl)⟩) hS (fun q _ h => hFc q h) hFc (fun q _ h => hFc q h) (fun E ce q9 u t H1 locs ht hvm hw hB hz1 hk1 hS hce hcv hcl => ?_) (fun r u t H1 locs ht hvm hw hB hz1 hk1 hS => ?_)
  · obtain ⟨hE, hB⟩ := hB
    obtain ⟨hP1, hK1, hD1⟩ := hB
    rw [ht] at hP1
    have hK1 := va_K.moved hvm.symm hK1
    obtain ⟨hP, hD⟩ := va_join (wr := []) (w1 := []) hP hD [0, 1] [] rfl rfl (by decide) (by decide) hk1 hFc hP1 hD1
    have hK := hK.app hK1
    generalize H1 = H at hP hS hce ⊢
    have hP : va_P (dC, dI) vwCl [] H := hP
    have hD : va_D A [] := hD
    have hK : va_K (dC, dI) vwCl [] s := hK
    refine vx_widen (k := 1) (n := 6) (Nat.le_of_ble_eq_true rfl) (Nat.le_of_ble_eq_true rfl) ?_
    subst hE
    refine mc_catch (own := RL) (name := "java/lang/IllegalStateException") hown ⟨0, 8, 11, 18⟩ [⟨0, 8, 14, 20⟩] hxt (by decide) (by decide) (htb _ kw_501) (va_Nw.use rfl hG.2.1.2.1) hce hcv hcl ?_
    refine lv_astore_n (lv' := [(2, .ref q9), (0, .ref h0), (1, .ref h9)]) hx hb dL_refresh_11 rfl hl (by decide) rfl (fun ls hl => ?_)
    refine lv_iconst (v := 1) hx hb dL_refresh_12 (by decide) ?_
    have hP9 := hP.sub (ws' := []) [] rfl
    have hD9 := hD.sub (ws' := []) [] (by decide) rfl
    have hK9 := hK.sub (tys' := []) [] rfl
    refine W.widen (k := 1) (n := 6) (Nat.le_of_ble_eq_true rfl) (Nat.le_of_ble_eq_true rfl) ?_
    exact vx_ret (W.iret (v := 1) hx hb hr (fun t ht hW => ⟨⟨1, (), rfl, (rfl), by rw [ht]; exact hP9, va_K.moved hW.alike hK9, hD9⟩, hS.F ht⟩) hS.2.2 dL_refresh_13)
  exact hw.elim

set_option maxHeartbeats 4000000 in
set_option maxRecDepth 100000 in
theorem c_L_get (l : Launch) (dC : Nat → ClassId) (dI : Nat → Nat → Nat) (sz : Nat) (h0 : Nat) (l0 : Int64) (h9 : Nat) (a1 : Nat) (a2 : Nat) (a3 : Nat) (a4 : Nat) (a5 : Nat) (a6 : Nat) (a7 : Nat) (a8 : Nat) (mk1 : Nat) (mk2 : Nat) (mk3 : Nat) (mk4 : Nat) (mk5 : Nat) (hl9 : l.stackTraces = false) : vx_Met l yL_get wm_L_get ({ frames := 7, cells := 1, slots := 6, locals := 123 }) (va_Pc [.ref h0, .long l0, .ref h9] (fun U => U.heap.size = sz ∧ va_P (dC, dI) vwCl [(h0, .inr (11, [.ref a1, .ref a2, .ref a3, .ref a4, .ref a5, .ref a6, .ref a7, .ref a8, .int 0, .int 0, .int 0, .int (-1)])), (a8, .inr (5, [.ref a6, .ref a1, .ref a7, .ref mk1, .ref mk2, .int 0, .ref mk3, .int 0, .ref mk4, .ref mk5, .null, .int 0, .int (-1)]))] U.heap ∧ va_K (dC, dI) vwCl [] U ∧ va_D (fun _ => True) [(h0, .inr (11, [.ref a1, .ref a2, .ref a3, .ref a4, .ref a5, .ref a6, .ref a7, .ref a8, .int 0, .int 0, .int 0, .int (-1)])), (a8, .inr (5, [.ref a6, .ref a1, .ref a7, .ref mk1, .ref mk2, .int 0, .ref mk3, .int 0, .ref mk4, .ref mk5, .null, .int 0, .int (-1)]))] ∧ GE (va_A [(h0, .inr (11, [.ref a1, .ref a2, .ref a3, .ref a4, .ref a5, .ref a6, .ref a7, .ref a8, .int 0, .int 0, .int 0, .int (-1)])), (a8, .inr (5, [.ref a6, .ref a1, .ref a7, .ref mk1, .ref mk2, .int 0, .ref mk3, .int 0, .ref mk4, .ref mk5, .null, .int 0, .int (-1)]))] sz) U)) (va_Qi (fun (r : Int32) (_ : Unit) => r = 1) (fun _ t => va_P (dC, dI) vwCl [] t.heap ∧ va_K (dC, dI) vwCl [] t ∧ va_D (va_A [(h0, .inr (11, [.ref a1, .ref a2, .ref a3, .ref a4, .ref a5, .ref a6, .ref a7, .ref a8, .int 0, .int 0, .int 0, .int (-1)])), (a8, .inr (5, [.ref a6, .ref a1, .ref a7, .ref mk1, .ref mk2, .int 0, .ref mk3, .int 0, .ref mk4, .ref mk5, .null, .int 0, .int (-1)]))] sz) []) (va_A [(h0, .inr (11, [.ref a1, .ref a2, .ref a3, .ref a4, .ref a5, .ref a6, .ref a7, .ref a8, .int 0, .int 0, .int 0, .int (-1)])), (a8, .inr (5, [.ref a6, .ref a1, .ref a7, .ref mk1, .ref mk2, .int 0, .ref mk3, .int 0, .ref mk4, .ref mk5, .null, .int 0, .int (-1)]))] sz)) (vx_X (fun _ : Unit => False) (fun _ _ _ => True) (va_A [(h0, .inr (11, [.ref a1, .ref a2, .ref a3, .ref a4, .ref a5, .ref a6, .ref a7, .ref a8, .int 0, .int 0, .int 0, .int (-1)])), (a8, .inr (5, [.ref a6, .ref a1, .ref a7, .ref mk1, .ref mk2, .int 0, .ref mk3, .int 0, .ref mk4, .ref mk5, .null, .int 0, .int (-1)]))] sz)) 1 6 (va_A [(h0, .inr (11, [.ref a1, .ref a2, .ref a3, .ref a4, .ref a5, .ref a6, .ref a7, .ref a8, .int 0, .int 0, .int 0, .int (-1)])), (a8, .inr (5, [.ref a6, .ref a1, .ref a7, .ref mk1, .ref mk2, .int 0, .ref mk3, .int 0, .ref mk4, .ref mk5, .null, .int 0, .int (-1)]))] sz) := by
  refine vx_ofWH (cc := cL_get) (maxL := 5) (ret := (some .int)) (by decide) rfl ?_
  intro p e s m args below meth c s₁ B hml hv
  obtain ⟨rfl, hsz, hP, hK, hD0, hG⟩ := hv
  have hx := B.exec
  have hb := B.bytes
  have hr := B.returns
  have hts := atoms_spec (ws := wm_L_get) B.pre
  have htb := fun (w : Cond) (h : w ∈ tb) => hts w (List.mem_cons_of_mem _ h)
  have hown : s.vm.findClass RL = some m.cls := findClass_of_methodNamed B.named
  have hlocks := B.notSynchronized
  have hxt := vx_table (x := yL_get) B (hts _ List.mem_cons_self)
  subst hsz
  have hD := hD0.self (sz := s.heap.size)
  generalize hAe : va_A [(h0, .inr (11, [.ref a1, .ref a2, .ref a3, .ref a4, .ref a5, .ref a6, .ref a7, .ref a8, .int 0, .int 0, .int 0, .int (-1)])), (a8, .inr (5, [.ref a6, .ref a1, .ref a7, .ref mk1, .ref mk2, .int 0, .ref mk3, .int 0, .ref mk4, .ref mk5, .null, .int 0, .int (-1)]))] s.heap.size = A at hD hG ⊢
  have hA : ∀ q : Nat, s.heap.size ≤ q → A q := fun q h => by rw [← hAe]; exact Or.inr h
  have hS : va_S A s.heap s.heap [] := va_S.rf
  have hP : va_P (dC, dI) vwCl [(h0, .inr (11, [.ref a1, .ref a2, .ref a3, .ref a4, .ref a5, .ref a6, .ref a7, .ref a8, .int 0, .int 0, .int 0, .int (-1)])), (a8, .inr (5, [.ref a6, .ref a1, .ref a7, .ref mk1, .ref mk2, .int 0, .ref mk3, .int 0, .ref mk4, .ref mk5, .null, .int 0, .int (-1)]))] s.heap := hP
  have hl := lv_entry ([.ref h0, .long l0, .ref h9]) (n := 5) (Nat.le_of_ble_eq_true rfl)
  rw [lg_entry_eq]
  generalize (lg_sl ([.ref h0, .long l0, .ref h9]) ++ List.replicate (5 - (lg_sl ([.ref h0, .long l0, .ref h9])).length) Slot.unset).toArray = ls at hl ⊢
  have hl : lv_has ls 5 [(0, .ref h0), (1, .long l0), (3, .ref h9)] := hl
  refine lv_aload_n hx hb dL_get_0 rfl (lv_at hl 2 rfl) ?_
  refine lv_iconst (v := 0) hx hb dL_get_1 (by decide) ?_
  refine lv_aload_n hx hb dL_get_2 rfl (lv_at hl 0 rfl) ?_
  refine lv_lload_n hx hb dL_get_3 rfl (lv_at hl 1 rfl) ?_
  have hPc := hP.sub (ws' := [(h0, .inr (11, [.ref a1, .ref a2, .ref a3, .ref a4, .ref a5, .ref a6, .ref a7, .ref a8, .int 0, .int 0, .int 0, .int (-1)])), (a8, .inr (5, [.ref a6, .ref a1, .ref a7, .ref mk1, .ref mk2, .int 0, .ref mk3, .int 0, .ref mk4, .ref mk5, .null, .int 0, .int (-1)]))]) [0, 1] rfl
  have hDc := hD.sub (ws' := [(h0, .inr (11, [.ref a1, .ref a2, .ref a3, .ref a4, .ref a5, .ref a6, .ref a7, .ref a8, .int 0, .int 0, .int 0, .int (-1)])), (a8, .inr (5, [.ref a6, .ref a1, .ref a7, .ref mk1, .ref mk2, .int 0, .ref mk3, .int 0, .ref mk4, .ref mk5, .null, .int 0, .int (-1)]))]) [0, 1] (by decide) rfl
  have hKc := hK.sub (tys' := []) [] rfl
  have hFc := va_free (wc := [(h0, .inr (11, [.ref a1, .ref a2, .ref a3, .ref a4, .ref a5, .ref a6, .ref a7, .ref a8, .int 0, .int 0, .int 0, .int (-1)])), (a8, .inr (5, [.ref a6, .ref a1, .ref a7, .ref mk1, .ref mk2, .int 0, .ref mk3, .int 0, .ref mk4, .ref mk5, .null, .int 0, .int (-1)]))]) hD hS hA [0, 1] rfl
  refine vx_calli (vx_runV (As := [.long l0]) (rest := [.int 0, .ref h9]) ⟨hx, hb, hml, hown, htb⟩ (c_X12_get l dC dI s.heap.size h0 l0 a1 a2 a3 a4 a5 a6 a7 a8 mk1 mk2 mk3 mk4 mk5 hl9) (cwV 1 htb (gd_V kw_503 kw_504 kw_505 kw_49 kw_620) rfl rfl rfl (by decide +kernel) ⟨Nat.le_of_ble_eq_true rfl, Nat.le_of_ble_eq_true rfl⟩) ⟨fun a U g mk q => by obtain ⟨q0, q1, qP, qK, qD, qG⟩ := q; exact ⟨q0, q1, qP, va_K.moved (u := U) (U := U.calling g mk a) (Vm.Alike.refl U.vm) qK, qD, GE.call g mk a qG⟩, va_recv hKc hPc (ci := 11) (q0 := 0) rfl rfl, fun U hU hW => ⟨rfl, by rw [hU], by rw [hU]; exact hPc, va_K.moved hW.alike hKc, hDc.weaken (fun _ _ _ _ => trivial), hG.go hS hFc hU hW⟩⟩ rfl rfl hl.1 rfl (lv_room (Nat.le_of_ble_eq_true rfl)) dL_get_4 ⟨(Nat.le_of_ble_eq_true rfl), (Nat.le_of_ble_eq_true rfl)⟩) hS (fun q _ h => hFc q h) hFc (fun q _ h => hFc q h) (fun E ce q9 u t H1 locs ht hvm hw hB hz1 hk1 hS hce hcv hcl => ?_) (fun r u t H1 locs ht hvm hw hB hz1 hk1 hS => ?_)
  · obtain ⟨hE, hB⟩ := hB
    obtain ⟨hP1, hK1, hD1⟩ := hB
    rw [ht] at hP1
    have hK1 := va_K.moved hvm.symm hK1
    obtain ⟨hP, hD⟩ := va_join (wr := []) (w1 := []) hP hD [0, 1] [] rfl rfl (by decide) (by decide) hk1 hFc hP1 hD1
    have hK := hK.app hK1
    generalize H1 = H at hP hS hce ⊢
    have hP : va_P (dC, dI) vwCl [] H := hP
    have hD : va_D A [] := hD
    have hK : va_K (dC, dI) vwCl [] s := hK
    refine vx_widen (k := 1) (n := 6) (Nat.le_of_ble_eq_true rfl) (Nat.le_of_ble_eq_true rfl) ?_
    subst hE
    refine mc_catch (own := RL) (name := "java/lang/IllegalStateException") hown ⟨0, 9, 12, 18⟩ [⟨0, 9, 16, 20⟩] hxt (by decide) (by decide) (htb _ kw_501) (va_Nw.use rfl hG.2.1.2.1) hce hcv hcl ?_
    refine lv_astore (lv' := [(4, .ref q9), (0, .ref h0), (1, .long l0), (3, .ref h9)]) hx hb dL_get_12 hl (by decide) rfl (fun ls hl => ?_)
    refine lv_iconst (v := 1) hx hb dL_get_14 (by decide) ?_
    have hP9 := hP.sub (ws' := []) [] rfl
    have hD9 := hD.sub (ws' := []) [] (by decide) rfl
    have hK9 := hK.sub (tys' := []) [] rfl
    refine W.widen (k := 1) (n := 6) (Nat.le_of_ble_eq_true rfl) (Nat.le_of_ble_eq_true rfl) ?_
    exact vx_ret (W.iret (v := 1) hx hb hr (fun t ht hW => ⟨⟨1, (), rfl, (rfl), by rw [ht]; exact hP9, va_K.moved hW.alike hK9, hD9⟩, hS.F ht⟩) hS.2.2 dL_get_15)
  exact hw.elim

set_option maxHeartbeats 4000000 in
set_option maxRecDepth 100000 in
theorem c_L_call (l : Launch) (dC : Nat → ClassId) (dI : Nat → Nat → Nat) (sz : Nat) (h0 : Nat) (p0 : Int32) (p1 : Int32) (h9 : Nat) (a1 : Nat) (a2 : Nat) (a3 : Nat) (a4 : Nat) (a5 : Nat) (a6 : Nat) (a7 : Nat) (a8 : Nat) (mk1 : Nat) (mk2 : Nat) (mk3 : Nat) (mk4 : Nat) (mk5 : Nat) (hl9 : l.stackTraces = false) : vx_Met l yL_call wm_L_call ({ frames := 7, cells := 1, slots := 6, locals := 124 }) (va_Pc [.ref h0, .int p0, .int p1, .ref h9] (fun U => U.heap.size = sz ∧ va_P (dC, dI) vwCl [(h0, .inr (11, [.ref a1, .ref a2, .ref a3, .ref a4, .ref a5, .ref a6, .ref a7, .ref a8, .int 0, .int 0, .int 0, .int (-1)])), (a8, .inr (5, [.ref a6, .ref a1, .ref a7, .ref mk1, .ref mk2, .int 0, .ref mk3, .int 0, .ref mk4, .ref mk5, .null, .int 0, .int (-1)]))] U.heap ∧ va_K (dC, dI) vwCl [] U ∧ va_D (fun _ => True) [(h0, .inr (11, [.ref a1, .ref a2, .ref a3, .ref a4, .ref a5, .ref a6, .ref a7, .ref a8, .int 0, .int 0, .int 0, .int (-1)])), (a8, .inr (5, [.ref a6, .ref a1, .ref a7, .ref mk1, .ref mk2, .int 0, .ref mk3, .int 0, .ref mk4, .ref mk5, .null, .int 0, .int (-1)]))] ∧ GE (va_A [(h0, .inr (11, [.ref a1, .ref a2, .ref a3, .ref a4, .ref a5, .ref a6, .ref a7, .ref a8, .int 0, .int 0, .int 0, .int (-1)])), (a8, .inr (5, [.ref a6, .ref a1, .ref a7, .ref mk1, .ref mk2, .int 0, .ref mk3, .int 0, .ref mk4, .ref mk5, .null, .int 0, .int (-1)]))] sz) U)) (va_Qi (fun (r : Int32) (_ : Unit) => r = 1) (fun _ t => va_P (dC, dI) vwCl [] t.heap ∧ va_K (dC, dI) vwCl [] t ∧ va_D (va_A [(h0, .inr (11, [.ref a1, .ref a2, .ref a3, .ref a4, .ref a5, .ref a6, .ref a7, .ref a8, .int 0, .int 0, .int 0, .int (-1)])), (a8, .inr (5, [.ref a6, .ref a1, .ref a7, .ref mk1, .ref mk2, .int 0, .ref mk3, .int 0, .ref mk4, .ref mk5, .null, .int 0, .int (-1)]))] sz) []) (va_A [(h0, .inr (11, [.ref a1, .ref a2, .ref a3, .ref a4, .ref a5, .ref a6, .ref a7, .ref a8, .int 0, .int 0, .int 0, .int (-1)])), (a8, .inr (5, [.ref a6, .ref a1, .ref a7, .ref mk1, .ref mk2, .int 0, .ref mk3, .int 0, .ref mk4, .ref mk5, .null, .int 0, .int (-1)]))] sz)) (vx_X (fun _ : Unit => False) (fun _ _ _ => True) (va_A [(h0, .inr (11, [.ref a1, .ref a2, .ref a3, .ref a4, .ref a5, .ref a6, .ref a7, .ref a8, .int 0, .int 0, .int 0, .int (-1)])), (a8, .inr (5, [.ref a6, .ref a1, .ref a7, .ref mk1, .ref mk2, .int 0, .ref mk3, .int 0, .ref mk4, .ref mk5, .null, .int 0, .int (-1)]))] sz)) 1 6 (va_A [(h0, .inr (11, [.ref a1, .ref a2, .ref a3, .ref a4, .ref a5, .ref a6, .ref a7, .ref a8, .int 0, .int 0, .int 0, .int (-1)])), (a8, .inr (5, [.ref a6, .ref a1, .ref a7, .ref mk1, .ref mk2, .int 0, .ref mk3, .int 0, .ref mk4, .ref mk5, .null, .int 0, .int (-1)]))] sz) := by
  refine vx_ofWH (cc := cL_call) (maxL := 5) (ret := (some .int)) (by decide) rfl ?_
  intro p e s m args below meth c s₁ B hml hv
  obtain ⟨rfl, hsz, hP, hK, hD0, hG⟩ := hv
  have hx := B.exec
  have hb := B.bytes
  have hr := B.returns
  have hts := atoms_spec (ws := wm_L_call) B.pre
  have htb := fun (w : Cond) (h : w ∈ tb) => hts w (List.mem_cons_of_mem _ h)
  have hown : s.vm.findClass RL = some m.cls := findClass_of_methodNamed B.named
  have hlocks := B.notSynchronized
  have hxt := vx_table (x := yL_call) B (hts _ List.mem_cons_self)
  subst hsz
  have hD := hD0.self (sz := s.heap.size)
  generalize hAe : va_A [(h0, .inr (11, [.ref a1, .ref a2, .ref a3, .ref a4, .ref a5, .ref a6, .ref a7, .ref a8, .int 0, .int 0, .int 0, .int (-1)])), (a8, .inr (5, [.ref a6, .ref a1, .ref a7, .ref mk1, .ref mk2, .int 0, .ref mk3, .int 0, .ref mk4, .ref mk5, .null, .int 0, .int (-1)]))] s.heap.size = A at hD hG ⊢
  have hA : ∀ q : Nat, s.heap.size ≤ q → A q := fun q h => by rw [← hAe]; exact Or.inr h
  have hS : va_S A s.heap s.heap [] := va_S.rf
  have hP : va_P (dC, dI) vwCl [(h0, .inr (11, [.ref a1, .ref a2, .ref a3, .ref a4, .ref a5, .ref a6, .ref a7, .ref a8, .int 0, .int 0, .int 0, .int (-1)])), (a8, .inr (5, [.ref a6, .ref a1, .ref a7, .ref mk1, .ref mk2, .int 0, .ref mk3, .int 0, .ref mk4, .ref mk5, .null, .int 0, .int (-1)]))] s.heap := hP
  have hl := lv_entry ([.ref h0, .int p0, .int p1, .ref h9]) (n := 5) (Nat.le_of_ble_eq_true rfl)
  rw [lg_entry_eq]
  generalize (lg_sl ([.ref h0, .int p0, .int p1, .ref h9]) ++ List.replicate (5 - (lg_sl ([.ref h0, .int p0, .int p1, .ref h9])).length) Slot.unset).toArray = ls at hl ⊢
  have hl : lv_has ls 5 [(0, .ref h0), (1, .int p0), (2, .int p1), (3, .ref h9)] := hl
  refine lv_aload_n hx hb dL_call_0 rfl (lv_at hl 3 rfl) ?_
  refine lv_iconst (v := 0) hx hb dL_call_1 (by decide) ?_
  refine lv_aload_n hx hb dL_call_2 rfl (lv_at hl 0 rfl) ?_
  refine lv_iload_n hx hb dL_call_3 rfl (lv_at hl 1 rfl) ?_
  refine lv_iload_n hx hb dL_call_4 rfl (lv_at hl 2 rfl) ?_
  have hPc := hP.sub (ws' := [(h0, .inr (11, [.ref a1, .ref a2, .ref a3, .ref a4, .ref a5, .ref a6, .ref a7, .ref a8, .int 0, .int 0, .int 0, .int (-1)])), (a8, .inr (5, [.ref a6, .ref a1, .ref a7, .ref mk1, .ref mk2, .int 0, .ref mk3, .int 0, .ref mk4, .ref mk5, .null, .int 0, .int (-1)]))]) [0, 1] rfl
  have hDc := hD.sub (ws' := [(h0, .inr (11, [.ref a1, .ref a2, .ref a3, .ref a4, .ref a5, .ref a6, .ref a7, .ref a8, .int 0, .int 0, .int 0, .int (-1)])), (a8, .inr (5, [.ref a6, .ref a1, .ref a7, .ref mk1, .ref mk2, .int 0, .ref mk3, .int 0, .ref mk4, .ref mk5, .null, .int 0, .int (-1)]))]) [0, 1] (by decide) rfl
  have hKc := hK.sub (tys' := []) [] rfl
  have hFc := va_free (wc := [(h0, .inr (11, [.ref a1, .ref a2, .ref a3, .ref a4, .ref a5, .ref a6, .ref a7, .ref a8, .int 0, .int 0, .int 0, .int (-1)])), (a8, .inr (5, [.ref a6, .ref a1, .ref a7, .ref mk1, .ref mk2, .int 0, .ref mk3, .int 0, .ref mk4, .ref mk5, .null, .int 0, .int (-1)]))]) hD hS hA [0, 1] rfl
  refine vx_calli (vx_runV (As := [.int p0, .int p1]) (rest := [.int 0, .ref h9]) ⟨hx, hb, hml, hown, htb⟩ (c_X12_call l dC dI s.heap.size h0 p0 p1 a1 a2 a3 a4 a5 a6 a7 a8 mk1 mk2 mk3 mk4 mk5 hl9) (cwV 2 htb (gd_V kw_506 kw_507 kw_508 kw_49 kw_621) rfl rfl rfl (by decide +kernel) ⟨Nat.le_of_ble_eq_true rfl, Nat.le_of_ble_eq_true rfl⟩) ⟨fun a U g mk q => by obtain ⟨q0, q1, qP, qK, qD, qG⟩ := q; exact ⟨q0, q1, qP, va_K.moved (u := U) (U := U.calling g mk a) (Vm.Alike.refl U.vm) qK, qD, GE.call g mk a qG⟩, va_recv hKc hPc (ci := 11) (q0 := 0) rfl rfl, fun U hU hW => ⟨rfl, by rw [hU], by rw [hU]; exact hPc, va_K.moved hW.alike hKc, hDc.weaken (fun _ _ _ _ => trivial), hG.go hS hFc hU hW⟩⟩ rfl rfl hl.1 rfl (lv_room (Nat.le_of_ble_eq_true rfl)) dL_call_5 ⟨(Nat.le_of_ble_eq_true rfl), (Nat.le_of_ble_eq_true rfl)⟩) hS (fun q _ h => hFc q h) hFc (fun q _ h => hFc q h) (fun E ce q9 u t H1 locs ht hvm hw hB hz1 hk1 hS hce hcv hcl => ?_) (fun r u t H1 locs ht hvm hw hB hz1 hk1 hS => ?_)
  · obtain ⟨hE, hB⟩ := hB
    obtain ⟨hP1, hK1, hD1⟩ := hB
    rw [ht] at hP1
    have hK1 := va_K.moved hvm.symm hK1
    obtain ⟨hP, hD⟩ := va_join (wr := []) (w1 := []) hP hD [0, 1] [] rfl rfl (by decide) (by decide) hk1 hFc hP1 hD1
    have hK := hK.app hK1
    generalize H1 = H at hP hS hce ⊢
    have hP : va_P (dC, dI) vwCl [] H := hP
    have hD : va_D A [] := hD
    have hK : va_K (dC, dI) vwCl [] s := hK
    refine vx_widen (k := 1) (n := 6) (Nat.le_of_ble_eq_true rfl) (Nat.le_of_ble_eq_true rfl) ?_
    subst hE
    refine mc_catch (own := RL) (name := "java/lang/IllegalStateException") hown ⟨0, 10, 13, 18⟩ [⟨0, 10, 17, 30⟩, ⟨0, 10, 21, 20⟩] hxt (by decide) (by decide) (htb _ kw_501) (va_Nw.use rfl hG.2.1.2.1) hce hcv hcl ?_
    refine lv_astore (lv' := [(4, .ref q9), (0, .ref h0), (1, .int p0), (2, .int p1), (3, .ref h9)]) hx hb dL_call_13 hl (by decide) rfl (fun ls hl => ?_)
    refine lv_iconst (v := 1) hx hb dL_call_15 (by decide) ?_
    have hP9 := hP.sub (ws' := []) [] rfl
    have hD9 := hD.sub (ws' := []) [] (by decide) rfl
    have hK9 := hK.sub (tys' := []) [] rfl
    refine W.widen (k := 1) (n := 6) (Nat.le_of_ble_eq_true rfl) (Nat.le_of_ble_eq_true rfl) ?_
    exact vx_ret (W.iret (v := 1) hx hb hr (fun t ht hW => ⟨⟨1, (), rfl, (rfl), by rw [ht]; exact hP9, va_K.moved hW.alike hK9, hD9⟩, hS.F ht⟩) hS.2.2 dL_call_16)
  exact hw.elim
