set_option maxHeartbeats 4000000 in
set_option maxRecDepth 100000 in
theorem c_X12_declare (l : Launch) (dC : Nat → ClassId) (dI : Nat → Nat → Nat) (sz : Nat) (h0 : Nat) (p0 : Int32) (p1 : Int32) (a1 : Nat) (a2 : Nat) (a3 : Nat) (a4 : Nat) (a5 : Nat) (a6 : Nat) (a7 : Nat) (a8 : Nat) (cC1 : ClassId) (f0 : Nat → Option Nat) (d0 : Nat) (q1 : Nat) (q2 : Nat) (p8 : Int32) (q3 : Nat) (cB3 : ClassId) (g3 : Nat → Int32) (hf0 : ¬ zCls p0 = 0 → f0 (p0 : Int32).toNatClampNeg = some d0) : Met l yX12_declare wm_X12_declare ({ frames := 1, cells := 0, slots := 0, locals := 22 }) (va_Pc [.ref h0, .int p0, .int p1] (fun U => U.heap.size = sz ∧ va_P (dC, dI) vwCl [(h0, .inr (11, [.ref a1, .ref a2, .ref a3, .ref a4, .ref a5, .ref a6, .ref a7, .ref a8, .int 0, .int 0, .int 0, .int (-1)])), (a1, .inl (cC1, 8, .inr (.inr (.inr (.inr f0))))), (d0, .inr (2, [.ref q1, .ref q2, .int 0, .int 0, .int p8, .ref q3, .int 0, .null])), (q3, .inl (cB3, 26, .inl g3))] U.heap ∧ va_K (dC, dI) vwCl [(cC1, .object RX2), (cB3, .int)] U ∧ va_D (fun _ => True) [(h0, .inr (11, [.ref a1, .ref a2, .ref a3, .ref a4, .ref a5, .ref a6, .ref a7, .ref a8, .int 0, .int 0, .int 0, .int (-1)])), (a1, .inl (cC1, 8, .inr (.inr (.inr (.inr f0))))), (d0, .inr (2, [.ref q1, .ref q2, .int 0, .int 0, .int p8, .ref q3, .int 0, .null])), (q3, .inl (cB3, 26, .inl g3))])) (va_Qi (fun (r : Int32) (_ : Unit) => r = zDec p0 p1) (fun _ t => va_P (dC, dI) vwCl [] t.heap ∧ va_K (dC, dI) vwCl [] t ∧ va_D (va_A [(h0, .inr (11, [.ref a1, .ref a2, .ref a3, .ref a4, .ref a5, .ref a6, .ref a7, .ref a8, .int 0, .int 0, .int 0, .int (-1)])), (a1, .inl (cC1, 8, .inr (.inr (.inr (.inr f0))))), (d0, .inr (2, [.ref q1, .ref q2, .int 0, .int 0, .int p8, .ref q3, .int 0, .null])), (q3, .inl (cB3, 26, .inl g3))] sz) []) (va_A [(h0, .inr (11, [.ref a1, .ref a2, .ref a3, .ref a4, .ref a5, .ref a6, .ref a7, .ref a8, .int 0, .int 0, .int 0, .int (-1)])), (a1, .inl (cC1, 8, .inr (.inr (.inr (.inr f0))))), (d0, .inr (2, [.ref q1, .ref q2, .int 0, .int 0, .int p8, .ref q3, .int 0, .null])), (q3, .inl (cB3, 26, .inl g3))] sz)) 0 0 (va_A [(h0, .inr (11, [.ref a1, .ref a2, .ref a3, .ref a4, .ref a5, .ref a6, .ref a7, .ref a8, .int 0, .int 0, .int 0, .int (-1)])), (a1, .inl (cC1, 8, .inr (.inr (.inr (.inr f0))))), (d0, .inr (2, [.ref q1, .ref q2, .int 0, .int 0, .int p8, .ref q3, .int 0, .null])), (q3, .inl (cB3, 26, .inl g3))] sz) := by
  refine Met.ofW (cc := cX12_declare) (maxL := 3) (ret := (some .boolean)) (by decide) rfl ?_
  intro p e s m args below meth c s₁ B hml hv
  obtain ⟨rfl, hsz, hP, hK, hD0⟩ := hv
  have hx := B.exec
  have hb := B.bytes
  have hr := B.returns
  have hts := atoms_spec (ws := wm_X12_declare) B.pre
  have htb := fun (w : Cond) (h : w ∈ tb) => hts w (List.mem_cons_of_mem _ h)
  have hown : s.vm.findClass RX12 = some m.cls := findClass_of_methodNamed B.named
  have hlocks := B.notSynchronized
  subst hsz
  have hD := hD0.self (sz := s.heap.size)
  generalize hAe : va_A [(h0, .inr (11, [.ref a1, .ref a2, .ref a3, .ref a4, .ref a5, .ref a6, .ref a7, .ref a8, .int 0, .int 0, .int 0, .int (-1)])), (a1, .inl (cC1, 8, .inr (.inr (.inr (.inr f0))))), (d0, .inr (2, [.ref q1, .ref q2, .int 0, .int 0, .int p8, .ref q3, .int 0, .null])), (q3, .inl (cB3, 26, .inl g3))] s.heap.size = A at hD ⊢
  have hA : ∀ q : Nat, s.heap.size ≤ q → A q := fun q h => by rw [← hAe]; exact Or.inr h
  have hS : va_S A s.heap s.heap [] := va_S.rf
  have hP : va_P (dC, dI) vwCl [(h0, .inr (11, [.ref a1, .ref a2, .ref a3, .ref a4, .ref a5, .ref a6, .ref a7, .ref a8, .int 0, .int 0, .int 0, .int (-1)])), (a1, .inl (cC1, 8, .inr (.inr (.inr (.inr f0))))), (d0, .inr (2, [.ref q1, .ref q2, .int 0, .int 0, .int p8, .ref q3, .int 0, .null])), (q3, .inl (cB3, 26, .inl g3))] s.heap := hP
  have hl := lv_entry ([.ref h0, .int p0, .int p1]) (n := 3) (Nat.le_of_ble_eq_true rfl)
  rw [lg_entry_eq]
  generalize (lg_sl ([.ref h0, .int p0, .int p1]) ++ List.replicate (3 - (lg_sl ([.ref h0, .int p0, .int p1])).length) Slot.unset).toArray = ls at hl ⊢
  have hl : lv_has ls 3 [(0, .ref h0), (1, .int p0), (2, .int p1)] := hl
  refine lv_iload_n hx hb dX12_declare_0 rfl (lv_at hl 1 rfl) ?_
  have hPc := hP.sub (ws' := []) [] rfl
  have hDc := hD.sub (ws' := []) [] (by decide) rfl
  have hKc := hK.sub (tys' := []) [] rfl
  have hFc := va_free (wc := []) hD hS hA [] rfl
  refine va_calli (va_runS (As := [.int p0]) (rest := []) ⟨hx, hb, hml, hown, htb⟩ (c_X12_isClass l dC dI s.heap.size p0) (va_cwS 1 htb (gd_S kw_47 kw_48 kw_49 kw_536) rfl rfl rfl (by decide +kernel) ⟨Nat.le_of_ble_eq_true rfl, Nat.le_of_ble_eq_true rfl⟩) ⟨fun a U g mk q => by obtain ⟨q0, q1, qP, qK, qD⟩ := q; exact ⟨q0, q1, qP, va_K.moved (u := U) (U := U.calling g mk a) (Vm.Alike.refl U.vm) qK, qD⟩, fun U hU hW => ⟨rfl, by rw [hU], by rw [hU]; exact hPc, va_K.moved hW.alike hKc, hDc.weaken (fun _ _ _ _ => trivial)⟩⟩ rfl rfl hl.1 rfl (lv_room (Nat.le_of_ble_eq_true rfl)) dX12_declare_1 ⟨(Nat.le_of_ble_eq_true rfl), (Nat.le_of_ble_eq_true rfl)⟩) hS (fun q _ h => hFc q h) hFc (fun r u t H1 locs ht hvm hw hB hz1 hk1 hS => ?_)
  subst hw
  obtain ⟨hP1, hK1, hD1⟩ := hB
  rw [ht] at hP1
  have hK1 := va_K.moved hvm.symm hK1
  obtain ⟨hP, hD⟩ := va_join (wr := [(h0, .inr (11, [.ref a1, .ref a2, .ref a3, .ref a4, .ref a5, .ref a6, .ref a7, .ref a8, .int 0, .int 0, .int 0, .int (-1)])), (a1, .inl (cC1, 8, .inr (.inr (.inr (.inr f0))))), (d0, .inr (2, [.ref q1, .ref q2, .int 0, .int 0, .int p8, .ref q3, .int 0, .null])), (q3, .inl (cB3, 26, .inl g3))]) (w1 := []) hP hD [] [0, 1, 2, 3] rfl rfl (by decide) (by decide) hk1 hFc hP1 hD1
  have hK := hK.app hK1
  generalize H1 = H at hP hS ⊢
  have hP : va_P (dC, dI) vwCl [(h0, .inr (11, [.ref a1, .ref a2, .ref a3, .ref a4, .ref a5, .ref a6, .ref a7, .ref a8, .int 0, .int 0, .int 0, .int (-1)])), (a1, .inl (cC1, 8, .inr (.inr (.inr (.inr f0))))), (d0, .inr (2, [.ref q1, .ref q2, .int 0, .int 0, .int p8, .ref q3, .int 0, .null])), (q3, .inl (cB3, 26, .inl g3))] H := hP
  have hD : va_D A [(h0, .inr (11, [.ref a1, .ref a2, .ref a3, .ref a4, .ref a5, .ref a6, .ref a7, .ref a8, .int 0, .int 0, .int 0, .int (-1)])), (a1, .inl (cC1, 8, .inr (.inr (.inr (.inr f0))))), (d0, .inr (2, [.ref q1, .ref q2, .int 0, .int 0, .int p8, .ref q3, .int 0, .null])), (q3, .inl (cB3, 26, .inl g3))] := hD
  have hK : va_K (dC, dI) vwCl [(cC1, .object RX2), (cB3, .int)] s := hK
  refine W.widen (k := 0) (n := 0) (Nat.le_of_ble_eq_true rfl) (Nat.le_of_ble_eq_true rfl) ?_
  refine lv_if_eq (tgt := 17) hx hb dX12_declare_4 (by decide) (fun c_1 => ?_) (fun c_1 => ?_)
  · refine lv_iconst (v := 0) hx hb dX12_declare_17 (by decide) ?_
    have hP9 := hP.sub (ws' := []) [] rfl
    have hD9 := hD.sub (ws' := []) [] (by decide) rfl
    have hK9 := hK.sub (tys' := []) [] rfl
    refine W.widen (k := 0) (n := 0) (Nat.le_of_ble_eq_true rfl) (Nat.le_of_ble_eq_true rfl) ?_
    exact W.zret (v := 0) hx hb hr rfl (fun t ht hW => ⟨⟨0, (), rfl, (by simp [zDec, c_1]), by rw [ht]; exact hP9, va_K.moved hW.alike hK9, hD9⟩, hS.F ht⟩) hS.2.2 dX12_declare_18
  · refine lv_iload_n hx hb dX12_declare_7 rfl (lv_at hl 2 rfl) ?_
    refine lv_iconst (v := (-1)) hx hb dX12_declare_8 (by decide) ?_
    refine lv_icmp_lt (tgt := 17) hx hb dX12_declare_9 (by decide) (fun c_2 => ?_) (fun c_2 => ?_)
    · refine lv_iconst (v := 0) hx hb dX12_declare_17 (by decide) ?_
      have hP9 := hP.sub (ws' := []) [] rfl
      have hD9 := hD.sub (ws' := []) [] (by decide) rfl
      have hK9 := hK.sub (tys' := []) [] rfl
      refine W.widen (k := 0) (n := 0) (Nat.le_of_ble_eq_true rfl) (Nat.le_of_ble_eq_true rfl) ?_
      exact W.zret (v := 0) hx hb hr rfl (fun t ht hW => ⟨⟨0, (), rfl, (by simp [zDec, c_1, c_2]), by rw [ht]; exact hP9, va_K.moved hW.alike hK9, hD9⟩, hS.F ht⟩) hS.2.2 dX12_declare_18
    · refine lv_iload_n hx hb dX12_declare_12 rfl (lv_at hl 2 rfl) ?_
      refine lv_iload_n hx hb dX12_declare_13 rfl (lv_at hl 1 rfl) ?_
      refine lv_icmp_lt (tgt := 19) hx hb dX12_declare_14 (by decide) (fun c_3 => ?_) (fun c_3 => ?_)
      · refine lv_aload_n hx hb dX12_declare_19 rfl (lv_at hl 0 rfl) ?_
        refine va_get (D := (dC, dI)) (ci := 11) (v := .ref a1) (C := RX12) (T := TX12) (N := 12) hx hb htb inX12 hown hK hP 0 rfl rfl 0 (by decide) (htb _ kw_3) (fun _ h9 => h9) rfl dX12_declare_20 ?_
        refine lv_iload_n hx hb dX12_declare_23 rfl (lv_at hl 1 rfl) ?_
        refine va_aldq (D := (dC, dI)) hx hb hK hP 1 0 rfl rfl (zCls_in c_1) dX12_declare_24 ?_
        refine W.eq (g2 := F0 m 25 ls [.ref d0]) (by rw [hf0 c_1]; rfl) ?_
        refine lv_iload_n hx hb dX12_declare_25 rfl (lv_at hl 2 rfl) ?_
        refine lv_iconst (v := (-1)) hx hb dX12_declare_26 (by decide) ?_
        refine lv_icmp_ne (tgt := 34) hx hb dX12_declare_27 (by decide) (fun c_4 => ?_) (fun c_4 => ?_)
        · refine lv_aload_n hx hb dX12_declare_34 rfl (lv_at hl 0 rfl) ?_
          refine va_get (D := (dC, dI)) (ci := 11) (v := .ref a1) (C := RX12) (T := TX12) (N := 12) hx hb htb inX12 hown hK hP 0 rfl rfl 0 (by decide) (htb _ kw_3) (fun _ h9 => h9) rfl dX12_declare_35 ?_
          refine lv_iload_n hx hb dX12_declare_38 rfl (lv_at hl 2 rfl) ?_
          refine va_aldq (D := (dC, dI)) hx hb hK hP 1 0 rfl rfl (par_in c_1 c_2 c_3 c_4) dX12_declare_39 ?_
          rcases hq9 : f0 (p1 : Int32).toNatClampNeg with _ | o9
          · refine W.eq (g2 := F0 m 40 ls [.null, .ref d0]) (by first | rfl | (rw [hq9]; rfl)) ?_
            have hPc := hP.sub (ws' := [(d0, .inr (2, [.ref q1, .ref q2, .int 0, .int 0, .int p8, .ref q3, .int 0, .null])), (q3, .inl (cB3, 26, .inl g3))]) [2, 3] rfl
            have hDc := hD.sub (ws' := [(d0, .inr (2, [.ref q1, .ref q2, .int 0, .int 0, .int p8, .ref q3, .int 0, .null])), (q3, .inl (cB3, 26, .inl g3))]) [2, 3] (by decide) rfl
            have hKc := hK.sub (tys' := [(cB3, .int)]) [1] rfl
            have hFc := va_free (wc := [(d0, .inr (2, [.ref q1, .ref q2, .int 0, .int 0, .int p8, .ref q3, .int 0, .null])), (q3, .inl (cB3, 26, .inl g3))]) hD hS hA [2, 3] rfl
            refine va_callv (va_runV (As := [.null]) (rest := []) ⟨hx, hb, hml, hown, htb⟩ (c_X2_begin_n l dC dI H.size d0 q1 q2 p8 q3 cB3 g3) (cwV 1 htb (gd_V kw_50 kw_51 kw_52 kw_4 kw_537) rfl rfl rfl (by decide +kernel) ⟨Nat.le_of_ble_eq_true rfl, Nat.le_of_ble_eq_true rfl⟩) ⟨fun a U g mk q => by obtain ⟨q0, q1, qP, qK, qD⟩ := q; exact ⟨q0, q1, qP, va_K.moved (u := U) (U := U.calling g mk a) (Vm.Alike.refl U.vm) qK, qD⟩, va_recv hKc hPc (ci := 2) (q0 := 0) rfl rfl, fun U hU hW => ⟨rfl, by rw [hU], by rw [hU]; exact hPc, va_K.moved hW.alike hKc, hDc.weaken (fun _ _ _ _ => trivial)⟩⟩ rfl rfl hl.1 rfl (lv_room (Nat.le_of_ble_eq_true rfl)) dX12_declare_40 ⟨(Nat.le_of_ble_eq_true rfl), (Nat.le_of_ble_eq_true rfl)⟩) hS (fun q _ h => hFc q h) hFc (fun u t H1 locs ht hvm hw hB hz1 hk1 hS => ?_)
            obtain ⟨hP1, hK1, hD1⟩ := hB
            rw [ht] at hP1
            have hK1 := va_K.moved hvm.symm hK1
            obtain ⟨hP, hD⟩ := va_join (wr := [(h0, .inr (11, [.ref a1, .ref a2, .ref a3, .ref a4, .ref a5, .ref a6, .ref a7, .ref a8, .int 0, .int 0, .int 0, .int (-1)])), (a1, .inl (cC1, 8, .inr (.inr (.inr (.inr f0)))))]) (w1 := []) hP hD [2, 3] [0, 1] rfl rfl (by decide) (by decide) hk1 hFc hP1 hD1
            have hK := hK.app hK1
            generalize H1 = H at hP hS ⊢
            have hP : va_P (dC, dI) vwCl [(h0, .inr (11, [.ref a1, .ref a2, .ref a3, .ref a4, .ref a5, .ref a6, .ref a7, .ref a8, .int 0, .int 0, .int 0, .int (-1)])), (a1, .inl (cC1, 8, .inr (.inr (.inr (.inr f0)))))] H := hP
            have hD : va_D A [(h0, .inr (11, [.ref a1, .ref a2, .ref a3, .ref a4, .ref a5, .ref a6, .ref a7, .ref a8, .int 0, .int 0, .int 0, .int (-1)])), (a1, .inl (cC1, 8, .inr (.inr (.inr (.inr f0)))))] := hD
            have hK : va_K (dC, dI) vwCl [(cC1, .object RX2), (cB3, .int)] s := hK
            refine W.widen (k := 0) (n := 0) (Nat.le_of_ble_eq_true rfl) (Nat.le_of_ble_eq_true rfl) ?_
            refine lv_iconst (v := 1) hx hb dX12_declare_43 (by decide) ?_
            have hP9 := hP.sub (ws' := []) [] rfl
            have hD9 := hD.sub (ws' := []) [] (by decide) rfl
            have hK9 := hK.sub (tys' := []) [] rfl
            refine W.widen (k := 0) (n := 0) (Nat.le_of_ble_eq_true rfl) (Nat.le_of_ble_eq_true rfl) ?_
            exact W.zret (v := 1) hx hb hr rfl (fun t ht hW => ⟨⟨1, (), rfl, (by simp [zDec, c_1, c_2, c_3]), by rw [ht]; exact hP9, va_K.moved hW.alike hK9, hD9⟩, hS.F ht⟩) hS.2.2 dX12_declare_44
          · refine W.eq (g2 := F0 m 40 ls [.ref o9, .ref d0]) (by first | rfl | (rw [hq9]; rfl)) ?_
            have hPc := hP.sub (ws' := [(d0, .inr (2, [.ref q1, .ref q2, .int 0, .int 0, .int p8, .ref q3, .int 0, .null])), (q3, .inl (cB3, 26, .inl g3))]) [2, 3] rfl
            have hDc := hD.sub (ws' := [(d0, .inr (2, [.ref q1, .ref q2, .int 0, .int 0, .int p8, .ref q3, .int 0, .null])), (q3, .inl (cB3, 26, .inl g3))]) [2, 3] (by decide) rfl
            have hKc := hK.sub (tys' := [(cB3, .int)]) [1] rfl
            have hFc := va_free (wc := [(d0, .inr (2, [.ref q1, .ref q2, .int 0, .int 0, .int p8, .ref q3, .int 0, .null])), (q3, .inl (cB3, 26, .inl g3))]) hD hS hA [2, 3] rfl
            refine va_callv (va_runV (As := [.ref o9]) (rest := []) ⟨hx, hb, hml, hown, htb⟩ (c_X2_begin_r l dC dI H.size d0 o9 q1 q2 p8 q3 cB3 g3) (cwV 1 htb (gd_V kw_50 kw_51 kw_52 kw_4 kw_537) rfl rfl rfl (by decide +kernel) ⟨Nat.le_of_ble_eq_true rfl, Nat.le_of_ble_eq_true rfl⟩) ⟨fun a U g mk q => by obtain ⟨q0, q1, qP, qK, qD⟩ := q; exact ⟨q0, q1, qP, va_K.moved (u := U) (U := U.calling g mk a) (Vm.Alike.refl U.vm) qK, qD⟩, va_recv hKc hPc (ci := 2) (q0 := 0) rfl rfl, fun U hU hW => ⟨rfl, by rw [hU], by rw [hU]; exact hPc, va_K.moved hW.alike hKc, hDc.weaken (fun _ _ _ _ => trivial)⟩⟩ rfl rfl hl.1 rfl (lv_room (Nat.le_of_ble_eq_true rfl)) dX12_declare_40 ⟨(Nat.le_of_ble_eq_true rfl), (Nat.le_of_ble_eq_true rfl)⟩) hS (fun q _ h => hFc q h) hFc (fun u t H1 locs ht hvm hw hB hz1 hk1 hS => ?_)
            obtain ⟨hP1, hK1, hD1⟩ := hB
            rw [ht] at hP1
            have hK1 := va_K.moved hvm.symm hK1
            obtain ⟨hP, hD⟩ := va_join (wr := [(h0, .inr (11, [.ref a1, .ref a2, .ref a3, .ref a4, .ref a5, .ref a6, .ref a7, .ref a8, .int 0, .int 0, .int 0, .int (-1)])), (a1, .inl (cC1, 8, .inr (.inr (.inr (.inr f0)))))]) (w1 := []) hP hD [2, 3] [0, 1] rfl rfl (by decide) (by decide) hk1 hFc hP1 hD1
            have hK := hK.app hK1
            generalize H1 = H at hP hS ⊢
            have hP : va_P (dC, dI) vwCl [(h0, .inr (11, [.ref a1, .ref a2, .ref a3, .ref a4, .ref a5, .ref a6, .ref a7, .ref a8, .int 0, .int 0, .int 0, .int (-1)])), (a1, .inl (cC1, 8, .inr (.inr (.inr (.inr f0)))))] H := hP
            have hD : va_D A [(h0, .inr (11, [.ref a1, .ref a2, .ref a3, .ref a4, .ref a5, .ref a6, .ref a7, .ref a8, .int 0, .int 0, .int 0, .int (-1)])), (a1, .inl (cC1, 8, .inr (.inr (.inr (.inr f0)))))] := hD
            have hK : va_K (dC, dI) vwCl [(cC1, .object RX2), (cB3, .int)] s := hK
            refine W.widen (k := 0) (n := 0) (Nat.le_of_ble_eq_true rfl) (Nat.le_of_ble_eq_true rfl) ?_
            refine lv_iconst (v := 1) hx hb dX12_declare_43 (by decide) ?_
            have hP9 := hP.sub (ws' := []) [] rfl
            have hD9 := hD.sub (ws' := []) [] (by decide) rfl
            have hK9 := hK.sub (tys' := []) [] rfl
            refine W.widen (k := 0) (n := 0) (Nat.le_of_ble_eq_true rfl) (Nat.le_of_ble_eq_true rfl) ?_
            exact W.zret (v := 1) hx hb hr rfl (fun t ht hW => ⟨⟨1, (), rfl, (by simp [zDec, c_1, c_2, c_3]), by rw [ht]; exact hP9, va_K.moved hW.alike hK9, hD9⟩, hS.F ht⟩) hS.2.2 dX12_declare_44
        · refine lv_null hx hb dX12_declare_30 ?_
          refine lv_goto (tgt := 40) hx hb dX12_declare_31 (by decide) ?_
          have hPc := hP.sub (ws' := [(d0, .inr (2, [.ref q1, .ref q2, .int 0, .int 0, .int p8, .ref q3, .int 0, .null])), (q3, .inl (cB3, 26, .inl g3))]) [2, 3] rfl
          have hDc := hD.sub (ws' := [(d0, .inr (2, [.ref q1, .ref q2, .int 0, .int 0, .int p8, .ref q3, .int 0, .null])), (q3, .inl (cB3, 26, .inl g3))]) [2, 3] (by decide) rfl
          have hKc := hK.sub (tys' := [(cB3, .int)]) [1] rfl
          have hFc := va_free (wc := [(d0, .inr (2, [.ref q1, .ref q2, .int 0, .int 0, .int p8, .ref q3, .int 0, .null])), (q3, .inl (cB3, 26, .inl g3))]) hD hS hA [2, 3] rfl
          refine va_callv (va_runV (As := [.null]) (rest := []) ⟨hx, hb, hml, hown, htb⟩ (c_X2_begin_n l dC dI H.size d0 q1 q2 p8 q3 cB3 g3) (cwV 1 htb (gd_V kw_50 kw_51 kw_52 kw_4 kw_537) rfl rfl rfl (by decide +kernel) ⟨Nat.le_of_ble_eq_true rfl, Nat.le_of_ble_eq_true rfl⟩) ⟨fun a U g mk q => by obtain ⟨q0, q1, qP, qK, qD⟩ := q; exact ⟨q0, q1, qP, va_K.moved (u := U) (U := U.calling g mk a) (Vm.Alike.refl U.vm) qK, qD⟩, va_recv hKc hPc (ci := 2) (q0 := 0) rfl rfl, fun U hU hW => ⟨rfl, by rw [hU], by rw [hU]; exact hPc, va_K.moved hW.alike hKc, hDc.weaken (fun _ _ _ _ => trivial)⟩⟩ rfl rfl hl.1 rfl (lv_room (Nat.le_of_ble_eq_true rfl)) dX12_declare_40 ⟨(Nat.le_of_ble_eq_true rfl), (Nat.le_of_ble_eq_true rfl)⟩) hS (fun q _ h => hFc q h) hFc (fun u t H1 locs ht hvm hw hB hz1 hk1 hS => ?_)
          obtain ⟨hP1, hK1, hD1⟩ := hB
          rw [ht] at hP1
          have hK1 := va_K.moved hvm.symm hK1
          obtain ⟨hP, hD⟩ := va_join (wr := [(h0, .inr (11, [.ref a1, .ref a2, .ref a3, .ref a4, .ref a5, .ref a6, .ref a7, .ref a8, .int 0, .int 0, .int 0, .int (-1)])), (a1, .inl (cC1, 8, .inr (.inr (.inr (.inr f0)))))]) (w1 := []) hP hD [2, 3] [0, 1] rfl rfl (by decide) (by decide) hk1 hFc hP1 hD1
          have hK := hK.app hK1
          generalize H1 = H at hP hS ⊢
          have hP : va_P (dC, dI) vwCl [(h0, .inr (11, [.ref a1, .ref a2, .ref a3, .ref a4, .ref a5, .ref a6, .ref a7, .ref a8, .int 0, .int 0, .int 0, .int (-1)])), (a1, .inl (cC1, 8, .inr (.inr (.inr (.inr f0)))))] H := hP
          have hD : va_D A [(h0, .inr (11, [.ref a1, .ref a2, .ref a3, .ref a4, .ref a5, .ref a6, .ref a7, .ref a8, .int 0, .int 0, .int 0, .int (-1)])), (a1, .inl (cC1, 8, .inr (.inr (.inr (.inr f0)))))] := hD
          have hK : va_K (dC, dI) vwCl [(cC1, .object RX2), (cB3, .int)] s := hK
          refine W.widen (k := 0) (n := 0) (Nat.le_of_ble_eq_true rfl) (Nat.le_of_ble_eq_true rfl) ?_
          refine lv_iconst (v := 1) hx hb dX12_declare_43 (by decide) ?_
          have hP9 := hP.sub (ws' := []) [] rfl
          have hD9 := hD.sub (ws' := []) [] (by decide) rfl
          have hK9 := hK.sub (tys' := []) [] rfl
          refine W.widen (k := 0) (n := 0) (Nat.le_of_ble_eq_true rfl) (Nat.le_of_ble_eq_true rfl) ?_
          exact W.zret (v := 1) hx hb hr rfl (fun t ht hW => ⟨⟨1, (), rfl, (by simp [zDec, c_1, c_2, c_3]), by rw [ht]; exact hP9, va_K.moved hW.alike hK9, hD9⟩, hS.F ht⟩) hS.2.2 dX12_declare_44
      · refine lv_iconst (v := 0) hx hb dX12_declare_17 (by decide) ?_
        have hP9 := hP.sub (ws' := []) [] rfl
        have hD9 := hD.sub (ws' := []) [] (by decide) rfl
        have hK9 := hK.sub (tys' := []) [] rfl
        refine W.widen (k := 0) (n := 0) (Nat.le_of_ble_eq_true rfl) (Nat.le_of_ble_eq_true rfl) ?_
        exact W.zret (v := 0) hx hb hr rfl (fun t ht hW => ⟨⟨0, (), rfl, (by simp [zDec, c_1, c_2, c_3]), by rw [ht]; exact hP9, va_K.moved hW.alike hK9, hD9⟩, hS.F ht⟩) hS.2.2 dX12_declare_18

set_option maxHeartbeats 4000000 in
set_option maxRecDepth 100000 in
theorem c_X12_constructor (l : Launch) (dC : Nat → ClassId) (dI : Nat → Nat → Nat) (sz : Nat) (h0 : Nat) (p0 : Int32) (p1 : Int32) (p2 : Int32) (p3 : Int32) (p4 : Int32) (a1 : Nat) (a2 : Nat) (a3 : Nat) (a4 : Nat) (a5 : Nat) (a6 : Nat) (a7 : Nat) (a8 : Nat) (cC1 : ClassId) (f0 : Nat → Option Nat) (d0 : Nat) (q1 : Nat) (q2 : Nat) (p8 : Int32) (q3 : Nat) (cB1 : ClassId) (g1 : Nat → Option Nat) (q4 : Nat) (q5 : Nat) (cB5 : ClassId) (hf0 : ¬ zCls p0 = 0 → f0 (p0 : Int32).toNatClampNeg = some d0) (hg1 : g1 0 = some q4) : Met l yX12_constructor wm_X12_constructor ({ frames := 2, cells := 0, slots := 0, locals := 48 }) (va_Pc [.ref h0, .int p0, .int p1, .int p2, .int p3, .int p4] (fun U => U.heap.size = sz ∧ va_P (dC, dI) vwCl [(h0, .inr (11, [.ref a1, .ref a2, .ref a3, .ref a4, .ref a5, .ref a6, .ref a7, .ref a8, .int 0, .int 0, .int 0, .int (-1)])), (a1, .inl (cC1, 8, .inr (.inr (.inr (.inr f0))))), (d0, .inr (2, [.ref q1, .ref q2, .int 0, .int 0, .int p8, .ref q3, .int 0, .null])), (q1, .inl (cB1, 4, .inr (.inr (.inr (.inr g1))))), (q4, .inr (8, [.int p8, .int 0, .ref q5, .int 0, .int 0, .int 0, .int 0])), (q5, .inl (cB5, 3, .inl (fun _ => 0)))] U.heap ∧ va_K (dC, dI) vwCl [(cC1, .object RX2), (cB1, .object RX8), (cB5, .int)] U ∧ va_D (fun _ => True) [(h0, .inr (11, [.ref a1, .ref a2, .ref a3, .ref a4, .ref a5, .ref a6, .ref a7, .ref a8, .int 0, .int 0, .int 0, .int (-1)])), (a1, .inl (cC1, 8, .inr (.inr (.inr (.inr f0))))), (d0, .inr (2, [.ref q1, .ref q2, .int 0, .int 0, .int p8, .ref q3, .int 0, .null])), (q1, .inl (cB1, 4, .inr (.inr (.inr (.inr g1))))), (q4, .inr (8, [.int p8, .int 0, .ref q5, .int 0, .int 0, .int 0, .int 0])), (q5, .inl (cB5, 3, .inl (fun _ => 0)))])) (va_Qi (fun (r : Int32) (_ : Unit) => r = zCon p0 p1 p2 p3 p4) (fun _ t => va_P (dC, dI) vwCl [] t.heap ∧ va_K (dC, dI) vwCl [] t ∧ va_D (va_A [(h0, .inr (11, [.ref a1, .ref a2, .ref a3, .ref a4, .ref a5, .ref a6, .ref a7, .ref a8, .int 0, .int 0, .int 0, .int (-1)])), (a1, .inl (cC1, 8, .inr (.inr (.inr (.inr f0))))), (d0, .inr (2, [.ref q1, .ref q2, .int 0, .int 0, .int p8, .ref q3, .int 0, .null])), (q1, .inl (cB1, 4, .inr (.inr (.inr (.inr g1))))), (q4, .inr (8, [.int p8, .int 0, .ref q5, .int 0, .int 0, .int 0, .int 0])), (q5, .inl (cB5, 3, .inl (fun _ => 0)))] sz) []) (va_A [(h0, .inr (11, [.ref a1, .ref a2, .ref a3, .ref a4, .ref a5, .ref a6, .ref a7, .ref a8, .int 0, .int 0, .int 0, .int (-1)])), (a1, .inl (cC1, 8, .inr (.inr (.inr (.inr f0))))), (d0, .inr (2, [.ref q1, .ref q2, .int 0, .int 0, .int p8, .ref q3, .int 0, .null])), (q1, .inl (cB1, 4, .inr (.inr (.inr (.inr g1))))), (q4, .inr (8, [.int p8, .int 0, .ref q5, .int 0, .int 0, .int 0, .int 0])), (q5, .inl (cB5, 3, .inl (fun _ => 0)))] sz)) 0 0 (va_A [(h0, .inr (11, [.ref a1, .ref a2, .ref a3, .ref a4, .ref a5, .ref a6, .ref a7, .ref a8, .int 0, .int 0, .int 0, .int (-1)])), (a1, .inl (cC1, 8, .inr (.inr (.inr (.inr f0))))), (d0, .inr (2, [.ref q1, .ref q2, .int 0, .int 0, .int p8, .ref q3, .int 0, .null])), (q1, .inl (cB1, 4, .inr (.inr (.inr (.inr g1))))), (q4, .inr (8, [.int p8, .int 0, .ref q5, .int 0, .int 0, .int 0, .int 0])), (q5, .inl (cB5, 3, .inl (fun _ => 0)))] sz) := by
  refine Met.ofW (cc := cX12_constructor) (maxL := 6) (ret := (some .boolean)) (by decide) rfl ?_
  intro p e s m args below meth c s₁ B hml hv
  obtain ⟨rfl, hsz, hP, hK, hD0⟩ := hv
  have hx := B.exec
  have hb := B.bytes
  have hr := B.returns
  have hts := atoms_spec (ws := wm_X12_constructor) B.pre
  have htb := fun (w : Cond) (h : w ∈ tb) => hts w (List.mem_cons_of_mem _ h)
  have hown : s.vm.findClass RX12 = some m.cls := findClass_of_methodNamed B.named
  have hlocks := B.notSynchronized
  subst hsz
  have hD := hD0.self (sz := s.heap.size)
  generalize hAe : va_A [(h0, .inr (11, [.ref a1, .ref a2, .ref a3, .ref a4, .ref a5, .ref a6, .ref a7, .ref a8, .int 0, .int 0, .int 0, .int (-1)])), (a1, .inl (cC1, 8, .inr (.inr (.inr (.inr f0))))), (d0, .inr (2, [.ref q1, .ref q2, .int 0, .int 0, .int p8, .ref q3, .int 0, .null])), (q1, .inl (cB1, 4, .inr (.inr (.inr (.inr g1))))), (q4, .inr (8, [.int p8, .int 0, .ref q5, .int 0, .int 0, .int 0, .int 0])), (q5, .inl (cB5, 3, .inl (fun _ => 0)))] s.heap.size = A at hD ⊢
  have hA : ∀ q : Nat, s.heap.size ≤ q → A q := fun q h => by rw [← hAe]; exact Or.inr h
  have hS : va_S A s.heap s.heap [] := va_S.rf
  have hP : va_P (dC, dI) vwCl [(h0, .inr (11, [.ref a1, .ref a2, .ref a3, .ref a4, .ref a5, .ref a6, .ref a7, .ref a8, .int 0, .int 0, .int 0, .int (-1)])), (a1, .inl (cC1, 8, .inr (.inr (.inr (.inr f0))))), (d0, .inr (2, [.ref q1, .ref q2, .int 0, .int 0, .int p8, .ref q3, .int 0, .null])), (q1, .inl (cB1, 4, .inr (.inr (.inr (.inr g1))))), (q4, .inr (8, [.int p8, .int 0, .ref q5, .int 0, .int 0, .int 0, .int 0])), (q5, .inl (cB5, 3, .inl (fun _ => 0)))] s.heap := hP
  have hl := lv_entry ([.ref h0, .int p0, .int p1, .int p2, .int p3, .int p4]) (n := 6) (Nat.le_of_ble_eq_true rfl)
  rw [lg_entry_eq]
  generalize (lg_sl ([.ref h0, .int p0, .int p1, .int p2, .int p3, .int p4]) ++ List.replicate (6 - (lg_sl ([.ref h0, .int p0, .int p1, .int p2, .int p3, .int p4])).length) Slot.unset).toArray = ls at hl ⊢
  have hl : lv_has ls 6 [(0, .ref h0), (1, .int p0), (2, .int p1), (3, .int p2), (4, .int p3), (5, .int p4)] := hl
  refine lv_iload_n hx hb dX12_constructor_0 rfl (lv_at hl 1 rfl) ?_
  have hPc := hP.sub (ws' := []) [] rfl
  have hDc := hD.sub (ws' := []) [] (by decide) rfl
  have hKc := hK.sub (tys' := []) [] rfl
  have hFc := va_free (wc := []) hD hS hA [] rfl
  refine va_calli (va_runS (As := [.int p0]) (rest := []) ⟨hx, hb, hml, hown, htb⟩ (c_X12_isClass l dC dI s.heap.size p0) (va_cwS 1 htb (gd_S kw_47 kw_48 kw_49 kw_536) rfl rfl rfl (by decide +kernel) ⟨Nat.le_of_ble_eq_true rfl, Nat.le_of_ble_eq_true rfl⟩) ⟨fun a U g mk q => by obtain ⟨q0, q1, qP, qK, qD⟩ := q; exact ⟨q0, q1, qP, va_K.moved (u := U) (U := U.calling g mk a) (Vm.Alike.refl U.vm) qK, qD⟩, fun U hU hW => ⟨rfl, by rw [hU], by rw [hU]; exact hPc, va_K.moved hW.alike hKc, hDc.weaken (fun _ _ _ _ => trivial)⟩⟩ rfl rfl hl.1 rfl (lv_room (Nat.le_of_ble_eq_true rfl)) dX12_constructor_1 ⟨(Nat.le_of_ble_eq_true rfl), (Nat.le_of_ble_eq_true rfl)⟩) hS (fun q _ h => hFc q h) hFc (fun r u t H1 locs ht hvm hw hB hz1 hk1 hS => ?_)
  subst hw
  obtain ⟨hP1, hK1, hD1⟩ := hB
  rw [ht] at hP1
  have hK1 := va_K.moved hvm.symm hK1
  obtain ⟨hP, hD⟩ := va_join (wr := [(h0, .inr (11, [.ref a1, .ref a2, .ref a3, .ref a4, .ref a5, .ref a6, .ref a7, .ref a8, .int 0, .int 0, .int 0, .int (-1)])), (a1, .inl (cC1, 8, .inr (.inr (.inr (.inr f0))))), (d0, .inr (2, [.ref q1, .ref q2, .int 0, .int 0, .int p8, .ref q3, .int 0, .null])), (q1, .inl (cB1, 4, .inr (.inr (.inr (.inr g1))))), (q4, .inr (8, [.int p8, .int 0, .ref q5, .int 0, .int 0, .int 0, .int 0])), (q5, .inl (cB5, 3, .inl (fun _ => 0)))]) (w1 := []) hP hD [] [0, 1, 2, 3, 4, 5] rfl rfl (by decide) (by decide) hk1 hFc hP1 hD1
  have hK := hK.app hK1
  generalize H1 = H at hP hS ⊢
  have hP : va_P (dC, dI) vwCl [(h0, .inr (11, [.ref a1, .ref a2, .ref a3, .ref a4, .ref a5, .ref a6, .ref a7, .ref a8, .int 0, .int 0, .int 0, .int (-1)])), (a1, .inl (cC1, 8, .inr (.inr (.inr (.inr f0))))), (d0, .inr (2, [.ref q1, .ref q2, .int 0, .int 0, .int p8, .ref q3, .int 0, .null])), (q1, .inl (cB1, 4, .inr (.inr (.inr (.inr g1))))), (q4, .inr (8, [.int p8, .int 0, .ref q5, .int 0, .int 0, .int 0, .int 0])), (q5, .inl (cB5, 3, .inl (fun _ => 0)))] H := hP
  have hD : va_D A [(h0, .inr (11, [.ref a1, .ref a2, .ref a3, .ref a4, .ref a5, .ref a6, .ref a7, .ref a8, .int 0, .int 0, .int 0, .int (-1)])), (a1, .inl (cC1, 8, .inr (.inr (.inr (.inr f0))))), (d0, .inr (2, [.ref q1, .ref q2, .int 0, .int 0, .int p8, .ref q3, .int 0, .null])), (q1, .inl (cB1, 4, .inr (.inr (.inr (.inr g1))))), (q4, .inr (8, [.int p8, .int 0, .ref q5, .int 0, .int 0, .int 0, .int 0])), (q5, .inl (cB5, 3, .inl (fun _ => 0)))] := hD
  have hK : va_K (dC, dI) vwCl [(cC1, .object RX2), (cB1, .object RX8), (cB5, .int)] s := hK
  refine W.widen (k := 0) (n := 0) (Nat.le_of_ble_eq_true rfl) (Nat.le_of_ble_eq_true rfl) ?_
  refine lv_if_eq (tgt := 41) hx hb dX12_constructor_4 (by decide) (fun c_1 => ?_) (fun c_1 => ?_)
  · refine lv_iconst (v := 0) hx hb dX12_constructor_41 (by decide) ?_
    have hP9 := hP.sub (ws' := []) [] rfl
    have hD9 := hD.sub (ws' := []) [] (by decide) rfl
    have hK9 := hK.sub (tys' := []) [] rfl
    refine W.widen (k := 0) (n := 0) (Nat.le_of_ble_eq_true rfl) (Nat.le_of_ble_eq_true rfl) ?_
    exact W.zret (v := 0) hx hb hr rfl (fun t ht hW => ⟨⟨0, (), rfl, (by simp [zCon, c_1]), by rw [ht]; exact hP9, va_K.moved hW.alike hK9, hD9⟩, hS.F ht⟩) hS.2.2 dX12_constructor_42
  · refine lv_iload_n hx hb dX12_constructor_7 rfl (lv_at hl 2 rfl) ?_
    refine lv_iload_n hx hb dX12_constructor_8 rfl (lv_at hl 3 rfl) ?_
    refine lv_iload hx hb dX12_constructor_9 (lv_at hl 4 rfl) ?_
    refine lv_iload hx hb dX12_constructor_11 (lv_at hl 5 rfl) ?_
    have hPc := hP.sub (ws' := []) [] rfl
    have hDc := hD.sub (ws' := []) [] (by decide) rfl
    have hKc := hK.sub (tys' := []) [] rfl
    have hFc := va_free (wc := []) hD hS hA [] rfl
    refine va_calli (va_runS (As := [.int p1, .int p2, .int p3, .int p4]) (rest := []) ⟨hx, hb, hml, hown, htb⟩ (c_X12_areTypes l dC dI H.size p1 p2 p3 p4) (va_cwS 4 htb (gd_S kw_53 kw_54 kw_49 kw_538) rfl rfl rfl (by decide +kernel) ⟨Nat.le_of_ble_eq_true rfl, Nat.le_of_ble_eq_true rfl⟩) ⟨fun a U g mk q => by obtain ⟨q0, q1, qP, qK, qD⟩ := q; exact ⟨q0, q1, qP, va_K.moved (u := U) (U := U.calling g mk a) (Vm.Alike.refl U.vm) qK, qD⟩, fun U hU hW => ⟨rfl, by rw [hU], by rw [hU]; exact hPc, va_K.moved hW.alike hKc, hDc.weaken (fun _ _ _ _ => trivial)⟩⟩ rfl rfl hl.1 rfl (lv_room (Nat.le_of_ble_eq_true rfl)) dX12_constructor_13 ⟨(Nat.le_of_ble_eq_true rfl), (Nat.le_of_ble_eq_true rfl)⟩) hS (fun q _ h => hFc q h) hFc (fun r u t H1 locs ht hvm hw hB hz1 hk1 hS => ?_)
    subst hw
    obtain ⟨hP1, hK1, hD1⟩ := hB
    rw [ht] at hP1
    have hK1 := va_K.moved hvm.symm hK1
    obtain ⟨hP, hD⟩ := va_join (wr := [(h0, .inr (11, [.ref a1, .ref a2, .ref a3, .ref a4, .ref a5, .ref a6, .ref a7, .ref a8, .int 0, .int 0, .int 0, .int (-1)])), (a1, .inl (cC1, 8, .inr (.inr (.inr (.inr f0))))), (d0, .inr (2, [.ref q1, .ref q2, .int 0, .int 0, .int p8, .ref q3, .int 0, .null])), (q1, .inl (cB1, 4, .inr (.inr (.inr (.inr g1))))), (q4, .inr (8, [.int p8, .int 0, .ref q5, .int 0, .int 0, .int 0, .int 0])), (q5, .inl (cB5, 3, .inl (fun _ => 0)))]) (w1 := []) hP hD [] [0, 1, 2, 3, 4, 5] rfl rfl (by decide) (by decide) hk1 hFc hP1 hD1
    have hK := hK.app hK1
    generalize H1 = H at hP hS ⊢
    have hP : va_P (dC, dI) vwCl [(h0, .inr (11, [.ref a1, .ref a2, .ref a3, .ref a4, .ref a5, .ref a6, .ref a7, .ref a8, .int 0, .int 0, .int 0, .int (-1)])), (a1, .inl (cC1, 8, .inr (.inr (.inr (.inr f0))))), (d0, .inr (2, [.ref q1, .ref q2, .int 0, .int 0, .int p8, .ref q3, .int 0, .null])), (q1, .inl (cB1, 4, .inr (.inr (.inr (.inr g1))))), (q4, .inr (8, [.int p8, .int 0, .ref q5, .int 0, .int 0, .int 0, .int 0])), (q5, .inl (cB5, 3, .inl (fun _ => 0)))] H := hP
    have hD : va_D A [(h0, .inr (11, [.ref a1, .ref a2, .ref a3, .ref a4, .ref a5, .ref a6, .ref a7, .ref a8, .int 0, .int 0, .int 0, .int (-1)])), (a1, .inl (cC1, 8, .inr (.inr (.inr (.inr f0))))), (d0, .inr (2, [.ref q1, .ref q2, .int 0, .int 0, .int p8, .ref q3, .int 0, .null])), (q1, .inl (cB1, 4, .inr (.inr (.inr (.inr g1))))), (q4, .inr (8, [.int p8, .int 0, .ref q5, .int 0, .int 0, .int 0, .int 0])), (q5, .inl (cB5, 3, .inl (fun _ => 0)))] := hD
    have hK : va_K (dC, dI) vwCl [(cC1, .object RX2), (cB1, .object RX8), (cB5, .int)] s := hK
    refine W.widen (k := 0) (n := 0) (Nat.le_of_ble_eq_true rfl) (Nat.le_of_ble_eq_true rfl) ?_
    refine lv_if_eq (tgt := 41) hx hb dX12_constructor_16 (by decide) (fun c_2 => ?_) (fun c_2 => ?_)
    · refine lv_iconst (v := 0) hx hb dX12_constructor_41 (by decide) ?_
      have hP9 := hP.sub (ws' := []) [] rfl
      have hD9 := hD.sub (ws' := []) [] (by decide) rfl
      have hK9 := hK.sub (tys' := []) [] rfl
      refine W.widen (k := 0) (n := 0) (Nat.le_of_ble_eq_true rfl) (Nat.le_of_ble_eq_true rfl) ?_
      exact W.zret (v := 0) hx hb hr rfl (fun t ht hW => ⟨⟨0, (), rfl, (by simp [zCon, c_1, c_2]), by rw [ht]; exact hP9, va_K.moved hW.alike hK9, hD9⟩, hS.F ht⟩) hS.2.2 dX12_constructor_42
    · refine lv_aload_n hx hb dX12_constructor_19 rfl (lv_at hl 0 rfl) ?_
      refine va_get (D := (dC, dI)) (ci := 11) (v := .ref a1) (C := RX12) (T := TX12) (N := 12) hx hb htb inX12 hown hK hP 0 rfl rfl 0 (by decide) (htb _ kw_3) (fun _ h9 => h9) rfl dX12_constructor_20 ?_
      refine lv_iload_n hx hb dX12_constructor_23 rfl (lv_at hl 1 rfl) ?_
      refine va_aldq (D := (dC, dI)) hx hb hK hP 1 0 rfl rfl (zCls_in c_1) dX12_constructor_24 ?_
      refine W.eq (g2 := F0 m 25 ls [.ref d0]) (by rw [hf0 c_1]; rfl) ?_
      refine lv_iload_n hx hb dX12_constructor_25 rfl (lv_at hl 2 rfl) ?_
      refine lv_iload_n hx hb dX12_constructor_26 rfl (lv_at hl 3 rfl) ?_
      refine lv_iload hx hb dX12_constructor_27 (lv_at hl 4 rfl) ?_
      refine lv_iload hx hb dX12_constructor_29 (lv_at hl 5 rfl) ?_
      have hPc := hP.sub (ws' := [(d0, .inr (2, [.ref q1, .ref q2, .int 0, .int 0, .int p8, .ref q3, .int 0, .null])), (q1, .inl (cB1, 4, .inr (.inr (.inr (.inr g1))))), (q4, .inr (8, [.int p8, .int 0, .ref q5, .int 0, .int 0, .int 0, .int 0])), (q5, .inl (cB5, 3, .inl (fun _ => 0)))]) [2, 3, 4, 5] rfl
      have hDc := hD.sub (ws' := [(d0, .inr (2, [.ref q1, .ref q2, .int 0, .int 0, .int p8, .ref q3, .int 0, .null])), (q1, .inl (cB1, 4, .inr (.inr (.inr (.inr g1))))), (q4, .inr (8, [.int p8, .int 0, .ref q5, .int 0, .int 0, .int 0, .int 0])), (q5, .inl (cB5, 3, .inl (fun _ => 0)))]) [2, 3, 4, 5] (by decide) rfl
      have hKc := hK.sub (tys' := [(cB1, .object RX8), (cB5, .int)]) [1, 2] rfl
      have hFc := va_free (wc := [(d0, .inr (2, [.ref q1, .ref q2, .int 0, .int 0, .int p8, .ref q3, .int 0, .null])), (q1, .inl (cB1, 4, .inr (.inr (.inr (.inr g1))))), (q4, .inr (8, [.int p8, .int 0, .ref q5, .int 0, .int 0, .int 0, .int 0])), (q5, .inl (cB5, 3, .inl (fun _ => 0)))]) hD hS hA [2, 3, 4, 5] rfl
      refine va_calli (va_runV (As := [.int p1, .int p2, .int p3, .int p4]) (rest := []) ⟨hx, hb, hml, hown, htb⟩ (c_X2_addConstructor l dC dI H.size d0 p1 p2 p3 p4 q1 q2 p8 q3 cB1 g1 q4 q5 cB5 hg1) (cwV 4 htb (gd_V kw_55 kw_56 kw_57 kw_4 kw_539) rfl rfl rfl (by decide +kernel) ⟨Nat.le_of_ble_eq_true rfl, Nat.le_of_ble_eq_true rfl⟩) ⟨fun a U g mk q => by obtain ⟨q0, q1, qP, qK, qD⟩ := q; exact ⟨q0, q1, qP, va_K.moved (u := U) (U := U.calling g mk a) (Vm.Alike.refl U.vm) qK, qD⟩, va_recv hKc hPc (ci := 2) (q0 := 0) rfl rfl, fun U hU hW => ⟨rfl, by rw [hU], by rw [hU]; exact hPc, va_K.moved hW.alike hKc, hDc.weaken (fun _ _ _ _ => trivial)⟩⟩ rfl rfl hl.1 rfl (lv_room (Nat.le_of_ble_eq_true rfl)) dX12_constructor_31 ⟨(Nat.le_of_ble_eq_true rfl), (Nat.le_of_ble_eq_true rfl)⟩) hS (fun q _ h => hFc q h) hFc (fun r u t H1 locs ht hvm hw hB hz1 hk1 hS => ?_)
      subst hw
      obtain ⟨hP1, hK1, hD1⟩ := hB
      rw [ht] at hP1
      have hK1 := va_K.moved hvm.symm hK1
      obtain ⟨hP, hD⟩ := va_join (wr := [(h0, .inr (11, [.ref a1, .ref a2, .ref a3, .ref a4, .ref a5, .ref a6, .ref a7, .ref a8, .int 0, .int 0, .int 0, .int (-1)])), (a1, .inl (cC1, 8, .inr (.inr (.inr (.inr f0)))))]) (w1 := []) hP hD [2, 3, 4, 5] [0, 1] rfl rfl (by decide) (by decide) hk1 hFc hP1 hD1
      have hK := hK.app hK1
      generalize H1 = H at hP hS ⊢
      have hP : va_P (dC, dI) vwCl [(h0, .inr (11, [.ref a1, .ref a2, .ref a3, .ref a4, .ref a5, .ref a6, .ref a7, .ref a8, .int 0, .int 0, .int 0, .int (-1)])), (a1, .inl (cC1, 8, .inr (.inr (.inr (.inr f0)))))] H := hP
      have hD : va_D A [(h0, .inr (11, [.ref a1, .ref a2, .ref a3, .ref a4, .ref a5, .ref a6, .ref a7, .ref a8, .int 0, .int 0, .int 0, .int (-1)])), (a1, .inl (cC1, 8, .inr (.inr (.inr (.inr f0)))))] := hD
      have hK : va_K (dC, dI) vwCl [(cC1, .object RX2), (cB1, .object RX8), (cB5, .int)] s := hK
      refine W.widen (k := 0) (n := 0) (Nat.le_of_ble_eq_true rfl) (Nat.le_of_ble_eq_true rfl) ?_
      refine lv_if_eq (tgt := 41) hx hb dX12_constructor_34 (by decide) (fun c_3 => absurd c_3 (by decide)) (fun _ => ?_)
      refine lv_iconst (v := 1) hx hb dX12_constructor_37 (by decide) ?_
      refine lv_goto (tgt := 42) hx hb dX12_constructor_38 (by decide) ?_
      have hP9 := hP.sub (ws' := []) [] rfl
      have hD9 := hD.sub (ws' := []) [] (by decide) rfl
      have hK9 := hK.sub (tys' := []) [] rfl
      refine W.widen (k := 0) (n := 0) (Nat.le_of_ble_eq_true rfl) (Nat.le_of_ble_eq_true rfl) ?_
      exact W.zret (v := 1) hx hb hr rfl (fun t ht hW => ⟨⟨1, (), rfl, (by simp [zCon, c_1, c_2]), by rw [ht]; exact hP9, va_K.moved hW.alike hK9, hD9⟩, hS.F ht⟩) hS.2.2 dX12_constructor_42

set_option maxHeartbeats 4000000 in
set_option maxRecDepth 100000 in
theorem c_X12_setter (l : Launch) (dC : Nat → ClassId) (dI : Nat → Nat → Nat) (sz : Nat) (h0 : Nat) (p0 : Int32) (p1 : Int32) (p2 : Int32) (a1 : Nat) (a2 : Nat) (a3 : Nat) (a4 : Nat) (a5 : Nat) (a6 : Nat) (a7 : Nat) (a8 : Nat) (cC1 : ClassId) (f0 : Nat → Option Nat) (d0 : Nat) (q1 : Nat) (q2 : Nat) (p8 : Int32) (q3 : Nat) (cB3 : ClassId) (g3 : Nat → Int32) (hf0 : ¬ zCls p0 = 0 → f0 (p0 : Int32).toNatClampNeg = some d0) (hg3 : (∀ j, j < 26 → g3 j = -1)) : Met l yX12_setter wm_X12_setter ({ frames := 1, cells := 0, slots := 0, locals := 22 }) (va_Pc [.ref h0, .int p0, .int p1, .int p2] (fun U => U.heap.size = sz ∧ va_P (dC, dI) vwCl [(h0, .inr (11, [.ref a1, .ref a2, .ref a3, .ref a4, .ref a5, .ref a6, .ref a7, .ref a8, .int 0, .int 0, .int 0, .int (-1)])), (a1, .inl (cC1, 8, .inr (.inr (.inr (.inr f0))))), (d0, .inr (2, [.ref q1, .ref q2, .int 0, .int 0, .int p8, .ref q3, .int 0, .null])), (q3, .inl (cB3, 26, .inl g3))] U.heap ∧ va_K (dC, dI) vwCl [(cC1, .object RX2), (cB3, .int)] U ∧ va_D (fun _ => True) [(h0, .inr (11, [.ref a1, .ref a2, .ref a3, .ref a4, .ref a5, .ref a6, .ref a7, .ref a8, .int 0, .int 0, .int 0, .int (-1)])), (a1, .inl (cC1, 8, .inr (.inr (.inr (.inr f0))))), (d0, .inr (2, [.ref q1, .ref q2, .int 0, .int 0, .int p8, .ref q3, .int 0, .null])), (q3, .inl (cB3, 26, .inl g3))])) (va_Qi (fun (r : Int32) (_ : Unit) => r = zSet p0 p1 p2) (fun _ t => va_P (dC, dI) vwCl [] t.heap ∧ va_K (dC, dI) vwCl [] t ∧ va_D (va_A [(h0, .inr (11, [.ref a1, .ref a2, .ref a3, .ref a4, .ref a5, .ref a6, .ref a7, .ref a8, .int 0, .int 0, .int 0, .int (-1)])), (a1, .inl (cC1, 8, .inr (.inr (.inr (.inr f0))))), (d0, .inr (2, [.ref q1, .ref q2, .int 0, .int 0, .int p8, .ref q3, .int 0, .null])), (q3, .inl (cB3, 26, .inl g3))] sz) []) (va_A [(h0, .inr (11, [.ref a1, .ref a2, .ref a3, .ref a4, .ref a5, .ref a6, .ref a7, .ref a8, .int 0, .int 0, .int 0, .int (-1)])), (a1, .inl (cC1, 8, .inr (.inr (.inr (.inr f0))))), (d0, .inr (2, [.ref q1, .ref q2, .int 0, .int 0, .int p8, .ref q3, .int 0, .null])), (q3, .inl (cB3, 26, .inl g3))] sz)) 0 0 (va_A [(h0, .inr (11, [.ref a1, .ref a2, .ref a3, .ref a4, .ref a5, .ref a6, .ref a7, .ref a8, .int 0, .int 0, .int 0, .int (-1)])), (a1, .inl (cC1, 8, .inr (.inr (.inr (.inr f0))))), (d0, .inr (2, [.ref q1, .ref q2, .int 0, .int 0, .int p8, .ref q3, .int 0, .null])), (q3, .inl (cB3, 26, .inl g3))] sz) := by
  refine Met.ofW (cc := cX12_setter) (maxL := 4) (ret := (some .boolean)) (by decide) rfl ?_
  intro p e s m args below meth c s₁ B hml hv
  obtain ⟨rfl, hsz, hP, hK, hD0⟩ := hv
  have hx := B.exec
  have hb := B.bytes
  have hr := B.returns
  have hts := atoms_spec (ws := wm_X12_setter) B.pre
  have htb := fun (w : Cond) (h : w ∈ tb) => hts w (List.mem_cons_of_mem _ h)
  have hown : s.vm.findClass RX12 = some m.cls := findClass_of_methodNamed B.named
  have hlocks := B.notSynchronized
  subst hsz
  have hD := hD0.self (sz := s.heap.size)
  generalize hAe : va_A [(h0, .inr (11, [.ref a1, .ref a2, .ref a3, .ref a4, .ref a5, .ref a6, .ref a7, .ref a8, .int 0, .int 0, .int 0, .int (-1)])), (a1, .inl (cC1, 8, .inr (.inr (.inr (.inr f0))))), (d0, .inr (2, [.ref q1, .ref q2, .int 0, .int 0, .int p8, .ref q3, .int 0, .null])), (q3, .inl (cB3, 26, .inl g3))] s.heap.size = A at hD ⊢
  have hA : ∀ q : Nat, s.heap.size ≤ q → A q := fun q h => by rw [← hAe]; exact Or.inr h
  have hS : va_S A s.heap s.heap [] := va_S.rf
  have hP : va_P (dC, dI) vwCl [(h0, .inr (11, [.ref a1, .ref a2, .ref a3, .ref a4, .ref a5, .ref a6, .ref a7, .ref a8, .int 0, .int 0, .int 0, .int (-1)])), (a1, .inl (cC1, 8, .inr (.inr (.inr (.inr f0))))), (d0, .inr (2, [.ref q1, .ref q2, .int 0, .int 0, .int p8, .ref q3, .int 0, .null])), (q3, .inl (cB3, 26, .inl g3))] s.heap := hP
  have hl := lv_entry ([.ref h0, .int p0, .int p1, .int p2]) (n := 4) (Nat.le_of_ble_eq_true rfl)
  rw [lg_entry_eq]
  generalize (lg_sl ([.ref h0, .int p0, .int p1, .int p2]) ++ List.replicate (4 - (lg_sl ([.ref h0, .int p0, .int p1, .int p2])).length) Slot.unset).toArray = ls at hl ⊢
  have hl : lv_has ls 4 [(0, .ref h0), (1, .int p0), (2, .int p1), (3, .int p2)] := hl
  refine lv_iload_n hx hb dX12_setter_0 rfl (lv_at hl 1 rfl) ?_
  have hPc := hP.sub (ws' := []) [] rfl
  have hDc := hD.sub (ws' := []) [] (by decide) rfl
  have hKc := hK.sub (tys' := []) [] rfl
  have hFc := va_free (wc := []) hD hS hA [] rfl
  refine va_calli (va_runS (As := [.int p0]) (rest := []) ⟨hx, hb, hml, hown, htb⟩ (c_X12_isClass l dC dI s.heap.size p0) (va_cwS 1 htb (gd_S kw_47 kw_48 kw_49 kw_536) rfl rfl rfl (by decide +kernel) ⟨Nat.le_of_ble_eq_true rfl, Nat.le_of_ble_eq_true rfl⟩) ⟨fun a U g mk q => by obtain ⟨q0, q1, qP, qK, qD⟩ := q; exact ⟨q0, q1, qP, va_K.moved (u := U) (U := U.calling g mk a) (Vm.Alike.refl U.vm) qK, qD⟩, fun U hU hW => ⟨rfl, by rw [hU], by rw [hU]; exact hPc, va_K.moved hW.alike hKc, hDc.weaken (fun _ _ _ _ => trivial)⟩⟩ rfl rfl hl.1 rfl (lv_room (Nat.le_of_ble_eq_true rfl)) dX12_setter_1 ⟨(Nat.le_of_ble_eq_true rfl), (Nat.le_of_ble_eq_true rfl)⟩) hS (fun q _ h => hFc q h) hFc (fun r u t H1 locs ht hvm hw hB hz1 hk1 hS => ?_)
  subst hw
  obtain ⟨hP1, hK1, hD1⟩ := hB
  rw [ht] at hP1
  have hK1 := va_K.moved hvm.symm hK1
  obtain ⟨hP, hD⟩ := va_join (wr := [(h0, .inr (11, [.ref a1, .ref a2, .ref a3, .ref a4, .ref a5, .ref a6, .ref a7, .ref a8, .int 0, .int 0, .int 0, .int (-1)])), (a1, .inl (cC1, 8, .inr (.inr (.inr (.inr f0))))), (d0, .inr (2, [.ref q1, .ref q2, .int 0, .int 0, .int p8, .ref q3, .int 0, .null])), (q3, .inl (cB3, 26, .inl g3))]) (w1 := []) hP hD [] [0, 1, 2, 3] rfl rfl (by decide) (by decide) hk1 hFc hP1 hD1
  have hK := hK.app hK1
  generalize H1 = H at hP hS ⊢
  have hP : va_P (dC, dI) vwCl [(h0, .inr (11, [.ref a1, .ref a2, .ref a3, .ref a4, .ref a5, .ref a6, .ref a7, .ref a8, .int 0, .int 0, .int 0, .int (-1)])), (a1, .inl (cC1, 8, .inr (.inr (.inr (.inr f0))))), (d0, .inr (2, [.ref q1, .ref q2, .int 0, .int 0, .int p8, .ref q3, .int 0, .null])), (q3, .inl (cB3, 26, .inl g3))] H := hP
  have hD : va_D A [(h0, .inr (11, [.ref a1, .ref a2, .ref a3, .ref a4, .ref a5, .ref a6, .ref a7, .ref a8, .int 0, .int 0, .int 0, .int (-1)])), (a1, .inl (cC1, 8, .inr (.inr (.inr (.inr f0))))), (d0, .inr (2, [.ref q1, .ref q2, .int 0, .int 0, .int p8, .ref q3, .int 0, .null])), (q3, .inl (cB3, 26, .inl g3))] := hD
  have hK : va_K (dC, dI) vwCl [(cC1, .object RX2), (cB3, .int)] s := hK
  refine W.widen (k := 0) (n := 0) (Nat.le_of_ble_eq_true rfl) (Nat.le_of_ble_eq_true rfl) ?_
  refine lv_if_eq (tgt := 39) hx hb dX12_setter_4 (by decide) (fun c_1 => ?_) (fun c_1 => ?_)
  · refine lv_iconst (v := 0) hx hb dX12_setter_39 (by decide) ?_
    have hP9 := hP.sub (ws' := []) [] rfl
    have hD9 := hD.sub (ws' := []) [] (by decide) rfl
    have hK9 := hK.sub (tys' := []) [] rfl
    refine W.widen (k := 0) (n := 0) (Nat.le_of_ble_eq_true rfl) (Nat.le_of_ble_eq_true rfl) ?_
    exact W.zret (v := 0) hx hb hr rfl (fun t ht hW => ⟨⟨0, (), rfl, (by simp [zSet, c_1]), by rw [ht]; exact hP9, va_K.moved hW.alike hK9, hD9⟩, hS.F ht⟩) hS.2.2 dX12_setter_40
  · refine lv_iload_n hx hb dX12_setter_7 rfl (lv_at hl 2 rfl) ?_
    have hPc := hP.sub (ws' := []) [] rfl
    have hDc := hD.sub (ws' := []) [] (by decide) rfl
    have hKc := hK.sub (tys' := []) [] rfl
    have hFc := va_free (wc := []) hD hS hA [] rfl
    refine va_calli (va_runS (As := [.int p1]) (rest := []) ⟨hx, hb, hml, hown, htb⟩ (c_X12_isLetter l dC dI H.size p1) (va_cwS 1 htb (gd_S kw_58 kw_59 kw_49 kw_540) rfl rfl rfl (by decide +kernel) ⟨Nat.le_of_ble_eq_true rfl, Nat.le_of_ble_eq_true rfl⟩) ⟨fun a U g mk q => by obtain ⟨q0, q1, qP, qK, qD⟩ := q; exact ⟨q0, q1, qP, va_K.moved (u := U) (U := U.calling g mk a) (Vm.Alike.refl U.vm) qK, qD⟩, fun U hU hW => ⟨rfl, by rw [hU], by rw [hU]; exact hPc, va_K.moved hW.alike hKc, hDc.weaken (fun _ _ _ _ => trivial)⟩⟩ rfl rfl hl.1 rfl (lv_room (Nat.le_of_ble_eq_true rfl)) dX12_setter_8 ⟨(Nat.le_of_ble_eq_true rfl), (Nat.le_of_ble_eq_true rfl)⟩) hS (fun q _ h => hFc q h) hFc (fun r u t H1 locs ht hvm hw hB hz1 hk1 hS => ?_)
    subst hw
    obtain ⟨hP1, hK1, hD1⟩ := hB
    rw [ht] at hP1
    have hK1 := va_K.moved hvm.symm hK1
    obtain ⟨hP, hD⟩ := va_join (wr := [(h0, .inr (11, [.ref a1, .ref a2, .ref a3, .ref a4, .ref a5, .ref a6, .ref a7, .ref a8, .int 0, .int 0, .int 0, .int (-1)])), (a1, .inl (cC1, 8, .inr (.inr (.inr (.inr f0))))), (d0, .inr (2, [.ref q1, .ref q2, .int 0, .int 0, .int p8, .ref q3, .int 0, .null])), (q3, .inl (cB3, 26, .inl g3))]) (w1 := []) hP hD [] [0, 1, 2, 3] rfl rfl (by decide) (by decide) hk1 hFc hP1 hD1
    have hK := hK.app hK1
    generalize H1 = H at hP hS ⊢
    have hP : va_P (dC, dI) vwCl [(h0, .inr (11, [.ref a1, .ref a2, .ref a3, .ref a4, .ref a5, .ref a6, .ref a7, .ref a8, .int 0, .int 0, .int 0, .int (-1)])), (a1, .inl (cC1, 8, .inr (.inr (.inr (.inr f0))))), (d0, .inr (2, [.ref q1, .ref q2, .int 0, .int 0, .int p8, .ref q3, .int 0, .null])), (q3, .inl (cB3, 26, .inl g3))] H := hP
    have hD : va_D A [(h0, .inr (11, [.ref a1, .ref a2, .ref a3, .ref a4, .ref a5, .ref a6, .ref a7, .ref a8, .int 0, .int 0, .int 0, .int (-1)])), (a1, .inl (cC1, 8, .inr (.inr (.inr (.inr f0))))), (d0, .inr (2, [.ref q1, .ref q2, .int 0, .int 0, .int p8, .ref q3, .int 0, .null])), (q3, .inl (cB3, 26, .inl g3))] := hD
    have hK : va_K (dC, dI) vwCl [(cC1, .object RX2), (cB3, .int)] s := hK
    refine W.widen (k := 0) (n := 0) (Nat.le_of_ble_eq_true rfl) (Nat.le_of_ble_eq_true rfl) ?_
    refine lv_if_eq (tgt := 39) hx hb dX12_setter_11 (by decide) (fun c_2 => ?_) (fun c_2 => ?_)
    · refine lv_iconst (v := 0) hx hb dX12_setter_39 (by decide) ?_
      have hP9 := hP.sub (ws' := []) [] rfl
      have hD9 := hD.sub (ws' := []) [] (by decide) rfl
      have hK9 := hK.sub (tys' := []) [] rfl
      refine W.widen (k := 0) (n := 0) (Nat.le_of_ble_eq_true rfl) (Nat.le_of_ble_eq_true rfl) ?_
      exact W.zret (v := 0) hx hb hr rfl (fun t ht hW => ⟨⟨0, (), rfl, (by simp [zSet, c_1, c_2]), by rw [ht]; exact hP9, va_K.moved hW.alike hK9, hD9⟩, hS.F ht⟩) hS.2.2 dX12_setter_40
    · refine lv_iload_n hx hb dX12_setter_14 rfl (lv_at hl 3 rfl) ?_
      have hPc := hP.sub (ws' := []) [] rfl
      have hDc := hD.sub (ws' := []) [] (by decide) rfl
      have hKc := hK.sub (tys' := []) [] rfl
      have hFc := va_free (wc := []) hD hS hA [] rfl
      refine va_calli (va_runS (As := [.int p2]) (rest := []) ⟨hx, hb, hml, hown, htb⟩ (c_X12_isType l dC dI H.size p2) (va_cwS 1 htb (gd_S kw_60 kw_61 kw_49 kw_541) rfl rfl rfl (by decide +kernel) ⟨Nat.le_of_ble_eq_true rfl, Nat.le_of_ble_eq_true rfl⟩) ⟨fun a U g mk q => by obtain ⟨q0, q1, qP, qK, qD⟩ := q; exact ⟨q0, q1, qP, va_K.moved (u := U) (U := U.calling g mk a) (Vm.Alike.refl U.vm) qK, qD⟩, fun U hU hW => ⟨rfl, by rw [hU], by rw [hU]; exact hPc, va_K.moved hW.alike hKc, hDc.weaken (fun _ _ _ _ => trivial)⟩⟩ rfl rfl hl.1 rfl (lv_room (Nat.le_of_ble_eq_true rfl)) dX12_setter_15 ⟨(Nat.le_of_ble_eq_true rfl), (Nat.le_of_ble_eq_true rfl)⟩) hS (fun q _ h => hFc q h) hFc (fun r u t H1 locs ht hvm hw hB hz1 hk1 hS => ?_)
      subst hw
      obtain ⟨hP1, hK1, hD1⟩ := hB
      rw [ht] at hP1
      have hK1 := va_K.moved hvm.symm hK1
      obtain ⟨hP, hD⟩ := va_join (wr := [(h0, .inr (11, [.ref a1, .ref a2, .ref a3, .ref a4, .ref a5, .ref a6, .ref a7, .ref a8, .int 0, .int 0, .int 0, .int (-1)])), (a1, .inl (cC1, 8, .inr (.inr (.inr (.inr f0))))), (d0, .inr (2, [.ref q1, .ref q2, .int 0, .int 0, .int p8, .ref q3, .int 0, .null])), (q3, .inl (cB3, 26, .inl g3))]) (w1 := []) hP hD [] [0, 1, 2, 3] rfl rfl (by decide) (by decide) hk1 hFc hP1 hD1
      have hK := hK.app hK1
      generalize H1 = H at hP hS ⊢
      have hP : va_P (dC, dI) vwCl [(h0, .inr (11, [.ref a1, .ref a2, .ref a3, .ref a4, .ref a5, .ref a6, .ref a7, .ref a8, .int 0, .int 0, .int 0, .int (-1)])), (a1, .inl (cC1, 8, .inr (.inr (.inr (.inr f0))))), (d0, .inr (2, [.ref q1, .ref q2, .int 0, .int 0, .int p8, .ref q3, .int 0, .null])), (q3, .inl (cB3, 26, .inl g3))] H := hP
      have hD : va_D A [(h0, .inr (11, [.ref a1, .ref a2, .ref a3, .ref a4, .ref a5, .ref a6, .ref a7, .ref a8, .int 0, .int 0, .int 0, .int (-1)])), (a1, .inl (cC1, 8, .inr (.inr (.inr (.inr f0))))), (d0, .inr (2, [.ref q1, .ref q2, .int 0, .int 0, .int p8, .ref q3, .int 0, .null])), (q3, .inl (cB3, 26, .inl g3))] := hD
      have hK : va_K (dC, dI) vwCl [(cC1, .object RX2), (cB3, .int)] s := hK
      refine W.widen (k := 0) (n := 0) (Nat.le_of_ble_eq_true rfl) (Nat.le_of_ble_eq_true rfl) ?_
      refine lv_if_eq (tgt := 39) hx hb dX12_setter_18 (by decide) (fun c_3 => ?_) (fun c_3 => ?_)
      · refine lv_iconst (v := 0) hx hb dX12_setter_39 (by decide) ?_
        have hP9 := hP.sub (ws' := []) [] rfl
        have hD9 := hD.sub (ws' := []) [] (by decide) rfl
        have hK9 := hK.sub (tys' := []) [] rfl
        refine W.widen (k := 0) (n := 0) (Nat.le_of_ble_eq_true rfl) (Nat.le_of_ble_eq_true rfl) ?_
        exact W.zret (v := 0) hx hb hr rfl (fun t ht hW => ⟨⟨0, (), rfl, (by simp [zSet, c_1, c_2, c_3]), by rw [ht]; exact hP9, va_K.moved hW.alike hK9, hD9⟩, hS.F ht⟩) hS.2.2 dX12_setter_40
      · refine lv_aload_n hx hb dX12_setter_21 rfl (lv_at hl 0 rfl) ?_
        refine va_get (D := (dC, dI)) (ci := 11) (v := .ref a1) (C := RX12) (T := TX12) (N := 12) hx hb htb inX12 hown hK hP 0 rfl rfl 0 (by decide) (htb _ kw_3) (fun _ h9 => h9) rfl dX12_setter_22 ?_
        refine lv_iload_n hx hb dX12_setter_25 rfl (lv_at hl 1 rfl) ?_
        refine va_aldq (D := (dC, dI)) hx hb hK hP 1 0 rfl rfl (zCls_in c_1) dX12_setter_26 ?_
        refine W.eq (g2 := F0 m 27 ls [.ref d0]) (by rw [hf0 c_1]; rfl) ?_
        refine lv_iload_n hx hb dX12_setter_27 rfl (lv_at hl 2 rfl) ?_
        refine lv_iload_n hx hb dX12_setter_28 rfl (lv_at hl 3 rfl) ?_
        have hPc := hP.sub (ws' := [(d0, .inr (2, [.ref q1, .ref q2, .int 0, .int 0, .int p8, .ref q3, .int 0, .null])), (q3, .inl (cB3, 26, .inl g3))]) [2, 3] rfl
        have hDc := hD.sub (ws' := [(d0, .inr (2, [.ref q1, .ref q2, .int 0, .int 0, .int p8, .ref q3, .int 0, .null])), (q3, .inl (cB3, 26, .inl g3))]) [2, 3] (by decide) rfl
        have hKc := hK.sub (tys' := [(cB3, .int)]) [1] rfl
        have hFc := va_free (wc := [(d0, .inr (2, [.ref q1, .ref q2, .int 0, .int 0, .int p8, .ref q3, .int 0, .null])), (q3, .inl (cB3, 26, .inl g3))]) hD hS hA [2, 3] rfl
        refine va_calli (va_runV (As := [.int p1, .int p2]) (rest := []) ⟨hx, hb, hml, hown, htb⟩ (c_X2_addSetter l dC dI H.size d0 p1 p2 q1 q2 p8 q3 cB3 g3 (zLet_in c_2) hg3) (cwV 2 htb (gd_V kw_62 kw_63 kw_64 kw_4 kw_542) rfl rfl rfl (by decide +kernel) ⟨Nat.le_of_ble_eq_true rfl, Nat.le_of_ble_eq_true rfl⟩) ⟨fun a U g mk q => by obtain ⟨q0, q1, qP, qK, qD⟩ := q; exact ⟨q0, q1, qP, va_K.moved (u := U) (U := U.calling g mk a) (Vm.Alike.refl U.vm) qK, qD⟩, va_recv hKc hPc (ci := 2) (q0 := 0) rfl rfl, fun U hU hW => ⟨rfl, by rw [hU], by rw [hU]; exact hPc, va_K.moved hW.alike hKc, hDc.weaken (fun _ _ _ _ => trivial)⟩⟩ rfl rfl hl.1 rfl (lv_room (Nat.le_of_ble_eq_true rfl)) dX12_setter_29 ⟨(Nat.le_of_ble_eq_true rfl), (Nat.le_of_ble_eq_true rfl)⟩) hS (fun q _ h => hFc q h) hFc (fun r u t H1 locs ht hvm hw hB hz1 hk1 hS => ?_)
        subst hw
        obtain ⟨hP1, hK1, hD1⟩ := hB
        rw [ht] at hP1
        have hK1 := va_K.moved hvm.symm hK1
        obtain ⟨hP, hD⟩ := va_join (wr := [(h0, .inr (11, [.ref a1, .ref a2, .ref a3, .ref a4, .ref a5, .ref a6, .ref a7, .ref a8, .int 0, .int 0, .int 0, .int (-1)])), (a1, .inl (cC1, 8, .inr (.inr (.inr (.inr f0)))))]) (w1 := []) hP hD [2, 3] [0, 1] rfl rfl (by decide) (by decide) hk1 hFc hP1 hD1
        have hK := hK.app hK1
        generalize H1 = H at hP hS ⊢
        have hP : va_P (dC, dI) vwCl [(h0, .inr (11, [.ref a1, .ref a2, .ref a3, .ref a4, .ref a5, .ref a6, .ref a7, .ref a8, .int 0, .int 0, .int 0, .int (-1)])), (a1, .inl (cC1, 8, .inr (.inr (.inr (.inr f0)))))] H := hP
        have hD : va_D A [(h0, .inr (11, [.ref a1, .ref a2, .ref a3, .ref a4, .ref a5, .ref a6, .ref a7, .ref a8, .int 0, .int 0, .int 0, .int (-1)])), (a1, .inl (cC1, 8, .inr (.inr (.inr (.inr f0)))))] := hD
        have hK : va_K (dC, dI) vwCl [(cC1, .object RX2), (cB3, .int)] s := hK
        refine W.widen (k := 0) (n := 0) (Nat.le_of_ble_eq_true rfl) (Nat.le_of_ble_eq_true rfl) ?_
        refine lv_if_eq (tgt := 39) hx hb dX12_setter_32 (by decide) (fun c_4 => absurd c_4 (by decide)) (fun _ => ?_)
        refine lv_iconst (v := 1) hx hb dX12_setter_35 (by decide) ?_
        refine lv_goto (tgt := 40) hx hb dX12_setter_36 (by decide) ?_
        have hP9 := hP.sub (ws' := []) [] rfl
        have hD9 := hD.sub (ws' := []) [] (by decide) rfl
        have hK9 := hK.sub (tys' := []) [] rfl
        refine W.widen (k := 0) (n := 0) (Nat.le_of_ble_eq_true rfl) (Nat.le_of_ble_eq_true rfl) ?_
        exact W.zret (v := 1) hx hb hr rfl (fun t ht hW => ⟨⟨1, (), rfl, (by simp [zSet, c_1, c_2, c_3]), by rw [ht]; exact hP9, va_K.moved hW.alike hK9, hD9⟩, hS.F ht⟩) hS.2.2 dX12_setter_40

set_option maxHeartbeats 4000000 in
set_option maxRecDepth 100000 in
theorem c_X12_factory (l : Launch) (dC : Nat → ClassId) (dI : Nat → Nat → Nat) (sz : Nat) (h0 : Nat) (p0 : Int32) (p1 : Int32) (z : Int32) (p2 : Int32) (p3 : Int32) (p4 : Int32) (p5 : Int32) (p6 : Int32) (a1 : Nat) (a2 : Nat) (a3 : Nat) (a4 : Nat) (a5 : Nat) (a6 : Nat) (a7 : Nat) (a8 : Nat) (cC1 : ClassId) (f0 : Nat → Option Nat) (d0 : Nat) (q1 : Nat) (q2 : Nat) (p8 : Int32) (q3 : Nat) (cB2 : ClassId) (g2 : Nat → Option Nat) (q6 : Nat) (q7 : Nat) (cB7 : ClassId) (hf0 : ¬ zCls p0 = 0 → f0 (p0 : Int32).toNatClampNeg = some d0) (hg2 : g2 0 = some q6) (hz : narrow .boolean (.int z) = .int z) (hz2 : fits .boolean (.int z) = true) : Met l yX12_factory wm_X12_factory ({ frames := 2, cells := 0, slots := 0, locals := 51 }) (va_Pc [.ref h0, .int p0, .int p1, .int z, .int p2, .int p3, .int p4, .int p5, .int p6] (fun U => U.heap.size = sz ∧ va_P (dC, dI) vwCl [(h0, .inr (11, [.ref a1, .ref a2, .ref a3, .ref a4, .ref a5, .ref a6, .ref a7, .ref a8, .int 0, .int 0, .int 0, .int (-1)])), (a1, .inl (cC1, 8, .inr (.inr (.inr (.inr f0))))), (d0, .inr (2, [.ref q1, .ref q2, .int 0, .int 0, .int p8, .ref q3, .int 0, .null])), (q2, .inl (cB2, 4, .inr (.inr (.inr (.inr g2))))), (q6, .inr (8, [.int p8, .int 0, .ref q7, .int 0, .int 0, .int 0, .int 0])), (q7, .inl (cB7, 3, .inl (fun _ => 0)))] U.heap ∧ va_K (dC, dI) vwCl [(cC1, .object RX2), (cB2, .object RX8), (cB7, .int)] U ∧ va_D (fun _ => True) [(h0, .inr (11, [.ref a1, .ref a2, .ref a3, .ref a4, .ref a5, .ref a6, .ref a7, .ref a8, .int 0, .int 0, .int 0, .int (-1)])), (a1, .inl (cC1, 8, .inr (.inr (.inr (.inr f0))))), (d0, .inr (2, [.ref q1, .ref q2, .int 0, .int 0, .int p8, .ref q3, .int 0, .null])), (q2, .inl (cB2, 4, .inr (.inr (.inr (.inr g2))))), (q6, .inr (8, [.int p8, .int 0, .ref q7, .int 0, .int 0, .int 0, .int 0])), (q7, .inl (cB7, 3, .inl (fun _ => 0)))])) (va_Qi (fun (r : Int32) (_ : Unit) => r = zFac p0 p1 p2 p3 p4 p5 p6) (fun _ t => va_P (dC, dI) vwCl [] t.heap ∧ va_K (dC, dI) vwCl [] t ∧ va_D (va_A [(h0, .inr (11, [.ref a1, .ref a2, .ref a3, .ref a4, .ref a5, .ref a6, .ref a7, .ref a8, .int 0, .int 0, .int 0, .int (-1)])), (a1, .inl (cC1, 8, .inr (.inr (.inr (.inr f0))))), (d0, .inr (2, [.ref q1, .ref q2, .int 0, .int 0, .int p8, .ref q3, .int 0, .null])), (q2, .inl (cB2, 4, .inr (.inr (.inr (.inr g2))))), (q6, .inr (8, [.int p8, .int 0, .ref q7, .int 0, .int 0, .int 0, .int 0])), (q7, .inl (cB7, 3, .inl (fun _ => 0)))] sz) []) (va_A [(h0, .inr (11, [.ref a1, .ref a2, .ref a3, .ref a4, .ref a5, .ref a6, .ref a7, .ref a8, .int 0, .int 0, .int 0, .int (-1)])), (a1, .inl (cC1, 8, .inr (.inr (.inr (.inr f0))))), (d0, .inr (2, [.ref q1, .ref q2, .int 0, .int 0, .int p8, .ref q3, .int 0, .null])), (q2, .inl (cB2, 4, .inr (.inr (.inr (.inr g2))))), (q6, .inr (8, [.int p8, .int 0, .ref q7, .int 0, .int 0, .int 0, .int 0])), (q7, .inl (cB7, 3, .inl (fun _ => 0)))] sz)) 0 0 (va_A [(h0, .inr (11, [.ref a1, .ref a2, .ref a3, .ref a4, .ref a5, .ref a6, .ref a7, .ref a8, .int 0, .int 0, .int 0, .int (-1)])), (a1, .inl (cC1, 8, .inr (.inr (.inr (.inr f0))))), (d0, .inr (2, [.ref q1, .ref q2, .int 0, .int 0, .int p8, .ref q3, .int 0, .null])), (q2, .inl (cB2, 4, .inr (.inr (.inr (.inr g2))))), (q6, .inr (8, [.int p8, .int 0, .ref q7, .int 0, .int 0, .int 0, .int 0])), (q7, .inl (cB7, 3, .inl (fun _ => 0)))] sz) := by
  refine Met.ofW (cc := cX12_factory) (maxL := 9) (ret := (some .boolean)) (by decide) rfl ?_
  intro p e s m args below meth c s₁ B hml hv
  obtain ⟨rfl, hsz, hP, hK, hD0⟩ := hv
  have hx := B.exec
  have hb := B.bytes
  have hr := B.returns
  have hts := atoms_spec (ws := wm_X12_factory) B.pre
  have htb := fun (w : Cond) (h : w ∈ tb) => hts w (List.mem_cons_of_mem _ h)
  have hown : s.vm.findClass RX12 = some m.cls := findClass_of_methodNamed B.named
  have hlocks := B.notSynchronized
  subst hsz
  have hD := hD0.self (sz := s.heap.size)
  generalize hAe : va_A [(h0, .inr (11, [.ref a1, .ref a2, .ref a3, .ref a4, .ref a5, .ref a6, .ref a7, .ref a8, .int 0, .int 0, .int 0, .int (-1)])), (a1, .inl (cC1, 8, .inr (.inr (.inr (.inr f0))))), (d0, .inr (2, [.ref q1, .ref q2, .int 0, .int 0, .int p8, .ref q3, .int 0, .null])), (q2, .inl (cB2, 4, .inr (.inr (.inr (.inr g2))))), (q6, .inr (8, [.int p8, .int 0, .ref q7, .int 0, .int 0, .int 0, .int 0])), (q7, .inl (cB7, 3, .inl (fun _ => 0)))] s.heap.size = A at hD ⊢
  have hA : ∀ q : Nat, s.heap.size ≤ q → A q := fun q h => by rw [← hAe]; exact Or.inr h
  have hS : va_S A s.heap s.heap [] := va_S.rf
  have hP : va_P (dC, dI) vwCl [(h0, .inr (11, [.ref a1, .ref a2, .ref a3, .ref a4, .ref a5, .ref a6, .ref a7, .ref a8, .int 0, .int 0, .int 0, .int (-1)])), (a1, .inl (cC1, 8, .inr (.inr (.inr (.inr f0))))), (d0, .inr (2, [.ref q1, .ref q2, .int 0, .int 0, .int p8, .ref q3, .int 0, .null])), (q2, .inl (cB2, 4, .inr (.inr (.inr (.inr g2))))), (q6, .inr (8, [.int p8, .int 0, .ref q7, .int 0, .int 0, .int 0, .int 0])), (q7, .inl (cB7, 3, .inl (fun _ => 0)))] s.heap := hP
  have hl := lv_entry ([.ref h0, .int p0, .int p1, .int z, .int p2, .int p3, .int p4, .int p5, .int p6]) (n := 9) (Nat.le_of_ble_eq_true rfl)
  rw [lg_entry_eq]
  generalize (lg_sl ([.ref h0, .int p0, .int p1, .int z, .int p2, .int p3, .int p4, .int p5, .int p6]) ++ List.replicate (9 - (lg_sl ([.ref h0, .int p0, .int p1, .int z, .int p2, .int p3, .int p4, .int p5, .int p6])).length) Slot.unset).toArray = ls at hl ⊢
  have hl : lv_has ls 9 [(0, .ref h0), (1, .int p0), (2, .int p1), (3, .int z), (4, .int p2), (5, .int p3), (6, .int p4), (7, .int p5), (8, .int p6)] := hl
  refine lv_iload_n hx hb dX12_factory_0 rfl (lv_at hl 1 rfl) ?_
  have hPc := hP.sub (ws' := []) [] rfl
  have hDc := hD.sub (ws' := []) [] (by decide) rfl
  have hKc := hK.sub (tys' := []) [] rfl
  have hFc := va_free (wc := []) hD hS hA [] rfl
  refine va_calli (va_runS (As := [.int p0]) (rest := []) ⟨hx, hb, hml, hown, htb⟩ (c_X12_isClass l dC dI s.heap.size p0) (va_cwS 1 htb (gd_S kw_47 kw_48 kw_49 kw_536) rfl rfl rfl (by decide +kernel) ⟨Nat.le_of_ble_eq_true rfl, Nat.le_of_ble_eq_true rfl⟩) ⟨fun a U g mk q => by obtain ⟨q0, q1, qP, qK, qD⟩ := q; exact ⟨q0, q1, qP, va_K.moved (u := U) (U := U.calling g mk a) (Vm.Alike.refl U.vm) qK, qD⟩, fun U hU hW => ⟨rfl, by rw [hU], by rw [hU]; exact hPc, va_K.moved hW.alike hKc, hDc.weaken (fun _ _ _ _ => trivial)⟩⟩ rfl rfl hl.1 rfl (lv_room (Nat.le_of_ble_eq_true rfl)) dX12_factory_1 ⟨(Nat.le_of_ble_eq_true rfl), (Nat.le_of_ble_eq_true rfl)⟩) hS (fun q _ h => hFc q h) hFc (fun r u t H1 locs ht hvm hw hB hz1 hk1 hS => ?_)
  subst hw
  obtain ⟨hP1, hK1, hD1⟩ := hB
  rw [ht] at hP1
  have hK1 := va_K.moved hvm.symm hK1
  obtain ⟨hP, hD⟩ := va_join (wr := [(h0, .inr (11, [.ref a1, .ref a2, .ref a3, .ref a4, .ref a5, .ref a6, .ref a7, .ref a8, .int 0, .int 0, .int 0, .int (-1)])), (a1, .inl (cC1, 8, .inr (.inr (.inr (.inr f0))))), (d0, .inr (2, [.ref q1, .ref q2, .int 0, .int 0, .int p8, .ref q3, .int 0, .null])), (q2, .inl (cB2, 4, .inr (.inr (.inr (.inr g2))))), (q6, .inr (8, [.int p8, .int 0, .ref q7, .int 0, .int 0, .int 0, .int 0])), (q7, .inl (cB7, 3, .inl (fun _ => 0)))]) (w1 := []) hP hD [] [0, 1, 2, 3, 4, 5] rfl rfl (by decide) (by decide) hk1 hFc hP1 hD1
  have hK := hK.app hK1
  generalize H1 = H at hP hS ⊢
  have hP : va_P (dC, dI) vwCl [(h0, .inr (11, [.ref a1, .ref a2, .ref a3, .ref a4, .ref a5, .ref a6, .ref a7, .ref a8, .int 0, .int 0, .int 0, .int (-1)])), (a1, .inl (cC1, 8, .inr (.inr (.inr (.inr f0))))), (d0, .inr (2, [.ref q1, .ref q2, .int 0, .int 0, .int p8, .ref q3, .int 0, .null])), (q2, .inl (cB2, 4, .inr (.inr (.inr (.inr g2))))), (q6, .inr (8, [.int p8, .int 0, .ref q7, .int 0, .int 0, .int 0, .int 0])), (q7, .inl (cB7, 3, .inl (fun _ => 0)))] H := hP
  have hD : va_D A [(h0, .inr (11, [.ref a1, .ref a2, .ref a3, .ref a4, .ref a5, .ref a6, .ref a7, .ref a8, .int 0, .int 0, .int 0, .int (-1)])), (a1, .inl (cC1, 8, .inr (.inr (.inr (.inr f0))))), (d0, .inr (2, [.ref q1, .ref q2, .int 0, .int 0, .int p8, .ref q3, .int 0, .null])), (q2, .inl (cB2, 4, .inr (.inr (.inr (.inr g2))))), (q6, .inr (8, [.int p8, .int 0, .ref q7, .int 0, .int 0, .int 0, .int 0])), (q7, .inl (cB7, 3, .inl (fun _ => 0)))] := hD
  have hK : va_K (dC, dI) vwCl [(cC1, .object RX2), (cB2, .object RX8), (cB7, .int)] s := hK
  refine W.widen (k := 0) (n := 0) (Nat.le_of_ble_eq_true rfl) (Nat.le_of_ble_eq_true rfl) ?_
  refine lv_if_eq (tgt := 64) hx hb dX12_factory_4 (by decide) (fun c_1 => ?_) (fun c_1 => ?_)
  · refine lv_iconst (v := 0) hx hb dX12_factory_64 (by decide) ?_
    have hP9 := hP.sub (ws' := []) [] rfl
    have hD9 := hD.sub (ws' := []) [] (by decide) rfl
    have hK9 := hK.sub (tys' := []) [] rfl
    refine W.widen (k := 0) (n := 0) (Nat.le_of_ble_eq_true rfl) (Nat.le_of_ble_eq_true rfl) ?_
    exact W.zret (v := 0) hx hb hr rfl (fun t ht hW => ⟨⟨0, (), rfl, (by simp [zFac, c_1]), by rw [ht]; exact hP9, va_K.moved hW.alike hK9, hD9⟩, hS.F ht⟩) hS.2.2 dX12_factory_65
  · refine lv_iload_n hx hb dX12_factory_7 rfl (lv_at hl 2 rfl) ?_
    have hPc := hP.sub (ws' := []) [] rfl
    have hDc := hD.sub (ws' := []) [] (by decide) rfl
    have hKc := hK.sub (tys' := []) [] rfl
    have hFc := va_free (wc := []) hD hS hA [] rfl
    refine va_calli (va_runS (As := [.int p1]) (rest := []) ⟨hx, hb, hml, hown, htb⟩ (c_X12_isLetter l dC dI H.size p1) (va_cwS 1 htb (gd_S kw_58 kw_59 kw_49 kw_540) rfl rfl rfl (by decide +kernel) ⟨Nat.le_of_ble_eq_true rfl, Nat.le_of_ble_eq_true rfl⟩) ⟨fun a U g mk q => by obtain ⟨q0, q1, qP, qK, qD⟩ := q; exact ⟨q0, q1, qP, va_K.moved (u := U) (U := U.calling g mk a) (Vm.Alike.refl U.vm) qK, qD⟩, fun U hU hW => ⟨rfl, by rw [hU], by rw [hU]; exact hPc, va_K.moved hW.alike hKc, hDc.weaken (fun _ _ _ _ => trivial)⟩⟩ rfl rfl hl.1 rfl (lv_room (Nat.le_of_ble_eq_true rfl)) dX12_factory_8 ⟨(Nat.le_of_ble_eq_true rfl), (Nat.le_of_ble_eq_true rfl)⟩) hS (fun q _ h => hFc q h) hFc (fun r u t H1 locs ht hvm hw hB hz1 hk1 hS => ?_)
    subst hw
    obtain ⟨hP1, hK1, hD1⟩ := hB
    rw [ht] at hP1
    have hK1 := va_K.moved hvm.symm hK1
    obtain ⟨hP, hD⟩ := va_join (wr := [(h0, .inr (11, [.ref a1, .ref a2, .ref a3, .ref a4, .ref a5, .ref a6, .ref a7, .ref a8, .int 0, .int 0, .int 0, .int (-1)])), (a1, .inl (cC1, 8, .inr (.inr (.inr (.inr f0))))), (d0, .inr (2, [.ref q1, .ref q2, .int 0, .int 0, .int p8, .ref q3, .int 0, .null])), (q2, .inl (cB2, 4, .inr (.inr (.inr (.inr g2))))), (q6, .inr (8, [.int p8, .int 0, .ref q7, .int 0, .int 0, .int 0, .int 0])), (q7, .inl (cB7, 3, .inl (fun _ => 0)))]) (w1 := []) hP hD [] [0, 1, 2, 3, 4, 5] rfl rfl (by decide) (by decide) hk1 hFc hP1 hD1
    have hK := hK.app hK1
    generalize H1 = H at hP hS ⊢
    have hP : va_P (dC, dI) vwCl [(h0, .inr (11, [.ref a1, .ref a2, .ref a3, .ref a4, .ref a5, .ref a6, .ref a7, .ref a8, .int 0, .int 0, .int 0, .int (-1)])), (a1, .inl (cC1, 8, .inr (.inr (.inr (.inr f0))))), (d0, .inr (2, [.ref q1, .ref q2, .int 0, .int 0, .int p8, .ref q3, .int 0, .null])), (q2, .inl (cB2, 4, .inr (.inr (.inr (.inr g2))))), (q6, .inr (8, [.int p8, .int 0, .ref q7, .int 0, .int 0, .int 0, .int 0])), (q7, .inl (cB7, 3, .inl (fun _ => 0)))] H := hP
    have hD : va_D A [(h0, .inr (11, [.ref a1, .ref a2, .ref a3, .ref a4, .ref a5, .ref a6, .ref a7, .ref a8, .int 0, .int 0, .int 0, .int (-1)])), (a1, .inl (cC1, 8, .inr (.inr (.inr (.inr f0))))), (d0, .inr (2, [.ref q1, .ref q2, .int 0, .int 0, .int p8, .ref q3, .int 0, .null])), (q2, .inl (cB2, 4, .inr (.inr (.inr (.inr g2))))), (q6, .inr (8, [.int p8, .int 0, .ref q7, .int 0, .int 0, .int 0, .int 0])), (q7, .inl (cB7, 3, .inl (fun _ => 0)))] := hD
    have hK : va_K (dC, dI) vwCl [(cC1, .object RX2), (cB2, .object RX8), (cB7, .int)] s := hK
    refine W.widen (k := 0) (n := 0) (Nat.le_of_ble_eq_true rfl) (Nat.le_of_ble_eq_true rfl) ?_
    refine lv_if_eq (tgt := 64) hx hb dX12_factory_11 (by decide) (fun c_2 => ?_) (fun c_2 => ?_)
    · refine lv_iconst (v := 0) hx hb dX12_factory_64 (by decide) ?_
      have hP9 := hP.sub (ws' := []) [] rfl
      have hD9 := hD.sub (ws' := []) [] (by decide) rfl
      have hK9 := hK.sub (tys' := []) [] rfl
      refine W.widen (k := 0) (n := 0) (Nat.le_of_ble_eq_true rfl) (Nat.le_of_ble_eq_true rfl) ?_
      exact W.zret (v := 0) hx hb hr rfl (fun t ht hW => ⟨⟨0, (), rfl, (by simp [zFac, c_1, c_2]), by rw [ht]; exact hP9, va_K.moved hW.alike hK9, hD9⟩, hS.F ht⟩) hS.2.2 dX12_factory_65
    · refine lv_iload hx hb dX12_factory_14 (lv_at hl 4 rfl) ?_
      have hPc := hP.sub (ws' := []) [] rfl
      have hDc := hD.sub (ws' := []) [] (by decide) rfl
      have hKc := hK.sub (tys' := []) [] rfl
      have hFc := va_free (wc := []) hD hS hA [] rfl
      refine va_calli (va_runS (As := [.int p2]) (rest := []) ⟨hx, hb, hml, hown, htb⟩ (c_X12_isClass l dC dI H.size p2) (va_cwS 1 htb (gd_S kw_47 kw_48 kw_49 kw_536) rfl rfl rfl (by decide +kernel) ⟨Nat.le_of_ble_eq_true rfl, Nat.le_of_ble_eq_true rfl⟩) ⟨fun a U g mk q => by obtain ⟨q0, q1, qP, qK, qD⟩ := q; exact ⟨q0, q1, qP, va_K.moved (u := U) (U := U.calling g mk a) (Vm.Alike.refl U.vm) qK, qD⟩, fun U hU hW => ⟨rfl, by rw [hU], by rw [hU]; exact hPc, va_K.moved hW.alike hKc, hDc.weaken (fun _ _ _ _ => trivial)⟩⟩ rfl rfl hl.1 rfl (lv_room (Nat.le_of_ble_eq_true rfl)) dX12_factory_16 ⟨(Nat.le_of_ble_eq_true rfl), (Nat.le_of_ble_eq_true rfl)⟩) hS (fun q _ h => hFc q h) hFc (fun r u t H1 locs ht hvm hw hB hz1 hk1 hS => ?_)
      subst hw
      obtain ⟨hP1, hK1, hD1⟩ := hB
      rw [ht] at hP1
      have hK1 := va_K.moved hvm.symm hK1
      obtain ⟨hP, hD⟩ := va_join (wr := [(h0, .inr (11, [.ref a1, .ref a2, .ref a3, .ref a4, .ref a5, .ref a6, .ref a7, .ref a8, .int 0, .int 0, .int 0, .int (-1)])), (a1, .inl (cC1, 8, .inr (.inr (.inr (.inr f0))))), (d0, .inr (2, [.ref q1, .ref q2, .int 0, .int 0, .int p8, .ref q3, .int 0, .null])), (q2, .inl (cB2, 4, .inr (.inr (.inr (.inr g2))))), (q6, .inr (8, [.int p8, .int 0, .ref q7, .int 0, .int 0, .int 0, .int 0])), (q7, .inl (cB7, 3, .inl (fun _ => 0)))]) (w1 := []) hP hD [] [0, 1, 2, 3, 4, 5] rfl rfl (by decide) (by decide) hk1 hFc hP1 hD1
      have hK := hK.app hK1
      generalize H1 = H at hP hS ⊢
      have hP : va_P (dC, dI) vwCl [(h0, .inr (11, [.ref a1, .ref a2, .ref a3, .ref a4, .ref a5, .ref a6, .ref a7, .ref a8, .int 0, .int 0, .int 0, .int (-1)])), (a1, .inl (cC1, 8, .inr (.inr (.inr (.inr f0))))), (d0, .inr (2, [.ref q1, .ref q2, .int 0, .int 0, .int p8, .ref q3, .int 0, .null])), (q2, .inl (cB2, 4, .inr (.inr (.inr (.inr g2))))), (q6, .inr (8, [.int p8, .int 0, .ref q7, .int 0, .int 0, .int 0, .int 0])), (q7, .inl (cB7, 3, .inl (fun _ => 0)))] H := hP
      have hD : va_D A [(h0, .inr (11, [.ref a1, .ref a2, .ref a3, .ref a4, .ref a5, .ref a6, .ref a7, .ref a8, .int 0, .int 0, .int 0, .int (-1)])), (a1, .inl (cC1, 8, .inr (.inr (.inr (.inr f0))))), (d0, .inr (2, [.ref q1, .ref q2, .int 0, .int 0, .int p8, .ref q3, .int 0, .null])), (q2, .inl (cB2, 4, .inr (.inr (.inr (.inr g2))))), (q6, .inr (8, [.int p8, .int 0, .ref q7, .int 0, .int 0, .int 0, .int 0])), (q7, .inl (cB7, 3, .inl (fun _ => 0)))] := hD
      have hK : va_K (dC, dI) vwCl [(cC1, .object RX2), (cB2, .object RX8), (cB7, .int)] s := hK
      refine W.widen (k := 0) (n := 0) (Nat.le_of_ble_eq_true rfl) (Nat.le_of_ble_eq_true rfl) ?_
      refine lv_if_eq (tgt := 64) hx hb dX12_factory_19 (by decide) (fun c_3 => ?_) (fun c_3 => ?_)
      · refine lv_iconst (v := 0) hx hb dX12_factory_64 (by decide) ?_
        have hP9 := hP.sub (ws' := []) [] rfl
        have hD9 := hD.sub (ws' := []) [] (by decide) rfl
        have hK9 := hK.sub (tys' := []) [] rfl
        refine W.widen (k := 0) (n := 0) (Nat.le_of_ble_eq_true rfl) (Nat.le_of_ble_eq_true rfl) ?_
        exact W.zret (v := 0) hx hb hr rfl (fun t ht hW => ⟨⟨0, (), rfl, (by simp [zFac, c_1, c_2, c_3]), by rw [ht]; exact hP9, va_K.moved hW.alike hK9, hD9⟩, hS.F ht⟩) hS.2.2 dX12_factory_65
      · refine lv_iload hx hb dX12_factory_22 (lv_at hl 5 rfl) ?_
        refine lv_iload hx hb dX12_factory_24 (lv_at hl 6 rfl) ?_
        refine lv_iload hx hb dX12_factory_26 (lv_at hl 7 rfl) ?_
        refine lv_iload hx hb dX12_factory_28 (lv_at hl 8 rfl) ?_
        have hPc := hP.sub (ws' := []) [] rfl
        have hDc := hD.sub (ws' := []) [] (by decide) rfl
        have hKc := hK.sub (tys' := []) [] rfl
        have hFc := va_free (wc := []) hD hS hA [] rfl
        refine va_calli (va_runS (As := [.int p3, .int p4, .int p5, .int p6]) (rest := []) ⟨hx, hb, hml, hown, htb⟩ (c_X12_areTypes l dC dI H.size p3 p4 p5 p6) (va_cwS 4 htb (gd_S kw_53 kw_54 kw_49 kw_538) rfl rfl rfl (by decide +kernel) ⟨Nat.le_of_ble_eq_true rfl, Nat.le_of_ble_eq_true rfl⟩) ⟨fun a U g mk q => by obtain ⟨q0, q1, qP, qK, qD⟩ := q; exact ⟨q0, q1, qP, va_K.moved (u := U) (U := U.calling g mk a) (Vm.Alike.refl U.vm) qK, qD⟩, fun U hU hW => ⟨rfl, by rw [hU], by rw [hU]; exact hPc, va_K.moved hW.alike hKc, hDc.weaken (fun _ _ _ _ => trivial)⟩⟩ rfl rfl hl.1 rfl (lv_room (Nat.le_of_ble_eq_true rfl)) dX12_factory_30 ⟨(Nat.le_of_ble_eq_true rfl), (Nat.le_of_ble_eq_true rfl)⟩) hS (fun q _ h => hFc q h) hFc (fun r u t H1 locs ht hvm hw hB hz1 hk1 hS => ?_)
        subst hw
        obtain ⟨hP1, hK1, hD1⟩ := hB
        rw [ht] at hP1
        have hK1 := va_K.moved hvm.symm hK1
        obtain ⟨hP, hD⟩ := va_join (wr := [(h0, .inr (11, [.ref a1, .ref a2, .ref a3, .ref a4, .ref a5, .ref a6, .ref a7, .ref a8, .int 0, .int 0, .int 0, .int (-1)])), (a1, .inl (cC1, 8, .inr (.inr (.inr (.inr f0))))), (d0, .inr (2, [.ref q1, .ref q2, .int 0, .int 0, .int p8, .ref q3, .int 0, .null])), (q2, .inl (cB2, 4, .inr (.inr (.inr (.inr g2))))), (q6, .inr (8, [.int p8, .int 0, .ref q7, .int 0, .int 0, .int 0, .int 0])), (q7, .inl (cB7, 3, .inl (fun _ => 0)))]) (w1 := []) hP hD [] [0, 1, 2, 3, 4, 5] rfl rfl (by decide) (by decide) hk1 hFc hP1 hD1
        have hK := hK.app hK1
        generalize H1 = H at hP hS ⊢
        have hP : va_P (dC, dI) vwCl [(h0, .inr (11, [.ref a1, .ref a2, .ref a3, .ref a4, .ref a5, .ref a6, .ref a7, .ref a8, .int 0, .int 0, .int 0, .int (-1)])), (a1, .inl (cC1, 8, .inr (.inr (.inr (.inr f0))))), (d0, .inr (2, [.ref q1, .ref q2, .int 0, .int 0, .int p8, .ref q3, .int 0, .null])), (q2, .inl (cB2, 4, .inr (.inr (.inr (.inr g2))))), (q6, .inr (8, [.int p8, .int 0, .ref q7, .int 0, .int 0, .int 0, .int 0])), (q7, .inl (cB7, 3, .inl (fun _ => 0)))] H := hP
        have hD : va_D A [(h0, .inr (11, [.ref a1, .ref a2, .ref a3, .ref a4, .ref a5, .ref a6, .ref a7, .ref a8, .int 0, .int 0, .int 0, .int (-1)])), (a1, .inl (cC1, 8, .inr (.inr (.inr (.inr f0))))), (d0, .inr (2, [.ref q1, .ref q2, .int 0, .int 0, .int p8, .ref q3, .int 0, .null])), (q2, .inl (cB2, 4, .inr (.inr (.inr (.inr g2))))), (q6, .inr (8, [.int p8, .int 0, .ref q7, .int 0, .int 0, .int 0, .int 0])), (q7, .inl (cB7, 3, .inl (fun _ => 0)))] := hD
        have hK : va_K (dC, dI) vwCl [(cC1, .object RX2), (cB2, .object RX8), (cB7, .int)] s := hK
        refine W.widen (k := 0) (n := 0) (Nat.le_of_ble_eq_true rfl) (Nat.le_of_ble_eq_true rfl) ?_
        refine lv_if_eq (tgt := 64) hx hb dX12_factory_33 (by decide) (fun c_4 => ?_) (fun c_4 => ?_)
        · refine lv_iconst (v := 0) hx hb dX12_factory_64 (by decide) ?_
          have hP9 := hP.sub (ws' := []) [] rfl
          have hD9 := hD.sub (ws' := []) [] (by decide) rfl
          have hK9 := hK.sub (tys' := []) [] rfl
          refine W.widen (k := 0) (n := 0) (Nat.le_of_ble_eq_true rfl) (Nat.le_of_ble_eq_true rfl) ?_
          exact W.zret (v := 0) hx hb hr rfl (fun t ht hW => ⟨⟨0, (), rfl, (by simp [zFac, c_1, c_2, c_3, c_4]), by rw [ht]; exact hP9, va_K.moved hW.alike hK9, hD9⟩, hS.F ht⟩) hS.2.2 dX12_factory_65
        · refine lv_aload_n hx hb dX12_factory_36 rfl (lv_at hl 0 rfl) ?_
          refine va_get (D := (dC, dI)) (ci := 11) (v := .ref a1) (C := RX12) (T := TX12) (N := 12) hx hb htb inX12 hown hK hP 0 rfl rfl 0 (by decide) (htb _ kw_3) (fun _ h9 => h9) rfl dX12_factory_37 ?_
          refine lv_iload_n hx hb dX12_factory_40 rfl (lv_at hl 1 rfl) ?_
          refine va_aldq (D := (dC, dI)) hx hb hK hP 1 0 rfl rfl (zCls_in c_1) dX12_factory_41 ?_
          refine W.eq (g2 := F0 m 42 ls [.ref d0]) (by rw [hf0 c_1]; rfl) ?_
          refine lv_iload_n hx hb dX12_factory_42 rfl (lv_at hl 2 rfl) ?_
          refine lv_iload_n hx hb dX12_factory_43 rfl (lv_at hl 3 rfl) ?_
          refine lv_iload hx hb dX12_factory_44 (lv_at hl 4 rfl) ?_
          refine lv_iload hx hb dX12_factory_46 (lv_at hl 5 rfl) ?_
          refine lv_iload hx hb dX12_factory_48 (lv_at hl 6 rfl) ?_
          refine lv_iload hx hb dX12_factory_50 (lv_at hl 7 rfl) ?_
          refine lv_iload hx hb dX12_factory_52 (lv_at hl 8 rfl) ?_
          have hPc := hP.sub (ws' := [(d0, .inr (2, [.ref q1, .ref q2, .int 0, .int 0, .int p8, .ref q3, .int 0, .null])), (q2, .inl (cB2, 4, .inr (.inr (.inr (.inr g2))))), (q6, .inr (8, [.int p8, .int 0, .ref q7, .int 0, .int 0, .int 0, .int 0])), (q7, .inl (cB7, 3, .inl (fun _ => 0)))]) [2, 3, 4, 5] rfl
          have hDc := hD.sub (ws' := [(d0, .inr (2, [.ref q1, .ref q2, .int 0, .int 0, .int p8, .ref q3, .int 0, .null])), (q2, .inl (cB2, 4, .inr (.inr (.inr (.inr g2))))), (q6, .inr (8, [.int p8, .int 0, .ref q7, .int 0, .int 0, .int 0, .int 0])), (q7, .inl (cB7, 3, .inl (fun _ => 0)))]) [2, 3, 4, 5] (by decide) rfl
          have hKc := hK.sub (tys' := [(cB2, .object RX8), (cB7, .int)]) [1, 2] rfl
          have hFc := va_free (wc := [(d0, .inr (2, [.ref q1, .ref q2, .int 0, .int 0, .int p8, .ref q3, .int 0, .null])), (q2, .inl (cB2, 4, .inr (.inr (.inr (.inr g2))))), (q6, .inr (8, [.int p8, .int 0, .ref q7, .int 0, .int 0, .int 0, .int 0])), (q7, .inl (cB7, 3, .inl (fun _ => 0)))]) hD hS hA [2, 3, 4, 5] rfl
          refine va_calli (va_runV (As := [.int p1, .int z, .int p2, .int p3, .int p4, .int p5, .int p6]) (rest := []) ⟨hx, hb, hml, hown, htb⟩ (c_X2_addFactory l dC dI H.size d0 p1 z p2 p3 p4 p5 p6 q1 q2 p8 q3 cB2 g2 q6 q7 cB7 hg2 hz hz2) (cwV 7 htb (gd_V kw_65 kw_66 kw_67 kw_4 kw_543) rfl rfl rfl (by decide +kernel) ⟨Nat.le_of_ble_eq_true rfl, Nat.le_of_ble_eq_true rfl⟩) ⟨fun a U g mk q => by obtain ⟨q0, q1, qP, qK, qD⟩ := q; exact ⟨q0, q1, qP, va_K.moved (u := U) (U := U.calling g mk a) (Vm.Alike.refl U.vm) qK, qD⟩, va_recv hKc hPc (ci := 2) (q0 := 0) rfl rfl, fun U hU hW => ⟨rfl, by rw [hU], by rw [hU]; exact hPc, va_K.moved hW.alike hKc, hDc.weaken (fun _ _ _ _ => trivial)⟩⟩ rfl rfl hl.1 rfl (lv_room (Nat.le_of_ble_eq_true rfl)) dX12_factory_54 ⟨(Nat.le_of_ble_eq_true rfl), (Nat.le_of_ble_eq_true rfl)⟩) hS (fun q _ h => hFc q h) hFc (fun r u t H1 locs ht hvm hw hB hz1 hk1 hS => ?_)
          subst hw
          obtain ⟨hP1, hK1, hD1⟩ := hB
          rw [ht] at hP1
          have hK1 := va_K.moved hvm.symm hK1
          obtain ⟨hP, hD⟩ := va_join (wr := [(h0, .inr (11, [.ref a1, .ref a2, .ref a3, .ref a4, .ref a5, .ref a6, .ref a7, .ref a8, .int 0, .int 0, .int 0, .int (-1)])), (a1, .inl (cC1, 8, .inr (.inr (.inr (.inr f0)))))]) (w1 := []) hP hD [2, 3, 4, 5] [0, 1] rfl rfl (by decide) (by decide) hk1 hFc hP1 hD1
          have hK := hK.app hK1
          generalize H1 = H at hP hS ⊢
          have hP : va_P (dC, dI) vwCl [(h0, .inr (11, [.ref a1, .ref a2, .ref a3, .ref a4, .ref a5, .ref a6, .ref a7, .ref a8, .int 0, .int 0, .int 0, .int (-1)])), (a1, .inl (cC1, 8, .inr (.inr (.inr (.inr f0)))))] H := hP
          have hD : va_D A [(h0, .inr (11, [.ref a1, .ref a2, .ref a3, .ref a4, .ref a5, .ref a6, .ref a7, .ref a8, .int 0, .int 0, .int 0, .int (-1)])), (a1, .inl (cC1, 8, .inr (.inr (.inr (.inr f0)))))] := hD
          have hK : va_K (dC, dI) vwCl [(cC1, .object RX2), (cB2, .object RX8), (cB7, .int)] s := hK
          refine W.widen (k := 0) (n := 0) (Nat.le_of_ble_eq_true rfl) (Nat.le_of_ble_eq_true rfl) ?_
          refine lv_if_eq (tgt := 64) hx hb dX12_factory_57 (by decide) (fun c_5 => absurd c_5 (by decide)) (fun _ => ?_)
          refine lv_iconst (v := 1) hx hb dX12_factory_60 (by decide) ?_
          refine lv_goto (tgt := 65) hx hb dX12_factory_61 (by decide) ?_
          have hP9 := hP.sub (ws' := []) [] rfl
          have hD9 := hD.sub (ws' := []) [] (by decide) rfl
          have hK9 := hK.sub (tys' := []) [] rfl
          refine W.widen (k := 0) (n := 0) (Nat.le_of_ble_eq_true rfl) (Nat.le_of_ble_eq_true rfl) ?_
          exact W.zret (v := 1) hx hb hr rfl (fun t ht hW => ⟨⟨1, (), rfl, (by simp [zFac, c_1, c_2, c_3, c_4]), by rw [ht]; exact hP9, va_K.moved hW.alike hK9, hD9⟩, hS.F ht⟩) hS.2.2 dX12_factory_65

set_option maxHeartbeats 4000000 in
set_option maxRecDepth 100000 in
theorem c_X10_count (l : Launch) (dC : Nat → ClassId) (dI : Nat → Nat → Nat) (sz : Nat) (h0 : Nat) (a3 : Nat) (wb : Nat) (wc : Nat) : Met l yX10_count wm_X10_count ({ frames := 0, cells := 0, slots := 0, locals := 0 }) (va_Pc [.ref h0] (fun U => U.heap.size = sz ∧ va_P (dC, dI) vwCl [(h0, .inr (10, [.ref a3, .ref wb, .ref wc, .int 0]))] U.heap ∧ va_K (dC, dI) vwCl [] U ∧ va_D (fun _ => True) [(h0, .inr (10, [.ref a3, .ref wb, .ref wc, .int 0]))])) (va_Qi (fun (r : Int32) (_ : Unit) => r = 0) (fun _ t => va_P (dC, dI) vwCl [(h0, .inr (10, [.ref a3, .ref wb, .ref wc, .int 0]))] t.heap ∧ va_K (dC, dI) vwCl [] t ∧ va_D (va_A [(h0, .inr (10, [.ref a3, .ref wb, .ref wc, .int 0]))] sz) [(h0, .inr (10, [.ref a3, .ref wb, .ref wc, .int 0]))]) (va_A [(h0, .inr (10, [.ref a3, .ref wb, .ref wc, .int 0]))] sz)) 0 0 (va_A [(h0, .inr (10, [.ref a3, .ref wb, .ref wc, .int 0]))] sz) := by
  refine Met.ofW (cc := cX10_count) (maxL := 1) (ret := (some .int)) (by decide) rfl ?_
  intro p e s m args below meth c s₁ B hml hv
  obtain ⟨rfl, hsz, hP, hK, hD0⟩ := hv
  have hx := B.exec
  have hb := B.bytes
  have hr := B.returns
  have hts := atoms_spec (ws := wm_X10_count) B.pre
  have htb := fun (w : Cond) (h : w ∈ tb) => hts w (List.mem_cons_of_mem _ h)
  have hown : s.vm.findClass RX10 = some m.cls := findClass_of_methodNamed B.named
  have hlocks := B.notSynchronized
  subst hsz
  have hD := hD0.self (sz := s.heap.size)
  generalize hAe : va_A [(h0, .inr (10, [.ref a3, .ref wb, .ref wc, .int 0]))] s.heap.size = A at hD ⊢
  have hA : ∀ q : Nat, s.heap.size ≤ q → A q := fun q h => by rw [← hAe]; exact Or.inr h
  have hS : va_S A s.heap s.heap [] := va_S.rf
  have hP : va_P (dC, dI) vwCl [(h0, .inr (10, [.ref a3, .ref wb, .ref wc, .int 0]))] s.heap := hP
  have hl := lv_entry ([.ref h0]) (n := 1) (Nat.le_of_ble_eq_true rfl)
  rw [lg_entry_eq]
  generalize (lg_sl ([.ref h0]) ++ List.replicate (1 - (lg_sl ([.ref h0])).length) Slot.unset).toArray = ls at hl ⊢
  have hl : lv_has ls 1 [(0, .ref h0)] := hl
  refine lv_aload_n hx hb dX10_count_0 rfl (lv_at hl 0 rfl) ?_
  refine va_get (D := (dC, dI)) (ci := 10) (v := .int 0) (C := RX10) (T := TX10) (N := 4) hx hb htb inX10 hown hK hP 0 rfl rfl 3 (by decide) (htb _ kw_210) (fun _ h9 => h9) rfl dX10_count_1 ?_
  have hP9 := hP.sub (ws' := [(h0, .inr (10, [.ref a3, .ref wb, .ref wc, .int 0]))]) [0] rfl
  have hD9 := hD.sub (ws' := [(h0, .inr (10, [.ref a3, .ref wb, .ref wc, .int 0]))]) [0] (by decide) rfl
  have hK9 := hK.sub (tys' := []) [] rfl
  refine W.widen (k := 0) (n := 0) (Nat.le_of_ble_eq_true rfl) (Nat.le_of_ble_eq_true rfl) ?_
  exact W.iret (v := 0) hx hb hr (fun t ht hW => ⟨⟨0, (), rfl, (rfl), by rw [ht]; exact hP9, va_K.moved hW.alike hK9, hD9⟩, hS.F ht⟩) hS.2.2 dX10_count_4

set_option maxHeartbeats 4000000 in
set_option maxRecDepth 100000 in
theorem c_X10_forgetBeans (l : Launch) (dC : Nat → ClassId) (dI : Nat → Nat → Nat) (sz : Nat) (h0 : Nat) (a3 : Nat) (wb : Nat) (wc : Nat) : Met l yX10_forgetBeans wm_X10_forgetBeans ({ frames := 0, cells := 0, slots := 0, locals := 0 }) (va_Pc [.ref h0] (fun U => U.heap.size = sz ∧ va_P (dC, dI) vwCl [(h0, .inr (10, [.ref a3, .ref wb, .ref wc, .int 0]))] U.heap ∧ va_K (dC, dI) vwCl [] U ∧ va_D (fun _ => True) [(h0, .inr (10, [.ref a3, .ref wb, .ref wc, .int 0]))])) (va_Qv (fun _ : Unit => True) (fun _ t => va_P (dC, dI) vwCl [] t.heap ∧ va_K (dC, dI) vwCl [] t ∧ va_D (va_A [(h0, .inr (10, [.ref a3, .ref wb, .ref wc, .int 0]))] sz) []) (va_A [(h0, .inr (10, [.ref a3, .ref wb, .ref wc, .int 0]))] sz)) 0 0 (va_A [(h0, .inr (10, [.ref a3, .ref wb, .ref wc, .int 0]))] sz) := by
  refine Met.ofW (cc := cX10_forgetBeans) (maxL := 1) (ret := none) (by decide) rfl ?_
  intro p e s m args below meth c s₁ B hml hv
  obtain ⟨rfl, hsz, hP, hK, hD0⟩ := hv
  have hx := B.exec
  have hb := B.bytes
  have hr := B.returns
  have hts := atoms_spec (ws := wm_X10_forgetBeans) B.pre
  have htb := fun (w : Cond) (h : w ∈ tb) => hts w (List.mem_cons_of_mem _ h)
  have hown : s.vm.findClass RX10 = some m.cls := findClass_of_methodNamed B.named
  have hlocks := B.notSynchronized
  subst hsz
  have hD := hD0.self (sz := s.heap.size)
  generalize hAe : va_A [(h0, .inr (10, [.ref a3, .ref wb, .ref wc, .int 0]))] s.heap.size = A at hD ⊢
  have hA : ∀ q : Nat, s.heap.size ≤ q → A q := fun q h => by rw [← hAe]; exact Or.inr h
  have hS : va_S A s.heap s.heap [] := va_S.rf
  have hP : va_P (dC, dI) vwCl [(h0, .inr (10, [.ref a3, .ref wb, .ref wc, .int 0]))] s.heap := hP
  have hl := lv_entry ([.ref h0]) (n := 1) (Nat.le_of_ble_eq_true rfl)
  rw [lg_entry_eq]
  generalize (lg_sl ([.ref h0]) ++ List.replicate (1 - (lg_sl ([.ref h0])).length) Slot.unset).toArray = ls at hl ⊢
  have hl : lv_has ls 1 [(0, .ref h0)] := hl
  refine lv_aload_n hx hb dX10_forgetBeans_0 rfl (lv_at hl 0 rfl) ?_
  refine lv_iconst (v := 0) hx hb dX10_forgetBeans_1 (by decide) ?_
  refine va_put (D := (dC, dI)) (ci := 10) (v := .int 0) (ty := .int) (C := RX10) (T := TX10) (N := 4) hx hb htb inX10 tyX10 tyX10_ok nmX10 hown hK hP hD hS 0 rfl rfl 3 (by decide) (htb _ kw_210) (fun _ h9 => h9) rfl (tyX10_ok 3 (by decide)) rfl rfl (Nat.le_of_ble_eq_true rfl) dX10_forgetBeans_2 (fun H locs hP hD hS => ?_)
  have hP : va_P (dC, dI) vwCl [(h0, .inr (10, [.ref a3, .ref wb, .ref wc, .int 0]))] H := hP
  have hD : va_D A [(h0, .inr (10, [.ref a3, .ref wb, .ref wc, .int 0]))] := hD
  have hP9 := hP.sub (ws' := []) [] rfl
  have hD9 := hD.sub (ws' := []) [] (by decide) rfl
  have hK9 := hK.sub (tys' := []) [] rfl
  refine W.widen (k := 0) (n := 0) (Nat.le_of_ble_eq_true rfl) (Nat.le_of_ble_eq_true rfl) ?_
  exact W.vret hx hb hr (fun t ht hW => ⟨⟨(), rfl, trivial, by rw [ht]; exact hP9, va_K.moved hW.alike hK9, hD9⟩, hS.F ht⟩) hS.2.2 dX10_forgetBeans_5

set_option maxHeartbeats 4000000 in
set_option maxRecDepth 100000 in
theorem c_X4_count (l : Launch) (dC : Nat → ClassId) (dI : Nat → Nat → Nat) (sz : Nat) (h0 : Nat) (rn : Nat) : Met l yX4_count wm_X4_count ({ frames := 0, cells := 0, slots := 0, locals := 0 }) (va_Pc [.ref h0] (fun U => U.heap.size = sz ∧ va_P (dC, dI) vwCl [(h0, .inr (4, [.ref rn, .int 0]))] U.heap ∧ va_K (dC, dI) vwCl [] U ∧ va_D (fun _ => True) [(h0, .inr (4, [.ref rn, .int 0]))])) (va_Qi (fun (r : Int32) (_ : Unit) => r = 0) (fun _ t => va_P (dC, dI) vwCl [(h0, .inr (4, [.ref rn, .int 0]))] t.heap ∧ va_K (dC, dI) vwCl [] t ∧ va_D (va_A [(h0, .inr (4, [.ref rn, .int 0]))] sz) [(h0, .inr (4, [.ref rn, .int 0]))]) (va_A [(h0, .inr (4, [.ref rn, .int 0]))] sz)) 0 0 (va_A [(h0, .inr (4, [.ref rn, .int 0]))] sz) := by
  refine Met.ofW (cc := cX4_count) (maxL := 1) (ret := (some .int)) (by decide) rfl ?_
  intro p e s m args below meth c s₁ B hml hv
  obtain ⟨rfl, hsz, hP, hK, hD0⟩ := hv
  have hx := B.exec
  have hb := B.bytes
  have hr := B.returns
  have hts := atoms_spec (ws := wm_X4_count) B.pre
  have htb := fun (w : Cond) (h : w ∈ tb) => hts w (List.mem_cons_of_mem _ h)
  have hown : s.vm.findClass RX4 = some m.cls := findClass_of_methodNamed B.named
  have hlocks := B.notSynchronized
  subst hsz
  have hD := hD0.self (sz := s.heap.size)
  generalize hAe : va_A [(h0, .inr (4, [.ref rn, .int 0]))] s.heap.size = A at hD ⊢
  have hA : ∀ q : Nat, s.heap.size ≤ q → A q := fun q h => by rw [← hAe]; exact Or.inr h
  have hS : va_S A s.heap s.heap [] := va_S.rf
  have hP : va_P (dC, dI) vwCl [(h0, .inr (4, [.ref rn, .int 0]))] s.heap := hP
  have hl := lv_entry ([.ref h0]) (n := 1) (Nat.le_of_ble_eq_true rfl)
  rw [lg_entry_eq]
  generalize (lg_sl ([.ref h0]) ++ List.replicate (1 - (lg_sl ([.ref h0])).length) Slot.unset).toArray = ls at hl ⊢
  have hl : lv_has ls 1 [(0, .ref h0)] := hl
  refine lv_aload_n hx hb dX4_count_0 rfl (lv_at hl 0 rfl) ?_
  refine va_get (D := (dC, dI)) (ci := 4) (v := .int 0) (C := RX4) (T := TX4) (N := 2) hx hb htb inX4 hown hK hP 0 rfl rfl 1 (by decide) (htb _ kw_213) (fun _ h9 => h9) rfl dX4_count_1 ?_
  have hP9 := hP.sub (ws' := [(h0, .inr (4, [.ref rn, .int 0]))]) [0] rfl
  have hD9 := hD.sub (ws' := [(h0, .inr (4, [.ref rn, .int 0]))]) [0] (by decide) rfl
  have hK9 := hK.sub (tys' := []) [] rfl
  refine W.widen (k := 0) (n := 0) (Nat.le_of_ble_eq_true rfl) (Nat.le_of_ble_eq_true rfl) ?_
  exact W.iret (v := 0) hx hb hr (fun t ht hW => ⟨⟨0, (), rfl, (rfl), by rw [ht]; exact hP9, va_K.moved hW.alike hK9, hD9⟩, hS.F ht⟩) hS.2.2 dX4_count_4

set_option maxHeartbeats 4000000 in
set_option maxRecDepth 100000 in
theorem c_X4_clear (l : Launch) (dC : Nat → ClassId) (dI : Nat → Nat → Nat) (sz : Nat) (h0 : Nat) (rn : Nat) : Met l yX4_clear wm_X4_clear ({ frames := 0, cells := 0, slots := 0, locals := 0 }) (va_Pc [.ref h0] (fun U => U.heap.size = sz ∧ va_P (dC, dI) vwCl [(h0, .inr (4, [.ref rn, .int 0]))] U.heap ∧ va_K (dC, dI) vwCl [] U ∧ va_D (fun _ => True) [(h0, .inr (4, [.ref rn, .int 0]))])) (va_Qv (fun _ : Unit => True) (fun _ t => va_P (dC, dI) vwCl [(h0, .inr (4, [.ref rn, .int 0]))] t.heap ∧ va_K (dC, dI) vwCl [] t ∧ va_D (va_A [(h0, .inr (4, [.ref rn, .int 0]))] sz) [(h0, .inr (4, [.ref rn, .int 0]))]) (va_A [(h0, .inr (4, [.ref rn, .int 0]))] sz)) 0 0 (va_A [(h0, .inr (4, [.ref rn, .int 0]))] sz) := by
  refine Met.ofW (cc := cX4_clear) (maxL := 1) (ret := none) (by decide) rfl ?_
  intro p e s m args below meth c s₁ B hml hv
  obtain ⟨rfl, hsz, hP, hK, hD0⟩ := hv
  have hx := B.exec
  have hb := B.bytes
  have hr := B.returns
  have hts := atoms_spec (ws := wm_X4_clear) B.pre
  have htb := fun (w : Cond) (h : w ∈ tb) => hts w (List.mem_cons_of_mem _ h)
  have hown : s.vm.findClass RX4 = some m.cls := findClass_of_methodNamed B.named
  have hlocks := B.notSynchronized
  subst hsz
  have hD := hD0.self (sz := s.heap.size)
  generalize hAe : va_A [(h0, .inr (4, [.ref rn, .int 0]))] s.heap.size = A at hD ⊢
  have hA : ∀ q : Nat, s.heap.size ≤ q → A q := fun q h => by rw [← hAe]; exact Or.inr h
  have hS : va_S A s.heap s.heap [] := va_S.rf
  have hP : va_P (dC, dI) vwCl [(h0, .inr (4, [.ref rn, .int 0]))] s.heap := hP
  have hl := lv_entry ([.ref h0]) (n := 1) (Nat.le_of_ble_eq_true rfl)
  rw [lg_entry_eq]
  generalize (lg_sl ([.ref h0]) ++ List.replicate (1 - (lg_sl ([.ref h0])).length) Slot.unset).toArray = ls at hl ⊢
  have hl : lv_has ls 1 [(0, .ref h0)] := hl
  refine lv_aload_n hx hb dX4_clear_0 rfl (lv_at hl 0 rfl) ?_
  refine lv_iconst (v := 0) hx hb dX4_clear_1 (by decide) ?_
  refine va_put (D := (dC, dI)) (ci := 4) (v := .int 0) (ty := .int) (C := RX4) (T := TX4) (N := 2) hx hb htb inX4 tyX4 tyX4_ok nmX4 hown hK hP hD hS 0 rfl rfl 1 (by decide) (htb _ kw_213) (fun _ h9 => h9) rfl (tyX4_ok 1 (by decide)) rfl rfl (Nat.le_of_ble_eq_true rfl) dX4_clear_2 (fun H locs hP hD hS => ?_)
  have hP : va_P (dC, dI) vwCl [(h0, .inr (4, [.ref rn, .int 0]))] H := hP
  have hD : va_D A [(h0, .inr (4, [.ref rn, .int 0]))] := hD
  have hP9 := hP.sub (ws' := [(h0, .inr (4, [.ref rn, .int 0]))]) [0] rfl
  have hD9 := hD.sub (ws' := [(h0, .inr (4, [.ref rn, .int 0]))]) [0] (by decide) rfl
  have hK9 := hK.sub (tys' := []) [] rfl
  refine W.widen (k := 0) (n := 0) (Nat.le_of_ble_eq_true rfl) (Nat.le_of_ble_eq_true rfl) ?_
  exact W.vret hx hb hr (fun t ht hW => ⟨⟨(), rfl, trivial, by rw [ht]; exact hP9, va_K.moved hW.alike hK9, hD9⟩, hS.F ht⟩) hS.2.2 dX4_clear_5

set_option maxHeartbeats 4000000 in
set_option maxRecDepth 100000 in
theorem c_X4_number (l : Launch) (dC : Nat → ClassId) (dI : Nat → Nat → Nat) (sz : Nat) (h0 : Nat) (p0 : Int32) (p1 : Int32) (rn : Nat) : Met l yX4_number wm_X4_number ({ frames := 0, cells := 0, slots := 0, locals := 0 }) (va_Pc [.ref h0, .int p0, .int p1] (fun U => U.heap.size = sz ∧ va_P (dC, dI) vwCl [(h0, .inr (4, [.ref rn, .int 0]))] U.heap ∧ va_K (dC, dI) vwCl [] U ∧ va_D (fun _ => True) [(h0, .inr (4, [.ref rn, .int 0]))])) (va_Qi (fun (r : Int32) (_ : Unit) => r = (-1)) (fun _ t => va_P (dC, dI) vwCl [] t.heap ∧ va_K (dC, dI) vwCl [] t ∧ va_D (va_A [(h0, .inr (4, [.ref rn, .int 0]))] sz) []) (va_A [(h0, .inr (4, [.ref rn, .int 0]))] sz)) 0 0 (va_A [(h0, .inr (4, [.ref rn, .int 0]))] sz) := by
  refine Met.ofW (cc := cX4_number) (maxL := 3) (ret := (some .int)) (by decide) rfl ?_
  intro p e s m args below meth c s₁ B hml hv
  obtain ⟨rfl, hsz, hP, hK, hD0⟩ := hv
  have hx := B.exec
  have hb := B.bytes
  have hr := B.returns
  have hts := atoms_spec (ws := wm_X4_number) B.pre
  have htb := fun (w : Cond) (h : w ∈ tb) => hts w (List.mem_cons_of_mem _ h)
  have hown : s.vm.findClass RX4 = some m.cls := findClass_of_methodNamed B.named
  have hlocks := B.notSynchronized
  subst hsz
  have hD := hD0.self (sz := s.heap.size)
  generalize hAe : va_A [(h0, .inr (4, [.ref rn, .int 0]))] s.heap.size = A at hD ⊢
  have hA : ∀ q : Nat, s.heap.size ≤ q → A q := fun q h => by rw [← hAe]; exact Or.inr h
  have hS : va_S A s.heap s.heap [] := va_S.rf
  have hP : va_P (dC, dI) vwCl [(h0, .inr (4, [.ref rn, .int 0]))] s.heap := hP
  have hl := lv_entry ([.ref h0, .int p0, .int p1]) (n := 3) (Nat.le_of_ble_eq_true rfl)
  rw [lg_entry_eq]
  generalize (lg_sl ([.ref h0, .int p0, .int p1]) ++ List.replicate (3 - (lg_sl ([.ref h0, .int p0, .int p1])).length) Slot.unset).toArray = ls at hl ⊢
  have hl : lv_has ls 3 [(0, .ref h0), (1, .int p0), (2, .int p1)] := hl
  refine lv_iload_n hx hb dX4_number_0 rfl (lv_at hl 1 rfl) ?_
  refine lv_if_lt (tgt := 34) hx hb dX4_number_1 (by decide) (fun c_1 => ?_) (fun c_1 => ?_)
  · refine lv_iconst (v := (-1)) hx hb dX4_number_34 (by decide) ?_
    have hP9 := hP.sub (ws' := []) [] rfl
    have hD9 := hD.sub (ws' := []) [] (by decide) rfl
    have hK9 := hK.sub (tys' := []) [] rfl
    refine W.widen (k := 0) (n := 0) (Nat.le_of_ble_eq_true rfl) (Nat.le_of_ble_eq_true rfl) ?_
    exact W.iret (v := (-1)) hx hb hr (fun t ht hW => ⟨⟨(-1), (), rfl, (rfl), by rw [ht]; exact hP9, va_K.moved hW.alike hK9, hD9⟩, hS.F ht⟩) hS.2.2 dX4_number_35
  · refine lv_iload_n hx hb dX4_number_4 rfl (lv_at hl 1 rfl) ?_
    refine lv_aload_n hx hb dX4_number_5 rfl (lv_at hl 0 rfl) ?_
    refine va_get (D := (dC, dI)) (ci := 4) (v := .int 0) (C := RX4) (T := TX4) (N := 2) hx hb htb inX4 hown hK hP 0 rfl rfl 1 (by decide) (htb _ kw_213) (fun _ h9 => h9) rfl dX4_number_6 ?_
    refine lv_icmp_ge (tgt := 34) hx hb dX4_number_9 (by decide) (fun _ => ?_) (fun c_2 => absurd (ge0 c_1) c_2)
    refine lv_iconst (v := (-1)) hx hb dX4_number_34 (by decide) ?_
    have hP9 := hP.sub (ws' := []) [] rfl
    have hD9 := hD.sub (ws' := []) [] (by decide) rfl
    have hK9 := hK.sub (tys' := []) [] rfl
    refine W.widen (k := 0) (n := 0) (Nat.le_of_ble_eq_true rfl) (Nat.le_of_ble_eq_true rfl) ?_
    exact W.iret (v := (-1)) hx hb hr (fun t ht hW => ⟨⟨(-1), (), rfl, (rfl), by rw [ht]; exact hP9, va_K.moved hW.alike hK9, hD9⟩, hS.F ht⟩) hS.2.2 dX4_number_35

set_option maxHeartbeats 4000000 in
set_option maxRecDepth 100000 in
theorem c_X5_isObject (l : Launch) (dC : Nat → ClassId) (dI : Nat → Nat → Nat) (sz : Nat) (h0 : Nat) (p0 : Int32) (a6 : Nat) (a1 : Nat) (a7 : Nat) (mk1 : Nat) (mk2 : Nat) (mk3 : Nat) (mk4 : Nat) (mk5 : Nat) : Met l yX5_isObject wm_X5_isObject ({ frames := 0, cells := 0, slots := 0, locals := 0 }) (va_Pc [.ref h0, .int p0] (fun U => U.heap.size = sz ∧ va_P (dC, dI) vwCl [(h0, .inr (5, [.ref a6, .ref a1, .ref a7, .ref mk1, .ref mk2, .int 0, .ref mk3, .int 0, .ref mk4, .ref mk5, .null, .int 0, .int (-1)]))] U.heap ∧ va_K (dC, dI) vwCl [] U ∧ va_D (fun _ => True) [(h0, .inr (5, [.ref a6, .ref a1, .ref a7, .ref mk1, .ref mk2, .int 0, .ref mk3, .int 0, .ref mk4, .ref mk5, .null, .int 0, .int (-1)]))])) (va_Qi (fun (r : Int32) (_ : Unit) => r = 0) (fun _ t => va_P (dC, dI) vwCl [(h0, .inr (5, [.ref a6, .ref a1, .ref a7, .ref mk1, .ref mk2, .int 0, .ref mk3, .int 0, .ref mk4, .ref mk5, .null, .int 0, .int (-1)]))] t.heap ∧ va_K (dC, dI) vwCl [] t ∧ va_D (va_A [(h0, .inr (5, [.ref a6, .ref a1, .ref a7, .ref mk1, .ref mk2, .int 0, .ref mk3, .int 0, .ref mk4, .ref mk5, .null, .int 0, .int (-1)]))] sz) [(h0, .inr (5, [.ref a6, .ref a1, .ref a7, .ref mk1, .ref mk2, .int 0, .ref mk3, .int 0, .ref mk4, .ref mk5, .null, .int 0, .int (-1)]))]) (va_A [(h0, .inr (5, [.ref a6, .ref a1, .ref a7, .ref mk1, .ref mk2, .int 0, .ref mk3, .int 0, .ref mk4, .ref mk5, .null, .int 0, .int (-1)]))] sz)) 0 0 (va_A [(h0, .inr (5, [.ref a6, .ref a1, .ref a7, .ref mk1, .ref mk2, .int 0, .ref mk3, .int 0, .ref mk4, .ref mk5, .null, .int 0, .int (-1)]))] sz) := by
  refine Met.ofW (cc := cX5_isObject) (maxL := 2) (ret := (some .boolean)) (by decide) rfl ?_
  intro p e s m args below meth c s₁ B hml hv
  obtain ⟨rfl, hsz, hP, hK, hD0⟩ := hv
  have hx := B.exec
  have hb := B.bytes
  have hr := B.returns
  have hts := atoms_spec (ws := wm_X5_isObject) B.pre
  have htb := fun (w : Cond) (h : w ∈ tb) => hts w (List.mem_cons_of_mem _ h)
  have hown : s.vm.findClass RX5 = some m.cls := findClass_of_methodNamed B.named
  have hlocks := B.notSynchronized
  subst hsz
  have hD := hD0.self (sz := s.heap.size)
  generalize hAe : va_A [(h0, .inr (5, [.ref a6, .ref a1, .ref a7, .ref mk1, .ref mk2, .int 0, .ref mk3, .int 0, .ref mk4, .ref mk5, .null, .int 0, .int (-1)]))] s.heap.size = A at hD ⊢
  have hA : ∀ q : Nat, s.heap.size ≤ q → A q := fun q h => by rw [← hAe]; exact Or.inr h
  have hS : va_S A s.heap s.heap [] := va_S.rf
  have hP : va_P (dC, dI) vwCl [(h0, .inr (5, [.ref a6, .ref a1, .ref a7, .ref mk1, .ref mk2, .int 0, .ref mk3, .int 0, .ref mk4, .ref mk5, .null, .int 0, .int (-1)]))] s.heap := hP
  have hl := lv_entry ([.ref h0, .int p0]) (n := 2) (Nat.le_of_ble_eq_true rfl)
  rw [lg_entry_eq]
  generalize (lg_sl ([.ref h0, .int p0]) ++ List.replicate (2 - (lg_sl ([.ref h0, .int p0])).length) Slot.unset).toArray = ls at hl ⊢
  have hl : lv_has ls 2 [(0, .ref h0), (1, .int p0)] := hl
  refine lv_iload_n hx hb dX5_isObject_0 rfl (lv_at hl 1 rfl) ?_
  refine lv_if_lt (tgt := 16) hx hb dX5_isObject_1 (by decide) (fun c_1 => ?_) (fun c_1 => ?_)
  · refine lv_iconst (v := 0) hx hb dX5_isObject_16 (by decide) ?_
    have hP9 := hP.sub (ws' := [(h0, .inr (5, [.ref a6, .ref a1, .ref a7, .ref mk1, .ref mk2, .int 0, .ref mk3, .int 0, .ref mk4, .ref mk5, .null, .int 0, .int (-1)]))]) [0] rfl
    have hD9 := hD.sub (ws' := [(h0, .inr (5, [.ref a6, .ref a1, .ref a7, .ref mk1, .ref mk2, .int 0, .ref mk3, .int 0, .ref mk4, .ref mk5, .null, .int 0, .int (-1)]))]) [0] (by decide) rfl
    have hK9 := hK.sub (tys' := []) [] rfl
    refine W.widen (k := 0) (n := 0) (Nat.le_of_ble_eq_true rfl) (Nat.le_of_ble_eq_true rfl) ?_
    exact W.zret (v := 0) hx hb hr rfl (fun t ht hW => ⟨⟨0, (), rfl, (rfl), by rw [ht]; exact hP9, va_K.moved hW.alike hK9, hD9⟩, hS.F ht⟩) hS.2.2 dX5_isObject_17
  · refine lv_iload_n hx hb dX5_isObject_4 rfl (lv_at hl 1 rfl) ?_
    refine lv_aload_n hx hb dX5_isObject_5 rfl (lv_at hl 0 rfl) ?_
    refine va_get (D := (dC, dI)) (ci := 5) (v := .int 0) (C := RX5) (T := TX5) (N := 13) hx hb htb inX5 hown hK hP 0 rfl rfl 5 (by decide) (htb _ kw_225) (fun _ h9 => h9) rfl dX5_isObject_6 ?_
    refine lv_icmp_ge (tgt := 16) hx hb dX5_isObject_9 (by decide) (fun _ => ?_) (fun c_2 => absurd (ge0 c_1) c_2)
    refine lv_iconst (v := 0) hx hb dX5_isObject_16 (by decide) ?_
    have hP9 := hP.sub (ws' := [(h0, .inr (5, [.ref a6, .ref a1, .ref a7, .ref mk1, .ref mk2, .int 0, .ref mk3, .int 0, .ref mk4, .ref mk5, .null, .int 0, .int (-1)]))]) [0] rfl
    have hD9 := hD.sub (ws' := [(h0, .inr (5, [.ref a6, .ref a1, .ref a7, .ref mk1, .ref mk2, .int 0, .ref mk3, .int 0, .ref mk4, .ref mk5, .null, .int 0, .int (-1)]))]) [0] (by decide) rfl
    have hK9 := hK.sub (tys' := []) [] rfl
    refine W.widen (k := 0) (n := 0) (Nat.le_of_ble_eq_true rfl) (Nat.le_of_ble_eq_true rfl) ?_
    exact W.zret (v := 0) hx hb hr rfl (fun t ht hW => ⟨⟨0, (), rfl, (rfl), by rw [ht]; exact hP9, va_K.moved hW.alike hK9, hD9⟩, hS.F ht⟩) hS.2.2 dX5_isObject_17

set_option maxHeartbeats 4000000 in
set_option maxRecDepth 100000 in
theorem c_X5_classOfObject (l : Launch) (dC : Nat → ClassId) (dI : Nat → Nat → Nat) (sz : Nat) (h0 : Nat) (p0 : Int32) (a6 : Nat) (a1 : Nat) (a7 : Nat) (mk1 : Nat) (mk2 : Nat) (mk3 : Nat) (mk4 : Nat) (mk5 : Nat) : Met l yX5_classOfObject wm_X5_classOfObject ({ frames := 1, cells := 0, slots := 0, locals := 21 }) (va_Pc [.ref h0, .int p0] (fun U => U.heap.size = sz ∧ va_P (dC, dI) vwCl [(h0, .inr (5, [.ref a6, .ref a1, .ref a7, .ref mk1, .ref mk2, .int 0, .ref mk3, .int 0, .ref mk4, .ref mk5, .null, .int 0, .int (-1)]))] U.heap ∧ va_K (dC, dI) vwCl [] U ∧ va_D (fun _ => True) [(h0, .inr (5, [.ref a6, .ref a1, .ref a7, .ref mk1, .ref mk2, .int 0, .ref mk3, .int 0, .ref mk4, .ref mk5, .null, .int 0, .int (-1)]))])) (va_Qi (fun (r : Int32) (_ : Unit) => r = (-1)) (fun _ t => va_P (dC, dI) vwCl [] t.heap ∧ va_K (dC, dI) vwCl [] t ∧ va_D (va_A [(h0, .inr (5, [.ref a6, .ref a1, .ref a7, .ref mk1, .ref mk2, .int 0, .ref mk3, .int 0, .ref mk4, .ref mk5, .null, .int 0, .int (-1)]))] sz) []) (va_A [(h0, .inr (5, [.ref a6, .ref a1, .ref a7, .ref mk1, .ref mk2, .int 0, .ref mk3, .int 0, .ref mk4, .ref mk5, .null, .int 0, .int (-1)]))] sz)) 0 0 (va_A [(h0, .inr (5, [.ref a6, .ref a1, .ref a7, .ref mk1, .ref mk2, .int 0, .ref mk3, .int 0, .ref mk4, .ref mk5, .null, .int 0, .int (-1)]))] sz) := by
  refine Met.ofW (cc := cX5_classOfObject) (maxL := 2) (ret := (some .int)) (by decide) rfl ?_
  intro p e s m args below meth c s₁ B hml hv
  obtain ⟨rfl, hsz, hP, hK, hD0⟩ := hv
  have hx := B.exec
  have hb := B.bytes
  have hr := B.returns
  have hts := atoms_spec (ws := wm_X5_classOfObject) B.pre
  have htb := fun (w : Cond) (h : w ∈ tb) => hts w (List.mem_cons_of_mem _ h)
  have hown : s.vm.findClass RX5 = some m.cls := findClass_of_methodNamed B.named
  have hlocks := B.notSynchronized
  subst hsz
  have hD := hD0.self (sz := s.heap.size)
  generalize hAe : va_A [(h0, .inr (5, [.ref a6, .ref a1, .ref a7, .ref mk1, .ref mk2, .int 0, .ref mk3, .int 0, .ref mk4, .ref mk5, .null, .int 0, .int (-1)]))] s.heap.size = A at hD ⊢
  have hA : ∀ q : Nat, s.heap.size ≤ q → A q := fun q h => by rw [← hAe]; exact Or.inr h
  have hS : va_S A s.heap s.heap [] := va_S.rf
  have hP : va_P (dC, dI) vwCl [(h0, .inr (5, [.ref a6, .ref a1, .ref a7, .ref mk1, .ref mk2, .int 0, .ref mk3, .int 0, .ref mk4, .ref mk5, .null, .int 0, .int (-1)]))] s.heap := hP
  have hl := lv_entry ([.ref h0, .int p0]) (n := 2) (Nat.le_of_ble_eq_true rfl)
  rw [lg_entry_eq]
  generalize (lg_sl ([.ref h0, .int p0]) ++ List.replicate (2 - (lg_sl ([.ref h0, .int p0])).length) Slot.unset).toArray = ls at hl ⊢
  have hl : lv_has ls 2 [(0, .ref h0), (1, .int p0)] := hl
  refine lv_aload_n hx hb dX5_classOfObject_0 rfl (lv_at hl 0 rfl) ?_
  refine lv_iload_n hx hb dX5_classOfObject_1 rfl (lv_at hl 1 rfl) ?_
  have hPc := hP.sub (ws' := [(h0, .inr (5, [.ref a6, .ref a1, .ref a7, .ref mk1, .ref mk2, .int 0, .ref mk3, .int 0, .ref mk4, .ref mk5, .null, .int 0, .int (-1)]))]) [0] rfl
  have hDc := hD.sub (ws' := [(h0, .inr (5, [.ref a6, .ref a1, .ref a7, .ref mk1, .ref mk2, .int 0, .ref mk3, .int 0, .ref mk4, .ref mk5, .null, .int 0, .int (-1)]))]) [0] (by decide) rfl
  have hKc := hK.sub (tys' := []) [] rfl
  have hFc := va_free (wc := [(h0, .inr (5, [.ref a6, .ref a1, .ref a7, .ref mk1, .ref mk2, .int 0, .ref mk3, .int 0, .ref mk4, .ref mk5, .null, .int 0, .int (-1)]))]) hD hS hA [0] rfl
  refine va_calli (va_runV (As := [.int p0]) (rest := []) ⟨hx, hb, hml, hown, htb⟩ (c_X5_isObject l dC dI s.heap.size h0 p0 a6 a1 a7 mk1 mk2 mk3 mk4 mk5) (cwV 1 htb (gd_V kw_238 kw_239 kw_240 kw_41 kw_570) rfl rfl rfl (by decide +kernel) ⟨Nat.le_of_ble_eq_true rfl, Nat.le_of_ble_eq_true rfl⟩) ⟨fun a U g mk q => by obtain ⟨q0, q1, qP, qK, qD⟩ := q; exact ⟨q0, q1, qP, va_K.moved (u := U) (U := U.calling g mk a) (Vm.Alike.refl U.vm) qK, qD⟩, va_recv hKc hPc (ci := 5) (q0 := 0) rfl rfl, fun U hU hW => ⟨rfl, by rw [hU], by rw [hU]; exact hPc, va_K.moved hW.alike hKc, hDc.weaken (fun _ _ _ _ => trivial)⟩⟩ rfl rfl hl.1 rfl (lv_room (Nat.le_of_ble_eq_true rfl)) dX5_classOfObject_2 ⟨(Nat.le_of_ble_eq_true rfl), (Nat.le_of_ble_eq_true rfl)⟩) hS (fun q _ h => hFc q h) hFc (fun r u t H1 locs ht hvm hw hB hz1 hk1 hS => ?_)
  subst hw
  obtain ⟨hP1, hK1, hD1⟩ := hB
  rw [ht] at hP1
  have hK1 := va_K.moved hvm.symm hK1
  obtain ⟨hP, hD⟩ := va_join (wr := []) (w1 := [(h0, .inr (5, [.ref a6, .ref a1, .ref a7, .ref mk1, .ref mk2, .int 0, .ref mk3, .int 0, .ref mk4, .ref mk5, .null, .int 0, .int (-1)]))]) hP hD [0] [] rfl rfl (by decide) (by decide) hk1 hFc hP1 hD1
  have hK := hK.app hK1
  generalize H1 = H at hP hS ⊢
  have hP : va_P (dC, dI) vwCl [(h0, .inr (5, [.ref a6, .ref a1, .ref a7, .ref mk1, .ref mk2, .int 0, .ref mk3, .int 0, .ref mk4, .ref mk5, .null, .int 0, .int (-1)]))] H := hP
  have hD : va_D A [(h0, .inr (5, [.ref a6, .ref a1, .ref a7, .ref mk1, .ref mk2, .int 0, .ref mk3, .int 0, .ref mk4, .ref mk5, .null, .int 0, .int (-1)]))] := hD
  have hK : va_K (dC, dI) vwCl [] s := hK
  refine W.widen (k := 0) (n := 0) (Nat.le_of_ble_eq_true rfl) (Nat.le_of_ble_eq_true rfl) ?_
  refine lv_if_eq (tgt := 17) hx hb dX5_classOfObject_5 (by decide) (fun _ => ?_) (fun c_1 => absurd (by decide) c_1)
  refine lv_iconst (v := (-1)) hx hb dX5_classOfObject_17 (by decide) ?_
  have hP9 := hP.sub (ws' := []) [] rfl
  have hD9 := hD.sub (ws' := []) [] (by decide) rfl
  have hK9 := hK.sub (tys' := []) [] rfl
  refine W.widen (k := 0) (n := 0) (Nat.le_of_ble_eq_true rfl) (Nat.le_of_ble_eq_true rfl) ?_
  exact W.iret (v := (-1)) hx hb hr (fun t ht hW => ⟨⟨(-1), (), rfl, (rfl), by rw [ht]; exact hP9, va_K.moved hW.alike hK9, hD9⟩, hS.F ht⟩) hS.2.2 dX5_classOfObject_18

set_option maxHeartbeats 4000000 in
set_option maxRecDepth 100000 in
theorem c_X5_beanOfObject (l : Launch) (dC : Nat → ClassId) (dI : Nat → Nat → Nat) (sz : Nat) (h0 : Nat) (p0 : Int32) (a6 : Nat) (a1 : Nat) (a7 : Nat) (mk1 : Nat) (mk2 : Nat) (mk3 : Nat) (mk4 : Nat) (mk5 : Nat) : Met l yX5_beanOfObject wm_X5_beanOfObject ({ frames := 1, cells := 0, slots := 0, locals := 21 }) (va_Pc [.ref h0, .int p0] (fun U => U.heap.size = sz ∧ va_P (dC, dI) vwCl [(h0, .inr (5, [.ref a6, .ref a1, .ref a7, .ref mk1, .ref mk2, .int 0, .ref mk3, .int 0, .ref mk4, .ref mk5, .null, .int 0, .int (-1)]))] U.heap ∧ va_K (dC, dI) vwCl [] U ∧ va_D (fun _ => True) [(h0, .inr (5, [.ref a6, .ref a1, .ref a7, .ref mk1, .ref mk2, .int 0, .ref mk3, .int 0, .ref mk4, .ref mk5, .null, .int 0, .int (-1)]))])) (va_Qi (fun (r : Int32) (_ : Unit) => r = (-1)) (fun _ t => va_P (dC, dI) vwCl [] t.heap ∧ va_K (dC, dI) vwCl [] t ∧ va_D (va_A [(h0, .inr (5, [.ref a6, .ref a1, .ref a7, .ref mk1, .ref mk2, .int 0, .ref mk3, .int 0, .ref mk4, .ref mk5, .null, .int 0, .int (-1)]))] sz) []) (va_A [(h0, .inr (5, [.ref a6, .ref a1, .ref a7, .ref mk1, .ref mk2, .int 0, .ref mk3, .int 0, .ref mk4, .ref mk5, .null, .int 0, .int (-1)]))] sz)) 0 0 (va_A [(h0, .inr (5, [.ref a6, .ref a1, .ref a7, .ref mk1, .ref mk2, .int 0, .ref mk3, .int 0, .ref mk4, .ref mk5, .null, .int 0, .int (-1)]))] sz) := by
  refine Met.ofW (cc := cX5_beanOfObject) (maxL := 2) (ret := (some .int)) (by decide) rfl ?_
  intro p e s m args below meth c s₁ B hml hv
  obtain ⟨rfl, hsz, hP, hK, hD0⟩ := hv
  have hx := B.exec
  have hb := B.bytes
  have hr := B.returns
  have hts := atoms_spec (ws := wm_X5_beanOfObject) B.pre
  have htb := fun (w : Cond) (h : w ∈ tb) => hts w (List.mem_cons_of_mem _ h)
  have hown : s.vm.findClass RX5 = some m.cls := findClass_of_methodNamed B.named
  have hlocks := B.notSynchronized
  subst hsz
  have hD := hD0.self (sz := s.heap.size)
  generalize hAe : va_A [(h0, .inr (5, [.ref a6, .ref a1, .ref a7, .ref mk1, .ref mk2, .int 0, .ref mk3, .int 0, .ref mk4, .ref mk5, .null, .int 0, .int (-1)]))] s.heap.size = A at hD ⊢
  have hA : ∀ q : Nat, s.heap.size ≤ q → A q := fun q h => by rw [← hAe]; exact Or.inr h
  have hS : va_S A s.heap s.heap [] := va_S.rf
  have hP : va_P (dC, dI) vwCl [(h0, .inr (5, [.ref a6, .ref a1, .ref a7, .ref mk1, .ref mk2, .int 0, .ref mk3, .int 0, .ref mk4, .ref mk5, .null, .int 0, .int (-1)]))] s.heap := hP
  have hl := lv_entry ([.ref h0, .int p0]) (n := 2) (Nat.le_of_ble_eq_true rfl)
  rw [lg_entry_eq]
  generalize (lg_sl ([.ref h0, .int p0]) ++ List.replicate (2 - (lg_sl ([.ref h0, .int p0])).length) Slot.unset).toArray = ls at hl ⊢
  have hl : lv_has ls 2 [(0, .ref h0), (1, .int p0)] := hl
  refine lv_aload_n hx hb dX5_beanOfObject_0 rfl (lv_at hl 0 rfl) ?_
  refine lv_iload_n hx hb dX5_beanOfObject_1 rfl (lv_at hl 1 rfl) ?_
  have hPc := hP.sub (ws' := [(h0, .inr (5, [.ref a6, .ref a1, .ref a7, .ref mk1, .ref mk2, .int 0, .ref mk3, .int 0, .ref mk4, .ref mk5, .null, .int 0, .int (-1)]))]) [0] rfl
  have hDc := hD.sub (ws' := [(h0, .inr (5, [.ref a6, .ref a1, .ref a7, .ref mk1, .ref mk2, .int 0, .ref mk3, .int 0, .ref mk4, .ref mk5, .null, .int 0, .int (-1)]))]) [0] (by decide) rfl
  have hKc := hK.sub (tys' := []) [] rfl
  have hFc := va_free (wc := [(h0, .inr (5, [.ref a6, .ref a1, .ref a7, .ref mk1, .ref mk2, .int 0, .ref mk3, .int 0, .ref mk4, .ref mk5, .null, .int 0, .int (-1)]))]) hD hS hA [0] rfl
  refine va_calli (va_runV (As := [.int p0]) (rest := []) ⟨hx, hb, hml, hown, htb⟩ (c_X5_isObject l dC dI s.heap.size h0 p0 a6 a1 a7 mk1 mk2 mk3 mk4 mk5) (cwV 1 htb (gd_V kw_238 kw_239 kw_240 kw_41 kw_570) rfl rfl rfl (by decide +kernel) ⟨Nat.le_of_ble_eq_true rfl, Nat.le_of_ble_eq_true rfl⟩) ⟨fun a U g mk q => by obtain ⟨q0, q1, qP, qK, qD⟩ := q; exact ⟨q0, q1, qP, va_K.moved (u := U) (U := U.calling g mk a) (Vm.Alike.refl U.vm) qK, qD⟩, va_recv hKc hPc (ci := 5) (q0 := 0) rfl rfl, fun U hU hW => ⟨rfl, by rw [hU], by rw [hU]; exact hPc, va_K.moved hW.alike hKc, hDc.weaken (fun _ _ _ _ => trivial)⟩⟩ rfl rfl hl.1 rfl (lv_room (Nat.le_of_ble_eq_true rfl)) dX5_beanOfObject_2 ⟨(Nat.le_of_ble_eq_true rfl), (Nat.le_of_ble_eq_true rfl)⟩) hS (fun q _ h => hFc q h) hFc (fun r u t H1 locs ht hvm hw hB hz1 hk1 hS => ?_)
  subst hw
  obtain ⟨hP1, hK1, hD1⟩ := hB
  rw [ht] at hP1
  have hK1 := va_K.moved hvm.symm hK1
  obtain ⟨hP, hD⟩ := va_join (wr := []) (w1 := [(h0, .inr (5, [.ref a6, .ref a1, .ref a7, .ref mk1, .ref mk2, .int 0, .ref mk3, .int 0, .ref mk4, .ref mk5, .null, .int 0, .int (-1)]))]) hP hD [0] [] rfl rfl (by decide) (by decide) hk1 hFc hP1 hD1
  have hK := hK.app hK1
  generalize H1 = H at hP hS ⊢
  have hP : va_P (dC, dI) vwCl [(h0, .inr (5, [.ref a6, .ref a1, .ref a7, .ref mk1, .ref mk2, .int 0, .ref mk3, .int 0, .ref mk4, .ref mk5, .null, .int 0, .int (-1)]))] H := hP
  have hD : va_D A [(h0, .inr (5, [.ref a6, .ref a1, .ref a7, .ref mk1, .ref mk2, .int 0, .ref mk3, .int 0, .ref mk4, .ref mk5, .null, .int 0, .int (-1)]))] := hD
  have hK : va_K (dC, dI) vwCl [] s := hK
  refine W.widen (k := 0) (n := 0) (Nat.le_of_ble_eq_true rfl) (Nat.le_of_ble_eq_true rfl) ?_
  refine lv_if_eq (tgt := 17) hx hb dX5_beanOfObject_5 (by decide) (fun _ => ?_) (fun c_1 => absurd (by decide) c_1)
  refine lv_iconst (v := (-1)) hx hb dX5_beanOfObject_17 (by decide) ?_
  have hP9 := hP.sub (ws' := []) [] rfl
  have hD9 := hD.sub (ws' := []) [] (by decide) rfl
  have hK9 := hK.sub (tys' := []) [] rfl
  refine W.widen (k := 0) (n := 0) (Nat.le_of_ble_eq_true rfl) (Nat.le_of_ble_eq_true rfl) ?_
  exact W.iret (v := (-1)) hx hb hr (fun t ht hW => ⟨⟨(-1), (), rfl, (rfl), by rw [ht]; exact hP9, va_K.moved hW.alike hK9, hD9⟩, hS.F ht⟩) hS.2.2 dX5_beanOfObject_18

set_option maxHeartbeats 4000000 in
set_option maxRecDepth 100000 in
theorem c_X5_failure (l : Launch) (dC : Nat → ClassId) (dI : Nat → Nat → Nat) (sz : Nat) (h0 : Nat) (a6 : Nat) (a1 : Nat) (a7 : Nat) (mk1 : Nat) (mk2 : Nat) (mk3 : Nat) (mk4 : Nat) (mk5 : Nat) : Met l yX5_failure wm_X5_failure ({ frames := 0, cells := 0, slots := 0, locals := 0 }) (va_Pc [.ref h0] (fun U => U.heap.size = sz ∧ va_P (dC, dI) vwCl [(h0, .inr (5, [.ref a6, .ref a1, .ref a7, .ref mk1, .ref mk2, .int 0, .ref mk3, .int 0, .ref mk4, .ref mk5, .null, .int 0, .int (-1)]))] U.heap ∧ va_K (dC, dI) vwCl [] U ∧ va_D (fun _ => True) [(h0, .inr (5, [.ref a6, .ref a1, .ref a7, .ref mk1, .ref mk2, .int 0, .ref mk3, .int 0, .ref mk4, .ref mk5, .null, .int 0, .int (-1)]))])) (va_Qi (fun (r : Int32) (_ : Unit) => r = 0) (fun _ t => va_P (dC, dI) vwCl [] t.heap ∧ va_K (dC, dI) vwCl [] t ∧ va_D (va_A [(h0, .inr (5, [.ref a6, .ref a1, .ref a7, .ref mk1, .ref mk2, .int 0, .ref mk3, .int 0, .ref mk4, .ref mk5, .null, .int 0, .int (-1)]))] sz) []) (va_A [(h0, .inr (5, [.ref a6, .ref a1, .ref a7, .ref mk1, .ref mk2, .int 0, .ref mk3, .int 0, .ref mk4, .ref mk5, .null, .int 0, .int (-1)]))] sz)) 0 0 (va_A [(h0, .inr (5, [.ref a6, .ref a1, .ref a7, .ref mk1, .ref mk2, .int 0, .ref mk3, .int 0, .ref mk4, .ref mk5, .null, .int 0, .int (-1)]))] sz) := by
  refine Met.ofW (cc := cX5_failure) (maxL := 1) (ret := (some .int)) (by decide) rfl ?_
  intro p e s m args below meth c s₁ B hml hv
  obtain ⟨rfl, hsz, hP, hK, hD0⟩ := hv
  have hx := B.exec
  have hb := B.bytes
  have hr := B.returns
  have hts := atoms_spec (ws := wm_X5_failure) B.pre
  have htb := fun (w : Cond) (h : w ∈ tb) => hts w (List.mem_cons_of_mem _ h)
  have hown : s.vm.findClass RX5 = some m.cls := findClass_of_methodNamed B.named
  have hlocks := B.notSynchronized
  subst hsz
  have hD := hD0.self (sz := s.heap.size)
  generalize hAe : va_A [(h0, .inr (5, [.ref a6, .ref a1, .ref a7, .ref mk1, .ref mk2, .int 0, .ref mk3, .int 0, .ref mk4, .ref mk5, .null, .int 0, .int (-1)]))] s.heap.size = A at hD ⊢
  have hA : ∀ q : Nat, s.heap.size ≤ q → A q := fun q h => by rw [← hAe]; exact Or.inr h
  have hS : va_S A s.heap s.heap [] := va_S.rf
  have hP : va_P (dC, dI) vwCl [(h0, .inr (5, [.ref a6, .ref a1, .ref a7, .ref mk1, .ref mk2, .int 0, .ref mk3, .int 0, .ref mk4, .ref mk5, .null, .int 0, .int (-1)]))] s.heap := hP
  have hl := lv_entry ([.ref h0]) (n := 1) (Nat.le_of_ble_eq_true rfl)
  rw [lg_entry_eq]
  generalize (lg_sl ([.ref h0]) ++ List.replicate (1 - (lg_sl ([.ref h0])).length) Slot.unset).toArray = ls at hl ⊢
  have hl : lv_has ls 1 [(0, .ref h0)] := hl
  refine lv_aload_n hx hb dX5_failure_0 rfl (lv_at hl 0 rfl) ?_
  refine va_get (D := (dC, dI)) (ci := 5) (v := .int 0) (C := RX5) (T := TX5) (N := 13) hx hb htb inX5 hown hK hP 0 rfl rfl 11 (by decide) (htb _ kw_235) (fun _ h9 => h9) rfl dX5_failure_1 ?_
  have hP9 := hP.sub (ws' := []) [] rfl
  have hD9 := hD.sub (ws' := []) [] (by decide) rfl
  have hK9 := hK.sub (tys' := []) [] rfl
  refine W.widen (k := 0) (n := 0) (Nat.le_of_ble_eq_true rfl) (Nat.le_of_ble_eq_true rfl) ?_
  exact W.iret (v := 0) hx hb hr (fun t ht hW => ⟨⟨0, (), rfl, (rfl), by rw [ht]; exact hP9, va_K.moved hW.alike hK9, hD9⟩, hS.F ht⟩) hS.2.2 dX5_failure_4

set_option maxHeartbeats 4000000 in
set_option maxRecDepth 100000 in
theorem c_X5_failureBean (l : Launch) (dC : Nat → ClassId) (dI : Nat → Nat → Nat) (sz : Nat) (h0 : Nat) (a6 : Nat) (a1 : Nat) (a7 : Nat) (mk1 : Nat) (mk2 : Nat) (mk3 : Nat) (mk4 : Nat) (mk5 : Nat) : Met l yX5_failureBean wm_X5_failureBean ({ frames := 0, cells := 0, slots := 0, locals := 0 }) (va_Pc [.ref h0] (fun U => U.heap.size = sz ∧ va_P (dC, dI) vwCl [(h0, .inr (5, [.ref a6, .ref a1, .ref a7, .ref mk1, .ref mk2, .int 0, .ref mk3, .int 0, .ref mk4, .ref mk5, .null, .int 0, .int (-1)]))] U.heap ∧ va_K (dC, dI) vwCl [] U ∧ va_D (fun _ => True) [(h0, .inr (5, [.ref a6, .ref a1, .ref a7, .ref mk1, .ref mk2, .int 0, .ref mk3, .int 0, .ref mk4, .ref mk5, .null, .int 0, .int (-1)]))])) (va_Qi (fun (r : Int32) (_ : Unit) => r = (-1)) (fun _ t => va_P (dC, dI) vwCl [] t.heap ∧ va_K (dC, dI) vwCl [] t ∧ va_D (va_A [(h0, .inr (5, [.ref a6, .ref a1, .ref a7, .ref mk1, .ref mk2, .int 0, .ref mk3, .int 0, .ref mk4, .ref mk5, .null, .int 0, .int (-1)]))] sz) []) (va_A [(h0, .inr (5, [.ref a6, .ref a1, .ref a7, .ref mk1, .ref mk2, .int 0, .ref mk3, .int 0, .ref mk4, .ref mk5, .null, .int 0, .int (-1)]))] sz)) 0 0 (va_A [(h0, .inr (5, [.ref a6, .ref a1, .ref a7, .ref mk1, .ref mk2, .int 0, .ref mk3, .int 0, .ref mk4, .ref mk5, .null, .int 0, .int (-1)]))] sz) := by
  refine Met.ofW (cc := cX5_failureBean) (maxL := 1) (ret := (some .int)) (by decide) rfl ?_
  intro p e s m args below meth c s₁ B hml hv
  obtain ⟨rfl, hsz, hP, hK, hD0⟩ := hv
  have hx := B.exec
  have hb := B.bytes
  have hr := B.returns
  have hts := atoms_spec (ws := wm_X5_failureBean) B.pre
  have htb := fun (w : Cond) (h : w ∈ tb) => hts w (List.mem_cons_of_mem _ h)
  have hown : s.vm.findClass RX5 = some m.cls := findClass_of_methodNamed B.named
  have hlocks := B.notSynchronized
  subst hsz
  have hD := hD0.self (sz := s.heap.size)
  generalize hAe : va_A [(h0, .inr (5, [.ref a6, .ref a1, .ref a7, .ref mk1, .ref mk2, .int 0, .ref mk3, .int 0, .ref mk4, .ref mk5, .null, .int 0, .int (-1)]))] s.heap.size = A at hD ⊢
  have hA : ∀ q : Nat, s.heap.size ≤ q → A q := fun q h => by rw [← hAe]; exact Or.inr h
  have hS : va_S A s.heap s.heap [] := va_S.rf
  have hP : va_P (dC, dI) vwCl [(h0, .inr (5, [.ref a6, .ref a1, .ref a7, .ref mk1, .ref mk2, .int 0, .ref mk3, .int 0, .ref mk4, .ref mk5, .null, .int 0, .int (-1)]))] s.heap := hP
  have hl := lv_entry ([.ref h0]) (n := 1) (Nat.le_of_ble_eq_true rfl)
  rw [lg_entry_eq]
  generalize (lg_sl ([.ref h0]) ++ List.replicate (1 - (lg_sl ([.ref h0])).length) Slot.unset).toArray = ls at hl ⊢
  have hl : lv_has ls 1 [(0, .ref h0)] := hl
  refine lv_aload_n hx hb dX5_failureBean_0 rfl (lv_at hl 0 rfl) ?_
  refine va_get (D := (dC, dI)) (ci := 5) (v := .int (-1)) (C := RX5) (T := TX5) (N := 13) hx hb htb inX5 hown hK hP 0 rfl rfl 12 (by decide) (htb _ kw_224) (fun _ h9 => h9) rfl dX5_failureBean_1 ?_
  have hP9 := hP.sub (ws' := []) [] rfl
  have hD9 := hD.sub (ws' := []) [] (by decide) rfl
  have hK9 := hK.sub (tys' := []) [] rfl
  refine W.widen (k := 0) (n := 0) (Nat.le_of_ble_eq_true rfl) (Nat.le_of_ble_eq_true rfl) ?_
  exact W.iret (v := (-1)) hx hb hr (fun t ht hW => ⟨⟨(-1), (), rfl, (rfl), by rw [ht]; exact hP9, va_K.moved hW.alike hK9, hD9⟩, hS.F ht⟩) hS.2.2 dX5_failureBean_4

set_option maxHeartbeats 4000000 in
set_option maxRecDepth 100000 in
theorem c_X5_forgetFailure (l : Launch) (dC : Nat → ClassId) (dI : Nat → Nat → Nat) (sz : Nat) (h0 : Nat) (a6 : Nat) (a1 : Nat) (a7 : Nat) (mk1 : Nat) (mk2 : Nat) (mk3 : Nat) (mk4 : Nat) (mk5 : Nat) : Met l yX5_forgetFailure wm_X5_forgetFailure ({ frames := 0, cells := 0, slots := 0, locals := 0 }) (va_Pc [.ref h0] (fun U => U.heap.size = sz ∧ va_P (dC, dI) vwCl [(h0, .inr (5, [.ref a6, .ref a1, .ref a7, .ref mk1, .ref mk2, .int 0, .ref mk3, .int 0, .ref mk4, .ref mk5, .null, .int 0, .int (-1)]))] U.heap ∧ va_K (dC, dI) vwCl [] U ∧ va_D (fun _ => True) [(h0, .inr (5, [.ref a6, .ref a1, .ref a7, .ref mk1, .ref mk2, .int 0, .ref mk3, .int 0, .ref mk4, .ref mk5, .null, .int 0, .int (-1)]))])) (va_Qv (fun _ : Unit => True) (fun _ t => va_P (dC, dI) vwCl [] t.heap ∧ va_K (dC, dI) vwCl [] t ∧ va_D (va_A [(h0, .inr (5, [.ref a6, .ref a1, .ref a7, .ref mk1, .ref mk2, .int 0, .ref mk3, .int 0, .ref mk4, .ref mk5, .null, .int 0, .int (-1)]))] sz) []) (va_A [(h0, .inr (5, [.ref a6, .ref a1, .ref a7, .ref mk1, .ref mk2, .int 0, .ref mk3, .int 0, .ref mk4, .ref mk5, .null, .int 0, .int (-1)]))] sz)) 0 0 (va_A [(h0, .inr (5, [.ref a6, .ref a1, .ref a7, .ref mk1, .ref mk2, .int 0, .ref mk3, .int 0, .ref mk4, .ref mk5, .null, .int 0, .int (-1)]))] sz) := by
  refine Met.ofW (cc := cX5_forgetFailure) (maxL := 1) (ret := none) (by decide) rfl ?_
  intro p e s m args below meth c s₁ B hml hv
  obtain ⟨rfl, hsz, hP, hK, hD0⟩ := hv
  have hx := B.exec
  have hb := B.bytes
  have hr := B.returns
  have hts := atoms_spec (ws := wm_X5_forgetFailure) B.pre
  have htb := fun (w : Cond) (h : w ∈ tb) => hts w (List.mem_cons_of_mem _ h)
  have hown : s.vm.findClass RX5 = some m.cls := findClass_of_methodNamed B.named
  have hlocks := B.notSynchronized
  subst hsz
  have hD := hD0.self (sz := s.heap.size)
  generalize hAe : va_A [(h0, .inr (5, [.ref a6, .ref a1, .ref a7, .ref mk1, .ref mk2, .int 0, .ref mk3, .int 0, .ref mk4, .ref mk5, .null, .int 0, .int (-1)]))] s.heap.size = A at hD ⊢
  have hA : ∀ q : Nat, s.heap.size ≤ q → A q := fun q h => by rw [← hAe]; exact Or.inr h
  have hS : va_S A s.heap s.heap [] := va_S.rf
  have hP : va_P (dC, dI) vwCl [(h0, .inr (5, [.ref a6, .ref a1, .ref a7, .ref mk1, .ref mk2, .int 0, .ref mk3, .int 0, .ref mk4, .ref mk5, .null, .int 0, .int (-1)]))] s.heap := hP
  have hl := lv_entry ([.ref h0]) (n := 1) (Nat.le_of_ble_eq_true rfl)
  rw [lg_entry_eq]
  generalize (lg_sl ([.ref h0]) ++ List.replicate (1 - (lg_sl ([.ref h0])).length) Slot.unset).toArray = ls at hl ⊢
  have hl : lv_has ls 1 [(0, .ref h0)] := hl
  refine lv_aload_n hx hb dX5_forgetFailure_0 rfl (lv_at hl 0 rfl) ?_
  refine lv_iconst (v := 0) hx hb dX5_forgetFailure_1 (by decide) ?_
  refine va_put (D := (dC, dI)) (ci := 5) (v := .int 0) (ty := .int) (C := RX5) (T := TX5) (N := 13) hx hb htb inX5 tyX5 tyX5_ok nmX5 hown hK hP hD hS 0 rfl rfl 11 (by decide) (htb _ kw_235) (fun _ h9 => h9) rfl (tyX5_ok 11 (by decide)) rfl rfl (Nat.le_of_ble_eq_true rfl) dX5_forgetFailure_2 (fun H locs hP hD hS => ?_)
  have hP : va_P (dC, dI) vwCl [(h0, .inr (5, [.ref a6, .ref a1, .ref a7, .ref mk1, .ref mk2, .int 0, .ref mk3, .int 0, .ref mk4, .ref mk5, .null, .int 0, .int (-1)]))] H := hP
  have hD : va_D A [(h0, .inr (5, [.ref a6, .ref a1, .ref a7, .ref mk1, .ref mk2, .int 0, .ref mk3, .int 0, .ref mk4, .ref mk5, .null, .int 0, .int (-1)]))] := hD
  refine lv_aload_n hx hb dX5_forgetFailure_5 rfl (lv_at hl 0 rfl) ?_
  refine lv_iconst (v := (-1)) hx hb dX5_forgetFailure_6 (by decide) ?_
  refine va_put (D := (dC, dI)) (ci := 5) (v := .int (-1)) (ty := .int) (C := RX5) (T := TX5) (N := 13) hx hb htb inX5 tyX5 tyX5_ok nmX5 hown hK hP hD hS 0 rfl rfl 12 (by decide) (htb _ kw_224) (fun _ h9 => h9) rfl (tyX5_ok 12 (by decide)) rfl rfl (Nat.le_of_ble_eq_true rfl) dX5_forgetFailure_7 (fun H locs hP hD hS => ?_)
  have hP : va_P (dC, dI) vwCl [(h0, .inr (5, [.ref a6, .ref a1, .ref a7, .ref mk1, .ref mk2, .int 0, .ref mk3, .int 0, .ref mk4, .ref mk5, .null, .int 0, .int (-1)]))] H := hP
  have hD : va_D A [(h0, .inr (5, [.ref a6, .ref a1, .ref a7, .ref mk1, .ref mk2, .int 0, .ref mk3, .int 0, .ref mk4, .ref mk5, .null, .int 0, .int (-1)]))] := hD
  have hP9 := hP.sub (ws' := []) [] rfl
  have hD9 := hD.sub (ws' := []) [] (by decide) rfl
  have hK9 := hK.sub (tys' := []) [] rfl
  refine W.widen (k := 0) (n := 0) (Nat.le_of_ble_eq_true rfl) (Nat.le_of_ble_eq_true rfl) ?_
  exact W.vret hx hb hr (fun t ht hW => ⟨⟨(), rfl, trivial, by rw [ht]; exact hP9, va_K.moved hW.alike hK9, hD9⟩, hS.F ht⟩) hS.2.2 dX5_forgetFailure_10

set_option maxHeartbeats 4000000 in
set_option maxRecDepth 100000 in
theorem c_X5_forgetMade (l : Launch) (dC : Nat → ClassId) (dI : Nat → Nat → Nat) (sz : Nat) (h0 : Nat) (a6 : Nat) (a1 : Nat) (a7 : Nat) (mk1 : Nat) (mk2 : Nat) (mk3 : Nat) (mk4 : Nat) (mk5 : Nat) (a3 : Nat) (wb : Nat) (wc : Nat) : Met l yX5_forgetMade wm_X5_forgetMade ({ frames := 1, cells := 0, slots := 0, locals := 20 }) (va_Pc [.ref h0] (fun U => U.heap.size = sz ∧ va_P (dC, dI) vwCl [(h0, .inr (5, [.ref a6, .ref a1, .ref a7, .ref mk1, .ref mk2, .int 0, .ref mk3, .int 0, .ref mk4, .ref mk5, .null, .int 0, .int (-1)])), (a6, .inr (10, [.ref a3, .ref wb, .ref wc, .int 0]))] U.heap ∧ va_K (dC, dI) vwCl [] U ∧ va_D (fun _ => True) [(h0, .inr (5, [.ref a6, .ref a1, .ref a7, .ref mk1, .ref mk2, .int 0, .ref mk3, .int 0, .ref mk4, .ref mk5, .null, .int 0, .int (-1)])), (a6, .inr (10, [.ref a3, .ref wb, .ref wc, .int 0]))])) (va_Qv (fun _ : Unit => True) (fun _ t => va_P (dC, dI) vwCl [(h0, .inr (5, [.ref a6, .ref a1, .ref a7, .ref mk1, .ref mk2, .int 0, .ref mk3, .int 0, .ref mk4, .ref mk5, .null, .int 0, .int (-1)])), (a6, .inr (10, [.ref a3, .ref wb, .ref wc, .int 0]))] t.heap ∧ va_K (dC, dI) vwCl [] t ∧ va_D (va_A [(h0, .inr (5, [.ref a6, .ref a1, .ref a7, .ref mk1, .ref mk2, .int 0, .ref mk3, .int 0, .ref mk4, .ref mk5, .null, .int 0, .int (-1)])), (a6, .inr (10, [.ref a3, .ref wb, .ref wc, .int 0]))] sz) [(h0, .inr (5, [.ref a6, .ref a1, .ref a7, .ref mk1, .ref mk2, .int 0, .ref mk3, .int 0, .ref mk4, .ref mk5, .null, .int 0, .int (-1)])), (a6, .inr (10, [.ref a3, .ref wb, .ref wc, .int 0]))]) (va_A [(h0, .inr (5, [.ref a6, .ref a1, .ref a7, .ref mk1, .ref mk2, .int 0, .ref mk3, .int 0, .ref mk4, .ref mk5, .null, .int 0, .int (-1)])), (a6, .inr (10, [.ref a3, .ref wb, .ref wc, .int 0]))] sz)) 0 0 (va_A [(h0, .inr (5, [.ref a6, .ref a1, .ref a7, .ref mk1, .ref mk2, .int 0, .ref mk3, .int 0, .ref mk4, .ref mk5, .null, .int 0, .int (-1)])), (a6, .inr (10, [.ref a3, .ref wb, .ref wc, .int 0]))] sz) := by
  refine Met.ofW (cc := cX5_forgetMade) (maxL := 2) (ret := none) (by decide) rfl ?_
  intro p e s m args below meth c s₁ B hml hv
  obtain ⟨rfl, hsz, hP, hK, hD0⟩ := hv
  have hx := B.exec
  have hb := B.bytes
  have hr := B.returns
  have hts := atoms_spec (ws := wm_X5_forgetMade) B.pre
  have htb := fun (w : Cond) (h : w ∈ tb) => hts w (List.mem_cons_of_mem _ h)
  have hown : s.vm.findClass RX5 = some m.cls := findClass_of_methodNamed B.named
  have hlocks := B.notSynchronized
  subst hsz
  have hD := hD0.self (sz := s.heap.size)
  generalize hAe : va_A [(h0, .inr (5, [.ref a6, .ref a1, .ref a7, .ref mk1, .ref mk2, .int 0, .ref mk3, .int 0, .ref mk4, .ref mk5, .null, .int 0, .int (-1)])), (a6, .inr (10, [.ref a3, .ref wb, .ref wc, .int 0]))] s.heap.size = A at hD ⊢
  have hA : ∀ q : Nat, s.heap.size ≤ q → A q := fun q h => by rw [← hAe]; exact Or.inr h
  have hS : va_S A s.heap s.heap [] := va_S.rf
  have hP : va_P (dC, dI) vwCl [(h0, .inr (5, [.ref a6, .ref a1, .ref a7, .ref mk1, .ref mk2, .int 0, .ref mk3, .int 0, .ref mk4, .ref mk5, .null, .int 0, .int (-1)])), (a6, .inr (10, [.ref a3, .ref wb, .ref wc, .int 0]))] s.heap := hP
  have hl := lv_entry ([.ref h0]) (n := 2) (Nat.le_of_ble_eq_true rfl)
  rw [lg_entry_eq]
  generalize (lg_sl ([.ref h0]) ++ List.replicate (2 - (lg_sl ([.ref h0])).length) Slot.unset).toArray = ls at hl ⊢
  have hl : lv_has ls 2 [(0, .ref h0)] := hl
  refine lv_iconst (v := 0) hx hb dX5_forgetMade_0 (by decide) ?_
  refine lv_istore_n (lv' := [(1, .int 0), (0, .ref h0)]) hx hb dX5_forgetMade_1 rfl hl (by decide) rfl (fun ls hl => ?_)
  refine lv_iload_n hx hb dX5_forgetMade_2 rfl (lv_at hl 0 rfl) ?_
  refine lv_aload_n hx hb dX5_forgetMade_3 rfl (lv_at hl 1 rfl) ?_
  refine va_get (D := (dC, dI)) (ci := 5) (v := .ref a6) (C := RX5) (T := TX5) (N := 13) hx hb htb inX5 hown hK hP 0 rfl rfl 0 (by decide) (htb _ kw_215) (fun _ h9 => h9) rfl dX5_forgetMade_4 ?_
  have hPc := hP.sub (ws' := [(a6, .inr (10, [.ref a3, .ref wb, .ref wc, .int 0]))]) [1] rfl
  have hDc := hD.sub (ws' := [(a6, .inr (10, [.ref a3, .ref wb, .ref wc, .int 0]))]) [1] (by decide) rfl
  have hKc := hK.sub (tys' := []) [] rfl
  have hFc := va_free (wc := [(a6, .inr (10, [.ref a3, .ref wb, .ref wc, .int 0]))]) hD hS hA [1] rfl
  refine va_calli (va_runV (As := []) (rest := [.int 0]) ⟨hx, hb, hml, hown, htb⟩ (c_X10_count l dC dI s.heap.size a6 a3 wb wc) (cwV 0 htb (gd_V kw_232 kw_86 kw_87 kw_29 kw_548) rfl rfl rfl (by decide +kernel) ⟨Nat.le_of_ble_eq_true rfl, Nat.le_of_ble_eq_true rfl⟩) ⟨fun a U g mk q => by obtain ⟨q0, q1, qP, qK, qD⟩ := q; exact ⟨q0, q1, qP, va_K.moved (u := U) (U := U.calling g mk a) (Vm.Alike.refl U.vm) qK, qD⟩, va_recv hKc hPc (ci := 10) (q0 := 0) rfl rfl, fun U hU hW => ⟨rfl, by rw [hU], by rw [hU]; exact hPc, va_K.moved hW.alike hKc, hDc.weaken (fun _ _ _ _ => trivial)⟩⟩ rfl rfl hl.1 rfl (lv_room (Nat.le_of_ble_eq_true rfl)) dX5_forgetMade_7 ⟨(Nat.le_of_ble_eq_true rfl), (Nat.le_of_ble_eq_true rfl)⟩) hS (fun q _ h => hFc q h) hFc (fun r u t H1 locs ht hvm hw hB hz1 hk1 hS => ?_)
  subst hw
  obtain ⟨hP1, hK1, hD1⟩ := hB
  rw [ht] at hP1
  have hK1 := va_K.moved hvm.symm hK1
  obtain ⟨hP, hD⟩ := va_join (wr := [(h0, .inr (5, [.ref a6, .ref a1, .ref a7, .ref mk1, .ref mk2, .int 0, .ref mk3, .int 0, .ref mk4, .ref mk5, .null, .int 0, .int (-1)]))]) (w1 := [(a6, .inr (10, [.ref a3, .ref wb, .ref wc, .int 0]))]) hP hD [1] [0] rfl rfl (by decide) (by decide) hk1 hFc hP1 hD1
  have hK := hK.app hK1
  generalize H1 = H at hP hS ⊢
  have hP : va_P (dC, dI) vwCl [(h0, .inr (5, [.ref a6, .ref a1, .ref a7, .ref mk1, .ref mk2, .int 0, .ref mk3, .int 0, .ref mk4, .ref mk5, .null, .int 0, .int (-1)])), (a6, .inr (10, [.ref a3, .ref wb, .ref wc, .int 0]))] H := hP
  have hD : va_D A [(h0, .inr (5, [.ref a6, .ref a1, .ref a7, .ref mk1, .ref mk2, .int 0, .ref mk3, .int 0, .ref mk4, .ref mk5, .null, .int 0, .int (-1)])), (a6, .inr (10, [.ref a3, .ref wb, .ref wc, .int 0]))] := hD
  have hK : va_K (dC, dI) vwCl [] s := hK
  refine W.widen (k := 0) (n := 0) (Nat.le_of_ble_eq_true rfl) (Nat.le_of_ble_eq_true rfl) ?_
  refine lv_icmp_ge (tgt := 31) hx hb dX5_forgetMade_10 (by decide) (fun _ => ?_) (fun c_1 => absurd (by decide) c_1)
  refine lv_aload_n hx hb dX5_forgetMade_31 rfl (lv_at hl 1 rfl) ?_
  refine lv_iconst (v := 0) hx hb dX5_forgetMade_32 (by decide) ?_
  refine va_put (D := (dC, dI)) (ci := 5) (v := .int 0) (ty := .int) (C := RX5) (T := TX5) (N := 13) hx hb htb inX5 tyX5 tyX5_ok nmX5 hown hK hP hD hS 0 rfl rfl 7 (by decide) (htb _ kw_234) (fun _ h9 => h9) rfl (tyX5_ok 7 (by decide)) rfl rfl (Nat.le_of_ble_eq_true rfl) dX5_forgetMade_33 (fun H locs hP hD hS => ?_)
  have hP : va_P (dC, dI) vwCl [(h0, .inr (5, [.ref a6, .ref a1, .ref a7, .ref mk1, .ref mk2, .int 0, .ref mk3, .int 0, .ref mk4, .ref mk5, .null, .int 0, .int (-1)])), (a6, .inr (10, [.ref a3, .ref wb, .ref wc, .int 0]))] H := hP
  have hD : va_D A [(h0, .inr (5, [.ref a6, .ref a1, .ref a7, .ref mk1, .ref mk2, .int 0, .ref mk3, .int 0, .ref mk4, .ref mk5, .null, .int 0, .int (-1)])), (a6, .inr (10, [.ref a3, .ref wb, .ref wc, .int 0]))] := hD
  have hP9 := hP.sub (ws' := [(h0, .inr (5, [.ref a6, .ref a1, .ref a7, .ref mk1, .ref mk2, .int 0, .ref mk3, .int 0, .ref mk4, .ref mk5, .null, .int 0, .int (-1)])), (a6, .inr (10, [.ref a3, .ref wb, .ref wc, .int 0]))]) [0, 1] rfl
  have hD9 := hD.sub (ws' := [(h0, .inr (5, [.ref a6, .ref a1, .ref a7, .ref mk1, .ref mk2, .int 0, .ref mk3, .int 0, .ref mk4, .ref mk5, .null, .int 0, .int (-1)])), (a6, .inr (10, [.ref a3, .ref wb, .ref wc, .int 0]))]) [0, 1] (by decide) rfl
  have hK9 := hK.sub (tys' := []) [] rfl
  refine W.widen (k := 0) (n := 0) (Nat.le_of_ble_eq_true rfl) (Nat.le_of_ble_eq_true rfl) ?_
  exact W.vret hx hb hr (fun t ht hW => ⟨⟨(), rfl, trivial, by rw [ht]; exact hP9, va_K.moved hW.alike hK9, hD9⟩, hS.F ht⟩) hS.2.2 dX5_forgetMade_36

set_option maxHeartbeats 4000000 in
set_option maxRecDepth 100000 in
theorem c_X5_destroyAll (l : Launch) (dC : Nat → ClassId) (dI : Nat → Nat → Nat) (sz : Nat) (h0 : Nat) (a6 : Nat) (a1 : Nat) (a7 : Nat) (mk1 : Nat) (mk2 : Nat) (mk3 : Nat) (mk4 : Nat) (mk5 : Nat) (a3 : Nat) (wb : Nat) (wc : Nat) : Met l yX5_destroyAll wm_X5_destroyAll ({ frames := 2, cells := 0, slots := 0, locals := 41 }) (va_Pc [.ref h0] (fun U => U.heap.size = sz ∧ va_P (dC, dI) vwCl [(h0, .inr (5, [.ref a6, .ref a1, .ref a7, .ref mk1, .ref mk2, .int 0, .ref mk3, .int 0, .ref mk4, .ref mk5, .null, .int 0, .int (-1)])), (a6, .inr (10, [.ref a3, .ref wb, .ref wc, .int 0]))] U.heap ∧ va_K (dC, dI) vwCl [] U ∧ va_D (fun _ => True) [(h0, .inr (5, [.ref a6, .ref a1, .ref a7, .ref mk1, .ref mk2, .int 0, .ref mk3, .int 0, .ref mk4, .ref mk5, .null, .int 0, .int (-1)])), (a6, .inr (10, [.ref a3, .ref wb, .ref wc, .int 0]))])) (va_Qv (fun _ : Unit => True) (fun _ t => va_P (dC, dI) vwCl [] t.heap ∧ va_K (dC, dI) vwCl [] t ∧ va_D (va_A [(h0, .inr (5, [.ref a6, .ref a1, .ref a7, .ref mk1, .ref mk2, .int 0, .ref mk3, .int 0, .ref mk4, .ref mk5, .null, .int 0, .int (-1)])), (a6, .inr (10, [.ref a3, .ref wb, .ref wc, .int 0]))] sz) []) (va_A [(h0, .inr (5, [.ref a6, .ref a1, .ref a7, .ref mk1, .ref mk2, .int 0, .ref mk3, .int 0, .ref mk4, .ref mk5, .null, .int 0, .int (-1)])), (a6, .inr (10, [.ref a3, .ref wb, .ref wc, .int 0]))] sz)) 0 0 (va_A [(h0, .inr (5, [.ref a6, .ref a1, .ref a7, .ref mk1, .ref mk2, .int 0, .ref mk3, .int 0, .ref mk4, .ref mk5, .null, .int 0, .int (-1)])), (a6, .inr (10, [.ref a3, .ref wb, .ref wc, .int 0]))] sz) := by
  refine Met.ofW (cc := cX5_destroyAll) (maxL := 2) (ret := none) (by decide) rfl ?_
  intro p e s m args below meth c s₁ B hml hv
  obtain ⟨rfl, hsz, hP, hK, hD0⟩ := hv
  have hx := B.exec
  have hb := B.bytes
  have hr := B.returns
  have hts := atoms_spec (ws := wm_X5_destroyAll) B.pre
  have htb := fun (w : Cond) (h : w ∈ tb) => hts w (List.mem_cons_of_mem _ h)
  have hown : s.vm.findClass RX5 = some m.cls := findClass_of_methodNamed B.named
  have hlocks := B.notSynchronized
  subst hsz
  have hD := hD0.self (sz := s.heap.size)
  generalize hAe : va_A [(h0, .inr (5, [.ref a6, .ref a1, .ref a7, .ref mk1, .ref mk2, .int 0, .ref mk3, .int 0, .ref mk4, .ref mk5, .null, .int 0, .int (-1)])), (a6, .inr (10, [.ref a3, .ref wb, .ref wc, .int 0]))] s.heap.size = A at hD ⊢
  have hA : ∀ q : Nat, s.heap.size ≤ q → A q := fun q h => by rw [← hAe]; exact Or.inr h
  have hS : va_S A s.heap s.heap [] := va_S.rf
  have hP : va_P (dC, dI) vwCl [(h0, .inr (5, [.ref a6, .ref a1, .ref a7, .ref mk1, .ref mk2, .int 0, .ref mk3, .int 0, .ref mk4, .ref mk5, .null, .int 0, .int (-1)])), (a6, .inr (10, [.ref a3, .ref wb, .ref wc, .int 0]))] s.heap := hP
  have hl := lv_entry ([.ref h0]) (n := 2) (Nat.le_of_ble_eq_true rfl)
  rw [lg_entry_eq]
  generalize (lg_sl ([.ref h0]) ++ List.replicate (2 - (lg_sl ([.ref h0])).length) Slot.unset).toArray = ls at hl ⊢
  have hl : lv_has ls 2 [(0, .ref h0)] := hl
  refine lv_aload_n hx hb dX5_destroyAll_0 rfl (lv_at hl 0 rfl) ?_
  refine va_get (D := (dC, dI)) (ci := 5) (v := .int 0) (C := RX5) (T := TX5) (N := 13) hx hb htb inX5 hown hK hP 0 rfl rfl 7 (by decide) (htb _ kw_234) (fun _ h9 => h9) rfl dX5_destroyAll_1 ?_
  refine lv_iconst (v := 1) hx hb dX5_destroyAll_4 (by decide) ?_
  refine lv_isub hx hb dX5_destroyAll_5 ?_
  refine lv_topi (fun z_1 ez_1 => ?_)
  obtain rfl : z_1 = (-1) := ez_1.trans (by decide)
  refine lv_istore_n (lv' := [(1, .int (-1)), (0, .ref h0)]) hx hb dX5_destroyAll_6 rfl hl (by decide) rfl (fun ls hl => ?_)
  refine lv_iload_n hx hb dX5_destroyAll_7 rfl (lv_at hl 0 rfl) ?_
  refine lv_if_lt (tgt := 58) hx hb dX5_destroyAll_8 (by decide) (fun _ => ?_) (fun c_2 => absurd (by decide) c_2)
  refine lv_aload_n hx hb dX5_destroyAll_58 rfl (lv_at hl 1 rfl) ?_
  have hPc := hP.sub (ws' := [(h0, .inr (5, [.ref a6, .ref a1, .ref a7, .ref mk1, .ref mk2, .int 0, .ref mk3, .int 0, .ref mk4, .ref mk5, .null, .int 0, .int (-1)])), (a6, .inr (10, [.ref a3, .ref wb, .ref wc, .int 0]))]) [0, 1] rfl
  have hDc := hD.sub (ws' := [(h0, .inr (5, [.ref a6, .ref a1, .ref a7, .ref mk1, .ref mk2, .int 0, .ref mk3, .int 0, .ref mk4, .ref mk5, .null, .int 0, .int (-1)])), (a6, .inr (10, [.ref a3, .ref wb, .ref wc, .int 0]))]) [0, 1] (by decide) rfl
  have hKc := hK.sub (tys' := []) [] rfl
  have hFc := va_free (wc := [(h0, .inr (5, [.ref a6, .ref a1, .ref a7, .ref mk1, .ref mk2, .int 0, .ref mk3, .int 0, .ref mk4, .ref mk5, .null, .int 0, .int (-1)])), (a6, .inr (10, [.ref a3, .ref wb, .ref wc, .int 0]))]) hD hS hA [0, 1] rfl
  refine va_callv (va_runV (As := []) (rest := []) ⟨hx, hb, hml, hown, htb⟩ (c_X5_forgetMade l dC dI s.heap.size h0 a6 a1 a7 mk1 mk2 mk3 mk4 mk5 a3 wb wc) (cwV 0 htb (gd_V kw_226 kw_227 kw_228 kw_41 kw_568) rfl rfl rfl (by decide +kernel) ⟨Nat.le_of_ble_eq_true rfl, Nat.le_of_ble_eq_true rfl⟩) ⟨fun a U g mk q => by obtain ⟨q0, q1, qP, qK, qD⟩ := q; exact ⟨q0, q1, qP, va_K.moved (u := U) (U := U.calling g mk a) (Vm.Alike.refl U.vm) qK, qD⟩, va_recv hKc hPc (ci := 5) (q0 := 0) rfl rfl, fun U hU hW => ⟨rfl, by rw [hU], by rw [hU]; exact hPc, va_K.moved hW.alike hKc, hDc.weaken (fun _ _ _ _ => trivial)⟩⟩ rfl rfl hl.1 rfl (lv_room (Nat.le_of_ble_eq_true rfl)) dX5_destroyAll_59 ⟨(Nat.le_of_ble_eq_true rfl), (Nat.le_of_ble_eq_true rfl)⟩) hS (fun q _ h => hFc q h) hFc (fun u t H1 locs ht hvm hw hB hz1 hk1 hS => ?_)
  obtain ⟨hP1, hK1, hD1⟩ := hB
  rw [ht] at hP1
  have hK1 := va_K.moved hvm.symm hK1
  obtain ⟨hP, hD⟩ := va_join (wr := []) (w1 := [(h0, .inr (5, [.ref a6, .ref a1, .ref a7, .ref mk1, .ref mk2, .int 0, .ref mk3, .int 0, .ref mk4, .ref mk5, .null, .int 0, .int (-1)])), (a6, .inr (10, [.ref a3, .ref wb, .ref wc, .int 0]))]) hP hD [0, 1] [] rfl rfl (by decide) (by decide) hk1 hFc hP1 hD1
  have hK := hK.app hK1
  generalize H1 = H at hP hS ⊢
  have hP : va_P (dC, dI) vwCl [(h0, .inr (5, [.ref a6, .ref a1, .ref a7, .ref mk1, .ref mk2, .int 0, .ref mk3, .int 0, .ref mk4, .ref mk5, .null, .int 0, .int (-1)])), (a6, .inr (10, [.ref a3, .ref wb, .ref wc, .int 0]))] H := hP
  have hD : va_D A [(h0, .inr (5, [.ref a6, .ref a1, .ref a7, .ref mk1, .ref mk2, .int 0, .ref mk3, .int 0, .ref mk4, .ref mk5, .null, .int 0, .int (-1)])), (a6, .inr (10, [.ref a3, .ref wb, .ref wc, .int 0]))] := hD
  have hK : va_K (dC, dI) vwCl [] s := hK
  refine W.widen (k := 0) (n := 0) (Nat.le_of_ble_eq_true rfl) (Nat.le_of_ble_eq_true rfl) ?_
  have hP9 := hP.sub (ws' := []) [] rfl
  have hD9 := hD.sub (ws' := []) [] (by decide) rfl
  have hK9 := hK.sub (tys' := []) [] rfl
  refine W.widen (k := 0) (n := 0) (Nat.le_of_ble_eq_true rfl) (Nat.le_of_ble_eq_true rfl) ?_
  exact W.vret hx hb hr (fun t ht hW => ⟨⟨(), rfl, trivial, by rw [ht]; exact hP9, va_K.moved hW.alike hK9, hD9⟩, hS.F ht⟩) hS.2.2 dX5_destroyAll_62

set_option maxHeartbeats 4000000 in
set_option maxRecDepth 100000 in
theorem c_X5_startAfresh (l : Launch) (dC : Nat → ClassId) (dI : Nat → Nat → Nat) (sz : Nat) (h0 : Nat) (a6 : Nat) (a1 : Nat) (a7 : Nat) (mk1 : Nat) (mk2 : Nat) (mk3 : Nat) (mk4 : Nat) (mk5 : Nat) (a3 : Nat) (wb : Nat) (wc : Nat) (rn : Nat) : Met l yX5_startAfresh wm_X5_startAfresh ({ frames := 2, cells := 0, slots := 0, locals := 41 }) (va_Pc [.ref h0] (fun U => U.heap.size = sz ∧ va_P (dC, dI) vwCl [(h0, .inr (5, [.ref a6, .ref a1, .ref a7, .ref mk1, .ref mk2, .int 0, .ref mk3, .int 0, .ref mk4, .ref mk5, .null, .int 0, .int (-1)])), (a6, .inr (10, [.ref a3, .ref wb, .ref wc, .int 0])), (a7, .inr (4, [.ref rn, .int 0]))] U.heap ∧ va_K (dC, dI) vwCl [] U ∧ va_D (fun _ => True) [(h0, .inr (5, [.ref a6, .ref a1, .ref a7, .ref mk1, .ref mk2, .int 0, .ref mk3, .int 0, .ref mk4, .ref mk5, .null, .int 0, .int (-1)])), (a6, .inr (10, [.ref a3, .ref wb, .ref wc, .int 0])), (a7, .inr (4, [.ref rn, .int 0]))])) (va_Qv (fun _ : Unit => True) (fun _ t => va_P (dC, dI) vwCl [(a6, .inr (10, [.ref a3, .ref wb, .ref wc, .int 0]))] t.heap ∧ va_K (dC, dI) vwCl [] t ∧ va_D (va_A [(h0, .inr (5, [.ref a6, .ref a1, .ref a7, .ref mk1, .ref mk2, .int 0, .ref mk3, .int 0, .ref mk4, .ref mk5, .null, .int 0, .int (-1)])), (a6, .inr (10, [.ref a3, .ref wb, .ref wc, .int 0])), (a7, .inr (4, [.ref rn, .int 0]))] sz) [(a6, .inr (10, [.ref a3, .ref wb, .ref wc, .int 0]))]) (va_A [(h0, .inr (5, [.ref a6, .ref a1, .ref a7, .ref mk1, .ref mk2, .int 0, .ref mk3, .int 0, .ref mk4, .ref mk5, .null, .int 0, .int (-1)])), (a6, .inr (10, [.ref a3, .ref wb, .ref wc, .int 0])), (a7, .inr (4, [.ref rn, .int 0]))] sz)) 0 0 (va_A [(h0, .inr (5, [.ref a6, .ref a1, .ref a7, .ref mk1, .ref mk2, .int 0, .ref mk3, .int 0, .ref mk4, .ref mk5, .null, .int 0, .int (-1)])), (a6, .inr (10, [.ref a3, .ref wb, .ref wc, .int 0])), (a7, .inr (4, [.ref rn, .int 0]))] sz) := by
  refine Met.ofW (cc := cX5_startAfresh) (maxL := 1) (ret := none) (by decide) rfl ?_
  intro p e s m args below meth c s₁ B hml hv
  obtain ⟨rfl, hsz, hP, hK, hD0⟩ := hv
  have hx := B.exec
  have hb := B.bytes
  have hr := B.returns
  have hts := atoms_spec (ws := wm_X5_startAfresh) B.pre
  have htb := fun (w : Cond) (h : w ∈ tb) => hts w (List.mem_cons_of_mem _ h)
  have hown : s.vm.findClass RX5 = some m.cls := findClass_of_methodNamed B.named
  have hlocks := B.notSynchronized
  subst hsz
  have hD := hD0.self (sz := s.heap.size)
  generalize hAe : va_A [(h0, .inr (5, [.ref a6, .ref a1, .ref a7, .ref mk1, .ref mk2, .int 0, .ref mk3, .int 0, .ref mk4, .ref mk5, .null, .int 0, .int (-1)])), (a6, .inr (10, [.ref a3, .ref wb, .ref wc, .int 0])), (a7, .inr (4, [.ref rn, .int 0]))] s.heap.size = A at hD ⊢
  have hA : ∀ q : Nat, s.heap.size ≤ q → A q := fun q h => by rw [← hAe]; exact Or.inr h
  have hS : va_S A s.heap s.heap [] := va_S.rf
  have hP : va_P (dC, dI) vwCl [(h0, .inr (5, [.ref a6, .ref a1, .ref a7, .ref mk1, .ref mk2, .int 0, .ref mk3, .int 0, .ref mk4, .ref mk5, .null, .int 0, .int (-1)])), (a6, .inr (10, [.ref a3, .ref wb, .ref wc, .int 0])), (a7, .inr (4, [.ref rn, .int 0]))] s.heap := hP
  have hl := lv_entry ([.ref h0]) (n := 1) (Nat.le_of_ble_eq_true rfl)
  rw [lg_entry_eq]
  generalize (lg_sl ([.ref h0]) ++ List.replicate (1 - (lg_sl ([.ref h0])).length) Slot.unset).toArray = ls at hl ⊢
  have hl : lv_has ls 1 [(0, .ref h0)] := hl
  refine lv_aload_n hx hb dX5_startAfresh_0 rfl (lv_at hl 0 rfl) ?_
  refine lv_iconst (v := 0) hx hb dX5_startAfresh_1 (by decide) ?_
  refine va_put (D := (dC, dI)) (ci := 5) (v := .int 0) (ty := .int) (C := RX5) (T := TX5) (N := 13) hx hb htb inX5 tyX5 tyX5_ok nmX5 hown hK hP hD hS 0 rfl rfl 5 (by decide) (htb _ kw_225) (fun _ h9 => h9) rfl (tyX5_ok 5 (by decide)) rfl rfl (Nat.le_of_ble_eq_true rfl) dX5_startAfresh_2 (fun H locs hP hD hS => ?_)
  have hP : va_P (dC, dI) vwCl [(h0, .inr (5, [.ref a6, .ref a1, .ref a7, .ref mk1, .ref mk2, .int 0, .ref mk3, .int 0, .ref mk4, .ref mk5, .null, .int 0, .int (-1)])), (a6, .inr (10, [.ref a3, .ref wb, .ref wc, .int 0])), (a7, .inr (4, [.ref rn, .int 0]))] H := hP
  have hD : va_D A [(h0, .inr (5, [.ref a6, .ref a1, .ref a7, .ref mk1, .ref mk2, .int 0, .ref mk3, .int 0, .ref mk4, .ref mk5, .null, .int 0, .int (-1)])), (a6, .inr (10, [.ref a3, .ref wb, .ref wc, .int 0])), (a7, .inr (4, [.ref rn, .int 0]))] := hD
  refine lv_aload_n hx hb dX5_startAfresh_5 rfl (lv_at hl 0 rfl) ?_
  have hPc := hP.sub (ws' := [(h0, .inr (5, [.ref a6, .ref a1, .ref a7, .ref mk1, .ref mk2, .int 0, .ref mk3, .int 0, .ref mk4, .ref mk5, .null, .int 0, .int (-1)])), (a6, .inr (10, [.ref a3, .ref wb, .ref wc, .int 0]))]) [0, 1] rfl
  have hDc := hD.sub (ws' := [(h0, .inr (5, [.ref a6, .ref a1, .ref a7, .ref mk1, .ref mk2, .int 0, .ref mk3, .int 0, .ref mk4, .ref mk5, .null, .int 0, .int (-1)])), (a6, .inr (10, [.ref a3, .ref wb, .ref wc, .int 0]))]) [0, 1] (by decide) rfl
  have hKc := hK.sub (tys' := []) [] rfl
  have hFc := va_free (wc := [(h0, .inr (5, [.ref a6, .ref a1, .ref a7, .ref mk1, .ref mk2, .int 0, .ref mk3, .int 0, .ref mk4, .ref mk5, .null, .int 0, .int (-1)])), (a6, .inr (10, [.ref a3, .ref wb, .ref wc, .int 0]))]) hD hS hA [0, 1] rfl
  refine va_callv (va_runV (As := []) (rest := []) ⟨hx, hb, hml, hown, htb⟩ (c_X5_forgetMade l dC dI H.size h0 a6 a1 a7 mk1 mk2 mk3 mk4 mk5 a3 wb wc) (cwV 0 htb (gd_V kw_226 kw_227 kw_228 kw_41 kw_568) rfl rfl rfl (by decide +kernel) ⟨Nat.le_of_ble_eq_true rfl, Nat.le_of_ble_eq_true rfl⟩) ⟨fun a U g mk q => by obtain ⟨q0, q1, qP, qK, qD⟩ := q; exact ⟨q0, q1, qP, va_K.moved (u := U) (U := U.calling g mk a) (Vm.Alike.refl U.vm) qK, qD⟩, va_recv hKc hPc (ci := 5) (q0 := 0) rfl rfl, fun U hU hW => ⟨rfl, by rw [hU], by rw [hU]; exact hPc, va_K.moved hW.alike hKc, hDc.weaken (fun _ _ _ _ => trivial)⟩⟩ rfl rfl hl.1 rfl (lv_room (Nat.le_of_ble_eq_true rfl)) dX5_startAfresh_6 ⟨(Nat.le_of_ble_eq_true rfl), (Nat.le_of_ble_eq_true rfl)⟩) hS (fun q _ h => hFc q h) hFc (fun u t H1 locs ht hvm hw hB hz1 hk1 hS => ?_)
  obtain ⟨hP1, hK1, hD1⟩ := hB
  rw [ht] at hP1
  have hK1 := va_K.moved hvm.symm hK1
  obtain ⟨hP, hD⟩ := va_join (wr := [(a7, .inr (4, [.ref rn, .int 0]))]) (w1 := [(h0, .inr (5, [.ref a6, .ref a1, .ref a7, .ref mk1, .ref mk2, .int 0, .ref mk3, .int 0, .ref mk4, .ref mk5, .null, .int 0, .int (-1)])), (a6, .inr (10, [.ref a3, .ref wb, .ref wc, .int 0]))]) hP hD [0, 1] [2] rfl rfl (by decide) (by decide) hk1 hFc hP1 hD1
  have hK := hK.app hK1
  generalize H1 = H at hP hS ⊢
  have hP : va_P (dC, dI) vwCl [(a7, .inr (4, [.ref rn, .int 0])), (h0, .inr (5, [.ref a6, .ref a1, .ref a7, .ref mk1, .ref mk2, .int 0, .ref mk3, .int 0, .ref mk4, .ref mk5, .null, .int 0, .int (-1)])), (a6, .inr (10, [.ref a3, .ref wb, .ref wc, .int 0]))] H := hP
  have hD : va_D A [(a7, .inr (4, [.ref rn, .int 0])), (h0, .inr (5, [.ref a6, .ref a1, .ref a7, .ref mk1, .ref mk2, .int 0, .ref mk3, .int 0, .ref mk4, .ref mk5, .null, .int 0, .int (-1)])), (a6, .inr (10, [.ref a3, .ref wb, .ref wc, .int 0]))] := hD
  have hK : va_K (dC, dI) vwCl [] s := hK
  refine W.widen (k := 0) (n := 0) (Nat.le_of_ble_eq_true rfl) (Nat.le_of_ble_eq_true rfl) ?_
  refine lv_aload_n hx hb dX5_startAfresh_9 rfl (lv_at hl 0 rfl) ?_
  refine va_get (D := (dC, dI)) (ci := 5) (v := .ref a7) (C := RX5) (T := TX5) (N := 13) hx hb htb inX5 hown hK hP 1 rfl rfl 2 (by decide) (htb _ kw_217) (fun _ h9 => h9) rfl dX5_startAfresh_10 ?_
  have hPc := hP.sub (ws' := [(a7, .inr (4, [.ref rn, .int 0]))]) [0] rfl
  have hDc := hD.sub (ws' := [(a7, .inr (4, [.ref rn, .int 0]))]) [0] (by decide) rfl
  have hKc := hK.sub (tys' := []) [] rfl
  have hFc := va_free (wc := [(a7, .inr (4, [.ref rn, .int 0]))]) hD hS hA [0] rfl
  refine va_callv (va_runV (As := []) (rest := []) ⟨hx, hb, hml, hown, htb⟩ (c_X4_clear l dC dI H.size a7 rn) (cwV 0 htb (gd_V kw_229 kw_230 kw_231 kw_35 kw_569) rfl rfl rfl (by decide +kernel) ⟨Nat.le_of_ble_eq_true rfl, Nat.le_of_ble_eq_true rfl⟩) ⟨fun a U g mk q => by obtain ⟨q0, q1, qP, qK, qD⟩ := q; exact ⟨q0, q1, qP, va_K.moved (u := U) (U := U.calling g mk a) (Vm.Alike.refl U.vm) qK, qD⟩, va_recv hKc hPc (ci := 4) (q0 := 0) rfl rfl, fun U hU hW => ⟨rfl, by rw [hU], by rw [hU]; exact hPc, va_K.moved hW.alike hKc, hDc.weaken (fun _ _ _ _ => trivial)⟩⟩ rfl rfl hl.1 rfl (lv_room (Nat.le_of_ble_eq_true rfl)) dX5_startAfresh_13 ⟨(Nat.le_of_ble_eq_true rfl), (Nat.le_of_ble_eq_true rfl)⟩) hS (fun q _ h => hFc q h) hFc (fun u t H1 locs ht hvm hw hB hz1 hk1 hS => ?_)
  obtain ⟨hP1, hK1, hD1⟩ := hB
  rw [ht] at hP1
  have hK1 := va_K.moved hvm.symm hK1
  obtain ⟨hP, hD⟩ := va_join (wr := [(h0, .inr (5, [.ref a6, .ref a1, .ref a7, .ref mk1, .ref mk2, .int 0, .ref mk3, .int 0, .ref mk4, .ref mk5, .null, .int 0, .int (-1)])), (a6, .inr (10, [.ref a3, .ref wb, .ref wc, .int 0]))]) (w1 := [(a7, .inr (4, [.ref rn, .int 0]))]) hP hD [0] [1, 2] rfl rfl (by decide) (by decide) hk1 hFc hP1 hD1
  have hK := hK.app hK1
  generalize H1 = H at hP hS ⊢
  have hP : va_P (dC, dI) vwCl [(h0, .inr (5, [.ref a6, .ref a1, .ref a7, .ref mk1, .ref mk2, .int 0, .ref mk3, .int 0, .ref mk4, .ref mk5, .null, .int 0, .int (-1)])), (a6, .inr (10, [.ref a3, .ref wb, .ref wc, .int 0])), (a7, .inr (4, [.ref rn, .int 0]))] H := hP
  have hD : va_D A [(h0, .inr (5, [.ref a6, .ref a1, .ref a7, .ref mk1, .ref mk2, .int 0, .ref mk3, .int 0, .ref mk4, .ref mk5, .null, .int 0, .int (-1)])), (a6, .inr (10, [.ref a3, .ref wb, .ref wc, .int 0])), (a7, .inr (4, [.ref rn, .int 0]))] := hD
  have hK : va_K (dC, dI) vwCl [] s := hK
  refine W.widen (k := 0) (n := 0) (Nat.le_of_ble_eq_true rfl) (Nat.le_of_ble_eq_true rfl) ?_
  have hP9 := hP.sub (ws' := [(a6, .inr (10, [.ref a3, .ref wb, .ref wc, .int 0]))]) [1] rfl
  have hD9 := hD.sub (ws' := [(a6, .inr (10, [.ref a3, .ref wb, .ref wc, .int 0]))]) [1] (by decide) rfl
  have hK9 := hK.sub (tys' := []) [] rfl
  refine W.widen (k := 0) (n := 0) (Nat.le_of_ble_eq_true rfl) (Nat.le_of_ble_eq_true rfl) ?_
  exact W.vret hx hb hr (fun t ht hW => ⟨⟨(), rfl, trivial, by rw [ht]; exact hP9, va_K.moved hW.alike hK9, hD9⟩, hS.F ht⟩) hS.2.2 dX5_startAfresh_16

set_option maxHeartbeats 4000000 in
set_option maxRecDepth 100000 in
theorem c_X6_clear (l : Launch) (dC : Nat → ClassId) (dI : Nat → Nat → Nat) (sz : Nat) (h0 : Nat) (pe1 : Nat) (pe2 : Nat) (pe3 : Nat) (pe4 : Nat) (pe5 : Nat) : Met l yX6_clear wm_X6_clear ({ frames := 0, cells := 0, slots := 0, locals := 0 }) (va_Pc [.ref h0] (fun U => U.heap.size = sz ∧ va_P (dC, dI) vwCl [(h0, .inr (6, [.ref pe1, .ref pe2, .ref pe3, .ref pe4, .ref pe5, .int 0, .int 0, .int 0]))] U.heap ∧ va_K (dC, dI) vwCl [] U ∧ va_D (fun _ => True) [(h0, .inr (6, [.ref pe1, .ref pe2, .ref pe3, .ref pe4, .ref pe5, .int 0, .int 0, .int 0]))])) (va_Qv (fun _ : Unit => True) (fun _ t => va_P (dC, dI) vwCl [] t.heap ∧ va_K (dC, dI) vwCl [] t ∧ va_D (va_A [(h0, .inr (6, [.ref pe1, .ref pe2, .ref pe3, .ref pe4, .ref pe5, .int 0, .int 0, .int 0]))] sz) []) (va_A [(h0, .inr (6, [.ref pe1, .ref pe2, .ref pe3, .ref pe4, .ref pe5, .int 0, .int 0, .int 0]))] sz)) 0 0 (va_A [(h0, .inr (6, [.ref pe1, .ref pe2, .ref pe3, .ref pe4, .ref pe5, .int 0, .int 0, .int 0]))] sz) := by
  refine Met.ofW (cc := cX6_clear) (maxL := 1) (ret := none) (by decide) rfl ?_
  intro p e s m args below meth c s₁ B hml hv
  obtain ⟨rfl, hsz, hP, hK, hD0⟩ := hv
  have hx := B.exec
  have hb := B.bytes
  have hr := B.returns
  have hts := atoms_spec (ws := wm_X6_clear) B.pre
  have htb := fun (w : Cond) (h : w ∈ tb) => hts w (List.mem_cons_of_mem _ h)
  have hown : s.vm.findClass RX6 = some m.cls := findClass_of_methodNamed B.named
  have hlocks := B.notSynchronized
  subst hsz
  have hD := hD0.self (sz := s.heap.size)
  generalize hAe : va_A [(h0, .inr (6, [.ref pe1, .ref pe2, .ref pe3, .ref pe4, .ref pe5, .int 0, .int 0, .int 0]))] s.heap.size = A at hD ⊢
  have hA : ∀ q : Nat, s.heap.size ≤ q → A q := fun q h => by rw [← hAe]; exact Or.inr h
  have hS : va_S A s.heap s.heap [] := va_S.rf
  have hP : va_P (dC, dI) vwCl [(h0, .inr (6, [.ref pe1, .ref pe2, .ref pe3, .ref pe4, .ref pe5, .int 0, .int 0, .int 0]))] s.heap := hP
  have hl := lv_entry ([.ref h0]) (n := 1) (Nat.le_of_ble_eq_true rfl)
  rw [lg_entry_eq]
  generalize (lg_sl ([.ref h0]) ++ List.replicate (1 - (lg_sl ([.ref h0])).length) Slot.unset).toArray = ls at hl ⊢
  have hl : lv_has ls 1 [(0, .ref h0)] := hl
  refine lv_aload_n hx hb dX6_clear_0 rfl (lv_at hl 0 rfl) ?_
  refine lv_iconst (v := 0) hx hb dX6_clear_1 (by decide) ?_
  refine va_put (D := (dC, dI)) (ci := 6) (v := .int 0) (ty := .int) (C := RX6) (T := TX6) (N := 8) hx hb htb inX6 tyX6 tyX6_ok nmX6 hown hK hP hD hS 0 rfl rfl 5 (by decide) (htb _ kw_162) (fun _ h9 => h9) rfl (tyX6_ok 5 (by decide)) rfl rfl (Nat.le_of_ble_eq_true rfl) dX6_clear_2 (fun H locs hP hD hS => ?_)
  have hP : va_P (dC, dI) vwCl [(h0, .inr (6, [.ref pe1, .ref pe2, .ref pe3, .ref pe4, .ref pe5, .int 0, .int 0, .int 0]))] H := hP
  have hD : va_D A [(h0, .inr (6, [.ref pe1, .ref pe2, .ref pe3, .ref pe4, .ref pe5, .int 0, .int 0, .int 0]))] := hD
  refine lv_aload_n hx hb dX6_clear_5 rfl (lv_at hl 0 rfl) ?_
  refine lv_iconst (v := 0) hx hb dX6_clear_6 (by decide) ?_
  refine va_put (D := (dC, dI)) (ci := 6) (v := .int 0) (ty := .int) (C := RX6) (T := TX6) (N := 8) hx hb htb inX6 tyX6 tyX6_ok nmX6 hown hK hP hD hS 0 rfl rfl 6 (by decide) (htb _ kw_163) (fun _ h9 => h9) rfl (tyX6_ok 6 (by decide)) rfl rfl (Nat.le_of_ble_eq_true rfl) dX6_clear_7 (fun H locs hP hD hS => ?_)
  have hP : va_P (dC, dI) vwCl [(h0, .inr (6, [.ref pe1, .ref pe2, .ref pe3, .ref pe4, .ref pe5, .int 0, .int 0, .int 0]))] H := hP
  have hD : va_D A [(h0, .inr (6, [.ref pe1, .ref pe2, .ref pe3, .ref pe4, .ref pe5, .int 0, .int 0, .int 0]))] := hD
  refine lv_aload_n hx hb dX6_clear_10 rfl (lv_at hl 0 rfl) ?_
  refine lv_iconst (v := 0) hx hb dX6_clear_11 (by decide) ?_
  refine va_put (D := (dC, dI)) (ci := 6) (v := .int 0) (ty := .int) (C := RX6) (T := TX6) (N := 8) hx hb htb inX6 tyX6 tyX6_ok nmX6 hown hK hP hD hS 0 rfl rfl 7 (by decide) (htb _ kw_164) (fun _ h9 => h9) rfl (tyX6_ok 7 (by decide)) rfl rfl (Nat.le_of_ble_eq_true rfl) dX6_clear_12 (fun H locs hP hD hS => ?_)
  have hP : va_P (dC, dI) vwCl [(h0, .inr (6, [.ref pe1, .ref pe2, .ref pe3, .ref pe4, .ref pe5, .int 0, .int 0, .int 0]))] H := hP
  have hD : va_D A [(h0, .inr (6, [.ref pe1, .ref pe2, .ref pe3, .ref pe4, .ref pe5, .int 0, .int 0, .int 0]))] := hD
  have hP9 := hP.sub (ws' := []) [] rfl
  have hD9 := hD.sub (ws' := []) [] (by decide) rfl
  have hK9 := hK.sub (tys' := []) [] rfl
  refine W.widen (k := 0) (n := 0) (Nat.le_of_ble_eq_true rfl) (Nat.le_of_ble_eq_true rfl) ?_
  exact W.vret hx hb hr (fun t ht hW => ⟨⟨(), rfl, trivial, by rw [ht]; exact hP9, va_K.moved hW.alike hK9, hD9⟩, hS.F ht⟩) hS.2.2 dX6_clear_15

set_option maxHeartbeats 4000000 in
set_option maxRecDepth 100000 in
theorem c_X7_skipsWhite (l : Launch) (dC : Nat → ClassId) (dI : Nat → Nat → Nat) (sz : Nat) (h0 : Nat) (a3 : Nat) (a2 : Nat) : Met l yX7_skipsWhite wm_X7_skipsWhite ({ frames := 0, cells := 0, slots := 0, locals := 0 }) (va_Pc [.ref h0] (fun U => U.heap.size = sz ∧ va_P (dC, dI) vwCl [(h0, .inr (7, [.ref a3, .ref a2, .int 0, .int 0, .int 0, .null]))] U.heap ∧ va_K (dC, dI) vwCl [] U ∧ va_D (fun _ => True) [(h0, .inr (7, [.ref a3, .ref a2, .int 0, .int 0, .int 0, .null]))])) (va_Qi (fun (r : Int32) (_ : Unit) => r = 0) (fun _ t => va_P (dC, dI) vwCl [(h0, .inr (7, [.ref a3, .ref a2, .int 0, .int 0, .int 0, .null]))] t.heap ∧ va_K (dC, dI) vwCl [] t ∧ va_D (va_A [(h0, .inr (7, [.ref a3, .ref a2, .int 0, .int 0, .int 0, .null]))] sz) [(h0, .inr (7, [.ref a3, .ref a2, .int 0, .int 0, .int 0, .null]))]) (va_A [(h0, .inr (7, [.ref a3, .ref a2, .int 0, .int 0, .int 0, .null]))] sz)) 0 0 (va_A [(h0, .inr (7, [.ref a3, .ref a2, .int 0, .int 0, .int 0, .null]))] sz) := by
  refine Met.ofW (cc := cX7_skipsWhite) (maxL := 2) (ret := (some .boolean)) (by decide) rfl ?_
  intro p e s m args below meth c s₁ B hml hv
  obtain ⟨rfl, hsz, hP, hK, hD0⟩ := hv
  have hx := B.exec
  have hb := B.bytes
  have hr := B.returns
  have hts := atoms_spec (ws := wm_X7_skipsWhite) B.pre
  have htb := fun (w : Cond) (h : w ∈ tb) => hts w (List.mem_cons_of_mem _ h)
  have hown : s.vm.findClass RX7 = some m.cls := findClass_of_methodNamed B.named
  have hlocks := B.notSynchronized
  subst hsz
  have hD := hD0.self (sz := s.heap.size)
  generalize hAe : va_A [(h0, .inr (7, [.ref a3, .ref a2, .int 0, .int 0, .int 0, .null]))] s.heap.size = A at hD ⊢
  have hA : ∀ q : Nat, s.heap.size ≤ q → A q := fun q h => by rw [← hAe]; exact Or.inr h
  have hS : va_S A s.heap s.heap [] := va_S.rf
  have hP : va_P (dC, dI) vwCl [(h0, .inr (7, [.ref a3, .ref a2, .int 0, .int 0, .int 0, .null]))] s.heap := hP
  have hl := lv_entry ([.ref h0]) (n := 2) (Nat.le_of_ble_eq_true rfl)
  rw [lg_entry_eq]
  generalize (lg_sl ([.ref h0]) ++ List.replicate (2 - (lg_sl ([.ref h0])).length) Slot.unset).toArray = ls at hl ⊢
  have hl : lv_has ls 2 [(0, .ref h0)] := hl
  refine lv_aload_n hx hb dX7_skipsWhite_0 rfl (lv_at hl 0 rfl) ?_
  refine va_get (D := (dC, dI)) (ci := 7) (v := .int 0) (C := RX7) (T := TX7) (N := 6) hx hb htb inX7 hown hK hP 0 rfl rfl 3 (by decide) (htb _ kw_169) (fun _ h9 => h9) rfl dX7_skipsWhite_1 ?_
  refine lv_istore_n (lv' := [(1, .int 0), (0, .ref h0)]) hx hb dX7_skipsWhite_4 rfl hl (by decide) rfl (fun ls hl => ?_)
  refine lv_aload_n hx hb dX7_skipsWhite_5 rfl (lv_at hl 1 rfl) ?_
  refine va_get (D := (dC, dI)) (ci := 7) (v := .int 0) (C := RX7) (T := TX7) (N := 6) hx hb htb inX7 hown hK hP 0 rfl rfl 3 (by decide) (htb _ kw_169) (fun _ h9 => h9) rfl dX7_skipsWhite_6 ?_
  refine lv_aload_n hx hb dX7_skipsWhite_9 rfl (lv_at hl 1 rfl) ?_
  refine va_get (D := (dC, dI)) (ci := 7) (v := .int 0) (C := RX7) (T := TX7) (N := 6) hx hb htb inX7 hown hK hP 0 rfl rfl 2 (by decide) (htb _ kw_168) (fun _ h9 => h9) rfl dX7_skipsWhite_10 ?_
  refine lv_icmp_ge (tgt := 57) hx hb dX7_skipsWhite_13 (by decide) (fun _ => ?_) (fun c_1 => absurd (by decide) c_1)
  refine lv_aload_n hx hb dX7_skipsWhite_57 rfl (lv_at hl 1 rfl) ?_
  refine va_get (D := (dC, dI)) (ci := 7) (v := .int 0) (C := RX7) (T := TX7) (N := 6) hx hb htb inX7 hown hK hP 0 rfl rfl 3 (by decide) (htb _ kw_169) (fun _ h9 => h9) rfl dX7_skipsWhite_58 ?_
  refine lv_iload_n hx hb dX7_skipsWhite_61 rfl (lv_at hl 0 rfl) ?_
  refine lv_icmp_le (tgt := 69) hx hb dX7_skipsWhite_62 (by decide) (fun _ => ?_) (fun c_2 => absurd (by decide) c_2)
  refine lv_iconst (v := 0) hx hb dX7_skipsWhite_69 (by decide) ?_
  have hP9 := hP.sub (ws' := [(h0, .inr (7, [.ref a3, .ref a2, .int 0, .int 0, .int 0, .null]))]) [0] rfl
  have hD9 := hD.sub (ws' := [(h0, .inr (7, [.ref a3, .ref a2, .int 0, .int 0, .int 0, .null]))]) [0] (by decide) rfl
  have hK9 := hK.sub (tys' := []) [] rfl
  refine W.widen (k := 0) (n := 0) (Nat.le_of_ble_eq_true rfl) (Nat.le_of_ble_eq_true rfl) ?_
  exact W.zret (v := 0) hx hb hr rfl (fun t ht hW => ⟨⟨0, (), rfl, (rfl), by rw [ht]; exact hP9, va_K.moved hW.alike hK9, hD9⟩, hS.F ht⟩) hS.2.2 dX7_skipsWhite_70

set_option maxHeartbeats 4000000 in
set_option maxRecDepth 100000 in
theorem c_X7_skipAround (l : Launch) (dC : Nat → ClassId) (dI : Nat → Nat → Nat) (sz : Nat) (h0 : Nat) (a3 : Nat) (a2 : Nat) : Met l yX7_skipAround wm_X7_skipAround ({ frames := 1, cells := 0, slots := 0, locals := 21 }) (va_Pc [.ref h0] (fun U => U.heap.size = sz ∧ va_P (dC, dI) vwCl [(h0, .inr (7, [.ref a3, .ref a2, .int 0, .int 0, .int 0, .null]))] U.heap ∧ va_K (dC, dI) vwCl [] U ∧ va_D (fun _ => True) [(h0, .inr (7, [.ref a3, .ref a2, .int 0, .int 0, .int 0, .null]))])) (va_Qv (fun _ : Unit => True) (fun _ t => va_P (dC, dI) vwCl [(h0, .inr (7, [.ref a3, .ref a2, .int 0, .int 0, .int 0, .null]))] t.heap ∧ va_K (dC, dI) vwCl [] t ∧ va_D (va_A [(h0, .inr (7, [.ref a3, .ref a2, .int 0, .int 0, .int 0, .null]))] sz) [(h0, .inr (7, [.ref a3, .ref a2, .int 0, .int 0, .int 0, .null]))]) (va_A [(h0, .inr (7, [.ref a3, .ref a2, .int 0, .int 0, .int 0, .null]))] sz)) 0 0 (va_A [(h0, .inr (7, [.ref a3, .ref a2, .int 0, .int 0, .int 0, .null]))] sz) := by
  refine Met.ofW (cc := cX7_skipAround) (maxL := 2) (ret := none) (by decide) rfl ?_
  intro p e s m args below meth c s₁ B hml hv
  obtain ⟨rfl, hsz, hP, hK, hD0⟩ := hv
  have hx := B.exec
  have hb := B.bytes
  have hr := B.returns
  have hts := atoms_spec (ws := wm_X7_skipAround) B.pre
  have htb := fun (w : Cond) (h : w ∈ tb) => hts w (List.mem_cons_of_mem _ h)
  have hown : s.vm.findClass RX7 = some m.cls := findClass_of_methodNamed B.named
  have hlocks := B.notSynchronized
  subst hsz
  have hD := hD0.self (sz := s.heap.size)
  generalize hAe : va_A [(h0, .inr (7, [.ref a3, .ref a2, .int 0, .int 0, .int 0, .null]))] s.heap.size = A at hD ⊢
  have hA : ∀ q : Nat, s.heap.size ≤ q → A q := fun q h => by rw [← hAe]; exact Or.inr h
  have hS : va_S A s.heap s.heap [] := va_S.rf
  have hP : va_P (dC, dI) vwCl [(h0, .inr (7, [.ref a3, .ref a2, .int 0, .int 0, .int 0, .null]))] s.heap := hP
  have hl := lv_entry ([.ref h0]) (n := 2) (Nat.le_of_ble_eq_true rfl)
  rw [lg_entry_eq]
  generalize (lg_sl ([.ref h0]) ++ List.replicate (2 - (lg_sl ([.ref h0])).length) Slot.unset).toArray = ls at hl ⊢
  have hl : lv_has ls 2 [(0, .ref h0)] := hl
  refine lv_aload_n hx hb dX7_skipAround_0 rfl (lv_at hl 0 rfl) ?_
  have hPc := hP.sub (ws' := [(h0, .inr (7, [.ref a3, .ref a2, .int 0, .int 0, .int 0, .null]))]) [0] rfl
  have hDc := hD.sub (ws' := [(h0, .inr (7, [.ref a3, .ref a2, .int 0, .int 0, .int 0, .null]))]) [0] (by decide) rfl
  have hKc := hK.sub (tys' := []) [] rfl
  have hFc := va_free (wc := [(h0, .inr (7, [.ref a3, .ref a2, .int 0, .int 0, .int 0, .null]))]) hD hS hA [0] rfl
  refine va_calli (va_runV (As := []) (rest := []) ⟨hx, hb, hml, hown, htb⟩ (c_X7_skipsWhite l dC dI s.heap.size h0 a3 a2) (cwV 0 htb (gd_V kw_182 kw_183 kw_184 kw_17 kw_564) rfl rfl rfl (by decide +kernel) ⟨Nat.le_of_ble_eq_true rfl, Nat.le_of_ble_eq_true rfl⟩) ⟨fun a U g mk q => by obtain ⟨q0, q1, qP, qK, qD⟩ := q; exact ⟨q0, q1, qP, va_K.moved (u := U) (U := U.calling g mk a) (Vm.Alike.refl U.vm) qK, qD⟩, va_recv hKc hPc (ci := 7) (q0 := 0) rfl rfl, fun U hU hW => ⟨rfl, by rw [hU], by rw [hU]; exact hPc, va_K.moved hW.alike hKc, hDc.weaken (fun _ _ _ _ => trivial)⟩⟩ rfl rfl hl.1 rfl (lv_room (Nat.le_of_ble_eq_true rfl)) dX7_skipAround_1 ⟨(Nat.le_of_ble_eq_true rfl), (Nat.le_of_ble_eq_true rfl)⟩) hS (fun q _ h => hFc q h) hFc (fun r u t H1 locs ht hvm hw hB hz1 hk1 hS => ?_)
  subst hw
  obtain ⟨hP1, hK1, hD1⟩ := hB
  rw [ht] at hP1
  have hK1 := va_K.moved hvm.symm hK1
  obtain ⟨hP, hD⟩ := va_join (wr := []) (w1 := [(h0, .inr (7, [.ref a3, .ref a2, .int 0, .int 0, .int 0, .null]))]) hP hD [0] [] rfl rfl (by decide) (by decide) hk1 hFc hP1 hD1
  have hK := hK.app hK1
  generalize H1 = H at hP hS ⊢
  have hP : va_P (dC, dI) vwCl [(h0, .inr (7, [.ref a3, .ref a2, .int 0, .int 0, .int 0, .null]))] H := hP
  have hD : va_D A [(h0, .inr (7, [.ref a3, .ref a2, .int 0, .int 0, .int 0, .null]))] := hD
  have hK : va_K (dC, dI) vwCl [] s := hK
  refine W.widen (k := 0) (n := 0) (Nat.le_of_ble_eq_true rfl) (Nat.le_of_ble_eq_true rfl) ?_
  refine lv_pop hx hb dX7_skipAround_4 rfl ?_
  refine lv_iconst (v := 0) hx hb dX7_skipAround_5 (by decide) ?_
  refine lv_istore_n (lv' := [(1, .int 0), (0, .ref h0)]) hx hb dX7_skipAround_6 rfl hl (by decide) rfl (fun ls hl => ?_)
  refine lv_iload_n hx hb dX7_skipAround_7 rfl (lv_at hl 0 rfl) ?_
  refine lv_aload_n hx hb dX7_skipAround_8 rfl (lv_at hl 1 rfl) ?_
  refine va_get (D := (dC, dI)) (ci := 7) (v := .int 0) (C := RX7) (T := TX7) (N := 6) hx hb htb inX7 hown hK hP 0 rfl rfl 2 (by decide) (htb _ kw_168) (fun _ h9 => h9) rfl dX7_skipAround_9 ?_
  refine lv_icmp_ge (tgt := 58) hx hb dX7_skipAround_12 (by decide) (fun _ => ?_) (fun c_1 => absurd (by decide) c_1)
  have hP9 := hP.sub (ws' := [(h0, .inr (7, [.ref a3, .ref a2, .int 0, .int 0, .int 0, .null]))]) [0] rfl
  have hD9 := hD.sub (ws' := [(h0, .inr (7, [.ref a3, .ref a2, .int 0, .int 0, .int 0, .null]))]) [0] (by decide) rfl
  have hK9 := hK.sub (tys' := []) [] rfl
  refine W.widen (k := 0) (n := 0) (Nat.le_of_ble_eq_true rfl) (Nat.le_of_ble_eq_true rfl) ?_
  exact W.vret hx hb hr (fun t ht hW => ⟨⟨(), rfl, trivial, by rw [ht]; exact hP9, va_K.moved hW.alike hK9, hD9⟩, hS.F ht⟩) hS.2.2 dX7_skipAround_58

set_option maxHeartbeats 4000000 in
set_option maxRecDepth 100000 in
theorem c_X7_expect (l : Launch) (dC : Nat → ClassId) (dI : Nat → Nat → Nat) (sz : Nat) (h0 : Nat) (p0 : Int32) (a3 : Nat) (a2 : Nat) (hl9 : l.stackTraces = false) : vx_Met l yX7_expect wm_X7_expect ({ frames := 6, cells := 1, slots := 6, locals := 100 }) (va_Pc [.ref h0, .int p0] (fun U => U.heap.size = sz ∧ va_P (dC, dI) vwCl [(h0, .inr (7, [.ref a3, .ref a2, .int 0, .int 0, .int 0, .null]))] U.heap ∧ va_K (dC, dI) vwCl [] U ∧ va_D (fun _ => True) [(h0, .inr (7, [.ref a3, .ref a2, .int 0, .int 0, .int 0, .null]))] ∧ GE (va_A [(h0, .inr (7, [.ref a3, .ref a2, .int 0, .int 0, .int 0, .null]))] sz) U)) (va_Qv (fun _ : Unit => False) (fun _ _ => True) (va_A [(h0, .inr (7, [.ref a3, .ref a2, .int 0, .int 0, .int 0, .null]))] sz)) (vx_X (fun _ : Unit => True) (fun E _ t => E = "java/lang/IllegalArgumentException" ∧ va_P (dC, dI) vwCl [(h0, .inr (7, [.ref a3, .ref a2, .int 0, .int 0, .int 0, .null]))] t.heap ∧ va_K (dC, dI) vwCl [] t ∧ va_D (va_A [(h0, .inr (7, [.ref a3, .ref a2, .int 0, .int 0, .int 0, .null]))] sz) [(h0, .inr (7, [.ref a3, .ref a2, .int 0, .int 0, .int 0, .null]))]) (va_A [(h0, .inr (7, [.ref a3, .ref a2, .int 0, .int 0, .int 0, .null]))] sz)) 1 6 (va_A [(h0, .inr (7, [.ref a3, .ref a2, .int 0, .int 0, .int 0, .null]))] sz) := by
  refine vx_ofW (cc := cX7_expect) (maxL := 2) (ret := none) (by decide) rfl ?_
  intro p e s m args below meth c s₁ B hml hxt hv
  obtain ⟨rfl, hsz, hP, hK, hD0, hG⟩ := hv
  have hx := B.exec
  have hb := B.bytes
  have hr := B.returns
  have hts := atoms_spec (ws := wm_X7_expect) B.pre
  have htb := fun (w : Cond) (h : w ∈ tb) => hts w (List.mem_cons_of_mem _ h)
  have hown : s.vm.findClass RX7 = some m.cls := findClass_of_methodNamed B.named
  have hlocks := B.notSynchronized
  subst hsz
  have hD := hD0.self (sz := s.heap.size)
  generalize hAe : va_A [(h0, .inr (7, [.ref a3, .ref a2, .int 0, .int 0, .int 0, .null]))] s.heap.size = A at hD hG ⊢
  have hA : ∀ q : Nat, s.heap.size ≤ q → A q := fun q h => by rw [← hAe]; exact Or.inr h
  have hS : va_S A s.heap s.heap [] := va_S.rf
  have hP : va_P (dC, dI) vwCl [(h0, .inr (7, [.ref a3, .ref a2, .int 0, .int 0, .int 0, .null]))] s.heap := hP
  have hl := lv_entry ([.ref h0, .int p0]) (n := 2) (Nat.le_of_ble_eq_true rfl)
  rw [lg_entry_eq]
  generalize (lg_sl ([.ref h0, .int p0]) ++ List.replicate (2 - (lg_sl ([.ref h0, .int p0])).length) Slot.unset).toArray = ls at hl ⊢
  have hl : lv_has ls 2 [(0, .ref h0), (1, .int p0)] := hl
  refine lv_aload_n hx hb dX7_expect_0 rfl (lv_at hl 0 rfl) ?_
  refine va_get (D := (dC, dI)) (ci := 7) (v := .int 0) (C := RX7) (T := TX7) (N := 6) hx hb htb inX7 hown hK hP 0 rfl rfl 3 (by decide) (htb _ kw_169) (fun _ h9 => h9) rfl dX7_expect_1 ?_
  refine lv_aload_n hx hb dX7_expect_4 rfl (lv_at hl 0 rfl) ?_
  refine va_get (D := (dC, dI)) (ci := 7) (v := .int 0) (C := RX7) (T := TX7) (N := 6) hx hb htb inX7 hown hK hP 0 rfl rfl 2 (by decide) (htb _ kw_168) (fun _ h9 => h9) rfl dX7_expect_5 ?_
  refine lv_icmp_ge (tgt := 24) hx hb dX7_expect_8 (by decide) (fun _ => ?_) (fun c_1 => absurd (by decide) c_1)
  have hP9 := hP.sub (ws' := [(h0, .inr (7, [.ref a3, .ref a2, .int 0, .int 0, .int 0, .null]))]) [0] rfl
  have hD9 := hD.sub (ws' := [(h0, .inr (7, [.ref a3, .ref a2, .int 0, .int 0, .int 0, .null]))]) [0] (by decide) rfl
  have hK9 := hK.sub (tys' := []) [] rfl
  refine vx_throw0 (own := RX7) (cls := "java/lang/IllegalArgumentException") (names := ["java/lang/RuntimeException", "java/lang/Exception"]) (ik := 50) (ic := 52) (A := A) hx hb hl9 hown (by decide +kernel) (by decide +kernel) (htb _ kw_181) (htb _ kw_84) (vx_hat (fun w h => htb w (inT_2 w h)) inU_2 (vx_c (va_Nw.use rfl hG.2.1.1) (vx_c (va_Nw.use rfl hG.2.1.2.2.1) (vx_c (va_Nw.use rfl hG.2.1.2.2.2.1) (vx_c (va_Nw.use rfl hG.2.1.2.2.2.2) vx_n))))) (fun w hw => ?_) hG.2.2.2.1 hG.2.2.2.2 hS (by rw [hml]; exact hl.1) dX7_expect_24 dX7_expect_27 dX7_expect_28 dX7_expect_31 (fun x hx9 => (hxt x hx9).elim) (Nat.le_of_ble_eq_true rfl) (Nat.le_of_ble_eq_true rfl) (Nat.le_of_ble_eq_true rfl) (Nat.le_of_ble_eq_true rfl) hlocks (fun t ht1 hz2 hk2 => ⟨(), trivial, ⟨rfl, hP9.kept (fun k q hq => hk2 _ (vx_lt hP9 hq)), va_K.moved ht1 hK9, hD9⟩, ⟨Nat.le_trans hS.1 hz2, fun q h1 h2 => (hk2 q (Nat.lt_of_lt_of_le h1 hS.1)).trans (hS.2.1 q h1 h2)⟩⟩) hS.2.2 (Nat.le_of_ble_eq_true rfl) (Nat.le_of_ble_eq_true rfl)
  rcases List.mem_cons.mp hw with rfl | hw
  · rfl
  rcases List.mem_cons.mp hw with rfl | hw
  · rfl
  exact inV_2 w hw

set_option maxHeartbeats 4000000 in
set_option maxRecDepth 100000 in
theorem c_X7_openElement (l : Launch) (dC : Nat → ClassId) (dI : Nat → Nat → Nat) (sz : Nat) (h0 : Nat) (a3 : Nat) (a2 : Nat) (hl9 : l.stackTraces = false) : vx_Met l yX7_openElement wm_X7_openElement ({ frames := 7, cells := 1, slots := 6, locals := 121 }) (va_Pc [.ref h0] (fun U => U.heap.size = sz ∧ va_P (dC, dI) vwCl [(h0, .inr (7, [.ref a3, .ref a2, .int 0, .int 0, .int 0, .null]))] U.heap ∧ va_K (dC, dI) vwCl [] U ∧ va_D (fun _ => True) [(h0, .inr (7, [.ref a3, .ref a2, .int 0, .int 0, .int 0, .null]))] ∧ GE (va_A [(h0, .inr (7, [.ref a3, .ref a2, .int 0, .int 0, .int 0, .null]))] sz) U)) (va_Qv (fun _ : Unit => False) (fun _ _ => True) (va_A [(h0, .inr (7, [.ref a3, .ref a2, .int 0, .int 0, .int 0, .null]))] sz)) (vx_X (fun _ : Unit => True) (fun E _ t => E = "java/lang/IllegalArgumentException" ∧ va_P (dC, dI) vwCl [(h0, .inr (7, [.ref a3, .ref a2, .int 0, .int 0, .int 0, .null]))] t.heap ∧ va_K (dC, dI) vwCl [] t ∧ va_D (va_A [(h0, .inr (7, [.ref a3, .ref a2, .int 0, .int 0, .int 0, .null]))] sz) [(h0, .inr (7, [.ref a3, .ref a2, .int 0, .int 0, .int 0, .null]))]) (va_A [(h0, .inr (7, [.ref a3, .ref a2, .int 0, .int 0, .int 0, .null]))] sz)) 1 6 (va_A [(h0, .inr (7, [.ref a3, .ref a2, .int 0, .int 0, .int 0, .null]))] sz) := by
  refine vx_ofW (cc := cX7_openElement) (maxL := 5) (ret := none) (by decide) rfl ?_
  intro p e s m args below meth c s₁ B hml hxt hv
  obtain ⟨rfl, hsz, hP, hK, hD0, hG⟩ := hv
  have hx := B.exec
  have hb := B.bytes
  have hr := B.returns
  have hts := atoms_spec (ws := wm_X7_openElement) B.pre
  have htb := fun (w : Cond) (h : w ∈ tb) => hts w (List.mem_cons_of_mem _ h)
  have hown : s.vm.findClass RX7 = some m.cls := findClass_of_methodNamed B.named
  have hlocks := B.notSynchronized
  subst hsz
  have hD := hD0.self (sz := s.heap.size)
  generalize hAe : va_A [(h0, .inr (7, [.ref a3, .ref a2, .int 0, .int 0, .int 0, .null]))] s.heap.size = A at hD hG ⊢
  have hA : ∀ q : Nat, s.heap.size ≤ q → A q := fun q h => by rw [← hAe]; exact Or.inr h
  have hS : va_S A s.heap s.heap [] := va_S.rf
  have hP : va_P (dC, dI) vwCl [(h0, .inr (7, [.ref a3, .ref a2, .int 0, .int 0, .int 0, .null]))] s.heap := hP
  have hl := lv_entry ([.ref h0]) (n := 5) (Nat.le_of_ble_eq_true rfl)
  rw [lg_entry_eq]
  generalize (lg_sl ([.ref h0]) ++ List.replicate (5 - (lg_sl ([.ref h0])).length) Slot.unset).toArray = ls at hl ⊢
  have hl : lv_has ls 5 [(0, .ref h0)] := hl
  refine lv_aload_n hx hb dX7_openElement_0 rfl (lv_at hl 0 rfl) ?_
  refine va_get (D := (dC, dI)) (ci := 7) (v := .int 0) (C := RX7) (T := TX7) (N := 6) hx hb htb inX7 hown hK hP 0 rfl rfl 3 (by decide) (htb _ kw_169) (fun _ h9 => h9) rfl dX7_openElement_1 ?_
  refine lv_istore_n (lv' := [(1, .int 0), (0, .ref h0)]) hx hb dX7_openElement_4 rfl hl (by decide) rfl (fun ls hl => ?_)
  refine lv_aload_n hx hb dX7_openElement_5 rfl (lv_at hl 1 rfl) ?_
  refine lv_bipush (v := 60) hx hb dX7_openElement_6 (by decide) ?_
  have hPc := hP.sub (ws' := [(h0, .inr (7, [.ref a3, .ref a2, .int 0, .int 0, .int 0, .null]))]) [0] rfl
  have hDc := hD.sub (ws' := [(h0, .inr (7, [.ref a3, .ref a2, .int 0, .int 0, .int 0, .null]))]) [0] (by decide) rfl
  have hKc := hK.sub (tys' := []) [] rfl
  have hFc := va_free (wc := [(h0, .inr (7, [.ref a3, .ref a2, .int 0, .int 0, .int 0, .null]))]) hD hS hA [0] rfl
  refine vx_callv (vx_runV (As := [.int 60]) (rest := []) ⟨hx, hb, hml, hown, htb⟩ (c_X7_expect l dC dI s.heap.size h0 60 a3 a2 hl9) (cwV 1 htb (gd_V kw_185 kw_186 kw_187 kw_17 kw_565) rfl rfl rfl (by decide +kernel) ⟨Nat.le_of_ble_eq_true rfl, Nat.le_of_ble_eq_true rfl⟩) ⟨fun a U g mk q => by obtain ⟨q0, q1, qP, qK, qD, qG⟩ := q; exact ⟨q0, q1, qP, va_K.moved (u := U) (U := U.calling g mk a) (Vm.Alike.refl U.vm) qK, qD, GE.call g mk a qG⟩, va_recv hKc hPc (ci := 7) (q0 := 0) rfl rfl, fun U hU hW => ⟨rfl, by rw [hU], by rw [hU]; exact hPc, va_K.moved hW.alike hKc, hDc.weaken (fun _ _ _ _ => trivial), hG.go hS hFc hU hW⟩⟩ rfl rfl hl.1 rfl (lv_room (Nat.le_of_ble_eq_true rfl)) dX7_openElement_8 ⟨(Nat.le_of_ble_eq_true rfl), (Nat.le_of_ble_eq_true rfl)⟩) hS (fun q _ h => hFc q h) hFc (fun q _ h => hFc q h) (fun E ce q9 u t H1 locs ht hvm hw hB hz1 hk1 hS hce hcv hcl => ?_) (fun u t H1 locs ht hvm hw hB hz1 hk1 hS => ?_)
  · obtain ⟨hE, hB⟩ := hB
    obtain ⟨hP1, hK1, hD1⟩ := hB
    rw [ht] at hP1
    have hK1 := va_K.moved hvm.symm hK1
    obtain ⟨hP, hD⟩ := va_join (wr := []) (w1 := [(h0, .inr (7, [.ref a3, .ref a2, .int 0, .int 0, .int 0, .null]))]) hP hD [0] [] rfl rfl (by decide) (by decide) hk1 hFc hP1 hD1
    have hK := hK.app hK1
    generalize H1 = H at hP hS hce ⊢
    have hP : va_P (dC, dI) vwCl [(h0, .inr (7, [.ref a3, .ref a2, .int 0, .int 0, .int 0, .null]))] H := hP
    have hD : va_D A [(h0, .inr (7, [.ref a3, .ref a2, .int 0, .int 0, .int 0, .null]))] := hD
    have hK : va_K (dC, dI) vwCl [] s := hK
    refine vx_widen (k := 1) (n := 6) (Nat.le_of_ble_eq_true rfl) (Nat.le_of_ble_eq_true rfl) ?_
    have hP9 := hP.sub (ws' := [(h0, .inr (7, [.ref a3, .ref a2, .int 0, .int 0, .int 0, .null]))]) [0] rfl
    have hD9 := hD.sub (ws' := [(h0, .inr (7, [.ref a3, .ref a2, .int 0, .int 0, .int 0, .null]))]) [0] (by decide) rfl
    have hK9 := hK.sub (tys' := []) [] rfl
    exact vx_out (fun x hx9 => (hxt x hx9).elim) hlocks hce hcv hcl (fun t ht hal => ⟨(), trivial, ⟨hE, by rw [ht]; exact hP9, va_K.moved hal hK9, hD9⟩, hS.F ht⟩) hS.2.2 (Nat.le_of_ble_eq_true rfl) (Nat.le_of_ble_eq_true rfl)
  exact hw.elim

set_option maxHeartbeats 4000000 in
set_option maxRecDepth 100000 in
theorem c_X7_firstWrongPlace (l : Launch) (dC : Nat → ClassId) (dI : Nat → Nat → Nat) (sz : Nat) (h0 : Nat) (a2 : Nat) (a3 : Nat) (pe1 : Nat) (pe2 : Nat) (pe3 : Nat) (pe4 : Nat) (pe5 : Nat) (hl9 : l.stackTraces = false) : vx_Met l yX7_firstWrongPlace wm_X7_firstWrongPlace ({ frames := 8, cells := 1, slots := 6, locals := 145 }) (va_Pc [.ref h0, .ref a2, .int 0] (fun U => U.heap.size = sz ∧ va_P (dC, dI) vwCl [(h0, .inr (7, [.ref a3, .null, .int 0, .int 0, .int 0, .null])), (a3, .inr (6, [.ref pe1, .ref pe2, .ref pe3, .ref pe4, .ref pe5, .int 0, .int 0, .int 0]))] U.heap ∧ va_K (dC, dI) vwCl [] U ∧ va_D (fun _ => True) [(h0, .inr (7, [.ref a3, .null, .int 0, .int 0, .int 0, .null])), (a3, .inr (6, [.ref pe1, .ref pe2, .ref pe3, .ref pe4, .ref pe5, .int 0, .int 0, .int 0]))] ∧ GE (va_A [(h0, .inr (7, [.ref a3, .null, .int 0, .int 0, .int 0, .null])), (a3, .inr (6, [.ref pe1, .ref pe2, .ref pe3, .ref pe4, .ref pe5, .int 0, .int 0, .int 0]))] sz) U)) (va_Qi (fun (r : Int32) (_ : Unit) => r = 0) (fun _ t => va_P (dC, dI) vwCl [] t.heap ∧ va_K (dC, dI) vwCl [] t ∧ va_D (va_A [(h0, .inr (7, [.ref a3, .null, .int 0, .int 0, .int 0, .null])), (a3, .inr (6, [.ref pe1, .ref pe2, .ref pe3, .ref pe4, .ref pe5, .int 0, .int 0, .int 0]))] sz) []) (va_A [(h0, .inr (7, [.ref a3, .null, .int 0, .int 0, .int 0, .null])), (a3, .inr (6, [.ref pe1, .ref pe2, .ref pe3, .ref pe4, .ref pe5, .int 0, .int 0, .int 0]))] sz)) (vx_X (fun _ : Unit => False) (fun _ _ _ => True) (va_A [(h0, .inr (7, [.ref a3, .null, .int 0, .int 0, .int 0, .null])), (a3, .inr (6, [.ref pe1, .ref pe2, .ref pe3, .ref pe4, .ref pe5, .int 0, .int 0, .int 0]))] sz)) 1 6 (va_A [(h0, .inr (7, [.ref a3, .null, .int 0, .int 0, .int 0, .null])), (a3, .inr (6, [.ref pe1, .ref pe2, .ref pe3, .ref pe4, .ref pe5, .int 0, .int 0, .int 0]))] sz) := by
  refine vx_ofWH (cc := cX7_firstWrongPlace) (maxL := 4) (ret := (some .int)) (by decide) rfl ?_
  intro p e s m args below meth c s₁ B hml hv
  obtain ⟨rfl, hsz, hP, hK, hD0, hG⟩ := hv
  have hx := B.exec
  have hb := B.bytes
  have hr := B.returns
  have hts := atoms_spec (ws := wm_X7_firstWrongPlace) B.pre
  have htb := fun (w : Cond) (h : w ∈ tb) => hts w (List.mem_cons_of_mem _ h)
  have hown : s.vm.findClass RX7 = some m.cls := findClass_of_methodNamed B.named
  have hlocks := B.notSynchronized
  have hxt := vx_table (x := yX7_firstWrongPlace) B (hts _ List.mem_cons_self)
  subst hsz
  have hD := hD0.self (sz := s.heap.size)
  generalize hAe : va_A [(h0, .inr (7, [.ref a3, .null, .int 0, .int 0, .int 0, .null])), (a3, .inr (6, [.ref pe1, .ref pe2, .ref pe3, .ref pe4, .ref pe5, .int 0, .int 0, .int 0]))] s.heap.size = A at hD hG ⊢
  have hA : ∀ q : Nat, s.heap.size ≤ q → A q := fun q h => by rw [← hAe]; exact Or.inr h
  have hS : va_S A s.heap s.heap [] := va_S.rf
  have hP : va_P (dC, dI) vwCl [(h0, .inr (7, [.ref a3, .null, .int 0, .int 0, .int 0, .null])), (a3, .inr (6, [.ref pe1, .ref pe2, .ref pe3, .ref pe4, .ref pe5, .int 0, .int 0, .int 0]))] s.heap := hP
  have hl := lv_entry ([.ref h0, .ref a2, .int 0]) (n := 4) (Nat.le_of_ble_eq_true rfl)
  rw [lg_entry_eq]
  generalize (lg_sl ([.ref h0, .ref a2, .int 0]) ++ List.replicate (4 - (lg_sl ([.ref h0, .ref a2, .int 0])).length) Slot.unset).toArray = ls at hl ⊢
  have hl : lv_has ls 4 [(0, .ref h0), (1, .ref a2), (2, .int 0)] := hl
  refine lv_aload_n hx hb dX7_firstWrongPlace_0 rfl (lv_at hl 0 rfl) ?_
  refine lv_aload_n hx hb dX7_firstWrongPlace_1 rfl (lv_at hl 1 rfl) ?_
  refine va_put (D := (dC, dI)) (ci := 7) (v := .ref a2) (ty := .array .char) (C := RX7) (T := TX7) (N := 6) hx hb htb inX7 tyX7 tyX7_ok nmX7 hown hK hP hD hS 0 rfl rfl 1 (by decide) (htb _ kw_167) (fun _ h9 => h9) rfl (tyX7_ok 1 (by decide)) rfl rfl (Nat.le_of_ble_eq_true rfl) dX7_firstWrongPlace_2 (fun H locs hP hD hS => ?_)
  have hP : va_P (dC, dI) vwCl [(h0, .inr (7, [.ref a3, .ref a2, .int 0, .int 0, .int 0, .null])), (a3, .inr (6, [.ref pe1, .ref pe2, .ref pe3, .ref pe4, .ref pe5, .int 0, .int 0, .int 0]))] H := hP
  have hD : va_D A [(h0, .inr (7, [.ref a3, .ref a2, .int 0, .int 0, .int 0, .null])), (a3, .inr (6, [.ref pe1, .ref pe2, .ref pe3, .ref pe4, .ref pe5, .int 0, .int 0, .int 0]))] := hD
  refine lv_aload_n hx hb dX7_firstWrongPlace_5 rfl (lv_at hl 0 rfl) ?_
  refine lv_iload_n hx hb dX7_firstWrongPlace_6 rfl (lv_at hl 2 rfl) ?_
  refine va_put (D := (dC, dI)) (ci := 7) (v := .int 0) (ty := .int) (C := RX7) (T := TX7) (N := 6) hx hb htb inX7 tyX7 tyX7_ok nmX7 hown hK hP hD hS 0 rfl rfl 2 (by decide) (htb _ kw_168) (fun _ h9 => h9) rfl (tyX7_ok 2 (by decide)) rfl rfl (Nat.le_of_ble_eq_true rfl) dX7_firstWrongPlace_7 (fun H locs hP hD hS => ?_)
  have hP : va_P (dC, dI) vwCl [(h0, .inr (7, [.ref a3, .ref a2, .int 0, .int 0, .int 0, .null])), (a3, .inr (6, [.ref pe1, .ref pe2, .ref pe3, .ref pe4, .ref pe5, .int 0, .int 0, .int 0]))] H := hP
  have hD : va_D A [(h0, .inr (7, [.ref a3, .ref a2, .int 0, .int 0, .int 0, .null])), (a3, .inr (6, [.ref pe1, .ref pe2, .ref pe3, .ref pe4, .ref pe5, .int 0, .int 0, .int 0]))] := hD
  refine lv_aload_n hx hb dX7_firstWrongPlace_10 rfl (lv_at hl 0 rfl) ?_
  refine lv_iconst (v := 0) hx hb dX7_firstWrongPlace_11 (by decide) ?_
  refine va_put (D := (dC, dI)) (ci := 7) (v := .int 0) (ty := .int) (C := RX7) (T := TX7) (N := 6) hx hb htb inX7 tyX7 tyX7_ok nmX7 hown hK hP hD hS 0 rfl rfl 3 (by decide) (htb _ kw_169) (fun _ h9 => h9) rfl (tyX7_ok 3 (by decide)) rfl rfl (Nat.le_of_ble_eq_true rfl) dX7_firstWrongPlace_12 (fun H locs hP hD hS => ?_)
  have hP : va_P (dC, dI) vwCl [(h0, .inr (7, [.ref a3, .ref a2, .int 0, .int 0, .int 0, .null])), (a3, .inr (6, [.ref pe1, .ref pe2, .ref pe3, .ref pe4, .ref pe5, .int 0, .int 0, .int 0]))] H := hP
  have hD : va_D A [(h0, .inr (7, [.ref a3, .ref a2, .int 0, .int 0, .int 0, .null])), (a3, .inr (6, [.ref pe1, .ref pe2, .ref pe3, .ref pe4, .ref pe5, .int 0, .int 0, .int 0]))] := hD
  refine lv_aload_n hx hb dX7_firstWrongPlace_15 rfl (lv_at hl 0 rfl) ?_
  refine lv_iconst (v := 0) hx hb dX7_firstWrongPlace_16 (by decide) ?_
  refine va_put (D := (dC, dI)) (ci := 7) (v := .int 0) (ty := .int) (C := RX7) (T := TX7) (N := 6) hx hb htb inX7 tyX7 tyX7_ok nmX7 hown hK hP hD hS 0 rfl rfl 4 (by decide) (htb _ kw_170) (fun _ h9 => h9) rfl (tyX7_ok 4 (by decide)) rfl rfl (Nat.le_of_ble_eq_true rfl) dX7_firstWrongPlace_17 (fun H locs hP hD hS => ?_)
  have hP : va_P (dC, dI) vwCl [(h0, .inr (7, [.ref a3, .ref a2, .int 0, .int 0, .int 0, .null])), (a3, .inr (6, [.ref pe1, .ref pe2, .ref pe3, .ref pe4, .ref pe5, .int 0, .int 0, .int 0]))] H := hP
  have hD : va_D A [(h0, .inr (7, [.ref a3, .ref a2, .int 0, .int 0, .int 0, .null])), (a3, .inr (6, [.ref pe1, .ref pe2, .ref pe3, .ref pe4, .ref pe5, .int 0, .int 0, .int 0]))] := hD
  refine lv_aload_n hx hb dX7_firstWrongPlace_20 rfl (lv_at hl 0 rfl) ?_
  refine lv_null hx hb dX7_firstWrongPlace_21 ?_
  refine va_put (D := (dC, dI)) (ci := 7) (v := .null) (ty := .object "WiredBeans$Element") (C := RX7) (T := TX7) (N := 6) hx hb htb inX7 tyX7 tyX7_ok nmX7 hown hK hP hD hS 0 rfl rfl 5 (by decide) (htb _ kw_171) (fun _ h9 => h9) rfl (tyX7_ok 5 (by decide)) rfl rfl (Nat.le_of_ble_eq_true rfl) dX7_firstWrongPlace_22 (fun H locs hP hD hS => ?_)
  have hP : va_P (dC, dI) vwCl [(h0, .inr (7, [.ref a3, .ref a2, .int 0, .int 0, .int 0, .null])), (a3, .inr (6, [.ref pe1, .ref pe2, .ref pe3, .ref pe4, .ref pe5, .int 0, .int 0, .int 0]))] H := hP
  have hD : va_D A [(h0, .inr (7, [.ref a3, .ref a2, .int 0, .int 0, .int 0, .null])), (a3, .inr (6, [.ref pe1, .ref pe2, .ref pe3, .ref pe4, .ref pe5, .int 0, .int 0, .int 0]))] := hD
  refine lv_aload_n hx hb dX7_firstWrongPlace_25 rfl (lv_at hl 0 rfl) ?_
  refine va_get (D := (dC, dI)) (ci := 7) (v := .ref a3) (C := RX7) (T := TX7) (N := 6) hx hb htb inX7 hown hK hP 0 rfl rfl 0 (by decide) (htb _ kw_166) (fun _ h9 => h9) rfl dX7_firstWrongPlace_26 ?_
  have hPc := hP.sub (ws' := [(a3, .inr (6, [.ref pe1, .ref pe2, .ref pe3, .ref pe4, .ref pe5, .int 0, .int 0, .int 0]))]) [1] rfl
  have hDc := hD.sub (ws' := [(a3, .inr (6, [.ref pe1, .ref pe2, .ref pe3, .ref pe4, .ref pe5, .int 0, .int 0, .int 0]))]) [1] (by decide) rfl
  have hKc := hK.sub (tys' := []) [] rfl
  have hFc := va_free (wc := [(a3, .inr (6, [.ref pe1, .ref pe2, .ref pe3, .ref pe4, .ref pe5, .int 0, .int 0, .int 0]))]) hD hS hA [1] rfl
  refine va_callv (va_runV (As := []) (rest := []) ⟨hx, hb, hml, hown, htb⟩ (c_X6_clear l dC dI H.size a3 pe1 pe2 pe3 pe4 pe5) (cwV 0 htb (gd_V kw_172 kw_173 kw_174 kw_11 kw_561) rfl rfl rfl (by decide +kernel) ⟨Nat.le_of_ble_eq_true rfl, Nat.le_of_ble_eq_true rfl⟩) ⟨fun a U g mk q => by obtain ⟨q0, q1, qP, qK, qD⟩ := q; exact ⟨q0, q1, qP, va_K.moved (u := U) (U := U.calling g mk a) (Vm.Alike.refl U.vm) qK, qD⟩, va_recv hKc hPc (ci := 6) (q0 := 0) rfl rfl, fun U hU hW => ⟨rfl, by rw [hU], by rw [hU]; exact hPc, va_K.moved hW.alike hKc, hDc.weaken (fun _ _ _ _ => trivial)⟩⟩ rfl rfl hl.1 rfl (lv_room (Nat.le_of_ble_eq_true rfl)) dX7_firstWrongPlace_29 ⟨(Nat.le_of_ble_eq_true rfl), (Nat.le_of_ble_eq_true rfl)⟩) hS (fun q _ h => hFc q h) hFc (fun u t H1 locs ht hvm hw hB hz1 hk1 hS => ?_)
  obtain ⟨hP1, hK1, hD1⟩ := hB
  rw [ht] at hP1
  have hK1 := va_K.moved hvm.symm hK1
  obtain ⟨hP, hD⟩ := va_join (wr := [(h0, .inr (7, [.ref a3, .ref a2, .int 0, .int 0, .int 0, .null]))]) (w1 := []) hP hD [1] [0] rfl rfl (by decide) (by decide) hk1 hFc hP1 hD1
  have hK := hK.app hK1
  generalize H1 = H at hP hS ⊢
  have hP : va_P (dC, dI) vwCl [(h0, .inr (7, [.ref a3, .ref a2, .int 0, .int 0, .int 0, .null]))] H := hP
  have hD : va_D A [(h0, .inr (7, [.ref a3, .ref a2, .int 0, .int 0, .int 0, .null]))] := hD
  have hK : va_K (dC, dI) vwCl [] s := hK
  refine W.widen (k := 0) (n := 0) (Nat.le_of_ble_eq_true rfl) (Nat.le_of_ble_eq_true rfl) ?_
  refine lv_aload_n hx hb dX7_firstWrongPlace_32 rfl (lv_at hl 0 rfl) ?_
  have hPc := hP.sub (ws' := [(h0, .inr (7, [.ref a3, .ref a2, .int 0, .int 0, .int 0, .null]))]) [0] rfl
  have hDc := hD.sub (ws' := [(h0, .inr (7, [.ref a3, .ref a2, .int 0, .int 0, .int 0, .null]))]) [0] (by decide) rfl
  have hKc := hK.sub (tys' := []) [] rfl
  have hFc := va_free (wc := [(h0, .inr (7, [.ref a3, .ref a2, .int 0, .int 0, .int 0, .null]))]) hD hS hA [0] rfl
  refine va_callv (va_runV (As := []) (rest := []) ⟨hx, hb, hml, hown, htb⟩ (c_X7_skipAround l dC dI H.size h0 a3 a2) (cwV 0 htb (gd_V kw_175 kw_176 kw_177 kw_17 kw_562) rfl rfl rfl (by decide +kernel) ⟨Nat.le_of_ble_eq_true rfl, Nat.le_of_ble_eq_true rfl⟩) ⟨fun a U g mk q => by obtain ⟨q0, q1, qP, qK, qD⟩ := q; exact ⟨q0, q1, qP, va_K.moved (u := U) (U := U.calling g mk a) (Vm.Alike.refl U.vm) qK, qD⟩, va_recv hKc hPc (ci := 7) (q0 := 0) rfl rfl, fun U hU hW => ⟨rfl, by rw [hU], by rw [hU]; exact hPc, va_K.moved hW.alike hKc, hDc.weaken (fun _ _ _ _ => trivial)⟩⟩ rfl rfl hl.1 rfl (lv_room (Nat.le_of_ble_eq_true rfl)) dX7_firstWrongPlace_33 ⟨(Nat.le_of_ble_eq_true rfl), (Nat.le_of_ble_eq_true rfl)⟩) hS (fun q _ h => hFc q h) hFc (fun u t H1 locs ht hvm hw hB hz1 hk1 hS => ?_)
  obtain ⟨hP1, hK1, hD1⟩ := hB
  rw [ht] at hP1
  have hK1 := va_K.moved hvm.symm hK1
  obtain ⟨hP, hD⟩ := va_join (wr := []) (w1 := [(h0, .inr (7, [.ref a3, .ref a2, .int 0, .int 0, .int 0, .null]))]) hP hD [0] [] rfl rfl (by decide) (by decide) hk1 hFc hP1 hD1
  have hK := hK.app hK1
  generalize H1 = H at hP hS ⊢
  have hP : va_P (dC, dI) vwCl [(h0, .inr (7, [.ref a3, .ref a2, .int 0, .int 0, .int 0, .null]))] H := hP
  have hD : va_D A [(h0, .inr (7, [.ref a3, .ref a2, .int 0, .int 0, .int 0, .null]))] := hD
  have hK : va_K (dC, dI) vwCl [] s := hK
  refine W.widen (k := 0) (n := 0) (Nat.le_of_ble_eq_true rfl) (Nat.le_of_ble_eq_true rfl) ?_
  refine lv_aload_n hx hb dX7_firstWrongPlace_36 rfl (lv_at hl 0 rfl) ?_
  have hPc := hP.sub (ws' := [(h0, .inr (7, [.ref a3, .ref a2, .int 0, .int 0, .int 0, .null]))]) [0] rfl
  have hDc := hD.sub (ws' := [(h0, .inr (7, [.ref a3, .ref a2, .int 0, .int 0, .int 0, .null]))]) [0] (by decide) rfl
  have hKc := hK.sub (tys' := []) [] rfl
  have hFc := va_free (wc := [(h0, .inr (7, [.ref a3, .ref a2, .int 0, .int 0, .int 0, .null]))]) hD hS hA [0] rfl
  refine vx_callv (vx_runV (As := []) (rest := []) ⟨hx, hb, hml, hown, htb⟩ (c_X7_openElement l dC dI H.size h0 a3 a2 hl9) (cwV 0 htb (gd_V kw_178 kw_179 kw_180 kw_17 kw_563) rfl rfl rfl (by decide +kernel) ⟨Nat.le_of_ble_eq_true rfl, Nat.le_of_ble_eq_true rfl⟩) ⟨fun a U g mk q => by obtain ⟨q0, q1, qP, qK, qD, qG⟩ := q; exact ⟨q0, q1, qP, va_K.moved (u := U) (U := U.calling g mk a) (Vm.Alike.refl U.vm) qK, qD, GE.call g mk a qG⟩, va_recv hKc hPc (ci := 7) (q0 := 0) rfl rfl, fun U hU hW => ⟨rfl, by rw [hU], by rw [hU]; exact hPc, va_K.moved hW.alike hKc, hDc.weaken (fun _ _ _ _ => trivial), hG.go hS hFc hU hW⟩⟩ rfl rfl hl.1 rfl (lv_room (Nat.le_of_ble_eq_true rfl)) dX7_firstWrongPlace_37 ⟨(Nat.le_of_ble_eq_true rfl), (Nat.le_of_ble_eq_true rfl)⟩) hS (fun q _ h => hFc q h) hFc (fun q _ h => hFc q h) (fun E ce q9 u t H1 locs ht hvm hw hB hz1 hk1 hS hce hcv hcl => ?_) (fun u t H1 locs ht hvm hw hB hz1 hk1 hS => ?_)
  · obtain ⟨hE, hB⟩ := hB
    obtain ⟨hP1, hK1, hD1⟩ := hB
    rw [ht] at hP1
    have hK1 := va_K.moved hvm.symm hK1
    obtain ⟨hP, hD⟩ := va_join (wr := []) (w1 := [(h0, .inr (7, [.ref a3, .ref a2, .int 0, .int 0, .int 0, .null]))]) hP hD [0] [] rfl rfl (by decide) (by decide) hk1 hFc hP1 hD1
    have hK := hK.app hK1
    generalize H1 = H at hP hS hce ⊢
    have hP : va_P (dC, dI) vwCl [(h0, .inr (7, [.ref a3, .ref a2, .int 0, .int 0, .int 0, .null]))] H := hP
    have hD : va_D A [(h0, .inr (7, [.ref a3, .ref a2, .int 0, .int 0, .int 0, .null]))] := hD
    have hK : va_K (dC, dI) vwCl [] s := hK
    refine vx_widen (k := 1) (n := 6) (Nat.le_of_ble_eq_true rfl) (Nat.le_of_ble_eq_true rfl) ?_
    subst hE
    refine mc_catch (own := RX7) (name := "java/lang/IllegalArgumentException") hown ⟨32, 75, 78, 50⟩ [] hxt (by decide) (by decide) (htb _ kw_181) (va_Nw.use rfl hG.2.1.1) hce hcv hcl ?_
    refine lv_astore_n (lv' := [(3, .ref q9), (0, .ref h0), (1, .ref a2), (2, .int 0)]) hx hb dX7_firstWrongPlace_78 rfl hl (by decide) rfl (fun ls hl => ?_)
    refine lv_aload_n hx hb dX7_firstWrongPlace_79 rfl (lv_at hl 1 rfl) ?_
    refine va_get (D := (dC, dI)) (ci := 7) (v := .int 0) (C := RX7) (T := TX7) (N := 6) hx hb htb inX7 hown hK hP 0 rfl rfl 3 (by decide) (htb _ kw_169) (fun _ h9 => h9) rfl dX7_firstWrongPlace_80 ?_
    have hP9 := hP.sub (ws' := []) [] rfl
    have hD9 := hD.sub (ws' := []) [] (by decide) rfl
    have hK9 := hK.sub (tys' := []) [] rfl
    refine W.widen (k := 1) (n := 6) (Nat.le_of_ble_eq_true rfl) (Nat.le_of_ble_eq_true rfl) ?_
    exact vx_ret (W.iret (v := 0) hx hb hr (fun t ht hW => ⟨⟨0, (), rfl, (rfl), by rw [ht]; exact hP9, va_K.moved hW.alike hK9, hD9⟩, hS.F ht⟩) hS.2.2 dX7_firstWrongPlace_83)
  exact hw.elim
