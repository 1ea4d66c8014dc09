set_option maxHeartbeats 4000000 in
set_option maxRecDepth 100000 in
theorem c_X12_typedBehind (l : Launch) (dC : Nat → ClassId) (dI : Nat → Nat → Nat) (sz : Nat) (h0 : Nat) (p0 : Int32) (p1 : Int32) (a1 : Nat) (a2 : Nat) (a3 : Nat) (a4 : Nat) (a5 : Nat) (a6 : Nat) (a7 : Nat) (a8 : Nat) (cC2 : ClassId) (fT : Nat → Int32) (hs : tok 16 p0) : Met l yX12_typedBehind wm_X12_typedBehind ({ frames := 0, cells := 0, slots := 0, locals := 0 }) (va_Pc [.ref h0, .int p0, .int p1] (fun U => U.heap.size = sz ∧ va_P (dC, dI) vwCl [(h0, .inr (11, [.ref a1, .ref a2, .ref a3, .ref a4, .ref a5, .ref a6, .ref a7, .ref a8, .int 0, .int 0, .int 0, .int (-1)])), (a2, .inl (cC2, 1200, .inl fT))] U.heap ∧ va_K (dC, dI) vwCl [(cC2, .char)] U ∧ va_D (fun _ => True) [(h0, .inr (11, [.ref a1, .ref a2, .ref a3, .ref a4, .ref a5, .ref a6, .ref a7, .ref a8, .int 0, .int 0, .int 0, .int (-1)])), (a2, .inl (cC2, 1200, .inl fT))])) (va_Qi (fun (r : Int32) (_ : Unit) => r = f4 p0 p1) (fun _ t => ∃ (fU : Nat → Int32), va_P (dC, dI) vwCl [(h0, .inr (11, [.ref a1, .ref a2, .ref a3, .ref a4, .ref a5, .ref a6, .ref a7, .ref a8, .int 0, .int 0, .int 0, .int (-1)])), (a2, .inl (cC2, 1200, .inl fU))] t.heap ∧ va_K (dC, dI) vwCl [] t ∧ va_D (va_A [(h0, .inr (11, [.ref a1, .ref a2, .ref a3, .ref a4, .ref a5, .ref a6, .ref a7, .ref a8, .int 0, .int 0, .int 0, .int (-1)])), (a2, .inl (cC2, 1200, .inl fT))] sz) [(h0, .inr (11, [.ref a1, .ref a2, .ref a3, .ref a4, .ref a5, .ref a6, .ref a7, .ref a8, .int 0, .int 0, .int 0, .int (-1)])), (a2, .inl (cC2, 1200, .inl fU))]) (va_A [(h0, .inr (11, [.ref a1, .ref a2, .ref a3, .ref a4, .ref a5, .ref a6, .ref a7, .ref a8, .int 0, .int 0, .int 0, .int (-1)])), (a2, .inl (cC2, 1200, .inl fT))] sz)) 0 0 (va_A [(h0, .inr (11, [.ref a1, .ref a2, .ref a3, .ref a4, .ref a5, .ref a6, .ref a7, .ref a8, .int 0, .int 0, .int 0, .int (-1)])), (a2, .inl (cC2, 1200, .inl fT))] sz) := by
  refine Met.ofW (cc := cX12_typedBehind) (maxL := 6) (ret := (some .int)) (by decide) rfl ?_
  intro p e s m args below meth c s₁ B hml hv
  obtain ⟨rfl, hsz, hP, hK, hD0⟩ := hv
  have hx := B.exec
  have hb := B.bytes
  have hr := B.returns
  have hts := atoms_spec (ws := wm_X12_typedBehind) B.pre
  have htb := fun (w : Cond) (h : w ∈ tb) => hts w (List.mem_cons_of_mem _ h)
  have hown : s.vm.findClass RX12 = some m.cls := findClass_of_methodNamed B.named
  have hlocks := B.notSynchronized
  subst hsz
  have hD := hD0.self (sz := s.heap.size)
  generalize hAe : va_A [(h0, .inr (11, [.ref a1, .ref a2, .ref a3, .ref a4, .ref a5, .ref a6, .ref a7, .ref a8, .int 0, .int 0, .int 0, .int (-1)])), (a2, .inl (cC2, 1200, .inl fT))] s.heap.size = A at hD ⊢
  have hA : ∀ q : Nat, s.heap.size ≤ q → A q := fun q h => by rw [← hAe]; exact Or.inr h
  have hS : va_S A s.heap s.heap [] := va_S.rf
  have hP : va_P (dC, dI) vwCl [(h0, .inr (11, [.ref a1, .ref a2, .ref a3, .ref a4, .ref a5, .ref a6, .ref a7, .ref a8, .int 0, .int 0, .int 0, .int (-1)])), (a2, .inl (cC2, 1200, .inl fT))] s.heap := hP
  have hl := lv_entry ([.ref h0, .int p0, .int p1]) (n := 6) (Nat.le_of_ble_eq_true rfl)
  rw [lg_entry_eq]
  generalize (lg_sl ([.ref h0, .int p0, .int p1]) ++ List.replicate (6 - (lg_sl ([.ref h0, .int p0, .int p1])).length) Slot.unset).toArray = ls at hl ⊢
  have hl : lv_has ls 6 [(0, .ref h0), (1, .int p0), (2, .int p1)] := hl
  refine lv_iload_n hx hb dX12_typedBehind_0 rfl (lv_at hl 1 rfl) ?_
  refine lv_iconst (v := (-1)) hx hb dX12_typedBehind_1 (by decide) ?_
  refine lv_icmp_ne (tgt := 7) hx hb dX12_typedBehind_2 (by decide) (fun c_1 => ?_) (fun c_1 => ?_)
  · obtain ⟨m9, hm9, rfl⟩ := hs.resolve_left c_1
    have hl : lv_has ls 6 [(0, .ref h0), (1, .int (nI m9)), (2, .int p1)] := hl
    refine lv_iload_n hx hb dX12_typedBehind_7 rfl (lv_at hl 1 rfl) ?_
    refine lv_istore_n (lv' := [(3, .int (nI m9)), (0, .ref h0), (1, .int (nI m9)), (2, .int p1)]) hx hb dX12_typedBehind_8 rfl hl (by decide) rfl (fun ls hl => ?_)
    refine lv_bipush (v := 24) hx hb dX12_typedBehind_9 (by decide) ?_
    refine lv_istore (lv' := [(4, .int 24), (3, .int (nI m9)), (0, .ref h0), (1, .int (nI m9)), (2, .int p1)]) hx hb dX12_typedBehind_11 hl (by decide) rfl (fun ls hl => ?_)
    have hloop13 : ∀ (n i : Nat) (mm : Nat) (fV : Nat → Int32) (H : Heap) (locs : List Loc) (ls : Array Slot), i + n = 4 → cE (nI m9) p1 i = nI mm → mm ≤ m9 + i → va_P (dC, dI) vwCl [(h0, .inr (11, [.ref a1, .ref a2, .ref a3, .ref a4, .ref a5, .ref a6, .ref a7, .ref a8, .int 0, .int 0, .int 0, .int (-1)])), (a2, .inl (cC2, 1200, .inl fV))] H → va_D A [(h0, .inr (11, [.ref a1, .ref a2, .ref a3, .ref a4, .ref a5, .ref a6, .ref a7, .ref a8, .int 0, .int 0, .int 0, .int (-1)])), (a2, .inl (cC2, 1200, .inl fV))] → va_S A s.heap H locs → lv_has ls 6 [(4, .int (sh i)), (3, .int (nI mm)), (0, .ref h0), (1, .int (nI m9)), (2, .int p1)] → W p l e (headSpec wm_X12_typedBehind ({ frames := 0, cells := 0, slots := 0, locals := 0 })).room s m ([.ref h0, .int (nI m9), .int p1] : List Value).toArray below meth c H locs (0) (0) (MQ below (va_Qi (fun (r : Int32) (_ : Unit) => r = f4 (nI m9) p1) (fun _ t => ∃ (fU : Nat → Int32), va_P (dC, dI) vwCl [(h0, .inr (11, [.ref a1, .ref a2, .ref a3, .ref a4, .ref a5, .ref a6, .ref a7, .ref a8, .int 0, .int 0, .int 0, .int (-1)])), (a2, .inl (cC2, 1200, .inl fU))] t.heap ∧ va_K (dC, dI) vwCl [] t ∧ va_D A [(h0, .inr (11, [.ref a1, .ref a2, .ref a3, .ref a4, .ref a5, .ref a6, .ref a7, .ref a8, .int 0, .int 0, .int 0, .int (-1)])), (a2, .inl (cC2, 1200, .inl fU))]) A) ([.ref h0, .int (nI m9), .int p1] : List Value).toArray s 0 0 A) (F0 m 13 ls []) := by
      intro n
      induction n with
      | zero =>
        intro i mm fV H locs ls hi9 hE hmm hP hD hS hl
        obtain rfl : i = 4 := by omega
        have hl : lv_has ls 6 [(4, .int (sh 4)), (3, .int (nI mm)), (0, .ref h0), (1, .int (nI m9)), (2, .int p1)] := hl
        refine lv_iload hx hb dX12_typedBehind_13 (lv_at hl 0 rfl) ?_
        refine lv_if_lt (tgt := 86) hx hb dX12_typedBehind_15 (by decide) (fun _ => ?_) (fun c_2 => absurd (by decide) c_2)
        refine lv_iload_n hx hb dX12_typedBehind_86 rfl (lv_at hl 1 rfl) ?_
        have hP9 := hP.sub (ws' := [(h0, .inr (11, [.ref a1, .ref a2, .ref a3, .ref a4, .ref a5, .ref a6, .ref a7, .ref a8, .int 0, .int 0, .int 0, .int (-1)])), (a2, .inl (cC2, 1200, .inl fV))]) [0, 1] rfl
        have hD9 := hD.sub (ws' := [(h0, .inr (11, [.ref a1, .ref a2, .ref a3, .ref a4, .ref a5, .ref a6, .ref a7, .ref a8, .int 0, .int 0, .int 0, .int (-1)])), (a2, .inl (cC2, 1200, .inl fV))]) [0, 1] (by decide) rfl
        have hK9 := hK.sub (tys' := []) [] rfl
        refine W.widen (k := 0) (n := 0) (Nat.le_of_ble_eq_true rfl) (Nat.le_of_ble_eq_true rfl) ?_
        exact W.iret (v := nI mm) hx hb hr (fun t ht hW => ⟨⟨nI mm, (), rfl, (hE.symm), fV, by rw [ht]; exact hP9, va_K.moved hW.alike hK9, hD9⟩, hS.F ht⟩) hS.2.2 dX12_typedBehind_87
      | succ n ih =>
        intro i mm fV H locs ls hi9 hE hmm hP hD hS hl
        have hlt : i < 4 := by omega
        refine lv_iload hx hb dX12_typedBehind_13 (lv_at hl 0 rfl) ?_
        refine lv_if_lt (tgt := 86) hx hb dX12_typedBehind_15 (by decide) (fun c_3 => absurd c_3 (sh_nn i hlt)) (fun _ => ?_)
        refine lv_iload_n hx hb dX12_typedBehind_18 rfl (lv_at hl 4 rfl) ?_
        refine lv_iload hx hb dX12_typedBehind_19 (lv_at hl 0 rfl) ?_
        refine lv_iushr (v := ((p1).toUInt32 >>> ((sh i : Int32).toUInt32 &&& Int32.toUInt32 31)).toInt32) hx hb dX12_typedBehind_21 rfl ?_
        refine lv_sipush (v := 255) hx hb dX12_typedBehind_22 (by decide) ?_
        refine lv_iand hx hb dX12_typedBehind_25 ?_
        refine lv_topi (fun cv ecv => ?_)
        have hcv : cv = cby p1 i := ecv
        refine lv_istore (lv' := [(5, .int cv), (4, .int (sh i)), (3, .int (nI mm)), (0, .ref h0), (1, .int (nI m9)), (2, .int p1)]) hx hb dX12_typedBehind_26 hl (by decide) rfl (fun ls hl => ?_)
        refine lv_iload hx hb dX12_typedBehind_28 (lv_at hl 0 rfl) ?_
        refine lv_if_ne (tgt := 36) hx hb dX12_typedBehind_30 (by decide) (fun c_4 => ?_) (fun c_4 => ?_)
        · refine lv_iload hx hb dX12_typedBehind_36 (lv_at hl 0 rfl) ?_
          refine lv_bipush (v := 10) hx hb dX12_typedBehind_38 (by decide) ?_
          refine lv_icmp_eq (tgt := 57) hx hb dX12_typedBehind_40 (by decide) (fun c_5 => ?_) (fun c_5 => ?_)
          · refine lv_iload_n hx hb dX12_typedBehind_57 rfl (lv_at hl 2 rfl) ?_
            refine lv_aload_n hx hb dX12_typedBehind_58 rfl (lv_at hl 3 rfl) ?_
            refine va_get (D := (dC, dI)) (ci := 11) (v := .ref a2) (C := RX12) (T := TX12) (N := 12) hx hb htb inX12 hown hK hP 0 rfl rfl 1 (by decide) (htb _ kw_9) (fun _ h9 => h9) rfl dX12_typedBehind_59 ?_
            refine va_alen (D := (dC, dI)) (v := 1200) hx hb hK hP 1 0 rfl rfl rfl dX12_typedBehind_62 ?_
            refine lv_icmp_lt (tgt := 68) hx hb dX12_typedBehind_63 (by decide) (fun _ => ?_) (fun c_6 => absurd (nI_lt (a := mm) (b := 1200) (by omega) (by decide)) c_6)
            refine lv_aload_n hx hb dX12_typedBehind_68 rfl (lv_at hl 3 rfl) ?_
            refine va_get (D := (dC, dI)) (ci := 11) (v := .ref a2) (C := RX12) (T := TX12) (N := 12) hx hb htb inX12 hown hK hP 0 rfl rfl 1 (by decide) (htb _ kw_9) (fun _ h9 => h9) rfl dX12_typedBehind_69 ?_
            refine lv_iload_n hx hb dX12_typedBehind_72 rfl (lv_at hl 2 rfl) ?_
            refine lv_iload hx hb dX12_typedBehind_73 (lv_at hl 0 rfl) ?_
            refine lv_i2c (v := ((cv : Int32).toUInt32 % 65536).toInt32) hx hb dX12_typedBehind_75 rfl ?_
            refine va_cast (D := (dC, dI)) hx hb hK hP hD hS 1 0 rfl rfl (vp_in_nI (by omega) (by decide)) dX12_typedBehind_76 (fun H locs hP hD hS => ?_)
            have hP : va_P (dC, dI) vwCl [(h0, .inr (11, [.ref a1, .ref a2, .ref a3, .ref a4, .ref a5, .ref a6, .ref a7, .ref a8, .int 0, .int 0, .int 0, .int (-1)])), (a2, .inl (cC2, 1200, .inl (upd fV (nI mm : Int32).toNatClampNeg (vp_nar .char (((cv : Int32).toUInt32 % 65536).toInt32)))))] H := hP
            have hD : va_D A [(h0, .inr (11, [.ref a1, .ref a2, .ref a3, .ref a4, .ref a5, .ref a6, .ref a7, .ref a8, .int 0, .int 0, .int 0, .int (-1)])), (a2, .inl (cC2, 1200, .inl (upd fV (nI mm : Int32).toNatClampNeg (vp_nar .char (((cv : Int32).toUInt32 % 65536).toInt32)))))] := hD
            refine lv_iinc (v := nI (mm + 1)) (lv' := [(3, .int (nI (mm + 1))), (5, .int cv), (4, .int (sh i)), (0, .ref h0), (1, .int (nI m9)), (2, .int p1)]) hx hb dX12_typedBehind_77 hl (k := 2) rfl (nI_1 mm) (by decide) rfl (fun ls hl => ?_)
            refine lv_iinc (v := sh (i + 1)) (lv' := [(4, .int (sh (i + 1))), (3, .int (nI (mm + 1))), (5, .int cv), (0, .ref h0), (1, .int (nI m9)), (2, .int p1)]) hx hb dX12_typedBehind_80 hl (k := 2) rfl (sh_s i hlt) (by decide) rfl (fun ls hl => ?_)
            refine lv_goto (tgt := 13) hx hb dX12_typedBehind_83 (by decide) ?_
            exact ih (i + 1) (mm + 1) (upd fV (nI mm : Int32).toNatClampNeg (vp_nar .char (((cv : Int32).toUInt32 % 65536).toInt32))) _ _ _ (by omega) (by show tS (cE (nI m9) p1 i) (cby p1 i) = nI (mm + 1); rw [hE, ← hcv]; exact tS_10 (by omega) c_4 c_5) (by omega) (hP.sub [0, 1] rfl) (hD.sub [0, 1] (by decide) rfl) hS (lv_sub hl [0, 1, 3, 4, 5] rfl)
          · refine lv_iload hx hb dX12_typedBehind_43 (lv_at hl 0 rfl) ?_
            refine lv_bipush (v := 32) hx hb dX12_typedBehind_45 (by decide) ?_
            refine lv_icmp_lt (tgt := 66) hx hb dX12_typedBehind_47 (by decide) (fun c_7 => ?_) (fun c_7 => ?_)
            · refine lv_iconst (v := (-1)) hx hb dX12_typedBehind_66 (by decide) ?_
              have hP9 := hP.sub (ws' := [(h0, .inr (11, [.ref a1, .ref a2, .ref a3, .ref a4, .ref a5, .ref a6, .ref a7, .ref a8, .int 0, .int 0, .int 0, .int (-1)])), (a2, .inl (cC2, 1200, .inl fV))]) [0, 1] rfl
              have hD9 := hD.sub (ws' := [(h0, .inr (11, [.ref a1, .ref a2, .ref a3, .ref a4, .ref a5, .ref a6, .ref a7, .ref a8, .int 0, .int 0, .int 0, .int (-1)])), (a2, .inl (cC2, 1200, .inl fV))]) [0, 1] (by decide) rfl
              have hK9 := hK.sub (tys' := []) [] rfl
              refine W.widen (k := 0) (n := 0) (Nat.le_of_ble_eq_true rfl) (Nat.le_of_ble_eq_true rfl) ?_
              exact W.iret (v := (-1)) hx hb hr (fun t ht hW => ⟨⟨(-1), (), rfl, (cE_bad hlt (by rw [← hcv]; exact tS_lo c_4 c_5 c_7)), fV, by rw [ht]; exact hP9, va_K.moved hW.alike hK9, hD9⟩, hS.F ht⟩) hS.2.2 dX12_typedBehind_67
            · refine lv_iload hx hb dX12_typedBehind_50 (lv_at hl 0 rfl) ?_
              refine lv_bipush (v := 126) hx hb dX12_typedBehind_52 (by decide) ?_
              refine lv_icmp_gt (tgt := 66) hx hb dX12_typedBehind_54 (by decide) (fun c_8 => ?_) (fun c_8 => ?_)
              · refine lv_iconst (v := (-1)) hx hb dX12_typedBehind_66 (by decide) ?_
                have hP9 := hP.sub (ws' := [(h0, .inr (11, [.ref a1, .ref a2, .ref a3, .ref a4, .ref a5, .ref a6, .ref a7, .ref a8, .int 0, .int 0, .int 0, .int (-1)])), (a2, .inl (cC2, 1200, .inl fV))]) [0, 1] rfl
                have hD9 := hD.sub (ws' := [(h0, .inr (11, [.ref a1, .ref a2, .ref a3, .ref a4, .ref a5, .ref a6, .ref a7, .ref a8, .int 0, .int 0, .int 0, .int (-1)])), (a2, .inl (cC2, 1200, .inl fV))]) [0, 1] (by decide) rfl
                have hK9 := hK.sub (tys' := []) [] rfl
                refine W.widen (k := 0) (n := 0) (Nat.le_of_ble_eq_true rfl) (Nat.le_of_ble_eq_true rfl) ?_
                exact W.iret (v := (-1)) hx hb hr (fun t ht hW => ⟨⟨(-1), (), rfl, (cE_bad hlt (by rw [← hcv]; exact tS_hi c_4 c_5 c_8)), fV, by rw [ht]; exact hP9, va_K.moved hW.alike hK9, hD9⟩, hS.F ht⟩) hS.2.2 dX12_typedBehind_67
              · refine lv_iload_n hx hb dX12_typedBehind_57 rfl (lv_at hl 2 rfl) ?_
                refine lv_aload_n hx hb dX12_typedBehind_58 rfl (lv_at hl 3 rfl) ?_
                refine va_get (D := (dC, dI)) (ci := 11) (v := .ref a2) (C := RX12) (T := TX12) (N := 12) hx hb htb inX12 hown hK hP 0 rfl rfl 1 (by decide) (htb _ kw_9) (fun _ h9 => h9) rfl dX12_typedBehind_59 ?_
                refine va_alen (D := (dC, dI)) (v := 1200) hx hb hK hP 1 0 rfl rfl rfl dX12_typedBehind_62 ?_
                refine lv_icmp_lt (tgt := 68) hx hb dX12_typedBehind_63 (by decide) (fun _ => ?_) (fun c_9 => absurd (nI_lt (a := mm) (b := 1200) (by omega) (by decide)) c_9)
                refine lv_aload_n hx hb dX12_typedBehind_68 rfl (lv_at hl 3 rfl) ?_
                refine va_get (D := (dC, dI)) (ci := 11) (v := .ref a2) (C := RX12) (T := TX12) (N := 12) hx hb htb inX12 hown hK hP 0 rfl rfl 1 (by decide) (htb _ kw_9) (fun _ h9 => h9) rfl dX12_typedBehind_69 ?_
                refine lv_iload_n hx hb dX12_typedBehind_72 rfl (lv_at hl 2 rfl) ?_
                refine lv_iload hx hb dX12_typedBehind_73 (lv_at hl 0 rfl) ?_
                refine lv_i2c (v := ((cv : Int32).toUInt32 % 65536).toInt32) hx hb dX12_typedBehind_75 rfl ?_
                refine va_cast (D := (dC, dI)) hx hb hK hP hD hS 1 0 rfl rfl (vp_in_nI (by omega) (by decide)) dX12_typedBehind_76 (fun H locs hP hD hS => ?_)
                have hP : va_P (dC, dI) vwCl [(h0, .inr (11, [.ref a1, .ref a2, .ref a3, .ref a4, .ref a5, .ref a6, .ref a7, .ref a8, .int 0, .int 0, .int 0, .int (-1)])), (a2, .inl (cC2, 1200, .inl (upd fV (nI mm : Int32).toNatClampNeg (vp_nar .char (((cv : Int32).toUInt32 % 65536).toInt32)))))] H := hP
                have hD : va_D A [(h0, .inr (11, [.ref a1, .ref a2, .ref a3, .ref a4, .ref a5, .ref a6, .ref a7, .ref a8, .int 0, .int 0, .int 0, .int (-1)])), (a2, .inl (cC2, 1200, .inl (upd fV (nI mm : Int32).toNatClampNeg (vp_nar .char (((cv : Int32).toUInt32 % 65536).toInt32)))))] := hD
                refine lv_iinc (v := nI (mm + 1)) (lv' := [(3, .int (nI (mm + 1))), (5, .int cv), (4, .int (sh i)), (0, .ref h0), (1, .int (nI m9)), (2, .int p1)]) hx hb dX12_typedBehind_77 hl (k := 2) rfl (nI_1 mm) (by decide) rfl (fun ls hl => ?_)
                refine lv_iinc (v := sh (i + 1)) (lv' := [(4, .int (sh (i + 1))), (3, .int (nI (mm + 1))), (5, .int cv), (0, .ref h0), (1, .int (nI m9)), (2, .int p1)]) hx hb dX12_typedBehind_80 hl (k := 2) rfl (sh_s i hlt) (by decide) rfl (fun ls hl => ?_)
                refine lv_goto (tgt := 13) hx hb dX12_typedBehind_83 (by decide) ?_
                exact ih (i + 1) (mm + 1) (upd fV (nI mm : Int32).toNatClampNeg (vp_nar .char (((cv : Int32).toUInt32 % 65536).toInt32))) _ _ _ (by omega) (by show tS (cE (nI m9) p1 i) (cby p1 i) = nI (mm + 1); rw [hE, ← hcv]; exact tS_g (by omega) c_4 c_5 c_7 c_8) (by omega) (hP.sub [0, 1] rfl) (hD.sub [0, 1] (by decide) rfl) hS (lv_sub hl [0, 1, 3, 4, 5] rfl)
        · refine lv_goto (tgt := 80) hx hb dX12_typedBehind_33 (by decide) ?_
          refine lv_iinc (v := sh (i + 1)) (lv' := [(4, .int (sh (i + 1))), (5, .int cv), (3, .int (nI mm)), (0, .ref h0), (1, .int (nI m9)), (2, .int p1)]) hx hb dX12_typedBehind_80 hl (k := 1) rfl (sh_s i hlt) (by decide) rfl (fun ls hl => ?_)
          refine lv_goto (tgt := 13) hx hb dX12_typedBehind_83 (by decide) ?_
          exact ih (i + 1) mm fV _ _ _ (by omega) (by show tS (cE (nI m9) p1 i) (cby p1 i) = nI mm; rw [hE, ← hcv]; exact tS_z (by omega) c_4) (by omega) (hP.sub [0, 1] rfl) (hD.sub [0, 1] (by decide) rfl) hS (lv_sub hl [0, 2, 3, 4, 5] rfl)
    rw [show (24 : Int32) = sh 0 by decide] at hl
    exact hloop13 4 0 m9 fT _ _ _ rfl (rfl) (Nat.le_refl _) (hP.sub [0, 1] rfl) (hD.sub [0, 1] (by decide) rfl) hS (lv_sub hl [0, 1, 2, 3, 4] rfl)
  · refine lv_iconst (v := (-1)) hx hb dX12_typedBehind_5 (by decide) ?_
    have hP9 := hP.sub (ws' := [(h0, .inr (11, [.ref a1, .ref a2, .ref a3, .ref a4, .ref a5, .ref a6, .ref a7, .ref a8, .int 0, .int 0, .int 0, .int (-1)])), (a2, .inl (cC2, 1200, .inl fT))]) [0, 1] rfl
    have hD9 := hD.sub (ws' := [(h0, .inr (11, [.ref a1, .ref a2, .ref a3, .ref a4, .ref a5, .ref a6, .ref a7, .ref a8, .int 0, .int 0, .int 0, .int (-1)])), (a2, .inl (cC2, 1200, .inl fT))]) [0, 1] (by decide) rfl
    have hK9 := hK.sub (tys' := []) [] rfl
    refine W.widen (k := 0) (n := 0) (Nat.le_of_ble_eq_true rfl) (Nat.le_of_ble_eq_true rfl) ?_
    exact W.iret (v := (-1)) hx hb hr (fun t ht hW => ⟨⟨(-1), (), rfl, (by rw [c_1]; exact f4_m1 p1), fT, by rw [ht]; exact hP9, va_K.moved hW.alike hK9, hD9⟩, hS.F ht⟩) hS.2.2 dX12_typedBehind_6

theorem tk_e {M : Nat} {p q : Int32} (h : p = q) (t : tok M q) : tok M p := by rw [h]; exact t
theorem tok_up {M N : Nat} (h : M ≤ N) {p : Int32} (t : tok M p) : tok N p := by
  rcases t with e | ⟨q, hq, e⟩
  · exact Or.inl e
  · exact Or.inr ⟨q, by omega, e⟩

set_option maxHeartbeats 4000000 in
set_option maxRecDepth 100000 in
theorem c_X12_type (l : Launch) (dC : Nat → ClassId) (dI : Nat → Nat → Nat) (sz : Nat) (h0 : Nat) (p0 : Int32) (p1 : Int32) (p2 : Int32) (p3 : Int32) (p4 : Int32) (a1 : Nat) (a2 : Nat) (a3 : Nat) (a4 : Nat) (a5 : Nat) (a6 : Nat) (a7 : Nat) (a8 : Nat) (cC2 : ClassId) (fT : Nat → Int32) : Met l yX12_type wm_X12_type ({ frames := 1, cells := 0, slots := 0, locals := 25 }) (va_Pc [.ref h0, .int p0, .int p1, .int p2, .int p3, .int p4] (fun U => U.heap.size = sz ∧ va_P (dC, dI) vwCl [(h0, .inr (11, [.ref a1, .ref a2, .ref a3, .ref a4, .ref a5, .ref a6, .ref a7, .ref a8, .int 0, .int 0, .int 0, .int (-1)])), (a2, .inl (cC2, 1200, .inl fT))] U.heap ∧ va_K (dC, dI) vwCl [(cC2, .char)] U ∧ va_D (fun _ => True) [(h0, .inr (11, [.ref a1, .ref a2, .ref a3, .ref a4, .ref a5, .ref a6, .ref a7, .ref a8, .int 0, .int 0, .int 0, .int (-1)])), (a2, .inl (cC2, 1200, .inl fT))])) (va_Qi (fun (r : Int32) (_ : Unit) => r = f4 (f4 (f4 (f4 (f4 0 p0) p1) p2) p3) p4) (fun _ t => va_P (dC, dI) vwCl [] t.heap ∧ va_K (dC, dI) vwCl [] t ∧ va_D (va_A [(h0, .inr (11, [.ref a1, .ref a2, .ref a3, .ref a4, .ref a5, .ref a6, .ref a7, .ref a8, .int 0, .int 0, .int 0, .int (-1)])), (a2, .inl (cC2, 1200, .inl fT))] sz) []) (va_A [(h0, .inr (11, [.ref a1, .ref a2, .ref a3, .ref a4, .ref a5, .ref a6, .ref a7, .ref a8, .int 0, .int 0, .int 0, .int (-1)])), (a2, .inl (cC2, 1200, .inl fT))] sz)) 0 0 (va_A [(h0, .inr (11, [.ref a1, .ref a2, .ref a3, .ref a4, .ref a5, .ref a6, .ref a7, .ref a8, .int 0, .int 0, .int 0, .int (-1)])), (a2, .inl (cC2, 1200, .inl fT))] sz) := by
  refine Met.ofW (cc := cX12_type) (maxL := 7) (ret := (some .int)) (by decide) rfl ?_
  intro p e s m args below meth c s₁ B hml hv
  obtain ⟨rfl, hsz, hP, hK, hD0⟩ := hv
  have hx := B.exec
  have hb := B.bytes
  have hr := B.returns
  have hts := atoms_spec (ws := wm_X12_type) B.pre
  have htb := fun (w : Cond) (h : w ∈ tb) => hts w (List.mem_cons_of_mem _ h)
  have hown : s.vm.findClass RX12 = some m.cls := findClass_of_methodNamed B.named
  have hlocks := B.notSynchronized
  subst hsz
  have hD := hD0.self (sz := s.heap.size)
  generalize hAe : va_A [(h0, .inr (11, [.ref a1, .ref a2, .ref a3, .ref a4, .ref a5, .ref a6, .ref a7, .ref a8, .int 0, .int 0, .int 0, .int (-1)])), (a2, .inl (cC2, 1200, .inl fT))] s.heap.size = A at hD ⊢
  have hA : ∀ q : Nat, s.heap.size ≤ q → A q := fun q h => by rw [← hAe]; exact Or.inr h
  have hS : va_S A s.heap s.heap [] := va_S.rf
  have hP : va_P (dC, dI) vwCl [(h0, .inr (11, [.ref a1, .ref a2, .ref a3, .ref a4, .ref a5, .ref a6, .ref a7, .ref a8, .int 0, .int 0, .int 0, .int (-1)])), (a2, .inl (cC2, 1200, .inl fT))] s.heap := hP
  have hl := lv_entry ([.ref h0, .int p0, .int p1, .int p2, .int p3, .int p4]) (n := 7) (Nat.le_of_ble_eq_true rfl)
  rw [lg_entry_eq]
  generalize (lg_sl ([.ref h0, .int p0, .int p1, .int p2, .int p3, .int p4]) ++ List.replicate (7 - (lg_sl ([.ref h0, .int p0, .int p1, .int p2, .int p3, .int p4])).length) Slot.unset).toArray = ls at hl ⊢
  have hl : lv_has ls 7 [(0, .ref h0), (1, .int p0), (2, .int p1), (3, .int p2), (4, .int p3), (5, .int p4)] := hl
  refine lv_aload_n hx hb dX12_type_0 rfl (lv_at hl 0 rfl) ?_
  refine lv_aload_n hx hb dX12_type_1 rfl (lv_at hl 0 rfl) ?_
  refine va_get (D := (dC, dI)) (ci := 11) (v := .int 0) (C := RX12) (T := TX12) (N := 12) hx hb htb inX12 hown hK hP 0 rfl rfl 8 (by decide) (htb _ kw_68) (fun _ h9 => h9) rfl dX12_type_2 ?_
  refine lv_iload_n hx hb dX12_type_5 rfl (lv_at hl 1 rfl) ?_
  have hPc := hP.sub (ws' := [(h0, .inr (11, [.ref a1, .ref a2, .ref a3, .ref a4, .ref a5, .ref a6, .ref a7, .ref a8, .int 0, .int 0, .int 0, .int (-1)])), (a2, .inl (cC2, 1200, .inl fT))]) [0, 1] rfl
  have hDc := hD.sub (ws' := [(h0, .inr (11, [.ref a1, .ref a2, .ref a3, .ref a4, .ref a5, .ref a6, .ref a7, .ref a8, .int 0, .int 0, .int 0, .int (-1)])), (a2, .inl (cC2, 1200, .inl fT))]) [0, 1] (by decide) rfl
  have hKc := hK.sub (tys' := [(cC2, .char)]) [0] rfl
  have hFc := va_free (wc := [(h0, .inr (11, [.ref a1, .ref a2, .ref a3, .ref a4, .ref a5, .ref a6, .ref a7, .ref a8, .int 0, .int 0, .int 0, .int (-1)])), (a2, .inl (cC2, 1200, .inl fT))]) hD hS hA [0, 1] rfl
  refine va_calli (va_runV (As := [.int 0, .int p0]) (rest := []) ⟨hx, hb, hml, hown, htb⟩ (c_X12_typedBehind l dC dI s.heap.size h0 0 p0 a1 a2 a3 a4 a5 a6 a7 a8 cC2 fT (tok_up (by decide) (Or.inr ⟨0, Nat.le_refl _, rfl⟩ : tok 0 0))) (cwV 2 htb (gd_V kw_69 kw_70 kw_71 kw_49 kw_544) rfl rfl rfl (by decide +kernel) ⟨Nat.le_of_ble_eq_true rfl, Nat.le_of_ble_eq_true rfl⟩) ⟨fun a U g mk q => by obtain ⟨q0, q1, qP, qK, qD⟩ := q; exact ⟨q0, q1, qP, va_K.moved (u := U) (U := U.calling g mk a) (Vm.Alike.refl U.vm) qK, qD⟩, va_recv hKc hPc (ci := 11) (q0 := 0) rfl rfl, fun U hU hW => ⟨rfl, by rw [hU], by rw [hU]; exact hPc, va_K.moved hW.alike hKc, hDc.weaken (fun _ _ _ _ => trivial)⟩⟩ rfl rfl hl.1 rfl (lv_room (Nat.le_of_ble_eq_true rfl)) dX12_type_6 ⟨(Nat.le_of_ble_eq_true rfl), (Nat.le_of_ble_eq_true rfl)⟩) hS (fun q _ h => hFc q h) hFc (fun r_1 u t H1 locs ht hvm hw hB hz1 hk1 hS => ?_)
  have hr_1 := hw
  obtain ⟨fU_2, hP1, hK1, hD1⟩ := hB
  rw [ht] at hP1
  have hK1 := va_K.moved hvm.symm hK1
  obtain ⟨hP, hD⟩ := va_join (wr := []) (w1 := [(h0, .inr (11, [.ref a1, .ref a2, .ref a3, .ref a4, .ref a5, .ref a6, .ref a7, .ref a8, .int 0, .int 0, .int 0, .int (-1)])), (a2, .inl (cC2, 1200, .inl fU_2))]) hP hD [0, 1] [] rfl rfl (by decide) (by decide) hk1 hFc hP1 hD1
  have hK := hK.app hK1
  generalize H1 = H at hP hS ⊢
  have hP : va_P (dC, dI) vwCl [(h0, .inr (11, [.ref a1, .ref a2, .ref a3, .ref a4, .ref a5, .ref a6, .ref a7, .ref a8, .int 0, .int 0, .int 0, .int (-1)])), (a2, .inl (cC2, 1200, .inl fU_2))] H := hP
  have hD : va_D A [(h0, .inr (11, [.ref a1, .ref a2, .ref a3, .ref a4, .ref a5, .ref a6, .ref a7, .ref a8, .int 0, .int 0, .int 0, .int (-1)])), (a2, .inl (cC2, 1200, .inl fU_2))] := hD
  have hK : va_K (dC, dI) vwCl [(cC2, .char)] s := hK
  refine W.widen (k := 0) (n := 0) (Nat.le_of_ble_eq_true rfl) (Nat.le_of_ble_eq_true rfl) ?_
  refine lv_istore (lv' := [(6, .int r_1), (0, .ref h0), (1, .int p0), (2, .int p1), (3, .int p2), (4, .int p3), (5, .int p4)]) hx hb dX12_type_9 hl (by decide) rfl (fun ls hl => ?_)
  refine lv_aload_n hx hb dX12_type_11 rfl (lv_at hl 1 rfl) ?_
  refine lv_iload hx hb dX12_type_12 (lv_at hl 0 rfl) ?_
  refine lv_iload_n hx hb dX12_type_14 rfl (lv_at hl 3 rfl) ?_
  have hPc := hP.sub (ws' := [(h0, .inr (11, [.ref a1, .ref a2, .ref a3, .ref a4, .ref a5, .ref a6, .ref a7, .ref a8, .int 0, .int 0, .int 0, .int (-1)])), (a2, .inl (cC2, 1200, .inl fU_2))]) [0, 1] rfl
  have hDc := hD.sub (ws' := [(h0, .inr (11, [.ref a1, .ref a2, .ref a3, .ref a4, .ref a5, .ref a6, .ref a7, .ref a8, .int 0, .int 0, .int 0, .int (-1)])), (a2, .inl (cC2, 1200, .inl fU_2))]) [0, 1] (by decide) rfl
  have hKc := hK.sub (tys' := [(cC2, .char)]) [0] rfl
  have hFc := va_free (wc := [(h0, .inr (11, [.ref a1, .ref a2, .ref a3, .ref a4, .ref a5, .ref a6, .ref a7, .ref a8, .int 0, .int 0, .int 0, .int (-1)])), (a2, .inl (cC2, 1200, .inl fU_2))]) hD hS hA [0, 1] rfl
  refine va_calli (va_runV (As := [.int r_1, .int p1]) (rest := []) ⟨hx, hb, hml, hown, htb⟩ (c_X12_typedBehind l dC dI H.size h0 r_1 p1 a1 a2 a3 a4 a5 a6 a7 a8 cC2 fU_2 (tok_up (by decide) (tk_e hr_1 (f4_ok (M := 0) (by decide) (Or.inr ⟨0, Nat.le_refl _, rfl⟩ : tok 0 0) p0)))) (cwV 2 htb (gd_V kw_69 kw_70 kw_71 kw_49 kw_544) rfl rfl rfl (by decide +kernel) ⟨Nat.le_of_ble_eq_true rfl, Nat.le_of_ble_eq_true rfl⟩) ⟨fun a U g mk q => by obtain ⟨q0, q1, qP, qK, qD⟩ := q; exact ⟨q0, q1, qP, va_K.moved (u := U) (U := U.calling g mk a) (Vm.Alike.refl U.vm) qK, qD⟩, va_recv hKc hPc (ci := 11) (q0 := 0) rfl rfl, fun U hU hW => ⟨rfl, by rw [hU], by rw [hU]; exact hPc, va_K.moved hW.alike hKc, hDc.weaken (fun _ _ _ _ => trivial)⟩⟩ rfl rfl hl.1 rfl (lv_room (Nat.le_of_ble_eq_true rfl)) dX12_type_15 ⟨(Nat.le_of_ble_eq_true rfl), (Nat.le_of_ble_eq_true rfl)⟩) hS (fun q _ h => hFc q h) hFc (fun r_3 u t H1 locs ht hvm hw hB hz1 hk1 hS => ?_)
  have hr_3 := hw
  obtain ⟨fU_4, hP1, hK1, hD1⟩ := hB
  rw [ht] at hP1
  have hK1 := va_K.moved hvm.symm hK1
  obtain ⟨hP, hD⟩ := va_join (wr := []) (w1 := [(h0, .inr (11, [.ref a1, .ref a2, .ref a3, .ref a4, .ref a5, .ref a6, .ref a7, .ref a8, .int 0, .int 0, .int 0, .int (-1)])), (a2, .inl (cC2, 1200, .inl fU_4))]) hP hD [0, 1] [] rfl rfl (by decide) (by decide) hk1 hFc hP1 hD1
  have hK := hK.app hK1
  generalize H1 = H at hP hS ⊢
  have hP : va_P (dC, dI) vwCl [(h0, .inr (11, [.ref a1, .ref a2, .ref a3, .ref a4, .ref a5, .ref a6, .ref a7, .ref a8, .int 0, .int 0, .int 0, .int (-1)])), (a2, .inl (cC2, 1200, .inl fU_4))] H := hP
  have hD : va_D A [(h0, .inr (11, [.ref a1, .ref a2, .ref a3, .ref a4, .ref a5, .ref a6, .ref a7, .ref a8, .int 0, .int 0, .int 0, .int (-1)])), (a2, .inl (cC2, 1200, .inl fU_4))] := hD
  have hK : va_K (dC, dI) vwCl [(cC2, .char)] s := hK
  refine W.widen (k := 0) (n := 0) (Nat.le_of_ble_eq_true rfl) (Nat.le_of_ble_eq_true rfl) ?_
  refine lv_istore (lv' := [(6, .int r_3), (0, .ref h0), (1, .int p0), (2, .int p1), (3, .int p2), (4, .int p3), (5, .int p4)]) hx hb dX12_type_18 hl (by decide) rfl (fun ls hl => ?_)
  refine lv_aload_n hx hb dX12_type_20 rfl (lv_at hl 1 rfl) ?_
  refine lv_iload hx hb dX12_type_21 (lv_at hl 0 rfl) ?_
  refine lv_iload_n hx hb dX12_type_23 rfl (lv_at hl 4 rfl) ?_
  have hPc := hP.sub (ws' := [(h0, .inr (11, [.ref a1, .ref a2, .ref a3, .ref a4, .ref a5, .ref a6, .ref a7, .ref a8, .int 0, .int 0, .int 0, .int (-1)])), (a2, .inl (cC2, 1200, .inl fU_4))]) [0, 1] rfl
  have hDc := hD.sub (ws' := [(h0, .inr (11, [.ref a1, .ref a2, .ref a3, .ref a4, .ref a5, .ref a6, .ref a7, .ref a8, .int 0, .int 0, .int 0, .int (-1)])), (a2, .inl (cC2, 1200, .inl fU_4))]) [0, 1] (by decide) rfl
  have hKc := hK.sub (tys' := [(cC2, .char)]) [0] rfl
  have hFc := va_free (wc := [(h0, .inr (11, [.ref a1, .ref a2, .ref a3, .ref a4, .ref a5, .ref a6, .ref a7, .ref a8, .int 0, .int 0, .int 0, .int (-1)])), (a2, .inl (cC2, 1200, .inl fU_4))]) hD hS hA [0, 1] rfl
  refine va_calli (va_runV (As := [.int r_3, .int p2]) (rest := []) ⟨hx, hb, hml, hown, htb⟩ (c_X12_typedBehind l dC dI H.size h0 r_3 p2 a1 a2 a3 a4 a5 a6 a7 a8 cC2 fU_4 (tok_up (by decide) (tk_e hr_3 (f4_ok (M := 4) (by decide) (tk_e hr_1 (f4_ok (M := 0) (by decide) (Or.inr ⟨0, Nat.le_refl _, rfl⟩ : tok 0 0) p0)) p1)))) (cwV 2 htb (gd_V kw_69 kw_70 kw_71 kw_49 kw_544) rfl rfl rfl (by decide +kernel) ⟨Nat.le_of_ble_eq_true rfl, Nat.le_of_ble_eq_true rfl⟩) ⟨fun a U g mk q => by obtain ⟨q0, q1, qP, qK, qD⟩ := q; exact ⟨q0, q1, qP, va_K.moved (u := U) (U := U.calling g mk a) (Vm.Alike.refl U.vm) qK, qD⟩, va_recv hKc hPc (ci := 11) (q0 := 0) rfl rfl, fun U hU hW => ⟨rfl, by rw [hU], by rw [hU]; exact hPc, va_K.moved hW.alike hKc, hDc.weaken (fun _ _ _ _ => trivial)⟩⟩ rfl rfl hl.1 rfl (lv_room (Nat.le_of_ble_eq_true rfl)) dX12_type_24 ⟨(Nat.le_of_ble_eq_true rfl), (Nat.le_of_ble_eq_true rfl)⟩) hS (fun q _ h => hFc q h) hFc (fun r_5 u t H1 locs ht hvm hw hB hz1 hk1 hS => ?_)
  have hr_5 := hw
  obtain ⟨fU_6, hP1, hK1, hD1⟩ := hB
  rw [ht] at hP1
  have hK1 := va_K.moved hvm.symm hK1
  obtain ⟨hP, hD⟩ := va_join (wr := []) (w1 := [(h0, .inr (11, [.ref a1, .ref a2, .ref a3, .ref a4, .ref a5, .ref a6, .ref a7, .ref a8, .int 0, .int 0, .int 0, .int (-1)])), (a2, .inl (cC2, 1200, .inl fU_6))]) hP hD [0, 1] [] rfl rfl (by decide) (by decide) hk1 hFc hP1 hD1
  have hK := hK.app hK1
  generalize H1 = H at hP hS ⊢
  have hP : va_P (dC, dI) vwCl [(h0, .inr (11, [.ref a1, .ref a2, .ref a3, .ref a4, .ref a5, .ref a6, .ref a7, .ref a8, .int 0, .int 0, .int 0, .int (-1)])), (a2, .inl (cC2, 1200, .inl fU_6))] H := hP
  have hD : va_D A [(h0, .inr (11, [.ref a1, .ref a2, .ref a3, .ref a4, .ref a5, .ref a6, .ref a7, .ref a8, .int 0, .int 0, .int 0, .int (-1)])), (a2, .inl (cC2, 1200, .inl fU_6))] := hD
  have hK : va_K (dC, dI) vwCl [(cC2, .char)] s := hK
  refine W.widen (k := 0) (n := 0) (Nat.le_of_ble_eq_true rfl) (Nat.le_of_ble_eq_true rfl) ?_
  refine lv_istore (lv' := [(6, .int r_5), (0, .ref h0), (1, .int p0), (2, .int p1), (3, .int p2), (4, .int p3), (5, .int p4)]) hx hb dX12_type_27 hl (by decide) rfl (fun ls hl => ?_)
  refine lv_aload_n hx hb dX12_type_29 rfl (lv_at hl 1 rfl) ?_
  refine lv_iload hx hb dX12_type_30 (lv_at hl 0 rfl) ?_
  refine lv_iload hx hb dX12_type_32 (lv_at hl 5 rfl) ?_
  have hPc := hP.sub (ws' := [(h0, .inr (11, [.ref a1, .ref a2, .ref a3, .ref a4, .ref a5, .ref a6, .ref a7, .ref a8, .int 0, .int 0, .int 0, .int (-1)])), (a2, .inl (cC2, 1200, .inl fU_6))]) [0, 1] rfl
  have hDc := hD.sub (ws' := [(h0, .inr (11, [.ref a1, .ref a2, .ref a3, .ref a4, .ref a5, .ref a6, .ref a7, .ref a8, .int 0, .int 0, .int 0, .int (-1)])), (a2, .inl (cC2, 1200, .inl fU_6))]) [0, 1] (by decide) rfl
  have hKc := hK.sub (tys' := [(cC2, .char)]) [0] rfl
  have hFc := va_free (wc := [(h0, .inr (11, [.ref a1, .ref a2, .ref a3, .ref a4, .ref a5, .ref a6, .ref a7, .ref a8, .int 0, .int 0, .int 0, .int (-1)])), (a2, .inl (cC2, 1200, .inl fU_6))]) hD hS hA [0, 1] rfl
  refine va_calli (va_runV (As := [.int r_5, .int p3]) (rest := []) ⟨hx, hb, hml, hown, htb⟩ (c_X12_typedBehind l dC dI H.size h0 r_5 p3 a1 a2 a3 a4 a5 a6 a7 a8 cC2 fU_6 (tok_up (by decide) (tk_e hr_5 (f4_ok (M := 8) (by decide) (tk_e hr_3 (f4_ok (M := 4) (by decide) (tk_e hr_1 (f4_ok (M := 0) (by decide) (Or.inr ⟨0, Nat.le_refl _, rfl⟩ : tok 0 0) p0)) p1)) p2)))) (cwV 2 htb (gd_V kw_69 kw_70 kw_71 kw_49 kw_544) rfl rfl rfl (by decide +kernel) ⟨Nat.le_of_ble_eq_true rfl, Nat.le_of_ble_eq_true rfl⟩) ⟨fun a U g mk q => by obtain ⟨q0, q1, qP, qK, qD⟩ := q; exact ⟨q0, q1, qP, va_K.moved (u := U) (U := U.calling g mk a) (Vm.Alike.refl U.vm) qK, qD⟩, va_recv hKc hPc (ci := 11) (q0 := 0) rfl rfl, fun U hU hW => ⟨rfl, by rw [hU], by rw [hU]; exact hPc, va_K.moved hW.alike hKc, hDc.weaken (fun _ _ _ _ => trivial)⟩⟩ rfl rfl hl.1 rfl (lv_room (Nat.le_of_ble_eq_true rfl)) dX12_type_34 ⟨(Nat.le_of_ble_eq_true rfl), (Nat.le_of_ble_eq_true rfl)⟩) hS (fun q _ h => hFc q h) hFc (fun r_7 u t H1 locs ht hvm hw hB hz1 hk1 hS => ?_)
  have hr_7 := hw
  obtain ⟨fU_8, hP1, hK1, hD1⟩ := hB
  rw [ht] at hP1
  have hK1 := va_K.moved hvm.symm hK1
  obtain ⟨hP, hD⟩ := va_join (wr := []) (w1 := [(h0, .inr (11, [.ref a1, .ref a2, .ref a3, .ref a4, .ref a5, .ref a6, .ref a7, .ref a8, .int 0, .int 0, .int 0, .int (-1)])), (a2, .inl (cC2, 1200, .inl fU_8))]) hP hD [0, 1] [] rfl rfl (by decide) (by decide) hk1 hFc hP1 hD1
  have hK := hK.app hK1
  generalize H1 = H at hP hS ⊢
  have hP : va_P (dC, dI) vwCl [(h0, .inr (11, [.ref a1, .ref a2, .ref a3, .ref a4, .ref a5, .ref a6, .ref a7, .ref a8, .int 0, .int 0, .int 0, .int (-1)])), (a2, .inl (cC2, 1200, .inl fU_8))] H := hP
  have hD : va_D A [(h0, .inr (11, [.ref a1, .ref a2, .ref a3, .ref a4, .ref a5, .ref a6, .ref a7, .ref a8, .int 0, .int 0, .int 0, .int (-1)])), (a2, .inl (cC2, 1200, .inl fU_8))] := hD
  have hK : va_K (dC, dI) vwCl [(cC2, .char)] s := hK
  refine W.widen (k := 0) (n := 0) (Nat.le_of_ble_eq_true rfl) (Nat.le_of_ble_eq_true rfl) ?_
  refine lv_istore (lv' := [(6, .int r_7), (0, .ref h0), (1, .int p0), (2, .int p1), (3, .int p2), (4, .int p3), (5, .int p4)]) hx hb dX12_type_37 hl (by decide) rfl (fun ls hl => ?_)
  refine lv_aload_n hx hb dX12_type_39 rfl (lv_at hl 1 rfl) ?_
  refine lv_iload hx hb dX12_type_40 (lv_at hl 0 rfl) ?_
  refine lv_iload hx hb dX12_type_42 (lv_at hl 6 rfl) ?_
  have hPc := hP.sub (ws' := [(h0, .inr (11, [.ref a1, .ref a2, .ref a3, .ref a4, .ref a5, .ref a6, .ref a7, .ref a8, .int 0, .int 0, .int 0, .int (-1)])), (a2, .inl (cC2, 1200, .inl fU_8))]) [0, 1] rfl
  have hDc := hD.sub (ws' := [(h0, .inr (11, [.ref a1, .ref a2, .ref a3, .ref a4, .ref a5, .ref a6, .ref a7, .ref a8, .int 0, .int 0, .int 0, .int (-1)])), (a2, .inl (cC2, 1200, .inl fU_8))]) [0, 1] (by decide) rfl
  have hKc := hK.sub (tys' := [(cC2, .char)]) [0] rfl
  have hFc := va_free (wc := [(h0, .inr (11, [.ref a1, .ref a2, .ref a3, .ref a4, .ref a5, .ref a6, .ref a7, .ref a8, .int 0, .int 0, .int 0, .int (-1)])), (a2, .inl (cC2, 1200, .inl fU_8))]) hD hS hA [0, 1] rfl
  refine va_calli (va_runV (As := [.int r_7, .int p4]) (rest := []) ⟨hx, hb, hml, hown, htb⟩ (c_X12_typedBehind l dC dI H.size h0 r_7 p4 a1 a2 a3 a4 a5 a6 a7 a8 cC2 fU_8 (tok_up (by decide) (tk_e hr_7 (f4_ok (M := 12) (by decide) (tk_e hr_5 (f4_ok (M := 8) (by decide) (tk_e hr_3 (f4_ok (M := 4) (by decide) (tk_e hr_1 (f4_ok (M := 0) (by decide) (Or.inr ⟨0, Nat.le_refl _, rfl⟩ : tok 0 0) p0)) p1)) p2)) p3)))) (cwV 2 htb (gd_V kw_69 kw_70 kw_71 kw_49 kw_544) rfl rfl rfl (by decide +kernel) ⟨Nat.le_of_ble_eq_true rfl, Nat.le_of_ble_eq_true rfl⟩) ⟨fun a U g mk q => by obtain ⟨q0, q1, qP, qK, qD⟩ := q; exact ⟨q0, q1, qP, va_K.moved (u := U) (U := U.calling g mk a) (Vm.Alike.refl U.vm) qK, qD⟩, va_recv hKc hPc (ci := 11) (q0 := 0) rfl rfl, fun U hU hW => ⟨rfl, by rw [hU], by rw [hU]; exact hPc, va_K.moved hW.alike hKc, hDc.weaken (fun _ _ _ _ => trivial)⟩⟩ rfl rfl hl.1 rfl (lv_room (Nat.le_of_ble_eq_true rfl)) dX12_type_44 ⟨(Nat.le_of_ble_eq_true rfl), (Nat.le_of_ble_eq_true rfl)⟩) hS (fun q _ h => hFc q h) hFc (fun r_9 u t H1 locs ht hvm hw hB hz1 hk1 hS => ?_)
  have hr_9 := hw
  obtain ⟨fU_10, hP1, hK1, hD1⟩ := hB
  rw [ht] at hP1
  have hK1 := va_K.moved hvm.symm hK1
  obtain ⟨hP, hD⟩ := va_join (wr := []) (w1 := [(h0, .inr (11, [.ref a1, .ref a2, .ref a3, .ref a4, .ref a5, .ref a6, .ref a7, .ref a8, .int 0, .int 0, .int 0, .int (-1)])), (a2, .inl (cC2, 1200, .inl fU_10))]) hP hD [0, 1] [] rfl rfl (by decide) (by decide) hk1 hFc hP1 hD1
  have hK := hK.app hK1
  generalize H1 = H at hP hS ⊢
  have hP : va_P (dC, dI) vwCl [(h0, .inr (11, [.ref a1, .ref a2, .ref a3, .ref a4, .ref a5, .ref a6, .ref a7, .ref a8, .int 0, .int 0, .int 0, .int (-1)])), (a2, .inl (cC2, 1200, .inl fU_10))] H := hP
  have hD : va_D A [(h0, .inr (11, [.ref a1, .ref a2, .ref a3, .ref a4, .ref a5, .ref a6, .ref a7, .ref a8, .int 0, .int 0, .int 0, .int (-1)])), (a2, .inl (cC2, 1200, .inl fU_10))] := hD
  have hK : va_K (dC, dI) vwCl [(cC2, .char)] s := hK
  refine W.widen (k := 0) (n := 0) (Nat.le_of_ble_eq_true rfl) (Nat.le_of_ble_eq_true rfl) ?_
  refine lv_istore (lv' := [(6, .int r_9), (0, .ref h0), (1, .int p0), (2, .int p1), (3, .int p2), (4, .int p3), (5, .int p4)]) hx hb dX12_type_47 hl (by decide) rfl (fun ls hl => ?_)
  refine lv_iload hx hb dX12_type_49 (lv_at hl 0 rfl) ?_
  refine lv_iconst (v := (-1)) hx hb dX12_type_51 (by decide) ?_
  refine lv_icmp_eq (tgt := 61) hx hb dX12_type_52 (by decide) (fun c_11 => ?_) (fun c_11 => ?_)
  · refine lv_iload hx hb dX12_type_61 (lv_at hl 0 rfl) ?_
    have hP9 := hP.sub (ws' := []) [] rfl
    have hD9 := hD.sub (ws' := []) [] (by decide) rfl
    have hK9 := hK.sub (tys' := []) [] rfl
    refine W.widen (k := 0) (n := 0) (Nat.le_of_ble_eq_true rfl) (Nat.le_of_ble_eq_true rfl) ?_
    exact W.iret (v := r_9) hx hb hr (fun t ht hW => ⟨⟨r_9, (), rfl, (by rw [hr_9, hr_7, hr_5, hr_3, hr_1]), by rw [ht]; exact hP9, va_K.moved hW.alike hK9, hD9⟩, hS.F ht⟩) hS.2.2 dX12_type_63
  · refine lv_aload_n hx hb dX12_type_55 rfl (lv_at hl 1 rfl) ?_
    refine lv_iload hx hb dX12_type_56 (lv_at hl 0 rfl) ?_
    refine va_put (D := (dC, dI)) (ci := 11) (v := .int r_9) (ty := .int) (C := RX12) (T := TX12) (N := 12) hx hb htb inX12 tyX12 tyX12_ok nmX12 hown hK hP hD hS 0 rfl rfl 8 (by decide) (htb _ kw_68) (fun _ h9 => h9) rfl (tyX12_ok 8 (by decide)) rfl rfl (Nat.le_of_ble_eq_true rfl) dX12_type_58 (fun H locs hP hD hS => ?_)
    have hP : va_P (dC, dI) vwCl [(h0, .inr (11, [.ref a1, .ref a2, .ref a3, .ref a4, .ref a5, .ref a6, .ref a7, .ref a8, .int r_9, .int 0, .int 0, .int (-1)])), (a2, .inl (cC2, 1200, .inl fU_10))] H := hP
    have hD : va_D A [(h0, .inr (11, [.ref a1, .ref a2, .ref a3, .ref a4, .ref a5, .ref a6, .ref a7, .ref a8, .int r_9, .int 0, .int 0, .int (-1)])), (a2, .inl (cC2, 1200, .inl fU_10))] := hD
    refine lv_iload hx hb dX12_type_61 (lv_at hl 0 rfl) ?_
    have hP9 := hP.sub (ws' := []) [] rfl
    have hD9 := hD.sub (ws' := []) [] (by decide) rfl
    have hK9 := hK.sub (tys' := []) [] rfl
    refine W.widen (k := 0) (n := 0) (Nat.le_of_ble_eq_true rfl) (Nat.le_of_ble_eq_true rfl) ?_
    exact W.iret (v := r_9) hx hb hr (fun t ht hW => ⟨⟨r_9, (), rfl, (by rw [hr_9, hr_7, hr_5, hr_3, hr_1]), by rw [ht]; exact hP9, va_K.moved hW.alike hK9, hD9⟩, hS.F ht⟩) hS.2.2 dX12_type_63

set_option maxHeartbeats 4000000 in
set_option maxRecDepth 100000 in
theorem c_X13_type (l : Launch) (dC : Nat → ClassId) (dI : Nat → Nat → Nat) (sz : Nat) (h0 : Nat) (p0 : Int32) (p1 : Int32) (p2 : Int32) (p3 : Int32) (p4 : Int32) (m0 : Nat) (m1 : Nat) (m2 : Nat) (m3 : Nat) (m4 : Nat) (m6 : Nat) (m7 : Nat) (m8 : Nat) (m9 : Nat) (m10 : Nat) (m11 : Nat) (m12 : Nat) (m13 : Nat) (m14 : Nat) (m15 : Nat) (m16 : Nat) (m17 : Nat) (m18 : Nat) (m19 : Nat) (m26 : Nat) (m27 : Nat) (m28 : Nat) (m29 : Nat) (m30 : Nat) (m31 : Nat) (m32 : Nat) (m33 : Nat) (m34 : Nat) (m35 : Nat) (m36 : Nat) (m37 : Nat) (m38 : Nat) (m39 : Nat) (m42 : Nat) (m43 : Nat) (m44 : Nat) (m45 : Nat) (m46 : Nat) (m47 : Nat) (m53 : Nat) (m54 : Nat) (m55 : Nat) (m56 : Nat) (m57 : Nat) (m58 : Nat) (m59 : Nat) (m60 : Nat) (m61 : Nat) (m62 : Nat) (m64 : Nat) (m65 : Nat) (m66 : Nat) (m67 : Nat) (m68 : Nat) (m69 : Nat) (m70 : Nat) (m71 : Nat) (m72 : Nat) (m73 : Nat) (m75 : Nat) (cM19 : ClassId) : Met l yX13_type wm_X13_type ({ frames := 0, cells := 0, slots := 0, locals := 0 }) (va_Pc [.ref h0, .int p0, .int p1, .int p2, .int p3, .int p4] (fun U => U.heap.size = sz ∧ va_P (dC, dI) vwCl [(h0, .inr (12, [.ref m0, .ref m1, .ref m2, .ref m3, .ref m4, .int 0, .ref m6, .ref m7, .ref m8, .ref m9, .ref m10, .ref m11, .ref m12, .ref m13, .ref m14, .ref m15, .ref m16, .ref m17, .ref m18, .ref m19, .int 0, .int 0, .int 0, .int (-1), .int 0, .int 0, .ref m26, .ref m27, .ref m28, .ref m29, .ref m30, .ref m31, .ref m32, .ref m33, .ref m34, .ref m35, .ref m36, .ref m37, .ref m38, .ref m39, .int 0, .int 0, .ref m42, .ref m43, .ref m44, .ref m45, .ref m46, .ref m47, .int 0, .int 0, .int 0, .int 0, .int (-1), .ref m53, .ref m54, .ref m55, .ref m56, .ref m57, .ref m58, .ref m59, .ref m60, .ref m61, .ref m62, .int 0, .ref m64, .ref m65, .ref m66, .ref m67, .ref m68, .ref m69, .ref m70, .ref m71, .ref m72, .ref m73, .int 0, .ref m75, .int 0])), (m19, .inl (cM19, 1200, .inl (fun _ => 0)))] U.heap ∧ va_K (dC, dI) vwCl [(cM19, .byte)] U ∧ va_D (fun _ => True) [(h0, .inr (12, [.ref m0, .ref m1, .ref m2, .ref m3, .ref m4, .int 0, .ref m6, .ref m7, .ref m8, .ref m9, .ref m10, .ref m11, .ref m12, .ref m13, .ref m14, .ref m15, .ref m16, .ref m17, .ref m18, .ref m19, .int 0, .int 0, .int 0, .int (-1), .int 0, .int 0, .ref m26, .ref m27, .ref m28, .ref m29, .ref m30, .ref m31, .ref m32, .ref m33, .ref m34, .ref m35, .ref m36, .ref m37, .ref m38, .ref m39, .int 0, .int 0, .ref m42, .ref m43, .ref m44, .ref m45, .ref m46, .ref m47, .int 0, .int 0, .int 0, .int 0, .int (-1), .ref m53, .ref m54, .ref m55, .ref m56, .ref m57, .ref m58, .ref m59, .ref m60, .ref m61, .ref m62, .int 0, .ref m64, .ref m65, .ref m66, .ref m67, .ref m68, .ref m69, .ref m70, .ref m71, .ref m72, .ref m73, .int 0, .ref m75, .int 0])), (m19, .inl (cM19, 1200, .inl (fun _ => 0)))])) (va_Qi (fun (r : Int32) (_ : Unit) => r = mE p0 p1 p2 p3 p4 20) (fun _ t => va_P (dC, dI) vwCl [] t.heap ∧ va_K (dC, dI) vwCl [] t ∧ va_D (va_A [(h0, .inr (12, [.ref m0, .ref m1, .ref m2, .ref m3, .ref m4, .int 0, .ref m6, .ref m7, .ref m8, .ref m9, .ref m10, .ref m11, .ref m12, .ref m13, .ref m14, .ref m15, .ref m16, .ref m17, .ref m18, .ref m19, .int 0, .int 0, .int 0, .int (-1), .int 0, .int 0, .ref m26, .ref m27, .ref m28, .ref m29, .ref m30, .ref m31, .ref m32, .ref m33, .ref m34, .ref m35, .ref m36, .ref m37, .ref m38, .ref m39, .int 0, .int 0, .ref m42, .ref m43, .ref m44, .ref m45, .ref m46, .ref m47, .int 0, .int 0, .int 0, .int 0, .int (-1), .ref m53, .ref m54, .ref m55, .ref m56, .ref m57, .ref m58, .ref m59, .ref m60, .ref m61, .ref m62, .int 0, .ref m64, .ref m65, .ref m66, .ref m67, .ref m68, .ref m69, .ref m70, .ref m71, .ref m72, .ref m73, .int 0, .ref m75, .int 0])), (m19, .inl (cM19, 1200, .inl (fun _ => 0)))] sz) []) (va_A [(h0, .inr (12, [.ref m0, .ref m1, .ref m2, .ref m3, .ref m4, .int 0, .ref m6, .ref m7, .ref m8, .ref m9, .ref m10, .ref m11, .ref m12, .ref m13, .ref m14, .ref m15, .ref m16, .ref m17, .ref m18, .ref m19, .int 0, .int 0, .int 0, .int (-1), .int 0, .int 0, .ref m26, .ref m27, .ref m28, .ref m29, .ref m30, .ref m31, .ref m32, .ref m33, .ref m34, .ref m35, .ref m36, .ref m37, .ref m38, .ref m39, .int 0, .int 0, .ref m42, .ref m43, .ref m44, .ref m45, .ref m46, .ref m47, .int 0, .int 0, .int 0, .int 0, .int (-1), .ref m53, .ref m54, .ref m55, .ref m56, .ref m57, .ref m58, .ref m59, .ref m60, .ref m61, .ref m62, .int 0, .ref m64, .ref m65, .ref m66, .ref m67, .ref m68, .ref m69, .ref m70, .ref m71, .ref m72, .ref m73, .int 0, .ref m75, .int 0])), (m19, .inl (cM19, 1200, .inl (fun _ => 0)))] sz)) 0 0 (va_A [(h0, .inr (12, [.ref m0, .ref m1, .ref m2, .ref m3, .ref m4, .int 0, .ref m6, .ref m7, .ref m8, .ref m9, .ref m10, .ref m11, .ref m12, .ref m13, .ref m14, .ref m15, .ref m16, .ref m17, .ref m18, .ref m19, .int 0, .int 0, .int 0, .int (-1), .int 0, .int 0, .ref m26, .ref m27, .ref m28, .ref m29, .ref m30, .ref m31, .ref m32, .ref m33, .ref m34, .ref m35, .ref m36, .ref m37, .ref m38, .ref m39, .int 0, .int 0, .ref m42, .ref m43, .ref m44, .ref m45, .ref m46, .ref m47, .int 0, .int 0, .int 0, .int 0, .int (-1), .ref m53, .ref m54, .ref m55, .ref m56, .ref m57, .ref m58, .ref m59, .ref m60, .ref m61, .ref m62, .int 0, .ref m64, .ref m65, .ref m66, .ref m67, .ref m68, .ref m69, .ref m70, .ref m71, .ref m72, .ref m73, .int 0, .ref m75, .int 0])), (m19, .inl (cM19, 1200, .inl (fun _ => 0)))] sz) := by
  refine Met.ofW (cc := cX13_type) (maxL := 10) (ret := (some .int)) (by decide) rfl ?_
  intro p e s m args below meth c s₁ B hml hv
  obtain ⟨rfl, hsz, hP, hK, hD0⟩ := hv
  have hx := B.exec
  have hb := B.bytes
  have hr := B.returns
  have hts := atoms_spec (ws := wm_X13_type) B.pre
  have htb := fun (w : Cond) (h : w ∈ tb) => hts w (List.mem_cons_of_mem _ h)
  have hown : s.vm.findClass RX13 = some m.cls := findClass_of_methodNamed B.named
  have hlocks := B.notSynchronized
  subst hsz
  have hD := hD0.self (sz := s.heap.size)
  generalize hAe : va_A [(h0, .inr (12, [.ref m0, .ref m1, .ref m2, .ref m3, .ref m4, .int 0, .ref m6, .ref m7, .ref m8, .ref m9, .ref m10, .ref m11, .ref m12, .ref m13, .ref m14, .ref m15, .ref m16, .ref m17, .ref m18, .ref m19, .int 0, .int 0, .int 0, .int (-1), .int 0, .int 0, .ref m26, .ref m27, .ref m28, .ref m29, .ref m30, .ref m31, .ref m32, .ref m33, .ref m34, .ref m35, .ref m36, .ref m37, .ref m38, .ref m39, .int 0, .int 0, .ref m42, .ref m43, .ref m44, .ref m45, .ref m46, .ref m47, .int 0, .int 0, .int 0, .int 0, .int (-1), .ref m53, .ref m54, .ref m55, .ref m56, .ref m57, .ref m58, .ref m59, .ref m60, .ref m61, .ref m62, .int 0, .ref m64, .ref m65, .ref m66, .ref m67, .ref m68, .ref m69, .ref m70, .ref m71, .ref m72, .ref m73, .int 0, .ref m75, .int 0])), (m19, .inl (cM19, 1200, .inl (fun _ => 0)))] s.heap.size = A at hD ⊢
  have hA : ∀ q : Nat, s.heap.size ≤ q → A q := fun q h => by rw [← hAe]; exact Or.inr h
  have hS : va_S A s.heap s.heap [] := va_S.rf
  have hP : va_P (dC, dI) vwCl [(h0, .inr (12, [.ref m0, .ref m1, .ref m2, .ref m3, .ref m4, .int 0, .ref m6, .ref m7, .ref m8, .ref m9, .ref m10, .ref m11, .ref m12, .ref m13, .ref m14, .ref m15, .ref m16, .ref m17, .ref m18, .ref m19, .int 0, .int 0, .int 0, .int (-1), .int 0, .int 0, .ref m26, .ref m27, .ref m28, .ref m29, .ref m30, .ref m31, .ref m32, .ref m33, .ref m34, .ref m35, .ref m36, .ref m37, .ref m38, .ref m39, .int 0, .int 0, .ref m42, .ref m43, .ref m44, .ref m45, .ref m46, .ref m47, .int 0, .int 0, .int 0, .int 0, .int (-1), .ref m53, .ref m54, .ref m55, .ref m56, .ref m57, .ref m58, .ref m59, .ref m60, .ref m61, .ref m62, .int 0, .ref m64, .ref m65, .ref m66, .ref m67, .ref m68, .ref m69, .ref m70, .ref m71, .ref m72, .ref m73, .int 0, .ref m75, .int 0])), (m19, .inl (cM19, 1200, .inl (fun _ => 0)))] s.heap := hP
  have hl := lv_entry ([.ref h0, .int p0, .int p1, .int p2, .int p3, .int p4]) (n := 10) (Nat.le_of_ble_eq_true rfl)
  rw [lg_entry_eq]
  generalize (lg_sl ([.ref h0, .int p0, .int p1, .int p2, .int p3, .int p4]) ++ List.replicate (10 - (lg_sl ([.ref h0, .int p0, .int p1, .int p2, .int p3, .int p4])).length) Slot.unset).toArray = ls at hl ⊢
  have hl : lv_has ls 10 [(0, .ref h0), (1, .int p0), (2, .int p1), (3, .int p2), (4, .int p3), (5, .int p4)] := hl
  refine lv_aload_n hx hb dX13_type_0 rfl (lv_at hl 0 rfl) ?_
  refine lv_iconst (v := 0) hx hb dX13_type_1 (by decide) ?_
  refine va_put (D := (dC, dI)) (ci := 12) (v := .int 0) (ty := .int) (C := RX13) (T := TX13) (N := 77) hx hb htb inX13 tyX13 tyX13_ok nmX13 hown hK hP hD hS 0 rfl rfl 5 (by decide) (htb _ kw_342) (fun _ h9 => h9) rfl (tyX13_ok 5 (by decide)) rfl rfl (Nat.le_of_ble_eq_true rfl) dX13_type_2 (fun H locs hP hD hS => ?_)
  have hP : va_P (dC, dI) vwCl [(h0, .inr (12, [.ref m0, .ref m1, .ref m2, .ref m3, .ref m4, .int 0, .ref m6, .ref m7, .ref m8, .ref m9, .ref m10, .ref m11, .ref m12, .ref m13, .ref m14, .ref m15, .ref m16, .ref m17, .ref m18, .ref m19, .int 0, .int 0, .int 0, .int (-1), .int 0, .int 0, .ref m26, .ref m27, .ref m28, .ref m29, .ref m30, .ref m31, .ref m32, .ref m33, .ref m34, .ref m35, .ref m36, .ref m37, .ref m38, .ref m39, .int 0, .int 0, .ref m42, .ref m43, .ref m44, .ref m45, .ref m46, .ref m47, .int 0, .int 0, .int 0, .int 0, .int (-1), .ref m53, .ref m54, .ref m55, .ref m56, .ref m57, .ref m58, .ref m59, .ref m60, .ref m61, .ref m62, .int 0, .ref m64, .ref m65, .ref m66, .ref m67, .ref m68, .ref m69, .ref m70, .ref m71, .ref m72, .ref m73, .int 0, .ref m75, .int 0])), (m19, .inl (cM19, 1200, .inl (fun _ => 0)))] H := hP
  have hD : va_D A [(h0, .inr (12, [.ref m0, .ref m1, .ref m2, .ref m3, .ref m4, .int 0, .ref m6, .ref m7, .ref m8, .ref m9, .ref m10, .ref m11, .ref m12, .ref m13, .ref m14, .ref m15, .ref m16, .ref m17, .ref m18, .ref m19, .int 0, .int 0, .int 0, .int (-1), .int 0, .int 0, .ref m26, .ref m27, .ref m28, .ref m29, .ref m30, .ref m31, .ref m32, .ref m33, .ref m34, .ref m35, .ref m36, .ref m37, .ref m38, .ref m39, .int 0, .int 0, .ref m42, .ref m43, .ref m44, .ref m45, .ref m46, .ref m47, .int 0, .int 0, .int 0, .int 0, .int (-1), .ref m53, .ref m54, .ref m55, .ref m56, .ref m57, .ref m58, .ref m59, .ref m60, .ref m61, .ref m62, .int 0, .ref m64, .ref m65, .ref m66, .ref m67, .ref m68, .ref m69, .ref m70, .ref m71, .ref m72, .ref m73, .int 0, .ref m75, .int 0])), (m19, .inl (cM19, 1200, .inl (fun _ => 0)))] := hD
  refine lv_iconst (v := 0) hx hb dX13_type_5 (by decide) ?_
  refine lv_istore (lv' := [(6, .int 0), (0, .ref h0), (1, .int p0), (2, .int p1), (3, .int p2), (4, .int p3), (5, .int p4)]) hx hb dX13_type_6 hl (by decide) rfl (fun ls hl => ?_)
  refine lv_iconst (v := 0) hx hb dX13_type_8 (by decide) ?_
  refine lv_istore (lv' := [(7, .int 0), (6, .int 0), (0, .ref h0), (1, .int p0), (2, .int p1), (3, .int p2), (4, .int p3), (5, .int p4)]) hx hb dX13_type_9 hl (by decide) rfl (fun ls hl => ?_)
  have hloop11 : ∀ (n i : Nat) (mm : Nat) (H : Heap) (locs : List Loc) (ls : Array Slot), i + n = 20 → mE p0 p1 p2 p3 p4 i = nI mm → mm ≤ i → va_P (dC, dI) vwCl [(h0, .inr (12, [.ref m0, .ref m1, .ref m2, .ref m3, .ref m4, .int 0, .ref m6, .ref m7, .ref m8, .ref m9, .ref m10, .ref m11, .ref m12, .ref m13, .ref m14, .ref m15, .ref m16, .ref m17, .ref m18, .ref m19, .int 0, .int 0, .int 0, .int (-1), .int 0, .int 0, .ref m26, .ref m27, .ref m28, .ref m29, .ref m30, .ref m31, .ref m32, .ref m33, .ref m34, .ref m35, .ref m36, .ref m37, .ref m38, .ref m39, .int 0, .int 0, .ref m42, .ref m43, .ref m44, .ref m45, .ref m46, .ref m47, .int 0, .int 0, .int 0, .int 0, .int (-1), .ref m53, .ref m54, .ref m55, .ref m56, .ref m57, .ref m58, .ref m59, .ref m60, .ref m61, .ref m62, .int 0, .ref m64, .ref m65, .ref m66, .ref m67, .ref m68, .ref m69, .ref m70, .ref m71, .ref m72, .ref m73, .int 0, .ref m75, .int 0])), (m19, .inl (cM19, 1200, .inl (fun _ => 0)))] H → va_D A [(h0, .inr (12, [.ref m0, .ref m1, .ref m2, .ref m3, .ref m4, .int 0, .ref m6, .ref m7, .ref m8, .ref m9, .ref m10, .ref m11, .ref m12, .ref m13, .ref m14, .ref m15, .ref m16, .ref m17, .ref m18, .ref m19, .int 0, .int 0, .int 0, .int (-1), .int 0, .int 0, .ref m26, .ref m27, .ref m28, .ref m29, .ref m30, .ref m31, .ref m32, .ref m33, .ref m34, .ref m35, .ref m36, .ref m37, .ref m38, .ref m39, .int 0, .int 0, .ref m42, .ref m43, .ref m44, .ref m45, .ref m46, .ref m47, .int 0, .int 0, .int 0, .int 0, .int (-1), .ref m53, .ref m54, .ref m55, .ref m56, .ref m57, .ref m58, .ref m59, .ref m60, .ref m61, .ref m62, .int 0, .ref m64, .ref m65, .ref m66, .ref m67, .ref m68, .ref m69, .ref m70, .ref m71, .ref m72, .ref m73, .int 0, .ref m75, .int 0])), (m19, .inl (cM19, 1200, .inl (fun _ => 0)))] → va_S A s.heap H locs → lv_has ls 10 [(7, .int (nI i)), (6, .int (nI mm)), (0, .ref h0), (1, .int p0), (2, .int p1), (3, .int p2), (4, .int p3), (5, .int p4)] → W p l e (headSpec wm_X13_type ({ frames := 0, cells := 0, slots := 0, locals := 0 })).room s m ([.ref h0, .int p0, .int p1, .int p2, .int p3, .int p4] : List Value).toArray below meth c H locs (0) (0) (MQ below (va_Qi (fun (r : Int32) (_ : Unit) => r = mE p0 p1 p2 p3 p4 20) (fun _ t => va_P (dC, dI) vwCl [] t.heap ∧ va_K (dC, dI) vwCl [] t ∧ va_D A []) A) ([.ref h0, .int p0, .int p1, .int p2, .int p3, .int p4] : List Value).toArray s 0 0 A) (F0 m 11 ls []) := by
    intro n
    induction n with
    | zero =>
      intro i mm H locs ls hi9 hE hmm hP hD hS hl
      obtain rfl : i = 20 := by omega
      have hl : lv_has ls 10 [(7, .int 20), (6, .int (nI mm)), (0, .ref h0), (1, .int p0), (2, .int p1), (3, .int p2), (4, .int p3), (5, .int p4)] := hl
      have hE20 := hE
      have hmm20 := hmm
      refine lv_iload hx hb dX13_type_11 (lv_at hl 0 rfl) ?_
      refine lv_bipush (v := 20) hx hb dX13_type_13 (by decide) ?_
      refine lv_icmp_ge (tgt := 134) hx hb dX13_type_15 (by decide) (fun _ => ?_) (fun c_1 => absurd (by decide) c_1)
      refine lv_aload_n hx hb dX13_type_134 rfl (lv_at hl 2 rfl) ?_
      refine va_get (D := (dC, dI)) (ci := 12) (v := .int 0) (C := RX13) (T := TX13) (N := 77) hx hb htb inX13 hown hK hP 0 rfl rfl 20 (by decide) (htb _ kw_352) (fun _ h9 => h9) rfl dX13_type_135 ?_
      refine lv_iload hx hb dX13_type_138 (lv_at hl 1 rfl) ?_
      refine lv_iadd hx hb dX13_type_140 ?_
      refine lv_sipush (v := 1200) hx hb dX13_type_141 (by decide) ?_
      refine lv_icmp_le (tgt := 149) hx hb dX13_type_144 (by decide) (fun _ => ?_) (fun c_2 => absurd (by rw [Int32.zero_add]; exact nI_le (a := mm) (b := 1200) (by omega) (by decide)) c_2)
      refine lv_iconst (v := 0) hx hb dX13_type_149 (by decide) ?_
      refine lv_istore (lv' := [(7, .int 0), (6, .int (nI mm)), (0, .ref h0), (1, .int p0), (2, .int p1), (3, .int p2), (4, .int p3), (5, .int p4)]) hx hb dX13_type_150 hl (by decide) rfl (fun ls hl => ?_)
      have hloop152 : ∀ (n i : Nat) (sz2 : Nat) (fT2 : Nat → Int32) (H : Heap) (locs : List Loc) (ls : Array Slot), i + n = 20 → mE p0 p1 p2 p3 p4 i = nI sz2 → sz2 ≤ i → va_P (dC, dI) vwCl [(h0, .inr (12, [.ref m0, .ref m1, .ref m2, .ref m3, .ref m4, .int 0, .ref m6, .ref m7, .ref m8, .ref m9, .ref m10, .ref m11, .ref m12, .ref m13, .ref m14, .ref m15, .ref m16, .ref m17, .ref m18, .ref m19, .int (nI sz2), .int 0, .int 0, .int (-1), .int 0, .int 0, .ref m26, .ref m27, .ref m28, .ref m29, .ref m30, .ref m31, .ref m32, .ref m33, .ref m34, .ref m35, .ref m36, .ref m37, .ref m38, .ref m39, .int 0, .int 0, .ref m42, .ref m43, .ref m44, .ref m45, .ref m46, .ref m47, .int 0, .int 0, .int 0, .int 0, .int (-1), .ref m53, .ref m54, .ref m55, .ref m56, .ref m57, .ref m58, .ref m59, .ref m60, .ref m61, .ref m62, .int 0, .ref m64, .ref m65, .ref m66, .ref m67, .ref m68, .ref m69, .ref m70, .ref m71, .ref m72, .ref m73, .int 0, .ref m75, .int 0])), (m19, .inl (cM19, 1200, .inl fT2))] H → va_D A [(h0, .inr (12, [.ref m0, .ref m1, .ref m2, .ref m3, .ref m4, .int 0, .ref m6, .ref m7, .ref m8, .ref m9, .ref m10, .ref m11, .ref m12, .ref m13, .ref m14, .ref m15, .ref m16, .ref m17, .ref m18, .ref m19, .int (nI sz2), .int 0, .int 0, .int (-1), .int 0, .int 0, .ref m26, .ref m27, .ref m28, .ref m29, .ref m30, .ref m31, .ref m32, .ref m33, .ref m34, .ref m35, .ref m36, .ref m37, .ref m38, .ref m39, .int 0, .int 0, .ref m42, .ref m43, .ref m44, .ref m45, .ref m46, .ref m47, .int 0, .int 0, .int 0, .int 0, .int (-1), .ref m53, .ref m54, .ref m55, .ref m56, .ref m57, .ref m58, .ref m59, .ref m60, .ref m61, .ref m62, .int 0, .ref m64, .ref m65, .ref m66, .ref m67, .ref m68, .ref m69, .ref m70, .ref m71, .ref m72, .ref m73, .int 0, .ref m75, .int 0])), (m19, .inl (cM19, 1200, .inl fT2))] → va_S A s.heap H locs → lv_has ls 10 [(7, .int (nI i)), (0, .ref h0), (1, .int p0), (2, .int p1), (3, .int p2), (4, .int p3), (5, .int p4)] → W p l e (headSpec wm_X13_type ({ frames := 0, cells := 0, slots := 0, locals := 0 })).room s m ([.ref h0, .int p0, .int p1, .int p2, .int p3, .int p4] : List Value).toArray below meth c H locs (0) (0) (MQ below (va_Qi (fun (r : Int32) (_ : Unit) => r = mE p0 p1 p2 p3 p4 20) (fun _ t => va_P (dC, dI) vwCl [] t.heap ∧ va_K (dC, dI) vwCl [] t ∧ va_D A []) A) ([.ref h0, .int p0, .int p1, .int p2, .int p3, .int p4] : List Value).toArray s 0 0 A) (F0 m 152 ls []) := by
        intro n
        induction n with
        | zero =>
          intro i sz2 fT2 H locs ls hi9 hE2 hm2 hP hD hS hl
          obtain rfl : i = 20 := by omega
          have hl : lv_has ls 10 [(7, .int 20), (0, .ref h0), (1, .int p0), (2, .int p1), (3, .int p2), (4, .int p3), (5, .int p4)] := hl
          refine lv_iload hx hb dX13_type_152 (lv_at hl 0 rfl) ?_
          refine lv_bipush (v := 20) hx hb dX13_type_154 (by decide) ?_
          refine lv_icmp_ge (tgt := 259) hx hb dX13_type_156 (by decide) (fun _ => ?_) (fun c_3 => absurd (by decide) c_3)
          refine lv_aload_n hx hb dX13_type_259 rfl (lv_at hl 1 rfl) ?_
          refine va_get (D := (dC, dI)) (ci := 12) (v := .int (nI sz2)) (C := RX13) (T := TX13) (N := 77) hx hb htb inX13 hown hK hP 0 rfl rfl 20 (by decide) (htb _ kw_352) (fun _ h9 => h9) rfl dX13_type_260 ?_
          have hP9 := hP.sub (ws' := []) [] rfl
          have hD9 := hD.sub (ws' := []) [] (by decide) rfl
          have hK9 := hK.sub (tys' := []) [] rfl
          refine W.widen (k := 0) (n := 0) (Nat.le_of_ble_eq_true rfl) (Nat.le_of_ble_eq_true rfl) ?_
          exact W.iret (v := nI sz2) hx hb hr (fun t ht hW => ⟨⟨nI sz2, (), rfl, (hE2.symm), by rw [ht]; exact hP9, va_K.moved hW.alike hK9, hD9⟩, hS.F ht⟩) hS.2.2 dX13_type_263
        | succ n ih =>
          intro i sz2 fT2 H locs ls hi9 hE2 hm2 hP hD hS hl
          have hlt : i < 20 := by omega
          refine lv_iload hx hb dX13_type_152 (lv_at hl 0 rfl) ?_
          refine lv_bipush (v := 20) hx hb dX13_type_154 (by decide) ?_
          refine lv_icmp_ge (tgt := 259) hx hb dX13_type_156 (by decide) (fun c_4 => absurd c_4 (nI_ge hlt (by decide))) (fun _ => ?_)
          refine lv_iload hx hb dX13_type_159 (lv_at hl 0 rfl) ?_
          refine lv_iconst (v := 4) hx hb dX13_type_161 (by decide) ?_
          refine lv_icmp_ge (tgt := 169) hx hb dX13_type_162 (by decide) (fun c_5 => ?_) (fun c_5 => ?_)
          · refine lv_iload hx hb dX13_type_169 (lv_at hl 0 rfl) ?_
            refine lv_bipush (v := 8) hx hb dX13_type_171 (by decide) ?_
            refine lv_icmp_ge (tgt := 180) hx hb dX13_type_173 (by decide) (fun c_6 => ?_) (fun c_6 => ?_)
            · refine lv_iload hx hb dX13_type_180 (lv_at hl 0 rfl) ?_
              refine lv_bipush (v := 12) hx hb dX13_type_182 (by decide) ?_
              refine lv_icmp_ge (tgt := 191) hx hb dX13_type_184 (by decide) (fun c_7 => ?_) (fun c_7 => ?_)
              · refine lv_iload hx hb dX13_type_191 (lv_at hl 0 rfl) ?_
                refine lv_bipush (v := 16) hx hb dX13_type_193 (by decide) ?_
                refine lv_icmp_ge (tgt := 203) hx hb dX13_type_195 (by decide) (fun c_8 => ?_) (fun c_8 => ?_)
                · refine lv_iload hx hb dX13_type_203 (lv_at hl 6 rfl) ?_
                  refine lv_istore (lv' := [(8, .int p4), (7, .int (nI i)), (0, .ref h0), (1, .int p0), (2, .int p1), (3, .int p2), (4, .int p3), (5, .int p4)]) hx hb dX13_type_205 hl (by decide) rfl (fun ls hl => ?_)
                  refine lv_iload hx hb dX13_type_207 (lv_at hl 0 rfl) ?_
                  refine lv_bipush (v := 24) hx hb dX13_type_209 (by decide) ?_
                  refine lv_bipush (v := 8) hx hb dX13_type_211 (by decide) ?_
                  refine lv_iload hx hb dX13_type_213 (lv_at hl 1 rfl) ?_
                  refine lv_iconst (v := 4) hx hb dX13_type_215 (by decide) ?_
                  refine lv_irem hx hb dX13_type_216 (by decide) ?_
                  refine lv_imul hx hb dX13_type_217 ?_
                  refine lv_isub hx hb dX13_type_218 ?_
                  refine lv_ishr hx hb dX13_type_219 ?_
                  refine lv_sipush (v := 255) hx hb dX13_type_220 (by decide) ?_
                  refine lv_iand hx hb dX13_type_223 ?_
                  refine lv_topi (fun sv esv => ?_)
                  have hsv : sv = byt (wsel p0 p1 p2 p3 p4 i) i := by rw [ws4 hlt c_8]; exact esv
                  refine lv_istore (lv' := [(9, .int sv), (8, .int p4), (7, .int (nI i)), (0, .ref h0), (1, .int p0), (2, .int p1), (3, .int p2), (4, .int p3), (5, .int p4)]) hx hb dX13_type_224 hl (by decide) rfl (fun ls hl => ?_)
                  refine lv_iload hx hb dX13_type_226 (lv_at hl 0 rfl) ?_
                  refine lv_if_eq (tgt := 253) hx hb dX13_type_228 (by decide) (fun c_9 => ?_) (fun c_9 => ?_)
                  · refine lv_iinc (v := nI (i + 1)) (lv' := [(7, .int (nI (i + 1))), (9, .int sv), (8, .int p4), (0, .ref h0), (1, .int p0), (2, .int p1), (3, .int p2), (4, .int p3), (5, .int p4)]) hx hb dX13_type_253 hl (k := 2) rfl (nI_1 i) (by decide) rfl (fun ls hl => ?_)
                    refine lv_goto (tgt := 152) hx hb dX13_type_256 (by decide) ?_
                    exact ih (i + 1) sz2 fT2 _ _ _ (by omega) (by show tS (mE p0 p1 p2 p3 p4 i) (byt (wsel p0 p1 p2 p3 p4 i) i) = nI sz2; rw [hE2, ← hsv]; exact tS_z (by omega) c_9) (by omega) (hP.sub [0, 1] rfl) (hD.sub [0, 1] (by decide) rfl) hS (lv_sub hl [0, 3, 4, 5, 6, 7, 8] rfl)
                  · refine lv_aload_n hx hb dX13_type_231 rfl (lv_at hl 3 rfl) ?_
                    refine va_get (D := (dC, dI)) (ci := 12) (v := .ref m19) (C := RX13) (T := TX13) (N := 77) hx hb htb inX13 hown hK hP 0 rfl rfl 19 (by decide) (htb _ kw_298) (fun _ h9 => h9) rfl dX13_type_232 ?_
                    refine lv_aload_n hx hb dX13_type_235 rfl (lv_at hl 3 rfl) ?_
                    refine va_get (D := (dC, dI)) (ci := 12) (v := .int (nI sz2)) (C := RX13) (T := TX13) (N := 77) hx hb htb inX13 hown hK hP 0 rfl rfl 20 (by decide) (htb _ kw_352) (fun _ h9 => h9) rfl dX13_type_236 ?_
                    refine lv_iload hx hb dX13_type_239 (lv_at hl 0 rfl) ?_
                    refine lv_i2b (v := (sv : Int32).toInt8.toInt32) hx hb dX13_type_241 rfl ?_
                    refine va_bast (D := (dC, dI)) hx hb hK hP hD hS 1 0 rfl rfl (vp_in_nI (by omega) (by decide)) dX13_type_242 (fun H locs hP hD hS => ?_)
                    have hP : va_P (dC, dI) vwCl [(h0, .inr (12, [.ref m0, .ref m1, .ref m2, .ref m3, .ref m4, .int 0, .ref m6, .ref m7, .ref m8, .ref m9, .ref m10, .ref m11, .ref m12, .ref m13, .ref m14, .ref m15, .ref m16, .ref m17, .ref m18, .ref m19, .int (nI sz2), .int 0, .int 0, .int (-1), .int 0, .int 0, .ref m26, .ref m27, .ref m28, .ref m29, .ref m30, .ref m31, .ref m32, .ref m33, .ref m34, .ref m35, .ref m36, .ref m37, .ref m38, .ref m39, .int 0, .int 0, .ref m42, .ref m43, .ref m44, .ref m45, .ref m46, .ref m47, .int 0, .int 0, .int 0, .int 0, .int (-1), .ref m53, .ref m54, .ref m55, .ref m56, .ref m57, .ref m58, .ref m59, .ref m60, .ref m61, .ref m62, .int 0, .ref m64, .ref m65, .ref m66, .ref m67, .ref m68, .ref m69, .ref m70, .ref m71, .ref m72, .ref m73, .int 0, .ref m75, .int 0])), (m19, .inl (cM19, 1200, .inl (upd fT2 (nI sz2 : Int32).toNatClampNeg (vp_nar .byte ((sv : Int32).toInt8.toInt32)))))] H := hP
                    have hD : va_D A [(h0, .inr (12, [.ref m0, .ref m1, .ref m2, .ref m3, .ref m4, .int 0, .ref m6, .ref m7, .ref m8, .ref m9, .ref m10, .ref m11, .ref m12, .ref m13, .ref m14, .ref m15, .ref m16, .ref m17, .ref m18, .ref m19, .int (nI sz2), .int 0, .int 0, .int (-1), .int 0, .int 0, .ref m26, .ref m27, .ref m28, .ref m29, .ref m30, .ref m31, .ref m32, .ref m33, .ref m34, .ref m35, .ref m36, .ref m37, .ref m38, .ref m39, .int 0, .int 0, .ref m42, .ref m43, .ref m44, .ref m45, .ref m46, .ref m47, .int 0, .int 0, .int 0, .int 0, .int (-1), .ref m53, .ref m54, .ref m55, .ref m56, .ref m57, .ref m58, .ref m59, .ref m60, .ref m61, .ref m62, .int 0, .ref m64, .ref m65, .ref m66, .ref m67, .ref m68, .ref m69, .ref m70, .ref m71, .ref m72, .ref m73, .int 0, .ref m75, .int 0])), (m19, .inl (cM19, 1200, .inl (upd fT2 (nI sz2 : Int32).toNatClampNeg (vp_nar .byte ((sv : Int32).toInt8.toInt32)))))] := hD
                    refine lv_aload_n hx hb dX13_type_243 rfl (lv_at hl 3 rfl) ?_
                    refine lv_dup hx hb dX13_type_244 rfl ?_
                    refine va_get (D := (dC, dI)) (ci := 12) (v := .int (nI sz2)) (C := RX13) (T := TX13) (N := 77) hx hb htb inX13 hown hK hP 0 rfl rfl 20 (by decide) (htb _ kw_352) (fun _ h9 => h9) rfl dX13_type_245 ?_
                    refine lv_iconst (v := 1) hx hb dX13_type_248 (by decide) ?_
                    refine lv_iadd hx hb dX13_type_249 ?_
                    refine lv_topi (fun z_10 ez_10 => ?_)
                    obtain rfl : z_10 = nI (sz2 + 1) := ez_10.trans (nI_1 sz2)
                    refine va_put (D := (dC, dI)) (ci := 12) (v := .int (nI (sz2 + 1))) (ty := .int) (C := RX13) (T := TX13) (N := 77) hx hb htb inX13 tyX13 tyX13_ok nmX13 hown hK hP hD hS 0 rfl rfl 20 (by decide) (htb _ kw_352) (fun _ h9 => h9) rfl (tyX13_ok 20 (by decide)) rfl rfl (Nat.le_of_ble_eq_true rfl) dX13_type_250 (fun H locs hP hD hS => ?_)
                    have hP : va_P (dC, dI) vwCl [(h0, .inr (12, [.ref m0, .ref m1, .ref m2, .ref m3, .ref m4, .int 0, .ref m6, .ref m7, .ref m8, .ref m9, .ref m10, .ref m11, .ref m12, .ref m13, .ref m14, .ref m15, .ref m16, .ref m17, .ref m18, .ref m19, .int (nI (sz2 + 1)), .int 0, .int 0, .int (-1), .int 0, .int 0, .ref m26, .ref m27, .ref m28, .ref m29, .ref m30, .ref m31, .ref m32, .ref m33, .ref m34, .ref m35, .ref m36, .ref m37, .ref m38, .ref m39, .int 0, .int 0, .ref m42, .ref m43, .ref m44, .ref m45, .ref m46, .ref m47, .int 0, .int 0, .int 0, .int 0, .int (-1), .ref m53, .ref m54, .ref m55, .ref m56, .ref m57, .ref m58, .ref m59, .ref m60, .ref m61, .ref m62, .int 0, .ref m64, .ref m65, .ref m66, .ref m67, .ref m68, .ref m69, .ref m70, .ref m71, .ref m72, .ref m73, .int 0, .ref m75, .int 0])), (m19, .inl (cM19, 1200, .inl (upd fT2 (nI sz2 : Int32).toNatClampNeg (vp_nar .byte ((sv : Int32).toInt8.toInt32)))))] H := hP
                    have hD : va_D A [(h0, .inr (12, [.ref m0, .ref m1, .ref m2, .ref m3, .ref m4, .int 0, .ref m6, .ref m7, .ref m8, .ref m9, .ref m10, .ref m11, .ref m12, .ref m13, .ref m14, .ref m15, .ref m16, .ref m17, .ref m18, .ref m19, .int (nI (sz2 + 1)), .int 0, .int 0, .int (-1), .int 0, .int 0, .ref m26, .ref m27, .ref m28, .ref m29, .ref m30, .ref m31, .ref m32, .ref m33, .ref m34, .ref m35, .ref m36, .ref m37, .ref m38, .ref m39, .int 0, .int 0, .ref m42, .ref m43, .ref m44, .ref m45, .ref m46, .ref m47, .int 0, .int 0, .int 0, .int 0, .int (-1), .ref m53, .ref m54, .ref m55, .ref m56, .ref m57, .ref m58, .ref m59, .ref m60, .ref m61, .ref m62, .int 0, .ref m64, .ref m65, .ref m66, .ref m67, .ref m68, .ref m69, .ref m70, .ref m71, .ref m72, .ref m73, .int 0, .ref m75, .int 0])), (m19, .inl (cM19, 1200, .inl (upd fT2 (nI sz2 : Int32).toNatClampNeg (vp_nar .byte ((sv : Int32).toInt8.toInt32)))))] := hD
                    refine lv_iinc (v := nI (i + 1)) (lv' := [(7, .int (nI (i + 1))), (9, .int sv), (8, .int p4), (0, .ref h0), (1, .int p0), (2, .int p1), (3, .int p2), (4, .int p3), (5, .int p4)]) hx hb dX13_type_253 hl (k := 2) rfl (nI_1 i) (by decide) rfl (fun ls hl => ?_)
                    refine lv_goto (tgt := 152) hx hb dX13_type_256 (by decide) ?_
                    exact ih (i + 1) (sz2 + 1) (upd fT2 (nI sz2 : Int32).toNatClampNeg (vp_nar .byte ((sv : Int32).toInt8.toInt32))) _ _ _ (by omega) (by have k9 := mE_nb (by omega) hE20 hlt; rw [hE2, ← hsv] at k9; show tS (mE p0 p1 p2 p3 p4 i) (byt (wsel p0 p1 p2 p3 p4 i) i) = nI (sz2 + 1); rw [hE2, ← hsv]; exact tS_nz (by omega) c_9 k9) (by omega) (hP.sub [0, 1] rfl) (hD.sub [0, 1] (by decide) rfl) hS (lv_sub hl [0, 3, 4, 5, 6, 7, 8] rfl)
                · refine lv_iload hx hb dX13_type_198 (lv_at hl 5 rfl) ?_
                  refine lv_goto (tgt := 205) hx hb dX13_type_200 (by decide) ?_
                  refine lv_istore (lv' := [(8, .int p3), (7, .int (nI i)), (0, .ref h0), (1, .int p0), (2, .int p1), (3, .int p2), (4, .int p3), (5, .int p4)]) hx hb dX13_type_205 hl (by decide) rfl (fun ls hl => ?_)
                  refine lv_iload hx hb dX13_type_207 (lv_at hl 0 rfl) ?_
                  refine lv_bipush (v := 24) hx hb dX13_type_209 (by decide) ?_
                  refine lv_bipush (v := 8) hx hb dX13_type_211 (by decide) ?_
                  refine lv_iload hx hb dX13_type_213 (lv_at hl 1 rfl) ?_
                  refine lv_iconst (v := 4) hx hb dX13_type_215 (by decide) ?_
                  refine lv_irem hx hb dX13_type_216 (by decide) ?_
                  refine lv_imul hx hb dX13_type_217 ?_
                  refine lv_isub hx hb dX13_type_218 ?_
                  refine lv_ishr hx hb dX13_type_219 ?_
                  refine lv_sipush (v := 255) hx hb dX13_type_220 (by decide) ?_
                  refine lv_iand hx hb dX13_type_223 ?_
                  refine lv_topi (fun sv esv => ?_)
                  have hsv : sv = byt (wsel p0 p1 p2 p3 p4 i) i := by rw [ws3 hlt c_7 c_8]; exact esv
                  refine lv_istore (lv' := [(9, .int sv), (8, .int p3), (7, .int (nI i)), (0, .ref h0), (1, .int p0), (2, .int p1), (3, .int p2), (4, .int p3), (5, .int p4)]) hx hb dX13_type_224 hl (by decide) rfl (fun ls hl => ?_)
                  refine lv_iload hx hb dX13_type_226 (lv_at hl 0 rfl) ?_
                  refine lv_if_eq (tgt := 253) hx hb dX13_type_228 (by decide) (fun c_11 => ?_) (fun c_11 => ?_)
                  · refine lv_iinc (v := nI (i + 1)) (lv' := [(7, .int (nI (i + 1))), (9, .int sv), (8, .int p3), (0, .ref h0), (1, .int p0), (2, .int p1), (3, .int p2), (4, .int p3), (5, .int p4)]) hx hb dX13_type_253 hl (k := 2) rfl (nI_1 i) (by decide) rfl (fun ls hl => ?_)
                    refine lv_goto (tgt := 152) hx hb dX13_type_256 (by decide) ?_
                    exact ih (i + 1) sz2 fT2 _ _ _ (by omega) (by show tS (mE p0 p1 p2 p3 p4 i) (byt (wsel p0 p1 p2 p3 p4 i) i) = nI sz2; rw [hE2, ← hsv]; exact tS_z (by omega) c_11) (by omega) (hP.sub [0, 1] rfl) (hD.sub [0, 1] (by decide) rfl) hS (lv_sub hl [0, 3, 4, 5, 6, 7, 8] rfl)
                  · refine lv_aload_n hx hb dX13_type_231 rfl (lv_at hl 3 rfl) ?_
                    refine va_get (D := (dC, dI)) (ci := 12) (v := .ref m19) (C := RX13) (T := TX13) (N := 77) hx hb htb inX13 hown hK hP 0 rfl rfl 19 (by decide) (htb _ kw_298) (fun _ h9 => h9) rfl dX13_type_232 ?_
                    refine lv_aload_n hx hb dX13_type_235 rfl (lv_at hl 3 rfl) ?_
                    refine va_get (D := (dC, dI)) (ci := 12) (v := .int (nI sz2)) (C := RX13) (T := TX13) (N := 77) hx hb htb inX13 hown hK hP 0 rfl rfl 20 (by decide) (htb _ kw_352) (fun _ h9 => h9) rfl dX13_type_236 ?_
                    refine lv_iload hx hb dX13_type_239 (lv_at hl 0 rfl) ?_
                    refine lv_i2b (v := (sv : Int32).toInt8.toInt32) hx hb dX13_type_241 rfl ?_
                    refine va_bast (D := (dC, dI)) hx hb hK hP hD hS 1 0 rfl rfl (vp_in_nI (by omega) (by decide)) dX13_type_242 (fun H locs hP hD hS => ?_)
                    have hP : va_P (dC, dI) vwCl [(h0, .inr (12, [.ref m0, .ref m1, .ref m2, .ref m3, .ref m4, .int 0, .ref m6, .ref m7, .ref m8, .ref m9, .ref m10, .ref m11, .ref m12, .ref m13, .ref m14, .ref m15, .ref m16, .ref m17, .ref m18, .ref m19, .int (nI sz2), .int 0, .int 0, .int (-1), .int 0, .int 0, .ref m26, .ref m27, .ref m28, .ref m29, .ref m30, .ref m31, .ref m32, .ref m33, .ref m34, .ref m35, .ref m36, .ref m37, .ref m38, .ref m39, .int 0, .int 0, .ref m42, .ref m43, .ref m44, .ref m45, .ref m46, .ref m47, .int 0, .int 0, .int 0, .int 0, .int (-1), .ref m53, .ref m54, .ref m55, .ref m56, .ref m57, .ref m58, .ref m59, .ref m60, .ref m61, .ref m62, .int 0, .ref m64, .ref m65, .ref m66, .ref m67, .ref m68, .ref m69, .ref m70, .ref m71, .ref m72, .ref m73, .int 0, .ref m75, .int 0])), (m19, .inl (cM19, 1200, .inl (upd fT2 (nI sz2 : Int32).toNatClampNeg (vp_nar .byte ((sv : Int32).toInt8.toInt32)))))] H := hP
                    have hD : va_D A [(h0, .inr (12, [.ref m0, .ref m1, .ref m2, .ref m3, .ref m4, .int 0, .ref m6, .ref m7, .ref m8, .ref m9, .ref m10, .ref m11, .ref m12, .ref m13, .ref m14, .ref m15, .ref m16, .ref m17, .ref m18, .ref m19, .int (nI sz2), .int 0, .int 0, .int (-1), .int 0, .int 0, .ref m26, .ref m27, .ref m28, .ref m29, .ref m30, .ref m31, .ref m32, .ref m33, .ref m34, .ref m35, .ref m36, .ref m37, .ref m38, .ref m39, .int 0, .int 0, .ref m42, .ref m43, .ref m44, .ref m45, .ref m46, .ref m47, .int 0, .int 0, .int 0, .int 0, .int (-1), .ref m53, .ref m54, .ref m55, .ref m56, .ref m57, .ref m58, .ref m59, .ref m60, .ref m61, .ref m62, .int 0, .ref m64, .ref m65, .ref m66, .ref m67, .ref m68, .ref m69, .ref m70, .ref m71, .ref m72, .ref m73, .int 0, .ref m75, .int 0])), (m19, .inl (cM19, 1200, .inl (upd fT2 (nI sz2 : Int32).toNatClampNeg (vp_nar .byte ((sv : Int32).toInt8.toInt32)))))] := hD
                    refine lv_aload_n hx hb dX13_type_243 rfl (lv_at hl 3 rfl) ?_
                    refine lv_dup hx hb dX13_type_244 rfl ?_
                    refine va_get (D := (dC, dI)) (ci := 12) (v := .int (nI sz2)) (C := RX13) (T := TX13) (N := 77) hx hb htb inX13 hown hK hP 0 rfl rfl 20 (by decide) (htb _ kw_352) (fun _ h9 => h9) rfl dX13_type_245 ?_
                    refine lv_iconst (v := 1) hx hb dX13_type_248 (by decide) ?_
                    refine lv_iadd hx hb dX13_type_249 ?_
                    refine lv_topi (fun z_12 ez_12 => ?_)
                    obtain rfl : z_12 = nI (sz2 + 1) := ez_12.trans (nI_1 sz2)
                    refine va_put (D := (dC, dI)) (ci := 12) (v := .int (nI (sz2 + 1))) (ty := .int) (C := RX13) (T := TX13) (N := 77) hx hb htb inX13 tyX13 tyX13_ok nmX13 hown hK hP hD hS 0 rfl rfl 20 (by decide) (htb _ kw_352) (fun _ h9 => h9) rfl (tyX13_ok 20 (by decide)) rfl rfl (Nat.le_of_ble_eq_true rfl) dX13_type_250 (fun H locs hP hD hS => ?_)
                    have hP : va_P (dC, dI) vwCl [(h0, .inr (12, [.ref m0, .ref m1, .ref m2, .ref m3, .ref m4, .int 0, .ref m6, .ref m7, .ref m8, .ref m9, .ref m10, .ref m11, .ref m12, .ref m13, .ref m14, .ref m15, .ref m16, .ref m17, .ref m18, .ref m19, .int (nI (sz2 + 1)), .int 0, .int 0, .int (-1), .int 0, .int 0, .ref m26, .ref m27, .ref m28, .ref m29, .ref m30, .ref m31, .ref m32, .ref m33, .ref m34, .ref m35, .ref m36, .ref m37, .ref m38, .ref m39, .int 0, .int 0, .ref m42, .ref m43, .ref m44, .ref m45, .ref m46, .ref m47, .int 0, .int 0, .int 0, .int 0, .int (-1), .ref m53, .ref m54, .ref m55, .ref m56, .ref m57, .ref m58, .ref m59, .ref m60, .ref m61, .ref m62, .int 0, .ref m64, .ref m65, .ref m66, .ref m67, .ref m68, .ref m69, .ref m70, .ref m71, .ref m72, .ref m73, .int 0, .ref m75, .int 0])), (m19, .inl (cM19, 1200, .inl (upd fT2 (nI sz2 : Int32).toNatClampNeg (vp_nar .byte ((sv : Int32).toInt8.toInt32)))))] H := hP
                    have hD : va_D A [(h0, .inr (12, [.ref m0, .ref m1, .ref m2, .ref m3, .ref m4, .int 0, .ref m6, .ref m7, .ref m8, .ref m9, .ref m10, .ref m11, .ref m12, .ref m13, .ref m14, .ref m15, .ref m16, .ref m17, .ref m18, .ref m19, .int (nI (sz2 + 1)), .int 0, .int 0, .int (-1), .int 0, .int 0, .ref m26, .ref m27, .ref m28, .ref m29, .ref m30, .ref m31, .ref m32, .ref m33, .ref m34, .ref m35, .ref m36, .ref m37, .ref m38, .ref m39, .int 0, .int 0, .ref m42, .ref m43, .ref m44, .ref m45, .ref m46, .ref m47, .int 0, .int 0, .int 0, .int 0, .int (-1), .ref m53, .ref m54, .ref m55, .ref m56, .ref m57, .ref m58, .ref m59, .ref m60, .ref m61, .ref m62, .int 0, .ref m64, .ref m65, .ref m66, .ref m67, .ref m68, .ref m69, .ref m70, .ref m71, .ref m72, .ref m73, .int 0, .ref m75, .int 0])), (m19, .inl (cM19, 1200, .inl (upd fT2 (nI sz2 : Int32).toNatClampNeg (vp_nar .byte ((sv : Int32).toInt8.toInt32)))))] := hD
                    refine lv_iinc (v := nI (i + 1)) (lv' := [(7, .int (nI (i + 1))), (9, .int sv), (8, .int p3), (0, .ref h0), (1, .int p0), (2, .int p1), (3, .int p2), (4, .int p3), (5, .int p4)]) hx hb dX13_type_253 hl (k := 2) rfl (nI_1 i) (by decide) rfl (fun ls hl => ?_)
                    refine lv_goto (tgt := 152) hx hb dX13_type_256 (by decide) ?_
                    exact ih (i + 1) (sz2 + 1) (upd fT2 (nI sz2 : Int32).toNatClampNeg (vp_nar .byte ((sv : Int32).toInt8.toInt32))) _ _ _ (by omega) (by have k9 := mE_nb (by omega) hE20 hlt; rw [hE2, ← hsv] at k9; show tS (mE p0 p1 p2 p3 p4 i) (byt (wsel p0 p1 p2 p3 p4 i) i) = nI (sz2 + 1); rw [hE2, ← hsv]; exact tS_nz (by omega) c_11 k9) (by omega) (hP.sub [0, 1] rfl) (hD.sub [0, 1] (by decide) rfl) hS (lv_sub hl [0, 3, 4, 5, 6, 7, 8] rfl)
              · refine lv_iload_n hx hb dX13_type_187 rfl (lv_at hl 4 rfl) ?_
                refine lv_goto (tgt := 205) hx hb dX13_type_188 (by decide) ?_
                refine lv_istore (lv' := [(8, .int p2), (7, .int (nI i)), (0, .ref h0), (1, .int p0), (2, .int p1), (3, .int p2), (4, .int p3), (5, .int p4)]) hx hb dX13_type_205 hl (by decide) rfl (fun ls hl => ?_)
                refine lv_iload hx hb dX13_type_207 (lv_at hl 0 rfl) ?_
                refine lv_bipush (v := 24) hx hb dX13_type_209 (by decide) ?_
                refine lv_bipush (v := 8) hx hb dX13_type_211 (by decide) ?_
                refine lv_iload hx hb dX13_type_213 (lv_at hl 1 rfl) ?_
                refine lv_iconst (v := 4) hx hb dX13_type_215 (by decide) ?_
                refine lv_irem hx hb dX13_type_216 (by decide) ?_
                refine lv_imul hx hb dX13_type_217 ?_
                refine lv_isub hx hb dX13_type_218 ?_
                refine lv_ishr hx hb dX13_type_219 ?_
                refine lv_sipush (v := 255) hx hb dX13_type_220 (by decide) ?_
                refine lv_iand hx hb dX13_type_223 ?_
                refine lv_topi (fun sv esv => ?_)
                have hsv : sv = byt (wsel p0 p1 p2 p3 p4 i) i := by rw [ws2 hlt c_6 c_7]; exact esv
                refine lv_istore (lv' := [(9, .int sv), (8, .int p2), (7, .int (nI i)), (0, .ref h0), (1, .int p0), (2, .int p1), (3, .int p2), (4, .int p3), (5, .int p4)]) hx hb dX13_type_224 hl (by decide) rfl (fun ls hl => ?_)
                refine lv_iload hx hb dX13_type_226 (lv_at hl 0 rfl) ?_
                refine lv_if_eq (tgt := 253) hx hb dX13_type_228 (by decide) (fun c_13 => ?_) (fun c_13 => ?_)
                · refine lv_iinc (v := nI (i + 1)) (lv' := [(7, .int (nI (i + 1))), (9, .int sv), (8, .int p2), (0, .ref h0), (1, .int p0), (2, .int p1), (3, .int p2), (4, .int p3), (5, .int p4)]) hx hb dX13_type_253 hl (k := 2) rfl (nI_1 i) (by decide) rfl (fun ls hl => ?_)
                  refine lv_goto (tgt := 152) hx hb dX13_type_256 (by decide) ?_
                  exact ih (i + 1) sz2 fT2 _ _ _ (by omega) (by show tS (mE p0 p1 p2 p3 p4 i) (byt (wsel p0 p1 p2 p3 p4 i) i) = nI sz2; rw [hE2, ← hsv]; exact tS_z (by omega) c_13) (by omega) (hP.sub [0, 1] rfl) (hD.sub [0, 1] (by decide) rfl) hS (lv_sub hl [0, 3, 4, 5, 6, 7, 8] rfl)
                · refine lv_aload_n hx hb dX13_type_231 rfl (lv_at hl 3 rfl) ?_
                  refine va_get (D := (dC, dI)) (ci := 12) (v := .ref m19) (C := RX13) (T := TX13) (N := 77) hx hb htb inX13 hown hK hP 0 rfl rfl 19 (by decide) (htb _ kw_298) (fun _ h9 => h9) rfl dX13_type_232 ?_
                  refine lv_aload_n hx hb dX13_type_235 rfl (lv_at hl 3 rfl) ?_
                  refine va_get (D := (dC, dI)) (ci := 12) (v := .int (nI sz2)) (C := RX13) (T := TX13) (N := 77) hx hb htb inX13 hown hK hP 0 rfl rfl 20 (by decide) (htb _ kw_352) (fun _ h9 => h9) rfl dX13_type_236 ?_
                  refine lv_iload hx hb dX13_type_239 (lv_at hl 0 rfl) ?_
                  refine lv_i2b (v := (sv : Int32).toInt8.toInt32) hx hb dX13_type_241 rfl ?_
                  refine va_bast (D := (dC, dI)) hx hb hK hP hD hS 1 0 rfl rfl (vp_in_nI (by omega) (by decide)) dX13_type_242 (fun H locs hP hD hS => ?_)
                  have hP : va_P (dC, dI) vwCl [(h0, .inr (12, [.ref m0, .ref m1, .ref m2, .ref m3, .ref m4, .int 0, .ref m6, .ref m7, .ref m8, .ref m9, .ref m10, .ref m11, .ref m12, .ref m13, .ref m14, .ref m15, .ref m16, .ref m17, .ref m18, .ref m19, .int (nI sz2), .int 0, .int 0, .int (-1), .int 0, .int 0, .ref m26, .ref m27, .ref m28, .ref m29, .ref m30, .ref m31, .ref m32, .ref m33, .ref m34, .ref m35, .ref m36, .ref m37, .ref m38, .ref m39, .int 0, .int 0, .ref m42, .ref m43, .ref m44, .ref m45, .ref m46, .ref m47, .int 0, .int 0, .int 0, .int 0, .int (-1), .ref m53, .ref m54, .ref m55, .ref m56, .ref m57, .ref m58, .ref m59, .ref m60, .ref m61, .ref m62, .int 0, .ref m64, .ref m65, .ref m66, .ref m67, .ref m68, .ref m69, .ref m70, .ref m71, .ref m72, .ref m73, .int 0, .ref m75, .int 0])), (m19, .inl (cM19, 1200, .inl (upd fT2 (nI sz2 : Int32).toNatClampNeg (vp_nar .byte ((sv : Int32).toInt8.toInt32)))))] H := hP
                  have hD : va_D A [(h0, .inr (12, [.ref m0, .ref m1, .ref m2, .ref m3, .ref m4, .int 0, .ref m6, .ref m7, .ref m8, .ref m9, .ref m10, .ref m11, .ref m12, .ref m13, .ref m14, .ref m15, .ref m16, .ref m17, .ref m18, .ref m19, .int (nI sz2), .int 0, .int 0, .int (-1), .int 0, .int 0, .ref m26, .ref m27, .ref m28, .ref m29, .ref m30, .ref m31, .ref m32, .ref m33, .ref m34, .ref m35, .ref m36, .ref m37, .ref m38, .ref m39, .int 0, .int 0, .ref m42, .ref m43, .ref m44, .ref m45, .ref m46, .ref m47, .int 0, .int 0, .int 0, .int 0, .int (-1), .ref m53, .ref m54, .ref m55, .ref m56, .ref m57, .ref m58, .ref m59, .ref m60, .ref m61, .ref m62, .int 0, .ref m64, .ref m65, .ref m66, .ref m67, .ref m68, .ref m69, .ref m70, .ref m71, .ref m72, .ref m73, .int 0, .ref m75, .int 0])), (m19, .inl (cM19, 1200, .inl (upd fT2 (nI sz2 : Int32).toNatClampNeg (vp_nar .byte ((sv : Int32).toInt8.toInt32)))))] := hD
                  refine lv_aload_n hx hb dX13_type_243 rfl (lv_at hl 3 rfl) ?_
                  refine lv_dup hx hb dX13_type_244 rfl ?_
                  refine va_get (D := (dC, dI)) (ci := 12) (v := .int (nI sz2)) (C := RX13) (T := TX13) (N := 77) hx hb htb inX13 hown hK hP 0 rfl rfl 20 (by decide) (htb _ kw_352) (fun _ h9 => h9) rfl dX13_type_245 ?_
                  refine lv_iconst (v := 1) hx hb dX13_type_248 (by decide) ?_
                  refine lv_iadd hx hb dX13_type_249 ?_
                  refine lv_topi (fun z_14 ez_14 => ?_)
                  obtain rfl : z_14 = nI (sz2 + 1) := ez_14.trans (nI_1 sz2)
                  refine va_put (D := (dC, dI)) (ci := 12) (v := .int (nI (sz2 + 1))) (ty := .int) (C := RX13) (T := TX13) (N := 77) hx hb htb inX13 tyX13 tyX13_ok nmX13 hown hK hP hD hS 0 rfl rfl 20 (by decide) (htb _ kw_352) (fun _ h9 => h9) rfl (tyX13_ok 20 (by decide)) rfl rfl (Nat.le_of_ble_eq_true rfl) dX13_type_250 (fun H locs hP hD hS => ?_)
                  have hP : va_P (dC, dI) vwCl [(h0, .inr (12, [.ref m0, .ref m1, .ref m2, .ref m3, .ref m4, .int 0, .ref m6, .ref m7, .ref m8, .ref m9, .ref m10, .ref m11, .ref m12, .ref m13, .ref m14, .ref m15, .ref m16, .ref m17, .ref m18, .ref m19, .int (nI (sz2 + 1)), .int 0, .int 0, .int (-1), .int 0, .int 0, .ref m26, .ref m27, .ref m28, .ref m29, .ref m30, .ref m31, .ref m32, .ref m33, .ref m34, .ref m35, .ref m36, .ref m37, .ref m38, .ref m39, .int 0, .int 0, .ref m42, .ref m43, .ref m44, .ref m45, .ref m46, .ref m47, .int 0, .int 0, .int 0, .int 0, .int (-1), .ref m53, .ref m54, .ref m55, .ref m56, .ref m57, .ref m58, .ref m59, .ref m60, .ref m61, .ref m62, .int 0, .ref m64, .ref m65, .ref m66, .ref m67, .ref m68, .ref m69, .ref m70, .ref m71, .ref m72, .ref m73, .int 0, .ref m75, .int 0])), (m19, .inl (cM19, 1200, .inl (upd fT2 (nI sz2 : Int32).toNatClampNeg (vp_nar .byte ((sv : Int32).toInt8.toInt32)))))] H := hP
                  have hD : va_D A [(h0, .inr (12, [.ref m0, .ref m1, .ref m2, .ref m3, .ref m4, .int 0, .ref m6, .ref m7, .ref m8, .ref m9, .ref m10, .ref m11, .ref m12, .ref m13, .ref m14, .ref m15, .ref m16, .ref m17, .ref m18, .ref m19, .int (nI (sz2 + 1)), .int 0, .int 0, .int (-1), .int 0, .int 0, .ref m26, .ref m27, .ref m28, .ref m29, .ref m30, .ref m31, .ref m32, .ref m33, .ref m34, .ref m35, .ref m36, .ref m37, .ref m38, .ref m39, .int 0, .int 0, .ref m42, .ref m43, .ref m44, .ref m45, .ref m46, .ref m47, .int 0, .int 0, .int 0, .int 0, .int (-1), .ref m53, .ref m54, .ref m55, .ref m56, .ref m57, .ref m58, .ref m59, .ref m60, .ref m61, .ref m62, .int 0, .ref m64, .ref m65, .ref m66, .ref m67, .ref m68, .ref m69, .ref m70, .ref m71, .ref m72, .ref m73, .int 0, .ref m75, .int 0])), (m19, .inl (cM19, 1200, .inl (upd fT2 (nI sz2 : Int32).toNatClampNeg (vp_nar .byte ((sv : Int32).toInt8.toInt32)))))] := hD
                  refine lv_iinc (v := nI (i + 1)) (lv' := [(7, .int (nI (i + 1))), (9, .int sv), (8, .int p2), (0, .ref h0), (1, .int p0), (2, .int p1), (3, .int p2), (4, .int p3), (5, .int p4)]) hx hb dX13_type_253 hl (k := 2) rfl (nI_1 i) (by decide) rfl (fun ls hl => ?_)
                  refine lv_goto (tgt := 152) hx hb dX13_type_256 (by decide) ?_
                  exact ih (i + 1) (sz2 + 1) (upd fT2 (nI sz2 : Int32).toNatClampNeg (vp_nar .byte ((sv : Int32).toInt8.toInt32))) _ _ _ (by omega) (by have k9 := mE_nb (by omega) hE20 hlt; rw [hE2, ← hsv] at k9; show tS (mE p0 p1 p2 p3 p4 i) (byt (wsel p0 p1 p2 p3 p4 i) i) = nI (sz2 + 1); rw [hE2, ← hsv]; exact tS_nz (by omega) c_13 k9) (by omega) (hP.sub [0, 1] rfl) (hD.sub [0, 1] (by decide) rfl) hS (lv_sub hl [0, 3, 4, 5, 6, 7, 8] rfl)
            · refine lv_iload_n hx hb dX13_type_176 rfl (lv_at hl 3 rfl) ?_
              refine lv_goto (tgt := 205) hx hb dX13_type_177 (by decide) ?_
              refine lv_istore (lv' := [(8, .int p1), (7, .int (nI i)), (0, .ref h0), (1, .int p0), (2, .int p1), (3, .int p2), (4, .int p3), (5, .int p4)]) hx hb dX13_type_205 hl (by decide) rfl (fun ls hl => ?_)
              refine lv_iload hx hb dX13_type_207 (lv_at hl 0 rfl) ?_
              refine lv_bipush (v := 24) hx hb dX13_type_209 (by decide) ?_
              refine lv_bipush (v := 8) hx hb dX13_type_211 (by decide) ?_
              refine lv_iload hx hb dX13_type_213 (lv_at hl 1 rfl) ?_
              refine lv_iconst (v := 4) hx hb dX13_type_215 (by decide) ?_
              refine lv_irem hx hb dX13_type_216 (by decide) ?_
              refine lv_imul hx hb dX13_type_217 ?_
              refine lv_isub hx hb dX13_type_218 ?_
              refine lv_ishr hx hb dX13_type_219 ?_
              refine lv_sipush (v := 255) hx hb dX13_type_220 (by decide) ?_
              refine lv_iand hx hb dX13_type_223 ?_
              refine lv_topi (fun sv esv => ?_)
              have hsv : sv = byt (wsel p0 p1 p2 p3 p4 i) i := by rw [ws1 hlt c_5 c_6]; exact esv
              refine lv_istore (lv' := [(9, .int sv), (8, .int p1), (7, .int (nI i)), (0, .ref h0), (1, .int p0), (2, .int p1), (3, .int p2), (4, .int p3), (5, .int p4)]) hx hb dX13_type_224 hl (by decide) rfl (fun ls hl => ?_)
              refine lv_iload hx hb dX13_type_226 (lv_at hl 0 rfl) ?_
              refine lv_if_eq (tgt := 253) hx hb dX13_type_228 (by decide) (fun c_15 => ?_) (fun c_15 => ?_)
              · refine lv_iinc (v := nI (i + 1)) (lv' := [(7, .int (nI (i + 1))), (9, .int sv), (8, .int p1), (0, .ref h0), (1, .int p0), (2, .int p1), (3, .int p2), (4, .int p3), (5, .int p4)]) hx hb dX13_type_253 hl (k := 2) rfl (nI_1 i) (by decide) rfl (fun ls hl => ?_)
                refine lv_goto (tgt := 152) hx hb dX13_type_256 (by decide) ?_
                exact ih (i + 1) sz2 fT2 _ _ _ (by omega) (by show tS (mE p0 p1 p2 p3 p4 i) (byt (wsel p0 p1 p2 p3 p4 i) i) = nI sz2; rw [hE2, ← hsv]; exact tS_z (by omega) c_15) (by omega) (hP.sub [0, 1] rfl) (hD.sub [0, 1] (by decide) rfl) hS (lv_sub hl [0, 3, 4, 5, 6, 7, 8] rfl)
              · refine lv_aload_n hx hb dX13_type_231 rfl (lv_at hl 3 rfl) ?_
                refine va_get (D := (dC, dI)) (ci := 12) (v := .ref m19) (C := RX13) (T := TX13) (N := 77) hx hb htb inX13 hown hK hP 0 rfl rfl 19 (by decide) (htb _ kw_298) (fun _ h9 => h9) rfl dX13_type_232 ?_
                refine lv_aload_n hx hb dX13_type_235 rfl (lv_at hl 3 rfl) ?_
                refine va_get (D := (dC, dI)) (ci := 12) (v := .int (nI sz2)) (C := RX13) (T := TX13) (N := 77) hx hb htb inX13 hown hK hP 0 rfl rfl 20 (by decide) (htb _ kw_352) (fun _ h9 => h9) rfl dX13_type_236 ?_
                refine lv_iload hx hb dX13_type_239 (lv_at hl 0 rfl) ?_
                refine lv_i2b (v := (sv : Int32).toInt8.toInt32) hx hb dX13_type_241 rfl ?_
                refine va_bast (D := (dC, dI)) hx hb hK hP hD hS 1 0 rfl rfl (vp_in_nI (by omega) (by decide)) dX13_type_242 (fun H locs hP hD hS => ?_)
                have hP : va_P (dC, dI) vwCl [(h0, .inr (12, [.ref m0, .ref m1, .ref m2, .ref m3, .ref m4, .int 0, .ref m6, .ref m7, .ref m8, .ref m9, .ref m10, .ref m11, .ref m12, .ref m13, .ref m14, .ref m15, .ref m16, .ref m17, .ref m18, .ref m19, .int (nI sz2), .int 0, .int 0, .int (-1), .int 0, .int 0, .ref m26, .ref m27, .ref m28, .ref m29, .ref m30, .ref m31, .ref m32, .ref m33, .ref m34, .ref m35, .ref m36, .ref m37, .ref m38, .ref m39, .int 0, .int 0, .ref m42, .ref m43, .ref m44, .ref m45, .ref m46, .ref m47, .int 0, .int 0, .int 0, .int 0, .int (-1), .ref m53, .ref m54, .ref m55, .ref m56, .ref m57, .ref m58, .ref m59, .ref m60, .ref m61, .ref m62, .int 0, .ref m64, .ref m65, .ref m66, .ref m67, .ref m68, .ref m69, .ref m70, .ref m71, .ref m72, .ref m73, .int 0, .ref m75, .int 0])), (m19, .inl (cM19, 1200, .inl (upd fT2 (nI sz2 : Int32).toNatClampNeg (vp_nar .byte ((sv : Int32).toInt8.toInt32)))))] H := hP
                have hD : va_D A [(h0, .inr (12, [.ref m0, .ref m1, .ref m2, .ref m3, .ref m4, .int 0, .ref m6, .ref m7, .ref m8, .ref m9, .ref m10, .ref m11, .ref m12, .ref m13, .ref m14, .ref m15, .ref m16, .ref m17, .ref m18, .ref m19, .int (nI sz2), .int 0, .int 0, .int (-1), .int 0, .int 0, .ref m26, .ref m27, .ref m28, .ref m29, .ref m30, .ref m31, .ref m32, .ref m33, .ref m34, .ref m35, .ref m36, .ref m37, .ref m38, .ref m39, .int 0, .int 0, .ref m42, .ref m43, .ref m44, .ref m45, .ref m46, .ref m47, .int 0, .int 0, .int 0, .int 0, .int (-1), .ref m53, .ref m54, .ref m55, .ref m56, .ref m57, .ref m58, .ref m59, .ref m60, .ref m61, .ref m62, .int 0, .ref m64, .ref m65, .ref m66, .ref m67, .ref m68, .ref m69, .ref m70, .ref m71, .ref m72, .ref m73, .int 0, .ref m75, .int 0])), (m19, .inl (cM19, 1200, .inl (upd fT2 (nI sz2 : Int32).toNatClampNeg (vp_nar .byte ((sv : Int32).toInt8.toInt32)))))] := hD
                refine lv_aload_n hx hb dX13_type_243 rfl (lv_at hl 3 rfl) ?_
                refine lv_dup hx hb dX13_type_244 rfl ?_
                refine va_get (D := (dC, dI)) (ci := 12) (v := .int (nI sz2)) (C := RX13) (T := TX13) (N := 77) hx hb htb inX13 hown hK hP 0 rfl rfl 20 (by decide) (htb _ kw_352) (fun _ h9 => h9) rfl dX13_type_245 ?_
                refine lv_iconst (v := 1) hx hb dX13_type_248 (by decide) ?_
                refine lv_iadd hx hb dX13_type_249 ?_
                refine lv_topi (fun z_16 ez_16 => ?_)
                obtain rfl : z_16 = nI (sz2 + 1) := ez_16.trans (nI_1 sz2)
                refine va_put (D := (dC, dI)) (ci := 12) (v := .int (nI (sz2 + 1))) (ty := .int) (C := RX13) (T := TX13) (N := 77) hx hb htb inX13 tyX13 tyX13_ok nmX13 hown hK hP hD hS 0 rfl rfl 20 (by decide) (htb _ kw_352) (fun _ h9 => h9) rfl (tyX13_ok 20 (by decide)) rfl rfl (Nat.le_of_ble_eq_true rfl) dX13_type_250 (fun H locs hP hD hS => ?_)
                have hP : va_P (dC, dI) vwCl [(h0, .inr (12, [.ref m0, .ref m1, .ref m2, .ref m3, .ref m4, .int 0, .ref m6, .ref m7, .ref m8, .ref m9, .ref m10, .ref m11, .ref m12, .ref m13, .ref m14, .ref m15, .ref m16, .ref m17, .ref m18, .ref m19, .int (nI (sz2 + 1)), .int 0, .int 0, .int (-1), .int 0, .int 0, .ref m26, .ref m27, .ref m28, .ref m29, .ref m30, .ref m31, .ref m32, .ref m33, .ref m34, .ref m35, .ref m36, .ref m37, .ref m38, .ref m39, .int 0, .int 0, .ref m42, .ref m43, .ref m44, .ref m45, .ref m46, .ref m47, .int 0, .int 0, .int 0, .int 0, .int (-1), .ref m53, .ref m54, .ref m55, .ref m56, .ref m57, .ref m58, .ref m59, .ref m60, .ref m61, .ref m62, .int 0, .ref m64, .ref m65, .ref m66, .ref m67, .ref m68, .ref m69, .ref m70, .ref m71, .ref m72, .ref m73, .int 0, .ref m75, .int 0])), (m19, .inl (cM19, 1200, .inl (upd fT2 (nI sz2 : Int32).toNatClampNeg (vp_nar .byte ((sv : Int32).toInt8.toInt32)))))] H := hP
                have hD : va_D A [(h0, .inr (12, [.ref m0, .ref m1, .ref m2, .ref m3, .ref m4, .int 0, .ref m6, .ref m7, .ref m8, .ref m9, .ref m10, .ref m11, .ref m12, .ref m13, .ref m14, .ref m15, .ref m16, .ref m17, .ref m18, .ref m19, .int (nI (sz2 + 1)), .int 0, .int 0, .int (-1), .int 0, .int 0, .ref m26, .ref m27, .ref m28, .ref m29, .ref m30, .ref m31, .ref m32, .ref m33, .ref m34, .ref m35, .ref m36, .ref m37, .ref m38, .ref m39, .int 0, .int 0, .ref m42, .ref m43, .ref m44, .ref m45, .ref m46, .ref m47, .int 0, .int 0, .int 0, .int 0, .int (-1), .ref m53, .ref m54, .ref m55, .ref m56, .ref m57, .ref m58, .ref m59, .ref m60, .ref m61, .ref m62, .int 0, .ref m64, .ref m65, .ref m66, .ref m67, .ref m68, .ref m69, .ref m70, .ref m71, .ref m72, .ref m73, .int 0, .ref m75, .int 0])), (m19, .inl (cM19, 1200, .inl (upd fT2 (nI sz2 : Int32).toNatClampNeg (vp_nar .byte ((sv : Int32).toInt8.toInt32)))))] := hD
                refine lv_iinc (v := nI (i + 1)) (lv' := [(7, .int (nI (i + 1))), (9, .int sv), (8, .int p1), (0, .ref h0), (1, .int p0), (2, .int p1), (3, .int p2), (4, .int p3), (5, .int p4)]) hx hb dX13_type_253 hl (k := 2) rfl (nI_1 i) (by decide) rfl (fun ls hl => ?_)
                refine lv_goto (tgt := 152) hx hb dX13_type_256 (by decide) ?_
                exact ih (i + 1) (sz2 + 1) (upd fT2 (nI sz2 : Int32).toNatClampNeg (vp_nar .byte ((sv : Int32).toInt8.toInt32))) _ _ _ (by omega) (by have k9 := mE_nb (by omega) hE20 hlt; rw [hE2, ← hsv] at k9; show tS (mE p0 p1 p2 p3 p4 i) (byt (wsel p0 p1 p2 p3 p4 i) i) = nI (sz2 + 1); rw [hE2, ← hsv]; exact tS_nz (by omega) c_15 k9) (by omega) (hP.sub [0, 1] rfl) (hD.sub [0, 1] (by decide) rfl) hS (lv_sub hl [0, 3, 4, 5, 6, 7, 8] rfl)
          · refine lv_iload_n hx hb dX13_type_165 rfl (lv_at hl 2 rfl) ?_
            refine lv_goto (tgt := 205) hx hb dX13_type_166 (by decide) ?_
            refine lv_istore (lv' := [(8, .int p0), (7, .int (nI i)), (0, .ref h0), (1, .int p0), (2, .int p1), (3, .int p2), (4, .int p3), (5, .int p4)]) hx hb dX13_type_205 hl (by decide) rfl (fun ls hl => ?_)
            refine lv_iload hx hb dX13_type_207 (lv_at hl 0 rfl) ?_
            refine lv_bipush (v := 24) hx hb dX13_type_209 (by decide) ?_
            refine lv_bipush (v := 8) hx hb dX13_type_211 (by decide) ?_
            refine lv_iload hx hb dX13_type_213 (lv_at hl 1 rfl) ?_
            refine lv_iconst (v := 4) hx hb dX13_type_215 (by decide) ?_
            refine lv_irem hx hb dX13_type_216 (by decide) ?_
            refine lv_imul hx hb dX13_type_217 ?_
            refine lv_isub hx hb dX13_type_218 ?_
            refine lv_ishr hx hb dX13_type_219 ?_
            refine lv_sipush (v := 255) hx hb dX13_type_220 (by decide) ?_
            refine lv_iand hx hb dX13_type_223 ?_
            refine lv_topi (fun sv esv => ?_)
            have hsv : sv = byt (wsel p0 p1 p2 p3 p4 i) i := by rw [ws0 hlt c_5]; exact esv
            refine lv_istore (lv' := [(9, .int sv), (8, .int p0), (7, .int (nI i)), (0, .ref h0), (1, .int p0), (2, .int p1), (3, .int p2), (4, .int p3), (5, .int p4)]) hx hb dX13_type_224 hl (by decide) rfl (fun ls hl => ?_)
            refine lv_iload hx hb dX13_type_226 (lv_at hl 0 rfl) ?_
            refine lv_if_eq (tgt := 253) hx hb dX13_type_228 (by decide) (fun c_17 => ?_) (fun c_17 => ?_)
            · refine lv_iinc (v := nI (i + 1)) (lv' := [(7, .int (nI (i + 1))), (9, .int sv), (8, .int p0), (0, .ref h0), (1, .int p0), (2, .int p1), (3, .int p2), (4, .int p3), (5, .int p4)]) hx hb dX13_type_253 hl (k := 2) rfl (nI_1 i) (by decide) rfl (fun ls hl => ?_)
              refine lv_goto (tgt := 152) hx hb dX13_type_256 (by decide) ?_
              exact ih (i + 1) sz2 fT2 _ _ _ (by omega) (by show tS (mE p0 p1 p2 p3 p4 i) (byt (wsel p0 p1 p2 p3 p4 i) i) = nI sz2; rw [hE2, ← hsv]; exact tS_z (by omega) c_17) (by omega) (hP.sub [0, 1] rfl) (hD.sub [0, 1] (by decide) rfl) hS (lv_sub hl [0, 3, 4, 5, 6, 7, 8] rfl)
            · refine lv_aload_n hx hb dX13_type_231 rfl (lv_at hl 3 rfl) ?_
              refine va_get (D := (dC, dI)) (ci := 12) (v := .ref m19) (C := RX13) (T := TX13) (N := 77) hx hb htb inX13 hown hK hP 0 rfl rfl 19 (by decide) (htb _ kw_298) (fun _ h9 => h9) rfl dX13_type_232 ?_
              refine lv_aload_n hx hb dX13_type_235 rfl (lv_at hl 3 rfl) ?_
              refine va_get (D := (dC, dI)) (ci := 12) (v := .int (nI sz2)) (C := RX13) (T := TX13) (N := 77) hx hb htb inX13 hown hK hP 0 rfl rfl 20 (by decide) (htb _ kw_352) (fun _ h9 => h9) rfl dX13_type_236 ?_
              refine lv_iload hx hb dX13_type_239 (lv_at hl 0 rfl) ?_
              refine lv_i2b (v := (sv : Int32).toInt8.toInt32) hx hb dX13_type_241 rfl ?_
              refine va_bast (D := (dC, dI)) hx hb hK hP hD hS 1 0 rfl rfl (vp_in_nI (by omega) (by decide)) dX13_type_242 (fun H locs hP hD hS => ?_)
              have hP : va_P (dC, dI) vwCl [(h0, .inr (12, [.ref m0, .ref m1, .ref m2, .ref m3, .ref m4, .int 0, .ref m6, .ref m7, .ref m8, .ref m9, .ref m10, .ref m11, .ref m12, .ref m13, .ref m14, .ref m15, .ref m16, .ref m17, .ref m18, .ref m19, .int (nI sz2), .int 0, .int 0, .int (-1), .int 0, .int 0, .ref m26, .ref m27, .ref m28, .ref m29, .ref m30, .ref m31, .ref m32, .ref m33, .ref m34, .ref m35, .ref m36, .ref m37, .ref m38, .ref m39, .int 0, .int 0, .ref m42, .ref m43, .ref m44, .ref m45, .ref m46, .ref m47, .int 0, .int 0, .int 0, .int 0, .int (-1), .ref m53, .ref m54, .ref m55, .ref m56, .ref m57, .ref m58, .ref m59, .ref m60, .ref m61, .ref m62, .int 0, .ref m64, .ref m65, .ref m66, .ref m67, .ref m68, .ref m69, .ref m70, .ref m71, .ref m72, .ref m73, .int 0, .ref m75, .int 0])), (m19, .inl (cM19, 1200, .inl (upd fT2 (nI sz2 : Int32).toNatClampNeg (vp_nar .byte ((sv : Int32).toInt8.toInt32)))))] H := hP
              have hD : va_D A [(h0, .inr (12, [.ref m0, .ref m1, .ref m2, .ref m3, .ref m4, .int 0, .ref m6, .ref m7, .ref m8, .ref m9, .ref m10, .ref m11, .ref m12, .ref m13, .ref m14, .ref m15, .ref m16, .ref m17, .ref m18, .ref m19, .int (nI sz2), .int 0, .int 0, .int (-1), .int 0, .int 0, .ref m26, .ref m27, .ref m28, .ref m29, .ref m30, .ref m31, .ref m32, .ref m33, .ref m34, .ref m35, .ref m36, .ref m37, .ref m38, .ref m39, .int 0, .int 0, .ref m42, .ref m43, .ref m44, .ref m45, .ref m46, .ref m47, .int 0, .int 0, .int 0, .int 0, .int (-1), .ref m53, .ref m54, .ref m55, .ref m56, .ref m57, .ref m58, .ref m59, .ref m60, .ref m61, .ref m62, .int 0, .ref m64, .ref m65, .ref m66, .ref m67, .ref m68, .ref m69, .ref m70, .ref m71, .ref m72, .ref m73, .int 0, .ref m75, .int 0])), (m19, .inl (cM19, 1200, .inl (upd fT2 (nI sz2 : Int32).toNatClampNeg (vp_nar .byte ((sv : Int32).toInt8.toInt32)))))] := hD
              refine lv_aload_n hx hb dX13_type_243 rfl (lv_at hl 3 rfl) ?_
              refine lv_dup hx hb dX13_type_244 rfl ?_
              refine va_get (D := (dC, dI)) (ci := 12) (v := .int (nI sz2)) (C := RX13) (T := TX13) (N := 77) hx hb htb inX13 hown hK hP 0 rfl rfl 20 (by decide) (htb _ kw_352) (fun _ h9 => h9) rfl dX13_type_245 ?_
              refine lv_iconst (v := 1) hx hb dX13_type_248 (by decide) ?_
              refine lv_iadd hx hb dX13_type_249 ?_
              refine lv_topi (fun z_18 ez_18 => ?_)
              obtain rfl : z_18 = nI (sz2 + 1) := ez_18.trans (nI_1 sz2)
              refine va_put (D := (dC, dI)) (ci := 12) (v := .int (nI (sz2 + 1))) (ty := .int) (C := RX13) (T := TX13) (N := 77) hx hb htb inX13 tyX13 tyX13_ok nmX13 hown hK hP hD hS 0 rfl rfl 20 (by decide) (htb _ kw_352) (fun _ h9 => h9) rfl (tyX13_ok 20 (by decide)) rfl rfl (Nat.le_of_ble_eq_true rfl) dX13_type_250 (fun H locs hP hD hS => ?_)
              have hP : va_P (dC, dI) vwCl [(h0, .inr (12, [.ref m0, .ref m1, .ref m2, .ref m3, .ref m4, .int 0, .ref m6, .ref m7, .ref m8, .ref m9, .ref m10, .ref m11, .ref m12, .ref m13, .ref m14, .ref m15, .ref m16, .ref m17, .ref m18, .ref m19, .int (nI (sz2 + 1)), .int 0, .int 0, .int (-1), .int 0, .int 0, .ref m26, .ref m27, .ref m28, .ref m29, .ref m30, .ref m31, .ref m32, .ref m33, .ref m34, .ref m35, .ref m36, .ref m37, .ref m38, .ref m39, .int 0, .int 0, .ref m42, .ref m43, .ref m44, .ref m45, .ref m46, .ref m47, .int 0, .int 0, .int 0, .int 0, .int (-1), .ref m53, .ref m54, .ref m55, .ref m56, .ref m57, .ref m58, .ref m59, .ref m60, .ref m61, .ref m62, .int 0, .ref m64, .ref m65, .ref m66, .ref m67, .ref m68, .ref m69, .ref m70, .ref m71, .ref m72, .ref m73, .int 0, .ref m75, .int 0])), (m19, .inl (cM19, 1200, .inl (upd fT2 (nI sz2 : Int32).toNatClampNeg (vp_nar .byte ((sv : Int32).toInt8.toInt32)))))] H := hP
              have hD : va_D A [(h0, .inr (12, [.ref m0, .ref m1, .ref m2, .ref m3, .ref m4, .int 0, .ref m6, .ref m7, .ref m8, .ref m9, .ref m10, .ref m11, .ref m12, .ref m13, .ref m14, .ref m15, .ref m16, .ref m17, .ref m18, .ref m19, .int (nI (sz2 + 1)), .int 0, .int 0, .int (-1), .int 0, .int 0, .ref m26, .ref m27, .ref m28, .ref m29, .ref m30, .ref m31, .ref m32, .ref m33, .ref m34, .ref m35, .ref m36, .ref m37, .ref m38, .ref m39, .int 0, .int 0, .ref m42, .ref m43, .ref m44, .ref m45, .ref m46, .ref m47, .int 0, .int 0, .int 0, .int 0, .int (-1), .ref m53, .ref m54, .ref m55, .ref m56, .ref m57, .ref m58, .ref m59, .ref m60, .ref m61, .ref m62, .int 0, .ref m64, .ref m65, .ref m66, .ref m67, .ref m68, .ref m69, .ref m70, .ref m71, .ref m72, .ref m73, .int 0, .ref m75, .int 0])), (m19, .inl (cM19, 1200, .inl (upd fT2 (nI sz2 : Int32).toNatClampNeg (vp_nar .byte ((sv : Int32).toInt8.toInt32)))))] := hD
              refine lv_iinc (v := nI (i + 1)) (lv' := [(7, .int (nI (i + 1))), (9, .int sv), (8, .int p0), (0, .ref h0), (1, .int p0), (2, .int p1), (3, .int p2), (4, .int p3), (5, .int p4)]) hx hb dX13_type_253 hl (k := 2) rfl (nI_1 i) (by decide) rfl (fun ls hl => ?_)
              refine lv_goto (tgt := 152) hx hb dX13_type_256 (by decide) ?_
              exact ih (i + 1) (sz2 + 1) (upd fT2 (nI sz2 : Int32).toNatClampNeg (vp_nar .byte ((sv : Int32).toInt8.toInt32))) _ _ _ (by omega) (by have k9 := mE_nb (by omega) hE20 hlt; rw [hE2, ← hsv] at k9; show tS (mE p0 p1 p2 p3 p4 i) (byt (wsel p0 p1 p2 p3 p4 i) i) = nI (sz2 + 1); rw [hE2, ← hsv]; exact tS_nz (by omega) c_17 k9) (by omega) (hP.sub [0, 1] rfl) (hD.sub [0, 1] (by decide) rfl) hS (lv_sub hl [0, 3, 4, 5, 6, 7, 8] rfl)
      exact hloop152 20 0 0 (fun _ => 0) _ _ _ rfl (rfl) (Nat.le_refl _) (hP.sub [0, 1] rfl) (hD.sub [0, 1] (by decide) rfl) hS (lv_sub hl [0, 2, 3, 4, 5, 6, 7] rfl)
    | succ n ih =>
      intro i mm H locs ls hi9 hE hmm hP hD hS hl
      have hlt : i < 20 := by omega
      refine lv_iload hx hb dX13_type_11 (lv_at hl 0 rfl) ?_
      refine lv_bipush (v := 20) hx hb dX13_type_13 (by decide) ?_
      refine lv_icmp_ge (tgt := 134) hx hb dX13_type_15 (by decide) (fun c_19 => absurd c_19 (nI_ge hlt (by decide))) (fun _ => ?_)
      refine lv_iload hx hb dX13_type_18 (lv_at hl 0 rfl) ?_
      refine lv_iconst (v := 4) hx hb dX13_type_20 (by decide) ?_
      refine lv_icmp_ge (tgt := 28) hx hb dX13_type_21 (by decide) (fun c_20 => ?_) (fun c_20 => ?_)
      · refine lv_iload hx hb dX13_type_28 (lv_at hl 0 rfl) ?_
        refine lv_bipush (v := 8) hx hb dX13_type_30 (by decide) ?_
        refine lv_icmp_ge (tgt := 39) hx hb dX13_type_32 (by decide) (fun c_21 => ?_) (fun c_21 => ?_)
        · refine lv_iload hx hb dX13_type_39 (lv_at hl 0 rfl) ?_
          refine lv_bipush (v := 12) hx hb dX13_type_41 (by decide) ?_
          refine lv_icmp_ge (tgt := 50) hx hb dX13_type_43 (by decide) (fun c_22 => ?_) (fun c_22 => ?_)
          · refine lv_iload hx hb dX13_type_50 (lv_at hl 0 rfl) ?_
            refine lv_bipush (v := 16) hx hb dX13_type_52 (by decide) ?_
            refine lv_icmp_ge (tgt := 62) hx hb dX13_type_54 (by decide) (fun c_23 => ?_) (fun c_23 => ?_)
            · refine lv_iload hx hb dX13_type_62 (lv_at hl 7 rfl) ?_
              refine lv_istore (lv' := [(8, .int p4), (7, .int (nI i)), (6, .int (nI mm)), (0, .ref h0), (1, .int p0), (2, .int p1), (3, .int p2), (4, .int p3), (5, .int p4)]) hx hb dX13_type_64 hl (by decide) rfl (fun ls hl => ?_)
              refine lv_iload hx hb dX13_type_66 (lv_at hl 0 rfl) ?_
              refine lv_bipush (v := 24) hx hb dX13_type_68 (by decide) ?_
              refine lv_bipush (v := 8) hx hb dX13_type_70 (by decide) ?_
              refine lv_iload hx hb dX13_type_72 (lv_at hl 1 rfl) ?_
              refine lv_iconst (v := 4) hx hb dX13_type_74 (by decide) ?_
              refine lv_irem hx hb dX13_type_75 (by decide) ?_
              refine lv_imul hx hb dX13_type_76 ?_
              refine lv_isub hx hb dX13_type_77 ?_
              refine lv_ishr hx hb dX13_type_78 ?_
              refine lv_sipush (v := 255) hx hb dX13_type_79 (by decide) ?_
              refine lv_iand hx hb dX13_type_82 ?_
              refine lv_topi (fun sv esv => ?_)
              have hsv : sv = byt (wsel p0 p1 p2 p3 p4 i) i := by rw [ws4 hlt c_23]; exact esv
              refine lv_istore (lv' := [(9, .int sv), (8, .int p4), (7, .int (nI i)), (6, .int (nI mm)), (0, .ref h0), (1, .int p0), (2, .int p1), (3, .int p2), (4, .int p3), (5, .int p4)]) hx hb dX13_type_83 hl (by decide) rfl (fun ls hl => ?_)
              refine lv_iload hx hb dX13_type_85 (lv_at hl 0 rfl) ?_
              refine lv_if_eq (tgt := 113) hx hb dX13_type_87 (by decide) (fun c_24 => ?_) (fun c_24 => ?_)
              · refine lv_iload hx hb dX13_type_113 (lv_at hl 3 rfl) ?_
                refine lv_iload hx hb dX13_type_115 (lv_at hl 0 rfl) ?_
                refine lv_if_eq (tgt := 124) hx hb dX13_type_117 (by decide) (fun _ => ?_) (fun c_25 => absurd c_24 c_25)
                refine lv_iconst (v := 0) hx hb dX13_type_124 (by decide) ?_
                refine lv_iadd hx hb dX13_type_125 ?_
                refine lv_topi (fun z_26 ez_26 => ?_)
                obtain rfl : z_26 = nI mm := ez_26.trans (Int32.add_zero _)
                refine lv_istore (lv' := [(6, .int (nI mm)), (9, .int sv), (8, .int p4), (7, .int (nI i)), (0, .ref h0), (1, .int p0), (2, .int p1), (3, .int p2), (4, .int p3), (5, .int p4)]) hx hb dX13_type_126 hl (by decide) rfl (fun ls hl => ?_)
                refine lv_iinc (v := nI (i + 1)) (lv' := [(7, .int (nI (i + 1))), (6, .int (nI mm)), (9, .int sv), (8, .int p4), (0, .ref h0), (1, .int p0), (2, .int p1), (3, .int p2), (4, .int p3), (5, .int p4)]) hx hb dX13_type_128 hl (k := 3) rfl (nI_1 i) (by decide) rfl (fun ls hl => ?_)
                refine lv_goto (tgt := 11) hx hb dX13_type_131 (by decide) ?_
                exact ih (i + 1) mm _ _ _ (by omega) (by show tS (mE p0 p1 p2 p3 p4 i) (byt (wsel p0 p1 p2 p3 p4 i) i) = nI mm; rw [hE, ← hsv]; exact tS_z (by omega) c_24) (by omega) (hP.sub [0, 1] rfl) (hD.sub [0, 1] (by decide) rfl) hS (lv_sub hl [0, 1, 4, 5, 6, 7, 8, 9] rfl)
              · refine lv_iload hx hb dX13_type_90 (lv_at hl 0 rfl) ?_
                refine lv_bipush (v := 10) hx hb dX13_type_92 (by decide) ?_
                refine lv_icmp_eq (tgt := 113) hx hb dX13_type_94 (by decide) (fun c_27 => ?_) (fun c_27 => ?_)
                · refine lv_iload hx hb dX13_type_113 (lv_at hl 3 rfl) ?_
                  refine lv_iload hx hb dX13_type_115 (lv_at hl 0 rfl) ?_
                  refine lv_if_eq (tgt := 124) hx hb dX13_type_117 (by decide) (fun c_28 => absurd c_28 c_24) (fun _ => ?_)
                  refine lv_iconst (v := 1) hx hb dX13_type_120 (by decide) ?_
                  refine lv_goto (tgt := 125) hx hb dX13_type_121 (by decide) ?_
                  refine lv_iadd hx hb dX13_type_125 ?_
                  refine lv_topi (fun z_29 ez_29 => ?_)
                  obtain rfl : z_29 = nI (mm + 1) := ez_29.trans (nI_1 mm)
                  refine lv_istore (lv' := [(6, .int (nI (mm + 1))), (9, .int sv), (8, .int p4), (7, .int (nI i)), (0, .ref h0), (1, .int p0), (2, .int p1), (3, .int p2), (4, .int p3), (5, .int p4)]) hx hb dX13_type_126 hl (by decide) rfl (fun ls hl => ?_)
                  refine lv_iinc (v := nI (i + 1)) (lv' := [(7, .int (nI (i + 1))), (6, .int (nI (mm + 1))), (9, .int sv), (8, .int p4), (0, .ref h0), (1, .int p0), (2, .int p1), (3, .int p2), (4, .int p3), (5, .int p4)]) hx hb dX13_type_128 hl (k := 3) rfl (nI_1 i) (by decide) rfl (fun ls hl => ?_)
                  refine lv_goto (tgt := 11) hx hb dX13_type_131 (by decide) ?_
                  exact ih (i + 1) (mm + 1) _ _ _ (by omega) (by show tS (mE p0 p1 p2 p3 p4 i) (byt (wsel p0 p1 p2 p3 p4 i) i) = nI (mm + 1); rw [hE, ← hsv]; exact tS_10 (by omega) c_24 c_27) (by omega) (hP.sub [0, 1] rfl) (hD.sub [0, 1] (by decide) rfl) hS (lv_sub hl [0, 1, 4, 5, 6, 7, 8, 9] rfl)
                · refine lv_iload hx hb dX13_type_97 (lv_at hl 0 rfl) ?_
                  refine lv_bipush (v := 32) hx hb dX13_type_99 (by decide) ?_
                  refine lv_icmp_lt (tgt := 111) hx hb dX13_type_101 (by decide) (fun c_30 => ?_) (fun c_30 => ?_)
                  · refine lv_iconst (v := (-1)) hx hb dX13_type_111 (by decide) ?_
                    have hP9 := hP.sub (ws' := []) [] rfl
                    have hD9 := hD.sub (ws' := []) [] (by decide) rfl
                    have hK9 := hK.sub (tys' := []) [] rfl
                    refine W.widen (k := 0) (n := 0) (Nat.le_of_ble_eq_true rfl) (Nat.le_of_ble_eq_true rfl) ?_
                    exact W.iret (v := (-1)) hx hb hr (fun t ht hW => ⟨⟨(-1), (), rfl, (mE_bad hlt (by rw [← hsv]; exact tS_lo c_24 c_27 c_30)), by rw [ht]; exact hP9, va_K.moved hW.alike hK9, hD9⟩, hS.F ht⟩) hS.2.2 dX13_type_112
                  · refine lv_iload hx hb dX13_type_104 (lv_at hl 0 rfl) ?_
                    refine lv_bipush (v := 126) hx hb dX13_type_106 (by decide) ?_
                    refine lv_icmp_le (tgt := 113) hx hb dX13_type_108 (by decide) (fun c_31 => ?_) (fun c_31 => ?_)
                    · refine lv_iload hx hb dX13_type_113 (lv_at hl 3 rfl) ?_
                      refine lv_iload hx hb dX13_type_115 (lv_at hl 0 rfl) ?_
                      refine lv_if_eq (tgt := 124) hx hb dX13_type_117 (by decide) (fun c_32 => absurd c_32 c_24) (fun _ => ?_)
                      refine lv_iconst (v := 1) hx hb dX13_type_120 (by decide) ?_
                      refine lv_goto (tgt := 125) hx hb dX13_type_121 (by decide) ?_
                      refine lv_iadd hx hb dX13_type_125 ?_
                      refine lv_topi (fun z_33 ez_33 => ?_)
                      obtain rfl : z_33 = nI (mm + 1) := ez_33.trans (nI_1 mm)
                      refine lv_istore (lv' := [(6, .int (nI (mm + 1))), (9, .int sv), (8, .int p4), (7, .int (nI i)), (0, .ref h0), (1, .int p0), (2, .int p1), (3, .int p2), (4, .int p3), (5, .int p4)]) hx hb dX13_type_126 hl (by decide) rfl (fun ls hl => ?_)
                      refine lv_iinc (v := nI (i + 1)) (lv' := [(7, .int (nI (i + 1))), (6, .int (nI (mm + 1))), (9, .int sv), (8, .int p4), (0, .ref h0), (1, .int p0), (2, .int p1), (3, .int p2), (4, .int p3), (5, .int p4)]) hx hb dX13_type_128 hl (k := 3) rfl (nI_1 i) (by decide) rfl (fun ls hl => ?_)
                      refine lv_goto (tgt := 11) hx hb dX13_type_131 (by decide) ?_
                      exact ih (i + 1) (mm + 1) _ _ _ (by omega) (by show tS (mE p0 p1 p2 p3 p4 i) (byt (wsel p0 p1 p2 p3 p4 i) i) = nI (mm + 1); rw [hE, ← hsv]; exact tS_g (by omega) c_24 c_27 c_30 (Int32.not_lt.mpr c_31)) (by omega) (hP.sub [0, 1] rfl) (hD.sub [0, 1] (by decide) rfl) hS (lv_sub hl [0, 1, 4, 5, 6, 7, 8, 9] rfl)
                    · refine lv_iconst (v := (-1)) hx hb dX13_type_111 (by decide) ?_
                      have hP9 := hP.sub (ws' := []) [] rfl
                      have hD9 := hD.sub (ws' := []) [] (by decide) rfl
                      have hK9 := hK.sub (tys' := []) [] rfl
                      refine W.widen (k := 0) (n := 0) (Nat.le_of_ble_eq_true rfl) (Nat.le_of_ble_eq_true rfl) ?_
                      exact W.iret (v := (-1)) hx hb hr (fun t ht hW => ⟨⟨(-1), (), rfl, (mE_bad hlt (by rw [← hsv]; exact tS_hi c_24 c_27 (Int32.not_le.mp c_31))), by rw [ht]; exact hP9, va_K.moved hW.alike hK9, hD9⟩, hS.F ht⟩) hS.2.2 dX13_type_112
            · refine lv_iload hx hb dX13_type_57 (lv_at hl 6 rfl) ?_
              refine lv_goto (tgt := 64) hx hb dX13_type_59 (by decide) ?_
              refine lv_istore (lv' := [(8, .int p3), (7, .int (nI i)), (6, .int (nI mm)), (0, .ref h0), (1, .int p0), (2, .int p1), (3, .int p2), (4, .int p3), (5, .int p4)]) hx hb dX13_type_64 hl (by decide) rfl (fun ls hl => ?_)
              refine lv_iload hx hb dX13_type_66 (lv_at hl 0 rfl) ?_
              refine lv_bipush (v := 24) hx hb dX13_type_68 (by decide) ?_
              refine lv_bipush (v := 8) hx hb dX13_type_70 (by decide) ?_
              refine lv_iload hx hb dX13_type_72 (lv_at hl 1 rfl) ?_
              refine lv_iconst (v := 4) hx hb dX13_type_74 (by decide) ?_
              refine lv_irem hx hb dX13_type_75 (by decide) ?_
              refine lv_imul hx hb dX13_type_76 ?_
              refine lv_isub hx hb dX13_type_77 ?_
              refine lv_ishr hx hb dX13_type_78 ?_
              refine lv_sipush (v := 255) hx hb dX13_type_79 (by decide) ?_
              refine lv_iand hx hb dX13_type_82 ?_
              refine lv_topi (fun sv esv => ?_)
              have hsv : sv = byt (wsel p0 p1 p2 p3 p4 i) i := by rw [ws3 hlt c_22 c_23]; exact esv
              refine lv_istore (lv' := [(9, .int sv), (8, .int p3), (7, .int (nI i)), (6, .int (nI mm)), (0, .ref h0), (1, .int p0), (2, .int p1), (3, .int p2), (4, .int p3), (5, .int p4)]) hx hb dX13_type_83 hl (by decide) rfl (fun ls hl => ?_)
              refine lv_iload hx hb dX13_type_85 (lv_at hl 0 rfl) ?_
              refine lv_if_eq (tgt := 113) hx hb dX13_type_87 (by decide) (fun c_34 => ?_) (fun c_34 => ?_)
              · refine lv_iload hx hb dX13_type_113 (lv_at hl 3 rfl) ?_
                refine lv_iload hx hb dX13_type_115 (lv_at hl 0 rfl) ?_
                refine lv_if_eq (tgt := 124) hx hb dX13_type_117 (by decide) (fun _ => ?_) (fun c_35 => absurd c_34 c_35)
                refine lv_iconst (v := 0) hx hb dX13_type_124 (by decide) ?_
                refine lv_iadd hx hb dX13_type_125 ?_
                refine lv_topi (fun z_36 ez_36 => ?_)
                obtain rfl : z_36 = nI mm := ez_36.trans (Int32.add_zero _)
                refine lv_istore (lv' := [(6, .int (nI mm)), (9, .int sv), (8, .int p3), (7, .int (nI i)), (0, .ref h0), (1, .int p0), (2, .int p1), (3, .int p2), (4, .int p3), (5, .int p4)]) hx hb dX13_type_126 hl (by decide) rfl (fun ls hl => ?_)
                refine lv_iinc (v := nI (i + 1)) (lv' := [(7, .int (nI (i + 1))), (6, .int (nI mm)), (9, .int sv), (8, .int p3), (0, .ref h0), (1, .int p0), (2, .int p1), (3, .int p2), (4, .int p3), (5, .int p4)]) hx hb dX13_type_128 hl (k := 3) rfl (nI_1 i) (by decide) rfl (fun ls hl => ?_)
                refine lv_goto (tgt := 11) hx hb dX13_type_131 (by decide) ?_
                exact ih (i + 1) mm _ _ _ (by omega) (by show tS (mE p0 p1 p2 p3 p4 i) (byt (wsel p0 p1 p2 p3 p4 i) i) = nI mm; rw [hE, ← hsv]; exact tS_z (by omega) c_34) (by omega) (hP.sub [0, 1] rfl) (hD.sub [0, 1] (by decide) rfl) hS (lv_sub hl [0, 1, 4, 5, 6, 7, 8, 9] rfl)
              · refine lv_iload hx hb dX13_type_90 (lv_at hl 0 rfl) ?_
                refine lv_bipush (v := 10) hx hb dX13_type_92 (by decide) ?_
                refine lv_icmp_eq (tgt := 113) hx hb dX13_type_94 (by decide) (fun c_37 => ?_) (fun c_37 => ?_)
                · refine lv_iload hx hb dX13_type_113 (lv_at hl 3 rfl) ?_
                  refine lv_iload hx hb dX13_type_115 (lv_at hl 0 rfl) ?_
                  refine lv_if_eq (tgt := 124) hx hb dX13_type_117 (by decide) (fun c_38 => absurd c_38 c_34) (fun _ => ?_)
                  refine lv_iconst (v := 1) hx hb dX13_type_120 (by decide) ?_
                  refine lv_goto (tgt := 125) hx hb dX13_type_121 (by decide) ?_
                  refine lv_iadd hx hb dX13_type_125 ?_
                  refine lv_topi (fun z_39 ez_39 => ?_)
                  obtain rfl : z_39 = nI (mm + 1) := ez_39.trans (nI_1 mm)
                  refine lv_istore (lv' := [(6, .int (nI (mm + 1))), (9, .int sv), (8, .int p3), (7, .int (nI i)), (0, .ref h0), (1, .int p0), (2, .int p1), (3, .int p2), (4, .int p3), (5, .int p4)]) hx hb dX13_type_126 hl (by decide) rfl (fun ls hl => ?_)
                  refine lv_iinc (v := nI (i + 1)) (lv' := [(7, .int (nI (i + 1))), (6, .int (nI (mm + 1))), (9, .int sv), (8, .int p3), (0, .ref h0), (1, .int p0), (2, .int p1), (3, .int p2), (4, .int p3), (5, .int p4)]) hx hb dX13_type_128 hl (k := 3) rfl (nI_1 i) (by decide) rfl (fun ls hl => ?_)
                  refine lv_goto (tgt := 11) hx hb dX13_type_131 (by decide) ?_
                  exact ih (i + 1) (mm + 1) _ _ _ (by omega) (by show tS (mE p0 p1 p2 p3 p4 i) (byt (wsel p0 p1 p2 p3 p4 i) i) = nI (mm + 1); rw [hE, ← hsv]; exact tS_10 (by omega) c_34 c_37) (by omega) (hP.sub [0, 1] rfl) (hD.sub [0, 1] (by decide) rfl) hS (lv_sub hl [0, 1, 4, 5, 6, 7, 8, 9] rfl)
                · refine lv_iload hx hb dX13_type_97 (lv_at hl 0 rfl) ?_
                  refine lv_bipush (v := 32) hx hb dX13_type_99 (by decide) ?_
                  refine lv_icmp_lt (tgt := 111) hx hb dX13_type_101 (by decide) (fun c_40 => ?_) (fun c_40 => ?_)
                  · refine lv_iconst (v := (-1)) hx hb dX13_type_111 (by decide) ?_
                    have hP9 := hP.sub (ws' := []) [] rfl
                    have hD9 := hD.sub (ws' := []) [] (by decide) rfl
                    have hK9 := hK.sub (tys' := []) [] rfl
                    refine W.widen (k := 0) (n := 0) (Nat.le_of_ble_eq_true rfl) (Nat.le_of_ble_eq_true rfl) ?_
                    exact W.iret (v := (-1)) hx hb hr (fun t ht hW => ⟨⟨(-1), (), rfl, (mE_bad hlt (by rw [← hsv]; exact tS_lo c_34 c_37 c_40)), by rw [ht]; exact hP9, va_K.moved hW.alike hK9, hD9⟩, hS.F ht⟩) hS.2.2 dX13_type_112
                  · refine lv_iload hx hb dX13_type_104 (lv_at hl 0 rfl) ?_
                    refine lv_bipush (v := 126) hx hb dX13_type_106 (by decide) ?_
                    refine lv_icmp_le (tgt := 113) hx hb dX13_type_108 (by decide) (fun c_41 => ?_) (fun c_41 => ?_)
                    · refine lv_iload hx hb dX13_type_113 (lv_at hl 3 rfl) ?_
                      refine lv_iload hx hb dX13_type_115 (lv_at hl 0 rfl) ?_
                      refine lv_if_eq (tgt := 124) hx hb dX13_type_117 (by decide) (fun c_42 => absurd c_42 c_34) (fun _ => ?_)
                      refine lv_iconst (v := 1) hx hb dX13_type_120 (by decide) ?_
                      refine lv_goto (tgt := 125) hx hb dX13_type_121 (by decide) ?_
                      refine lv_iadd hx hb dX13_type_125 ?_
                      refine lv_topi (fun z_43 ez_43 => ?_)
                      obtain rfl : z_43 = nI (mm + 1) := ez_43.trans (nI_1 mm)
                      refine lv_istore (lv' := [(6, .int (nI (mm + 1))), (9, .int sv), (8, .int p3), (7, .int (nI i)), (0, .ref h0), (1, .int p0), (2, .int p1), (3, .int p2), (4, .int p3), (5, .int p4)]) hx hb dX13_type_126 hl (by decide) rfl (fun ls hl => ?_)
                      refine lv_iinc (v := nI (i + 1)) (lv' := [(7, .int (nI (i + 1))), (6, .int (nI (mm + 1))), (9, .int sv), (8, .int p3), (0, .ref h0), (1, .int p0), (2, .int p1), (3, .int p2), (4, .int p3), (5, .int p4)]) hx hb dX13_type_128 hl (k := 3) rfl (nI_1 i) (by decide) rfl (fun ls hl => ?_)
                      refine lv_goto (tgt := 11) hx hb dX13_type_131 (by decide) ?_
                      exact ih (i + 1) (mm + 1) _ _ _ (by omega) (by show tS (mE p0 p1 p2 p3 p4 i) (byt (wsel p0 p1 p2 p3 p4 i) i) = nI (mm + 1); rw [hE, ← hsv]; exact tS_g (by omega) c_34 c_37 c_40 (Int32.not_lt.mpr c_41)) (by omega) (hP.sub [0, 1] rfl) (hD.sub [0, 1] (by decide) rfl) hS (lv_sub hl [0, 1, 4, 5, 6, 7, 8, 9] rfl)
                    · refine lv_iconst (v := (-1)) hx hb dX13_type_111 (by decide) ?_
                      have hP9 := hP.sub (ws' := []) [] rfl
                      have hD9 := hD.sub (ws' := []) [] (by decide) rfl
                      have hK9 := hK.sub (tys' := []) [] rfl
                      refine W.widen (k := 0) (n := 0) (Nat.le_of_ble_eq_true rfl) (Nat.le_of_ble_eq_true rfl) ?_
                      exact W.iret (v := (-1)) hx hb hr (fun t ht hW => ⟨⟨(-1), (), rfl, (mE_bad hlt (by rw [← hsv]; exact tS_hi c_34 c_37 (Int32.not_le.mp c_41))), by rw [ht]; exact hP9, va_K.moved hW.alike hK9, hD9⟩, hS.F ht⟩) hS.2.2 dX13_type_112
          · refine lv_iload_n hx hb dX13_type_46 rfl (lv_at hl 5 rfl) ?_
            refine lv_goto (tgt := 64) hx hb dX13_type_47 (by decide) ?_
            refine lv_istore (lv' := [(8, .int p2), (7, .int (nI i)), (6, .int (nI mm)), (0, .ref h0), (1, .int p0), (2, .int p1), (3, .int p2), (4, .int p3), (5, .int p4)]) hx hb dX13_type_64 hl (by decide) rfl (fun ls hl => ?_)
            refine lv_iload hx hb dX13_type_66 (lv_at hl 0 rfl) ?_
            refine lv_bipush (v := 24) hx hb dX13_type_68 (by decide) ?_
            refine lv_bipush (v := 8) hx hb dX13_type_70 (by decide) ?_
            refine lv_iload hx hb dX13_type_72 (lv_at hl 1 rfl) ?_
            refine lv_iconst (v := 4) hx hb dX13_type_74 (by decide) ?_
            refine lv_irem hx hb dX13_type_75 (by decide) ?_
            refine lv_imul hx hb dX13_type_76 ?_
            refine lv_isub hx hb dX13_type_77 ?_
            refine lv_ishr hx hb dX13_type_78 ?_
            refine lv_sipush (v := 255) hx hb dX13_type_79 (by decide) ?_
            refine lv_iand hx hb dX13_type_82 ?_
            refine lv_topi (fun sv esv => ?_)
            have hsv : sv = byt (wsel p0 p1 p2 p3 p4 i) i := by rw [ws2 hlt c_21 c_22]; exact esv
            refine lv_istore (lv' := [(9, .int sv), (8, .int p2), (7, .int (nI i)), (6, .int (nI mm)), (0, .ref h0), (1, .int p0), (2, .int p1), (3, .int p2), (4, .int p3), (5, .int p4)]) hx hb dX13_type_83 hl (by decide) rfl (fun ls hl => ?_)
            refine lv_iload hx hb dX13_type_85 (lv_at hl 0 rfl) ?_
            refine lv_if_eq (tgt := 113) hx hb dX13_type_87 (by decide) (fun c_44 => ?_) (fun c_44 => ?_)
            · refine lv_iload hx hb dX13_type_113 (lv_at hl 3 rfl) ?_
              refine lv_iload hx hb dX13_type_115 (lv_at hl 0 rfl) ?_
              refine lv_if_eq (tgt := 124) hx hb dX13_type_117 (by decide) (fun _ => ?_) (fun c_45 => absurd c_44 c_45)
              refine lv_iconst (v := 0) hx hb dX13_type_124 (by decide) ?_
              refine lv_iadd hx hb dX13_type_125 ?_
              refine lv_topi (fun z_46 ez_46 => ?_)
              obtain rfl : z_46 = nI mm := ez_46.trans (Int32.add_zero _)
              refine lv_istore (lv' := [(6, .int (nI mm)), (9, .int sv), (8, .int p2), (7, .int (nI i)), (0, .ref h0), (1, .int p0), (2, .int p1), (3, .int p2), (4, .int p3), (5, .int p4)]) hx hb dX13_type_126 hl (by decide) rfl (fun ls hl => ?_)
              refine lv_iinc (v := nI (i + 1)) (lv' := [(7, .int (nI (i + 1))), (6, .int (nI mm)), (9, .int sv), (8, .int p2), (0, .ref h0), (1, .int p0), (2, .int p1), (3, .int p2), (4, .int p3), (5, .int p4)]) hx hb dX13_type_128 hl (k := 3) rfl (nI_1 i) (by decide) rfl (fun ls hl => ?_)
              refine lv_goto (tgt := 11) hx hb dX13_type_131 (by decide) ?_
              exact ih (i + 1) mm _ _ _ (by omega) (by show tS (mE p0 p1 p2 p3 p4 i) (byt (wsel p0 p1 p2 p3 p4 i) i) = nI mm; rw [hE, ← hsv]; exact tS_z (by omega) c_44) (by omega) (hP.sub [0, 1] rfl) (hD.sub [0, 1] (by decide) rfl) hS (lv_sub hl [0, 1, 4, 5, 6, 7, 8, 9] rfl)
            · refine lv_iload hx hb dX13_type_90 (lv_at hl 0 rfl) ?_
              refine lv_bipush (v := 10) hx hb dX13_type_92 (by decide) ?_
              refine lv_icmp_eq (tgt := 113) hx hb dX13_type_94 (by decide) (fun c_47 => ?_) (fun c_47 => ?_)
              · refine lv_iload hx hb dX13_type_113 (lv_at hl 3 rfl) ?_
                refine lv_iload hx hb dX13_type_115 (lv_at hl 0 rfl) ?_
                refine lv_if_eq (tgt := 124) hx hb dX13_type_117 (by decide) (fun c_48 => absurd c_48 c_44) (fun _ => ?_)
                refine lv_iconst (v := 1) hx hb dX13_type_120 (by decide) ?_
                refine lv_goto (tgt := 125) hx hb dX13_type_121 (by decide) ?_
                refine lv_iadd hx hb dX13_type_125 ?_
                refine lv_topi (fun z_49 ez_49 => ?_)
                obtain rfl : z_49 = nI (mm + 1) := ez_49.trans (nI_1 mm)
                refine lv_istore (lv' := [(6, .int (nI (mm + 1))), (9, .int sv), (8, .int p2), (7, .int (nI i)), (0, .ref h0), (1, .int p0), (2, .int p1), (3, .int p2), (4, .int p3), (5, .int p4)]) hx hb dX13_type_126 hl (by decide) rfl (fun ls hl => ?_)
                refine lv_iinc (v := nI (i + 1)) (lv' := [(7, .int (nI (i + 1))), (6, .int (nI (mm + 1))), (9, .int sv), (8, .int p2), (0, .ref h0), (1, .int p0), (2, .int p1), (3, .int p2), (4, .int p3), (5, .int p4)]) hx hb dX13_type_128 hl (k := 3) rfl (nI_1 i) (by decide) rfl (fun ls hl => ?_)
                refine lv_goto (tgt := 11) hx hb dX13_type_131 (by decide) ?_
                exact ih (i + 1) (mm + 1) _ _ _ (by omega) (by show tS (mE p0 p1 p2 p3 p4 i) (byt (wsel p0 p1 p2 p3 p4 i) i) = nI (mm + 1); rw [hE, ← hsv]; exact tS_10 (by omega) c_44 c_47) (by omega) (hP.sub [0, 1] rfl) (hD.sub [0, 1] (by decide) rfl) hS (lv_sub hl [0, 1, 4, 5, 6, 7, 8, 9] rfl)
              · refine lv_iload hx hb dX13_type_97 (lv_at hl 0 rfl) ?_
                refine lv_bipush (v := 32) hx hb dX13_type_99 (by decide) ?_
                refine lv_icmp_lt (tgt := 111) hx hb dX13_type_101 (by decide) (fun c_50 => ?_) (fun c_50 => ?_)
                · refine lv_iconst (v := (-1)) hx hb dX13_type_111 (by decide) ?_
                  have hP9 := hP.sub (ws' := []) [] rfl
                  have hD9 := hD.sub (ws' := []) [] (by decide) rfl
                  have hK9 := hK.sub (tys' := []) [] rfl
                  refine W.widen (k := 0) (n := 0) (Nat.le_of_ble_eq_true rfl) (Nat.le_of_ble_eq_true rfl) ?_
                  exact W.iret (v := (-1)) hx hb hr (fun t ht hW => ⟨⟨(-1), (), rfl, (mE_bad hlt (by rw [← hsv]; exact tS_lo c_44 c_47 c_50)), by rw [ht]; exact hP9, va_K.moved hW.alike hK9, hD9⟩, hS.F ht⟩) hS.2.2 dX13_type_112
                · refine lv_iload hx hb dX13_type_104 (lv_at hl 0 rfl) ?_
                  refine lv_bipush (v := 126) hx hb dX13_type_106 (by decide) ?_
                  refine lv_icmp_le (tgt := 113) hx hb dX13_type_108 (by decide) (fun c_51 => ?_) (fun c_51 => ?_)
                  · refine lv_iload hx hb dX13_type_113 (lv_at hl 3 rfl) ?_
                    refine lv_iload hx hb dX13_type_115 (lv_at hl 0 rfl) ?_
                    refine lv_if_eq (tgt := 124) hx hb dX13_type_117 (by decide) (fun c_52 => absurd c_52 c_44) (fun _ => ?_)
                    refine lv_iconst (v := 1) hx hb dX13_type_120 (by decide) ?_
                    refine lv_goto (tgt := 125) hx hb dX13_type_121 (by decide) ?_
                    refine lv_iadd hx hb dX13_type_125 ?_
                    refine lv_topi (fun z_53 ez_53 => ?_)
                    obtain rfl : z_53 = nI (mm + 1) := ez_53.trans (nI_1 mm)
                    refine lv_istore (lv' := [(6, .int (nI (mm + 1))), (9, .int sv), (8, .int p2), (7, .int (nI i)), (0, .ref h0), (1, .int p0), (2, .int p1), (3, .int p2), (4, .int p3), (5, .int p4)]) hx hb dX13_type_126 hl (by decide) rfl (fun ls hl => ?_)
                    refine lv_iinc (v := nI (i + 1)) (lv' := [(7, .int (nI (i + 1))), (6, .int (nI (mm + 1))), (9, .int sv), (8, .int p2), (0, .ref h0), (1, .int p0), (2, .int p1), (3, .int p2), (4, .int p3), (5, .int p4)]) hx hb dX13_type_128 hl (k := 3) rfl (nI_1 i) (by decide) rfl (fun ls hl => ?_)
                    refine lv_goto (tgt := 11) hx hb dX13_type_131 (by decide) ?_
                    exact ih (i + 1) (mm + 1) _ _ _ (by omega) (by show tS (mE p0 p1 p2 p3 p4 i) (byt (wsel p0 p1 p2 p3 p4 i) i) = nI (mm + 1); rw [hE, ← hsv]; exact tS_g (by omega) c_44 c_47 c_50 (Int32.not_lt.mpr c_51)) (by omega) (hP.sub [0, 1] rfl) (hD.sub [0, 1] (by decide) rfl) hS (lv_sub hl [0, 1, 4, 5, 6, 7, 8, 9] rfl)
                  · refine lv_iconst (v := (-1)) hx hb dX13_type_111 (by decide) ?_
                    have hP9 := hP.sub (ws' := []) [] rfl
                    have hD9 := hD.sub (ws' := []) [] (by decide) rfl
                    have hK9 := hK.sub (tys' := []) [] rfl
                    refine W.widen (k := 0) (n := 0) (Nat.le_of_ble_eq_true rfl) (Nat.le_of_ble_eq_true rfl) ?_
                    exact W.iret (v := (-1)) hx hb hr (fun t ht hW => ⟨⟨(-1), (), rfl, (mE_bad hlt (by rw [← hsv]; exact tS_hi c_44 c_47 (Int32.not_le.mp c_51))), by rw [ht]; exact hP9, va_K.moved hW.alike hK9, hD9⟩, hS.F ht⟩) hS.2.2 dX13_type_112
        · refine lv_iload_n hx hb dX13_type_35 rfl (lv_at hl 4 rfl) ?_
          refine lv_goto (tgt := 64) hx hb dX13_type_36 (by decide) ?_
          refine lv_istore (lv' := [(8, .int p1), (7, .int (nI i)), (6, .int (nI mm)), (0, .ref h0), (1, .int p0), (2, .int p1), (3, .int p2), (4, .int p3), (5, .int p4)]) hx hb dX13_type_64 hl (by decide) rfl (fun ls hl => ?_)
          refine lv_iload hx hb dX13_type_66 (lv_at hl 0 rfl) ?_
          refine lv_bipush (v := 24) hx hb dX13_type_68 (by decide) ?_
          refine lv_bipush (v := 8) hx hb dX13_type_70 (by decide) ?_
          refine lv_iload hx hb dX13_type_72 (lv_at hl 1 rfl) ?_
          refine lv_iconst (v := 4) hx hb dX13_type_74 (by decide) ?_
          refine lv_irem hx hb dX13_type_75 (by decide) ?_
          refine lv_imul hx hb dX13_type_76 ?_
          refine lv_isub hx hb dX13_type_77 ?_
          refine lv_ishr hx hb dX13_type_78 ?_
          refine lv_sipush (v := 255) hx hb dX13_type_79 (by decide) ?_
          refine lv_iand hx hb dX13_type_82 ?_
          refine lv_topi (fun sv esv => ?_)
          have hsv : sv = byt (wsel p0 p1 p2 p3 p4 i) i := by rw [ws1 hlt c_20 c_21]; exact esv
          refine lv_istore (lv' := [(9, .int sv), (8, .int p1), (7, .int (nI i)), (6, .int (nI mm)), (0, .ref h0), (1, .int p0), (2, .int p1), (3, .int p2), (4, .int p3), (5, .int p4)]) hx hb dX13_type_83 hl (by decide) rfl (fun ls hl => ?_)
          refine lv_iload hx hb dX13_type_85 (lv_at hl 0 rfl) ?_
          refine lv_if_eq (tgt := 113) hx hb dX13_type_87 (by decide) (fun c_54 => ?_) (fun c_54 => ?_)
          · refine lv_iload hx hb dX13_type_113 (lv_at hl 3 rfl) ?_
            refine lv_iload hx hb dX13_type_115 (lv_at hl 0 rfl) ?_
            refine lv_if_eq (tgt := 124) hx hb dX13_type_117 (by decide) (fun _ => ?_) (fun c_55 => absurd c_54 c_55)
            refine lv_iconst (v := 0) hx hb dX13_type_124 (by decide) ?_
            refine lv_iadd hx hb dX13_type_125 ?_
            refine lv_topi (fun z_56 ez_56 => ?_)
            obtain rfl : z_56 = nI mm := ez_56.trans (Int32.add_zero _)
            refine lv_istore (lv' := [(6, .int (nI mm)), (9, .int sv), (8, .int p1), (7, .int (nI i)), (0, .ref h0), (1, .int p0), (2, .int p1), (3, .int p2), (4, .int p3), (5, .int p4)]) hx hb dX13_type_126 hl (by decide) rfl (fun ls hl => ?_)
            refine lv_iinc (v := nI (i + 1)) (lv' := [(7, .int (nI (i + 1))), (6, .int (nI mm)), (9, .int sv), (8, .int p1), (0, .ref h0), (1, .int p0), (2, .int p1), (3, .int p2), (4, .int p3), (5, .int p4)]) hx hb dX13_type_128 hl (k := 3) rfl (nI_1 i) (by decide) rfl (fun ls hl => ?_)
            refine lv_goto (tgt := 11) hx hb dX13_type_131 (by decide) ?_
            exact ih (i + 1) mm _ _ _ (by omega) (by show tS (mE p0 p1 p2 p3 p4 i) (byt (wsel p0 p1 p2 p3 p4 i) i) = nI mm; rw [hE, ← hsv]; exact tS_z (by omega) c_54) (by omega) (hP.sub [0, 1] rfl) (hD.sub [0, 1] (by decide) rfl) hS (lv_sub hl [0, 1, 4, 5, 6, 7, 8, 9] rfl)
          · refine lv_iload hx hb dX13_type_90 (lv_at hl 0 rfl) ?_
            refine lv_bipush (v := 10) hx hb dX13_type_92 (by decide) ?_
            refine lv_icmp_eq (tgt := 113) hx hb dX13_type_94 (by decide) (fun c_57 => ?_) (fun c_57 => ?_)
            · refine lv_iload hx hb dX13_type_113 (lv_at hl 3 rfl) ?_
              refine lv_iload hx hb dX13_type_115 (lv_at hl 0 rfl) ?_
              refine lv_if_eq (tgt := 124) hx hb dX13_type_117 (by decide) (fun c_58 => absurd c_58 c_54) (fun _ => ?_)
              refine lv_iconst (v := 1) hx hb dX13_type_120 (by decide) ?_
              refine lv_goto (tgt := 125) hx hb dX13_type_121 (by decide) ?_
              refine lv_iadd hx hb dX13_type_125 ?_
              refine lv_topi (fun z_59 ez_59 => ?_)
              obtain rfl : z_59 = nI (mm + 1) := ez_59.trans (nI_1 mm)
              refine lv_istore (lv' := [(6, .int (nI (mm + 1))), (9, .int sv), (8, .int p1), (7, .int (nI i)), (0, .ref h0), (1, .int p0), (2, .int p1), (3, .int p2), (4, .int p3), (5, .int p4)]) hx hb dX13_type_126 hl (by decide) rfl (fun ls hl => ?_)
              refine lv_iinc (v := nI (i + 1)) (lv' := [(7, .int (nI (i + 1))), (6, .int (nI (mm + 1))), (9, .int sv), (8, .int p1), (0, .ref h0), (1, .int p0), (2, .int p1), (3, .int p2), (4, .int p3), (5, .int p4)]) hx hb dX13_type_128 hl (k := 3) rfl (nI_1 i) (by decide) rfl (fun ls hl => ?_)
              refine lv_goto (tgt := 11) hx hb dX13_type_131 (by decide) ?_
              exact ih (i + 1) (mm + 1) _ _ _ (by omega) (by show tS (mE p0 p1 p2 p3 p4 i) (byt (wsel p0 p1 p2 p3 p4 i) i) = nI (mm + 1); rw [hE, ← hsv]; exact tS_10 (by omega) c_54 c_57) (by omega) (hP.sub [0, 1] rfl) (hD.sub [0, 1] (by decide) rfl) hS (lv_sub hl [0, 1, 4, 5, 6, 7, 8, 9] rfl)
            · refine lv_iload hx hb dX13_type_97 (lv_at hl 0 rfl) ?_
              refine lv_bipush (v := 32) hx hb dX13_type_99 (by decide) ?_
              refine lv_icmp_lt (tgt := 111) hx hb dX13_type_101 (by decide) (fun c_60 => ?_) (fun c_60 => ?_)
              · refine lv_iconst (v := (-1)) hx hb dX13_type_111 (by decide) ?_
                have hP9 := hP.sub (ws' := []) [] rfl
                have hD9 := hD.sub (ws' := []) [] (by decide) rfl
                have hK9 := hK.sub (tys' := []) [] rfl
                refine W.widen (k := 0) (n := 0) (Nat.le_of_ble_eq_true rfl) (Nat.le_of_ble_eq_true rfl) ?_
                exact W.iret (v := (-1)) hx hb hr (fun t ht hW => ⟨⟨(-1), (), rfl, (mE_bad hlt (by rw [← hsv]; exact tS_lo c_54 c_57 c_60)), by rw [ht]; exact hP9, va_K.moved hW.alike hK9, hD9⟩, hS.F ht⟩) hS.2.2 dX13_type_112
              · refine lv_iload hx hb dX13_type_104 (lv_at hl 0 rfl) ?_
                refine lv_bipush (v := 126) hx hb dX13_type_106 (by decide) ?_
                refine lv_icmp_le (tgt := 113) hx hb dX13_type_108 (by decide) (fun c_61 => ?_) (fun c_61 => ?_)
                · refine lv_iload hx hb dX13_type_113 (lv_at hl 3 rfl) ?_
                  refine lv_iload hx hb dX13_type_115 (lv_at hl 0 rfl) ?_
                  refine lv_if_eq (tgt := 124) hx hb dX13_type_117 (by decide) (fun c_62 => absurd c_62 c_54) (fun _ => ?_)
                  refine lv_iconst (v := 1) hx hb dX13_type_120 (by decide) ?_
                  refine lv_goto (tgt := 125) hx hb dX13_type_121 (by decide) ?_
                  refine lv_iadd hx hb dX13_type_125 ?_
                  refine lv_topi (fun z_63 ez_63 => ?_)
                  obtain rfl : z_63 = nI (mm + 1) := ez_63.trans (nI_1 mm)
                  refine lv_istore (lv' := [(6, .int (nI (mm + 1))), (9, .int sv), (8, .int p1), (7, .int (nI i)), (0, .ref h0), (1, .int p0), (2, .int p1), (3, .int p2), (4, .int p3), (5, .int p4)]) hx hb dX13_type_126 hl (by decide) rfl (fun ls hl => ?_)
                  refine lv_iinc (v := nI (i + 1)) (lv' := [(7, .int (nI (i + 1))), (6, .int (nI (mm + 1))), (9, .int sv), (8, .int p1), (0, .ref h0), (1, .int p0), (2, .int p1), (3, .int p2), (4, .int p3), (5, .int p4)]) hx hb dX13_type_128 hl (k := 3) rfl (nI_1 i) (by decide) rfl (fun ls hl => ?_)
                  refine lv_goto (tgt := 11) hx hb dX13_type_131 (by decide) ?_
                  exact ih (i + 1) (mm + 1) _ _ _ (by omega) (by show tS (mE p0 p1 p2 p3 p4 i) (byt (wsel p0 p1 p2 p3 p4 i) i) = nI (mm + 1); rw [hE, ← hsv]; exact tS_g (by omega) c_54 c_57 c_60 (Int32.not_lt.mpr c_61)) (by omega) (hP.sub [0, 1] rfl) (hD.sub [0, 1] (by decide) rfl) hS (lv_sub hl [0, 1, 4, 5, 6, 7, 8, 9] rfl)
                · refine lv_iconst (v := (-1)) hx hb dX13_type_111 (by decide) ?_
                  have hP9 := hP.sub (ws' := []) [] rfl
                  have hD9 := hD.sub (ws' := []) [] (by decide) rfl
                  have hK9 := hK.sub (tys' := []) [] rfl
                  refine W.widen (k := 0) (n := 0) (Nat.le_of_ble_eq_true rfl) (Nat.le_of_ble_eq_true rfl) ?_
                  exact W.iret (v := (-1)) hx hb hr (fun t ht hW => ⟨⟨(-1), (), rfl, (mE_bad hlt (by rw [← hsv]; exact tS_hi c_54 c_57 (Int32.not_le.mp c_61))), by rw [ht]; exact hP9, va_K.moved hW.alike hK9, hD9⟩, hS.F ht⟩) hS.2.2 dX13_type_112
      · refine lv_iload_n hx hb dX13_type_24 rfl (lv_at hl 3 rfl) ?_
        refine lv_goto (tgt := 64) hx hb dX13_type_25 (by decide) ?_
        refine lv_istore (lv' := [(8, .int p0), (7, .int (nI i)), (6, .int (nI mm)), (0, .ref h0), (1, .int p0), (2, .int p1), (3, .int p2), (4, .int p3), (5, .int p4)]) hx hb dX13_type_64 hl (by decide) rfl (fun ls hl => ?_)
        refine lv_iload hx hb dX13_type_66 (lv_at hl 0 rfl) ?_
        refine lv_bipush (v := 24) hx hb dX13_type_68 (by decide) ?_
        refine lv_bipush (v := 8) hx hb dX13_type_70 (by decide) ?_
        refine lv_iload hx hb dX13_type_72 (lv_at hl 1 rfl) ?_
        refine lv_iconst (v := 4) hx hb dX13_type_74 (by decide) ?_
        refine lv_irem hx hb dX13_type_75 (by decide) ?_
        refine lv_imul hx hb dX13_type_76 ?_
        refine lv_isub hx hb dX13_type_77 ?_
        refine lv_ishr hx hb dX13_type_78 ?_
        refine lv_sipush (v := 255) hx hb dX13_type_79 (by decide) ?_
        refine lv_iand hx hb dX13_type_82 ?_
        refine lv_topi (fun sv esv => ?_)
        have hsv : sv = byt (wsel p0 p1 p2 p3 p4 i) i := by rw [ws0 hlt c_20]; exact esv
        refine lv_istore (lv' := [(9, .int sv), (8, .int p0), (7, .int (nI i)), (6, .int (nI mm)), (0, .ref h0), (1, .int p0), (2, .int p1), (3, .int p2), (4, .int p3), (5, .int p4)]) hx hb dX13_type_83 hl (by decide) rfl (fun ls hl => ?_)
        refine lv_iload hx hb dX13_type_85 (lv_at hl 0 rfl) ?_
        refine lv_if_eq (tgt := 113) hx hb dX13_type_87 (by decide) (fun c_64 => ?_) (fun c_64 => ?_)
        · refine lv_iload hx hb dX13_type_113 (lv_at hl 3 rfl) ?_
          refine lv_iload hx hb dX13_type_115 (lv_at hl 0 rfl) ?_
          refine lv_if_eq (tgt := 124) hx hb dX13_type_117 (by decide) (fun _ => ?_) (fun c_65 => absurd c_64 c_65)
          refine lv_iconst (v := 0) hx hb dX13_type_124 (by decide) ?_
          refine lv_iadd hx hb dX13_type_125 ?_
          refine lv_topi (fun z_66 ez_66 => ?_)
          obtain rfl : z_66 = nI mm := ez_66.trans (Int32.add_zero _)
          refine lv_istore (lv' := [(6, .int (nI mm)), (9, .int sv), (8, .int p0), (7, .int (nI i)), (0, .ref h0), (1, .int p0), (2, .int p1), (3, .int p2), (4, .int p3), (5, .int p4)]) hx hb dX13_type_126 hl (by decide) rfl (fun ls hl => ?_)
          refine lv_iinc (v := nI (i + 1)) (lv' := [(7, .int (nI (i + 1))), (6, .int (nI mm)), (9, .int sv), (8, .int p0), (0, .ref h0), (1, .int p0), (2, .int p1), (3, .int p2), (4, .int p3), (5, .int p4)]) hx hb dX13_type_128 hl (k := 3) rfl (nI_1 i) (by decide) rfl (fun ls hl => ?_)
          refine lv_goto (tgt := 11) hx hb dX13_type_131 (by decide) ?_
          exact ih (i + 1) mm _ _ _ (by omega) (by show tS (mE p0 p1 p2 p3 p4 i) (byt (wsel p0 p1 p2 p3 p4 i) i) = nI mm; rw [hE, ← hsv]; exact tS_z (by omega) c_64) (by omega) (hP.sub [0, 1] rfl) (hD.sub [0, 1] (by decide) rfl) hS (lv_sub hl [0, 1, 4, 5, 6, 7, 8, 9] rfl)
        · refine lv_iload hx hb dX13_type_90 (lv_at hl 0 rfl) ?_
          refine lv_bipush (v := 10) hx hb dX13_type_92 (by decide) ?_
          refine lv_icmp_eq (tgt := 113) hx hb dX13_type_94 (by decide) (fun c_67 => ?_) (fun c_67 => ?_)
          · refine lv_iload hx hb dX13_type_113 (lv_at hl 3 rfl) ?_
            refine lv_iload hx hb dX13_type_115 (lv_at hl 0 rfl) ?_
            refine lv_if_eq (tgt := 124) hx hb dX13_type_117 (by decide) (fun c_68 => absurd c_68 c_64) (fun _ => ?_)
            refine lv_iconst (v := 1) hx hb dX13_type_120 (by decide) ?_
            refine lv_goto (tgt := 125) hx hb dX13_type_121 (by decide) ?_
            refine lv_iadd hx hb dX13_type_125 ?_
            refine lv_topi (fun z_69 ez_69 => ?_)
            obtain rfl : z_69 = nI (mm + 1) := ez_69.trans (nI_1 mm)
            refine lv_istore (lv' := [(6, .int (nI (mm + 1))), (9, .int sv), (8, .int p0), (7, .int (nI i)), (0, .ref h0), (1, .int p0), (2, .int p1), (3, .int p2), (4, .int p3), (5, .int p4)]) hx hb dX13_type_126 hl (by decide) rfl (fun ls hl => ?_)
            refine lv_iinc (v := nI (i + 1)) (lv' := [(7, .int (nI (i + 1))), (6, .int (nI (mm + 1))), (9, .int sv), (8, .int p0), (0, .ref h0), (1, .int p0), (2, .int p1), (3, .int p2), (4, .int p3), (5, .int p4)]) hx hb dX13_type_128 hl (k := 3) rfl (nI_1 i) (by decide) rfl (fun ls hl => ?_)
            refine lv_goto (tgt := 11) hx hb dX13_type_131 (by decide) ?_
            exact ih (i + 1) (mm + 1) _ _ _ (by omega) (by show tS (mE p0 p1 p2 p3 p4 i) (byt (wsel p0 p1 p2 p3 p4 i) i) = nI (mm + 1); rw [hE, ← hsv]; exact tS_10 (by omega) c_64 c_67) (by omega) (hP.sub [0, 1] rfl) (hD.sub [0, 1] (by decide) rfl) hS (lv_sub hl [0, 1, 4, 5, 6, 7, 8, 9] rfl)
          · refine lv_iload hx hb dX13_type_97 (lv_at hl 0 rfl) ?_
            refine lv_bipush (v := 32) hx hb dX13_type_99 (by decide) ?_
            refine lv_icmp_lt (tgt := 111) hx hb dX13_type_101 (by decide) (fun c_70 => ?_) (fun c_70 => ?_)
            · refine lv_iconst (v := (-1)) hx hb dX13_type_111 (by decide) ?_
              have hP9 := hP.sub (ws' := []) [] rfl
              have hD9 := hD.sub (ws' := []) [] (by decide) rfl
              have hK9 := hK.sub (tys' := []) [] rfl
              refine W.widen (k := 0) (n := 0) (Nat.le_of_ble_eq_true rfl) (Nat.le_of_ble_eq_true rfl) ?_
              exact W.iret (v := (-1)) hx hb hr (fun t ht hW => ⟨⟨(-1), (), rfl, (mE_bad hlt (by rw [← hsv]; exact tS_lo c_64 c_67 c_70)), by rw [ht]; exact hP9, va_K.moved hW.alike hK9, hD9⟩, hS.F ht⟩) hS.2.2 dX13_type_112
            · refine lv_iload hx hb dX13_type_104 (lv_at hl 0 rfl) ?_
              refine lv_bipush (v := 126) hx hb dX13_type_106 (by decide) ?_
              refine lv_icmp_le (tgt := 113) hx hb dX13_type_108 (by decide) (fun c_71 => ?_) (fun c_71 => ?_)
              · refine lv_iload hx hb dX13_type_113 (lv_at hl 3 rfl) ?_
                refine lv_iload hx hb dX13_type_115 (lv_at hl 0 rfl) ?_
                refine lv_if_eq (tgt := 124) hx hb dX13_type_117 (by decide) (fun c_72 => absurd c_72 c_64) (fun _ => ?_)
                refine lv_iconst (v := 1) hx hb dX13_type_120 (by decide) ?_
                refine lv_goto (tgt := 125) hx hb dX13_type_121 (by decide) ?_
                refine lv_iadd hx hb dX13_type_125 ?_
                refine lv_topi (fun z_73 ez_73 => ?_)
                obtain rfl : z_73 = nI (mm + 1) := ez_73.trans (nI_1 mm)
                refine lv_istore (lv' := [(6, .int (nI (mm + 1))), (9, .int sv), (8, .int p0), (7, .int (nI i)), (0, .ref h0), (1, .int p0), (2, .int p1), (3, .int p2), (4, .int p3), (5, .int p4)]) hx hb dX13_type_126 hl (by decide) rfl (fun ls hl => ?_)
                refine lv_iinc (v := nI (i + 1)) (lv' := [(7, .int (nI (i + 1))), (6, .int (nI (mm + 1))), (9, .int sv), (8, .int p0), (0, .ref h0), (1, .int p0), (2, .int p1), (3, .int p2), (4, .int p3), (5, .int p4)]) hx hb dX13_type_128 hl (k := 3) rfl (nI_1 i) (by decide) rfl (fun ls hl => ?_)
                refine lv_goto (tgt := 11) hx hb dX13_type_131 (by decide) ?_
                exact ih (i + 1) (mm + 1) _ _ _ (by omega) (by show tS (mE p0 p1 p2 p3 p4 i) (byt (wsel p0 p1 p2 p3 p4 i) i) = nI (mm + 1); rw [hE, ← hsv]; exact tS_g (by omega) c_64 c_67 c_70 (Int32.not_lt.mpr c_71)) (by omega) (hP.sub [0, 1] rfl) (hD.sub [0, 1] (by decide) rfl) hS (lv_sub hl [0, 1, 4, 5, 6, 7, 8, 9] rfl)
              · refine lv_iconst (v := (-1)) hx hb dX13_type_111 (by decide) ?_
                have hP9 := hP.sub (ws' := []) [] rfl
                have hD9 := hD.sub (ws' := []) [] (by decide) rfl
                have hK9 := hK.sub (tys' := []) [] rfl
                refine W.widen (k := 0) (n := 0) (Nat.le_of_ble_eq_true rfl) (Nat.le_of_ble_eq_true rfl) ?_
                exact W.iret (v := (-1)) hx hb hr (fun t ht hW => ⟨⟨(-1), (), rfl, (mE_bad hlt (by rw [← hsv]; exact tS_hi c_64 c_67 (Int32.not_le.mp c_71))), by rw [ht]; exact hP9, va_K.moved hW.alike hK9, hD9⟩, hS.F ht⟩) hS.2.2 dX13_type_112
  exact hloop11 20 0 0 _ _ _ rfl (rfl) (Nat.le_refl _) (hP.sub [0, 1] rfl) (hD.sub [0, 1] (by decide) rfl) hS (lv_sub hl [0, 1, 2, 3, 4, 5, 6, 7] rfl)
