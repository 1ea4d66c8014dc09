theorem mmax_i {a b z : Int32} (e : z = if a < b then b else a) : (a.toInt < b.toInt ∧ z.toInt = b.toInt) ∨ (b.toInt ≤ a.toInt ∧ z.toInt = a.toInt) := by
  by_cases h : a < b
  · rw [if_pos h] at e; exact Or.inl ⟨Int32.lt_iff_toInt_lt.mp h, by rw [e]⟩
  · rw [if_neg h] at e; exact Or.inr ⟨Int.not_lt.mp (fun q => h (Int32.lt_iff_toInt_lt.mpr q)), by rw [e]⟩

theorem dJ8_newLength_cabcc_0 : decode cJ8_newLength_cabcc 0 = .ok (.iload_n 0, 1) := by decide +kernel
theorem dJ8_newLength_cabcc_1 : decode cJ8_newLength_cabcc 1 = .ok (.iload_n 1, 1) := by decide +kernel
theorem dJ8_newLength_cabcc_2 : decode cJ8_newLength_cabcc 2 = .ok (.iload_n 2, 1) := by decide +kernel
theorem dJ8_newLength_cabcc_3 : decode cJ8_newLength_cabcc 3 = .ok (.invokestatic 194, 3) := by decide +kernel
theorem dJ8_newLength_cabcc_6 : decode cJ8_newLength_cabcc 6 = .ok (.iadd, 1) := by decide +kernel
theorem dJ8_newLength_cabcc_7 : decode cJ8_newLength_cabcc 7 = .ok (.istore_n 3, 1) := by decide +kernel
theorem dJ8_newLength_cabcc_8 : decode cJ8_newLength_cabcc 8 = .ok (.iconst 0, 1) := by decide +kernel
theorem dJ8_newLength_cabcc_9 : decode cJ8_newLength_cabcc 9 = .ok (.iload_n 3, 1) := by decide +kernel
theorem dJ8_newLength_cabcc_10 : decode cJ8_newLength_cabcc 10 = .ok (.if_icmp .ge 11, 3) := by decide +kernel
theorem dJ8_newLength_cabcc_13 : decode cJ8_newLength_cabcc 13 = .ok (.iload_n 3, 1) := by decide +kernel
theorem dJ8_newLength_cabcc_14 : decode cJ8_newLength_cabcc 14 = .ok (.ldc 200, 2) := by decide +kernel
theorem dJ8_newLength_cabcc_16 : decode cJ8_newLength_cabcc 16 = .ok (.if_icmp .gt 5, 3) := by decide +kernel
theorem dJ8_newLength_cabcc_19 : decode cJ8_newLength_cabcc 19 = .ok (.iload_n 3, 1) := by decide +kernel
theorem dJ8_newLength_cabcc_20 : decode cJ8_newLength_cabcc 20 = .ok (.ireturn, 1) := by decide +kernel
theorem dJ8_newLength_cabcc_21 : decode cJ8_newLength_cabcc 21 = .ok (.iload_n 0, 1) := by decide +kernel
theorem dJ8_newLength_cabcc_22 : decode cJ8_newLength_cabcc 22 = .ok (.iload_n 1, 1) := by decide +kernel
theorem dJ8_newLength_cabcc_23 : decode cJ8_newLength_cabcc 23 = .ok (.invokestatic 201, 3) := by decide +kernel
theorem dJ8_newLength_cabcc_26 : decode cJ8_newLength_cabcc 26 = .ok (.ireturn, 1) := by decide +kernel

set_option maxHeartbeats 4000000 in
set_option maxRecDepth 100000 in
theorem d_newLength (l : Launch) (dC : Nat → ClassId) (dI : Nat → Nat → Nat) (ad : Nat → Nat → Nat) (cid : Nat → ClassId) (a2 : Nat → Nat) (lx : List Nat) (sg : Nat → Int32) (gm : Nat → Nat → Int32) (lg : Nat → Nat → Int64) (ol : Int32) (mn : Int32) (pf : Int32) (hI : CI sg gm) (hvol : iv 0 109 ol) (hvmn : iv 1 110 mn) (hvpf : iv 0 54 pf) : CMt dC dI ad cid a2 lx l yJ8_newLength_cabcc wm_J8_newLength_cabcc ({ frames := 1, cells := 1, slots := 6, locals := 40 }) [.int ol, .int mn, .int pf] sg gm lg (fun v u => ∃ r : Int32, v = some (.int r) ∧ u = (sg, gm, lg) ∧ (iv 1 219 r) ∧ (r.toInt = ol.toInt + mn.toInt ∧ pf.toInt ≤ mn.toInt ∨ r.toInt = ol.toInt + pf.toInt ∧ mn.toInt ≤ pf.toInt)) (fun _ _ => False) := by
  intro sz
  refine vx_ofW (cc := cJ8_newLength_cabcc) (maxL := 4) (ret := (some .int)) (by decide) rfl ?_
  intro p e s m args below meth c s₁ B hml hxt hv
  obtain ⟨rfl, hsz, hP, hK, hD0, hG⟩ := hv
  have hx := B.exec
  have hb := B.bytes
  have hr := B.returns
  have hts := atoms_spec (ws := wm_J8_newLength_cabcc) B.pre
  have htb := fun (w : Cond) (h : w ∈ tb) => hts w (List.mem_cons_of_mem _ h)
  have hown : s.vm.findClass RJ8 = some m.cls := findClass_of_methodNamed B.named
  have hlocks := B.notSynchronized
  subst hsz
  have hD := hD0.self (sz := s.heap.size)
  generalize hAe : va_A (cW ad cid a2 lx sg gm lg) s.heap.size = A at hD hG ⊢
  have hA : ∀ q : Nat, s.heap.size ≤ q → A q := fun q h => by rw [← hAe]; exact Or.inr h
  have hS : va_S A s.heap s.heap [] := va_S.rf
  have hl := lv_entry ([.int ol, .int mn, .int pf]) (n := 4) (Nat.le_of_ble_eq_true rfl)
  rw [lg_entry_eq]
  generalize (lg_sl ([.int ol, .int mn, .int pf]) ++ List.replicate (4 - (lg_sl ([.int ol, .int mn, .int pf])).length) Slot.unset).toArray = ls at hl ⊢
  have hl : lv_has ls 4 [(0, .int ol), (1, .int mn), (2, .int pf)] := hl
  refine lv_iload_n hx hb dJ8_newLength_cabcc_0 rfl (lv_at hl 0 rfl) ?_
  refine lv_iload_n hx hb dJ8_newLength_cabcc_1 rfl (lv_at hl 1 rfl) ?_
  refine lv_iload_n hx hb dJ8_newLength_cabcc_2 rfl (lv_at hl 2 rfl) ?_
  refine va_mmax hx hb (hml.trans hl.1.symm) hown (htb _ kw_765) (htb _ kw_759) (htb _ kw_760) (htb _ kw_1504) (Nat.le_of_ble_eq_true rfl) (Nat.le_trans (Nat.add_le_add_right (show _ ≤ 8 from (Nat.le_trans (cs_c (cat_i _) cs_n) (by decide))) _) (Nat.le_of_ble_eq_true rfl)) (Nat.zero_le _) (Nat.zero_le _) dJ8_newLength_cabcc_3 ?_
  refine lv_topi (fun z_1 ez_1 => ?_)
  have xz_1 := mmax_i ez_1
  have hz_1 : iv 1 110 z_1 := by { have q1 := (hvmn).1; have q2 := (hvmn).2; have q3 := (hvpf).1; have q4 := (hvpf).2; exact ⟨by omega, by omega⟩ }
  refine lv_iadd hx hb dJ8_newLength_cabcc_6 ?_
  refine lv_topi (fun z_2 ez_2 => ?_)
  have hz_2 : iv 1 219 z_2 := iv_of ez_2 (iv_add hvol hz_1 (by decide))
  have tz_2 : z_2.toInt = (ol : Int32).toInt + (z_1 : Int32).toInt := by rw [ez_2]; exact iv_addE hvol hz_1 (by decide)
  refine lv_istore_n (i := 3) (lv' := [(3, .int z_2), (0, .int ol), (1, .int mn), (2, .int pf)]) hx hb dJ8_newLength_cabcc_7 rfl hl (by decide) rfl (fun ls hl => ?_)
  refine lv_iconst (v := 0) hx hb dJ8_newLength_cabcc_8 (by decide) ?_
  refine lv_iload_n hx hb dJ8_newLength_cabcc_9 rfl (lv_at hl 0 rfl) ?_
  refine lv_icmp_ge (tgt := 21) hx hb dJ8_newLength_cabcc_10 (by decide) (fun c_3 => ?_) (fun c_3 => ?_)
  · have h_4 : iv 1 0 z_2 := iv_leL c_3 hz_2 (iv_k (by decide) : iv 0 0 0) (by decide)
    exact (iv_no h_4 (by decide)).elim
  · refine lv_iload_n hx hb dJ8_newLength_cabcc_13 rfl (lv_at hl 0 rfl) ?_
    refine lv_ldc (v := 2147483639) hx hb hown (htb _ kw_766) dJ8_newLength_cabcc_14 ?_
    refine lv_icmp_gt (tgt := 21) hx hb dJ8_newLength_cabcc_16 (by decide) (fun c_5 => ?_) (fun c_5 => ?_)
    · have h_6 : iv 2147483640 219 z_2 := iv_ltR c_5 (iv_k (by decide) : iv 2147483639 2147483639 2147483639) hz_2 (by decide)
      exact (iv_no h_6 (by decide)).elim
    · refine lv_iload_n hx hb dJ8_newLength_cabcc_19 rfl (lv_at hl 0 rfl) ?_
      exact W.nb (fun hN => W.widen (k := 1) (n := 6) (by decide) (by decide) (vx_ret (W.iret (v := z_2) hx hb hr (fun t ht hW => ⟨⟨some (.int z_2), (sg, gm, lg), rfl, ⟨z_2, rfl, rfl, hz_2, (by have := i32_0; have := i32_1; have := i32_2; have := i32_m1; have := (hvol).1; have := (hvol).2; have := (hvmn).1; have := (hvmn).2; have := (hvpf).1; have := (hvpf).2; have := (hz_1).1; have := (hz_1).2; have := (hz_2).1; have := (hz_2).2; omega)⟩, by rw [ht]; exact hP, va_K.moved hW.alike hK, hD⟩, hS.F ht, by rw [ht]; exact hN⟩) hS.2.2 dJ8_newLength_cabcc_20)))
