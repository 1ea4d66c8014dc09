theorem dX6_init_0 : decode cX6_init 0 = .ok (.aload_n 0, 1) := by decide +kernel
theorem dX6_init_1 : decode cX6_init 1 = .ok (.invokespecial 3, 3) := by decide +kernel
theorem dX6_init_4 : decode cX6_init 4 = .ok (.aload_n 0, 1) := by decide +kernel
theorem dX6_init_5 : decode cX6_init 5 = .ok (.bipush 80, 2) := by decide +kernel
theorem dX6_init_7 : decode cX6_init 7 = .ok (.anewarray 11, 3) := by decide +kernel
theorem dX6_init_10 : decode cX6_init 10 = .ok (.putfield 13, 3) := by decide +kernel
theorem dX6_init_13 : decode cX6_init 13 = .ok (.iconst 0, 1) := by decide +kernel
theorem dX6_init_14 : decode cX6_init 14 = .ok (.istore_n 2, 1) := by decide +kernel
theorem dX6_init_15 : decode cX6_init 15 = .ok (.iload_n 2, 1) := by decide +kernel
theorem dX6_init_16 : decode cX6_init 16 = .ok (.bipush 80, 2) := by decide +kernel
theorem dX6_init_18 : decode cX6_init 18 = .ok (.if_icmp .ge 22, 3) := by decide +kernel
theorem dX6_init_21 : decode cX6_init 21 = .ok (.aload_n 0, 1) := by decide +kernel
theorem dX6_init_22 : decode cX6_init 22 = .ok (.getfield 13, 3) := by decide +kernel
theorem dX6_init_25 : decode cX6_init 25 = .ok (.iload_n 2, 1) := by decide +kernel
theorem dX6_init_26 : decode cX6_init 26 = .ok (.new 11, 3) := by decide +kernel
theorem dX6_init_29 : decode cX6_init 29 = .ok (.dup, 1) := by decide +kernel
theorem dX6_init_30 : decode cX6_init 30 = .ok (.invokespecial 17, 3) := by decide +kernel
theorem dX6_init_33 : decode cX6_init 33 = .ok (.aastore, 1) := by decide +kernel
theorem dX6_init_34 : decode cX6_init 34 = .ok (.iinc 2 1, 3) := by decide +kernel
theorem dX6_init_37 : decode cX6_init 37 = .ok (.goto (-22), 3) := by decide +kernel
theorem dX6_init_40 : decode cX6_init 40 = .ok (.aload_n 0, 1) := by decide +kernel
theorem dX6_init_41 : decode cX6_init 41 = .ok (.iload_n 1, 1) := by decide +kernel
theorem dX6_init_42 : decode cX6_init 42 = .ok (.iconst 5, 1) := by decide +kernel
theorem dX6_init_43 : decode cX6_init 43 = .ok (.idiv, 1) := by decide +kernel
theorem dX6_init_44 : decode cX6_init 44 = .ok (.newarray .long, 2) := by decide +kernel
theorem dX6_init_46 : decode cX6_init 46 = .ok (.putfield 18, 3) := by decide +kernel
theorem dX6_init_49 : decode cX6_init 49 = .ok (.aload_n 0, 1) := by decide +kernel
theorem dX6_init_50 : decode cX6_init 50 = .ok (.iload_n 1, 1) := by decide +kernel
theorem dX6_init_51 : decode cX6_init 51 = .ok (.iconst 5, 1) := by decide +kernel
theorem dX6_init_52 : decode cX6_init 52 = .ok (.idiv, 1) := by decide +kernel
theorem dX6_init_53 : decode cX6_init 53 = .ok (.newarray .int, 2) := by decide +kernel
theorem dX6_init_55 : decode cX6_init 55 = .ok (.putfield 22, 3) := by decide +kernel
theorem dX6_init_58 : decode cX6_init 58 = .ok (.aload_n 0, 1) := by decide +kernel
theorem dX6_init_59 : decode cX6_init 59 = .ok (.iload_n 1, 1) := by decide +kernel
theorem dX6_init_60 : decode cX6_init 60 = .ok (.iconst 5, 1) := by decide +kernel
theorem dX6_init_61 : decode cX6_init 61 = .ok (.idiv, 1) := by decide +kernel
theorem dX6_init_62 : decode cX6_init 62 = .ok (.newarray .int, 2) := by decide +kernel
theorem dX6_init_64 : decode cX6_init 64 = .ok (.putfield 26, 3) := by decide +kernel
theorem dX6_init_67 : decode cX6_init 67 = .ok (.aload_n 0, 1) := by decide +kernel
theorem dX6_init_68 : decode cX6_init 68 = .ok (.iload_n 1, 1) := by decide +kernel
theorem dX6_init_69 : decode cX6_init 69 = .ok (.newarray .char, 2) := by decide +kernel
theorem dX6_init_71 : decode cX6_init 71 = .ok (.putfield 29, 3) := by decide +kernel
theorem dX6_init_74 : decode cX6_init 74 = .ok (.return_, 1) := by decide +kernel

set_option maxHeartbeats 4000000 in
set_option maxRecDepth 100000 in
theorem n_X6 (l : Launch) (dC : Nat → ClassId) (dI : Nat → Nat → Nat) (ad : Nat → Nat → Nat) (cid : Nat → ClassId) (h0 : Nat) : NM dC dI ad cid l yX6_init wm_X6_init ({ frames := 2, cells := 165, slots := 5600, locals := 40 }) [.ref h0, .int 1200] [(h0, .inr (6, [.null, .null, .null, .null, .null, .int 0, .int 0, .int 0]))] (fun w => ∃ u : PU, u.1.1 = h0 ∧ w = paW cid u ∧ paP u) 165 5600 := by
  intro sz
  refine Met.ofW (cc := cX6_init) (maxL := 3) (ret := none) (by decide) rfl ?_
  intro p e s m args below meth c s₁ B hml hv
  obtain ⟨rfl, hsz, hP, hK, hD0, hG⟩ := hv
  have hx := B.exec
  have hb := B.bytes
  have hr := B.returns
  have hts := atoms_spec (ws := wm_X6_init) B.pre
  have htb := fun (w : Cond) (h : w ∈ tb) => hts w (List.mem_cons_of_mem _ h)
  have hown : s.vm.findClass RX6 = some m.cls := findClass_of_methodNamed B.named
  have hlocks := B.notSynchronized
  have hin : meth.name = "<init>" := (name_of_methodNamed B.named B.method).1
  subst hsz
  have hD := hD0.self (sz := s.heap.size)
  generalize hAe : va_A [(h0, .inr (6, [.null, .null, .null, .null, .null, .int 0, .int 0, .int 0]))] s.heap.size = A at hD hG ⊢
  have hA : ∀ q : Nat, s.heap.size ≤ q → A q := fun q h => by rw [← hAe]; exact Or.inr h
  have hS : va_S A s.heap s.heap [] := va_S.rf
  have hl := lv_entry ([.ref h0, .int 1200]) (n := 3) (Nat.le_of_ble_eq_true rfl)
  rw [lg_entry_eq]
  generalize (lg_sl ([.ref h0, .int 1200]) ++ List.replicate (3 - (lg_sl ([.ref h0, .int 1200])).length) Slot.unset).toArray = ls at hl ⊢
  have hl : lv_has ls 3 [(0, .ref h0), (1, .int 1200)] := hl
  have hP : va_P (dC, dI) vwCl ((h0, .inr (6, [.null, .null, .null, .null, .null, .int 0, .int 0, .int 0])) :: []) s.heap := hP
  have hD : va_D A ((h0, .inr (6, [.null, .null, .null, .null, .null, .int 0, .int 0, .int 0])) :: []) := hD
  refine n_gen (fun Q eQ => ?_)
  refine lv_aload_n hx hb dX6_init_0 rfl (lv_at hl 0 rfl) ?_
  refine W.objInit hx hb hown (htb _ kw_62) (htb _ kw_11) (htb _ kw_1369) rfl (by rw [hml]; exact hl.1) rfl dX6_init_1 (Nat.le_of_ble_eq_true rfl) (Nat.le_of_ble_eq_true rfl) ?_
  refine W.eq (g2 := F0 m 4 ls []) rfl ?_
  refine lv_aload_n hx hb dX6_init_4 rfl (lv_at hl 0 rfl) ?_
  refine lv_bipush (v := 80) hx hb dX6_init_5 (by decide) ?_
  refine va_newq (D := (dC, dI)) (N' := 80) (C := RX3) hx hb hown (htb _ kw_63) hG.1.1.2.2.1 hK hP hD hS hA (by decide) (by decide) (by decide) (Nat.le_of_ble_eq_true rfl) (Nat.le_of_ble_eq_true rfl) dX6_init_7 (fun q_1 cA_2 H hK2 hP hD hS => ?_)
  obtain rfl : cA_2 = cid 14 := ty_eq (by decide) hK hK2 rfl
  have hP : va_P (dC, dI) vwCl ((q_1, .inl (cid 14, 80, .inr (.inr (.inr (.inr (fun _ => none)))))) :: (h0, .inr (6, [.null, .null, .null, .null, .null, .int 0, .int 0, .int 0])) :: []) H := fr_P hP
  have hD : va_D A ((q_1, .inl (cid 14, 80, .inr (.inr (.inr (.inr (fun _ => none)))))) :: (h0, .inr (6, [.null, .null, .null, .null, .null, .int 0, .int 0, .int 0])) :: []) := fr_D hD
  refine W.widen (k := 1) (n := 80) (Nat.le_of_ble_eq_true rfl) (Nat.le_of_ble_eq_true rfl) ?_
  refine va_putF (D := (dC, dI)) (ci := 6) (v := .ref q_1) (ty := tyX6 0) (C := RX6) (T := TX6) (N := 8) hx hb htb inX6 tyX6 tyX6_ok nmX6 hown hK hP hD hS 1 rfl rfl 0 (by decide) (htb _ kw_64) (fun _ h9 => h9) rfl hin rfl (tyX6_ok 0 (by decide)) rfl rfl (Nat.le_of_ble_eq_true rfl) dX6_init_10 (fun H locs hP hD hS => ?_)
  have hP : va_P (dC, dI) vwCl ((q_1, .inl (cid 14, 80, .inr (.inr (.inr (.inr (fun _ => none)))))) :: (h0, .inr (6, [.ref q_1, .null, .null, .null, .null, .int 0, .int 0, .int 0])) :: []) H := hP
  have hD : va_D A ((q_1, .inl (cid 14, 80, .inr (.inr (.inr (.inr (fun _ => none)))))) :: (h0, .inr (6, [.ref q_1, .null, .null, .null, .null, .int 0, .int 0, .int 0])) :: []) := hD
  refine lv_iconst (v := 0) hx hb dX6_init_13 (by decide) ?_
  refine lv_istore_n (lv' := [(2, .int 0), (0, .ref h0), (1, .int 1200)]) hx hb dX6_init_14 rfl hl (by decide) rfl (fun ls hl => ?_)
  have hloop : ∀ (n i : Nat) (adr : Nat → Nat × Nat) (f4 : Nat → Option Nat) (H : Heap) (locs : List Loc) (ls : Array Slot), i + n = 80 → (∀ j, j < i → f4 j = some (adr j).1) → va_P (dC, dI) vwCl ((q_1, .inl (cid 14, 80, .inr (.inr (.inr (.inr f4))))) :: (h0, .inr (6, [.ref q_1, .null, .null, .null, .null, .int 0, .int 0, .int 0])) :: tl (elF cid) adr i) H → va_D A ((q_1, .inl (cid 14, 80, .inr (.inr (.inr (.inr f4))))) :: (h0, .inr (6, [.ref q_1, .null, .null, .null, .null, .int 0, .int 0, .int 0])) :: tl (elF cid) adr i) → va_S A s.heap H locs → lv_has ls 3 [(2, .int (nI i)), (0, .ref h0), (1, .int 1200)] → W p l e (headSpec wm_X6_init ({ frames := 2, cells := 165, slots := 5600, locals := 40 })).room s m ([.ref h0, .int 1200] : List Value).toArray below meth c H locs (i * 2 + 1) (i * 45 + 80) Q (F0 m 15 ls []) := by
    intro n
    induction n with
    | zero =>
      intro i adr f4 H locs ls hi9 hf4 hP hD hS hl
      obtain rfl : i = 80 := by omega
      have hl : lv_has ls 3 [(2, .int 80), (0, .ref h0), (1, .int 1200)] := hl
      refine W.widen (k := 161) (n := 3680) (Nat.le_of_ble_eq_true rfl) (Nat.le_of_ble_eq_true rfl) ?_
      refine lv_iload_n hx hb dX6_init_15 rfl (lv_at hl 0 rfl) ?_
      refine lv_bipush (v := 80) hx hb dX6_init_16 (by decide) ?_
      refine lv_icmp_ge (tgt := 40) hx hb dX6_init_18 (by decide) (fun _ => ?_) (fun c9 => absurd (by decide) c9)
      refine lv_aload_n hx hb dX6_init_40 rfl (lv_at hl 1 rfl) ?_
      refine lv_iload_n hx hb dX6_init_41 rfl (lv_at hl 2 rfl) ?_
      refine lv_iconst (v := 5) hx hb dX6_init_42 (by decide) ?_
      refine lv_idiv hx hb dX6_init_43 (by decide) ?_
      refine lv_topi (fun z_3 ez_3 => ?_)
      obtain rfl : z_3 = 240 := ez_3.trans (by decide)
      refine va_newa (D := (dC, dI)) (atype := .long) (ty := .long) (N' := 240) (a0 := (240, .inr (.inl (fun _ => 0)))) hx hb (htb _ kw_6) rfl hK hP hD hS hA (fun _ => rfl) (by decide) (by decide) (by decide) (Nat.le_of_ble_eq_true rfl) (Nat.le_of_ble_eq_true rfl) dX6_init_44 (fun q_4 cA_5 H hK2 hP hD hS => ?_)
      obtain rfl : cA_5 = cid 15 := ty_eq (by decide) hK hK2 rfl
      have hP : va_P (dC, dI) vwCl ((q_4, .inl (cid 15, 240, .inr (.inl (fun _ => 0)))) :: (q_1, .inl (cid 14, 80, .inr (.inr (.inr (.inr f4))))) :: (h0, .inr (6, [.ref q_1, .null, .null, .null, .null, .int 0, .int 0, .int 0])) :: tl (elF cid) adr 80) H := fr_P hP
      have hD : va_D A ((q_4, .inl (cid 15, 240, .inr (.inl (fun _ => 0)))) :: (q_1, .inl (cid 14, 80, .inr (.inr (.inr (.inr f4))))) :: (h0, .inr (6, [.ref q_1, .null, .null, .null, .null, .int 0, .int 0, .int 0])) :: tl (elF cid) adr 80) := fr_D hD
      refine W.widen (k := 162) (n := 3920) (Nat.le_of_ble_eq_true rfl) (Nat.le_of_ble_eq_true rfl) ?_
      refine va_putF (D := (dC, dI)) (ci := 6) (v := .ref q_4) (ty := tyX6 1) (C := RX6) (T := TX6) (N := 8) hx hb htb inX6 tyX6 tyX6_ok nmX6 hown hK hP hD hS 2 rfl rfl 1 (by decide) (htb _ kw_67) (fun _ h9 => h9) rfl hin rfl (tyX6_ok 1 (by decide)) rfl rfl (Nat.le_of_ble_eq_true rfl) dX6_init_46 (fun H locs hP hD hS => ?_)
      have hP : va_P (dC, dI) vwCl ((q_4, .inl (cid 15, 240, .inr (.inl (fun _ => 0)))) :: (q_1, .inl (cid 14, 80, .inr (.inr (.inr (.inr f4))))) :: (h0, .inr (6, [.ref q_1, .ref q_4, .null, .null, .null, .int 0, .int 0, .int 0])) :: tl (elF cid) adr 80) H := hP
      have hD : va_D A ((q_4, .inl (cid 15, 240, .inr (.inl (fun _ => 0)))) :: (q_1, .inl (cid 14, 80, .inr (.inr (.inr (.inr f4))))) :: (h0, .inr (6, [.ref q_1, .ref q_4, .null, .null, .null, .int 0, .int 0, .int 0])) :: tl (elF cid) adr 80) := hD
      refine lv_aload_n hx hb dX6_init_49 rfl (lv_at hl 1 rfl) ?_
      refine lv_iload_n hx hb dX6_init_50 rfl (lv_at hl 2 rfl) ?_
      refine lv_iconst (v := 5) hx hb dX6_init_51 (by decide) ?_
      refine lv_idiv hx hb dX6_init_52 (by decide) ?_
      refine lv_topi (fun z_6 ez_6 => ?_)
      obtain rfl : z_6 = 240 := ez_6.trans (by decide)
      refine va_newa (D := (dC, dI)) (atype := .int) (ty := .int) (N' := 240) (a0 := (240, .inl (fun _ => 0))) hx hb (htb _ kw_52) rfl hK hP hD hS hA (fun _ => rfl) (by decide) (by decide) (by decide) (Nat.le_of_ble_eq_true rfl) (Nat.le_of_ble_eq_true rfl) dX6_init_53 (fun q_7 cA_8 H hK2 hP hD hS => ?_)
      obtain rfl : cA_8 = cid 16 := ty_eq (by decide) hK hK2 rfl
      have hP : va_P (dC, dI) vwCl ((q_7, .inl (cid 16, 240, .inl (fun _ => 0))) :: (q_4, .inl (cid 15, 240, .inr (.inl (fun _ => 0)))) :: (q_1, .inl (cid 14, 80, .inr (.inr (.inr (.inr f4))))) :: (h0, .inr (6, [.ref q_1, .ref q_4, .null, .null, .null, .int 0, .int 0, .int 0])) :: tl (elF cid) adr 80) H := fr_P hP
      have hD : va_D A ((q_7, .inl (cid 16, 240, .inl (fun _ => 0))) :: (q_4, .inl (cid 15, 240, .inr (.inl (fun _ => 0)))) :: (q_1, .inl (cid 14, 80, .inr (.inr (.inr (.inr f4))))) :: (h0, .inr (6, [.ref q_1, .ref q_4, .null, .null, .null, .int 0, .int 0, .int 0])) :: tl (elF cid) adr 80) := fr_D hD
      refine W.widen (k := 163) (n := 4160) (Nat.le_of_ble_eq_true rfl) (Nat.le_of_ble_eq_true rfl) ?_
      refine va_putF (D := (dC, dI)) (ci := 6) (v := .ref q_7) (ty := tyX6 2) (C := RX6) (T := TX6) (N := 8) hx hb htb inX6 tyX6 tyX6_ok nmX6 hown hK hP hD hS 3 rfl rfl 2 (by decide) (htb _ kw_68) (fun _ h9 => h9) rfl hin rfl (tyX6_ok 2 (by decide)) rfl rfl (Nat.le_of_ble_eq_true rfl) dX6_init_55 (fun H locs hP hD hS => ?_)
      have hP : va_P (dC, dI) vwCl ((q_7, .inl (cid 16, 240, .inl (fun _ => 0))) :: (q_4, .inl (cid 15, 240, .inr (.inl (fun _ => 0)))) :: (q_1, .inl (cid 14, 80, .inr (.inr (.inr (.inr f4))))) :: (h0, .inr (6, [.ref q_1, .ref q_4, .ref q_7, .null, .null, .int 0, .int 0, .int 0])) :: tl (elF cid) adr 80) H := hP
      have hD : va_D A ((q_7, .inl (cid 16, 240, .inl (fun _ => 0))) :: (q_4, .inl (cid 15, 240, .inr (.inl (fun _ => 0)))) :: (q_1, .inl (cid 14, 80, .inr (.inr (.inr (.inr f4))))) :: (h0, .inr (6, [.ref q_1, .ref q_4, .ref q_7, .null, .null, .int 0, .int 0, .int 0])) :: tl (elF cid) adr 80) := hD
      refine lv_aload_n hx hb dX6_init_58 rfl (lv_at hl 1 rfl) ?_
      refine lv_iload_n hx hb dX6_init_59 rfl (lv_at hl 2 rfl) ?_
      refine lv_iconst (v := 5) hx hb dX6_init_60 (by decide) ?_
      refine lv_idiv hx hb dX6_init_61 (by decide) ?_
      refine lv_topi (fun z_9 ez_9 => ?_)
      obtain rfl : z_9 = 240 := ez_9.trans (by decide)
      refine va_newa (D := (dC, dI)) (atype := .int) (ty := .int) (N' := 240) (a0 := (240, .inl (fun _ => 0))) hx hb (htb _ kw_52) rfl hK hP hD hS hA (fun _ => rfl) (by decide) (by decide) (by decide) (Nat.le_of_ble_eq_true rfl) (Nat.le_of_ble_eq_true rfl) dX6_init_62 (fun q_10 cA_11 H hK2 hP hD hS => ?_)
      obtain rfl : cA_11 = cid 17 := ty_eq (by decide) hK hK2 rfl
      have hP : va_P (dC, dI) vwCl ((q_10, .inl (cid 17, 240, .inl (fun _ => 0))) :: (q_7, .inl (cid 16, 240, .inl (fun _ => 0))) :: (q_4, .inl (cid 15, 240, .inr (.inl (fun _ => 0)))) :: (q_1, .inl (cid 14, 80, .inr (.inr (.inr (.inr f4))))) :: (h0, .inr (6, [.ref q_1, .ref q_4, .ref q_7, .null, .null, .int 0, .int 0, .int 0])) :: tl (elF cid) adr 80) H := fr_P hP
      have hD : va_D A ((q_10, .inl (cid 17, 240, .inl (fun _ => 0))) :: (q_7, .inl (cid 16, 240, .inl (fun _ => 0))) :: (q_4, .inl (cid 15, 240, .inr (.inl (fun _ => 0)))) :: (q_1, .inl (cid 14, 80, .inr (.inr (.inr (.inr f4))))) :: (h0, .inr (6, [.ref q_1, .ref q_4, .ref q_7, .null, .null, .int 0, .int 0, .int 0])) :: tl (elF cid) adr 80) := fr_D hD
      refine W.widen (k := 164) (n := 4400) (Nat.le_of_ble_eq_true rfl) (Nat.le_of_ble_eq_true rfl) ?_
      refine va_putF (D := (dC, dI)) (ci := 6) (v := .ref q_10) (ty := tyX6 3) (C := RX6) (T := TX6) (N := 8) hx hb htb inX6 tyX6 tyX6_ok nmX6 hown hK hP hD hS 4 rfl rfl 3 (by decide) (htb _ kw_69) (fun _ h9 => h9) rfl hin rfl (tyX6_ok 3 (by decide)) rfl rfl (Nat.le_of_ble_eq_true rfl) dX6_init_64 (fun H locs hP hD hS => ?_)
      have hP : va_P (dC, dI) vwCl ((q_10, .inl (cid 17, 240, .inl (fun _ => 0))) :: (q_7, .inl (cid 16, 240, .inl (fun _ => 0))) :: (q_4, .inl (cid 15, 240, .inr (.inl (fun _ => 0)))) :: (q_1, .inl (cid 14, 80, .inr (.inr (.inr (.inr f4))))) :: (h0, .inr (6, [.ref q_1, .ref q_4, .ref q_7, .ref q_10, .null, .int 0, .int 0, .int 0])) :: tl (elF cid) adr 80) H := hP
      have hD : va_D A ((q_10, .inl (cid 17, 240, .inl (fun _ => 0))) :: (q_7, .inl (cid 16, 240, .inl (fun _ => 0))) :: (q_4, .inl (cid 15, 240, .inr (.inl (fun _ => 0)))) :: (q_1, .inl (cid 14, 80, .inr (.inr (.inr (.inr f4))))) :: (h0, .inr (6, [.ref q_1, .ref q_4, .ref q_7, .ref q_10, .null, .int 0, .int 0, .int 0])) :: tl (elF cid) adr 80) := hD
      refine lv_aload_n hx hb dX6_init_67 rfl (lv_at hl 1 rfl) ?_
      refine lv_iload_n hx hb dX6_init_68 rfl (lv_at hl 2 rfl) ?_
      refine va_newa (D := (dC, dI)) (atype := .char) (ty := .char) (N' := 1200) (a0 := (1200, .inl (fun _ => 0))) hx hb (htb _ kw_16) rfl hK hP hD hS hA (fun _ => rfl) (by decide) (by decide) (by decide) (Nat.le_of_ble_eq_true rfl) (Nat.le_of_ble_eq_true rfl) dX6_init_69 (fun q_12 cA_13 H hK2 hP hD hS => ?_)
      obtain rfl : cA_13 = cid 18 := ty_eq (by decide) hK hK2 rfl
      have hP : va_P (dC, dI) vwCl ((q_12, .inl (cid 18, 1200, .inl (fun _ => 0))) :: (q_10, .inl (cid 17, 240, .inl (fun _ => 0))) :: (q_7, .inl (cid 16, 240, .inl (fun _ => 0))) :: (q_4, .inl (cid 15, 240, .inr (.inl (fun _ => 0)))) :: (q_1, .inl (cid 14, 80, .inr (.inr (.inr (.inr f4))))) :: (h0, .inr (6, [.ref q_1, .ref q_4, .ref q_7, .ref q_10, .null, .int 0, .int 0, .int 0])) :: tl (elF cid) adr 80) H := fr_P hP
      have hD : va_D A ((q_12, .inl (cid 18, 1200, .inl (fun _ => 0))) :: (q_10, .inl (cid 17, 240, .inl (fun _ => 0))) :: (q_7, .inl (cid 16, 240, .inl (fun _ => 0))) :: (q_4, .inl (cid 15, 240, .inr (.inl (fun _ => 0)))) :: (q_1, .inl (cid 14, 80, .inr (.inr (.inr (.inr f4))))) :: (h0, .inr (6, [.ref q_1, .ref q_4, .ref q_7, .ref q_10, .null, .int 0, .int 0, .int 0])) :: tl (elF cid) adr 80) := fr_D hD
      refine W.widen (k := 165) (n := 5600) (Nat.le_of_ble_eq_true rfl) (Nat.le_of_ble_eq_true rfl) ?_
      refine va_putF (D := (dC, dI)) (ci := 6) (v := .ref q_12) (ty := tyX6 4) (C := RX6) (T := TX6) (N := 8) hx hb htb inX6 tyX6 tyX6_ok nmX6 hown hK hP hD hS 5 rfl rfl 4 (by decide) (htb _ kw_70) (fun _ h9 => h9) rfl hin rfl (tyX6_ok 4 (by decide)) rfl rfl (Nat.le_of_ble_eq_true rfl) dX6_init_71 (fun H locs hP hD hS => ?_)
      have hP : va_P (dC, dI) vwCl ((q_12, .inl (cid 18, 1200, .inl (fun _ => 0))) :: (q_10, .inl (cid 17, 240, .inl (fun _ => 0))) :: (q_7, .inl (cid 16, 240, .inl (fun _ => 0))) :: (q_4, .inl (cid 15, 240, .inr (.inl (fun _ => 0)))) :: (q_1, .inl (cid 14, 80, .inr (.inr (.inr (.inr f4))))) :: (h0, .inr (6, [.ref q_1, .ref q_4, .ref q_7, .ref q_10, .ref q_12, .int 0, .int 0, .int 0])) :: tl (elF cid) adr 80) H := hP
      have hD : va_D A ((q_12, .inl (cid 18, 1200, .inl (fun _ => 0))) :: (q_10, .inl (cid 17, 240, .inl (fun _ => 0))) :: (q_7, .inl (cid 16, 240, .inl (fun _ => 0))) :: (q_4, .inl (cid 15, 240, .inr (.inl (fun _ => 0)))) :: (q_1, .inl (cid 14, 80, .inr (.inr (.inr (.inr f4))))) :: (h0, .inr (6, [.ref q_1, .ref q_4, .ref q_7, .ref q_10, .ref q_12, .int 0, .int 0, .int 0])) :: tl (elF cid) adr 80) := hD
      rw [eQ]
      exact W.vret hx hb hr (fun t ht hW => ⟨⟨(q_12, .inl (cid 18, 1200, .inl (fun _ => 0))) :: (q_10, .inl (cid 17, 240, .inl (fun _ => 0))) :: (q_7, .inl (cid 16, 240, .inl (fun _ => 0))) :: (q_4, .inl (cid 15, 240, .inr (.inl (fun _ => 0)))) :: (q_1, .inl (cid 14, 80, .inr (.inr (.inr (.inr f4))))) :: (h0, .inr (6, [.ref q_1, .ref q_4, .ref q_7, .ref q_10, .ref q_12, .int 0, .int 0, .int 0])) :: tl (elF cid) adr 80, rfl, ⟨((h0, q_1, q_4, q_7, q_10, q_12), adr, f4), rfl, rfl, hf4⟩, by rw [ht]; exact hP, va_K.moved hW.alike hK, hD⟩, hS.F ht⟩) hS.2.2 dX6_init_74
    | succ n ih =>
      intro i adr f4 H locs ls hi9 hf4 hP hD hS hl
      have hlt : i < 80 := by omega
      refine lv_iload_n hx hb dX6_init_15 rfl (lv_at hl 0 rfl) ?_
      refine lv_bipush (v := 80) hx hb dX6_init_16 (by decide) ?_
      refine lv_icmp_ge (tgt := 40) hx hb dX6_init_18 (by decide) (fun c9 => absurd c9 (nI_ge hlt (by decide))) (fun _ => ?_)
      refine lv_aload_n hx hb dX6_init_21 rfl (lv_at hl 1 rfl) ?_
      refine va_get (D := (dC, dI)) (ci := 6) (v := .ref q_1) (C := RX6) (T := TX6) (N := 8) hx hb htb inX6 hown hK hP 1 rfl rfl 0 (by decide) (htb _ kw_64) (fun _ h9 => h9) rfl dX6_init_22 ?_
      refine lv_iload_n hx hb dX6_init_25 rfl (lv_at hl 0 rfl) ?_
      refine va_new (ci := 3) (fs := nvX3) (C := RX3) (T := TX3) (N := 21) hx hb htb inX3 tyX3 tyX3_ok hown (htb _ kw_63) (htb _ kw_65) (htb _ kw_66) hK hP hD hS hA rfl nwX3 (by show (i * 2 + 1) + 1 ≤ 165; omega) (by show (i * 45 + 80) + 21 ≤ 5600; omega) dX6_init_26 (fun q_14 H hP hD hS => ?_)
      have hP : va_P (dC, dI) vwCl ((q_14, .inr (3, [.null, .int 0, .int 0, .int 0, .null, .null, .null, .null, .int 0, .int 0, .int 0, .long 0, .long 0, .long 0, .int 0, .int 0, .int 0, .int 0, .null, .null, .null])) :: (q_1, .inl (cid 14, 80, .inr (.inr (.inr (.inr f4))))) :: (h0, .inr (6, [.ref q_1, .null, .null, .null, .null, .int 0, .int 0, .int 0])) :: tl (elF cid) adr i) H := fr_P hP
      have hD : va_D A ((q_14, .inr (3, [.null, .int 0, .int 0, .int 0, .null, .null, .null, .null, .int 0, .int 0, .int 0, .long 0, .long 0, .long 0, .int 0, .int 0, .int 0, .int 0, .null, .null, .null])) :: (q_1, .inl (cid 14, 80, .inr (.inr (.inr (.inr f4))))) :: (h0, .inr (6, [.ref q_1, .null, .null, .null, .null, .int 0, .int 0, .int 0])) :: tl (elF cid) adr i) := fr_D hD
      refine W.widen (k := i * 2 + 2) (n := i * 45 + 101) (by omega) (by omega) ?_
      refine lv_dup hx hb dX6_init_29 rfl ?_
      refine nw_call (rest := [.ref q_14, .int (nI i), .ref q_1]) (r := (q_1, .inl (cid 14, 80, .inr (.inr (.inr (.inr f4))))) :: (h0, .inr (6, [.ref q_1, .null, .null, .null, .null, .int 0, .int 0, .int 0])) :: tl (elF cid) adr i) ⟨hx, hb, hml, hown, htb⟩ (n_X3 l dC dI ad cid (q_14)) (cwI 0 htb (gd_c kw_1373) rfl rfl rfl (htb _ kw_66) (htb _ kw_71) (htb _ kw_72) rfl (by decide +kernel) ⟨Nat.le_of_ble_eq_true rfl, Nat.le_of_ble_eq_true rfl⟩) rfl hl.1 rfl (Nat.le_of_ble_eq_true rfl) dX6_init_30 ⟨(by show (i * 2 + 2) + 1 ≤ 165; omega), (by show (i * 45 + 101) + 24 ≤ 5600; omega)⟩ hK hP hD hS hA hG (fun w H locs hw hP7 hD7 hS => ?_)
      obtain ⟨a_15, rfl⟩ := hw
      have hP : va_P (dC, dI) vwCl ((q_1, .inl (cid 14, 80, .inr (.inr (.inr (.inr f4))))) :: (h0, .inr (6, [.ref q_1, .null, .null, .null, .null, .int 0, .int 0, .int 0])) :: (elW cid q_14 a_15 ++ tl (elF cid) adr i)) H := sw_P (E := [(q_1, .inl (cid 14, 80, .inr (.inr (.inr (.inr f4))))), (h0, .inr (6, [.ref q_1, .null, .null, .null, .null, .int 0, .int 0, .int 0]))]) (w := elW cid q_14 a_15) (T := tl (elF cid) adr i) hP7
      have hD : va_D A ((q_1, .inl (cid 14, 80, .inr (.inr (.inr (.inr f4))))) :: (h0, .inr (6, [.ref q_1, .null, .null, .null, .null, .int 0, .int 0, .int 0])) :: (elW cid q_14 a_15 ++ tl (elF cid) adr i)) := sw_D (E := [(q_1, .inl (cid 14, 80, .inr (.inr (.inr (.inr f4))))), (h0, .inr (6, [.ref q_1, .null, .null, .null, .null, .int 0, .int 0, .int 0]))]) (w := elW cid q_14 a_15) (T := tl (elF cid) adr i) hD7
      refine W.widen (k := i * 2 + 3) (n := i * 45 + 125) (by omega) (by omega) ?_
      refine va_astq (D := (dC, dI)) (r := (RX3, TX3, 21)) hx hb hK hP hD hS 0 14 3 3 rfl rfl rfl rfl (vp_in_nI hlt (by decide)) dX6_init_33 (fun H locs hP hD hS => ?_)
      have hP : va_P (dC, dI) vwCl ((q_1, .inl (cid 14, 80, .inr (.inr (.inr (.inr (va_up f4 (nI i).toNatClampNeg (some q_14))))))) :: (h0, .inr (6, [.ref q_1, .null, .null, .null, .null, .int 0, .int 0, .int 0])) :: (elW cid q_14 a_15 ++ tl (elF cid) adr i)) H := hP
      have hD : va_D A ((q_1, .inl (cid 14, 80, .inr (.inr (.inr (.inr (va_up f4 (nI i).toNatClampNeg (some q_14))))))) :: (h0, .inr (6, [.ref q_1, .null, .null, .null, .null, .int 0, .int 0, .int 0])) :: (elW cid q_14 a_15 ++ tl (elF cid) adr i)) := hD
      refine lv_iinc (v := nI (i + 1)) (lv' := [(2, .int (nI (i + 1))), (0, .ref h0), (1, .int 1200)]) hx hb dX6_init_34 hl (k := 0) rfl (nI_1 i) (by decide) rfl (fun ls hl => ?_)
      refine lv_goto (tgt := 15) hx hb dX6_init_37 (by decide) ?_
      refine W.widen (k := (i + 1) * 2 + 1) (n := (i + 1) * 45 + 80) (by omega) (by omega) ?_
      have et9 := tl_s (F := elF cid) (adr := adr) (i := i) (u := (q_14, a_15))
      have hP : va_P (dC, dI) vwCl ((q_1, .inl (cid 14, 80, .inr (.inr (.inr (.inr (va_up f4 (nI i).toNatClampNeg (some q_14))))))) :: (h0, .inr (6, [.ref q_1, .null, .null, .null, .null, .int 0, .int 0, .int 0])) :: tl (elF cid) (va_up adr i (q_14, a_15)) (i + 1)) H := by rw [et9]; exact hP
      have hD : va_D A ((q_1, .inl (cid 14, 80, .inr (.inr (.inr (.inr (va_up f4 (nI i).toNatClampNeg (some q_14))))))) :: (h0, .inr (6, [.ref q_1, .null, .null, .null, .null, .int 0, .int 0, .int 0])) :: tl (elF cid) (va_up adr i (q_14, a_15)) (i + 1)) := by rw [et9]; exact hD
      exact ih (i + 1) (va_up adr i (q_14, a_15)) (va_up f4 (nI i).toNatClampNeg (some q_14)) _ _ _ (by omega) (fs_q (α := Nat × Nat) (u := (q_14, a_15)) (fun x => x.1) (by omega) hf4) hP hD hS hl
  exact hloop 80 0 (fun _ => (0, 0)) (fun _ => none) _ _ _ rfl (fun j hj => absurd hj (Nat.not_lt_zero j)) hP hD hS hl

theorem dX10_init_0 : decode cX10_init 0 = .ok (.aload_n 0, 1) := by decide +kernel
theorem dX10_init_1 : decode cX10_init 1 = .ok (.invokespecial 3, 3) := by decide +kernel
theorem dX10_init_4 : decode cX10_init 4 = .ok (.aload_n 0, 1) := by decide +kernel
theorem dX10_init_5 : decode cX10_init 5 = .ok (.aload_n 1, 1) := by decide +kernel
theorem dX10_init_6 : decode cX10_init 6 = .ok (.putfield 9, 3) := by decide +kernel
theorem dX10_init_9 : decode cX10_init 9 = .ok (.aload_n 0, 1) := by decide +kernel
theorem dX10_init_10 : decode cX10_init 10 = .ok (.bipush 80, 2) := by decide +kernel
theorem dX10_init_12 : decode cX10_init 12 = .ok (.anewarray 17, 3) := by decide +kernel
theorem dX10_init_15 : decode cX10_init 15 = .ok (.putfield 19, 3) := by decide +kernel
theorem dX10_init_18 : decode cX10_init 18 = .ok (.iconst 0, 1) := by decide +kernel
theorem dX10_init_19 : decode cX10_init 19 = .ok (.istore_n 2, 1) := by decide +kernel
theorem dX10_init_20 : decode cX10_init 20 = .ok (.iload_n 2, 1) := by decide +kernel
theorem dX10_init_21 : decode cX10_init 21 = .ok (.aload_n 0, 1) := by decide +kernel
theorem dX10_init_22 : decode cX10_init 22 = .ok (.getfield 19, 3) := by decide +kernel
theorem dX10_init_25 : decode cX10_init 25 = .ok (.arraylength, 1) := by decide +kernel
theorem dX10_init_26 : decode cX10_init 26 = .ok (.if_icmp .ge 23, 3) := by decide +kernel
theorem dX10_init_29 : decode cX10_init 29 = .ok (.aload_n 0, 1) := by decide +kernel
theorem dX10_init_30 : decode cX10_init 30 = .ok (.getfield 19, 3) := by decide +kernel
theorem dX10_init_33 : decode cX10_init 33 = .ok (.iload_n 2, 1) := by decide +kernel
theorem dX10_init_34 : decode cX10_init 34 = .ok (.new 17, 3) := by decide +kernel
theorem dX10_init_37 : decode cX10_init 37 = .ok (.dup, 1) := by decide +kernel
theorem dX10_init_38 : decode cX10_init 38 = .ok (.iload_n 2, 1) := by decide +kernel
theorem dX10_init_39 : decode cX10_init 39 = .ok (.invokespecial 23, 3) := by decide +kernel
theorem dX10_init_42 : decode cX10_init 42 = .ok (.aastore, 1) := by decide +kernel
theorem dX10_init_43 : decode cX10_init 43 = .ok (.iinc 2 1, 3) := by decide +kernel
theorem dX10_init_46 : decode cX10_init 46 = .ok (.goto (-26), 3) := by decide +kernel
theorem dX10_init_49 : decode cX10_init 49 = .ok (.aload_n 0, 1) := by decide +kernel
theorem dX10_init_50 : decode cX10_init 50 = .ok (.bipush 80, 2) := by decide +kernel
theorem dX10_init_52 : decode cX10_init 52 = .ok (.anewarray 17, 3) := by decide +kernel
theorem dX10_init_55 : decode cX10_init 55 = .ok (.putfield 26, 3) := by decide +kernel
theorem dX10_init_58 : decode cX10_init 58 = .ok (.return_, 1) := by decide +kernel

set_option maxHeartbeats 4000000 in
set_option maxRecDepth 100000 in
theorem n_X10 (l : Launch) (dC : Nat → ClassId) (dI : Nat → Nat → Nat) (ad : Nat → Nat → Nat) (cid : Nat → ClassId) (h0 : Nat) (p1 : Nat) : NM dC dI ad cid l yX10_init wm_X10_init ({ frames := 5, cells := 322, slots := 2400, locals := 101 }) [.ref h0, .ref p1] [(h0, .inr (10, [.null, .null, .null, .int 0]))] (fun w => ∃ u : WU, u.1.1 = h0 ∧ w = wiW ad cid p1 u ∧ wiP u) 322 2400 := by
  intro sz
  refine Met.ofW (cc := cX10_init) (maxL := 3) (ret := none) (by decide) rfl ?_
  intro p e s m args below meth c s₁ B hml hv
  obtain ⟨rfl, hsz, hP, hK, hD0, hG⟩ := hv
  have hx := B.exec
  have hb := B.bytes
  have hr := B.returns
  have hts := atoms_spec (ws := wm_X10_init) B.pre
  have htb := fun (w : Cond) (h : w ∈ tb) => hts w (List.mem_cons_of_mem _ h)
  have hown : s.vm.findClass RX10 = some m.cls := findClass_of_methodNamed B.named
  have hlocks := B.notSynchronized
  have hin : meth.name = "<init>" := (name_of_methodNamed B.named B.method).1
  subst hsz
  have hD := hD0.self (sz := s.heap.size)
  generalize hAe : va_A [(h0, .inr (10, [.null, .null, .null, .int 0]))] s.heap.size = A at hD hG ⊢
  have hA : ∀ q : Nat, s.heap.size ≤ q → A q := fun q h => by rw [← hAe]; exact Or.inr h
  have hS : va_S A s.heap s.heap [] := va_S.rf
  have hl := lv_entry ([.ref h0, .ref p1]) (n := 3) (Nat.le_of_ble_eq_true rfl)
  rw [lg_entry_eq]
  generalize (lg_sl ([.ref h0, .ref p1]) ++ List.replicate (3 - (lg_sl ([.ref h0, .ref p1])).length) Slot.unset).toArray = ls at hl ⊢
  have hl : lv_has ls 3 [(0, .ref h0), (1, .ref p1)] := hl
  have hP : va_P (dC, dI) vwCl ((h0, .inr (10, [.null, .null, .null, .int 0])) :: []) s.heap := hP
  have hD : va_D A ((h0, .inr (10, [.null, .null, .null, .int 0])) :: []) := hD
  refine n_gen (fun Q eQ => ?_)
  refine lv_aload_n hx hb dX10_init_0 rfl (lv_at hl 0 rfl) ?_
  refine W.objInit hx hb hown (htb _ kw_85) (htb _ kw_11) (htb _ kw_1369) rfl (by rw [hml]; exact hl.1) rfl dX10_init_1 (Nat.le_of_ble_eq_true rfl) (Nat.le_of_ble_eq_true rfl) ?_
  refine W.eq (g2 := F0 m 4 ls []) rfl ?_
  refine lv_aload_n hx hb dX10_init_4 rfl (lv_at hl 0 rfl) ?_
  refine lv_aload_n hx hb dX10_init_5 rfl (lv_at hl 1 rfl) ?_
  refine va_putF (D := (dC, dI)) (ci := 10) (v := .ref p1) (ty := tyX10 0) (C := RX10) (T := TX10) (N := 4) hx hb htb inX10 tyX10 tyX10_ok nmX10 hown hK hP hD hS 0 rfl rfl 0 (by decide) (htb _ kw_86) (fun _ h9 => h9) rfl hin rfl (tyX10_ok 0 (by decide)) rfl rfl (Nat.le_of_ble_eq_true rfl) dX10_init_6 (fun H locs hP hD hS => ?_)
  have hP : va_P (dC, dI) vwCl ((h0, .inr (10, [.ref p1, .null, .null, .int 0])) :: []) H := hP
  have hD : va_D A ((h0, .inr (10, [.ref p1, .null, .null, .int 0])) :: []) := hD
  refine lv_aload_n hx hb dX10_init_9 rfl (lv_at hl 0 rfl) ?_
  refine lv_bipush (v := 80) hx hb dX10_init_10 (by decide) ?_
  refine va_newq (D := (dC, dI)) (N' := 80) (C := RX1) hx hb hown (htb _ kw_87) hG.1.1.2.2.2 hK hP hD hS hA (by decide) (by decide) (by decide) (Nat.le_of_ble_eq_true rfl) (Nat.le_of_ble_eq_true rfl) dX10_init_12 (fun q_1 cA_2 H hK2 hP hD hS => ?_)
  obtain rfl : cA_2 = cid 19 := ty_eq (by decide) hK hK2 rfl
  have hP : va_P (dC, dI) vwCl ((q_1, .inl (cid 19, 80, .inr (.inr (.inr (.inr (fun _ => none)))))) :: (h0, .inr (10, [.ref p1, .null, .null, .int 0])) :: []) H := fr_P hP
  have hD : va_D A ((q_1, .inl (cid 19, 80, .inr (.inr (.inr (.inr (fun _ => none)))))) :: (h0, .inr (10, [.ref p1, .null, .null, .int 0])) :: []) := fr_D hD
  refine W.widen (k := 1) (n := 80) (Nat.le_of_ble_eq_true rfl) (Nat.le_of_ble_eq_true rfl) ?_
  refine va_putF (D := (dC, dI)) (ci := 10) (v := .ref q_1) (ty := tyX10 1) (C := RX10) (T := TX10) (N := 4) hx hb htb inX10 tyX10 tyX10_ok nmX10 hown hK hP hD hS 1 rfl rfl 1 (by decide) (htb _ kw_88) (fun _ h9 => h9) rfl hin rfl (tyX10_ok 1 (by decide)) rfl rfl (Nat.le_of_ble_eq_true rfl) dX10_init_15 (fun H locs hP hD hS => ?_)
  have hP : va_P (dC, dI) vwCl ((q_1, .inl (cid 19, 80, .inr (.inr (.inr (.inr (fun _ => none)))))) :: (h0, .inr (10, [.ref p1, .ref q_1, .null, .int 0])) :: []) H := hP
  have hD : va_D A ((q_1, .inl (cid 19, 80, .inr (.inr (.inr (.inr (fun _ => none)))))) :: (h0, .inr (10, [.ref p1, .ref q_1, .null, .int 0])) :: []) := hD
  refine lv_iconst (v := 0) hx hb dX10_init_18 (by decide) ?_
  refine lv_istore_n (lv' := [(2, .int 0), (0, .ref h0), (1, .ref p1)]) hx hb dX10_init_19 rfl hl (by decide) rfl (fun ls hl => ?_)
  have hloop : ∀ (n i : Nat) (adr : Nat → Nat × Nat × Nat × Nat) (f9 : Nat → Option Nat) (H : Heap) (locs : List Loc) (ls : Array Slot), i + n = 80 → (∀ j, j < i → f9 j = some (adr j).1) → va_P (dC, dI) vwCl ((q_1, .inl (cid 19, 80, .inr (.inr (.inr (.inr f9))))) :: (h0, .inr (10, [.ref p1, .ref q_1, .null, .int 0])) :: tl (beF ad) adr i) H → va_D A ((q_1, .inl (cid 19, 80, .inr (.inr (.inr (.inr f9))))) :: (h0, .inr (10, [.ref p1, .ref q_1, .null, .int 0])) :: tl (beF ad) adr i) → va_S A s.heap H locs → lv_has ls 3 [(2, .int (nI i)), (0, .ref h0), (1, .ref p1)] → W p l e (headSpec wm_X10_init ({ frames := 5, cells := 322, slots := 2400, locals := 101 })).room s m ([.ref h0, .ref p1] : List Value).toArray below meth c H locs (i * 4 + 1) (i * 28 + 80) Q (F0 m 20 ls []) := by
    intro n
    induction n with
    | zero =>
      intro i adr f9 H locs ls hi9 hf9 hP hD hS hl
      obtain rfl : i = 80 := by omega
      have hl : lv_has ls 3 [(2, .int 80), (0, .ref h0), (1, .ref p1)] := hl
      refine W.widen (k := 321) (n := 2320) (Nat.le_of_ble_eq_true rfl) (Nat.le_of_ble_eq_true rfl) ?_
      refine lv_iload_n hx hb dX10_init_20 rfl (lv_at hl 0 rfl) ?_
      refine lv_aload_n hx hb dX10_init_21 rfl (lv_at hl 1 rfl) ?_
      refine va_get (D := (dC, dI)) (ci := 10) (v := .ref q_1) (C := RX10) (T := TX10) (N := 4) hx hb htb inX10 hown hK hP 1 rfl rfl 1 (by decide) (htb _ kw_88) (fun _ h9 => h9) rfl dX10_init_22 ?_
      refine va_alen (D := (dC, dI)) (v := 80) hx hb hK hP 0 19 rfl rfl rfl dX10_init_25 ?_
      refine lv_icmp_ge (tgt := 49) hx hb dX10_init_26 (by decide) (fun _ => ?_) (fun c9 => absurd (by decide) c9)
      refine lv_aload_n hx hb dX10_init_49 rfl (lv_at hl 1 rfl) ?_
      refine lv_bipush (v := 80) hx hb dX10_init_50 (by decide) ?_
      refine va_newq (D := (dC, dI)) (N' := 80) (C := RX1) hx hb hown (htb _ kw_87) hG.1.1.2.2.2 hK hP hD hS hA (by decide) (by decide) (by decide) (Nat.le_of_ble_eq_true rfl) (Nat.le_of_ble_eq_true rfl) dX10_init_52 (fun q_3 cA_4 H hK2 hP hD hS => ?_)
      obtain rfl : cA_4 = cid 20 := ty_eq (by decide) hK hK2 rfl
      have hP : va_P (dC, dI) vwCl ((q_3, .inl (cid 20, 80, .inr (.inr (.inr (.inr (fun _ => none)))))) :: (q_1, .inl (cid 19, 80, .inr (.inr (.inr (.inr f9))))) :: (h0, .inr (10, [.ref p1, .ref q_1, .null, .int 0])) :: tl (beF ad) adr 80) H := fr_P hP
      have hD : va_D A ((q_3, .inl (cid 20, 80, .inr (.inr (.inr (.inr (fun _ => none)))))) :: (q_1, .inl (cid 19, 80, .inr (.inr (.inr (.inr f9))))) :: (h0, .inr (10, [.ref p1, .ref q_1, .null, .int 0])) :: tl (beF ad) adr 80) := fr_D hD
      refine W.widen (k := 322) (n := 2400) (Nat.le_of_ble_eq_true rfl) (Nat.le_of_ble_eq_true rfl) ?_
      refine va_putF (D := (dC, dI)) (ci := 10) (v := .ref q_3) (ty := tyX10 2) (C := RX10) (T := TX10) (N := 4) hx hb htb inX10 tyX10 tyX10_ok nmX10 hown hK hP hD hS 2 rfl rfl 2 (by decide) (htb _ kw_91) (fun _ h9 => h9) rfl hin rfl (tyX10_ok 2 (by decide)) rfl rfl (Nat.le_of_ble_eq_true rfl) dX10_init_55 (fun H locs hP hD hS => ?_)
      have hP : va_P (dC, dI) vwCl ((q_3, .inl (cid 20, 80, .inr (.inr (.inr (.inr (fun _ => none)))))) :: (q_1, .inl (cid 19, 80, .inr (.inr (.inr (.inr f9))))) :: (h0, .inr (10, [.ref p1, .ref q_1, .ref q_3, .int 0])) :: tl (beF ad) adr 80) H := hP
      have hD : va_D A ((q_3, .inl (cid 20, 80, .inr (.inr (.inr (.inr (fun _ => none)))))) :: (q_1, .inl (cid 19, 80, .inr (.inr (.inr (.inr f9))))) :: (h0, .inr (10, [.ref p1, .ref q_1, .ref q_3, .int 0])) :: tl (beF ad) adr 80) := hD
      rw [eQ]
      exact W.vret hx hb hr (fun t ht hW => ⟨⟨(q_3, .inl (cid 20, 80, .inr (.inr (.inr (.inr (fun _ => none)))))) :: (q_1, .inl (cid 19, 80, .inr (.inr (.inr (.inr f9))))) :: (h0, .inr (10, [.ref p1, .ref q_1, .ref q_3, .int 0])) :: tl (beF ad) adr 80, rfl, ⟨((h0, q_1, q_3), adr, f9), rfl, rfl, hf9⟩, by rw [ht]; exact hP, va_K.moved hW.alike hK, hD⟩, hS.F ht⟩) hS.2.2 dX10_init_58
    | succ n ih =>
      intro i adr f9 H locs ls hi9 hf9 hP hD hS hl
      have hlt : i < 80 := by omega
      refine lv_iload_n hx hb dX10_init_20 rfl (lv_at hl 0 rfl) ?_
      refine lv_aload_n hx hb dX10_init_21 rfl (lv_at hl 1 rfl) ?_
      refine va_get (D := (dC, dI)) (ci := 10) (v := .ref q_1) (C := RX10) (T := TX10) (N := 4) hx hb htb inX10 hown hK hP 1 rfl rfl 1 (by decide) (htb _ kw_88) (fun _ h9 => h9) rfl dX10_init_22 ?_
      refine va_alen (D := (dC, dI)) (v := 80) hx hb hK hP 0 19 rfl rfl rfl dX10_init_25 ?_
      refine lv_icmp_ge (tgt := 49) hx hb dX10_init_26 (by decide) (fun c9 => absurd c9 (nI_ge hlt (by decide))) (fun _ => ?_)
      refine lv_aload_n hx hb dX10_init_29 rfl (lv_at hl 1 rfl) ?_
      refine va_get (D := (dC, dI)) (ci := 10) (v := .ref q_1) (C := RX10) (T := TX10) (N := 4) hx hb htb inX10 hown hK hP 1 rfl rfl 1 (by decide) (htb _ kw_88) (fun _ h9 => h9) rfl dX10_init_30 ?_
      refine lv_iload_n hx hb dX10_init_33 rfl (lv_at hl 0 rfl) ?_
      refine va_new (ci := 1) (fs := nvX1) (C := RX1) (T := TX1) (N := 19) hx hb htb inX1 tyX1 tyX1_ok hown (htb _ kw_87) (htb _ kw_89) (htb _ kw_90) hK hP hD hS hA rfl nwX1 (by show (i * 4 + 1) + 1 ≤ 322; omega) (by show (i * 28 + 80) + 19 ≤ 2400; omega) dX10_init_34 (fun q_5 H hP hD hS => ?_)
      have hP : va_P (dC, dI) vwCl ((q_5, .inr (1, [.int 0, .null, .null, .null, .null, .long 0, .long 0, .long 0, .long 0, .int 0, .int 0, .int 0, .int 0, .int 0, .int 0, .int 0, .int 0, .int 0, .int 0])) :: (q_1, .inl (cid 19, 80, .inr (.inr (.inr (.inr f9))))) :: (h0, .inr (10, [.ref p1, .ref q_1, .null, .int 0])) :: tl (beF ad) adr i) H := fr_P hP
      have hD : va_D A ((q_5, .inr (1, [.int 0, .null, .null, .null, .null, .long 0, .long 0, .long 0, .long 0, .int 0, .int 0, .int 0, .int 0, .int 0, .int 0, .int 0, .int 0, .int 0, .int 0])) :: (q_1, .inl (cid 19, 80, .inr (.inr (.inr (.inr f9))))) :: (h0, .inr (10, [.ref p1, .ref q_1, .null, .int 0])) :: tl (beF ad) adr i) := fr_D hD
      refine W.widen (k := i * 4 + 2) (n := i * 28 + 99) (by omega) (by omega) ?_
      refine lv_dup hx hb dX10_init_37 rfl ?_
      refine lv_iload_n hx hb dX10_init_38 rfl (lv_at hl 0 rfl) ?_
      refine nw_call (rest := [.ref q_5, .int (nI i), .ref q_1]) (r := (q_1, .inl (cid 19, 80, .inr (.inr (.inr (.inr f9))))) :: (h0, .inr (10, [.ref p1, .ref q_1, .null, .int 0])) :: tl (beF ad) adr i) ⟨hx, hb, hml, hown, htb⟩ (n_X1 l dC dI ad cid (q_5) ((nI i))) (cwI 1 htb (gd_c kw_1377) rfl rfl rfl (htb _ kw_90) (htb _ kw_92) (htb _ kw_93) rfl (by decide +kernel) ⟨Nat.le_of_ble_eq_true rfl, Nat.le_of_ble_eq_true rfl⟩) rfl hl.1 rfl (Nat.le_of_ble_eq_true rfl) dX10_init_39 ⟨(by show (i * 4 + 2) + 3 ≤ 322; omega), (by show (i * 28 + 99) + 9 ≤ 2400; omega)⟩ hK hP hD hS hA hG (fun w H locs hw hP7 hD7 hS => ?_)
      obtain ⟨a_6, a_7, a_8, rfl⟩ := hw
      have hP : va_P (dC, dI) vwCl ((q_1, .inl (cid 19, 80, .inr (.inr (.inr (.inr f9))))) :: (h0, .inr (10, [.ref p1, .ref q_1, .null, .int 0])) :: (beW ad ((nI i)) q_5 a_6 a_7 a_8 ++ tl (beF ad) adr i)) H := sw_P (E := [(q_1, .inl (cid 19, 80, .inr (.inr (.inr (.inr f9))))), (h0, .inr (10, [.ref p1, .ref q_1, .null, .int 0]))]) (w := beW ad ((nI i)) q_5 a_6 a_7 a_8) (T := tl (beF ad) adr i) hP7
      have hD : va_D A ((q_1, .inl (cid 19, 80, .inr (.inr (.inr (.inr f9))))) :: (h0, .inr (10, [.ref p1, .ref q_1, .null, .int 0])) :: (beW ad ((nI i)) q_5 a_6 a_7 a_8 ++ tl (beF ad) adr i)) := sw_D (E := [(q_1, .inl (cid 19, 80, .inr (.inr (.inr (.inr f9))))), (h0, .inr (10, [.ref p1, .ref q_1, .null, .int 0]))]) (w := beW ad ((nI i)) q_5 a_6 a_7 a_8) (T := tl (beF ad) adr i) hD7
      refine W.widen (k := i * 4 + 5) (n := i * 28 + 108) (by omega) (by omega) ?_
      refine va_astq (D := (dC, dI)) (r := (RX1, TX1, 19)) hx hb hK hP hD hS 0 19 2 1 rfl rfl rfl rfl (vp_in_nI hlt (by decide)) dX10_init_42 (fun H locs hP hD hS => ?_)
      have hP : va_P (dC, dI) vwCl ((q_1, .inl (cid 19, 80, .inr (.inr (.inr (.inr (va_up f9 (nI i).toNatClampNeg (some q_5))))))) :: (h0, .inr (10, [.ref p1, .ref q_1, .null, .int 0])) :: (beW ad ((nI i)) q_5 a_6 a_7 a_8 ++ tl (beF ad) adr i)) H := hP
      have hD : va_D A ((q_1, .inl (cid 19, 80, .inr (.inr (.inr (.inr (va_up f9 (nI i).toNatClampNeg (some q_5))))))) :: (h0, .inr (10, [.ref p1, .ref q_1, .null, .int 0])) :: (beW ad ((nI i)) q_5 a_6 a_7 a_8 ++ tl (beF ad) adr i)) := hD
      refine lv_iinc (v := nI (i + 1)) (lv' := [(2, .int (nI (i + 1))), (0, .ref h0), (1, .ref p1)]) hx hb dX10_init_43 hl (k := 0) rfl (nI_1 i) (by decide) rfl (fun ls hl => ?_)
      refine lv_goto (tgt := 20) hx hb dX10_init_46 (by decide) ?_
      refine W.widen (k := (i + 1) * 4 + 1) (n := (i + 1) * 28 + 80) (by omega) (by omega) ?_
      have et9 := tl_s (F := beF ad) (adr := adr) (i := i) (u := (q_5, a_6, a_7, a_8))
      have hP : va_P (dC, dI) vwCl ((q_1, .inl (cid 19, 80, .inr (.inr (.inr (.inr (va_up f9 (nI i).toNatClampNeg (some q_5))))))) :: (h0, .inr (10, [.ref p1, .ref q_1, .null, .int 0])) :: tl (beF ad) (va_up adr i (q_5, a_6, a_7, a_8)) (i + 1)) H := by rw [et9]; exact hP
      have hD : va_D A ((q_1, .inl (cid 19, 80, .inr (.inr (.inr (.inr (va_up f9 (nI i).toNatClampNeg (some q_5))))))) :: (h0, .inr (10, [.ref p1, .ref q_1, .null, .int 0])) :: tl (beF ad) (va_up adr i (q_5, a_6, a_7, a_8)) (i + 1)) := by rw [et9]; exact hD
      exact ih (i + 1) (va_up adr i (q_5, a_6, a_7, a_8)) (va_up f9 (nI i).toNatClampNeg (some q_5)) _ _ _ (by omega) (fs_q (α := Nat × Nat × Nat × Nat) (u := (q_5, a_6, a_7, a_8)) (fun x => x.1) (by omega) hf9) hP hD hS hl
  exact hloop 80 0 (fun _ => (0, 0, 0, 0)) (fun _ => none) _ _ _ rfl (fun j hj => absurd hj (Nat.not_lt_zero j)) hP hD hS hl

theorem dX2_init_0 : decode cX2_init 0 = .ok (.aload_n 0, 1) := by decide +kernel
theorem dX2_init_1 : decode cX2_init 1 = .ok (.invokespecial 3, 3) := by decide +kernel
theorem dX2_init_4 : decode cX2_init 4 = .ok (.aload_n 0, 1) := by decide +kernel
theorem dX2_init_5 : decode cX2_init 5 = .ok (.iload_n 1, 1) := by decide +kernel
theorem dX2_init_6 : decode cX2_init 6 = .ok (.putfield 9, 3) := by decide +kernel
theorem dX2_init_9 : decode cX2_init 9 = .ok (.aload_n 0, 1) := by decide +kernel
theorem dX2_init_10 : decode cX2_init 10 = .ok (.iconst 4, 1) := by decide +kernel
theorem dX2_init_11 : decode cX2_init 11 = .ok (.anewarray 15, 3) := by decide +kernel
theorem dX2_init_14 : decode cX2_init 14 = .ok (.putfield 17, 3) := by decide +kernel
theorem dX2_init_17 : decode cX2_init 17 = .ok (.aload_n 0, 1) := by decide +kernel
theorem dX2_init_18 : decode cX2_init 18 = .ok (.iconst 4, 1) := by decide +kernel
theorem dX2_init_19 : decode cX2_init 19 = .ok (.anewarray 15, 3) := by decide +kernel
theorem dX2_init_22 : decode cX2_init 22 = .ok (.putfield 21, 3) := by decide +kernel
theorem dX2_init_25 : decode cX2_init 25 = .ok (.iconst 0, 1) := by decide +kernel
theorem dX2_init_26 : decode cX2_init 26 = .ok (.istore_n 2, 1) := by decide +kernel
theorem dX2_init_27 : decode cX2_init 27 = .ok (.iload_n 2, 1) := by decide +kernel
theorem dX2_init_28 : decode cX2_init 28 = .ok (.iconst 4, 1) := by decide +kernel
theorem dX2_init_29 : decode cX2_init 29 = .ok (.if_icmp .ge 39, 3) := by decide +kernel
theorem dX2_init_32 : decode cX2_init 32 = .ok (.aload_n 0, 1) := by decide +kernel
theorem dX2_init_33 : decode cX2_init 33 = .ok (.getfield 17, 3) := by decide +kernel
theorem dX2_init_36 : decode cX2_init 36 = .ok (.iload_n 2, 1) := by decide +kernel
theorem dX2_init_37 : decode cX2_init 37 = .ok (.new 15, 3) := by decide +kernel
theorem dX2_init_40 : decode cX2_init 40 = .ok (.dup, 1) := by decide +kernel
theorem dX2_init_41 : decode cX2_init 41 = .ok (.iload_n 1, 1) := by decide +kernel
theorem dX2_init_42 : decode cX2_init 42 = .ok (.iload_n 2, 1) := by decide +kernel
theorem dX2_init_43 : decode cX2_init 43 = .ok (.invokespecial 24, 3) := by decide +kernel
theorem dX2_init_46 : decode cX2_init 46 = .ok (.aastore, 1) := by decide +kernel
theorem dX2_init_47 : decode cX2_init 47 = .ok (.aload_n 0, 1) := by decide +kernel
theorem dX2_init_48 : decode cX2_init 48 = .ok (.getfield 21, 3) := by decide +kernel
theorem dX2_init_51 : decode cX2_init 51 = .ok (.iload_n 2, 1) := by decide +kernel
theorem dX2_init_52 : decode cX2_init 52 = .ok (.new 15, 3) := by decide +kernel
theorem dX2_init_55 : decode cX2_init 55 = .ok (.dup, 1) := by decide +kernel
theorem dX2_init_56 : decode cX2_init 56 = .ok (.iload_n 1, 1) := by decide +kernel
theorem dX2_init_57 : decode cX2_init 57 = .ok (.iload_n 2, 1) := by decide +kernel
theorem dX2_init_58 : decode cX2_init 58 = .ok (.invokespecial 24, 3) := by decide +kernel
theorem dX2_init_61 : decode cX2_init 61 = .ok (.aastore, 1) := by decide +kernel
theorem dX2_init_62 : decode cX2_init 62 = .ok (.iinc 2 1, 3) := by decide +kernel
theorem dX2_init_65 : decode cX2_init 65 = .ok (.goto (-38), 3) := by decide +kernel
theorem dX2_init_68 : decode cX2_init 68 = .ok (.aload_n 0, 1) := by decide +kernel
theorem dX2_init_69 : decode cX2_init 69 = .ok (.bipush 26, 2) := by decide +kernel
theorem dX2_init_71 : decode cX2_init 71 = .ok (.newarray .int, 2) := by decide +kernel
theorem dX2_init_73 : decode cX2_init 73 = .ok (.putfield 27, 3) := by decide +kernel
theorem dX2_init_76 : decode cX2_init 76 = .ok (.iconst 0, 1) := by decide +kernel
theorem dX2_init_77 : decode cX2_init 77 = .ok (.istore_n 2, 1) := by decide +kernel
theorem dX2_init_78 : decode cX2_init 78 = .ok (.iload_n 2, 1) := by decide +kernel
theorem dX2_init_79 : decode cX2_init 79 = .ok (.bipush 26, 2) := by decide +kernel
theorem dX2_init_81 : decode cX2_init 81 = .ok (.if_icmp .ge 16, 3) := by decide +kernel
theorem dX2_init_84 : decode cX2_init 84 = .ok (.aload_n 0, 1) := by decide +kernel
theorem dX2_init_85 : decode cX2_init 85 = .ok (.getfield 27, 3) := by decide +kernel
theorem dX2_init_88 : decode cX2_init 88 = .ok (.iload_n 2, 1) := by decide +kernel
theorem dX2_init_89 : decode cX2_init 89 = .ok (.iconst (-1), 1) := by decide +kernel
theorem dX2_init_90 : decode cX2_init 90 = .ok (.iastore, 1) := by decide +kernel
theorem dX2_init_91 : decode cX2_init 91 = .ok (.iinc 2 1, 3) := by decide +kernel
theorem dX2_init_94 : decode cX2_init 94 = .ok (.goto (-16), 3) := by decide +kernel
theorem dX2_init_97 : decode cX2_init 97 = .ok (.return_, 1) := by decide +kernel

set_option maxHeartbeats 4000000 in
set_option maxRecDepth 100000 in
theorem n_X2 (l : Launch) (dC : Nat → ClassId) (dI : Nat → Nat → Nat) (ad : Nat → Nat → Nat) (cid : Nat → ClassId) (h0 : Nat) (p0 : Int32) : NM dC dI ad cid l yX2_init wm_X2_init ({ frames := 2, cells := 19, slots := 114, locals := 42 }) [.ref h0, .int p0] [(h0, .inr (2, [.null, .null, .int 0, .int 0, .int 0, .null, .int 0, .null]))] (fun w => ∃ u : DU, u.1.1 = h0 ∧ w = dcW cid p0 u ∧ dcP u) 19 114 := by
  intro sz
  refine Met.ofW (cc := cX2_init) (maxL := 3) (ret := none) (by decide) rfl ?_
  intro p e s m args below meth c s₁ B hml hv
  obtain ⟨rfl, hsz, hP, hK, hD0, hG⟩ := hv
  have hx := B.exec
  have hb := B.bytes
  have hr := B.returns
  have hts := atoms_spec (ws := wm_X2_init) B.pre
  have htb := fun (w : Cond) (h : w ∈ tb) => hts w (List.mem_cons_of_mem _ h)
  have hown : s.vm.findClass RX2 = some m.cls := findClass_of_methodNamed B.named
  have hlocks := B.notSynchronized
  have hin : meth.name = "<init>" := (name_of_methodNamed B.named B.method).1
  subst hsz
  have hD := hD0.self (sz := s.heap.size)
  generalize hAe : va_A [(h0, .inr (2, [.null, .null, .int 0, .int 0, .int 0, .null, .int 0, .null]))] s.heap.size = A at hD hG ⊢
  have hA : ∀ q : Nat, s.heap.size ≤ q → A q := fun q h => by rw [← hAe]; exact Or.inr h
  have hS : va_S A s.heap s.heap [] := va_S.rf
  have hl := lv_entry ([.ref h0, .int p0]) (n := 3) (Nat.le_of_ble_eq_true rfl)
  rw [lg_entry_eq]
  generalize (lg_sl ([.ref h0, .int p0]) ++ List.replicate (3 - (lg_sl ([.ref h0, .int p0])).length) Slot.unset).toArray = ls at hl ⊢
  have hl : lv_has ls 3 [(0, .ref h0), (1, .int p0)] := hl
  have hP : va_P (dC, dI) vwCl ((h0, .inr (2, [.null, .null, .int 0, .int 0, .int 0, .null, .int 0, .null])) :: []) s.heap := hP
  have hD : va_D A ((h0, .inr (2, [.null, .null, .int 0, .int 0, .int 0, .null, .int 0, .null])) :: []) := hD
  refine n_gen (fun Q eQ => ?_)
  refine lv_aload_n hx hb dX2_init_0 rfl (lv_at hl 0 rfl) ?_
  refine W.objInit hx hb hown (htb _ kw_45) (htb _ kw_11) (htb _ kw_1369) rfl (by rw [hml]; exact hl.1) rfl dX2_init_1 (Nat.le_of_ble_eq_true rfl) (Nat.le_of_ble_eq_true rfl) ?_
  refine W.eq (g2 := F0 m 4 ls []) rfl ?_
  refine lv_aload_n hx hb dX2_init_4 rfl (lv_at hl 0 rfl) ?_
  refine lv_iload_n hx hb dX2_init_5 rfl (lv_at hl 1 rfl) ?_
  refine va_putF (D := (dC, dI)) (ci := 2) (v := .int p0) (ty := tyX2 4) (C := RX2) (T := TX2) (N := 8) hx hb htb inX2 tyX2 tyX2_ok nmX2 hown hK hP hD hS 0 rfl rfl 4 (by decide) (htb _ kw_46) (fun _ h9 => h9) rfl hin rfl (tyX2_ok 4 (by decide)) rfl rfl (Nat.le_of_ble_eq_true rfl) dX2_init_6 (fun H locs hP hD hS => ?_)
  have hP : va_P (dC, dI) vwCl ((h0, .inr (2, [.null, .null, .int 0, .int 0, .int p0, .null, .int 0, .null])) :: []) H := hP
  have hD : va_D A ((h0, .inr (2, [.null, .null, .int 0, .int 0, .int p0, .null, .int 0, .null])) :: []) := hD
  refine lv_aload_n hx hb dX2_init_9 rfl (lv_at hl 0 rfl) ?_
  refine lv_iconst (v := 4) hx hb dX2_init_10 (by decide) ?_
  refine va_newq (D := (dC, dI)) (N' := 4) (C := RX8) hx hb hown (htb _ kw_47) hG.1.1.2.1 hK hP hD hS hA (by decide) (by decide) (by decide) (Nat.le_of_ble_eq_true rfl) (Nat.le_of_ble_eq_true rfl) dX2_init_11 (fun q_1 cA_2 H hK2 hP hD hS => ?_)
  obtain rfl : cA_2 = cid 28 := ty_eq (by decide) hK hK2 rfl
  have hP : va_P (dC, dI) vwCl ((q_1, .inl (cid 28, 4, .inr (.inr (.inr (.inr (fun _ => none)))))) :: (h0, .inr (2, [.null, .null, .int 0, .int 0, .int p0, .null, .int 0, .null])) :: []) H := fr_P hP
  have hD : va_D A ((q_1, .inl (cid 28, 4, .inr (.inr (.inr (.inr (fun _ => none)))))) :: (h0, .inr (2, [.null, .null, .int 0, .int 0, .int p0, .null, .int 0, .null])) :: []) := fr_D hD
  refine W.widen (k := 1) (n := 4) (Nat.le_of_ble_eq_true rfl) (Nat.le_of_ble_eq_true rfl) ?_
  refine va_putF (D := (dC, dI)) (ci := 2) (v := .ref q_1) (ty := tyX2 0) (C := RX2) (T := TX2) (N := 8) hx hb htb inX2 tyX2 tyX2_ok nmX2 hown hK hP hD hS 1 rfl rfl 0 (by decide) (htb _ kw_48) (fun _ h9 => h9) rfl hin rfl (tyX2_ok 0 (by decide)) rfl rfl (Nat.le_of_ble_eq_true rfl) dX2_init_14 (fun H locs hP hD hS => ?_)
  have hP : va_P (dC, dI) vwCl ((q_1, .inl (cid 28, 4, .inr (.inr (.inr (.inr (fun _ => none)))))) :: (h0, .inr (2, [.ref q_1, .null, .int 0, .int 0, .int p0, .null, .int 0, .null])) :: []) H := hP
  have hD : va_D A ((q_1, .inl (cid 28, 4, .inr (.inr (.inr (.inr (fun _ => none)))))) :: (h0, .inr (2, [.ref q_1, .null, .int 0, .int 0, .int p0, .null, .int 0, .null])) :: []) := hD
  refine lv_aload_n hx hb dX2_init_17 rfl (lv_at hl 0 rfl) ?_
  refine lv_iconst (v := 4) hx hb dX2_init_18 (by decide) ?_
  refine va_newq (D := (dC, dI)) (N' := 4) (C := RX8) hx hb hown (htb _ kw_47) hG.1.1.2.1 hK hP hD hS hA (by decide) (by decide) (by decide) (Nat.le_of_ble_eq_true rfl) (Nat.le_of_ble_eq_true rfl) dX2_init_19 (fun q_3 cA_4 H hK2 hP hD hS => ?_)
  obtain rfl : cA_4 = cid 29 := ty_eq (by decide) hK hK2 rfl
  have hP : va_P (dC, dI) vwCl ((q_3, .inl (cid 29, 4, .inr (.inr (.inr (.inr (fun _ => none)))))) :: (q_1, .inl (cid 28, 4, .inr (.inr (.inr (.inr (fun _ => none)))))) :: (h0, .inr (2, [.ref q_1, .null, .int 0, .int 0, .int p0, .null, .int 0, .null])) :: []) H := fr_P hP
  have hD : va_D A ((q_3, .inl (cid 29, 4, .inr (.inr (.inr (.inr (fun _ => none)))))) :: (q_1, .inl (cid 28, 4, .inr (.inr (.inr (.inr (fun _ => none)))))) :: (h0, .inr (2, [.ref q_1, .null, .int 0, .int 0, .int p0, .null, .int 0, .null])) :: []) := fr_D hD
  refine W.widen (k := 2) (n := 8) (Nat.le_of_ble_eq_true rfl) (Nat.le_of_ble_eq_true rfl) ?_
  refine va_putF (D := (dC, dI)) (ci := 2) (v := .ref q_3) (ty := tyX2 1) (C := RX2) (T := TX2) (N := 8) hx hb htb inX2 tyX2 tyX2_ok nmX2 hown hK hP hD hS 2 rfl rfl 1 (by decide) (htb _ kw_49) (fun _ h9 => h9) rfl hin rfl (tyX2_ok 1 (by decide)) rfl rfl (Nat.le_of_ble_eq_true rfl) dX2_init_22 (fun H locs hP hD hS => ?_)
  have hP : va_P (dC, dI) vwCl ((q_3, .inl (cid 29, 4, .inr (.inr (.inr (.inr (fun _ => none)))))) :: (q_1, .inl (cid 28, 4, .inr (.inr (.inr (.inr (fun _ => none)))))) :: (h0, .inr (2, [.ref q_1, .ref q_3, .int 0, .int 0, .int p0, .null, .int 0, .null])) :: []) H := hP
  have hD : va_D A ((q_3, .inl (cid 29, 4, .inr (.inr (.inr (.inr (fun _ => none)))))) :: (q_1, .inl (cid 28, 4, .inr (.inr (.inr (.inr (fun _ => none)))))) :: (h0, .inr (2, [.ref q_1, .ref q_3, .int 0, .int 0, .int p0, .null, .int 0, .null])) :: []) := hD
  refine lv_iconst (v := 0) hx hb dX2_init_25 (by decide) ?_
  refine lv_istore_n (lv' := [(2, .int 0), (0, .ref h0), (1, .int p0)]) hx hb dX2_init_26 rfl hl (by decide) rfl (fun ls hl => ?_)
  have hloop : ∀ (n i : Nat) (adr : Nat → Nat × Nat × Nat × Nat) (f8 : Nat → Option Nat) (f9 : Nat → Option Nat) (H : Heap) (locs : List Loc) (ls : Array Slot), i + n = 4 → (∀ j, j < i → f8 j = some (adr j).1) → (∀ j, j < i → f9 j = some (adr j).2.2.1) → va_P (dC, dI) vwCl ((q_3, .inl (cid 29, 4, .inr (.inr (.inr (.inr f9))))) :: (q_1, .inl (cid 28, 4, .inr (.inr (.inr (.inr f8))))) :: (h0, .inr (2, [.ref q_1, .ref q_3, .int 0, .int 0, .int p0, .null, .int 0, .null])) :: tl (sgF cid p0) adr i) H → va_D A ((q_3, .inl (cid 29, 4, .inr (.inr (.inr (.inr f9))))) :: (q_1, .inl (cid 28, 4, .inr (.inr (.inr (.inr f8))))) :: (h0, .inr (2, [.ref q_1, .ref q_3, .int 0, .int 0, .int p0, .null, .int 0, .null])) :: tl (sgF cid p0) adr i) → va_S A s.heap H locs → lv_has ls 3 [(2, .int (nI i)), (0, .ref h0), (1, .int p0)] → W p l e (headSpec wm_X2_init ({ frames := 2, cells := 19, slots := 114, locals := 42 })).room s m ([.ref h0, .int p0] : List Value).toArray below meth c H locs (i * 4 + 2) (i * 20 + 8) Q (F0 m 27 ls []) := by
    intro n
    induction n with
    | zero =>
      intro i adr f8 f9 H locs ls hi9 hf8 hf9 hP hD hS hl
      obtain rfl : i = 4 := by omega
      have hl : lv_has ls 3 [(2, .int 4), (0, .ref h0), (1, .int p0)] := hl
      refine W.widen (k := 18) (n := 88) (Nat.le_of_ble_eq_true rfl) (Nat.le_of_ble_eq_true rfl) ?_
      refine lv_iload_n hx hb dX2_init_27 rfl (lv_at hl 0 rfl) ?_
      refine lv_iconst (v := 4) hx hb dX2_init_28 (by decide) ?_
      refine lv_icmp_ge (tgt := 68) hx hb dX2_init_29 (by decide) (fun _ => ?_) (fun c9 => absurd (by decide) c9)
      refine lv_aload_n hx hb dX2_init_68 rfl (lv_at hl 1 rfl) ?_
      refine lv_bipush (v := 26) hx hb dX2_init_69 (by decide) ?_
      refine va_newa (D := (dC, dI)) (atype := .int) (ty := .int) (N' := 26) (a0 := (26, .inl (fun _ => 0))) hx hb (htb _ kw_52) rfl hK hP hD hS hA (fun _ => rfl) (by decide) (by decide) (by decide) (Nat.le_of_ble_eq_true rfl) (Nat.le_of_ble_eq_true rfl) dX2_init_71 (fun q_5 cA_6 H hK2 hP hD hS => ?_)
      obtain rfl : cA_6 = cid 30 := ty_eq (by decide) hK hK2 rfl
      have hP : va_P (dC, dI) vwCl ((q_5, .inl (cid 30, 26, .inl (fun _ => 0))) :: (q_3, .inl (cid 29, 4, .inr (.inr (.inr (.inr f9))))) :: (q_1, .inl (cid 28, 4, .inr (.inr (.inr (.inr f8))))) :: (h0, .inr (2, [.ref q_1, .ref q_3, .int 0, .int 0, .int p0, .null, .int 0, .null])) :: tl (sgF cid p0) adr 4) H := fr_P hP
      have hD : va_D A ((q_5, .inl (cid 30, 26, .inl (fun _ => 0))) :: (q_3, .inl (cid 29, 4, .inr (.inr (.inr (.inr f9))))) :: (q_1, .inl (cid 28, 4, .inr (.inr (.inr (.inr f8))))) :: (h0, .inr (2, [.ref q_1, .ref q_3, .int 0, .int 0, .int p0, .null, .int 0, .null])) :: tl (sgF cid p0) adr 4) := fr_D hD
      refine W.widen (k := 19) (n := 114) (Nat.le_of_ble_eq_true rfl) (Nat.le_of_ble_eq_true rfl) ?_
      refine va_putF (D := (dC, dI)) (ci := 2) (v := .ref q_5) (ty := tyX2 5) (C := RX2) (T := TX2) (N := 8) hx hb htb inX2 tyX2 tyX2_ok nmX2 hown hK hP hD hS 3 rfl rfl 5 (by decide) (htb _ kw_53) (fun _ h9 => h9) rfl hin rfl (tyX2_ok 5 (by decide)) rfl rfl (Nat.le_of_ble_eq_true rfl) dX2_init_73 (fun H locs hP hD hS => ?_)
      have hP : va_P (dC, dI) vwCl ((q_5, .inl (cid 30, 26, .inl (fun _ => 0))) :: (q_3, .inl (cid 29, 4, .inr (.inr (.inr (.inr f9))))) :: (q_1, .inl (cid 28, 4, .inr (.inr (.inr (.inr f8))))) :: (h0, .inr (2, [.ref q_1, .ref q_3, .int 0, .int 0, .int p0, .ref q_5, .int 0, .null])) :: tl (sgF cid p0) adr 4) H := hP
      have hD : va_D A ((q_5, .inl (cid 30, 26, .inl (fun _ => 0))) :: (q_3, .inl (cid 29, 4, .inr (.inr (.inr (.inr f9))))) :: (q_1, .inl (cid 28, 4, .inr (.inr (.inr (.inr f8))))) :: (h0, .inr (2, [.ref q_1, .ref q_3, .int 0, .int 0, .int p0, .ref q_5, .int 0, .null])) :: tl (sgF cid p0) adr 4) := hD
      refine lv_iconst (v := 0) hx hb dX2_init_76 (by decide) ?_
      refine lv_istore_n (lv' := [(2, .int 0), (0, .ref h0), (1, .int p0)]) hx hb dX2_init_77 rfl hl (by decide) rfl (fun ls hl => ?_)
      have hloop : ∀ (n i : Nat) (g0 : Nat → Int32) (H : Heap) (locs : List Loc) (ls : Array Slot), i + n = 26 → (∀ j, j < i → g0 j = -1) → va_P (dC, dI) vwCl ((q_5, .inl (cid 30, 26, .inl g0)) :: (q_3, .inl (cid 29, 4, .inr (.inr (.inr (.inr f9))))) :: (q_1, .inl (cid 28, 4, .inr (.inr (.inr (.inr f8))))) :: (h0, .inr (2, [.ref q_1, .ref q_3, .int 0, .int 0, .int p0, .ref q_5, .int 0, .null])) :: tl (sgF cid p0) adr 4) H → va_D A ((q_5, .inl (cid 30, 26, .inl g0)) :: (q_3, .inl (cid 29, 4, .inr (.inr (.inr (.inr f9))))) :: (q_1, .inl (cid 28, 4, .inr (.inr (.inr (.inr f8))))) :: (h0, .inr (2, [.ref q_1, .ref q_3, .int 0, .int 0, .int p0, .ref q_5, .int 0, .null])) :: tl (sgF cid p0) adr 4) → va_S A s.heap H locs → lv_has ls 3 [(2, .int (nI i)), (0, .ref h0), (1, .int p0)] → W p l e (headSpec wm_X2_init ({ frames := 2, cells := 19, slots := 114, locals := 42 })).room s m ([.ref h0, .int p0] : List Value).toArray below meth c H locs (i * 0 + 19) (i * 0 + 114) Q (F0 m 78 ls []) := by
        intro n
        induction n with
        | zero =>
          intro i g0 H locs ls hi9 hg0 hP hD hS hl
          obtain rfl : i = 26 := by omega
          have hl : lv_has ls 3 [(2, .int 26), (0, .ref h0), (1, .int p0)] := hl
          refine W.widen (k := 19) (n := 114) (Nat.le_of_ble_eq_true rfl) (Nat.le_of_ble_eq_true rfl) ?_
          refine lv_iload_n hx hb dX2_init_78 rfl (lv_at hl 0 rfl) ?_
          refine lv_bipush (v := 26) hx hb dX2_init_79 (by decide) ?_
          refine lv_icmp_ge (tgt := 97) hx hb dX2_init_81 (by decide) (fun _ => ?_) (fun c9 => absurd (by decide) c9)
          rw [eQ]
          exact W.vret hx hb hr (fun t ht hW => ⟨⟨(q_5, .inl (cid 30, 26, .inl g0)) :: (q_3, .inl (cid 29, 4, .inr (.inr (.inr (.inr f9))))) :: (q_1, .inl (cid 28, 4, .inr (.inr (.inr (.inr f8))))) :: (h0, .inr (2, [.ref q_1, .ref q_3, .int 0, .int 0, .int p0, .ref q_5, .int 0, .null])) :: tl (sgF cid p0) adr 4, rfl, ⟨((h0, q_1, q_3, q_5), adr, (f8, f9), g0), rfl, rfl, hf8, hf9, hg0⟩, by rw [ht]; exact hP, va_K.moved hW.alike hK, hD⟩, hS.F ht⟩) hS.2.2 dX2_init_97
        | succ n ih =>
          intro i g0 H locs ls hi9 hg0 hP hD hS hl
          have hlt : i < 26 := by omega
          refine lv_iload_n hx hb dX2_init_78 rfl (lv_at hl 0 rfl) ?_
          refine lv_bipush (v := 26) hx hb dX2_init_79 (by decide) ?_
          refine lv_icmp_ge (tgt := 97) hx hb dX2_init_81 (by decide) (fun c9 => absurd c9 (nI_ge hlt (by decide))) (fun _ => ?_)
          refine lv_aload_n hx hb dX2_init_84 rfl (lv_at hl 1 rfl) ?_
          refine va_get (D := (dC, dI)) (ci := 2) (v := .ref q_5) (C := RX2) (T := TX2) (N := 8) hx hb htb inX2 hown hK hP 3 rfl rfl 5 (by decide) (htb _ kw_53) (fun _ h9 => h9) rfl dX2_init_85 ?_
          refine lv_iload_n hx hb dX2_init_88 rfl (lv_at hl 0 rfl) ?_
          refine lv_iconst (v := (-1)) hx hb dX2_init_89 (by decide) ?_
          refine va_iast (D := (dC, dI)) (f := g0) hx hb hK hP hD hS 0 30 rfl rfl (vp_in_nI hlt (by decide)) dX2_init_90 (fun H locs hP hD hS => ?_)
          have hP : va_P (dC, dI) vwCl ((q_5, .inl (cid 30, 26, .inl (upd g0 (nI i).toNatClampNeg (-1)))) :: (q_3, .inl (cid 29, 4, .inr (.inr (.inr (.inr f9))))) :: (q_1, .inl (cid 28, 4, .inr (.inr (.inr (.inr f8))))) :: (h0, .inr (2, [.ref q_1, .ref q_3, .int 0, .int 0, .int p0, .ref q_5, .int 0, .null])) :: tl (sgF cid p0) adr 4) H := hP
          have hD : va_D A ((q_5, .inl (cid 30, 26, .inl (upd g0 (nI i).toNatClampNeg (-1)))) :: (q_3, .inl (cid 29, 4, .inr (.inr (.inr (.inr f9))))) :: (q_1, .inl (cid 28, 4, .inr (.inr (.inr (.inr f8))))) :: (h0, .inr (2, [.ref q_1, .ref q_3, .int 0, .int 0, .int p0, .ref q_5, .int 0, .null])) :: tl (sgF cid p0) adr 4) := hD
          refine lv_iinc (v := nI (i + 1)) (lv' := [(2, .int (nI (i + 1))), (0, .ref h0), (1, .int p0)]) hx hb dX2_init_91 hl (k := 0) rfl (nI_1 i) (by decide) rfl (fun ls hl => ?_)
          refine lv_goto (tgt := 78) hx hb dX2_init_94 (by decide) ?_
          refine W.widen (k := (i + 1) * 0 + 19) (n := (i + 1) * 0 + 114) (by omega) (by omega) ?_
          exact ih (i + 1) (upd g0 (nI i).toNatClampNeg (-1)) _ _ _ (by omega) (fl_s (by omega) hg0) hP hD hS hl
      exact hloop 26 0 (fun _ => 0) _ _ _ rfl (fun j hj => absurd hj (Nat.not_lt_zero j)) hP hD hS hl
    | succ n ih =>
      intro i adr f8 f9 H locs ls hi9 hf8 hf9 hP hD hS hl
      have hlt : i < 4 := by omega
      refine lv_iload_n hx hb dX2_init_27 rfl (lv_at hl 0 rfl) ?_
      refine lv_iconst (v := 4) hx hb dX2_init_28 (by decide) ?_
      refine lv_icmp_ge (tgt := 68) hx hb dX2_init_29 (by decide) (fun c9 => absurd c9 (nI_ge hlt (by decide))) (fun _ => ?_)
      refine lv_aload_n hx hb dX2_init_32 rfl (lv_at hl 1 rfl) ?_
      refine va_get (D := (dC, dI)) (ci := 2) (v := .ref q_1) (C := RX2) (T := TX2) (N := 8) hx hb htb inX2 hown hK hP 2 rfl rfl 0 (by decide) (htb _ kw_48) (fun _ h9 => h9) rfl dX2_init_33 ?_
      refine lv_iload_n hx hb dX2_init_36 rfl (lv_at hl 0 rfl) ?_
      refine va_new (ci := 8) (fs := nvX8) (C := RX8) (T := TX8) (N := 7) hx hb htb inX8 tyX8 tyX8_ok hown (htb _ kw_47) (htb _ kw_50) (htb _ kw_51) hK hP hD hS hA rfl nwX8 (by show (i * 4 + 2) + 1 ≤ 19; omega) (by show (i * 20 + 8) + 7 ≤ 114; omega) dX2_init_37 (fun q_7 H hP hD hS => ?_)
      have hP : va_P (dC, dI) vwCl ((q_7, .inr (8, [.int 0, .int 0, .null, .int 0, .int 0, .int 0, .int 0])) :: (q_3, .inl (cid 29, 4, .inr (.inr (.inr (.inr f9))))) :: (q_1, .inl (cid 28, 4, .inr (.inr (.inr (.inr f8))))) :: (h0, .inr (2, [.ref q_1, .ref q_3, .int 0, .int 0, .int p0, .null, .int 0, .null])) :: tl (sgF cid p0) adr i) H := fr_P hP
      have hD : va_D A ((q_7, .inr (8, [.int 0, .int 0, .null, .int 0, .int 0, .int 0, .int 0])) :: (q_3, .inl (cid 29, 4, .inr (.inr (.inr (.inr f9))))) :: (q_1, .inl (cid 28, 4, .inr (.inr (.inr (.inr f8))))) :: (h0, .inr (2, [.ref q_1, .ref q_3, .int 0, .int 0, .int p0, .null, .int 0, .null])) :: tl (sgF cid p0) adr i) := fr_D hD
      refine W.widen (k := i * 4 + 3) (n := i * 20 + 15) (by omega) (by omega) ?_
      refine lv_dup hx hb dX2_init_40 rfl ?_
      refine lv_iload_n hx hb dX2_init_41 rfl (lv_at hl 2 rfl) ?_
      refine lv_iload_n hx hb dX2_init_42 rfl (lv_at hl 0 rfl) ?_
      refine nw_call (rest := [.ref q_7, .int (nI i), .ref q_1]) (r := (q_3, .inl (cid 29, 4, .inr (.inr (.inr (.inr f9))))) :: (q_1, .inl (cid 28, 4, .inr (.inr (.inr (.inr f8))))) :: (h0, .inr (2, [.ref q_1, .ref q_3, .int 0, .int 0, .int p0, .null, .int 0, .null])) :: tl (sgF cid p0) adr i) ⟨hx, hb, hml, hown, htb⟩ (n_X8 l dC dI ad cid (q_7) (p0) ((nI i))) (cwI 2 htb (gd_c kw_1371) rfl rfl rfl (htb _ kw_51) (htb _ kw_54) (htb _ kw_55) rfl (by decide +kernel) ⟨Nat.le_of_ble_eq_true rfl, Nat.le_of_ble_eq_true rfl⟩) rfl hl.1 rfl (Nat.le_of_ble_eq_true rfl) dX2_init_43 ⟨(by show (i * 4 + 3) + 1 ≤ 19; omega), (by show (i * 20 + 15) + 3 ≤ 114; omega)⟩ hK hP hD hS hA hG (fun w H locs hw hP7 hD7 hS => ?_)
      obtain ⟨a_8, rfl⟩ := hw
      have hP : va_P (dC, dI) vwCl ((q_3, .inl (cid 29, 4, .inr (.inr (.inr (.inr f9))))) :: (q_1, .inl (cid 28, 4, .inr (.inr (.inr (.inr f8))))) :: (h0, .inr (2, [.ref q_1, .ref q_3, .int 0, .int 0, .int p0, .null, .int 0, .null])) :: (sgW cid (p0) ((nI i)) q_7 a_8 ++ tl (sgF cid p0) adr i)) H := sw_P (E := [(q_3, .inl (cid 29, 4, .inr (.inr (.inr (.inr f9))))), (q_1, .inl (cid 28, 4, .inr (.inr (.inr (.inr f8))))), (h0, .inr (2, [.ref q_1, .ref q_3, .int 0, .int 0, .int p0, .null, .int 0, .null]))]) (w := sgW cid (p0) ((nI i)) q_7 a_8) (T := tl (sgF cid p0) adr i) hP7
      have hD : va_D A ((q_3, .inl (cid 29, 4, .inr (.inr (.inr (.inr f9))))) :: (q_1, .inl (cid 28, 4, .inr (.inr (.inr (.inr f8))))) :: (h0, .inr (2, [.ref q_1, .ref q_3, .int 0, .int 0, .int p0, .null, .int 0, .null])) :: (sgW cid (p0) ((nI i)) q_7 a_8 ++ tl (sgF cid p0) adr i)) := sw_D (E := [(q_3, .inl (cid 29, 4, .inr (.inr (.inr (.inr f9))))), (q_1, .inl (cid 28, 4, .inr (.inr (.inr (.inr f8))))), (h0, .inr (2, [.ref q_1, .ref q_3, .int 0, .int 0, .int p0, .null, .int 0, .null]))]) (w := sgW cid (p0) ((nI i)) q_7 a_8) (T := tl (sgF cid p0) adr i) hD7
      refine W.widen (k := i * 4 + 4) (n := i * 20 + 18) (by omega) (by omega) ?_
      refine va_astq (D := (dC, dI)) (r := (RX8, TX8, 7)) hx hb hK hP hD hS 1 28 4 8 rfl rfl rfl rfl (vp_in_nI hlt (by decide)) dX2_init_46 (fun H locs hP hD hS => ?_)
      have hP : va_P (dC, dI) vwCl ((q_3, .inl (cid 29, 4, .inr (.inr (.inr (.inr f9))))) :: (q_1, .inl (cid 28, 4, .inr (.inr (.inr (.inr (va_up f8 (nI i).toNatClampNeg (some q_7))))))) :: (h0, .inr (2, [.ref q_1, .ref q_3, .int 0, .int 0, .int p0, .null, .int 0, .null])) :: (sgW cid (p0) ((nI i)) q_7 a_8 ++ tl (sgF cid p0) adr i)) H := hP
      have hD : va_D A ((q_3, .inl (cid 29, 4, .inr (.inr (.inr (.inr f9))))) :: (q_1, .inl (cid 28, 4, .inr (.inr (.inr (.inr (va_up f8 (nI i).toNatClampNeg (some q_7))))))) :: (h0, .inr (2, [.ref q_1, .ref q_3, .int 0, .int 0, .int p0, .null, .int 0, .null])) :: (sgW cid (p0) ((nI i)) q_7 a_8 ++ tl (sgF cid p0) adr i)) := hD
      refine lv_aload_n hx hb dX2_init_47 rfl (lv_at hl 1 rfl) ?_
      refine va_get (D := (dC, dI)) (ci := 2) (v := .ref q_3) (C := RX2) (T := TX2) (N := 8) hx hb htb inX2 hown hK hP 2 rfl rfl 1 (by decide) (htb _ kw_49) (fun _ h9 => h9) rfl dX2_init_48 ?_
      refine lv_iload_n hx hb dX2_init_51 rfl (lv_at hl 0 rfl) ?_
      refine va_new (ci := 8) (fs := nvX8) (C := RX8) (T := TX8) (N := 7) hx hb htb inX8 tyX8 tyX8_ok hown (htb _ kw_47) (htb _ kw_50) (htb _ kw_51) hK hP hD hS hA rfl nwX8 (by show (i * 4 + 4) + 1 ≤ 19; omega) (by show (i * 20 + 18) + 7 ≤ 114; omega) dX2_init_52 (fun q_9 H hP hD hS => ?_)
      have hP : va_P (dC, dI) vwCl ((q_9, .inr (8, [.int 0, .int 0, .null, .int 0, .int 0, .int 0, .int 0])) :: (q_3, .inl (cid 29, 4, .inr (.inr (.inr (.inr f9))))) :: (q_1, .inl (cid 28, 4, .inr (.inr (.inr (.inr (va_up f8 (nI i).toNatClampNeg (some q_7))))))) :: (h0, .inr (2, [.ref q_1, .ref q_3, .int 0, .int 0, .int p0, .null, .int 0, .null])) :: (sgW cid (p0) ((nI i)) q_7 a_8 ++ tl (sgF cid p0) adr i)) H := fr_P hP
      have hD : va_D A ((q_9, .inr (8, [.int 0, .int 0, .null, .int 0, .int 0, .int 0, .int 0])) :: (q_3, .inl (cid 29, 4, .inr (.inr (.inr (.inr f9))))) :: (q_1, .inl (cid 28, 4, .inr (.inr (.inr (.inr (va_up f8 (nI i).toNatClampNeg (some q_7))))))) :: (h0, .inr (2, [.ref q_1, .ref q_3, .int 0, .int 0, .int p0, .null, .int 0, .null])) :: (sgW cid (p0) ((nI i)) q_7 a_8 ++ tl (sgF cid p0) adr i)) := fr_D hD
      refine W.widen (k := i * 4 + 5) (n := i * 20 + 25) (by omega) (by omega) ?_
      refine lv_dup hx hb dX2_init_55 rfl ?_
      refine lv_iload_n hx hb dX2_init_56 rfl (lv_at hl 2 rfl) ?_
      refine lv_iload_n hx hb dX2_init_57 rfl (lv_at hl 0 rfl) ?_
      refine nw_call (rest := [.ref q_9, .int (nI i), .ref q_3]) (r := (q_3, .inl (cid 29, 4, .inr (.inr (.inr (.inr f9))))) :: (q_1, .inl (cid 28, 4, .inr (.inr (.inr (.inr (va_up f8 (nI i).toNatClampNeg (some q_7))))))) :: (h0, .inr (2, [.ref q_1, .ref q_3, .int 0, .int 0, .int p0, .null, .int 0, .null])) :: (sgW cid (p0) ((nI i)) q_7 a_8 ++ tl (sgF cid p0) adr i)) ⟨hx, hb, hml, hown, htb⟩ (n_X8 l dC dI ad cid (q_9) (p0) ((nI i))) (cwI 2 htb (gd_c kw_1371) rfl rfl rfl (htb _ kw_51) (htb _ kw_54) (htb _ kw_55) rfl (by decide +kernel) ⟨Nat.le_of_ble_eq_true rfl, Nat.le_of_ble_eq_true rfl⟩) rfl hl.1 rfl (Nat.le_of_ble_eq_true rfl) dX2_init_58 ⟨(by show (i * 4 + 5) + 1 ≤ 19; omega), (by show (i * 20 + 25) + 3 ≤ 114; omega)⟩ hK hP hD hS hA hG (fun w H locs hw hP7 hD7 hS => ?_)
      obtain ⟨a_10, rfl⟩ := hw
      have hP : va_P (dC, dI) vwCl ((q_3, .inl (cid 29, 4, .inr (.inr (.inr (.inr f9))))) :: (q_1, .inl (cid 28, 4, .inr (.inr (.inr (.inr (va_up f8 (nI i).toNatClampNeg (some q_7))))))) :: (h0, .inr (2, [.ref q_1, .ref q_3, .int 0, .int 0, .int p0, .null, .int 0, .null])) :: (sgW cid (p0) ((nI i)) q_9 a_10 ++ (sgW cid (p0) ((nI i)) q_7 a_8 ++ tl (sgF cid p0) adr i))) H := sw_P (E := [(q_3, .inl (cid 29, 4, .inr (.inr (.inr (.inr f9))))), (q_1, .inl (cid 28, 4, .inr (.inr (.inr (.inr (va_up f8 (nI i).toNatClampNeg (some q_7))))))), (h0, .inr (2, [.ref q_1, .ref q_3, .int 0, .int 0, .int p0, .null, .int 0, .null]))]) (w := sgW cid (p0) ((nI i)) q_9 a_10) (T := (sgW cid (p0) ((nI i)) q_7 a_8 ++ tl (sgF cid p0) adr i)) hP7
      have hD : va_D A ((q_3, .inl (cid 29, 4, .inr (.inr (.inr (.inr f9))))) :: (q_1, .inl (cid 28, 4, .inr (.inr (.inr (.inr (va_up f8 (nI i).toNatClampNeg (some q_7))))))) :: (h0, .inr (2, [.ref q_1, .ref q_3, .int 0, .int 0, .int p0, .null, .int 0, .null])) :: (sgW cid (p0) ((nI i)) q_9 a_10 ++ (sgW cid (p0) ((nI i)) q_7 a_8 ++ tl (sgF cid p0) adr i))) := sw_D (E := [(q_3, .inl (cid 29, 4, .inr (.inr (.inr (.inr f9))))), (q_1, .inl (cid 28, 4, .inr (.inr (.inr (.inr (va_up f8 (nI i).toNatClampNeg (some q_7))))))), (h0, .inr (2, [.ref q_1, .ref q_3, .int 0, .int 0, .int p0, .null, .int 0, .null]))]) (w := sgW cid (p0) ((nI i)) q_9 a_10) (T := (sgW cid (p0) ((nI i)) q_7 a_8 ++ tl (sgF cid p0) adr i)) hD7
      refine W.widen (k := i * 4 + 6) (n := i * 20 + 28) (by omega) (by omega) ?_
      refine va_astq (D := (dC, dI)) (r := (RX8, TX8, 7)) hx hb hK hP hD hS 0 29 4 8 rfl rfl rfl rfl (vp_in_nI hlt (by decide)) dX2_init_61 (fun H locs hP hD hS => ?_)
      have hP : va_P (dC, dI) vwCl ((q_3, .inl (cid 29, 4, .inr (.inr (.inr (.inr (va_up f9 (nI i).toNatClampNeg (some q_9))))))) :: (q_1, .inl (cid 28, 4, .inr (.inr (.inr (.inr (va_up f8 (nI i).toNatClampNeg (some q_7))))))) :: (h0, .inr (2, [.ref q_1, .ref q_3, .int 0, .int 0, .int p0, .null, .int 0, .null])) :: (sgW cid (p0) ((nI i)) q_9 a_10 ++ (sgW cid (p0) ((nI i)) q_7 a_8 ++ tl (sgF cid p0) adr i))) H := hP
      have hD : va_D A ((q_3, .inl (cid 29, 4, .inr (.inr (.inr (.inr (va_up f9 (nI i).toNatClampNeg (some q_9))))))) :: (q_1, .inl (cid 28, 4, .inr (.inr (.inr (.inr (va_up f8 (nI i).toNatClampNeg (some q_7))))))) :: (h0, .inr (2, [.ref q_1, .ref q_3, .int 0, .int 0, .int p0, .null, .int 0, .null])) :: (sgW cid (p0) ((nI i)) q_9 a_10 ++ (sgW cid (p0) ((nI i)) q_7 a_8 ++ tl (sgF cid p0) adr i))) := hD
      refine lv_iinc (v := nI (i + 1)) (lv' := [(2, .int (nI (i + 1))), (0, .ref h0), (1, .int p0)]) hx hb dX2_init_62 hl (k := 0) rfl (nI_1 i) (by decide) rfl (fun ls hl => ?_)
      refine lv_goto (tgt := 27) hx hb dX2_init_65 (by decide) ?_
      refine W.widen (k := (i + 1) * 4 + 2) (n := (i + 1) * 20 + 8) (by omega) (by omega) ?_
      have et9 := tl_s (F := sgF cid p0) (adr := adr) (i := i) (u := (q_7, a_8, q_9, a_10))
      have hP : va_P (dC, dI) vwCl ((q_3, .inl (cid 29, 4, .inr (.inr (.inr (.inr (va_up f9 (nI i).toNatClampNeg (some q_9))))))) :: (q_1, .inl (cid 28, 4, .inr (.inr (.inr (.inr (va_up f8 (nI i).toNatClampNeg (some q_7))))))) :: (h0, .inr (2, [.ref q_1, .ref q_3, .int 0, .int 0, .int p0, .null, .int 0, .null])) :: tl (sgF cid p0) (va_up adr i (q_7, a_8, q_9, a_10)) (i + 1)) H := by rw [et9]; exact hP
      have hD : va_D A ((q_3, .inl (cid 29, 4, .inr (.inr (.inr (.inr (va_up f9 (nI i).toNatClampNeg (some q_9))))))) :: (q_1, .inl (cid 28, 4, .inr (.inr (.inr (.inr (va_up f8 (nI i).toNatClampNeg (some q_7))))))) :: (h0, .inr (2, [.ref q_1, .ref q_3, .int 0, .int 0, .int p0, .null, .int 0, .null])) :: tl (sgF cid p0) (va_up adr i (q_7, a_8, q_9, a_10)) (i + 1)) := by rw [et9]; exact hD
      exact ih (i + 1) (va_up adr i (q_7, a_8, q_9, a_10)) (va_up f8 (nI i).toNatClampNeg (some q_7)) (va_up f9 (nI i).toNatClampNeg (some q_9)) _ _ _ (by omega) (fs_q (α := Nat × Nat × Nat × Nat) (u := (q_7, a_8, q_9, a_10)) (fun x => x.1) (by omega) hf8) (fs_q (α := Nat × Nat × Nat × Nat) (u := (q_7, a_8, q_9, a_10)) (fun x => x.2.2.1) (by omega) hf9) hP hD hS hl
  exact hloop 4 0 (fun _ => (0, 0, 0, 0)) (fun _ => none) (fun _ => none) _ _ _ rfl (fun j hj => absurd hj (Nat.not_lt_zero j)) (fun j hj => absurd hj (Nat.not_lt_zero j)) hP hD hS hl

def wbW (ad : Nat → Nat → Nat) (cid : Nat → ClassId) (h a12 a13 : Nat) (f2 : Nat → Option Nat) (adr : Nat → DU) (up : PU) (rd st : Nat) (uw : WU) (rw9 r1 mk a b f x q : Nat) : va_W := (a13, .inl (cid 13, 1200, .inl (fun _ => 0))) :: (a12, .inl (cid 12, 8, .inr (.inr (.inr (.inr f2))))) :: (h, .inr (11, [.ref a12, .ref a13, .ref up.1.1, .ref rd, .ref st, .ref uw.1.1, .ref rw9, .ref mk, .int 0, .int 0, .int 0, .int (-1)])) :: (mkW cid mk uw.1.1 a12 rw9 a b f x q ++ (rwW cid rw9 r1 ++ (wiW ad cid up.1.1 uw ++ ([(st, (.inr (9, [.ref up.1.1]) : va_E))] ++ ([(rd, (.inr (7, [.ref up.1.1, .null, .int 0, .int 0, .int 0, .null]) : va_E))] ++ (paW cid up ++ tl (dcF cid) adr 8))))))

theorem dX12_init_0 : decode cX12_init 0 = .ok (.aload_n 0, 1) := by decide +kernel
theorem dX12_init_1 : decode cX12_init 1 = .ok (.invokespecial 1, 3) := by decide +kernel
theorem dX12_init_4 : decode cX12_init 4 = .ok (.aload_n 0, 1) := by decide +kernel
theorem dX12_init_5 : decode cX12_init 5 = .ok (.bipush 8, 2) := by decide +kernel
theorem dX12_init_7 : decode cX12_init 7 = .ok (.anewarray 9, 3) := by decide +kernel
theorem dX12_init_10 : decode cX12_init 10 = .ok (.putfield 11, 3) := by decide +kernel
theorem dX12_init_13 : decode cX12_init 13 = .ok (.iconst 0, 1) := by decide +kernel
theorem dX12_init_14 : decode cX12_init 14 = .ok (.istore_n 1, 1) := by decide +kernel
theorem dX12_init_15 : decode cX12_init 15 = .ok (.iload_n 1, 1) := by decide +kernel
theorem dX12_init_16 : decode cX12_init 16 = .ok (.bipush 8, 2) := by decide +kernel
theorem dX12_init_18 : decode cX12_init 18 = .ok (.if_icmp .ge 23, 3) := by decide +kernel
theorem dX12_init_21 : decode cX12_init 21 = .ok (.aload_n 0, 1) := by decide +kernel
theorem dX12_init_22 : decode cX12_init 22 = .ok (.getfield 11, 3) := by decide +kernel
theorem dX12_init_25 : decode cX12_init 25 = .ok (.iload_n 1, 1) := by decide +kernel
theorem dX12_init_26 : decode cX12_init 26 = .ok (.new 9, 3) := by decide +kernel
theorem dX12_init_29 : decode cX12_init 29 = .ok (.dup, 1) := by decide +kernel
theorem dX12_init_30 : decode cX12_init 30 = .ok (.iload_n 1, 1) := by decide +kernel
theorem dX12_init_31 : decode cX12_init 31 = .ok (.invokespecial 15, 3) := by decide +kernel
theorem dX12_init_34 : decode cX12_init 34 = .ok (.aastore, 1) := by decide +kernel
theorem dX12_init_35 : decode cX12_init 35 = .ok (.iinc 1 1, 3) := by decide +kernel
theorem dX12_init_38 : decode cX12_init 38 = .ok (.goto (-23), 3) := by decide +kernel
theorem dX12_init_41 : decode cX12_init 41 = .ok (.aload_n 0, 1) := by decide +kernel
theorem dX12_init_42 : decode cX12_init 42 = .ok (.sipush 1200, 3) := by decide +kernel
theorem dX12_init_45 : decode cX12_init 45 = .ok (.newarray .char, 2) := by decide +kernel
theorem dX12_init_47 : decode cX12_init 47 = .ok (.putfield 18, 3) := by decide +kernel
theorem dX12_init_50 : decode cX12_init 50 = .ok (.aload_n 0, 1) := by decide +kernel
theorem dX12_init_51 : decode cX12_init 51 = .ok (.new 22, 3) := by decide +kernel
theorem dX12_init_54 : decode cX12_init 54 = .ok (.dup, 1) := by decide +kernel
theorem dX12_init_55 : decode cX12_init 55 = .ok (.sipush 1200, 3) := by decide +kernel
theorem dX12_init_58 : decode cX12_init 58 = .ok (.invokespecial 24, 3) := by decide +kernel
theorem dX12_init_61 : decode cX12_init 61 = .ok (.putfield 25, 3) := by decide +kernel
theorem dX12_init_64 : decode cX12_init 64 = .ok (.aload_n 0, 1) := by decide +kernel
theorem dX12_init_65 : decode cX12_init 65 = .ok (.new 29, 3) := by decide +kernel
theorem dX12_init_68 : decode cX12_init 68 = .ok (.dup, 1) := by decide +kernel
theorem dX12_init_69 : decode cX12_init 69 = .ok (.aload_n 0, 1) := by decide +kernel
theorem dX12_init_70 : decode cX12_init 70 = .ok (.getfield 25, 3) := by decide +kernel
theorem dX12_init_73 : decode cX12_init 73 = .ok (.invokespecial 31, 3) := by decide +kernel
theorem dX12_init_76 : decode cX12_init 76 = .ok (.putfield 34, 3) := by decide +kernel
theorem dX12_init_79 : decode cX12_init 79 = .ok (.aload_n 0, 1) := by decide +kernel
theorem dX12_init_80 : decode cX12_init 80 = .ok (.new 38, 3) := by decide +kernel
theorem dX12_init_83 : decode cX12_init 83 = .ok (.dup, 1) := by decide +kernel
theorem dX12_init_84 : decode cX12_init 84 = .ok (.aload_n 0, 1) := by decide +kernel
theorem dX12_init_85 : decode cX12_init 85 = .ok (.getfield 25, 3) := by decide +kernel
theorem dX12_init_88 : decode cX12_init 88 = .ok (.invokespecial 40, 3) := by decide +kernel
theorem dX12_init_91 : decode cX12_init 91 = .ok (.putfield 41, 3) := by decide +kernel
theorem dX12_init_94 : decode cX12_init 94 = .ok (.aload_n 0, 1) := by decide +kernel
theorem dX12_init_95 : decode cX12_init 95 = .ok (.new 45, 3) := by decide +kernel
theorem dX12_init_98 : decode cX12_init 98 = .ok (.dup, 1) := by decide +kernel
theorem dX12_init_99 : decode cX12_init 99 = .ok (.aload_n 0, 1) := by decide +kernel
theorem dX12_init_100 : decode cX12_init 100 = .ok (.getfield 25, 3) := by decide +kernel
theorem dX12_init_103 : decode cX12_init 103 = .ok (.invokespecial 47, 3) := by decide +kernel
theorem dX12_init_106 : decode cX12_init 106 = .ok (.putfield 48, 3) := by decide +kernel
theorem dX12_init_109 : decode cX12_init 109 = .ok (.aload_n 0, 1) := by decide +kernel
theorem dX12_init_110 : decode cX12_init 110 = .ok (.new 52, 3) := by decide +kernel
theorem dX12_init_113 : decode cX12_init 113 = .ok (.dup, 1) := by decide +kernel
theorem dX12_init_114 : decode cX12_init 114 = .ok (.invokespecial 54, 3) := by decide +kernel
theorem dX12_init_117 : decode cX12_init 117 = .ok (.putfield 55, 3) := by decide +kernel
theorem dX12_init_120 : decode cX12_init 120 = .ok (.aload_n 0, 1) := by decide +kernel
theorem dX12_init_121 : decode cX12_init 121 = .ok (.new 59, 3) := by decide +kernel
theorem dX12_init_124 : decode cX12_init 124 = .ok (.dup, 1) := by decide +kernel
theorem dX12_init_125 : decode cX12_init 125 = .ok (.aload_n 0, 1) := by decide +kernel
theorem dX12_init_126 : decode cX12_init 126 = .ok (.getfield 48, 3) := by decide +kernel
theorem dX12_init_129 : decode cX12_init 129 = .ok (.aload_n 0, 1) := by decide +kernel
theorem dX12_init_130 : decode cX12_init 130 = .ok (.getfield 11, 3) := by decide +kernel
theorem dX12_init_133 : decode cX12_init 133 = .ok (.aload_n 0, 1) := by decide +kernel
theorem dX12_init_134 : decode cX12_init 134 = .ok (.getfield 55, 3) := by decide +kernel
theorem dX12_init_137 : decode cX12_init 137 = .ok (.invokespecial 61, 3) := by decide +kernel
theorem dX12_init_140 : decode cX12_init 140 = .ok (.putfield 64, 3) := by decide +kernel
theorem dX12_init_143 : decode cX12_init 143 = .ok (.aload_n 0, 1) := by decide +kernel
theorem dX12_init_144 : decode cX12_init 144 = .ok (.iconst (-1), 1) := by decide +kernel
theorem dX12_init_145 : decode cX12_init 145 = .ok (.putfield 68, 3) := by decide +kernel
theorem dX12_init_148 : decode cX12_init 148 = .ok (.return_, 1) := by decide +kernel

set_option maxHeartbeats 4000000 in
set_option maxRecDepth 100000 in
theorem n_X12 (l : Launch) (dC : Nat → ClassId) (dI : Nat → Nat → Nat) (ad : Nat → Nat → Nat) (cid : Nat → ClassId) (h0 : Nat) : NM dC dI ad cid l yX12_init wm_X12_init ({ frames := 6, cells := 661, slots := 12981, locals := 123 }) [.ref h0] [(h0, .inr (11, [.null, .null, .null, .null, .null, .null, .null, .null, .int 0, .int 0, .int 0, .int 0]))] (fun w => ∃ (a12 a13 : Nat) (f2 : Nat → Option Nat) (adr : Nat → DU) (up : PU) (rd st : Nat) (uw : WU) (rw9 r1 mk a b f x q : Nat), w = wbW ad cid h0 a12 a13 f2 adr up rd st uw rw9 r1 mk a b f x q ∧ (∀ j, j < 8 → f2 j = some (adr j).1.1) ∧ (∀ j, j < 8 → dcP (adr j)) ∧ paP up ∧ wiP uw) 661 12981 := by
  intro sz
  refine Met.ofW (cc := cX12_init) (maxL := 2) (ret := none) (by decide) rfl ?_
  intro p e s m args below meth c s₁ B hml hv
  obtain ⟨rfl, hsz, hP, hK, hD0, hG⟩ := hv
  have hx := B.exec
  have hb := B.bytes
  have hr := B.returns
  have hts := atoms_spec (ws := wm_X12_init) B.pre
  have htb := fun (w : Cond) (h : w ∈ tb) => hts w (List.mem_cons_of_mem _ h)
  have hown : s.vm.findClass RX12 = some m.cls := findClass_of_methodNamed B.named
  have hlocks := B.notSynchronized
  have hin : meth.name = "<init>" := (name_of_methodNamed B.named B.method).1
  subst hsz
  have hD := hD0.self (sz := s.heap.size)
  generalize hAe : va_A [(h0, .inr (11, [.null, .null, .null, .null, .null, .null, .null, .null, .int 0, .int 0, .int 0, .int 0]))] s.heap.size = A at hD hG ⊢
  have hA : ∀ q : Nat, s.heap.size ≤ q → A q := fun q h => by rw [← hAe]; exact Or.inr h
  have hS : va_S A s.heap s.heap [] := va_S.rf
  have hl := lv_entry ([.ref h0]) (n := 2) (Nat.le_of_ble_eq_true rfl)
  rw [lg_entry_eq]
  generalize (lg_sl ([.ref h0]) ++ List.replicate (2 - (lg_sl ([.ref h0])).length) Slot.unset).toArray = ls at hl ⊢
  have hl : lv_has ls 2 [(0, .ref h0)] := hl
  have hP : va_P (dC, dI) vwCl ((h0, .inr (11, [.null, .null, .null, .null, .null, .null, .null, .null, .int 0, .int 0, .int 0, .int 0])) :: []) s.heap := hP
  have hD : va_D A ((h0, .inr (11, [.null, .null, .null, .null, .null, .null, .null, .null, .int 0, .int 0, .int 0, .int 0])) :: []) := hD
  refine n_gen (fun Q eQ => ?_)
  refine lv_aload_n hx hb dX12_init_0 rfl (lv_at hl 0 rfl) ?_
  refine W.objInit hx hb hown (htb _ kw_10) (htb _ kw_11) (htb _ kw_1369) rfl (by rw [hml]; exact hl.1) rfl dX12_init_1 (Nat.le_of_ble_eq_true rfl) (Nat.le_of_ble_eq_true rfl) ?_
  refine W.eq (g2 := F0 m 4 ls []) rfl ?_
  refine lv_aload_n hx hb dX12_init_4 rfl (lv_at hl 0 rfl) ?_
  refine lv_bipush (v := 8) hx hb dX12_init_5 (by decide) ?_
  refine va_newq (D := (dC, dI)) (N' := 8) (C := RX2) hx hb hown (htb _ kw_12) hG.1.1.1 hK hP hD hS hA (by decide) (by decide) (by decide) (Nat.le_of_ble_eq_true rfl) (Nat.le_of_ble_eq_true rfl) dX12_init_7 (fun q_1 cA_2 H hK2 hP hD hS => ?_)
  obtain rfl : cA_2 = cid 12 := ty_eq (by decide) hK hK2 rfl
  have hP : va_P (dC, dI) vwCl ((q_1, .inl (cid 12, 8, .inr (.inr (.inr (.inr (fun _ => none)))))) :: (h0, .inr (11, [.null, .null, .null, .null, .null, .null, .null, .null, .int 0, .int 0, .int 0, .int 0])) :: []) H := fr_P hP
  have hD : va_D A ((q_1, .inl (cid 12, 8, .inr (.inr (.inr (.inr (fun _ => none)))))) :: (h0, .inr (11, [.null, .null, .null, .null, .null, .null, .null, .null, .int 0, .int 0, .int 0, .int 0])) :: []) := fr_D hD
  refine W.widen (k := 1) (n := 8) (Nat.le_of_ble_eq_true rfl) (Nat.le_of_ble_eq_true rfl) ?_
  refine va_putF (D := (dC, dI)) (ci := 11) (v := .ref q_1) (ty := tyX12 0) (C := RX12) (T := TX12) (N := 12) hx hb htb inX12 tyX12 tyX12_ok nmX12 hown hK hP hD hS 1 rfl rfl 0 (by decide) (htb _ kw_13) (fun _ h9 => h9) rfl hin rfl (tyX12_ok 0 (by decide)) rfl rfl (Nat.le_of_ble_eq_true rfl) dX12_init_10 (fun H locs hP hD hS => ?_)
  have hP : va_P (dC, dI) vwCl ((q_1, .inl (cid 12, 8, .inr (.inr (.inr (.inr (fun _ => none)))))) :: (h0, .inr (11, [.ref q_1, .null, .null, .null, .null, .null, .null, .null, .int 0, .int 0, .int 0, .int 0])) :: []) H := hP
  have hD : va_D A ((q_1, .inl (cid 12, 8, .inr (.inr (.inr (.inr (fun _ => none)))))) :: (h0, .inr (11, [.ref q_1, .null, .null, .null, .null, .null, .null, .null, .int 0, .int 0, .int 0, .int 0])) :: []) := hD
  refine lv_iconst (v := 0) hx hb dX12_init_13 (by decide) ?_
  refine lv_istore_n (lv' := [(1, .int 0), (0, .ref h0)]) hx hb dX12_init_14 rfl hl (by decide) rfl (fun ls hl => ?_)
  have hloop : ∀ (n i : Nat) (adr : Nat → DU) (f2 : Nat → Option Nat) (H : Heap) (locs : List Loc) (ls : Array Slot), i + n = 8 → (∀ j, j < i → f2 j = some (adr j).1.1) → (∀ j, j < i → dcP (adr j)) → va_P (dC, dI) vwCl ((q_1, .inl (cid 12, 8, .inr (.inr (.inr (.inr f2))))) :: (h0, .inr (11, [.ref q_1, .null, .null, .null, .null, .null, .null, .null, .int 0, .int 0, .int 0, .int 0])) :: tl (dcF cid) adr i) H → va_D A ((q_1, .inl (cid 12, 8, .inr (.inr (.inr (.inr f2))))) :: (h0, .inr (11, [.ref q_1, .null, .null, .null, .null, .null, .null, .null, .int 0, .int 0, .int 0, .int 0])) :: tl (dcF cid) adr i) → va_S A s.heap H locs → lv_has ls 2 [(1, .int (nI i)), (0, .ref h0)] → W p l e (headSpec wm_X12_init ({ frames := 6, cells := 661, slots := 12981, locals := 123 })).room s m ([.ref h0] : List Value).toArray below meth c H locs (i * 20 + 1) (i * 122 + 8) Q (F0 m 15 ls []) := by
    intro n
    induction n with
    | zero =>
      intro i adr f2 H locs ls hi9 hf2 hdc hP hD hS hl
      obtain rfl : i = 8 := by omega
      have hl : lv_has ls 2 [(1, .int 8), (0, .ref h0)] := hl
      refine W.widen (k := 161) (n := 984) (Nat.le_of_ble_eq_true rfl) (Nat.le_of_ble_eq_true rfl) ?_
      refine lv_iload_n hx hb dX12_init_15 rfl (lv_at hl 0 rfl) ?_
      refine lv_bipush (v := 8) hx hb dX12_init_16 (by decide) ?_
      refine lv_icmp_ge (tgt := 41) hx hb dX12_init_18 (by decide) (fun _ => ?_) (fun c9 => absurd (by decide) c9)
      refine lv_aload_n hx hb dX12_init_41 rfl (lv_at hl 1 rfl) ?_
      refine lv_sipush (v := 1200) hx hb dX12_init_42 (by decide) ?_
      refine va_newa (D := (dC, dI)) (atype := .char) (ty := .char) (N' := 1200) (a0 := (1200, .inl (fun _ => 0))) hx hb (htb _ kw_16) rfl hK hP hD hS hA (fun _ => rfl) (by decide) (by decide) (by decide) (Nat.le_of_ble_eq_true rfl) (Nat.le_of_ble_eq_true rfl) dX12_init_45 (fun q_3 cA_4 H hK2 hP hD hS => ?_)
      obtain rfl : cA_4 = cid 13 := ty_eq (by decide) hK hK2 rfl
      have hP : va_P (dC, dI) vwCl ((q_3, .inl (cid 13, 1200, .inl (fun _ => 0))) :: (q_1, .inl (cid 12, 8, .inr (.inr (.inr (.inr f2))))) :: (h0, .inr (11, [.ref q_1, .null, .null, .null, .null, .null, .null, .null, .int 0, .int 0, .int 0, .int 0])) :: tl (dcF cid) adr 8) H := fr_P hP
      have hD : va_D A ((q_3, .inl (cid 13, 1200, .inl (fun _ => 0))) :: (q_1, .inl (cid 12, 8, .inr (.inr (.inr (.inr f2))))) :: (h0, .inr (11, [.ref q_1, .null, .null, .null, .null, .null, .null, .null, .int 0, .int 0, .int 0, .int 0])) :: tl (dcF cid) adr 8) := fr_D hD
      refine W.widen (k := 162) (n := 2184) (Nat.le_of_ble_eq_true rfl) (Nat.le_of_ble_eq_true rfl) ?_
      refine va_putF (D := (dC, dI)) (ci := 11) (v := .ref q_3) (ty := tyX12 1) (C := RX12) (T := TX12) (N := 12) hx hb htb inX12 tyX12 tyX12_ok nmX12 hown hK hP hD hS 2 rfl rfl 1 (by decide) (htb _ kw_17) (fun _ h9 => h9) rfl hin rfl (tyX12_ok 1 (by decide)) rfl rfl (Nat.le_of_ble_eq_true rfl) dX12_init_47 (fun H locs hP hD hS => ?_)
      have hP : va_P (dC, dI) vwCl ((q_3, .inl (cid 13, 1200, .inl (fun _ => 0))) :: (q_1, .inl (cid 12, 8, .inr (.inr (.inr (.inr f2))))) :: (h0, .inr (11, [.ref q_1, .ref q_3, .null, .null, .null, .null, .null, .null, .int 0, .int 0, .int 0, .int 0])) :: tl (dcF cid) adr 8) H := hP
      have hD : va_D A ((q_3, .inl (cid 13, 1200, .inl (fun _ => 0))) :: (q_1, .inl (cid 12, 8, .inr (.inr (.inr (.inr f2))))) :: (h0, .inr (11, [.ref q_1, .ref q_3, .null, .null, .null, .null, .null, .null, .int 0, .int 0, .int 0, .int 0])) :: tl (dcF cid) adr 8) := hD
      refine lv_aload_n hx hb dX12_init_50 rfl (lv_at hl 1 rfl) ?_
      refine va_new (ci := 6) (fs := nvX6) (C := RX6) (T := TX6) (N := 8) hx hb htb inX6 tyX6 tyX6_ok hown (htb _ kw_18) (htb _ kw_19) (htb _ kw_20) hK hP hD hS hA rfl nwX6 (Nat.le_of_ble_eq_true rfl) (Nat.le_of_ble_eq_true rfl) dX12_init_51 (fun q_5 H hP hD hS => ?_)
      have hP : va_P (dC, dI) vwCl ((q_5, .inr (6, [.null, .null, .null, .null, .null, .int 0, .int 0, .int 0])) :: (q_3, .inl (cid 13, 1200, .inl (fun _ => 0))) :: (q_1, .inl (cid 12, 8, .inr (.inr (.inr (.inr f2))))) :: (h0, .inr (11, [.ref q_1, .ref q_3, .null, .null, .null, .null, .null, .null, .int 0, .int 0, .int 0, .int 0])) :: tl (dcF cid) adr 8) H := fr_P hP
      have hD : va_D A ((q_5, .inr (6, [.null, .null, .null, .null, .null, .int 0, .int 0, .int 0])) :: (q_3, .inl (cid 13, 1200, .inl (fun _ => 0))) :: (q_1, .inl (cid 12, 8, .inr (.inr (.inr (.inr f2))))) :: (h0, .inr (11, [.ref q_1, .ref q_3, .null, .null, .null, .null, .null, .null, .int 0, .int 0, .int 0, .int 0])) :: tl (dcF cid) adr 8) := fr_D hD
      refine W.widen (k := 163) (n := 2192) (Nat.le_of_ble_eq_true rfl) (Nat.le_of_ble_eq_true rfl) ?_
      refine lv_dup hx hb dX12_init_54 rfl ?_
      refine lv_sipush (v := 1200) hx hb dX12_init_55 (by decide) ?_
      refine nw_call (rest := [.ref q_5, .ref h0]) (r := (q_3, .inl (cid 13, 1200, .inl (fun _ => 0))) :: (q_1, .inl (cid 12, 8, .inr (.inr (.inr (.inr f2))))) :: (h0, .inr (11, [.ref q_1, .ref q_3, .null, .null, .null, .null, .null, .null, .int 0, .int 0, .int 0, .int 0])) :: tl (dcF cid) adr 8) ⟨hx, hb, hml, hown, htb⟩ (n_X6 l dC dI ad cid (q_5)) (cwI 1 htb (gd_c kw_1372) rfl rfl rfl (htb _ kw_20) (htb _ kw_60) (htb _ kw_61) rfl (by decide +kernel) ⟨Nat.le_of_ble_eq_true rfl, Nat.le_of_ble_eq_true rfl⟩) rfl hl.1 rfl (Nat.le_of_ble_eq_true rfl) dX12_init_58 ⟨(Nat.le_of_ble_eq_true rfl), (Nat.le_of_ble_eq_true rfl)⟩ hK hP hD hS hA hG (fun w H locs hw hP7 hD7 hS => ?_)
      obtain ⟨u_6, eu_7, rfl, hu_8⟩ := hw
      subst eu_7
      have hP : va_P (dC, dI) vwCl ((q_3, .inl (cid 13, 1200, .inl (fun _ => 0))) :: (q_1, .inl (cid 12, 8, .inr (.inr (.inr (.inr f2))))) :: (h0, .inr (11, [.ref q_1, .ref q_3, .null, .null, .null, .null, .null, .null, .int 0, .int 0, .int 0, .int 0])) :: (paW cid u_6 ++ tl (dcF cid) adr 8)) H := sw_P (E := [(q_3, .inl (cid 13, 1200, .inl (fun _ => 0))), (q_1, .inl (cid 12, 8, .inr (.inr (.inr (.inr f2))))), (h0, .inr (11, [.ref q_1, .ref q_3, .null, .null, .null, .null, .null, .null, .int 0, .int 0, .int 0, .int 0]))]) (w := paW cid u_6) (T := tl (dcF cid) adr 8) hP7
      have hD : va_D A ((q_3, .inl (cid 13, 1200, .inl (fun _ => 0))) :: (q_1, .inl (cid 12, 8, .inr (.inr (.inr (.inr f2))))) :: (h0, .inr (11, [.ref q_1, .ref q_3, .null, .null, .null, .null, .null, .null, .int 0, .int 0, .int 0, .int 0])) :: (paW cid u_6 ++ tl (dcF cid) adr 8)) := sw_D (E := [(q_3, .inl (cid 13, 1200, .inl (fun _ => 0))), (q_1, .inl (cid 12, 8, .inr (.inr (.inr (.inr f2))))), (h0, .inr (11, [.ref q_1, .ref q_3, .null, .null, .null, .null, .null, .null, .int 0, .int 0, .int 0, .int 0]))]) (w := paW cid u_6) (T := tl (dcF cid) adr 8) hD7
      refine W.widen (k := 328) (n := 7792) (Nat.le_of_ble_eq_true rfl) (Nat.le_of_ble_eq_true rfl) ?_
      refine va_putF (D := (dC, dI)) (ci := 11) (v := .ref u_6.1.1) (ty := tyX12 2) (C := RX12) (T := TX12) (N := 12) hx hb htb inX12 tyX12 tyX12_ok nmX12 hown hK hP hD hS 2 rfl rfl 2 (by decide) (htb _ kw_21) (fun _ h9 => h9) rfl hin rfl (tyX12_ok 2 (by decide)) rfl rfl (Nat.le_of_ble_eq_true rfl) dX12_init_61 (fun H locs hP hD hS => ?_)
      have hP : va_P (dC, dI) vwCl ((q_3, .inl (cid 13, 1200, .inl (fun _ => 0))) :: (q_1, .inl (cid 12, 8, .inr (.inr (.inr (.inr f2))))) :: (h0, .inr (11, [.ref q_1, .ref q_3, .ref u_6.1.1, .null, .null, .null, .null, .null, .int 0, .int 0, .int 0, .int 0])) :: (paW cid u_6 ++ tl (dcF cid) adr 8)) H := hP
      have hD : va_D A ((q_3, .inl (cid 13, 1200, .inl (fun _ => 0))) :: (q_1, .inl (cid 12, 8, .inr (.inr (.inr (.inr f2))))) :: (h0, .inr (11, [.ref q_1, .ref q_3, .ref u_6.1.1, .null, .null, .null, .null, .null, .int 0, .int 0, .int 0, .int 0])) :: (paW cid u_6 ++ tl (dcF cid) adr 8)) := hD
      refine lv_aload_n hx hb dX12_init_64 rfl (lv_at hl 1 rfl) ?_
      refine va_new (ci := 7) (fs := nvX7) (C := RX7) (T := TX7) (N := 6) hx hb htb inX7 tyX7 tyX7_ok hown (htb _ kw_22) (htb _ kw_23) (htb _ kw_24) hK hP hD hS hA rfl nwX7 (Nat.le_of_ble_eq_true rfl) (Nat.le_of_ble_eq_true rfl) dX12_init_65 (fun q_9 H hP hD hS => ?_)
      have hP : va_P (dC, dI) vwCl ((q_9, .inr (7, [.null, .null, .int 0, .int 0, .int 0, .null])) :: (q_3, .inl (cid 13, 1200, .inl (fun _ => 0))) :: (q_1, .inl (cid 12, 8, .inr (.inr (.inr (.inr f2))))) :: (h0, .inr (11, [.ref q_1, .ref q_3, .ref u_6.1.1, .null, .null, .null, .null, .null, .int 0, .int 0, .int 0, .int 0])) :: (paW cid u_6 ++ tl (dcF cid) adr 8)) H := fr_P hP
      have hD : va_D A ((q_9, .inr (7, [.null, .null, .int 0, .int 0, .int 0, .null])) :: (q_3, .inl (cid 13, 1200, .inl (fun _ => 0))) :: (q_1, .inl (cid 12, 8, .inr (.inr (.inr (.inr f2))))) :: (h0, .inr (11, [.ref q_1, .ref q_3, .ref u_6.1.1, .null, .null, .null, .null, .null, .int 0, .int 0, .int 0, .int 0])) :: (paW cid u_6 ++ tl (dcF cid) adr 8)) := fr_D hD
      refine W.widen (k := 329) (n := 7798) (Nat.le_of_ble_eq_true rfl) (Nat.le_of_ble_eq_true rfl) ?_
      refine lv_dup hx hb dX12_init_68 rfl ?_
      refine lv_aload_n hx hb dX12_init_69 rfl (lv_at hl 1 rfl) ?_
      refine va_get (D := (dC, dI)) (ci := 11) (v := .ref u_6.1.1) (C := RX12) (T := TX12) (N := 12) hx hb htb inX12 hown hK hP 3 rfl rfl 2 (by decide) (htb _ kw_21) (fun _ h9 => h9) rfl dX12_init_70 ?_
      refine nw_call (rest := [.ref q_9, .ref h0]) (r := (q_3, .inl (cid 13, 1200, .inl (fun _ => 0))) :: (q_1, .inl (cid 12, 8, .inr (.inr (.inr (.inr f2))))) :: (h0, .inr (11, [.ref q_1, .ref q_3, .ref u_6.1.1, .null, .null, .null, .null, .null, .int 0, .int 0, .int 0, .int 0])) :: (paW cid u_6 ++ tl (dcF cid) adr 8)) ⟨hx, hb, hml, hown, htb⟩ (n_X7 l dC dI ad cid (q_9) (u_6.1.1)) (cwI 1 htb (gd_c kw_1374) rfl rfl rfl (htb _ kw_24) (htb _ kw_75) (htb _ kw_76) rfl (by decide +kernel) ⟨Nat.le_of_ble_eq_true rfl, Nat.le_of_ble_eq_true rfl⟩) rfl hl.1 rfl (Nat.le_of_ble_eq_true rfl) dX12_init_73 ⟨(Nat.le_of_ble_eq_true rfl), (Nat.le_of_ble_eq_true rfl)⟩ hK hP hD hS hA hG (fun w H locs hw hP7 hD7 hS => ?_)
      obtain ⟨rfl⟩ := hw
      have hP : va_P (dC, dI) vwCl ((q_3, .inl (cid 13, 1200, .inl (fun _ => 0))) :: (q_1, .inl (cid 12, 8, .inr (.inr (.inr (.inr f2))))) :: (h0, .inr (11, [.ref q_1, .ref q_3, .ref u_6.1.1, .null, .null, .null, .null, .null, .int 0, .int 0, .int 0, .int 0])) :: ([(q_9, (.inr (7, [.ref u_6.1.1, .null, .int 0, .int 0, .int 0, .null]) : va_E))] ++ (paW cid u_6 ++ tl (dcF cid) adr 8))) H := sw_P (E := [(q_3, .inl (cid 13, 1200, .inl (fun _ => 0))), (q_1, .inl (cid 12, 8, .inr (.inr (.inr (.inr f2))))), (h0, .inr (11, [.ref q_1, .ref q_3, .ref u_6.1.1, .null, .null, .null, .null, .null, .int 0, .int 0, .int 0, .int 0]))]) (w := [(q_9, (.inr (7, [.ref u_6.1.1, .null, .int 0, .int 0, .int 0, .null]) : va_E))]) (T := (paW cid u_6 ++ tl (dcF cid) adr 8)) hP7
      have hD : va_D A ((q_3, .inl (cid 13, 1200, .inl (fun _ => 0))) :: (q_1, .inl (cid 12, 8, .inr (.inr (.inr (.inr f2))))) :: (h0, .inr (11, [.ref q_1, .ref q_3, .ref u_6.1.1, .null, .null, .null, .null, .null, .int 0, .int 0, .int 0, .int 0])) :: ([(q_9, (.inr (7, [.ref u_6.1.1, .null, .int 0, .int 0, .int 0, .null]) : va_E))] ++ (paW cid u_6 ++ tl (dcF cid) adr 8))) := sw_D (E := [(q_3, .inl (cid 13, 1200, .inl (fun _ => 0))), (q_1, .inl (cid 12, 8, .inr (.inr (.inr (.inr f2))))), (h0, .inr (11, [.ref q_1, .ref q_3, .ref u_6.1.1, .null, .null, .null, .null, .null, .int 0, .int 0, .int 0, .int 0]))]) (w := [(q_9, (.inr (7, [.ref u_6.1.1, .null, .int 0, .int 0, .int 0, .null]) : va_E))]) (T := (paW cid u_6 ++ tl (dcF cid) adr 8)) hD7
      refine W.widen (k := 329) (n := 7798) (Nat.le_of_ble_eq_true rfl) (Nat.le_of_ble_eq_true rfl) ?_
      refine va_putF (D := (dC, dI)) (ci := 11) (v := .ref q_9) (ty := tyX12 3) (C := RX12) (T := TX12) (N := 12) hx hb htb inX12 tyX12 tyX12_ok nmX12 hown hK hP hD hS 2 rfl rfl 3 (by decide) (htb _ kw_25) (fun _ h9 => h9) rfl hin rfl (tyX12_ok 3 (by decide)) rfl rfl (Nat.le_of_ble_eq_true rfl) dX12_init_76 (fun H locs hP hD hS => ?_)
      have hP : va_P (dC, dI) vwCl ((q_3, .inl (cid 13, 1200, .inl (fun _ => 0))) :: (q_1, .inl (cid 12, 8, .inr (.inr (.inr (.inr f2))))) :: (h0, .inr (11, [.ref q_1, .ref q_3, .ref u_6.1.1, .ref q_9, .null, .null, .null, .null, .int 0, .int 0, .int 0, .int 0])) :: ([(q_9, (.inr (7, [.ref u_6.1.1, .null, .int 0, .int 0, .int 0, .null]) : va_E))] ++ (paW cid u_6 ++ tl (dcF cid) adr 8))) H := hP
      have hD : va_D A ((q_3, .inl (cid 13, 1200, .inl (fun _ => 0))) :: (q_1, .inl (cid 12, 8, .inr (.inr (.inr (.inr f2))))) :: (h0, .inr (11, [.ref q_1, .ref q_3, .ref u_6.1.1, .ref q_9, .null, .null, .null, .null, .int 0, .int 0, .int 0, .int 0])) :: ([(q_9, (.inr (7, [.ref u_6.1.1, .null, .int 0, .int 0, .int 0, .null]) : va_E))] ++ (paW cid u_6 ++ tl (dcF cid) adr 8))) := hD
      refine lv_aload_n hx hb dX12_init_79 rfl (lv_at hl 1 rfl) ?_
      refine va_new (ci := 9) (fs := nvX9) (C := RX9) (T := TX9) (N := 1) hx hb htb inX9 tyX9 tyX9_ok hown (htb _ kw_26) (htb _ kw_27) (htb _ kw_28) hK hP hD hS hA rfl nwX9 (Nat.le_of_ble_eq_true rfl) (Nat.le_of_ble_eq_true rfl) dX12_init_80 (fun q_10 H hP hD hS => ?_)
      have hP : va_P (dC, dI) vwCl ((q_10, .inr (9, [.null])) :: (q_3, .inl (cid 13, 1200, .inl (fun _ => 0))) :: (q_1, .inl (cid 12, 8, .inr (.inr (.inr (.inr f2))))) :: (h0, .inr (11, [.ref q_1, .ref q_3, .ref u_6.1.1, .ref q_9, .null, .null, .null, .null, .int 0, .int 0, .int 0, .int 0])) :: ([(q_9, (.inr (7, [.ref u_6.1.1, .null, .int 0, .int 0, .int 0, .null]) : va_E))] ++ (paW cid u_6 ++ tl (dcF cid) adr 8))) H := fr_P hP
      have hD : va_D A ((q_10, .inr (9, [.null])) :: (q_3, .inl (cid 13, 1200, .inl (fun _ => 0))) :: (q_1, .inl (cid 12, 8, .inr (.inr (.inr (.inr f2))))) :: (h0, .inr (11, [.ref q_1, .ref q_3, .ref u_6.1.1, .ref q_9, .null, .null, .null, .null, .int 0, .int 0, .int 0, .int 0])) :: ([(q_9, (.inr (7, [.ref u_6.1.1, .null, .int 0, .int 0, .int 0, .null]) : va_E))] ++ (paW cid u_6 ++ tl (dcF cid) adr 8))) := fr_D hD
      refine W.widen (k := 330) (n := 7799) (Nat.le_of_ble_eq_true rfl) (Nat.le_of_ble_eq_true rfl) ?_
      refine lv_dup hx hb dX12_init_83 rfl ?_
      refine lv_aload_n hx hb dX12_init_84 rfl (lv_at hl 1 rfl) ?_
      refine va_get (D := (dC, dI)) (ci := 11) (v := .ref u_6.1.1) (C := RX12) (T := TX12) (N := 12) hx hb htb inX12 hown hK hP 3 rfl rfl 2 (by decide) (htb _ kw_21) (fun _ h9 => h9) rfl dX12_init_85 ?_
      refine nw_call (rest := [.ref q_10, .ref h0]) (r := (q_3, .inl (cid 13, 1200, .inl (fun _ => 0))) :: (q_1, .inl (cid 12, 8, .inr (.inr (.inr (.inr f2))))) :: (h0, .inr (11, [.ref q_1, .ref q_3, .ref u_6.1.1, .ref q_9, .null, .null, .null, .null, .int 0, .int 0, .int 0, .int 0])) :: ([(q_9, (.inr (7, [.ref u_6.1.1, .null, .int 0, .int 0, .int 0, .null]) : va_E))] ++ (paW cid u_6 ++ tl (dcF cid) adr 8))) ⟨hx, hb, hml, hown, htb⟩ (n_X9 l dC dI ad cid (q_10) (u_6.1.1)) (cwI 1 htb (gd_c kw_1375) rfl rfl rfl (htb _ kw_28) (htb _ kw_79) (htb _ kw_80) rfl (by decide +kernel) ⟨Nat.le_of_ble_eq_true rfl, Nat.le_of_ble_eq_true rfl⟩) rfl hl.1 rfl (Nat.le_of_ble_eq_true rfl) dX12_init_88 ⟨(Nat.le_of_ble_eq_true rfl), (Nat.le_of_ble_eq_true rfl)⟩ hK hP hD hS hA hG (fun w H locs hw hP7 hD7 hS => ?_)
      obtain ⟨rfl⟩ := hw
      have hP : va_P (dC, dI) vwCl ((q_3, .inl (cid 13, 1200, .inl (fun _ => 0))) :: (q_1, .inl (cid 12, 8, .inr (.inr (.inr (.inr f2))))) :: (h0, .inr (11, [.ref q_1, .ref q_3, .ref u_6.1.1, .ref q_9, .null, .null, .null, .null, .int 0, .int 0, .int 0, .int 0])) :: ([(q_10, (.inr (9, [.ref u_6.1.1]) : va_E))] ++ ([(q_9, (.inr (7, [.ref u_6.1.1, .null, .int 0, .int 0, .int 0, .null]) : va_E))] ++ (paW cid u_6 ++ tl (dcF cid) adr 8)))) H := sw_P (E := [(q_3, .inl (cid 13, 1200, .inl (fun _ => 0))), (q_1, .inl (cid 12, 8, .inr (.inr (.inr (.inr f2))))), (h0, .inr (11, [.ref q_1, .ref q_3, .ref u_6.1.1, .ref q_9, .null, .null, .null, .null, .int 0, .int 0, .int 0, .int 0]))]) (w := [(q_10, (.inr (9, [.ref u_6.1.1]) : va_E))]) (T := ([(q_9, (.inr (7, [.ref u_6.1.1, .null, .int 0, .int 0, .int 0, .null]) : va_E))] ++ (paW cid u_6 ++ tl (dcF cid) adr 8))) hP7
      have hD : va_D A ((q_3, .inl (cid 13, 1200, .inl (fun _ => 0))) :: (q_1, .inl (cid 12, 8, .inr (.inr (.inr (.inr f2))))) :: (h0, .inr (11, [.ref q_1, .ref q_3, .ref u_6.1.1, .ref q_9, .null, .null, .null, .null, .int 0, .int 0, .int 0, .int 0])) :: ([(q_10, (.inr (9, [.ref u_6.1.1]) : va_E))] ++ ([(q_9, (.inr (7, [.ref u_6.1.1, .null, .int 0, .int 0, .int 0, .null]) : va_E))] ++ (paW cid u_6 ++ tl (dcF cid) adr 8)))) := sw_D (E := [(q_3, .inl (cid 13, 1200, .inl (fun _ => 0))), (q_1, .inl (cid 12, 8, .inr (.inr (.inr (.inr f2))))), (h0, .inr (11, [.ref q_1, .ref q_3, .ref u_6.1.1, .ref q_9, .null, .null, .null, .null, .int 0, .int 0, .int 0, .int 0]))]) (w := [(q_10, (.inr (9, [.ref u_6.1.1]) : va_E))]) (T := ([(q_9, (.inr (7, [.ref u_6.1.1, .null, .int 0, .int 0, .int 0, .null]) : va_E))] ++ (paW cid u_6 ++ tl (dcF cid) adr 8))) hD7
      refine W.widen (k := 330) (n := 7799) (Nat.le_of_ble_eq_true rfl) (Nat.le_of_ble_eq_true rfl) ?_
      refine va_putF (D := (dC, dI)) (ci := 11) (v := .ref q_10) (ty := tyX12 4) (C := RX12) (T := TX12) (N := 12) hx hb htb inX12 tyX12 tyX12_ok nmX12 hown hK hP hD hS 2 rfl rfl 4 (by decide) (htb _ kw_29) (fun _ h9 => h9) rfl hin rfl (tyX12_ok 4 (by decide)) rfl rfl (Nat.le_of_ble_eq_true rfl) dX12_init_91 (fun H locs hP hD hS => ?_)
      have hP : va_P (dC, dI) vwCl ((q_3, .inl (cid 13, 1200, .inl (fun _ => 0))) :: (q_1, .inl (cid 12, 8, .inr (.inr (.inr (.inr f2))))) :: (h0, .inr (11, [.ref q_1, .ref q_3, .ref u_6.1.1, .ref q_9, .ref q_10, .null, .null, .null, .int 0, .int 0, .int 0, .int 0])) :: ([(q_10, (.inr (9, [.ref u_6.1.1]) : va_E))] ++ ([(q_9, (.inr (7, [.ref u_6.1.1, .null, .int 0, .int 0, .int 0, .null]) : va_E))] ++ (paW cid u_6 ++ tl (dcF cid) adr 8)))) H := hP
      have hD : va_D A ((q_3, .inl (cid 13, 1200, .inl (fun _ => 0))) :: (q_1, .inl (cid 12, 8, .inr (.inr (.inr (.inr f2))))) :: (h0, .inr (11, [.ref q_1, .ref q_3, .ref u_6.1.1, .ref q_9, .ref q_10, .null, .null, .null, .int 0, .int 0, .int 0, .int 0])) :: ([(q_10, (.inr (9, [.ref u_6.1.1]) : va_E))] ++ ([(q_9, (.inr (7, [.ref u_6.1.1, .null, .int 0, .int 0, .int 0, .null]) : va_E))] ++ (paW cid u_6 ++ tl (dcF cid) adr 8)))) := hD
      refine lv_aload_n hx hb dX12_init_94 rfl (lv_at hl 1 rfl) ?_
      refine va_new (ci := 10) (fs := nvX10) (C := RX10) (T := TX10) (N := 4) hx hb htb inX10 tyX10 tyX10_ok hown (htb _ kw_30) (htb _ kw_31) (htb _ kw_32) hK hP hD hS hA rfl nwX10 (Nat.le_of_ble_eq_true rfl) (Nat.le_of_ble_eq_true rfl) dX12_init_95 (fun q_11 H hP hD hS => ?_)
      have hP : va_P (dC, dI) vwCl ((q_11, .inr (10, [.null, .null, .null, .int 0])) :: (q_3, .inl (cid 13, 1200, .inl (fun _ => 0))) :: (q_1, .inl (cid 12, 8, .inr (.inr (.inr (.inr f2))))) :: (h0, .inr (11, [.ref q_1, .ref q_3, .ref u_6.1.1, .ref q_9, .ref q_10, .null, .null, .null, .int 0, .int 0, .int 0, .int 0])) :: ([(q_10, (.inr (9, [.ref u_6.1.1]) : va_E))] ++ ([(q_9, (.inr (7, [.ref u_6.1.1, .null, .int 0, .int 0, .int 0, .null]) : va_E))] ++ (paW cid u_6 ++ tl (dcF cid) adr 8)))) H := fr_P hP
      have hD : va_D A ((q_11, .inr (10, [.null, .null, .null, .int 0])) :: (q_3, .inl (cid 13, 1200, .inl (fun _ => 0))) :: (q_1, .inl (cid 12, 8, .inr (.inr (.inr (.inr f2))))) :: (h0, .inr (11, [.ref q_1, .ref q_3, .ref u_6.1.1, .ref q_9, .ref q_10, .null, .null, .null, .int 0, .int 0, .int 0, .int 0])) :: ([(q_10, (.inr (9, [.ref u_6.1.1]) : va_E))] ++ ([(q_9, (.inr (7, [.ref u_6.1.1, .null, .int 0, .int 0, .int 0, .null]) : va_E))] ++ (paW cid u_6 ++ tl (dcF cid) adr 8)))) := fr_D hD
      refine W.widen (k := 331) (n := 7803) (Nat.le_of_ble_eq_true rfl) (Nat.le_of_ble_eq_true rfl) ?_
      refine lv_dup hx hb dX12_init_98 rfl ?_
      refine lv_aload_n hx hb dX12_init_99 rfl (lv_at hl 1 rfl) ?_
      refine va_get (D := (dC, dI)) (ci := 11) (v := .ref u_6.1.1) (C := RX12) (T := TX12) (N := 12) hx hb htb inX12 hown hK hP 3 rfl rfl 2 (by decide) (htb _ kw_21) (fun _ h9 => h9) rfl dX12_init_100 ?_
      refine nw_call (rest := [.ref q_11, .ref h0]) (r := (q_3, .inl (cid 13, 1200, .inl (fun _ => 0))) :: (q_1, .inl (cid 12, 8, .inr (.inr (.inr (.inr f2))))) :: (h0, .inr (11, [.ref q_1, .ref q_3, .ref u_6.1.1, .ref q_9, .ref q_10, .null, .null, .null, .int 0, .int 0, .int 0, .int 0])) :: ([(q_10, (.inr (9, [.ref u_6.1.1]) : va_E))] ++ ([(q_9, (.inr (7, [.ref u_6.1.1, .null, .int 0, .int 0, .int 0, .null]) : va_E))] ++ (paW cid u_6 ++ tl (dcF cid) adr 8)))) ⟨hx, hb, hml, hown, htb⟩ (n_X10 l dC dI ad cid (q_11) (u_6.1.1)) (cwI 1 htb (gd_c kw_1376) rfl rfl rfl (htb _ kw_32) (htb _ kw_83) (htb _ kw_84) rfl (by decide +kernel) ⟨Nat.le_of_ble_eq_true rfl, Nat.le_of_ble_eq_true rfl⟩) rfl hl.1 rfl (Nat.le_of_ble_eq_true rfl) dX12_init_103 ⟨(Nat.le_of_ble_eq_true rfl), (Nat.le_of_ble_eq_true rfl)⟩ hK hP hD hS hA hG (fun w H locs hw hP7 hD7 hS => ?_)
      obtain ⟨u_12, eu_13, rfl, hu_14⟩ := hw
      subst eu_13
      have hP : va_P (dC, dI) vwCl ((q_3, .inl (cid 13, 1200, .inl (fun _ => 0))) :: (q_1, .inl (cid 12, 8, .inr (.inr (.inr (.inr f2))))) :: (h0, .inr (11, [.ref q_1, .ref q_3, .ref u_6.1.1, .ref q_9, .ref q_10, .null, .null, .null, .int 0, .int 0, .int 0, .int 0])) :: (wiW ad cid (u_6.1.1) u_12 ++ ([(q_10, (.inr (9, [.ref u_6.1.1]) : va_E))] ++ ([(q_9, (.inr (7, [.ref u_6.1.1, .null, .int 0, .int 0, .int 0, .null]) : va_E))] ++ (paW cid u_6 ++ tl (dcF cid) adr 8))))) H := sw_P (E := [(q_3, .inl (cid 13, 1200, .inl (fun _ => 0))), (q_1, .inl (cid 12, 8, .inr (.inr (.inr (.inr f2))))), (h0, .inr (11, [.ref q_1, .ref q_3, .ref u_6.1.1, .ref q_9, .ref q_10, .null, .null, .null, .int 0, .int 0, .int 0, .int 0]))]) (w := wiW ad cid (u_6.1.1) u_12) (T := ([(q_10, (.inr (9, [.ref u_6.1.1]) : va_E))] ++ ([(q_9, (.inr (7, [.ref u_6.1.1, .null, .int 0, .int 0, .int 0, .null]) : va_E))] ++ (paW cid u_6 ++ tl (dcF cid) adr 8)))) hP7
      have hD : va_D A ((q_3, .inl (cid 13, 1200, .inl (fun _ => 0))) :: (q_1, .inl (cid 12, 8, .inr (.inr (.inr (.inr f2))))) :: (h0, .inr (11, [.ref q_1, .ref q_3, .ref u_6.1.1, .ref q_9, .ref q_10, .null, .null, .null, .int 0, .int 0, .int 0, .int 0])) :: (wiW ad cid (u_6.1.1) u_12 ++ ([(q_10, (.inr (9, [.ref u_6.1.1]) : va_E))] ++ ([(q_9, (.inr (7, [.ref u_6.1.1, .null, .int 0, .int 0, .int 0, .null]) : va_E))] ++ (paW cid u_6 ++ tl (dcF cid) adr 8))))) := sw_D (E := [(q_3, .inl (cid 13, 1200, .inl (fun _ => 0))), (q_1, .inl (cid 12, 8, .inr (.inr (.inr (.inr f2))))), (h0, .inr (11, [.ref q_1, .ref q_3, .ref u_6.1.1, .ref q_9, .ref q_10, .null, .null, .null, .int 0, .int 0, .int 0, .int 0]))]) (w := wiW ad cid (u_6.1.1) u_12) (T := ([(q_10, (.inr (9, [.ref u_6.1.1]) : va_E))] ++ ([(q_9, (.inr (7, [.ref u_6.1.1, .null, .int 0, .int 0, .int 0, .null]) : va_E))] ++ (paW cid u_6 ++ tl (dcF cid) adr 8)))) hD7
      refine W.widen (k := 653) (n := 10203) (Nat.le_of_ble_eq_true rfl) (Nat.le_of_ble_eq_true rfl) ?_
      refine va_putF (D := (dC, dI)) (ci := 11) (v := .ref u_12.1.1) (ty := tyX12 5) (C := RX12) (T := TX12) (N := 12) hx hb htb inX12 tyX12 tyX12_ok nmX12 hown hK hP hD hS 2 rfl rfl 5 (by decide) (htb _ kw_33) (fun _ h9 => h9) rfl hin rfl (tyX12_ok 5 (by decide)) rfl rfl (Nat.le_of_ble_eq_true rfl) dX12_init_106 (fun H locs hP hD hS => ?_)
      have hP : va_P (dC, dI) vwCl ((q_3, .inl (cid 13, 1200, .inl (fun _ => 0))) :: (q_1, .inl (cid 12, 8, .inr (.inr (.inr (.inr f2))))) :: (h0, .inr (11, [.ref q_1, .ref q_3, .ref u_6.1.1, .ref q_9, .ref q_10, .ref u_12.1.1, .null, .null, .int 0, .int 0, .int 0, .int 0])) :: (wiW ad cid (u_6.1.1) u_12 ++ ([(q_10, (.inr (9, [.ref u_6.1.1]) : va_E))] ++ ([(q_9, (.inr (7, [.ref u_6.1.1, .null, .int 0, .int 0, .int 0, .null]) : va_E))] ++ (paW cid u_6 ++ tl (dcF cid) adr 8))))) H := hP
      have hD : va_D A ((q_3, .inl (cid 13, 1200, .inl (fun _ => 0))) :: (q_1, .inl (cid 12, 8, .inr (.inr (.inr (.inr f2))))) :: (h0, .inr (11, [.ref q_1, .ref q_3, .ref u_6.1.1, .ref q_9, .ref q_10, .ref u_12.1.1, .null, .null, .int 0, .int 0, .int 0, .int 0])) :: (wiW ad cid (u_6.1.1) u_12 ++ ([(q_10, (.inr (9, [.ref u_6.1.1]) : va_E))] ++ ([(q_9, (.inr (7, [.ref u_6.1.1, .null, .int 0, .int 0, .int 0, .null]) : va_E))] ++ (paW cid u_6 ++ tl (dcF cid) adr 8))))) := hD
      refine lv_aload_n hx hb dX12_init_109 rfl (lv_at hl 1 rfl) ?_
      refine va_new (ci := 4) (fs := nvX4) (C := RX4) (T := TX4) (N := 2) hx hb htb inX4 tyX4 tyX4_ok hown (htb _ kw_34) (htb _ kw_35) (htb _ kw_36) hK hP hD hS hA rfl nwX4 (Nat.le_of_ble_eq_true rfl) (Nat.le_of_ble_eq_true rfl) dX12_init_110 (fun q_15 H hP hD hS => ?_)
      have hP : va_P (dC, dI) vwCl ((q_15, .inr (4, [.null, .int 0])) :: (q_3, .inl (cid 13, 1200, .inl (fun _ => 0))) :: (q_1, .inl (cid 12, 8, .inr (.inr (.inr (.inr f2))))) :: (h0, .inr (11, [.ref q_1, .ref q_3, .ref u_6.1.1, .ref q_9, .ref q_10, .ref u_12.1.1, .null, .null, .int 0, .int 0, .int 0, .int 0])) :: (wiW ad cid (u_6.1.1) u_12 ++ ([(q_10, (.inr (9, [.ref u_6.1.1]) : va_E))] ++ ([(q_9, (.inr (7, [.ref u_6.1.1, .null, .int 0, .int 0, .int 0, .null]) : va_E))] ++ (paW cid u_6 ++ tl (dcF cid) adr 8))))) H := fr_P hP
      have hD : va_D A ((q_15, .inr (4, [.null, .int 0])) :: (q_3, .inl (cid 13, 1200, .inl (fun _ => 0))) :: (q_1, .inl (cid 12, 8, .inr (.inr (.inr (.inr f2))))) :: (h0, .inr (11, [.ref q_1, .ref q_3, .ref u_6.1.1, .ref q_9, .ref q_10, .ref u_12.1.1, .null, .null, .int 0, .int 0, .int 0, .int 0])) :: (wiW ad cid (u_6.1.1) u_12 ++ ([(q_10, (.inr (9, [.ref u_6.1.1]) : va_E))] ++ ([(q_9, (.inr (7, [.ref u_6.1.1, .null, .int 0, .int 0, .int 0, .null]) : va_E))] ++ (paW cid u_6 ++ tl (dcF cid) adr 8))))) := fr_D hD
      refine W.widen (k := 654) (n := 10205) (Nat.le_of_ble_eq_true rfl) (Nat.le_of_ble_eq_true rfl) ?_
      refine lv_dup hx hb dX12_init_113 rfl ?_
      refine nw_call (rest := [.ref q_15, .ref h0]) (r := (q_3, .inl (cid 13, 1200, .inl (fun _ => 0))) :: (q_1, .inl (cid 12, 8, .inr (.inr (.inr (.inr f2))))) :: (h0, .inr (11, [.ref q_1, .ref q_3, .ref u_6.1.1, .ref q_9, .ref q_10, .ref u_12.1.1, .null, .null, .int 0, .int 0, .int 0, .int 0])) :: (wiW ad cid (u_6.1.1) u_12 ++ ([(q_10, (.inr (9, [.ref u_6.1.1]) : va_E))] ++ ([(q_9, (.inr (7, [.ref u_6.1.1, .null, .int 0, .int 0, .int 0, .null]) : va_E))] ++ (paW cid u_6 ++ tl (dcF cid) adr 8))))) ⟨hx, hb, hml, hown, htb⟩ (n_X4 l dC dI ad cid (q_15)) (cwI 0 htb (gd_c kw_1381) rfl rfl rfl (htb _ kw_36) (htb _ kw_114) (htb _ kw_115) rfl (by decide +kernel) ⟨Nat.le_of_ble_eq_true rfl, Nat.le_of_ble_eq_true rfl⟩) rfl hl.1 rfl (Nat.le_of_ble_eq_true rfl) dX12_init_114 ⟨(Nat.le_of_ble_eq_true rfl), (Nat.le_of_ble_eq_true rfl)⟩ hK hP hD hS hA hG (fun w H locs hw hP7 hD7 hS => ?_)
      obtain ⟨a_16, rfl⟩ := hw
      have hP : va_P (dC, dI) vwCl ((q_3, .inl (cid 13, 1200, .inl (fun _ => 0))) :: (q_1, .inl (cid 12, 8, .inr (.inr (.inr (.inr f2))))) :: (h0, .inr (11, [.ref q_1, .ref q_3, .ref u_6.1.1, .ref q_9, .ref q_10, .ref u_12.1.1, .null, .null, .int 0, .int 0, .int 0, .int 0])) :: (rwW cid q_15 a_16 ++ (wiW ad cid (u_6.1.1) u_12 ++ ([(q_10, (.inr (9, [.ref u_6.1.1]) : va_E))] ++ ([(q_9, (.inr (7, [.ref u_6.1.1, .null, .int 0, .int 0, .int 0, .null]) : va_E))] ++ (paW cid u_6 ++ tl (dcF cid) adr 8)))))) H := sw_P (E := [(q_3, .inl (cid 13, 1200, .inl (fun _ => 0))), (q_1, .inl (cid 12, 8, .inr (.inr (.inr (.inr f2))))), (h0, .inr (11, [.ref q_1, .ref q_3, .ref u_6.1.1, .ref q_9, .ref q_10, .ref u_12.1.1, .null, .null, .int 0, .int 0, .int 0, .int 0]))]) (w := rwW cid q_15 a_16) (T := (wiW ad cid (u_6.1.1) u_12 ++ ([(q_10, (.inr (9, [.ref u_6.1.1]) : va_E))] ++ ([(q_9, (.inr (7, [.ref u_6.1.1, .null, .int 0, .int 0, .int 0, .null]) : va_E))] ++ (paW cid u_6 ++ tl (dcF cid) adr 8))))) hP7
      have hD : va_D A ((q_3, .inl (cid 13, 1200, .inl (fun _ => 0))) :: (q_1, .inl (cid 12, 8, .inr (.inr (.inr (.inr f2))))) :: (h0, .inr (11, [.ref q_1, .ref q_3, .ref u_6.1.1, .ref q_9, .ref q_10, .ref u_12.1.1, .null, .null, .int 0, .int 0, .int 0, .int 0])) :: (rwW cid q_15 a_16 ++ (wiW ad cid (u_6.1.1) u_12 ++ ([(q_10, (.inr (9, [.ref u_6.1.1]) : va_E))] ++ ([(q_9, (.inr (7, [.ref u_6.1.1, .null, .int 0, .int 0, .int 0, .null]) : va_E))] ++ (paW cid u_6 ++ tl (dcF cid) adr 8)))))) := sw_D (E := [(q_3, .inl (cid 13, 1200, .inl (fun _ => 0))), (q_1, .inl (cid 12, 8, .inr (.inr (.inr (.inr f2))))), (h0, .inr (11, [.ref q_1, .ref q_3, .ref u_6.1.1, .ref q_9, .ref q_10, .ref u_12.1.1, .null, .null, .int 0, .int 0, .int 0, .int 0]))]) (w := rwW cid q_15 a_16) (T := (wiW ad cid (u_6.1.1) u_12 ++ ([(q_10, (.inr (9, [.ref u_6.1.1]) : va_E))] ++ ([(q_9, (.inr (7, [.ref u_6.1.1, .null, .int 0, .int 0, .int 0, .null]) : va_E))] ++ (paW cid u_6 ++ tl (dcF cid) adr 8))))) hD7
      refine W.widen (k := 655) (n := 11805) (Nat.le_of_ble_eq_true rfl) (Nat.le_of_ble_eq_true rfl) ?_
      refine va_putF (D := (dC, dI)) (ci := 11) (v := .ref q_15) (ty := tyX12 6) (C := RX12) (T := TX12) (N := 12) hx hb htb inX12 tyX12 tyX12_ok nmX12 hown hK hP hD hS 2 rfl rfl 6 (by decide) (htb _ kw_37) (fun _ h9 => h9) rfl hin rfl (tyX12_ok 6 (by decide)) rfl rfl (Nat.le_of_ble_eq_true rfl) dX12_init_117 (fun H locs hP hD hS => ?_)
      have hP : va_P (dC, dI) vwCl ((q_3, .inl (cid 13, 1200, .inl (fun _ => 0))) :: (q_1, .inl (cid 12, 8, .inr (.inr (.inr (.inr f2))))) :: (h0, .inr (11, [.ref q_1, .ref q_3, .ref u_6.1.1, .ref q_9, .ref q_10, .ref u_12.1.1, .ref q_15, .null, .int 0, .int 0, .int 0, .int 0])) :: (rwW cid q_15 a_16 ++ (wiW ad cid (u_6.1.1) u_12 ++ ([(q_10, (.inr (9, [.ref u_6.1.1]) : va_E))] ++ ([(q_9, (.inr (7, [.ref u_6.1.1, .null, .int 0, .int 0, .int 0, .null]) : va_E))] ++ (paW cid u_6 ++ tl (dcF cid) adr 8)))))) H := hP
      have hD : va_D A ((q_3, .inl (cid 13, 1200, .inl (fun _ => 0))) :: (q_1, .inl (cid 12, 8, .inr (.inr (.inr (.inr f2))))) :: (h0, .inr (11, [.ref q_1, .ref q_3, .ref u_6.1.1, .ref q_9, .ref q_10, .ref u_12.1.1, .ref q_15, .null, .int 0, .int 0, .int 0, .int 0])) :: (rwW cid q_15 a_16 ++ (wiW ad cid (u_6.1.1) u_12 ++ ([(q_10, (.inr (9, [.ref u_6.1.1]) : va_E))] ++ ([(q_9, (.inr (7, [.ref u_6.1.1, .null, .int 0, .int 0, .int 0, .null]) : va_E))] ++ (paW cid u_6 ++ tl (dcF cid) adr 8)))))) := hD
      refine lv_aload_n hx hb dX12_init_120 rfl (lv_at hl 1 rfl) ?_
      refine va_new (ci := 5) (fs := nvX5) (C := RX5) (T := TX5) (N := 13) hx hb htb inX5 tyX5 tyX5_ok hown (htb _ kw_38) (htb _ kw_39) (htb _ kw_40) hK hP hD hS hA rfl nwX5 (Nat.le_of_ble_eq_true rfl) (Nat.le_of_ble_eq_true rfl) dX12_init_121 (fun q_17 H hP hD hS => ?_)
      have hP : va_P (dC, dI) vwCl ((q_17, .inr (5, [.null, .null, .null, .null, .null, .int 0, .null, .int 0, .null, .null, .null, .int 0, .int 0])) :: (q_3, .inl (cid 13, 1200, .inl (fun _ => 0))) :: (q_1, .inl (cid 12, 8, .inr (.inr (.inr (.inr f2))))) :: (h0, .inr (11, [.ref q_1, .ref q_3, .ref u_6.1.1, .ref q_9, .ref q_10, .ref u_12.1.1, .ref q_15, .null, .int 0, .int 0, .int 0, .int 0])) :: (rwW cid q_15 a_16 ++ (wiW ad cid (u_6.1.1) u_12 ++ ([(q_10, (.inr (9, [.ref u_6.1.1]) : va_E))] ++ ([(q_9, (.inr (7, [.ref u_6.1.1, .null, .int 0, .int 0, .int 0, .null]) : va_E))] ++ (paW cid u_6 ++ tl (dcF cid) adr 8)))))) H := fr_P hP
      have hD : va_D A ((q_17, .inr (5, [.null, .null, .null, .null, .null, .int 0, .null, .int 0, .null, .null, .null, .int 0, .int 0])) :: (q_3, .inl (cid 13, 1200, .inl (fun _ => 0))) :: (q_1, .inl (cid 12, 8, .inr (.inr (.inr (.inr f2))))) :: (h0, .inr (11, [.ref q_1, .ref q_3, .ref u_6.1.1, .ref q_9, .ref q_10, .ref u_12.1.1, .ref q_15, .null, .int 0, .int 0, .int 0, .int 0])) :: (rwW cid q_15 a_16 ++ (wiW ad cid (u_6.1.1) u_12 ++ ([(q_10, (.inr (9, [.ref u_6.1.1]) : va_E))] ++ ([(q_9, (.inr (7, [.ref u_6.1.1, .null, .int 0, .int 0, .int 0, .null]) : va_E))] ++ (paW cid u_6 ++ tl (dcF cid) adr 8)))))) := fr_D hD
      refine W.widen (k := 656) (n := 11818) (Nat.le_of_ble_eq_true rfl) (Nat.le_of_ble_eq_true rfl) ?_
      refine lv_dup hx hb dX12_init_124 rfl ?_
      refine lv_aload_n hx hb dX12_init_125 rfl (lv_at hl 1 rfl) ?_
      refine va_get (D := (dC, dI)) (ci := 11) (v := .ref u_12.1.1) (C := RX12) (T := TX12) (N := 12) hx hb htb inX12 hown hK hP 3 rfl rfl 5 (by decide) (htb _ kw_33) (fun _ h9 => h9) rfl dX12_init_126 ?_
      refine lv_aload_n hx hb dX12_init_129 rfl (lv_at hl 1 rfl) ?_
      refine va_get (D := (dC, dI)) (ci := 11) (v := .ref q_1) (C := RX12) (T := TX12) (N := 12) hx hb htb inX12 hown hK hP 3 rfl rfl 0 (by decide) (htb _ kw_13) (fun _ h9 => h9) rfl dX12_init_130 ?_
      refine lv_aload_n hx hb dX12_init_133 rfl (lv_at hl 1 rfl) ?_
      refine va_get (D := (dC, dI)) (ci := 11) (v := .ref q_15) (C := RX12) (T := TX12) (N := 12) hx hb htb inX12 hown hK hP 3 rfl rfl 6 (by decide) (htb _ kw_37) (fun _ h9 => h9) rfl dX12_init_134 ?_
      refine nw_call (rest := [.ref q_17, .ref h0]) (r := (q_3, .inl (cid 13, 1200, .inl (fun _ => 0))) :: (q_1, .inl (cid 12, 8, .inr (.inr (.inr (.inr f2))))) :: (h0, .inr (11, [.ref q_1, .ref q_3, .ref u_6.1.1, .ref q_9, .ref q_10, .ref u_12.1.1, .ref q_15, .null, .int 0, .int 0, .int 0, .int 0])) :: (rwW cid q_15 a_16 ++ (wiW ad cid (u_6.1.1) u_12 ++ ([(q_10, (.inr (9, [.ref u_6.1.1]) : va_E))] ++ ([(q_9, (.inr (7, [.ref u_6.1.1, .null, .int 0, .int 0, .int 0, .null]) : va_E))] ++ (paW cid u_6 ++ tl (dcF cid) adr 8)))))) ⟨hx, hb, hml, hown, htb⟩ (n_X5 l dC dI ad cid (q_17) (u_12.1.1) (q_1) (q_15)) (cwI 3 htb (gd_c kw_1382) rfl rfl rfl (htb _ kw_40) (htb _ kw_118) (htb _ kw_119) rfl (by decide +kernel) ⟨Nat.le_of_ble_eq_true rfl, Nat.le_of_ble_eq_true rfl⟩) rfl hl.1 rfl (Nat.le_of_ble_eq_true rfl) dX12_init_137 ⟨(Nat.le_of_ble_eq_true rfl), (Nat.le_of_ble_eq_true rfl)⟩ hK hP hD hS hA hG (fun w H locs hw hP7 hD7 hS => ?_)
      obtain ⟨a_18, a_19, a_20, a_21, a_22, rfl⟩ := hw
      have hP : va_P (dC, dI) vwCl ((q_3, .inl (cid 13, 1200, .inl (fun _ => 0))) :: (q_1, .inl (cid 12, 8, .inr (.inr (.inr (.inr f2))))) :: (h0, .inr (11, [.ref q_1, .ref q_3, .ref u_6.1.1, .ref q_9, .ref q_10, .ref u_12.1.1, .ref q_15, .null, .int 0, .int 0, .int 0, .int 0])) :: (mkW cid q_17 u_12.1.1 q_1 q_15 a_18 a_19 a_20 a_21 a_22 ++ (rwW cid q_15 a_16 ++ (wiW ad cid (u_6.1.1) u_12 ++ ([(q_10, (.inr (9, [.ref u_6.1.1]) : va_E))] ++ ([(q_9, (.inr (7, [.ref u_6.1.1, .null, .int 0, .int 0, .int 0, .null]) : va_E))] ++ (paW cid u_6 ++ tl (dcF cid) adr 8))))))) H := sw_P (E := [(q_3, .inl (cid 13, 1200, .inl (fun _ => 0))), (q_1, .inl (cid 12, 8, .inr (.inr (.inr (.inr f2))))), (h0, .inr (11, [.ref q_1, .ref q_3, .ref u_6.1.1, .ref q_9, .ref q_10, .ref u_12.1.1, .ref q_15, .null, .int 0, .int 0, .int 0, .int 0]))]) (w := mkW cid q_17 u_12.1.1 q_1 q_15 a_18 a_19 a_20 a_21 a_22) (T := (rwW cid q_15 a_16 ++ (wiW ad cid (u_6.1.1) u_12 ++ ([(q_10, (.inr (9, [.ref u_6.1.1]) : va_E))] ++ ([(q_9, (.inr (7, [.ref u_6.1.1, .null, .int 0, .int 0, .int 0, .null]) : va_E))] ++ (paW cid u_6 ++ tl (dcF cid) adr 8)))))) hP7
      have hD : va_D A ((q_3, .inl (cid 13, 1200, .inl (fun _ => 0))) :: (q_1, .inl (cid 12, 8, .inr (.inr (.inr (.inr f2))))) :: (h0, .inr (11, [.ref q_1, .ref q_3, .ref u_6.1.1, .ref q_9, .ref q_10, .ref u_12.1.1, .ref q_15, .null, .int 0, .int 0, .int 0, .int 0])) :: (mkW cid q_17 u_12.1.1 q_1 q_15 a_18 a_19 a_20 a_21 a_22 ++ (rwW cid q_15 a_16 ++ (wiW ad cid (u_6.1.1) u_12 ++ ([(q_10, (.inr (9, [.ref u_6.1.1]) : va_E))] ++ ([(q_9, (.inr (7, [.ref u_6.1.1, .null, .int 0, .int 0, .int 0, .null]) : va_E))] ++ (paW cid u_6 ++ tl (dcF cid) adr 8))))))) := sw_D (E := [(q_3, .inl (cid 13, 1200, .inl (fun _ => 0))), (q_1, .inl (cid 12, 8, .inr (.inr (.inr (.inr f2))))), (h0, .inr (11, [.ref q_1, .ref q_3, .ref u_6.1.1, .ref q_9, .ref q_10, .ref u_12.1.1, .ref q_15, .null, .int 0, .int 0, .int 0, .int 0]))]) (w := mkW cid q_17 u_12.1.1 q_1 q_15 a_18 a_19 a_20 a_21 a_22) (T := (rwW cid q_15 a_16 ++ (wiW ad cid (u_6.1.1) u_12 ++ ([(q_10, (.inr (9, [.ref u_6.1.1]) : va_E))] ++ ([(q_9, (.inr (7, [.ref u_6.1.1, .null, .int 0, .int 0, .int 0, .null]) : va_E))] ++ (paW cid u_6 ++ tl (dcF cid) adr 8)))))) hD7
      refine W.widen (k := 661) (n := 12981) (Nat.le_of_ble_eq_true rfl) (Nat.le_of_ble_eq_true rfl) ?_
      refine va_putF (D := (dC, dI)) (ci := 11) (v := .ref q_17) (ty := tyX12 7) (C := RX12) (T := TX12) (N := 12) hx hb htb inX12 tyX12 tyX12_ok nmX12 hown hK hP hD hS 2 rfl rfl 7 (by decide) (htb _ kw_41) (fun _ h9 => h9) rfl hin rfl (tyX12_ok 7 (by decide)) rfl rfl (Nat.le_of_ble_eq_true rfl) dX12_init_140 (fun H locs hP hD hS => ?_)
      have hP : va_P (dC, dI) vwCl ((q_3, .inl (cid 13, 1200, .inl (fun _ => 0))) :: (q_1, .inl (cid 12, 8, .inr (.inr (.inr (.inr f2))))) :: (h0, .inr (11, [.ref q_1, .ref q_3, .ref u_6.1.1, .ref q_9, .ref q_10, .ref u_12.1.1, .ref q_15, .ref q_17, .int 0, .int 0, .int 0, .int 0])) :: (mkW cid q_17 u_12.1.1 q_1 q_15 a_18 a_19 a_20 a_21 a_22 ++ (rwW cid q_15 a_16 ++ (wiW ad cid (u_6.1.1) u_12 ++ ([(q_10, (.inr (9, [.ref u_6.1.1]) : va_E))] ++ ([(q_9, (.inr (7, [.ref u_6.1.1, .null, .int 0, .int 0, .int 0, .null]) : va_E))] ++ (paW cid u_6 ++ tl (dcF cid) adr 8))))))) H := hP
      have hD : va_D A ((q_3, .inl (cid 13, 1200, .inl (fun _ => 0))) :: (q_1, .inl (cid 12, 8, .inr (.inr (.inr (.inr f2))))) :: (h0, .inr (11, [.ref q_1, .ref q_3, .ref u_6.1.1, .ref q_9, .ref q_10, .ref u_12.1.1, .ref q_15, .ref q_17, .int 0, .int 0, .int 0, .int 0])) :: (mkW cid q_17 u_12.1.1 q_1 q_15 a_18 a_19 a_20 a_21 a_22 ++ (rwW cid q_15 a_16 ++ (wiW ad cid (u_6.1.1) u_12 ++ ([(q_10, (.inr (9, [.ref u_6.1.1]) : va_E))] ++ ([(q_9, (.inr (7, [.ref u_6.1.1, .null, .int 0, .int 0, .int 0, .null]) : va_E))] ++ (paW cid u_6 ++ tl (dcF cid) adr 8))))))) := hD
      refine lv_aload_n hx hb dX12_init_143 rfl (lv_at hl 1 rfl) ?_
      refine lv_iconst (v := (-1)) hx hb dX12_init_144 (by decide) ?_
      refine va_put (D := (dC, dI)) (ci := 11) (v := .int (-1)) (ty := tyX12 11) (C := RX12) (T := TX12) (N := 12) hx hb htb inX12 tyX12 tyX12_ok nmX12 hown hK hP hD hS 2 rfl rfl 11 (by decide) (htb _ kw_42) (fun _ h9 => h9) rfl (tyX12_ok 11 (by decide)) rfl rfl (Nat.le_of_ble_eq_true rfl) dX12_init_145 (fun H locs hP hD hS => ?_)
      have hP : va_P (dC, dI) vwCl ((q_3, .inl (cid 13, 1200, .inl (fun _ => 0))) :: (q_1, .inl (cid 12, 8, .inr (.inr (.inr (.inr f2))))) :: (h0, .inr (11, [.ref q_1, .ref q_3, .ref u_6.1.1, .ref q_9, .ref q_10, .ref u_12.1.1, .ref q_15, .ref q_17, .int 0, .int 0, .int 0, .int (-1)])) :: (mkW cid q_17 u_12.1.1 q_1 q_15 a_18 a_19 a_20 a_21 a_22 ++ (rwW cid q_15 a_16 ++ (wiW ad cid (u_6.1.1) u_12 ++ ([(q_10, (.inr (9, [.ref u_6.1.1]) : va_E))] ++ ([(q_9, (.inr (7, [.ref u_6.1.1, .null, .int 0, .int 0, .int 0, .null]) : va_E))] ++ (paW cid u_6 ++ tl (dcF cid) adr 8))))))) H := hP
      have hD : va_D A ((q_3, .inl (cid 13, 1200, .inl (fun _ => 0))) :: (q_1, .inl (cid 12, 8, .inr (.inr (.inr (.inr f2))))) :: (h0, .inr (11, [.ref q_1, .ref q_3, .ref u_6.1.1, .ref q_9, .ref q_10, .ref u_12.1.1, .ref q_15, .ref q_17, .int 0, .int 0, .int 0, .int (-1)])) :: (mkW cid q_17 u_12.1.1 q_1 q_15 a_18 a_19 a_20 a_21 a_22 ++ (rwW cid q_15 a_16 ++ (wiW ad cid (u_6.1.1) u_12 ++ ([(q_10, (.inr (9, [.ref u_6.1.1]) : va_E))] ++ ([(q_9, (.inr (7, [.ref u_6.1.1, .null, .int 0, .int 0, .int 0, .null]) : va_E))] ++ (paW cid u_6 ++ tl (dcF cid) adr 8))))))) := hD
      rw [eQ]
      exact W.vret hx hb hr (fun t ht hW => ⟨⟨(q_3, .inl (cid 13, 1200, .inl (fun _ => 0))) :: (q_1, .inl (cid 12, 8, .inr (.inr (.inr (.inr f2))))) :: (h0, .inr (11, [.ref q_1, .ref q_3, .ref u_6.1.1, .ref q_9, .ref q_10, .ref u_12.1.1, .ref q_15, .ref q_17, .int 0, .int 0, .int 0, .int (-1)])) :: (mkW cid q_17 u_12.1.1 q_1 q_15 a_18 a_19 a_20 a_21 a_22 ++ (rwW cid q_15 a_16 ++ (wiW ad cid (u_6.1.1) u_12 ++ ([(q_10, (.inr (9, [.ref u_6.1.1]) : va_E))] ++ ([(q_9, (.inr (7, [.ref u_6.1.1, .null, .int 0, .int 0, .int 0, .null]) : va_E))] ++ (paW cid u_6 ++ tl (dcF cid) adr 8)))))), rfl, ⟨q_1, q_3, f2, adr, u_6, q_9, q_10, u_12, q_15, a_16, q_17, a_18, a_19, a_20, a_21, a_22, rfl, hf2, hdc, hu_8, hu_14⟩, by rw [ht]; exact hP, va_K.moved hW.alike hK, hD⟩, hS.F ht⟩) hS.2.2 dX12_init_148
    | succ n ih =>
      intro i adr f2 H locs ls hi9 hf2 hdc hP hD hS hl
      have hlt : i < 8 := by omega
      refine lv_iload_n hx hb dX12_init_15 rfl (lv_at hl 0 rfl) ?_
      refine lv_bipush (v := 8) hx hb dX12_init_16 (by decide) ?_
      refine lv_icmp_ge (tgt := 41) hx hb dX12_init_18 (by decide) (fun c9 => absurd c9 (nI_ge hlt (by decide))) (fun _ => ?_)
      refine lv_aload_n hx hb dX12_init_21 rfl (lv_at hl 1 rfl) ?_
      refine va_get (D := (dC, dI)) (ci := 11) (v := .ref q_1) (C := RX12) (T := TX12) (N := 12) hx hb htb inX12 hown hK hP 1 rfl rfl 0 (by decide) (htb _ kw_13) (fun _ h9 => h9) rfl dX12_init_22 ?_
      refine lv_iload_n hx hb dX12_init_25 rfl (lv_at hl 0 rfl) ?_
      refine va_new (ci := 2) (fs := nvX2) (C := RX2) (T := TX2) (N := 8) hx hb htb inX2 tyX2 tyX2_ok hown (htb _ kw_12) (htb _ kw_14) (htb _ kw_15) hK hP hD hS hA rfl nwX2 (by show (i * 20 + 1) + 1 ≤ 661; omega) (by show (i * 122 + 8) + 8 ≤ 12981; omega) dX12_init_26 (fun q_23 H hP hD hS => ?_)
      have hP : va_P (dC, dI) vwCl ((q_23, .inr (2, [.null, .null, .int 0, .int 0, .int 0, .null, .int 0, .null])) :: (q_1, .inl (cid 12, 8, .inr (.inr (.inr (.inr f2))))) :: (h0, .inr (11, [.ref q_1, .null, .null, .null, .null, .null, .null, .null, .int 0, .int 0, .int 0, .int 0])) :: tl (dcF cid) adr i) H := fr_P hP
      have hD : va_D A ((q_23, .inr (2, [.null, .null, .int 0, .int 0, .int 0, .null, .int 0, .null])) :: (q_1, .inl (cid 12, 8, .inr (.inr (.inr (.inr f2))))) :: (h0, .inr (11, [.ref q_1, .null, .null, .null, .null, .null, .null, .null, .int 0, .int 0, .int 0, .int 0])) :: tl (dcF cid) adr i) := fr_D hD
      refine W.widen (k := i * 20 + 2) (n := i * 122 + 16) (by omega) (by omega) ?_
      refine lv_dup hx hb dX12_init_29 rfl ?_
      refine lv_iload_n hx hb dX12_init_30 rfl (lv_at hl 0 rfl) ?_
      refine nw_call (rest := [.ref q_23, .int (nI i), .ref q_1]) (r := (q_1, .inl (cid 12, 8, .inr (.inr (.inr (.inr f2))))) :: (h0, .inr (11, [.ref q_1, .null, .null, .null, .null, .null, .null, .null, .int 0, .int 0, .int 0, .int 0])) :: tl (dcF cid) adr i) ⟨hx, hb, hml, hown, htb⟩ (n_X2 l dC dI ad cid (q_23) ((nI i))) (cwI 1 htb (gd_c kw_1370) rfl rfl rfl (htb _ kw_15) (htb _ kw_43) (htb _ kw_44) rfl (by decide +kernel) ⟨Nat.le_of_ble_eq_true rfl, Nat.le_of_ble_eq_true rfl⟩) rfl hl.1 rfl (Nat.le_of_ble_eq_true rfl) dX12_init_31 ⟨(by show (i * 20 + 2) + 19 ≤ 661; omega), (by show (i * 122 + 16) + 114 ≤ 12981; omega)⟩ hK hP hD hS hA hG (fun w H locs hw hP7 hD7 hS => ?_)
      obtain ⟨u_24, eu_25, rfl, hu_26⟩ := hw
      subst eu_25
      have hP : va_P (dC, dI) vwCl ((q_1, .inl (cid 12, 8, .inr (.inr (.inr (.inr f2))))) :: (h0, .inr (11, [.ref q_1, .null, .null, .null, .null, .null, .null, .null, .int 0, .int 0, .int 0, .int 0])) :: (dcW cid ((nI i)) u_24 ++ tl (dcF cid) adr i)) H := sw_P (E := [(q_1, .inl (cid 12, 8, .inr (.inr (.inr (.inr f2))))), (h0, .inr (11, [.ref q_1, .null, .null, .null, .null, .null, .null, .null, .int 0, .int 0, .int 0, .int 0]))]) (w := dcW cid ((nI i)) u_24) (T := tl (dcF cid) adr i) hP7
      have hD : va_D A ((q_1, .inl (cid 12, 8, .inr (.inr (.inr (.inr f2))))) :: (h0, .inr (11, [.ref q_1, .null, .null, .null, .null, .null, .null, .null, .int 0, .int 0, .int 0, .int 0])) :: (dcW cid ((nI i)) u_24 ++ tl (dcF cid) adr i)) := sw_D (E := [(q_1, .inl (cid 12, 8, .inr (.inr (.inr (.inr f2))))), (h0, .inr (11, [.ref q_1, .null, .null, .null, .null, .null, .null, .null, .int 0, .int 0, .int 0, .int 0]))]) (w := dcW cid ((nI i)) u_24) (T := tl (dcF cid) adr i) hD7
      refine W.widen (k := i * 20 + 21) (n := i * 122 + 130) (by omega) (by omega) ?_
      refine va_astq (D := (dC, dI)) (r := (RX2, TX2, 8)) hx hb hK hP hD hS 0 12 5 2 rfl rfl rfl rfl (vp_in_nI hlt (by decide)) dX12_init_34 (fun H locs hP hD hS => ?_)
      have hP : va_P (dC, dI) vwCl ((q_1, .inl (cid 12, 8, .inr (.inr (.inr (.inr (va_up f2 (nI i).toNatClampNeg (some u_24.1.1))))))) :: (h0, .inr (11, [.ref q_1, .null, .null, .null, .null, .null, .null, .null, .int 0, .int 0, .int 0, .int 0])) :: (dcW cid ((nI i)) u_24 ++ tl (dcF cid) adr i)) H := hP
      have hD : va_D A ((q_1, .inl (cid 12, 8, .inr (.inr (.inr (.inr (va_up f2 (nI i).toNatClampNeg (some u_24.1.1))))))) :: (h0, .inr (11, [.ref q_1, .null, .null, .null, .null, .null, .null, .null, .int 0, .int 0, .int 0, .int 0])) :: (dcW cid ((nI i)) u_24 ++ tl (dcF cid) adr i)) := hD
      refine lv_iinc (v := nI (i + 1)) (lv' := [(1, .int (nI (i + 1))), (0, .ref h0)]) hx hb dX12_init_35 hl (k := 0) rfl (nI_1 i) (by decide) rfl (fun ls hl => ?_)
      refine lv_goto (tgt := 15) hx hb dX12_init_38 (by decide) ?_
      refine W.widen (k := (i + 1) * 20 + 1) (n := (i + 1) * 122 + 8) (by omega) (by omega) ?_
      have et9 := tl_s (F := dcF cid) (adr := adr) (i := i) (u := u_24)
      have hP : va_P (dC, dI) vwCl ((q_1, .inl (cid 12, 8, .inr (.inr (.inr (.inr (va_up f2 (nI i).toNatClampNeg (some u_24.1.1))))))) :: (h0, .inr (11, [.ref q_1, .null, .null, .null, .null, .null, .null, .null, .int 0, .int 0, .int 0, .int 0])) :: tl (dcF cid) (va_up adr i u_24) (i + 1)) H := by rw [et9]; exact hP
      have hD : va_D A ((q_1, .inl (cid 12, 8, .inr (.inr (.inr (.inr (va_up f2 (nI i).toNatClampNeg (some u_24.1.1))))))) :: (h0, .inr (11, [.ref q_1, .null, .null, .null, .null, .null, .null, .null, .int 0, .int 0, .int 0, .int 0])) :: tl (dcF cid) (va_up adr i u_24) (i + 1)) := by rw [et9]; exact hD
      exact ih (i + 1) (va_up adr i u_24) (va_up f2 (nI i).toNatClampNeg (some u_24.1.1)) _ _ _ (by omega) (fs_q (α := DU) (u := u_24) (fun x => x.1.1) (by omega) hf2) (pr_s (P := fun _ x => dcP x) hdc hu_26) hP hD hS hl
  exact hloop 8 0 (fun _ => ((0, 0, 0, 0), (fun _ => (0, 0, 0, 0)), ((fun _ => none), (fun _ => none)), (fun _ => 0))) (fun _ => none) _ _ _ rfl (fun j hj => absurd hj (Nat.not_lt_zero j)) (fun j hj => absurd hj (Nat.not_lt_zero j)) hP hD hS hl
