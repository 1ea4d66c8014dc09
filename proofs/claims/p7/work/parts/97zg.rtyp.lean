theorem wd7_5 {l0 l1 : Nat → Int64} (h : WRD7 l0 l1) {i k : Int32} (hk : iv 0 4 k) (hi : i.toInt = 4 + k.toInt) : (k.toInt = 0 ∧ (l1 i.toNatClampNeg).toInt = 6909556) ∨ (k.toInt = 1 ∧ (l1 i.toNatClampNeg).toInt = 500136506472) ∨ (k.toInt = 2 ∧ (l1 i.toNatClampNeg).toInt = 1667785074) ∨ (k.toInt = 3 ∧ (l1 i.toNatClampNeg).toInt = 1952807028) ∨ (k.toInt = 4 ∧ (l1 i.toNatClampNeg).toInt = 7499639) := by
  have k0 := hk.1
  have k1 := hk.2
  have k2 := iv_cl (show iv 0 8 i from ⟨by omega, by omega⟩) (by decide)
  have k3 := WRD7_1 h (k := i.toNatClampNeg) (by omega)
  rcases (show k.toInt = 0 ∨ k.toInt = 1 ∨ k.toInt = 2 ∨ k.toInt = 3 ∨ k.toInt = 4 by omega) with q | q | q | q | q
  · rw [show i.toNatClampNeg = 4 by omega] at k3 ⊢
    exact Or.inl ⟨q, k3⟩
  · rw [show i.toNatClampNeg = 5 by omega] at k3 ⊢
    exact Or.inr (Or.inl ⟨q, k3⟩)
  · rw [show i.toNatClampNeg = 6 by omega] at k3 ⊢
    exact Or.inr (Or.inr (Or.inl ⟨q, k3⟩))
  · rw [show i.toNatClampNeg = 7 by omega] at k3 ⊢
    exact Or.inr (Or.inr (Or.inr (Or.inl ⟨q, k3⟩)))
  · rw [show i.toNatClampNeg = 8 by omega] at k3 ⊢
    exact Or.inr (Or.inr (Or.inr (Or.inr (⟨q, k3⟩))))

set_option maxHeartbeats 4000000 in
set_option maxRecDepth 100000 in
theorem f_typeIn2 (l : Launch) (dC : Nat → ClassId) (dI : Nat → Nat → Nat) (h0 : Nat) (ad : Nat → Nat) (cid : Nat → ClassId) (sg : Nat → Int32) (gm : Nat → Nat → Int32) (lg : Nat → Nat → Int64) (x : Int32) (hI : MI sg gm) (hvx : iv 0 79 x) (hwd : WRD7 (lg 0) (lg 1)) : MMi l dC dI yX13_typeIn wm_X13_typeIn ({ frames := 2, cells := 0, slots := 0, locals := 51 }) h0 ad cid [.int x] sg gm lg (fun r v => (iv (-1) 15 r) ∧ ((r.toInt = -1 ∧ ¬ (((mWord gm lg x.toNatClampNeg 1954115685).toInt = 6909556 ∨ (mWord gm lg x.toNatClampNeg 1954115685).toInt = 500136506472 ∨ (mWord gm lg x.toNatClampNeg 1954115685).toInt = 1667785074 ∨ (mWord gm lg x.toNatClampNeg 1954115685).toInt = 1952807028 ∨ (mWord gm lg x.toNatClampNeg 1954115685).toInt = 7499639) ∨ ((mHas gm lg x.toNatClampNeg 1954115685).toInt = 1 ∧ CLSV (mWord gm lg x.toNatClampNeg 1954115685).toInt))) ∨ (0 ≤ r.toInt ∧ (((mWord gm lg x.toNatClampNeg 1954115685).toInt = 6909556 ∨ (mWord gm lg x.toNatClampNeg 1954115685).toInt = 500136506472 ∨ (mWord gm lg x.toNatClampNeg 1954115685).toInt = 1667785074 ∨ (mWord gm lg x.toNatClampNeg 1954115685).toInt = 1952807028 ∨ (mWord gm lg x.toNatClampNeg 1954115685).toInt = 7499639) ∨ ((mHas gm lg x.toNatClampNeg 1954115685).toInt = 1 ∧ CLSV (mWord gm lg x.toNatClampNeg 1954115685).toInt)))) ∧ v = (sg, gm, lg)) := by
  intro sz
  refine Met.ofW (cc := cX13_typeIn) (maxL := 5) (ret := (some .int)) (by decide) rfl ?_
  intro p e s m args below meth c s₁ B hml hv
  obtain ⟨rfl, hsz, hP, hK, hD0⟩ := hv
  have hx := B.exec
  have hb := B.bytes
  have hr := B.returns
  have hts := atoms_spec (ws := wm_X13_typeIn) B.pre
  have htb := fun (w : Cond) (h : w ∈ tb) => hts w (List.mem_cons_of_mem _ h)
  have hown : s.vm.findClass RX13 = some m.cls := findClass_of_methodNamed B.named
  have hlocks := B.notSynchronized
  subst hsz
  have hD := hD0.self (sz := s.heap.size)
  generalize hAe : va_A (mW h0 ad cid sg gm lg) s.heap.size = A at hD ⊢
  have hA : ∀ q : Nat, s.heap.size ≤ q → A q := fun q h => by rw [← hAe]; exact Or.inr h
  have hS : va_S A s.heap s.heap [] := va_S.rf
  have hl := lv_entry ([.ref h0, .int x]) (n := 5) (Nat.le_of_ble_eq_true rfl)
  rw [lg_entry_eq]
  generalize (lg_sl ([.ref h0, .int x]) ++ List.replicate (5 - (lg_sl ([.ref h0, .int x])).length) Slot.unset).toArray = ls at hl ⊢
  have hl : lv_has ls 5 [(0, .ref h0), (1, .int x)] := hl
  have hj71 : ∀ (x4_71 : Int32) (x2_71 : Int64) (y0_71 : Int32) (_ : iv 5 6 x4_71) (_ : iv 0 79 x) (_ : iv (-1) 15 y0_71) (_ : (y0_71.toInt = -1 ∧ ¬ (((mWord gm lg x.toNatClampNeg 1954115685).toInt = 6909556 ∨ (mWord gm lg x.toNatClampNeg 1954115685).toInt = 500136506472 ∨ (mWord gm lg x.toNatClampNeg 1954115685).toInt = 1667785074 ∨ (mWord gm lg x.toNatClampNeg 1954115685).toInt = 1952807028 ∨ (mWord gm lg x.toNatClampNeg 1954115685).toInt = 7499639) ∨ ((mHas gm lg x.toNatClampNeg 1954115685).toInt = 1 ∧ CLSV (mWord gm lg x.toNatClampNeg 1954115685).toInt))) ∨ (0 ≤ y0_71.toInt ∧ (((mWord gm lg x.toNatClampNeg 1954115685).toInt = 6909556 ∨ (mWord gm lg x.toNatClampNeg 1954115685).toInt = 500136506472 ∨ (mWord gm lg x.toNatClampNeg 1954115685).toInt = 1667785074 ∨ (mWord gm lg x.toNatClampNeg 1954115685).toInt = 1952807028 ∨ (mWord gm lg x.toNatClampNeg 1954115685).toInt = 7499639) ∨ ((mHas gm lg x.toNatClampNeg 1954115685).toInt = 1 ∧ CLSV (mWord gm lg x.toNatClampNeg 1954115685).toInt)))) (H : Heap) (locs : List Loc) (ls : Array Slot), va_P (dC, dI) vwCl (mW h0 ad cid sg gm lg) H → va_D A (mW h0 ad cid sg gm lg) → va_S A s.heap H locs → lv_has ls 5 [(4, .int x4_71), (2, .long x2_71), (0, .ref h0), (1, .int x)] → W p l e (headSpec wm_X13_typeIn ({ frames := 2, cells := 0, slots := 0, locals := 51 })).room s m ([.ref h0, .int x] : List Value).toArray below meth c H locs 0 0 (MQ below (va_Qi (fun r v => (iv (-1) 15 r) ∧ ((r.toInt = -1 ∧ ¬ (((mWord gm lg x.toNatClampNeg 1954115685).toInt = 6909556 ∨ (mWord gm lg x.toNatClampNeg 1954115685).toInt = 500136506472 ∨ (mWord gm lg x.toNatClampNeg 1954115685).toInt = 1667785074 ∨ (mWord gm lg x.toNatClampNeg 1954115685).toInt = 1952807028 ∨ (mWord gm lg x.toNatClampNeg 1954115685).toInt = 7499639) ∨ ((mHas gm lg x.toNatClampNeg 1954115685).toInt = 1 ∧ CLSV (mWord gm lg x.toNatClampNeg 1954115685).toInt))) ∨ (0 ≤ r.toInt ∧ (((mWord gm lg x.toNatClampNeg 1954115685).toInt = 6909556 ∨ (mWord gm lg x.toNatClampNeg 1954115685).toInt = 500136506472 ∨ (mWord gm lg x.toNatClampNeg 1954115685).toInt = 1667785074 ∨ (mWord gm lg x.toNatClampNeg 1954115685).toInt = 1952807028 ∨ (mWord gm lg x.toNatClampNeg 1954115685).toInt = 7499639) ∨ ((mHas gm lg x.toNatClampNeg 1954115685).toInt = 1 ∧ CLSV (mWord gm lg x.toNatClampNeg 1954115685).toInt)))) ∧ v = (sg, gm, lg)) (MB dC dI h0 ad cid A) A) ([.ref h0, .int x] : List Value).toArray s 0 0 A) (F0 m 71 ls [.int y0_71]) := by
    intro x4_71 x2_71 y0_71 hx4_71 hsx1_71 hy0_71 u71 H locs ls hP hD hS hl
    exact W.iret (v := y0_71) hx hb hr (fun t ht hW => ⟨⟨y0_71, (sg, gm, lg), rfl, ⟨hy0_71, (u71), rfl⟩, by rw [ht]; exact hP, va_K.moved hW.alike hK, hD⟩, hS.F ht⟩) hS.2.2 dX13_typeIn_71
  have hj70 : ∀ (x4_70 : Int32) (x2_70 : Int64) (_ : iv 5 6 x4_70) (_ : iv 0 79 x) (_ : ¬ (((mWord gm lg x.toNatClampNeg 1954115685).toInt = 6909556 ∨ (mWord gm lg x.toNatClampNeg 1954115685).toInt = 500136506472 ∨ (mWord gm lg x.toNatClampNeg 1954115685).toInt = 1667785074 ∨ (mWord gm lg x.toNatClampNeg 1954115685).toInt = 1952807028 ∨ (mWord gm lg x.toNatClampNeg 1954115685).toInt = 7499639) ∨ ((mHas gm lg x.toNatClampNeg 1954115685).toInt = 1 ∧ CLSV (mWord gm lg x.toNatClampNeg 1954115685).toInt))) (H : Heap) (locs : List Loc) (ls : Array Slot), va_P (dC, dI) vwCl (mW h0 ad cid sg gm lg) H → va_D A (mW h0 ad cid sg gm lg) → va_S A s.heap H locs → lv_has ls 5 [(4, .int x4_70), (2, .long x2_70), (0, .ref h0), (1, .int x)] → W p l e (headSpec wm_X13_typeIn ({ frames := 2, cells := 0, slots := 0, locals := 51 })).room s m ([.ref h0, .int x] : List Value).toArray below meth c H locs 0 0 (MQ below (va_Qi (fun r v => (iv (-1) 15 r) ∧ ((r.toInt = -1 ∧ ¬ (((mWord gm lg x.toNatClampNeg 1954115685).toInt = 6909556 ∨ (mWord gm lg x.toNatClampNeg 1954115685).toInt = 500136506472 ∨ (mWord gm lg x.toNatClampNeg 1954115685).toInt = 1667785074 ∨ (mWord gm lg x.toNatClampNeg 1954115685).toInt = 1952807028 ∨ (mWord gm lg x.toNatClampNeg 1954115685).toInt = 7499639) ∨ ((mHas gm lg x.toNatClampNeg 1954115685).toInt = 1 ∧ CLSV (mWord gm lg x.toNatClampNeg 1954115685).toInt))) ∨ (0 ≤ r.toInt ∧ (((mWord gm lg x.toNatClampNeg 1954115685).toInt = 6909556 ∨ (mWord gm lg x.toNatClampNeg 1954115685).toInt = 500136506472 ∨ (mWord gm lg x.toNatClampNeg 1954115685).toInt = 1667785074 ∨ (mWord gm lg x.toNatClampNeg 1954115685).toInt = 1952807028 ∨ (mWord gm lg x.toNatClampNeg 1954115685).toInt = 7499639) ∨ ((mHas gm lg x.toNatClampNeg 1954115685).toInt = 1 ∧ CLSV (mWord gm lg x.toNatClampNeg 1954115685).toInt)))) ∧ v = (sg, gm, lg)) (MB dC dI h0 ad cid A) A) ([.ref h0, .int x] : List Value).toArray s 0 0 A) (F0 m 70 ls []) := by
    intro x4_70 x2_70 hx4_70 hsx1_70 u70 H locs ls hP hD hS hl
    refine lv_iconst (v := (-1)) hx hb dX13_typeIn_70 (by decide) ?_
    exact hj71 x4_70 x2_70 (-1) hx4_70 hsx1_70 (iv_w (iv_k (by decide) : iv (-1) (-1) (-1)) (by decide)) (Or.inl ⟨rfl, u70⟩) _ _ _ hP hD hS (lv_sub hl [0, 1, 2, 3] rfl)
  have hj12 : ∀ (n : Nat) (x4_12 : Int32) (x2_12 : Int64) (_ : (6 - x4_12.toInt).toNat = n) (_ : iv 0 6 x4_12) (_ : iv 0 79 x) (_ : (x4_12.toInt ≤ 0 ∨ ¬ (mWord gm lg x.toNatClampNeg 1954115685).toInt = 6909556) ∧ (x4_12.toInt ≤ 1 ∨ ¬ (mWord gm lg x.toNatClampNeg 1954115685).toInt = 500136506472) ∧ (x4_12.toInt ≤ 2 ∨ ¬ (mWord gm lg x.toNatClampNeg 1954115685).toInt = 1667785074) ∧ (x4_12.toInt ≤ 3 ∨ ¬ (mWord gm lg x.toNatClampNeg 1954115685).toInt = 1952807028) ∧ (x4_12.toInt ≤ 4 ∨ ¬ (mWord gm lg x.toNatClampNeg 1954115685).toInt = 7499639)) (_ : x2_12.toInt = (mWord gm lg x.toNatClampNeg 1954115685).toInt) (H : Heap) (locs : List Loc) (ls : Array Slot), va_P (dC, dI) vwCl (mW h0 ad cid sg gm lg) H → va_D A (mW h0 ad cid sg gm lg) → va_S A s.heap H locs → lv_has ls 5 [(4, .int x4_12), (2, .long x2_12), (0, .ref h0), (1, .int x)] → W p l e (headSpec wm_X13_typeIn ({ frames := 2, cells := 0, slots := 0, locals := 51 })).room s m ([.ref h0, .int x] : List Value).toArray below meth c H locs 0 0 (MQ below (va_Qi (fun r v => (iv (-1) 15 r) ∧ ((r.toInt = -1 ∧ ¬ (((mWord gm lg x.toNatClampNeg 1954115685).toInt = 6909556 ∨ (mWord gm lg x.toNatClampNeg 1954115685).toInt = 500136506472 ∨ (mWord gm lg x.toNatClampNeg 1954115685).toInt = 1667785074 ∨ (mWord gm lg x.toNatClampNeg 1954115685).toInt = 1952807028 ∨ (mWord gm lg x.toNatClampNeg 1954115685).toInt = 7499639) ∨ ((mHas gm lg x.toNatClampNeg 1954115685).toInt = 1 ∧ CLSV (mWord gm lg x.toNatClampNeg 1954115685).toInt))) ∨ (0 ≤ r.toInt ∧ (((mWord gm lg x.toNatClampNeg 1954115685).toInt = 6909556 ∨ (mWord gm lg x.toNatClampNeg 1954115685).toInt = 500136506472 ∨ (mWord gm lg x.toNatClampNeg 1954115685).toInt = 1667785074 ∨ (mWord gm lg x.toNatClampNeg 1954115685).toInt = 1952807028 ∨ (mWord gm lg x.toNatClampNeg 1954115685).toInt = 7499639) ∨ ((mHas gm lg x.toNatClampNeg 1954115685).toInt = 1 ∧ CLSV (mWord gm lg x.toNatClampNeg 1954115685).toInt)))) ∧ v = (sg, gm, lg)) (MB dC dI h0 ad cid A) A) ([.ref h0, .int x] : List Value).toArray s 0 0 A) (F0 m 12 ls []) := by
    intro n
    induction n using Nat.strongRecOn with
    | ind n ih12 =>
      intro x4_12 x2_12 hn12 hx4_12 hsx1_12 hc hw H locs ls hP hD hS hl
      refine lv_iload hx hb dX13_typeIn_12 (lv_at hl 0 rfl) ?_
      refine lv_iconst (v := 5) hx hb dX13_typeIn_14 (by decide) ?_
      refine lv_icmp_ge (tgt := 41) hx hb dX13_typeIn_15 (by decide) (fun c_1 => ?_) (fun c_1 => ?_)
      · have h_2 : iv 5 6 x4_12 := iv_leR c_1 (iv_k (by decide) : iv 5 5 5) hx4_12 (by decide)
        refine lv_aload_n hx hb dX13_typeIn_41 rfl (lv_at hl 2 rfl) ?_
        refine lv_iload_n hx hb dX13_typeIn_42 rfl (lv_at hl 3 rfl) ?_
        refine lv_ldc2 (own := RX13) (v := 1954115685) hx hb hown (htb _ kw_892) dX13_typeIn_43 ?_
        refine mr_calli (rest := []) ⟨hx, hb, hml, hown, htb⟩ (f_has l dC dI h0 ad cid sg gm lg x 1954115685 hI hsx1_12) (cwV 2 htb (gd_V kw_916 kw_917 kw_918 kw_5 kw_1543) rfl rfl rfl (by decide +kernel) ⟨Nat.le_of_ble_eq_true rfl, Nat.le_of_ble_eq_true rfl⟩) rfl hl.1 rfl (Nat.le_of_ble_eq_true rfl) dX13_typeIn_46 ⟨Nat.zero_le _, Nat.zero_le _⟩ hK hP hD hS hA (fun r_3 u_4 H locs hw hP hD hS => ?_)
        obtain ⟨hr_3, fH_r_3, rfl⟩ := hw
        have hP : va_P (dC, dI) vwCl (mW h0 ad cid sg gm lg) H := hP
        have hD : va_D A (mW h0 ad cid sg gm lg) := hD
        refine lv_if_eq (tgt := 70) hx hb dX13_typeIn_49 (by decide) (fun c_5 => ?_) (fun c_5 => ?_)
        · have h_6 : iv 0 0 r_3 := iv_eq c_5 hr_3 (iv_k (by decide) : iv 0 0 0) (by decide)
          exact hj70 x4_12 x2_12 h_2 hsx1_12 ((by have := congrArg Int32.toInt fH_r_3; have := (mHas_iv (gm := gm) (lg := lg) (x := x.toNatClampNeg) 1954115685).1; have := (mHas_iv (gm := gm) (lg := lg) (x := x.toNatClampNeg) 1954115685).2; have := i32_0; have := i32_1; have := i32_2; have := i32_m1; have := (hsx1_12).1; have := (hsx1_12).2; have := (h_2).1; have := (h_2).2; have := (h_6).1; have := (h_6).2; omega)) _ _ _ hP hD hS (lv_sub hl [0, 1, 2, 3] rfl)
        · have h_7 : iv 1 1 r_3 := iv_neL c_5 hr_3 (by decide)
          refine lv_lload_n hx hb dX13_typeIn_52 rfl (lv_at hl 1 rfl) ?_
          have hPc := hP.sub (ws' := []) [] rfl
          have hDc := hD.sub (ws' := []) [] (by decide) rfl
          have hKc := hK.sub (tys' := []) [] rfl
          have hFc := va_free (wc := []) hD hS hA [] rfl
          refine va_calli (va_runS (As := [.long x2_12]) (rest := []) ⟨hx, hb, hml, hown, htb⟩ (a_classIn2 l dC dI H.size x2_12) (va_cwS 1 htb (gd_S kw_927 kw_928 kw_5 kw_1546) rfl rfl rfl (by decide +kernel) ⟨Nat.le_of_ble_eq_true rfl, Nat.le_of_ble_eq_true rfl⟩) ⟨fun a U g mk q => by obtain ⟨q0, q1, qP, qK, qD⟩ := q; exact ⟨q0, q1, qP, va_K.moved (u := U) (U := U.calling g mk a) (Vm.Alike.refl U.vm) qK, qD⟩, fun U hU hW => ⟨rfl, by rw [hU], by rw [hU]; exact hPc, va_K.moved hW.alike hKc, hDc.weaken (fun _ _ _ _ => trivial)⟩⟩ rfl rfl hl.1 rfl (lv_room (Nat.le_of_ble_eq_true rfl)) dX13_typeIn_53 ⟨Nat.zero_le _, Nat.zero_le _⟩) hS (fun q _ h => hFc q h) hFc (fun r_8 u9 t H1 locs ht hvm hw hB hz1 hk1 hS => ?_)
          have hP := ms_kept hP hz1 hk1
          generalize H1 = H at hP hS ⊢
          have fK_r_8 := hw.2
          have hw := hw.1
          have hr_8 := hw
          refine lv_iconst (v := (-1)) hx hb dX13_typeIn_56 (by decide) ?_
          refine lv_icmp_eq (tgt := 70) hx hb dX13_typeIn_57 (by decide) (fun c_9 => ?_) (fun c_9 => ?_)
          · have h_10 : iv (-1) (-1) r_8 := iv_eq c_9 hr_8 (iv_k (by decide) : iv (-1) (-1) (-1)) (by decide)
            exact hj70 x4_12 x2_12 h_2 hsx1_12 ((by have := congrArg Int32.toInt fH_r_3; have := (mHas_iv (gm := gm) (lg := lg) (x := x.toNatClampNeg) 1954115685).1; have := (mHas_iv (gm := gm) (lg := lg) (x := x.toNatClampNeg) 1954115685).2; have := i32_0; have := i32_1; have := i32_2; have := i32_m1; have := (hsx1_12).1; have := (hsx1_12).2; have := (h_2).1; have := (h_2).2; have := (h_7).1; have := (h_7).2; have := (h_10).1; have := (h_10).2; omega)) _ _ _ hP hD hS (lv_sub hl [0, 1, 2, 3] rfl)
          · have h_11 : iv 0 7 r_8 := iv_neL c_9 hr_8 (by decide)
            refine lv_bipush (v := 8) hx hb dX13_typeIn_60 (by decide) ?_
            refine lv_lload_n hx hb dX13_typeIn_62 rfl (lv_at hl 1 rfl) ?_
            have hPc := hP.sub (ws' := []) [] rfl
            have hDc := hD.sub (ws' := []) [] (by decide) rfl
            have hKc := hK.sub (tys' := []) [] rfl
            have hFc := va_free (wc := []) hD hS hA [] rfl
            refine va_calli (va_runS (As := [.long x2_12]) (rest := [.int 8]) ⟨hx, hb, hml, hown, htb⟩ (a_classIn2 l dC dI H.size x2_12) (va_cwS 1 htb (gd_S kw_927 kw_928 kw_5 kw_1546) rfl rfl rfl (by decide +kernel) ⟨Nat.le_of_ble_eq_true rfl, Nat.le_of_ble_eq_true rfl⟩) ⟨fun a U g mk q => by obtain ⟨q0, q1, qP, qK, qD⟩ := q; exact ⟨q0, q1, qP, va_K.moved (u := U) (U := U.calling g mk a) (Vm.Alike.refl U.vm) qK, qD⟩, fun U hU hW => ⟨rfl, by rw [hU], by rw [hU]; exact hPc, va_K.moved hW.alike hKc, hDc.weaken (fun _ _ _ _ => trivial)⟩⟩ rfl rfl hl.1 rfl (lv_room (Nat.le_of_ble_eq_true rfl)) dX13_typeIn_63 ⟨Nat.zero_le _, Nat.zero_le _⟩) hS (fun q _ h => hFc q h) hFc (fun r_12 u9 t H1 locs ht hvm hw hB hz1 hk1 hS => ?_)
            have hP := ms_kept hP hz1 hk1
            generalize H1 = H at hP hS ⊢
            have fK_r_12 := hw.2
            have hw := hw.1
            have hr_12 := hw
            refine lv_iadd hx hb dX13_typeIn_66 ?_
            refine lv_topi (fun z_13 ez_13 => ?_)
            have hz_13 : iv 7 15 z_13 := iv_of ez_13 (iv_add (iv_k (by decide) : iv 8 8 8) hr_12 (by decide))
            have tz_13 : z_13.toInt = 8 + (r_12 : Int32).toInt := by rw [ez_13]; exact iv_addE (iv_k (by decide) : iv 8 8 8) hr_12 (by decide)
            refine lv_goto (tgt := 71) hx hb dX13_typeIn_67 (by decide) ?_
            exact hj71 x4_12 x2_12 z_13 h_2 hsx1_12 (iv_w hz_13 (by decide)) (Or.inr ⟨(by have := congrArg Int32.toInt fH_r_3; have := (mHas_iv (gm := gm) (lg := lg) (x := x.toNatClampNeg) 1954115685).1; have := (mHas_iv (gm := gm) (lg := lg) (x := x.toNatClampNeg) 1954115685).2; have := i32_0; have := i32_1; have := i32_2; have := i32_m1; have := (hsx1_12).1; have := (hsx1_12).2; have := (h_2).1; have := (h_2).2; have := (h_7).1; have := (h_7).2; have := (h_11).1; have := (h_11).2; have := (hr_12).1; have := (hr_12).2; have := (hz_13).1; have := (hz_13).2; omega), (by have := congrArg Int32.toInt fH_r_3; have := (mHas_iv (gm := gm) (lg := lg) (x := x.toNatClampNeg) 1954115685).1; have := (mHas_iv (gm := gm) (lg := lg) (x := x.toNatClampNeg) 1954115685).2; have := i32_0; have := i32_1; have := i32_2; have := i32_m1; have := (hsx1_12).1; have := (hsx1_12).2; have := (h_2).1; have := (h_2).2; have := (h_7).1; have := (h_7).2; have := (h_11).1; have := (h_11).2; have := (hr_12).1; have := (hr_12).2; have := (hz_13).1; have := (hz_13).2; omega)⟩) _ _ _ hP hD hS (lv_sub hl [0, 1, 2, 3] rfl)
      · have h_14 : iv 0 4 x4_12 := iv_ltL (i32_lt c_1) hx4_12 (iv_k (by decide) : iv 5 5 5) (by decide)
        refine lv_lload_n hx hb dX13_typeIn_18 rfl (lv_at hl 1 rfl) ?_
        refine lv_aload_n hx hb dX13_typeIn_19 rfl (lv_at hl 2 rfl) ?_
        refine mr_get (v := .ref (ad 1)) hx hb htb inX13 hown hK hP 1 (by decide) (htb _ kw_156) rfl dX13_typeIn_20 ?_
        refine lv_iconst (v := 4) hx hb dX13_typeIn_23 (by decide) ?_
        refine lv_iload hx hb dX13_typeIn_24 (lv_at hl 0 rfl) ?_
        refine lv_iadd hx hb dX13_typeIn_26 ?_
        refine lv_topi (fun z_15 ez_15 => ?_)
        have hz_15 : iv 4 8 z_15 := iv_of ez_15 (iv_add (iv_k (by decide) : iv 4 4 4) h_14 (by decide))
        have tz_15 : z_15.toInt = 4 + (x4_12 : Int32).toInt := by rw [ez_15]; exact iv_addE (iv_k (by decide) : iv 4 4 4) h_14 (by decide)
        refine mr_lald hx hb hK hP 1 (k := 1) rfl rfl rfl (show vp_in z_15 11 from (iv_in hz_15 (by decide))) dX13_typeIn_27 ?_
        refine lv_topl (fun z_16 ez_16 => ?_)
        have gz_16 := wd7_5 hwd (i := z_15) (k := x4_12) h_14 (by have := tz_15; omega)
        rw [← ez_16] at gz_16
        refine W.lcmp hx hb dX13_typeIn_28 ?_
        refine lv_topi (fun z_17 ez_17 => ?_)
        have hz_17 : iv (-1) 1 z_17 := iv_of ez_17 (iv_cmp _ _)
        have hl_z_17 := lg_tr7 ez_17
        refine lv_if_ne (tgt := 35) hx hb dX13_typeIn_29 (by decide) (fun c_18 => ?_) (fun c_18 => ?_)
        · have d_19 : ¬ (z_17 : Int32).toInt = 0 := lv_neT c_18 rfl
          obtain ⟨z_20, ez_20⟩ : ∃ z : Int32, z = x4_12 + 1 := ⟨_, rfl⟩
          have hz_20 : iv 1 5 z_20 := iv_of ez_20 (iv_add h_14 (iv_k (by decide) : iv 1 1 1) (by decide))
          have tz_20 : z_20.toInt = x4_12.toInt + 1 := by rw [ez_20]; exact iv_addE h_14 (iv_k (by decide) : iv 1 1 1) (by decide)
          refine lv_iinc (v := z_20) (lv' := [(4, .int z_20), (2, .long x2_12), (0, .ref h0), (1, .int x)]) hx hb dX13_typeIn_35 hl (k := 0) rfl ez_20.symm (by decide) rfl (fun ls hl => ?_)
          refine lv_goto (tgt := 12) hx hb dX13_typeIn_38 (by decide) ?_
          exact ih12 _ (by rw [← hn12]; exact (iv_meas tz_20 h_14 (by decide))) z_20 x2_12 rfl (iv_w hz_20 (by decide)) hsx1_12 ((by have := (mHas_iv (gm := gm) (lg := lg) (x := x.toNatClampNeg) 1954115685).1; have := (mHas_iv (gm := gm) (lg := lg) (x := x.toNatClampNeg) 1954115685).2; have := i32_0; have := i32_1; have := i32_2; have := i32_m1; have := (hsx1_12).1; have := (hsx1_12).2; have := (h_14).1; have := (h_14).2; have := (hz_15).1; have := (hz_15).2; have := (hz_17).1; have := (hz_17).2; have := (hz_20).1; have := (hz_20).2; omega)) ((by have := (mHas_iv (gm := gm) (lg := lg) (x := x.toNatClampNeg) 1954115685).1; have := (mHas_iv (gm := gm) (lg := lg) (x := x.toNatClampNeg) 1954115685).2; have := i32_0; have := i32_1; have := i32_2; have := i32_m1; have := (hsx1_12).1; have := (hsx1_12).2; have := (h_14).1; have := (h_14).2; have := (hz_15).1; have := (hz_15).2; have := (hz_17).1; have := (hz_17).2; have := (hz_20).1; have := (hz_20).2; omega)) _ _ _ hP hD hS (lv_sub hl [0, 1, 2, 3] rfl)
        · have h_21 : iv 0 0 z_17 := iv_eq c_18 hz_17 (iv_k (by decide) : iv 0 0 0) (by decide)
          refine lv_iload hx hb dX13_typeIn_32 (lv_at hl 0 rfl) ?_
          exact W.iret (v := x4_12) hx hb hr (fun t ht hW => ⟨⟨x4_12, (sg, gm, lg), rfl, ⟨(iv_w h_14 (by decide)), (Or.inr ⟨(by have := (mHas_iv (gm := gm) (lg := lg) (x := x.toNatClampNeg) 1954115685).1; have := (mHas_iv (gm := gm) (lg := lg) (x := x.toNatClampNeg) 1954115685).2; have := i32_0; have := i32_1; have := i32_2; have := i32_m1; have := (hsx1_12).1; have := (hsx1_12).2; have := (h_14).1; have := (h_14).2; have := (hz_15).1; have := (hz_15).2; have := (h_21).1; have := (h_21).2; omega), (by have := (mHas_iv (gm := gm) (lg := lg) (x := x.toNatClampNeg) 1954115685).1; have := (mHas_iv (gm := gm) (lg := lg) (x := x.toNatClampNeg) 1954115685).2; have := i32_0; have := i32_1; have := i32_2; have := i32_m1; have := (hsx1_12).1; have := (hsx1_12).2; have := (h_14).1; have := (h_14).2; have := (hz_15).1; have := (hz_15).2; have := (h_21).1; have := (h_21).2; omega)⟩), rfl⟩, by rw [ht]; exact hP, va_K.moved hW.alike hK, hD⟩, hS.F ht⟩) hS.2.2 dX13_typeIn_34
  refine lv_aload_n hx hb dX13_typeIn_0 rfl (lv_at hl 0 rfl) ?_
  refine lv_iload_n hx hb dX13_typeIn_1 rfl (lv_at hl 1 rfl) ?_
  refine lv_ldc2 (own := RX13) (v := 1954115685) hx hb hown (htb _ kw_892) dX13_typeIn_2 ?_
  refine mr_calll (rest := []) ⟨hx, hb, hml, hown, htb⟩ (f_word l dC dI h0 ad cid sg gm lg x 1954115685 hI hvx) (cwV 2 htb (gd_V kw_923 kw_924 kw_925 kw_5 kw_1545) rfl rfl rfl (by decide +kernel) ⟨Nat.le_of_ble_eq_true rfl, Nat.le_of_ble_eq_true rfl⟩) rfl hl.1 rfl (Nat.le_of_ble_eq_true rfl) dX13_typeIn_5 ⟨Nat.zero_le _, Nat.zero_le _⟩ hK hP hD hS hA (fun r_22 u_23 H locs hw hP hD hS => ?_)
  obtain ⟨fW_r_22, rfl⟩ := hw
  have hP : va_P (dC, dI) vwCl (mW h0 ad cid sg gm lg) H := hP
  have hD : va_D A (mW h0 ad cid sg gm lg) := hD
  refine lv_lstore_n (lv' := [(2, .long r_22), (0, .ref h0), (1, .int x)]) hx hb dX13_typeIn_8 rfl hl (by decide) rfl (fun ls hl => ?_)
  refine lv_iconst (v := 0) hx hb dX13_typeIn_9 (by decide) ?_
  refine lv_istore (lv' := [(4, .int 0), (2, .long r_22), (0, .ref h0), (1, .int x)]) hx hb dX13_typeIn_10 hl (by decide) rfl (fun ls hl => ?_)
  exact hj12 _ 0 r_22 rfl (iv_w (iv_k (by decide) : iv 0 0 0) (by decide)) hvx ((by have := congrArg Int64.toInt fW_r_22; have := (mHas_iv (gm := gm) (lg := lg) (x := x.toNatClampNeg) 1954115685).1; have := (mHas_iv (gm := gm) (lg := lg) (x := x.toNatClampNeg) 1954115685).2; have := i32_0; have := i32_1; have := i32_2; have := i32_m1; have := (hvx).1; have := (hvx).2; omega)) ((by have := congrArg Int64.toInt fW_r_22; have := (mHas_iv (gm := gm) (lg := lg) (x := x.toNatClampNeg) 1954115685).1; have := (mHas_iv (gm := gm) (lg := lg) (x := x.toNatClampNeg) 1954115685).2; have := i32_0; have := i32_1; have := i32_2; have := i32_m1; have := (hvx).1; have := (hvx).2; omega)) _ _ _ hP hD hS (lv_sub hl [0, 1, 2, 3] rfl)
