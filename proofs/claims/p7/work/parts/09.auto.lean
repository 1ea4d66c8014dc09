theorem KS_nil {α : Type} {f g : Nat → α} (h : KS [] f g) : f = g := funext (fun k => (h k rfl).symm)
theorem i32_0 : (0 : Int32).toInt = 0 := rfl
theorem i32_1 : (1 : Int32).toInt = 1 := rfl
theorem i32_2 : (2 : Int32).toInt = 2 := rfl
theorem i32_m1 : (-1 : Int32).toInt = -1 := rfl
theorem iv_measDn {a b M d : Int} {x z : Int32} (h : z.toInt = x.toInt - d) (hd : 0 < d) (h1 : iv a b x) (q : M < a) : (z.toInt - M).toNat < (x.toInt - M).toNat := by
  have h2 := h1.1
  omega
theorem MI_b {sg : Nat → Int32} {gm : Nat → Nat → Int32} {x : Int32} (h : MI sg gm) (k : Nat) (hx : vp_in x (mLen k)) : iv (aLo k) (aHi k) (gm k x.toNatClampNeg) := h.2 k _ (by
  have h1 := (vp_in_iff.mp hx).1
  have h2 := (vp_in_iff.mp hx).2
  have h3 : ((x.toNatClampNeg : Nat) : Int) = x.toInt := iv_cl (a := 0) (b := x.toInt) ⟨h1, by omega⟩ (by decide)
  omega)

theorem iv_l255 {w z : Int64} (h : z = w &&& 255) : iv 0 255 z.toInt32 := by
  subst h
  have k : (w &&& 255).toInt = ((w &&& 255).toBitVec.toNat : Int) := by
    show (w &&& 255).toBitVec.toInt = _
    rw [BitVec.toInt_eq_toNat_of_msb]
    show (w.toBitVec &&& 255#64).msb = false
    rw [BitVec.msb_and]
    exact Bool.and_false _
  have k2 : (w &&& 255).toBitVec.toNat ≤ 255 := by
    show (w.toBitVec &&& 255#64).toNat ≤ 255
    rw [BitVec.toNat_and]
    exact Nat.and_le_right
  refine ⟨?_, ?_⟩ <;> rw [Int64.toInt_toInt32, i32_bm ⟨by omega, by omega⟩] <;> omega

set_option maxHeartbeats 4000000 in
set_option maxRecDepth 100000 in
theorem a_isSmall (l : Launch) (dC : Nat → ClassId) (dI : Nat → Nat → Nat) (h0 : Nat) (ad : Nat → Nat) (cid : Nat → ClassId) (sg : Nat → Int32) (gm : Nat → Nat → Int32) (lg : Nat → Nat → Int64) (x : Int32) (hI : MI sg gm) : MMi l dC dI yX13_isSmall wm_X13_isSmall ({ frames := 0, cells := 0, slots := 0, locals := 0 }) h0 ad cid [.int x] sg gm lg (fun r v => (iv 0 1 r) ∧ v = (sg, gm, lg)) := by
  intro sz
  refine Met.ofW (cc := cX13_isSmall) (maxL := 2) (ret := (some .boolean)) (by decide) rfl ?_
  intro p e s m args below meth c s₁ B hml hv
  obtain ⟨rfl, hsz, hP, hK, hD0⟩ := hv
  have hx := B.exec
  have hb := B.bytes
  have hr := B.returns
  have hts := atoms_spec (ws := wm_X13_isSmall) B.pre
  have htb := fun (w : Cond) (h : w ∈ tb) => hts w (List.mem_cons_of_mem _ h)
  have hown : s.vm.findClass RX13 = some m.cls := findClass_of_methodNamed B.named
  have hlocks := B.notSynchronized
  subst hsz
  have hD := hD0.self (sz := s.heap.size)
  generalize hAe : va_A (mW h0 ad cid sg gm lg) s.heap.size = A at hD ⊢
  have hA : ∀ q : Nat, s.heap.size ≤ q → A q := fun q h => by rw [← hAe]; exact Or.inr h
  have hS : va_S A s.heap s.heap [] := va_S.rf
  have hl := lv_entry ([.ref h0, .int x]) (n := 2) (Nat.le_of_ble_eq_true rfl)
  rw [lg_entry_eq]
  generalize (lg_sl ([.ref h0, .int x]) ++ List.replicate (2 - (lg_sl ([.ref h0, .int x])).length) Slot.unset).toArray = ls at hl ⊢
  have hl : lv_has ls 2 [(0, .ref h0), (1, .int x)] := hl
  have hj17 : ∀ (y0_17 : Int32) (_ : iv 0 1 y0_17) (H : Heap) (locs : List Loc) (ls : Array Slot), va_P (dC, dI) vwCl (mW h0 ad cid sg gm lg) H → va_D A (mW h0 ad cid sg gm lg) → va_S A s.heap H locs → lv_has ls 2 [(0, .ref h0), (1, .int x)] → W p l e (headSpec wm_X13_isSmall ({ frames := 0, cells := 0, slots := 0, locals := 0 })).room s m ([.ref h0, .int x] : List Value).toArray below meth c H locs 0 0 (MQ below (va_Qi (fun r v => (iv 0 1 r) ∧ v = (sg, gm, lg)) (MB dC dI h0 ad cid A) A) ([.ref h0, .int x] : List Value).toArray s 0 0 A) (F0 m 17 ls [.int y0_17]) := by
    intro y0_17 hy0_17 H locs ls hP hD hS hl
    exact W.zret (v := y0_17) hx hb hr (iv_nb hy0_17) (fun t ht hW => ⟨⟨y0_17, (sg, gm, lg), rfl, ⟨hy0_17, rfl⟩, by rw [ht]; exact hP, va_K.moved hW.alike hK, hD⟩, hS.F ht⟩) hS.2.2 dX13_isSmall_17
  have hj16 : ∀ (H : Heap) (locs : List Loc) (ls : Array Slot), va_P (dC, dI) vwCl (mW h0 ad cid sg gm lg) H → va_D A (mW h0 ad cid sg gm lg) → va_S A s.heap H locs → lv_has ls 2 [(0, .ref h0), (1, .int x)] → W p l e (headSpec wm_X13_isSmall ({ frames := 0, cells := 0, slots := 0, locals := 0 })).room s m ([.ref h0, .int x] : List Value).toArray below meth c H locs 0 0 (MQ below (va_Qi (fun r v => (iv 0 1 r) ∧ v = (sg, gm, lg)) (MB dC dI h0 ad cid A) A) ([.ref h0, .int x] : List Value).toArray s 0 0 A) (F0 m 16 ls []) := by
    intro  H locs ls hP hD hS hl
    refine lv_iconst (v := 0) hx hb dX13_isSmall_16 (by decide) ?_
    exact hj17 0 (iv_w (iv_k (by decide) : iv 0 0 0) (by decide)) _ _ _ hP hD hS (lv_sub hl [0, 1] rfl)
  refine lv_iload_n hx hb dX13_isSmall_0 rfl (lv_at hl 1 rfl) ?_
  refine lv_bipush (v := 97) hx hb dX13_isSmall_1 (by decide) ?_
  refine lv_icmp_lt (tgt := 16) hx hb dX13_isSmall_3 (by decide) (fun c_1 => ?_) (fun c_1 => ?_)
  · have h_2 : iv (-2147483648) 96 x := iv_ltL c_1 (iv_all x) (iv_k (by decide) : iv 97 97 97) (by decide)
    exact hj16 _ _ _ hP hD hS (lv_sub hl [0, 1] rfl)
  · have h_3 : iv 97 2147483647 x := iv_leR (i32_ge c_1) (iv_k (by decide) : iv 97 97 97) (iv_all x) (by decide)
    refine lv_iload_n hx hb dX13_isSmall_6 rfl (lv_at hl 1 rfl) ?_
    refine lv_bipush (v := 122) hx hb dX13_isSmall_7 (by decide) ?_
    refine lv_icmp_gt (tgt := 16) hx hb dX13_isSmall_9 (by decide) (fun c_4 => ?_) (fun c_4 => ?_)
    · have h_5 : iv 123 2147483647 x := iv_ltR c_4 (iv_k (by decide) : iv 122 122 122) h_3 (by decide)
      exact hj16 _ _ _ hP hD hS (lv_sub hl [0, 1] rfl)
    · have h_6 : iv 97 122 x := iv_leL (i32_ge c_4) h_3 (iv_k (by decide) : iv 122 122 122) (by decide)
      refine lv_iconst (v := 1) hx hb dX13_isSmall_12 (by decide) ?_
      refine lv_goto (tgt := 17) hx hb dX13_isSmall_13 (by decide) ?_
      exact hj17 1 (iv_w (iv_k (by decide) : iv 1 1 1) (by decide)) _ _ _ hP hD hS (lv_sub hl [0, 1] rfl)

set_option maxHeartbeats 4000000 in
set_option maxRecDepth 100000 in
theorem a_isWhite (l : Launch) (dC : Nat → ClassId) (dI : Nat → Nat → Nat) (h0 : Nat) (ad : Nat → Nat) (cid : Nat → ClassId) (sg : Nat → Int32) (gm : Nat → Nat → Int32) (lg : Nat → Nat → Int64) (x : Int32) (hI : MI sg gm) : MMi l dC dI yX13_isWhite wm_X13_isWhite ({ frames := 0, cells := 0, slots := 0, locals := 0 }) h0 ad cid [.int x] sg gm lg (fun r v => (iv 0 1 r) ∧ v = (sg, gm, lg)) := by
  intro sz
  refine Met.ofW (cc := cX13_isWhite) (maxL := 2) (ret := (some .boolean)) (by decide) rfl ?_
  intro p e s m args below meth c s₁ B hml hv
  obtain ⟨rfl, hsz, hP, hK, hD0⟩ := hv
  have hx := B.exec
  have hb := B.bytes
  have hr := B.returns
  have hts := atoms_spec (ws := wm_X13_isWhite) B.pre
  have htb := fun (w : Cond) (h : w ∈ tb) => hts w (List.mem_cons_of_mem _ h)
  have hown : s.vm.findClass RX13 = some m.cls := findClass_of_methodNamed B.named
  have hlocks := B.notSynchronized
  subst hsz
  have hD := hD0.self (sz := s.heap.size)
  generalize hAe : va_A (mW h0 ad cid sg gm lg) s.heap.size = A at hD ⊢
  have hA : ∀ q : Nat, s.heap.size ≤ q → A q := fun q h => by rw [← hAe]; exact Or.inr h
  have hS : va_S A s.heap s.heap [] := va_S.rf
  have hl := lv_entry ([.ref h0, .int x]) (n := 2) (Nat.le_of_ble_eq_true rfl)
  rw [lg_entry_eq]
  generalize (lg_sl ([.ref h0, .int x]) ++ List.replicate (2 - (lg_sl ([.ref h0, .int x])).length) Slot.unset).toArray = ls at hl ⊢
  have hl : lv_has ls 2 [(0, .ref h0), (1, .int x)] := hl
  have hj17 : ∀ (y0_17 : Int32) (_ : iv 0 1 y0_17) (H : Heap) (locs : List Loc) (ls : Array Slot), va_P (dC, dI) vwCl (mW h0 ad cid sg gm lg) H → va_D A (mW h0 ad cid sg gm lg) → va_S A s.heap H locs → lv_has ls 2 [(0, .ref h0), (1, .int x)] → W p l e (headSpec wm_X13_isWhite ({ frames := 0, cells := 0, slots := 0, locals := 0 })).room s m ([.ref h0, .int x] : List Value).toArray below meth c H locs 0 0 (MQ below (va_Qi (fun r v => (iv 0 1 r) ∧ v = (sg, gm, lg)) (MB dC dI h0 ad cid A) A) ([.ref h0, .int x] : List Value).toArray s 0 0 A) (F0 m 17 ls [.int y0_17]) := by
    intro y0_17 hy0_17 H locs ls hP hD hS hl
    exact W.zret (v := y0_17) hx hb hr (iv_nb hy0_17) (fun t ht hW => ⟨⟨y0_17, (sg, gm, lg), rfl, ⟨hy0_17, rfl⟩, by rw [ht]; exact hP, va_K.moved hW.alike hK, hD⟩, hS.F ht⟩) hS.2.2 dX13_isWhite_17
  have hj12 : ∀ (_ : iv 10 32 x) (H : Heap) (locs : List Loc) (ls : Array Slot), va_P (dC, dI) vwCl (mW h0 ad cid sg gm lg) H → va_D A (mW h0 ad cid sg gm lg) → va_S A s.heap H locs → lv_has ls 2 [(0, .ref h0), (1, .int x)] → W p l e (headSpec wm_X13_isWhite ({ frames := 0, cells := 0, slots := 0, locals := 0 })).room s m ([.ref h0, .int x] : List Value).toArray below meth c H locs 0 0 (MQ below (va_Qi (fun r v => (iv 0 1 r) ∧ v = (sg, gm, lg)) (MB dC dI h0 ad cid A) A) ([.ref h0, .int x] : List Value).toArray s 0 0 A) (F0 m 12 ls []) := by
    intro  hsx1_12 H locs ls hP hD hS hl
    refine lv_iconst (v := 1) hx hb dX13_isWhite_12 (by decide) ?_
    refine lv_goto (tgt := 17) hx hb dX13_isWhite_13 (by decide) ?_
    exact hj17 1 (iv_w (iv_k (by decide) : iv 1 1 1) (by decide)) _ _ _ hP hD hS (lv_sub hl [0, 1] rfl)
  refine lv_iload_n hx hb dX13_isWhite_0 rfl (lv_at hl 1 rfl) ?_
  refine lv_bipush (v := 32) hx hb dX13_isWhite_1 (by decide) ?_
  refine lv_icmp_eq (tgt := 12) hx hb dX13_isWhite_3 (by decide) (fun c_1 => ?_) (fun c_1 => ?_)
  · have h_2 : iv 32 32 x := iv_eq c_1 (iv_all x) (iv_k (by decide) : iv 32 32 32) (by decide)
    exact hj12 (iv_w h_2 (by decide)) _ _ _ hP hD hS (lv_sub hl [0, 1] rfl)
  · have d_3 : ¬ (x : Int32).toInt = 32 := lv_neT c_1 rfl
    refine lv_iload_n hx hb dX13_isWhite_6 rfl (lv_at hl 1 rfl) ?_
    refine lv_bipush (v := 10) hx hb dX13_isWhite_7 (by decide) ?_
    refine lv_icmp_ne (tgt := 16) hx hb dX13_isWhite_9 (by decide) (fun c_4 => ?_) (fun c_4 => ?_)
    · have d_5 : ¬ (x : Int32).toInt = 10 := lv_neT c_4 rfl
      refine lv_iconst (v := 0) hx hb dX13_isWhite_16 (by decide) ?_
      exact hj17 0 (iv_w (iv_k (by decide) : iv 0 0 0) (by decide)) _ _ _ hP hD hS (lv_sub hl [0, 1] rfl)
    · have h_6 : iv 10 10 x := iv_eq c_4 (iv_all x) (iv_k (by decide) : iv 10 10 10) (by decide)
      exact hj12 (iv_w h_6 (by decide)) _ _ _ hP hD hS (lv_sub hl [0, 1] rfl)

set_option maxHeartbeats 4000000 in
set_option maxRecDepth 100000 in
theorem a_find (l : Launch) (dC : Nat → ClassId) (dI : Nat → Nat → Nat) (h0 : Nat) (ad : Nat → Nat) (cid : Nat → ClassId) (sg : Nat → Int32) (gm : Nat → Nat → Int32) (lg : Nat → Nat → Int64) (x : Int32) (nn : Int64) (hI : MI sg gm) (hvx : iv 0 79 x) : MMi l dC dI yX13_find wm_X13_find ({ frames := 0, cells := 0, slots := 0, locals := 0 }) h0 ad cid [.int x, .long nn] sg gm lg (fun r v => (iv (-1) 959 r) ∧ v = (sg, gm, lg)) := by
  intro sz
  refine Met.ofW (cc := cX13_find) (maxL := 5) (ret := (some .int)) (by decide) rfl ?_
  intro p e s m args below meth c s₁ B hml hv
  obtain ⟨rfl, hsz, hP, hK, hD0⟩ := hv
  have hx := B.exec
  have hb := B.bytes
  have hr := B.returns
  have hts := atoms_spec (ws := wm_X13_find) B.pre
  have htb := fun (w : Cond) (h : w ∈ tb) => hts w (List.mem_cons_of_mem _ h)
  have hown : s.vm.findClass RX13 = some m.cls := findClass_of_methodNamed B.named
  have hlocks := B.notSynchronized
  subst hsz
  have hD := hD0.self (sz := s.heap.size)
  generalize hAe : va_A (mW h0 ad cid sg gm lg) s.heap.size = A at hD ⊢
  have hA : ∀ q : Nat, s.heap.size ≤ q → A q := fun q h => by rw [← hAe]; exact Or.inr h
  have hS : va_S A s.heap s.heap [] := va_S.rf
  have hl := lv_entry ([.ref h0, .int x, .long nn]) (n := 5) (Nat.le_of_ble_eq_true rfl)
  rw [lg_entry_eq]
  generalize (lg_sl ([.ref h0, .int x, .long nn]) ++ List.replicate (5 - (lg_sl ([.ref h0, .int x, .long nn])).length) Slot.unset).toArray = ls at hl ⊢
  have hl : lv_has ls 5 [(0, .ref h0), (1, .int x), (2, .long nn)] := hl
  have hj3 : ∀ (n : Nat) (x4_3 : Int32) (_ : (12 - x4_3.toInt).toNat = n) (_ : iv 0 12 x4_3) (_ : iv 0 79 x) (H : Heap) (locs : List Loc) (ls : Array Slot), va_P (dC, dI) vwCl (mW h0 ad cid sg gm lg) H → va_D A (mW h0 ad cid sg gm lg) → va_S A s.heap H locs → lv_has ls 5 [(4, .int x4_3), (0, .ref h0), (1, .int x), (2, .long nn)] → W p l e (headSpec wm_X13_find ({ frames := 0, cells := 0, slots := 0, locals := 0 })).room s m ([.ref h0, .int x, .long nn] : List Value).toArray below meth c H locs 0 0 (MQ below (va_Qi (fun r v => (iv (-1) 959 r) ∧ v = (sg, gm, lg)) (MB dC dI h0 ad cid A) A) ([.ref h0, .int x, .long nn] : List Value).toArray s 0 0 A) (F0 m 3 ls []) := by
    intro n
    induction n using Nat.strongRecOn with
    | ind n ih3 =>
      intro x4_3 hn3 hx4_3 hsx1_3 H locs ls hP hD hS hl
      refine lv_iload hx hb dX13_find_3 (lv_at hl 0 rfl) ?_
      refine lv_aload_n hx hb dX13_find_5 rfl (lv_at hl 1 rfl) ?_
      refine mr_get (v := .ref (ad 30)) hx hb htb inX13 hown hK hP 30 (by decide) (htb _ kw_186) rfl dX13_find_6 ?_
      refine lv_iload_n hx hb dX13_find_9 rfl (lv_at hl 2 rfl) ?_
      refine mr_iald hx hb hK hP 23 (k := 30) rfl rfl rfl (show vp_in x 80 from (iv_in hsx1_3 (by decide))) dX13_find_10 ?_
      refine lv_topi (fun z_1 ez_1 => ?_)
      have hz_1 : iv 0 12 z_1 := iv_of ez_1 (MI_a hI 30 hsx1_3 (by decide))
      refine lv_icmp_ge (tgt := 45) hx hb dX13_find_11 (by decide) (fun c_2 => ?_) (fun c_2 => ?_)
      · have d_3 : (z_1 : Int32).toInt ≤ (x4_3 : Int32).toInt := Int32.le_iff_toInt_le.mp c_2
        refine lv_iconst (v := (-1)) hx hb dX13_find_45 (by decide) ?_
        exact W.iret (v := (-1)) hx hb hr (fun t ht hW => ⟨⟨(-1), (sg, gm, lg), rfl, ⟨(iv_w (iv_k (by decide) : iv (-1) (-1) (-1)) (by decide)), rfl⟩, by rw [ht]; exact hP, va_K.moved hW.alike hK, hD⟩, hS.F ht⟩) hS.2.2 dX13_find_46
      · have d_4 : (x4_3 : Int32).toInt < (z_1 : Int32).toInt := Int32.lt_iff_toInt_lt.mp (i32_lt c_2)
        have h_5 : iv 0 11 x4_3 := iv_ltL (i32_lt c_2) hx4_3 hz_1 (by decide)
        have h_6 : iv 1 12 z_1 := iv_ltR (i32_lt c_2) hx4_3 hz_1 (by decide)
        refine lv_aload_n hx hb dX13_find_14 rfl (lv_at hl 1 rfl) ?_
        refine mr_get (v := .ref (ad 35)) hx hb htb inX13 hown hK hP 35 (by decide) (htb _ kw_191) rfl dX13_find_15 ?_
        refine lv_bipush (v := 12) hx hb dX13_find_18 (by decide) ?_
        refine lv_iload_n hx hb dX13_find_20 rfl (lv_at hl 2 rfl) ?_
        refine lv_imul hx hb dX13_find_21 ?_
        refine lv_topi (fun z_7 ez_7 => ?_)
        have hz_7 : iv 0 948 z_7 := iv_of ez_7 (iv_mul (iv_k (by decide) : iv 12 12 12) hsx1_3 (by decide))
        have tz_7 : z_7.toInt = 12 * (x : Int32).toInt := by rw [ez_7]; exact iv_mulE (iv_k (by decide) : iv 12 12 12) hsx1_3 (by decide)
        refine lv_iload hx hb dX13_find_22 (lv_at hl 0 rfl) ?_
        refine lv_iadd hx hb dX13_find_24 ?_
        refine lv_topi (fun z_8 ez_8 => ?_)
        have hz_8 : iv 0 959 z_8 := iv_of ez_8 (iv_add hz_7 h_5 (by decide))
        have tz_8 : z_8.toInt = (z_7 : Int32).toInt + (x4_3 : Int32).toInt := by rw [ez_8]; exact iv_addE hz_7 h_5 (by decide)
        refine mr_lald hx hb hK hP 28 (k := 35) rfl rfl rfl (show vp_in z_8 960 from (iv_in hz_8 (by decide))) dX13_find_25 ?_
        refine lv_topl (fun z_9 ez_9 => ?_)
        refine lv_lload_n hx hb dX13_find_26 rfl (lv_at hl 3 rfl) ?_
        refine W.lcmp hx hb dX13_find_27 ?_
        refine lv_topi (fun z_10 ez_10 => ?_)
        have hz_10 : iv (-1) 1 z_10 := iv_of ez_10 (iv_cmp _ _)
        refine lv_if_ne (tgt := 39) hx hb dX13_find_28 (by decide) (fun c_11 => ?_) (fun c_11 => ?_)
        · have d_12 : ¬ (z_10 : Int32).toInt = 0 := lv_neT c_11 rfl
          obtain ⟨z_13, ez_13⟩ : ∃ z : Int32, z = x4_3 + 1 := ⟨_, rfl⟩
          have hz_13 : iv 1 12 z_13 := iv_of ez_13 (iv_add h_5 (iv_k (by decide) : iv 1 1 1) (by decide))
          have tz_13 : z_13.toInt = x4_3.toInt + 1 := by rw [ez_13]; exact iv_addE h_5 (iv_k (by decide) : iv 1 1 1) (by decide)
          refine lv_iinc (v := z_13) (lv' := [(4, .int z_13), (0, .ref h0), (1, .int x), (2, .long nn)]) hx hb dX13_find_39 hl (k := 0) rfl ez_13.symm (by decide) rfl (fun ls hl => ?_)
          refine lv_goto (tgt := 3) hx hb dX13_find_42 (by decide) ?_
          exact ih3 _ (by rw [← hn3]; exact (iv_meas tz_13 h_5 (by decide))) z_13 rfl (iv_w hz_13 (by decide)) hsx1_3 _ _ _ hP hD hS (lv_sub hl [0, 1, 2, 3] rfl)
        · have h_14 : iv 0 0 z_10 := iv_eq c_11 hz_10 (iv_k (by decide) : iv 0 0 0) (by decide)
          refine lv_bipush (v := 12) hx hb dX13_find_31 (by decide) ?_
          refine lv_iload_n hx hb dX13_find_33 rfl (lv_at hl 2 rfl) ?_
          refine lv_imul hx hb dX13_find_34 ?_
          refine lv_topi (fun z_15 ez_15 => ?_)
          obtain rfl : z_7 = z_15 := ez_7.trans ez_15.symm
          refine lv_iload hx hb dX13_find_35 (lv_at hl 0 rfl) ?_
          refine lv_iadd hx hb dX13_find_37 ?_
          refine lv_topi (fun z_16 ez_16 => ?_)
          obtain rfl : z_8 = z_16 := ez_8.trans ez_16.symm
          exact W.iret (v := z_8) hx hb hr (fun t ht hW => ⟨⟨z_8, (sg, gm, lg), rfl, ⟨(iv_w hz_8 (by decide)), rfl⟩, by rw [ht]; exact hP, va_K.moved hW.alike hK, hD⟩, hS.F ht⟩) hS.2.2 dX13_find_38
  refine lv_iconst (v := 0) hx hb dX13_find_0 (by decide) ?_
  refine lv_istore (lv' := [(4, .int 0), (0, .ref h0), (1, .int x), (2, .long nn)]) hx hb dX13_find_1 hl (by decide) rfl (fun ls hl => ?_)
  exact hj3 _ 0 rfl (iv_w (iv_k (by decide) : iv 0 0 0) (by decide)) hvx _ _ _ hP hD hS (lv_sub hl [0, 1, 2, 3] rfl)

set_option maxHeartbeats 4000000 in
set_option maxRecDepth 100000 in
theorem a_has (l : Launch) (dC : Nat → ClassId) (dI : Nat → Nat → Nat) (h0 : Nat) (ad : Nat → Nat) (cid : Nat → ClassId) (sg : Nat → Int32) (gm : Nat → Nat → Int32) (lg : Nat → Nat → Int64) (x : Int32) (nn : Int64) (hI : MI sg gm) (hvx : iv 0 79 x) : MMi l dC dI yX13_has wm_X13_has ({ frames := 1, cells := 0, slots := 0, locals := 24 }) h0 ad cid [.int x, .long nn] sg gm lg (fun r v => (iv 0 1 r) ∧ v = (sg, gm, lg)) := by
  intro sz
  refine Met.ofW (cc := cX13_has) (maxL := 4) (ret := (some .boolean)) (by decide) rfl ?_
  intro p e s m args below meth c s₁ B hml hv
  obtain ⟨rfl, hsz, hP, hK, hD0⟩ := hv
  have hx := B.exec
  have hb := B.bytes
  have hr := B.returns
  have hts := atoms_spec (ws := wm_X13_has) B.pre
  have htb := fun (w : Cond) (h : w ∈ tb) => hts w (List.mem_cons_of_mem _ h)
  have hown : s.vm.findClass RX13 = some m.cls := findClass_of_methodNamed B.named
  have hlocks := B.notSynchronized
  subst hsz
  have hD := hD0.self (sz := s.heap.size)
  generalize hAe : va_A (mW h0 ad cid sg gm lg) s.heap.size = A at hD ⊢
  have hA : ∀ q : Nat, s.heap.size ≤ q → A q := fun q h => by rw [← hAe]; exact Or.inr h
  have hS : va_S A s.heap s.heap [] := va_S.rf
  have hl := lv_entry ([.ref h0, .int x, .long nn]) (n := 4) (Nat.le_of_ble_eq_true rfl)
  rw [lg_entry_eq]
  generalize (lg_sl ([.ref h0, .int x, .long nn]) ++ List.replicate (4 - (lg_sl ([.ref h0, .int x, .long nn])).length) Slot.unset).toArray = ls at hl ⊢
  have hl : lv_has ls 4 [(0, .ref h0), (1, .int x), (2, .long nn)] := hl
  have hj15 : ∀ (y0_15 : Int32) (_ : iv 0 79 x) (_ : iv 0 1 y0_15) (H : Heap) (locs : List Loc) (ls : Array Slot), va_P (dC, dI) vwCl (mW h0 ad cid sg gm lg) H → va_D A (mW h0 ad cid sg gm lg) → va_S A s.heap H locs → lv_has ls 4 [(0, .ref h0), (1, .int x), (2, .long nn)] → W p l e (headSpec wm_X13_has ({ frames := 1, cells := 0, slots := 0, locals := 24 })).room s m ([.ref h0, .int x, .long nn] : List Value).toArray below meth c H locs 0 0 (MQ below (va_Qi (fun r v => (iv 0 1 r) ∧ v = (sg, gm, lg)) (MB dC dI h0 ad cid A) A) ([.ref h0, .int x, .long nn] : List Value).toArray s 0 0 A) (F0 m 15 ls [.int y0_15]) := by
    intro y0_15 hsx1_15 hy0_15 H locs ls hP hD hS hl
    exact W.zret (v := y0_15) hx hb hr (iv_nb hy0_15) (fun t ht hW => ⟨⟨y0_15, (sg, gm, lg), rfl, ⟨hy0_15, rfl⟩, by rw [ht]; exact hP, va_K.moved hW.alike hK, hD⟩, hS.F ht⟩) hS.2.2 dX13_has_15
  refine lv_aload_n hx hb dX13_has_0 rfl (lv_at hl 0 rfl) ?_
  refine lv_iload_n hx hb dX13_has_1 rfl (lv_at hl 1 rfl) ?_
  refine lv_lload_n hx hb dX13_has_2 rfl (lv_at hl 2 rfl) ?_
  refine mr_calli (rest := []) ⟨hx, hb, hml, hown, htb⟩ (a_find l dC dI h0 ad cid sg gm lg x nn hI hvx) (cwV 2 htb (gd_V kw_862 kw_863 kw_864 kw_5 kw_1531) rfl rfl rfl (by decide +kernel) ⟨Nat.le_of_ble_eq_true rfl, Nat.le_of_ble_eq_true rfl⟩) rfl hl.1 rfl (Nat.le_of_ble_eq_true rfl) dX13_has_3 ⟨Nat.zero_le _, Nat.zero_le _⟩ hK hP hD hS hA (fun r_1 u_2 H locs hw hP hD hS => ?_)
  obtain ⟨hr_1, rfl⟩ := hw
  have hP : va_P (dC, dI) vwCl (mW h0 ad cid sg gm lg) H := hP
  have hD : va_D A (mW h0 ad cid sg gm lg) := hD
  refine lv_iconst (v := (-1)) hx hb dX13_has_6 (by decide) ?_
  refine lv_icmp_eq (tgt := 14) hx hb dX13_has_7 (by decide) (fun c_3 => ?_) (fun c_3 => ?_)
  · have h_4 : iv (-1) (-1) r_1 := iv_eq c_3 hr_1 (iv_k (by decide) : iv (-1) (-1) (-1)) (by decide)
    refine lv_iconst (v := 0) hx hb dX13_has_14 (by decide) ?_
    exact hj15 0 hvx (iv_w (iv_k (by decide) : iv 0 0 0) (by decide)) _ _ _ hP hD hS (lv_sub hl [0, 1, 2] rfl)
  · have h_5 : iv 0 959 r_1 := iv_neL c_3 hr_1 (by decide)
    refine lv_iconst (v := 1) hx hb dX13_has_10 (by decide) ?_
    refine lv_goto (tgt := 15) hx hb dX13_has_11 (by decide) ?_
    exact hj15 1 hvx (iv_w (iv_k (by decide) : iv 1 1 1) (by decide)) _ _ _ hP hD hS (lv_sub hl [0, 1, 2] rfl)

set_option maxHeartbeats 4000000 in
set_option maxRecDepth 100000 in
theorem a_word (l : Launch) (dC : Nat → ClassId) (dI : Nat → Nat → Nat) (h0 : Nat) (ad : Nat → Nat) (cid : Nat → ClassId) (sg : Nat → Int32) (gm : Nat → Nat → Int32) (lg : Nat → Nat → Int64) (x : Int32) (nn : Int64) (hI : MI sg gm) (hvx : iv 0 79 x) : MMl l dC dI yX13_word wm_X13_word ({ frames := 1, cells := 0, slots := 0, locals := 24 }) h0 ad cid [.int x, .long nn] sg gm lg (fun r v => v = (sg, gm, lg)) := by
  intro sz
  refine Met.ofW (cc := cX13_word) (maxL := 8) (ret := (some .long)) (by decide) rfl ?_
  intro p e s m args below meth c s₁ B hml hv
  obtain ⟨rfl, hsz, hP, hK, hD0⟩ := hv
  have hx := B.exec
  have hb := B.bytes
  have hr := B.returns
  have hts := atoms_spec (ws := wm_X13_word) B.pre
  have htb := fun (w : Cond) (h : w ∈ tb) => hts w (List.mem_cons_of_mem _ h)
  have hown : s.vm.findClass RX13 = some m.cls := findClass_of_methodNamed B.named
  have hlocks := B.notSynchronized
  subst hsz
  have hD := hD0.self (sz := s.heap.size)
  generalize hAe : va_A (mW h0 ad cid sg gm lg) s.heap.size = A at hD ⊢
  have hA : ∀ q : Nat, s.heap.size ≤ q → A q := fun q h => by rw [← hAe]; exact Or.inr h
  have hS : va_S A s.heap s.heap [] := va_S.rf
  have hl := lv_entry ([.ref h0, .int x, .long nn]) (n := 8) (Nat.le_of_ble_eq_true rfl)
  rw [lg_entry_eq]
  generalize (lg_sl ([.ref h0, .int x, .long nn]) ++ List.replicate (8 - (lg_sl ([.ref h0, .int x, .long nn])).length) Slot.unset).toArray = ls at hl ⊢
  have hl : lv_has ls 8 [(0, .ref h0), (1, .int x), (2, .long nn)] := hl
  have hj26 : ∀ (x4_26 : Int32) (_ : iv (-1) 959 x4_26) (_ : iv 0 79 x) (H : Heap) (locs : List Loc) (ls : Array Slot), va_P (dC, dI) vwCl (mW h0 ad cid sg gm lg) H → va_D A (mW h0 ad cid sg gm lg) → va_S A s.heap H locs → lv_has ls 8 [(4, .int x4_26), (0, .ref h0), (1, .int x), (2, .long nn)] → W p l e (headSpec wm_X13_word ({ frames := 1, cells := 0, slots := 0, locals := 24 })).room s m ([.ref h0, .int x, .long nn] : List Value).toArray below meth c H locs 0 0 (MQ below (va_Ql (fun r v => v = (sg, gm, lg)) (MB dC dI h0 ad cid A) A) ([.ref h0, .int x, .long nn] : List Value).toArray s 0 0 A) (F0 m 26 ls []) := by
    intro x4_26 hx4_26 hsx1_26 H locs ls hP hD hS hl
    refine lv_ldc2 (own := RX13) (v := (-1)) hx hb hown (htb _ kw_926) dX13_word_26 ?_
    exact W.lret (v := (-1)) hx hb hr (fun t ht hW => ⟨⟨(-1), (sg, gm, lg), rfl, rfl, by rw [ht]; exact hP, va_K.moved hW.alike hK, hD⟩, hS.F ht⟩) hS.2.2 dX13_word_29
  have hj36 : ∀ (n : Nat) (x7_36 : Int32) (x5_36 : Int64) (x4_36 : Int32) (_ : (24 - x7_36.toInt).toNat = n) (_ : iv 0 24 x7_36) (_ : iv 0 959 x4_36) (_ : iv 0 79 x) (H : Heap) (locs : List Loc) (ls : Array Slot), va_P (dC, dI) vwCl (mW h0 ad cid sg gm lg) H → va_D A (mW h0 ad cid sg gm lg) → va_S A s.heap H locs → lv_has ls 8 [(7, .int x7_36), (5, .long x5_36), (4, .int x4_36), (0, .ref h0), (1, .int x), (2, .long nn)] → W p l e (headSpec wm_X13_word ({ frames := 1, cells := 0, slots := 0, locals := 24 })).room s m ([.ref h0, .int x, .long nn] : List Value).toArray below meth c H locs 0 0 (MQ below (va_Ql (fun r v => v = (sg, gm, lg)) (MB dC dI h0 ad cid A) A) ([.ref h0, .int x, .long nn] : List Value).toArray s 0 0 A) (F0 m 36 ls []) := by
    intro n
    induction n using Nat.strongRecOn with
    | ind n ih36 =>
      intro x7_36 x5_36 x4_36 hn36 hx7_36 hx4_36 hsx1_36 H locs ls hP hD hS hl
      refine lv_iload hx hb dX13_word_36 (lv_at hl 0 rfl) ?_
      refine lv_aload_n hx hb dX13_word_38 rfl (lv_at hl 3 rfl) ?_
      refine mr_get (v := .ref (ad 37)) hx hb htb inX13 hown hK hP 37 (by decide) (htb _ kw_193) rfl dX13_word_39 ?_
      refine lv_iload hx hb dX13_word_42 (lv_at hl 2 rfl) ?_
      refine mr_iald hx hb hK hP 30 (k := 37) rfl rfl rfl (show vp_in x4_36 960 from (iv_in hx4_36 (by decide))) dX13_word_44 ?_
      refine lv_topi (fun z_1 ez_1 => ?_)
      have hz_1 : iv 0 24 z_1 := iv_of ez_1 (MI_a hI 37 hx4_36 (by decide))
      refine lv_icmp_ge (tgt := 78) hx hb dX13_word_45 (by decide) (fun c_2 => ?_) (fun c_2 => ?_)
      · have d_3 : (z_1 : Int32).toInt ≤ (x7_36 : Int32).toInt := Int32.le_iff_toInt_le.mp c_2
        refine lv_lload hx hb dX13_word_78 (lv_at hl 1 rfl) ?_
        exact W.lret (v := x5_36) hx hb hr (fun t ht hW => ⟨⟨x5_36, (sg, gm, lg), rfl, rfl, by rw [ht]; exact hP, va_K.moved hW.alike hK, hD⟩, hS.F ht⟩) hS.2.2 dX13_word_80
      · have d_4 : (x7_36 : Int32).toInt < (z_1 : Int32).toInt := Int32.lt_iff_toInt_lt.mp (i32_lt c_2)
        have h_5 : iv 0 23 x7_36 := iv_ltL (i32_lt c_2) hx7_36 hz_1 (by decide)
        have h_6 : iv 1 24 z_1 := iv_ltR (i32_lt c_2) hx7_36 hz_1 (by decide)
        refine lv_lload hx hb dX13_word_48 (lv_at hl 1 rfl) ?_
        refine lv_bipush (v := 8) hx hb dX13_word_50 (by decide) ?_
        refine lv_lshl (v := x5_36 <<< ((8 : Int32).toInt64 &&& 63)) hx hb dX13_word_52 rfl ?_
        refine lv_topl (fun z_7 ez_7 => ?_)
        refine lv_aload_n hx hb dX13_word_53 rfl (lv_at hl 3 rfl) ?_
        refine mr_get (v := .ref (ad 38)) hx hb htb inX13 hown hK hP 38 (by decide) (htb _ kw_194) rfl dX13_word_54 ?_
        refine lv_aload_n hx hb dX13_word_57 rfl (lv_at hl 3 rfl) ?_
        refine mr_get (v := .ref (ad 36)) hx hb htb inX13 hown hK hP 36 (by decide) (htb _ kw_192) rfl dX13_word_58 ?_
        refine lv_iload hx hb dX13_word_61 (lv_at hl 2 rfl) ?_
        refine mr_iald hx hb hK hP 29 (k := 36) rfl rfl rfl (show vp_in x4_36 960 from (iv_in hx4_36 (by decide))) dX13_word_63 ?_
        refine lv_topi (fun z_8 ez_8 => ?_)
        have hz_8 : iv 0 1201 z_8 := iv_of ez_8 (MI_a hI 36 hx4_36 (by decide))
        refine lv_iload hx hb dX13_word_64 (lv_at hl 0 rfl) ?_
        refine lv_iadd hx hb dX13_word_66 ?_
        refine lv_topi (fun z_9 ez_9 => ?_)
        have hz_9 : iv 0 1224 z_9 := iv_of ez_9 (iv_add hz_8 h_5 (by decide))
        have tz_9 : z_9.toInt = (z_8 : Int32).toInt + (x7_36 : Int32).toInt := by rw [ez_9]; exact iv_addE hz_8 h_5 (by decide)
        refine mr_bald hx hb hK hP 31 (k := 38) rfl rfl rfl (show vp_in z_9 2000 from (iv_in hz_9 (by decide))) dX13_word_67 ?_
        refine lv_topi (fun z_10 ez_10 => ?_)
        have hz_10 : iv (-128) 127 z_10 := iv_of ez_10 (MI_a hI 38 hz_9 (by decide))
        refine lv_i2l (v := (z_10 : Int32).toInt64) hx hb dX13_word_68 rfl ?_
        refine lv_topl (fun z_11 ez_11 => ?_)
        refine lv_lor hx hb dX13_word_69 ?_
        refine lv_topl (fun z_12 ez_12 => ?_)
        refine lv_lstore (lv' := [(5, .long z_12), (7, .int x7_36), (4, .int x4_36), (0, .ref h0), (1, .int x), (2, .long nn)]) hx hb dX13_word_70 hl (by decide) rfl (fun ls hl => ?_)
        obtain ⟨z_13, ez_13⟩ : ∃ z : Int32, z = x7_36 + 1 := ⟨_, rfl⟩
        have hz_13 : iv 1 24 z_13 := iv_of ez_13 (iv_add h_5 (iv_k (by decide) : iv 1 1 1) (by decide))
        have tz_13 : z_13.toInt = x7_36.toInt + 1 := by rw [ez_13]; exact iv_addE h_5 (iv_k (by decide) : iv 1 1 1) (by decide)
        refine lv_iinc (v := z_13) (lv' := [(7, .int z_13), (5, .long z_12), (4, .int x4_36), (0, .ref h0), (1, .int x), (2, .long nn)]) hx hb dX13_word_72 hl (k := 1) rfl ez_13.symm (by decide) rfl (fun ls hl => ?_)
        refine lv_goto (tgt := 36) hx hb dX13_word_75 (by decide) ?_
        exact ih36 _ (by rw [← hn36]; exact (iv_meas tz_13 h_5 (by decide))) z_13 z_12 x4_36 rfl (iv_w hz_13 (by decide)) hx4_36 hsx1_36 _ _ _ hP hD hS (lv_sub hl [0, 1, 2, 3, 4, 5] rfl)
  refine lv_aload_n hx hb dX13_word_0 rfl (lv_at hl 0 rfl) ?_
  refine lv_iload_n hx hb dX13_word_1 rfl (lv_at hl 1 rfl) ?_
  refine lv_lload_n hx hb dX13_word_2 rfl (lv_at hl 2 rfl) ?_
  refine mr_calli (rest := []) ⟨hx, hb, hml, hown, htb⟩ (a_find l dC dI h0 ad cid sg gm lg x nn hI hvx) (cwV 2 htb (gd_V kw_862 kw_863 kw_864 kw_5 kw_1531) rfl rfl rfl (by decide +kernel) ⟨Nat.le_of_ble_eq_true rfl, Nat.le_of_ble_eq_true rfl⟩) rfl hl.1 rfl (Nat.le_of_ble_eq_true rfl) dX13_word_3 ⟨Nat.zero_le _, Nat.zero_le _⟩ hK hP hD hS hA (fun r_14 u_15 H locs hw hP hD hS => ?_)
  obtain ⟨hr_14, rfl⟩ := hw
  have hP : va_P (dC, dI) vwCl (mW h0 ad cid sg gm lg) H := hP
  have hD : va_D A (mW h0 ad cid sg gm lg) := hD
  refine lv_istore (lv' := [(4, .int r_14), (0, .ref h0), (1, .int x), (2, .long nn)]) hx hb dX13_word_6 hl (by decide) rfl (fun ls hl => ?_)
  refine lv_iload hx hb dX13_word_8 (lv_at hl 0 rfl) ?_
  refine lv_iconst (v := (-1)) hx hb dX13_word_10 (by decide) ?_
  refine lv_icmp_eq (tgt := 26) hx hb dX13_word_11 (by decide) (fun c_16 => ?_) (fun c_16 => ?_)
  · have h_17 : iv (-1) (-1) r_14 := iv_eq c_16 hr_14 (iv_k (by decide) : iv (-1) (-1) (-1)) (by decide)
    exact hj26 r_14 (iv_w h_17 (by decide)) hvx _ _ _ hP hD hS (lv_sub hl [0, 1, 2, 3] rfl)
  · have h_18 : iv 0 959 r_14 := iv_neL c_16 hr_14 (by decide)
    refine lv_aload_n hx hb dX13_word_14 rfl (lv_at hl 1 rfl) ?_
    refine mr_get (v := .ref (ad 37)) hx hb htb inX13 hown hK hP 37 (by decide) (htb _ kw_193) rfl dX13_word_15 ?_
    refine lv_iload hx hb dX13_word_18 (lv_at hl 0 rfl) ?_
    refine mr_iald hx hb hK hP 30 (k := 37) rfl rfl rfl (show vp_in r_14 960 from (iv_in h_18 (by decide))) dX13_word_20 ?_
    refine lv_topi (fun z_19 ez_19 => ?_)
    have hz_19 : iv 0 24 z_19 := iv_of ez_19 (MI_a hI 37 h_18 (by decide))
    refine lv_bipush (v := 8) hx hb dX13_word_21 (by decide) ?_
    refine lv_icmp_le (tgt := 30) hx hb dX13_word_23 (by decide) (fun c_20 => ?_) (fun c_20 => ?_)
    · have h_21 : iv 0 8 z_19 := iv_leL c_20 hz_19 (iv_k (by decide) : iv 8 8 8) (by decide)
      refine lv_lconst (v := 0) hx hb dX13_word_30 (by decide) ?_
      refine lv_lstore (lv' := [(5, .long 0), (4, .int r_14), (0, .ref h0), (1, .int x), (2, .long nn)]) hx hb dX13_word_31 hl (by decide) rfl (fun ls hl => ?_)
      refine lv_iconst (v := 0) hx hb dX13_word_33 (by decide) ?_
      refine lv_istore (lv' := [(7, .int 0), (5, .long 0), (4, .int r_14), (0, .ref h0), (1, .int x), (2, .long nn)]) hx hb dX13_word_34 hl (by decide) rfl (fun ls hl => ?_)
      exact hj36 _ 0 0 r_14 rfl (iv_w (iv_k (by decide) : iv 0 0 0) (by decide)) h_18 hvx _ _ _ hP hD hS (lv_sub hl [0, 1, 2, 3, 4, 5] rfl)
    · have h_22 : iv 9 24 z_19 := iv_ltR (i32_lt c_20) (iv_k (by decide) : iv 8 8 8) hz_19 (by decide)
      exact hj26 r_14 (iv_w h_18 (by decide)) hvx _ _ _ hP hD hS (lv_sub hl [0, 1, 2, 3] rfl)

set_option maxHeartbeats 4000000 in
set_option maxRecDepth 100000 in
theorem a_isWord (l : Launch) (dC : Nat → ClassId) (dI : Nat → Nat → Nat) (h0 : Nat) (ad : Nat → Nat) (cid : Nat → ClassId) (sg : Nat → Int32) (gm : Nat → Nat → Int32) (lg : Nat → Nat → Int64) (x : Int32) (nn : Int64) (hI : MI sg gm) (hvx : iv 0 79 x) : MMi l dC dI yX13_isWord wm_X13_isWord ({ frames := 1, cells := 0, slots := 0, locals := 24 }) h0 ad cid [.int x, .long nn] sg gm lg (fun r v => (iv 0 1 r) ∧ v = (sg, gm, lg)) := by
  intro sz
  refine Met.ofW (cc := cX13_isWord) (maxL := 6) (ret := (some .boolean)) (by decide) rfl ?_
  intro p e s m args below meth c s₁ B hml hv
  obtain ⟨rfl, hsz, hP, hK, hD0⟩ := hv
  have hx := B.exec
  have hb := B.bytes
  have hr := B.returns
  have hts := atoms_spec (ws := wm_X13_isWord) B.pre
  have htb := fun (w : Cond) (h : w ∈ tb) => hts w (List.mem_cons_of_mem _ h)
  have hown : s.vm.findClass RX13 = some m.cls := findClass_of_methodNamed B.named
  have hlocks := B.notSynchronized
  subst hsz
  have hD := hD0.self (sz := s.heap.size)
  generalize hAe : va_A (mW h0 ad cid sg gm lg) s.heap.size = A at hD ⊢
  have hA : ∀ q : Nat, s.heap.size ≤ q → A q := fun q h => by rw [← hAe]; exact Or.inr h
  have hS : va_S A s.heap s.heap [] := va_S.rf
  have hl := lv_entry ([.ref h0, .int x, .long nn]) (n := 6) (Nat.le_of_ble_eq_true rfl)
  rw [lg_entry_eq]
  generalize (lg_sl ([.ref h0, .int x, .long nn]) ++ List.replicate (6 - (lg_sl ([.ref h0, .int x, .long nn])).length) Slot.unset).toArray = ls at hl ⊢
  have hl : lv_has ls 6 [(0, .ref h0), (1, .int x), (2, .long nn)] := hl
  have hj37 : ∀ (x4_37 : Int32) (_ : iv (-1) 959 x4_37) (_ : iv 0 79 x) (H : Heap) (locs : List Loc) (ls : Array Slot), va_P (dC, dI) vwCl (mW h0 ad cid sg gm lg) H → va_D A (mW h0 ad cid sg gm lg) → va_S A s.heap H locs → lv_has ls 6 [(4, .int x4_37), (0, .ref h0), (1, .int x), (2, .long nn)] → W p l e (headSpec wm_X13_isWord ({ frames := 1, cells := 0, slots := 0, locals := 24 })).room s m ([.ref h0, .int x, .long nn] : List Value).toArray below meth c H locs 0 0 (MQ below (va_Qi (fun r v => (iv 0 1 r) ∧ v = (sg, gm, lg)) (MB dC dI h0 ad cid A) A) ([.ref h0, .int x, .long nn] : List Value).toArray s 0 0 A) (F0 m 37 ls []) := by
    intro x4_37 hx4_37 hsx1_37 H locs ls hP hD hS hl
    refine lv_iconst (v := 0) hx hb dX13_isWord_37 (by decide) ?_
    exact W.zret (v := 0) hx hb hr (iv_nb (iv_w (iv_k (by decide) : iv 0 0 0) (by decide))) (fun t ht hW => ⟨⟨0, (sg, gm, lg), rfl, ⟨(iv_w (iv_k (by decide) : iv 0 0 0) (by decide)), rfl⟩, by rw [ht]; exact hP, va_K.moved hW.alike hK, hD⟩, hS.F ht⟩) hS.2.2 dX13_isWord_38
  have hj42 : ∀ (n : Nat) (x5_42 : Int32) (x4_42 : Int32) (_ : (24 - x5_42.toInt).toNat = n) (_ : iv 0 24 x5_42) (_ : iv 0 959 x4_42) (_ : iv 0 79 x) (H : Heap) (locs : List Loc) (ls : Array Slot), va_P (dC, dI) vwCl (mW h0 ad cid sg gm lg) H → va_D A (mW h0 ad cid sg gm lg) → va_S A s.heap H locs → lv_has ls 6 [(5, .int x5_42), (4, .int x4_42), (0, .ref h0), (1, .int x), (2, .long nn)] → W p l e (headSpec wm_X13_isWord ({ frames := 1, cells := 0, slots := 0, locals := 24 })).room s m ([.ref h0, .int x, .long nn] : List Value).toArray below meth c H locs 0 0 (MQ below (va_Qi (fun r v => (iv 0 1 r) ∧ v = (sg, gm, lg)) (MB dC dI h0 ad cid A) A) ([.ref h0, .int x, .long nn] : List Value).toArray s 0 0 A) (F0 m 42 ls []) := by
    intro n
    induction n using Nat.strongRecOn with
    | ind n ih42 =>
      intro x5_42 x4_42 hn42 hx5_42 hx4_42 hsx1_42 H locs ls hP hD hS hl
      refine lv_iload hx hb dX13_isWord_42 (lv_at hl 0 rfl) ?_
      refine lv_aload_n hx hb dX13_isWord_44 rfl (lv_at hl 2 rfl) ?_
      refine mr_get (v := .ref (ad 37)) hx hb htb inX13 hown hK hP 37 (by decide) (htb _ kw_193) rfl dX13_isWord_45 ?_
      refine lv_iload hx hb dX13_isWord_48 (lv_at hl 1 rfl) ?_
      refine mr_iald hx hb hK hP 30 (k := 37) rfl rfl rfl (show vp_in x4_42 960 from (iv_in hx4_42 (by decide))) dX13_isWord_50 ?_
      refine lv_topi (fun z_1 ez_1 => ?_)
      have hz_1 : iv 0 24 z_1 := iv_of ez_1 (MI_a hI 37 hx4_42 (by decide))
      refine lv_icmp_ge (tgt := 84) hx hb dX13_isWord_51 (by decide) (fun c_2 => ?_) (fun c_2 => ?_)
      · have d_3 : (z_1 : Int32).toInt ≤ (x5_42 : Int32).toInt := Int32.le_iff_toInt_le.mp c_2
        refine lv_iconst (v := 1) hx hb dX13_isWord_84 (by decide) ?_
        exact W.zret (v := 1) hx hb hr (iv_nb (iv_w (iv_k (by decide) : iv 1 1 1) (by decide))) (fun t ht hW => ⟨⟨1, (sg, gm, lg), rfl, ⟨(iv_w (iv_k (by decide) : iv 1 1 1) (by decide)), rfl⟩, by rw [ht]; exact hP, va_K.moved hW.alike hK, hD⟩, hS.F ht⟩) hS.2.2 dX13_isWord_85
      · have d_4 : (x5_42 : Int32).toInt < (z_1 : Int32).toInt := Int32.lt_iff_toInt_lt.mp (i32_lt c_2)
        have h_5 : iv 0 23 x5_42 := iv_ltL (i32_lt c_2) hx5_42 hz_1 (by decide)
        have h_6 : iv 1 24 z_1 := iv_ltR (i32_lt c_2) hx5_42 hz_1 (by decide)
        refine lv_aload_n hx hb dX13_isWord_54 rfl (lv_at hl 2 rfl) ?_
        refine lv_aload_n hx hb dX13_isWord_55 rfl (lv_at hl 2 rfl) ?_
        refine mr_get (v := .ref (ad 38)) hx hb htb inX13 hown hK hP 38 (by decide) (htb _ kw_194) rfl dX13_isWord_56 ?_
        refine lv_aload_n hx hb dX13_isWord_59 rfl (lv_at hl 2 rfl) ?_
        refine mr_get (v := .ref (ad 36)) hx hb htb inX13 hown hK hP 36 (by decide) (htb _ kw_192) rfl dX13_isWord_60 ?_
        refine lv_iload hx hb dX13_isWord_63 (lv_at hl 1 rfl) ?_
        refine mr_iald hx hb hK hP 29 (k := 36) rfl rfl rfl (show vp_in x4_42 960 from (iv_in hx4_42 (by decide))) dX13_isWord_65 ?_
        refine lv_topi (fun z_7 ez_7 => ?_)
        have hz_7 : iv 0 1201 z_7 := iv_of ez_7 (MI_a hI 36 hx4_42 (by decide))
        refine lv_iload hx hb dX13_isWord_66 (lv_at hl 0 rfl) ?_
        refine lv_iadd hx hb dX13_isWord_68 ?_
        refine lv_topi (fun z_8 ez_8 => ?_)
        have hz_8 : iv 0 1224 z_8 := iv_of ez_8 (iv_add hz_7 h_5 (by decide))
        have tz_8 : z_8.toInt = (z_7 : Int32).toInt + (x5_42 : Int32).toInt := by rw [ez_8]; exact iv_addE hz_7 h_5 (by decide)
        refine mr_bald hx hb hK hP 31 (k := 38) rfl rfl rfl (show vp_in z_8 2000 from (iv_in hz_8 (by decide))) dX13_isWord_69 ?_
        refine lv_topi (fun z_9 ez_9 => ?_)
        have hz_9 : iv (-128) 127 z_9 := iv_of ez_9 (MI_a hI 38 hz_8 (by decide))
        refine mr_calli (rest := []) ⟨hx, hb, hml, hown, htb⟩ (a_isSmall l dC dI h0 ad cid sg gm lg z_9 hI) (cwV 1 htb (gd_V kw_850 kw_851 kw_852 kw_5 kw_1527) rfl rfl rfl (by decide +kernel) ⟨Nat.le_of_ble_eq_true rfl, Nat.le_of_ble_eq_true rfl⟩) rfl hl.1 rfl (Nat.le_of_ble_eq_true rfl) dX13_isWord_70 ⟨Nat.zero_le _, Nat.zero_le _⟩ hK hP hD hS hA (fun r_10 u_11 H locs hw hP hD hS => ?_)
        obtain ⟨hr_10, rfl⟩ := hw
        have hP : va_P (dC, dI) vwCl (mW h0 ad cid sg gm lg) H := hP
        have hD : va_D A (mW h0 ad cid sg gm lg) := hD
        refine lv_if_ne (tgt := 78) hx hb dX13_isWord_73 (by decide) (fun c_12 => ?_) (fun c_12 => ?_)
        · have h_13 : iv 1 1 r_10 := iv_neL c_12 hr_10 (by decide)
          obtain ⟨z_14, ez_14⟩ : ∃ z : Int32, z = x5_42 + 1 := ⟨_, rfl⟩
          have hz_14 : iv 1 24 z_14 := iv_of ez_14 (iv_add h_5 (iv_k (by decide) : iv 1 1 1) (by decide))
          have tz_14 : z_14.toInt = x5_42.toInt + 1 := by rw [ez_14]; exact iv_addE h_5 (iv_k (by decide) : iv 1 1 1) (by decide)
          refine lv_iinc (v := z_14) (lv' := [(5, .int z_14), (4, .int x4_42), (0, .ref h0), (1, .int x), (2, .long nn)]) hx hb dX13_isWord_78 hl (k := 0) rfl ez_14.symm (by decide) rfl (fun ls hl => ?_)
          refine lv_goto (tgt := 42) hx hb dX13_isWord_81 (by decide) ?_
          exact ih42 _ (by rw [← hn42]; exact (iv_meas tz_14 h_5 (by decide))) z_14 x4_42 rfl (iv_w hz_14 (by decide)) hx4_42 hsx1_42 _ _ _ hP hD hS (lv_sub hl [0, 1, 2, 3, 4] rfl)
        · have h_15 : iv 0 0 r_10 := iv_eq c_12 hr_10 (iv_k (by decide) : iv 0 0 0) (by decide)
          refine lv_iconst (v := 0) hx hb dX13_isWord_76 (by decide) ?_
          exact W.zret (v := 0) hx hb hr (iv_nb (iv_w (iv_k (by decide) : iv 0 0 0) (by decide))) (fun t ht hW => ⟨⟨0, (sg, gm, lg), rfl, ⟨(iv_w (iv_k (by decide) : iv 0 0 0) (by decide)), rfl⟩, by rw [ht]; exact hP, va_K.moved hW.alike hK, hD⟩, hS.F ht⟩) hS.2.2 dX13_isWord_77
  refine lv_aload_n hx hb dX13_isWord_0 rfl (lv_at hl 0 rfl) ?_
  refine lv_iload_n hx hb dX13_isWord_1 rfl (lv_at hl 1 rfl) ?_
  refine lv_lload_n hx hb dX13_isWord_2 rfl (lv_at hl 2 rfl) ?_
  refine mr_calli (rest := []) ⟨hx, hb, hml, hown, htb⟩ (a_find l dC dI h0 ad cid sg gm lg x nn hI hvx) (cwV 2 htb (gd_V kw_862 kw_863 kw_864 kw_5 kw_1531) rfl rfl rfl (by decide +kernel) ⟨Nat.le_of_ble_eq_true rfl, Nat.le_of_ble_eq_true rfl⟩) rfl hl.1 rfl (Nat.le_of_ble_eq_true rfl) dX13_isWord_3 ⟨Nat.zero_le _, Nat.zero_le _⟩ hK hP hD hS hA (fun r_16 u_17 H locs hw hP hD hS => ?_)
  obtain ⟨hr_16, rfl⟩ := hw
  have hP : va_P (dC, dI) vwCl (mW h0 ad cid sg gm lg) H := hP
  have hD : va_D A (mW h0 ad cid sg gm lg) := hD
  refine lv_istore (lv' := [(4, .int r_16), (0, .ref h0), (1, .int x), (2, .long nn)]) hx hb dX13_isWord_6 hl (by decide) rfl (fun ls hl => ?_)
  refine lv_iload hx hb dX13_isWord_8 (lv_at hl 0 rfl) ?_
  refine lv_iconst (v := (-1)) hx hb dX13_isWord_10 (by decide) ?_
  refine lv_icmp_eq (tgt := 37) hx hb dX13_isWord_11 (by decide) (fun c_18 => ?_) (fun c_18 => ?_)
  · have h_19 : iv (-1) (-1) r_16 := iv_eq c_18 hr_16 (iv_k (by decide) : iv (-1) (-1) (-1)) (by decide)
    exact hj37 r_16 (iv_w h_19 (by decide)) hvx _ _ _ hP hD hS (lv_sub hl [0, 1, 2, 3] rfl)
  · have h_20 : iv 0 959 r_16 := iv_neL c_18 hr_16 (by decide)
    refine lv_aload_n hx hb dX13_isWord_14 rfl (lv_at hl 1 rfl) ?_
    refine mr_get (v := .ref (ad 37)) hx hb htb inX13 hown hK hP 37 (by decide) (htb _ kw_193) rfl dX13_isWord_15 ?_
    refine lv_iload hx hb dX13_isWord_18 (lv_at hl 0 rfl) ?_
    refine mr_iald hx hb hK hP 30 (k := 37) rfl rfl rfl (show vp_in r_16 960 from (iv_in h_20 (by decide))) dX13_isWord_20 ?_
    refine lv_topi (fun z_21 ez_21 => ?_)
    have hz_21 : iv 0 24 z_21 := iv_of ez_21 (MI_a hI 37 h_20 (by decide))
    refine lv_iconst (v := 1) hx hb dX13_isWord_21 (by decide) ?_
    refine lv_icmp_lt (tgt := 37) hx hb dX13_isWord_22 (by decide) (fun c_22 => ?_) (fun c_22 => ?_)
    · have h_23 : iv 0 0 z_21 := iv_ltL c_22 hz_21 (iv_k (by decide) : iv 1 1 1) (by decide)
      exact hj37 r_16 (iv_w h_20 (by decide)) hvx _ _ _ hP hD hS (lv_sub hl [0, 1, 2, 3] rfl)
    · have h_24 : iv 1 24 z_21 := iv_leR (i32_ge c_22) (iv_k (by decide) : iv 1 1 1) hz_21 (by decide)
      refine lv_aload_n hx hb dX13_isWord_25 rfl (lv_at hl 1 rfl) ?_
      refine mr_get (v := .ref (ad 37)) hx hb htb inX13 hown hK hP 37 (by decide) (htb _ kw_193) rfl dX13_isWord_26 ?_
      refine lv_iload hx hb dX13_isWord_29 (lv_at hl 0 rfl) ?_
      refine mr_iald hx hb hK hP 30 (k := 37) rfl rfl rfl (show vp_in r_16 960 from (iv_in h_20 (by decide))) dX13_isWord_31 ?_
      refine lv_topi (fun z_25 ez_25 => ?_)
      obtain rfl : z_21 = z_25 := ez_21.trans ez_25.symm
      refine lv_bipush (v := 8) hx hb dX13_isWord_32 (by decide) ?_
      refine lv_icmp_le (tgt := 39) hx hb dX13_isWord_34 (by decide) (fun c_26 => ?_) (fun c_26 => ?_)
      · have h_27 : iv 1 8 z_21 := iv_leL c_26 h_24 (iv_k (by decide) : iv 8 8 8) (by decide)
        refine lv_iconst (v := 0) hx hb dX13_isWord_39 (by decide) ?_
        refine lv_istore (lv' := [(5, .int 0), (4, .int r_16), (0, .ref h0), (1, .int x), (2, .long nn)]) hx hb dX13_isWord_40 hl (by decide) rfl (fun ls hl => ?_)
        exact hj42 _ 0 r_16 rfl (iv_w (iv_k (by decide) : iv 0 0 0) (by decide)) h_20 hvx _ _ _ hP hD hS (lv_sub hl [0, 1, 2, 3, 4] rfl)
      · have h_28 : iv 9 24 z_21 := iv_ltR (i32_lt c_26) (iv_k (by decide) : iv 8 8 8) h_24 (by decide)
        exact hj37 r_16 (iv_w h_20 (by decide)) hvx _ _ _ hP hD hS (lv_sub hl [0, 1, 2, 3] rfl)

set_option maxHeartbeats 4000000 in
set_option maxRecDepth 100000 in
theorem a_isOneOf (l : Launch) (dC : Nat → ClassId) (dI : Nat → Nat → Nat) (h0 : Nat) (ad : Nat → Nat) (cid : Nat → ClassId) (sg : Nat → Int32) (gm : Nat → Nat → Int32) (lg : Nat → Nat → Int64) (x : Int32) (nn : Int64) (a : Int32) (b : Int32) (hI : MI sg gm) (hvx : iv 0 79 x) (hva : iv 0 10 a) (hvb : iv 0 10 b) : MMi l dC dI yX13_isOneOf wm_X13_isOneOf ({ frames := 2, cells := 0, slots := 0, locals := 51 }) h0 ad cid [.int x, .long nn, .int a, .int b] sg gm lg (fun r v => (iv 0 1 r) ∧ v = (sg, gm, lg)) := by
  intro sz
  refine Met.ofW (cc := cX13_isOneOf) (maxL := 6) (ret := (some .boolean)) (by decide) rfl ?_
  intro p e s m args below meth c s₁ B hml hv
  obtain ⟨rfl, hsz, hP, hK, hD0⟩ := hv
  have hx := B.exec
  have hb := B.bytes
  have hr := B.returns
  have hts := atoms_spec (ws := wm_X13_isOneOf) B.pre
  have htb := fun (w : Cond) (h : w ∈ tb) => hts w (List.mem_cons_of_mem _ h)
  have hown : s.vm.findClass RX13 = some m.cls := findClass_of_methodNamed B.named
  have hlocks := B.notSynchronized
  subst hsz
  have hD := hD0.self (sz := s.heap.size)
  generalize hAe : va_A (mW h0 ad cid sg gm lg) s.heap.size = A at hD ⊢
  have hA : ∀ q : Nat, s.heap.size ≤ q → A q := fun q h => by rw [← hAe]; exact Or.inr h
  have hS : va_S A s.heap s.heap [] := va_S.rf
  have hl := lv_entry ([.ref h0, .int x, .long nn, .int a, .int b]) (n := 6) (Nat.le_of_ble_eq_true rfl)
  rw [lg_entry_eq]
  generalize (lg_sl ([.ref h0, .int x, .long nn, .int a, .int b]) ++ List.replicate (6 - (lg_sl ([.ref h0, .int x, .long nn, .int a, .int b])).length) Slot.unset).toArray = ls at hl ⊢
  have hl : lv_has ls 6 [(0, .ref h0), (1, .int x), (2, .long nn), (4, .int a), (5, .int b)] := hl
  have hj48 : ∀ (y0_48 : Int32) (_ : iv 0 79 x) (_ : iv 0 10 a) (_ : iv 0 10 b) (_ : iv 0 1 y0_48) (H : Heap) (locs : List Loc) (ls : Array Slot), va_P (dC, dI) vwCl (mW h0 ad cid sg gm lg) H → va_D A (mW h0 ad cid sg gm lg) → va_S A s.heap H locs → lv_has ls 6 [(0, .ref h0), (1, .int x), (2, .long nn), (4, .int a), (5, .int b)] → W p l e (headSpec wm_X13_isOneOf ({ frames := 2, cells := 0, slots := 0, locals := 51 })).room s m ([.ref h0, .int x, .long nn, .int a, .int b] : List Value).toArray below meth c H locs 0 0 (MQ below (va_Qi (fun r v => (iv 0 1 r) ∧ v = (sg, gm, lg)) (MB dC dI h0 ad cid A) A) ([.ref h0, .int x, .long nn, .int a, .int b] : List Value).toArray s 0 0 A) (F0 m 48 ls [.int y0_48]) := by
    intro y0_48 hsx1_48 hsx4_48 hsx5_48 hy0_48 H locs ls hP hD hS hl
    exact W.zret (v := y0_48) hx hb hr (iv_nb hy0_48) (fun t ht hW => ⟨⟨y0_48, (sg, gm, lg), rfl, ⟨hy0_48, rfl⟩, by rw [ht]; exact hP, va_K.moved hW.alike hK, hD⟩, hS.F ht⟩) hS.2.2 dX13_isOneOf_48
  have hj43 : ∀ (_ : iv 0 79 x) (_ : iv 0 10 a) (_ : iv 0 10 b) (H : Heap) (locs : List Loc) (ls : Array Slot), va_P (dC, dI) vwCl (mW h0 ad cid sg gm lg) H → va_D A (mW h0 ad cid sg gm lg) → va_S A s.heap H locs → lv_has ls 6 [(0, .ref h0), (1, .int x), (2, .long nn), (4, .int a), (5, .int b)] → W p l e (headSpec wm_X13_isOneOf ({ frames := 2, cells := 0, slots := 0, locals := 51 })).room s m ([.ref h0, .int x, .long nn, .int a, .int b] : List Value).toArray below meth c H locs 0 0 (MQ below (va_Qi (fun r v => (iv 0 1 r) ∧ v = (sg, gm, lg)) (MB dC dI h0 ad cid A) A) ([.ref h0, .int x, .long nn, .int a, .int b] : List Value).toArray s 0 0 A) (F0 m 43 ls []) := by
    intro  hsx1_43 hsx4_43 hsx5_43 H locs ls hP hD hS hl
    refine lv_iconst (v := 1) hx hb dX13_isOneOf_43 (by decide) ?_
    refine lv_goto (tgt := 48) hx hb dX13_isOneOf_44 (by decide) ?_
    exact hj48 1 hsx1_43 hsx4_43 hsx5_43 (iv_w (iv_k (by decide) : iv 1 1 1) (by decide)) _ _ _ hP hD hS (lv_sub hl [0, 1, 2, 3, 4] rfl)
  refine lv_aload_n hx hb dX13_isOneOf_0 rfl (lv_at hl 0 rfl) ?_
  refine lv_iload_n hx hb dX13_isOneOf_1 rfl (lv_at hl 1 rfl) ?_
  refine lv_lload_n hx hb dX13_isOneOf_2 rfl (lv_at hl 2 rfl) ?_
  refine mr_calli (rest := []) ⟨hx, hb, hml, hown, htb⟩ (a_has l dC dI h0 ad cid sg gm lg x nn hI hvx) (cwV 2 htb (gd_V kw_916 kw_917 kw_918 kw_5 kw_1543) rfl rfl rfl (by decide +kernel) ⟨Nat.le_of_ble_eq_true rfl, Nat.le_of_ble_eq_true rfl⟩) rfl hl.1 rfl (Nat.le_of_ble_eq_true rfl) dX13_isOneOf_3 ⟨Nat.zero_le _, Nat.zero_le _⟩ hK hP hD hS hA (fun r_1 u_2 H locs hw hP hD hS => ?_)
  obtain ⟨hr_1, rfl⟩ := hw
  have hP : va_P (dC, dI) vwCl (mW h0 ad cid sg gm lg) H := hP
  have hD : va_D A (mW h0 ad cid sg gm lg) := hD
  refine lv_if_eq (tgt := 43) hx hb dX13_isOneOf_6 (by decide) (fun c_3 => ?_) (fun c_3 => ?_)
  · have h_4 : iv 0 0 r_1 := iv_eq c_3 hr_1 (iv_k (by decide) : iv 0 0 0) (by decide)
    exact hj43 hvx hva hvb _ _ _ hP hD hS (lv_sub hl [0, 1, 2, 3, 4] rfl)
  · have h_5 : iv 1 1 r_1 := iv_neL c_3 hr_1 (by decide)
    refine lv_aload_n hx hb dX13_isOneOf_9 rfl (lv_at hl 0 rfl) ?_
    refine lv_iload_n hx hb dX13_isOneOf_10 rfl (lv_at hl 1 rfl) ?_
    refine lv_lload_n hx hb dX13_isOneOf_11 rfl (lv_at hl 2 rfl) ?_
    refine mr_calll (rest := []) ⟨hx, hb, hml, hown, htb⟩ (a_word l dC dI h0 ad cid sg gm lg x nn hI hvx) (cwV 2 htb (gd_V kw_923 kw_924 kw_925 kw_5 kw_1545) rfl rfl rfl (by decide +kernel) ⟨Nat.le_of_ble_eq_true rfl, Nat.le_of_ble_eq_true rfl⟩) rfl hl.1 rfl (Nat.le_of_ble_eq_true rfl) dX13_isOneOf_12 ⟨Nat.zero_le _, Nat.zero_le _⟩ hK hP hD hS hA (fun r_6 u_7 H locs hw hP hD hS => ?_)
    obtain rfl := hw
    have hP : va_P (dC, dI) vwCl (mW h0 ad cid sg gm lg) H := hP
    have hD : va_D A (mW h0 ad cid sg gm lg) := hD
    refine lv_aload_n hx hb dX13_isOneOf_15 rfl (lv_at hl 0 rfl) ?_
    refine mr_get (v := .ref (ad 1)) hx hb htb inX13 hown hK hP 1 (by decide) (htb _ kw_156) rfl dX13_isOneOf_16 ?_
    refine lv_iload hx hb dX13_isOneOf_19 (lv_at hl 3 rfl) ?_
    refine mr_lald hx hb hK hP 1 (k := 1) rfl rfl rfl (show vp_in a 11 from (iv_in hva (by decide))) dX13_isOneOf_21 ?_
    refine lv_topl (fun z_8 ez_8 => ?_)
    refine W.lcmp hx hb dX13_isOneOf_22 ?_
    refine lv_topi (fun z_9 ez_9 => ?_)
    have hz_9 : iv (-1) 1 z_9 := iv_of ez_9 (iv_cmp _ _)
    refine lv_if_eq (tgt := 43) hx hb dX13_isOneOf_23 (by decide) (fun c_10 => ?_) (fun c_10 => ?_)
    · have h_11 : iv 0 0 z_9 := iv_eq c_10 hz_9 (iv_k (by decide) : iv 0 0 0) (by decide)
      exact hj43 hvx hva hvb _ _ _ hP hD hS (lv_sub hl [0, 1, 2, 3, 4] rfl)
    · have d_12 : ¬ (z_9 : Int32).toInt = 0 := lv_neT c_10 rfl
      refine lv_aload_n hx hb dX13_isOneOf_26 rfl (lv_at hl 0 rfl) ?_
      refine lv_iload_n hx hb dX13_isOneOf_27 rfl (lv_at hl 1 rfl) ?_
      refine lv_lload_n hx hb dX13_isOneOf_28 rfl (lv_at hl 2 rfl) ?_
      refine mr_calll (rest := []) ⟨hx, hb, hml, hown, htb⟩ (a_word l dC dI h0 ad cid sg gm lg x nn hI hvx) (cwV 2 htb (gd_V kw_923 kw_924 kw_925 kw_5 kw_1545) rfl rfl rfl (by decide +kernel) ⟨Nat.le_of_ble_eq_true rfl, Nat.le_of_ble_eq_true rfl⟩) rfl hl.1 rfl (Nat.le_of_ble_eq_true rfl) dX13_isOneOf_29 ⟨Nat.zero_le _, Nat.zero_le _⟩ hK hP hD hS hA (fun r_13 u_14 H locs hw hP hD hS => ?_)
      obtain rfl := hw
      have hP : va_P (dC, dI) vwCl (mW h0 ad cid sg gm lg) H := hP
      have hD : va_D A (mW h0 ad cid sg gm lg) := hD
      refine lv_aload_n hx hb dX13_isOneOf_32 rfl (lv_at hl 0 rfl) ?_
      refine mr_get (v := .ref (ad 1)) hx hb htb inX13 hown hK hP 1 (by decide) (htb _ kw_156) rfl dX13_isOneOf_33 ?_
      refine lv_iload hx hb dX13_isOneOf_36 (lv_at hl 4 rfl) ?_
      refine mr_lald hx hb hK hP 1 (k := 1) rfl rfl rfl (show vp_in b 11 from (iv_in hvb (by decide))) dX13_isOneOf_38 ?_
      refine lv_topl (fun z_15 ez_15 => ?_)
      refine W.lcmp hx hb dX13_isOneOf_39 ?_
      refine lv_topi (fun z_16 ez_16 => ?_)
      have hz_16 : iv (-1) 1 z_16 := iv_of ez_16 (iv_cmp _ _)
      refine lv_if_ne (tgt := 47) hx hb dX13_isOneOf_40 (by decide) (fun c_17 => ?_) (fun c_17 => ?_)
      · have d_18 : ¬ (z_16 : Int32).toInt = 0 := lv_neT c_17 rfl
        refine lv_iconst (v := 0) hx hb dX13_isOneOf_47 (by decide) ?_
        exact hj48 0 hvx hva hvb (iv_w (iv_k (by decide) : iv 0 0 0) (by decide)) _ _ _ hP hD hS (lv_sub hl [0, 1, 2, 3, 4] rfl)
      · have h_19 : iv 0 0 z_16 := iv_eq c_17 hz_16 (iv_k (by decide) : iv 0 0 0) (by decide)
        exact hj43 hvx hva hvb _ _ _ hP hD hS (lv_sub hl [0, 1, 2, 3, 4] rfl)

set_option maxHeartbeats 4000000 in
set_option maxRecDepth 100000 in
theorem a_isOneLetter (l : Launch) (dC : Nat → ClassId) (dI : Nat → Nat → Nat) (h0 : Nat) (ad : Nat → Nat) (cid : Nat → ClassId) (sg : Nat → Int32) (gm : Nat → Nat → Int32) (lg : Nat → Nat → Int64) (x : Int32) (nn : Int64) (hI : MI sg gm) (hvx : iv 0 79 x) : MMi l dC dI yX13_isOneLetter wm_X13_isOneLetter ({ frames := 2, cells := 0, slots := 0, locals := 51 }) h0 ad cid [.int x, .long nn] sg gm lg (fun r v => (iv 0 1 r) ∧ v = (sg, gm, lg)) := by
  intro sz
  refine Met.ofW (cc := cX13_isOneLetter) (maxL := 4) (ret := (some .boolean)) (by decide) rfl ?_
  intro p e s m args below meth c s₁ B hml hv
  obtain ⟨rfl, hsz, hP, hK, hD0⟩ := hv
  have hx := B.exec
  have hb := B.bytes
  have hr := B.returns
  have hts := atoms_spec (ws := wm_X13_isOneLetter) B.pre
  have htb := fun (w : Cond) (h : w ∈ tb) => hts w (List.mem_cons_of_mem _ h)
  have hown : s.vm.findClass RX13 = some m.cls := findClass_of_methodNamed B.named
  have hlocks := B.notSynchronized
  subst hsz
  have hD := hD0.self (sz := s.heap.size)
  generalize hAe : va_A (mW h0 ad cid sg gm lg) s.heap.size = A at hD ⊢
  have hA : ∀ q : Nat, s.heap.size ≤ q → A q := fun q h => by rw [← hAe]; exact Or.inr h
  have hS : va_S A s.heap s.heap [] := va_S.rf
  have hl := lv_entry ([.ref h0, .int x, .long nn]) (n := 4) (Nat.le_of_ble_eq_true rfl)
  rw [lg_entry_eq]
  generalize (lg_sl ([.ref h0, .int x, .long nn]) ++ List.replicate (4 - (lg_sl ([.ref h0, .int x, .long nn])).length) Slot.unset).toArray = ls at hl ⊢
  have hl : lv_has ls 4 [(0, .ref h0), (1, .int x), (2, .long nn)] := hl
  have hj27 : ∀ (y0_27 : Int32) (_ : iv 0 79 x) (_ : iv 0 1 y0_27) (H : Heap) (locs : List Loc) (ls : Array Slot), va_P (dC, dI) vwCl (mW h0 ad cid sg gm lg) H → va_D A (mW h0 ad cid sg gm lg) → va_S A s.heap H locs → lv_has ls 4 [(0, .ref h0), (1, .int x), (2, .long nn)] → W p l e (headSpec wm_X13_isOneLetter ({ frames := 2, cells := 0, slots := 0, locals := 51 })).room s m ([.ref h0, .int x, .long nn] : List Value).toArray below meth c H locs 0 0 (MQ below (va_Qi (fun r v => (iv 0 1 r) ∧ v = (sg, gm, lg)) (MB dC dI h0 ad cid A) A) ([.ref h0, .int x, .long nn] : List Value).toArray s 0 0 A) (F0 m 27 ls [.int y0_27]) := by
    intro y0_27 hsx1_27 hy0_27 H locs ls hP hD hS hl
    exact W.zret (v := y0_27) hx hb hr (iv_nb hy0_27) (fun t ht hW => ⟨⟨y0_27, (sg, gm, lg), rfl, ⟨hy0_27, rfl⟩, by rw [ht]; exact hP, va_K.moved hW.alike hK, hD⟩, hS.F ht⟩) hS.2.2 dX13_isOneLetter_27
  have hj26 : ∀ (_ : iv 0 79 x) (H : Heap) (locs : List Loc) (ls : Array Slot), va_P (dC, dI) vwCl (mW h0 ad cid sg gm lg) H → va_D A (mW h0 ad cid sg gm lg) → va_S A s.heap H locs → lv_has ls 4 [(0, .ref h0), (1, .int x), (2, .long nn)] → W p l e (headSpec wm_X13_isOneLetter ({ frames := 2, cells := 0, slots := 0, locals := 51 })).room s m ([.ref h0, .int x, .long nn] : List Value).toArray below meth c H locs 0 0 (MQ below (va_Qi (fun r v => (iv 0 1 r) ∧ v = (sg, gm, lg)) (MB dC dI h0 ad cid A) A) ([.ref h0, .int x, .long nn] : List Value).toArray s 0 0 A) (F0 m 26 ls []) := by
    intro  hsx1_26 H locs ls hP hD hS hl
    refine lv_iconst (v := 0) hx hb dX13_isOneLetter_26 (by decide) ?_
    exact hj27 0 hsx1_26 (iv_w (iv_k (by decide) : iv 0 0 0) (by decide)) _ _ _ hP hD hS (lv_sub hl [0, 1, 2] rfl)
  refine lv_aload_n hx hb dX13_isOneLetter_0 rfl (lv_at hl 0 rfl) ?_
  refine lv_iload_n hx hb dX13_isOneLetter_1 rfl (lv_at hl 1 rfl) ?_
  refine lv_lload_n hx hb dX13_isOneLetter_2 rfl (lv_at hl 2 rfl) ?_
  refine mr_calli (rest := []) ⟨hx, hb, hml, hown, htb⟩ (a_isWord l dC dI h0 ad cid sg gm lg x nn hI hvx) (cwV 2 htb (gd_V kw_910 kw_911 kw_912 kw_5 kw_1541) rfl rfl rfl (by decide +kernel) ⟨Nat.le_of_ble_eq_true rfl, Nat.le_of_ble_eq_true rfl⟩) rfl hl.1 rfl (Nat.le_of_ble_eq_true rfl) dX13_isOneLetter_3 ⟨Nat.zero_le _, Nat.zero_le _⟩ hK hP hD hS hA (fun r_1 u_2 H locs hw hP hD hS => ?_)
  obtain ⟨hr_1, rfl⟩ := hw
  have hP : va_P (dC, dI) vwCl (mW h0 ad cid sg gm lg) H := hP
  have hD : va_D A (mW h0 ad cid sg gm lg) := hD
  refine lv_if_eq (tgt := 26) hx hb dX13_isOneLetter_6 (by decide) (fun c_3 => ?_) (fun c_3 => ?_)
  · have h_4 : iv 0 0 r_1 := iv_eq c_3 hr_1 (iv_k (by decide) : iv 0 0 0) (by decide)
    exact hj26 hvx _ _ _ hP hD hS (lv_sub hl [0, 1, 2] rfl)
  · have h_5 : iv 1 1 r_1 := iv_neL c_3 hr_1 (by decide)
    refine lv_aload_n hx hb dX13_isOneLetter_9 rfl (lv_at hl 0 rfl) ?_
    refine lv_iload_n hx hb dX13_isOneLetter_10 rfl (lv_at hl 1 rfl) ?_
    refine lv_lload_n hx hb dX13_isOneLetter_11 rfl (lv_at hl 2 rfl) ?_
    refine mr_calll (rest := []) ⟨hx, hb, hml, hown, htb⟩ (a_word l dC dI h0 ad cid sg gm lg x nn hI hvx) (cwV 2 htb (gd_V kw_923 kw_924 kw_925 kw_5 kw_1545) rfl rfl rfl (by decide +kernel) ⟨Nat.le_of_ble_eq_true rfl, Nat.le_of_ble_eq_true rfl⟩) rfl hl.1 rfl (Nat.le_of_ble_eq_true rfl) dX13_isOneLetter_12 ⟨Nat.zero_le _, Nat.zero_le _⟩ hK hP hD hS hA (fun r_6 u_7 H locs hw hP hD hS => ?_)
    obtain rfl := hw
    have hP : va_P (dC, dI) vwCl (mW h0 ad cid sg gm lg) H := hP
    have hD : va_D A (mW h0 ad cid sg gm lg) := hD
    refine lv_ldc2 (own := RX13) (v := 256) hx hb hown (htb _ kw_922) dX13_isOneLetter_15 ?_
    refine W.lcmp hx hb dX13_isOneLetter_18 ?_
    refine lv_topi (fun z_8 ez_8 => ?_)
    have hz_8 : iv (-1) 1 z_8 := iv_of ez_8 (iv_cmp _ _)
    refine lv_if_ge (tgt := 26) hx hb dX13_isOneLetter_19 (by decide) (fun c_9 => ?_) (fun c_9 => ?_)
    · have h_10 : iv 0 1 z_8 := iv_leR c_9 (iv_k (by decide) : iv 0 0 0) hz_8 (by decide)
      exact hj26 hvx _ _ _ hP hD hS (lv_sub hl [0, 1, 2] rfl)
    · have h_11 : iv (-1) (-1) z_8 := iv_ltL (i32_lt c_9) hz_8 (iv_k (by decide) : iv 0 0 0) (by decide)
      refine lv_iconst (v := 1) hx hb dX13_isOneLetter_22 (by decide) ?_
      refine lv_goto (tgt := 27) hx hb dX13_isOneLetter_23 (by decide) ?_
      exact hj27 1 hvx (iv_w (iv_k (by decide) : iv 1 1 1) (by decide)) _ _ _ hP hD hS (lv_sub hl [0, 1, 2] rfl)

set_option maxHeartbeats 4000000 in
set_option maxRecDepth 100000 in
theorem a_isAllowed (l : Launch) (dC : Nat → ClassId) (dI : Nat → Nat → Nat) (h0 : Nat) (ad : Nat → Nat) (cid : Nat → ClassId) (sg : Nat → Int32) (gm : Nat → Nat → Int32) (lg : Nat → Nat → Int64) (x : Int32) (nn : Int64) (hI : MI sg gm) : MMi l dC dI yX13_isAllowed wm_X13_isAllowed ({ frames := 0, cells := 0, slots := 0, locals := 0 }) h0 ad cid [.int x, .long nn] sg gm lg (fun r v => (iv 0 1 r) ∧ v = (sg, gm, lg)) := by
  intro sz
  refine Met.ofW (cc := cX13_isAllowed) (maxL := 4) (ret := (some .boolean)) (by decide) rfl ?_
  intro p e s m args below meth c s₁ B hml hv
  obtain ⟨rfl, hsz, hP, hK, hD0⟩ := hv
  have hx := B.exec
  have hb := B.bytes
  have hr := B.returns
  have hts := atoms_spec (ws := wm_X13_isAllowed) B.pre
  have htb := fun (w : Cond) (h : w ∈ tb) => hts w (List.mem_cons_of_mem _ h)
  have hown : s.vm.findClass RX13 = some m.cls := findClass_of_methodNamed B.named
  have hlocks := B.notSynchronized
  subst hsz
  have hD := hD0.self (sz := s.heap.size)
  generalize hAe : va_A (mW h0 ad cid sg gm lg) s.heap.size = A at hD ⊢
  have hA : ∀ q : Nat, s.heap.size ≤ q → A q := fun q h => by rw [← hAe]; exact Or.inr h
  have hS : va_S A s.heap s.heap [] := va_S.rf
  have hl := lv_entry ([.ref h0, .int x, .long nn]) (n := 4) (Nat.le_of_ble_eq_true rfl)
  rw [lg_entry_eq]
  generalize (lg_sl ([.ref h0, .int x, .long nn]) ++ List.replicate (4 - (lg_sl ([.ref h0, .int x, .long nn])).length) Slot.unset).toArray = ls at hl ⊢
  have hl : lv_has ls 4 [(0, .ref h0), (1, .int x), (2, .long nn)] := hl
  have hj73 : ∀ (y0_73 : Int32) (_ : iv 2 2 x) (_ : iv 0 1 y0_73) (H : Heap) (locs : List Loc) (ls : Array Slot), va_P (dC, dI) vwCl (mW h0 ad cid sg gm lg) H → va_D A (mW h0 ad cid sg gm lg) → va_S A s.heap H locs → lv_has ls 4 [(0, .ref h0), (1, .int x), (2, .long nn)] → W p l e (headSpec wm_X13_isAllowed ({ frames := 0, cells := 0, slots := 0, locals := 0 })).room s m ([.ref h0, .int x, .long nn] : List Value).toArray below meth c H locs 0 0 (MQ below (va_Qi (fun r v => (iv 0 1 r) ∧ v = (sg, gm, lg)) (MB dC dI h0 ad cid A) A) ([.ref h0, .int x, .long nn] : List Value).toArray s 0 0 A) (F0 m 73 ls [.int y0_73]) := by
    intro y0_73 hsx1_73 hy0_73 H locs ls hP hD hS hl
    exact W.zret (v := y0_73) hx hb hr (iv_nb hy0_73) (fun t ht hW => ⟨⟨y0_73, (sg, gm, lg), rfl, ⟨hy0_73, rfl⟩, by rw [ht]; exact hP, va_K.moved hW.alike hK, hD⟩, hS.F ht⟩) hS.2.2 dX13_isAllowed_73
  have hj68 : ∀ (_ : iv 2 2 x) (H : Heap) (locs : List Loc) (ls : Array Slot), va_P (dC, dI) vwCl (mW h0 ad cid sg gm lg) H → va_D A (mW h0 ad cid sg gm lg) → va_S A s.heap H locs → lv_has ls 4 [(0, .ref h0), (1, .int x), (2, .long nn)] → W p l e (headSpec wm_X13_isAllowed ({ frames := 0, cells := 0, slots := 0, locals := 0 })).room s m ([.ref h0, .int x, .long nn] : List Value).toArray below meth c H locs 0 0 (MQ below (va_Qi (fun r v => (iv 0 1 r) ∧ v = (sg, gm, lg)) (MB dC dI h0 ad cid A) A) ([.ref h0, .int x, .long nn] : List Value).toArray s 0 0 A) (F0 m 68 ls []) := by
    intro  hsx1_68 H locs ls hP hD hS hl
    refine lv_iconst (v := 1) hx hb dX13_isAllowed_68 (by decide) ?_
    refine lv_goto (tgt := 73) hx hb dX13_isAllowed_69 (by decide) ?_
    exact hj73 1 hsx1_68 (iv_w (iv_k (by decide) : iv 1 1 1) (by decide)) _ _ _ hP hD hS (lv_sub hl [0, 1, 2] rfl)
  have hj167 : ∀ (y0_167 : Int32) (_ : iv 3 3 x) (_ : iv 0 1 y0_167) (H : Heap) (locs : List Loc) (ls : Array Slot), va_P (dC, dI) vwCl (mW h0 ad cid sg gm lg) H → va_D A (mW h0 ad cid sg gm lg) → va_S A s.heap H locs → lv_has ls 4 [(0, .ref h0), (1, .int x), (2, .long nn)] → W p l e (headSpec wm_X13_isAllowed ({ frames := 0, cells := 0, slots := 0, locals := 0 })).room s m ([.ref h0, .int x, .long nn] : List Value).toArray below meth c H locs 0 0 (MQ below (va_Qi (fun r v => (iv 0 1 r) ∧ v = (sg, gm, lg)) (MB dC dI h0 ad cid A) A) ([.ref h0, .int x, .long nn] : List Value).toArray s 0 0 A) (F0 m 167 ls [.int y0_167]) := by
    intro y0_167 hsx1_167 hy0_167 H locs ls hP hD hS hl
    exact W.zret (v := y0_167) hx hb hr (iv_nb hy0_167) (fun t ht hW => ⟨⟨y0_167, (sg, gm, lg), rfl, ⟨hy0_167, rfl⟩, by rw [ht]; exact hP, va_K.moved hW.alike hK, hD⟩, hS.F ht⟩) hS.2.2 dX13_isAllowed_167
  have hj162 : ∀ (_ : iv 3 3 x) (H : Heap) (locs : List Loc) (ls : Array Slot), va_P (dC, dI) vwCl (mW h0 ad cid sg gm lg) H → va_D A (mW h0 ad cid sg gm lg) → va_S A s.heap H locs → lv_has ls 4 [(0, .ref h0), (1, .int x), (2, .long nn)] → W p l e (headSpec wm_X13_isAllowed ({ frames := 0, cells := 0, slots := 0, locals := 0 })).room s m ([.ref h0, .int x, .long nn] : List Value).toArray below meth c H locs 0 0 (MQ below (va_Qi (fun r v => (iv 0 1 r) ∧ v = (sg, gm, lg)) (MB dC dI h0 ad cid A) A) ([.ref h0, .int x, .long nn] : List Value).toArray s 0 0 A) (F0 m 162 ls []) := by
    intro  hsx1_162 H locs ls hP hD hS hl
    refine lv_iconst (v := 1) hx hb dX13_isAllowed_162 (by decide) ?_
    refine lv_goto (tgt := 167) hx hb dX13_isAllowed_163 (by decide) ?_
    exact hj167 1 hsx1_162 (iv_w (iv_k (by decide) : iv 1 1 1) (by decide)) _ _ _ hP hD hS (lv_sub hl [0, 1, 2] rfl)
  have hj205 : ∀ (y0_205 : Int32) (_ : iv 4 4 x) (_ : iv 0 1 y0_205) (H : Heap) (locs : List Loc) (ls : Array Slot), va_P (dC, dI) vwCl (mW h0 ad cid sg gm lg) H → va_D A (mW h0 ad cid sg gm lg) → va_S A s.heap H locs → lv_has ls 4 [(0, .ref h0), (1, .int x), (2, .long nn)] → W p l e (headSpec wm_X13_isAllowed ({ frames := 0, cells := 0, slots := 0, locals := 0 })).room s m ([.ref h0, .int x, .long nn] : List Value).toArray below meth c H locs 0 0 (MQ below (va_Qi (fun r v => (iv 0 1 r) ∧ v = (sg, gm, lg)) (MB dC dI h0 ad cid A) A) ([.ref h0, .int x, .long nn] : List Value).toArray s 0 0 A) (F0 m 205 ls [.int y0_205]) := by
    intro y0_205 hsx1_205 hy0_205 H locs ls hP hD hS hl
    exact W.zret (v := y0_205) hx hb hr (iv_nb hy0_205) (fun t ht hW => ⟨⟨y0_205, (sg, gm, lg), rfl, ⟨hy0_205, rfl⟩, by rw [ht]; exact hP, va_K.moved hW.alike hK, hD⟩, hS.F ht⟩) hS.2.2 dX13_isAllowed_205
  have hj200 : ∀ (_ : iv 4 4 x) (H : Heap) (locs : List Loc) (ls : Array Slot), va_P (dC, dI) vwCl (mW h0 ad cid sg gm lg) H → va_D A (mW h0 ad cid sg gm lg) → va_S A s.heap H locs → lv_has ls 4 [(0, .ref h0), (1, .int x), (2, .long nn)] → W p l e (headSpec wm_X13_isAllowed ({ frames := 0, cells := 0, slots := 0, locals := 0 })).room s m ([.ref h0, .int x, .long nn] : List Value).toArray below meth c H locs 0 0 (MQ below (va_Qi (fun r v => (iv 0 1 r) ∧ v = (sg, gm, lg)) (MB dC dI h0 ad cid A) A) ([.ref h0, .int x, .long nn] : List Value).toArray s 0 0 A) (F0 m 200 ls []) := by
    intro  hsx1_200 H locs ls hP hD hS hl
    refine lv_iconst (v := 1) hx hb dX13_isAllowed_200 (by decide) ?_
    refine lv_goto (tgt := 205) hx hb dX13_isAllowed_201 (by decide) ?_
    exact hj205 1 hsx1_200 (iv_w (iv_k (by decide) : iv 1 1 1) (by decide)) _ _ _ hP hD hS (lv_sub hl [0, 1, 2] rfl)
  have hj235 : ∀ (y0_235 : Int32) (_ : iv 5 5 x) (_ : iv 0 1 y0_235) (H : Heap) (locs : List Loc) (ls : Array Slot), va_P (dC, dI) vwCl (mW h0 ad cid sg gm lg) H → va_D A (mW h0 ad cid sg gm lg) → va_S A s.heap H locs → lv_has ls 4 [(0, .ref h0), (1, .int x), (2, .long nn)] → W p l e (headSpec wm_X13_isAllowed ({ frames := 0, cells := 0, slots := 0, locals := 0 })).room s m ([.ref h0, .int x, .long nn] : List Value).toArray below meth c H locs 0 0 (MQ below (va_Qi (fun r v => (iv 0 1 r) ∧ v = (sg, gm, lg)) (MB dC dI h0 ad cid A) A) ([.ref h0, .int x, .long nn] : List Value).toArray s 0 0 A) (F0 m 235 ls [.int y0_235]) := by
    intro y0_235 hsx1_235 hy0_235 H locs ls hP hD hS hl
    exact W.zret (v := y0_235) hx hb hr (iv_nb hy0_235) (fun t ht hW => ⟨⟨y0_235, (sg, gm, lg), rfl, ⟨hy0_235, rfl⟩, by rw [ht]; exact hP, va_K.moved hW.alike hK, hD⟩, hS.F ht⟩) hS.2.2 dX13_isAllowed_235
  have hj230 : ∀ (_ : iv 5 5 x) (H : Heap) (locs : List Loc) (ls : Array Slot), va_P (dC, dI) vwCl (mW h0 ad cid sg gm lg) H → va_D A (mW h0 ad cid sg gm lg) → va_S A s.heap H locs → lv_has ls 4 [(0, .ref h0), (1, .int x), (2, .long nn)] → W p l e (headSpec wm_X13_isAllowed ({ frames := 0, cells := 0, slots := 0, locals := 0 })).room s m ([.ref h0, .int x, .long nn] : List Value).toArray below meth c H locs 0 0 (MQ below (va_Qi (fun r v => (iv 0 1 r) ∧ v = (sg, gm, lg)) (MB dC dI h0 ad cid A) A) ([.ref h0, .int x, .long nn] : List Value).toArray s 0 0 A) (F0 m 230 ls []) := by
    intro  hsx1_230 H locs ls hP hD hS hl
    refine lv_iconst (v := 1) hx hb dX13_isAllowed_230 (by decide) ?_
    refine lv_goto (tgt := 235) hx hb dX13_isAllowed_231 (by decide) ?_
    exact hj235 1 hsx1_230 (iv_w (iv_k (by decide) : iv 1 1 1) (by decide)) _ _ _ hP hD hS (lv_sub hl [0, 1, 2] rfl)
  have hj272 : ∀ (H : Heap) (locs : List Loc) (ls : Array Slot), va_P (dC, dI) vwCl (mW h0 ad cid sg gm lg) H → va_D A (mW h0 ad cid sg gm lg) → va_S A s.heap H locs → lv_has ls 4 [(0, .ref h0), (1, .int x), (2, .long nn)] → W p l e (headSpec wm_X13_isAllowed ({ frames := 0, cells := 0, slots := 0, locals := 0 })).room s m ([.ref h0, .int x, .long nn] : List Value).toArray below meth c H locs 0 0 (MQ below (va_Qi (fun r v => (iv 0 1 r) ∧ v = (sg, gm, lg)) (MB dC dI h0 ad cid A) A) ([.ref h0, .int x, .long nn] : List Value).toArray s 0 0 A) (F0 m 272 ls []) := by
    intro  H locs ls hP hD hS hl
    refine lv_iconst (v := 0) hx hb dX13_isAllowed_272 (by decide) ?_
    exact W.zret (v := 0) hx hb hr (iv_nb (iv_w (iv_k (by decide) : iv 0 0 0) (by decide))) (fun t ht hW => ⟨⟨0, (sg, gm, lg), rfl, ⟨(iv_w (iv_k (by decide) : iv 0 0 0) (by decide)), rfl⟩, by rw [ht]; exact hP, va_K.moved hW.alike hK, hD⟩, hS.F ht⟩) hS.2.2 dX13_isAllowed_273
  have hj249 : ∀ (y0_249 : Int32) (_ : iv 8 8 x) (_ : iv 0 1 y0_249) (H : Heap) (locs : List Loc) (ls : Array Slot), va_P (dC, dI) vwCl (mW h0 ad cid sg gm lg) H → va_D A (mW h0 ad cid sg gm lg) → va_S A s.heap H locs → lv_has ls 4 [(0, .ref h0), (1, .int x), (2, .long nn)] → W p l e (headSpec wm_X13_isAllowed ({ frames := 0, cells := 0, slots := 0, locals := 0 })).room s m ([.ref h0, .int x, .long nn] : List Value).toArray below meth c H locs 0 0 (MQ below (va_Qi (fun r v => (iv 0 1 r) ∧ v = (sg, gm, lg)) (MB dC dI h0 ad cid A) A) ([.ref h0, .int x, .long nn] : List Value).toArray s 0 0 A) (F0 m 249 ls [.int y0_249]) := by
    intro y0_249 hsx1_249 hy0_249 H locs ls hP hD hS hl
    exact W.zret (v := y0_249) hx hb hr (iv_nb hy0_249) (fun t ht hW => ⟨⟨y0_249, (sg, gm, lg), rfl, ⟨hy0_249, rfl⟩, by rw [ht]; exact hP, va_K.moved hW.alike hK, hD⟩, hS.F ht⟩) hS.2.2 dX13_isAllowed_249
  have hj271 : ∀ (y0_271 : Int32) (_ : iv 10 10 x) (_ : iv 0 1 y0_271) (H : Heap) (locs : List Loc) (ls : Array Slot), va_P (dC, dI) vwCl (mW h0 ad cid sg gm lg) H → va_D A (mW h0 ad cid sg gm lg) → va_S A s.heap H locs → lv_has ls 4 [(0, .ref h0), (1, .int x), (2, .long nn)] → W p l e (headSpec wm_X13_isAllowed ({ frames := 0, cells := 0, slots := 0, locals := 0 })).room s m ([.ref h0, .int x, .long nn] : List Value).toArray below meth c H locs 0 0 (MQ below (va_Qi (fun r v => (iv 0 1 r) ∧ v = (sg, gm, lg)) (MB dC dI h0 ad cid A) A) ([.ref h0, .int x, .long nn] : List Value).toArray s 0 0 A) (F0 m 271 ls [.int y0_271]) := by
    intro y0_271 hsx1_271 hy0_271 H locs ls hP hD hS hl
    exact W.zret (v := y0_271) hx hb hr (iv_nb hy0_271) (fun t ht hW => ⟨⟨y0_271, (sg, gm, lg), rfl, ⟨hy0_271, rfl⟩, by rw [ht]; exact hP, va_K.moved hW.alike hK, hD⟩, hS.F ht⟩) hS.2.2 dX13_isAllowed_271
  have hj266 : ∀ (_ : iv 10 10 x) (H : Heap) (locs : List Loc) (ls : Array Slot), va_P (dC, dI) vwCl (mW h0 ad cid sg gm lg) H → va_D A (mW h0 ad cid sg gm lg) → va_S A s.heap H locs → lv_has ls 4 [(0, .ref h0), (1, .int x), (2, .long nn)] → W p l e (headSpec wm_X13_isAllowed ({ frames := 0, cells := 0, slots := 0, locals := 0 })).room s m ([.ref h0, .int x, .long nn] : List Value).toArray below meth c H locs 0 0 (MQ below (va_Qi (fun r v => (iv 0 1 r) ∧ v = (sg, gm, lg)) (MB dC dI h0 ad cid A) A) ([.ref h0, .int x, .long nn] : List Value).toArray s 0 0 A) (F0 m 266 ls []) := by
    intro  hsx1_266 H locs ls hP hD hS hl
    refine lv_iconst (v := 1) hx hb dX13_isAllowed_266 (by decide) ?_
    refine lv_goto (tgt := 271) hx hb dX13_isAllowed_267 (by decide) ?_
    exact hj271 1 hsx1_266 (iv_w (iv_k (by decide) : iv 1 1 1) (by decide)) _ _ _ hP hD hS (lv_sub hl [0, 1, 2] rfl)
  refine lv_iload_n hx hb dX13_isAllowed_0 rfl (lv_at hl 1 rfl) ?_
  by_cases c_1 : (x : Int32).toInt = 2
  · refine lv_tableIn (tgt := 52) hx hb dX13_isAllowed_1 (by rw [c_1]; decide) (by rw [c_1]; decide) (by rw [c_1]; rfl) (by decide) ?_
    have h_2 : iv 2 2 x := iv_at c_1
    refine lv_lload_n hx hb dX13_isAllowed_52 rfl (lv_at hl 2 rfl) ?_
    refine lv_ldc2 (own := RX13) (v := 1851878757) hx hb hown (htb _ kw_887) dX13_isAllowed_53 ?_
    refine W.lcmp hx hb dX13_isAllowed_56 ?_
    refine lv_topi (fun z_3 ez_3 => ?_)
    have hz_3 : iv (-1) 1 z_3 := iv_of ez_3 (iv_cmp _ _)
    refine lv_if_eq (tgt := 68) hx hb dX13_isAllowed_57 (by decide) (fun c_4 => ?_) (fun c_4 => ?_)
    · have h_5 : iv 0 0 z_3 := iv_eq c_4 hz_3 (iv_k (by decide) : iv 0 0 0) (by decide)
      exact hj68 h_2 _ _ _ hP hD hS (lv_sub hl [0, 1, 2] rfl)
    · have d_6 : ¬ (z_3 : Int32).toInt = 0 := lv_neT c_4 rfl
      refine lv_lload_n hx hb dX13_isAllowed_60 rfl (lv_at hl 2 rfl) ?_
      refine lv_ldc2 (own := RX13) (v := 29807) hx hb hown (htb _ kw_888) dX13_isAllowed_61 ?_
      refine W.lcmp hx hb dX13_isAllowed_64 ?_
      refine lv_topi (fun z_7 ez_7 => ?_)
      have hz_7 : iv (-1) 1 z_7 := iv_of ez_7 (iv_cmp _ _)
      refine lv_if_ne (tgt := 72) hx hb dX13_isAllowed_65 (by decide) (fun c_8 => ?_) (fun c_8 => ?_)
      · have d_9 : ¬ (z_7 : Int32).toInt = 0 := lv_neT c_8 rfl
        refine lv_iconst (v := 0) hx hb dX13_isAllowed_72 (by decide) ?_
        exact hj73 0 h_2 (iv_w (iv_k (by decide) : iv 0 0 0) (by decide)) _ _ _ hP hD hS (lv_sub hl [0, 1, 2] rfl)
      · have h_10 : iv 0 0 z_7 := iv_eq c_8 hz_7 (iv_k (by decide) : iv 0 0 0) (by decide)
        exact hj68 h_2 _ _ _ hP hD hS (lv_sub hl [0, 1, 2] rfl)
  by_cases c_11 : (x : Int32).toInt = 3
  · refine lv_tableIn (tgt := 74) hx hb dX13_isAllowed_1 (by rw [c_11]; decide) (by rw [c_11]; decide) (by rw [c_11]; rfl) (by decide) ?_
    have h_12 : iv 3 3 x := iv_at c_11
    refine lv_lload_n hx hb dX13_isAllowed_74 rfl (lv_at hl 2 rfl) ?_
    refine lv_ldc2 (own := RX13) (v := 26980) hx hb hown (htb _ kw_899) dX13_isAllowed_75 ?_
    refine W.lcmp hx hb dX13_isAllowed_78 ?_
    refine lv_topi (fun z_13 ez_13 => ?_)
    have hz_13 : iv (-1) 1 z_13 := iv_of ez_13 (iv_cmp _ _)
    refine lv_if_eq (tgt := 162) hx hb dX13_isAllowed_79 (by decide) (fun c_14 => ?_) (fun c_14 => ?_)
    · have h_15 : iv 0 0 z_13 := iv_eq c_14 hz_13 (iv_k (by decide) : iv 0 0 0) (by decide)
      exact hj162 h_12 _ _ _ hP hD hS (lv_sub hl [0, 1, 2] rfl)
    · have d_16 : ¬ (z_13 : Int32).toInt = 0 := lv_neT c_14 rfl
      refine lv_lload_n hx hb dX13_isAllowed_82 rfl (lv_at hl 2 rfl) ?_
      refine lv_ldc2 (own := RX13) (v := 427020088179) hx hb hown (htb _ kw_900) dX13_isAllowed_83 ?_
      refine W.lcmp hx hb dX13_isAllowed_86 ?_
      refine lv_topi (fun z_17 ez_17 => ?_)
      have hz_17 : iv (-1) 1 z_17 := iv_of ez_17 (iv_cmp _ _)
      refine lv_if_eq (tgt := 162) hx hb dX13_isAllowed_87 (by decide) (fun c_18 => ?_) (fun c_18 => ?_)
      · have h_19 : iv 0 0 z_17 := iv_eq c_18 hz_17 (iv_k (by decide) : iv 0 0 0) (by decide)
        exact hj162 h_12 _ _ _ hP hD hS (lv_sub hl [0, 1, 2] rfl)
      · have d_20 : ¬ (z_17 : Int32).toInt = 0 := lv_neT c_18 rfl
        refine lv_lload_n hx hb dX13_isAllowed_90 rfl (lv_at hl 2 rfl) ?_
        refine lv_ldc2 (own := RX13) (v := 123563833388660) hx hb hown (htb _ kw_901) dX13_isAllowed_91 ?_
        refine W.lcmp hx hb dX13_isAllowed_94 ?_
        refine lv_topi (fun z_21 ez_21 => ?_)
        have hz_21 : iv (-1) 1 z_21 := iv_of ez_21 (iv_cmp _ _)
        refine lv_if_eq (tgt := 162) hx hb dX13_isAllowed_95 (by decide) (fun c_22 => ?_) (fun c_22 => ?_)
        · have h_23 : iv 0 0 z_21 := iv_eq c_22 hz_21 (iv_k (by decide) : iv 0 0 0) (by decide)
          exact hj162 h_12 _ _ _ hP hD hS (lv_sub hl [0, 1, 2] rfl)
        · have d_24 : ¬ (z_21 : Int32).toInt = 0 := lv_neT c_22 rfl
          refine lv_lload_n hx hb dX13_isAllowed_98 rfl (lv_at hl 2 rfl) ?_
          refine lv_ldc2 (own := RX13) (v := 7017298113369039732) hx hb hown (htb _ kw_902) dX13_isAllowed_99 ?_
          refine W.lcmp hx hb dX13_isAllowed_102 ?_
          refine lv_topi (fun z_25 ez_25 => ?_)
          have hz_25 : iv (-1) 1 z_25 := iv_of ez_25 (iv_cmp _ _)
          refine lv_if_eq (tgt := 162) hx hb dX13_isAllowed_103 (by decide) (fun c_26 => ?_) (fun c_26 => ?_)
          · have h_27 : iv 0 0 z_25 := iv_eq c_26 hz_25 (iv_k (by decide) : iv 0 0 0) (by decide)
            exact hj162 h_12 _ _ _ hP hD hS (lv_sub hl [0, 1, 2] rfl)
          · have d_28 : ¬ (z_25 : Int32).toInt = 0 := lv_neT c_26 rfl
            refine lv_lload_n hx hb dX13_isAllowed_106 rfl (lv_at hl 2 rfl) ?_
            refine lv_ldc2 (own := RX13) (v := 495589486693) hx hb hown (htb _ kw_903) dX13_isAllowed_107 ?_
            refine W.lcmp hx hb dX13_isAllowed_110 ?_
            refine lv_topi (fun z_29 ez_29 => ?_)
            have hz_29 : iv (-1) 1 z_29 := iv_of ez_29 (iv_cmp _ _)
            refine lv_if_eq (tgt := 162) hx hb dX13_isAllowed_111 (by decide) (fun c_30 => ?_) (fun c_30 => ?_)
            · have h_31 : iv 0 0 z_29 := iv_eq c_30 hz_29 (iv_k (by decide) : iv 0 0 0) (by decide)
              exact hj162 h_12 _ _ _ hP hD hS (lv_sub hl [0, 1, 2] rfl)
            · have d_32 : ¬ (z_29 : Int32).toInt = 0 := lv_neT c_30 rfl
              refine lv_lload_n hx hb dX13_isAllowed_114 rfl (lv_at hl 2 rfl) ?_
              refine lv_ldc2 (own := RX13) (v := 1818327673) hx hb hown (htb _ kw_904) dX13_isAllowed_115 ?_
              refine W.lcmp hx hb dX13_isAllowed_118 ?_
              refine lv_topi (fun z_33 ez_33 => ?_)
              have hz_33 : iv (-1) 1 z_33 := iv_of ez_33 (iv_cmp _ _)
              refine lv_if_eq (tgt := 162) hx hb dX13_isAllowed_119 (by decide) (fun c_34 => ?_) (fun c_34 => ?_)
              · have h_35 : iv 0 0 z_33 := iv_eq c_34 hz_33 (iv_k (by decide) : iv 0 0 0) (by decide)
                exact hj162 h_12 _ _ _ hP hD hS (lv_sub hl [0, 1, 2] rfl)
              · have d_36 : ¬ (z_33 : Int32).toInt = 0 := lv_neT c_34 rfl
                refine lv_lload_n hx hb dX13_isAllowed_122 rfl (lv_at hl 2 rfl) ?_
                refine lv_ldc2 (own := RX13) (v := 28817527407604345) hx hb hown (htb _ kw_905) dX13_isAllowed_123 ?_
                refine W.lcmp hx hb dX13_isAllowed_126 ?_
                refine lv_topi (fun z_37 ez_37 => ?_)
                have hz_37 : iv (-1) 1 z_37 := iv_of ez_37 (iv_cmp _ _)
                refine lv_if_eq (tgt := 162) hx hb dX13_isAllowed_127 (by decide) (fun c_38 => ?_) (fun c_38 => ?_)
                · have h_39 : iv 0 0 z_37 := iv_eq c_38 hz_37 (iv_k (by decide) : iv 0 0 0) (by decide)
                  exact hj162 h_12 _ _ _ hP hD hS (lv_sub hl [0, 1, 2] rfl)
                · have d_40 : ¬ (z_37 : Int32).toInt = 0 := lv_neT c_38 rfl
                  refine lv_lload_n hx hb dX13_isAllowed_130 rfl (lv_at hl 2 rfl) ?_
                  refine lv_ldc2 (own := RX13) (v := 120282512125796) hx hb hown (htb _ kw_906) dX13_isAllowed_131 ?_
                  refine W.lcmp hx hb dX13_isAllowed_134 ?_
                  refine lv_topi (fun z_41 ez_41 => ?_)
                  have hz_41 : iv (-1) 1 z_41 := iv_of ez_41 (iv_cmp _ _)
                  refine lv_if_eq (tgt := 162) hx hb dX13_isAllowed_135 (by decide) (fun c_42 => ?_) (fun c_42 => ?_)
                  · have h_43 : iv 0 0 z_41 := iv_eq c_42 hz_41 (iv_k (by decide) : iv 0 0 0) (by decide)
                    exact hj162 h_12 _ _ _ hP hD hS (lv_sub hl [0, 1, 2] rfl)
                  · have d_44 : ¬ (z_41 : Int32).toInt = 0 := lv_neT c_42 rfl
                    refine lv_lload_n hx hb dX13_isAllowed_138 rfl (lv_at hl 2 rfl) ?_
                    refine lv_ldc2 (own := RX13) (v := 1768843636) hx hb hown (htb _ kw_907) dX13_isAllowed_139 ?_
                    refine W.lcmp hx hb dX13_isAllowed_142 ?_
                    refine lv_topi (fun z_45 ez_45 => ?_)
                    have hz_45 : iv (-1) 1 z_45 := iv_of ez_45 (iv_cmp _ _)
                    refine lv_if_eq (tgt := 162) hx hb dX13_isAllowed_143 (by decide) (fun c_46 => ?_) (fun c_46 => ?_)
                    · have h_47 : iv 0 0 z_45 := iv_eq c_46 hz_45 (iv_k (by decide) : iv 0 0 0) (by decide)
                      exact hj162 h_12 _ _ _ hP hD hS (lv_sub hl [0, 1, 2] rfl)
                    · have d_48 : ¬ (z_45 : Int32).toInt = 0 := lv_neT c_46 rfl
                      refine lv_lload_n hx hb dX13_isAllowed_146 rfl (lv_at hl 2 rfl) ?_
                      refine lv_ldc2 (own := RX13) (v := 28259044220366713) hx hb hown (htb _ kw_908) dX13_isAllowed_147 ?_
                      refine W.lcmp hx hb dX13_isAllowed_150 ?_
                      refine lv_topi (fun z_49 ez_49 => ?_)
                      have hz_49 : iv (-1) 1 z_49 := iv_of ez_49 (iv_cmp _ _)
                      refine lv_if_eq (tgt := 162) hx hb dX13_isAllowed_151 (by decide) (fun c_50 => ?_) (fun c_50 => ?_)
                      · have h_51 : iv 0 0 z_49 := iv_eq c_50 hz_49 (iv_k (by decide) : iv 0 0 0) (by decide)
                        exact hj162 h_12 _ _ _ hP hD hS (lv_sub hl [0, 1, 2] rfl)
                      · have d_52 : ¬ (z_49 : Int32).toInt = 0 := lv_neT c_50 rfl
                        refine lv_lload_n hx hb dX13_isAllowed_154 rfl (lv_at hl 2 rfl) ?_
                        refine lv_ldc2 (own := RX13) (v := 28259031083541619) hx hb hown (htb _ kw_909) dX13_isAllowed_155 ?_
                        refine W.lcmp hx hb dX13_isAllowed_158 ?_
                        refine lv_topi (fun z_53 ez_53 => ?_)
                        have hz_53 : iv (-1) 1 z_53 := iv_of ez_53 (iv_cmp _ _)
                        refine lv_if_ne (tgt := 166) hx hb dX13_isAllowed_159 (by decide) (fun c_54 => ?_) (fun c_54 => ?_)
                        · have d_55 : ¬ (z_53 : Int32).toInt = 0 := lv_neT c_54 rfl
                          refine lv_iconst (v := 0) hx hb dX13_isAllowed_166 (by decide) ?_
                          exact hj167 0 h_12 (iv_w (iv_k (by decide) : iv 0 0 0) (by decide)) _ _ _ hP hD hS (lv_sub hl [0, 1, 2] rfl)
                        · have h_56 : iv 0 0 z_53 := iv_eq c_54 hz_53 (iv_k (by decide) : iv 0 0 0) (by decide)
                          exact hj162 h_12 _ _ _ hP hD hS (lv_sub hl [0, 1, 2] rfl)
  by_cases c_57 : (x : Int32).toInt = 4
  · refine lv_tableIn (tgt := 168) hx hb dX13_isAllowed_1 (by rw [c_57]; decide) (by rw [c_57]; decide) (by rw [c_57]; rfl) (by decide) ?_
    have h_58 : iv 4 4 x := iv_at c_57
    refine lv_lload_n hx hb dX13_isAllowed_168 rfl (lv_at hl 2 rfl) ?_
    refine lv_ldc2 (own := RX13) (v := 24948) hx hb hown (htb _ kw_889) dX13_isAllowed_169 ?_
    refine W.lcmp hx hb dX13_isAllowed_172 ?_
    refine lv_topi (fun z_59 ez_59 => ?_)
    have hz_59 : iv (-1) 1 z_59 := iv_of ez_59 (iv_cmp _ _)
    refine lv_if_eq (tgt := 200) hx hb dX13_isAllowed_173 (by decide) (fun c_60 => ?_) (fun c_60 => ?_)
    · have h_61 : iv 0 0 z_59 := iv_eq c_60 hz_59 (iv_k (by decide) : iv 0 0 0) (by decide)
      exact hj200 h_58 _ _ _ hP hD hS (lv_sub hl [0, 1, 2] rfl)
    · have d_62 : ¬ (z_59 : Int32).toInt = 0 := lv_neT c_60 rfl
      refine lv_lload_n hx hb dX13_isAllowed_176 rfl (lv_at hl 2 rfl) ?_
      refine lv_ldc2 (own := RX13) (v := 1954115685) hx hb hown (htb _ kw_892) dX13_isAllowed_177 ?_
      refine W.lcmp hx hb dX13_isAllowed_180 ?_
      refine lv_topi (fun z_63 ez_63 => ?_)
      have hz_63 : iv (-1) 1 z_63 := iv_of ez_63 (iv_cmp _ _)
      refine lv_if_eq (tgt := 200) hx hb dX13_isAllowed_181 (by decide) (fun c_64 => ?_) (fun c_64 => ?_)
      · have h_65 : iv 0 0 z_63 := iv_eq c_64 hz_63 (iv_k (by decide) : iv 0 0 0) (by decide)
        exact hj200 h_58 _ _ _ hP hD hS (lv_sub hl [0, 1, 2] rfl)
      · have d_66 : ¬ (z_63 : Int32).toInt = 0 := lv_neT c_64 rfl
        refine lv_lload_n hx hb dX13_isAllowed_184 rfl (lv_at hl 2 rfl) ?_
        refine lv_ldc2 (own := RX13) (v := 508440638821) hx hb hown (htb _ kw_140) dX13_isAllowed_185 ?_
        refine W.lcmp hx hb dX13_isAllowed_188 ?_
        refine lv_topi (fun z_67 ez_67 => ?_)
        have hz_67 : iv (-1) 1 z_67 := iv_of ez_67 (iv_cmp _ _)
        refine lv_if_eq (tgt := 200) hx hb dX13_isAllowed_189 (by decide) (fun c_68 => ?_) (fun c_68 => ?_)
        · have h_69 : iv 0 0 z_67 := iv_eq c_68 hz_67 (iv_k (by decide) : iv 0 0 0) (by decide)
          exact hj200 h_58 _ _ _ hP hD hS (lv_sub hl [0, 1, 2] rfl)
        · have d_70 : ¬ (z_67 : Int32).toInt = 0 := lv_neT c_68 rfl
          refine lv_lload_n hx hb dX13_isAllowed_192 rfl (lv_at hl 2 rfl) ?_
          refine lv_ldc2 (own := RX13) (v := 7497062) hx hb hown (htb _ kw_141) dX13_isAllowed_193 ?_
          refine W.lcmp hx hb dX13_isAllowed_196 ?_
          refine lv_topi (fun z_71 ez_71 => ?_)
          have hz_71 : iv (-1) 1 z_71 := iv_of ez_71 (iv_cmp _ _)
          refine lv_if_ne (tgt := 204) hx hb dX13_isAllowed_197 (by decide) (fun c_72 => ?_) (fun c_72 => ?_)
          · have d_73 : ¬ (z_71 : Int32).toInt = 0 := lv_neT c_72 rfl
            refine lv_iconst (v := 0) hx hb dX13_isAllowed_204 (by decide) ?_
            exact hj205 0 h_58 (iv_w (iv_k (by decide) : iv 0 0 0) (by decide)) _ _ _ hP hD hS (lv_sub hl [0, 1, 2] rfl)
          · have h_74 : iv 0 0 z_71 := iv_eq c_72 hz_71 (iv_k (by decide) : iv 0 0 0) (by decide)
            exact hj200 h_58 _ _ _ hP hD hS (lv_sub hl [0, 1, 2] rfl)
  by_cases c_75 : (x : Int32).toInt = 5
  · refine lv_tableIn (tgt := 206) hx hb dX13_isAllowed_1 (by rw [c_75]; decide) (by rw [c_75]; decide) (by rw [c_75]; rfl) (by decide) ?_
    have h_76 : iv 5 5 x := iv_at c_75
    refine lv_lload_n hx hb dX13_isAllowed_206 rfl (lv_at hl 2 rfl) ?_
    refine lv_ldc2 (own := RX13) (v := 1851878757) hx hb hown (htb _ kw_887) dX13_isAllowed_207 ?_
    refine W.lcmp hx hb dX13_isAllowed_210 ?_
    refine lv_topi (fun z_77 ez_77 => ?_)
    have hz_77 : iv (-1) 1 z_77 := iv_of ez_77 (iv_cmp _ _)
    refine lv_if_eq (tgt := 230) hx hb dX13_isAllowed_211 (by decide) (fun c_78 => ?_) (fun c_78 => ?_)
    · have h_79 : iv 0 0 z_77 := iv_eq c_78 hz_77 (iv_k (by decide) : iv 0 0 0) (by decide)
      exact hj230 h_76 _ _ _ hP hD hS (lv_sub hl [0, 1, 2] rfl)
    · have d_80 : ¬ (z_77 : Int32).toInt = 0 := lv_neT c_78 rfl
      refine lv_lload_n hx hb dX13_isAllowed_214 rfl (lv_at hl 2 rfl) ?_
      refine lv_ldc2 (own := RX13) (v := 508440638821) hx hb hown (htb _ kw_140) dX13_isAllowed_215 ?_
      refine W.lcmp hx hb dX13_isAllowed_218 ?_
      refine lv_topi (fun z_81 ez_81 => ?_)
      have hz_81 : iv (-1) 1 z_81 := iv_of ez_81 (iv_cmp _ _)
      refine lv_if_eq (tgt := 230) hx hb dX13_isAllowed_219 (by decide) (fun c_82 => ?_) (fun c_82 => ?_)
      · have h_83 : iv 0 0 z_81 := iv_eq c_82 hz_81 (iv_k (by decide) : iv 0 0 0) (by decide)
        exact hj230 h_76 _ _ _ hP hD hS (lv_sub hl [0, 1, 2] rfl)
      · have d_84 : ¬ (z_81 : Int32).toInt = 0 := lv_neT c_82 rfl
        refine lv_lload_n hx hb dX13_isAllowed_222 rfl (lv_at hl 2 rfl) ?_
        refine lv_ldc2 (own := RX13) (v := 7497062) hx hb hown (htb _ kw_141) dX13_isAllowed_223 ?_
        refine W.lcmp hx hb dX13_isAllowed_226 ?_
        refine lv_topi (fun z_85 ez_85 => ?_)
        have hz_85 : iv (-1) 1 z_85 := iv_of ez_85 (iv_cmp _ _)
        refine lv_if_ne (tgt := 234) hx hb dX13_isAllowed_227 (by decide) (fun c_86 => ?_) (fun c_86 => ?_)
        · have d_87 : ¬ (z_85 : Int32).toInt = 0 := lv_neT c_86 rfl
          refine lv_iconst (v := 0) hx hb dX13_isAllowed_234 (by decide) ?_
          exact hj235 0 h_76 (iv_w (iv_k (by decide) : iv 0 0 0) (by decide)) _ _ _ hP hD hS (lv_sub hl [0, 1, 2] rfl)
        · have h_88 : iv 0 0 z_85 := iv_eq c_86 hz_85 (iv_k (by decide) : iv 0 0 0) (by decide)
          exact hj230 h_76 _ _ _ hP hD hS (lv_sub hl [0, 1, 2] rfl)
  by_cases c_89 : (x : Int32).toInt = 6
  · refine lv_tableIn (tgt := 272) hx hb dX13_isAllowed_1 (by rw [c_89]; decide) (by rw [c_89]; decide) (by rw [c_89]; rfl) (by decide) ?_
    have h_90 : iv 6 6 x := iv_at c_89
    exact hj272 _ _ _ hP hD hS (lv_sub hl [0, 1, 2] rfl)
  by_cases c_91 : (x : Int32).toInt = 7
  · refine lv_tableIn (tgt := 272) hx hb dX13_isAllowed_1 (by rw [c_91]; decide) (by rw [c_91]; decide) (by rw [c_91]; rfl) (by decide) ?_
    have h_92 : iv 7 7 x := iv_at c_91
    exact hj272 _ _ _ hP hD hS (lv_sub hl [0, 1, 2] rfl)
  by_cases c_93 : (x : Int32).toInt = 8
  · refine lv_tableIn (tgt := 236) hx hb dX13_isAllowed_1 (by rw [c_93]; decide) (by rw [c_93]; decide) (by rw [c_93]; rfl) (by decide) ?_
    have h_94 : iv 8 8 x := iv_at c_93
    refine lv_lload_n hx hb dX13_isAllowed_236 rfl (lv_at hl 2 rfl) ?_
    refine lv_ldc2 (own := RX13) (v := 1650811246) hx hb hown (htb _ kw_136) dX13_isAllowed_237 ?_
    refine W.lcmp hx hb dX13_isAllowed_240 ?_
    refine lv_topi (fun z_95 ez_95 => ?_)
    have hz_95 : iv (-1) 1 z_95 := iv_of ez_95 (iv_cmp _ _)
    refine lv_if_ne (tgt := 248) hx hb dX13_isAllowed_241 (by decide) (fun c_96 => ?_) (fun c_96 => ?_)
    · have d_97 : ¬ (z_95 : Int32).toInt = 0 := lv_neT c_96 rfl
      refine lv_iconst (v := 0) hx hb dX13_isAllowed_248 (by decide) ?_
      exact hj249 0 h_94 (iv_w (iv_k (by decide) : iv 0 0 0) (by decide)) _ _ _ hP hD hS (lv_sub hl [0, 1, 2] rfl)
    · have h_98 : iv 0 0 z_95 := iv_eq c_96 hz_95 (iv_k (by decide) : iv 0 0 0) (by decide)
      refine lv_iconst (v := 1) hx hb dX13_isAllowed_244 (by decide) ?_
      refine lv_goto (tgt := 249) hx hb dX13_isAllowed_245 (by decide) ?_
      exact hj249 1 h_94 (iv_w (iv_k (by decide) : iv 1 1 1) (by decide)) _ _ _ hP hD hS (lv_sub hl [0, 1, 2] rfl)
  by_cases c_99 : (x : Int32).toInt = 9
  · refine lv_tableIn (tgt := 272) hx hb dX13_isAllowed_1 (by rw [c_99]; decide) (by rw [c_99]; decide) (by rw [c_99]; rfl) (by decide) ?_
    have h_100 : iv 9 9 x := iv_at c_99
    exact hj272 _ _ _ hP hD hS (lv_sub hl [0, 1, 2] rfl)
  by_cases c_101 : (x : Int32).toInt = 10
  · refine lv_tableIn (tgt := 250) hx hb dX13_isAllowed_1 (by rw [c_101]; decide) (by rw [c_101]; decide) (by rw [c_101]; rfl) (by decide) ?_
    have h_102 : iv 10 10 x := iv_at c_101
    refine lv_lload_n hx hb dX13_isAllowed_250 rfl (lv_at hl 2 rfl) ?_
    refine lv_ldc2 (own := RX13) (v := 1851878757) hx hb hown (htb _ kw_887) dX13_isAllowed_251 ?_
    refine W.lcmp hx hb dX13_isAllowed_254 ?_
    refine lv_topi (fun z_103 ez_103 => ?_)
    have hz_103 : iv (-1) 1 z_103 := iv_of ez_103 (iv_cmp _ _)
    refine lv_if_eq (tgt := 266) hx hb dX13_isAllowed_255 (by decide) (fun c_104 => ?_) (fun c_104 => ?_)
    · have h_105 : iv 0 0 z_103 := iv_eq c_104 hz_103 (iv_k (by decide) : iv 0 0 0) (by decide)
      exact hj266 h_102 _ _ _ hP hD hS (lv_sub hl [0, 1, 2] rfl)
    · have d_106 : ¬ (z_103 : Int32).toInt = 0 := lv_neT c_104 rfl
      refine lv_lload_n hx hb dX13_isAllowed_258 rfl (lv_at hl 2 rfl) ?_
      refine lv_ldc2 (own := RX13) (v := 1650811246) hx hb hown (htb _ kw_136) dX13_isAllowed_259 ?_
      refine W.lcmp hx hb dX13_isAllowed_262 ?_
      refine lv_topi (fun z_107 ez_107 => ?_)
      have hz_107 : iv (-1) 1 z_107 := iv_of ez_107 (iv_cmp _ _)
      refine lv_if_ne (tgt := 270) hx hb dX13_isAllowed_263 (by decide) (fun c_108 => ?_) (fun c_108 => ?_)
      · have d_109 : ¬ (z_107 : Int32).toInt = 0 := lv_neT c_108 rfl
        refine lv_iconst (v := 0) hx hb dX13_isAllowed_270 (by decide) ?_
        exact hj271 0 h_102 (iv_w (iv_k (by decide) : iv 0 0 0) (by decide)) _ _ _ hP hD hS (lv_sub hl [0, 1, 2] rfl)
      · have h_110 : iv 0 0 z_107 := iv_eq c_108 hz_107 (iv_k (by decide) : iv 0 0 0) (by decide)
        exact hj266 h_102 _ _ _ hP hD hS (lv_sub hl [0, 1, 2] rfl)
  refine lv_tableOut (tgt := 272) hx hb dX13_isAllowed_1 (by have q1 := ((iv_all x)).1; have q2 := ((iv_all x)).2; omega) (by decide) ?_
  exact hj272 _ _ _ hP hD hS (lv_sub hl [0, 1, 2] rfl)

set_option maxHeartbeats 4000000 in
set_option maxRecDepth 100000 in
theorem a_ahead (l : Launch) (dC : Nat → ClassId) (dI : Nat → Nat → Nat) (h0 : Nat) (ad : Nat → Nat) (cid : Nat → ClassId) (sg : Nat → Int32) (gm : Nat → Nat → Int32) (lg : Nat → Nat → Int64) (x : Int32) (f : Int32) (hI : MI sg gm) (hvx : iv 0 79 x) (hvf : iv 0 1 f) : MMi l dC dI yX13_ahead wm_X13_ahead ({ frames := 2, cells := 0, slots := 0, locals := 51 }) h0 ad cid [.int x, .int f] sg gm lg (fun r v => v = (sg, gm, lg)) := by
  intro sz
  refine Met.ofW (cc := cX13_ahead) (maxL := 5) (ret := (some .int)) (by decide) rfl ?_
  intro p e s m args below meth c s₁ B hml hv
  obtain ⟨rfl, hsz, hP, hK, hD0⟩ := hv
  have hx := B.exec
  have hb := B.bytes
  have hr := B.returns
  have hts := atoms_spec (ws := wm_X13_ahead) B.pre
  have htb := fun (w : Cond) (h : w ∈ tb) => hts w (List.mem_cons_of_mem _ h)
  have hown : s.vm.findClass RX13 = some m.cls := findClass_of_methodNamed B.named
  have hlocks := B.notSynchronized
  subst hsz
  have hD := hD0.self (sz := s.heap.size)
  generalize hAe : va_A (mW h0 ad cid sg gm lg) s.heap.size = A at hD ⊢
  have hA : ∀ q : Nat, s.heap.size ≤ q → A q := fun q h => by rw [← hAe]; exact Or.inr h
  have hS : va_S A s.heap s.heap [] := va_S.rf
  have hl := lv_entry ([.ref h0, .int x, .int f]) (n := 5) (Nat.le_of_ble_eq_true rfl)
  rw [lg_entry_eq]
  generalize (lg_sl ([.ref h0, .int x, .int f]) ++ List.replicate (5 - (lg_sl ([.ref h0, .int x, .int f])).length) Slot.unset).toArray = ls at hl ⊢
  have hl : lv_has ls 5 [(0, .ref h0), (1, .int x), (2, .int f)] := hl
  have hj5 : ∀ (n : Nat) (x4_5 : Int32) (x3_5 : Int32) (_ : (79 - x4_5.toInt).toNat = n) (_ : iv 0 79 x4_5) (_ : iv 0 79 x) (_ : iv 0 1 f) (H : Heap) (locs : List Loc) (ls : Array Slot), va_P (dC, dI) vwCl (mW h0 ad cid sg gm lg) H → va_D A (mW h0 ad cid sg gm lg) → va_S A s.heap H locs → lv_has ls 5 [(4, .int x4_5), (3, .int x3_5), (0, .ref h0), (1, .int x), (2, .int f)] → W p l e (headSpec wm_X13_ahead ({ frames := 2, cells := 0, slots := 0, locals := 51 })).room s m ([.ref h0, .int x, .int f] : List Value).toArray below meth c H locs 0 0 (MQ below (va_Qi (fun r v => v = (sg, gm, lg)) (MB dC dI h0 ad cid A) A) ([.ref h0, .int x, .int f] : List Value).toArray s 0 0 A) (F0 m 5 ls []) := by
    intro n
    induction n using Nat.strongRecOn with
    | ind n ih5 =>
      intro x4_5 x3_5 hn5 hx4_5 hsx1_5 hsx2_5 H locs ls hP hD hS hl
      have hj74 : ∀ (y0_74 : Int32) (_ : iv 0 78 x4_5) (_ : iv 1 79 x) (_ : iv 0 1 f) (_ : iv 0 1 y0_74) (H : Heap) (locs : List Loc) (ls : Array Slot), va_P (dC, dI) vwCl (mW h0 ad cid sg gm lg) H → va_D A (mW h0 ad cid sg gm lg) → va_S A s.heap H locs → lv_has ls 5 [(4, .int x4_5), (3, .int x3_5), (0, .ref h0), (1, .int x), (2, .int f)] → W p l e (headSpec wm_X13_ahead ({ frames := 2, cells := 0, slots := 0, locals := 51 })).room s m ([.ref h0, .int x, .int f] : List Value).toArray below meth c H locs 0 0 (MQ below (va_Qi (fun r v => v = (sg, gm, lg)) (MB dC dI h0 ad cid A) A) ([.ref h0, .int x, .int f] : List Value).toArray s 0 0 A) (F0 m 74 ls [.int y0_74, .int x3_5]) := by
        intro y0_74 hsx4_74 hsx1_74 hsx2_74 hy0_74 H locs ls hP hD hS hl
        refine lv_iadd hx hb dX13_ahead_74 ?_
        refine lv_topi (fun z_1 ez_1 => ?_)
        refine lv_istore_n (lv' := [(3, .int z_1), (4, .int x4_5), (0, .ref h0), (1, .int x), (2, .int f)]) hx hb dX13_ahead_75 rfl hl (by decide) rfl (fun ls hl => ?_)
        obtain ⟨z_2, ez_2⟩ : ∃ z : Int32, z = x4_5 + 1 := ⟨_, rfl⟩
        have hz_2 : iv 1 79 z_2 := iv_of ez_2 (iv_add hsx4_74 (iv_k (by decide) : iv 1 1 1) (by decide))
        have tz_2 : z_2.toInt = x4_5.toInt + 1 := by rw [ez_2]; exact iv_addE hsx4_74 (iv_k (by decide) : iv 1 1 1) (by decide)
        refine lv_iinc (v := z_2) (lv' := [(4, .int z_2), (3, .int z_1), (0, .ref h0), (1, .int x), (2, .int f)]) hx hb dX13_ahead_76 hl (k := 1) rfl ez_2.symm (by decide) rfl (fun ls hl => ?_)
        refine lv_goto (tgt := 5) hx hb dX13_ahead_79 (by decide) ?_
        exact ih5 _ (by rw [← hn5]; exact (iv_meas tz_2 hsx4_74 (by decide))) z_2 z_1 rfl (iv_w hz_2 (by decide)) (iv_w hsx1_74 (by decide)) hsx2_74 _ _ _ hP hD hS (lv_sub hl [0, 1, 2, 3, 4] rfl)
      have hj73 : ∀ (_ : iv 0 78 x4_5) (_ : iv 1 79 x) (_ : iv 0 1 f) (H : Heap) (locs : List Loc) (ls : Array Slot), va_P (dC, dI) vwCl (mW h0 ad cid sg gm lg) H → va_D A (mW h0 ad cid sg gm lg) → va_S A s.heap H locs → lv_has ls 5 [(4, .int x4_5), (3, .int x3_5), (0, .ref h0), (1, .int x), (2, .int f)] → W p l e (headSpec wm_X13_ahead ({ frames := 2, cells := 0, slots := 0, locals := 51 })).room s m ([.ref h0, .int x, .int f] : List Value).toArray below meth c H locs 0 0 (MQ below (va_Qi (fun r v => v = (sg, gm, lg)) (MB dC dI h0 ad cid A) A) ([.ref h0, .int x, .int f] : List Value).toArray s 0 0 A) (F0 m 73 ls [.int x3_5]) := by
        intro  hsx4_73 hsx1_73 hsx2_73 H locs ls hP hD hS hl
        refine lv_iconst (v := 0) hx hb dX13_ahead_73 (by decide) ?_
        exact hj74 0 hsx4_73 hsx1_73 hsx2_73 (iv_w (iv_k (by decide) : iv 0 0 0) (by decide)) _ _ _ hP hD hS (lv_sub hl [0, 1, 2, 3, 4] rfl)
      have hj69 : ∀ (_ : iv 0 78 x4_5) (_ : iv 1 79 x) (_ : iv 0 1 f) (H : Heap) (locs : List Loc) (ls : Array Slot), va_P (dC, dI) vwCl (mW h0 ad cid sg gm lg) H → va_D A (mW h0 ad cid sg gm lg) → va_S A s.heap H locs → lv_has ls 5 [(4, .int x4_5), (3, .int x3_5), (0, .ref h0), (1, .int x), (2, .int f)] → W p l e (headSpec wm_X13_ahead ({ frames := 2, cells := 0, slots := 0, locals := 51 })).room s m ([.ref h0, .int x, .int f] : List Value).toArray below meth c H locs 0 0 (MQ below (va_Qi (fun r v => v = (sg, gm, lg)) (MB dC dI h0 ad cid A) A) ([.ref h0, .int x, .int f] : List Value).toArray s 0 0 A) (F0 m 69 ls [.int x3_5]) := by
        intro  hsx4_69 hsx1_69 hsx2_69 H locs ls hP hD hS hl
        refine lv_iconst (v := 1) hx hb dX13_ahead_69 (by decide) ?_
        refine lv_goto (tgt := 74) hx hb dX13_ahead_70 (by decide) ?_
        exact hj74 1 hsx4_69 hsx1_69 hsx2_69 (iv_w (iv_k (by decide) : iv 1 1 1) (by decide)) _ _ _ hP hD hS (lv_sub hl [0, 1, 2, 3, 4] rfl)
      refine lv_iload hx hb dX13_ahead_5 (lv_at hl 0 rfl) ?_
      refine lv_iload_n hx hb dX13_ahead_7 rfl (lv_at hl 3 rfl) ?_
      refine lv_icmp_ge (tgt := 82) hx hb dX13_ahead_8 (by decide) (fun c_3 => ?_) (fun c_3 => ?_)
      · have d_4 : (x : Int32).toInt ≤ (x4_5 : Int32).toInt := Int32.le_iff_toInt_le.mp c_3
        refine lv_iload_n hx hb dX13_ahead_82 rfl (lv_at hl 1 rfl) ?_
        exact W.iret (v := x3_5) hx hb hr (fun t ht hW => ⟨⟨x3_5, (sg, gm, lg), rfl, rfl, by rw [ht]; exact hP, va_K.moved hW.alike hK, hD⟩, hS.F ht⟩) hS.2.2 dX13_ahead_83
      · have d_5 : (x4_5 : Int32).toInt < (x : Int32).toInt := Int32.lt_iff_toInt_lt.mp (i32_lt c_3)
        have h_6 : iv 0 78 x4_5 := iv_ltL (i32_lt c_3) hx4_5 hsx1_5 (by decide)
        have h_7 : iv 1 79 x := iv_ltR (i32_lt c_3) hx4_5 hsx1_5 (by decide)
        refine lv_iload_n hx hb dX13_ahead_11 rfl (lv_at hl 1 rfl) ?_
        refine lv_aload_n hx hb dX13_ahead_12 rfl (lv_at hl 2 rfl) ?_
        refine mr_get (v := .ref (ad 28)) hx hb htb inX13 hown hK hP 28 (by decide) (htb _ kw_184) rfl dX13_ahead_13 ?_
        refine lv_iload hx hb dX13_ahead_16 (lv_at hl 0 rfl) ?_
        refine mr_iald hx hb hK hP 21 (k := 28) rfl rfl rfl (show vp_in x4_5 80 from (iv_in h_6 (by decide))) dX13_ahead_18 ?_
        refine lv_topi (fun z_8 ez_8 => ?_)
        have hz_8 : iv (-1) 79 z_8 := iv_of ez_8 (MI_a hI 28 h_6 (by decide))
        refine lv_aload_n hx hb dX13_ahead_19 rfl (lv_at hl 2 rfl) ?_
        refine mr_get (v := .ref (ad 28)) hx hb htb inX13 hown hK hP 28 (by decide) (htb _ kw_184) rfl dX13_ahead_20 ?_
        refine lv_iload_n hx hb dX13_ahead_23 rfl (lv_at hl 3 rfl) ?_
        refine mr_iald hx hb hK hP 21 (k := 28) rfl rfl rfl (show vp_in x 80 from (iv_in h_7 (by decide))) dX13_ahead_24 ?_
        refine lv_topi (fun z_9 ez_9 => ?_)
        have hz_9 : iv (-1) 79 z_9 := iv_of ez_9 (MI_a hI 28 h_7 (by decide))
        refine lv_icmp_ne (tgt := 73) hx hb dX13_ahead_25 (by decide) (fun c_10 => ?_) (fun c_10 => ?_)
        · exact hj73 h_6 h_7 hsx2_5 _ _ _ hP hD hS (lv_sub hl [0, 1, 2, 3, 4] rfl)
        · have d_11 : (z_8 : Int32).toInt = (z_9 : Int32).toInt := congrArg Int32.toInt c_10
          refine lv_aload_n hx hb dX13_ahead_28 rfl (lv_at hl 2 rfl) ?_
          refine mr_get (v := .ref (ad 26)) hx hb htb inX13 hown hK hP 26 (by decide) (htb _ kw_182) rfl dX13_ahead_29 ?_
          refine lv_iload hx hb dX13_ahead_32 (lv_at hl 0 rfl) ?_
          refine mr_iald hx hb hK hP 19 (k := 26) rfl rfl rfl (show vp_in x4_5 80 from (iv_in h_6 (by decide))) dX13_ahead_34 ?_
          refine lv_topi (fun z_12 ez_12 => ?_)
          have hz_12 : iv 0 10 z_12 := iv_of ez_12 (MI_a hI 26 h_6 (by decide))
          refine lv_aload_n hx hb dX13_ahead_35 rfl (lv_at hl 2 rfl) ?_
          refine mr_get (v := .ref (ad 26)) hx hb htb inX13 hown hK hP 26 (by decide) (htb _ kw_182) rfl dX13_ahead_36 ?_
          refine lv_iload_n hx hb dX13_ahead_39 rfl (lv_at hl 3 rfl) ?_
          refine mr_iald hx hb hK hP 19 (k := 26) rfl rfl rfl (show vp_in x 80 from (iv_in h_7 (by decide))) dX13_ahead_40 ?_
          refine lv_topi (fun z_13 ez_13 => ?_)
          have hz_13 : iv 0 10 z_13 := iv_of ez_13 (MI_a hI 26 h_7 (by decide))
          refine lv_icmp_ne (tgt := 73) hx hb dX13_ahead_41 (by decide) (fun c_14 => ?_) (fun c_14 => ?_)
          · exact hj73 h_6 h_7 hsx2_5 _ _ _ hP hD hS (lv_sub hl [0, 1, 2, 3, 4] rfl)
          · have d_15 : (z_12 : Int32).toInt = (z_13 : Int32).toInt := congrArg Int32.toInt c_14
            refine lv_iload_n hx hb dX13_ahead_44 rfl (lv_at hl 4 rfl) ?_
            refine lv_if_eq (tgt := 69) hx hb dX13_ahead_45 (by decide) (fun c_16 => ?_) (fun c_16 => ?_)
            · have h_17 : iv 0 0 f := iv_eq c_16 hsx2_5 (iv_k (by decide) : iv 0 0 0) (by decide)
              exact hj69 h_6 h_7 (iv_w h_17 (by decide)) _ _ _ hP hD hS (lv_sub hl [0, 1, 2, 3, 4] rfl)
            · have h_18 : iv 1 1 f := iv_neL c_16 hsx2_5 (by decide)
              refine lv_aload_n hx hb dX13_ahead_48 rfl (lv_at hl 2 rfl) ?_
              refine lv_iload hx hb dX13_ahead_49 (lv_at hl 0 rfl) ?_
              refine lv_ldc2 (own := RX13) (v := 1851878757) hx hb hown (htb _ kw_887) dX13_ahead_51 ?_
              refine mr_calll (rest := [.int x3_5]) ⟨hx, hb, hml, hown, htb⟩ (a_word l dC dI h0 ad cid sg gm lg x4_5 1851878757 hI (iv_w h_6 (by decide))) (cwV 2 htb (gd_V kw_923 kw_924 kw_925 kw_5 kw_1545) rfl rfl rfl (by decide +kernel) ⟨Nat.le_of_ble_eq_true rfl, Nat.le_of_ble_eq_true rfl⟩) rfl hl.1 rfl (Nat.le_of_ble_eq_true rfl) dX13_ahead_54 ⟨Nat.zero_le _, Nat.zero_le _⟩ hK hP hD hS hA (fun r_19 u_20 H locs hw hP hD hS => ?_)
              obtain rfl := hw
              have hP : va_P (dC, dI) vwCl (mW h0 ad cid sg gm lg) H := hP
              have hD : va_D A (mW h0 ad cid sg gm lg) := hD
              refine lv_aload_n hx hb dX13_ahead_57 rfl (lv_at hl 2 rfl) ?_
              refine lv_iload_n hx hb dX13_ahead_58 rfl (lv_at hl 3 rfl) ?_
              refine lv_ldc2 (own := RX13) (v := 1851878757) hx hb hown (htb _ kw_887) dX13_ahead_59 ?_
              refine mr_calll (rest := [.long r_19, .int x3_5]) ⟨hx, hb, hml, hown, htb⟩ (a_word l dC dI h0 ad cid sg gm lg x 1851878757 hI (iv_w h_7 (by decide))) (cwV 2 htb (gd_V kw_923 kw_924 kw_925 kw_5 kw_1545) rfl rfl rfl (by decide +kernel) ⟨Nat.le_of_ble_eq_true rfl, Nat.le_of_ble_eq_true rfl⟩) rfl hl.1 rfl (Nat.le_of_ble_eq_true rfl) dX13_ahead_62 ⟨Nat.zero_le _, Nat.zero_le _⟩ hK hP hD hS hA (fun r_21 u_22 H locs hw hP hD hS => ?_)
              obtain rfl := hw
              have hP : va_P (dC, dI) vwCl (mW h0 ad cid sg gm lg) H := hP
              have hD : va_D A (mW h0 ad cid sg gm lg) := hD
              refine W.lcmp hx hb dX13_ahead_65 ?_
              refine lv_topi (fun z_23 ez_23 => ?_)
              have hz_23 : iv (-1) 1 z_23 := iv_of ez_23 (iv_cmp _ _)
              refine lv_if_ne (tgt := 73) hx hb dX13_ahead_66 (by decide) (fun c_24 => ?_) (fun c_24 => ?_)
              · have d_25 : ¬ (z_23 : Int32).toInt = 0 := lv_neT c_24 rfl
                exact hj73 h_6 h_7 (iv_w h_18 (by decide)) _ _ _ hP hD hS (lv_sub hl [0, 1, 2, 3, 4] rfl)
              · have h_26 : iv 0 0 z_23 := iv_eq c_24 hz_23 (iv_k (by decide) : iv 0 0 0) (by decide)
                exact hj69 h_6 h_7 (iv_w h_18 (by decide)) _ _ _ hP hD hS (lv_sub hl [0, 1, 2, 3, 4] rfl)
  refine lv_iconst (v := 0) hx hb dX13_ahead_0 (by decide) ?_
  refine lv_istore_n (lv' := [(3, .int 0), (0, .ref h0), (1, .int x), (2, .int f)]) hx hb dX13_ahead_1 rfl hl (by decide) rfl (fun ls hl => ?_)
  refine lv_iconst (v := 0) hx hb dX13_ahead_2 (by decide) ?_
  refine lv_istore (lv' := [(4, .int 0), (3, .int 0), (0, .ref h0), (1, .int x), (2, .int f)]) hx hb dX13_ahead_3 hl (by decide) rfl (fun ls hl => ?_)
  exact hj5 _ 0 0 rfl (iv_w (iv_k (by decide) : iv 0 0 0) (by decide)) hvx hvf _ _ _ hP hD hS (lv_sub hl [0, 1, 2, 3, 4] rfl)

set_option maxHeartbeats 4000000 in
set_option maxRecDepth 100000 in
theorem a_isGoodHolder (l : Launch) (dC : Nat → ClassId) (dI : Nat → Nat → Nat) (h0 : Nat) (ad : Nat → Nat) (cid : Nat → ClassId) (sg : Nat → Int32) (gm : Nat → Nat → Int32) (lg : Nat → Nat → Int64) (x : Int32) (hI : MI sg gm) (hvx : iv 0 79 x) : MMi l dC dI yX13_isGoodHolder wm_X13_isGoodHolder ({ frames := 2, cells := 0, slots := 0, locals := 49 }) h0 ad cid [.int x] sg gm lg (fun r v => (iv 0 1 r) ∧ v = (sg, gm, lg)) := by
  intro sz
  refine Met.ofW (cc := cX13_isGoodHolder) (maxL := 3) (ret := (some .boolean)) (by decide) rfl ?_
  intro p e s m args below meth c s₁ B hml hv
  obtain ⟨rfl, hsz, hP, hK, hD0⟩ := hv
  have hx := B.exec
  have hb := B.bytes
  have hr := B.returns
  have hts := atoms_spec (ws := wm_X13_isGoodHolder) B.pre
  have htb := fun (w : Cond) (h : w ∈ tb) => hts w (List.mem_cons_of_mem _ h)
  have hown : s.vm.findClass RX13 = some m.cls := findClass_of_methodNamed B.named
  have hlocks := B.notSynchronized
  subst hsz
  have hD := hD0.self (sz := s.heap.size)
  generalize hAe : va_A (mW h0 ad cid sg gm lg) s.heap.size = A at hD ⊢
  have hA : ∀ q : Nat, s.heap.size ≤ q → A q := fun q h => by rw [← hAe]; exact Or.inr h
  have hS : va_S A s.heap s.heap [] := va_S.rf
  have hl := lv_entry ([.ref h0, .int x]) (n := 3) (Nat.le_of_ble_eq_true rfl)
  rw [lg_entry_eq]
  generalize (lg_sl ([.ref h0, .int x]) ++ List.replicate (3 - (lg_sl ([.ref h0, .int x])).length) Slot.unset).toArray = ls at hl ⊢
  have hl : lv_has ls 3 [(0, .ref h0), (1, .int x)] := hl
  have hj73 : ∀ (x2_73 : Int32) (y0_73 : Int32) (_ : iv 0 82 x2_73) (_ : iv 0 79 x) (_ : iv 0 1 y0_73) (H : Heap) (locs : List Loc) (ls : Array Slot), va_P (dC, dI) vwCl (mW h0 ad cid sg gm lg) H → va_D A (mW h0 ad cid sg gm lg) → va_S A s.heap H locs → lv_has ls 3 [(2, .int x2_73), (0, .ref h0), (1, .int x)] → W p l e (headSpec wm_X13_isGoodHolder ({ frames := 2, cells := 0, slots := 0, locals := 49 })).room s m ([.ref h0, .int x] : List Value).toArray below meth c H locs 0 0 (MQ below (va_Qi (fun r v => (iv 0 1 r) ∧ v = (sg, gm, lg)) (MB dC dI h0 ad cid A) A) ([.ref h0, .int x] : List Value).toArray s 0 0 A) (F0 m 73 ls [.int y0_73]) := by
    intro x2_73 y0_73 hx2_73 hsx1_73 hy0_73 H locs ls hP hD hS hl
    exact W.zret (v := y0_73) hx hb hr (iv_nb hy0_73) (fun t ht hW => ⟨⟨y0_73, (sg, gm, lg), rfl, ⟨hy0_73, rfl⟩, by rw [ht]; exact hP, va_K.moved hW.alike hK, hD⟩, hS.F ht⟩) hS.2.2 dX13_isGoodHolder_73
  have hj72 : ∀ (x2_72 : Int32) (_ : iv 0 82 x2_72) (_ : iv 0 79 x) (H : Heap) (locs : List Loc) (ls : Array Slot), va_P (dC, dI) vwCl (mW h0 ad cid sg gm lg) H → va_D A (mW h0 ad cid sg gm lg) → va_S A s.heap H locs → lv_has ls 3 [(2, .int x2_72), (0, .ref h0), (1, .int x)] → W p l e (headSpec wm_X13_isGoodHolder ({ frames := 2, cells := 0, slots := 0, locals := 49 })).room s m ([.ref h0, .int x] : List Value).toArray below meth c H locs 0 0 (MQ below (va_Qi (fun r v => (iv 0 1 r) ∧ v = (sg, gm, lg)) (MB dC dI h0 ad cid A) A) ([.ref h0, .int x] : List Value).toArray s 0 0 A) (F0 m 72 ls []) := by
    intro x2_72 hx2_72 hsx1_72 H locs ls hP hD hS hl
    refine lv_iconst (v := 0) hx hb dX13_isGoodHolder_72 (by decide) ?_
    exact hj73 x2_72 0 hx2_72 hsx1_72 (iv_w (iv_k (by decide) : iv 0 0 0) (by decide)) _ _ _ hP hD hS (lv_sub hl [0, 1, 2] rfl)
  have hj68 : ∀ (x2_68 : Int32) (_ : iv 1 1 x2_68) (_ : iv 0 79 x) (H : Heap) (locs : List Loc) (ls : Array Slot), va_P (dC, dI) vwCl (mW h0 ad cid sg gm lg) H → va_D A (mW h0 ad cid sg gm lg) → va_S A s.heap H locs → lv_has ls 3 [(2, .int x2_68), (0, .ref h0), (1, .int x)] → W p l e (headSpec wm_X13_isGoodHolder ({ frames := 2, cells := 0, slots := 0, locals := 49 })).room s m ([.ref h0, .int x] : List Value).toArray below meth c H locs 0 0 (MQ below (va_Qi (fun r v => (iv 0 1 r) ∧ v = (sg, gm, lg)) (MB dC dI h0 ad cid A) A) ([.ref h0, .int x] : List Value).toArray s 0 0 A) (F0 m 68 ls []) := by
    intro x2_68 hx2_68 hsx1_68 H locs ls hP hD hS hl
    refine lv_iconst (v := 1) hx hb dX13_isGoodHolder_68 (by decide) ?_
    refine lv_goto (tgt := 73) hx hb dX13_isGoodHolder_69 (by decide) ?_
    exact hj73 x2_68 1 (iv_w hx2_68 (by decide)) hsx1_68 (iv_w (iv_k (by decide) : iv 1 1 1) (by decide)) _ _ _ hP hD hS (lv_sub hl [0, 1, 2] rfl)
  have hj32 : ∀ (y0_32 : Int32) (y1_32 : Int32) (_ : iv 0 79 x) (_ : iv 0 1 y0_32) (_ : iv 0 1 y1_32) (H : Heap) (locs : List Loc) (ls : Array Slot), va_P (dC, dI) vwCl (mW h0 ad cid sg gm lg) H → va_D A (mW h0 ad cid sg gm lg) → va_S A s.heap H locs → lv_has ls 3 [(0, .ref h0), (1, .int x)] → W p l e (headSpec wm_X13_isGoodHolder ({ frames := 2, cells := 0, slots := 0, locals := 49 })).room s m ([.ref h0, .int x] : List Value).toArray below meth c H locs 0 0 (MQ below (va_Qi (fun r v => (iv 0 1 r) ∧ v = (sg, gm, lg)) (MB dC dI h0 ad cid A) A) ([.ref h0, .int x] : List Value).toArray s 0 0 A) (F0 m 32 ls [.int y0_32, .int y1_32]) := by
    intro y0_32 y1_32 hsx1_32 hy0_32 hy1_32 H locs ls hP hD hS hl
    refine lv_iadd hx hb dX13_isGoodHolder_32 ?_
    refine lv_topi (fun z_1 ez_1 => ?_)
    have hz_1 : iv 0 2 z_1 := iv_of ez_1 (iv_add hy1_32 hy0_32 (by decide))
    have tz_1 : z_1.toInt = (y1_32 : Int32).toInt + (y0_32 : Int32).toInt := by rw [ez_1]; exact iv_addE hy1_32 hy0_32 (by decide)
    refine lv_aload_n hx hb dX13_isGoodHolder_33 rfl (lv_at hl 0 rfl) ?_
    refine mr_get (v := .ref (ad 29)) hx hb htb inX13 hown hK hP 29 (by decide) (htb _ kw_185) rfl dX13_isGoodHolder_34 ?_
    refine lv_iload_n hx hb dX13_isGoodHolder_37 rfl (lv_at hl 1 rfl) ?_
    refine mr_iald hx hb hK hP 22 (k := 29) rfl rfl rfl (show vp_in x 80 from (iv_in hsx1_32 (by decide))) dX13_isGoodHolder_38 ?_
    refine lv_topi (fun z_2 ez_2 => ?_)
    have hz_2 : iv 0 80 z_2 := iv_of ez_2 (MI_a hI 29 hsx1_32 (by decide))
    refine lv_iadd hx hb dX13_isGoodHolder_39 ?_
    refine lv_topi (fun z_3 ez_3 => ?_)
    have hz_3 : iv 0 82 z_3 := iv_of ez_3 (iv_add hz_1 hz_2 (by decide))
    have tz_3 : z_3.toInt = (z_1 : Int32).toInt + (z_2 : Int32).toInt := by rw [ez_3]; exact iv_addE hz_1 hz_2 (by decide)
    refine lv_istore_n (lv' := [(2, .int z_3), (0, .ref h0), (1, .int x)]) hx hb dX13_isGoodHolder_40 rfl hl (by decide) rfl (fun ls hl => ?_)
    refine lv_iload_n hx hb dX13_isGoodHolder_41 rfl (lv_at hl 0 rfl) ?_
    refine lv_iconst (v := 1) hx hb dX13_isGoodHolder_42 (by decide) ?_
    refine lv_icmp_ne (tgt := 72) hx hb dX13_isGoodHolder_43 (by decide) (fun c_4 => ?_) (fun c_4 => ?_)
    · have d_5 : ¬ (z_3 : Int32).toInt = 1 := lv_neT c_4 rfl
      exact hj72 z_3 hz_3 hsx1_32 _ _ _ hP hD hS (lv_sub hl [0, 1, 2] rfl)
    · have h_6 : iv 1 1 z_3 := iv_eq c_4 hz_3 (iv_k (by decide) : iv 1 1 1) (by decide)
      refine lv_aload_n hx hb dX13_isGoodHolder_46 rfl (lv_at hl 1 rfl) ?_
      refine lv_iload_n hx hb dX13_isGoodHolder_47 rfl (lv_at hl 2 rfl) ?_
      refine lv_ldc2 (own := RX13) (v := 7497062) hx hb hown (htb _ kw_141) dX13_isGoodHolder_48 ?_
      refine mr_calli (rest := []) ⟨hx, hb, hml, hown, htb⟩ (a_has l dC dI h0 ad cid sg gm lg x 7497062 hI hsx1_32) (cwV 2 htb (gd_V kw_916 kw_917 kw_918 kw_5 kw_1543) rfl rfl rfl (by decide +kernel) ⟨Nat.le_of_ble_eq_true rfl, Nat.le_of_ble_eq_true rfl⟩) rfl hl.1 rfl (Nat.le_of_ble_eq_true rfl) dX13_isGoodHolder_51 ⟨Nat.zero_le _, Nat.zero_le _⟩ hK hP hD hS hA (fun r_7 u_8 H locs hw hP hD hS => ?_)
      obtain ⟨hr_7, rfl⟩ := hw
      have hP : va_P (dC, dI) vwCl (mW h0 ad cid sg gm lg) H := hP
      have hD : va_D A (mW h0 ad cid sg gm lg) := hD
      refine lv_if_eq (tgt := 68) hx hb dX13_isGoodHolder_54 (by decide) (fun c_9 => ?_) (fun c_9 => ?_)
      · have h_10 : iv 0 0 r_7 := iv_eq c_9 hr_7 (iv_k (by decide) : iv 0 0 0) (by decide)
        exact hj68 z_3 h_6 hsx1_32 _ _ _ hP hD hS (lv_sub hl [0, 1, 2] rfl)
      · have h_11 : iv 1 1 r_7 := iv_neL c_9 hr_7 (by decide)
        refine lv_aload_n hx hb dX13_isGoodHolder_57 rfl (lv_at hl 1 rfl) ?_
        refine lv_iload_n hx hb dX13_isGoodHolder_58 rfl (lv_at hl 2 rfl) ?_
        refine lv_ldc2 (own := RX13) (v := 7497062) hx hb hown (htb _ kw_141) dX13_isGoodHolder_59 ?_
        refine mr_calli (rest := []) ⟨hx, hb, hml, hown, htb⟩ (a_isWord l dC dI h0 ad cid sg gm lg x 7497062 hI hsx1_32) (cwV 2 htb (gd_V kw_910 kw_911 kw_912 kw_5 kw_1541) rfl rfl rfl (by decide +kernel) ⟨Nat.le_of_ble_eq_true rfl, Nat.le_of_ble_eq_true rfl⟩) rfl hl.1 rfl (Nat.le_of_ble_eq_true rfl) dX13_isGoodHolder_62 ⟨Nat.zero_le _, Nat.zero_le _⟩ hK hP hD hS hA (fun r_12 u_13 H locs hw hP hD hS => ?_)
        obtain ⟨hr_12, rfl⟩ := hw
        have hP : va_P (dC, dI) vwCl (mW h0 ad cid sg gm lg) H := hP
        have hD : va_D A (mW h0 ad cid sg gm lg) := hD
        refine lv_if_eq (tgt := 72) hx hb dX13_isGoodHolder_65 (by decide) (fun c_14 => ?_) (fun c_14 => ?_)
        · have h_15 : iv 0 0 r_12 := iv_eq c_14 hr_12 (iv_k (by decide) : iv 0 0 0) (by decide)
          exact hj72 z_3 (iv_w h_6 (by decide)) hsx1_32 _ _ _ hP hD hS (lv_sub hl [0, 1, 2] rfl)
        · have h_16 : iv 1 1 r_12 := iv_neL c_14 hr_12 (by decide)
          exact hj68 z_3 h_6 hsx1_32 _ _ _ hP hD hS (lv_sub hl [0, 1, 2] rfl)
  have hj16 : ∀ (y0_16 : Int32) (_ : iv 0 79 x) (_ : iv 0 1 y0_16) (H : Heap) (locs : List Loc) (ls : Array Slot), va_P (dC, dI) vwCl (mW h0 ad cid sg gm lg) H → va_D A (mW h0 ad cid sg gm lg) → va_S A s.heap H locs → lv_has ls 3 [(0, .ref h0), (1, .int x)] → W p l e (headSpec wm_X13_isGoodHolder ({ frames := 2, cells := 0, slots := 0, locals := 49 })).room s m ([.ref h0, .int x] : List Value).toArray below meth c H locs 0 0 (MQ below (va_Qi (fun r v => (iv 0 1 r) ∧ v = (sg, gm, lg)) (MB dC dI h0 ad cid A) A) ([.ref h0, .int x] : List Value).toArray s 0 0 A) (F0 m 16 ls [.int y0_16]) := by
    intro y0_16 hsx1_16 hy0_16 H locs ls hP hD hS hl
    refine lv_aload_n hx hb dX13_isGoodHolder_16 rfl (lv_at hl 0 rfl) ?_
    refine lv_iload_n hx hb dX13_isGoodHolder_17 rfl (lv_at hl 1 rfl) ?_
    refine lv_ldc2 (own := RX13) (v := 7497062) hx hb hown (htb _ kw_141) dX13_isGoodHolder_18 ?_
    refine mr_calli (rest := [.int y0_16]) ⟨hx, hb, hml, hown, htb⟩ (a_has l dC dI h0 ad cid sg gm lg x 7497062 hI hsx1_16) (cwV 2 htb (gd_V kw_916 kw_917 kw_918 kw_5 kw_1543) rfl rfl rfl (by decide +kernel) ⟨Nat.le_of_ble_eq_true rfl, Nat.le_of_ble_eq_true rfl⟩) rfl hl.1 rfl (Nat.le_of_ble_eq_true rfl) dX13_isGoodHolder_21 ⟨Nat.zero_le _, Nat.zero_le _⟩ hK hP hD hS hA (fun r_17 u_18 H locs hw hP hD hS => ?_)
    obtain ⟨hr_17, rfl⟩ := hw
    have hP : va_P (dC, dI) vwCl (mW h0 ad cid sg gm lg) H := hP
    have hD : va_D A (mW h0 ad cid sg gm lg) := hD
    refine lv_if_eq (tgt := 31) hx hb dX13_isGoodHolder_24 (by decide) (fun c_19 => ?_) (fun c_19 => ?_)
    · have h_20 : iv 0 0 r_17 := iv_eq c_19 hr_17 (iv_k (by decide) : iv 0 0 0) (by decide)
      refine lv_iconst (v := 0) hx hb dX13_isGoodHolder_31 (by decide) ?_
      exact hj32 0 y0_16 hsx1_16 (iv_w (iv_k (by decide) : iv 0 0 0) (by decide)) hy0_16 _ _ _ hP hD hS (lv_sub hl [0, 1] rfl)
    · have h_21 : iv 1 1 r_17 := iv_neL c_19 hr_17 (by decide)
      refine lv_iconst (v := 1) hx hb dX13_isGoodHolder_27 (by decide) ?_
      refine lv_goto (tgt := 32) hx hb dX13_isGoodHolder_28 (by decide) ?_
      exact hj32 1 y0_16 hsx1_16 (iv_w (iv_k (by decide) : iv 1 1 1) (by decide)) hy0_16 _ _ _ hP hD hS (lv_sub hl [0, 1] rfl)
  refine lv_aload_n hx hb dX13_isGoodHolder_0 rfl (lv_at hl 0 rfl) ?_
  refine lv_iload_n hx hb dX13_isGoodHolder_1 rfl (lv_at hl 1 rfl) ?_
  refine lv_ldc2 (own := RX13) (v := 508440638821) hx hb hown (htb _ kw_140) dX13_isGoodHolder_2 ?_
  refine mr_calli (rest := []) ⟨hx, hb, hml, hown, htb⟩ (a_has l dC dI h0 ad cid sg gm lg x 508440638821 hI hvx) (cwV 2 htb (gd_V kw_916 kw_917 kw_918 kw_5 kw_1543) rfl rfl rfl (by decide +kernel) ⟨Nat.le_of_ble_eq_true rfl, Nat.le_of_ble_eq_true rfl⟩) rfl hl.1 rfl (Nat.le_of_ble_eq_true rfl) dX13_isGoodHolder_5 ⟨Nat.zero_le _, Nat.zero_le _⟩ hK hP hD hS hA (fun r_22 u_23 H locs hw hP hD hS => ?_)
  obtain ⟨hr_22, rfl⟩ := hw
  have hP : va_P (dC, dI) vwCl (mW h0 ad cid sg gm lg) H := hP
  have hD : va_D A (mW h0 ad cid sg gm lg) := hD
  refine lv_if_eq (tgt := 15) hx hb dX13_isGoodHolder_8 (by decide) (fun c_24 => ?_) (fun c_24 => ?_)
  · have h_25 : iv 0 0 r_22 := iv_eq c_24 hr_22 (iv_k (by decide) : iv 0 0 0) (by decide)
    refine lv_iconst (v := 0) hx hb dX13_isGoodHolder_15 (by decide) ?_
    exact hj16 0 hvx (iv_w (iv_k (by decide) : iv 0 0 0) (by decide)) _ _ _ hP hD hS (lv_sub hl [0, 1] rfl)
  · have h_26 : iv 1 1 r_22 := iv_neL c_24 hr_22 (by decide)
    refine lv_iconst (v := 1) hx hb dX13_isGoodHolder_11 (by decide) ?_
    refine lv_goto (tgt := 16) hx hb dX13_isGoodHolder_12 (by decide) ?_
    exact hj16 1 hvx (iv_w (iv_k (by decide) : iv 1 1 1) (by decide)) _ _ _ hP hD hS (lv_sub hl [0, 1] rfl)
