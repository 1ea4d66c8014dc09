/-- the reference's tables of words -/
def WRD7 (l0 l1 : Nat → Int64) : Prop := (l0 0 = 422607679091 ∧ l0 1 = 418430673267 ∧ l0 2 = 1650811246 ∧ l0 3 = 6386279 ∧ l0 4 = 7562612 ∧ l0 5 = 1818850164 ∧ l0 6 = 508440638821 ∧ l0 7 = 7497062 ∧ l0 8 = 1853189228 ∧ l0 9 = 119225866483056) ∧ (l1 0 = 7955827 ∧ l1 1 = 28271 ∧ l1 2 = 7302757 ∧ l1 3 = 1835101817 ∧ l1 4 = 6909556 ∧ l1 5 = 500136506472 ∧ l1 6 = 1667785074 ∧ l1 7 = 1952807028 ∧ l1 8 = 7499639 ∧ l1 9 = 1953658213 ∧ l1 10 = 439721161573)
theorem WRD7_k {l0 l1 m0 m1 : Nat → Int64} (h : WRD7 l0 l1) (a : m0 = l0) (b : m1 = l1) : WRD7 m0 m1 := by rw [a, b]; exact h
def wd7 (k : Nat) : Int := match k with | 0 => 7955827 | 1 => 28271 | 2 => 7302757 | 3 => 1835101817 | 4 => 6909556 | 5 => 500136506472 | 6 => 1667785074 | 7 => 1952807028 | 8 => 7499639 | 9 => 1953658213 | _ => 439721161573
theorem WRD7_1 {l0 l1 : Nat → Int64} (h : WRD7 l0 l1) {k : Nat} (hk : k < 11) : (l1 k).toInt = wd7 k := by
  obtain ⟨_, b0, b1, b2, b3, b4, b5, b6, b7, b8, b9, b10⟩ := h
  rcases (show k = 0 ∨ k = 1 ∨ k = 2 ∨ k = 3 ∨ k = 4 ∨ k = 5 ∨ k = 6 ∨ k = 7 ∨ k = 8 ∨ k = 9 ∨ k = 10 by omega) with rfl | rfl | rfl | rfl | rfl | rfl | rfl | rfl | rfl | rfl | rfl
  · rw [b0]; decide
  · rw [b1]; decide
  · rw [b2]; decide
  · rw [b3]; decide
  · rw [b4]; decide
  · rw [b5]; decide
  · rw [b6]; decide
  · rw [b7]; decide
  · rw [b8]; decide
  · rw [b9]; decide
  · rw [b10]; decide

set_option maxHeartbeats 4000000 in
set_option maxRecDepth 100000 in
theorem f_isOneLetter2 (l : Launch) (dC : Nat → ClassId) (dI : Nat → Nat → Nat) (h0 : Nat) (ad : Nat → Nat) (cid : Nat → ClassId) (sg : Nat → Int32) (gm : Nat → Nat → Int32) (lg : Nat → Nat → Int64) (x : Int32) (nn : Int64) (hI : MI sg gm) (hvx : iv 0 79 x) : MMi l dC dI yX13_isOneLetter wm_X13_isOneLetter ({ frames := 2, cells := 0, slots := 0, locals := 51 }) h0 ad cid [.int x, .long nn] sg gm lg (fun r v => (iv 0 1 r) ∧ ((r.toInt = 1 ∧ ((mIsW gm lg x.toNatClampNeg nn).toInt = 1 ∧ (mWord gm lg x.toNatClampNeg nn).toInt < 256)) ∨ (r.toInt = 0 ∧ ¬ ((mIsW gm lg x.toNatClampNeg nn).toInt = 1 ∧ (mWord gm lg x.toNatClampNeg nn).toInt < 256))) ∧ v = (sg, gm, lg)) := by
  intro sz
  refine Met.ofW (cc := cX13_isOneLetter) (maxL := 4) (ret := (some .boolean)) (by decide) rfl ?_
  intro p e s m args below meth c s₁ B hml hv
  obtain ⟨rfl, hsz, hP, hK, hD0⟩ := hv
  have hx := B.exec
  have hb := B.bytes
  have hr := B.returns
  have hts := atoms_spec (ws := wm_X13_isOneLetter) B.pre
  have htb := fun (w : Cond) (h : w ∈ tb) => hts w (List.mem_cons_of_mem _ h)
  have hown : s.vm.findClass RX13 = some m.cls := findClass_of_methodNamed B.named
  have hlocks := B.notSynchronized
  subst hsz
  have hD := hD0.self (sz := s.heap.size)
  generalize hAe : va_A (mW h0 ad cid sg gm lg) s.heap.size = A at hD ⊢
  have hA : ∀ q : Nat, s.heap.size ≤ q → A q := fun q h => by rw [← hAe]; exact Or.inr h
  have hS : va_S A s.heap s.heap [] := va_S.rf
  have hl := lv_entry ([.ref h0, .int x, .long nn]) (n := 4) (Nat.le_of_ble_eq_true rfl)
  rw [lg_entry_eq]
  generalize (lg_sl ([.ref h0, .int x, .long nn]) ++ List.replicate (4 - (lg_sl ([.ref h0, .int x, .long nn])).length) Slot.unset).toArray = ls at hl ⊢
  have hl : lv_has ls 4 [(0, .ref h0), (1, .int x), (2, .long nn)] := hl
  have hj27 : ∀ (y0_27 : Int32) (_ : iv 0 79 x) (_ : iv 0 1 y0_27) (_ : (y0_27.toInt = 1 ∧ ((mIsW gm lg x.toNatClampNeg nn).toInt = 1 ∧ (mWord gm lg x.toNatClampNeg nn).toInt < 256)) ∨ (y0_27.toInt = 0 ∧ ¬ ((mIsW gm lg x.toNatClampNeg nn).toInt = 1 ∧ (mWord gm lg x.toNatClampNeg nn).toInt < 256))) (H : Heap) (locs : List Loc) (ls : Array Slot), va_P (dC, dI) vwCl (mW h0 ad cid sg gm lg) H → va_D A (mW h0 ad cid sg gm lg) → va_S A s.heap H locs → lv_has ls 4 [(0, .ref h0), (1, .int x), (2, .long nn)] → W p l e (headSpec wm_X13_isOneLetter ({ frames := 2, cells := 0, slots := 0, locals := 51 })).room s m ([.ref h0, .int x, .long nn] : List Value).toArray below meth c H locs 0 0 (MQ below (va_Qi (fun r v => (iv 0 1 r) ∧ ((r.toInt = 1 ∧ ((mIsW gm lg x.toNatClampNeg nn).toInt = 1 ∧ (mWord gm lg x.toNatClampNeg nn).toInt < 256)) ∨ (r.toInt = 0 ∧ ¬ ((mIsW gm lg x.toNatClampNeg nn).toInt = 1 ∧ (mWord gm lg x.toNatClampNeg nn).toInt < 256))) ∧ v = (sg, gm, lg)) (MB dC dI h0 ad cid A) A) ([.ref h0, .int x, .long nn] : List Value).toArray s 0 0 A) (F0 m 27 ls [.int y0_27]) := by
    intro y0_27 hsx1_27 hy0_27 u27 H locs ls hP hD hS hl
    exact W.zret (v := y0_27) hx hb hr (iv_nb hy0_27) (fun t ht hW => ⟨⟨y0_27, (sg, gm, lg), rfl, ⟨hy0_27, (u27), rfl⟩, by rw [ht]; exact hP, va_K.moved hW.alike hK, hD⟩, hS.F ht⟩) hS.2.2 dX13_isOneLetter_27
  have hj26 : ∀ (_ : iv 0 79 x) (_ : ¬ ((mIsW gm lg x.toNatClampNeg nn).toInt = 1 ∧ (mWord gm lg x.toNatClampNeg nn).toInt < 256)) (H : Heap) (locs : List Loc) (ls : Array Slot), va_P (dC, dI) vwCl (mW h0 ad cid sg gm lg) H → va_D A (mW h0 ad cid sg gm lg) → va_S A s.heap H locs → lv_has ls 4 [(0, .ref h0), (1, .int x), (2, .long nn)] → W p l e (headSpec wm_X13_isOneLetter ({ frames := 2, cells := 0, slots := 0, locals := 51 })).room s m ([.ref h0, .int x, .long nn] : List Value).toArray below meth c H locs 0 0 (MQ below (va_Qi (fun r v => (iv 0 1 r) ∧ ((r.toInt = 1 ∧ ((mIsW gm lg x.toNatClampNeg nn).toInt = 1 ∧ (mWord gm lg x.toNatClampNeg nn).toInt < 256)) ∨ (r.toInt = 0 ∧ ¬ ((mIsW gm lg x.toNatClampNeg nn).toInt = 1 ∧ (mWord gm lg x.toNatClampNeg nn).toInt < 256))) ∧ v = (sg, gm, lg)) (MB dC dI h0 ad cid A) A) ([.ref h0, .int x, .long nn] : List Value).toArray s 0 0 A) (F0 m 26 ls []) := by
    intro  hsx1_26 u26 H locs ls hP hD hS hl
    refine lv_iconst (v := 0) hx hb dX13_isOneLetter_26 (by decide) ?_
    exact hj27 0 hsx1_26 (iv_w (iv_k (by decide) : iv 0 0 0) (by decide)) (Or.inr ⟨rfl, u26⟩) _ _ _ hP hD hS (lv_sub hl [0, 1, 2] rfl)
  refine lv_aload_n hx hb dX13_isOneLetter_0 rfl (lv_at hl 0 rfl) ?_
  refine lv_iload_n hx hb dX13_isOneLetter_1 rfl (lv_at hl 1 rfl) ?_
  refine lv_lload_n hx hb dX13_isOneLetter_2 rfl (lv_at hl 2 rfl) ?_
  refine mr_calli (rest := []) ⟨hx, hb, hml, hown, htb⟩ (f_isWord l dC dI h0 ad cid sg gm lg x nn hI hvx) (cwV 2 htb (gd_V kw_910 kw_911 kw_912 kw_5 kw_1541) rfl rfl rfl (by decide +kernel) ⟨Nat.le_of_ble_eq_true rfl, Nat.le_of_ble_eq_true rfl⟩) rfl hl.1 rfl (Nat.le_of_ble_eq_true rfl) dX13_isOneLetter_3 ⟨Nat.zero_le _, Nat.zero_le _⟩ hK hP hD hS hA (fun r_1 u_2 H locs hw hP hD hS => ?_)
  obtain ⟨hr_1, fI_r_1, rfl⟩ := hw
  have hP : va_P (dC, dI) vwCl (mW h0 ad cid sg gm lg) H := hP
  have hD : va_D A (mW h0 ad cid sg gm lg) := hD
  refine lv_if_eq (tgt := 26) hx hb dX13_isOneLetter_6 (by decide) (fun c_3 => ?_) (fun c_3 => ?_)
  · have h_4 : iv 0 0 r_1 := iv_eq c_3 hr_1 (iv_k (by decide) : iv 0 0 0) (by decide)
    exact hj26 hvx (by have := i32_0; have := i32_1; have := i32_2; have := i32_m1; have := (hvx).1; have := (hvx).2; have := (h_4).1; have := (h_4).2; have := congrArg Int32.toInt fI_r_1; omega) _ _ _ hP hD hS (lv_sub hl [0, 1, 2] rfl)
  · have h_5 : iv 1 1 r_1 := iv_neL c_3 hr_1 (by decide)
    refine lv_aload_n hx hb dX13_isOneLetter_9 rfl (lv_at hl 0 rfl) ?_
    refine lv_iload_n hx hb dX13_isOneLetter_10 rfl (lv_at hl 1 rfl) ?_
    refine lv_lload_n hx hb dX13_isOneLetter_11 rfl (lv_at hl 2 rfl) ?_
    refine mr_calll (rest := []) ⟨hx, hb, hml, hown, htb⟩ (f_word l dC dI h0 ad cid sg gm lg x nn hI hvx) (cwV 2 htb (gd_V kw_923 kw_924 kw_925 kw_5 kw_1545) rfl rfl rfl (by decide +kernel) ⟨Nat.le_of_ble_eq_true rfl, Nat.le_of_ble_eq_true rfl⟩) rfl hl.1 rfl (Nat.le_of_ble_eq_true rfl) dX13_isOneLetter_12 ⟨Nat.zero_le _, Nat.zero_le _⟩ hK hP hD hS hA (fun r_6 u_7 H locs hw hP hD hS => ?_)
    obtain ⟨fW_r_6, rfl⟩ := hw
    have hP : va_P (dC, dI) vwCl (mW h0 ad cid sg gm lg) H := hP
    have hD : va_D A (mW h0 ad cid sg gm lg) := hD
    refine lv_ldc2 (own := RX13) (v := 256) hx hb hown (htb _ kw_922) dX13_isOneLetter_15 ?_
    refine W.lcmp hx hb dX13_isOneLetter_18 ?_
    refine lv_topi (fun z_8 ez_8 => ?_)
    have hz_8 : iv (-1) 1 z_8 := iv_of ez_8 (iv_cmp _ _)
    have hl_z_8 := lg_tr7 ez_8
    rw [show (256 : Int64).toInt = 256 from by decide] at hl_z_8
    refine lv_if_ge (tgt := 26) hx hb dX13_isOneLetter_19 (by decide) (fun c_9 => ?_) (fun c_9 => ?_)
    · have h_10 : iv 0 1 z_8 := iv_leR c_9 (iv_k (by decide) : iv 0 0 0) hz_8 (by decide)
      exact hj26 hvx (by have := i32_0; have := i32_1; have := i32_2; have := i32_m1; have := (hvx).1; have := (hvx).2; have := (h_5).1; have := (h_5).2; have := (h_10).1; have := (h_10).2; have := congrArg Int32.toInt fI_r_1; have := congrArg Int64.toInt fW_r_6; omega) _ _ _ hP hD hS (lv_sub hl [0, 1, 2] rfl)
    · have h_11 : iv (-1) (-1) z_8 := iv_ltL (i32_lt c_9) hz_8 (iv_k (by decide) : iv 0 0 0) (by decide)
      refine lv_iconst (v := 1) hx hb dX13_isOneLetter_22 (by decide) ?_
      refine lv_goto (tgt := 27) hx hb dX13_isOneLetter_23 (by decide) ?_
      exact hj27 1 hvx (iv_w (iv_k (by decide) : iv 1 1 1) (by decide)) (Or.inl ⟨rfl, by have := i32_0; have := i32_1; have := i32_2; have := i32_m1; have := (hvx).1; have := (hvx).2; have := (h_5).1; have := (h_5).2; have := (h_11).1; have := (h_11).2; have := congrArg Int32.toInt fI_r_1; have := congrArg Int64.toInt fW_r_6; omega⟩) _ _ _ hP hD hS (lv_sub hl [0, 1, 2] rfl)

set_option maxHeartbeats 4000000 in
set_option maxRecDepth 100000 in
theorem f_isOneOf2 (l : Launch) (dC : Nat → ClassId) (dI : Nat → Nat → Nat) (h0 : Nat) (ad : Nat → Nat) (cid : Nat → ClassId) (sg : Nat → Int32) (gm : Nat → Nat → Int32) (lg : Nat → Nat → Int64) (x : Int32) (nn : Int64) (a : Int32) (b : Int32) (hI : MI sg gm) (hvx : iv 0 79 x) (hva : iv 0 10 a) (hvb : iv 0 10 b) (hwd : WRD7 (lg 0) (lg 1)) : MMi l dC dI yX13_isOneOf wm_X13_isOneOf ({ frames := 2, cells := 0, slots := 0, locals := 51 }) h0 ad cid [.int x, .long nn, .int a, .int b] sg gm lg (fun r v => (iv 0 1 r) ∧ ((r.toInt = 1 ∧ ((mHas gm lg x.toNatClampNeg nn).toInt = 0 ∨ (mWord gm lg x.toNatClampNeg nn).toInt = wd7 a.toInt.toNat ∨ (mWord gm lg x.toNatClampNeg nn).toInt = wd7 b.toInt.toNat)) ∨ (r.toInt = 0 ∧ ¬ ((mHas gm lg x.toNatClampNeg nn).toInt = 0 ∨ (mWord gm lg x.toNatClampNeg nn).toInt = wd7 a.toInt.toNat ∨ (mWord gm lg x.toNatClampNeg nn).toInt = wd7 b.toInt.toNat))) ∧ v = (sg, gm, lg)) := by
  intro sz
  refine Met.ofW (cc := cX13_isOneOf) (maxL := 6) (ret := (some .boolean)) (by decide) rfl ?_
  intro p e s m args below meth c s₁ B hml hv
  obtain ⟨rfl, hsz, hP, hK, hD0⟩ := hv
  have hx := B.exec
  have hb := B.bytes
  have hr := B.returns
  have hts := atoms_spec (ws := wm_X13_isOneOf) B.pre
  have htb := fun (w : Cond) (h : w ∈ tb) => hts w (List.mem_cons_of_mem _ h)
  have hown : s.vm.findClass RX13 = some m.cls := findClass_of_methodNamed B.named
  have hlocks := B.notSynchronized
  subst hsz
  have hD := hD0.self (sz := s.heap.size)
  generalize hAe : va_A (mW h0 ad cid sg gm lg) s.heap.size = A at hD ⊢
  have hA : ∀ q : Nat, s.heap.size ≤ q → A q := fun q h => by rw [← hAe]; exact Or.inr h
  have hS : va_S A s.heap s.heap [] := va_S.rf
  have hl := lv_entry ([.ref h0, .int x, .long nn, .int a, .int b]) (n := 6) (Nat.le_of_ble_eq_true rfl)
  rw [lg_entry_eq]
  generalize (lg_sl ([.ref h0, .int x, .long nn, .int a, .int b]) ++ List.replicate (6 - (lg_sl ([.ref h0, .int x, .long nn, .int a, .int b])).length) Slot.unset).toArray = ls at hl ⊢
  have hl : lv_has ls 6 [(0, .ref h0), (1, .int x), (2, .long nn), (4, .int a), (5, .int b)] := hl
  have hj48 : ∀ (y0_48 : Int32) (_ : iv 0 79 x) (_ : iv 0 10 a) (_ : iv 0 10 b) (_ : iv 0 1 y0_48) (_ : (y0_48.toInt = 1 ∧ ((mHas gm lg x.toNatClampNeg nn).toInt = 0 ∨ (mWord gm lg x.toNatClampNeg nn).toInt = wd7 a.toInt.toNat ∨ (mWord gm lg x.toNatClampNeg nn).toInt = wd7 b.toInt.toNat)) ∨ (y0_48.toInt = 0 ∧ ¬ ((mHas gm lg x.toNatClampNeg nn).toInt = 0 ∨ (mWord gm lg x.toNatClampNeg nn).toInt = wd7 a.toInt.toNat ∨ (mWord gm lg x.toNatClampNeg nn).toInt = wd7 b.toInt.toNat))) (H : Heap) (locs : List Loc) (ls : Array Slot), va_P (dC, dI) vwCl (mW h0 ad cid sg gm lg) H → va_D A (mW h0 ad cid sg gm lg) → va_S A s.heap H locs → lv_has ls 6 [(0, .ref h0), (1, .int x), (2, .long nn), (4, .int a), (5, .int b)] → W p l e (headSpec wm_X13_isOneOf ({ frames := 2, cells := 0, slots := 0, locals := 51 })).room s m ([.ref h0, .int x, .long nn, .int a, .int b] : List Value).toArray below meth c H locs 0 0 (MQ below (va_Qi (fun r v => (iv 0 1 r) ∧ ((r.toInt = 1 ∧ ((mHas gm lg x.toNatClampNeg nn).toInt = 0 ∨ (mWord gm lg x.toNatClampNeg nn).toInt = wd7 a.toInt.toNat ∨ (mWord gm lg x.toNatClampNeg nn).toInt = wd7 b.toInt.toNat)) ∨ (r.toInt = 0 ∧ ¬ ((mHas gm lg x.toNatClampNeg nn).toInt = 0 ∨ (mWord gm lg x.toNatClampNeg nn).toInt = wd7 a.toInt.toNat ∨ (mWord gm lg x.toNatClampNeg nn).toInt = wd7 b.toInt.toNat))) ∧ v = (sg, gm, lg)) (MB dC dI h0 ad cid A) A) ([.ref h0, .int x, .long nn, .int a, .int b] : List Value).toArray s 0 0 A) (F0 m 48 ls [.int y0_48]) := by
    intro y0_48 hsx1_48 hsx4_48 hsx5_48 hy0_48 u48 H locs ls hP hD hS hl
    exact W.zret (v := y0_48) hx hb hr (iv_nb hy0_48) (fun t ht hW => ⟨⟨y0_48, (sg, gm, lg), rfl, ⟨hy0_48, (u48), rfl⟩, by rw [ht]; exact hP, va_K.moved hW.alike hK, hD⟩, hS.F ht⟩) hS.2.2 dX13_isOneOf_48
  have hj43 : ∀ (_ : iv 0 79 x) (_ : iv 0 10 a) (_ : iv 0 10 b) (_ : (mHas gm lg x.toNatClampNeg nn).toInt = 0 ∨ (mWord gm lg x.toNatClampNeg nn).toInt = wd7 a.toInt.toNat ∨ (mWord gm lg x.toNatClampNeg nn).toInt = wd7 b.toInt.toNat) (H : Heap) (locs : List Loc) (ls : Array Slot), va_P (dC, dI) vwCl (mW h0 ad cid sg gm lg) H → va_D A (mW h0 ad cid sg gm lg) → va_S A s.heap H locs → lv_has ls 6 [(0, .ref h0), (1, .int x), (2, .long nn), (4, .int a), (5, .int b)] → W p l e (headSpec wm_X13_isOneOf ({ frames := 2, cells := 0, slots := 0, locals := 51 })).room s m ([.ref h0, .int x, .long nn, .int a, .int b] : List Value).toArray below meth c H locs 0 0 (MQ below (va_Qi (fun r v => (iv 0 1 r) ∧ ((r.toInt = 1 ∧ ((mHas gm lg x.toNatClampNeg nn).toInt = 0 ∨ (mWord gm lg x.toNatClampNeg nn).toInt = wd7 a.toInt.toNat ∨ (mWord gm lg x.toNatClampNeg nn).toInt = wd7 b.toInt.toNat)) ∨ (r.toInt = 0 ∧ ¬ ((mHas gm lg x.toNatClampNeg nn).toInt = 0 ∨ (mWord gm lg x.toNatClampNeg nn).toInt = wd7 a.toInt.toNat ∨ (mWord gm lg x.toNatClampNeg nn).toInt = wd7 b.toInt.toNat))) ∧ v = (sg, gm, lg)) (MB dC dI h0 ad cid A) A) ([.ref h0, .int x, .long nn, .int a, .int b] : List Value).toArray s 0 0 A) (F0 m 43 ls []) := by
    intro  hsx1_43 hsx4_43 hsx5_43 u43 H locs ls hP hD hS hl
    refine lv_iconst (v := 1) hx hb dX13_isOneOf_43 (by decide) ?_
    refine lv_goto (tgt := 48) hx hb dX13_isOneOf_44 (by decide) ?_
    exact hj48 1 hsx1_43 hsx4_43 hsx5_43 (iv_w (iv_k (by decide) : iv 1 1 1) (by decide)) (Or.inl ⟨rfl, u43⟩) _ _ _ hP hD hS (lv_sub hl [0, 1, 2, 3, 4] rfl)
  refine lv_aload_n hx hb dX13_isOneOf_0 rfl (lv_at hl 0 rfl) ?_
  refine lv_iload_n hx hb dX13_isOneOf_1 rfl (lv_at hl 1 rfl) ?_
  refine lv_lload_n hx hb dX13_isOneOf_2 rfl (lv_at hl 2 rfl) ?_
  refine mr_calli (rest := []) ⟨hx, hb, hml, hown, htb⟩ (f_has l dC dI h0 ad cid sg gm lg x nn hI hvx) (cwV 2 htb (gd_V kw_916 kw_917 kw_918 kw_5 kw_1543) rfl rfl rfl (by decide +kernel) ⟨Nat.le_of_ble_eq_true rfl, Nat.le_of_ble_eq_true rfl⟩) rfl hl.1 rfl (Nat.le_of_ble_eq_true rfl) dX13_isOneOf_3 ⟨Nat.zero_le _, Nat.zero_le _⟩ hK hP hD hS hA (fun r_1 u_2 H locs hw hP hD hS => ?_)
  obtain ⟨hr_1, fH_r_1, rfl⟩ := hw
  have hP : va_P (dC, dI) vwCl (mW h0 ad cid sg gm lg) H := hP
  have hD : va_D A (mW h0 ad cid sg gm lg) := hD
  refine lv_if_eq (tgt := 43) hx hb dX13_isOneOf_6 (by decide) (fun c_3 => ?_) (fun c_3 => ?_)
  · have h_4 : iv 0 0 r_1 := iv_eq c_3 hr_1 (iv_k (by decide) : iv 0 0 0) (by decide)
    exact hj43 hvx hva hvb (by have := i32_0; have := i32_1; have := i32_2; have := i32_m1; have := (hvx).1; have := (hvx).2; have := (hva).1; have := (hva).2; have := (hvb).1; have := (hvb).2; have := (h_4).1; have := (h_4).2; have := congrArg Int32.toInt fH_r_1; omega) _ _ _ hP hD hS (lv_sub hl [0, 1, 2, 3, 4] rfl)
  · have h_5 : iv 1 1 r_1 := iv_neL c_3 hr_1 (by decide)
    refine lv_aload_n hx hb dX13_isOneOf_9 rfl (lv_at hl 0 rfl) ?_
    refine lv_iload_n hx hb dX13_isOneOf_10 rfl (lv_at hl 1 rfl) ?_
    refine lv_lload_n hx hb dX13_isOneOf_11 rfl (lv_at hl 2 rfl) ?_
    refine mr_calll (rest := []) ⟨hx, hb, hml, hown, htb⟩ (f_word l dC dI h0 ad cid sg gm lg x nn hI hvx) (cwV 2 htb (gd_V kw_923 kw_924 kw_925 kw_5 kw_1545) rfl rfl rfl (by decide +kernel) ⟨Nat.le_of_ble_eq_true rfl, Nat.le_of_ble_eq_true rfl⟩) rfl hl.1 rfl (Nat.le_of_ble_eq_true rfl) dX13_isOneOf_12 ⟨Nat.zero_le _, Nat.zero_le _⟩ hK hP hD hS hA (fun r_6 u_7 H locs hw hP hD hS => ?_)
    obtain ⟨fW_r_6, rfl⟩ := hw
    have hP : va_P (dC, dI) vwCl (mW h0 ad cid sg gm lg) H := hP
    have hD : va_D A (mW h0 ad cid sg gm lg) := hD
    refine lv_aload_n hx hb dX13_isOneOf_15 rfl (lv_at hl 0 rfl) ?_
    refine mr_get (v := .ref (ad 1)) hx hb htb inX13 hown hK hP 1 (by decide) (htb _ kw_156) rfl dX13_isOneOf_16 ?_
    refine lv_iload hx hb dX13_isOneOf_19 (lv_at hl 3 rfl) ?_
    refine mr_lald hx hb hK hP 1 (k := 1) rfl rfl rfl (show vp_in a 11 from (iv_in hva (by decide))) dX13_isOneOf_21 ?_
    refine lv_topl (fun z_8 ez_8 => ?_)
    have gz_8 : z_8.toInt = wd7 a.toInt.toNat := by rw [ez_8]; exact WRD7_1 hwd (show a.toInt.toNat < 11 from (by have := (hva).1; have := (hva).2; omega))
    refine W.lcmp hx hb dX13_isOneOf_22 ?_
    refine lv_topi (fun z_9 ez_9 => ?_)
    have hz_9 : iv (-1) 1 z_9 := iv_of ez_9 (iv_cmp _ _)
    have hl_z_9 := lg_tr7 ez_9
    refine lv_if_eq (tgt := 43) hx hb dX13_isOneOf_23 (by decide) (fun c_10 => ?_) (fun c_10 => ?_)
    · have h_11 : iv 0 0 z_9 := iv_eq c_10 hz_9 (iv_k (by decide) : iv 0 0 0) (by decide)
      exact hj43 hvx hva hvb (by have := i32_0; have := i32_1; have := i32_2; have := i32_m1; have := (hvx).1; have := (hvx).2; have := (hva).1; have := (hva).2; have := (hvb).1; have := (hvb).2; have := (h_5).1; have := (h_5).2; have := (h_11).1; have := (h_11).2; have := congrArg Int32.toInt fH_r_1; have := congrArg Int64.toInt fW_r_6; omega) _ _ _ hP hD hS (lv_sub hl [0, 1, 2, 3, 4] rfl)
    · have d_12 : ¬ (z_9 : Int32).toInt = 0 := lv_neT c_10 rfl
      refine lv_aload_n hx hb dX13_isOneOf_26 rfl (lv_at hl 0 rfl) ?_
      refine lv_iload_n hx hb dX13_isOneOf_27 rfl (lv_at hl 1 rfl) ?_
      refine lv_lload_n hx hb dX13_isOneOf_28 rfl (lv_at hl 2 rfl) ?_
      refine mr_calll (rest := []) ⟨hx, hb, hml, hown, htb⟩ (f_word l dC dI h0 ad cid sg gm lg x nn hI hvx) (cwV 2 htb (gd_V kw_923 kw_924 kw_925 kw_5 kw_1545) rfl rfl rfl (by decide +kernel) ⟨Nat.le_of_ble_eq_true rfl, Nat.le_of_ble_eq_true rfl⟩) rfl hl.1 rfl (Nat.le_of_ble_eq_true rfl) dX13_isOneOf_29 ⟨Nat.zero_le _, Nat.zero_le _⟩ hK hP hD hS hA (fun r_13 u_14 H locs hw hP hD hS => ?_)
      obtain ⟨fW_r_13, rfl⟩ := hw
      have hP : va_P (dC, dI) vwCl (mW h0 ad cid sg gm lg) H := hP
      have hD : va_D A (mW h0 ad cid sg gm lg) := hD
      refine lv_aload_n hx hb dX13_isOneOf_32 rfl (lv_at hl 0 rfl) ?_
      refine mr_get (v := .ref (ad 1)) hx hb htb inX13 hown hK hP 1 (by decide) (htb _ kw_156) rfl dX13_isOneOf_33 ?_
      refine lv_iload hx hb dX13_isOneOf_36 (lv_at hl 4 rfl) ?_
      refine mr_lald hx hb hK hP 1 (k := 1) rfl rfl rfl (show vp_in b 11 from (iv_in hvb (by decide))) dX13_isOneOf_38 ?_
      refine lv_topl (fun z_15 ez_15 => ?_)
      have gz_15 : z_15.toInt = wd7 b.toInt.toNat := by rw [ez_15]; exact WRD7_1 hwd (show b.toInt.toNat < 11 from (by have := (hvb).1; have := (hvb).2; omega))
      refine W.lcmp hx hb dX13_isOneOf_39 ?_
      refine lv_topi (fun z_16 ez_16 => ?_)
      have hz_16 : iv (-1) 1 z_16 := iv_of ez_16 (iv_cmp _ _)
      have hl_z_16 := lg_tr7 ez_16
      refine lv_if_ne (tgt := 47) hx hb dX13_isOneOf_40 (by decide) (fun c_17 => ?_) (fun c_17 => ?_)
      · have d_18 : ¬ (z_16 : Int32).toInt = 0 := lv_neT c_17 rfl
        refine lv_iconst (v := 0) hx hb dX13_isOneOf_47 (by decide) ?_
        exact hj48 0 hvx hva hvb (iv_w (iv_k (by decide) : iv 0 0 0) (by decide)) (Or.inr ⟨rfl, by have := i32_0; have := i32_1; have := i32_2; have := i32_m1; have := (hvx).1; have := (hvx).2; have := (hva).1; have := (hva).2; have := (hvb).1; have := (hvb).2; have := (h_5).1; have := (h_5).2; have := (hz_9).1; have := (hz_9).2; have := (hz_16).1; have := (hz_16).2; have := congrArg Int32.toInt fH_r_1; have := congrArg Int64.toInt fW_r_6; have := congrArg Int64.toInt fW_r_13; omega⟩) _ _ _ hP hD hS (lv_sub hl [0, 1, 2, 3, 4] rfl)
      · have h_19 : iv 0 0 z_16 := iv_eq c_17 hz_16 (iv_k (by decide) : iv 0 0 0) (by decide)
        exact hj43 hvx hva hvb (by have := i32_0; have := i32_1; have := i32_2; have := i32_m1; have := (hvx).1; have := (hvx).2; have := (hva).1; have := (hva).2; have := (hvb).1; have := (hvb).2; have := (h_5).1; have := (h_5).2; have := (hz_9).1; have := (hz_9).2; have := (h_19).1; have := (h_19).2; have := congrArg Int32.toInt fH_r_1; have := congrArg Int64.toInt fW_r_6; have := congrArg Int64.toInt fW_r_13; omega) _ _ _ hP hD hS (lv_sub hl [0, 1, 2, 3, 4] rfl)
