/-- the kind of what an element stands in, 0 if it stands in nothing -/
def abk (g : Nat → Nat → Int32) (x : Nat) : Int := if (g 28 x).toInt = -1 then 0 else (g 26 (g 28 x).toNatClampNeg).toInt
theorem abk_0 {g : Nat → Nat → Int32} {x : Nat} (h : (g 28 x).toInt = -1) : abk g x = 0 := if_pos h
theorem abk_1 {g : Nat → Nat → Int32} {x : Nat} (h : ¬ (g 28 x).toInt = -1) : abk g x = (g 26 (g 28 x).toNatClampNeg).toInt := if_neg h
/-- what kind stands in what kind -/
def INP7 (k a : Int) : Prop := (k = 1 ∧ a = 0) ∨ (k = 2 ∧ a = 1) ∨ (k = 3 ∧ (a = 1 ∨ a = 4 ∨ a = 5 ∨ a = 6)) ∨ ((k = 4 ∨ k = 5 ∨ k = 10) ∧ a = 3) ∨ (k = 6 ∧ (a = 4 ∨ a = 5)) ∨ ((k = 7 ∨ k = 8 ∨ k = 9) ∧ (a = 4 ∨ a = 5 ∨ a = 6))

set_option maxHeartbeats 4000000 in
set_option maxRecDepth 100000 in
theorem f_isInPlace2 (l : Launch) (dC : Nat → ClassId) (dI : Nat → Nat → Nat) (h0 : Nat) (ad : Nat → Nat) (cid : Nat → ClassId) (sg : Nat → Int32) (gm : Nat → Nat → Int32) (lg : Nat → Nat → Int64) (x : Int32) (hI : MI sg gm) (hvx : iv 0 79 x) : MMi l dC dI yX13_isInPlace wm_X13_isInPlace ({ frames := 0, cells := 0, slots := 0, locals := 0 }) h0 ad cid [.int x] sg gm lg (fun r v => (iv 0 1 r) ∧ ((r.toInt = 1 ∧ (INP7 ((gm 26 x.toNatClampNeg).toInt) (abk gm x.toNatClampNeg))) ∨ (r.toInt = 0 ∧ ¬ (INP7 ((gm 26 x.toNatClampNeg).toInt) (abk gm x.toNatClampNeg)))) ∧ v = (sg, gm, lg)) := by
  intro sz
  refine Met.ofW (cc := cX13_isInPlace) (maxL := 3) (ret := (some .boolean)) (by decide) rfl ?_
  intro p e s m args below meth c s₁ B hml hv
  obtain ⟨rfl, hsz, hP, hK, hD0⟩ := hv
  have hx := B.exec
  have hb := B.bytes
  have hr := B.returns
  have hts := atoms_spec (ws := wm_X13_isInPlace) B.pre
  have htb := fun (w : Cond) (h : w ∈ tb) => hts w (List.mem_cons_of_mem _ h)
  have hown : s.vm.findClass RX13 = some m.cls := findClass_of_methodNamed B.named
  have hlocks := B.notSynchronized
  subst hsz
  have hD := hD0.self (sz := s.heap.size)
  generalize hAe : va_A (mW h0 ad cid sg gm lg) s.heap.size = A at hD ⊢
  have hA : ∀ q : Nat, s.heap.size ≤ q → A q := fun q h => by rw [← hAe]; exact Or.inr h
  have hS : va_S A s.heap s.heap [] := va_S.rf
  have hl := lv_entry ([.ref h0, .int x]) (n := 3) (Nat.le_of_ble_eq_true rfl)
  rw [lg_entry_eq]
  generalize (lg_sl ([.ref h0, .int x]) ++ List.replicate (3 - (lg_sl ([.ref h0, .int x])).length) Slot.unset).toArray = ls at hl ⊢
  have hl : lv_has ls 3 [(0, .ref h0), (1, .int x)] := hl
  have hj97 : ∀ (x2_97 : Int32) (y0_97 : Int32) (_ : iv 0 10 x2_97) (_ : iv 0 79 x) (_ : iv 0 1 y0_97) (_ : (y0_97.toInt = 1 ∧ (INP7 ((gm 26 x.toNatClampNeg).toInt) (abk gm x.toNatClampNeg))) ∨ (y0_97.toInt = 0 ∧ ¬ (INP7 ((gm 26 x.toNatClampNeg).toInt) (abk gm x.toNatClampNeg)))) (H : Heap) (locs : List Loc) (ls : Array Slot), va_P (dC, dI) vwCl (mW h0 ad cid sg gm lg) H → va_D A (mW h0 ad cid sg gm lg) → va_S A s.heap H locs → lv_has ls 3 [(2, .int x2_97), (0, .ref h0), (1, .int x)] → W p l e (headSpec wm_X13_isInPlace ({ frames := 0, cells := 0, slots := 0, locals := 0 })).room s m ([.ref h0, .int x] : List Value).toArray below meth c H locs 0 0 (MQ below (va_Qi (fun r v => (iv 0 1 r) ∧ ((r.toInt = 1 ∧ (INP7 ((gm 26 x.toNatClampNeg).toInt) (abk gm x.toNatClampNeg))) ∨ (r.toInt = 0 ∧ ¬ (INP7 ((gm 26 x.toNatClampNeg).toInt) (abk gm x.toNatClampNeg)))) ∧ v = (sg, gm, lg)) (MB dC dI h0 ad cid A) A) ([.ref h0, .int x] : List Value).toArray s 0 0 A) (F0 m 97 ls [.int y0_97]) := by
    intro x2_97 y0_97 hx2_97 hsx1_97 hy0_97 u97 H locs ls hP hD hS hl
    exact W.zret (v := y0_97) hx hb hr (iv_nb hy0_97) (fun t ht hW => ⟨⟨y0_97, (sg, gm, lg), rfl, ⟨hy0_97, (u97), rfl⟩, by rw [ht]; exact hP, va_K.moved hW.alike hK, hD⟩, hS.F ht⟩) hS.2.2 dX13_isInPlace_97
  have hj108 : ∀ (x2_108 : Int32) (y0_108 : Int32) (_ : iv 0 10 x2_108) (_ : iv 0 79 x) (_ : iv 0 1 y0_108) (_ : (y0_108.toInt = 1 ∧ (INP7 ((gm 26 x.toNatClampNeg).toInt) (abk gm x.toNatClampNeg))) ∨ (y0_108.toInt = 0 ∧ ¬ (INP7 ((gm 26 x.toNatClampNeg).toInt) (abk gm x.toNatClampNeg)))) (H : Heap) (locs : List Loc) (ls : Array Slot), va_P (dC, dI) vwCl (mW h0 ad cid sg gm lg) H → va_D A (mW h0 ad cid sg gm lg) → va_S A s.heap H locs → lv_has ls 3 [(2, .int x2_108), (0, .ref h0), (1, .int x)] → W p l e (headSpec wm_X13_isInPlace ({ frames := 0, cells := 0, slots := 0, locals := 0 })).room s m ([.ref h0, .int x] : List Value).toArray below meth c H locs 0 0 (MQ below (va_Qi (fun r v => (iv 0 1 r) ∧ ((r.toInt = 1 ∧ (INP7 ((gm 26 x.toNatClampNeg).toInt) (abk gm x.toNatClampNeg))) ∨ (r.toInt = 0 ∧ ¬ (INP7 ((gm 26 x.toNatClampNeg).toInt) (abk gm x.toNatClampNeg)))) ∧ v = (sg, gm, lg)) (MB dC dI h0 ad cid A) A) ([.ref h0, .int x] : List Value).toArray s 0 0 A) (F0 m 108 ls [.int y0_108]) := by
    intro x2_108 y0_108 hx2_108 hsx1_108 hy0_108 u108 H locs ls hP hD hS hl
    exact W.zret (v := y0_108) hx hb hr (iv_nb hy0_108) (fun t ht hW => ⟨⟨y0_108, (sg, gm, lg), rfl, ⟨hy0_108, (u108), rfl⟩, by rw [ht]; exact hP, va_K.moved hW.alike hK, hD⟩, hS.F ht⟩) hS.2.2 dX13_isInPlace_108
  have hj135 : ∀ (x2_135 : Int32) (y0_135 : Int32) (_ : iv 0 10 x2_135) (_ : iv 0 79 x) (_ : iv 0 1 y0_135) (_ : (y0_135.toInt = 1 ∧ (INP7 ((gm 26 x.toNatClampNeg).toInt) (abk gm x.toNatClampNeg))) ∨ (y0_135.toInt = 0 ∧ ¬ (INP7 ((gm 26 x.toNatClampNeg).toInt) (abk gm x.toNatClampNeg)))) (H : Heap) (locs : List Loc) (ls : Array Slot), va_P (dC, dI) vwCl (mW h0 ad cid sg gm lg) H → va_D A (mW h0 ad cid sg gm lg) → va_S A s.heap H locs → lv_has ls 3 [(2, .int x2_135), (0, .ref h0), (1, .int x)] → W p l e (headSpec wm_X13_isInPlace ({ frames := 0, cells := 0, slots := 0, locals := 0 })).room s m ([.ref h0, .int x] : List Value).toArray below meth c H locs 0 0 (MQ below (va_Qi (fun r v => (iv 0 1 r) ∧ ((r.toInt = 1 ∧ (INP7 ((gm 26 x.toNatClampNeg).toInt) (abk gm x.toNatClampNeg))) ∨ (r.toInt = 0 ∧ ¬ (INP7 ((gm 26 x.toNatClampNeg).toInt) (abk gm x.toNatClampNeg)))) ∧ v = (sg, gm, lg)) (MB dC dI h0 ad cid A) A) ([.ref h0, .int x] : List Value).toArray s 0 0 A) (F0 m 135 ls [.int y0_135]) := by
    intro x2_135 y0_135 hx2_135 hsx1_135 hy0_135 u135 H locs ls hP hD hS hl
    exact W.zret (v := y0_135) hx hb hr (iv_nb hy0_135) (fun t ht hW => ⟨⟨y0_135, (sg, gm, lg), rfl, ⟨hy0_135, (u135), rfl⟩, by rw [ht]; exact hP, va_K.moved hW.alike hK, hD⟩, hS.F ht⟩) hS.2.2 dX13_isInPlace_135
  have hj130 : ∀ (x2_130 : Int32) (_ : iv 1 6 x2_130) (_ : iv 0 79 x) (_ : INP7 ((gm 26 x.toNatClampNeg).toInt) (abk gm x.toNatClampNeg)) (H : Heap) (locs : List Loc) (ls : Array Slot), va_P (dC, dI) vwCl (mW h0 ad cid sg gm lg) H → va_D A (mW h0 ad cid sg gm lg) → va_S A s.heap H locs → lv_has ls 3 [(2, .int x2_130), (0, .ref h0), (1, .int x)] → W p l e (headSpec wm_X13_isInPlace ({ frames := 0, cells := 0, slots := 0, locals := 0 })).room s m ([.ref h0, .int x] : List Value).toArray below meth c H locs 0 0 (MQ below (va_Qi (fun r v => (iv 0 1 r) ∧ ((r.toInt = 1 ∧ (INP7 ((gm 26 x.toNatClampNeg).toInt) (abk gm x.toNatClampNeg))) ∨ (r.toInt = 0 ∧ ¬ (INP7 ((gm 26 x.toNatClampNeg).toInt) (abk gm x.toNatClampNeg)))) ∧ v = (sg, gm, lg)) (MB dC dI h0 ad cid A) A) ([.ref h0, .int x] : List Value).toArray s 0 0 A) (F0 m 130 ls []) := by
    intro x2_130 hx2_130 hsx1_130 u130 H locs ls hP hD hS hl
    refine lv_iconst (v := 1) hx hb dX13_isInPlace_130 (by decide) ?_
    refine lv_goto (tgt := 135) hx hb dX13_isInPlace_131 (by decide) ?_
    exact hj135 x2_130 1 (iv_w hx2_130 (by decide)) hsx1_130 (iv_w (iv_k (by decide) : iv 1 1 1) (by decide)) (Or.inl ⟨rfl, u130⟩) _ _ _ hP hD hS (lv_sub hl [0, 1, 2] rfl)
  have hj146 : ∀ (x2_146 : Int32) (y0_146 : Int32) (_ : iv 0 10 x2_146) (_ : iv 0 79 x) (_ : iv 0 1 y0_146) (_ : (y0_146.toInt = 1 ∧ (INP7 ((gm 26 x.toNatClampNeg).toInt) (abk gm x.toNatClampNeg))) ∨ (y0_146.toInt = 0 ∧ ¬ (INP7 ((gm 26 x.toNatClampNeg).toInt) (abk gm x.toNatClampNeg)))) (H : Heap) (locs : List Loc) (ls : Array Slot), va_P (dC, dI) vwCl (mW h0 ad cid sg gm lg) H → va_D A (mW h0 ad cid sg gm lg) → va_S A s.heap H locs → lv_has ls 3 [(2, .int x2_146), (0, .ref h0), (1, .int x)] → W p l e (headSpec wm_X13_isInPlace ({ frames := 0, cells := 0, slots := 0, locals := 0 })).room s m ([.ref h0, .int x] : List Value).toArray below meth c H locs 0 0 (MQ below (va_Qi (fun r v => (iv 0 1 r) ∧ ((r.toInt = 1 ∧ (INP7 ((gm 26 x.toNatClampNeg).toInt) (abk gm x.toNatClampNeg))) ∨ (r.toInt = 0 ∧ ¬ (INP7 ((gm 26 x.toNatClampNeg).toInt) (abk gm x.toNatClampNeg)))) ∧ v = (sg, gm, lg)) (MB dC dI h0 ad cid A) A) ([.ref h0, .int x] : List Value).toArray s 0 0 A) (F0 m 146 ls [.int y0_146]) := by
    intro x2_146 y0_146 hx2_146 hsx1_146 hy0_146 u146 H locs ls hP hD hS hl
    exact W.zret (v := y0_146) hx hb hr (iv_nb hy0_146) (fun t ht hW => ⟨⟨y0_146, (sg, gm, lg), rfl, ⟨hy0_146, (u146), rfl⟩, by rw [ht]; exact hP, va_K.moved hW.alike hK, hD⟩, hS.F ht⟩) hS.2.2 dX13_isInPlace_146
  have hj136 : ∀ (x2_136 : Int32) (_ : iv 0 10 x2_136) (_ : iv 0 79 x) (_ : x2_136.toInt = abk gm x.toNatClampNeg) (_ : (gm 26 x.toNatClampNeg).toInt = 4 ∨ (gm 26 x.toNatClampNeg).toInt = 5 ∨ (gm 26 x.toNatClampNeg).toInt = 10) (H : Heap) (locs : List Loc) (ls : Array Slot), va_P (dC, dI) vwCl (mW h0 ad cid sg gm lg) H → va_D A (mW h0 ad cid sg gm lg) → va_S A s.heap H locs → lv_has ls 3 [(2, .int x2_136), (0, .ref h0), (1, .int x)] → W p l e (headSpec wm_X13_isInPlace ({ frames := 0, cells := 0, slots := 0, locals := 0 })).room s m ([.ref h0, .int x] : List Value).toArray below meth c H locs 0 0 (MQ below (va_Qi (fun r v => (iv 0 1 r) ∧ ((r.toInt = 1 ∧ (INP7 ((gm 26 x.toNatClampNeg).toInt) (abk gm x.toNatClampNeg))) ∨ (r.toInt = 0 ∧ ¬ (INP7 ((gm 26 x.toNatClampNeg).toInt) (abk gm x.toNatClampNeg)))) ∧ v = (sg, gm, lg)) (MB dC dI h0 ad cid A) A) ([.ref h0, .int x] : List Value).toArray s 0 0 A) (F0 m 136 ls []) := by
    intro x2_136 hx2_136 hsx1_136 u2 hk H locs ls hP hD hS hl
    refine lv_iload_n hx hb dX13_isInPlace_136 rfl (lv_at hl 0 rfl) ?_
    refine lv_iconst (v := 3) hx hb dX13_isInPlace_137 (by decide) ?_
    refine lv_icmp_ne (tgt := 145) hx hb dX13_isInPlace_138 (by decide) (fun c_1 => ?_) (fun c_1 => ?_)
    · have d_2 : ¬ (x2_136 : Int32).toInt = 3 := lv_neT c_1 rfl
      refine lv_iconst (v := 0) hx hb dX13_isInPlace_145 (by decide) ?_
      exact hj146 x2_136 0 hx2_136 hsx1_136 (iv_w (iv_k (by decide) : iv 0 0 0) (by decide)) (Or.inr ⟨rfl, (by unfold INP7; have := i32_0; have := i32_1; have := i32_2; have := i32_m1; have := (hsx1_136).1; have := (hsx1_136).2; have := (hx2_136).1; have := (hx2_136).2; omega)⟩) _ _ _ hP hD hS (lv_sub hl [0, 1, 2] rfl)
    · have h_3 : iv 3 3 x2_136 := iv_eq c_1 hx2_136 (iv_k (by decide) : iv 3 3 3) (by decide)
      refine lv_iconst (v := 1) hx hb dX13_isInPlace_141 (by decide) ?_
      refine lv_goto (tgt := 146) hx hb dX13_isInPlace_142 (by decide) ?_
      exact hj146 x2_136 1 (iv_w h_3 (by decide)) hsx1_136 (iv_w (iv_k (by decide) : iv 1 1 1) (by decide)) (Or.inl ⟨rfl, (by unfold INP7; have := i32_0; have := i32_1; have := i32_2; have := i32_m1; have := (hsx1_136).1; have := (hsx1_136).2; have := (h_3).1; have := (h_3).2; omega)⟩) _ _ _ hP hD hS (lv_sub hl [0, 1, 2] rfl)
  have hj162 : ∀ (x2_162 : Int32) (y0_162 : Int32) (_ : iv 0 10 x2_162) (_ : iv 0 79 x) (_ : iv 0 1 y0_162) (_ : (y0_162.toInt = 1 ∧ (INP7 ((gm 26 x.toNatClampNeg).toInt) (abk gm x.toNatClampNeg))) ∨ (y0_162.toInt = 0 ∧ ¬ (INP7 ((gm 26 x.toNatClampNeg).toInt) (abk gm x.toNatClampNeg)))) (H : Heap) (locs : List Loc) (ls : Array Slot), va_P (dC, dI) vwCl (mW h0 ad cid sg gm lg) H → va_D A (mW h0 ad cid sg gm lg) → va_S A s.heap H locs → lv_has ls 3 [(2, .int x2_162), (0, .ref h0), (1, .int x)] → W p l e (headSpec wm_X13_isInPlace ({ frames := 0, cells := 0, slots := 0, locals := 0 })).room s m ([.ref h0, .int x] : List Value).toArray below meth c H locs 0 0 (MQ below (va_Qi (fun r v => (iv 0 1 r) ∧ ((r.toInt = 1 ∧ (INP7 ((gm 26 x.toNatClampNeg).toInt) (abk gm x.toNatClampNeg))) ∨ (r.toInt = 0 ∧ ¬ (INP7 ((gm 26 x.toNatClampNeg).toInt) (abk gm x.toNatClampNeg)))) ∧ v = (sg, gm, lg)) (MB dC dI h0 ad cid A) A) ([.ref h0, .int x] : List Value).toArray s 0 0 A) (F0 m 162 ls [.int y0_162]) := by
    intro x2_162 y0_162 hx2_162 hsx1_162 hy0_162 u162 H locs ls hP hD hS hl
    exact W.zret (v := y0_162) hx hb hr (iv_nb hy0_162) (fun t ht hW => ⟨⟨y0_162, (sg, gm, lg), rfl, ⟨hy0_162, (u162), rfl⟩, by rw [ht]; exact hP, va_K.moved hW.alike hK, hD⟩, hS.F ht⟩) hS.2.2 dX13_isInPlace_162
  have hj157 : ∀ (x2_157 : Int32) (_ : iv 4 5 x2_157) (_ : iv 0 79 x) (_ : INP7 ((gm 26 x.toNatClampNeg).toInt) (abk gm x.toNatClampNeg)) (H : Heap) (locs : List Loc) (ls : Array Slot), va_P (dC, dI) vwCl (mW h0 ad cid sg gm lg) H → va_D A (mW h0 ad cid sg gm lg) → va_S A s.heap H locs → lv_has ls 3 [(2, .int x2_157), (0, .ref h0), (1, .int x)] → W p l e (headSpec wm_X13_isInPlace ({ frames := 0, cells := 0, slots := 0, locals := 0 })).room s m ([.ref h0, .int x] : List Value).toArray below meth c H locs 0 0 (MQ below (va_Qi (fun r v => (iv 0 1 r) ∧ ((r.toInt = 1 ∧ (INP7 ((gm 26 x.toNatClampNeg).toInt) (abk gm x.toNatClampNeg))) ∨ (r.toInt = 0 ∧ ¬ (INP7 ((gm 26 x.toNatClampNeg).toInt) (abk gm x.toNatClampNeg)))) ∧ v = (sg, gm, lg)) (MB dC dI h0 ad cid A) A) ([.ref h0, .int x] : List Value).toArray s 0 0 A) (F0 m 157 ls []) := by
    intro x2_157 hx2_157 hsx1_157 u157 H locs ls hP hD hS hl
    refine lv_iconst (v := 1) hx hb dX13_isInPlace_157 (by decide) ?_
    refine lv_goto (tgt := 162) hx hb dX13_isInPlace_158 (by decide) ?_
    exact hj162 x2_157 1 (iv_w hx2_157 (by decide)) hsx1_157 (iv_w (iv_k (by decide) : iv 1 1 1) (by decide)) (Or.inl ⟨rfl, u157⟩) _ _ _ hP hD hS (lv_sub hl [0, 1, 2] rfl)
  have hj184 : ∀ (x2_184 : Int32) (y0_184 : Int32) (_ : iv 0 10 x2_184) (_ : iv 0 79 x) (_ : iv 0 1 y0_184) (_ : (y0_184.toInt = 1 ∧ (INP7 ((gm 26 x.toNatClampNeg).toInt) (abk gm x.toNatClampNeg))) ∨ (y0_184.toInt = 0 ∧ ¬ (INP7 ((gm 26 x.toNatClampNeg).toInt) (abk gm x.toNatClampNeg)))) (H : Heap) (locs : List Loc) (ls : Array Slot), va_P (dC, dI) vwCl (mW h0 ad cid sg gm lg) H → va_D A (mW h0 ad cid sg gm lg) → va_S A s.heap H locs → lv_has ls 3 [(2, .int x2_184), (0, .ref h0), (1, .int x)] → W p l e (headSpec wm_X13_isInPlace ({ frames := 0, cells := 0, slots := 0, locals := 0 })).room s m ([.ref h0, .int x] : List Value).toArray below meth c H locs 0 0 (MQ below (va_Qi (fun r v => (iv 0 1 r) ∧ ((r.toInt = 1 ∧ (INP7 ((gm 26 x.toNatClampNeg).toInt) (abk gm x.toNatClampNeg))) ∨ (r.toInt = 0 ∧ ¬ (INP7 ((gm 26 x.toNatClampNeg).toInt) (abk gm x.toNatClampNeg)))) ∧ v = (sg, gm, lg)) (MB dC dI h0 ad cid A) A) ([.ref h0, .int x] : List Value).toArray s 0 0 A) (F0 m 184 ls [.int y0_184]) := by
    intro x2_184 y0_184 hx2_184 hsx1_184 hy0_184 u184 H locs ls hP hD hS hl
    exact W.zret (v := y0_184) hx hb hr (iv_nb hy0_184) (fun t ht hW => ⟨⟨y0_184, (sg, gm, lg), rfl, ⟨hy0_184, (u184), rfl⟩, by rw [ht]; exact hP, va_K.moved hW.alike hK, hD⟩, hS.F ht⟩) hS.2.2 dX13_isInPlace_184
  have hj179 : ∀ (x2_179 : Int32) (_ : iv 4 6 x2_179) (_ : iv 0 79 x) (_ : INP7 ((gm 26 x.toNatClampNeg).toInt) (abk gm x.toNatClampNeg)) (H : Heap) (locs : List Loc) (ls : Array Slot), va_P (dC, dI) vwCl (mW h0 ad cid sg gm lg) H → va_D A (mW h0 ad cid sg gm lg) → va_S A s.heap H locs → lv_has ls 3 [(2, .int x2_179), (0, .ref h0), (1, .int x)] → W p l e (headSpec wm_X13_isInPlace ({ frames := 0, cells := 0, slots := 0, locals := 0 })).room s m ([.ref h0, .int x] : List Value).toArray below meth c H locs 0 0 (MQ below (va_Qi (fun r v => (iv 0 1 r) ∧ ((r.toInt = 1 ∧ (INP7 ((gm 26 x.toNatClampNeg).toInt) (abk gm x.toNatClampNeg))) ∨ (r.toInt = 0 ∧ ¬ (INP7 ((gm 26 x.toNatClampNeg).toInt) (abk gm x.toNatClampNeg)))) ∧ v = (sg, gm, lg)) (MB dC dI h0 ad cid A) A) ([.ref h0, .int x] : List Value).toArray s 0 0 A) (F0 m 179 ls []) := by
    intro x2_179 hx2_179 hsx1_179 u179 H locs ls hP hD hS hl
    refine lv_iconst (v := 1) hx hb dX13_isInPlace_179 (by decide) ?_
    refine lv_goto (tgt := 184) hx hb dX13_isInPlace_180 (by decide) ?_
    exact hj184 x2_179 1 (iv_w hx2_179 (by decide)) hsx1_179 (iv_w (iv_k (by decide) : iv 1 1 1) (by decide)) (Or.inl ⟨rfl, u179⟩) _ _ _ hP hD hS (lv_sub hl [0, 1, 2] rfl)
  have hj163 : ∀ (x2_163 : Int32) (_ : iv 0 10 x2_163) (_ : iv 0 79 x) (_ : x2_163.toInt = abk gm x.toNatClampNeg) (_ : (gm 26 x.toNatClampNeg).toInt = 7 ∨ (gm 26 x.toNatClampNeg).toInt = 8 ∨ (gm 26 x.toNatClampNeg).toInt = 9) (H : Heap) (locs : List Loc) (ls : Array Slot), va_P (dC, dI) vwCl (mW h0 ad cid sg gm lg) H → va_D A (mW h0 ad cid sg gm lg) → va_S A s.heap H locs → lv_has ls 3 [(2, .int x2_163), (0, .ref h0), (1, .int x)] → W p l e (headSpec wm_X13_isInPlace ({ frames := 0, cells := 0, slots := 0, locals := 0 })).room s m ([.ref h0, .int x] : List Value).toArray below meth c H locs 0 0 (MQ below (va_Qi (fun r v => (iv 0 1 r) ∧ ((r.toInt = 1 ∧ (INP7 ((gm 26 x.toNatClampNeg).toInt) (abk gm x.toNatClampNeg))) ∨ (r.toInt = 0 ∧ ¬ (INP7 ((gm 26 x.toNatClampNeg).toInt) (abk gm x.toNatClampNeg)))) ∧ v = (sg, gm, lg)) (MB dC dI h0 ad cid A) A) ([.ref h0, .int x] : List Value).toArray s 0 0 A) (F0 m 163 ls []) := by
    intro x2_163 hx2_163 hsx1_163 u2 hk H locs ls hP hD hS hl
    refine lv_iload_n hx hb dX13_isInPlace_163 rfl (lv_at hl 0 rfl) ?_
    refine lv_iconst (v := 4) hx hb dX13_isInPlace_164 (by decide) ?_
    refine lv_icmp_eq (tgt := 179) hx hb dX13_isInPlace_165 (by decide) (fun c_4 => ?_) (fun c_4 => ?_)
    · have h_5 : iv 4 4 x2_163 := iv_eq c_4 hx2_163 (iv_k (by decide) : iv 4 4 4) (by decide)
      exact hj179 x2_163 (iv_w h_5 (by decide)) hsx1_163 ((by unfold INP7; have := i32_0; have := i32_1; have := i32_2; have := i32_m1; have := (hsx1_163).1; have := (hsx1_163).2; have := (h_5).1; have := (h_5).2; omega)) _ _ _ hP hD hS (lv_sub hl [0, 1, 2] rfl)
    · have d_6 : ¬ (x2_163 : Int32).toInt = 4 := lv_neT c_4 rfl
      refine lv_iload_n hx hb dX13_isInPlace_168 rfl (lv_at hl 0 rfl) ?_
      refine lv_iconst (v := 5) hx hb dX13_isInPlace_169 (by decide) ?_
      refine lv_icmp_eq (tgt := 179) hx hb dX13_isInPlace_170 (by decide) (fun c_7 => ?_) (fun c_7 => ?_)
      · have h_8 : iv 5 5 x2_163 := iv_eq c_7 hx2_163 (iv_k (by decide) : iv 5 5 5) (by decide)
        exact hj179 x2_163 (iv_w h_8 (by decide)) hsx1_163 ((by unfold INP7; have := i32_0; have := i32_1; have := i32_2; have := i32_m1; have := (hsx1_163).1; have := (hsx1_163).2; have := (h_8).1; have := (h_8).2; omega)) _ _ _ hP hD hS (lv_sub hl [0, 1, 2] rfl)
      · have d_9 : ¬ (x2_163 : Int32).toInt = 5 := lv_neT c_7 rfl
        refine lv_iload_n hx hb dX13_isInPlace_173 rfl (lv_at hl 0 rfl) ?_
        refine lv_bipush (v := 6) hx hb dX13_isInPlace_174 (by decide) ?_
        refine lv_icmp_ne (tgt := 183) hx hb dX13_isInPlace_176 (by decide) (fun c_10 => ?_) (fun c_10 => ?_)
        · have d_11 : ¬ (x2_163 : Int32).toInt = 6 := lv_neT c_10 rfl
          refine lv_iconst (v := 0) hx hb dX13_isInPlace_183 (by decide) ?_
          exact hj184 x2_163 0 hx2_163 hsx1_163 (iv_w (iv_k (by decide) : iv 0 0 0) (by decide)) (Or.inr ⟨rfl, (by unfold INP7; have := i32_0; have := i32_1; have := i32_2; have := i32_m1; have := (hsx1_163).1; have := (hsx1_163).2; have := (hx2_163).1; have := (hx2_163).2; omega)⟩) _ _ _ hP hD hS (lv_sub hl [0, 1, 2] rfl)
        · have h_12 : iv 6 6 x2_163 := iv_eq c_10 hx2_163 (iv_k (by decide) : iv 6 6 6) (by decide)
          exact hj179 x2_163 (iv_w h_12 (by decide)) hsx1_163 ((by unfold INP7; have := i32_0; have := i32_1; have := i32_2; have := i32_m1; have := (hsx1_163).1; have := (hsx1_163).2; have := (h_12).1; have := (h_12).2; omega)) _ _ _ hP hD hS (lv_sub hl [0, 1, 2] rfl)
  have hj25 : ∀ (y0_25 : Int32) (_ : iv 0 79 x) (_ : iv 0 10 y0_25) (_ : y0_25.toInt = abk gm x.toNatClampNeg) (H : Heap) (locs : List Loc) (ls : Array Slot), va_P (dC, dI) vwCl (mW h0 ad cid sg gm lg) H → va_D A (mW h0 ad cid sg gm lg) → va_S A s.heap H locs → lv_has ls 3 [(0, .ref h0), (1, .int x)] → W p l e (headSpec wm_X13_isInPlace ({ frames := 0, cells := 0, slots := 0, locals := 0 })).room s m ([.ref h0, .int x] : List Value).toArray below meth c H locs 0 0 (MQ below (va_Qi (fun r v => (iv 0 1 r) ∧ ((r.toInt = 1 ∧ (INP7 ((gm 26 x.toNatClampNeg).toInt) (abk gm x.toNatClampNeg))) ∨ (r.toInt = 0 ∧ ¬ (INP7 ((gm 26 x.toNatClampNeg).toInt) (abk gm x.toNatClampNeg)))) ∧ v = (sg, gm, lg)) (MB dC dI h0 ad cid A) A) ([.ref h0, .int x] : List Value).toArray s 0 0 A) (F0 m 25 ls [.int y0_25]) := by
    intro y0_25 hsx1_25 hy0_25 u25 H locs ls hP hD hS hl
    refine lv_istore_n (lv' := [(2, .int y0_25), (0, .ref h0), (1, .int x)]) hx hb dX13_isInPlace_25 rfl hl (by decide) rfl (fun ls hl => ?_)
    refine lv_aload_n hx hb dX13_isInPlace_26 rfl (lv_at hl 1 rfl) ?_
    refine mr_get (v := .ref (ad 26)) hx hb htb inX13 hown hK hP 26 (by decide) (htb _ kw_182) rfl dX13_isInPlace_27 ?_
    refine lv_iload_n hx hb dX13_isInPlace_30 rfl (lv_at hl 2 rfl) ?_
    refine mr_iald hx hb hK hP 19 (k := 26) rfl rfl rfl (show vp_in x 80 from (iv_in hsx1_25 (by decide))) dX13_isInPlace_31 ?_
    refine lv_topi (fun z_13 ez_13 => ?_)
    have hz_13 : iv 0 10 z_13 := iv_of ez_13 (MI_a hI 26 hsx1_25 (by decide))
    by_cases c_14 : (z_13 : Int32).toInt = 1
    · refine lv_tableIn (tgt := 88) hx hb dX13_isInPlace_32 (by rw [c_14]; decide) (by rw [c_14]; decide) (by rw [c_14]; rfl) (by decide) ?_
      have h_15 : iv 1 1 z_13 := iv_at c_14
      refine lv_iload_n hx hb dX13_isInPlace_88 rfl (lv_at hl 0 rfl) ?_
      refine lv_if_ne (tgt := 96) hx hb dX13_isInPlace_89 (by decide) (fun c_16 => ?_) (fun c_16 => ?_)
      · have h_17 : iv 1 10 y0_25 := iv_neL c_16 hy0_25 (by decide)
        refine lv_iconst (v := 0) hx hb dX13_isInPlace_96 (by decide) ?_
        exact hj97 y0_25 0 (iv_w h_17 (by decide)) hsx1_25 (iv_w (iv_k (by decide) : iv 0 0 0) (by decide)) (Or.inr ⟨rfl, (by unfold INP7; have hk8 : (gm 26 x.toNatClampNeg).toInt = 1 := (by rw [← ez_13]; exact c_14); have := i32_0; have := i32_1; have := i32_2; have := i32_m1; have := (hsx1_25).1; have := (hsx1_25).2; have := (h_17).1; have := (h_17).2; have := (h_15).1; have := (h_15).2; omega)⟩) _ _ _ hP hD hS (lv_sub hl [0, 1, 2] rfl)
      · have h_18 : iv 0 0 y0_25 := iv_eq c_16 hy0_25 (iv_k (by decide) : iv 0 0 0) (by decide)
        refine lv_iconst (v := 1) hx hb dX13_isInPlace_92 (by decide) ?_
        refine lv_goto (tgt := 97) hx hb dX13_isInPlace_93 (by decide) ?_
        exact hj97 y0_25 1 (iv_w h_18 (by decide)) hsx1_25 (iv_w (iv_k (by decide) : iv 1 1 1) (by decide)) (Or.inl ⟨rfl, (by unfold INP7; have hk8 : (gm 26 x.toNatClampNeg).toInt = 1 := (by rw [← ez_13]; exact c_14); have := i32_0; have := i32_1; have := i32_2; have := i32_m1; have := (hsx1_25).1; have := (hsx1_25).2; have := (h_18).1; have := (h_18).2; have := (h_15).1; have := (h_15).2; omega)⟩) _ _ _ hP hD hS (lv_sub hl [0, 1, 2] rfl)
    by_cases c_19 : (z_13 : Int32).toInt = 2
    · refine lv_tableIn (tgt := 98) hx hb dX13_isInPlace_32 (by rw [c_19]; decide) (by rw [c_19]; decide) (by rw [c_19]; rfl) (by decide) ?_
      have h_20 : iv 2 2 z_13 := iv_at c_19
      refine lv_iload_n hx hb dX13_isInPlace_98 rfl (lv_at hl 0 rfl) ?_
      refine lv_iconst (v := 1) hx hb dX13_isInPlace_99 (by decide) ?_
      refine lv_icmp_ne (tgt := 107) hx hb dX13_isInPlace_100 (by decide) (fun c_21 => ?_) (fun c_21 => ?_)
      · have d_22 : ¬ (y0_25 : Int32).toInt = 1 := lv_neT c_21 rfl
        refine lv_iconst (v := 0) hx hb dX13_isInPlace_107 (by decide) ?_
        exact hj108 y0_25 0 hy0_25 hsx1_25 (iv_w (iv_k (by decide) : iv 0 0 0) (by decide)) (Or.inr ⟨rfl, (by unfold INP7; have hk8 : (gm 26 x.toNatClampNeg).toInt = 2 := (by rw [← ez_13]; exact c_19); have := i32_0; have := i32_1; have := i32_2; have := i32_m1; have := (hsx1_25).1; have := (hsx1_25).2; have := (hy0_25).1; have := (hy0_25).2; have := (h_20).1; have := (h_20).2; omega)⟩) _ _ _ hP hD hS (lv_sub hl [0, 1, 2] rfl)
      · have h_23 : iv 1 1 y0_25 := iv_eq c_21 hy0_25 (iv_k (by decide) : iv 1 1 1) (by decide)
        refine lv_iconst (v := 1) hx hb dX13_isInPlace_103 (by decide) ?_
        refine lv_goto (tgt := 108) hx hb dX13_isInPlace_104 (by decide) ?_
        exact hj108 y0_25 1 (iv_w h_23 (by decide)) hsx1_25 (iv_w (iv_k (by decide) : iv 1 1 1) (by decide)) (Or.inl ⟨rfl, (by unfold INP7; have hk8 : (gm 26 x.toNatClampNeg).toInt = 2 := (by rw [← ez_13]; exact c_19); have := i32_0; have := i32_1; have := i32_2; have := i32_m1; have := (hsx1_25).1; have := (hsx1_25).2; have := (h_23).1; have := (h_23).2; have := (h_20).1; have := (h_20).2; omega)⟩) _ _ _ hP hD hS (lv_sub hl [0, 1, 2] rfl)
    by_cases c_24 : (z_13 : Int32).toInt = 3
    · refine lv_tableIn (tgt := 109) hx hb dX13_isInPlace_32 (by rw [c_24]; decide) (by rw [c_24]; decide) (by rw [c_24]; rfl) (by decide) ?_
      have h_25 : iv 3 3 z_13 := iv_at c_24
      refine lv_iload_n hx hb dX13_isInPlace_109 rfl (lv_at hl 0 rfl) ?_
      refine lv_iconst (v := 1) hx hb dX13_isInPlace_110 (by decide) ?_
      refine lv_icmp_eq (tgt := 130) hx hb dX13_isInPlace_111 (by decide) (fun c_26 => ?_) (fun c_26 => ?_)
      · have h_27 : iv 1 1 y0_25 := iv_eq c_26 hy0_25 (iv_k (by decide) : iv 1 1 1) (by decide)
        exact hj130 y0_25 (iv_w h_27 (by decide)) hsx1_25 ((by unfold INP7; have hk8 : (gm 26 x.toNatClampNeg).toInt = 3 := (by rw [← ez_13]; exact c_24); have := i32_0; have := i32_1; have := i32_2; have := i32_m1; have := (hsx1_25).1; have := (hsx1_25).2; have := (h_27).1; have := (h_27).2; have := (h_25).1; have := (h_25).2; omega)) _ _ _ hP hD hS (lv_sub hl [0, 1, 2] rfl)
      · have d_28 : ¬ (y0_25 : Int32).toInt = 1 := lv_neT c_26 rfl
        refine lv_iload_n hx hb dX13_isInPlace_114 rfl (lv_at hl 0 rfl) ?_
        refine lv_iconst (v := 4) hx hb dX13_isInPlace_115 (by decide) ?_
        refine lv_icmp_eq (tgt := 130) hx hb dX13_isInPlace_116 (by decide) (fun c_29 => ?_) (fun c_29 => ?_)
        · have h_30 : iv 4 4 y0_25 := iv_eq c_29 hy0_25 (iv_k (by decide) : iv 4 4 4) (by decide)
          exact hj130 y0_25 (iv_w h_30 (by decide)) hsx1_25 ((by unfold INP7; have hk8 : (gm 26 x.toNatClampNeg).toInt = 3 := (by rw [← ez_13]; exact c_24); have := i32_0; have := i32_1; have := i32_2; have := i32_m1; have := (hsx1_25).1; have := (hsx1_25).2; have := (h_30).1; have := (h_30).2; have := (h_25).1; have := (h_25).2; omega)) _ _ _ hP hD hS (lv_sub hl [0, 1, 2] rfl)
        · have d_31 : ¬ (y0_25 : Int32).toInt = 4 := lv_neT c_29 rfl
          refine lv_iload_n hx hb dX13_isInPlace_119 rfl (lv_at hl 0 rfl) ?_
          refine lv_iconst (v := 5) hx hb dX13_isInPlace_120 (by decide) ?_
          refine lv_icmp_eq (tgt := 130) hx hb dX13_isInPlace_121 (by decide) (fun c_32 => ?_) (fun c_32 => ?_)
          · have h_33 : iv 5 5 y0_25 := iv_eq c_32 hy0_25 (iv_k (by decide) : iv 5 5 5) (by decide)
            exact hj130 y0_25 (iv_w h_33 (by decide)) hsx1_25 ((by unfold INP7; have hk8 : (gm 26 x.toNatClampNeg).toInt = 3 := (by rw [← ez_13]; exact c_24); have := i32_0; have := i32_1; have := i32_2; have := i32_m1; have := (hsx1_25).1; have := (hsx1_25).2; have := (h_33).1; have := (h_33).2; have := (h_25).1; have := (h_25).2; omega)) _ _ _ hP hD hS (lv_sub hl [0, 1, 2] rfl)
          · have d_34 : ¬ (y0_25 : Int32).toInt = 5 := lv_neT c_32 rfl
            refine lv_iload_n hx hb dX13_isInPlace_124 rfl (lv_at hl 0 rfl) ?_
            refine lv_bipush (v := 6) hx hb dX13_isInPlace_125 (by decide) ?_
            refine lv_icmp_ne (tgt := 134) hx hb dX13_isInPlace_127 (by decide) (fun c_35 => ?_) (fun c_35 => ?_)
            · have d_36 : ¬ (y0_25 : Int32).toInt = 6 := lv_neT c_35 rfl
              refine lv_iconst (v := 0) hx hb dX13_isInPlace_134 (by decide) ?_
              exact hj135 y0_25 0 hy0_25 hsx1_25 (iv_w (iv_k (by decide) : iv 0 0 0) (by decide)) (Or.inr ⟨rfl, (by unfold INP7; have hk8 : (gm 26 x.toNatClampNeg).toInt = 3 := (by rw [← ez_13]; exact c_24); have := i32_0; have := i32_1; have := i32_2; have := i32_m1; have := (hsx1_25).1; have := (hsx1_25).2; have := (hy0_25).1; have := (hy0_25).2; have := (h_25).1; have := (h_25).2; omega)⟩) _ _ _ hP hD hS (lv_sub hl [0, 1, 2] rfl)
            · have h_37 : iv 6 6 y0_25 := iv_eq c_35 hy0_25 (iv_k (by decide) : iv 6 6 6) (by decide)
              exact hj130 y0_25 (iv_w h_37 (by decide)) hsx1_25 ((by unfold INP7; have hk8 : (gm 26 x.toNatClampNeg).toInt = 3 := (by rw [← ez_13]; exact c_24); have := i32_0; have := i32_1; have := i32_2; have := i32_m1; have := (hsx1_25).1; have := (hsx1_25).2; have := (h_37).1; have := (h_37).2; have := (h_25).1; have := (h_25).2; omega)) _ _ _ hP hD hS (lv_sub hl [0, 1, 2] rfl)
    by_cases c_38 : (z_13 : Int32).toInt = 4
    · refine lv_tableIn (tgt := 136) hx hb dX13_isInPlace_32 (by rw [c_38]; decide) (by rw [c_38]; decide) (by rw [c_38]; rfl) (by decide) ?_
      have h_39 : iv 4 4 z_13 := iv_at c_38
      exact hj136 y0_25 hy0_25 hsx1_25 (u25) ((by have hk8 : (gm 26 x.toNatClampNeg).toInt = 4 := (by rw [← ez_13]; exact c_38); have := i32_0; have := i32_1; have := i32_2; have := i32_m1; have := (hsx1_25).1; have := (hsx1_25).2; have := (hy0_25).1; have := (hy0_25).2; have := (h_39).1; have := (h_39).2; omega)) _ _ _ hP hD hS (lv_sub hl [0, 1, 2] rfl)
    by_cases c_40 : (z_13 : Int32).toInt = 5
    · refine lv_tableIn (tgt := 136) hx hb dX13_isInPlace_32 (by rw [c_40]; decide) (by rw [c_40]; decide) (by rw [c_40]; rfl) (by decide) ?_
      have h_41 : iv 5 5 z_13 := iv_at c_40
      exact hj136 y0_25 hy0_25 hsx1_25 (u25) ((by have hk8 : (gm 26 x.toNatClampNeg).toInt = 5 := (by rw [← ez_13]; exact c_40); have := i32_0; have := i32_1; have := i32_2; have := i32_m1; have := (hsx1_25).1; have := (hsx1_25).2; have := (hy0_25).1; have := (hy0_25).2; have := (h_41).1; have := (h_41).2; omega)) _ _ _ hP hD hS (lv_sub hl [0, 1, 2] rfl)
    by_cases c_42 : (z_13 : Int32).toInt = 6
    · refine lv_tableIn (tgt := 147) hx hb dX13_isInPlace_32 (by rw [c_42]; decide) (by rw [c_42]; decide) (by rw [c_42]; rfl) (by decide) ?_
      have h_43 : iv 6 6 z_13 := iv_at c_42
      refine lv_iload_n hx hb dX13_isInPlace_147 rfl (lv_at hl 0 rfl) ?_
      refine lv_iconst (v := 4) hx hb dX13_isInPlace_148 (by decide) ?_
      refine lv_icmp_eq (tgt := 157) hx hb dX13_isInPlace_149 (by decide) (fun c_44 => ?_) (fun c_44 => ?_)
      · have h_45 : iv 4 4 y0_25 := iv_eq c_44 hy0_25 (iv_k (by decide) : iv 4 4 4) (by decide)
        exact hj157 y0_25 (iv_w h_45 (by decide)) hsx1_25 ((by unfold INP7; have hk8 : (gm 26 x.toNatClampNeg).toInt = 6 := (by rw [← ez_13]; exact c_42); have := i32_0; have := i32_1; have := i32_2; have := i32_m1; have := (hsx1_25).1; have := (hsx1_25).2; have := (h_45).1; have := (h_45).2; have := (h_43).1; have := (h_43).2; omega)) _ _ _ hP hD hS (lv_sub hl [0, 1, 2] rfl)
      · have d_46 : ¬ (y0_25 : Int32).toInt = 4 := lv_neT c_44 rfl
        refine lv_iload_n hx hb dX13_isInPlace_152 rfl (lv_at hl 0 rfl) ?_
        refine lv_iconst (v := 5) hx hb dX13_isInPlace_153 (by decide) ?_
        refine lv_icmp_ne (tgt := 161) hx hb dX13_isInPlace_154 (by decide) (fun c_47 => ?_) (fun c_47 => ?_)
        · have d_48 : ¬ (y0_25 : Int32).toInt = 5 := lv_neT c_47 rfl
          refine lv_iconst (v := 0) hx hb dX13_isInPlace_161 (by decide) ?_
          exact hj162 y0_25 0 hy0_25 hsx1_25 (iv_w (iv_k (by decide) : iv 0 0 0) (by decide)) (Or.inr ⟨rfl, (by unfold INP7; have hk8 : (gm 26 x.toNatClampNeg).toInt = 6 := (by rw [← ez_13]; exact c_42); have := i32_0; have := i32_1; have := i32_2; have := i32_m1; have := (hsx1_25).1; have := (hsx1_25).2; have := (hy0_25).1; have := (hy0_25).2; have := (h_43).1; have := (h_43).2; omega)⟩) _ _ _ hP hD hS (lv_sub hl [0, 1, 2] rfl)
        · have h_49 : iv 5 5 y0_25 := iv_eq c_47 hy0_25 (iv_k (by decide) : iv 5 5 5) (by decide)
          exact hj157 y0_25 (iv_w h_49 (by decide)) hsx1_25 ((by unfold INP7; have hk8 : (gm 26 x.toNatClampNeg).toInt = 6 := (by rw [← ez_13]; exact c_42); have := i32_0; have := i32_1; have := i32_2; have := i32_m1; have := (hsx1_25).1; have := (hsx1_25).2; have := (h_49).1; have := (h_49).2; have := (h_43).1; have := (h_43).2; omega)) _ _ _ hP hD hS (lv_sub hl [0, 1, 2] rfl)
    by_cases c_50 : (z_13 : Int32).toInt = 7
    · refine lv_tableIn (tgt := 163) hx hb dX13_isInPlace_32 (by rw [c_50]; decide) (by rw [c_50]; decide) (by rw [c_50]; rfl) (by decide) ?_
      have h_51 : iv 7 7 z_13 := iv_at c_50
      exact hj163 y0_25 hy0_25 hsx1_25 (u25) ((by have hk8 : (gm 26 x.toNatClampNeg).toInt = 7 := (by rw [← ez_13]; exact c_50); have := i32_0; have := i32_1; have := i32_2; have := i32_m1; have := (hsx1_25).1; have := (hsx1_25).2; have := (hy0_25).1; have := (hy0_25).2; have := (h_51).1; have := (h_51).2; omega)) _ _ _ hP hD hS (lv_sub hl [0, 1, 2] rfl)
    by_cases c_52 : (z_13 : Int32).toInt = 8
    · refine lv_tableIn (tgt := 163) hx hb dX13_isInPlace_32 (by rw [c_52]; decide) (by rw [c_52]; decide) (by rw [c_52]; rfl) (by decide) ?_
      have h_53 : iv 8 8 z_13 := iv_at c_52
      exact hj163 y0_25 hy0_25 hsx1_25 (u25) ((by have hk8 : (gm 26 x.toNatClampNeg).toInt = 8 := (by rw [← ez_13]; exact c_52); have := i32_0; have := i32_1; have := i32_2; have := i32_m1; have := (hsx1_25).1; have := (hsx1_25).2; have := (hy0_25).1; have := (hy0_25).2; have := (h_53).1; have := (h_53).2; omega)) _ _ _ hP hD hS (lv_sub hl [0, 1, 2] rfl)
    by_cases c_54 : (z_13 : Int32).toInt = 9
    · refine lv_tableIn (tgt := 163) hx hb dX13_isInPlace_32 (by rw [c_54]; decide) (by rw [c_54]; decide) (by rw [c_54]; rfl) (by decide) ?_
      have h_55 : iv 9 9 z_13 := iv_at c_54
      exact hj163 y0_25 hy0_25 hsx1_25 (u25) ((by have hk8 : (gm 26 x.toNatClampNeg).toInt = 9 := (by rw [← ez_13]; exact c_54); have := i32_0; have := i32_1; have := i32_2; have := i32_m1; have := (hsx1_25).1; have := (hsx1_25).2; have := (hy0_25).1; have := (hy0_25).2; have := (h_55).1; have := (h_55).2; omega)) _ _ _ hP hD hS (lv_sub hl [0, 1, 2] rfl)
    by_cases c_56 : (z_13 : Int32).toInt = 10
    · refine lv_tableIn (tgt := 136) hx hb dX13_isInPlace_32 (by rw [c_56]; decide) (by rw [c_56]; decide) (by rw [c_56]; rfl) (by decide) ?_
      have h_57 : iv 10 10 z_13 := iv_at c_56
      exact hj136 y0_25 hy0_25 hsx1_25 (u25) ((by have hk8 : (gm 26 x.toNatClampNeg).toInt = 10 := (by rw [← ez_13]; exact c_56); have := i32_0; have := i32_1; have := i32_2; have := i32_m1; have := (hsx1_25).1; have := (hsx1_25).2; have := (hy0_25).1; have := (hy0_25).2; have := (h_57).1; have := (h_57).2; omega)) _ _ _ hP hD hS (lv_sub hl [0, 1, 2] rfl)
    refine lv_tableOut (tgt := 185) hx hb dX13_isInPlace_32 (by have q1 := (hz_13).1; have q2 := (hz_13).2; omega) (by decide) ?_
    have h_58 : iv 0 0 z_13 := ⟨by have q1 := (hz_13).1; have q2 := (hz_13).2; omega, by have q1 := (hz_13).1; have q2 := (hz_13).2; omega⟩
    refine lv_iconst (v := 0) hx hb dX13_isInPlace_185 (by decide) ?_
    exact W.zret (v := 0) hx hb hr (iv_nb (iv_w (iv_k (by decide) : iv 0 0 0) (by decide))) (fun t ht hW => ⟨⟨0, (sg, gm, lg), rfl, ⟨(iv_w (iv_k (by decide) : iv 0 0 0) (by decide)), (Or.inr ⟨rfl, by have := congrArg Int32.toInt ez_13; have := (h_58).1; have := (h_58).2; unfold INP7; have := i32_0; have := i32_1; have := i32_2; have := i32_m1; have := (hsx1_25).1; have := (hsx1_25).2; have := (hy0_25).1; have := (hy0_25).2; have := (h_58).1; have := (h_58).2; omega⟩), rfl⟩, by rw [ht]; exact hP, va_K.moved hW.alike hK, hD⟩, hS.F ht⟩) hS.2.2 dX13_isInPlace_186
  refine lv_aload_n hx hb dX13_isInPlace_0 rfl (lv_at hl 0 rfl) ?_
  refine mr_get (v := .ref (ad 28)) hx hb htb inX13 hown hK hP 28 (by decide) (htb _ kw_184) rfl dX13_isInPlace_1 ?_
  refine lv_iload_n hx hb dX13_isInPlace_4 rfl (lv_at hl 1 rfl) ?_
  refine mr_iald hx hb hK hP 21 (k := 28) rfl rfl rfl (show vp_in x 80 from (iv_in hvx (by decide))) dX13_isInPlace_5 ?_
  refine lv_topi (fun z_59 ez_59 => ?_)
  have hz_59 : iv (-1) 79 z_59 := iv_of ez_59 (MI_a hI 28 hvx (by decide))
  refine lv_iconst (v := (-1)) hx hb dX13_isInPlace_6 (by decide) ?_
  refine lv_icmp_ne (tgt := 14) hx hb dX13_isInPlace_7 (by decide) (fun c_60 => ?_) (fun c_60 => ?_)
  · have h_61 : iv 0 79 z_59 := iv_neL c_60 hz_59 (by decide)
    refine lv_aload_n hx hb dX13_isInPlace_14 rfl (lv_at hl 0 rfl) ?_
    refine mr_get (v := .ref (ad 26)) hx hb htb inX13 hown hK hP 26 (by decide) (htb _ kw_182) rfl dX13_isInPlace_15 ?_
    refine lv_aload_n hx hb dX13_isInPlace_18 rfl (lv_at hl 0 rfl) ?_
    refine mr_get (v := .ref (ad 28)) hx hb htb inX13 hown hK hP 28 (by decide) (htb _ kw_184) rfl dX13_isInPlace_19 ?_
    refine lv_iload_n hx hb dX13_isInPlace_22 rfl (lv_at hl 1 rfl) ?_
    refine mr_iald hx hb hK hP 21 (k := 28) rfl rfl rfl (show vp_in x 80 from (iv_in hvx (by decide))) dX13_isInPlace_23 ?_
    refine lv_topi (fun z_62 ez_62 => ?_)
    obtain rfl : z_59 = z_62 := ez_59.trans ez_62.symm
    refine mr_iald hx hb hK hP 19 (k := 26) rfl rfl rfl (show vp_in z_59 80 from (iv_in h_61 (by decide))) dX13_isInPlace_24 ?_
    refine lv_topi (fun z_63 ez_63 => ?_)
    have hz_63 : iv 0 10 z_63 := iv_of ez_63 (MI_a hI 26 h_61 (by decide))
    exact hj25 z_63 hvx hz_63 ((by have q := congrArg Int32.toInt ez_59; rw [abk_1 (g := gm) (x := x.toNatClampNeg) (by have := i32_0; have := i32_1; have := i32_2; have := i32_m1; have := (hvx).1; have := (hvx).2; have := (h_61).1; have := (h_61).2; have := (hz_63).1; have := (hz_63).2; omega), ← ez_59, ← ez_63])) _ _ _ hP hD hS (lv_sub hl [0, 1] rfl)
  · have h_64 : iv (-1) (-1) z_59 := iv_eq c_60 hz_59 (iv_k (by decide) : iv (-1) (-1) (-1)) (by decide)
    refine lv_iconst (v := 0) hx hb dX13_isInPlace_10 (by decide) ?_
    refine lv_goto (tgt := 25) hx hb dX13_isInPlace_11 (by decide) ?_
    exact hj25 0 hvx (iv_w (iv_k (by decide) : iv 0 0 0) (by decide)) ((by have q := congrArg Int32.toInt ez_59; have := abk_0 (g := gm) (x := x.toNatClampNeg) (by have := i32_0; have := i32_1; have := i32_2; have := i32_m1; have := (hvx).1; have := (hvx).2; have := (h_64).1; have := (h_64).2; omega); have := i32_0; have := i32_1; have := i32_2; have := i32_m1; have := (hvx).1; have := (hvx).2; have := (h_64).1; have := (h_64).2; omega)) _ _ _ hP hD hS (lv_sub hl [0, 1] rfl)

set_option maxHeartbeats 4000000 in
set_option maxRecDepth 100000 in
theorem f_isGoodHolder2 (l : Launch) (dC : Nat → ClassId) (dI : Nat → Nat → Nat) (h0 : Nat) (ad : Nat → Nat) (cid : Nat → ClassId) (sg : Nat → Int32) (gm : Nat → Nat → Int32) (lg : Nat → Nat → Int64) (x : Int32) (hI : MI sg gm) (hvx : iv 0 79 x) : MMi l dC dI yX13_isGoodHolder wm_X13_isGoodHolder ({ frames := 2, cells := 0, slots := 0, locals := 49 }) h0 ad cid [.int x] sg gm lg (fun r v => (iv 0 1 r) ∧ ((r.toInt = 1 ∧ ((mHas gm lg x.toNatClampNeg 508440638821).toInt + (mHas gm lg x.toNatClampNeg 7497062).toInt + (gm 29 x.toNatClampNeg).toInt = 1 ∧ ((mHas gm lg x.toNatClampNeg 7497062).toInt = 0 ∨ (mIsW gm lg x.toNatClampNeg 7497062).toInt = 1))) ∨ (r.toInt = 0 ∧ ¬ ((mHas gm lg x.toNatClampNeg 508440638821).toInt + (mHas gm lg x.toNatClampNeg 7497062).toInt + (gm 29 x.toNatClampNeg).toInt = 1 ∧ ((mHas gm lg x.toNatClampNeg 7497062).toInt = 0 ∨ (mIsW gm lg x.toNatClampNeg 7497062).toInt = 1)))) ∧ v = (sg, gm, lg)) := by
  intro sz
  refine Met.ofW (cc := cX13_isGoodHolder) (maxL := 3) (ret := (some .boolean)) (by decide) rfl ?_
  intro p e s m args below meth c s₁ B hml hv
  obtain ⟨rfl, hsz, hP, hK, hD0⟩ := hv
  have hx := B.exec
  have hb := B.bytes
  have hr := B.returns
  have hts := atoms_spec (ws := wm_X13_isGoodHolder) B.pre
  have htb := fun (w : Cond) (h : w ∈ tb) => hts w (List.mem_cons_of_mem _ h)
  have hown : s.vm.findClass RX13 = some m.cls := findClass_of_methodNamed B.named
  have hlocks := B.notSynchronized
  subst hsz
  have hD := hD0.self (sz := s.heap.size)
  generalize hAe : va_A (mW h0 ad cid sg gm lg) s.heap.size = A at hD ⊢
  have hA : ∀ q : Nat, s.heap.size ≤ q → A q := fun q h => by rw [← hAe]; exact Or.inr h
  have hS : va_S A s.heap s.heap [] := va_S.rf
  have hl := lv_entry ([.ref h0, .int x]) (n := 3) (Nat.le_of_ble_eq_true rfl)
  rw [lg_entry_eq]
  generalize (lg_sl ([.ref h0, .int x]) ++ List.replicate (3 - (lg_sl ([.ref h0, .int x])).length) Slot.unset).toArray = ls at hl ⊢
  have hl : lv_has ls 3 [(0, .ref h0), (1, .int x)] := hl
  have hj73 : ∀ (x2_73 : Int32) (y0_73 : Int32) (_ : iv 0 82 x2_73) (_ : iv 0 79 x) (_ : iv 0 1 y0_73) (_ : (y0_73.toInt = 1 ∧ ((mHas gm lg x.toNatClampNeg 508440638821).toInt + (mHas gm lg x.toNatClampNeg 7497062).toInt + (gm 29 x.toNatClampNeg).toInt = 1 ∧ ((mHas gm lg x.toNatClampNeg 7497062).toInt = 0 ∨ (mIsW gm lg x.toNatClampNeg 7497062).toInt = 1))) ∨ (y0_73.toInt = 0 ∧ ¬ ((mHas gm lg x.toNatClampNeg 508440638821).toInt + (mHas gm lg x.toNatClampNeg 7497062).toInt + (gm 29 x.toNatClampNeg).toInt = 1 ∧ ((mHas gm lg x.toNatClampNeg 7497062).toInt = 0 ∨ (mIsW gm lg x.toNatClampNeg 7497062).toInt = 1)))) (H : Heap) (locs : List Loc) (ls : Array Slot), va_P (dC, dI) vwCl (mW h0 ad cid sg gm lg) H → va_D A (mW h0 ad cid sg gm lg) → va_S A s.heap H locs → lv_has ls 3 [(2, .int x2_73), (0, .ref h0), (1, .int x)] → W p l e (headSpec wm_X13_isGoodHolder ({ frames := 2, cells := 0, slots := 0, locals := 49 })).room s m ([.ref h0, .int x] : List Value).toArray below meth c H locs 0 0 (MQ below (va_Qi (fun r v => (iv 0 1 r) ∧ ((r.toInt = 1 ∧ ((mHas gm lg x.toNatClampNeg 508440638821).toInt + (mHas gm lg x.toNatClampNeg 7497062).toInt + (gm 29 x.toNatClampNeg).toInt = 1 ∧ ((mHas gm lg x.toNatClampNeg 7497062).toInt = 0 ∨ (mIsW gm lg x.toNatClampNeg 7497062).toInt = 1))) ∨ (r.toInt = 0 ∧ ¬ ((mHas gm lg x.toNatClampNeg 508440638821).toInt + (mHas gm lg x.toNatClampNeg 7497062).toInt + (gm 29 x.toNatClampNeg).toInt = 1 ∧ ((mHas gm lg x.toNatClampNeg 7497062).toInt = 0 ∨ (mIsW gm lg x.toNatClampNeg 7497062).toInt = 1)))) ∧ v = (sg, gm, lg)) (MB dC dI h0 ad cid A) A) ([.ref h0, .int x] : List Value).toArray s 0 0 A) (F0 m 73 ls [.int y0_73]) := by
    intro x2_73 y0_73 hx2_73 hsx1_73 hy0_73 u73 H locs ls hP hD hS hl
    exact W.zret (v := y0_73) hx hb hr (iv_nb hy0_73) (fun t ht hW => ⟨⟨y0_73, (sg, gm, lg), rfl, ⟨hy0_73, (u73), rfl⟩, by rw [ht]; exact hP, va_K.moved hW.alike hK, hD⟩, hS.F ht⟩) hS.2.2 dX13_isGoodHolder_73
  have hj72 : ∀ (x2_72 : Int32) (_ : iv 0 82 x2_72) (_ : iv 0 79 x) (_ : ¬ ((mHas gm lg x.toNatClampNeg 508440638821).toInt + (mHas gm lg x.toNatClampNeg 7497062).toInt + (gm 29 x.toNatClampNeg).toInt = 1 ∧ ((mHas gm lg x.toNatClampNeg 7497062).toInt = 0 ∨ (mIsW gm lg x.toNatClampNeg 7497062).toInt = 1))) (H : Heap) (locs : List Loc) (ls : Array Slot), va_P (dC, dI) vwCl (mW h0 ad cid sg gm lg) H → va_D A (mW h0 ad cid sg gm lg) → va_S A s.heap H locs → lv_has ls 3 [(2, .int x2_72), (0, .ref h0), (1, .int x)] → W p l e (headSpec wm_X13_isGoodHolder ({ frames := 2, cells := 0, slots := 0, locals := 49 })).room s m ([.ref h0, .int x] : List Value).toArray below meth c H locs 0 0 (MQ below (va_Qi (fun r v => (iv 0 1 r) ∧ ((r.toInt = 1 ∧ ((mHas gm lg x.toNatClampNeg 508440638821).toInt + (mHas gm lg x.toNatClampNeg 7497062).toInt + (gm 29 x.toNatClampNeg).toInt = 1 ∧ ((mHas gm lg x.toNatClampNeg 7497062).toInt = 0 ∨ (mIsW gm lg x.toNatClampNeg 7497062).toInt = 1))) ∨ (r.toInt = 0 ∧ ¬ ((mHas gm lg x.toNatClampNeg 508440638821).toInt + (mHas gm lg x.toNatClampNeg 7497062).toInt + (gm 29 x.toNatClampNeg).toInt = 1 ∧ ((mHas gm lg x.toNatClampNeg 7497062).toInt = 0 ∨ (mIsW gm lg x.toNatClampNeg 7497062).toInt = 1)))) ∧ v = (sg, gm, lg)) (MB dC dI h0 ad cid A) A) ([.ref h0, .int x] : List Value).toArray s 0 0 A) (F0 m 72 ls []) := by
    intro x2_72 hx2_72 hsx1_72 u72 H locs ls hP hD hS hl
    refine lv_iconst (v := 0) hx hb dX13_isGoodHolder_72 (by decide) ?_
    exact hj73 x2_72 0 hx2_72 hsx1_72 (iv_w (iv_k (by decide) : iv 0 0 0) (by decide)) (Or.inr ⟨rfl, u72⟩) _ _ _ hP hD hS (lv_sub hl [0, 1, 2] rfl)
  have hj68 : ∀ (x2_68 : Int32) (_ : iv 1 1 x2_68) (_ : iv 0 79 x) (_ : (mHas gm lg x.toNatClampNeg 508440638821).toInt + (mHas gm lg x.toNatClampNeg 7497062).toInt + (gm 29 x.toNatClampNeg).toInt = 1 ∧ ((mHas gm lg x.toNatClampNeg 7497062).toInt = 0 ∨ (mIsW gm lg x.toNatClampNeg 7497062).toInt = 1)) (H : Heap) (locs : List Loc) (ls : Array Slot), va_P (dC, dI) vwCl (mW h0 ad cid sg gm lg) H → va_D A (mW h0 ad cid sg gm lg) → va_S A s.heap H locs → lv_has ls 3 [(2, .int x2_68), (0, .ref h0), (1, .int x)] → W p l e (headSpec wm_X13_isGoodHolder ({ frames := 2, cells := 0, slots := 0, locals := 49 })).room s m ([.ref h0, .int x] : List Value).toArray below meth c H locs 0 0 (MQ below (va_Qi (fun r v => (iv 0 1 r) ∧ ((r.toInt = 1 ∧ ((mHas gm lg x.toNatClampNeg 508440638821).toInt + (mHas gm lg x.toNatClampNeg 7497062).toInt + (gm 29 x.toNatClampNeg).toInt = 1 ∧ ((mHas gm lg x.toNatClampNeg 7497062).toInt = 0 ∨ (mIsW gm lg x.toNatClampNeg 7497062).toInt = 1))) ∨ (r.toInt = 0 ∧ ¬ ((mHas gm lg x.toNatClampNeg 508440638821).toInt + (mHas gm lg x.toNatClampNeg 7497062).toInt + (gm 29 x.toNatClampNeg).toInt = 1 ∧ ((mHas gm lg x.toNatClampNeg 7497062).toInt = 0 ∨ (mIsW gm lg x.toNatClampNeg 7497062).toInt = 1)))) ∧ v = (sg, gm, lg)) (MB dC dI h0 ad cid A) A) ([.ref h0, .int x] : List Value).toArray s 0 0 A) (F0 m 68 ls []) := by
    intro x2_68 hx2_68 hsx1_68 u68 H locs ls hP hD hS hl
    refine lv_iconst (v := 1) hx hb dX13_isGoodHolder_68 (by decide) ?_
    refine lv_goto (tgt := 73) hx hb dX13_isGoodHolder_69 (by decide) ?_
    exact hj73 x2_68 1 (iv_w hx2_68 (by decide)) hsx1_68 (iv_w (iv_k (by decide) : iv 1 1 1) (by decide)) (Or.inl ⟨rfl, u68⟩) _ _ _ hP hD hS (lv_sub hl [0, 1, 2] rfl)
  have hj32 : ∀ (y0_32 : Int32) (y1_32 : Int32) (_ : iv 0 79 x) (_ : iv 0 1 y0_32) (_ : iv 0 1 y1_32) (_ : y0_32.toInt = (mHas gm lg x.toNatClampNeg 7497062).toInt) (_ : y1_32.toInt = (mHas gm lg x.toNatClampNeg 508440638821).toInt) (H : Heap) (locs : List Loc) (ls : Array Slot), va_P (dC, dI) vwCl (mW h0 ad cid sg gm lg) H → va_D A (mW h0 ad cid sg gm lg) → va_S A s.heap H locs → lv_has ls 3 [(0, .ref h0), (1, .int x)] → W p l e (headSpec wm_X13_isGoodHolder ({ frames := 2, cells := 0, slots := 0, locals := 49 })).room s m ([.ref h0, .int x] : List Value).toArray below meth c H locs 0 0 (MQ below (va_Qi (fun r v => (iv 0 1 r) ∧ ((r.toInt = 1 ∧ ((mHas gm lg x.toNatClampNeg 508440638821).toInt + (mHas gm lg x.toNatClampNeg 7497062).toInt + (gm 29 x.toNatClampNeg).toInt = 1 ∧ ((mHas gm lg x.toNatClampNeg 7497062).toInt = 0 ∨ (mIsW gm lg x.toNatClampNeg 7497062).toInt = 1))) ∨ (r.toInt = 0 ∧ ¬ ((mHas gm lg x.toNatClampNeg 508440638821).toInt + (mHas gm lg x.toNatClampNeg 7497062).toInt + (gm 29 x.toNatClampNeg).toInt = 1 ∧ ((mHas gm lg x.toNatClampNeg 7497062).toInt = 0 ∨ (mIsW gm lg x.toNatClampNeg 7497062).toInt = 1)))) ∧ v = (sg, gm, lg)) (MB dC dI h0 ad cid A) A) ([.ref h0, .int x] : List Value).toArray s 0 0 A) (F0 m 32 ls [.int y0_32, .int y1_32]) := by
    intro y0_32 y1_32 hsx1_32 hy0_32 hy1_32 u32 u16 H locs ls hP hD hS hl
    refine lv_iadd hx hb dX13_isGoodHolder_32 ?_
    refine lv_topi (fun z_1 ez_1 => ?_)
    have hz_1 : iv 0 2 z_1 := iv_of ez_1 (iv_add hy1_32 hy0_32 (by decide))
    have tz_1 : z_1.toInt = (y1_32 : Int32).toInt + (y0_32 : Int32).toInt := by rw [ez_1]; exact iv_addE hy1_32 hy0_32 (by decide)
    refine lv_aload_n hx hb dX13_isGoodHolder_33 rfl (lv_at hl 0 rfl) ?_
    refine mr_get (v := .ref (ad 29)) hx hb htb inX13 hown hK hP 29 (by decide) (htb _ kw_185) rfl dX13_isGoodHolder_34 ?_
    refine lv_iload_n hx hb dX13_isGoodHolder_37 rfl (lv_at hl 1 rfl) ?_
    refine mr_iald hx hb hK hP 22 (k := 29) rfl rfl rfl (show vp_in x 80 from (iv_in hsx1_32 (by decide))) dX13_isGoodHolder_38 ?_
    refine lv_topi (fun z_2 ez_2 => ?_)
    have hz_2 : iv 0 80 z_2 := iv_of ez_2 (MI_a hI 29 hsx1_32 (by decide))
    refine lv_iadd hx hb dX13_isGoodHolder_39 ?_
    refine lv_topi (fun z_3 ez_3 => ?_)
    have hz_3 : iv 0 82 z_3 := iv_of ez_3 (iv_add hz_1 hz_2 (by decide))
    have tz_3 : z_3.toInt = (z_1 : Int32).toInt + (z_2 : Int32).toInt := by rw [ez_3]; exact iv_addE hz_1 hz_2 (by decide)
    refine lv_istore_n (lv' := [(2, .int z_3), (0, .ref h0), (1, .int x)]) hx hb dX13_isGoodHolder_40 rfl hl (by decide) rfl (fun ls hl => ?_)
    refine lv_iload_n hx hb dX13_isGoodHolder_41 rfl (lv_at hl 0 rfl) ?_
    refine lv_iconst (v := 1) hx hb dX13_isGoodHolder_42 (by decide) ?_
    refine lv_icmp_ne (tgt := 72) hx hb dX13_isGoodHolder_43 (by decide) (fun c_4 => ?_) (fun c_4 => ?_)
    · have d_5 : ¬ (z_3 : Int32).toInt = 1 := lv_neT c_4 rfl
      exact hj72 z_3 hz_3 hsx1_32 ((by have := (mHas_iv (gm := gm) (lg := lg) (x := x.toNatClampNeg) 508440638821).1; have := (mHas_iv (gm := gm) (lg := lg) (x := x.toNatClampNeg) 508440638821).2; have := (mHas_iv (gm := gm) (lg := lg) (x := x.toNatClampNeg) 7497062).1; have := (mHas_iv (gm := gm) (lg := lg) (x := x.toNatClampNeg) 7497062).2; have := congrArg Int32.toInt ez_2; have := i32_0; have := i32_1; have := i32_2; have := i32_m1; have := (hsx1_32).1; have := (hsx1_32).2; have := (hy0_32).1; have := (hy0_32).2; have := (hy1_32).1; have := (hy1_32).2; have := (hz_1).1; have := (hz_1).2; have := (hz_2).1; have := (hz_2).2; have := (hz_3).1; have := (hz_3).2; omega)) _ _ _ hP hD hS (lv_sub hl [0, 1, 2] rfl)
    · have h_6 : iv 1 1 z_3 := iv_eq c_4 hz_3 (iv_k (by decide) : iv 1 1 1) (by decide)
      refine lv_aload_n hx hb dX13_isGoodHolder_46 rfl (lv_at hl 1 rfl) ?_
      refine lv_iload_n hx hb dX13_isGoodHolder_47 rfl (lv_at hl 2 rfl) ?_
      refine lv_ldc2 (own := RX13) (v := 7497062) hx hb hown (htb _ kw_141) dX13_isGoodHolder_48 ?_
      refine mr_calli (rest := []) ⟨hx, hb, hml, hown, htb⟩ (f_has l dC dI h0 ad cid sg gm lg x 7497062 hI hsx1_32) (cwV 2 htb (gd_V kw_916 kw_917 kw_918 kw_5 kw_1543) rfl rfl rfl (by decide +kernel) ⟨Nat.le_of_ble_eq_true rfl, Nat.le_of_ble_eq_true rfl⟩) rfl hl.1 rfl (Nat.le_of_ble_eq_true rfl) dX13_isGoodHolder_51 ⟨Nat.zero_le _, Nat.zero_le _⟩ hK hP hD hS hA (fun r_7 u_8 H locs hw hP hD hS => ?_)
      obtain ⟨hr_7, fH_r_7, rfl⟩ := hw
      have hP : va_P (dC, dI) vwCl (mW h0 ad cid sg gm lg) H := hP
      have hD : va_D A (mW h0 ad cid sg gm lg) := hD
      refine lv_if_eq (tgt := 68) hx hb dX13_isGoodHolder_54 (by decide) (fun c_9 => ?_) (fun c_9 => ?_)
      · have h_10 : iv 0 0 r_7 := iv_eq c_9 hr_7 (iv_k (by decide) : iv 0 0 0) (by decide)
        exact hj68 z_3 h_6 hsx1_32 ((by have := (mHas_iv (gm := gm) (lg := lg) (x := x.toNatClampNeg) 508440638821).1; have := (mHas_iv (gm := gm) (lg := lg) (x := x.toNatClampNeg) 508440638821).2; have := (mHas_iv (gm := gm) (lg := lg) (x := x.toNatClampNeg) 7497062).1; have := (mHas_iv (gm := gm) (lg := lg) (x := x.toNatClampNeg) 7497062).2; have := congrArg Int32.toInt ez_2; have := i32_0; have := i32_1; have := i32_2; have := i32_m1; have := (hsx1_32).1; have := (hsx1_32).2; have := (hy0_32).1; have := (hy0_32).2; have := (hy1_32).1; have := (hy1_32).2; have := (hz_1).1; have := (hz_1).2; have := (hz_2).1; have := (hz_2).2; have := (h_6).1; have := (h_6).2; have := (h_10).1; have := (h_10).2; have := congrArg Int32.toInt fH_r_7; omega)) _ _ _ hP hD hS (lv_sub hl [0, 1, 2] rfl)
      · have h_11 : iv 1 1 r_7 := iv_neL c_9 hr_7 (by decide)
        refine lv_aload_n hx hb dX13_isGoodHolder_57 rfl (lv_at hl 1 rfl) ?_
        refine lv_iload_n hx hb dX13_isGoodHolder_58 rfl (lv_at hl 2 rfl) ?_
        refine lv_ldc2 (own := RX13) (v := 7497062) hx hb hown (htb _ kw_141) dX13_isGoodHolder_59 ?_
        refine mr_calli (rest := []) ⟨hx, hb, hml, hown, htb⟩ (f_isWord l dC dI h0 ad cid sg gm lg x 7497062 hI hsx1_32) (cwV 2 htb (gd_V kw_910 kw_911 kw_912 kw_5 kw_1541) rfl rfl rfl (by decide +kernel) ⟨Nat.le_of_ble_eq_true rfl, Nat.le_of_ble_eq_true rfl⟩) rfl hl.1 rfl (Nat.le_of_ble_eq_true rfl) dX13_isGoodHolder_62 ⟨Nat.zero_le _, Nat.zero_le _⟩ hK hP hD hS hA (fun r_12 u_13 H locs hw hP hD hS => ?_)
        obtain ⟨hr_12, fI_r_12, rfl⟩ := hw
        have hP : va_P (dC, dI) vwCl (mW h0 ad cid sg gm lg) H := hP
        have hD : va_D A (mW h0 ad cid sg gm lg) := hD
        refine lv_if_eq (tgt := 72) hx hb dX13_isGoodHolder_65 (by decide) (fun c_14 => ?_) (fun c_14 => ?_)
        · have h_15 : iv 0 0 r_12 := iv_eq c_14 hr_12 (iv_k (by decide) : iv 0 0 0) (by decide)
          exact hj72 z_3 (iv_w h_6 (by decide)) hsx1_32 ((by have := (mHas_iv (gm := gm) (lg := lg) (x := x.toNatClampNeg) 508440638821).1; have := (mHas_iv (gm := gm) (lg := lg) (x := x.toNatClampNeg) 508440638821).2; have := (mHas_iv (gm := gm) (lg := lg) (x := x.toNatClampNeg) 7497062).1; have := (mHas_iv (gm := gm) (lg := lg) (x := x.toNatClampNeg) 7497062).2; have := congrArg Int32.toInt ez_2; have := i32_0; have := i32_1; have := i32_2; have := i32_m1; have := (hsx1_32).1; have := (hsx1_32).2; have := (hy0_32).1; have := (hy0_32).2; have := (hy1_32).1; have := (hy1_32).2; have := (hz_1).1; have := (hz_1).2; have := (hz_2).1; have := (hz_2).2; have := (h_6).1; have := (h_6).2; have := (h_11).1; have := (h_11).2; have := (h_15).1; have := (h_15).2; have := congrArg Int32.toInt fH_r_7; have := congrArg Int32.toInt fI_r_12; omega)) _ _ _ hP hD hS (lv_sub hl [0, 1, 2] rfl)
        · have h_16 : iv 1 1 r_12 := iv_neL c_14 hr_12 (by decide)
          exact hj68 z_3 h_6 hsx1_32 ((by have := (mHas_iv (gm := gm) (lg := lg) (x := x.toNatClampNeg) 508440638821).1; have := (mHas_iv (gm := gm) (lg := lg) (x := x.toNatClampNeg) 508440638821).2; have := (mHas_iv (gm := gm) (lg := lg) (x := x.toNatClampNeg) 7497062).1; have := (mHas_iv (gm := gm) (lg := lg) (x := x.toNatClampNeg) 7497062).2; have := congrArg Int32.toInt ez_2; have := i32_0; have := i32_1; have := i32_2; have := i32_m1; have := (hsx1_32).1; have := (hsx1_32).2; have := (hy0_32).1; have := (hy0_32).2; have := (hy1_32).1; have := (hy1_32).2; have := (hz_1).1; have := (hz_1).2; have := (hz_2).1; have := (hz_2).2; have := (h_6).1; have := (h_6).2; have := (h_11).1; have := (h_11).2; have := (h_16).1; have := (h_16).2; have := congrArg Int32.toInt fH_r_7; have := congrArg Int32.toInt fI_r_12; omega)) _ _ _ hP hD hS (lv_sub hl [0, 1, 2] rfl)
  have hj16 : ∀ (y0_16 : Int32) (_ : iv 0 79 x) (_ : iv 0 1 y0_16) (_ : y0_16.toInt = (mHas gm lg x.toNatClampNeg 508440638821).toInt) (H : Heap) (locs : List Loc) (ls : Array Slot), va_P (dC, dI) vwCl (mW h0 ad cid sg gm lg) H → va_D A (mW h0 ad cid sg gm lg) → va_S A s.heap H locs → lv_has ls 3 [(0, .ref h0), (1, .int x)] → W p l e (headSpec wm_X13_isGoodHolder ({ frames := 2, cells := 0, slots := 0, locals := 49 })).room s m ([.ref h0, .int x] : List Value).toArray below meth c H locs 0 0 (MQ below (va_Qi (fun r v => (iv 0 1 r) ∧ ((r.toInt = 1 ∧ ((mHas gm lg x.toNatClampNeg 508440638821).toInt + (mHas gm lg x.toNatClampNeg 7497062).toInt + (gm 29 x.toNatClampNeg).toInt = 1 ∧ ((mHas gm lg x.toNatClampNeg 7497062).toInt = 0 ∨ (mIsW gm lg x.toNatClampNeg 7497062).toInt = 1))) ∨ (r.toInt = 0 ∧ ¬ ((mHas gm lg x.toNatClampNeg 508440638821).toInt + (mHas gm lg x.toNatClampNeg 7497062).toInt + (gm 29 x.toNatClampNeg).toInt = 1 ∧ ((mHas gm lg x.toNatClampNeg 7497062).toInt = 0 ∨ (mIsW gm lg x.toNatClampNeg 7497062).toInt = 1)))) ∧ v = (sg, gm, lg)) (MB dC dI h0 ad cid A) A) ([.ref h0, .int x] : List Value).toArray s 0 0 A) (F0 m 16 ls [.int y0_16]) := by
    intro y0_16 hsx1_16 hy0_16 u16 H locs ls hP hD hS hl
    refine lv_aload_n hx hb dX13_isGoodHolder_16 rfl (lv_at hl 0 rfl) ?_
    refine lv_iload_n hx hb dX13_isGoodHolder_17 rfl (lv_at hl 1 rfl) ?_
    refine lv_ldc2 (own := RX13) (v := 7497062) hx hb hown (htb _ kw_141) dX13_isGoodHolder_18 ?_
    refine mr_calli (rest := [.int y0_16]) ⟨hx, hb, hml, hown, htb⟩ (f_has l dC dI h0 ad cid sg gm lg x 7497062 hI hsx1_16) (cwV 2 htb (gd_V kw_916 kw_917 kw_918 kw_5 kw_1543) rfl rfl rfl (by decide +kernel) ⟨Nat.le_of_ble_eq_true rfl, Nat.le_of_ble_eq_true rfl⟩) rfl hl.1 rfl (Nat.le_of_ble_eq_true rfl) dX13_isGoodHolder_21 ⟨Nat.zero_le _, Nat.zero_le _⟩ hK hP hD hS hA (fun r_17 u_18 H locs hw hP hD hS => ?_)
    obtain ⟨hr_17, fH_r_17, rfl⟩ := hw
    have hP : va_P (dC, dI) vwCl (mW h0 ad cid sg gm lg) H := hP
    have hD : va_D A (mW h0 ad cid sg gm lg) := hD
    refine lv_if_eq (tgt := 31) hx hb dX13_isGoodHolder_24 (by decide) (fun c_19 => ?_) (fun c_19 => ?_)
    · have h_20 : iv 0 0 r_17 := iv_eq c_19 hr_17 (iv_k (by decide) : iv 0 0 0) (by decide)
      refine lv_iconst (v := 0) hx hb dX13_isGoodHolder_31 (by decide) ?_
      exact hj32 0 y0_16 hsx1_16 (iv_w (iv_k (by decide) : iv 0 0 0) (by decide)) hy0_16 ((by have := (mHas_iv (gm := gm) (lg := lg) (x := x.toNatClampNeg) 508440638821).1; have := (mHas_iv (gm := gm) (lg := lg) (x := x.toNatClampNeg) 508440638821).2; have := (mHas_iv (gm := gm) (lg := lg) (x := x.toNatClampNeg) 7497062).1; have := (mHas_iv (gm := gm) (lg := lg) (x := x.toNatClampNeg) 7497062).2; have := i32_0; have := i32_1; have := i32_2; have := i32_m1; have := (hsx1_16).1; have := (hsx1_16).2; have := (hy0_16).1; have := (hy0_16).2; have := (h_20).1; have := (h_20).2; have := congrArg Int32.toInt fH_r_17; omega)) (u16) _ _ _ hP hD hS (lv_sub hl [0, 1] rfl)
    · have h_21 : iv 1 1 r_17 := iv_neL c_19 hr_17 (by decide)
      refine lv_iconst (v := 1) hx hb dX13_isGoodHolder_27 (by decide) ?_
      refine lv_goto (tgt := 32) hx hb dX13_isGoodHolder_28 (by decide) ?_
      exact hj32 1 y0_16 hsx1_16 (iv_w (iv_k (by decide) : iv 1 1 1) (by decide)) hy0_16 ((by have := (mHas_iv (gm := gm) (lg := lg) (x := x.toNatClampNeg) 508440638821).1; have := (mHas_iv (gm := gm) (lg := lg) (x := x.toNatClampNeg) 508440638821).2; have := (mHas_iv (gm := gm) (lg := lg) (x := x.toNatClampNeg) 7497062).1; have := (mHas_iv (gm := gm) (lg := lg) (x := x.toNatClampNeg) 7497062).2; have := i32_0; have := i32_1; have := i32_2; have := i32_m1; have := (hsx1_16).1; have := (hsx1_16).2; have := (hy0_16).1; have := (hy0_16).2; have := (h_21).1; have := (h_21).2; have := congrArg Int32.toInt fH_r_17; omega)) (u16) _ _ _ hP hD hS (lv_sub hl [0, 1] rfl)
  refine lv_aload_n hx hb dX13_isGoodHolder_0 rfl (lv_at hl 0 rfl) ?_
  refine lv_iload_n hx hb dX13_isGoodHolder_1 rfl (lv_at hl 1 rfl) ?_
  refine lv_ldc2 (own := RX13) (v := 508440638821) hx hb hown (htb _ kw_140) dX13_isGoodHolder_2 ?_
  refine mr_calli (rest := []) ⟨hx, hb, hml, hown, htb⟩ (f_has l dC dI h0 ad cid sg gm lg x 508440638821 hI hvx) (cwV 2 htb (gd_V kw_916 kw_917 kw_918 kw_5 kw_1543) rfl rfl rfl (by decide +kernel) ⟨Nat.le_of_ble_eq_true rfl, Nat.le_of_ble_eq_true rfl⟩) rfl hl.1 rfl (Nat.le_of_ble_eq_true rfl) dX13_isGoodHolder_5 ⟨Nat.zero_le _, Nat.zero_le _⟩ hK hP hD hS hA (fun r_22 u_23 H locs hw hP hD hS => ?_)
  obtain ⟨hr_22, fH_r_22, rfl⟩ := hw
  have hP : va_P (dC, dI) vwCl (mW h0 ad cid sg gm lg) H := hP
  have hD : va_D A (mW h0 ad cid sg gm lg) := hD
  refine lv_if_eq (tgt := 15) hx hb dX13_isGoodHolder_8 (by decide) (fun c_24 => ?_) (fun c_24 => ?_)
  · have h_25 : iv 0 0 r_22 := iv_eq c_24 hr_22 (iv_k (by decide) : iv 0 0 0) (by decide)
    refine lv_iconst (v := 0) hx hb dX13_isGoodHolder_15 (by decide) ?_
    exact hj16 0 hvx (iv_w (iv_k (by decide) : iv 0 0 0) (by decide)) ((by have := (mHas_iv (gm := gm) (lg := lg) (x := x.toNatClampNeg) 508440638821).1; have := (mHas_iv (gm := gm) (lg := lg) (x := x.toNatClampNeg) 508440638821).2; have := (mHas_iv (gm := gm) (lg := lg) (x := x.toNatClampNeg) 7497062).1; have := (mHas_iv (gm := gm) (lg := lg) (x := x.toNatClampNeg) 7497062).2; have := i32_0; have := i32_1; have := i32_2; have := i32_m1; have := (hvx).1; have := (hvx).2; have := (h_25).1; have := (h_25).2; have := congrArg Int32.toInt fH_r_22; omega)) _ _ _ hP hD hS (lv_sub hl [0, 1] rfl)
  · have h_26 : iv 1 1 r_22 := iv_neL c_24 hr_22 (by decide)
    refine lv_iconst (v := 1) hx hb dX13_isGoodHolder_11 (by decide) ?_
    refine lv_goto (tgt := 16) hx hb dX13_isGoodHolder_12 (by decide) ?_
    exact hj16 1 hvx (iv_w (iv_k (by decide) : iv 1 1 1) (by decide)) ((by have := (mHas_iv (gm := gm) (lg := lg) (x := x.toNatClampNeg) 508440638821).1; have := (mHas_iv (gm := gm) (lg := lg) (x := x.toNatClampNeg) 508440638821).2; have := (mHas_iv (gm := gm) (lg := lg) (x := x.toNatClampNeg) 7497062).1; have := (mHas_iv (gm := gm) (lg := lg) (x := x.toNatClampNeg) 7497062).2; have := i32_0; have := i32_1; have := i32_2; have := i32_m1; have := (hvx).1; have := (hvx).2; have := (h_26).1; have := (h_26).2; have := congrArg Int32.toInt fH_r_22; omega)) _ _ _ hP hD hS (lv_sub hl [0, 1] rfl)
