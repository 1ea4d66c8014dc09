/-- what attributes an element of this kind may have -/
def ALW (k n : Int) : Prop := (k = 2 ∧ (n = 1851878757 ∨ n = 29807)) ∨ (k = 3 ∧ (n = 26980 ∨ n = 427020088179 ∨ n = 123563833388660 ∨ n = 7017298113369039732 ∨ n = 495589486693 ∨ n = 1818327673 ∨ n = 28817527407604345 ∨ n = 120282512125796 ∨ n = 1768843636 ∨ n = 28259044220366713 ∨ n = 28259031083541619)) ∨ (k = 4 ∧ (n = 24948 ∨ n = 1954115685 ∨ n = 508440638821 ∨ n = 7497062)) ∨ (k = 5 ∧ (n = 1851878757 ∨ n = 508440638821 ∨ n = 7497062)) ∨ (k = 8 ∧ (n = 1650811246)) ∨ (k = 10 ∧ (n = 1851878757 ∨ n = 1650811246))

set_option maxHeartbeats 4000000 in
set_option maxRecDepth 100000 in
theorem a_isAllowed2 (l : Launch) (dC : Nat → ClassId) (dI : Nat → Nat → Nat) (h0 : Nat) (ad : Nat → Nat) (cid : Nat → ClassId) (sg : Nat → Int32) (gm : Nat → Nat → Int32) (lg : Nat → Nat → Int64) (x : Int32) (nn : Int64) (hI : MI sg gm) : MMi l dC dI yX13_isAllowed wm_X13_isAllowed ({ frames := 0, cells := 0, slots := 0, locals := 0 }) h0 ad cid [.int x, .long nn] sg gm lg (fun r v => (iv 0 1 r) ∧ ((r.toInt = 1 ∧ (ALW x.toInt nn.toInt)) ∨ (r.toInt = 0 ∧ ¬ (ALW x.toInt nn.toInt))) ∧ v = (sg, gm, lg)) := by
  intro sz
  refine Met.ofW (cc := cX13_isAllowed) (maxL := 4) (ret := (some .boolean)) (by decide) rfl ?_
  intro p e s m args below meth c s₁ B hml hv
  obtain ⟨rfl, hsz, hP, hK, hD0⟩ := hv
  have hx := B.exec
  have hb := B.bytes
  have hr := B.returns
  have hts := atoms_spec (ws := wm_X13_isAllowed) B.pre
  have htb := fun (w : Cond) (h : w ∈ tb) => hts w (List.mem_cons_of_mem _ h)
  have hown : s.vm.findClass RX13 = some m.cls := findClass_of_methodNamed B.named
  have hlocks := B.notSynchronized
  subst hsz
  have hD := hD0.self (sz := s.heap.size)
  generalize hAe : va_A (mW h0 ad cid sg gm lg) s.heap.size = A at hD ⊢
  have hA : ∀ q : Nat, s.heap.size ≤ q → A q := fun q h => by rw [← hAe]; exact Or.inr h
  have hS : va_S A s.heap s.heap [] := va_S.rf
  have hl := lv_entry ([.ref h0, .int x, .long nn]) (n := 4) (Nat.le_of_ble_eq_true rfl)
  rw [lg_entry_eq]
  generalize (lg_sl ([.ref h0, .int x, .long nn]) ++ List.replicate (4 - (lg_sl ([.ref h0, .int x, .long nn])).length) Slot.unset).toArray = ls at hl ⊢
  have hl : lv_has ls 4 [(0, .ref h0), (1, .int x), (2, .long nn)] := hl
  have hj73 : ∀ (y0_73 : Int32) (_ : iv 2 2 x) (_ : iv 0 1 y0_73) (_ : (y0_73.toInt = 1 ∧ (ALW x.toInt nn.toInt)) ∨ (y0_73.toInt = 0 ∧ ¬ (ALW x.toInt nn.toInt))) (H : Heap) (locs : List Loc) (ls : Array Slot), va_P (dC, dI) vwCl (mW h0 ad cid sg gm lg) H → va_D A (mW h0 ad cid sg gm lg) → va_S A s.heap H locs → lv_has ls 4 [(0, .ref h0), (1, .int x), (2, .long nn)] → W p l e (headSpec wm_X13_isAllowed ({ frames := 0, cells := 0, slots := 0, locals := 0 })).room s m ([.ref h0, .int x, .long nn] : List Value).toArray below meth c H locs 0 0 (MQ below (va_Qi (fun r v => (iv 0 1 r) ∧ ((r.toInt = 1 ∧ (ALW x.toInt nn.toInt)) ∨ (r.toInt = 0 ∧ ¬ (ALW x.toInt nn.toInt))) ∧ v = (sg, gm, lg)) (MB dC dI h0 ad cid A) A) ([.ref h0, .int x, .long nn] : List Value).toArray s 0 0 A) (F0 m 73 ls [.int y0_73]) := by
    intro y0_73 hsx1_73 hy0_73 u73 H locs ls hP hD hS hl
    exact W.zret (v := y0_73) hx hb hr (iv_nb hy0_73) (fun t ht hW => ⟨⟨y0_73, (sg, gm, lg), rfl, ⟨hy0_73, (u73), rfl⟩, by rw [ht]; exact hP, va_K.moved hW.alike hK, hD⟩, hS.F ht⟩) hS.2.2 dX13_isAllowed_73
  have hj68 : ∀ (_ : iv 2 2 x) (_ : (nn.toInt = 1851878757 ∨ nn.toInt = 29807)) (_ : x.toInt = 2) (H : Heap) (locs : List Loc) (ls : Array Slot), va_P (dC, dI) vwCl (mW h0 ad cid sg gm lg) H → va_D A (mW h0 ad cid sg gm lg) → va_S A s.heap H locs → lv_has ls 4 [(0, .ref h0), (1, .int x), (2, .long nn)] → W p l e (headSpec wm_X13_isAllowed ({ frames := 0, cells := 0, slots := 0, locals := 0 })).room s m ([.ref h0, .int x, .long nn] : List Value).toArray below meth c H locs 0 0 (MQ below (va_Qi (fun r v => (iv 0 1 r) ∧ ((r.toInt = 1 ∧ (ALW x.toInt nn.toInt)) ∨ (r.toInt = 0 ∧ ¬ (ALW x.toInt nn.toInt))) ∧ v = (sg, gm, lg)) (MB dC dI h0 ad cid A) A) ([.ref h0, .int x, .long nn] : List Value).toArray s 0 0 A) (F0 m 68 ls []) := by
    intro  hsx1_68 u68 hk H locs ls hP hD hS hl
    refine lv_iconst (v := 1) hx hb dX13_isAllowed_68 (by decide) ?_
    refine lv_goto (tgt := 73) hx hb dX13_isAllowed_69 (by decide) ?_
    exact hj73 1 hsx1_68 (iv_w (iv_k (by decide) : iv 1 1 1) (by decide)) ((by have hk9 : x.toInt = 2 := (hk); exact Or.inl ⟨rfl, Or.inl ⟨hk9, u68⟩⟩)) _ _ _ hP hD hS (lv_sub hl [0, 1, 2] rfl)
  have hj167 : ∀ (y0_167 : Int32) (_ : iv 3 3 x) (_ : iv 0 1 y0_167) (_ : (y0_167.toInt = 1 ∧ (ALW x.toInt nn.toInt)) ∨ (y0_167.toInt = 0 ∧ ¬ (ALW x.toInt nn.toInt))) (H : Heap) (locs : List Loc) (ls : Array Slot), va_P (dC, dI) vwCl (mW h0 ad cid sg gm lg) H → va_D A (mW h0 ad cid sg gm lg) → va_S A s.heap H locs → lv_has ls 4 [(0, .ref h0), (1, .int x), (2, .long nn)] → W p l e (headSpec wm_X13_isAllowed ({ frames := 0, cells := 0, slots := 0, locals := 0 })).room s m ([.ref h0, .int x, .long nn] : List Value).toArray below meth c H locs 0 0 (MQ below (va_Qi (fun r v => (iv 0 1 r) ∧ ((r.toInt = 1 ∧ (ALW x.toInt nn.toInt)) ∨ (r.toInt = 0 ∧ ¬ (ALW x.toInt nn.toInt))) ∧ v = (sg, gm, lg)) (MB dC dI h0 ad cid A) A) ([.ref h0, .int x, .long nn] : List Value).toArray s 0 0 A) (F0 m 167 ls [.int y0_167]) := by
    intro y0_167 hsx1_167 hy0_167 u167 H locs ls hP hD hS hl
    exact W.zret (v := y0_167) hx hb hr (iv_nb hy0_167) (fun t ht hW => ⟨⟨y0_167, (sg, gm, lg), rfl, ⟨hy0_167, (u167), rfl⟩, by rw [ht]; exact hP, va_K.moved hW.alike hK, hD⟩, hS.F ht⟩) hS.2.2 dX13_isAllowed_167
  have hj162 : ∀ (_ : iv 3 3 x) (_ : (nn.toInt = 26980 ∨ nn.toInt = 427020088179 ∨ nn.toInt = 123563833388660 ∨ nn.toInt = 7017298113369039732 ∨ nn.toInt = 495589486693 ∨ nn.toInt = 1818327673 ∨ nn.toInt = 28817527407604345 ∨ nn.toInt = 120282512125796 ∨ nn.toInt = 1768843636 ∨ nn.toInt = 28259044220366713 ∨ nn.toInt = 28259031083541619)) (_ : x.toInt = 3) (H : Heap) (locs : List Loc) (ls : Array Slot), va_P (dC, dI) vwCl (mW h0 ad cid sg gm lg) H → va_D A (mW h0 ad cid sg gm lg) → va_S A s.heap H locs → lv_has ls 4 [(0, .ref h0), (1, .int x), (2, .long nn)] → W p l e (headSpec wm_X13_isAllowed ({ frames := 0, cells := 0, slots := 0, locals := 0 })).room s m ([.ref h0, .int x, .long nn] : List Value).toArray below meth c H locs 0 0 (MQ below (va_Qi (fun r v => (iv 0 1 r) ∧ ((r.toInt = 1 ∧ (ALW x.toInt nn.toInt)) ∨ (r.toInt = 0 ∧ ¬ (ALW x.toInt nn.toInt))) ∧ v = (sg, gm, lg)) (MB dC dI h0 ad cid A) A) ([.ref h0, .int x, .long nn] : List Value).toArray s 0 0 A) (F0 m 162 ls []) := by
    intro  hsx1_162 u162 hk H locs ls hP hD hS hl
    refine lv_iconst (v := 1) hx hb dX13_isAllowed_162 (by decide) ?_
    refine lv_goto (tgt := 167) hx hb dX13_isAllowed_163 (by decide) ?_
    exact hj167 1 hsx1_162 (iv_w (iv_k (by decide) : iv 1 1 1) (by decide)) ((by have hk9 : x.toInt = 3 := (hk); exact Or.inl ⟨rfl, Or.inr (Or.inl ⟨hk9, u162⟩)⟩)) _ _ _ hP hD hS (lv_sub hl [0, 1, 2] rfl)
  have hj205 : ∀ (y0_205 : Int32) (_ : iv 4 4 x) (_ : iv 0 1 y0_205) (_ : (y0_205.toInt = 1 ∧ (ALW x.toInt nn.toInt)) ∨ (y0_205.toInt = 0 ∧ ¬ (ALW x.toInt nn.toInt))) (H : Heap) (locs : List Loc) (ls : Array Slot), va_P (dC, dI) vwCl (mW h0 ad cid sg gm lg) H → va_D A (mW h0 ad cid sg gm lg) → va_S A s.heap H locs → lv_has ls 4 [(0, .ref h0), (1, .int x), (2, .long nn)] → W p l e (headSpec wm_X13_isAllowed ({ frames := 0, cells := 0, slots := 0, locals := 0 })).room s m ([.ref h0, .int x, .long nn] : List Value).toArray below meth c H locs 0 0 (MQ below (va_Qi (fun r v => (iv 0 1 r) ∧ ((r.toInt = 1 ∧ (ALW x.toInt nn.toInt)) ∨ (r.toInt = 0 ∧ ¬ (ALW x.toInt nn.toInt))) ∧ v = (sg, gm, lg)) (MB dC dI h0 ad cid A) A) ([.ref h0, .int x, .long nn] : List Value).toArray s 0 0 A) (F0 m 205 ls [.int y0_205]) := by
    intro y0_205 hsx1_205 hy0_205 u205 H locs ls hP hD hS hl
    exact W.zret (v := y0_205) hx hb hr (iv_nb hy0_205) (fun t ht hW => ⟨⟨y0_205, (sg, gm, lg), rfl, ⟨hy0_205, (u205), rfl⟩, by rw [ht]; exact hP, va_K.moved hW.alike hK, hD⟩, hS.F ht⟩) hS.2.2 dX13_isAllowed_205
  have hj200 : ∀ (_ : iv 4 4 x) (_ : (nn.toInt = 24948 ∨ nn.toInt = 1954115685 ∨ nn.toInt = 508440638821 ∨ nn.toInt = 7497062)) (_ : x.toInt = 4) (H : Heap) (locs : List Loc) (ls : Array Slot), va_P (dC, dI) vwCl (mW h0 ad cid sg gm lg) H → va_D A (mW h0 ad cid sg gm lg) → va_S A s.heap H locs → lv_has ls 4 [(0, .ref h0), (1, .int x), (2, .long nn)] → W p l e (headSpec wm_X13_isAllowed ({ frames := 0, cells := 0, slots := 0, locals := 0 })).room s m ([.ref h0, .int x, .long nn] : List Value).toArray below meth c H locs 0 0 (MQ below (va_Qi (fun r v => (iv 0 1 r) ∧ ((r.toInt = 1 ∧ (ALW x.toInt nn.toInt)) ∨ (r.toInt = 0 ∧ ¬ (ALW x.toInt nn.toInt))) ∧ v = (sg, gm, lg)) (MB dC dI h0 ad cid A) A) ([.ref h0, .int x, .long nn] : List Value).toArray s 0 0 A) (F0 m 200 ls []) := by
    intro  hsx1_200 u200 hk H locs ls hP hD hS hl
    refine lv_iconst (v := 1) hx hb dX13_isAllowed_200 (by decide) ?_
    refine lv_goto (tgt := 205) hx hb dX13_isAllowed_201 (by decide) ?_
    exact hj205 1 hsx1_200 (iv_w (iv_k (by decide) : iv 1 1 1) (by decide)) ((by have hk9 : x.toInt = 4 := (hk); exact Or.inl ⟨rfl, Or.inr (Or.inr (Or.inl ⟨hk9, u200⟩))⟩)) _ _ _ hP hD hS (lv_sub hl [0, 1, 2] rfl)
  have hj235 : ∀ (y0_235 : Int32) (_ : iv 5 5 x) (_ : iv 0 1 y0_235) (_ : (y0_235.toInt = 1 ∧ (ALW x.toInt nn.toInt)) ∨ (y0_235.toInt = 0 ∧ ¬ (ALW x.toInt nn.toInt))) (H : Heap) (locs : List Loc) (ls : Array Slot), va_P (dC, dI) vwCl (mW h0 ad cid sg gm lg) H → va_D A (mW h0 ad cid sg gm lg) → va_S A s.heap H locs → lv_has ls 4 [(0, .ref h0), (1, .int x), (2, .long nn)] → W p l e (headSpec wm_X13_isAllowed ({ frames := 0, cells := 0, slots := 0, locals := 0 })).room s m ([.ref h0, .int x, .long nn] : List Value).toArray below meth c H locs 0 0 (MQ below (va_Qi (fun r v => (iv 0 1 r) ∧ ((r.toInt = 1 ∧ (ALW x.toInt nn.toInt)) ∨ (r.toInt = 0 ∧ ¬ (ALW x.toInt nn.toInt))) ∧ v = (sg, gm, lg)) (MB dC dI h0 ad cid A) A) ([.ref h0, .int x, .long nn] : List Value).toArray s 0 0 A) (F0 m 235 ls [.int y0_235]) := by
    intro y0_235 hsx1_235 hy0_235 u235 H locs ls hP hD hS hl
    exact W.zret (v := y0_235) hx hb hr (iv_nb hy0_235) (fun t ht hW => ⟨⟨y0_235, (sg, gm, lg), rfl, ⟨hy0_235, (u235), rfl⟩, by rw [ht]; exact hP, va_K.moved hW.alike hK, hD⟩, hS.F ht⟩) hS.2.2 dX13_isAllowed_235
  have hj230 : ∀ (_ : iv 5 5 x) (_ : (nn.toInt = 1851878757 ∨ nn.toInt = 508440638821 ∨ nn.toInt = 7497062)) (_ : x.toInt = 5) (H : Heap) (locs : List Loc) (ls : Array Slot), va_P (dC, dI) vwCl (mW h0 ad cid sg gm lg) H → va_D A (mW h0 ad cid sg gm lg) → va_S A s.heap H locs → lv_has ls 4 [(0, .ref h0), (1, .int x), (2, .long nn)] → W p l e (headSpec wm_X13_isAllowed ({ frames := 0, cells := 0, slots := 0, locals := 0 })).room s m ([.ref h0, .int x, .long nn] : List Value).toArray below meth c H locs 0 0 (MQ below (va_Qi (fun r v => (iv 0 1 r) ∧ ((r.toInt = 1 ∧ (ALW x.toInt nn.toInt)) ∨ (r.toInt = 0 ∧ ¬ (ALW x.toInt nn.toInt))) ∧ v = (sg, gm, lg)) (MB dC dI h0 ad cid A) A) ([.ref h0, .int x, .long nn] : List Value).toArray s 0 0 A) (F0 m 230 ls []) := by
    intro  hsx1_230 u230 hk H locs ls hP hD hS hl
    refine lv_iconst (v := 1) hx hb dX13_isAllowed_230 (by decide) ?_
    refine lv_goto (tgt := 235) hx hb dX13_isAllowed_231 (by decide) ?_
    exact hj235 1 hsx1_230 (iv_w (iv_k (by decide) : iv 1 1 1) (by decide)) ((by have hk9 : x.toInt = 5 := (hk); exact Or.inl ⟨rfl, Or.inr (Or.inr (Or.inr (Or.inl ⟨hk9, u230⟩)))⟩)) _ _ _ hP hD hS (lv_sub hl [0, 1, 2] rfl)
  have hj272 : ∀ (_ : ¬ ALW x.toInt nn.toInt) (H : Heap) (locs : List Loc) (ls : Array Slot), va_P (dC, dI) vwCl (mW h0 ad cid sg gm lg) H → va_D A (mW h0 ad cid sg gm lg) → va_S A s.heap H locs → lv_has ls 4 [(0, .ref h0), (1, .int x), (2, .long nn)] → W p l e (headSpec wm_X13_isAllowed ({ frames := 0, cells := 0, slots := 0, locals := 0 })).room s m ([.ref h0, .int x, .long nn] : List Value).toArray below meth c H locs 0 0 (MQ below (va_Qi (fun r v => (iv 0 1 r) ∧ ((r.toInt = 1 ∧ (ALW x.toInt nn.toInt)) ∨ (r.toInt = 0 ∧ ¬ (ALW x.toInt nn.toInt))) ∧ v = (sg, gm, lg)) (MB dC dI h0 ad cid A) A) ([.ref h0, .int x, .long nn] : List Value).toArray s 0 0 A) (F0 m 272 ls []) := by
    intro  u272 H locs ls hP hD hS hl
    refine lv_iconst (v := 0) hx hb dX13_isAllowed_272 (by decide) ?_
    exact W.zret (v := 0) hx hb hr (iv_nb (iv_w (iv_k (by decide) : iv 0 0 0) (by decide))) (fun t ht hW => ⟨⟨0, (sg, gm, lg), rfl, ⟨(iv_w (iv_k (by decide) : iv 0 0 0) (by decide)), (Or.inr ⟨rfl, u272⟩), rfl⟩, by rw [ht]; exact hP, va_K.moved hW.alike hK, hD⟩, hS.F ht⟩) hS.2.2 dX13_isAllowed_273
  have hj249 : ∀ (y0_249 : Int32) (_ : iv 8 8 x) (_ : iv 0 1 y0_249) (_ : (y0_249.toInt = 1 ∧ (ALW x.toInt nn.toInt)) ∨ (y0_249.toInt = 0 ∧ ¬ (ALW x.toInt nn.toInt))) (H : Heap) (locs : List Loc) (ls : Array Slot), va_P (dC, dI) vwCl (mW h0 ad cid sg gm lg) H → va_D A (mW h0 ad cid sg gm lg) → va_S A s.heap H locs → lv_has ls 4 [(0, .ref h0), (1, .int x), (2, .long nn)] → W p l e (headSpec wm_X13_isAllowed ({ frames := 0, cells := 0, slots := 0, locals := 0 })).room s m ([.ref h0, .int x, .long nn] : List Value).toArray below meth c H locs 0 0 (MQ below (va_Qi (fun r v => (iv 0 1 r) ∧ ((r.toInt = 1 ∧ (ALW x.toInt nn.toInt)) ∨ (r.toInt = 0 ∧ ¬ (ALW x.toInt nn.toInt))) ∧ v = (sg, gm, lg)) (MB dC dI h0 ad cid A) A) ([.ref h0, .int x, .long nn] : List Value).toArray s 0 0 A) (F0 m 249 ls [.int y0_249]) := by
    intro y0_249 hsx1_249 hy0_249 u249 H locs ls hP hD hS hl
    exact W.zret (v := y0_249) hx hb hr (iv_nb hy0_249) (fun t ht hW => ⟨⟨y0_249, (sg, gm, lg), rfl, ⟨hy0_249, (u249), rfl⟩, by rw [ht]; exact hP, va_K.moved hW.alike hK, hD⟩, hS.F ht⟩) hS.2.2 dX13_isAllowed_249
  have hj271 : ∀ (y0_271 : Int32) (_ : iv 10 10 x) (_ : iv 0 1 y0_271) (_ : (y0_271.toInt = 1 ∧ (ALW x.toInt nn.toInt)) ∨ (y0_271.toInt = 0 ∧ ¬ (ALW x.toInt nn.toInt))) (H : Heap) (locs : List Loc) (ls : Array Slot), va_P (dC, dI) vwCl (mW h0 ad cid sg gm lg) H → va_D A (mW h0 ad cid sg gm lg) → va_S A s.heap H locs → lv_has ls 4 [(0, .ref h0), (1, .int x), (2, .long nn)] → W p l e (headSpec wm_X13_isAllowed ({ frames := 0, cells := 0, slots := 0, locals := 0 })).room s m ([.ref h0, .int x, .long nn] : List Value).toArray below meth c H locs 0 0 (MQ below (va_Qi (fun r v => (iv 0 1 r) ∧ ((r.toInt = 1 ∧ (ALW x.toInt nn.toInt)) ∨ (r.toInt = 0 ∧ ¬ (ALW x.toInt nn.toInt))) ∧ v = (sg, gm, lg)) (MB dC dI h0 ad cid A) A) ([.ref h0, .int x, .long nn] : List Value).toArray s 0 0 A) (F0 m 271 ls [.int y0_271]) := by
    intro y0_271 hsx1_271 hy0_271 u271 H locs ls hP hD hS hl
    exact W.zret (v := y0_271) hx hb hr (iv_nb hy0_271) (fun t ht hW => ⟨⟨y0_271, (sg, gm, lg), rfl, ⟨hy0_271, (u271), rfl⟩, by rw [ht]; exact hP, va_K.moved hW.alike hK, hD⟩, hS.F ht⟩) hS.2.2 dX13_isAllowed_271
  have hj266 : ∀ (_ : iv 10 10 x) (_ : (nn.toInt = 1851878757 ∨ nn.toInt = 1650811246)) (_ : x.toInt = 10) (H : Heap) (locs : List Loc) (ls : Array Slot), va_P (dC, dI) vwCl (mW h0 ad cid sg gm lg) H → va_D A (mW h0 ad cid sg gm lg) → va_S A s.heap H locs → lv_has ls 4 [(0, .ref h0), (1, .int x), (2, .long nn)] → W p l e (headSpec wm_X13_isAllowed ({ frames := 0, cells := 0, slots := 0, locals := 0 })).room s m ([.ref h0, .int x, .long nn] : List Value).toArray below meth c H locs 0 0 (MQ below (va_Qi (fun r v => (iv 0 1 r) ∧ ((r.toInt = 1 ∧ (ALW x.toInt nn.toInt)) ∨ (r.toInt = 0 ∧ ¬ (ALW x.toInt nn.toInt))) ∧ v = (sg, gm, lg)) (MB dC dI h0 ad cid A) A) ([.ref h0, .int x, .long nn] : List Value).toArray s 0 0 A) (F0 m 266 ls []) := by
    intro  hsx1_266 u266 hk H locs ls hP hD hS hl
    refine lv_iconst (v := 1) hx hb dX13_isAllowed_266 (by decide) ?_
    refine lv_goto (tgt := 271) hx hb dX13_isAllowed_267 (by decide) ?_
    exact hj271 1 hsx1_266 (iv_w (iv_k (by decide) : iv 1 1 1) (by decide)) ((by have hk9 : x.toInt = 10 := (hk); exact Or.inl ⟨rfl, Or.inr (Or.inr (Or.inr (Or.inr (Or.inr (⟨hk9, u266⟩)))))⟩)) _ _ _ hP hD hS (lv_sub hl [0, 1, 2] rfl)
  refine lv_iload_n hx hb dX13_isAllowed_0 rfl (lv_at hl 1 rfl) ?_
  by_cases c_1 : (x : Int32).toInt = 2
  · refine lv_tableIn (tgt := 52) hx hb dX13_isAllowed_1 (by rw [c_1]; decide) (by rw [c_1]; decide) (by rw [c_1]; rfl) (by decide) ?_
    have h_2 : iv 2 2 x := iv_at c_1
    refine lv_lload_n hx hb dX13_isAllowed_52 rfl (lv_at hl 2 rfl) ?_
    refine lv_ldc2 (own := RX13) (v := 1851878757) hx hb hown (htb _ kw_887) dX13_isAllowed_53 ?_
    refine W.lcmp hx hb dX13_isAllowed_56 ?_
    refine lv_topi (fun z_3 ez_3 => ?_)
    have hz_3 : iv (-1) 1 z_3 := iv_of ez_3 (iv_cmp _ _)
    have hl_z_3 := lg_tr7 ez_3
    rw [show (1851878757 : Int64).toInt = 1851878757 from by decide] at hl_z_3
    refine lv_if_eq (tgt := 68) hx hb dX13_isAllowed_57 (by decide) (fun c_4 => ?_) (fun c_4 => ?_)
    · have h_5 : iv 0 0 z_3 := iv_eq c_4 hz_3 (iv_k (by decide) : iv 0 0 0) (by decide)
      exact hj68 h_2 (by have := i32_0; have := i32_1; have := i32_2; have := i32_m1; have := (h_2).1; have := (h_2).2; have := (h_5).1; have := (h_5).2; omega) (by have := i32_0; have := i32_1; have := i32_2; have := i32_m1; have := (h_2).1; have := (h_2).2; have := (h_5).1; have := (h_5).2; omega) _ _ _ hP hD hS (lv_sub hl [0, 1, 2] rfl)
    · have d_6 : ¬ (z_3 : Int32).toInt = 0 := lv_neT c_4 rfl
      refine lv_lload_n hx hb dX13_isAllowed_60 rfl (lv_at hl 2 rfl) ?_
      refine lv_ldc2 (own := RX13) (v := 29807) hx hb hown (htb _ kw_888) dX13_isAllowed_61 ?_
      refine W.lcmp hx hb dX13_isAllowed_64 ?_
      refine lv_topi (fun z_7 ez_7 => ?_)
      have hz_7 : iv (-1) 1 z_7 := iv_of ez_7 (iv_cmp _ _)
      have hl_z_7 := lg_tr7 ez_7
      rw [show (29807 : Int64).toInt = 29807 from by decide] at hl_z_7
      refine lv_if_ne (tgt := 72) hx hb dX13_isAllowed_65 (by decide) (fun c_8 => ?_) (fun c_8 => ?_)
      · have d_9 : ¬ (z_7 : Int32).toInt = 0 := lv_neT c_8 rfl
        refine lv_iconst (v := 0) hx hb dX13_isAllowed_72 (by decide) ?_
        exact hj73 0 h_2 (iv_w (iv_k (by decide) : iv 0 0 0) (by decide)) ((by have hk9 : x.toInt = 2 := (by have := i32_0; have := i32_1; have := i32_2; have := i32_m1; have := (h_2).1; have := (h_2).2; have := (hz_3).1; have := (hz_3).2; have := (hz_7).1; have := (hz_7).2; omega); exact Or.inr ⟨rfl, by unfold ALW; have := i32_0; have := i32_1; have := i32_2; have := i32_m1; have := (h_2).1; have := (h_2).2; have := (hz_3).1; have := (hz_3).2; have := (hz_7).1; have := (hz_7).2; omega⟩)) _ _ _ hP hD hS (lv_sub hl [0, 1, 2] rfl)
      · have h_10 : iv 0 0 z_7 := iv_eq c_8 hz_7 (iv_k (by decide) : iv 0 0 0) (by decide)
        exact hj68 h_2 (by have := i32_0; have := i32_1; have := i32_2; have := i32_m1; have := (h_2).1; have := (h_2).2; have := (hz_3).1; have := (hz_3).2; have := (h_10).1; have := (h_10).2; omega) (by have := i32_0; have := i32_1; have := i32_2; have := i32_m1; have := (h_2).1; have := (h_2).2; have := (hz_3).1; have := (hz_3).2; have := (h_10).1; have := (h_10).2; omega) _ _ _ hP hD hS (lv_sub hl [0, 1, 2] rfl)
  by_cases c_11 : (x : Int32).toInt = 3
  · refine lv_tableIn (tgt := 74) hx hb dX13_isAllowed_1 (by rw [c_11]; decide) (by rw [c_11]; decide) (by rw [c_11]; rfl) (by decide) ?_
    have h_12 : iv 3 3 x := iv_at c_11
    refine lv_lload_n hx hb dX13_isAllowed_74 rfl (lv_at hl 2 rfl) ?_
    refine lv_ldc2 (own := RX13) (v := 26980) hx hb hown (htb _ kw_899) dX13_isAllowed_75 ?_
    refine W.lcmp hx hb dX13_isAllowed_78 ?_
    refine lv_topi (fun z_13 ez_13 => ?_)
    have hz_13 : iv (-1) 1 z_13 := iv_of ez_13 (iv_cmp _ _)
    have hl_z_13 := lg_tr7 ez_13
    rw [show (26980 : Int64).toInt = 26980 from by decide] at hl_z_13
    refine lv_if_eq (tgt := 162) hx hb dX13_isAllowed_79 (by decide) (fun c_14 => ?_) (fun c_14 => ?_)
    · have h_15 : iv 0 0 z_13 := iv_eq c_14 hz_13 (iv_k (by decide) : iv 0 0 0) (by decide)
      exact hj162 h_12 (by have := i32_0; have := i32_1; have := i32_2; have := i32_m1; have := (h_12).1; have := (h_12).2; have := (h_15).1; have := (h_15).2; omega) (by have := i32_0; have := i32_1; have := i32_2; have := i32_m1; have := (h_12).1; have := (h_12).2; have := (h_15).1; have := (h_15).2; omega) _ _ _ hP hD hS (lv_sub hl [0, 1, 2] rfl)
    · have d_16 : ¬ (z_13 : Int32).toInt = 0 := lv_neT c_14 rfl
      refine lv_lload_n hx hb dX13_isAllowed_82 rfl (lv_at hl 2 rfl) ?_
      refine lv_ldc2 (own := RX13) (v := 427020088179) hx hb hown (htb _ kw_900) dX13_isAllowed_83 ?_
      refine W.lcmp hx hb dX13_isAllowed_86 ?_
      refine lv_topi (fun z_17 ez_17 => ?_)
      have hz_17 : iv (-1) 1 z_17 := iv_of ez_17 (iv_cmp _ _)
      have hl_z_17 := lg_tr7 ez_17
      rw [show (427020088179 : Int64).toInt = 427020088179 from by decide] at hl_z_17
      refine lv_if_eq (tgt := 162) hx hb dX13_isAllowed_87 (by decide) (fun c_18 => ?_) (fun c_18 => ?_)
      · have h_19 : iv 0 0 z_17 := iv_eq c_18 hz_17 (iv_k (by decide) : iv 0 0 0) (by decide)
        exact hj162 h_12 (by have := i32_0; have := i32_1; have := i32_2; have := i32_m1; have := (h_12).1; have := (h_12).2; have := (hz_13).1; have := (hz_13).2; have := (h_19).1; have := (h_19).2; omega) (by have := i32_0; have := i32_1; have := i32_2; have := i32_m1; have := (h_12).1; have := (h_12).2; have := (hz_13).1; have := (hz_13).2; have := (h_19).1; have := (h_19).2; omega) _ _ _ hP hD hS (lv_sub hl [0, 1, 2] rfl)
      · have d_20 : ¬ (z_17 : Int32).toInt = 0 := lv_neT c_18 rfl
        refine lv_lload_n hx hb dX13_isAllowed_90 rfl (lv_at hl 2 rfl) ?_
        refine lv_ldc2 (own := RX13) (v := 123563833388660) hx hb hown (htb _ kw_901) dX13_isAllowed_91 ?_
        refine W.lcmp hx hb dX13_isAllowed_94 ?_
        refine lv_topi (fun z_21 ez_21 => ?_)
        have hz_21 : iv (-1) 1 z_21 := iv_of ez_21 (iv_cmp _ _)
        have hl_z_21 := lg_tr7 ez_21
        rw [show (123563833388660 : Int64).toInt = 123563833388660 from by decide] at hl_z_21
        refine lv_if_eq (tgt := 162) hx hb dX13_isAllowed_95 (by decide) (fun c_22 => ?_) (fun c_22 => ?_)
        · have h_23 : iv 0 0 z_21 := iv_eq c_22 hz_21 (iv_k (by decide) : iv 0 0 0) (by decide)
          exact hj162 h_12 (by have := i32_0; have := i32_1; have := i32_2; have := i32_m1; have := (h_12).1; have := (h_12).2; have := (hz_13).1; have := (hz_13).2; have := (hz_17).1; have := (hz_17).2; have := (h_23).1; have := (h_23).2; omega) (by have := i32_0; have := i32_1; have := i32_2; have := i32_m1; have := (h_12).1; have := (h_12).2; have := (hz_13).1; have := (hz_13).2; have := (hz_17).1; have := (hz_17).2; have := (h_23).1; have := (h_23).2; omega) _ _ _ hP hD hS (lv_sub hl [0, 1, 2] rfl)
        · have d_24 : ¬ (z_21 : Int32).toInt = 0 := lv_neT c_22 rfl
          refine lv_lload_n hx hb dX13_isAllowed_98 rfl (lv_at hl 2 rfl) ?_
          refine lv_ldc2 (own := RX13) (v := 7017298113369039732) hx hb hown (htb _ kw_902) dX13_isAllowed_99 ?_
          refine W.lcmp hx hb dX13_isAllowed_102 ?_
          refine lv_topi (fun z_25 ez_25 => ?_)
          have hz_25 : iv (-1) 1 z_25 := iv_of ez_25 (iv_cmp _ _)
          have hl_z_25 := lg_tr7 ez_25
          rw [show (7017298113369039732 : Int64).toInt = 7017298113369039732 from by decide] at hl_z_25
          refine lv_if_eq (tgt := 162) hx hb dX13_isAllowed_103 (by decide) (fun c_26 => ?_) (fun c_26 => ?_)
          · have h_27 : iv 0 0 z_25 := iv_eq c_26 hz_25 (iv_k (by decide) : iv 0 0 0) (by decide)
            exact hj162 h_12 (by have := i32_0; have := i32_1; have := i32_2; have := i32_m1; have := (h_12).1; have := (h_12).2; have := (hz_13).1; have := (hz_13).2; have := (hz_17).1; have := (hz_17).2; have := (hz_21).1; have := (hz_21).2; have := (h_27).1; have := (h_27).2; omega) (by have := i32_0; have := i32_1; have := i32_2; have := i32_m1; have := (h_12).1; have := (h_12).2; have := (hz_13).1; have := (hz_13).2; have := (hz_17).1; have := (hz_17).2; have := (hz_21).1; have := (hz_21).2; have := (h_27).1; have := (h_27).2; omega) _ _ _ hP hD hS (lv_sub hl [0, 1, 2] rfl)
          · have d_28 : ¬ (z_25 : Int32).toInt = 0 := lv_neT c_26 rfl
            refine lv_lload_n hx hb dX13_isAllowed_106 rfl (lv_at hl 2 rfl) ?_
            refine lv_ldc2 (own := RX13) (v := 495589486693) hx hb hown (htb _ kw_903) dX13_isAllowed_107 ?_
            refine W.lcmp hx hb dX13_isAllowed_110 ?_
            refine lv_topi (fun z_29 ez_29 => ?_)
            have hz_29 : iv (-1) 1 z_29 := iv_of ez_29 (iv_cmp _ _)
            have hl_z_29 := lg_tr7 ez_29
            rw [show (495589486693 : Int64).toInt = 495589486693 from by decide] at hl_z_29
            refine lv_if_eq (tgt := 162) hx hb dX13_isAllowed_111 (by decide) (fun c_30 => ?_) (fun c_30 => ?_)
            · have h_31 : iv 0 0 z_29 := iv_eq c_30 hz_29 (iv_k (by decide) : iv 0 0 0) (by decide)
              exact hj162 h_12 (by have := i32_0; have := i32_1; have := i32_2; have := i32_m1; have := (h_12).1; have := (h_12).2; have := (hz_13).1; have := (hz_13).2; have := (hz_17).1; have := (hz_17).2; have := (hz_21).1; have := (hz_21).2; have := (hz_25).1; have := (hz_25).2; have := (h_31).1; have := (h_31).2; omega) (by have := i32_0; have := i32_1; have := i32_2; have := i32_m1; have := (h_12).1; have := (h_12).2; have := (hz_13).1; have := (hz_13).2; have := (hz_17).1; have := (hz_17).2; have := (hz_21).1; have := (hz_21).2; have := (hz_25).1; have := (hz_25).2; have := (h_31).1; have := (h_31).2; omega) _ _ _ hP hD hS (lv_sub hl [0, 1, 2] rfl)
            · have d_32 : ¬ (z_29 : Int32).toInt = 0 := lv_neT c_30 rfl
              refine lv_lload_n hx hb dX13_isAllowed_114 rfl (lv_at hl 2 rfl) ?_
              refine lv_ldc2 (own := RX13) (v := 1818327673) hx hb hown (htb _ kw_904) dX13_isAllowed_115 ?_
              refine W.lcmp hx hb dX13_isAllowed_118 ?_
              refine lv_topi (fun z_33 ez_33 => ?_)
              have hz_33 : iv (-1) 1 z_33 := iv_of ez_33 (iv_cmp _ _)
              have hl_z_33 := lg_tr7 ez_33
              rw [show (1818327673 : Int64).toInt = 1818327673 from by decide] at hl_z_33
              refine lv_if_eq (tgt := 162) hx hb dX13_isAllowed_119 (by decide) (fun c_34 => ?_) (fun c_34 => ?_)
              · have h_35 : iv 0 0 z_33 := iv_eq c_34 hz_33 (iv_k (by decide) : iv 0 0 0) (by decide)
                exact hj162 h_12 (by have := i32_0; have := i32_1; have := i32_2; have := i32_m1; have := (h_12).1; have := (h_12).2; have := (hz_13).1; have := (hz_13).2; have := (hz_17).1; have := (hz_17).2; have := (hz_21).1; have := (hz_21).2; have := (hz_25).1; have := (hz_25).2; have := (hz_29).1; have := (hz_29).2; have := (h_35).1; have := (h_35).2; omega) (by have := i32_0; have := i32_1; have := i32_2; have := i32_m1; have := (h_12).1; have := (h_12).2; have := (hz_13).1; have := (hz_13).2; have := (hz_17).1; have := (hz_17).2; have := (hz_21).1; have := (hz_21).2; have := (hz_25).1; have := (hz_25).2; have := (hz_29).1; have := (hz_29).2; have := (h_35).1; have := (h_35).2; omega) _ _ _ hP hD hS (lv_sub hl [0, 1, 2] rfl)
              · have d_36 : ¬ (z_33 : Int32).toInt = 0 := lv_neT c_34 rfl
                refine lv_lload_n hx hb dX13_isAllowed_122 rfl (lv_at hl 2 rfl) ?_
                refine lv_ldc2 (own := RX13) (v := 28817527407604345) hx hb hown (htb _ kw_905) dX13_isAllowed_123 ?_
                refine W.lcmp hx hb dX13_isAllowed_126 ?_
                refine lv_topi (fun z_37 ez_37 => ?_)
                have hz_37 : iv (-1) 1 z_37 := iv_of ez_37 (iv_cmp _ _)
                have hl_z_37 := lg_tr7 ez_37
                rw [show (28817527407604345 : Int64).toInt = 28817527407604345 from by decide] at hl_z_37
                refine lv_if_eq (tgt := 162) hx hb dX13_isAllowed_127 (by decide) (fun c_38 => ?_) (fun c_38 => ?_)
                · have h_39 : iv 0 0 z_37 := iv_eq c_38 hz_37 (iv_k (by decide) : iv 0 0 0) (by decide)
                  exact hj162 h_12 (by have := i32_0; have := i32_1; have := i32_2; have := i32_m1; have := (h_12).1; have := (h_12).2; have := (hz_13).1; have := (hz_13).2; have := (hz_17).1; have := (hz_17).2; have := (hz_21).1; have := (hz_21).2; have := (hz_25).1; have := (hz_25).2; have := (hz_29).1; have := (hz_29).2; have := (hz_33).1; have := (hz_33).2; have := (h_39).1; have := (h_39).2; omega) (by have := i32_0; have := i32_1; have := i32_2; have := i32_m1; have := (h_12).1; have := (h_12).2; have := (hz_13).1; have := (hz_13).2; have := (hz_17).1; have := (hz_17).2; have := (hz_21).1; have := (hz_21).2; have := (hz_25).1; have := (hz_25).2; have := (hz_29).1; have := (hz_29).2; have := (hz_33).1; have := (hz_33).2; have := (h_39).1; have := (h_39).2; omega) _ _ _ hP hD hS (lv_sub hl [0, 1, 2] rfl)
                · have d_40 : ¬ (z_37 : Int32).toInt = 0 := lv_neT c_38 rfl
                  refine lv_lload_n hx hb dX13_isAllowed_130 rfl (lv_at hl 2 rfl) ?_
                  refine lv_ldc2 (own := RX13) (v := 120282512125796) hx hb hown (htb _ kw_906) dX13_isAllowed_131 ?_
                  refine W.lcmp hx hb dX13_isAllowed_134 ?_
                  refine lv_topi (fun z_41 ez_41 => ?_)
                  have hz_41 : iv (-1) 1 z_41 := iv_of ez_41 (iv_cmp _ _)
                  have hl_z_41 := lg_tr7 ez_41
                  rw [show (120282512125796 : Int64).toInt = 120282512125796 from by decide] at hl_z_41
                  refine lv_if_eq (tgt := 162) hx hb dX13_isAllowed_135 (by decide) (fun c_42 => ?_) (fun c_42 => ?_)
                  · have h_43 : iv 0 0 z_41 := iv_eq c_42 hz_41 (iv_k (by decide) : iv 0 0 0) (by decide)
                    exact hj162 h_12 (by have := i32_0; have := i32_1; have := i32_2; have := i32_m1; have := (h_12).1; have := (h_12).2; have := (hz_13).1; have := (hz_13).2; have := (hz_17).1; have := (hz_17).2; have := (hz_21).1; have := (hz_21).2; have := (hz_25).1; have := (hz_25).2; have := (hz_29).1; have := (hz_29).2; have := (hz_33).1; have := (hz_33).2; have := (hz_37).1; have := (hz_37).2; have := (h_43).1; have := (h_43).2; omega) (by have := i32_0; have := i32_1; have := i32_2; have := i32_m1; have := (h_12).1; have := (h_12).2; have := (hz_13).1; have := (hz_13).2; have := (hz_17).1; have := (hz_17).2; have := (hz_21).1; have := (hz_21).2; have := (hz_25).1; have := (hz_25).2; have := (hz_29).1; have := (hz_29).2; have := (hz_33).1; have := (hz_33).2; have := (hz_37).1; have := (hz_37).2; have := (h_43).1; have := (h_43).2; omega) _ _ _ hP hD hS (lv_sub hl [0, 1, 2] rfl)
                  · have d_44 : ¬ (z_41 : Int32).toInt = 0 := lv_neT c_42 rfl
                    refine lv_lload_n hx hb dX13_isAllowed_138 rfl (lv_at hl 2 rfl) ?_
                    refine lv_ldc2 (own := RX13) (v := 1768843636) hx hb hown (htb _ kw_907) dX13_isAllowed_139 ?_
                    refine W.lcmp hx hb dX13_isAllowed_142 ?_
                    refine lv_topi (fun z_45 ez_45 => ?_)
                    have hz_45 : iv (-1) 1 z_45 := iv_of ez_45 (iv_cmp _ _)
                    have hl_z_45 := lg_tr7 ez_45
                    rw [show (1768843636 : Int64).toInt = 1768843636 from by decide] at hl_z_45
                    refine lv_if_eq (tgt := 162) hx hb dX13_isAllowed_143 (by decide) (fun c_46 => ?_) (fun c_46 => ?_)
                    · have h_47 : iv 0 0 z_45 := iv_eq c_46 hz_45 (iv_k (by decide) : iv 0 0 0) (by decide)
                      exact hj162 h_12 (by have := i32_0; have := i32_1; have := i32_2; have := i32_m1; have := (h_12).1; have := (h_12).2; have := (hz_13).1; have := (hz_13).2; have := (hz_17).1; have := (hz_17).2; have := (hz_21).1; have := (hz_21).2; have := (hz_25).1; have := (hz_25).2; have := (hz_29).1; have := (hz_29).2; have := (hz_33).1; have := (hz_33).2; have := (hz_37).1; have := (hz_37).2; have := (hz_41).1; have := (hz_41).2; have := (h_47).1; have := (h_47).2; omega) (by have := i32_0; have := i32_1; have := i32_2; have := i32_m1; have := (h_12).1; have := (h_12).2; have := (hz_13).1; have := (hz_13).2; have := (hz_17).1; have := (hz_17).2; have := (hz_21).1; have := (hz_21).2; have := (hz_25).1; have := (hz_25).2; have := (hz_29).1; have := (hz_29).2; have := (hz_33).1; have := (hz_33).2; have := (hz_37).1; have := (hz_37).2; have := (hz_41).1; have := (hz_41).2; have := (h_47).1; have := (h_47).2; omega) _ _ _ hP hD hS (lv_sub hl [0, 1, 2] rfl)
                    · have d_48 : ¬ (z_45 : Int32).toInt = 0 := lv_neT c_46 rfl
                      refine lv_lload_n hx hb dX13_isAllowed_146 rfl (lv_at hl 2 rfl) ?_
                      refine lv_ldc2 (own := RX13) (v := 28259044220366713) hx hb hown (htb _ kw_908) dX13_isAllowed_147 ?_
                      refine W.lcmp hx hb dX13_isAllowed_150 ?_
                      refine lv_topi (fun z_49 ez_49 => ?_)
                      have hz_49 : iv (-1) 1 z_49 := iv_of ez_49 (iv_cmp _ _)
                      have hl_z_49 := lg_tr7 ez_49
                      rw [show (28259044220366713 : Int64).toInt = 28259044220366713 from by decide] at hl_z_49
                      refine lv_if_eq (tgt := 162) hx hb dX13_isAllowed_151 (by decide) (fun c_50 => ?_) (fun c_50 => ?_)
                      · have h_51 : iv 0 0 z_49 := iv_eq c_50 hz_49 (iv_k (by decide) : iv 0 0 0) (by decide)
                        exact hj162 h_12 (by have := i32_0; have := i32_1; have := i32_2; have := i32_m1; have := (h_12).1; have := (h_12).2; have := (hz_13).1; have := (hz_13).2; have := (hz_17).1; have := (hz_17).2; have := (hz_21).1; have := (hz_21).2; have := (hz_25).1; have := (hz_25).2; have := (hz_29).1; have := (hz_29).2; have := (hz_33).1; have := (hz_33).2; have := (hz_37).1; have := (hz_37).2; have := (hz_41).1; have := (hz_41).2; have := (hz_45).1; have := (hz_45).2; have := (h_51).1; have := (h_51).2; omega) (by have := i32_0; have := i32_1; have := i32_2; have := i32_m1; have := (h_12).1; have := (h_12).2; have := (hz_13).1; have := (hz_13).2; have := (hz_17).1; have := (hz_17).2; have := (hz_21).1; have := (hz_21).2; have := (hz_25).1; have := (hz_25).2; have := (hz_29).1; have := (hz_29).2; have := (hz_33).1; have := (hz_33).2; have := (hz_37).1; have := (hz_37).2; have := (hz_41).1; have := (hz_41).2; have := (hz_45).1; have := (hz_45).2; have := (h_51).1; have := (h_51).2; omega) _ _ _ hP hD hS (lv_sub hl [0, 1, 2] rfl)
                      · have d_52 : ¬ (z_49 : Int32).toInt = 0 := lv_neT c_50 rfl
                        refine lv_lload_n hx hb dX13_isAllowed_154 rfl (lv_at hl 2 rfl) ?_
                        refine lv_ldc2 (own := RX13) (v := 28259031083541619) hx hb hown (htb _ kw_909) dX13_isAllowed_155 ?_
                        refine W.lcmp hx hb dX13_isAllowed_158 ?_
                        refine lv_topi (fun z_53 ez_53 => ?_)
                        have hz_53 : iv (-1) 1 z_53 := iv_of ez_53 (iv_cmp _ _)
                        have hl_z_53 := lg_tr7 ez_53
                        rw [show (28259031083541619 : Int64).toInt = 28259031083541619 from by decide] at hl_z_53
                        refine lv_if_ne (tgt := 166) hx hb dX13_isAllowed_159 (by decide) (fun c_54 => ?_) (fun c_54 => ?_)
                        · have d_55 : ¬ (z_53 : Int32).toInt = 0 := lv_neT c_54 rfl
                          refine lv_iconst (v := 0) hx hb dX13_isAllowed_166 (by decide) ?_
                          exact hj167 0 h_12 (iv_w (iv_k (by decide) : iv 0 0 0) (by decide)) ((by have hk9 : x.toInt = 3 := (by have := i32_0; have := i32_1; have := i32_2; have := i32_m1; have := (h_12).1; have := (h_12).2; have := (hz_13).1; have := (hz_13).2; have := (hz_17).1; have := (hz_17).2; have := (hz_21).1; have := (hz_21).2; have := (hz_25).1; have := (hz_25).2; have := (hz_29).1; have := (hz_29).2; have := (hz_33).1; have := (hz_33).2; have := (hz_37).1; have := (hz_37).2; have := (hz_41).1; have := (hz_41).2; have := (hz_45).1; have := (hz_45).2; have := (hz_49).1; have := (hz_49).2; have := (hz_53).1; have := (hz_53).2; omega); exact Or.inr ⟨rfl, by unfold ALW; have := i32_0; have := i32_1; have := i32_2; have := i32_m1; have := (h_12).1; have := (h_12).2; have := (hz_13).1; have := (hz_13).2; have := (hz_17).1; have := (hz_17).2; have := (hz_21).1; have := (hz_21).2; have := (hz_25).1; have := (hz_25).2; have := (hz_29).1; have := (hz_29).2; have := (hz_33).1; have := (hz_33).2; have := (hz_37).1; have := (hz_37).2; have := (hz_41).1; have := (hz_41).2; have := (hz_45).1; have := (hz_45).2; have := (hz_49).1; have := (hz_49).2; have := (hz_53).1; have := (hz_53).2; omega⟩)) _ _ _ hP hD hS (lv_sub hl [0, 1, 2] rfl)
                        · have h_56 : iv 0 0 z_53 := iv_eq c_54 hz_53 (iv_k (by decide) : iv 0 0 0) (by decide)
                          exact hj162 h_12 (by have := i32_0; have := i32_1; have := i32_2; have := i32_m1; have := (h_12).1; have := (h_12).2; have := (hz_13).1; have := (hz_13).2; have := (hz_17).1; have := (hz_17).2; have := (hz_21).1; have := (hz_21).2; have := (hz_25).1; have := (hz_25).2; have := (hz_29).1; have := (hz_29).2; have := (hz_33).1; have := (hz_33).2; have := (hz_37).1; have := (hz_37).2; have := (hz_41).1; have := (hz_41).2; have := (hz_45).1; have := (hz_45).2; have := (hz_49).1; have := (hz_49).2; have := (h_56).1; have := (h_56).2; omega) (by have := i32_0; have := i32_1; have := i32_2; have := i32_m1; have := (h_12).1; have := (h_12).2; have := (hz_13).1; have := (hz_13).2; have := (hz_17).1; have := (hz_17).2; have := (hz_21).1; have := (hz_21).2; have := (hz_25).1; have := (hz_25).2; have := (hz_29).1; have := (hz_29).2; have := (hz_33).1; have := (hz_33).2; have := (hz_37).1; have := (hz_37).2; have := (hz_41).1; have := (hz_41).2; have := (hz_45).1; have := (hz_45).2; have := (hz_49).1; have := (hz_49).2; have := (h_56).1; have := (h_56).2; omega) _ _ _ hP hD hS (lv_sub hl [0, 1, 2] rfl)
  by_cases c_57 : (x : Int32).toInt = 4
  · refine lv_tableIn (tgt := 168) hx hb dX13_isAllowed_1 (by rw [c_57]; decide) (by rw [c_57]; decide) (by rw [c_57]; rfl) (by decide) ?_
    have h_58 : iv 4 4 x := iv_at c_57
    refine lv_lload_n hx hb dX13_isAllowed_168 rfl (lv_at hl 2 rfl) ?_
    refine lv_ldc2 (own := RX13) (v := 24948) hx hb hown (htb _ kw_889) dX13_isAllowed_169 ?_
    refine W.lcmp hx hb dX13_isAllowed_172 ?_
    refine lv_topi (fun z_59 ez_59 => ?_)
    have hz_59 : iv (-1) 1 z_59 := iv_of ez_59 (iv_cmp _ _)
    have hl_z_59 := lg_tr7 ez_59
    rw [show (24948 : Int64).toInt = 24948 from by decide] at hl_z_59
    refine lv_if_eq (tgt := 200) hx hb dX13_isAllowed_173 (by decide) (fun c_60 => ?_) (fun c_60 => ?_)
    · have h_61 : iv 0 0 z_59 := iv_eq c_60 hz_59 (iv_k (by decide) : iv 0 0 0) (by decide)
      exact hj200 h_58 (by have := i32_0; have := i32_1; have := i32_2; have := i32_m1; have := (h_58).1; have := (h_58).2; have := (h_61).1; have := (h_61).2; omega) (by have := i32_0; have := i32_1; have := i32_2; have := i32_m1; have := (h_58).1; have := (h_58).2; have := (h_61).1; have := (h_61).2; omega) _ _ _ hP hD hS (lv_sub hl [0, 1, 2] rfl)
    · have d_62 : ¬ (z_59 : Int32).toInt = 0 := lv_neT c_60 rfl
      refine lv_lload_n hx hb dX13_isAllowed_176 rfl (lv_at hl 2 rfl) ?_
      refine lv_ldc2 (own := RX13) (v := 1954115685) hx hb hown (htb _ kw_892) dX13_isAllowed_177 ?_
      refine W.lcmp hx hb dX13_isAllowed_180 ?_
      refine lv_topi (fun z_63 ez_63 => ?_)
      have hz_63 : iv (-1) 1 z_63 := iv_of ez_63 (iv_cmp _ _)
      have hl_z_63 := lg_tr7 ez_63
      rw [show (1954115685 : Int64).toInt = 1954115685 from by decide] at hl_z_63
      refine lv_if_eq (tgt := 200) hx hb dX13_isAllowed_181 (by decide) (fun c_64 => ?_) (fun c_64 => ?_)
      · have h_65 : iv 0 0 z_63 := iv_eq c_64 hz_63 (iv_k (by decide) : iv 0 0 0) (by decide)
        exact hj200 h_58 (by have := i32_0; have := i32_1; have := i32_2; have := i32_m1; have := (h_58).1; have := (h_58).2; have := (hz_59).1; have := (hz_59).2; have := (h_65).1; have := (h_65).2; omega) (by have := i32_0; have := i32_1; have := i32_2; have := i32_m1; have := (h_58).1; have := (h_58).2; have := (hz_59).1; have := (hz_59).2; have := (h_65).1; have := (h_65).2; omega) _ _ _ hP hD hS (lv_sub hl [0, 1, 2] rfl)
      · have d_66 : ¬ (z_63 : Int32).toInt = 0 := lv_neT c_64 rfl
        refine lv_lload_n hx hb dX13_isAllowed_184 rfl (lv_at hl 2 rfl) ?_
        refine lv_ldc2 (own := RX13) (v := 508440638821) hx hb hown (htb _ kw_140) dX13_isAllowed_185 ?_
        refine W.lcmp hx hb dX13_isAllowed_188 ?_
        refine lv_topi (fun z_67 ez_67 => ?_)
        have hz_67 : iv (-1) 1 z_67 := iv_of ez_67 (iv_cmp _ _)
        have hl_z_67 := lg_tr7 ez_67
        rw [show (508440638821 : Int64).toInt = 508440638821 from by decide] at hl_z_67
        refine lv_if_eq (tgt := 200) hx hb dX13_isAllowed_189 (by decide) (fun c_68 => ?_) (fun c_68 => ?_)
        · have h_69 : iv 0 0 z_67 := iv_eq c_68 hz_67 (iv_k (by decide) : iv 0 0 0) (by decide)
          exact hj200 h_58 (by have := i32_0; have := i32_1; have := i32_2; have := i32_m1; have := (h_58).1; have := (h_58).2; have := (hz_59).1; have := (hz_59).2; have := (hz_63).1; have := (hz_63).2; have := (h_69).1; have := (h_69).2; omega) (by have := i32_0; have := i32_1; have := i32_2; have := i32_m1; have := (h_58).1; have := (h_58).2; have := (hz_59).1; have := (hz_59).2; have := (hz_63).1; have := (hz_63).2; have := (h_69).1; have := (h_69).2; omega) _ _ _ hP hD hS (lv_sub hl [0, 1, 2] rfl)
        · have d_70 : ¬ (z_67 : Int32).toInt = 0 := lv_neT c_68 rfl
          refine lv_lload_n hx hb dX13_isAllowed_192 rfl (lv_at hl 2 rfl) ?_
          refine lv_ldc2 (own := RX13) (v := 7497062) hx hb hown (htb _ kw_141) dX13_isAllowed_193 ?_
          refine W.lcmp hx hb dX13_isAllowed_196 ?_
          refine lv_topi (fun z_71 ez_71 => ?_)
          have hz_71 : iv (-1) 1 z_71 := iv_of ez_71 (iv_cmp _ _)
          have hl_z_71 := lg_tr7 ez_71
          rw [show (7497062 : Int64).toInt = 7497062 from by decide] at hl_z_71
          refine lv_if_ne (tgt := 204) hx hb dX13_isAllowed_197 (by decide) (fun c_72 => ?_) (fun c_72 => ?_)
          · have d_73 : ¬ (z_71 : Int32).toInt = 0 := lv_neT c_72 rfl
            refine lv_iconst (v := 0) hx hb dX13_isAllowed_204 (by decide) ?_
            exact hj205 0 h_58 (iv_w (iv_k (by decide) : iv 0 0 0) (by decide)) ((by have hk9 : x.toInt = 4 := (by have := i32_0; have := i32_1; have := i32_2; have := i32_m1; have := (h_58).1; have := (h_58).2; have := (hz_59).1; have := (hz_59).2; have := (hz_63).1; have := (hz_63).2; have := (hz_67).1; have := (hz_67).2; have := (hz_71).1; have := (hz_71).2; omega); exact Or.inr ⟨rfl, by unfold ALW; have := i32_0; have := i32_1; have := i32_2; have := i32_m1; have := (h_58).1; have := (h_58).2; have := (hz_59).1; have := (hz_59).2; have := (hz_63).1; have := (hz_63).2; have := (hz_67).1; have := (hz_67).2; have := (hz_71).1; have := (hz_71).2; omega⟩)) _ _ _ hP hD hS (lv_sub hl [0, 1, 2] rfl)
          · have h_74 : iv 0 0 z_71 := iv_eq c_72 hz_71 (iv_k (by decide) : iv 0 0 0) (by decide)
            exact hj200 h_58 (by have := i32_0; have := i32_1; have := i32_2; have := i32_m1; have := (h_58).1; have := (h_58).2; have := (hz_59).1; have := (hz_59).2; have := (hz_63).1; have := (hz_63).2; have := (hz_67).1; have := (hz_67).2; have := (h_74).1; have := (h_74).2; omega) (by have := i32_0; have := i32_1; have := i32_2; have := i32_m1; have := (h_58).1; have := (h_58).2; have := (hz_59).1; have := (hz_59).2; have := (hz_63).1; have := (hz_63).2; have := (hz_67).1; have := (hz_67).2; have := (h_74).1; have := (h_74).2; omega) _ _ _ hP hD hS (lv_sub hl [0, 1, 2] rfl)
  by_cases c_75 : (x : Int32).toInt = 5
  · refine lv_tableIn (tgt := 206) hx hb dX13_isAllowed_1 (by rw [c_75]; decide) (by rw [c_75]; decide) (by rw [c_75]; rfl) (by decide) ?_
    have h_76 : iv 5 5 x := iv_at c_75
    refine lv_lload_n hx hb dX13_isAllowed_206 rfl (lv_at hl 2 rfl) ?_
    refine lv_ldc2 (own := RX13) (v := 1851878757) hx hb hown (htb _ kw_887) dX13_isAllowed_207 ?_
    refine W.lcmp hx hb dX13_isAllowed_210 ?_
    refine lv_topi (fun z_77 ez_77 => ?_)
    have hz_77 : iv (-1) 1 z_77 := iv_of ez_77 (iv_cmp _ _)
    have hl_z_77 := lg_tr7 ez_77
    rw [show (1851878757 : Int64).toInt = 1851878757 from by decide] at hl_z_77
    refine lv_if_eq (tgt := 230) hx hb dX13_isAllowed_211 (by decide) (fun c_78 => ?_) (fun c_78 => ?_)
    · have h_79 : iv 0 0 z_77 := iv_eq c_78 hz_77 (iv_k (by decide) : iv 0 0 0) (by decide)
      exact hj230 h_76 (by have := i32_0; have := i32_1; have := i32_2; have := i32_m1; have := (h_76).1; have := (h_76).2; have := (h_79).1; have := (h_79).2; omega) (by have := i32_0; have := i32_1; have := i32_2; have := i32_m1; have := (h_76).1; have := (h_76).2; have := (h_79).1; have := (h_79).2; omega) _ _ _ hP hD hS (lv_sub hl [0, 1, 2] rfl)
    · have d_80 : ¬ (z_77 : Int32).toInt = 0 := lv_neT c_78 rfl
      refine lv_lload_n hx hb dX13_isAllowed_214 rfl (lv_at hl 2 rfl) ?_
      refine lv_ldc2 (own := RX13) (v := 508440638821) hx hb hown (htb _ kw_140) dX13_isAllowed_215 ?_
      refine W.lcmp hx hb dX13_isAllowed_218 ?_
      refine lv_topi (fun z_81 ez_81 => ?_)
      have hz_81 : iv (-1) 1 z_81 := iv_of ez_81 (iv_cmp _ _)
      have hl_z_81 := lg_tr7 ez_81
      rw [show (508440638821 : Int64).toInt = 508440638821 from by decide] at hl_z_81
      refine lv_if_eq (tgt := 230) hx hb dX13_isAllowed_219 (by decide) (fun c_82 => ?_) (fun c_82 => ?_)
      · have h_83 : iv 0 0 z_81 := iv_eq c_82 hz_81 (iv_k (by decide) : iv 0 0 0) (by decide)
        exact hj230 h_76 (by have := i32_0; have := i32_1; have := i32_2; have := i32_m1; have := (h_76).1; have := (h_76).2; have := (hz_77).1; have := (hz_77).2; have := (h_83).1; have := (h_83).2; omega) (by have := i32_0; have := i32_1; have := i32_2; have := i32_m1; have := (h_76).1; have := (h_76).2; have := (hz_77).1; have := (hz_77).2; have := (h_83).1; have := (h_83).2; omega) _ _ _ hP hD hS (lv_sub hl [0, 1, 2] rfl)
      · have d_84 : ¬ (z_81 : Int32).toInt = 0 := lv_neT c_82 rfl
        refine lv_lload_n hx hb dX13_isAllowed_222 rfl (lv_at hl 2 rfl) ?_
        refine lv_ldc2 (own := RX13) (v := 7497062) hx hb hown (htb _ kw_141) dX13_isAllowed_223 ?_
        refine W.lcmp hx hb dX13_isAllowed_226 ?_
        refine lv_topi (fun z_85 ez_85 => ?_)
        have hz_85 : iv (-1) 1 z_85 := iv_of ez_85 (iv_cmp _ _)
        have hl_z_85 := lg_tr7 ez_85
        rw [show (7497062 : Int64).toInt = 7497062 from by decide] at hl_z_85
        refine lv_if_ne (tgt := 234) hx hb dX13_isAllowed_227 (by decide) (fun c_86 => ?_) (fun c_86 => ?_)
        · have d_87 : ¬ (z_85 : Int32).toInt = 0 := lv_neT c_86 rfl
          refine lv_iconst (v := 0) hx hb dX13_isAllowed_234 (by decide) ?_
          exact hj235 0 h_76 (iv_w (iv_k (by decide) : iv 0 0 0) (by decide)) ((by have hk9 : x.toInt = 5 := (by have := i32_0; have := i32_1; have := i32_2; have := i32_m1; have := (h_76).1; have := (h_76).2; have := (hz_77).1; have := (hz_77).2; have := (hz_81).1; have := (hz_81).2; have := (hz_85).1; have := (hz_85).2; omega); exact Or.inr ⟨rfl, by unfold ALW; have := i32_0; have := i32_1; have := i32_2; have := i32_m1; have := (h_76).1; have := (h_76).2; have := (hz_77).1; have := (hz_77).2; have := (hz_81).1; have := (hz_81).2; have := (hz_85).1; have := (hz_85).2; omega⟩)) _ _ _ hP hD hS (lv_sub hl [0, 1, 2] rfl)
        · have h_88 : iv 0 0 z_85 := iv_eq c_86 hz_85 (iv_k (by decide) : iv 0 0 0) (by decide)
          exact hj230 h_76 (by have := i32_0; have := i32_1; have := i32_2; have := i32_m1; have := (h_76).1; have := (h_76).2; have := (hz_77).1; have := (hz_77).2; have := (hz_81).1; have := (hz_81).2; have := (h_88).1; have := (h_88).2; omega) (by have := i32_0; have := i32_1; have := i32_2; have := i32_m1; have := (h_76).1; have := (h_76).2; have := (hz_77).1; have := (hz_77).2; have := (hz_81).1; have := (hz_81).2; have := (h_88).1; have := (h_88).2; omega) _ _ _ hP hD hS (lv_sub hl [0, 1, 2] rfl)
  by_cases c_89 : (x : Int32).toInt = 6
  · refine lv_tableIn (tgt := 272) hx hb dX13_isAllowed_1 (by rw [c_89]; decide) (by rw [c_89]; decide) (by rw [c_89]; rfl) (by decide) ?_
    have h_90 : iv 6 6 x := iv_at c_89
    exact hj272 ((by unfold ALW; have := i32_0; have := i32_1; have := i32_2; have := i32_m1; have := (h_90).1; have := (h_90).2; omega)) _ _ _ hP hD hS (lv_sub hl [0, 1, 2] rfl)
  by_cases c_91 : (x : Int32).toInt = 7
  · refine lv_tableIn (tgt := 272) hx hb dX13_isAllowed_1 (by rw [c_91]; decide) (by rw [c_91]; decide) (by rw [c_91]; rfl) (by decide) ?_
    have h_92 : iv 7 7 x := iv_at c_91
    exact hj272 ((by unfold ALW; have := i32_0; have := i32_1; have := i32_2; have := i32_m1; have := (h_92).1; have := (h_92).2; omega)) _ _ _ hP hD hS (lv_sub hl [0, 1, 2] rfl)
  by_cases c_93 : (x : Int32).toInt = 8
  · refine lv_tableIn (tgt := 236) hx hb dX13_isAllowed_1 (by rw [c_93]; decide) (by rw [c_93]; decide) (by rw [c_93]; rfl) (by decide) ?_
    have h_94 : iv 8 8 x := iv_at c_93
    refine lv_lload_n hx hb dX13_isAllowed_236 rfl (lv_at hl 2 rfl) ?_
    refine lv_ldc2 (own := RX13) (v := 1650811246) hx hb hown (htb _ kw_136) dX13_isAllowed_237 ?_
    refine W.lcmp hx hb dX13_isAllowed_240 ?_
    refine lv_topi (fun z_95 ez_95 => ?_)
    have hz_95 : iv (-1) 1 z_95 := iv_of ez_95 (iv_cmp _ _)
    have hl_z_95 := lg_tr7 ez_95
    rw [show (1650811246 : Int64).toInt = 1650811246 from by decide] at hl_z_95
    refine lv_if_ne (tgt := 248) hx hb dX13_isAllowed_241 (by decide) (fun c_96 => ?_) (fun c_96 => ?_)
    · have d_97 : ¬ (z_95 : Int32).toInt = 0 := lv_neT c_96 rfl
      refine lv_iconst (v := 0) hx hb dX13_isAllowed_248 (by decide) ?_
      exact hj249 0 h_94 (iv_w (iv_k (by decide) : iv 0 0 0) (by decide)) ((by have hk9 : x.toInt = 8 := (by have := i32_0; have := i32_1; have := i32_2; have := i32_m1; have := (h_94).1; have := (h_94).2; have := (hz_95).1; have := (hz_95).2; omega); exact Or.inr ⟨rfl, by unfold ALW; have := i32_0; have := i32_1; have := i32_2; have := i32_m1; have := (h_94).1; have := (h_94).2; have := (hz_95).1; have := (hz_95).2; omega⟩)) _ _ _ hP hD hS (lv_sub hl [0, 1, 2] rfl)
    · have h_98 : iv 0 0 z_95 := iv_eq c_96 hz_95 (iv_k (by decide) : iv 0 0 0) (by decide)
      refine lv_iconst (v := 1) hx hb dX13_isAllowed_244 (by decide) ?_
      refine lv_goto (tgt := 249) hx hb dX13_isAllowed_245 (by decide) ?_
      exact hj249 1 h_94 (iv_w (iv_k (by decide) : iv 1 1 1) (by decide)) ((by have hk9 : x.toInt = 8 := (by have := i32_0; have := i32_1; have := i32_2; have := i32_m1; have := (h_94).1; have := (h_94).2; have := (h_98).1; have := (h_98).2; omega); exact Or.inl ⟨rfl, Or.inr (Or.inr (Or.inr (Or.inr (Or.inl ⟨hk9, (by have := i32_0; have := i32_1; have := i32_2; have := i32_m1; have := (h_94).1; have := (h_94).2; have := (h_98).1; have := (h_98).2; omega)⟩))))⟩)) _ _ _ hP hD hS (lv_sub hl [0, 1, 2] rfl)
  by_cases c_99 : (x : Int32).toInt = 9
  · refine lv_tableIn (tgt := 272) hx hb dX13_isAllowed_1 (by rw [c_99]; decide) (by rw [c_99]; decide) (by rw [c_99]; rfl) (by decide) ?_
    have h_100 : iv 9 9 x := iv_at c_99
    exact hj272 ((by unfold ALW; have := i32_0; have := i32_1; have := i32_2; have := i32_m1; have := (h_100).1; have := (h_100).2; omega)) _ _ _ hP hD hS (lv_sub hl [0, 1, 2] rfl)
  by_cases c_101 : (x : Int32).toInt = 10
  · refine lv_tableIn (tgt := 250) hx hb dX13_isAllowed_1 (by rw [c_101]; decide) (by rw [c_101]; decide) (by rw [c_101]; rfl) (by decide) ?_
    have h_102 : iv 10 10 x := iv_at c_101
    refine lv_lload_n hx hb dX13_isAllowed_250 rfl (lv_at hl 2 rfl) ?_
    refine lv_ldc2 (own := RX13) (v := 1851878757) hx hb hown (htb _ kw_887) dX13_isAllowed_251 ?_
    refine W.lcmp hx hb dX13_isAllowed_254 ?_
    refine lv_topi (fun z_103 ez_103 => ?_)
    have hz_103 : iv (-1) 1 z_103 := iv_of ez_103 (iv_cmp _ _)
    have hl_z_103 := lg_tr7 ez_103
    rw [show (1851878757 : Int64).toInt = 1851878757 from by decide] at hl_z_103
    refine lv_if_eq (tgt := 266) hx hb dX13_isAllowed_255 (by decide) (fun c_104 => ?_) (fun c_104 => ?_)
    · have h_105 : iv 0 0 z_103 := iv_eq c_104 hz_103 (iv_k (by decide) : iv 0 0 0) (by decide)
      exact hj266 h_102 (by have := i32_0; have := i32_1; have := i32_2; have := i32_m1; have := (h_102).1; have := (h_102).2; have := (h_105).1; have := (h_105).2; omega) (by have := i32_0; have := i32_1; have := i32_2; have := i32_m1; have := (h_102).1; have := (h_102).2; have := (h_105).1; have := (h_105).2; omega) _ _ _ hP hD hS (lv_sub hl [0, 1, 2] rfl)
    · have d_106 : ¬ (z_103 : Int32).toInt = 0 := lv_neT c_104 rfl
      refine lv_lload_n hx hb dX13_isAllowed_258 rfl (lv_at hl 2 rfl) ?_
      refine lv_ldc2 (own := RX13) (v := 1650811246) hx hb hown (htb _ kw_136) dX13_isAllowed_259 ?_
      refine W.lcmp hx hb dX13_isAllowed_262 ?_
      refine lv_topi (fun z_107 ez_107 => ?_)
      have hz_107 : iv (-1) 1 z_107 := iv_of ez_107 (iv_cmp _ _)
      have hl_z_107 := lg_tr7 ez_107
      rw [show (1650811246 : Int64).toInt = 1650811246 from by decide] at hl_z_107
      refine lv_if_ne (tgt := 270) hx hb dX13_isAllowed_263 (by decide) (fun c_108 => ?_) (fun c_108 => ?_)
      · have d_109 : ¬ (z_107 : Int32).toInt = 0 := lv_neT c_108 rfl
        refine lv_iconst (v := 0) hx hb dX13_isAllowed_270 (by decide) ?_
        exact hj271 0 h_102 (iv_w (iv_k (by decide) : iv 0 0 0) (by decide)) ((by have hk9 : x.toInt = 10 := (by have := i32_0; have := i32_1; have := i32_2; have := i32_m1; have := (h_102).1; have := (h_102).2; have := (hz_103).1; have := (hz_103).2; have := (hz_107).1; have := (hz_107).2; omega); exact Or.inr ⟨rfl, by unfold ALW; have := i32_0; have := i32_1; have := i32_2; have := i32_m1; have := (h_102).1; have := (h_102).2; have := (hz_103).1; have := (hz_103).2; have := (hz_107).1; have := (hz_107).2; omega⟩)) _ _ _ hP hD hS (lv_sub hl [0, 1, 2] rfl)
      · have h_110 : iv 0 0 z_107 := iv_eq c_108 hz_107 (iv_k (by decide) : iv 0 0 0) (by decide)
        exact hj266 h_102 (by have := i32_0; have := i32_1; have := i32_2; have := i32_m1; have := (h_102).1; have := (h_102).2; have := (hz_103).1; have := (hz_103).2; have := (h_110).1; have := (h_110).2; omega) (by have := i32_0; have := i32_1; have := i32_2; have := i32_m1; have := (h_102).1; have := (h_102).2; have := (hz_103).1; have := (hz_103).2; have := (h_110).1; have := (h_110).2; omega) _ _ _ hP hD hS (lv_sub hl [0, 1, 2] rfl)
  refine lv_tableOut (tgt := 272) hx hb dX13_isAllowed_1 (by have q1 := ((iv_all x)).1; have q2 := ((iv_all x)).2; omega) (by decide) ?_
  exact hj272 ((by unfold ALW; have := i32_0; have := i32_1; have := i32_2; have := i32_m1; omega)) _ _ _ hP hD hS (lv_sub hl [0, 1, 2] rfl)
